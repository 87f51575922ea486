/-! the class: a person learns -/
def x_pn (ξ : m_S) (p : Nat) (m l i : Int) (tu ti : Int → Int) : m_S := fun k => if k = 1003 then q_us (ξ 1003) p l else if k = 1004 then q_us (ξ 1004) p i else if k = 1005 then q_us (ξ 1005) p m else if k = 20 + p then tu else if k = 26 + p then ti else ξ k
section
variable {ξ : m_S} {p : Nat} {m l i : Int} {tu ti : Int → Int}
theorem x_pn_l : x_pn ξ p m l i tu ti 1003 p = l := by
  show q_us (ξ 1003) p l p = l
  exact q_us_s _ _ _
theorem x_pn_i : x_pn ξ p m l i tu ti 1004 p = i := by
  show q_us (ξ 1004) p i p = i
  exact q_us_s _ _ _
theorem x_pn_m : x_pn ξ p m l i tu ti 1005 p = m := by
  show q_us (ξ 1005) p m p = m
  exact q_us_s _ _ _
theorem x_pn_tu (h5 : p < 5) : x_pn ξ p m l i tu ti (20 + p) = tu := by
  unfold x_pn
  rw [if_neg (by omega), if_neg (by omega), if_neg (by omega), if_pos rfl]
theorem x_pn_ti (h5 : p < 5) : x_pn ξ p m l i tu ti (26 + p) = ti := by
  unfold x_pn
  rw [if_neg (by omega), if_neg (by omega), if_neg (by omega), if_neg (by omega), if_pos rfl]
theorem x_pn_k {k : Nat} (h1 : k ≠ 1003) (h2 : k ≠ 1004) (h3 : k ≠ 1005) (h4 : k ≠ 20 + p) (h5 : k ≠ 26 + p) : x_pn ξ p m l i tu ti k = ξ k := by
  unfold x_pn
  rw [if_neg h1, if_neg h2, if_neg h3, if_neg h4, if_neg h5]
theorem x_pn_8 : x_pn ξ p m l i tu ti 8 = ξ 8 := x_pn_k (by decide) (by decide) (by decide) (by omega) (by omega)
theorem x_pn_9 : x_pn ξ p m l i tu ti 9 = ξ 9 := x_pn_k (by decide) (by decide) (by decide) (by omega) (by omega)
theorem x_pn_1000 (h5 : p < 5) : x_pn ξ p m l i tu ti 1000 = ξ 1000 := x_pn_k (by decide) (by decide) (by decide) (by omega) (by omega)
theorem x_pn_ul (v : Int) : m_u (x_pn ξ p m l i tu ti) 1003 (q_us (x_pn ξ p m l i tu ti 1003) p v) = x_pn ξ p m v i tu ti := by
  funext k
  unfold m_u
  by_cases e : k = 1003
  · subst e
    rw [if_pos rfl]
    show q_us (q_us (ξ 1003) p l) p v = q_us (ξ 1003) p v
    exact q_us_us _ _ _ _
  · rw [if_neg e]
    unfold x_pn
    rw [if_neg e, if_neg e]
theorem x_pn_ui (v : Int) : m_u (x_pn ξ p m l i tu ti) 1004 (q_us (x_pn ξ p m l i tu ti 1004) p v) = x_pn ξ p m l v tu ti := by
  funext k
  unfold m_u
  by_cases e : k = 1004
  · subst e
    rw [if_pos rfl]
    show q_us (q_us (ξ 1004) p i) p v = q_us (ξ 1004) p v
    exact q_us_us _ _ _ _
  · rw [if_neg e]
    unfold x_pn
    rw [if_neg e, if_neg e]
theorem x_pn_um (v : Int) : m_u (x_pn ξ p m l i tu ti) 1005 (q_us (x_pn ξ p m l i tu ti 1005) p v) = x_pn ξ p v l i tu ti := by
  funext k
  unfold m_u
  by_cases e : k = 1005
  · subst e
    rw [if_pos rfl]
    show q_us (q_us (ξ 1005) p m) p v = q_us (ξ 1005) p v
    exact q_us_us _ _ _ _
  · rw [if_neg e]
    unfold x_pn
    rw [if_neg e, if_neg e]
theorem x_pn_utu (h5 : p < 5) (f : Int → Int) : m_u (x_pn ξ p m l i tu ti) (20 + p) f = x_pn ξ p m l i f ti := by
  funext k
  unfold m_u
  by_cases e : k = 20 + p
  · rw [if_pos e, e, x_pn_tu h5]
  · rw [if_neg e]
    unfold x_pn
    rw [if_neg e, if_neg e]
theorem x_pn_uti (h5 : p < 5) (f : Int → Int) : m_u (x_pn ξ p m l i tu ti) (26 + p) f = x_pn ξ p m l i tu f := by
  funext k
  unfold m_u
  by_cases e : k = 26 + p
  · rw [if_pos e, e, x_pn_ti h5]
  · rw [if_neg e]
    unfold x_pn
    rw [if_neg e, if_neg e]
theorem x_pn_id (h5 : p < 5) : x_pn ξ p (ξ 1005 p) (ξ 1003 p) (ξ 1004 p) (ξ (20 + p)) (ξ (26 + p)) = ξ := by
  funext k
  unfold x_pn
  have key : ∀ (f : Int → Int) (i : Int), q_us f i (f i) = f := fun f i => by
    funext j
    unfold q_us
    split
    · rename_i e; rw [e]
    · rfl
  by_cases e1 : k = 1003
  · rw [if_pos e1, e1, key]
  · rw [if_neg e1]
    by_cases e2 : k = 1004
    · rw [if_pos e2, e2, key]
    · rw [if_neg e2]
      by_cases e3 : k = 1005
      · rw [if_pos e3, e3, key]
      · rw [if_neg e3]
        by_cases e4 : k = 20 + p
        · rw [if_pos e4, e4]
        · rw [if_neg e4]
          by_cases e5 : k = 26 + p
          · rw [if_pos e5, e5]
          · rw [if_neg e5]
theorem x_pn_G (hG : x_G ξ) : x_G (x_pn ξ p m l i tu ti) := by
  unfold x_G
  rw [x_pn_8, x_pn_9]
  exact hG
end
/-- the turns t with f t above 0, in their order -/
def z_tk (f b : Int → Int) : Nat → Int → Int
  | 0 => b
  | t + 1 => if 0 < f t then q_us (z_tk f b t) (z_pos f t) t else z_tk f b t
def z_tl (f b : Int → Int) (t : Int) : Int → Int := z_tk f b t.toNat
theorem z_tl_s (f b : Int → Int) {t : Int} (h : 0 ≤ t) : z_tl f b (t + 1) = if 0 < f t then q_us (z_tl f b t) (z_pos f t) t else z_tl f b t := by
  unfold z_tl
  rw [show (t + 1).toNat = t.toNat + 1 by omega]
  show (if 0 < f (t.toNat : Int) then q_us (z_tk f b t.toNat) (z_pos f (t.toNat : Int)) (t.toNat : Int) else z_tk f b t.toNat) = _
  rw [show (t.toNat : Int) = t by omega]
def x_tm (h f : Int → Int) (t : Int) : Int → Int := fun j => if 0 ≤ j ∧ j < t then f j else h j
theorem x_tm_0 (h f : Int → Int) : x_tm h f 0 = h := by
  funext j
  unfold x_tm
  rw [if_neg (by omega)]
theorem x_tm_s (h f : Int → Int) {t : Int} (h0 : 0 ≤ t) : q_us (x_tm h f t) t (f t) = x_tm h f (t + 1) := by
  funext j
  unfold q_us x_tm
  by_cases e : j = t
  · rw [if_pos e, if_pos (by omega), e]
  · rw [if_neg e]
    by_cases h2 : 0 ≤ j ∧ j < t
    · rw [if_pos h2, if_pos (by omega)]
    · rw [if_neg h2, if_neg (by omega)]
def x_ft (ξ : m_S) (p : Nat) (v : Int) : Int → Int := fun t => z_ways (ξ 1000 p) v (ξ 8 0) (ξ 8 1) 0 t
def x_lr (ξ : m_S) (p : Nat) (v t : Int) : m_S := x_pn ξ p v (z_pos (x_ft ξ p v) t) (z_sum (x_ft ξ p v) t) (z_tl (x_ft ξ p v) (ξ (20 + p)) t) (x_tm (ξ (26 + p)) (x_ft ξ p v) t)
theorem x_lr_p {ξ : m_S} {p : Nat} {v t : Int} (h0 : 0 ≤ t) (h : 0 < x_ft ξ p v t) : x_pn ξ p v (z_pos (x_ft ξ p v) t + 1) (z_sum (x_ft ξ p v) t + x_ft ξ p v t) (q_us (z_tl (x_ft ξ p v) (ξ (20 + p)) t) (z_pos (x_ft ξ p v) t) t) (q_us (x_tm (ξ (26 + p)) (x_ft ξ p v) t) t (x_ft ξ p v t)) = x_lr ξ p v (t + 1) := by
  unfold x_lr
  rw [z_pos_s _ h0, if_pos h, z_sum_s _ h0, z_tl_s _ _ h0, if_pos h, x_tm_s _ _ h0]
theorem x_lr_n {ξ : m_S} {p : Nat} {v t : Int} (h0 : 0 ≤ t) (h : ¬ 0 < x_ft ξ p v t) : x_pn ξ p v (z_pos (x_ft ξ p v) t) (z_sum (x_ft ξ p v) t + x_ft ξ p v t) (z_tl (x_ft ξ p v) (ξ (20 + p)) t) (q_us (x_tm (ξ (26 + p)) (x_ft ξ p v) t) t (x_ft ξ p v t)) = x_lr ξ p v (t + 1) := by
  unfold x_lr
  rw [z_pos_s _ h0, if_neg h, Int.add_zero, z_sum_s _ h0, z_tl_s _ _ h0, if_neg h, x_tm_s _ _ h0]
set_option maxRecDepth 20000 in
theorem tX5_learn_0 (w : q_W) (ξ : m_S) (B P : Nat) (g : Int → Option Nat) (p : Nat) (hB : 64 ≤ B) (hP : p < P) (h5 : p < 5) (v : Int) (hv : 1 ≤ v ∧ v ≤ 3) (hG : x_G ξ) (hk : ξ 1000 p = 0) : q_D mX5_learn 3 [.ref (B + p), q_i v] (x_w w ξ B P g) none (x_w w (x_lr ξ p v (ξ 8 2)) B P g) := by
  refine q_T.of (lv := [some (.ref (B + p)), some (q_i v), none]) (by decide) rfl (Nat.le_of_ble_eq_true rfl) ?_
  have hWN := hG.1
  have hW := hG.1.1
  have hN := hG.1.2
  have hS := hG.S
  refine q_Jeq rfl rfl (congrArg (fun z => x_w w z B P g) (x_pn_id (ξ := ξ) h5).symm) ?_
  refine q_aload_n dX5_learn_0 rfl ?_
  refine q_iload_n dX5_learn_1 rfl ?_
  refine q_puti (fs := x_po (x_pn ξ p (ξ 1005 p) (ξ 1003 p) (ξ 1004 p) (ξ (20 + p)) (ξ (26 + p))) p) (pPX5_18 _) (x_pO hB hP) (Nat.le_of_ble_eq_true rfl) dX5_learn_2 ?_
  refine q_Jeq rfl rfl ((x_pO_u (k := 1005) hB hP (by decide) _).trans (congrArg (fun z => x_w w z B P g) (x_pn_um _))) ?_
  refine q_aload_n dX5_learn_5 rfl ?_
  refine q_iconst dX5_learn_6 ?_
  refine q_puti (fs := x_po (x_pn ξ p v (ξ 1003 p) (ξ 1004 p) (ξ (20 + p)) (ξ (26 + p))) p) (pPX5_9 _) (x_pO hB hP) (Nat.le_of_ble_eq_true rfl) dX5_learn_7 ?_
  refine q_Jeq rfl rfl ((x_pO_u (k := 1003) hB hP (by decide) _).trans (congrArg (fun z => x_w w z B P g) (x_pn_ul _))) ?_
  refine q_aload_n dX5_learn_10 rfl ?_
  refine q_iconst dX5_learn_11 ?_
  refine q_puti (fs := x_po (x_pn ξ p v 0 (ξ 1004 p) (ξ (20 + p)) (ξ (26 + p))) p) (pPX5_15 _) (x_pO hB hP) (Nat.le_of_ble_eq_true rfl) dX5_learn_12 ?_
  refine q_Jeq rfl rfl ((x_pO_u (k := 1004) hB hP (by decide) _).trans (congrArg (fun z => x_w w z B P g) (x_pn_ui _))) ?_
  refine q_iconst dX5_learn_15 ?_
  refine q_istore_n (lv' := [some (.ref (B + p)), some (q_i v), some (q_i 0)]) dX5_learn_16 (by decide) rfl ?_
  have L17 : ∀ (m9 : Nat) (t : Int) (ht0 : 0 ≤ t) (ht1 : t ≤ ξ 8 2) (hm9 : ξ 8 2 - t < (m9 : Int)), q_J mX5_learn 3 (fun v' w' => v' = none ∧ w' = (x_w w (x_lr ξ p v (ξ 8 2)) B P g)) 0 0 17 [some (.ref (B + p)), some (q_i v), some (q_i t)] [] (x_w w (x_pn ξ p v (z_pos (x_ft ξ p v) t) (z_sum (x_ft ξ p v) t) (z_tl (x_ft ξ p v) (ξ (20 + p)) t) (x_tm (ξ (26 + p)) (x_ft ξ p v) t)) B P g) := by
    intro m9
    induction m9 with
    | zero => intro t ht0 ht1 hm9; exact absurd hm9 (by omega)
    | succ m9 ih17 =>
      intro t ht0 ht1 hm9
      refine q_iload_n dX5_learn_17 rfl ?_
      refine q_aload_n dX5_learn_18 rfl ?_
      refine q_get (v := .ref 8) (fPX5_21 _) (x_pO hB hP) rfl dX5_learn_19 ?_
      refine q_get (v := q_i (ξ 8 2)) fX5_45_10 rfl (congrArg (fun (z : Int → Int) => some (q_i (z 2))) (show (x_pn ξ p v (z_pos (x_ft ξ p v) t) (z_sum (x_ft ξ p v) t) (z_tl (x_ft ξ p v) (ξ (20 + p)) t) (x_tm (ξ (26 + p)) (x_ft ξ p v) t)) 8 = ξ 8 from x_pn_8)) dX5_learn_22 ?_
      refine q_icmp_ge (tgt := 110) dX5_learn_25 (by decide) ⟨by omega, by omega⟩ ⟨by omega, by omega⟩ (fun h25 => ?_) (fun h25 => ?_)
      · skip
        exact q_vret rfl dX5_learn_110 (⟨rfl, by rw [show t = ξ 8 2 by omega]; rfl⟩)
      · skip
        have hpr := z_pos_r (x_ft ξ p v) ht0
        refine q_iload_n dX5_learn_28 rfl ?_
        refine q_aload_n dX5_learn_29 rfl ?_
        refine q_get (v := .ref (26 + p)) (fPX5_29 _) (x_pO hB hP) rfl dX5_learn_30 ?_
        refine q_alen ((x_ti h5).trans (congrArg (fun z => some (q_ia 216 z)) (x_pn_ti h5))) (by decide) dX5_learn_33 ?_
        refine q_icmp_ge (tgt := 110) dX5_learn_34 (by decide) ⟨by omega, by omega⟩ ⟨by omega, by omega⟩ (fun h34 => False.elim (by omega)) (fun h34 => ?_)
        refine q_aload_n dX5_learn_37 rfl ?_
        refine q_get (v := .ref (26 + p)) (fPX5_29 _) (x_pO hB hP) rfl dX5_learn_38 ?_
        refine q_iload_n dX5_learn_41 rfl ?_
        refine q_aload_n dX5_learn_42 rfl ?_
        refine q_iload_n dX5_learn_43 rfl ?_
        have hk1000 : (x_pn ξ p v (z_pos (x_ft ξ p v) t) (z_sum (x_ft ξ p v) t) (z_tl (x_ft ξ p v) (ξ (20 + p)) t) (x_tm (ξ (26 + p)) (x_ft ξ p v) t)) 1000 p = 0 := (congrArg (fun z => z (p : Int)) (x_pn_1000 h5)).trans hk
        refine q_cV [q_i t] kX5_48_5 (x_pOk hB hP ((congrArg (fun z => z (p : Int)) (x_pn_1000 h5)).trans hk) rfl) (Eq.mp (congrArg (fun z => q_D mX5_countWays 2 [.ref (B + p), q_i t] (x_w w (x_pn ξ p v (z_pos (x_ft ξ p v) t) (z_sum (x_ft ξ p v) t) (z_tl (x_ft ξ p v) (ξ (20 + p)) t) (x_tm (ξ (26 + p)) (x_ft ξ p v) t)) B P g) (some (q_i z)) (x_w w (x_pn ξ p v (z_pos (x_ft ξ p v) t) (z_sum (x_ft ξ p v) t) (z_tl (x_ft ξ p v) (ξ (20 + p)) t) (x_tm (ξ (26 + p)) (x_ft ξ p v) t)) B P g)) (show z_ways 0 ((x_pn ξ p v (z_pos (x_ft ξ p v) t) (z_sum (x_ft ξ p v) t) (z_tl (x_ft ξ p v) (ξ (20 + p)) t) (x_tm (ξ (26 + p)) (x_ft ξ p v) t)) 1005 p) ((x_pn ξ p v (z_pos (x_ft ξ p v) t) (z_sum (x_ft ξ p v) t) (z_tl (x_ft ξ p v) (ξ (20 + p)) t) (x_tm (ξ (26 + p)) (x_ft ξ p v) t)) 8 0) ((x_pn ξ p v (z_pos (x_ft ξ p v) t) (z_sum (x_ft ξ p v) t) (z_tl (x_ft ξ p v) (ξ (20 + p)) t) (x_tm (ξ (26 + p)) (x_ft ξ p v) t)) 8 1) 0 t = x_ft ξ p v t by rw [x_pn_m, x_pn_8]; unfold x_ft; rw [hk])) (tX5_countWays w (x_pn ξ p v (z_pos (x_ft ξ p v) t) (z_sum (x_ft ξ p v) t) (z_tl (x_ft ξ p v) (ξ (20 + p)) t) (x_tm (ξ (26 + p)) (x_ft ξ p v) t)) B P g p hB hP h5 t (by omega) (by rw [x_pn_8]; omega) (x_pn_G hG) (by rw [x_pn_m]; exact hv))) dX5_learn_44 rfl (by decide) (Nat.le_of_ble_eq_true rfl) rfl ?_
        refine q_iast (f := (x_tm (ξ (26 + p)) (x_ft ξ p v) t)) (n9 := 216) ((x_ti h5).trans (congrArg (fun z => some (q_ia 216 z)) (x_pn_ti h5))) (by omega) (by omega) dX5_learn_47 ?_
        refine q_Jeq rfl rfl ((congrArg (fun z => q_up (x_w w z B P g) (26 + p) (q_ia 216 (q_us (x_tm (ξ (26 + p)) (x_ft ξ p v) t) t (x_ft ξ p v t)))) rfl).trans ((x_ti_u h5 _).trans (congrArg (fun z => x_w w z B P g) (x_pn_uti h5 _)))) ?_
        refine q_aload_n dX5_learn_48 rfl ?_
        refine q_dup dX5_learn_49 rfl ?_
        refine q_get (v := q_i (z_sum (x_ft ξ p v) t)) (fPX5_15 _) (x_pO hB hP) (congrArg (fun z => some (q_i z)) x_pn_i) dX5_learn_50 ?_
        refine q_aload_n dX5_learn_53 rfl ?_
        refine q_get (v := .ref (26 + p)) (fPX5_29 _) (x_pO hB hP) rfl dX5_learn_54 ?_
        refine q_iload_n dX5_learn_57 rfl ?_
        refine q_iald (f := (q_us (x_tm (ξ (26 + p)) (x_ft ξ p v) t) t (x_ft ξ p v t))) (n9 := 216) ((x_ti h5).trans (congrArg (fun z => some (q_ia 216 z)) (x_pn_ti h5))) (by omega) (by omega) dX5_learn_58 ?_
        rw [q_us_s]
        refine q_iadd dX5_learn_59 ?_
        refine q_puti (fs := x_po (x_pn ξ p v (z_pos (x_ft ξ p v) t) (z_sum (x_ft ξ p v) t) (z_tl (x_ft ξ p v) (ξ (20 + p)) t) (q_us (x_tm (ξ (26 + p)) (x_ft ξ p v) t) t (x_ft ξ p v t))) p) (pPX5_15 _) (x_pO hB hP) (Nat.le_of_ble_eq_true rfl) dX5_learn_60 ?_
        refine q_Jeq rfl rfl ((x_pO_u (k := 1004) hB hP (by decide) _).trans (congrArg (fun z => x_w w z B P g) (x_pn_ui _))) ?_
        refine q_aload_n dX5_learn_63 rfl ?_
        refine q_get (v := .ref (26 + p)) (fPX5_29 _) (x_pO hB hP) rfl dX5_learn_64 ?_
        refine q_iload_n dX5_learn_67 rfl ?_
        refine q_iald (f := (q_us (x_tm (ξ (26 + p)) (x_ft ξ p v) t) t (x_ft ξ p v t))) (n9 := 216) ((x_ti h5).trans (congrArg (fun z => some (q_ia 216 z)) (x_pn_ti h5))) (by omega) (by omega) dX5_learn_68 ?_
        rw [q_us_s]
        refine q_if_le (tgt := 104) dX5_learn_69 (by decide) ⟨by have := z_ways_r (k := ξ 1000 p) (f := v) (N := ξ 8 1) 0 t hW; unfold x_ft; omega, by have := z_ways_r (k := ξ 1000 p) (f := v) (N := ξ 8 1) 0 t hW; unfold x_ft; omega⟩ (fun h69 => ?_) (fun h69 => ?_)
        · skip
          refine q_iinc (lv' := [some (.ref (B + p)), some (q_i v), some (q_i (t + 1))]) dX5_learn_104 rfl (by decide) rfl ?_
          refine q_goto (tgt := 17) dX5_learn_107 (by decide) ?_
          exact q_Jle (q_le_s (rfl) (q_le_s (rfl) (q_le_s (rfl) (q_le_e _)))) (rfl) (by rw [x_lr_n ht0 (by omega)]; rfl) (ih17 (t + 1) (by omega) (by omega) (by omega))
        · skip
          refine q_aload_n dX5_learn_72 rfl ?_
          refine q_get (v := q_i (z_pos (x_ft ξ p v) t)) (fPX5_9 _) (x_pO hB hP) (congrArg (fun z => some (q_i z)) x_pn_l) dX5_learn_73 ?_
          refine q_aload_n dX5_learn_76 rfl ?_
          refine q_get (v := .ref (20 + p)) (fPX5_25 _) (x_pO hB hP) rfl dX5_learn_77 ?_
          refine q_alen ((x_tu h5).trans (congrArg (fun z => some (q_ia 216 z)) (x_pn_tu h5))) (by decide) dX5_learn_80 ?_
          refine q_icmp_ge (tgt := 104) dX5_learn_81 (by decide) ⟨by omega, by omega⟩ ⟨by omega, by omega⟩ (fun h81 => False.elim (by omega)) (fun h81 => ?_)
          refine q_aload_n dX5_learn_84 rfl ?_
          refine q_get (v := .ref (20 + p)) (fPX5_25 _) (x_pO hB hP) rfl dX5_learn_85 ?_
          refine q_aload_n dX5_learn_88 rfl ?_
          refine q_get (v := q_i (z_pos (x_ft ξ p v) t)) (fPX5_9 _) (x_pO hB hP) (congrArg (fun z => some (q_i z)) x_pn_l) dX5_learn_89 ?_
          refine q_iload_n dX5_learn_92 rfl ?_
          refine q_iast (f := (z_tl (x_ft ξ p v) (ξ (20 + p)) t)) (n9 := 216) ((x_tu h5).trans (congrArg (fun z => some (q_ia 216 z)) (x_pn_tu h5))) (by omega) (by omega) dX5_learn_93 ?_
          refine q_Jeq rfl rfl ((congrArg (fun z => q_up (x_w w z B P g) (20 + p) (q_ia 216 (q_us (z_tl (x_ft ξ p v) (ξ (20 + p)) t) (z_pos (x_ft ξ p v) t) t))) rfl).trans ((x_tu_u h5 _).trans (congrArg (fun z => x_w w z B P g) (x_pn_utu h5 _)))) ?_
          refine q_aload_n dX5_learn_94 rfl ?_
          refine q_dup dX5_learn_95 rfl ?_
          refine q_get (v := q_i (z_pos (x_ft ξ p v) t)) (fPX5_9 _) (x_pO hB hP) (congrArg (fun z => some (q_i z)) x_pn_l) dX5_learn_96 ?_
          refine q_iconst dX5_learn_99 ?_
          refine q_iadd dX5_learn_100 ?_
          refine q_puti (fs := x_po (x_pn ξ p v (z_pos (x_ft ξ p v) t) ((z_sum (x_ft ξ p v) t) + (x_ft ξ p v t)) (q_us (z_tl (x_ft ξ p v) (ξ (20 + p)) t) (z_pos (x_ft ξ p v) t) t) (q_us (x_tm (ξ (26 + p)) (x_ft ξ p v) t) t (x_ft ξ p v t))) p) (pPX5_9 _) (x_pO hB hP) (Nat.le_of_ble_eq_true rfl) dX5_learn_101 ?_
          refine q_Jeq rfl rfl ((x_pO_u (k := 1003) hB hP (by decide) _).trans (congrArg (fun z => x_w w z B P g) (x_pn_ul _))) ?_
          refine q_iinc (lv' := [some (.ref (B + p)), some (q_i v), some (q_i (t + 1))]) dX5_learn_104 rfl (by decide) rfl ?_
          refine q_goto (tgt := 17) dX5_learn_107 (by decide) ?_
          exact q_Jle (q_le_s (rfl) (q_le_s (rfl) (q_le_s (rfl) (q_le_e _)))) (rfl) (by rw [x_lr_p ht0 h69]; rfl) (ih17 (t + 1) (by omega) (by omega) (by omega))
  exact q_Jle (q_le_s (rfl) (q_le_s (rfl) (q_le_s (rfl) (q_le_e _)))) (rfl) (by rw [x_tm_0]; rfl) (L17 ((ξ 8 2 : Int).toNat + 1) 0 (by omega) (by omega) (by omega))
set_option maxRecDepth 20000 in
theorem tX5_learn_1 (w : q_W) (ξ : m_S) (B P : Nat) (g : Int → Option Nat) (p : Nat) (hB : 64 ≤ B) (hP : p < P) (h5 : p < 5) (v : Int) (hv : 1 ≤ v ∧ v ≤ 3) (hG : x_G ξ) (hk : ξ 1000 p = 1) : q_D mX5_learn 3 [.ref (B + p), q_i v] (x_w w ξ B P g) none (x_w w (x_lr ξ p v (ξ 8 2)) B P g) := by
  refine q_T.of (lv := [some (.ref (B + p)), some (q_i v), none]) (by decide) rfl (Nat.le_of_ble_eq_true rfl) ?_
  have hWN := hG.1
  have hW := hG.1.1
  have hN := hG.1.2
  have hS := hG.S
  refine q_Jeq rfl rfl (congrArg (fun z => x_w w z B P g) (x_pn_id (ξ := ξ) h5).symm) ?_
  refine q_aload_n dX5_learn_0 rfl ?_
  refine q_iload_n dX5_learn_1 rfl ?_
  refine q_puti (fs := x_po (x_pn ξ p (ξ 1005 p) (ξ 1003 p) (ξ 1004 p) (ξ (20 + p)) (ξ (26 + p))) p) (pPX5_18 _) (x_pO hB hP) (Nat.le_of_ble_eq_true rfl) dX5_learn_2 ?_
  refine q_Jeq rfl rfl ((x_pO_u (k := 1005) hB hP (by decide) _).trans (congrArg (fun z => x_w w z B P g) (x_pn_um _))) ?_
  refine q_aload_n dX5_learn_5 rfl ?_
  refine q_iconst dX5_learn_6 ?_
  refine q_puti (fs := x_po (x_pn ξ p v (ξ 1003 p) (ξ 1004 p) (ξ (20 + p)) (ξ (26 + p))) p) (pPX5_9 _) (x_pO hB hP) (Nat.le_of_ble_eq_true rfl) dX5_learn_7 ?_
  refine q_Jeq rfl rfl ((x_pO_u (k := 1003) hB hP (by decide) _).trans (congrArg (fun z => x_w w z B P g) (x_pn_ul _))) ?_
  refine q_aload_n dX5_learn_10 rfl ?_
  refine q_iconst dX5_learn_11 ?_
  refine q_puti (fs := x_po (x_pn ξ p v 0 (ξ 1004 p) (ξ (20 + p)) (ξ (26 + p))) p) (pPX5_15 _) (x_pO hB hP) (Nat.le_of_ble_eq_true rfl) dX5_learn_12 ?_
  refine q_Jeq rfl rfl ((x_pO_u (k := 1004) hB hP (by decide) _).trans (congrArg (fun z => x_w w z B P g) (x_pn_ui _))) ?_
  refine q_iconst dX5_learn_15 ?_
  refine q_istore_n (lv' := [some (.ref (B + p)), some (q_i v), some (q_i 0)]) dX5_learn_16 (by decide) rfl ?_
  have L17 : ∀ (m9 : Nat) (t : Int) (ht0 : 0 ≤ t) (ht1 : t ≤ ξ 8 2) (hm9 : ξ 8 2 - t < (m9 : Int)), q_J mX5_learn 3 (fun v' w' => v' = none ∧ w' = (x_w w (x_lr ξ p v (ξ 8 2)) B P g)) 0 0 17 [some (.ref (B + p)), some (q_i v), some (q_i t)] [] (x_w w (x_pn ξ p v (z_pos (x_ft ξ p v) t) (z_sum (x_ft ξ p v) t) (z_tl (x_ft ξ p v) (ξ (20 + p)) t) (x_tm (ξ (26 + p)) (x_ft ξ p v) t)) B P g) := by
    intro m9
    induction m9 with
    | zero => intro t ht0 ht1 hm9; exact absurd hm9 (by omega)
    | succ m9 ih17 =>
      intro t ht0 ht1 hm9
      refine q_iload_n dX5_learn_17 rfl ?_
      refine q_aload_n dX5_learn_18 rfl ?_
      refine q_get (v := .ref 8) (fPX5_21 _) (x_pO hB hP) rfl dX5_learn_19 ?_
      refine q_get (v := q_i (ξ 8 2)) fX5_45_10 rfl (congrArg (fun (z : Int → Int) => some (q_i (z 2))) (show (x_pn ξ p v (z_pos (x_ft ξ p v) t) (z_sum (x_ft ξ p v) t) (z_tl (x_ft ξ p v) (ξ (20 + p)) t) (x_tm (ξ (26 + p)) (x_ft ξ p v) t)) 8 = ξ 8 from x_pn_8)) dX5_learn_22 ?_
      refine q_icmp_ge (tgt := 110) dX5_learn_25 (by decide) ⟨by omega, by omega⟩ ⟨by omega, by omega⟩ (fun h25 => ?_) (fun h25 => ?_)
      · skip
        exact q_vret rfl dX5_learn_110 (⟨rfl, by rw [show t = ξ 8 2 by omega]; rfl⟩)
      · skip
        have hpr := z_pos_r (x_ft ξ p v) ht0
        refine q_iload_n dX5_learn_28 rfl ?_
        refine q_aload_n dX5_learn_29 rfl ?_
        refine q_get (v := .ref (26 + p)) (fPX5_29 _) (x_pO hB hP) rfl dX5_learn_30 ?_
        refine q_alen ((x_ti h5).trans (congrArg (fun z => some (q_ia 216 z)) (x_pn_ti h5))) (by decide) dX5_learn_33 ?_
        refine q_icmp_ge (tgt := 110) dX5_learn_34 (by decide) ⟨by omega, by omega⟩ ⟨by omega, by omega⟩ (fun h34 => False.elim (by omega)) (fun h34 => ?_)
        refine q_aload_n dX5_learn_37 rfl ?_
        refine q_get (v := .ref (26 + p)) (fPX5_29 _) (x_pO hB hP) rfl dX5_learn_38 ?_
        refine q_iload_n dX5_learn_41 rfl ?_
        refine q_aload_n dX5_learn_42 rfl ?_
        refine q_iload_n dX5_learn_43 rfl ?_
        have hk1000 : (x_pn ξ p v (z_pos (x_ft ξ p v) t) (z_sum (x_ft ξ p v) t) (z_tl (x_ft ξ p v) (ξ (20 + p)) t) (x_tm (ξ (26 + p)) (x_ft ξ p v) t)) 1000 p = 1 := (congrArg (fun z => z (p : Int)) (x_pn_1000 h5)).trans hk
        refine q_cU [q_i t] kX5_48_4 (x_pOk hB hP ((congrArg (fun z => z (p : Int)) (x_pn_1000 h5)).trans hk) rfl) (Eq.mp (congrArg (fun z => q_D mX4_countWays 2 [.ref (B + p), q_i t] (x_w w (x_pn ξ p v (z_pos (x_ft ξ p v) t) (z_sum (x_ft ξ p v) t) (z_tl (x_ft ξ p v) (ξ (20 + p)) t) (x_tm (ξ (26 + p)) (x_ft ξ p v) t)) B P g) (some (q_i z)) (x_w w (x_pn ξ p v (z_pos (x_ft ξ p v) t) (z_sum (x_ft ξ p v) t) (z_tl (x_ft ξ p v) (ξ (20 + p)) t) (x_tm (ξ (26 + p)) (x_ft ξ p v) t)) B P g)) (show z_ways 1 ((x_pn ξ p v (z_pos (x_ft ξ p v) t) (z_sum (x_ft ξ p v) t) (z_tl (x_ft ξ p v) (ξ (20 + p)) t) (x_tm (ξ (26 + p)) (x_ft ξ p v) t)) 1005 p) ((x_pn ξ p v (z_pos (x_ft ξ p v) t) (z_sum (x_ft ξ p v) t) (z_tl (x_ft ξ p v) (ξ (20 + p)) t) (x_tm (ξ (26 + p)) (x_ft ξ p v) t)) 8 0) ((x_pn ξ p v (z_pos (x_ft ξ p v) t) (z_sum (x_ft ξ p v) t) (z_tl (x_ft ξ p v) (ξ (20 + p)) t) (x_tm (ξ (26 + p)) (x_ft ξ p v) t)) 8 1) 0 t = x_ft ξ p v t by rw [x_pn_m, x_pn_8]; unfold x_ft; rw [hk])) (tX4_countWays_1 w (x_pn ξ p v (z_pos (x_ft ξ p v) t) (z_sum (x_ft ξ p v) t) (z_tl (x_ft ξ p v) (ξ (20 + p)) t) (x_tm (ξ (26 + p)) (x_ft ξ p v) t)) B P g p hB hP h5 t (by omega) (by rw [x_pn_8]; omega) (x_pn_G hG) (by rw [x_pn_m]; exact hv) hk1000)) dX5_learn_44 rfl (by decide) (Nat.le_of_ble_eq_true rfl) rfl ?_
        refine q_iast (f := (x_tm (ξ (26 + p)) (x_ft ξ p v) t)) (n9 := 216) ((x_ti h5).trans (congrArg (fun z => some (q_ia 216 z)) (x_pn_ti h5))) (by omega) (by omega) dX5_learn_47 ?_
        refine q_Jeq rfl rfl ((congrArg (fun z => q_up (x_w w z B P g) (26 + p) (q_ia 216 (q_us (x_tm (ξ (26 + p)) (x_ft ξ p v) t) t (x_ft ξ p v t)))) rfl).trans ((x_ti_u h5 _).trans (congrArg (fun z => x_w w z B P g) (x_pn_uti h5 _)))) ?_
        refine q_aload_n dX5_learn_48 rfl ?_
        refine q_dup dX5_learn_49 rfl ?_
        refine q_get (v := q_i (z_sum (x_ft ξ p v) t)) (fPX5_15 _) (x_pO hB hP) (congrArg (fun z => some (q_i z)) x_pn_i) dX5_learn_50 ?_
        refine q_aload_n dX5_learn_53 rfl ?_
        refine q_get (v := .ref (26 + p)) (fPX5_29 _) (x_pO hB hP) rfl dX5_learn_54 ?_
        refine q_iload_n dX5_learn_57 rfl ?_
        refine q_iald (f := (q_us (x_tm (ξ (26 + p)) (x_ft ξ p v) t) t (x_ft ξ p v t))) (n9 := 216) ((x_ti h5).trans (congrArg (fun z => some (q_ia 216 z)) (x_pn_ti h5))) (by omega) (by omega) dX5_learn_58 ?_
        rw [q_us_s]
        refine q_iadd dX5_learn_59 ?_
        refine q_puti (fs := x_po (x_pn ξ p v (z_pos (x_ft ξ p v) t) (z_sum (x_ft ξ p v) t) (z_tl (x_ft ξ p v) (ξ (20 + p)) t) (q_us (x_tm (ξ (26 + p)) (x_ft ξ p v) t) t (x_ft ξ p v t))) p) (pPX5_15 _) (x_pO hB hP) (Nat.le_of_ble_eq_true rfl) dX5_learn_60 ?_
        refine q_Jeq rfl rfl ((x_pO_u (k := 1004) hB hP (by decide) _).trans (congrArg (fun z => x_w w z B P g) (x_pn_ui _))) ?_
        refine q_aload_n dX5_learn_63 rfl ?_
        refine q_get (v := .ref (26 + p)) (fPX5_29 _) (x_pO hB hP) rfl dX5_learn_64 ?_
        refine q_iload_n dX5_learn_67 rfl ?_
        refine q_iald (f := (q_us (x_tm (ξ (26 + p)) (x_ft ξ p v) t) t (x_ft ξ p v t))) (n9 := 216) ((x_ti h5).trans (congrArg (fun z => some (q_ia 216 z)) (x_pn_ti h5))) (by omega) (by omega) dX5_learn_68 ?_
        rw [q_us_s]
        refine q_if_le (tgt := 104) dX5_learn_69 (by decide) ⟨by have := z_ways_r (k := ξ 1000 p) (f := v) (N := ξ 8 1) 0 t hW; unfold x_ft; omega, by have := z_ways_r (k := ξ 1000 p) (f := v) (N := ξ 8 1) 0 t hW; unfold x_ft; omega⟩ (fun h69 => ?_) (fun h69 => ?_)
        · skip
          refine q_iinc (lv' := [some (.ref (B + p)), some (q_i v), some (q_i (t + 1))]) dX5_learn_104 rfl (by decide) rfl ?_
          refine q_goto (tgt := 17) dX5_learn_107 (by decide) ?_
          exact q_Jle (q_le_s (rfl) (q_le_s (rfl) (q_le_s (rfl) (q_le_e _)))) (rfl) (by rw [x_lr_n ht0 (by omega)]; rfl) (ih17 (t + 1) (by omega) (by omega) (by omega))
        · skip
          refine q_aload_n dX5_learn_72 rfl ?_
          refine q_get (v := q_i (z_pos (x_ft ξ p v) t)) (fPX5_9 _) (x_pO hB hP) (congrArg (fun z => some (q_i z)) x_pn_l) dX5_learn_73 ?_
          refine q_aload_n dX5_learn_76 rfl ?_
          refine q_get (v := .ref (20 + p)) (fPX5_25 _) (x_pO hB hP) rfl dX5_learn_77 ?_
          refine q_alen ((x_tu h5).trans (congrArg (fun z => some (q_ia 216 z)) (x_pn_tu h5))) (by decide) dX5_learn_80 ?_
          refine q_icmp_ge (tgt := 104) dX5_learn_81 (by decide) ⟨by omega, by omega⟩ ⟨by omega, by omega⟩ (fun h81 => False.elim (by omega)) (fun h81 => ?_)
          refine q_aload_n dX5_learn_84 rfl ?_
          refine q_get (v := .ref (20 + p)) (fPX5_25 _) (x_pO hB hP) rfl dX5_learn_85 ?_
          refine q_aload_n dX5_learn_88 rfl ?_
          refine q_get (v := q_i (z_pos (x_ft ξ p v) t)) (fPX5_9 _) (x_pO hB hP) (congrArg (fun z => some (q_i z)) x_pn_l) dX5_learn_89 ?_
          refine q_iload_n dX5_learn_92 rfl ?_
          refine q_iast (f := (z_tl (x_ft ξ p v) (ξ (20 + p)) t)) (n9 := 216) ((x_tu h5).trans (congrArg (fun z => some (q_ia 216 z)) (x_pn_tu h5))) (by omega) (by omega) dX5_learn_93 ?_
          refine q_Jeq rfl rfl ((congrArg (fun z => q_up (x_w w z B P g) (20 + p) (q_ia 216 (q_us (z_tl (x_ft ξ p v) (ξ (20 + p)) t) (z_pos (x_ft ξ p v) t) t))) rfl).trans ((x_tu_u h5 _).trans (congrArg (fun z => x_w w z B P g) (x_pn_utu h5 _)))) ?_
          refine q_aload_n dX5_learn_94 rfl ?_
          refine q_dup dX5_learn_95 rfl ?_
          refine q_get (v := q_i (z_pos (x_ft ξ p v) t)) (fPX5_9 _) (x_pO hB hP) (congrArg (fun z => some (q_i z)) x_pn_l) dX5_learn_96 ?_
          refine q_iconst dX5_learn_99 ?_
          refine q_iadd dX5_learn_100 ?_
          refine q_puti (fs := x_po (x_pn ξ p v (z_pos (x_ft ξ p v) t) ((z_sum (x_ft ξ p v) t) + (x_ft ξ p v t)) (q_us (z_tl (x_ft ξ p v) (ξ (20 + p)) t) (z_pos (x_ft ξ p v) t) t) (q_us (x_tm (ξ (26 + p)) (x_ft ξ p v) t) t (x_ft ξ p v t))) p) (pPX5_9 _) (x_pO hB hP) (Nat.le_of_ble_eq_true rfl) dX5_learn_101 ?_
          refine q_Jeq rfl rfl ((x_pO_u (k := 1003) hB hP (by decide) _).trans (congrArg (fun z => x_w w z B P g) (x_pn_ul _))) ?_
          refine q_iinc (lv' := [some (.ref (B + p)), some (q_i v), some (q_i (t + 1))]) dX5_learn_104 rfl (by decide) rfl ?_
          refine q_goto (tgt := 17) dX5_learn_107 (by decide) ?_
          exact q_Jle (q_le_s (rfl) (q_le_s (rfl) (q_le_s (rfl) (q_le_e _)))) (rfl) (by rw [x_lr_p ht0 h69]; rfl) (ih17 (t + 1) (by omega) (by omega) (by omega))
  exact q_Jle (q_le_s (rfl) (q_le_s (rfl) (q_le_s (rfl) (q_le_e _)))) (rfl) (by rw [x_tm_0]; rfl) (L17 ((ξ 8 2 : Int).toNat + 1) 0 (by omega) (by omega) (by omega))
set_option maxRecDepth 20000 in
theorem tX5_learn_2 (w : q_W) (ξ : m_S) (B P : Nat) (g : Int → Option Nat) (p : Nat) (hB : 64 ≤ B) (hP : p < P) (h5 : p < 5) (v : Int) (hv : 1 ≤ v ∧ v ≤ 3) (hG : x_G ξ) (hk : ξ 1000 p = 2) : q_D mX5_learn 3 [.ref (B + p), q_i v] (x_w w ξ B P g) none (x_w w (x_lr ξ p v (ξ 8 2)) B P g) := by
  refine q_T.of (lv := [some (.ref (B + p)), some (q_i v), none]) (by decide) rfl (Nat.le_of_ble_eq_true rfl) ?_
  have hWN := hG.1
  have hW := hG.1.1
  have hN := hG.1.2
  have hS := hG.S
  refine q_Jeq rfl rfl (congrArg (fun z => x_w w z B P g) (x_pn_id (ξ := ξ) h5).symm) ?_
  refine q_aload_n dX5_learn_0 rfl ?_
  refine q_iload_n dX5_learn_1 rfl ?_
  refine q_puti (fs := x_po (x_pn ξ p (ξ 1005 p) (ξ 1003 p) (ξ 1004 p) (ξ (20 + p)) (ξ (26 + p))) p) (pPX5_18 _) (x_pO hB hP) (Nat.le_of_ble_eq_true rfl) dX5_learn_2 ?_
  refine q_Jeq rfl rfl ((x_pO_u (k := 1005) hB hP (by decide) _).trans (congrArg (fun z => x_w w z B P g) (x_pn_um _))) ?_
  refine q_aload_n dX5_learn_5 rfl ?_
  refine q_iconst dX5_learn_6 ?_
  refine q_puti (fs := x_po (x_pn ξ p v (ξ 1003 p) (ξ 1004 p) (ξ (20 + p)) (ξ (26 + p))) p) (pPX5_9 _) (x_pO hB hP) (Nat.le_of_ble_eq_true rfl) dX5_learn_7 ?_
  refine q_Jeq rfl rfl ((x_pO_u (k := 1003) hB hP (by decide) _).trans (congrArg (fun z => x_w w z B P g) (x_pn_ul _))) ?_
  refine q_aload_n dX5_learn_10 rfl ?_
  refine q_iconst dX5_learn_11 ?_
  refine q_puti (fs := x_po (x_pn ξ p v 0 (ξ 1004 p) (ξ (20 + p)) (ξ (26 + p))) p) (pPX5_15 _) (x_pO hB hP) (Nat.le_of_ble_eq_true rfl) dX5_learn_12 ?_
  refine q_Jeq rfl rfl ((x_pO_u (k := 1004) hB hP (by decide) _).trans (congrArg (fun z => x_w w z B P g) (x_pn_ui _))) ?_
  refine q_iconst dX5_learn_15 ?_
  refine q_istore_n (lv' := [some (.ref (B + p)), some (q_i v), some (q_i 0)]) dX5_learn_16 (by decide) rfl ?_
  have L17 : ∀ (m9 : Nat) (t : Int) (ht0 : 0 ≤ t) (ht1 : t ≤ ξ 8 2) (hm9 : ξ 8 2 - t < (m9 : Int)), q_J mX5_learn 3 (fun v' w' => v' = none ∧ w' = (x_w w (x_lr ξ p v (ξ 8 2)) B P g)) 0 0 17 [some (.ref (B + p)), some (q_i v), some (q_i t)] [] (x_w w (x_pn ξ p v (z_pos (x_ft ξ p v) t) (z_sum (x_ft ξ p v) t) (z_tl (x_ft ξ p v) (ξ (20 + p)) t) (x_tm (ξ (26 + p)) (x_ft ξ p v) t)) B P g) := by
    intro m9
    induction m9 with
    | zero => intro t ht0 ht1 hm9; exact absurd hm9 (by omega)
    | succ m9 ih17 =>
      intro t ht0 ht1 hm9
      refine q_iload_n dX5_learn_17 rfl ?_
      refine q_aload_n dX5_learn_18 rfl ?_
      refine q_get (v := .ref 8) (fPX5_21 _) (x_pO hB hP) rfl dX5_learn_19 ?_
      refine q_get (v := q_i (ξ 8 2)) fX5_45_10 rfl (congrArg (fun (z : Int → Int) => some (q_i (z 2))) (show (x_pn ξ p v (z_pos (x_ft ξ p v) t) (z_sum (x_ft ξ p v) t) (z_tl (x_ft ξ p v) (ξ (20 + p)) t) (x_tm (ξ (26 + p)) (x_ft ξ p v) t)) 8 = ξ 8 from x_pn_8)) dX5_learn_22 ?_
      refine q_icmp_ge (tgt := 110) dX5_learn_25 (by decide) ⟨by omega, by omega⟩ ⟨by omega, by omega⟩ (fun h25 => ?_) (fun h25 => ?_)
      · skip
        exact q_vret rfl dX5_learn_110 (⟨rfl, by rw [show t = ξ 8 2 by omega]; rfl⟩)
      · skip
        have hpr := z_pos_r (x_ft ξ p v) ht0
        refine q_iload_n dX5_learn_28 rfl ?_
        refine q_aload_n dX5_learn_29 rfl ?_
        refine q_get (v := .ref (26 + p)) (fPX5_29 _) (x_pO hB hP) rfl dX5_learn_30 ?_
        refine q_alen ((x_ti h5).trans (congrArg (fun z => some (q_ia 216 z)) (x_pn_ti h5))) (by decide) dX5_learn_33 ?_
        refine q_icmp_ge (tgt := 110) dX5_learn_34 (by decide) ⟨by omega, by omega⟩ ⟨by omega, by omega⟩ (fun h34 => False.elim (by omega)) (fun h34 => ?_)
        refine q_aload_n dX5_learn_37 rfl ?_
        refine q_get (v := .ref (26 + p)) (fPX5_29 _) (x_pO hB hP) rfl dX5_learn_38 ?_
        refine q_iload_n dX5_learn_41 rfl ?_
        refine q_aload_n dX5_learn_42 rfl ?_
        refine q_iload_n dX5_learn_43 rfl ?_
        have hk1000 : (x_pn ξ p v (z_pos (x_ft ξ p v) t) (z_sum (x_ft ξ p v) t) (z_tl (x_ft ξ p v) (ξ (20 + p)) t) (x_tm (ξ (26 + p)) (x_ft ξ p v) t)) 1000 p = 2 := (congrArg (fun z => z (p : Int)) (x_pn_1000 h5)).trans hk
        refine q_cU [q_i t] kX5_48_1 (x_pOk hB hP ((congrArg (fun z => z (p : Int)) (x_pn_1000 h5)).trans hk) rfl) (Eq.mp (congrArg (fun z => q_D mX1_countWays 2 [.ref (B + p), q_i t] (x_w w (x_pn ξ p v (z_pos (x_ft ξ p v) t) (z_sum (x_ft ξ p v) t) (z_tl (x_ft ξ p v) (ξ (20 + p)) t) (x_tm (ξ (26 + p)) (x_ft ξ p v) t)) B P g) (some (q_i z)) (x_w w (x_pn ξ p v (z_pos (x_ft ξ p v) t) (z_sum (x_ft ξ p v) t) (z_tl (x_ft ξ p v) (ξ (20 + p)) t) (x_tm (ξ (26 + p)) (x_ft ξ p v) t)) B P g)) (show z_ways 2 ((x_pn ξ p v (z_pos (x_ft ξ p v) t) (z_sum (x_ft ξ p v) t) (z_tl (x_ft ξ p v) (ξ (20 + p)) t) (x_tm (ξ (26 + p)) (x_ft ξ p v) t)) 1005 p) ((x_pn ξ p v (z_pos (x_ft ξ p v) t) (z_sum (x_ft ξ p v) t) (z_tl (x_ft ξ p v) (ξ (20 + p)) t) (x_tm (ξ (26 + p)) (x_ft ξ p v) t)) 8 0) ((x_pn ξ p v (z_pos (x_ft ξ p v) t) (z_sum (x_ft ξ p v) t) (z_tl (x_ft ξ p v) (ξ (20 + p)) t) (x_tm (ξ (26 + p)) (x_ft ξ p v) t)) 8 1) 0 t = x_ft ξ p v t by rw [x_pn_m, x_pn_8]; unfold x_ft; rw [hk])) (tX1_countWays w (x_pn ξ p v (z_pos (x_ft ξ p v) t) (z_sum (x_ft ξ p v) t) (z_tl (x_ft ξ p v) (ξ (20 + p)) t) (x_tm (ξ (26 + p)) (x_ft ξ p v) t)) B P g p hB hP h5 t (by omega) (by rw [x_pn_8]; omega) (x_pn_G hG) (by rw [x_pn_m]; exact hv) hk1000)) dX5_learn_44 rfl (by decide) (Nat.le_of_ble_eq_true rfl) rfl ?_
        refine q_iast (f := (x_tm (ξ (26 + p)) (x_ft ξ p v) t)) (n9 := 216) ((x_ti h5).trans (congrArg (fun z => some (q_ia 216 z)) (x_pn_ti h5))) (by omega) (by omega) dX5_learn_47 ?_
        refine q_Jeq rfl rfl ((congrArg (fun z => q_up (x_w w z B P g) (26 + p) (q_ia 216 (q_us (x_tm (ξ (26 + p)) (x_ft ξ p v) t) t (x_ft ξ p v t)))) rfl).trans ((x_ti_u h5 _).trans (congrArg (fun z => x_w w z B P g) (x_pn_uti h5 _)))) ?_
        refine q_aload_n dX5_learn_48 rfl ?_
        refine q_dup dX5_learn_49 rfl ?_
        refine q_get (v := q_i (z_sum (x_ft ξ p v) t)) (fPX5_15 _) (x_pO hB hP) (congrArg (fun z => some (q_i z)) x_pn_i) dX5_learn_50 ?_
        refine q_aload_n dX5_learn_53 rfl ?_
        refine q_get (v := .ref (26 + p)) (fPX5_29 _) (x_pO hB hP) rfl dX5_learn_54 ?_
        refine q_iload_n dX5_learn_57 rfl ?_
        refine q_iald (f := (q_us (x_tm (ξ (26 + p)) (x_ft ξ p v) t) t (x_ft ξ p v t))) (n9 := 216) ((x_ti h5).trans (congrArg (fun z => some (q_ia 216 z)) (x_pn_ti h5))) (by omega) (by omega) dX5_learn_58 ?_
        rw [q_us_s]
        refine q_iadd dX5_learn_59 ?_
        refine q_puti (fs := x_po (x_pn ξ p v (z_pos (x_ft ξ p v) t) (z_sum (x_ft ξ p v) t) (z_tl (x_ft ξ p v) (ξ (20 + p)) t) (q_us (x_tm (ξ (26 + p)) (x_ft ξ p v) t) t (x_ft ξ p v t))) p) (pPX5_15 _) (x_pO hB hP) (Nat.le_of_ble_eq_true rfl) dX5_learn_60 ?_
        refine q_Jeq rfl rfl ((x_pO_u (k := 1004) hB hP (by decide) _).trans (congrArg (fun z => x_w w z B P g) (x_pn_ui _))) ?_
        refine q_aload_n dX5_learn_63 rfl ?_
        refine q_get (v := .ref (26 + p)) (fPX5_29 _) (x_pO hB hP) rfl dX5_learn_64 ?_
        refine q_iload_n dX5_learn_67 rfl ?_
        refine q_iald (f := (q_us (x_tm (ξ (26 + p)) (x_ft ξ p v) t) t (x_ft ξ p v t))) (n9 := 216) ((x_ti h5).trans (congrArg (fun z => some (q_ia 216 z)) (x_pn_ti h5))) (by omega) (by omega) dX5_learn_68 ?_
        rw [q_us_s]
        refine q_if_le (tgt := 104) dX5_learn_69 (by decide) ⟨by have := z_ways_r (k := ξ 1000 p) (f := v) (N := ξ 8 1) 0 t hW; unfold x_ft; omega, by have := z_ways_r (k := ξ 1000 p) (f := v) (N := ξ 8 1) 0 t hW; unfold x_ft; omega⟩ (fun h69 => ?_) (fun h69 => ?_)
        · skip
          refine q_iinc (lv' := [some (.ref (B + p)), some (q_i v), some (q_i (t + 1))]) dX5_learn_104 rfl (by decide) rfl ?_
          refine q_goto (tgt := 17) dX5_learn_107 (by decide) ?_
          exact q_Jle (q_le_s (rfl) (q_le_s (rfl) (q_le_s (rfl) (q_le_e _)))) (rfl) (by rw [x_lr_n ht0 (by omega)]; rfl) (ih17 (t + 1) (by omega) (by omega) (by omega))
        · skip
          refine q_aload_n dX5_learn_72 rfl ?_
          refine q_get (v := q_i (z_pos (x_ft ξ p v) t)) (fPX5_9 _) (x_pO hB hP) (congrArg (fun z => some (q_i z)) x_pn_l) dX5_learn_73 ?_
          refine q_aload_n dX5_learn_76 rfl ?_
          refine q_get (v := .ref (20 + p)) (fPX5_25 _) (x_pO hB hP) rfl dX5_learn_77 ?_
          refine q_alen ((x_tu h5).trans (congrArg (fun z => some (q_ia 216 z)) (x_pn_tu h5))) (by decide) dX5_learn_80 ?_
          refine q_icmp_ge (tgt := 104) dX5_learn_81 (by decide) ⟨by omega, by omega⟩ ⟨by omega, by omega⟩ (fun h81 => False.elim (by omega)) (fun h81 => ?_)
          refine q_aload_n dX5_learn_84 rfl ?_
          refine q_get (v := .ref (20 + p)) (fPX5_25 _) (x_pO hB hP) rfl dX5_learn_85 ?_
          refine q_aload_n dX5_learn_88 rfl ?_
          refine q_get (v := q_i (z_pos (x_ft ξ p v) t)) (fPX5_9 _) (x_pO hB hP) (congrArg (fun z => some (q_i z)) x_pn_l) dX5_learn_89 ?_
          refine q_iload_n dX5_learn_92 rfl ?_
          refine q_iast (f := (z_tl (x_ft ξ p v) (ξ (20 + p)) t)) (n9 := 216) ((x_tu h5).trans (congrArg (fun z => some (q_ia 216 z)) (x_pn_tu h5))) (by omega) (by omega) dX5_learn_93 ?_
          refine q_Jeq rfl rfl ((congrArg (fun z => q_up (x_w w z B P g) (20 + p) (q_ia 216 (q_us (z_tl (x_ft ξ p v) (ξ (20 + p)) t) (z_pos (x_ft ξ p v) t) t))) rfl).trans ((x_tu_u h5 _).trans (congrArg (fun z => x_w w z B P g) (x_pn_utu h5 _)))) ?_
          refine q_aload_n dX5_learn_94 rfl ?_
          refine q_dup dX5_learn_95 rfl ?_
          refine q_get (v := q_i (z_pos (x_ft ξ p v) t)) (fPX5_9 _) (x_pO hB hP) (congrArg (fun z => some (q_i z)) x_pn_l) dX5_learn_96 ?_
          refine q_iconst dX5_learn_99 ?_
          refine q_iadd dX5_learn_100 ?_
          refine q_puti (fs := x_po (x_pn ξ p v (z_pos (x_ft ξ p v) t) ((z_sum (x_ft ξ p v) t) + (x_ft ξ p v t)) (q_us (z_tl (x_ft ξ p v) (ξ (20 + p)) t) (z_pos (x_ft ξ p v) t) t) (q_us (x_tm (ξ (26 + p)) (x_ft ξ p v) t) t (x_ft ξ p v t))) p) (pPX5_9 _) (x_pO hB hP) (Nat.le_of_ble_eq_true rfl) dX5_learn_101 ?_
          refine q_Jeq rfl rfl ((x_pO_u (k := 1003) hB hP (by decide) _).trans (congrArg (fun z => x_w w z B P g) (x_pn_ul _))) ?_
          refine q_iinc (lv' := [some (.ref (B + p)), some (q_i v), some (q_i (t + 1))]) dX5_learn_104 rfl (by decide) rfl ?_
          refine q_goto (tgt := 17) dX5_learn_107 (by decide) ?_
          exact q_Jle (q_le_s (rfl) (q_le_s (rfl) (q_le_s (rfl) (q_le_e _)))) (rfl) (by rw [x_lr_p ht0 h69]; rfl) (ih17 (t + 1) (by omega) (by omega) (by omega))
  exact q_Jle (q_le_s (rfl) (q_le_s (rfl) (q_le_s (rfl) (q_le_e _)))) (rfl) (by rw [x_tm_0]; rfl) (L17 ((ξ 8 2 : Int).toNat + 1) 0 (by omega) (by omega) (by omega))
set_option maxRecDepth 20000 in
theorem tX5_learn_3 (w : q_W) (ξ : m_S) (B P : Nat) (g : Int → Option Nat) (p : Nat) (hB : 64 ≤ B) (hP : p < P) (h5 : p < 5) (v : Int) (hv : 1 ≤ v ∧ v ≤ 3) (hG : x_G ξ) (hk : ξ 1000 p = 3) : q_D mX5_learn 3 [.ref (B + p), q_i v] (x_w w ξ B P g) none (x_w w (x_lr ξ p v (ξ 8 2)) B P g) := by
  refine q_T.of (lv := [some (.ref (B + p)), some (q_i v), none]) (by decide) rfl (Nat.le_of_ble_eq_true rfl) ?_
  have hWN := hG.1
  have hW := hG.1.1
  have hN := hG.1.2
  have hS := hG.S
  refine q_Jeq rfl rfl (congrArg (fun z => x_w w z B P g) (x_pn_id (ξ := ξ) h5).symm) ?_
  refine q_aload_n dX5_learn_0 rfl ?_
  refine q_iload_n dX5_learn_1 rfl ?_
  refine q_puti (fs := x_po (x_pn ξ p (ξ 1005 p) (ξ 1003 p) (ξ 1004 p) (ξ (20 + p)) (ξ (26 + p))) p) (pPX5_18 _) (x_pO hB hP) (Nat.le_of_ble_eq_true rfl) dX5_learn_2 ?_
  refine q_Jeq rfl rfl ((x_pO_u (k := 1005) hB hP (by decide) _).trans (congrArg (fun z => x_w w z B P g) (x_pn_um _))) ?_
  refine q_aload_n dX5_learn_5 rfl ?_
  refine q_iconst dX5_learn_6 ?_
  refine q_puti (fs := x_po (x_pn ξ p v (ξ 1003 p) (ξ 1004 p) (ξ (20 + p)) (ξ (26 + p))) p) (pPX5_9 _) (x_pO hB hP) (Nat.le_of_ble_eq_true rfl) dX5_learn_7 ?_
  refine q_Jeq rfl rfl ((x_pO_u (k := 1003) hB hP (by decide) _).trans (congrArg (fun z => x_w w z B P g) (x_pn_ul _))) ?_
  refine q_aload_n dX5_learn_10 rfl ?_
  refine q_iconst dX5_learn_11 ?_
  refine q_puti (fs := x_po (x_pn ξ p v 0 (ξ 1004 p) (ξ (20 + p)) (ξ (26 + p))) p) (pPX5_15 _) (x_pO hB hP) (Nat.le_of_ble_eq_true rfl) dX5_learn_12 ?_
  refine q_Jeq rfl rfl ((x_pO_u (k := 1004) hB hP (by decide) _).trans (congrArg (fun z => x_w w z B P g) (x_pn_ui _))) ?_
  refine q_iconst dX5_learn_15 ?_
  refine q_istore_n (lv' := [some (.ref (B + p)), some (q_i v), some (q_i 0)]) dX5_learn_16 (by decide) rfl ?_
  have L17 : ∀ (m9 : Nat) (t : Int) (ht0 : 0 ≤ t) (ht1 : t ≤ ξ 8 2) (hm9 : ξ 8 2 - t < (m9 : Int)), q_J mX5_learn 3 (fun v' w' => v' = none ∧ w' = (x_w w (x_lr ξ p v (ξ 8 2)) B P g)) 0 0 17 [some (.ref (B + p)), some (q_i v), some (q_i t)] [] (x_w w (x_pn ξ p v (z_pos (x_ft ξ p v) t) (z_sum (x_ft ξ p v) t) (z_tl (x_ft ξ p v) (ξ (20 + p)) t) (x_tm (ξ (26 + p)) (x_ft ξ p v) t)) B P g) := by
    intro m9
    induction m9 with
    | zero => intro t ht0 ht1 hm9; exact absurd hm9 (by omega)
    | succ m9 ih17 =>
      intro t ht0 ht1 hm9
      refine q_iload_n dX5_learn_17 rfl ?_
      refine q_aload_n dX5_learn_18 rfl ?_
      refine q_get (v := .ref 8) (fPX5_21 _) (x_pO hB hP) rfl dX5_learn_19 ?_
      refine q_get (v := q_i (ξ 8 2)) fX5_45_10 rfl (congrArg (fun (z : Int → Int) => some (q_i (z 2))) (show (x_pn ξ p v (z_pos (x_ft ξ p v) t) (z_sum (x_ft ξ p v) t) (z_tl (x_ft ξ p v) (ξ (20 + p)) t) (x_tm (ξ (26 + p)) (x_ft ξ p v) t)) 8 = ξ 8 from x_pn_8)) dX5_learn_22 ?_
      refine q_icmp_ge (tgt := 110) dX5_learn_25 (by decide) ⟨by omega, by omega⟩ ⟨by omega, by omega⟩ (fun h25 => ?_) (fun h25 => ?_)
      · skip
        exact q_vret rfl dX5_learn_110 (⟨rfl, by rw [show t = ξ 8 2 by omega]; rfl⟩)
      · skip
        have hpr := z_pos_r (x_ft ξ p v) ht0
        refine q_iload_n dX5_learn_28 rfl ?_
        refine q_aload_n dX5_learn_29 rfl ?_
        refine q_get (v := .ref (26 + p)) (fPX5_29 _) (x_pO hB hP) rfl dX5_learn_30 ?_
        refine q_alen ((x_ti h5).trans (congrArg (fun z => some (q_ia 216 z)) (x_pn_ti h5))) (by decide) dX5_learn_33 ?_
        refine q_icmp_ge (tgt := 110) dX5_learn_34 (by decide) ⟨by omega, by omega⟩ ⟨by omega, by omega⟩ (fun h34 => False.elim (by omega)) (fun h34 => ?_)
        refine q_aload_n dX5_learn_37 rfl ?_
        refine q_get (v := .ref (26 + p)) (fPX5_29 _) (x_pO hB hP) rfl dX5_learn_38 ?_
        refine q_iload_n dX5_learn_41 rfl ?_
        refine q_aload_n dX5_learn_42 rfl ?_
        refine q_iload_n dX5_learn_43 rfl ?_
        have hk1000 : (x_pn ξ p v (z_pos (x_ft ξ p v) t) (z_sum (x_ft ξ p v) t) (z_tl (x_ft ξ p v) (ξ (20 + p)) t) (x_tm (ξ (26 + p)) (x_ft ξ p v) t)) 1000 p = 3 := (congrArg (fun z => z (p : Int)) (x_pn_1000 h5)).trans hk
        refine q_cU [q_i t] kX5_48_2 (x_pOk hB hP ((congrArg (fun z => z (p : Int)) (x_pn_1000 h5)).trans hk) rfl) (Eq.mp (congrArg (fun z => q_D mX2_countWays 2 [.ref (B + p), q_i t] (x_w w (x_pn ξ p v (z_pos (x_ft ξ p v) t) (z_sum (x_ft ξ p v) t) (z_tl (x_ft ξ p v) (ξ (20 + p)) t) (x_tm (ξ (26 + p)) (x_ft ξ p v) t)) B P g) (some (q_i z)) (x_w w (x_pn ξ p v (z_pos (x_ft ξ p v) t) (z_sum (x_ft ξ p v) t) (z_tl (x_ft ξ p v) (ξ (20 + p)) t) (x_tm (ξ (26 + p)) (x_ft ξ p v) t)) B P g)) (show z_ways 3 ((x_pn ξ p v (z_pos (x_ft ξ p v) t) (z_sum (x_ft ξ p v) t) (z_tl (x_ft ξ p v) (ξ (20 + p)) t) (x_tm (ξ (26 + p)) (x_ft ξ p v) t)) 1005 p) ((x_pn ξ p v (z_pos (x_ft ξ p v) t) (z_sum (x_ft ξ p v) t) (z_tl (x_ft ξ p v) (ξ (20 + p)) t) (x_tm (ξ (26 + p)) (x_ft ξ p v) t)) 8 0) ((x_pn ξ p v (z_pos (x_ft ξ p v) t) (z_sum (x_ft ξ p v) t) (z_tl (x_ft ξ p v) (ξ (20 + p)) t) (x_tm (ξ (26 + p)) (x_ft ξ p v) t)) 8 1) 0 t = x_ft ξ p v t by rw [x_pn_m, x_pn_8]; unfold x_ft; rw [hk])) (tX2_countWays w (x_pn ξ p v (z_pos (x_ft ξ p v) t) (z_sum (x_ft ξ p v) t) (z_tl (x_ft ξ p v) (ξ (20 + p)) t) (x_tm (ξ (26 + p)) (x_ft ξ p v) t)) B P g p hB hP h5 t (by omega) (by rw [x_pn_8]; omega) (x_pn_G hG) (by rw [x_pn_m]; exact hv))) dX5_learn_44 rfl (by decide) (Nat.le_of_ble_eq_true rfl) rfl ?_
        refine q_iast (f := (x_tm (ξ (26 + p)) (x_ft ξ p v) t)) (n9 := 216) ((x_ti h5).trans (congrArg (fun z => some (q_ia 216 z)) (x_pn_ti h5))) (by omega) (by omega) dX5_learn_47 ?_
        refine q_Jeq rfl rfl ((congrArg (fun z => q_up (x_w w z B P g) (26 + p) (q_ia 216 (q_us (x_tm (ξ (26 + p)) (x_ft ξ p v) t) t (x_ft ξ p v t)))) rfl).trans ((x_ti_u h5 _).trans (congrArg (fun z => x_w w z B P g) (x_pn_uti h5 _)))) ?_
        refine q_aload_n dX5_learn_48 rfl ?_
        refine q_dup dX5_learn_49 rfl ?_
        refine q_get (v := q_i (z_sum (x_ft ξ p v) t)) (fPX5_15 _) (x_pO hB hP) (congrArg (fun z => some (q_i z)) x_pn_i) dX5_learn_50 ?_
        refine q_aload_n dX5_learn_53 rfl ?_
        refine q_get (v := .ref (26 + p)) (fPX5_29 _) (x_pO hB hP) rfl dX5_learn_54 ?_
        refine q_iload_n dX5_learn_57 rfl ?_
        refine q_iald (f := (q_us (x_tm (ξ (26 + p)) (x_ft ξ p v) t) t (x_ft ξ p v t))) (n9 := 216) ((x_ti h5).trans (congrArg (fun z => some (q_ia 216 z)) (x_pn_ti h5))) (by omega) (by omega) dX5_learn_58 ?_
        rw [q_us_s]
        refine q_iadd dX5_learn_59 ?_
        refine q_puti (fs := x_po (x_pn ξ p v (z_pos (x_ft ξ p v) t) (z_sum (x_ft ξ p v) t) (z_tl (x_ft ξ p v) (ξ (20 + p)) t) (q_us (x_tm (ξ (26 + p)) (x_ft ξ p v) t) t (x_ft ξ p v t))) p) (pPX5_15 _) (x_pO hB hP) (Nat.le_of_ble_eq_true rfl) dX5_learn_60 ?_
        refine q_Jeq rfl rfl ((x_pO_u (k := 1004) hB hP (by decide) _).trans (congrArg (fun z => x_w w z B P g) (x_pn_ui _))) ?_
        refine q_aload_n dX5_learn_63 rfl ?_
        refine q_get (v := .ref (26 + p)) (fPX5_29 _) (x_pO hB hP) rfl dX5_learn_64 ?_
        refine q_iload_n dX5_learn_67 rfl ?_
        refine q_iald (f := (q_us (x_tm (ξ (26 + p)) (x_ft ξ p v) t) t (x_ft ξ p v t))) (n9 := 216) ((x_ti h5).trans (congrArg (fun z => some (q_ia 216 z)) (x_pn_ti h5))) (by omega) (by omega) dX5_learn_68 ?_
        rw [q_us_s]
        refine q_if_le (tgt := 104) dX5_learn_69 (by decide) ⟨by have := z_ways_r (k := ξ 1000 p) (f := v) (N := ξ 8 1) 0 t hW; unfold x_ft; omega, by have := z_ways_r (k := ξ 1000 p) (f := v) (N := ξ 8 1) 0 t hW; unfold x_ft; omega⟩ (fun h69 => ?_) (fun h69 => ?_)
        · skip
          refine q_iinc (lv' := [some (.ref (B + p)), some (q_i v), some (q_i (t + 1))]) dX5_learn_104 rfl (by decide) rfl ?_
          refine q_goto (tgt := 17) dX5_learn_107 (by decide) ?_
          exact q_Jle (q_le_s (rfl) (q_le_s (rfl) (q_le_s (rfl) (q_le_e _)))) (rfl) (by rw [x_lr_n ht0 (by omega)]; rfl) (ih17 (t + 1) (by omega) (by omega) (by omega))
        · skip
          refine q_aload_n dX5_learn_72 rfl ?_
          refine q_get (v := q_i (z_pos (x_ft ξ p v) t)) (fPX5_9 _) (x_pO hB hP) (congrArg (fun z => some (q_i z)) x_pn_l) dX5_learn_73 ?_
          refine q_aload_n dX5_learn_76 rfl ?_
          refine q_get (v := .ref (20 + p)) (fPX5_25 _) (x_pO hB hP) rfl dX5_learn_77 ?_
          refine q_alen ((x_tu h5).trans (congrArg (fun z => some (q_ia 216 z)) (x_pn_tu h5))) (by decide) dX5_learn_80 ?_
          refine q_icmp_ge (tgt := 104) dX5_learn_81 (by decide) ⟨by omega, by omega⟩ ⟨by omega, by omega⟩ (fun h81 => False.elim (by omega)) (fun h81 => ?_)
          refine q_aload_n dX5_learn_84 rfl ?_
          refine q_get (v := .ref (20 + p)) (fPX5_25 _) (x_pO hB hP) rfl dX5_learn_85 ?_
          refine q_aload_n dX5_learn_88 rfl ?_
          refine q_get (v := q_i (z_pos (x_ft ξ p v) t)) (fPX5_9 _) (x_pO hB hP) (congrArg (fun z => some (q_i z)) x_pn_l) dX5_learn_89 ?_
          refine q_iload_n dX5_learn_92 rfl ?_
          refine q_iast (f := (z_tl (x_ft ξ p v) (ξ (20 + p)) t)) (n9 := 216) ((x_tu h5).trans (congrArg (fun z => some (q_ia 216 z)) (x_pn_tu h5))) (by omega) (by omega) dX5_learn_93 ?_
          refine q_Jeq rfl rfl ((congrArg (fun z => q_up (x_w w z B P g) (20 + p) (q_ia 216 (q_us (z_tl (x_ft ξ p v) (ξ (20 + p)) t) (z_pos (x_ft ξ p v) t) t))) rfl).trans ((x_tu_u h5 _).trans (congrArg (fun z => x_w w z B P g) (x_pn_utu h5 _)))) ?_
          refine q_aload_n dX5_learn_94 rfl ?_
          refine q_dup dX5_learn_95 rfl ?_
          refine q_get (v := q_i (z_pos (x_ft ξ p v) t)) (fPX5_9 _) (x_pO hB hP) (congrArg (fun z => some (q_i z)) x_pn_l) dX5_learn_96 ?_
          refine q_iconst dX5_learn_99 ?_
          refine q_iadd dX5_learn_100 ?_
          refine q_puti (fs := x_po (x_pn ξ p v (z_pos (x_ft ξ p v) t) ((z_sum (x_ft ξ p v) t) + (x_ft ξ p v t)) (q_us (z_tl (x_ft ξ p v) (ξ (20 + p)) t) (z_pos (x_ft ξ p v) t) t) (q_us (x_tm (ξ (26 + p)) (x_ft ξ p v) t) t (x_ft ξ p v t))) p) (pPX5_9 _) (x_pO hB hP) (Nat.le_of_ble_eq_true rfl) dX5_learn_101 ?_
          refine q_Jeq rfl rfl ((x_pO_u (k := 1003) hB hP (by decide) _).trans (congrArg (fun z => x_w w z B P g) (x_pn_ul _))) ?_
          refine q_iinc (lv' := [some (.ref (B + p)), some (q_i v), some (q_i (t + 1))]) dX5_learn_104 rfl (by decide) rfl ?_
          refine q_goto (tgt := 17) dX5_learn_107 (by decide) ?_
          exact q_Jle (q_le_s (rfl) (q_le_s (rfl) (q_le_s (rfl) (q_le_e _)))) (rfl) (by rw [x_lr_p ht0 h69]; rfl) (ih17 (t + 1) (by omega) (by omega) (by omega))
  exact q_Jle (q_le_s (rfl) (q_le_s (rfl) (q_le_s (rfl) (q_le_e _)))) (rfl) (by rw [x_tm_0]; rfl) (L17 ((ξ 8 2 : Int).toNat + 1) 0 (by omega) (by omega) (by omega))
set_option maxRecDepth 20000 in
theorem tX5_learn_4 (w : q_W) (ξ : m_S) (B P : Nat) (g : Int → Option Nat) (p : Nat) (hB : 64 ≤ B) (hP : p < P) (h5 : p < 5) (v : Int) (hv : 1 ≤ v ∧ v ≤ 3) (hG : x_G ξ) (hk : ξ 1000 p = 4) : q_D mX5_learn 3 [.ref (B + p), q_i v] (x_w w ξ B P g) none (x_w w (x_lr ξ p v (ξ 8 2)) B P g) := by
  refine q_T.of (lv := [some (.ref (B + p)), some (q_i v), none]) (by decide) rfl (Nat.le_of_ble_eq_true rfl) ?_
  have hWN := hG.1
  have hW := hG.1.1
  have hN := hG.1.2
  have hS := hG.S
  refine q_Jeq rfl rfl (congrArg (fun z => x_w w z B P g) (x_pn_id (ξ := ξ) h5).symm) ?_
  refine q_aload_n dX5_learn_0 rfl ?_
  refine q_iload_n dX5_learn_1 rfl ?_
  refine q_puti (fs := x_po (x_pn ξ p (ξ 1005 p) (ξ 1003 p) (ξ 1004 p) (ξ (20 + p)) (ξ (26 + p))) p) (pPX5_18 _) (x_pO hB hP) (Nat.le_of_ble_eq_true rfl) dX5_learn_2 ?_
  refine q_Jeq rfl rfl ((x_pO_u (k := 1005) hB hP (by decide) _).trans (congrArg (fun z => x_w w z B P g) (x_pn_um _))) ?_
  refine q_aload_n dX5_learn_5 rfl ?_
  refine q_iconst dX5_learn_6 ?_
  refine q_puti (fs := x_po (x_pn ξ p v (ξ 1003 p) (ξ 1004 p) (ξ (20 + p)) (ξ (26 + p))) p) (pPX5_9 _) (x_pO hB hP) (Nat.le_of_ble_eq_true rfl) dX5_learn_7 ?_
  refine q_Jeq rfl rfl ((x_pO_u (k := 1003) hB hP (by decide) _).trans (congrArg (fun z => x_w w z B P g) (x_pn_ul _))) ?_
  refine q_aload_n dX5_learn_10 rfl ?_
  refine q_iconst dX5_learn_11 ?_
  refine q_puti (fs := x_po (x_pn ξ p v 0 (ξ 1004 p) (ξ (20 + p)) (ξ (26 + p))) p) (pPX5_15 _) (x_pO hB hP) (Nat.le_of_ble_eq_true rfl) dX5_learn_12 ?_
  refine q_Jeq rfl rfl ((x_pO_u (k := 1004) hB hP (by decide) _).trans (congrArg (fun z => x_w w z B P g) (x_pn_ui _))) ?_
  refine q_iconst dX5_learn_15 ?_
  refine q_istore_n (lv' := [some (.ref (B + p)), some (q_i v), some (q_i 0)]) dX5_learn_16 (by decide) rfl ?_
  have L17 : ∀ (m9 : Nat) (t : Int) (ht0 : 0 ≤ t) (ht1 : t ≤ ξ 8 2) (hm9 : ξ 8 2 - t < (m9 : Int)), q_J mX5_learn 3 (fun v' w' => v' = none ∧ w' = (x_w w (x_lr ξ p v (ξ 8 2)) B P g)) 0 0 17 [some (.ref (B + p)), some (q_i v), some (q_i t)] [] (x_w w (x_pn ξ p v (z_pos (x_ft ξ p v) t) (z_sum (x_ft ξ p v) t) (z_tl (x_ft ξ p v) (ξ (20 + p)) t) (x_tm (ξ (26 + p)) (x_ft ξ p v) t)) B P g) := by
    intro m9
    induction m9 with
    | zero => intro t ht0 ht1 hm9; exact absurd hm9 (by omega)
    | succ m9 ih17 =>
      intro t ht0 ht1 hm9
      refine q_iload_n dX5_learn_17 rfl ?_
      refine q_aload_n dX5_learn_18 rfl ?_
      refine q_get (v := .ref 8) (fPX5_21 _) (x_pO hB hP) rfl dX5_learn_19 ?_
      refine q_get (v := q_i (ξ 8 2)) fX5_45_10 rfl (congrArg (fun (z : Int → Int) => some (q_i (z 2))) (show (x_pn ξ p v (z_pos (x_ft ξ p v) t) (z_sum (x_ft ξ p v) t) (z_tl (x_ft ξ p v) (ξ (20 + p)) t) (x_tm (ξ (26 + p)) (x_ft ξ p v) t)) 8 = ξ 8 from x_pn_8)) dX5_learn_22 ?_
      refine q_icmp_ge (tgt := 110) dX5_learn_25 (by decide) ⟨by omega, by omega⟩ ⟨by omega, by omega⟩ (fun h25 => ?_) (fun h25 => ?_)
      · skip
        exact q_vret rfl dX5_learn_110 (⟨rfl, by rw [show t = ξ 8 2 by omega]; rfl⟩)
      · skip
        have hpr := z_pos_r (x_ft ξ p v) ht0
        refine q_iload_n dX5_learn_28 rfl ?_
        refine q_aload_n dX5_learn_29 rfl ?_
        refine q_get (v := .ref (26 + p)) (fPX5_29 _) (x_pO hB hP) rfl dX5_learn_30 ?_
        refine q_alen ((x_ti h5).trans (congrArg (fun z => some (q_ia 216 z)) (x_pn_ti h5))) (by decide) dX5_learn_33 ?_
        refine q_icmp_ge (tgt := 110) dX5_learn_34 (by decide) ⟨by omega, by omega⟩ ⟨by omega, by omega⟩ (fun h34 => False.elim (by omega)) (fun h34 => ?_)
        refine q_aload_n dX5_learn_37 rfl ?_
        refine q_get (v := .ref (26 + p)) (fPX5_29 _) (x_pO hB hP) rfl dX5_learn_38 ?_
        refine q_iload_n dX5_learn_41 rfl ?_
        refine q_aload_n dX5_learn_42 rfl ?_
        refine q_iload_n dX5_learn_43 rfl ?_
        have hk1000 : (x_pn ξ p v (z_pos (x_ft ξ p v) t) (z_sum (x_ft ξ p v) t) (z_tl (x_ft ξ p v) (ξ (20 + p)) t) (x_tm (ξ (26 + p)) (x_ft ξ p v) t)) 1000 p = 4 := (congrArg (fun z => z (p : Int)) (x_pn_1000 h5)).trans hk
        refine q_cU [q_i t] kX5_48_3 (x_pOk hB hP ((congrArg (fun z => z (p : Int)) (x_pn_1000 h5)).trans hk) rfl) (Eq.mp (congrArg (fun z => q_D mX4_countWays 2 [.ref (B + p), q_i t] (x_w w (x_pn ξ p v (z_pos (x_ft ξ p v) t) (z_sum (x_ft ξ p v) t) (z_tl (x_ft ξ p v) (ξ (20 + p)) t) (x_tm (ξ (26 + p)) (x_ft ξ p v) t)) B P g) (some (q_i z)) (x_w w (x_pn ξ p v (z_pos (x_ft ξ p v) t) (z_sum (x_ft ξ p v) t) (z_tl (x_ft ξ p v) (ξ (20 + p)) t) (x_tm (ξ (26 + p)) (x_ft ξ p v) t)) B P g)) (show z_ways 4 ((x_pn ξ p v (z_pos (x_ft ξ p v) t) (z_sum (x_ft ξ p v) t) (z_tl (x_ft ξ p v) (ξ (20 + p)) t) (x_tm (ξ (26 + p)) (x_ft ξ p v) t)) 1005 p) ((x_pn ξ p v (z_pos (x_ft ξ p v) t) (z_sum (x_ft ξ p v) t) (z_tl (x_ft ξ p v) (ξ (20 + p)) t) (x_tm (ξ (26 + p)) (x_ft ξ p v) t)) 8 0) ((x_pn ξ p v (z_pos (x_ft ξ p v) t) (z_sum (x_ft ξ p v) t) (z_tl (x_ft ξ p v) (ξ (20 + p)) t) (x_tm (ξ (26 + p)) (x_ft ξ p v) t)) 8 1) 0 t = x_ft ξ p v t by rw [x_pn_m, x_pn_8]; unfold x_ft; rw [hk])) (tX4_countWays_4 w (x_pn ξ p v (z_pos (x_ft ξ p v) t) (z_sum (x_ft ξ p v) t) (z_tl (x_ft ξ p v) (ξ (20 + p)) t) (x_tm (ξ (26 + p)) (x_ft ξ p v) t)) B P g p hB hP h5 t (by omega) (by rw [x_pn_8]; omega) (x_pn_G hG) (by rw [x_pn_m]; exact hv) hk1000)) dX5_learn_44 rfl (by decide) (Nat.le_of_ble_eq_true rfl) rfl ?_
        refine q_iast (f := (x_tm (ξ (26 + p)) (x_ft ξ p v) t)) (n9 := 216) ((x_ti h5).trans (congrArg (fun z => some (q_ia 216 z)) (x_pn_ti h5))) (by omega) (by omega) dX5_learn_47 ?_
        refine q_Jeq rfl rfl ((congrArg (fun z => q_up (x_w w z B P g) (26 + p) (q_ia 216 (q_us (x_tm (ξ (26 + p)) (x_ft ξ p v) t) t (x_ft ξ p v t)))) rfl).trans ((x_ti_u h5 _).trans (congrArg (fun z => x_w w z B P g) (x_pn_uti h5 _)))) ?_
        refine q_aload_n dX5_learn_48 rfl ?_
        refine q_dup dX5_learn_49 rfl ?_
        refine q_get (v := q_i (z_sum (x_ft ξ p v) t)) (fPX5_15 _) (x_pO hB hP) (congrArg (fun z => some (q_i z)) x_pn_i) dX5_learn_50 ?_
        refine q_aload_n dX5_learn_53 rfl ?_
        refine q_get (v := .ref (26 + p)) (fPX5_29 _) (x_pO hB hP) rfl dX5_learn_54 ?_
        refine q_iload_n dX5_learn_57 rfl ?_
        refine q_iald (f := (q_us (x_tm (ξ (26 + p)) (x_ft ξ p v) t) t (x_ft ξ p v t))) (n9 := 216) ((x_ti h5).trans (congrArg (fun z => some (q_ia 216 z)) (x_pn_ti h5))) (by omega) (by omega) dX5_learn_58 ?_
        rw [q_us_s]
        refine q_iadd dX5_learn_59 ?_
        refine q_puti (fs := x_po (x_pn ξ p v (z_pos (x_ft ξ p v) t) (z_sum (x_ft ξ p v) t) (z_tl (x_ft ξ p v) (ξ (20 + p)) t) (q_us (x_tm (ξ (26 + p)) (x_ft ξ p v) t) t (x_ft ξ p v t))) p) (pPX5_15 _) (x_pO hB hP) (Nat.le_of_ble_eq_true rfl) dX5_learn_60 ?_
        refine q_Jeq rfl rfl ((x_pO_u (k := 1004) hB hP (by decide) _).trans (congrArg (fun z => x_w w z B P g) (x_pn_ui _))) ?_
        refine q_aload_n dX5_learn_63 rfl ?_
        refine q_get (v := .ref (26 + p)) (fPX5_29 _) (x_pO hB hP) rfl dX5_learn_64 ?_
        refine q_iload_n dX5_learn_67 rfl ?_
        refine q_iald (f := (q_us (x_tm (ξ (26 + p)) (x_ft ξ p v) t) t (x_ft ξ p v t))) (n9 := 216) ((x_ti h5).trans (congrArg (fun z => some (q_ia 216 z)) (x_pn_ti h5))) (by omega) (by omega) dX5_learn_68 ?_
        rw [q_us_s]
        refine q_if_le (tgt := 104) dX5_learn_69 (by decide) ⟨by have := z_ways_r (k := ξ 1000 p) (f := v) (N := ξ 8 1) 0 t hW; unfold x_ft; omega, by have := z_ways_r (k := ξ 1000 p) (f := v) (N := ξ 8 1) 0 t hW; unfold x_ft; omega⟩ (fun h69 => ?_) (fun h69 => ?_)
        · skip
          refine q_iinc (lv' := [some (.ref (B + p)), some (q_i v), some (q_i (t + 1))]) dX5_learn_104 rfl (by decide) rfl ?_
          refine q_goto (tgt := 17) dX5_learn_107 (by decide) ?_
          exact q_Jle (q_le_s (rfl) (q_le_s (rfl) (q_le_s (rfl) (q_le_e _)))) (rfl) (by rw [x_lr_n ht0 (by omega)]; rfl) (ih17 (t + 1) (by omega) (by omega) (by omega))
        · skip
          refine q_aload_n dX5_learn_72 rfl ?_
          refine q_get (v := q_i (z_pos (x_ft ξ p v) t)) (fPX5_9 _) (x_pO hB hP) (congrArg (fun z => some (q_i z)) x_pn_l) dX5_learn_73 ?_
          refine q_aload_n dX5_learn_76 rfl ?_
          refine q_get (v := .ref (20 + p)) (fPX5_25 _) (x_pO hB hP) rfl dX5_learn_77 ?_
          refine q_alen ((x_tu h5).trans (congrArg (fun z => some (q_ia 216 z)) (x_pn_tu h5))) (by decide) dX5_learn_80 ?_
          refine q_icmp_ge (tgt := 104) dX5_learn_81 (by decide) ⟨by omega, by omega⟩ ⟨by omega, by omega⟩ (fun h81 => False.elim (by omega)) (fun h81 => ?_)
          refine q_aload_n dX5_learn_84 rfl ?_
          refine q_get (v := .ref (20 + p)) (fPX5_25 _) (x_pO hB hP) rfl dX5_learn_85 ?_
          refine q_aload_n dX5_learn_88 rfl ?_
          refine q_get (v := q_i (z_pos (x_ft ξ p v) t)) (fPX5_9 _) (x_pO hB hP) (congrArg (fun z => some (q_i z)) x_pn_l) dX5_learn_89 ?_
          refine q_iload_n dX5_learn_92 rfl ?_
          refine q_iast (f := (z_tl (x_ft ξ p v) (ξ (20 + p)) t)) (n9 := 216) ((x_tu h5).trans (congrArg (fun z => some (q_ia 216 z)) (x_pn_tu h5))) (by omega) (by omega) dX5_learn_93 ?_
          refine q_Jeq rfl rfl ((congrArg (fun z => q_up (x_w w z B P g) (20 + p) (q_ia 216 (q_us (z_tl (x_ft ξ p v) (ξ (20 + p)) t) (z_pos (x_ft ξ p v) t) t))) rfl).trans ((x_tu_u h5 _).trans (congrArg (fun z => x_w w z B P g) (x_pn_utu h5 _)))) ?_
          refine q_aload_n dX5_learn_94 rfl ?_
          refine q_dup dX5_learn_95 rfl ?_
          refine q_get (v := q_i (z_pos (x_ft ξ p v) t)) (fPX5_9 _) (x_pO hB hP) (congrArg (fun z => some (q_i z)) x_pn_l) dX5_learn_96 ?_
          refine q_iconst dX5_learn_99 ?_
          refine q_iadd dX5_learn_100 ?_
          refine q_puti (fs := x_po (x_pn ξ p v (z_pos (x_ft ξ p v) t) ((z_sum (x_ft ξ p v) t) + (x_ft ξ p v t)) (q_us (z_tl (x_ft ξ p v) (ξ (20 + p)) t) (z_pos (x_ft ξ p v) t) t) (q_us (x_tm (ξ (26 + p)) (x_ft ξ p v) t) t (x_ft ξ p v t))) p) (pPX5_9 _) (x_pO hB hP) (Nat.le_of_ble_eq_true rfl) dX5_learn_101 ?_
          refine q_Jeq rfl rfl ((x_pO_u (k := 1003) hB hP (by decide) _).trans (congrArg (fun z => x_w w z B P g) (x_pn_ul _))) ?_
          refine q_iinc (lv' := [some (.ref (B + p)), some (q_i v), some (q_i (t + 1))]) dX5_learn_104 rfl (by decide) rfl ?_
          refine q_goto (tgt := 17) dX5_learn_107 (by decide) ?_
          exact q_Jle (q_le_s (rfl) (q_le_s (rfl) (q_le_s (rfl) (q_le_e _)))) (rfl) (by rw [x_lr_p ht0 h69]; rfl) (ih17 (t + 1) (by omega) (by omega) (by omega))
  exact q_Jle (q_le_s (rfl) (q_le_s (rfl) (q_le_s (rfl) (q_le_e _)))) (rfl) (by rw [x_tm_0]; rfl) (L17 ((ξ 8 2 : Int).toNat + 1) 0 (by omega) (by omega) (by omega))
set_option maxRecDepth 20000 in
theorem tX5_learn_5 (w : q_W) (ξ : m_S) (B P : Nat) (g : Int → Option Nat) (p : Nat) (hB : 64 ≤ B) (hP : p < P) (h5 : p < 5) (v : Int) (hv : 1 ≤ v ∧ v ≤ 3) (hG : x_G ξ) (hk : ξ 1000 p = 5) : q_D mX5_learn 3 [.ref (B + p), q_i v] (x_w w ξ B P g) none (x_w w (x_lr ξ p v (ξ 8 2)) B P g) := by
  refine q_T.of (lv := [some (.ref (B + p)), some (q_i v), none]) (by decide) rfl (Nat.le_of_ble_eq_true rfl) ?_
  have hWN := hG.1
  have hW := hG.1.1
  have hN := hG.1.2
  have hS := hG.S
  refine q_Jeq rfl rfl (congrArg (fun z => x_w w z B P g) (x_pn_id (ξ := ξ) h5).symm) ?_
  refine q_aload_n dX5_learn_0 rfl ?_
  refine q_iload_n dX5_learn_1 rfl ?_
  refine q_puti (fs := x_po (x_pn ξ p (ξ 1005 p) (ξ 1003 p) (ξ 1004 p) (ξ (20 + p)) (ξ (26 + p))) p) (pPX5_18 _) (x_pO hB hP) (Nat.le_of_ble_eq_true rfl) dX5_learn_2 ?_
  refine q_Jeq rfl rfl ((x_pO_u (k := 1005) hB hP (by decide) _).trans (congrArg (fun z => x_w w z B P g) (x_pn_um _))) ?_
  refine q_aload_n dX5_learn_5 rfl ?_
  refine q_iconst dX5_learn_6 ?_
  refine q_puti (fs := x_po (x_pn ξ p v (ξ 1003 p) (ξ 1004 p) (ξ (20 + p)) (ξ (26 + p))) p) (pPX5_9 _) (x_pO hB hP) (Nat.le_of_ble_eq_true rfl) dX5_learn_7 ?_
  refine q_Jeq rfl rfl ((x_pO_u (k := 1003) hB hP (by decide) _).trans (congrArg (fun z => x_w w z B P g) (x_pn_ul _))) ?_
  refine q_aload_n dX5_learn_10 rfl ?_
  refine q_iconst dX5_learn_11 ?_
  refine q_puti (fs := x_po (x_pn ξ p v 0 (ξ 1004 p) (ξ (20 + p)) (ξ (26 + p))) p) (pPX5_15 _) (x_pO hB hP) (Nat.le_of_ble_eq_true rfl) dX5_learn_12 ?_
  refine q_Jeq rfl rfl ((x_pO_u (k := 1004) hB hP (by decide) _).trans (congrArg (fun z => x_w w z B P g) (x_pn_ui _))) ?_
  refine q_iconst dX5_learn_15 ?_
  refine q_istore_n (lv' := [some (.ref (B + p)), some (q_i v), some (q_i 0)]) dX5_learn_16 (by decide) rfl ?_
  have L17 : ∀ (m9 : Nat) (t : Int) (ht0 : 0 ≤ t) (ht1 : t ≤ ξ 8 2) (hm9 : ξ 8 2 - t < (m9 : Int)), q_J mX5_learn 3 (fun v' w' => v' = none ∧ w' = (x_w w (x_lr ξ p v (ξ 8 2)) B P g)) 0 0 17 [some (.ref (B + p)), some (q_i v), some (q_i t)] [] (x_w w (x_pn ξ p v (z_pos (x_ft ξ p v) t) (z_sum (x_ft ξ p v) t) (z_tl (x_ft ξ p v) (ξ (20 + p)) t) (x_tm (ξ (26 + p)) (x_ft ξ p v) t)) B P g) := by
    intro m9
    induction m9 with
    | zero => intro t ht0 ht1 hm9; exact absurd hm9 (by omega)
    | succ m9 ih17 =>
      intro t ht0 ht1 hm9
      refine q_iload_n dX5_learn_17 rfl ?_
      refine q_aload_n dX5_learn_18 rfl ?_
      refine q_get (v := .ref 8) (fPX5_21 _) (x_pO hB hP) rfl dX5_learn_19 ?_
      refine q_get (v := q_i (ξ 8 2)) fX5_45_10 rfl (congrArg (fun (z : Int → Int) => some (q_i (z 2))) (show (x_pn ξ p v (z_pos (x_ft ξ p v) t) (z_sum (x_ft ξ p v) t) (z_tl (x_ft ξ p v) (ξ (20 + p)) t) (x_tm (ξ (26 + p)) (x_ft ξ p v) t)) 8 = ξ 8 from x_pn_8)) dX5_learn_22 ?_
      refine q_icmp_ge (tgt := 110) dX5_learn_25 (by decide) ⟨by omega, by omega⟩ ⟨by omega, by omega⟩ (fun h25 => ?_) (fun h25 => ?_)
      · skip
        exact q_vret rfl dX5_learn_110 (⟨rfl, by rw [show t = ξ 8 2 by omega]; rfl⟩)
      · skip
        have hpr := z_pos_r (x_ft ξ p v) ht0
        refine q_iload_n dX5_learn_28 rfl ?_
        refine q_aload_n dX5_learn_29 rfl ?_
        refine q_get (v := .ref (26 + p)) (fPX5_29 _) (x_pO hB hP) rfl dX5_learn_30 ?_
        refine q_alen ((x_ti h5).trans (congrArg (fun z => some (q_ia 216 z)) (x_pn_ti h5))) (by decide) dX5_learn_33 ?_
        refine q_icmp_ge (tgt := 110) dX5_learn_34 (by decide) ⟨by omega, by omega⟩ ⟨by omega, by omega⟩ (fun h34 => False.elim (by omega)) (fun h34 => ?_)
        refine q_aload_n dX5_learn_37 rfl ?_
        refine q_get (v := .ref (26 + p)) (fPX5_29 _) (x_pO hB hP) rfl dX5_learn_38 ?_
        refine q_iload_n dX5_learn_41 rfl ?_
        refine q_aload_n dX5_learn_42 rfl ?_
        refine q_iload_n dX5_learn_43 rfl ?_
        have hk1000 : (x_pn ξ p v (z_pos (x_ft ξ p v) t) (z_sum (x_ft ξ p v) t) (z_tl (x_ft ξ p v) (ξ (20 + p)) t) (x_tm (ξ (26 + p)) (x_ft ξ p v) t)) 1000 p = 5 := (congrArg (fun z => z (p : Int)) (x_pn_1000 h5)).trans hk
        refine q_cU [q_i t] kX5_48_0 (x_pOk hB hP ((congrArg (fun z => z (p : Int)) (x_pn_1000 h5)).trans hk) rfl) (Eq.mp (congrArg (fun z => q_D mX0_countWays 2 [.ref (B + p), q_i t] (x_w w (x_pn ξ p v (z_pos (x_ft ξ p v) t) (z_sum (x_ft ξ p v) t) (z_tl (x_ft ξ p v) (ξ (20 + p)) t) (x_tm (ξ (26 + p)) (x_ft ξ p v) t)) B P g) (some (q_i z)) (x_w w (x_pn ξ p v (z_pos (x_ft ξ p v) t) (z_sum (x_ft ξ p v) t) (z_tl (x_ft ξ p v) (ξ (20 + p)) t) (x_tm (ξ (26 + p)) (x_ft ξ p v) t)) B P g)) (show z_ways 5 ((x_pn ξ p v (z_pos (x_ft ξ p v) t) (z_sum (x_ft ξ p v) t) (z_tl (x_ft ξ p v) (ξ (20 + p)) t) (x_tm (ξ (26 + p)) (x_ft ξ p v) t)) 1005 p) ((x_pn ξ p v (z_pos (x_ft ξ p v) t) (z_sum (x_ft ξ p v) t) (z_tl (x_ft ξ p v) (ξ (20 + p)) t) (x_tm (ξ (26 + p)) (x_ft ξ p v) t)) 8 0) ((x_pn ξ p v (z_pos (x_ft ξ p v) t) (z_sum (x_ft ξ p v) t) (z_tl (x_ft ξ p v) (ξ (20 + p)) t) (x_tm (ξ (26 + p)) (x_ft ξ p v) t)) 8 1) 0 t = x_ft ξ p v t by rw [x_pn_m, x_pn_8]; unfold x_ft; rw [hk])) (tX0_countWays w (x_pn ξ p v (z_pos (x_ft ξ p v) t) (z_sum (x_ft ξ p v) t) (z_tl (x_ft ξ p v) (ξ (20 + p)) t) (x_tm (ξ (26 + p)) (x_ft ξ p v) t)) B P g p hB hP h5 t (by omega) (by rw [x_pn_8]; omega) (x_pn_G hG) (by rw [x_pn_m]; exact hv) hk1000)) dX5_learn_44 rfl (by decide) (Nat.le_of_ble_eq_true rfl) rfl ?_
        refine q_iast (f := (x_tm (ξ (26 + p)) (x_ft ξ p v) t)) (n9 := 216) ((x_ti h5).trans (congrArg (fun z => some (q_ia 216 z)) (x_pn_ti h5))) (by omega) (by omega) dX5_learn_47 ?_
        refine q_Jeq rfl rfl ((congrArg (fun z => q_up (x_w w z B P g) (26 + p) (q_ia 216 (q_us (x_tm (ξ (26 + p)) (x_ft ξ p v) t) t (x_ft ξ p v t)))) rfl).trans ((x_ti_u h5 _).trans (congrArg (fun z => x_w w z B P g) (x_pn_uti h5 _)))) ?_
        refine q_aload_n dX5_learn_48 rfl ?_
        refine q_dup dX5_learn_49 rfl ?_
        refine q_get (v := q_i (z_sum (x_ft ξ p v) t)) (fPX5_15 _) (x_pO hB hP) (congrArg (fun z => some (q_i z)) x_pn_i) dX5_learn_50 ?_
        refine q_aload_n dX5_learn_53 rfl ?_
        refine q_get (v := .ref (26 + p)) (fPX5_29 _) (x_pO hB hP) rfl dX5_learn_54 ?_
        refine q_iload_n dX5_learn_57 rfl ?_
        refine q_iald (f := (q_us (x_tm (ξ (26 + p)) (x_ft ξ p v) t) t (x_ft ξ p v t))) (n9 := 216) ((x_ti h5).trans (congrArg (fun z => some (q_ia 216 z)) (x_pn_ti h5))) (by omega) (by omega) dX5_learn_58 ?_
        rw [q_us_s]
        refine q_iadd dX5_learn_59 ?_
        refine q_puti (fs := x_po (x_pn ξ p v (z_pos (x_ft ξ p v) t) (z_sum (x_ft ξ p v) t) (z_tl (x_ft ξ p v) (ξ (20 + p)) t) (q_us (x_tm (ξ (26 + p)) (x_ft ξ p v) t) t (x_ft ξ p v t))) p) (pPX5_15 _) (x_pO hB hP) (Nat.le_of_ble_eq_true rfl) dX5_learn_60 ?_
        refine q_Jeq rfl rfl ((x_pO_u (k := 1004) hB hP (by decide) _).trans (congrArg (fun z => x_w w z B P g) (x_pn_ui _))) ?_
        refine q_aload_n dX5_learn_63 rfl ?_
        refine q_get (v := .ref (26 + p)) (fPX5_29 _) (x_pO hB hP) rfl dX5_learn_64 ?_
        refine q_iload_n dX5_learn_67 rfl ?_
        refine q_iald (f := (q_us (x_tm (ξ (26 + p)) (x_ft ξ p v) t) t (x_ft ξ p v t))) (n9 := 216) ((x_ti h5).trans (congrArg (fun z => some (q_ia 216 z)) (x_pn_ti h5))) (by omega) (by omega) dX5_learn_68 ?_
        rw [q_us_s]
        refine q_if_le (tgt := 104) dX5_learn_69 (by decide) ⟨by have := z_ways_r (k := ξ 1000 p) (f := v) (N := ξ 8 1) 0 t hW; unfold x_ft; omega, by have := z_ways_r (k := ξ 1000 p) (f := v) (N := ξ 8 1) 0 t hW; unfold x_ft; omega⟩ (fun h69 => ?_) (fun h69 => ?_)
        · skip
          refine q_iinc (lv' := [some (.ref (B + p)), some (q_i v), some (q_i (t + 1))]) dX5_learn_104 rfl (by decide) rfl ?_
          refine q_goto (tgt := 17) dX5_learn_107 (by decide) ?_
          exact q_Jle (q_le_s (rfl) (q_le_s (rfl) (q_le_s (rfl) (q_le_e _)))) (rfl) (by rw [x_lr_n ht0 (by omega)]; rfl) (ih17 (t + 1) (by omega) (by omega) (by omega))
        · skip
          refine q_aload_n dX5_learn_72 rfl ?_
          refine q_get (v := q_i (z_pos (x_ft ξ p v) t)) (fPX5_9 _) (x_pO hB hP) (congrArg (fun z => some (q_i z)) x_pn_l) dX5_learn_73 ?_
          refine q_aload_n dX5_learn_76 rfl ?_
          refine q_get (v := .ref (20 + p)) (fPX5_25 _) (x_pO hB hP) rfl dX5_learn_77 ?_
          refine q_alen ((x_tu h5).trans (congrArg (fun z => some (q_ia 216 z)) (x_pn_tu h5))) (by decide) dX5_learn_80 ?_
          refine q_icmp_ge (tgt := 104) dX5_learn_81 (by decide) ⟨by omega, by omega⟩ ⟨by omega, by omega⟩ (fun h81 => False.elim (by omega)) (fun h81 => ?_)
          refine q_aload_n dX5_learn_84 rfl ?_
          refine q_get (v := .ref (20 + p)) (fPX5_25 _) (x_pO hB hP) rfl dX5_learn_85 ?_
          refine q_aload_n dX5_learn_88 rfl ?_
          refine q_get (v := q_i (z_pos (x_ft ξ p v) t)) (fPX5_9 _) (x_pO hB hP) (congrArg (fun z => some (q_i z)) x_pn_l) dX5_learn_89 ?_
          refine q_iload_n dX5_learn_92 rfl ?_
          refine q_iast (f := (z_tl (x_ft ξ p v) (ξ (20 + p)) t)) (n9 := 216) ((x_tu h5).trans (congrArg (fun z => some (q_ia 216 z)) (x_pn_tu h5))) (by omega) (by omega) dX5_learn_93 ?_
          refine q_Jeq rfl rfl ((congrArg (fun z => q_up (x_w w z B P g) (20 + p) (q_ia 216 (q_us (z_tl (x_ft ξ p v) (ξ (20 + p)) t) (z_pos (x_ft ξ p v) t) t))) rfl).trans ((x_tu_u h5 _).trans (congrArg (fun z => x_w w z B P g) (x_pn_utu h5 _)))) ?_
          refine q_aload_n dX5_learn_94 rfl ?_
          refine q_dup dX5_learn_95 rfl ?_
          refine q_get (v := q_i (z_pos (x_ft ξ p v) t)) (fPX5_9 _) (x_pO hB hP) (congrArg (fun z => some (q_i z)) x_pn_l) dX5_learn_96 ?_
          refine q_iconst dX5_learn_99 ?_
          refine q_iadd dX5_learn_100 ?_
          refine q_puti (fs := x_po (x_pn ξ p v (z_pos (x_ft ξ p v) t) ((z_sum (x_ft ξ p v) t) + (x_ft ξ p v t)) (q_us (z_tl (x_ft ξ p v) (ξ (20 + p)) t) (z_pos (x_ft ξ p v) t) t) (q_us (x_tm (ξ (26 + p)) (x_ft ξ p v) t) t (x_ft ξ p v t))) p) (pPX5_9 _) (x_pO hB hP) (Nat.le_of_ble_eq_true rfl) dX5_learn_101 ?_
          refine q_Jeq rfl rfl ((x_pO_u (k := 1003) hB hP (by decide) _).trans (congrArg (fun z => x_w w z B P g) (x_pn_ul _))) ?_
          refine q_iinc (lv' := [some (.ref (B + p)), some (q_i v), some (q_i (t + 1))]) dX5_learn_104 rfl (by decide) rfl ?_
          refine q_goto (tgt := 17) dX5_learn_107 (by decide) ?_
          exact q_Jle (q_le_s (rfl) (q_le_s (rfl) (q_le_s (rfl) (q_le_e _)))) (rfl) (by rw [x_lr_p ht0 h69]; rfl) (ih17 (t + 1) (by omega) (by omega) (by omega))
  exact q_Jle (q_le_s (rfl) (q_le_s (rfl) (q_le_s (rfl) (q_le_e _)))) (rfl) (by rw [x_tm_0]; rfl) (L17 ((ξ 8 2 : Int).toNat + 1) 0 (by omega) (by omega) (by omega))
theorem tX5_learn (w : q_W) (ξ : m_S) (B P : Nat) (g : Int → Option Nat) (p : Nat) (hB : 64 ≤ B) (hP : p < P) (h5 : p < 5) (v : Int) (hv : 1 ≤ v ∧ v ≤ 3) (hG : x_G ξ) (hk : 0 ≤ ξ 1000 p ∧ ξ 1000 p ≤ 5) : q_D mX5_learn 3 [.ref (B + p), q_i v] (x_w w ξ B P g) none (x_w w (x_lr ξ p v (ξ 8 2)) B P g) := by
  rcases (show ξ 1000 p = 0 ∨ ξ 1000 p = 1 ∨ ξ 1000 p = 2 ∨ ξ 1000 p = 3 ∨ ξ 1000 p = 4 ∨ ξ 1000 p = 5 by omega) with h | h | h | h | h | h
  · exact tX5_learn_0 w ξ B P g p hB hP h5 v hv hG h
  · exact tX5_learn_1 w ξ B P g p hB hP h5 v hv hG h
  · exact tX5_learn_2 w ξ B P g p hB hP h5 v hv hG h
  · exact tX5_learn_3 w ξ B P g p hB hP h5 v hv hG h
  · exact tX5_learn_4 w ξ B P g p hB hP h5 v hv hG h
  · exact tX5_learn_5 w ξ B P g p hB hP h5 v hv hG h
