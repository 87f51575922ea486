/-! the class: what may be seen -/
theorem z_pos_m (f : Int → Int) {a b : Int} (h0 : 0 ≤ a) (h : a ≤ b) : z_pos f a ≤ z_pos f b := by
  have key : ∀ j : Nat, z_pos f a ≤ z_pos f (a + j) := by
    intro j
    induction j with
    | zero => rw [show a + ((0 : Nat) : Int) = a by omega]; omega
    | succ j ih =>
      rw [show a + ((j + 1 : Nat) : Int) = a + (j : Int) + 1 by omega, z_pos_s _ (by omega)]
      split <;> omega
  have := key (b - a).toNat
  rwa [show a + ((b - a).toNat : Int) = b by omega] at this
theorem z_pos_u (f : Int → Int) {a b : Int} (h0 : 0 ≤ a) (ha : 0 < f a) (h : a < b) : z_pos f a < z_pos f b := by
  have h1 := z_pos_m f (a := a + 1) (b := b) (by omega) (by omega)
  rw [z_pos_s _ h0, if_pos ha] at h1
  omega
theorem z_pos_i (f : Int → Int) {a b : Int} (ha0 : 0 ≤ a) (hb0 : 0 ≤ b) (ha : 0 < f a) (hb : 0 < f b) (h : z_pos f a = z_pos f b) : a = b := by
  rcases (show a < b ∨ a = b ∨ b < a by omega) with e | e | e
  · have := z_pos_u f ha0 ha e; omega
  · exact e
  · have := z_pos_u f hb0 hb e; omega
theorem z_tk_p (f b : Int → Int) : ∀ (n : Nat) (i : Int), 0 ≤ i → i < z_pos f n → (0 ≤ z_tk f b n i ∧ z_tk f b n i < n) ∧ 0 < f (z_tk f b n i) ∧ z_pos f (z_tk f b n i) = i
  | 0, i, h0, h1 => by have h2 : i < 0 := h1; omega
  | n + 1, i, h0, h1 => by
    have hs : z_pos f ((n + 1 : Nat) : Int) = z_pos f n + if 0 < f n then 1 else 0 := by
      rw [show ((n + 1 : Nat) : Int) = (n : Int) + 1 by omega]
      exact z_pos_s f (by omega)
    rw [hs] at h1
    show (0 ≤ (if 0 < f n then q_us (z_tk f b n) (z_pos f n) n else z_tk f b n) i ∧ (if 0 < f n then q_us (z_tk f b n) (z_pos f n) n else z_tk f b n) i < ((n + 1 : Nat) : Int)) ∧ 0 < f ((if 0 < f n then q_us (z_tk f b n) (z_pos f n) n else z_tk f b n) i) ∧ z_pos f ((if 0 < f n then q_us (z_tk f b n) (z_pos f n) n else z_tk f b n) i) = i
    by_cases hc : 0 < f n
    · rw [if_pos hc] at h1 ⊢
      by_cases e : i = z_pos f n
      · rw [e, q_us_s]
        exact ⟨⟨by omega, by omega⟩, hc, rfl⟩
      · rw [q_us_n e]
        have ih := z_tk_p f b n i h0 (by omega)
        exact ⟨⟨ih.1.1, by have := ih.1.2; omega⟩, ih.2⟩
    · rw [if_neg hc] at h1 ⊢
      have ih := z_tk_p f b n i h0 (by omega)
      exact ⟨⟨ih.1.1, by have := ih.1.2; omega⟩, ih.2⟩
theorem z_tl_p (f b : Int → Int) {n i : Int} (hn : 0 ≤ n) (h0 : 0 ≤ i) (h1 : i < z_pos f n) : (0 ≤ z_tl f b n i ∧ z_tl f b n i < n) ∧ 0 < f (z_tl f b n i) ∧ z_pos f (z_tl f b n i) = i := by
  have h := z_tk_p f b n.toNat i h0 (by rw [show (n.toNat : Int) = n by omega]; exact h1)
  rw [show (n.toNat : Int) = n by omega] at h
  exact h
theorem z_tl_b (f b b' : Int → Int) {n i : Int} (hn : 0 ≤ n) (h0 : 0 ≤ i) (h1 : i < z_pos f n) : z_tl f b n i = z_tl f b' n i := by
  have p := z_tl_p f b hn h0 h1
  have q := z_tl_p f b' hn h0 h1
  exact z_pos_i f p.1.1 q.1.1 p.2.1 q.2.1 (by rw [p.2.2, q.2.2])
theorem z_sum_tl (f b G : Int → Int) : ∀ n : Nat, z_sum (fun i => G (z_tk f b n i)) (z_pos f n) = z_sum (fun t => if 0 < f t then G t else 0) n
  | 0 => rfl
  | n + 1 => by
    have hp := z_pos_r f (n := n) (by omega)
    have hs : z_pos f ((n + 1 : Nat) : Int) = z_pos f n + if 0 < f n then 1 else 0 := by
      rw [show ((n + 1 : Nat) : Int) = (n : Int) + 1 by omega]
      exact z_pos_s f (by omega)
    have ht : z_sum (fun t => if 0 < f t then G t else 0) ((n + 1 : Nat) : Int) = z_sum (fun t => if 0 < f t then G t else 0) n + if 0 < f n then G n else 0 := by
      rw [show ((n + 1 : Nat) : Int) = (n : Int) + 1 by omega]
      exact z_sum_s _ (by omega)
    rw [hs, ht]
    show z_sum (fun i => G ((if 0 < f n then q_us (z_tk f b n) (z_pos f n) n else z_tk f b n) i)) _ = _
    by_cases hc : 0 < f n
    · rw [if_pos hc, if_pos hc, if_pos hc, z_sum_s _ hp.1]
      (try dsimp only)
      rw [q_us_s, ← z_sum_tl f b G n]
      congr 1
      exact z_sum_c (fun i h0 h1 => by show G _ = G _; rw [q_us_n (by omega)])
    · rw [if_neg hc, if_neg hc, if_neg hc, Int.add_zero, Int.add_zero]
      exact z_sum_tl f b G n
def x_F (ξ : m_S) (p c s : Int) : Int := ξ 14 c * z_ways (ξ 1000 p) (ξ 1005 p) (ξ 8 0) (ξ 8 1) c s
def x_op (T a x : Int) : Int := if T = 1 then a + x else if a < x then x else a
def x_gv (ξ : m_S) (p T s c : Int) : Int := if T = 1 then z_sum (fun c => x_F ξ p c s) c else z_max (fun c => x_F ξ p c s) c
def x_gc (ξ : m_S) (p T c : Int) : Int → Int := fun s => if 0 ≤ s ∧ s < ξ 8 2 then x_gv ξ p T s c else ξ 15 s
def x_gi (ξ : m_S) (p T c i : Int) : Int → Int := fun s => if 0 ≤ s ∧ s < ξ 8 2 then (if 0 < x_fp ξ p (z_tn (ξ 8 0) (ξ 8 1) c s) ∧ z_pos (x_fp ξ p) (z_tn (ξ 8 0) (ξ 8 1) c s) < i then x_op T (x_gv ξ p T s c) (ξ 14 c * x_fp ξ p (z_tn (ξ 8 0) (ξ 8 1) c s)) else x_gv ξ p T s c) else ξ 15 s
theorem x_gv_s (ξ : m_S) (p T s : Int) {c : Int} (h : 0 ≤ c) : x_gv ξ p T s (c + 1) = x_op T (x_gv ξ p T s c) (x_F ξ p c s) := by
  unfold x_gv x_op
  split
  · rw [z_sum_s _ h]
  · rw [z_max_s _ h]
theorem x_F_r {ξ : m_S} (hW : 1 ≤ ξ 8 0 ∧ ξ 8 0 ≤ 3) (hV : ∀ c, 0 ≤ c → c < ξ 8 2 → 0 ≤ ξ 14 c ∧ ξ 14 c ≤ 4294967296) (p s : Int) {c : Int} (h0 : 0 ≤ c) (h1 : c < ξ 8 2) : 0 ≤ x_F ξ p c s ∧ x_F ξ p c s ≤ 17179869184 := z_mul2 (hV c h0 h1) (z_ways_r c s hW)
theorem x_gv_r {ξ : m_S} (hW : 1 ≤ ξ 8 0 ∧ ξ 8 0 ≤ 3) (hS : ξ 8 2 ≤ 216) (hV : ∀ c, 0 ≤ c → c < ξ 8 2 → 0 ≤ ξ 14 c ∧ ξ 14 c ≤ 4294967296) (p T s : Int) {c : Int} (h0 : 0 ≤ c) (h1 : c ≤ ξ 8 2) : 0 ≤ x_gv ξ p T s c ∧ x_gv ξ p T s c ≤ 3710851743744 := by
  unfold x_gv
  split
  · have h := z_sum_b (fun c => x_F ξ p c s) 0 17179869184 h0 (fun j g0 g1 => x_F_r hW hV p s g0 (by omega))
    omega
  · have h := z_max_b (fun c => x_F ξ p c s) (b := 17179869184) (n := c) (by decide) (fun j g0 g1 => (x_F_r hW hV p s g0 (by omega)).2)
    omega
theorem x_gi_0 (ξ : m_S) (p T c : Int) : x_gc ξ p T c = x_gi ξ p T c 0 := by
  funext s
  unfold x_gc x_gi
  split
  · rename_i h
    have hz : ¬ (0 < x_fp ξ p (z_tn (ξ 8 0) (ξ 8 1) c s) ∧ z_pos (x_fp ξ p) (z_tn (ξ 8 0) (ξ 8 1) c s) < 0) := fun q => by
      have h9 : ∀ t, 0 ≤ z_pos (x_fp ξ p) t := fun t => by
        rcases (show 0 ≤ t ∨ t < 0 by omega) with e | e
        · exact (z_pos_r _ e).1
        · unfold z_pos z_sum
          rw [show t.toNat = 0 by omega]
          exact Int.le_refl 0
      have := h9 (z_tn (ξ 8 0) (ξ 8 1) c s)
      omega
    rw [if_neg hz]
  · rfl
theorem x_gi_s {ξ : m_S} (hG : x_G ξ) {p T c i t : Int} (hc : 0 ≤ c) (ht0 : 0 ≤ t) (ht1 : t < ξ 8 2) (hf : 0 < x_fp ξ p t) (hi : z_pos (x_fp ξ p) t = i) {x : Int} (hx : x = x_op T (x_gi ξ p T c i (z_td (ξ 8 0) (ξ 8 1) c t)) (ξ 14 c * x_fp ξ p t)) : q_us (x_gi ξ p T c i) (z_td (ξ 8 0) (ξ 8 1) c t) x = x_gi ξ p T c (i + 1) := by
  have hS := hG.2.1
  have ht1' : t < z_pw (ξ 8 1) (ξ 8 0) := by rw [← hS]; exact ht1
  have hr := z_td_r hG.1 hc ht0
  rw [← hS] at hr
  have e1 := z_tn_td hG.1 hc ht0 ht1'
  funext s
  unfold q_us
  by_cases e : s = z_td (ξ 8 0) (ξ 8 1) c t
  · rw [if_pos e, hx, e]
    unfold x_gi
    rw [if_pos hr, if_pos hr, e1, if_neg (by omega), if_pos ⟨hf, by omega⟩]
  · rw [if_neg e]
    unfold x_gi
    by_cases h2 : 0 ≤ s ∧ s < ξ 8 2
    · rw [if_pos h2, if_pos h2]
      have h3 := z_tn_r hG.1 hc h2.1
      have hne : z_tn (ξ 8 0) (ξ 8 1) c s ≠ t := fun q => e (by rw [← q]; exact (z_td_tn hG.1 hc h2.1 (by rw [← hS]; exact h2.2)).symm)
      by_cases h4 : 0 < x_fp ξ p (z_tn (ξ 8 0) (ξ 8 1) c s)
      · have h5 : z_pos (x_fp ξ p) (z_tn (ξ 8 0) (ξ 8 1) c s) ≠ i := fun q => hne (z_pos_i _ h3.1 ht0 h4 hf (by rw [q, hi]))
        by_cases h6 : z_pos (x_fp ξ p) (z_tn (ξ 8 0) (ξ 8 1) c s) < i
        · rw [if_pos ⟨h4, h6⟩, if_pos ⟨h4, by omega⟩]
        · rw [if_neg (fun q => h6 q.2), if_neg (fun q => h6 (by have := q.2; omega))]
      · rw [if_neg (fun q => h4 q.1), if_neg (fun q => h4 q.1)]
    · rw [if_neg h2, if_neg h2]
theorem x_gi_e {ξ : m_S} (hG : x_G ξ) (hV : ∀ c, 0 ≤ c → c < ξ 8 2 → 0 ≤ ξ 14 c ∧ ξ 14 c ≤ 4294967296) {p T c i : Int} (hc : 0 ≤ c) (hc1 : c < ξ 8 2) (hi : z_pos (x_fp ξ p) (ξ 8 2) ≤ i ∨ (ξ 14 c = 0 ∧ i = 0)) : x_gi ξ p T c i = x_gc ξ p T (c + 1) := by
  have hS := hG.S
  funext s
  unfold x_gi x_gc
  by_cases h2 : 0 ≤ s ∧ s < ξ 8 2
  · rw [if_pos h2, if_pos h2, x_gv_s _ _ _ _ hc]
    have h3 := z_tn_r hG.1 hc h2.1
    rw [← hG.2.1] at h3
    have hF : x_F ξ p c s = ξ 14 c * x_fp ξ p (z_tn (ξ 8 0) (ξ 8 1) c s) := by
      unfold x_F x_fp
      rw [z_ways_tn hG.1 _ _ hc h2.1]
    have hg := x_gv_r hG.1.1 hS.2 hV p T s hc (Int.le_of_lt hc1)
    have hz : x_F ξ p c s = 0 → x_op T (x_gv ξ p T s c) (x_F ξ p c s) = x_gv ξ p T s c := fun q => by
      rw [q]
      unfold x_op
      split
      · omega
      · rw [if_neg (by omega)]
    have hnn : 0 ≤ x_fp ξ p (z_tn (ξ 8 0) (ξ 8 1) c s) := (z_ways_r 0 _ hG.1.1).1
    by_cases h4 : 0 < x_fp ξ p (z_tn (ξ 8 0) (ξ 8 1) c s)
    · rcases hi with hi | hi
      · have h5 := z_pos_u (x_fp ξ p) h3.1 h4 h3.2
        rw [if_pos ⟨h4, by omega⟩, hF]
      · have h6 := (z_pos_r (x_fp ξ p) h3.1).1
        rw [if_neg (fun q => by omega), hz (by rw [hF, hi.1, Int.zero_mul])]
    · rw [if_neg (fun q => h4 q.1), hz (by rw [hF, show x_fp ξ p (z_tn (ξ 8 0) (ξ 8 1) c s) = 0 by omega, Int.mul_zero])]
  · rw [if_neg h2, if_neg h2]
theorem x_gc_0 (ξ : m_S) (p T : Int) : q_fl (ξ 15) 0 (ξ 8 2) 0 = x_gc ξ p T 0 := by
  funext s
  unfold q_fl x_gc
  rw [Int.zero_add]
  have e : x_gv ξ p T s 0 = 0 := by
    unfold x_gv
    split <;> rfl
  rw [e]
theorem z_am_max (f : Int → Int) (hf : ∀ j, 0 ≤ f j ∨ True) : ∀ n : Nat, (∀ j : Int, 0 ≤ j → j < n → 0 ≤ f j) → 0 < n → f (z_a f n) = z_m f n
  | 0, _, h => by omega
  | n + 1, h, _ => by
    show f (if f (z_a f n) < f n then (n : Int) else z_a f n) = if z_m f n < f n then f n else z_m f n
    by_cases hn : 0 < n
    · have ih := z_am_max f hf n (fun j h0 h1 => h j h0 (by omega)) hn
      rw [ih]
      split
      · rfl
      · exact ih
    · have e : n = 0 := by omega
      subst e
      have h0 := h 0 (by omega) (by omega)
      have e1 : z_a f 0 = 0 := rfl
      have e2 : z_m f 0 = 0 := rfl
      rw [e1, e2]
      show f (if f 0 < f 0 then (0 : Int) else 0) = if 0 < f 0 then f 0 else 0
      rw [if_neg (by omega)]
      split <;> omega
theorem x_gb {ξ : m_S} {p : Int} (hk : ξ 1000 p = 3) (hS : 0 < ξ 8 2) (hV : ∀ c, 0 ≤ c → c < ξ 8 2 → 0 ≤ ξ 14 c ∧ ξ 14 c ≤ 4294967296) : q_fl (ξ 15) 0 (ξ 8 2) (z_sum (ξ 14) (ξ 8 2)) = x_gc ξ p 1 (ξ 8 2) ∧ q_fl (ξ 15) 0 (ξ 8 2) (ξ 14 (z_am (ξ 14) (ξ 8 2))) = x_gc ξ p 0 (ξ 8 2) := by
  have e : ∀ s c, x_F ξ p c s = ξ 14 c := fun s c => by
    unfold x_F z_ways
    rw [if_pos hk, Int.mul_one]
  constructor
  · funext s
    unfold q_fl x_gc x_gv
    rw [Int.zero_add, if_pos rfl, z_sum_c (fun j _ _ => e s j)]
  · funext s
    unfold q_fl x_gc x_gv
    have e9 : (fun c => x_F ξ p c s) = ξ 14 := funext (fun c => e s c)
    rw [Int.zero_add, if_neg (show ¬ (0 : Int) = 1 by decide), e9]
    unfold z_am z_max
    rw [z_am_max (ξ 14) (fun _ => Or.inr trivial) (ξ 8 2).toNat (fun j h0 h1 => (hV j h0 (by omega)).1) (by omega)]
set_option maxRecDepth 20000 in
theorem tX8_gather_1 (w : q_W) (ξ : m_S) (B P : Nat) (g : Int → Option Nat) (p : Int) (hp0 : 0 ≤ p) (hp1 : p < ξ 7 0) (hPs : x_Ps ξ B P g) (hTs : ∀ p, 0 ≤ p → p < ξ 7 0 → x_Pt ξ p) (hG : x_G ξ) (hV : ∀ c, 0 ≤ c → c < ξ 8 2 → 0 ≤ ξ 14 c ∧ ξ 14 c ≤ 4294967296) : q_D mX8_gather 2 [.ref 7, .ref (B + p.toNat), q_i 1] (x_w w ξ B P g) none (x_w w (m_u ξ 15 (x_gc ξ p 1 (ξ 8 2))) B P g) := by
  refine q_T.of (lv := [some (.ref 7), some (.ref (B + p.toNat)), some (q_i 1), none, none, none, none, none, none]) (by decide) rfl (Nat.le_of_ble_eq_true rfl) ?_
  have hPs1 := hPs.1
  have hPs2 := hPs.2.1
  have hPs3 := hPs.2.2.1
  have hWN := hG.1
  have hW := hG.1.1
  have hN := hG.1.2
  have hS := hG.S
  have hT := hTs p hp0 hp1
  have h13 := hT.2.2.2.1
  have hpz := z_pos_r (x_fp ξ p) (n := ξ 8 2) (by omega)
  refine q_aload_n dX8_gather_0 rfl ?_
  refine q_instX8_99 (hTs p (by omega) (by omega)).1 (x_pOi (p := p) (by omega) (by omega) (by omega)) dX8_gather_1 ?_
  refine q_ifb_eq (tgt := 44) dX8_gather_4 (by decide) (fun h4 => ?_) (fun h4 => ?_)
  · skip
    refine q_aload_n dX8_gather_44 rfl ?_
    refine q_aload_n dX8_gather_45 rfl ?_
    refine q_get (v := .ref 15) fX8_35_8 rfl rfl dX8_gather_46 ?_
    refine q_lconst 0 dX8_gather_49 ?_
    refine q_cVv [.ref 15, q_l 0] kX8_127_8 rfl (tX8_setAll_15 w ξ B P g 0 (show 0 ≤ ξ 8 2 ∧ ξ 8 2 ≤ 216 by omega)) dX8_gather_50 rfl (by decide) (Nat.le_of_ble_eq_true rfl) rfl ?_
    refine q_iconst dX8_gather_53 ?_
    refine q_istore_n (lv' := [some (.ref 7), some (.ref (B + p.toNat)), some (q_i 1), some (q_i 0), none, none, none, none, none]) dX8_gather_54 (by decide) rfl ?_
    have L55 : ∀ (m9 : Nat) (c : Int) (hc0 : 0 ≤ c) (hc1 : c ≤ ξ 8 2) (hm9 : ξ 8 2 - c < (m9 : Int)), q_J mX8_gather 2 (fun v' w' => v' = none ∧ w' = (x_w w (m_u ξ 15 (x_gc ξ p 1 (ξ 8 2))) B P g)) 0 0 55 [some (.ref 7), some (.ref (B + p.toNat)), some (q_i 1), some (q_i c), none, none, none, none, none] [] (x_w w (m_u ξ 15 (x_gc ξ p 1 c)) B P g) := by
      intro m9
      induction m9 with
      | zero => intro c hc0 hc1 hm9; exact absurd hm9 (by omega)
      | succ m9 ih55 =>
        intro c hc0 hc1 hm9
        refine q_iload_n dX8_gather_55 rfl ?_
        refine q_aload_n dX8_gather_56 rfl ?_
        refine q_get (v := .ref 8) fX8_18_8 rfl rfl dX8_gather_57 ?_
        refine q_get (v := q_i (ξ 8 2)) fX8_144_10 rfl rfl dX8_gather_60 ?_
        refine q_icmp_ge (tgt := 174) dX8_gather_63 (by decide) ⟨by omega, by omega⟩ ⟨by omega, by omega⟩ (fun h63 => ?_) (fun h63 => ?_)
        · skip
          exact q_vret rfl dX8_gather_174 (⟨rfl, by rw [show c = ξ 8 2 by omega]⟩)
        · skip
          refine q_iconst dX8_gather_66 ?_
          refine q_istore (lv' := [some (.ref 7), some (.ref (B + p.toNat)), some (q_i 1), some (q_i c), some (q_i 0), none, none, none, none]) dX8_gather_67 (by decide) rfl ?_
          have L69 : ∀ (m9 : Nat) (i : Int) (hi0 : 0 ≤ i) (hi1 : i ≤ ξ 1003 p) (hi2 : i = 0 ∨ 0 < ξ 14 c) (hm9 : ξ 1003 p - i < (m9 : Int)), q_J mX8_gather 2 (fun v' w' => v' = none ∧ w' = (x_w w (m_u ξ 15 (x_gc ξ p 1 (ξ 8 2))) B P g)) 0 0 69 [some (.ref 7), some (.ref (B + p.toNat)), some (q_i 1), some (q_i c), some (q_i i), none, none, none, none] [] (x_w w (m_u ξ 15 (x_gi ξ p 1 c i)) B P g) := by
            intro m9
            induction m9 with
            | zero => intro i hi0 hi1 hi2 hm9; exact absurd hm9 (by omega)
            | succ m9 ih69 =>
              intro i hi0 hi1 hi2 hm9
              refine q_iload dX8_gather_69 rfl ?_
              refine q_aload_n dX8_gather_71 rfl ?_
              refine q_get (v := q_i (ξ 1003 p)) (fPX8_193 _) (x_pOi (p := p) (by omega) (by omega) (by omega)) rfl dX8_gather_72 ?_
              refine q_icmp_ge (tgt := 168) dX8_gather_75 (by decide) ⟨by omega, by omega⟩ ⟨by omega, by omega⟩ (fun h75 => ?_) (fun h75 => ?_)
              · skip
                refine q_iinc (lv' := [some (.ref 7), some (.ref (B + p.toNat)), some (q_i 1), some (q_i (c + 1)), some (q_i i), none, none, none, none]) dX8_gather_168 rfl (by decide) rfl ?_
                refine q_goto (tgt := 55) dX8_gather_171 (by decide) ?_
                exact q_Jle (q_le_s (rfl) (q_le_s (rfl) (q_le_s (rfl) (q_le_s (rfl) (q_le_n (q_le_n (q_le_n (q_le_n (q_le_n (q_le_e _)))))))))) (rfl) (by rw [x_gi_e hG hV hc0 (by omega) (by omega)]) (ih55 (c + 1) (by omega) (by omega) (by omega))
              · skip
                have hvc := hV c hc0 (by omega)
                refine q_aload_n dX8_gather_78 rfl ?_
                refine q_get (v := .ref 14) fX8_31_8 rfl rfl dX8_gather_79 ?_
                refine q_iload_n dX8_gather_82 rfl ?_
                refine q_lald (f := (ξ 14)) (n9 := 216) rfl (by omega) (by omega) dX8_gather_83 ?_
                refine q_lconst 0 dX8_gather_84 ?_
                refine q_lcmp_le (tgt := 168) dX8_gather_85 dX8_gather_86 (by decide) ⟨by have := hV c hc0 (by omega); omega, by have := hV c hc0 (by omega); omega⟩ ⟨by decide, by decide⟩ (fun h85 => ?_) (fun h85 => ?_)
                · skip
                  refine q_iinc (lv' := [some (.ref 7), some (.ref (B + p.toNat)), some (q_i 1), some (q_i (c + 1)), some (q_i i), none, none, none, none]) dX8_gather_168 rfl (by decide) rfl ?_
                  refine q_goto (tgt := 55) dX8_gather_171 (by decide) ?_
                  exact q_Jle (q_le_s (rfl) (q_le_s (rfl) (q_le_s (rfl) (q_le_s (rfl) (q_le_n (q_le_n (q_le_n (q_le_n (q_le_n (q_le_e _)))))))))) (rfl) (by rw [x_gi_e hG hV hc0 (by omega) (by omega)]) (ih55 (c + 1) (by omega) (by omega) (by omega))
                · skip
                  refine q_aload_n dX8_gather_89 rfl ?_
                  refine q_get (v := .ref (20 + p.toNat)) (fPX8_196 _) (x_pOi (p := p) (by omega) (by omega) (by omega)) rfl dX8_gather_90 ?_
                  refine q_iload dX8_gather_93 rfl ?_
                  refine q_iald (f := ((m_u ξ 15 (x_gi ξ p 1 c i)) (20 + p.toNat))) (n9 := 216) (x_tu (p := p.toNat) (by omega)) (by omega) (by omega) dX8_gather_95 ?_
                  have htl := z_tl_p (x_fp ξ p) (fun _ => 0) (n := ξ 8 2) (i := i) (by omega) hi0 (by omega)
                  rw [m_un (show 20 + p.toNat ≠ 15 by omega), hT.2.2.2.2.2 i hi0 (by omega)]
                  refine q_istore (lv' := [some (.ref 7), some (.ref (B + p.toNat)), some (q_i 1), some (q_i c), some (q_i i), some (q_i (z_tl (x_fp ξ p) (fun _ => 0) (ξ 8 2) i)), none, none, none]) dX8_gather_96 (by decide) rfl ?_
                  refine q_aload_n dX8_gather_98 rfl ?_
                  refine q_get (v := .ref 8) fX8_18_8 rfl rfl dX8_gather_99 ?_
                  refine q_iload_n dX8_gather_102 rfl ?_
                  refine q_iload dX8_gather_103 rfl ?_
                  refine q_cV [q_i c, q_i (z_tl (x_fp ξ p) (fun _ => 0) (ξ 8 2) i)] kX8_199_10 rfl (tX10_turned w (m_u ξ 15 (x_gi ξ p 1 c i)) B P g c (z_tl (x_fp ξ p) (fun _ => 0) (ξ 8 2) i) hc0 (show c < ξ 8 2 by omega) htl.1.1 htl.1.2 hG) dX8_gather_105 rfl (by decide) (Nat.le_of_ble_eq_true rfl) rfl ?_
                  show q_J _ _ _ _ _ _ _ [q_i (z_td (ξ 8 0) (ξ 8 1) c (z_tl (x_fp ξ p) (fun _ => 0) (ξ 8 2) i))] (x_w w (m_u ξ 15 (x_gi ξ p 1 c i)) B P g)
                  refine q_istore (lv' := [some (.ref 7), some (.ref (B + p.toNat)), some (q_i 1), some (q_i c), some (q_i i), some (q_i (z_tl (x_fp ξ p) (fun _ => 0) (ξ 8 2) i)), some (q_i (z_td (ξ 8 0) (ξ 8 1) c (z_tl (x_fp ξ p) (fun _ => 0) (ξ 8 2) i))), none, none]) dX8_gather_108 (by decide) rfl ?_
                  refine q_aload_n dX8_gather_110 rfl ?_
                  refine q_get (v := .ref 14) fX8_31_8 rfl rfl dX8_gather_111 ?_
                  refine q_iload_n dX8_gather_114 rfl ?_
                  refine q_lald (f := (ξ 14)) (n9 := 216) rfl (by omega) (by omega) dX8_gather_115 ?_
                  refine q_aload_n dX8_gather_116 rfl ?_
                  refine q_iload dX8_gather_117 rfl ?_
                  refine q_cP [q_i (z_tl (x_fp ξ p) (fun _ => 0) (ξ 8 2) i)] (kPX8_150 _) (x_pOi (p := p) (by omega) (by omega) (by omega)) (Eq.mp (congrArg (fun z => q_D mX5_timesOf 1 [.ref (B + p.toNat), q_i (z_tl (x_fp ξ p) (fun _ => 0) (ξ 8 2) i)] (x_w w (m_u ξ 15 (x_gi ξ p 1 c i)) B P g) (some (q_i z)) (x_w w (m_u ξ 15 (x_gi ξ p 1 c i)) B P g)) (show (m_u ξ 15 (x_gi ξ p 1 c i)) (26 + p.toNat) (z_tl (x_fp ξ p) (fun _ => 0) (ξ 8 2) i) = x_fp ξ p (z_tl (x_fp ξ p) (fun _ => 0) (ξ 8 2) i) by rw [m_un (by omega)]; exact hT.2.2.1 _ htl.1.1 htl.1.2)) (tX5_timesOf w (m_u ξ 15 (x_gi ξ p 1 c i)) B P g p.toNat (by omega) (by omega) (by omega) (z_tl (x_fp ξ p) (fun _ => 0) (ξ 8 2) i) htl.1.1 htl.1.2 hS.2)) dX8_gather_119 rfl (by decide) (Nat.le_of_ble_eq_true rfl) rfl ?_
                  refine q_i2lr dX8_gather_122 ⟨by have := z_ways_r (k := ξ 1000 p) (f := ξ 1005 p) (N := ξ 8 1) 0 (z_tl (x_fp ξ p) (fun _ => 0) (ξ 8 2) i) hW; have e9 : x_fp ξ p (z_tl (x_fp ξ p) (fun _ => 0) (ξ 8 2) i) = z_ways (ξ 1000 p) (ξ 1005 p) (ξ 8 0) (ξ 8 1) 0 (z_tl (x_fp ξ p) (fun _ => 0) (ξ 8 2) i) := rfl; omega, by have := z_ways_r (k := ξ 1000 p) (f := ξ 1005 p) (N := ξ 8 1) 0 (z_tl (x_fp ξ p) (fun _ => 0) (ξ 8 2) i) hW; have e9 : x_fp ξ p (z_tl (x_fp ξ p) (fun _ => 0) (ξ 8 2) i) = z_ways (ξ 1000 p) (ξ 1005 p) (ξ 8 0) (ξ 8 1) 0 (z_tl (x_fp ξ p) (fun _ => 0) (ξ 8 2) i) := rfl; omega⟩ ?_
                  refine q_lmul dX8_gather_123 ?_
                  refine q_lstore (lv' := [some (.ref 7), some (.ref (B + p.toNat)), some (q_i 1), some (q_i c), some (q_i i), some (q_i (z_tl (x_fp ξ p) (fun _ => 0) (ξ 8 2) i)), some (q_i (z_td (ξ 8 0) (ξ 8 1) c (z_tl (x_fp ξ p) (fun _ => 0) (ξ 8 2) i))), some (q_l (((ξ 14) c) * (x_fp ξ p (z_tl (x_fp ξ p) (fun _ => 0) (ξ 8 2) i)))), none]) dX8_gather_124 (by decide) rfl ?_
                  have hsd := z_td_r hWN hc0 htl.1.1
                  rw [← hG.2.1] at hsd
                  have hmu := z_mul2 (hV c hc0 (by omega)) (show 0 ≤ x_fp ξ p (z_tl (x_fp ξ p) (fun _ => 0) (ξ 8 2) i) ∧ x_fp ξ p (z_tl (x_fp ξ p) (fun _ => 0) (ξ 8 2) i) ≤ 4 from z_ways_r 0 _ hW)
                  have hgi : (x_gi ξ p 1 c i) (z_td (ξ 8 0) (ξ 8 1) c (z_tl (x_fp ξ p) (fun _ => 0) (ξ 8 2) i)) = x_gv ξ p 1 (z_td (ξ 8 0) (ξ 8 1) c (z_tl (x_fp ξ p) (fun _ => 0) (ξ 8 2) i)) c := by
                    unfold x_gi; rw [if_pos hsd, z_tn_td hWN hc0 htl.1.1 (by rw [← hG.2.1]; exact htl.1.2), if_neg (by omega)]
                  have hgr := x_gv_r hW hS.2 hV p 1 (z_td (ξ 8 0) (ξ 8 1) c (z_tl (x_fp ξ p) (fun _ => 0) (ξ 8 2) i)) hc0 hc1
                  refine q_aload_n dX8_gather_126 rfl ?_
                  refine q_get (v := .ref 15) fX8_35_8 rfl rfl dX8_gather_127 ?_
                  refine q_iload dX8_gather_130 rfl ?_
                  refine q_iload_n dX8_gather_132 rfl ?_
                  refine q_if_eq (tgt := 149) dX8_gather_133 (by decide) ⟨by decide, by decide⟩ (fun h133 => False.elim (by omega)) (fun h133 => ?_)
                  refine q_aload_n dX8_gather_136 rfl ?_
                  refine q_get (v := .ref 15) fX8_35_8 rfl rfl dX8_gather_137 ?_
                  refine q_iload dX8_gather_140 rfl ?_
                  refine q_lald (f := (x_gi ξ p 1 c i)) (n9 := 216) rfl hsd.1 (show _ < (216 : Int) by omega) dX8_gather_142 ?_
                  refine q_lload dX8_gather_143 rfl ?_
                  refine q_ladd dX8_gather_145 ?_
                  refine q_goto (tgt := 161) dX8_gather_146 (by decide) ?_
                  refine q_last (f := (x_gi ξ p 1 c i)) (n9 := 216) rfl hsd.1 (show _ < (216 : Int) by omega) dX8_gather_161 ?_
                  refine q_Jeq rfl rfl (x_up (f := (q_us (x_gi ξ p 1 c i) (z_td (ξ 8 0) (ξ 8 1) c (z_tl (x_fp ξ p) (fun _ => 0) (ξ 8 2) i)) (((x_gi ξ p 1 c i) (z_td (ξ 8 0) (ξ 8 1) c (z_tl (x_fp ξ p) (fun _ => 0) (ξ 8 2) i))) + (((ξ 14) c) * (x_fp ξ p (z_tl (x_fp ξ p) (fun _ => 0) (ξ 8 2) i)))))) rfl) ?_
                  refine q_iinc (lv' := [some (.ref 7), some (.ref (B + p.toNat)), some (q_i 1), some (q_i c), some (q_i (i + 1)), some (q_i (z_tl (x_fp ξ p) (fun _ => 0) (ξ 8 2) i)), some (q_i (z_td (ξ 8 0) (ξ 8 1) c (z_tl (x_fp ξ p) (fun _ => 0) (ξ 8 2) i))), some (q_l (((ξ 14) c) * (x_fp ξ p (z_tl (x_fp ξ p) (fun _ => 0) (ξ 8 2) i)))), none]) dX8_gather_162 rfl (by decide) rfl ?_
                  refine q_goto (tgt := 69) dX8_gather_165 (by decide) ?_
                  exact q_Jle (q_le_s (rfl) (q_le_s (rfl) (q_le_s (rfl) (q_le_s (rfl) (q_le_s (rfl) (q_le_n (q_le_n (q_le_n (q_le_n (q_le_e _)))))))))) (rfl) (by rw [m_uu, x_gi_s hG hc0 htl.1.1 htl.1.2 htl.2.1 htl.2.2 (by unfold x_op; rw [if_pos rfl])]) (ih69 (i + 1) (by omega) (by omega) (by omega) (by omega))
          exact q_Jle (q_le_s (rfl) (q_le_s (rfl) (q_le_s (rfl) (q_le_s (rfl) (q_le_s (rfl) (q_le_n (q_le_n (q_le_n (q_le_n (q_le_e _)))))))))) (rfl) (by rw [x_gi_0]) (L69 ((ξ 1003 p : Int).toNat + 1) 0 (by omega) (by omega) (by omega) (by omega))
    exact q_Jle (q_le_s (rfl) (q_le_s (rfl) (q_le_s (rfl) (q_le_s (rfl) (q_le_n (q_le_n (q_le_n (q_le_n (q_le_n (q_le_e _)))))))))) (rfl) (by rw [x_gc_0 ξ p 1]) (L55 ((ξ 8 2 : Int).toNat + 1) 0 (by omega) (by omega) (by omega))
  · skip
    refine q_aload_n dX8_gather_7 rfl ?_
    refine q_aload_n dX8_gather_8 rfl ?_
    refine q_get (v := .ref 15) fX8_35_8 rfl rfl dX8_gather_9 ?_
    refine q_iload_n dX8_gather_12 rfl ?_
    refine q_if_eq (tgt := 27) dX8_gather_13 (by decide) ⟨by decide, by decide⟩ (fun h13 => False.elim (by omega)) (fun h13 => ?_)
    refine q_aload_n dX8_gather_16 rfl ?_
    refine q_aload_n dX8_gather_17 rfl ?_
    refine q_get (v := .ref 14) fX8_31_8 rfl rfl dX8_gather_18 ?_
    refine q_cV [.ref 14] kX8_178_8 rfl (tX8_sumOf_14 w ξ B P g (show 0 ≤ ξ 8 2 ∧ ξ 8 2 ≤ 216 by omega)) dX8_gather_21 rfl (by decide) (Nat.le_of_ble_eq_true rfl) rfl ?_
    refine q_goto (tgt := 40) dX8_gather_24 (by decide) ?_
    refine q_cVv [.ref 15, q_l (z_sum (ξ 14) (ξ 8 2))] kX8_127_8 rfl (tX8_setAll_15 w ξ B P g (z_sum (ξ 14) (ξ 8 2)) (show 0 ≤ ξ 8 2 ∧ ξ 8 2 ≤ 216 by omega)) dX8_gather_40 rfl (by decide) (Nat.le_of_ble_eq_true rfl) rfl ?_
    exact q_vret rfl dX8_gather_43 (⟨rfl, by rw [(x_gb h4 (by omega) hV).1]⟩)
set_option maxRecDepth 20000 in
theorem tX8_gather_0 (w : q_W) (ξ : m_S) (B P : Nat) (g : Int → Option Nat) (p : Int) (hp0 : 0 ≤ p) (hp1 : p < ξ 7 0) (hPs : x_Ps ξ B P g) (hTs : ∀ p, 0 ≤ p → p < ξ 7 0 → x_Pt ξ p) (hG : x_G ξ) (hV : ∀ c, 0 ≤ c → c < ξ 8 2 → 0 ≤ ξ 14 c ∧ ξ 14 c ≤ 4294967296) : q_D mX8_gather 2 [.ref 7, .ref (B + p.toNat), q_i 0] (x_w w ξ B P g) none (x_w w (m_u ξ 15 (x_gc ξ p 0 (ξ 8 2))) B P g) := by
  refine q_T.of (lv := [some (.ref 7), some (.ref (B + p.toNat)), some (q_i 0), none, none, none, none, none, none]) (by decide) rfl (Nat.le_of_ble_eq_true rfl) ?_
  have hPs1 := hPs.1
  have hPs2 := hPs.2.1
  have hPs3 := hPs.2.2.1
  have hWN := hG.1
  have hW := hG.1.1
  have hN := hG.1.2
  have hS := hG.S
  have hT := hTs p hp0 hp1
  have h13 := hT.2.2.2.1
  have hpz := z_pos_r (x_fp ξ p) (n := ξ 8 2) (by omega)
  refine q_aload_n dX8_gather_0 rfl ?_
  refine q_instX8_99 (hTs p (by omega) (by omega)).1 (x_pOi (p := p) (by omega) (by omega) (by omega)) dX8_gather_1 ?_
  refine q_ifb_eq (tgt := 44) dX8_gather_4 (by decide) (fun h4 => ?_) (fun h4 => ?_)
  · skip
    refine q_aload_n dX8_gather_44 rfl ?_
    refine q_aload_n dX8_gather_45 rfl ?_
    refine q_get (v := .ref 15) fX8_35_8 rfl rfl dX8_gather_46 ?_
    refine q_lconst 0 dX8_gather_49 ?_
    refine q_cVv [.ref 15, q_l 0] kX8_127_8 rfl (tX8_setAll_15 w ξ B P g 0 (show 0 ≤ ξ 8 2 ∧ ξ 8 2 ≤ 216 by omega)) dX8_gather_50 rfl (by decide) (Nat.le_of_ble_eq_true rfl) rfl ?_
    refine q_iconst dX8_gather_53 ?_
    refine q_istore_n (lv' := [some (.ref 7), some (.ref (B + p.toNat)), some (q_i 0), some (q_i 0), none, none, none, none, none]) dX8_gather_54 (by decide) rfl ?_
    have L55 : ∀ (m9 : Nat) (c : Int) (hc0 : 0 ≤ c) (hc1 : c ≤ ξ 8 2) (hm9 : ξ 8 2 - c < (m9 : Int)), q_J mX8_gather 2 (fun v' w' => v' = none ∧ w' = (x_w w (m_u ξ 15 (x_gc ξ p 0 (ξ 8 2))) B P g)) 0 0 55 [some (.ref 7), some (.ref (B + p.toNat)), some (q_i 0), some (q_i c), none, none, none, none, none] [] (x_w w (m_u ξ 15 (x_gc ξ p 0 c)) B P g) := by
      intro m9
      induction m9 with
      | zero => intro c hc0 hc1 hm9; exact absurd hm9 (by omega)
      | succ m9 ih55 =>
        intro c hc0 hc1 hm9
        refine q_iload_n dX8_gather_55 rfl ?_
        refine q_aload_n dX8_gather_56 rfl ?_
        refine q_get (v := .ref 8) fX8_18_8 rfl rfl dX8_gather_57 ?_
        refine q_get (v := q_i (ξ 8 2)) fX8_144_10 rfl rfl dX8_gather_60 ?_
        refine q_icmp_ge (tgt := 174) dX8_gather_63 (by decide) ⟨by omega, by omega⟩ ⟨by omega, by omega⟩ (fun h63 => ?_) (fun h63 => ?_)
        · skip
          exact q_vret rfl dX8_gather_174 (⟨rfl, by rw [show c = ξ 8 2 by omega]⟩)
        · skip
          refine q_iconst dX8_gather_66 ?_
          refine q_istore (lv' := [some (.ref 7), some (.ref (B + p.toNat)), some (q_i 0), some (q_i c), some (q_i 0), none, none, none, none]) dX8_gather_67 (by decide) rfl ?_
          have L69 : ∀ (m9 : Nat) (i : Int) (hi0 : 0 ≤ i) (hi1 : i ≤ ξ 1003 p) (hi2 : i = 0 ∨ 0 < ξ 14 c) (hm9 : ξ 1003 p - i < (m9 : Int)), q_J mX8_gather 2 (fun v' w' => v' = none ∧ w' = (x_w w (m_u ξ 15 (x_gc ξ p 0 (ξ 8 2))) B P g)) 0 0 69 [some (.ref 7), some (.ref (B + p.toNat)), some (q_i 0), some (q_i c), some (q_i i), none, none, none, none] [] (x_w w (m_u ξ 15 (x_gi ξ p 0 c i)) B P g) := by
            intro m9
            induction m9 with
            | zero => intro i hi0 hi1 hi2 hm9; exact absurd hm9 (by omega)
            | succ m9 ih69 =>
              intro i hi0 hi1 hi2 hm9
              refine q_iload dX8_gather_69 rfl ?_
              refine q_aload_n dX8_gather_71 rfl ?_
              refine q_get (v := q_i (ξ 1003 p)) (fPX8_193 _) (x_pOi (p := p) (by omega) (by omega) (by omega)) rfl dX8_gather_72 ?_
              refine q_icmp_ge (tgt := 168) dX8_gather_75 (by decide) ⟨by omega, by omega⟩ ⟨by omega, by omega⟩ (fun h75 => ?_) (fun h75 => ?_)
              · skip
                refine q_iinc (lv' := [some (.ref 7), some (.ref (B + p.toNat)), some (q_i 0), some (q_i (c + 1)), some (q_i i), none, none, none, none]) dX8_gather_168 rfl (by decide) rfl ?_
                refine q_goto (tgt := 55) dX8_gather_171 (by decide) ?_
                exact q_Jle (q_le_s (rfl) (q_le_s (rfl) (q_le_s (rfl) (q_le_s (rfl) (q_le_n (q_le_n (q_le_n (q_le_n (q_le_n (q_le_e _)))))))))) (rfl) (by rw [x_gi_e hG hV hc0 (by omega) (by omega)]) (ih55 (c + 1) (by omega) (by omega) (by omega))
              · skip
                have hvc := hV c hc0 (by omega)
                refine q_aload_n dX8_gather_78 rfl ?_
                refine q_get (v := .ref 14) fX8_31_8 rfl rfl dX8_gather_79 ?_
                refine q_iload_n dX8_gather_82 rfl ?_
                refine q_lald (f := (ξ 14)) (n9 := 216) rfl (by omega) (by omega) dX8_gather_83 ?_
                refine q_lconst 0 dX8_gather_84 ?_
                refine q_lcmp_le (tgt := 168) dX8_gather_85 dX8_gather_86 (by decide) ⟨by have := hV c hc0 (by omega); omega, by have := hV c hc0 (by omega); omega⟩ ⟨by decide, by decide⟩ (fun h85 => ?_) (fun h85 => ?_)
                · skip
                  refine q_iinc (lv' := [some (.ref 7), some (.ref (B + p.toNat)), some (q_i 0), some (q_i (c + 1)), some (q_i i), none, none, none, none]) dX8_gather_168 rfl (by decide) rfl ?_
                  refine q_goto (tgt := 55) dX8_gather_171 (by decide) ?_
                  exact q_Jle (q_le_s (rfl) (q_le_s (rfl) (q_le_s (rfl) (q_le_s (rfl) (q_le_n (q_le_n (q_le_n (q_le_n (q_le_n (q_le_e _)))))))))) (rfl) (by rw [x_gi_e hG hV hc0 (by omega) (by omega)]) (ih55 (c + 1) (by omega) (by omega) (by omega))
                · skip
                  refine q_aload_n dX8_gather_89 rfl ?_
                  refine q_get (v := .ref (20 + p.toNat)) (fPX8_196 _) (x_pOi (p := p) (by omega) (by omega) (by omega)) rfl dX8_gather_90 ?_
                  refine q_iload dX8_gather_93 rfl ?_
                  refine q_iald (f := ((m_u ξ 15 (x_gi ξ p 0 c i)) (20 + p.toNat))) (n9 := 216) (x_tu (p := p.toNat) (by omega)) (by omega) (by omega) dX8_gather_95 ?_
                  have htl := z_tl_p (x_fp ξ p) (fun _ => 0) (n := ξ 8 2) (i := i) (by omega) hi0 (by omega)
                  rw [m_un (show 20 + p.toNat ≠ 15 by omega), hT.2.2.2.2.2 i hi0 (by omega)]
                  refine q_istore (lv' := [some (.ref 7), some (.ref (B + p.toNat)), some (q_i 0), some (q_i c), some (q_i i), some (q_i (z_tl (x_fp ξ p) (fun _ => 0) (ξ 8 2) i)), none, none, none]) dX8_gather_96 (by decide) rfl ?_
                  refine q_aload_n dX8_gather_98 rfl ?_
                  refine q_get (v := .ref 8) fX8_18_8 rfl rfl dX8_gather_99 ?_
                  refine q_iload_n dX8_gather_102 rfl ?_
                  refine q_iload dX8_gather_103 rfl ?_
                  refine q_cV [q_i c, q_i (z_tl (x_fp ξ p) (fun _ => 0) (ξ 8 2) i)] kX8_199_10 rfl (tX10_turned w (m_u ξ 15 (x_gi ξ p 0 c i)) B P g c (z_tl (x_fp ξ p) (fun _ => 0) (ξ 8 2) i) hc0 (show c < ξ 8 2 by omega) htl.1.1 htl.1.2 hG) dX8_gather_105 rfl (by decide) (Nat.le_of_ble_eq_true rfl) rfl ?_
                  show q_J _ _ _ _ _ _ _ [q_i (z_td (ξ 8 0) (ξ 8 1) c (z_tl (x_fp ξ p) (fun _ => 0) (ξ 8 2) i))] (x_w w (m_u ξ 15 (x_gi ξ p 0 c i)) B P g)
                  refine q_istore (lv' := [some (.ref 7), some (.ref (B + p.toNat)), some (q_i 0), some (q_i c), some (q_i i), some (q_i (z_tl (x_fp ξ p) (fun _ => 0) (ξ 8 2) i)), some (q_i (z_td (ξ 8 0) (ξ 8 1) c (z_tl (x_fp ξ p) (fun _ => 0) (ξ 8 2) i))), none, none]) dX8_gather_108 (by decide) rfl ?_
                  refine q_aload_n dX8_gather_110 rfl ?_
                  refine q_get (v := .ref 14) fX8_31_8 rfl rfl dX8_gather_111 ?_
                  refine q_iload_n dX8_gather_114 rfl ?_
                  refine q_lald (f := (ξ 14)) (n9 := 216) rfl (by omega) (by omega) dX8_gather_115 ?_
                  refine q_aload_n dX8_gather_116 rfl ?_
                  refine q_iload dX8_gather_117 rfl ?_
                  refine q_cP [q_i (z_tl (x_fp ξ p) (fun _ => 0) (ξ 8 2) i)] (kPX8_150 _) (x_pOi (p := p) (by omega) (by omega) (by omega)) (Eq.mp (congrArg (fun z => q_D mX5_timesOf 1 [.ref (B + p.toNat), q_i (z_tl (x_fp ξ p) (fun _ => 0) (ξ 8 2) i)] (x_w w (m_u ξ 15 (x_gi ξ p 0 c i)) B P g) (some (q_i z)) (x_w w (m_u ξ 15 (x_gi ξ p 0 c i)) B P g)) (show (m_u ξ 15 (x_gi ξ p 0 c i)) (26 + p.toNat) (z_tl (x_fp ξ p) (fun _ => 0) (ξ 8 2) i) = x_fp ξ p (z_tl (x_fp ξ p) (fun _ => 0) (ξ 8 2) i) by rw [m_un (by omega)]; exact hT.2.2.1 _ htl.1.1 htl.1.2)) (tX5_timesOf w (m_u ξ 15 (x_gi ξ p 0 c i)) B P g p.toNat (by omega) (by omega) (by omega) (z_tl (x_fp ξ p) (fun _ => 0) (ξ 8 2) i) htl.1.1 htl.1.2 hS.2)) dX8_gather_119 rfl (by decide) (Nat.le_of_ble_eq_true rfl) rfl ?_
                  refine q_i2lr dX8_gather_122 ⟨by have := z_ways_r (k := ξ 1000 p) (f := ξ 1005 p) (N := ξ 8 1) 0 (z_tl (x_fp ξ p) (fun _ => 0) (ξ 8 2) i) hW; have e9 : x_fp ξ p (z_tl (x_fp ξ p) (fun _ => 0) (ξ 8 2) i) = z_ways (ξ 1000 p) (ξ 1005 p) (ξ 8 0) (ξ 8 1) 0 (z_tl (x_fp ξ p) (fun _ => 0) (ξ 8 2) i) := rfl; omega, by have := z_ways_r (k := ξ 1000 p) (f := ξ 1005 p) (N := ξ 8 1) 0 (z_tl (x_fp ξ p) (fun _ => 0) (ξ 8 2) i) hW; have e9 : x_fp ξ p (z_tl (x_fp ξ p) (fun _ => 0) (ξ 8 2) i) = z_ways (ξ 1000 p) (ξ 1005 p) (ξ 8 0) (ξ 8 1) 0 (z_tl (x_fp ξ p) (fun _ => 0) (ξ 8 2) i) := rfl; omega⟩ ?_
                  refine q_lmul dX8_gather_123 ?_
                  refine q_lstore (lv' := [some (.ref 7), some (.ref (B + p.toNat)), some (q_i 0), some (q_i c), some (q_i i), some (q_i (z_tl (x_fp ξ p) (fun _ => 0) (ξ 8 2) i)), some (q_i (z_td (ξ 8 0) (ξ 8 1) c (z_tl (x_fp ξ p) (fun _ => 0) (ξ 8 2) i))), some (q_l (((ξ 14) c) * (x_fp ξ p (z_tl (x_fp ξ p) (fun _ => 0) (ξ 8 2) i)))), none]) dX8_gather_124 (by decide) rfl ?_
                  have hsd := z_td_r hWN hc0 htl.1.1
                  rw [← hG.2.1] at hsd
                  have hmu := z_mul2 (hV c hc0 (by omega)) (show 0 ≤ x_fp ξ p (z_tl (x_fp ξ p) (fun _ => 0) (ξ 8 2) i) ∧ x_fp ξ p (z_tl (x_fp ξ p) (fun _ => 0) (ξ 8 2) i) ≤ 4 from z_ways_r 0 _ hW)
                  have hgi : (x_gi ξ p 0 c i) (z_td (ξ 8 0) (ξ 8 1) c (z_tl (x_fp ξ p) (fun _ => 0) (ξ 8 2) i)) = x_gv ξ p 0 (z_td (ξ 8 0) (ξ 8 1) c (z_tl (x_fp ξ p) (fun _ => 0) (ξ 8 2) i)) c := by
                    unfold x_gi; rw [if_pos hsd, z_tn_td hWN hc0 htl.1.1 (by rw [← hG.2.1]; exact htl.1.2), if_neg (by omega)]
                  have hgr := x_gv_r hW hS.2 hV p 0 (z_td (ξ 8 0) (ξ 8 1) c (z_tl (x_fp ξ p) (fun _ => 0) (ξ 8 2) i)) hc0 hc1
                  refine q_aload_n dX8_gather_126 rfl ?_
                  refine q_get (v := .ref 15) fX8_35_8 rfl rfl dX8_gather_127 ?_
                  refine q_iload dX8_gather_130 rfl ?_
                  refine q_iload_n dX8_gather_132 rfl ?_
                  refine q_if_eq (tgt := 149) dX8_gather_133 (by decide) ⟨by decide, by decide⟩ (fun h133 => ?_) (fun h133 => False.elim (by omega))
                  refine q_aload_n dX8_gather_149 rfl ?_
                  refine q_get (v := .ref 15) fX8_35_8 rfl rfl dX8_gather_150 ?_
                  refine q_iload dX8_gather_153 rfl ?_
                  refine q_lald (f := (x_gi ξ p 0 c i)) (n9 := 216) rfl hsd.1 (show _ < (216 : Int) by omega) dX8_gather_155 ?_
                  refine q_lload dX8_gather_156 rfl ?_
                  refine q_jmaxl wd_853 wd_854 wd_68 wd_855 (by decide) (Nat.le_of_ble_eq_true rfl) ⟨by omega, by omega⟩ ⟨by omega, by omega⟩ dX8_gather_158 ?_
                  refine q_last (f := (x_gi ξ p 0 c i)) (n9 := 216) rfl hsd.1 (show _ < (216 : Int) by omega) dX8_gather_161 ?_
                  refine q_Jeq rfl rfl (x_up (f := (q_us (x_gi ξ p 0 c i) (z_td (ξ 8 0) (ξ 8 1) c (z_tl (x_fp ξ p) (fun _ => 0) (ξ 8 2) i)) (if ((x_gi ξ p 0 c i) (z_td (ξ 8 0) (ξ 8 1) c (z_tl (x_fp ξ p) (fun _ => 0) (ξ 8 2) i))) < (((ξ 14) c) * (x_fp ξ p (z_tl (x_fp ξ p) (fun _ => 0) (ξ 8 2) i))) then (((ξ 14) c) * (x_fp ξ p (z_tl (x_fp ξ p) (fun _ => 0) (ξ 8 2) i))) else ((x_gi ξ p 0 c i) (z_td (ξ 8 0) (ξ 8 1) c (z_tl (x_fp ξ p) (fun _ => 0) (ξ 8 2) i)))))) rfl) ?_
                  refine q_iinc (lv' := [some (.ref 7), some (.ref (B + p.toNat)), some (q_i 0), some (q_i c), some (q_i (i + 1)), some (q_i (z_tl (x_fp ξ p) (fun _ => 0) (ξ 8 2) i)), some (q_i (z_td (ξ 8 0) (ξ 8 1) c (z_tl (x_fp ξ p) (fun _ => 0) (ξ 8 2) i))), some (q_l (((ξ 14) c) * (x_fp ξ p (z_tl (x_fp ξ p) (fun _ => 0) (ξ 8 2) i)))), none]) dX8_gather_162 rfl (by decide) rfl ?_
                  refine q_goto (tgt := 69) dX8_gather_165 (by decide) ?_
                  exact q_Jle (q_le_s (rfl) (q_le_s (rfl) (q_le_s (rfl) (q_le_s (rfl) (q_le_s (rfl) (q_le_n (q_le_n (q_le_n (q_le_n (q_le_e _)))))))))) (rfl) (by rw [m_uu, x_gi_s hG hc0 htl.1.1 htl.1.2 htl.2.1 htl.2.2 (by unfold x_op; rw [if_neg (show ¬ (0 : Int) = 1 by decide)])]) (ih69 (i + 1) (by omega) (by omega) (by omega) (by omega))
          exact q_Jle (q_le_s (rfl) (q_le_s (rfl) (q_le_s (rfl) (q_le_s (rfl) (q_le_s (rfl) (q_le_n (q_le_n (q_le_n (q_le_n (q_le_e _)))))))))) (rfl) (by rw [x_gi_0]) (L69 ((ξ 1003 p : Int).toNat + 1) 0 (by omega) (by omega) (by omega) (by omega))
    exact q_Jle (q_le_s (rfl) (q_le_s (rfl) (q_le_s (rfl) (q_le_s (rfl) (q_le_n (q_le_n (q_le_n (q_le_n (q_le_n (q_le_e _)))))))))) (rfl) (by rw [x_gc_0 ξ p 0]) (L55 ((ξ 8 2 : Int).toNat + 1) 0 (by omega) (by omega) (by omega))
  · skip
    refine q_aload_n dX8_gather_7 rfl ?_
    refine q_aload_n dX8_gather_8 rfl ?_
    refine q_get (v := .ref 15) fX8_35_8 rfl rfl dX8_gather_9 ?_
    refine q_iload_n dX8_gather_12 rfl ?_
    refine q_if_eq (tgt := 27) dX8_gather_13 (by decide) ⟨by decide, by decide⟩ (fun h13 => ?_) (fun h13 => False.elim (by omega))
    refine q_aload_n dX8_gather_27 rfl ?_
    refine q_get (v := .ref 14) fX8_31_8 rfl rfl dX8_gather_28 ?_
    refine q_aload_n dX8_gather_31 rfl ?_
    refine q_aload_n dX8_gather_32 rfl ?_
    refine q_get (v := .ref 14) fX8_31_8 rfl rfl dX8_gather_33 ?_
    refine q_cV [.ref 14] kX8_190_8 rfl (tX8_likeliest_14 w ξ B P g (show 0 ≤ ξ 8 2 ∧ ξ 8 2 ≤ 216 by omega) (fun c h0 h1 => ⟨(hV c h0 h1).1, Int.le_trans (hV c h0 h1).2 (by decide)⟩) (show (0:Int) < ξ 8 2 by omega)) dX8_gather_36 rfl (by decide) (Nat.le_of_ble_eq_true rfl) rfl ?_
    refine q_lald (f := (ξ 14)) (n9 := 216) rfl (z_am_r (ξ 14) (by omega)).1 (show _ < (216 : Int) by have := (z_am_r (ξ 14) (n := ξ 8 2) (by omega)).2; omega) dX8_gather_39 ?_
    refine q_cVv [.ref 15, q_l ((ξ 14) (z_am (ξ 14) (ξ 8 2)))] kX8_127_8 rfl (tX8_setAll_15 w ξ B P g ((ξ 14) (z_am (ξ 14) (ξ 8 2))) (show 0 ≤ ξ 8 2 ∧ ξ 8 2 ≤ 216 by omega)) dX8_gather_40 rfl (by decide) (Nat.le_of_ble_eq_true rfl) rfl ?_
    exact q_vret rfl dX8_gather_43 (⟨rfl, by rw [(x_gb h4 (by omega) hV).2]⟩)
