/-! the class: the wheels made -/
def x_nr (W N : Int) (f : Int → Int) (s v : Int) : Int → Int := fun j => if 0 ≤ j ∧ ((j < 3 * s ∧ j % 3 < W) ∨ (j / 3 = s ∧ v < j % 3 ∧ j % 3 < W)) then z_nt W N (j / 3) (j % 3) else f j
theorem x_nr_0 {W N : Int} (f : Int → Int) : x_nr W N f 0 (W - 1) = f := by
  funext j
  unfold x_nr
  rw [if_neg (by omega)]
theorem x_nr_s {W N : Int} (hW : W ≤ 3) {f : Int → Int} {s v x : Int} (hs : 0 ≤ s) (h0 : 0 ≤ v) (h1 : v < W) (hx : x = z_nt W N s v) : q_us (x_nr W N f s v) (3 * s + v) x = x_nr W N f s (v - 1) := by
  funext j
  unfold q_us x_nr
  by_cases e : j = 3 * s + v
  · rw [if_pos e, if_pos (by omega), show j / 3 = s by omega, show j % 3 = v by omega, hx]
  · rw [if_neg e]
    by_cases h2 : 0 ≤ j ∧ ((j < 3 * s ∧ j % 3 < W) ∨ (j / 3 = s ∧ v < j % 3 ∧ j % 3 < W))
    · rw [if_pos h2, if_pos (by omega)]
    · rw [if_neg h2, if_neg (by omega)]
theorem x_nr_e {W N : Int} (hW : W ≤ 3) (f : Int → Int) {s v : Int} (hs : 0 ≤ s) (hv : v < 0) : x_nr W N f s v = x_nr W N f (s + 1) (W - 1) := by
  funext j
  unfold x_nr
  by_cases h2 : 0 ≤ j ∧ ((j < 3 * s ∧ j % 3 < W) ∨ (j / 3 = s ∧ v < j % 3 ∧ j % 3 < W))
  · rw [if_pos h2, if_pos (by omega)]
  · rw [if_neg h2, if_neg (by omega)]
def x_w8 (f : Int → Int) (W N S : Int) : Int → Int := q_us (q_us (q_us f 0 W) 1 N) 2 S
theorem x_w8_2 (f : Int → Int) (W N S S' : Int) : q_us (x_w8 f W N S) 2 S' = x_w8 f W N S' := q_us_us _ _ _ _
def x_mk (ξ : m_S) (W N : Int) : m_S := m_u (m_u ξ 8 (x_w8 (ξ 8) W N (z_pw N W))) 9 (x_nr W N (ξ 9) (z_pw N W) (W - 1))
theorem x_mk_G {ξ : m_S} {W N : Int} (h : z_WN W N) : x_G (x_mk ξ W N) := by
  have hW := h.1
  refine ⟨h, rfl, fun s v h0 h1 h2 h3 => ?_⟩
  have h1' : s < z_pw N W := h1
  have h3' : v < W := h3
  show x_nr W N (ξ 9) (z_pw N W) (W - 1) (3 * s + v) = z_nt W N s v
  unfold x_nr
  rw [if_pos (by omega), show (3 * s + v) / 3 = s by omega, show (3 * s + v) % 3 = v by omega]
theorem z_dd {s a N : Int} (hs : 0 ≤ s) (ha : 0 ≤ a) : (s.tdiv a).tdiv N = s.tdiv (a * N) := by
  rw [Int.tdiv_eq_ediv_of_nonneg hs, Int.tdiv_eq_ediv_of_nonneg (Int.ediv_nonneg hs ha), Int.tdiv_eq_ediv_of_nonneg hs, Int.ediv_ediv_of_nonneg ha]
set_option maxRecDepth 20000 in
theorem tX10_make (w : q_W) (ξ : m_S) (B P : Nat) (g : Int → Option Nat) (W N : Int) (h : z_WN W N) : q_D mX10_make 1 [.ref 8, q_i W, q_i N] (x_w w ξ B P g) none (x_w w (x_mk ξ W N) B P g) := by
  refine q_T.of (lv := [some (.ref 8), some (q_i W), some (q_i N), none, none, none]) (by decide) rfl (Nat.le_of_ble_eq_true rfl) ?_
  have hW := h.1
  have hN := h.2
  have hpw := z_pw_r hN (n := W) (by omega) (by omega)
  refine q_aload_n dX10_make_0 rfl ?_
  refine q_iload_n dX10_make_1 rfl ?_
  refine q_iconst dX10_make_2 ?_
  refine q_jmin wd_390 wd_292 wd_68 wd_293 (by decide) (Nat.le_of_ble_eq_true rfl) ⟨by omega, by omega⟩ ⟨by decide, by decide⟩ dX10_make_3 ?_
  rw [show (if (3 : Int) < W then (3 : Int) else W) = W by rw [if_neg (by omega)]]
  refine q_puti (fs := [q_i (ξ 8 0), q_i (ξ 8 1), q_i (ξ 8 2), .ref 9]) pX10_9_10 rfl (Nat.le_of_ble_eq_true rfl) dX10_make_6 ?_
  refine q_Jeq rfl rfl (x_up (f := (q_us (ξ 8) 0 W)) rfl) ?_
  refine q_aload_n dX10_make_9 rfl ?_
  refine q_iload_n dX10_make_10 rfl ?_
  refine q_puti (fs := [q_i W, q_i (ξ 8 1), q_i (ξ 8 2), .ref 9]) pX10_15_10 rfl (Nat.le_of_ble_eq_true rfl) dX10_make_11 ?_
  refine q_Jeq rfl rfl (x_up (f := (q_us (q_us (ξ 8) 0 W) 1 N)) rfl) ?_
  refine q_aload_n dX10_make_14 rfl ?_
  refine q_iconst dX10_make_15 ?_
  refine q_puti (fs := [q_i W, q_i N, q_i (ξ 8 2), .ref 9]) pX10_18_10 rfl (Nat.le_of_ble_eq_true rfl) dX10_make_16 ?_
  refine q_Jeq rfl rfl (x_up (f := (q_us (q_us (q_us (ξ 8) 0 W) 1 N) 2 1)) rfl) ?_
  rw [m_uu, m_uu]
  show q_J _ _ _ _ _ _ _ _ (x_w w (m_u ξ 8 (x_w8 (ξ 8) W N 1)) B P g)
  refine q_iconst dX10_make_19 ?_
  refine q_istore_n (lv' := [some (.ref 8), some (q_i W), some (q_i N), some (q_i 0), none, none]) dX10_make_20 (by decide) rfl ?_
  have L21 : ∀ (m9 : Nat) (k : Int) (hk0 : 0 ≤ k) (hk1 : k ≤ W) (hm9 : W - k < (m9 : Int)), q_J mX10_make 1 (fun v' w' => v' = none ∧ w' = (x_w w (x_mk ξ W N) B P g)) 0 0 21 [some (.ref 8), some (q_i W), some (q_i N), some (q_i k), none, none] [] (x_w w (m_u ξ 8 (x_w8 (ξ 8) W N (z_pw N k))) B P g) := by
    intro m9
    induction m9 with
    | zero => intro k hk0 hk1 hm9; exact absurd hm9 (by omega)
    | succ m9 ih21 =>
      intro k hk0 hk1 hm9
      refine q_iload_n dX10_make_21 rfl ?_
      refine q_aload_n dX10_make_22 rfl ?_
      refine q_get (v := q_i W) fX10_9_10 rfl rfl dX10_make_23 ?_
      refine q_icmp_ge (tgt := 54) dX10_make_26 (by decide) ⟨by omega, by omega⟩ ⟨by omega, by omega⟩ (fun h26 => ?_) (fun h26 => ?_)
      · skip
        refine q_iconst dX10_make_54 ?_
        refine q_istore_n (lv' := [some (.ref 8), some (q_i W), some (q_i N), some (q_i 0), none, none]) dX10_make_55 (by decide) rfl ?_
        have L56 : ∀ (m9 : Nat) (s : Int) (hs0 : 0 ≤ s) (hs1 : s ≤ (z_pw N W)) (hm9 : (z_pw N W) - s < (m9 : Int)), q_J mX10_make 1 (fun v' w' => v' = none ∧ w' = (x_w w (x_mk ξ W N) B P g)) 0 0 56 [some (.ref 8), some (q_i W), some (q_i N), some (q_i s), none, none] [] (x_w w (m_u (m_u ξ 8 (x_w8 (ξ 8) W N (z_pw N W))) 9 (x_nr W N (ξ 9) s (W - 1))) B P g) := by
          intro m9
          induction m9 with
          | zero => intro s hs0 hs1 hm9; exact absurd hm9 (by omega)
          | succ m9 ih56 =>
            intro s hs0 hs1 hm9
            refine q_iload_n dX10_make_56 rfl ?_
            refine q_aload_n dX10_make_57 rfl ?_
            refine q_get (v := q_i (z_pw N W)) fX10_18_10 rfl rfl dX10_make_58 ?_
            refine q_icmp_ge (tgt := 126) dX10_make_61 (by decide) ⟨by omega, by omega⟩ ⟨by omega, by omega⟩ (fun h61 => ?_) (fun h61 => ?_)
            · skip
              exact q_vret rfl dX10_make_126 (⟨rfl, by rw [show s = (z_pw N W) by omega]; rfl⟩)
            · skip
              refine q_aload_n dX10_make_64 rfl ?_
              refine q_get (v := q_i N) fX10_15_10 rfl rfl dX10_make_65 ?_
              refine q_if_le (tgt := 126) dX10_make_68 (by decide) ⟨by omega, by omega⟩ (fun h68 => False.elim (by omega)) (fun h68 => ?_)
              refine q_iload_n dX10_make_71 rfl ?_
              refine q_istore (lv' := [some (.ref 8), some (q_i W), some (q_i N), some (q_i s), some (q_i s), none]) dX10_make_72 (by decide) rfl ?_
              refine q_aload_n dX10_make_74 rfl ?_
              refine q_get (v := q_i W) fX10_9_10 rfl rfl dX10_make_75 ?_
              refine q_iconst dX10_make_78 ?_
              refine q_isub dX10_make_79 ?_
              refine q_istore (lv' := [some (.ref 8), some (q_i W), some (q_i N), some (q_i s), some (q_i s), some (q_i (W - 1))]) dX10_make_80 (by decide) rfl ?_
              have L82 : ∀ (m9 : Nat) (v : Int) (hv0 : -1 ≤ v) (hv1 : v ≤ W - 1) (hm9 : v + 1 < (m9 : Int)), q_J mX10_make 1 (fun v' w' => v' = none ∧ w' = (x_w w (x_mk ξ W N) B P g)) 0 0 82 [some (.ref 8), some (q_i W), some (q_i N), some (q_i s), some (q_i (s.tdiv (z_pw N (W - 1 - v)))), some (q_i v)] [] (x_w w (m_u (m_u ξ 8 (x_w8 (ξ 8) W N (z_pw N W))) 9 (x_nr W N (ξ 9) s v)) B P g) := by
                intro m9
                induction m9 with
                | zero => intro v hv0 hv1 hm9; exact absurd hm9 (by omega)
                | succ m9 ih82 =>
                  intro v hv0 hv1 hm9
                  refine q_iload dX10_make_82 rfl ?_
                  refine q_if_lt (tgt := 120) dX10_make_84 (by decide) ⟨by omega, by omega⟩ (fun h84 => ?_) (fun h84 => ?_)
                  · skip
                    refine q_iinc (lv' := [some (.ref 8), some (q_i W), some (q_i N), some (q_i (s + 1)), some (q_i (s.tdiv (z_pw N (W - 1 - v)))), some (q_i v)]) dX10_make_120 rfl (by decide) rfl ?_
                    refine q_goto (tgt := 56) dX10_make_123 (by decide) ?_
                    exact q_Jle (q_le_s (rfl) (q_le_s (rfl) (q_le_s (rfl) (q_le_s (rfl) (q_le_n (q_le_n (q_le_e _))))))) (rfl) (by rw [x_nr_e (by omega) _ hs0 (by omega)]) (ih56 (s + 1) (by omega) (by omega) (by omega))
                  · skip
                    have hpv := z_pw_r hN (n := W - 1 - v) (by omega) (by omega)
                    have hdv : 0 ≤ s.tdiv (z_pw N (W - 1 - v)) := Int.tdiv_nonneg hs0 (by omega)
                    have hdw : s.tdiv (z_pw N (W - 1 - v)) ≤ s := Int.tdiv_le_self _ hs0
                    refine q_aload_n dX10_make_87 rfl ?_
                    refine q_get (v := .ref 9) fX10_21_10 rfl rfl dX10_make_88 ?_
                    refine q_iconst dX10_make_91 ?_
                    refine q_iload_n dX10_make_92 rfl ?_
                    refine q_imul dX10_make_93 ?_
                    refine q_iload dX10_make_94 rfl ?_
                    refine q_iadd dX10_make_96 ?_
                    refine q_iload dX10_make_97 rfl ?_
                    refine q_aload_n dX10_make_99 rfl ?_
                    refine q_get (v := q_i N) fX10_15_10 rfl rfl dX10_make_100 ?_
                    refine q_irem dX10_make_103 ⟨by omega, by omega⟩ ⟨by omega, by omega⟩ (by omega) (by omega) ?_
                    refine q_iast (f := (x_nr W N (ξ 9) s v)) (n9 := 648) rfl (by omega) (by omega) dX10_make_104 ?_
                    refine q_Jeq rfl rfl (x_up (f := (q_us (x_nr W N (ξ 9) s v) ((3 * s) + v) (((s.tdiv (z_pw N (W - 1 - v)))).tmod N))) rfl) ?_
                    refine q_iload dX10_make_105 rfl ?_
                    refine q_aload_n dX10_make_107 rfl ?_
                    refine q_get (v := q_i N) fX10_15_10 rfl rfl dX10_make_108 ?_
                    refine q_idiv dX10_make_111 ⟨by omega, by omega⟩ ⟨by omega, by omega⟩ (by omega) (by omega) ?_
                    refine q_istore (lv' := [some (.ref 8), some (q_i W), some (q_i N), some (q_i s), some (q_i (((s.tdiv (z_pw N (W - 1 - v)))).tdiv N)), some (q_i v)]) dX10_make_112 (by decide) rfl ?_
                    refine q_iinc (lv' := [some (.ref 8), some (q_i W), some (q_i N), some (q_i s), some (q_i (((s.tdiv (z_pw N (W - 1 - v)))).tdiv N)), some (q_i (v + (-1)))]) dX10_make_114 rfl (by decide) rfl ?_
                    refine q_goto (tgt := 82) dX10_make_117 (by decide) ?_
                    exact q_Jle (q_le_s (rfl) (q_le_s (rfl) (q_le_s (rfl) (q_le_s (rfl) (q_le_s (by rw [show W - 1 - (v - 1) = (W - 1 - v) + 1 by omega, z_pw_s N (by omega), z_dd hs0 (by omega)]) (q_le_s (by rw [show v + -1 = v - 1 by omega]) (q_le_e _))))))) (rfl) (by rw [m_uu, x_nr_s (x := (s.tdiv (z_pw N (W - 1 - v))).tmod N) (by omega) hs0 (by omega) (by omega) rfl]) (ih82 (v - 1) (by omega) (by omega) (by omega))
              exact q_Jle (q_le_s (rfl) (q_le_s (rfl) (q_le_s (rfl) (q_le_s (rfl) (q_le_s (by rw [show W - 1 - (W - 1) = 0 by omega, z_pw_0, Int.tdiv_one]) (q_le_s (rfl) (q_le_e _))))))) (rfl) (rfl) (L82 ((W : Int).toNat + 1) (W - 1) (by omega) (by omega) (by omega))
        exact q_Jle (q_le_s (rfl) (q_le_s (rfl) (q_le_s (rfl) (q_le_s (rfl) (q_le_n (q_le_n (q_le_e _))))))) (rfl) (by rw [show k = W by omega, x_nr_0, show ξ 9 = (m_u ξ 8 (x_w8 (ξ 8) W N (z_pw N W))) 9 from rfl, m_uid]) (L56 (((z_pw N W) : Int).toNat + 1) 0 (by omega) (by omega) (by omega))
      · skip
        refine q_aload_n dX10_make_29 rfl ?_
        refine q_sipush dX10_make_30 ?_
        refine q_aload_n dX10_make_33 rfl ?_
        refine q_get (v := q_i (z_pw N k)) fX10_18_10 rfl rfl dX10_make_34 ?_
        refine q_aload_n dX10_make_37 rfl ?_
        refine q_get (v := q_i N) fX10_15_10 rfl rfl dX10_make_38 ?_
        refine q_imul dX10_make_41 ?_
        have hpk := z_pw_r hN (n := k + 1) (by omega) (by omega)
        rw [← z_pw_s N hk0]
        refine q_jmin wd_390 wd_292 wd_68 wd_293 (by decide) (Nat.le_of_ble_eq_true rfl) ⟨by decide, by decide⟩ ⟨by omega, by omega⟩ dX10_make_42 ?_
        rw [show (if z_pw N (k + 1) < 216 then z_pw N (k + 1) else 216) = z_pw N (k + 1) by split <;> omega]
        refine q_puti (fs := [q_i W, q_i N, q_i (z_pw N k), .ref 9]) pX10_18_10 rfl (Nat.le_of_ble_eq_true rfl) dX10_make_45 ?_
        refine q_Jeq rfl rfl (x_up (f := (q_us (x_w8 (ξ 8) W N (z_pw N k)) 2 (z_pw N (k + 1)))) rfl) ?_
        refine q_iinc (lv' := [some (.ref 8), some (q_i W), some (q_i N), some (q_i (k + 1)), none, none]) dX10_make_48 rfl (by decide) rfl ?_
        refine q_goto (tgt := 21) dX10_make_51 (by decide) ?_
        exact q_Jle (q_le_s (rfl) (q_le_s (rfl) (q_le_s (rfl) (q_le_s (rfl) (q_le_n (q_le_n (q_le_e _))))))) (rfl) (by rw [m_uu, x_w8_2]) (ih21 (k + 1) (by omega) (by omega) (by omega))
  exact q_Jle (q_le_s (rfl) (q_le_s (rfl) (q_le_s (rfl) (q_le_s (rfl) (q_le_n (q_le_n (q_le_e _))))))) (rfl) (rfl) (L21 ((W : Int).toNat + 1) 0 (by omega) (by omega) (by omega))
