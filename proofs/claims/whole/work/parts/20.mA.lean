/-! the reference: rows and texts -/
def m_find (μ : m_S) (z : Int) : m_S := m_u (m_u μ 14 (fun _ => z)) 15 (q_us (μ 15) z (μ 15 z + 1))
/-- f with v at k places from s on -/
def q_fl (f : Int → Int) (s k v : Int) : Int → Int := fun j => if s ≤ j ∧ j < s + k then v else f j
theorem q_fl_0 (f : Int → Int) (s v : Int) : q_fl f s 0 v = f := by
  funext j
  unfold q_fl
  rw [if_neg (by omega)]
theorem q_fl_s (f : Int → Int) (s : Int) {k : Int} (v : Int) (hk : 0 ≤ k) : q_us (q_fl f s k v) (s + k) v = q_fl f s (k + 1) v := by
  funext j
  unfold q_us q_fl
  by_cases h : j = s + k
  · rw [if_pos h, if_pos (by omega)]
  · rw [if_neg h]
    by_cases h2 : s ≤ j ∧ j < s + k
    · rw [if_pos h2, if_pos (by omega)]
    · rw [if_neg h2, if_neg (by omega)]
theorem tX12_in (v a b : Int) (hv : q_rl v) (ha : q_rl a) (hb : q_rl b) (w : q_W) : q_D mX12_in 0 [q_l v, q_l a, q_l b] w (some (q_b (a ≤ v ∧ v ≤ b))) w := by
  refine q_T.of (lv := [some (q_l v), none, some (q_l a), none, some (q_l b), none]) (by decide) rfl (Nat.le_of_ble_eq_true rfl) ?_
  refine q_lload_n dX12_in_0 rfl ?_
  refine q_lload_n dX12_in_1 rfl ?_
  refine q_lcmp_lt (tgt := 17) dX12_in_2 dX12_in_3 (by decide) hv ha (fun h2 => ?_) (fun h2 => ?_)
  · skip
    refine q_iconst dX12_in_17 ?_
    exact q_zret rfl (Or.inl rfl) dX12_in_18 (⟨congrArg some (q_b0 (by omega)), rfl⟩)
  · skip
    refine q_lload_n dX12_in_6 rfl ?_
    refine q_lload dX12_in_7 rfl ?_
    refine q_lcmp_gt (tgt := 17) dX12_in_9 dX12_in_10 (by decide) hv hb (fun h9 => ?_) (fun h9 => ?_)
    · skip
      refine q_iconst dX12_in_17 ?_
      exact q_zret rfl (Or.inl rfl) dX12_in_18 (⟨congrArg some (q_b0 (by omega)), rfl⟩)
    · skip
      refine q_iconst dX12_in_13 ?_
      refine q_goto (tgt := 18) dX12_in_14 (by decide) ?_
      exact q_zret rfl (Or.inr rfl) dX12_in_18 (⟨congrArg some (q_b1 (by omega)), rfl⟩)
set_option maxRecDepth 20000 in
theorem tX12_find (w : q_W) (μ : m_S) (z : Int) (h0 : 0 ≤ z) (h1 : z < 6) : q_D mX12_find 0 [.ref 64, q_i z] (m_w w μ) (some (q_i (-3))) (m_w w (m_find μ z)) := by
  refine q_T.of (lv := [some (.ref 64), some (q_i z)]) (by decide) rfl (Nat.le_of_ble_eq_true rfl) ?_
  refine q_aload_n dX12_find_0 rfl ?_
  refine q_iload_n dX12_find_1 rfl ?_
  refine q_puti (fs := m_o μ) pX12_48_12 rfl (Nat.le_of_ble_eq_true rfl) dX12_find_2 ?_
  rw [m_p14]
  refine q_aload_n dX12_find_5 rfl ?_
  refine q_get (v := .ref 72) fX12_36_12 rfl rfl dX12_find_6 ?_
  refine q_iload_n dX12_find_9 rfl ?_
  refine q_dup2 dX12_find_10 rfl rfl ?_
  refine q_iald (f := (μ 15)) (n9 := 6) rfl (by omega) (by omega) dX12_find_11 ?_
  refine q_iconst dX12_find_12 ?_
  refine q_iadd dX12_find_13 ?_
  refine q_iast (f := (μ 15)) (n9 := 6) rfl (by omega) (by omega) dX12_find_14 ?_
  rw [m_a15]
  refine q_bipush dX12_find_15 ?_
  exact q_iret rfl dX12_find_17 (⟨rfl, rfl⟩)
set_option maxRecDepth 20000 in
theorem tX12_tell (w : q_W) (μ : m_S) (z : Int) : q_D mX12_tell 0 [.ref 64, q_i z] (m_w w μ) (some (q_i 1)) (m_w w (m_u μ 11 (fun _ => z))) := by
  refine q_T.of (lv := [some (.ref 64), some (q_i z)]) (by decide) rfl (Nat.le_of_ble_eq_true rfl) ?_
  refine q_aload_n dX12_tell_0 rfl ?_
  refine q_iload_n dX12_tell_1 rfl ?_
  refine q_puti (fs := m_o μ) pX12_52_12 rfl (Nat.le_of_ble_eq_true rfl) dX12_tell_2 ?_
  rw [m_p11]
  refine q_iconst dX12_tell_5 ?_
  exact q_iret rfl dX12_tell_6 (⟨rfl, rfl⟩)
set_option maxRecDepth 20000 in
theorem tX12_isRow (w : q_W) (r : Int) (hr : q_r r) : q_D mX12_isRow 1 [q_i r] w (some (q_b (0 ≤ r ∧ r ≤ 5))) w := by
  refine q_T.of (lv := [some (q_i r)]) (by decide) rfl (Nat.le_of_ble_eq_true rfl) ?_
  refine q_iload_n dX12_isRow_0 rfl ?_
  refine q_i2lr dX12_isRow_1 hr ?_
  refine q_lconst 0 dX12_isRow_2 ?_
  refine q_ldc2 5 wd_1097 dX12_isRow_3 ?_
  refine q_cS [q_l r, q_l 0, q_l 5] kX12_57 (tX12_in r 0 5 (⟨by have := (hr).1; omega, by have := (hr).2; omega⟩) (⟨by decide, by decide⟩) (⟨by decide, by decide⟩) w) dX12_isRow_6 rfl (by decide) (Nat.le_of_ble_eq_true rfl) rfl ?_
  exact q_zret rfl (by split <;> simp) dX12_isRow_9 (⟨rfl, rfl⟩)
set_option maxRecDepth 20000 in
theorem tX12_isText (w : q_W) (r : Int) (hr : q_r r) : q_D mX12_isText 1 [q_i r] w (some (q_b (0 ≤ r ∧ r ≤ 3))) w := by
  refine q_T.of (lv := [some (q_i r)]) (by decide) rfl (Nat.le_of_ble_eq_true rfl) ?_
  refine q_iload_n dX12_isText_0 rfl ?_
  refine q_i2lr dX12_isText_1 hr ?_
  refine q_lconst 0 dX12_isText_2 ?_
  refine q_ldc2 3 wd_1148 dX12_isText_3 ?_
  refine q_cS [q_l r, q_l 0, q_l 3] kX12_57 (tX12_in r 0 3 (⟨by have := (hr).1; omega, by have := (hr).2; omega⟩) (⟨by decide, by decide⟩) (⟨by decide, by decide⟩) w) dX12_isText_6 rfl (by decide) (Nat.le_of_ble_eq_true rfl) rfl ?_
  exact q_zret rfl (by split <;> simp) dX12_isText_9 (⟨rfl, rfl⟩)
/-- what always holds of the reference's numbers -/
def m_I (μ : m_S) : Prop := (∀ r, 0 ≤ r → r ≤ 5 → -1 ≤ μ 7 r ∧ μ 7 r ≤ 40) ∧ (∀ j, q_r (μ 8 j)) ∧ (∀ t, 0 ≤ t → t ≤ 3 → -1 ≤ μ 9 t ∧ μ 9 t ≤ 60) ∧ (∀ j, -128 ≤ μ 10 j ∧ μ 10 j ≤ 127)
theorem m_I.sz {μ : m_S} (h : m_I μ) (r : Int) (h0 : 0 ≤ r) (h5 : r ≤ 5) : -1 ≤ μ 7 r ∧ μ 7 r ≤ 40 := h.1 r h0 h5
theorem m_I.it {μ : m_S} (h : m_I μ) (j : Int) : q_r (μ 8 j) := h.2.1 j
theorem m_I.ln {μ : m_S} (h : m_I μ) (r : Int) (h0 : 0 ≤ r) (h5 : r ≤ 3) : -1 ≤ μ 9 r ∧ μ 9 r ≤ 60 := h.2.2.1 r h0 h5
theorem m_I.by8 {μ : m_S} (h : m_I μ) (j : Int) : -128 ≤ μ 10 j ∧ μ 10 j ≤ 127 := h.2.2.2 j
def m_mk (μ : m_S) (r n : Int) : m_S := m_u (m_u μ 7 (q_us (μ 7) r n)) 8 (q_fl (μ 8) (40 * r) 40 0)
set_option maxRecDepth 20000 in
theorem tX12_makeRow (w : q_W) (μ : m_S) (r : Int) (h0 : 0 ≤ r) (h5 : r ≤ 5) (n : Int) : q_D mX12_makeRow 0 [.ref 64, q_i r, q_i n] (m_w w μ) none (m_w w (m_mk μ r n)) := by
  refine q_T.of (lv := [some (.ref 64), some (q_i r), some (q_i n), none]) (by decide) rfl (Nat.le_of_ble_eq_true rfl) ?_
  refine q_aload_n dX12_makeRow_0 rfl ?_
  refine q_get (v := .ref 68) fX12_20_12 rfl rfl dX12_makeRow_1 ?_
  refine q_iload_n dX12_makeRow_4 rfl ?_
  refine q_iload_n dX12_makeRow_5 rfl ?_
  refine q_iast (f := (μ 7)) (n9 := 6) rfl (by omega) (by omega) dX12_makeRow_6 ?_
  rw [m_a7]
  refine q_iconst dX12_makeRow_7 ?_
  refine q_istore_n (lv' := [some (.ref 64), some (q_i r), some (q_i n), some (q_i 0)]) dX12_makeRow_8 (by decide) rfl ?_
  have L9 : ∀ (m9 : Nat) (k : Int) (hk0 : 0 ≤ k) (hk1 : k ≤ 40) (hm9 : 40 - k < (m9 : Int)), q_J mX12_makeRow 0 (fun v' w' => v' = none ∧ w' = (m_w w (m_mk μ r n))) 0 0 9 [some (.ref 64), some (q_i r), some (q_i n), some (q_i k)] [] (m_w w (m_u (m_u μ 7 (q_us (μ 7) r n)) 8 (q_fl (μ 8) (40 * r) k 0))) := by
    intro m9
    induction m9 with
    | zero => intro k hk0 hk1 hm9; exact absurd hm9 (by omega)
    | succ m9 ih9 =>
      intro k hk0 hk1 hm9
      refine q_iload_n dX12_makeRow_9 rfl ?_
      refine q_bipush dX12_makeRow_10 ?_
      refine q_icmp_ge (tgt := 33) dX12_makeRow_12 (by decide) ⟨by omega, by omega⟩ ⟨by decide, by decide⟩ (fun h12 => ?_) (fun h12 => ?_)
      · skip
        exact q_vret rfl dX12_makeRow_33 (⟨rfl, by rw [show k = 40 by omega]; rfl⟩)
      · skip
        refine q_aload_n dX12_makeRow_15 rfl ?_
        refine q_get (v := .ref 69) fX12_23_12 rfl rfl dX12_makeRow_16 ?_
        refine q_bipush dX12_makeRow_19 ?_
        refine q_iload_n dX12_makeRow_21 rfl ?_
        refine q_imul dX12_makeRow_22 ?_
        refine q_iload_n dX12_makeRow_23 rfl ?_
        refine q_iadd dX12_makeRow_24 ?_
        refine q_iconst dX12_makeRow_25 ?_
        refine q_iast (f := (q_fl (μ 8) (40 * r) k 0)) (n9 := 240) rfl (by omega) (by omega) dX12_makeRow_26 ?_
        rw [m_a8]
        refine q_iinc (lv' := [some (.ref 64), some (q_i r), some (q_i n), some (q_i (k + 1))]) dX12_makeRow_27 rfl (by decide) rfl ?_
        refine q_goto (tgt := 9) dX12_makeRow_30 (by decide) ?_
        exact q_Jle (q_le_s (rfl) (q_le_s (rfl) (q_le_s (rfl) (q_le_s (rfl) (q_le_e _))))) (rfl) (by rw [m_uu, q_fl_s _ _ _ hk0]) (ih9 (k + 1) (by omega) (by omega) (by omega))
  exact q_Jle (q_le_s (rfl) (q_le_s (rfl) (q_le_s (rfl) (q_le_s (rfl) (q_le_e _))))) (rfl) (by rw [q_fl_0]; exact (congrArg (m_w w) (m_uid _ 8)).symm) (L9 ((40 : Int).toNat + 1) 0 (by omega) (by omega) (by omega))
def m_row_v (μ : m_S) (r n : Int) : Int := if ¬ (0 ≤ r ∧ r ≤ 5) then -1 else if 40 < n then -1 else if n < 0 then -3 else n
def m_row_s (μ : m_S) (r n : Int) : m_S := if ¬ (0 ≤ r ∧ r ≤ 5) then μ else if 40 < n then μ else if n < 0 then m_find μ 5 else m_mk μ r n
set_option maxRecDepth 20000 in
theorem tX12_row (w : q_W) (μ : m_S) (r n : Int) (hr : q_r r) (hn : q_r n) : q_D mX12_row 2 [.ref 64, q_i r, q_i n] (m_w w μ) (some (q_i (m_row_v μ r n))) (m_w w (m_row_s μ r n)) := by
  refine q_T.of (lv := [some (.ref 64), some (q_i r), some (q_i n)]) (by decide) rfl (Nat.le_of_ble_eq_true rfl) ?_
  refine q_iload_n dX12_row_0 rfl ?_
  refine q_cS [q_i r] kX12_63 (tX12_isRow (m_w w μ) r (hr)) dX12_row_1 rfl (by decide) (Nat.le_of_ble_eq_true rfl) rfl ?_
  refine q_ifb_eq (tgt := 13) dX12_row_4 (by decide) (fun h4 => ?_) (fun h4 => ?_)
  · skip
    refine q_iconst dX12_row_13 ?_
    exact q_iret rfl dX12_row_14 (⟨by (unfold m_row_v; (repeat' split) <;> first | rfl | (exfalso; omega)), by (unfold m_row_s; (repeat' split) <;> first | rfl | (exfalso; omega))⟩)
  · skip
    refine q_iload_n dX12_row_7 rfl ?_
    refine q_bipush dX12_row_8 ?_
    refine q_icmp_le (tgt := 15) dX12_row_10 (by decide) hn ⟨by decide, by decide⟩ (fun h10 => ?_) (fun h10 => ?_)
    · skip
      refine q_iload_n dX12_row_15 rfl ?_
      refine q_if_ge (tgt := 25) dX12_row_16 (by decide) hn (fun h16 => ?_) (fun h16 => ?_)
      · skip
        refine q_aload_n dX12_row_25 rfl ?_
        refine q_iload_n dX12_row_26 rfl ?_
        refine q_iload_n dX12_row_27 rfl ?_
        refine q_cVv [q_i r, q_i n] kX12_71_12 rfl (tX12_makeRow w μ r (by omega) (by omega) n) dX12_row_28 rfl (by decide) (Nat.le_of_ble_eq_true rfl) rfl ?_
        refine q_iload_n dX12_row_31 rfl ?_
        exact q_iret rfl dX12_row_32 (⟨by (unfold m_row_v; (repeat' split) <;> first | rfl | (exfalso; omega)), by (unfold m_row_s; (repeat' split) <;> first | rfl | (exfalso; omega))⟩)
      · skip
        refine q_aload_n dX12_row_19 rfl ?_
        refine q_iconst dX12_row_20 ?_
        refine q_cV [q_i 5] kX12_67_12 rfl (tX12_find w μ 5 (by decide) (by decide)) dX12_row_21 rfl (by decide) (Nat.le_of_ble_eq_true rfl) rfl ?_
        exact q_iret rfl dX12_row_24 (⟨by (unfold m_row_v; (repeat' split) <;> first | rfl | (exfalso; omega)), by (unfold m_row_s; (repeat' split) <;> first | rfl | (exfalso; omega))⟩)
    · skip
      refine q_iconst dX12_row_13 ?_
      exact q_iret rfl dX12_row_14 (⟨by (unfold m_row_v; (repeat' split) <;> first | rfl | (exfalso; omega)), by (unfold m_row_s; (repeat' split) <;> first | rfl | (exfalso; omega))⟩)
def m_ref_v (μ : m_S) (r i : Int) : Int := if ¬ (0 ≤ r ∧ r ≤ 5) then -1 else if μ 7 r < 0 then -3 else if 0 ≤ i ∧ i ≤ μ 7 r - 1 then 0 else -3
def m_ref_s (μ : m_S) (r i : Int) : m_S := if ¬ (0 ≤ r ∧ r ≤ 5) then μ else if μ 7 r < 0 then m_find μ 1 else if 0 ≤ i ∧ i ≤ μ 7 r - 1 then μ else m_find μ 2
set_option maxRecDepth 20000 in
theorem tX12_refused (w : q_W) (μ : m_S) (r i : Int) (hr : q_r r) (hi : q_r i) (hI : m_I μ) : q_D mX12_refused 2 [.ref 64, q_i r, q_i i] (m_w w μ) (some (q_i (m_ref_v μ r i))) (m_w w (m_ref_s μ r i)) := by
  refine q_T.of (lv := [some (.ref 64), some (q_i r), some (q_i i)]) (by decide) rfl (Nat.le_of_ble_eq_true rfl) ?_
  refine q_iload_n dX12_refused_0 rfl ?_
  refine q_cS [q_i r] kX12_63 (tX12_isRow (m_w w μ) r (hr)) dX12_refused_1 rfl (by decide) (Nat.le_of_ble_eq_true rfl) rfl ?_
  refine q_ifb_ne (tgt := 11) dX12_refused_4 (by decide) (fun h4 => ?_) (fun h4 => ?_)
  · skip
    have hsz := hI.sz r (by omega) (by omega)
    refine q_aload_n dX12_refused_11 rfl ?_
    refine q_get (v := .ref 68) fX12_20_12 rfl rfl dX12_refused_12 ?_
    refine q_iload_n dX12_refused_15 rfl ?_
    refine q_iald (f := (μ 7)) (n9 := 6) rfl (by omega) (by omega) dX12_refused_16 ?_
    refine q_if_ge (tgt := 28) dX12_refused_17 (by decide) ⟨by omega, by omega⟩ (fun h17 => ?_) (fun h17 => ?_)
    · skip
      refine q_iload_n dX12_refused_28 rfl ?_
      refine q_i2lr dX12_refused_29 hi ?_
      refine q_lconst 0 dX12_refused_30 ?_
      refine q_aload_n dX12_refused_31 rfl ?_
      refine q_get (v := .ref 68) fX12_20_12 rfl rfl dX12_refused_32 ?_
      refine q_iload_n dX12_refused_35 rfl ?_
      refine q_iald (f := (μ 7)) (n9 := 6) rfl (by omega) (by omega) dX12_refused_36 ?_
      refine q_iconst dX12_refused_37 ?_
      refine q_isub dX12_refused_38 ?_
      refine q_i2lr dX12_refused_39 ⟨by omega, by omega⟩ ?_
      refine q_cS [q_l i, q_l 0, q_l (((μ 7) r) - 1)] kX12_57 (tX12_in i 0 (((μ 7) r) - 1) (⟨by have := (hi).1; omega, by have := (hi).2; omega⟩) (⟨by decide, by decide⟩) (⟨by omega, by omega⟩) (m_w w μ)) dX12_refused_40 rfl (by decide) (Nat.le_of_ble_eq_true rfl) rfl ?_
      refine q_ifb_eq (tgt := 50) dX12_refused_43 (by decide) (fun h43 => ?_) (fun h43 => ?_)
      · skip
        refine q_aload_n dX12_refused_50 rfl ?_
        refine q_iconst dX12_refused_51 ?_
        refine q_cV [q_i 2] kX12_67_12 rfl (tX12_find w μ 2 (by decide) (by decide)) dX12_refused_52 rfl (by decide) (Nat.le_of_ble_eq_true rfl) rfl ?_
        exact q_iret rfl dX12_refused_55 (⟨by (unfold m_ref_v; (repeat' split) <;> first | rfl | (exfalso; omega)), by (unfold m_ref_s; (repeat' split) <;> first | rfl | (exfalso; omega))⟩)
      · skip
        refine q_iconst dX12_refused_46 ?_
        refine q_goto (tgt := 55) dX12_refused_47 (by decide) ?_
        exact q_iret rfl dX12_refused_55 (⟨by (unfold m_ref_v; (repeat' split) <;> first | rfl | (exfalso; omega)), by (unfold m_ref_s; (repeat' split) <;> first | rfl | (exfalso; omega))⟩)
    · skip
      refine q_aload_n dX12_refused_20 rfl ?_
      refine q_iconst dX12_refused_21 ?_
      refine q_cV [q_i 1] kX12_67_12 rfl (tX12_find w μ 1 (by decide) (by decide)) dX12_refused_22 rfl (by decide) (Nat.le_of_ble_eq_true rfl) rfl ?_
      refine q_goto (tgt := 55) dX12_refused_25 (by decide) ?_
      exact q_iret rfl dX12_refused_55 (⟨by (unfold m_ref_v; (repeat' split) <;> first | rfl | (exfalso; omega)), by (unfold m_ref_s; (repeat' split) <;> first | rfl | (exfalso; omega))⟩)
  · skip
    refine q_iconst dX12_refused_7 ?_
    refine q_goto (tgt := 55) dX12_refused_8 (by decide) ?_
    exact q_iret rfl dX12_refused_55 (⟨by (unfold m_ref_v; (repeat' split) <;> first | rfl | (exfalso; omega)), by (unfold m_ref_s; (repeat' split) <;> first | rfl | (exfalso; omega))⟩)
theorem m_ref_r (μ : m_S) (r i : Int) : q_r (m_ref_v μ r i) := by
  unfold m_ref_v
  (repeat' split) <;> exact ⟨by decide, by decide⟩
theorem m_ref_0 {μ : m_S} {r i : Int} (h : m_ref_v μ r i = 0) : 0 ≤ r ∧ r ≤ 5 ∧ 0 ≤ i ∧ i ≤ μ 7 r - 1 ∧ m_ref_s μ r i = μ := by
  unfold m_ref_v at h
  unfold m_ref_s
  split at h
  · omega
  · rename_i h1
    rw [if_neg h1]
    split at h
    · omega
    · rename_i h2
      rw [if_neg h2]
      split at h
      · rename_i h3
        rw [if_pos h3]
        exact ⟨by omega, by omega, by omega, by omega, rfl⟩
      · omega
def m_lay_v (μ : m_S) (r i : Int) : Int := if m_ref_v μ r i = 0 then 1 else m_ref_v μ r i
def m_lay_s (μ : m_S) (r i v : Int) : m_S := if m_ref_v μ r i = 0 then m_u (m_u μ 8 (q_us (μ 8) (40 * r + i) v)) 11 (fun _ => μ 8 (40 * r + i)) else m_ref_s μ r i
def m_at_s (μ : m_S) (r i : Int) : m_S := if m_ref_v μ r i = 0 then m_u μ 11 (fun _ => μ 8 (40 * r + i)) else m_ref_s μ r i
set_option maxRecDepth 20000 in
theorem tX12_lay (w : q_W) (μ : m_S) (r i v : Int) (hr : q_r r) (hi : q_r i) (hI : m_I μ) : q_D mX12_lay 3 [.ref 64, q_i r, q_i i, q_i v] (m_w w μ) (some (q_i (m_lay_v μ r i))) (m_w w (m_lay_s μ r i v)) := by
  refine q_T.of (lv := [some (.ref 64), some (q_i r), some (q_i i), some (q_i v), none, none]) (by decide) rfl (Nat.le_of_ble_eq_true rfl) ?_
  refine q_aload_n dX12_lay_0 rfl ?_
  refine q_iload_n dX12_lay_1 rfl ?_
  refine q_iload_n dX12_lay_2 rfl ?_
  refine q_cV [q_i r, q_i i] kX12_75_12 rfl (tX12_refused w μ r i hr hi hI) dX12_lay_3 rfl (by decide) (Nat.le_of_ble_eq_true rfl) rfl ?_
  refine q_istore (lv' := [some (.ref 64), some (q_i r), some (q_i i), some (q_i v), some (q_i (m_ref_v μ r i)), none]) dX12_lay_6 (by decide) rfl ?_
  refine q_iload dX12_lay_8 rfl ?_
  refine q_if_eq (tgt := 16) dX12_lay_10 (by decide) (m_ref_r μ r i) (fun h10 => ?_) (fun h10 => ?_)
  · skip
    obtain ⟨hr0, hr5, hi0, hi1, hrs⟩ := m_ref_0 h10
    rw [hrs]
    have hsz := hI.sz r hr0 hr5
    refine q_aload_n dX12_lay_16 rfl ?_
    refine q_get (v := .ref 69) fX12_23_12 rfl rfl dX12_lay_17 ?_
    refine q_bipush dX12_lay_20 ?_
    refine q_iload_n dX12_lay_22 rfl ?_
    refine q_imul dX12_lay_23 ?_
    refine q_iload_n dX12_lay_24 rfl ?_
    refine q_iadd dX12_lay_25 ?_
    refine q_iald (f := (μ 8)) (n9 := 240) rfl (by omega) (by omega) dX12_lay_26 ?_
    refine q_istore (lv' := [some (.ref 64), some (q_i r), some (q_i i), some (q_i v), some (q_i (m_ref_v μ r i)), some (q_i ((μ 8) ((40 * r) + i)))]) dX12_lay_27 (by decide) rfl ?_
    refine q_aload_n dX12_lay_29 rfl ?_
    refine q_get (v := .ref 69) fX12_23_12 rfl rfl dX12_lay_30 ?_
    refine q_bipush dX12_lay_33 ?_
    refine q_iload_n dX12_lay_35 rfl ?_
    refine q_imul dX12_lay_36 ?_
    refine q_iload_n dX12_lay_37 rfl ?_
    refine q_iadd dX12_lay_38 ?_
    refine q_iload_n dX12_lay_39 rfl ?_
    refine q_iast (f := (μ 8)) (n9 := 240) rfl (by omega) (by omega) dX12_lay_40 ?_
    rw [m_a8]
    refine q_aload_n dX12_lay_41 rfl ?_
    refine q_iload dX12_lay_42 rfl ?_
    refine q_cV [q_i ((μ 8) ((40 * r) + i))] kX12_79_12 rfl (tX12_tell w (m_u μ 8 (q_us (μ 8) ((40 * r) + i) v)) ((μ 8) ((40 * r) + i))) dX12_lay_44 rfl (by decide) (Nat.le_of_ble_eq_true rfl) rfl ?_
    exact q_iret rfl dX12_lay_47 (⟨by unfold m_lay_v; split <;> first | rfl | (exfalso; omega), by unfold m_lay_s; split <;> first | rfl | (exfalso; omega)⟩)
  · skip
    refine q_iload dX12_lay_13 rfl ?_
    exact q_iret rfl dX12_lay_15 (⟨by unfold m_lay_v; split <;> first | rfl | (exfalso; omega), by unfold m_lay_s; split <;> first | rfl | (exfalso; omega)⟩)
set_option maxRecDepth 20000 in
theorem tX12_at (w : q_W) (μ : m_S) (r i : Int) (hr : q_r r) (hi : q_r i) (hI : m_I μ) : q_D mX12_at 3 [.ref 64, q_i r, q_i i] (m_w w μ) (some (q_i (m_lay_v μ r i))) (m_w w (m_at_s μ r i)) := by
  refine q_T.of (lv := [some (.ref 64), some (q_i r), some (q_i i), none]) (by decide) rfl (Nat.le_of_ble_eq_true rfl) ?_
  refine q_aload_n dX12_at_0 rfl ?_
  refine q_iload_n dX12_at_1 rfl ?_
  refine q_iload_n dX12_at_2 rfl ?_
  refine q_cV [q_i r, q_i i] kX12_75_12 rfl (tX12_refused w μ r i hr hi hI) dX12_at_3 rfl (by decide) (Nat.le_of_ble_eq_true rfl) rfl ?_
  refine q_istore_n (lv' := [some (.ref 64), some (q_i r), some (q_i i), some (q_i (m_ref_v μ r i))]) dX12_at_6 (by decide) rfl ?_
  refine q_iload_n dX12_at_7 rfl ?_
  refine q_if_eq (tgt := 15) dX12_at_8 (by decide) (m_ref_r μ r i) (fun h8 => ?_) (fun h8 => ?_)
  · skip
    obtain ⟨hr0, hr5, hi0, hi1, hrs⟩ := m_ref_0 h8
    rw [hrs]
    have hsz := hI.sz r hr0 hr5
    refine q_aload_n dX12_at_15 rfl ?_
    refine q_aload_n dX12_at_16 rfl ?_
    refine q_get (v := .ref 69) fX12_23_12 rfl rfl dX12_at_17 ?_
    refine q_bipush dX12_at_20 ?_
    refine q_iload_n dX12_at_22 rfl ?_
    refine q_imul dX12_at_23 ?_
    refine q_iload_n dX12_at_24 rfl ?_
    refine q_iadd dX12_at_25 ?_
    refine q_iald (f := (μ 8)) (n9 := 240) rfl (by omega) (by omega) dX12_at_26 ?_
    refine q_cV [q_i ((μ 8) ((40 * r) + i))] kX12_79_12 rfl (tX12_tell w μ ((μ 8) ((40 * r) + i))) dX12_at_27 rfl (by decide) (Nat.le_of_ble_eq_true rfl) rfl ?_
    exact q_iret rfl dX12_at_30 (⟨by unfold m_lay_v; split <;> first | rfl | (exfalso; omega), by unfold m_at_s; split <;> first | rfl | (exfalso; omega)⟩)
  · skip
    refine q_iload_n dX12_at_11 rfl ?_
    refine q_goto (tgt := 30) dX12_at_12 (by decide) ?_
    exact q_iret rfl dX12_at_30 (⟨by unfold m_lay_v; split <;> first | rfl | (exfalso; omega), by unfold m_at_s; split <;> first | rfl | (exfalso; omega)⟩)
def m_tear_v (μ : m_S) (r : Int) : Int := if ¬ (0 ≤ r ∧ r ≤ 5) then -1 else if μ 7 r < 0 then -3 else 1
def m_tear_s (μ : m_S) (r : Int) : m_S := if ¬ (0 ≤ r ∧ r ≤ 5) then μ else if μ 7 r < 0 then m_find μ 1 else m_u μ 7 (q_us (μ 7) r (-1))
set_option maxRecDepth 20000 in
theorem tX12_tear (w : q_W) (μ : m_S) (r : Int) (hr : q_r r) (hI : m_I μ) : q_D mX12_tear 2 [.ref 64, q_i r] (m_w w μ) (some (q_i (m_tear_v μ r))) (m_w w (m_tear_s μ r)) := by
  refine q_T.of (lv := [some (.ref 64), some (q_i r)]) (by decide) rfl (Nat.le_of_ble_eq_true rfl) ?_
  refine q_iload_n dX12_tear_0 rfl ?_
  refine q_cS [q_i r] kX12_63 (tX12_isRow (m_w w μ) r (hr)) dX12_tear_1 rfl (by decide) (Nat.le_of_ble_eq_true rfl) rfl ?_
  refine q_ifb_ne (tgt := 9) dX12_tear_4 (by decide) (fun h4 => ?_) (fun h4 => ?_)
  · skip
    have hsz := hI.sz r (by omega) (by omega)
    refine q_aload_n dX12_tear_9 rfl ?_
    refine q_get (v := .ref 68) fX12_20_12 rfl rfl dX12_tear_10 ?_
    refine q_iload_n dX12_tear_13 rfl ?_
    refine q_iald (f := (μ 7)) (n9 := 6) rfl (by omega) (by omega) dX12_tear_14 ?_
    refine q_if_ge (tgt := 24) dX12_tear_15 (by decide) ⟨by omega, by omega⟩ (fun h15 => ?_) (fun h15 => ?_)
    · skip
      refine q_aload_n dX12_tear_24 rfl ?_
      refine q_get (v := .ref 68) fX12_20_12 rfl rfl dX12_tear_25 ?_
      refine q_iload_n dX12_tear_28 rfl ?_
      refine q_iconst dX12_tear_29 ?_
      refine q_iast (f := (μ 7)) (n9 := 6) rfl (by omega) (by omega) dX12_tear_30 ?_
      rw [m_a7]
      refine q_iconst dX12_tear_31 ?_
      exact q_iret rfl dX12_tear_32 (⟨by (unfold m_tear_v; (repeat' split) <;> first | rfl | (exfalso; omega)), by (unfold m_tear_s; (repeat' split) <;> first | rfl | (exfalso; omega))⟩)
    · skip
      refine q_aload_n dX12_tear_18 rfl ?_
      refine q_iconst dX12_tear_19 ?_
      refine q_cV [q_i 1] kX12_67_12 rfl (tX12_find w μ 1 (by decide) (by decide)) dX12_tear_20 rfl (by decide) (Nat.le_of_ble_eq_true rfl) rfl ?_
      exact q_iret rfl dX12_tear_23 (⟨by (unfold m_tear_v; (repeat' split) <;> first | rfl | (exfalso; omega)), by (unfold m_tear_s; (repeat' split) <;> first | rfl | (exfalso; omega))⟩)
  · skip
    refine q_iconst dX12_tear_7 ?_
    exact q_iret rfl dX12_tear_8 (⟨by (unfold m_tear_v; (repeat' split) <;> first | rfl | (exfalso; omega)), by (unfold m_tear_s; (repeat' split) <;> first | rfl | (exfalso; omega))⟩)
set_option maxRecDepth 20000 in
theorem tX12_isSpan (w : q_W) (μ : m_S) (r i n : Int) (h0 : 0 ≤ r) (h5 : r ≤ 5) (hi : q_r i) (hn : q_r n) (hI : m_I μ) : q_D mX12_isSpan 0 [.ref 64, q_i r, q_i i, q_i n] (m_w w μ) (some (q_b (0 ≤ i ∧ i + n ≤ μ 7 r))) (m_w w μ) := by
  refine q_T.of (lv := [some (.ref 64), some (q_i r), some (q_i i), some (q_i n)]) (by decide) rfl (Nat.le_of_ble_eq_true rfl) ?_
  have hsz := hI.sz r h0 h5
  refine q_iload_n dX12_isSpan_0 rfl ?_
  refine q_if_lt (tgt := 24) dX12_isSpan_1 (by decide) hi (fun h1 => ?_) (fun h1 => ?_)
  · skip
    refine q_iconst dX12_isSpan_24 ?_
    exact q_zret rfl (Or.inl rfl) dX12_isSpan_25 (⟨congrArg some (q_b0 (by omega)), rfl⟩)
  · skip
    refine q_iload_n dX12_isSpan_4 rfl ?_
    refine q_i2lr dX12_isSpan_5 hi ?_
    refine q_iload_n dX12_isSpan_6 rfl ?_
    refine q_i2lr dX12_isSpan_7 hn ?_
    refine q_ladd dX12_isSpan_8 ?_
    refine q_aload_n dX12_isSpan_9 rfl ?_
    refine q_get (v := .ref 68) fX12_20_12 rfl rfl dX12_isSpan_10 ?_
    refine q_iload_n dX12_isSpan_13 rfl ?_
    refine q_iald (f := (μ 7)) (n9 := 6) rfl (by omega) (by omega) dX12_isSpan_14 ?_
    refine q_i2lr dX12_isSpan_15 ⟨by omega, by omega⟩ ?_
    refine q_lcmp_gt (tgt := 24) dX12_isSpan_16 dX12_isSpan_17 (by decide) ⟨by omega, by omega⟩ ⟨by omega, by omega⟩ (fun h16 => ?_) (fun h16 => ?_)
    · skip
      refine q_iconst dX12_isSpan_24 ?_
      exact q_zret rfl (Or.inl rfl) dX12_isSpan_25 (⟨congrArg some (q_b0 (by omega)), rfl⟩)
    · skip
      refine q_iconst dX12_isSpan_20 ?_
      refine q_goto (tgt := 25) dX12_isSpan_21 (by decide) ?_
      exact q_zret rfl (Or.inr rfl) dX12_isSpan_25 (⟨congrArg some (q_b1 (by omega)), rfl⟩)
/-- the sum of f's first n places -/
def z_s (f : Int → Int) : Nat → Int
  | 0 => 0
  | k + 1 => z_s f k + f k
def z_sum (f : Int → Int) (n : Int) : Int := z_s f n.toNat
theorem z_sum_0 (f : Int → Int) : z_sum f 0 = 0 := rfl
theorem z_sum_s (f : Int → Int) {n : Int} (h : 0 ≤ n) : z_sum f (n + 1) = z_sum f n + f n := by
  unfold z_sum
  rw [show (n + 1).toNat = n.toNat + 1 by omega]
  show z_s f n.toNat + f (n.toNat : Int) = _
  rw [show (n.toNat : Int) = n by omega]
theorem z_s_b (f : Int → Int) (a b : Int) : ∀ k : Nat, (∀ j : Int, 0 ≤ j → j < k → a ≤ f j ∧ f j ≤ b) → (k : Int) * a ≤ z_s f k ∧ z_s f k ≤ (k : Int) * b
  | 0, _ => by simp [z_s]
  | k + 1, h => by
    have h1 := z_s_b f a b k (fun j h0 h1 => h j h0 (by omega))
    have h2 := h k (by omega) (by omega)
    have e1 : ((k + 1 : Nat) : Int) * a = (k : Int) * a + a := by rw [Int.natCast_add, Int.add_mul]; simp
    have e2 : ((k + 1 : Nat) : Int) * b = (k : Int) * b + b := by rw [Int.natCast_add, Int.add_mul]; simp
    show _ ≤ z_s f k + f k ∧ z_s f k + f k ≤ _
    rw [e1, e2]
    constructor <;> omega
theorem z_sum_b (f : Int → Int) (a b : Int) {n : Int} (hn : 0 ≤ n) (h : ∀ j : Int, 0 ≤ j → j < n → a ≤ f j ∧ f j ≤ b) : n * a ≤ z_sum f n ∧ z_sum f n ≤ n * b := by
  have h1 := z_s_b f a b n.toNat (fun j h0 h1 => h j h0 (by omega))
  rw [show (n.toNat : Int) = n by omega] at h1
  exact h1
theorem z_s_c {f g : Int → Int} : ∀ k : Nat, (∀ j : Int, 0 ≤ j → j < k → f j = g j) → z_s f k = z_s g k
  | 0, _ => rfl
  | k + 1, h => by
    show z_s f k + f k = z_s g k + g k
    rw [z_s_c k (fun j h0 h1 => h j h0 (by omega)), h k (by omega) (by omega)]
theorem z_sum_c {f g : Int → Int} {n : Int} (h : ∀ j : Int, 0 ≤ j → j < n → f j = g j) : z_sum f n = z_sum g n := z_s_c n.toNat (fun j h0 h1 => h j h0 (by omega))
def m_mean (μ : m_S) (r : Int) : Int := (z_sum (fun j => μ 8 (40 * r + j)) (μ 7 r)).tdiv (μ 7 r)
def m_mean_v (μ : m_S) (r : Int) : Int := if ¬ (0 ≤ r ∧ r ≤ 5) then -1 else if μ 7 r < 0 then -3 else if μ 7 r = 0 then -3 else 1
def m_mean_s (μ : m_S) (r : Int) : m_S := if ¬ (0 ≤ r ∧ r ≤ 5) then μ else if μ 7 r < 0 then m_find μ 1 else if μ 7 r = 0 then m_find μ 4 else m_u μ 11 (fun _ => m_mean μ r)
theorem m_sum_r {μ : m_S} (hI : m_I μ) (r : Int) {n : Int} (h0 : 0 ≤ n) (h1 : n ≤ 40) : q_rl (z_sum (fun j => μ 8 (40 * r + j)) n) := by
  have h := z_sum_b (fun j => μ 8 (40 * r + j)) (-2147483648) 2147483647 h0 (fun j _ _ => hI.it _)
  constructor <;> omega
set_option maxRecDepth 20000 in
theorem tX12_mean (w : q_W) (μ : m_S) (r : Int) (hr : q_r r) (hI : m_I μ) : q_D mX12_mean 2 [.ref 64, q_i r] (m_w w μ) (some (q_i (m_mean_v μ r))) (m_w w (m_mean_s μ r)) := by
  refine q_T.of (lv := [some (.ref 64), some (q_i r), none, none, none]) (by decide) rfl (Nat.le_of_ble_eq_true rfl) ?_
  refine q_iload_n dX12_mean_0 rfl ?_
  refine q_cS [q_i r] kX12_63 (tX12_isRow (m_w w μ) r (hr)) dX12_mean_1 rfl (by decide) (Nat.le_of_ble_eq_true rfl) rfl ?_
  refine q_ifb_ne (tgt := 9) dX12_mean_4 (by decide) (fun h4 => ?_) (fun h4 => ?_)
  · skip
    have hsz := hI.sz r (by omega) (by omega)
    refine q_aload_n dX12_mean_9 rfl ?_
    refine q_get (v := .ref 68) fX12_20_12 rfl rfl dX12_mean_10 ?_
    refine q_iload_n dX12_mean_13 rfl ?_
    refine q_iald (f := (μ 7)) (n9 := 6) rfl (by omega) (by omega) dX12_mean_14 ?_
    refine q_if_ge (tgt := 24) dX12_mean_15 (by decide) ⟨by omega, by omega⟩ (fun h15 => ?_) (fun h15 => ?_)
    · skip
      refine q_aload_n dX12_mean_24 rfl ?_
      refine q_get (v := .ref 68) fX12_20_12 rfl rfl dX12_mean_25 ?_
      refine q_iload_n dX12_mean_28 rfl ?_
      refine q_iald (f := (μ 7)) (n9 := 6) rfl (by omega) (by omega) dX12_mean_29 ?_
      refine q_if_ne (tgt := 39) dX12_mean_30 (by decide) ⟨by omega, by omega⟩ (fun h30 => ?_) (fun h30 => ?_)
      · skip
        refine q_lconst 0 dX12_mean_39 ?_
        refine q_lstore_n (lv' := [some (.ref 64), some (q_i r), some (q_l 0), none, none]) dX12_mean_40 (by decide) rfl ?_
        refine q_iconst dX12_mean_41 ?_
        refine q_istore (lv' := [some (.ref 64), some (q_i r), some (q_l 0), none, some (q_i 0)]) dX12_mean_42 (by decide) rfl ?_
        have L44 : ∀ (m9 : Nat) (k : Int) (hk0 : 0 ≤ k) (hk1 : k ≤ μ 7 r) (hm9 : μ 7 r - k < (m9 : Int)), q_J mX12_mean 2 (fun v' w' => v' = (some (q_i (m_mean_v μ r))) ∧ w' = (m_w w (m_mean_s μ r))) 0 0 44 [some (.ref 64), some (q_i r), some (q_l (z_sum (fun j => μ 8 (40 * r + j)) k)), none, some (q_i k)] [] (m_w w μ) := by
          intro m9
          induction m9 with
          | zero => intro k hk0 hk1 hm9; exact absurd hm9 (by omega)
          | succ m9 ih44 =>
            intro k hk0 hk1 hm9
            refine q_iload dX12_mean_44 rfl ?_
            refine q_aload_n dX12_mean_46 rfl ?_
            refine q_get (v := .ref 68) fX12_20_12 rfl rfl dX12_mean_47 ?_
            refine q_iload_n dX12_mean_50 rfl ?_
            refine q_iald (f := (μ 7)) (n9 := 6) rfl (by omega) (by omega) dX12_mean_51 ?_
            refine q_icmp_ge (tgt := 77) dX12_mean_52 (by decide) ⟨by omega, by omega⟩ ⟨by omega, by omega⟩ (fun h52 => ?_) (fun h52 => ?_)
            · skip
              refine q_aload_n dX12_mean_77 rfl ?_
              refine q_lload_n dX12_mean_78 rfl ?_
              refine q_aload_n dX12_mean_79 rfl ?_
              refine q_get (v := .ref 68) fX12_20_12 rfl rfl dX12_mean_80 ?_
              refine q_iload_n dX12_mean_83 rfl ?_
              refine q_iald (f := (μ 7)) (n9 := 6) rfl (by omega) (by omega) dX12_mean_84 ?_
              refine q_i2lr dX12_mean_85 ⟨by omega, by omega⟩ ?_
              refine q_ldiv dX12_mean_86 (m_sum_r hI r hk0 (by omega)) ⟨by omega, by omega⟩ (by omega) (by omega) ?_
              refine q_l2i dX12_mean_87 ?_
              refine q_cV [q_i (((z_sum (fun j => μ 8 (40 * r + j)) k)).tdiv ((μ 7) r))] kX12_79_12 rfl (tX12_tell w μ (((z_sum (fun j => μ 8 (40 * r + j)) k)).tdiv ((μ 7) r))) dX12_mean_88 rfl (by decide) (Nat.le_of_ble_eq_true rfl) rfl ?_
              exact q_iret rfl dX12_mean_91 (⟨by (unfold m_mean_v; (repeat' split) <;> first | rfl | (exfalso; omega)), by rw [show k = μ 7 r by omega]; unfold m_mean_s; (repeat' split) <;> first | rfl | (exfalso; omega)⟩)
            · skip
              refine q_lload_n dX12_mean_55 rfl ?_
              refine q_aload_n dX12_mean_56 rfl ?_
              refine q_get (v := .ref 69) fX12_23_12 rfl rfl dX12_mean_57 ?_
              refine q_bipush dX12_mean_60 ?_
              refine q_iload_n dX12_mean_62 rfl ?_
              refine q_imul dX12_mean_63 ?_
              refine q_iload dX12_mean_64 rfl ?_
              refine q_iadd dX12_mean_66 ?_
              refine q_iald (f := (μ 8)) (n9 := 240) rfl (by omega) (by omega) dX12_mean_67 ?_
              refine q_i2lr dX12_mean_68 (hI.it _) ?_
              refine q_ladd dX12_mean_69 ?_
              refine q_lstore_n (lv' := [some (.ref 64), some (q_i r), some (q_l ((z_sum (fun j => μ 8 (40 * r + j)) k) + ((μ 8) ((40 * r) + k)))), none, some (q_i k)]) dX12_mean_70 (by decide) rfl ?_
              refine q_iinc (lv' := [some (.ref 64), some (q_i r), some (q_l ((z_sum (fun j => μ 8 (40 * r + j)) k) + ((μ 8) ((40 * r) + k)))), none, some (q_i (k + 1))]) dX12_mean_71 rfl (by decide) rfl ?_
              refine q_goto (tgt := 44) dX12_mean_74 (by decide) ?_
              exact q_Jle (q_le_s (rfl) (q_le_s (rfl) (q_le_s (by rw [z_sum_s _ hk0]) (q_le_n (q_le_s (rfl) (q_le_e _)))))) (rfl) (rfl) (ih44 (k + 1) (by omega) (by omega) (by omega))
        exact q_Jle (q_le_s (rfl) (q_le_s (rfl) (q_le_s (rfl) (q_le_n (q_le_s (rfl) (q_le_e _)))))) (rfl) (rfl) (L44 ((μ 7 r : Int).toNat + 1) 0 (by omega) (by omega) (by omega))
      · skip
        refine q_aload_n dX12_mean_33 rfl ?_
        refine q_iconst dX12_mean_34 ?_
        refine q_cV [q_i 4] kX12_67_12 rfl (tX12_find w μ 4 (by decide) (by decide)) dX12_mean_35 rfl (by decide) (Nat.le_of_ble_eq_true rfl) rfl ?_
        exact q_iret rfl dX12_mean_38 (⟨by (unfold m_mean_v; (repeat' split) <;> first | rfl | (exfalso; omega)), by (unfold m_mean_s; (repeat' split) <;> first | rfl | (exfalso; omega))⟩)
    · skip
      refine q_aload_n dX12_mean_18 rfl ?_
      refine q_iconst dX12_mean_19 ?_
      refine q_cV [q_i 1] kX12_67_12 rfl (tX12_find w μ 1 (by decide) (by decide)) dX12_mean_20 rfl (by decide) (Nat.le_of_ble_eq_true rfl) rfl ?_
      exact q_iret rfl dX12_mean_23 (⟨by (unfold m_mean_v; (repeat' split) <;> first | rfl | (exfalso; omega)), by (unfold m_mean_s; (repeat' split) <;> first | rfl | (exfalso; omega))⟩)
  · skip
    refine q_iconst dX12_mean_7 ?_
    exact q_iret rfl dX12_mean_8 (⟨by (unfold m_mean_v; (repeat' split) <;> first | rfl | (exfalso; omega)), by (unfold m_mean_s; (repeat' split) <;> first | rfl | (exfalso; omega))⟩)
def m_text_v (μ : m_S) (r n : Int) : Int := if ¬ (0 ≤ r ∧ r ≤ 3) then -1 else if 60 < n then -1 else if n < 0 then -3 else n
def m_text_s (μ : m_S) (r n : Int) : m_S := if ¬ (0 ≤ r ∧ r ≤ 3) then μ else if 60 < n then μ else if n < 0 then m_find μ 5 else m_u (m_u μ 9 (q_us (μ 9) r n)) 10 (q_fl (μ 10) (60 * r) 60 32)
set_option maxRecDepth 20000 in
theorem tX12_text (w : q_W) (μ : m_S) (r n : Int) (hr : q_r r) (hn : q_r n) : q_D mX12_text 2 [.ref 64, q_i r, q_i n] (m_w w μ) (some (q_i (m_text_v μ r n))) (m_w w (m_text_s μ r n)) := by
  refine q_T.of (lv := [some (.ref 64), some (q_i r), some (q_i n), none]) (by decide) rfl (Nat.le_of_ble_eq_true rfl) ?_
  refine q_iload_n dX12_text_0 rfl ?_
  refine q_cS [q_i r] kX12_86 (tX12_isText (m_w w μ) r (hr)) dX12_text_1 rfl (by decide) (Nat.le_of_ble_eq_true rfl) rfl ?_
  refine q_ifb_eq (tgt := 13) dX12_text_4 (by decide) (fun h4 => ?_) (fun h4 => ?_)
  · skip
    refine q_iconst dX12_text_13 ?_
    exact q_iret rfl dX12_text_14 (⟨by (unfold m_text_v; (repeat' split) <;> first | rfl | (exfalso; omega)), by (unfold m_text_s; (repeat' split) <;> first | rfl | (exfalso; omega))⟩)
  · skip
    refine q_iload_n dX12_text_7 rfl ?_
    refine q_bipush dX12_text_8 ?_
    refine q_icmp_le (tgt := 15) dX12_text_10 (by decide) hn ⟨by decide, by decide⟩ (fun h10 => ?_) (fun h10 => ?_)
    · skip
      refine q_iload_n dX12_text_15 rfl ?_
      refine q_if_ge (tgt := 25) dX12_text_16 (by decide) hn (fun h16 => ?_) (fun h16 => ?_)
      · skip
        refine q_aload_n dX12_text_25 rfl ?_
        refine q_get (v := .ref 70) fX12_26_12 rfl rfl dX12_text_26 ?_
        refine q_iload_n dX12_text_29 rfl ?_
        refine q_iload_n dX12_text_30 rfl ?_
        refine q_iast (f := (μ 9)) (n9 := 4) rfl (by omega) (by omega) dX12_text_31 ?_
        rw [m_a9]
        refine q_iconst dX12_text_32 ?_
        refine q_istore_n (lv' := [some (.ref 64), some (q_i r), some (q_i n), some (q_i 0)]) dX12_text_33 (by decide) rfl ?_
        have L34 : ∀ (m9 : Nat) (k : Int) (hk0 : 0 ≤ k) (hk1 : k ≤ 60) (hm9 : 60 - k < (m9 : Int)), q_J mX12_text 2 (fun v' w' => v' = (some (q_i (m_text_v μ r n))) ∧ w' = (m_w w (m_text_s μ r n))) 0 0 34 [some (.ref 64), some (q_i r), some (q_i n), some (q_i k)] [] (m_w w (m_u (m_u μ 9 (q_us (μ 9) r n)) 10 (q_fl (μ 10) (60 * r) k 32))) := by
          intro m9
          induction m9 with
          | zero => intro k hk0 hk1 hm9; exact absurd hm9 (by omega)
          | succ m9 ih34 =>
            intro k hk0 hk1 hm9
            refine q_iload_n dX12_text_34 rfl ?_
            refine q_bipush dX12_text_35 ?_
            refine q_icmp_ge (tgt := 59) dX12_text_37 (by decide) ⟨by omega, by omega⟩ ⟨by decide, by decide⟩ (fun h37 => ?_) (fun h37 => ?_)
            · skip
              refine q_iload_n dX12_text_59 rfl ?_
              exact q_iret rfl dX12_text_60 (⟨by (unfold m_text_v; (repeat' split) <;> first | rfl | (exfalso; omega)), by rw [show k = 60 by omega]; unfold m_text_s; (repeat' split) <;> first | rfl | (exfalso; omega)⟩)
            · skip
              refine q_aload_n dX12_text_40 rfl ?_
              refine q_get (v := .ref 71) fX12_29_12 rfl rfl dX12_text_41 ?_
              refine q_bipush dX12_text_44 ?_
              refine q_iload_n dX12_text_46 rfl ?_
              refine q_imul dX12_text_47 ?_
              refine q_iload_n dX12_text_48 rfl ?_
              refine q_iadd dX12_text_49 ?_
              refine q_bipush dX12_text_50 ?_
              refine q_iast (f := (q_fl (μ 10) (60 * r) k 32)) (n9 := 240) rfl (by omega) (by omega) dX12_text_52 ?_
              rw [m_a10]
              refine q_iinc (lv' := [some (.ref 64), some (q_i r), some (q_i n), some (q_i (k + 1))]) dX12_text_53 rfl (by decide) rfl ?_
              refine q_goto (tgt := 34) dX12_text_56 (by decide) ?_
              exact q_Jle (q_le_s (rfl) (q_le_s (rfl) (q_le_s (rfl) (q_le_s (rfl) (q_le_e _))))) (rfl) (by rw [m_uu, q_fl_s _ _ _ hk0]) (ih34 (k + 1) (by omega) (by omega) (by omega))
        exact q_Jle (q_le_s (rfl) (q_le_s (rfl) (q_le_s (rfl) (q_le_s (rfl) (q_le_e _))))) (rfl) (by rw [q_fl_0]; exact (congrArg (m_w w) (m_uid _ 10)).symm) (L34 ((60 : Int).toNat + 1) 0 (by omega) (by omega) (by omega))
      · skip
        refine q_aload_n dX12_text_19 rfl ?_
        refine q_iconst dX12_text_20 ?_
        refine q_cV [q_i 5] kX12_67_12 rfl (tX12_find w μ 5 (by decide) (by decide)) dX12_text_21 rfl (by decide) (Nat.le_of_ble_eq_true rfl) rfl ?_
        exact q_iret rfl dX12_text_24 (⟨by (unfold m_text_v; (repeat' split) <;> first | rfl | (exfalso; omega)), by (unfold m_text_s; (repeat' split) <;> first | rfl | (exfalso; omega))⟩)
    · skip
      refine q_iconst dX12_text_13 ?_
      exact q_iret rfl dX12_text_14 (⟨by (unfold m_text_v; (repeat' split) <;> first | rfl | (exfalso; omega)), by (unfold m_text_s; (repeat' split) <;> first | rfl | (exfalso; omega))⟩)
def m_put_v (μ : m_S) (r i : Int) : Int := if ¬ (0 ≤ r ∧ r ≤ 3) then -1 else if μ 9 r < 0 then -3 else if ¬ (0 ≤ i ∧ i ≤ μ 9 r - 1) then -3 else μ 10 (60 * r + i) + 1000
def m_put_s (μ : m_S) (r i v : Int) : m_S := if ¬ (0 ≤ r ∧ r ≤ 3) then μ else if μ 9 r < 0 then m_find μ 1 else if ¬ (0 ≤ i ∧ i ≤ μ 9 r - 1) then m_find μ 2 else m_u μ 10 (q_us (μ 10) (60 * r + i) (v.bmod 256))
set_option maxRecDepth 20000 in
theorem tX12_put (w : q_W) (μ : m_S) (r i v : Int) (hr : q_r r) (hi : q_r i) (hv : q_r v) (hI : m_I μ) : q_D mX12_put 2 [.ref 64, q_i r, q_i i, q_i v] (m_w w μ) (some (q_i (m_put_v μ r i))) (m_w w (m_put_s μ r i v)) := by
  refine q_T.of (lv := [some (.ref 64), some (q_i r), some (q_i i), some (q_i v), none]) (by decide) rfl (Nat.le_of_ble_eq_true rfl) ?_
  refine q_iload_n dX12_put_0 rfl ?_
  refine q_cS [q_i r] kX12_86 (tX12_isText (m_w w μ) r (hr)) dX12_put_1 rfl (by decide) (Nat.le_of_ble_eq_true rfl) rfl ?_
  refine q_ifb_ne (tgt := 9) dX12_put_4 (by decide) (fun h4 => ?_) (fun h4 => ?_)
  · skip
    have hln := hI.ln r (by omega) (by omega)
    refine q_aload_n dX12_put_9 rfl ?_
    refine q_get (v := .ref 70) fX12_26_12 rfl rfl dX12_put_10 ?_
    refine q_iload_n dX12_put_13 rfl ?_
    refine q_iald (f := (μ 9)) (n9 := 4) rfl (by omega) (by omega) dX12_put_14 ?_
    refine q_if_ge (tgt := 24) dX12_put_15 (by decide) ⟨by omega, by omega⟩ (fun h15 => ?_) (fun h15 => ?_)
    · skip
      refine q_iload_n dX12_put_24 rfl ?_
      refine q_i2lr dX12_put_25 hi ?_
      refine q_lconst 0 dX12_put_26 ?_
      refine q_aload_n dX12_put_27 rfl ?_
      refine q_get (v := .ref 70) fX12_26_12 rfl rfl dX12_put_28 ?_
      refine q_iload_n dX12_put_31 rfl ?_
      refine q_iald (f := (μ 9)) (n9 := 4) rfl (by omega) (by omega) dX12_put_32 ?_
      refine q_iconst dX12_put_33 ?_
      refine q_isub dX12_put_34 ?_
      refine q_i2lr dX12_put_35 ⟨by omega, by omega⟩ ?_
      refine q_cS [q_l i, q_l 0, q_l (((μ 9) r) - 1)] kX12_57 (tX12_in i 0 (((μ 9) r) - 1) (⟨by have := (hi).1; omega, by have := (hi).2; omega⟩) (⟨by decide, by decide⟩) (⟨by omega, by omega⟩) (m_w w μ)) dX12_put_36 rfl (by decide) (Nat.le_of_ble_eq_true rfl) rfl ?_
      refine q_ifb_ne (tgt := 48) dX12_put_39 (by decide) (fun h39 => ?_) (fun h39 => ?_)
      · skip
        refine q_aload_n dX12_put_48 rfl ?_
        refine q_get (v := .ref 71) fX12_29_12 rfl rfl dX12_put_49 ?_
        refine q_bipush dX12_put_52 ?_
        refine q_iload_n dX12_put_54 rfl ?_
        refine q_imul dX12_put_55 ?_
        refine q_iload_n dX12_put_56 rfl ?_
        refine q_iadd dX12_put_57 ?_
        refine q_iald (f := (μ 10)) (n9 := 240) rfl (by omega) (by omega) dX12_put_58 ?_
        refine q_istore (lv' := [some (.ref 64), some (q_i r), some (q_i i), some (q_i v), some (q_i ((μ 10) ((60 * r) + i)))]) dX12_put_59 (by decide) rfl ?_
        refine q_aload_n dX12_put_61 rfl ?_
        refine q_get (v := .ref 71) fX12_29_12 rfl rfl dX12_put_62 ?_
        refine q_bipush dX12_put_65 ?_
        refine q_iload_n dX12_put_67 rfl ?_
        refine q_imul dX12_put_68 ?_
        refine q_iload_n dX12_put_69 rfl ?_
        refine q_iadd dX12_put_70 ?_
        refine q_iload_n dX12_put_71 rfl ?_
        refine q_i2b dX12_put_72 hv ?_
        refine q_iast (f := (μ 10)) (n9 := 240) rfl (by omega) (by omega) dX12_put_73 ?_
        rw [m_a10]
        refine q_iload dX12_put_74 rfl ?_
        refine q_sipush dX12_put_76 ?_
        refine q_iadd dX12_put_79 ?_
        exact q_iret rfl dX12_put_80 (⟨by (unfold m_put_v; (repeat' split) <;> first | rfl | (exfalso; omega)), by (unfold m_put_s; (repeat' split) <;> first | rfl | (exfalso; omega))⟩)
      · skip
        refine q_aload_n dX12_put_42 rfl ?_
        refine q_iconst dX12_put_43 ?_
        refine q_cV [q_i 2] kX12_67_12 rfl (tX12_find w μ 2 (by decide) (by decide)) dX12_put_44 rfl (by decide) (Nat.le_of_ble_eq_true rfl) rfl ?_
        exact q_iret rfl dX12_put_47 (⟨by (unfold m_put_v; (repeat' split) <;> first | rfl | (exfalso; omega)), by (unfold m_put_s; (repeat' split) <;> first | rfl | (exfalso; omega))⟩)
    · skip
      refine q_aload_n dX12_put_18 rfl ?_
      refine q_iconst dX12_put_19 ?_
      refine q_cV [q_i 1] kX12_67_12 rfl (tX12_find w μ 1 (by decide) (by decide)) dX12_put_20 rfl (by decide) (Nat.le_of_ble_eq_true rfl) rfl ?_
      exact q_iret rfl dX12_put_23 (⟨by (unfold m_put_v; (repeat' split) <;> first | rfl | (exfalso; omega)), by (unfold m_put_s; (repeat' split) <;> first | rfl | (exfalso; omega))⟩)
  · skip
    refine q_iconst dX12_put_7 ?_
    exact q_iret rfl dX12_put_8 (⟨by (unfold m_put_v; (repeat' split) <;> first | rfl | (exfalso; omega)), by (unfold m_put_s; (repeat' split) <;> first | rfl | (exfalso; omega))⟩)
theorem q_cpy_0 (f g : Int → Int) (s d : Int) : q_cpy f g s d 0 = g := by
  funext j
  unfold q_cpy
  rw [if_neg (by omega)]
theorem q_cpy_f (f : Int → Int) {s d k : Int} (hk : 0 ≤ k) (h : s + k < d ∨ d ≤ s) : q_us (q_cpy f f s d k) (d + k) (q_cpy f f s d k (s + k)) = q_cpy f f s d (k + 1) := by
  have e : q_cpy f f s d k (s + k) = f (s + k) := by unfold q_cpy; rw [if_neg (by omega)]
  rw [e]
  funext j
  unfold q_us q_cpy
  by_cases h1 : j = d + k
  · rw [if_pos h1, if_pos (by omega), h1, show s + (d + k - d) = s + k by omega]
  · rw [if_neg h1]
    by_cases h2 : d ≤ j ∧ j < d + k
    · rw [if_pos h2, if_pos (by omega)]
    · rw [if_neg h2, if_neg (by omega)]
theorem q_cpy_b (f : Int → Int) {s d n k : Int} (hk : 0 ≤ k) (h : s + (n - 1 - k) < d + (n - k) ∨ d + n ≤ s + (n - 1 - k)) : q_us (q_cpy f f (s + (n - k)) (d + (n - k)) k) (d + (n - 1 - k)) (q_cpy f f (s + (n - k)) (d + (n - k)) k (s + (n - 1 - k))) = q_cpy f f (s + (n - (k + 1))) (d + (n - (k + 1))) (k + 1) := by
  have e : q_cpy f f (s + (n - k)) (d + (n - k)) k (s + (n - 1 - k)) = f (s + (n - 1 - k)) := by unfold q_cpy; rw [if_neg (by omega)]
  rw [e]
  funext j
  unfold q_us q_cpy
  by_cases h1 : j = d + (n - 1 - k)
  · rw [if_pos h1, if_pos (by omega), h1, show s + (n - (k + 1)) + (d + (n - 1 - k) - (d + (n - (k + 1)))) = s + (n - 1 - k) by omega]
  · rw [if_neg h1]
    by_cases h2 : d + (n - k) ≤ j ∧ j < d + (n - k) + k
    · rw [if_pos h2, if_pos (by omega), show s + (n - k) + (j - (d + (n - k))) = s + (n - (k + 1)) + (j - (d + (n - (k + 1)))) by omega]
    · rw [if_neg h2, if_neg (by omega)]
def m_copy_v (μ : m_S) (r i t j n : Int) : Int := if ¬ (0 ≤ r ∧ r ≤ 5) then -1 else if ¬ (0 ≤ t ∧ t ≤ 5) then -1 else if n < 0 then -3 else if μ 7 r < 0 then -3 else if μ 7 t < 0 then -3 else if ¬ (0 ≤ i ∧ i + n ≤ μ 7 r) then -3 else if ¬ (0 ≤ j ∧ j + n ≤ μ 7 t) then -3 else 1
def m_copy_s (μ : m_S) (r i t j n : Int) : m_S := if ¬ (0 ≤ r ∧ r ≤ 5) then μ else if ¬ (0 ≤ t ∧ t ≤ 5) then μ else if n < 0 then m_find μ 5 else if μ 7 r < 0 then m_find μ 1 else if μ 7 t < 0 then m_find μ 1 else if ¬ (0 ≤ i ∧ i + n ≤ μ 7 r) then m_find μ 2 else if ¬ (0 ≤ j ∧ j + n ≤ μ 7 t) then m_find μ 2 else m_u μ 8 (q_cpy (μ 8) (μ 8) (40 * r + i) (40 * t + j) n)
set_option maxRecDepth 20000 in
theorem tX12_copy (w : q_W) (μ : m_S) (r i t j n : Int) (hr : q_r r) (hi : q_r i) (ht : q_r t) (hj : q_r j) (hn : q_r n) (hI : m_I μ) : q_D mX12_copy 2 [.ref 64, q_i r, q_i i, q_i t, q_i j, q_i n] (m_w w μ) (some (q_i (m_copy_v μ r i t j n))) (m_w w (m_copy_s μ r i t j n)) := by
  refine q_T.of (lv := [some (.ref 64), some (q_i r), some (q_i i), some (q_i t), some (q_i j), some (q_i n), none, none, none]) (by decide) rfl (Nat.le_of_ble_eq_true rfl) ?_
  refine q_iload_n dX12_copy_0 rfl ?_
  refine q_cS [q_i r] kX12_63 (tX12_isRow (m_w w μ) r (hr)) dX12_copy_1 rfl (by decide) (Nat.le_of_ble_eq_true rfl) rfl ?_
  refine q_ifb_eq (tgt := 14) dX12_copy_4 (by decide) (fun h4 => ?_) (fun h4 => ?_)
  · skip
    refine q_iconst dX12_copy_14 ?_
    exact q_iret rfl dX12_copy_15 (⟨by (unfold m_copy_v; (repeat' split) <;> first | rfl | (exfalso; omega)), by (unfold m_copy_s; (repeat' split) <;> first | rfl | (exfalso; omega))⟩)
  · skip
    refine q_iload_n dX12_copy_7 rfl ?_
    refine q_cS [q_i t] kX12_63 (tX12_isRow (m_w w μ) t (ht)) dX12_copy_8 rfl (by decide) (Nat.le_of_ble_eq_true rfl) rfl ?_
    refine q_ifb_ne (tgt := 16) dX12_copy_11 (by decide) (fun h11 => ?_) (fun h11 => ?_)
    · skip
      refine q_iload dX12_copy_16 rfl ?_
      refine q_if_ge (tgt := 27) dX12_copy_18 (by decide) hn (fun h18 => ?_) (fun h18 => ?_)
      · skip
        have hsz := hI.sz r (by omega) (by omega)
        have hst := hI.sz t (by omega) (by omega)
        refine q_aload_n dX12_copy_27 rfl ?_
        refine q_get (v := .ref 68) fX12_20_12 rfl rfl dX12_copy_28 ?_
        refine q_iload_n dX12_copy_31 rfl ?_
        refine q_iald (f := (μ 7)) (n9 := 6) rfl (by omega) (by omega) dX12_copy_32 ?_
        refine q_if_lt (tgt := 45) dX12_copy_33 (by decide) ⟨by omega, by omega⟩ (fun h33 => ?_) (fun h33 => ?_)
        · skip
          refine q_aload_n dX12_copy_45 rfl ?_
          refine q_iconst dX12_copy_46 ?_
          refine q_cV [q_i 1] kX12_67_12 rfl (tX12_find w μ 1 (by decide) (by decide)) dX12_copy_47 rfl (by decide) (Nat.le_of_ble_eq_true rfl) rfl ?_
          exact q_iret rfl dX12_copy_50 (⟨by (unfold m_copy_v; (repeat' split) <;> first | rfl | (exfalso; omega)), by (unfold m_copy_s; (repeat' split) <;> first | rfl | (exfalso; omega))⟩)
        · skip
          refine q_aload_n dX12_copy_36 rfl ?_
          refine q_get (v := .ref 68) fX12_20_12 rfl rfl dX12_copy_37 ?_
          refine q_iload_n dX12_copy_40 rfl ?_
          refine q_iald (f := (μ 7)) (n9 := 6) rfl (by omega) (by omega) dX12_copy_41 ?_
          refine q_if_ge (tgt := 51) dX12_copy_42 (by decide) ⟨by omega, by omega⟩ (fun h42 => ?_) (fun h42 => ?_)
          · skip
            refine q_aload_n dX12_copy_51 rfl ?_
            refine q_iload_n dX12_copy_52 rfl ?_
            refine q_iload_n dX12_copy_53 rfl ?_
            refine q_iload dX12_copy_54 rfl ?_
            refine q_cV [q_i r, q_i i, q_i n] kX12_82_12 rfl (tX12_isSpan w μ r i n (by omega) (by omega) hi hn hI) dX12_copy_56 rfl (by decide) (Nat.le_of_ble_eq_true rfl) rfl ?_
            refine q_ifb_eq (tgt := 74) dX12_copy_59 (by decide) (fun h59 => ?_) (fun h59 => ?_)
            · skip
              refine q_aload_n dX12_copy_74 rfl ?_
              refine q_iconst dX12_copy_75 ?_
              refine q_cV [q_i 2] kX12_67_12 rfl (tX12_find w μ 2 (by decide) (by decide)) dX12_copy_76 rfl (by decide) (Nat.le_of_ble_eq_true rfl) rfl ?_
              exact q_iret rfl dX12_copy_79 (⟨by (unfold m_copy_v; (repeat' split) <;> first | rfl | (exfalso; omega)), by (unfold m_copy_s; (repeat' split) <;> first | rfl | (exfalso; omega))⟩)
            · skip
              refine q_aload_n dX12_copy_62 rfl ?_
              refine q_iload_n dX12_copy_63 rfl ?_
              refine q_iload dX12_copy_64 rfl ?_
              refine q_iload dX12_copy_66 rfl ?_
              refine q_cV [q_i t, q_i j, q_i n] kX12_82_12 rfl (tX12_isSpan w μ t j n (by omega) (by omega) hj hn hI) dX12_copy_68 rfl (by decide) (Nat.le_of_ble_eq_true rfl) rfl ?_
              refine q_ifb_ne (tgt := 80) dX12_copy_71 (by decide) (fun h71 => ?_) (fun h71 => ?_)
              · skip
                refine q_iload_n dX12_copy_80 rfl ?_
                refine q_iload dX12_copy_81 rfl ?_
                refine q_icmp_ge (tgt := 90) dX12_copy_83 (by decide) hi hj (fun h83 => ?_) (fun h83 => ?_)
                · skip
                  refine q_iconst dX12_copy_90 ?_
                  refine q_istore (lv' := [some (.ref 64), some (q_i r), some (q_i i), some (q_i t), some (q_i j), some (q_i n), some (q_i 0), none, none]) dX12_copy_91 (by decide) rfl ?_
                  refine q_iconst dX12_copy_93 ?_
                  refine q_istore (lv' := [some (.ref 64), some (q_i r), some (q_i i), some (q_i t), some (q_i j), some (q_i n), some (q_i 0), some (q_i 0), none]) dX12_copy_94 (by decide) rfl ?_
                  have L96 : ∀ (m9 : Nat) (k : Int) (hk0 : 0 ≤ k) (hk1 : k ≤ n) (hm9 : n - k < (m9 : Int)), q_J mX12_copy 2 (fun v' w' => v' = (some (q_i (m_copy_v μ r i t j n))) ∧ w' = (m_w w (m_copy_s μ r i t j n))) 0 0 96 [some (.ref 64), some (q_i r), some (q_i i), some (q_i t), some (q_i j), some (q_i n), some (q_i 0), some (q_i k), none] [] (m_w w (m_u μ 8 (q_cpy (μ 8) (μ 8) (40 * r + i) (40 * t + j) k))) := by
                    intro m9
                    induction m9 with
                    | zero => intro k hk0 hk1 hm9; exact absurd hm9 (by omega)
                    | succ m9 ih96 =>
                      intro k hk0 hk1 hm9
                      refine q_iload dX12_copy_96 rfl ?_
                      refine q_iload dX12_copy_98 rfl ?_
                      refine q_icmp_ge (tgt := 157) dX12_copy_100 (by decide) ⟨by omega, by omega⟩ hn (fun h100 => ?_) (fun h100 => ?_)
                      · skip
                        refine q_iconst dX12_copy_157 ?_
                        exact q_iret rfl dX12_copy_158 (⟨by (unfold m_copy_v; (repeat' split) <;> first | rfl | (exfalso; omega)), by rw [show k = n by omega]; unfold m_copy_s; (repeat' split) <;> first | rfl | (exfalso; omega)⟩)
                      · skip
                        refine q_iload dX12_copy_103 rfl ?_
                        refine q_if_eq (tgt := 118) dX12_copy_105 (by decide) ⟨by decide, by decide⟩ (fun h105 => ?_) (fun h105 => False.elim (by omega))
                        refine q_iload dX12_copy_118 rfl ?_
                        refine q_istore (lv' := [some (.ref 64), some (q_i r), some (q_i i), some (q_i t), some (q_i j), some (q_i n), some (q_i 0), some (q_i k), some (q_i k)]) dX12_copy_120 (by decide) rfl ?_
                        refine q_aload_n dX12_copy_122 rfl ?_
                        refine q_get (v := .ref 69) fX12_23_12 rfl rfl dX12_copy_123 ?_
                        refine q_bipush dX12_copy_126 ?_
                        refine q_iload_n dX12_copy_128 rfl ?_
                        refine q_imul dX12_copy_129 ?_
                        refine q_iload dX12_copy_130 rfl ?_
                        refine q_iadd dX12_copy_132 ?_
                        refine q_iload dX12_copy_133 rfl ?_
                        refine q_iadd dX12_copy_135 ?_
                        refine q_aload_n dX12_copy_136 rfl ?_
                        refine q_get (v := .ref 69) fX12_23_12 rfl rfl dX12_copy_137 ?_
                        refine q_bipush dX12_copy_140 ?_
                        refine q_iload_n dX12_copy_142 rfl ?_
                        refine q_imul dX12_copy_143 ?_
                        refine q_iload_n dX12_copy_144 rfl ?_
                        refine q_iadd dX12_copy_145 ?_
                        refine q_iload dX12_copy_146 rfl ?_
                        refine q_iadd dX12_copy_148 ?_
                        refine q_iald (f := (q_cpy (μ 8) (μ 8) (40 * r + i) (40 * t + j) k)) (n9 := 240) rfl (by omega) (by omega) dX12_copy_149 ?_
                        refine q_iast (f := (q_cpy (μ 8) (μ 8) (40 * r + i) (40 * t + j) k)) (n9 := 240) rfl (by omega) (by omega) dX12_copy_150 ?_
                        rw [m_a8]
                        refine q_iinc (lv' := [some (.ref 64), some (q_i r), some (q_i i), some (q_i t), some (q_i j), some (q_i n), some (q_i 0), some (q_i (k + 1)), some (q_i k)]) dX12_copy_151 rfl (by decide) rfl ?_
                        refine q_goto (tgt := 96) dX12_copy_154 (by decide) ?_
                        exact q_Jle (q_le_s (rfl) (q_le_s (rfl) (q_le_s (rfl) (q_le_s (rfl) (q_le_s (rfl) (q_le_s (rfl) (q_le_s (rfl) (q_le_s (rfl) (q_le_n (q_le_e _)))))))))) (rfl) (by rw [m_uu]; exact congrArg (fun f => m_w w (m_u μ 8 f)) (q_cpy_f (μ 8) hk0 (by omega))) (ih96 (k + 1) (by omega) (by omega) (by omega))
                  exact q_Jle (q_le_s (rfl) (q_le_s (rfl) (q_le_s (rfl) (q_le_s (rfl) (q_le_s (rfl) (q_le_s (rfl) (q_le_s (rfl) (q_le_s (rfl) (q_le_n (q_le_e _)))))))))) (rfl) (by rw [q_cpy_0]; exact (congrArg (m_w w) (m_uid _ 8)).symm) (L96 ((n : Int).toNat + 1) 0 (by omega) (by omega) (by omega))
                · skip
                  refine q_iconst dX12_copy_86 ?_
                  refine q_goto (tgt := 91) dX12_copy_87 (by decide) ?_
                  refine q_istore (lv' := [some (.ref 64), some (q_i r), some (q_i i), some (q_i t), some (q_i j), some (q_i n), some (q_i 1), none, none]) dX12_copy_91 (by decide) rfl ?_
                  refine q_iconst dX12_copy_93 ?_
                  refine q_istore (lv' := [some (.ref 64), some (q_i r), some (q_i i), some (q_i t), some (q_i j), some (q_i n), some (q_i 1), some (q_i 0), none]) dX12_copy_94 (by decide) rfl ?_
                  have L96 : ∀ (m9 : Nat) (k : Int) (hk0 : 0 ≤ k) (hk1 : k ≤ n) (hm9 : n - k < (m9 : Int)), q_J mX12_copy 2 (fun v' w' => v' = (some (q_i (m_copy_v μ r i t j n))) ∧ w' = (m_w w (m_copy_s μ r i t j n))) 0 0 96 [some (.ref 64), some (q_i r), some (q_i i), some (q_i t), some (q_i j), some (q_i n), some (q_i 1), some (q_i k), none] [] (m_w w (m_u μ 8 (q_cpy (μ 8) (μ 8) (40 * r + i + (n - k)) (40 * t + j + (n - k)) k))) := by
                    intro m9
                    induction m9 with
                    | zero => intro k hk0 hk1 hm9; exact absurd hm9 (by omega)
                    | succ m9 ih96 =>
                      intro k hk0 hk1 hm9
                      refine q_iload dX12_copy_96 rfl ?_
                      refine q_iload dX12_copy_98 rfl ?_
                      refine q_icmp_ge (tgt := 157) dX12_copy_100 (by decide) ⟨by omega, by omega⟩ hn (fun h100 => ?_) (fun h100 => ?_)
                      · skip
                        refine q_iconst dX12_copy_157 ?_
                        exact q_iret rfl dX12_copy_158 (⟨by (unfold m_copy_v; (repeat' split) <;> first | rfl | (exfalso; omega)), by rw [show k = n by omega]; rw [show n - n = 0 by omega, Int.add_zero, Int.add_zero]; unfold m_copy_s; (repeat' split) <;> first | rfl | (exfalso; omega)⟩)
                      · skip
                        refine q_iload dX12_copy_103 rfl ?_
                        refine q_if_eq (tgt := 118) dX12_copy_105 (by decide) ⟨by decide, by decide⟩ (fun h105 => False.elim (by omega)) (fun h105 => ?_)
                        refine q_iload dX12_copy_108 rfl ?_
                        refine q_iconst dX12_copy_110 ?_
                        refine q_isub dX12_copy_111 ?_
                        refine q_iload dX12_copy_112 rfl ?_
                        refine q_isub dX12_copy_114 ?_
                        refine q_goto (tgt := 120) dX12_copy_115 (by decide) ?_
                        refine q_istore (lv' := [some (.ref 64), some (q_i r), some (q_i i), some (q_i t), some (q_i j), some (q_i n), some (q_i 1), some (q_i k), some (q_i ((n - 1) - k))]) dX12_copy_120 (by decide) rfl ?_
                        refine q_aload_n dX12_copy_122 rfl ?_
                        refine q_get (v := .ref 69) fX12_23_12 rfl rfl dX12_copy_123 ?_
                        refine q_bipush dX12_copy_126 ?_
                        refine q_iload_n dX12_copy_128 rfl ?_
                        refine q_imul dX12_copy_129 ?_
                        refine q_iload dX12_copy_130 rfl ?_
                        refine q_iadd dX12_copy_132 ?_
                        refine q_iload dX12_copy_133 rfl ?_
                        refine q_iadd dX12_copy_135 ?_
                        refine q_aload_n dX12_copy_136 rfl ?_
                        refine q_get (v := .ref 69) fX12_23_12 rfl rfl dX12_copy_137 ?_
                        refine q_bipush dX12_copy_140 ?_
                        refine q_iload_n dX12_copy_142 rfl ?_
                        refine q_imul dX12_copy_143 ?_
                        refine q_iload_n dX12_copy_144 rfl ?_
                        refine q_iadd dX12_copy_145 ?_
                        refine q_iload dX12_copy_146 rfl ?_
                        refine q_iadd dX12_copy_148 ?_
                        refine q_iald (f := (q_cpy (μ 8) (μ 8) (40 * r + i + (n - k)) (40 * t + j + (n - k)) k)) (n9 := 240) rfl (by omega) (by omega) dX12_copy_149 ?_
                        refine q_iast (f := (q_cpy (μ 8) (μ 8) (40 * r + i + (n - k)) (40 * t + j + (n - k)) k)) (n9 := 240) rfl (by omega) (by omega) dX12_copy_150 ?_
                        rw [m_a8]
                        refine q_iinc (lv' := [some (.ref 64), some (q_i r), some (q_i i), some (q_i t), some (q_i j), some (q_i n), some (q_i 1), some (q_i (k + 1)), some (q_i ((n - 1) - k))]) dX12_copy_151 rfl (by decide) rfl ?_
                        refine q_goto (tgt := 96) dX12_copy_154 (by decide) ?_
                        exact q_Jle (q_le_s (rfl) (q_le_s (rfl) (q_le_s (rfl) (q_le_s (rfl) (q_le_s (rfl) (q_le_s (rfl) (q_le_s (rfl) (q_le_s (rfl) (q_le_n (q_le_e _)))))))))) (rfl) (by rw [m_uu]; exact congrArg (fun f => m_w w (m_u μ 8 f)) (q_cpy_b (μ 8) hk0 (by omega))) (ih96 (k + 1) (by omega) (by omega) (by omega))
                  exact q_Jle (q_le_s (rfl) (q_le_s (rfl) (q_le_s (rfl) (q_le_s (rfl) (q_le_s (rfl) (q_le_s (rfl) (q_le_s (rfl) (q_le_s (rfl) (q_le_n (q_le_e _)))))))))) (rfl) (by rw [q_cpy_0]; exact (congrArg (m_w w) (m_uid _ 8)).symm) (L96 ((n : Int).toNat + 1) 0 (by omega) (by omega) (by omega))
              · skip
                refine q_aload_n dX12_copy_74 rfl ?_
                refine q_iconst dX12_copy_75 ?_
                refine q_cV [q_i 2] kX12_67_12 rfl (tX12_find w μ 2 (by decide) (by decide)) dX12_copy_76 rfl (by decide) (Nat.le_of_ble_eq_true rfl) rfl ?_
                exact q_iret rfl dX12_copy_79 (⟨by (unfold m_copy_v; (repeat' split) <;> first | rfl | (exfalso; omega)), by (unfold m_copy_s; (repeat' split) <;> first | rfl | (exfalso; omega))⟩)
          · skip
            refine q_aload_n dX12_copy_45 rfl ?_
            refine q_iconst dX12_copy_46 ?_
            refine q_cV [q_i 1] kX12_67_12 rfl (tX12_find w μ 1 (by decide) (by decide)) dX12_copy_47 rfl (by decide) (Nat.le_of_ble_eq_true rfl) rfl ?_
            exact q_iret rfl dX12_copy_50 (⟨by (unfold m_copy_v; (repeat' split) <;> first | rfl | (exfalso; omega)), by (unfold m_copy_s; (repeat' split) <;> first | rfl | (exfalso; omega))⟩)
      · skip
        refine q_aload_n dX12_copy_21 rfl ?_
        refine q_iconst dX12_copy_22 ?_
        refine q_cV [q_i 5] kX12_67_12 rfl (tX12_find w μ 5 (by decide) (by decide)) dX12_copy_23 rfl (by decide) (Nat.le_of_ble_eq_true rfl) rfl ?_
        exact q_iret rfl dX12_copy_26 (⟨by (unfold m_copy_v; (repeat' split) <;> first | rfl | (exfalso; omega)), by (unfold m_copy_s; (repeat' split) <;> first | rfl | (exfalso; omega))⟩)
    · skip
      refine q_iconst dX12_copy_14 ?_
      exact q_iret rfl dX12_copy_15 (⟨by (unfold m_copy_v; (repeat' split) <;> first | rfl | (exfalso; omega)), by (unfold m_copy_s; (repeat' split) <;> first | rfl | (exfalso; omega))⟩)
