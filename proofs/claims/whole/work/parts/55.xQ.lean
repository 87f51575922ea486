/-! the class: what its calls share -/
def x_fi (ξ : m_S) (z : Int) : m_S := m_u (m_u ξ 0 (q_us (ξ 0) 6 z)) 31 (q_us (ξ 31) z (ξ 31 z + 1))
def x_tn (ξ : m_S) (v : Int) : m_S := m_u ξ 0 (q_us (ξ 0) 7 v)
def z_f2 : Nat → Int × Int
  | 0 => (0, 1)
  | n + 1 => ((z_f2 n).2, (z_f2 n).1 + (z_f2 n).2)
def z_fb (n : Nat) : Int := (z_f2 n).1
theorem z_fb_s (n : Nat) : z_fb (n + 2) = z_fb n + z_fb (n + 1) := rfl
/-- Euclid's way from a, b ends within k steps -/
def z_en : Nat → Int → Int → Prop
  | 0, _, b => b = 0
  | k + 1, a, b => b = 0 ∨ z_en k b (a.tmod b)
theorem z_en_f : ∀ n : Nat, (∀ a b : Int, 0 ≤ b → b < a → b < z_fb (n + 2) → z_en n a b) ∧ (∀ a b : Int, 0 ≤ b → b < a → b < z_fb (n + 3) → z_en (n + 1) a b)
  | 0 => ⟨fun a b h0 _ h2 => by
      have h2' : b < 1 := h2
      show b = 0
      omega, fun a b h0 h1 h2 => by
      have h2' : b < 2 := h2
      by_cases e : b = 0
      · exact Or.inl e
      · right
        show a.tmod b = 0
        rw [show b = 1 by omega, Int.tmod_one]⟩
  | n + 1 => by
    have ih := z_en_f n
    refine ⟨ih.2, fun a b h0 h1 h2 => ?_⟩
    by_cases e : b = 0
    · exact Or.inl e
    · right
      have r0 : 0 ≤ a.tmod b := Int.tmod_nonneg _ (by omega)
      have r1 : a.tmod b < b := Int.tmod_lt_of_pos _ (by omega)
      by_cases hc : a.tmod b < z_fb (n + 3)
      · exact ih.2 b (a.tmod b) r0 r1 hc
      · have hs : z_fb (n + 4) = z_fb (n + 2) + z_fb (n + 3) := z_fb_s (n + 2)
        have h2' : b < z_fb (n + 4) := h2
        by_cases e2 : a.tmod b = 0
        · exact Or.inl e2
        · right
          have q0 : 0 ≤ b.tmod (a.tmod b) := Int.tmod_nonneg _ (by omega)
          have q1 : b.tmod (a.tmod b) < a.tmod b := Int.tmod_lt_of_pos _ (by omega)
          have q2 : b.tmod (a.tmod b) ≤ b - a.tmod b := by
            have m1 := Int.tmod_add_mul_tdiv b (a.tmod b)
            have m2 : 1 ≤ b.tdiv (a.tmod b) := by
              rw [Int.tdiv_eq_ediv_of_nonneg (by omega)]
              exact (Int.le_ediv_iff_mul_le (by omega)).mpr (by omega)
            have m3 : a.tmod b * 1 ≤ a.tmod b * b.tdiv (a.tmod b) := Int.mul_le_mul_of_nonneg_left m2 (by omega)
            omega
          exact ih.1 (a.tmod b) (b.tmod (a.tmod b)) q0 q1 (by omega)
theorem z_fb_101 : 4611686018427387904 ≤ z_fb 101 := by decide +kernel
theorem z_en_100 {a b : Int} (ha : 0 ≤ a) (hb : 0 ≤ b) (hb1 : b < 4611686018427387904) : z_en 100 a b := by
  by_cases e : b = 0
  · exact Or.inl e
  · right
    have h := z_fb_101
    have r1 : a.tmod b < b := Int.tmod_lt_of_pos _ (by omega)
    exact (z_en_f 99).1 b (a.tmod b) (Int.tmod_nonneg _ ha) r1 (by show _ < z_fb 101; omega)
set_option maxRecDepth 20000 in
theorem tX11_found (w : q_W) (ξ : m_S) (B P : Nat) (g : Int → Option Nat) (z : Int) (h0 : 0 ≤ z) (h1 : z < 6) : q_D mX11_found 0 [.ref 0, q_i z] (x_w w ξ B P g) (some (q_i (-3))) (x_w w (x_fi ξ z) B P g) := by
  refine q_T.of (lv := [some (.ref 0), some (q_i z)]) (by decide) rfl (Nat.le_of_ble_eq_true rfl) ?_
  refine q_aload_n dX11_found_0 rfl ?_
  refine q_iload_n dX11_found_1 rfl ?_
  refine q_puti (fs := [.ref 1, .ref 2, .ref 3, .ref 4, .ref 7, .ref 31, q_i (ξ 0 6), q_i (ξ 0 7), q_l (ξ 0 8), q_l (ξ 0 9)]) pX11_42_11 rfl (Nat.le_of_ble_eq_true rfl) dX11_found_2 ?_
  refine q_Jeq rfl rfl (x_up (f := (q_us (ξ 0) 6 z)) rfl) ?_
  refine q_aload_n dX11_found_5 rfl ?_
  refine q_get (v := .ref 31) fX11_38_11 rfl rfl dX11_found_6 ?_
  refine q_iload_n dX11_found_9 rfl ?_
  refine q_dup2 dX11_found_10 rfl rfl ?_
  refine q_iald (f := (ξ 31)) (n9 := 6) rfl (by omega) (by omega) dX11_found_11 ?_
  refine q_iconst dX11_found_12 ?_
  refine q_iadd dX11_found_13 ?_
  refine q_iast (f := (ξ 31)) (n9 := 6) rfl (by omega) (by omega) dX11_found_14 ?_
  refine q_Jeq rfl rfl (x_up (f := (q_us (ξ 31) z (((ξ 31) z) + 1))) rfl) ?_
  refine q_bipush dX11_found_15 ?_
  exact q_iret rfl dX11_found_17 (⟨rfl, rfl⟩)
set_option maxRecDepth 20000 in
theorem tX11_tellNumber (w : q_W) (ξ : m_S) (B P : Nat) (g : Int → Option Nat) (v : Int) : q_D mX11_tellNumber 0 [.ref 0, q_i v] (x_w w ξ B P g) none (x_w w (x_tn ξ v) B P g) := by
  refine q_T.of (lv := [some (.ref 0), some (q_i v)]) (by decide) rfl (Nat.le_of_ble_eq_true rfl) ?_
  refine q_aload_n dX11_tellNumber_0 rfl ?_
  refine q_iload_n dX11_tellNumber_1 rfl ?_
  refine q_puti (fs := [.ref 1, .ref 2, .ref 3, .ref 4, .ref 7, .ref 31, q_i (ξ 0 6), q_i (ξ 0 7), q_l (ξ 0 8), q_l (ξ 0 9)]) pX11_46_11 rfl (Nat.le_of_ble_eq_true rfl) dX11_tellNumber_2 ?_
  refine q_Jeq rfl rfl (x_up (f := (q_us (ξ 0) 7 v)) rfl) ?_
  exact q_vret rfl dX11_tellNumber_5 (⟨rfl, rfl⟩)
set_option maxRecDepth 20000 in
theorem tX11_greatestShared (w : q_W) (ξ : m_S) (B P : Nat) (g : Int → Option Nat) (a b : Int) (ha0 : 0 ≤ a) (ha1 : a < 4611686018427387904) (hb0 : 0 ≤ b) (hb1 : b < 4611686018427387904) : q_D mX11_greatestShared 0 [q_l a, q_l b] (x_w w ξ B P g) (some (q_l (z_g a b))) (x_w w ξ B P g) := by
  refine q_T.of (lv := [some (q_l a), none, some (q_l b), none, none, none, none]) (by decide) rfl (Nat.le_of_ble_eq_true rfl) ?_
  refine q_iconst dX11_greatestShared_0 ?_
  refine q_istore (lv' := [some (q_l a), none, some (q_l b), none, some (q_i 0), none, none]) dX11_greatestShared_1 (by decide) rfl ?_
  have L3 : ∀ (m9 : Nat) (x : Int) (y : Int) (k : Int) (hx0 : 0 ≤ x) (hx1 : x < 4611686018427387904) (hy0 : 0 ≤ y) (hy1 : y < 4611686018427387904) (hk0 : 0 ≤ k) (hk1 : k ≤ 100) (hg : z_g x y = z_g a b) (hE : z_en (100 - k).toNat x y) (hm9 : 100 - k < (m9 : Int)), q_J mX11_greatestShared 0 (fun v' w' => v' = (some (q_l (z_g a b))) ∧ w' = (x_w w ξ B P g)) 0 0 3 [some (q_l x), none, some (q_l y), none, some (q_i k), none, none] [] (x_w w ξ B P g) := by
    intro m9
    induction m9 with
    | zero => intro x y k hx0 hx1 hy0 hy1 hk0 hk1 hg hE hm9; exact absurd hm9 (by omega)
    | succ m9 ih3 =>
      intro x y k hx0 hx1 hy0 hy1 hk0 hk1 hg hE hm9
      refine q_iload dX11_greatestShared_3 rfl ?_
      refine q_bipush dX11_greatestShared_5 ?_
      refine q_icmp_ge (tgt := 32) dX11_greatestShared_7 (by decide) ⟨by omega, by omega⟩ ⟨by decide, by decide⟩ (fun h7 => ?_) (fun h7 => ?_)
      · skip
        refine q_lload_n dX11_greatestShared_32 rfl ?_
        exact q_lret rfl dX11_greatestShared_33 (⟨by rw [← hg, show y = 0 from by have q := hE; rw [show (100 - k).toNat = 0 by omega] at q; exact q, z_g_0 hx0], rfl⟩)
      · skip
        refine q_lload_n dX11_greatestShared_10 rfl ?_
        refine q_lconst 0 dX11_greatestShared_11 ?_
        refine q_lcmp_eq (tgt := 32) dX11_greatestShared_12 dX11_greatestShared_13 (by decide) ⟨by omega, by omega⟩ ⟨by decide, by decide⟩ (fun h12 => ?_) (fun h12 => ?_)
        · skip
          refine q_lload_n dX11_greatestShared_32 rfl ?_
          exact q_lret rfl dX11_greatestShared_33 (⟨by rw [← hg, show y = 0 from h12, z_g_0 hx0], rfl⟩)
        · skip
          refine q_lload_n dX11_greatestShared_16 rfl ?_
          refine q_lload_n dX11_greatestShared_17 rfl ?_
          refine q_lrem dX11_greatestShared_18 ⟨by omega, by omega⟩ ⟨by omega, by omega⟩ (by omega) (by omega) ?_
          refine q_lstore (lv' := [some (q_l x), none, some (q_l y), none, some (q_i k), some (q_l ((x).tmod y)), none]) dX11_greatestShared_19 (by decide) rfl ?_
          refine q_lload_n dX11_greatestShared_21 rfl ?_
          refine q_lstore_n (lv' := [some (q_l y), none, some (q_l y), none, some (q_i k), some (q_l ((x).tmod y)), none]) dX11_greatestShared_22 (by decide) rfl ?_
          refine q_lload dX11_greatestShared_23 rfl ?_
          refine q_lstore_n (lv' := [some (q_l y), none, some (q_l ((x).tmod y)), none, some (q_i k), some (q_l ((x).tmod y)), none]) dX11_greatestShared_25 (by decide) rfl ?_
          refine q_iinc (lv' := [some (q_l y), none, some (q_l ((x).tmod y)), none, some (q_i (k + 1)), some (q_l ((x).tmod y)), none]) dX11_greatestShared_26 rfl (by decide) rfl ?_
          refine q_goto (tgt := 3) dX11_greatestShared_29 (by decide) ?_
          exact q_Jle (q_le_s (rfl) (q_le_n (q_le_s (rfl) (q_le_n (q_le_s (rfl) (q_le_n (q_le_n (q_le_e _)))))))) (rfl) (rfl) (ih3 y (x.tmod y) (k + 1) (by omega) (by omega) (Int.tmod_nonneg _ hx0) (by have := Int.tmod_lt_of_pos x (b := y) (by omega); omega) (by omega) (by omega) ((z_g_s hx0 hy0).trans hg) (by have q := hE; rw [show (100 - k).toNat = (100 - (k + 1)).toNat + 1 by omega] at q; exact q.resolve_left h12) (by omega))
  exact q_Jle (q_le_s (rfl) (q_le_n (q_le_s (rfl) (q_le_n (q_le_s (rfl) (q_le_n (q_le_n (q_le_e _)))))))) (rfl) (rfl) (L3 ((100 : Int).toNat + 1) a b 0 (by omega) (by omega) (by omega) (by omega) (by omega) (by omega) (rfl) (z_en_100 ha0 hb0 hb1) (by omega))
def x_tp (ξ : m_S) (a b : Int) : m_S := m_u ξ 0 (q_us (q_us (ξ 0) 8 (a.tdiv (z_g a b))) 9 (b.tdiv (z_g a b)))
set_option maxRecDepth 20000 in
theorem tX11_tellChance (w : q_W) (ξ : m_S) (B P : Nat) (g : Int → Option Nat) (a b : Int) (ha0 : 0 ≤ a) (ha1 : a < 4611686018427387904) (hb0 : 0 < b) (hb1 : b < 4611686018427387904) : q_D mX11_tellChance 1 [.ref 0, q_l a, q_l b] (x_w w ξ B P g) (some (q_i 1)) (x_w w (x_tp ξ a b) B P g) := by
  refine q_T.of (lv := [some (.ref 0), some (q_l a), none, some (q_l b), none, none, none]) (by decide) rfl (Nat.le_of_ble_eq_true rfl) ?_
  have hgp := z_g_pos a hb0
  have hgl := z_g_le a hb0
  refine q_lload_n dX11_tellChance_0 rfl ?_
  refine q_lload_n dX11_tellChance_1 rfl ?_
  refine q_cS [q_l a, q_l b] kX11_344 (tX11_greatestShared w ξ B P g a b ha0 ha1 (by omega) hb1) dX11_tellChance_2 rfl (by decide) (Nat.le_of_ble_eq_true rfl) rfl ?_
  refine q_lstore (lv' := [some (.ref 0), some (q_l a), none, some (q_l b), none, some (q_l (z_g a b)), none]) dX11_tellChance_5 (by decide) rfl ?_
  refine q_lload dX11_tellChance_7 rfl ?_
  refine q_lconst 0 dX11_tellChance_9 ?_
  refine q_lcmp_eq (tgt := 30) dX11_tellChance_10 dX11_tellChance_11 (by decide) ⟨by omega, by omega⟩ ⟨by decide, by decide⟩ (fun h10 => False.elim (by omega)) (fun h10 => ?_)
  refine q_aload_n dX11_tellChance_14 rfl ?_
  refine q_lload_n dX11_tellChance_15 rfl ?_
  refine q_lload dX11_tellChance_16 rfl ?_
  refine q_ldiv dX11_tellChance_18 ⟨by omega, by omega⟩ ⟨by omega, by omega⟩ (by omega) (by omega) ?_
  refine q_putl (fs := [.ref 1, .ref 2, .ref 3, .ref 4, .ref 7, .ref 31, q_i (ξ 0 6), q_i (ξ 0 7), q_l (ξ 0 8), q_l (ξ 0 9)]) pX11_49_11 rfl (Nat.le_of_ble_eq_true rfl) dX11_tellChance_19 ?_
  refine q_Jeq rfl rfl (x_up (f := (q_us (ξ 0) 8 ((a).tdiv (z_g a b)))) rfl) ?_
  refine q_aload_n dX11_tellChance_22 rfl ?_
  refine q_lload_n dX11_tellChance_23 rfl ?_
  refine q_lload dX11_tellChance_24 rfl ?_
  refine q_ldiv dX11_tellChance_26 ⟨by omega, by omega⟩ ⟨by omega, by omega⟩ (by omega) (by omega) ?_
  refine q_putl (fs := [.ref 1, .ref 2, .ref 3, .ref 4, .ref 7, .ref 31, q_i (ξ 0 6), q_i (ξ 0 7), q_l ((a).tdiv (z_g a b)), q_l (ξ 0 9)]) pX11_53_11 rfl (Nat.le_of_ble_eq_true rfl) dX11_tellChance_27 ?_
  refine q_Jeq rfl rfl (x_up (f := (q_us (q_us (ξ 0) 8 ((a).tdiv (z_g a b))) 9 ((b).tdiv (z_g a b)))) rfl) ?_
  refine q_iconst dX11_tellChance_30 ?_
  exact q_iret rfl dX11_tellChance_31 (⟨rfl, by rw [m_uu]; rfl⟩)
set_option maxRecDepth 20000 in
theorem tX11_among_1y (w : q_W) (ξ : m_S) (B P : Nat) (g : Int → Option Nat) (i : Int) (h0 : 0 ≤ i) (h1 : i < 6) : q_D mX11_among 0 [.ref 1, q_i i] (x_w w ξ B P g) (some (.ref (32 + 2 * i.toNat))) (x_w w ξ B P g) := by
  refine q_T.of (lv := [some (.ref 1), some (q_i i)]) (by decide) rfl (Nat.le_of_ble_eq_true rfl) ?_
  refine q_iload_n dX11_among_0 rfl ?_
  refine q_if_lt (tgt := 10) dX11_among_1 (by decide) ⟨by omega, by omega⟩ (fun h1 => False.elim (by omega)) (fun h1 => ?_)
  refine q_iload_n dX11_among_4 rfl ?_
  refine q_aload_n dX11_among_5 rfl ?_
  refine q_alen rfl (by decide) dX11_among_6 ?_
  refine q_icmp_lt (tgt := 14) dX11_among_7 (by decide) ⟨by omega, by omega⟩ ⟨by omega, by omega⟩ (fun h7 => ?_) (fun h7 => False.elim (by omega))
  refine q_aload_n dX11_among_14 rfl ?_
  refine q_iload_n dX11_among_15 rfl ?_
  refine q_aald rfl (by decide) (by omega) (by omega) dX11_among_16 ?_
  rw [x_rows_e (i := i) (by omega) (by omega)]
  show q_J _ _ _ _ _ _ _ (.ref (32 + 2 * i.toNat) :: _) _
  exact q_aret (o := some (32 + 2 * i.toNat)) rfl dX11_among_17 (⟨rfl, rfl⟩)
set_option maxRecDepth 20000 in
theorem tX11_among_1n (w : q_W) (ξ : m_S) (B P : Nat) (g : Int → Option Nat) (i : Int) (hi : q_r i) (hn : ¬ (0 ≤ i ∧ i < 6)) : q_D mX11_among 0 [.ref 1, q_i i] (x_w w ξ B P g) (some (.null)) (x_w w ξ B P g) := by
  refine q_T.of (lv := [some (.ref 1), some (q_i i)]) (by decide) rfl (Nat.le_of_ble_eq_true rfl) ?_
  refine q_iload_n dX11_among_0 rfl ?_
  refine q_if_lt (tgt := 10) dX11_among_1 (by decide) hi (fun h1 => ?_) (fun h1 => ?_)
  · skip
    refine q_null dX11_among_10 ?_
    refine q_goto (tgt := 17) dX11_among_11 (by decide) ?_
    exact q_aret (o := none) rfl dX11_among_17 (⟨rfl, rfl⟩)
  · skip
    refine q_iload_n dX11_among_4 rfl ?_
    refine q_aload_n dX11_among_5 rfl ?_
    refine q_alen rfl (by decide) dX11_among_6 ?_
    refine q_icmp_lt (tgt := 14) dX11_among_7 (by decide) hi ⟨by omega, by omega⟩ (fun h7 => False.elim (by omega)) (fun h7 => ?_)
    refine q_null dX11_among_10 ?_
    refine q_goto (tgt := 17) dX11_among_11 (by decide) ?_
    exact q_aret (o := none) rfl dX11_among_17 (⟨rfl, rfl⟩)
set_option maxRecDepth 20000 in
theorem tX11_among_2y (w : q_W) (ξ : m_S) (B P : Nat) (g : Int → Option Nat) (i : Int) (h0 : 0 ≤ i) (h1 : i < 4) : q_D mX11_among 0 [.ref 2, q_i i] (x_w w ξ B P g) (some (.ref (44 + 2 * i.toNat))) (x_w w ξ B P g) := by
  refine q_T.of (lv := [some (.ref 2), some (q_i i)]) (by decide) rfl (Nat.le_of_ble_eq_true rfl) ?_
  refine q_iload_n dX11_among_0 rfl ?_
  refine q_if_lt (tgt := 10) dX11_among_1 (by decide) ⟨by omega, by omega⟩ (fun h1 => False.elim (by omega)) (fun h1 => ?_)
  refine q_iload_n dX11_among_4 rfl ?_
  refine q_aload_n dX11_among_5 rfl ?_
  refine q_alen rfl (by decide) dX11_among_6 ?_
  refine q_icmp_lt (tgt := 14) dX11_among_7 (by decide) ⟨by omega, by omega⟩ ⟨by omega, by omega⟩ (fun h7 => ?_) (fun h7 => False.elim (by omega))
  refine q_aload_n dX11_among_14 rfl ?_
  refine q_iload_n dX11_among_15 rfl ?_
  refine q_aald rfl (by decide) (by omega) (by omega) dX11_among_16 ?_
  rw [x_texts_e (i := i) (by omega) (by omega)]
  show q_J _ _ _ _ _ _ _ (.ref (44 + 2 * i.toNat) :: _) _
  exact q_aret (o := some (44 + 2 * i.toNat)) rfl dX11_among_17 (⟨rfl, rfl⟩)
set_option maxRecDepth 20000 in
theorem tX11_among_2n (w : q_W) (ξ : m_S) (B P : Nat) (g : Int → Option Nat) (i : Int) (hi : q_r i) (hn : ¬ (0 ≤ i ∧ i < 4)) : q_D mX11_among 0 [.ref 2, q_i i] (x_w w ξ B P g) (some (.null)) (x_w w ξ B P g) := by
  refine q_T.of (lv := [some (.ref 2), some (q_i i)]) (by decide) rfl (Nat.le_of_ble_eq_true rfl) ?_
  refine q_iload_n dX11_among_0 rfl ?_
  refine q_if_lt (tgt := 10) dX11_among_1 (by decide) hi (fun h1 => ?_) (fun h1 => ?_)
  · skip
    refine q_null dX11_among_10 ?_
    refine q_goto (tgt := 17) dX11_among_11 (by decide) ?_
    exact q_aret (o := none) rfl dX11_among_17 (⟨rfl, rfl⟩)
  · skip
    refine q_iload_n dX11_among_4 rfl ?_
    refine q_aload_n dX11_among_5 rfl ?_
    refine q_alen rfl (by decide) dX11_among_6 ?_
    refine q_icmp_lt (tgt := 14) dX11_among_7 (by decide) hi ⟨by omega, by omega⟩ (fun h7 => False.elim (by omega)) (fun h7 => ?_)
    refine q_null dX11_among_10 ?_
    refine q_goto (tgt := 17) dX11_among_11 (by decide) ?_
    exact q_aret (o := none) rfl dX11_among_17 (⟨rfl, rfl⟩)
def x_mr (ξ : m_S) (a : Nat) (k v : Int) : m_S := m_u (m_u ξ a (q_us (ξ a) 1 k)) (a + 1) (q_fl (ξ (a + 1)) 0 k v)
def x_ma_v (ξ : m_S) (n : Nat) (k : Int) : Int := if (n : Int) < k then -1 else if k < 0 then -3 else k
def x_ma_s (ξ : m_S) (a n : Nat) (k v : Int) : m_S := if (n : Int) < k then ξ else if k < 0 then x_fi ξ 5 else x_mr ξ a k v
def x_rr_v (ξ : m_S) (a : Nat) : Int := if ξ a 1 < 0 then -3 else 0
def x_rr_s (ξ : m_S) (a : Nat) : m_S := if ξ a 1 < 0 then x_fi ξ 1 else ξ
def x_rp_v (ξ : m_S) (a : Nat) (i : Int) : Int := if ξ a 1 < 0 then -3 else if 0 ≤ i ∧ i < ξ a 1 then 0 else -3
def x_rp_s (ξ : m_S) (a : Nat) (i : Int) : m_S := if ξ a 1 < 0 then x_fi ξ 1 else if 0 ≤ i ∧ i < ξ a 1 then ξ else x_fi ξ 2
set_option maxRecDepth 20000 in
theorem tX11_makeAnew (w : q_W) (ξ : m_S) (B P : Nat) (g : Int → Option Nat) (a n : Nat) (hA : x_isR a n) (hz : -1 ≤ ξ a 1 ∧ ξ a 1 ≤ 60) (k v : Int) (hk : q_r k) : q_D mX11_makeAnew 2 [.ref 0, .ref a, q_i k, q_i v] (x_w w ξ B P g) (some (q_i (x_ma_v ξ n k))) (x_w w (x_ma_s ξ a n k v) B P g) := by
  refine q_T.of (lv := [some (.ref 0), some (.ref a), some (q_i k), some (q_i v)]) (by decide) rfl (Nat.le_of_ble_eq_true rfl) ?_
  have hnn := hA.n
  refine q_aload_n dX11_makeAnew_0 rfl ?_
  refine q_ifnullS dX11_makeAnew_1 ?_
  refine q_iload_n dX11_makeAnew_4 rfl ?_
  refine q_aload_n dX11_makeAnew_5 rfl ?_
  refine q_get (v := .ref (a + 1)) fX11_72_7 (x_rO hA) rfl dX11_makeAnew_6 ?_
  refine q_alen (x_rP hA) (by decide) dX11_makeAnew_9 ?_
  refine q_icmp_le (tgt := 15) dX11_makeAnew_10 (by decide) hk ⟨by omega, by omega⟩ (fun h10 => ?_) (fun h10 => ?_)
  · skip
    refine q_iload_n dX11_makeAnew_15 rfl ?_
    refine q_if_ge (tgt := 25) dX11_makeAnew_16 (by decide) hk (fun h16 => ?_) (fun h16 => ?_)
    · skip
      refine q_aload_n dX11_makeAnew_25 rfl ?_
      refine q_iload_n dX11_makeAnew_26 rfl ?_
      refine q_iload_n dX11_makeAnew_27 rfl ?_
      refine q_cVv [q_i k, q_i v] kX11_240_7 (x_rO hA) (tX7_make w ξ B P g a n hA hz k v (by omega) (by omega)) dX11_makeAnew_28 rfl (by decide) (Nat.le_of_ble_eq_true rfl) rfl ?_
      refine q_iload_n dX11_makeAnew_31 rfl ?_
      exact q_iret rfl dX11_makeAnew_32 (⟨by (unfold x_ma_v; (repeat' split) <;> first | rfl | (exfalso; omega)), by (unfold x_ma_s; (repeat' split) <;> first | rfl | (exfalso; omega))⟩)
    · skip
      refine q_aload_n dX11_makeAnew_19 rfl ?_
      refine q_iconst dX11_makeAnew_20 ?_
      refine q_cV [q_i 5] kX11_85_11 rfl (tX11_found w ξ B P g 5 (by decide) (by decide)) dX11_makeAnew_21 rfl (by decide) (Nat.le_of_ble_eq_true rfl) rfl ?_
      exact q_iret rfl dX11_makeAnew_24 (⟨by (unfold x_ma_v; (repeat' split) <;> first | rfl | (exfalso; omega)), by (unfold x_ma_s; (repeat' split) <;> first | rfl | (exfalso; omega))⟩)
  · skip
    refine q_iconst dX11_makeAnew_13 ?_
    exact q_iret rfl dX11_makeAnew_14 (⟨by (unfold x_ma_v; (repeat' split) <;> first | rfl | (exfalso; omega)), by (unfold x_ma_s; (repeat' split) <;> first | rfl | (exfalso; omega))⟩)
set_option maxRecDepth 20000 in
theorem tX11_makeAnew_n (w : q_W) (ξ : m_S) (B P : Nat) (g : Int → Option Nat) (k v : Int) : q_D mX11_makeAnew 2 [.ref 0, .null, q_i k, q_i v] (x_w w ξ B P g) (some (q_i (-1))) (x_w w ξ B P g) := by
  refine q_T.of (lv := [some (.ref 0), some (.null), some (q_i k), some (q_i v)]) (by decide) rfl (Nat.le_of_ble_eq_true rfl) ?_
  refine q_aload_nN dX11_makeAnew_0 rfl ?_
  refine q_ifnullN (tgt := 13) dX11_makeAnew_1 (by decide) ?_
  refine q_iconst dX11_makeAnew_13 ?_
  exact q_iret rfl dX11_makeAnew_14 (⟨rfl, rfl⟩)
set_option maxRecDepth 20000 in
theorem tX11_refusedRow (w : q_W) (ξ : m_S) (B P : Nat) (g : Int → Option Nat) (a n : Nat) (hA : x_isR a n) (hz : -1 ≤ ξ a 1 ∧ ξ a 1 ≤ 60) : q_D mX11_refusedRow 1 [.ref 0, .ref a] (x_w w ξ B P g) (some (q_i (x_rr_v ξ a))) (x_w w (x_rr_s ξ a) B P g) := by
  refine q_T.of (lv := [some (.ref 0), some (.ref a)]) (by decide) rfl (Nat.le_of_ble_eq_true rfl) ?_
  refine q_aload_n dX11_refusedRow_0 rfl ?_
  refine q_ifnonnullS (tgt := 6) dX11_refusedRow_1 (by decide) ?_
  refine q_aload_n dX11_refusedRow_6 rfl ?_
  refine q_cV [] kX11_89_7 (x_rO hA) (tX7_isMissing w ξ B P g a n hA hz) dX11_refusedRow_7 rfl (by decide) (Nat.le_of_ble_eq_true rfl) rfl ?_
  refine q_ifb_eq (tgt := 21) dX11_refusedRow_10 (by decide) (fun h10 => ?_) (fun h10 => ?_)
  · skip
    refine q_iconst dX11_refusedRow_21 ?_
    exact q_iret rfl dX11_refusedRow_22 (⟨by (unfold x_rr_v; (repeat' split) <;> first | rfl | (exfalso; omega)), by (unfold x_rr_s; (repeat' split) <;> first | rfl | (exfalso; omega))⟩)
  · skip
    refine q_aload_n dX11_refusedRow_13 rfl ?_
    refine q_iconst dX11_refusedRow_14 ?_
    refine q_cV [q_i 1] kX11_85_11 rfl (tX11_found w ξ B P g 1 (by decide) (by decide)) dX11_refusedRow_15 rfl (by decide) (Nat.le_of_ble_eq_true rfl) rfl ?_
    refine q_goto (tgt := 22) dX11_refusedRow_18 (by decide) ?_
    exact q_iret rfl dX11_refusedRow_22 (⟨by (unfold x_rr_v; (repeat' split) <;> first | rfl | (exfalso; omega)), by (unfold x_rr_s; (repeat' split) <;> first | rfl | (exfalso; omega))⟩)
set_option maxRecDepth 20000 in
theorem tX11_refusedRow_n (w : q_W) (ξ : m_S) (B P : Nat) (g : Int → Option Nat) : q_D mX11_refusedRow 1 [.ref 0, .null] (x_w w ξ B P g) (some (q_i (-1))) (x_w w ξ B P g) := by
  refine q_T.of (lv := [some (.ref 0), some (.null)]) (by decide) rfl (Nat.le_of_ble_eq_true rfl) ?_
  refine q_aload_nN dX11_refusedRow_0 rfl ?_
  refine q_ifnonnullN dX11_refusedRow_1 ?_
  refine q_iconst dX11_refusedRow_4 ?_
  exact q_iret rfl dX11_refusedRow_5 (⟨rfl, rfl⟩)
theorem x_rr_0 {ξ : m_S} {a : Nat} (h : x_rr_v ξ a = 0) : 0 ≤ ξ a 1 ∧ x_rr_s ξ a = ξ := by
  unfold x_rr_v at h
  unfold x_rr_s
  split at h
  · omega
  · rename_i h1
    rw [if_neg h1]
    exact ⟨by omega, rfl⟩
theorem x_rr_r (ξ : m_S) (a : Nat) : q_r (x_rr_v ξ a) := by
  unfold x_rr_v
  split <;> exact ⟨by decide, by decide⟩
theorem x_rp_0 {ξ : m_S} {a : Nat} {i : Int} (h : x_rp_v ξ a i = 0) : (0 ≤ i ∧ i < ξ a 1) ∧ x_rp_s ξ a i = ξ := by
  unfold x_rp_v at h
  unfold x_rp_s
  split at h
  · omega
  · rename_i h1
    rw [if_neg h1]
    split at h
    · rename_i h2
      rw [if_pos h2]
      exact ⟨h2, rfl⟩
    · omega
theorem x_rp_r (ξ : m_S) (a : Nat) (i : Int) : q_r (x_rp_v ξ a i) := by
  unfold x_rp_v
  (repeat' split) <;> exact ⟨by decide, by decide⟩
set_option maxRecDepth 20000 in
theorem tX11_refusedPlace (w : q_W) (ξ : m_S) (B P : Nat) (g : Int → Option Nat) (a n : Nat) (hA : x_isR a n) (hz : -1 ≤ ξ a 1 ∧ ξ a 1 ≤ 60) (i : Int) (hi : q_r i) : q_D mX11_refusedPlace 2 [.ref 0, .ref a, q_i i] (x_w w ξ B P g) (some (q_i (x_rp_v ξ a i))) (x_w w (x_rp_s ξ a i) B P g) := by
  refine q_T.of (lv := [some (.ref 0), some (.ref a), some (q_i i), none]) (by decide) rfl (Nat.le_of_ble_eq_true rfl) ?_
  refine q_aload_n dX11_refusedPlace_0 rfl ?_
  refine q_aload_n dX11_refusedPlace_1 rfl ?_
  refine q_cV [.ref a] kX11_78_11 rfl (tX11_refusedRow w ξ B P g a n hA hz) dX11_refusedPlace_2 rfl (by decide) (Nat.le_of_ble_eq_true rfl) rfl ?_
  refine q_istore_n (lv' := [some (.ref 0), some (.ref a), some (q_i i), some (q_i (x_rr_v ξ a))]) dX11_refusedPlace_5 (by decide) rfl ?_
  refine q_iload_n dX11_refusedPlace_6 rfl ?_
  refine q_if_eq (tgt := 12) dX11_refusedPlace_7 (by decide) (x_rr_r ξ a) (fun h7 => ?_) (fun h7 => ?_)
  · skip
    obtain ⟨hge, hrs⟩ := x_rr_0 h7
    rw [hrs]
    refine q_aload_n dX11_refusedPlace_12 rfl ?_
    refine q_iload_n dX11_refusedPlace_13 rfl ?_
    refine q_cV [q_i i] kX11_341_7 (x_rO hA) (tX7_has w ξ B P g a n hA hz i (hi)) dX11_refusedPlace_14 rfl (by decide) (Nat.le_of_ble_eq_true rfl) rfl ?_
    refine q_ifb_eq (tgt := 24) dX11_refusedPlace_17 (by decide) (fun h17 => ?_) (fun h17 => ?_)
    · skip
      refine q_aload_n dX11_refusedPlace_24 rfl ?_
      refine q_iconst dX11_refusedPlace_25 ?_
      refine q_cV [q_i 2] kX11_85_11 rfl (tX11_found w ξ B P g 2 (by decide) (by decide)) dX11_refusedPlace_26 rfl (by decide) (Nat.le_of_ble_eq_true rfl) rfl ?_
      exact q_iret rfl dX11_refusedPlace_29 (⟨by (unfold x_rp_v; (repeat' split) <;> first | rfl | (exfalso; omega)), by (unfold x_rp_s; (repeat' split) <;> first | rfl | (exfalso; omega))⟩)
    · skip
      refine q_iconst dX11_refusedPlace_20 ?_
      refine q_goto (tgt := 29) dX11_refusedPlace_21 (by decide) ?_
      exact q_iret rfl dX11_refusedPlace_29 (⟨by (unfold x_rp_v; (repeat' split) <;> first | rfl | (exfalso; omega)), by (unfold x_rp_s; (repeat' split) <;> first | rfl | (exfalso; omega))⟩)
  · skip
    refine q_iload_n dX11_refusedPlace_10 rfl ?_
    exact q_iret rfl dX11_refusedPlace_11 (⟨by unfold x_rr_v at h7 ⊢; unfold x_rp_v; split at h7 <;> first | (exfalso; omega) | (rw [if_pos (by assumption), if_pos (by assumption)]), by unfold x_rr_v at h7; unfold x_rr_s x_rp_s; split at h7 <;> first | (exfalso; omega) | (rw [if_pos (by assumption), if_pos (by assumption)])⟩)
set_option maxRecDepth 20000 in
theorem tX11_refusedPlace_n (w : q_W) (ξ : m_S) (B P : Nat) (g : Int → Option Nat) (i : Int) : q_D mX11_refusedPlace 2 [.ref 0, .null, q_i i] (x_w w ξ B P g) (some (q_i (-1))) (x_w w ξ B P g) := by
  refine q_T.of (lv := [some (.ref 0), some (.null), some (q_i i), none]) (by decide) rfl (Nat.le_of_ble_eq_true rfl) ?_
  refine q_aload_n dX11_refusedPlace_0 rfl ?_
  refine q_aload_nN dX11_refusedPlace_1 rfl ?_
  refine q_cV [.null] kX11_78_11 rfl (tX11_refusedRow_n w ξ B P g) dX11_refusedPlace_2 rfl (by decide) (Nat.le_of_ble_eq_true rfl) rfl ?_
  refine q_istore_n (lv' := [some (.ref 0), some (.null), some (q_i i), some (q_i (-1))]) dX11_refusedPlace_5 (by decide) rfl ?_
  refine q_iload_n dX11_refusedPlace_6 rfl ?_
  refine q_if_eq (tgt := 12) dX11_refusedPlace_7 (by decide) ⟨by decide, by decide⟩ (fun h7 => False.elim (by omega)) (fun h7 => ?_)
  refine q_iload_n dX11_refusedPlace_10 rfl ?_
  exact q_iret rfl dX11_refusedPlace_11 (⟨rfl, rfl⟩)
