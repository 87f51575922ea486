/-! the class: a text read -/
theorem z_fg_in {b : Int → Int} {L i lo hi : Int} (h : z_fg b L i lo hi ≠ -9) (hh : hi ≤ 9) : (0 ≤ i ∧ i < L) ∧ lo ≤ z_fg b L i lo hi ∧ z_fg b L i lo hi ≤ hi := by
  unfold z_fg at *
  split at h
  · exact absurd rfl h
  · rename_i h1
    rw [if_neg h1]
    unfold z_sg at *
    split at h1
    · rename_i h2
      rw [if_pos h2]
      omega
    · omega
def x_p1 (ξ : m_S) (p k : Int) : m_S := m_u ξ 5 (q_us (ξ 5) p k)
def x_p2 (ξ : m_S) (p k f : Int) : m_S := m_u (x_p1 ξ p k) 6 (q_us (ξ 6) p f)
def x_p3 (ξ : m_S) (p k f : Int) : m_S := m_u (x_p2 ξ p k f) 4 (q_us (ξ 4) 2 (p + 1))
def x_pl (b : Int → Int) (L : Int) : Nat → Int → Int → m_S → Int × m_S
  | 0, _, l, ξ => (if l < L then l else -9, ξ)
  | k + 1, p, l, ξ => if ¬ l < L then (if p = 0 then l else -9, ξ) else if z_kd (z_sg b L l) = -9 then (l, x_p1 ξ p (z_kd (z_sg b L l))) else if z_fg b L (l + 1) 1 3 = -9 then (l + 1, x_p2 ξ p (z_kd (z_sg b L l)) (z_fg b L (l + 1) 1 3)) else x_pl b L k (p + 1) (z_skp b L (l + 2)) (x_p3 ξ p (z_kd (z_sg b L l)) (z_fg b L (l + 1) 1 3))
theorem x_pl_s {b : Int → Int} {L p l : Int} {ξ : m_S} (h : p < 5) : x_pl b L (5 - p).toNat p l ξ = if ¬ l < L then (if p = 0 then l else -9, ξ) else if z_kd (z_sg b L l) = -9 then (l, x_p1 ξ p (z_kd (z_sg b L l))) else if z_fg b L (l + 1) 1 3 = -9 then (l + 1, x_p2 ξ p (z_kd (z_sg b L l)) (z_fg b L (l + 1) 1 3)) else x_pl b L (5 - (p + 1)).toNat (p + 1) (z_skp b L (l + 2)) (x_p3 ξ p (z_kd (z_sg b L l)) (z_fg b L (l + 1) 1 3)) := by
  rw [show (5 - p).toNat = (5 - (p + 1)).toNat + 1 by omega]
  rfl
def x_pf (ξ : m_S) (a : Nat) (i : Int) : Int × m_S := x_pl (ξ (a + 1)) (ξ a 1) 5 0 i ξ
section
variable {ξ ξ' : m_S} {a : Nat}
theorem tX6_signAt_c (w : q_W) (B P : Nat) (g : Int → Option Nat) (hA : x_isR a 60) (hL : 0 ≤ ξ a 1 ∧ ξ a 1 ≤ 60) (hb : ∀ j, -128 ≤ ξ (a + 1) j ∧ ξ (a + 1) j ≤ 127) (e1 : ξ' a = ξ a) (e2 : ξ' (a + 1) = ξ (a + 1)) (i : Int) (hi : q_r i) : q_D mX6_signAt 1 [.ref a, q_i i] (x_w w ξ' B P g) (some (q_i (z_sg (ξ (a + 1)) (ξ a 1) i))) (x_w w ξ' B P g) := by
  rw [← e1, ← e2]
  exact tX6_signAt w ξ' B P g a hA (by rw [e1]; exact hL) (by rw [e2]; exact hb) i hi
theorem tX6_behindBlanks_c (w : q_W) (B P : Nat) (g : Int → Option Nat) (hA : x_isR a 60) (hL : 0 ≤ ξ a 1 ∧ ξ a 1 ≤ 60) (hb : ∀ j, -128 ≤ ξ (a + 1) j ∧ ξ (a + 1) j ≤ 127) (e1 : ξ' a = ξ a) (e2 : ξ' (a + 1) = ξ (a + 1)) (i : Int) (hi0 : 0 ≤ i) (hi1 : i ≤ ξ a 1) : q_D mX6_behindBlanks 2 [.ref a, q_i i] (x_w w ξ' B P g) (some (q_i (z_skp (ξ (a + 1)) (ξ a 1) i))) (x_w w ξ' B P g) := by
  rw [← e1, ← e2]
  exact tX6_behindBlanks w ξ' B P g a hA (by rw [e1]; exact hL) (by rw [e2]; exact hb) i hi0 (by rw [e1]; exact hi1)
theorem tX6_figureAt_c (w : q_W) (B P : Nat) (g : Int → Option Nat) (hA : x_isR a 60) (hL : 0 ≤ ξ a 1 ∧ ξ a 1 ≤ 60) (hb : ∀ j, -128 ≤ ξ (a + 1) j ∧ ξ (a + 1) j ≤ 127) (e1 : ξ' a = ξ a) (e2 : ξ' (a + 1) = ξ (a + 1)) (i x y : Int) (hi : q_r i) (hx : 0 ≤ x ∧ x ≤ 9) (hy : 0 ≤ y ∧ y ≤ 9) : q_D mX6_figureAt 2 [.ref a, q_i i, q_i x, q_i y] (x_w w ξ' B P g) (some (q_i (z_fg (ξ (a + 1)) (ξ a 1) i x y))) (x_w w ξ' B P g) := by
  rw [← e1, ← e2]
  exact tX6_figureAt w ξ' B P g a hA (by rw [e1]; exact hL) (by rw [e2]; exact hb) i x y hi hx hy
end
set_option maxRecDepth 20000 in
theorem tX6_personsFault (w : q_W) (ξ : m_S) (B P : Nat) (g : Int → Option Nat) (a : Nat) (hA : x_isR a 60) (hL : 0 ≤ ξ a 1 ∧ ξ a 1 ≤ 60) (hb : ∀ j, -128 ≤ ξ (a + 1) j ∧ ξ (a + 1) j ≤ 127) (i : Int) (hi0 : 0 ≤ i) (hi1 : i ≤ ξ a 1) : q_D mX6_personsFault 3 [.ref 4, .ref a, q_i i] (x_w w ξ B P g) (some (q_i (x_pf ξ a i).1)) (x_w w ((x_pf ξ a i).2) B P g) := by
  refine q_T.of (lv := [some (.ref 4), some (.ref a), some (q_i i), none, none]) (by decide) rfl (Nat.le_of_ble_eq_true rfl) ?_
  have ha4 : 32 ≤ a := by unfold x_isR at hA; omega
  refine q_iload_n dX6_personsFault_0 rfl ?_
  refine q_istore_n (lv' := [some (.ref 4), some (.ref a), some (q_i i), some (q_i i), none]) dX6_personsFault_1 (by decide) rfl ?_
  refine q_iconst dX6_personsFault_2 ?_
  refine q_istore (lv' := [some (.ref 4), some (.ref a), some (q_i i), some (q_i i), some (q_i 0)]) dX6_personsFault_3 (by decide) rfl ?_
  have L5 : ∀ (m9 : Nat) (p : Int) (l : Int) (ν : m_S) (hp0 : 0 ≤ p) (hp5 : p ≤ 5) (hl0 : 0 ≤ l) (hl1 : l ≤ ξ a 1) (hνa : ν a = ξ a) (hνb : ν (a + 1) = ξ (a + 1)) (hx : x_pl (ξ (a + 1)) (ξ a 1) (5 - p).toNat p l ν = x_pf ξ a i) (hm9 : 5 - p < (m9 : Int)), q_J mX6_personsFault 3 (fun v' w' => v' = (some (q_i (x_pf ξ a i).1)) ∧ w' = (x_w w ((x_pf ξ a i).2) B P g)) 0 0 5 [some (.ref 4), some (.ref a), some (q_i i), some (q_i l), some (q_i p)] [] (x_w w ν B P g) := by
    intro m9
    induction m9 with
    | zero => intro p l ν hp0 hp5 hl0 hl1 hνa hνb hx hm9; exact absurd hm9 (by omega)
    | succ m9 ih5 =>
      intro p l ν hp0 hp5 hl0 hl1 hνa hνb hx hm9
      refine q_iload dX6_personsFault_5 rfl ?_
      refine q_iconst dX6_personsFault_7 ?_
      refine q_icmp_ge (tgt := 114) dX6_personsFault_8 (by decide) ⟨by omega, by omega⟩ ⟨by decide, by decide⟩ (fun h8 => ?_) (fun h8 => ?_)
      · skip
        refine q_iload_n dX6_personsFault_114 rfl ?_
        refine q_aload_n dX6_personsFault_115 rfl ?_
        refine q_get (v := q_i (ν a 1)) fX6_39_7 (x_rO hA) rfl dX6_personsFault_116 ?_
        rw [hνa]
        refine q_icmp_lt (tgt := 127) dX6_personsFault_119 (by decide) ⟨by omega, by omega⟩ ⟨by omega, by omega⟩ (fun h119 => ?_) (fun h119 => ?_)
        · skip
          refine q_iload_n dX6_personsFault_127 rfl ?_
          exact q_iret rfl dX6_personsFault_128 (⟨by rw [← hx, show (5 - p).toNat = 0 by omega]; show _ = some (q_i (if l < ξ a 1 then l else -9)); rw [if_pos (by omega)], by rw [← hx, show (5 - p).toNat = 0 by omega]; rfl⟩)
        · skip
          refine q_bipush dX6_personsFault_122 ?_
          refine q_goto (tgt := 128) dX6_personsFault_124 (by decide) ?_
          exact q_iret rfl dX6_personsFault_128 (⟨by rw [← hx, show (5 - p).toNat = 0 by omega]; show _ = some (q_i (if l < ξ a 1 then l else -9)); rw [if_neg (by omega)], by rw [← hx, show (5 - p).toNat = 0 by omega]; rfl⟩)
      · skip
        refine q_iload_n dX6_personsFault_11 rfl ?_
        refine q_aload_n dX6_personsFault_12 rfl ?_
        refine q_get (v := q_i (ν a 1)) fX6_39_7 (x_rO hA) rfl dX6_personsFault_13 ?_
        rw [hνa]
        refine q_icmp_lt (tgt := 31) dX6_personsFault_16 (by decide) ⟨by omega, by omega⟩ ⟨by omega, by omega⟩ (fun h16 => ?_) (fun h16 => ?_)
        · skip
          refine q_aload_n dX6_personsFault_31 rfl ?_
          refine q_get (v := .ref 5) fX6_9_6 rfl rfl dX6_personsFault_32 ?_
          refine q_iload dX6_personsFault_35 rfl ?_
          refine q_aload_n dX6_personsFault_37 rfl ?_
          refine q_iload_n dX6_personsFault_38 rfl ?_
          refine q_cS [.ref a, q_i l] kX6_22 (tX6_signAt_c (ξ := ξ) (ξ' := ν) w B P g hA hL hb (by (repeat rw [m_un (by omega)]); first | done | exact hνa) (by (repeat rw [m_un (by omega)]); first | done | exact hνb) l (⟨by omega, by omega⟩)) dX6_personsFault_39 rfl (by decide) (Nat.le_of_ble_eq_true rfl) rfl ?_
          refine q_cS [q_i (z_sg (ξ (a + 1)) (ξ a 1) l)] kX6_44 (tX6_kindOf w ν B P g (z_sg (ξ (a + 1)) (ξ a 1) l) (⟨by have := z_sg_r hb (ξ a 1) l; omega, by have := z_sg_r hb (ξ a 1) l; omega⟩)) dX6_personsFault_42 rfl (by decide) (Nat.le_of_ble_eq_true rfl) rfl ?_
          refine q_iast (f := (ν 5)) (n9 := 5) rfl (by omega) (by omega) dX6_personsFault_45 ?_
          refine q_Jeq rfl rfl (x_up (f := (q_us (ν 5) p (z_kd (z_sg (ξ (a + 1)) (ξ a 1) l)))) rfl) ?_
          refine q_aload_n dX6_personsFault_46 rfl ?_
          refine q_get (v := .ref 5) fX6_9_6 rfl rfl dX6_personsFault_47 ?_
          refine q_iload dX6_personsFault_50 rfl ?_
          refine q_iald (f := (q_us (ν 5) p (z_kd (z_sg (ξ (a + 1)) (ξ a 1) l)))) (n9 := 5) rfl (by omega) (by omega) dX6_personsFault_52 ?_
          rw [q_us_s]
          refine q_bipush dX6_personsFault_53 ?_
          refine q_icmp_ne (tgt := 60) dX6_personsFault_55 (by decide) ⟨by have := z_kd_r (z_sg (ξ (a + 1)) (ξ a 1) l); omega, by have := z_kd_r (z_sg (ξ (a + 1)) (ξ a 1) l); omega⟩ ⟨by decide, by decide⟩ (fun h55 => ?_) (fun h55 => ?_)
          · skip
            refine q_aload_n dX6_personsFault_60 rfl ?_
            refine q_get (v := .ref 6) fX6_15_6 rfl rfl dX6_personsFault_61 ?_
            refine q_iload dX6_personsFault_64 rfl ?_
            refine q_aload_n dX6_personsFault_66 rfl ?_
            refine q_iload_n dX6_personsFault_67 rfl ?_
            refine q_iconst dX6_personsFault_68 ?_
            refine q_iadd dX6_personsFault_69 ?_
            refine q_iconst dX6_personsFault_70 ?_
            refine q_iconst dX6_personsFault_71 ?_
            refine q_cS [.ref a, q_i (l + 1), q_i 1, q_i 3] kX6_25 (tX6_figureAt_c (ξ := ξ) (ξ' := (m_u ν 5 (q_us (ν 5) p (z_kd (z_sg (ξ (a + 1)) (ξ a 1) l))))) w B P g hA hL hb (by (repeat rw [m_un (by omega)]); first | done | exact hνa) (by (repeat rw [m_un (by omega)]); first | done | exact hνb) (l + 1) 1 3 (⟨by omega, by omega⟩) (by decide) (by decide)) dX6_personsFault_72 rfl (by decide) (Nat.le_of_ble_eq_true rfl) rfl ?_
            refine q_iast (f := (ν 6)) (n9 := 5) rfl (by omega) (by omega) dX6_personsFault_75 ?_
            refine q_Jeq rfl rfl (x_up (f := (q_us (ν 6) p (z_fg (ξ (a + 1)) (ξ a 1) (l + 1) 1 3))) rfl) ?_
            refine q_aload_n dX6_personsFault_76 rfl ?_
            refine q_get (v := .ref 6) fX6_15_6 rfl rfl dX6_personsFault_77 ?_
            refine q_iload dX6_personsFault_80 rfl ?_
            refine q_iald (f := (q_us (ν 6) p (z_fg (ξ (a + 1)) (ξ a 1) (l + 1) 1 3))) (n9 := 5) rfl (by omega) (by omega) dX6_personsFault_82 ?_
            rw [q_us_s]
            refine q_bipush dX6_personsFault_83 ?_
            refine q_icmp_ne (tgt := 92) dX6_personsFault_85 (by decide) ⟨by have := z_sg_r hb (ξ a 1) (l + 1); unfold z_fg; split <;> omega, by have := z_sg_r hb (ξ a 1) (l + 1); unfold z_fg; split <;> omega⟩ ⟨by decide, by decide⟩ (fun h85 => ?_) (fun h85 => ?_)
            · skip
              have hfi := z_fg_in h85 (by decide)
              refine q_aload_n dX6_personsFault_92 rfl ?_
              refine q_iload dX6_personsFault_93 rfl ?_
              refine q_iconst dX6_personsFault_95 ?_
              refine q_iadd dX6_personsFault_96 ?_
              refine q_puti (fs := [q_i (ν 4 0), q_i (ν 4 1), q_i (ν 4 2), .ref 5, .ref 6]) pX6_48_6 rfl (Nat.le_of_ble_eq_true rfl) dX6_personsFault_97 ?_
              refine q_Jeq rfl rfl (x_up (f := (q_us (ν 4) 2 (p + 1))) rfl) ?_
              refine q_aload_n dX6_personsFault_100 rfl ?_
              refine q_iload_n dX6_personsFault_101 rfl ?_
              refine q_iconst dX6_personsFault_102 ?_
              refine q_iadd dX6_personsFault_103 ?_
              refine q_cS [.ref a, q_i (l + 2)] kX6_18 (tX6_behindBlanks_c (ξ := ξ) (ξ' := (m_u (m_u (m_u ν 5 (q_us (ν 5) p (z_kd (z_sg (ξ (a + 1)) (ξ a 1) l)))) 6 (q_us (ν 6) p (z_fg (ξ (a + 1)) (ξ a 1) (l + 1) 1 3))) 4 (q_us (ν 4) 2 (p + 1)))) w B P g hA hL hb (by (repeat rw [m_un (by omega)]); first | done | exact hνa) (by (repeat rw [m_un (by omega)]); first | done | exact hνb) (l + 2) (by omega) (by omega)) dX6_personsFault_104 rfl (by decide) (Nat.le_of_ble_eq_true rfl) rfl ?_
              have hsk := z_skp_r (ξ (a + 1)) (L := ξ a 1) (p := l + 2) (by omega)
              refine q_istore_n (lv' := [some (.ref 4), some (.ref a), some (q_i i), some (q_i (z_skp (ξ (a + 1)) (ξ a 1) (l + 2))), some (q_i p)]) dX6_personsFault_107 (by decide) rfl ?_
              refine q_iinc (lv' := [some (.ref 4), some (.ref a), some (q_i i), some (q_i (z_skp (ξ (a + 1)) (ξ a 1) (l + 2))), some (q_i (p + 1))]) dX6_personsFault_108 rfl (by decide) rfl ?_
              refine q_goto (tgt := 5) dX6_personsFault_111 (by decide) ?_
              exact q_Jle (q_le_s (rfl) (q_le_s (rfl) (q_le_s (rfl) (q_le_s (rfl) (q_le_s (rfl) (q_le_e _)))))) (rfl) (rfl) (ih5 (p + 1) (z_skp (ξ (a + 1)) (ξ a 1) (l + 2)) (x_p3 ν p (z_kd (z_sg (ξ (a + 1)) (ξ a 1) l)) (z_fg (ξ (a + 1)) (ξ a 1) (l + 1) 1 3)) (by omega) (by omega) (by omega) (by omega) (by unfold x_p3 x_p2 x_p1; (repeat rw [m_un (by omega)]); exact hνa) (by unfold x_p3 x_p2 x_p1; (repeat rw [m_un (by omega)]); exact hνb) (by have q := hx; rw [x_pl_s (show p < 5 by omega), if_neg (by omega), if_neg h55, if_neg h85] at q; exact q) (by omega))
            · skip
              refine q_iload_n dX6_personsFault_88 rfl ?_
              refine q_iconst dX6_personsFault_89 ?_
              refine q_iadd dX6_personsFault_90 ?_
              exact q_iret rfl dX6_personsFault_91 (⟨by rw [← hx, x_pl_s (by omega), if_neg (by omega), if_neg h55, if_pos h85], by rw [← hx, x_pl_s (by omega), if_neg (by omega), if_neg h55, if_pos h85]; rfl⟩)
          · skip
            refine q_iload_n dX6_personsFault_58 rfl ?_
            exact q_iret rfl dX6_personsFault_59 (⟨by rw [← hx, x_pl_s (by omega), if_neg (by omega), if_pos h55], by rw [← hx, x_pl_s (by omega), if_neg (by omega), if_pos h55]; rfl⟩)
        · skip
          refine q_iload dX6_personsFault_19 rfl ?_
          refine q_if_ne (tgt := 28) dX6_personsFault_21 (by decide) ⟨by omega, by omega⟩ (fun h21 => ?_) (fun h21 => ?_)
          · skip
            refine q_bipush dX6_personsFault_28 ?_
            exact q_iret rfl dX6_personsFault_30 (⟨by rw [← hx, x_pl_s (by omega), if_pos (by omega)]; (try dsimp only); rw [ if_neg (by omega)], by rw [← hx, x_pl_s (by omega), if_pos (by omega)]⟩)
          · skip
            refine q_iload_n dX6_personsFault_24 rfl ?_
            refine q_goto (tgt := 30) dX6_personsFault_25 (by decide) ?_
            exact q_iret rfl dX6_personsFault_30 (⟨by rw [← hx, x_pl_s (by omega), if_pos (by omega)]; (try dsimp only); rw [ if_pos (by omega)], by rw [← hx, x_pl_s (by omega), if_pos (by omega)]⟩)
  exact q_Jle (q_le_s (rfl) (q_le_s (rfl) (q_le_s (rfl) (q_le_s (rfl) (q_le_s (rfl) (q_le_e _)))))) (rfl) (rfl) (L5 ((5 : Int).toNat + 1) 0 i ξ (by omega) (by omega) (by omega) (by omega) (rfl) (rfl) (rfl) (by omega))
def x_fo (ξ : m_S) (a : Nat) : Int × m_S :=
  if z_sg (ξ (a + 1)) (ξ a 1) (z_skp (ξ (a + 1)) (ξ a 1) 0) ≠ 119 then (z_skp (ξ (a + 1)) (ξ a 1) 0, ξ)
  else if z_fg (ξ (a + 1)) (ξ a 1) (z_skp (ξ (a + 1)) (ξ a 1) 0 + 1) 1 3 = -9 then (z_skp (ξ (a + 1)) (ξ a 1) 0 + 1, m_u ξ 4 (q_us (ξ 4) 0 (-9)))
  else if z_fg (ξ (a + 1)) (ξ a 1) (z_skp (ξ (a + 1)) (ξ a 1) 0 + 2) 4 6 = -9 then (z_skp (ξ (a + 1)) (ξ a 1) 0 + 2, m_u ξ 4 (q_us (q_us (ξ 4) 0 (z_fg (ξ (a + 1)) (ξ a 1) (z_skp (ξ (a + 1)) (ξ a 1) 0 + 1) 1 3)) 1 (-9)))
  else x_pf (m_u ξ 4 (q_us (q_us (ξ 4) 0 (z_fg (ξ (a + 1)) (ξ a 1) (z_skp (ξ (a + 1)) (ξ a 1) 0 + 1) 1 3)) 1 (z_fg (ξ (a + 1)) (ξ a 1) (z_skp (ξ (a + 1)) (ξ a 1) 0 + 2) 4 6))) a (z_skp (ξ (a + 1)) (ξ a 1) (z_skp (ξ (a + 1)) (ξ a 1) 0 + 3))
set_option maxRecDepth 20000 in
theorem tX6_faultOf (w : q_W) (ξ : m_S) (B P : Nat) (g : Int → Option Nat) (a : Nat) (hA : x_isR a 60) (hL : 0 ≤ ξ a 1 ∧ ξ a 1 ≤ 60) (hb : ∀ j, -128 ≤ ξ (a + 1) j ∧ ξ (a + 1) j ≤ 127) : q_D mX6_faultOf 4 [.ref 4, .ref a] (x_w w ξ B P g) (some (q_i (x_fo ξ a).1)) (x_w w ((x_fo ξ a).2) B P g) := by
  refine q_T.of (lv := [some (.ref 4), some (.ref a), none]) (by decide) rfl (Nat.le_of_ble_eq_true rfl) ?_
  have ha4 : 32 ≤ a := by unfold x_isR at hA; omega
  have hsk := z_skp_r (ξ (a + 1)) (L := ξ a 1) (p := 0) (by omega)
  have hνa : ξ a = ξ a := rfl
  have hνb : ξ (a + 1) = ξ (a + 1) := rfl
  refine q_aload_n dX6_faultOf_0 rfl ?_
  refine q_iconst dX6_faultOf_1 ?_
  refine q_cS [.ref a, q_i 0] kX6_18 (tX6_behindBlanks_c (ξ := ξ) (ξ' := ξ) w B P g hA hL hb (by (repeat rw [m_un (by omega)]); first | done | exact hνa) (by (repeat rw [m_un (by omega)]); first | done | exact hνb) 0 (by omega) (by omega)) dX6_faultOf_2 rfl (by decide) (Nat.le_of_ble_eq_true rfl) rfl ?_
  refine q_istore_n (lv' := [some (.ref 4), some (.ref a), some (q_i (z_skp (ξ (a + 1)) (ξ a 1) 0))]) dX6_faultOf_5 (by decide) rfl ?_
  refine q_aload_n dX6_faultOf_6 rfl ?_
  refine q_iload_n dX6_faultOf_7 rfl ?_
  refine q_cS [.ref a, q_i (z_skp (ξ (a + 1)) (ξ a 1) 0)] kX6_22 (tX6_signAt_c (ξ := ξ) (ξ' := ξ) w B P g hA hL hb (by (repeat rw [m_un (by omega)]); first | done | exact hνa) (by (repeat rw [m_un (by omega)]); first | done | exact hνb) (z_skp (ξ (a + 1)) (ξ a 1) 0) (⟨by omega, by omega⟩)) dX6_faultOf_8 rfl (by decide) (Nat.le_of_ble_eq_true rfl) rfl ?_
  refine q_bipush dX6_faultOf_11 ?_
  refine q_icmp_eq (tgt := 18) dX6_faultOf_13 (by decide) ⟨by have := z_sg_r hb (ξ a 1) (z_skp (ξ (a + 1)) (ξ a 1) 0); omega, by have := z_sg_r hb (ξ a 1) (z_skp (ξ (a + 1)) (ξ a 1) 0); omega⟩ ⟨by decide, by decide⟩ (fun h13 => ?_) (fun h13 => ?_)
  · skip
    refine q_aload_n dX6_faultOf_18 rfl ?_
    refine q_aload_n dX6_faultOf_19 rfl ?_
    refine q_iload_n dX6_faultOf_20 rfl ?_
    refine q_iconst dX6_faultOf_21 ?_
    refine q_iadd dX6_faultOf_22 ?_
    refine q_iconst dX6_faultOf_23 ?_
    refine q_iconst dX6_faultOf_24 ?_
    refine q_cS [.ref a, q_i ((z_skp (ξ (a + 1)) (ξ a 1) 0) + 1), q_i 1, q_i 3] kX6_25 (tX6_figureAt_c (ξ := ξ) (ξ' := ξ) w B P g hA hL hb (by (repeat rw [m_un (by omega)]); first | done | exact hνa) (by (repeat rw [m_un (by omega)]); first | done | exact hνb) ((z_skp (ξ (a + 1)) (ξ a 1) 0) + 1) 1 3 (⟨by omega, by omega⟩) (by decide) (by decide)) dX6_faultOf_25 rfl (by decide) (Nat.le_of_ble_eq_true rfl) rfl ?_
    refine q_puti (fs := [q_i (ξ 4 0), q_i (ξ 4 1), q_i (ξ 4 2), .ref 5, .ref 6]) pX6_29_6 rfl (Nat.le_of_ble_eq_true rfl) dX6_faultOf_28 ?_
    refine q_Jeq rfl rfl (x_up (f := (q_us (ξ 4) 0 (z_fg (ξ (a + 1)) (ξ a 1) ((z_skp (ξ (a + 1)) (ξ a 1) 0) + 1) 1 3))) rfl) ?_
    refine q_aload_n dX6_faultOf_31 rfl ?_
    refine q_get (v := q_i (z_fg (ξ (a + 1)) (ξ a 1) ((z_skp (ξ (a + 1)) (ξ a 1) 0) + 1) 1 3)) fX6_29_6 rfl rfl dX6_faultOf_32 ?_
    refine q_bipush dX6_faultOf_35 ?_
    refine q_icmp_ne (tgt := 44) dX6_faultOf_37 (by decide) ⟨by have := z_sg_r hb (ξ a 1) ((z_skp (ξ (a + 1)) (ξ a 1) 0) + 1); unfold z_fg; split <;> omega, by have := z_sg_r hb (ξ a 1) ((z_skp (ξ (a + 1)) (ξ a 1) 0) + 1); unfold z_fg; split <;> omega⟩ ⟨by decide, by decide⟩ (fun h37 => ?_) (fun h37 => ?_)
    · skip
      refine q_aload_n dX6_faultOf_44 rfl ?_
      refine q_aload_n dX6_faultOf_45 rfl ?_
      refine q_iload_n dX6_faultOf_46 rfl ?_
      refine q_iconst dX6_faultOf_47 ?_
      refine q_iadd dX6_faultOf_48 ?_
      refine q_iconst dX6_faultOf_49 ?_
      refine q_bipush dX6_faultOf_50 ?_
      refine q_cS [.ref a, q_i ((z_skp (ξ (a + 1)) (ξ a 1) 0) + 2), q_i 4, q_i 6] kX6_25 (tX6_figureAt_c (ξ := ξ) (ξ' := (m_u ξ 4 (q_us (ξ 4) 0 (z_fg (ξ (a + 1)) (ξ a 1) ((z_skp (ξ (a + 1)) (ξ a 1) 0) + 1) 1 3)))) w B P g hA hL hb (by (repeat rw [m_un (by omega)]); first | done | exact hνa) (by (repeat rw [m_un (by omega)]); first | done | exact hνb) ((z_skp (ξ (a + 1)) (ξ a 1) 0) + 2) 4 6 (⟨by omega, by omega⟩) (by decide) (by decide)) dX6_faultOf_52 rfl (by decide) (Nat.le_of_ble_eq_true rfl) rfl ?_
      refine q_puti (fs := [q_i (z_fg (ξ (a + 1)) (ξ a 1) ((z_skp (ξ (a + 1)) (ξ a 1) 0) + 1) 1 3), q_i (ξ 4 1), q_i (ξ 4 2), .ref 5, .ref 6]) pX6_33_6 rfl (Nat.le_of_ble_eq_true rfl) dX6_faultOf_55 ?_
      refine q_Jeq rfl rfl (x_up (f := (q_us (q_us (ξ 4) 0 (z_fg (ξ (a + 1)) (ξ a 1) ((z_skp (ξ (a + 1)) (ξ a 1) 0) + 1) 1 3)) 1 (z_fg (ξ (a + 1)) (ξ a 1) ((z_skp (ξ (a + 1)) (ξ a 1) 0) + 2) 4 6))) rfl) ?_
      refine q_aload_n dX6_faultOf_58 rfl ?_
      refine q_get (v := q_i (z_fg (ξ (a + 1)) (ξ a 1) ((z_skp (ξ (a + 1)) (ξ a 1) 0) + 2) 4 6)) fX6_33_6 rfl rfl dX6_faultOf_59 ?_
      refine q_bipush dX6_faultOf_62 ?_
      refine q_icmp_ne (tgt := 71) dX6_faultOf_64 (by decide) ⟨by have := z_sg_r hb (ξ a 1) ((z_skp (ξ (a + 1)) (ξ a 1) 0) + 2); unfold z_fg; split <;> omega, by have := z_sg_r hb (ξ a 1) ((z_skp (ξ (a + 1)) (ξ a 1) 0) + 2); unfold z_fg; split <;> omega⟩ ⟨by decide, by decide⟩ (fun h64 => ?_) (fun h64 => ?_)
      · skip
        have hf2 := z_fg_in h64 (by decide)
        have hsk3 : 0 ≤ z_skp (ξ (a + 1)) (ξ a 1) ((z_skp (ξ (a + 1)) (ξ a 1) 0) + 3) ∧ z_skp (ξ (a + 1)) (ξ a 1) ((z_skp (ξ (a + 1)) (ξ a 1) 0) + 3) ≤ ξ a 1 := by have := z_skp_r (ξ (a + 1)) (L := ξ a 1) (p := (z_skp (ξ (a + 1)) (ξ a 1) 0) + 3) (by omega); omega
        rw [m_uu]
        refine q_aload_n dX6_faultOf_71 rfl ?_
        refine q_aload_n dX6_faultOf_72 rfl ?_
        refine q_aload_n dX6_faultOf_73 rfl ?_
        refine q_iload_n dX6_faultOf_74 rfl ?_
        refine q_iconst dX6_faultOf_75 ?_
        refine q_iadd dX6_faultOf_76 ?_
        refine q_cS [.ref a, q_i ((z_skp (ξ (a + 1)) (ξ a 1) 0) + 3)] kX6_18 (tX6_behindBlanks_c (ξ := ξ) (ξ' := (m_u ξ 4 (q_us (q_us (ξ 4) 0 (z_fg (ξ (a + 1)) (ξ a 1) ((z_skp (ξ (a + 1)) (ξ a 1) 0) + 1) 1 3)) 1 (z_fg (ξ (a + 1)) (ξ a 1) ((z_skp (ξ (a + 1)) (ξ a 1) 0) + 2) 4 6)))) w B P g hA hL hb (by (repeat rw [m_un (by omega)]); first | done | exact hνa) (by (repeat rw [m_un (by omega)]); first | done | exact hνb) ((z_skp (ξ (a + 1)) (ξ a 1) 0) + 3) (by omega) (by omega)) dX6_faultOf_77 rfl (by decide) (Nat.le_of_ble_eq_true rfl) rfl ?_
        refine q_cV [.ref a, q_i (z_skp (ξ (a + 1)) (ξ a 1) ((z_skp (ξ (a + 1)) (ξ a 1) 0) + 3))] kX6_36_6 rfl (tX6_personsFault w (m_u ξ 4 (q_us (q_us (ξ 4) 0 (z_fg (ξ (a + 1)) (ξ a 1) ((z_skp (ξ (a + 1)) (ξ a 1) 0) + 1) 1 3)) 1 (z_fg (ξ (a + 1)) (ξ a 1) ((z_skp (ξ (a + 1)) (ξ a 1) 0) + 2) 4 6))) B P g a hA (by rw [m_un (by omega)]; exact hL) (by rw [m_un (by omega)]; exact hb) (z_skp (ξ (a + 1)) (ξ a 1) ((z_skp (ξ (a + 1)) (ξ a 1) 0) + 3)) hsk3.1 (by rw [m_un (by omega)]; exact hsk3.2)) dX6_faultOf_80 rfl (by decide) (Nat.le_of_ble_eq_true rfl) rfl ?_
        exact q_iret rfl dX6_faultOf_83 (⟨by unfold x_fo; rw [if_neg (by omega), if_neg h37, if_neg h64], by unfold x_fo; rw [if_neg (by omega), if_neg h37, if_neg h64]⟩)
      · skip
        refine q_iload_n dX6_faultOf_67 rfl ?_
        refine q_iconst dX6_faultOf_68 ?_
        refine q_iadd dX6_faultOf_69 ?_
        exact q_iret rfl dX6_faultOf_70 (⟨by unfold x_fo; rw [if_neg (by omega), if_neg h37, if_pos h64], by unfold x_fo; rw [if_neg (by omega), if_neg h37, if_pos h64]; rw [m_uu, h64]⟩)
    · skip
      refine q_iload_n dX6_faultOf_40 rfl ?_
      refine q_iconst dX6_faultOf_41 ?_
      refine q_iadd dX6_faultOf_42 ?_
      exact q_iret rfl dX6_faultOf_43 (⟨by unfold x_fo; rw [if_neg (by omega), if_pos h37], by unfold x_fo; rw [if_neg (by omega), if_pos h37]; rw [h37]⟩)
  · skip
    refine q_iload_n dX6_faultOf_16 rfl ?_
    exact q_iret rfl dX6_faultOf_17 (⟨by unfold x_fo; rw [if_pos h13], by unfold x_fo; rw [if_pos h13]⟩)
