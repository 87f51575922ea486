/-! a person asked for a kind -/
section QR
variable {M : q_M} {fr : Nat} {Q : Option Value → q_W → Prop} {kc ks pc : Nat} {lv : List (Option Value)} {st : List Value} {w : q_W}
theorem q_instX8_96 {a : Nat} {k9 : Int} {fs : List Value} (hk : 0 ≤ k9 ∧ k9 ≤ 5) (hw : w a = some (q_ob (x_cl k9) fs)) (hd : decode M.2.1 pc = .ok (.instanceof 96, 3)) (k : q_J M fr Q kc ks (pc + 3) lv (q_b (k9 = 2 ∨ k9 = 5) :: st) w) (hm : M.1.cls = RX8 := by rfl) : q_J M fr Q kc ks pc lv (.ref a :: st) w := by
  rcases (show k9 = 0 ∨ k9 = 1 ∨ k9 = 2 ∨ k9 = 3 ∨ k9 = 4 ∨ k9 = 5 by omega) with rfl | rfl | rfl | rfl | rfl | rfl
  · rw [← q_b0 (by decide)] at k
    exact q_instNo (C := RX5) (T := TX5) (N := 6) (nm := RX1) rfl (by decide +kernel) (by rw [hm]; exact wd_450) hw hd k
  · rw [← q_b0 (by decide)] at k
    exact q_instNo (C := RX4) (T := TX4) (N := 6) (nm := RX1) rfl (by decide +kernel) (by rw [hm]; exact wd_450) hw hd k
  · rw [← q_b1 (by decide)] at k
    exact q_instS (C := RX1) (T := TX1) (N := 6) rfl (by rw [hm]; exact wd_450) hw hd k
  · rw [← q_b0 (by decide)] at k
    exact q_instNo (C := RX2) (T := TX2) (N := 6) (nm := RX1) rfl (by decide +kernel) (by rw [hm]; exact wd_450) hw hd k
  · rw [← q_b0 (by decide)] at k
    exact q_instNo (C := RX3) (T := TX3) (N := 6) (nm := RX1) rfl (by decide +kernel) (by rw [hm]; exact wd_450) hw hd k
  · rw [← q_b1 (by decide)] at k
    exact q_instY (C := RX0) (T := TX0) (N := 6) (nm := RX1) rfl (by decide +kernel) (by rw [hm]; exact wd_450) hw hd k
theorem q_instX8_99 {a : Nat} {k9 : Int} {fs : List Value} (hk : 0 ≤ k9 ∧ k9 ≤ 5) (hw : w a = some (q_ob (x_cl k9) fs)) (hd : decode M.2.1 pc = .ok (.instanceof 99, 3)) (k : q_J M fr Q kc ks (pc + 3) lv (q_b (k9 = 3) :: st) w) (hm : M.1.cls = RX8 := by rfl) : q_J M fr Q kc ks pc lv (.ref a :: st) w := by
  rcases (show k9 = 0 ∨ k9 = 1 ∨ k9 = 2 ∨ k9 = 3 ∨ k9 = 4 ∨ k9 = 5 by omega) with rfl | rfl | rfl | rfl | rfl | rfl
  · rw [← q_b0 (by decide)] at k
    exact q_instNo (C := RX5) (T := TX5) (N := 6) (nm := RX2) rfl (by decide +kernel) (by rw [hm]; exact wd_463) hw hd k
  · rw [← q_b0 (by decide)] at k
    exact q_instNo (C := RX4) (T := TX4) (N := 6) (nm := RX2) rfl (by decide +kernel) (by rw [hm]; exact wd_463) hw hd k
  · rw [← q_b0 (by decide)] at k
    exact q_instNo (C := RX1) (T := TX1) (N := 6) (nm := RX2) rfl (by decide +kernel) (by rw [hm]; exact wd_463) hw hd k
  · rw [← q_b1 (by decide)] at k
    exact q_instS (C := RX2) (T := TX2) (N := 6) rfl (by rw [hm]; exact wd_463) hw hd k
  · rw [← q_b0 (by decide)] at k
    exact q_instNo (C := RX3) (T := TX3) (N := 6) (nm := RX2) rfl (by decide +kernel) (by rw [hm]; exact wd_463) hw hd k
  · rw [← q_b0 (by decide)] at k
    exact q_instNo (C := RX0) (T := TX0) (N := 6) (nm := RX2) rfl (by decide +kernel) (by rw [hm]; exact wd_463) hw hd k
theorem q_instX11_126 {a : Nat} {k9 : Int} {fs : List Value} (hk : 0 ≤ k9 ∧ k9 ≤ 5) (hw : w a = some (q_ob (x_cl k9) fs)) (hd : decode M.2.1 pc = .ok (.instanceof 126, 3)) (k : q_J M fr Q kc ks (pc + 3) lv (q_b (k9 = 1 ∨ k9 = 4) :: st) w) (hm : M.1.cls = RX11 := by rfl) : q_J M fr Q kc ks pc lv (.ref a :: st) w := by
  rcases (show k9 = 0 ∨ k9 = 1 ∨ k9 = 2 ∨ k9 = 3 ∨ k9 = 4 ∨ k9 = 5 by omega) with rfl | rfl | rfl | rfl | rfl | rfl
  · rw [← q_b0 (by decide)] at k
    exact q_instNo (C := RX5) (T := TX5) (N := 6) (nm := RX4) rfl (by decide +kernel) (by rw [hm]; exact wd_652) hw hd k
  · rw [← q_b1 (by decide)] at k
    exact q_instS (C := RX4) (T := TX4) (N := 6) rfl (by rw [hm]; exact wd_652) hw hd k
  · rw [← q_b0 (by decide)] at k
    exact q_instNo (C := RX1) (T := TX1) (N := 6) (nm := RX4) rfl (by decide +kernel) (by rw [hm]; exact wd_652) hw hd k
  · rw [← q_b0 (by decide)] at k
    exact q_instNo (C := RX2) (T := TX2) (N := 6) (nm := RX4) rfl (by decide +kernel) (by rw [hm]; exact wd_652) hw hd k
  · rw [← q_b1 (by decide)] at k
    exact q_instY (C := RX3) (T := TX3) (N := 6) (nm := RX4) rfl (by decide +kernel) (by rw [hm]; exact wd_652) hw hd k
  · rw [← q_b0 (by decide)] at k
    exact q_instNo (C := RX0) (T := TX0) (N := 6) (nm := RX4) rfl (by decide +kernel) (by rw [hm]; exact wd_652) hw hd k
theorem q_castX11_126 {a : Nat} {k9 : Int} {fs : List Value} (hk : k9 = 1 ∨ k9 = 4) (hw : w a = some (q_ob (x_cl k9) fs)) (hd : decode M.2.1 pc = .ok (.checkcast 126, 3)) (k : q_J M fr Q kc ks (pc + 3) lv (.ref a :: st) w) (hm : M.1.cls = RX11 := by rfl) : q_J M fr Q kc ks pc lv (.ref a :: st) w := by
  rcases hk with rfl | rfl
  · exact q_castS (C := RX4) (T := TX4) (N := 6) rfl (by rw [hm]; exact wd_652) hw hd k
  · exact q_castY (C := RX3) (T := TX3) (N := 6) (nm := RX4) rfl (by decide +kernel) (by rw [hm]; exact wd_652) hw hd k
theorem q_instX11_132 {a : Nat} {k9 : Int} {fs : List Value} (hk : 0 ≤ k9 ∧ k9 ≤ 5) (hw : w a = some (q_ob (x_cl k9) fs)) (hd : decode M.2.1 pc = .ok (.instanceof 132, 3)) (k : q_J M fr Q kc ks (pc + 3) lv (q_b (k9 = 2 ∨ k9 = 5) :: st) w) (hm : M.1.cls = RX11 := by rfl) : q_J M fr Q kc ks pc lv (.ref a :: st) w := by
  rcases (show k9 = 0 ∨ k9 = 1 ∨ k9 = 2 ∨ k9 = 3 ∨ k9 = 4 ∨ k9 = 5 by omega) with rfl | rfl | rfl | rfl | rfl | rfl
  · rw [← q_b0 (by decide)] at k
    exact q_instNo (C := RX5) (T := TX5) (N := 6) (nm := RX1) rfl (by decide +kernel) (by rw [hm]; exact wd_659) hw hd k
  · rw [← q_b0 (by decide)] at k
    exact q_instNo (C := RX4) (T := TX4) (N := 6) (nm := RX1) rfl (by decide +kernel) (by rw [hm]; exact wd_659) hw hd k
  · rw [← q_b1 (by decide)] at k
    exact q_instS (C := RX1) (T := TX1) (N := 6) rfl (by rw [hm]; exact wd_659) hw hd k
  · rw [← q_b0 (by decide)] at k
    exact q_instNo (C := RX2) (T := TX2) (N := 6) (nm := RX1) rfl (by decide +kernel) (by rw [hm]; exact wd_659) hw hd k
  · rw [← q_b0 (by decide)] at k
    exact q_instNo (C := RX3) (T := TX3) (N := 6) (nm := RX1) rfl (by decide +kernel) (by rw [hm]; exact wd_659) hw hd k
  · rw [← q_b1 (by decide)] at k
    exact q_instY (C := RX0) (T := TX0) (N := 6) (nm := RX1) rfl (by decide +kernel) (by rw [hm]; exact wd_659) hw hd k
theorem q_castX11_132 {a : Nat} {k9 : Int} {fs : List Value} (hk : k9 = 2 ∨ k9 = 5) (hw : w a = some (q_ob (x_cl k9) fs)) (hd : decode M.2.1 pc = .ok (.checkcast 132, 3)) (k : q_J M fr Q kc ks (pc + 3) lv (.ref a :: st) w) (hm : M.1.cls = RX11 := by rfl) : q_J M fr Q kc ks pc lv (.ref a :: st) w := by
  rcases hk with rfl | rfl
  · exact q_castS (C := RX1) (T := TX1) (N := 6) rfl (by rw [hm]; exact wd_659) hw hd k
  · exact q_castY (C := RX0) (T := TX0) (N := 6) (nm := RX1) rfl (by decide +kernel) (by rw [hm]; exact wd_659) hw hd k
theorem q_instX11_137 {a : Nat} {k9 : Int} {fs : List Value} (hk : 0 ≤ k9 ∧ k9 ≤ 5) (hw : w a = some (q_ob (x_cl k9) fs)) (hd : decode M.2.1 pc = .ok (.instanceof 137, 3)) (k : q_J M fr Q kc ks (pc + 3) lv (q_b (k9 = 3) :: st) w) (hm : M.1.cls = RX11 := by rfl) : q_J M fr Q kc ks pc lv (.ref a :: st) w := by
  rcases (show k9 = 0 ∨ k9 = 1 ∨ k9 = 2 ∨ k9 = 3 ∨ k9 = 4 ∨ k9 = 5 by omega) with rfl | rfl | rfl | rfl | rfl | rfl
  · rw [← q_b0 (by decide)] at k
    exact q_instNo (C := RX5) (T := TX5) (N := 6) (nm := RX2) rfl (by decide +kernel) (by rw [hm]; exact wd_671) hw hd k
  · rw [← q_b0 (by decide)] at k
    exact q_instNo (C := RX4) (T := TX4) (N := 6) (nm := RX2) rfl (by decide +kernel) (by rw [hm]; exact wd_671) hw hd k
  · rw [← q_b0 (by decide)] at k
    exact q_instNo (C := RX1) (T := TX1) (N := 6) (nm := RX2) rfl (by decide +kernel) (by rw [hm]; exact wd_671) hw hd k
  · rw [← q_b1 (by decide)] at k
    exact q_instS (C := RX2) (T := TX2) (N := 6) rfl (by rw [hm]; exact wd_671) hw hd k
  · rw [← q_b0 (by decide)] at k
    exact q_instNo (C := RX3) (T := TX3) (N := 6) (nm := RX2) rfl (by decide +kernel) (by rw [hm]; exact wd_671) hw hd k
  · rw [← q_b0 (by decide)] at k
    exact q_instNo (C := RX0) (T := TX0) (N := 6) (nm := RX2) rfl (by decide +kernel) (by rw [hm]; exact wd_671) hw hd k
theorem q_instX11_142 {a : Nat} {k9 : Int} {fs : List Value} (hk : 0 ≤ k9 ∧ k9 ≤ 5) (hw : w a = some (q_ob (x_cl k9) fs)) (hd : decode M.2.1 pc = .ok (.instanceof 142, 3)) (k : q_J M fr Q kc ks (pc + 3) lv (q_b (k9 = 4) :: st) w) (hm : M.1.cls = RX11 := by rfl) : q_J M fr Q kc ks pc lv (.ref a :: st) w := by
  rcases (show k9 = 0 ∨ k9 = 1 ∨ k9 = 2 ∨ k9 = 3 ∨ k9 = 4 ∨ k9 = 5 by omega) with rfl | rfl | rfl | rfl | rfl | rfl
  · rw [← q_b0 (by decide)] at k
    exact q_instNo (C := RX5) (T := TX5) (N := 6) (nm := RX3) rfl (by decide +kernel) (by rw [hm]; exact wd_680) hw hd k
  · rw [← q_b0 (by decide)] at k
    exact q_instNo (C := RX4) (T := TX4) (N := 6) (nm := RX3) rfl (by decide +kernel) (by rw [hm]; exact wd_680) hw hd k
  · rw [← q_b0 (by decide)] at k
    exact q_instNo (C := RX1) (T := TX1) (N := 6) (nm := RX3) rfl (by decide +kernel) (by rw [hm]; exact wd_680) hw hd k
  · rw [← q_b0 (by decide)] at k
    exact q_instNo (C := RX2) (T := TX2) (N := 6) (nm := RX3) rfl (by decide +kernel) (by rw [hm]; exact wd_680) hw hd k
  · rw [← q_b1 (by decide)] at k
    exact q_instS (C := RX3) (T := TX3) (N := 6) rfl (by rw [hm]; exact wd_680) hw hd k
  · rw [← q_b0 (by decide)] at k
    exact q_instNo (C := RX0) (T := TX0) (N := 6) (nm := RX3) rfl (by decide +kernel) (by rw [hm]; exact wd_680) hw hd k
theorem q_castX11_142 {a : Nat} {k9 : Int} {fs : List Value} (hk : k9 = 4) (hw : w a = some (q_ob (x_cl k9) fs)) (hd : decode M.2.1 pc = .ok (.checkcast 142, 3)) (k : q_J M fr Q kc ks (pc + 3) lv (.ref a :: st) w) (hm : M.1.cls = RX11 := by rfl) : q_J M fr Q kc ks pc lv (.ref a :: st) w := by
  rcases hk with rfl
  · exact q_castS (C := RX3) (T := TX3) (N := 6) rfl (by rw [hm]; exact wd_680) hw hd k
theorem q_instX11_147 {a : Nat} {k9 : Int} {fs : List Value} (hk : 0 ≤ k9 ∧ k9 ≤ 5) (hw : w a = some (q_ob (x_cl k9) fs)) (hd : decode M.2.1 pc = .ok (.instanceof 147, 3)) (k : q_J M fr Q kc ks (pc + 3) lv (q_b (k9 = 5) :: st) w) (hm : M.1.cls = RX11 := by rfl) : q_J M fr Q kc ks pc lv (.ref a :: st) w := by
  rcases (show k9 = 0 ∨ k9 = 1 ∨ k9 = 2 ∨ k9 = 3 ∨ k9 = 4 ∨ k9 = 5 by omega) with rfl | rfl | rfl | rfl | rfl | rfl
  · rw [← q_b0 (by decide)] at k
    exact q_instNo (C := RX5) (T := TX5) (N := 6) (nm := RX0) rfl (by decide +kernel) (by rw [hm]; exact wd_686) hw hd k
  · rw [← q_b0 (by decide)] at k
    exact q_instNo (C := RX4) (T := TX4) (N := 6) (nm := RX0) rfl (by decide +kernel) (by rw [hm]; exact wd_686) hw hd k
  · rw [← q_b0 (by decide)] at k
    exact q_instNo (C := RX1) (T := TX1) (N := 6) (nm := RX0) rfl (by decide +kernel) (by rw [hm]; exact wd_686) hw hd k
  · rw [← q_b0 (by decide)] at k
    exact q_instNo (C := RX2) (T := TX2) (N := 6) (nm := RX0) rfl (by decide +kernel) (by rw [hm]; exact wd_686) hw hd k
  · rw [← q_b0 (by decide)] at k
    exact q_instNo (C := RX3) (T := TX3) (N := 6) (nm := RX0) rfl (by decide +kernel) (by rw [hm]; exact wd_686) hw hd k
  · rw [← q_b1 (by decide)] at k
    exact q_instS (C := RX0) (T := TX0) (N := 6) rfl (by rw [hm]; exact wd_686) hw hd k
theorem q_castX11_147 {a : Nat} {k9 : Int} {fs : List Value} (hk : k9 = 5) (hw : w a = some (q_ob (x_cl k9) fs)) (hd : decode M.2.1 pc = .ok (.checkcast 147, 3)) (k : q_J M fr Q kc ks (pc + 3) lv (.ref a :: st) w) (hm : M.1.cls = RX11 := by rfl) : q_J M fr Q kc ks pc lv (.ref a :: st) w := by
  rcases hk with rfl
  · exact q_castS (C := RX0) (T := TX0) (N := 6) rfl (by rw [hm]; exact wd_686) hw hd k
end QR
set_option maxRecDepth 20000 in
theorem tX8_howManyAny (w : q_W) (ξ : m_S) (B P : Nat) (g : Int → Option Nat) (hPs : x_Ps ξ B P g) (hTs : ∀ p, 0 ≤ p → p < ξ 7 0 → x_Pt ξ p) : q_D mX8_howManyAny 0 [.ref 7] (x_w w ξ B P g) (some (q_i (z_sum (fun p => if ξ 1000 p = 2 ∨ ξ 1000 p = 5 then 1 else 0) (ξ 7 0)))) (x_w w ξ B P g) := by
  refine q_T.of (lv := [some (.ref 7), none, none]) (by decide) rfl (Nat.le_of_ble_eq_true rfl) ?_
  have hPs1 := hPs.1
  have hPs2 := hPs.2.1
  have hPs3 := hPs.2.2.1
  refine q_iconst dX8_howManyAny_0 ?_
  refine q_istore_n (lv' := [some (.ref 7), some (q_i 0), none]) dX8_howManyAny_1 (by decide) rfl ?_
  refine q_iconst dX8_howManyAny_2 ?_
  refine q_istore_n (lv' := [some (.ref 7), some (q_i 0), some (q_i 0)]) dX8_howManyAny_3 (by decide) rfl ?_
  have L4 : ∀ (m9 : Nat) (p : Int) (hp0 : 0 ≤ p) (hp1 : p ≤ ξ 7 0) (hm9 : ξ 7 0 - p < (m9 : Int)), q_J mX8_howManyAny 0 (fun v' w' => v' = (some (q_i (z_sum (fun p => if ξ 1000 p = 2 ∨ ξ 1000 p = 5 then 1 else 0) (ξ 7 0)))) ∧ w' = (x_w w ξ B P g)) 0 0 4 [some (.ref 7), some (q_i (z_sum (fun p => if ξ 1000 p = 2 ∨ ξ 1000 p = 5 then 1 else 0) p)), some (q_i p)] [] (x_w w ξ B P g) := by
    intro m9
    induction m9 with
    | zero => intro p hp0 hp1 hm9; exact absurd hm9 (by omega)
    | succ m9 ih4 =>
      intro p hp0 hp1 hm9
      refine q_iload_n dX8_howManyAny_4 rfl ?_
      refine q_aload_n dX8_howManyAny_5 rfl ?_
      refine q_get (v := q_i (ξ 7 0)) fX8_9_8 rfl rfl dX8_howManyAny_6 ?_
      refine q_icmp_ge (tgt := 38) dX8_howManyAny_9 (by decide) ⟨by omega, by omega⟩ ⟨by omega, by omega⟩ (fun h9 => ?_) (fun h9 => ?_)
      · skip
        refine q_iload_n dX8_howManyAny_38 rfl ?_
        exact q_iret rfl dX8_howManyAny_39 (⟨by rw [show p = ξ 7 0 by omega], rfl⟩)
      · skip
        refine q_iload_n dX8_howManyAny_12 rfl ?_
        refine q_aload_n dX8_howManyAny_13 rfl ?_
        refine q_get (v := .ref 18) fX8_47_8 rfl rfl dX8_howManyAny_14 ?_
        refine q_iload_n dX8_howManyAny_17 rfl ?_
        refine q_aald rfl (by decide) (by omega) (by omega) dX8_howManyAny_18 ?_
        rw [hPs.2.2.2 p (by omega) (by omega)]
        show q_J _ _ _ _ _ _ _ (.ref (B + p.toNat) :: _) _
        refine q_instX8_96 (hTs p (by omega) (by omega)).1 (x_pOi (p := p) (by omega) (by omega) (by omega)) dX8_howManyAny_19 ?_
        refine q_ifb_eq (tgt := 29) dX8_howManyAny_22 (by decide) (fun h22 => ?_) (fun h22 => ?_)
        · skip
          refine q_iconst dX8_howManyAny_29 ?_
          refine q_iadd dX8_howManyAny_30 ?_
          refine q_istore_n (lv' := [some (.ref 7), some (q_i ((z_sum (fun p => if ξ 1000 p = 2 ∨ ξ 1000 p = 5 then 1 else 0) p) + 0)), some (q_i p)]) dX8_howManyAny_31 (by decide) rfl ?_
          refine q_iinc (lv' := [some (.ref 7), some (q_i ((z_sum (fun p => if ξ 1000 p = 2 ∨ ξ 1000 p = 5 then 1 else 0) p) + 0)), some (q_i (p + 1))]) dX8_howManyAny_32 rfl (by decide) rfl ?_
          refine q_goto (tgt := 4) dX8_howManyAny_35 (by decide) ?_
          exact q_Jle (q_le_s (rfl) (q_le_s (by rw [z_sum_s _ hp0]; (try dsimp only); (repeat' split) <;> first | rfl | (exfalso; omega)) (q_le_s (rfl) (q_le_e _)))) (rfl) (rfl) (ih4 (p + 1) (by omega) (by omega) (by omega))
        · skip
          refine q_iconst dX8_howManyAny_25 ?_
          refine q_goto (tgt := 30) dX8_howManyAny_26 (by decide) ?_
          refine q_iadd dX8_howManyAny_30 ?_
          refine q_istore_n (lv' := [some (.ref 7), some (q_i ((z_sum (fun p => if ξ 1000 p = 2 ∨ ξ 1000 p = 5 then 1 else 0) p) + 1)), some (q_i p)]) dX8_howManyAny_31 (by decide) rfl ?_
          refine q_iinc (lv' := [some (.ref 7), some (q_i ((z_sum (fun p => if ξ 1000 p = 2 ∨ ξ 1000 p = 5 then 1 else 0) p) + 1)), some (q_i (p + 1))]) dX8_howManyAny_32 rfl (by decide) rfl ?_
          refine q_goto (tgt := 4) dX8_howManyAny_35 (by decide) ?_
          exact q_Jle (q_le_s (rfl) (q_le_s (by rw [z_sum_s _ hp0]; (try dsimp only); (repeat' split) <;> first | rfl | (exfalso; omega)) (q_le_s (rfl) (q_le_e _)))) (rfl) (rfl) (ih4 (p + 1) (by omega) (by omega) (by omega))
  exact q_Jle (q_le_s (rfl) (q_le_s (rfl) (q_le_s (rfl) (q_le_e _)))) (rfl) (rfl) (L4 ((ξ 7 0 : Int).toNat + 1) 0 (by omega) (by omega) (by omega))
theorem x_Pt.u {ξ : m_S} {p : Int} (h : x_Pt ξ p) (h5 : p < 5) {k : Nat} (hk : k < 8 ∨ (8 < k ∧ k < 20) ∨ (30 < k ∧ k < 1000)) (f : Int → Int) : x_Pt (m_u ξ k f) p := by
  have e : x_fp (m_u ξ k f) p = x_fp ξ p := by
    unfold x_fp
    rw [m_un (show 1000 ≠ k by omega), m_un (show 1005 ≠ k by omega), m_un (show 8 ≠ k by omega)]
  unfold x_Pt
  rw [e, m_un (show 1000 ≠ k by omega), m_un (show 1005 ≠ k by omega), m_un (show 8 ≠ k by omega), m_un (show 1003 ≠ k by omega), m_un (show 1004 ≠ k by omega), m_un (show 26 + p.toNat ≠ k by omega), m_un (show 20 + p.toNat ≠ k by omega)]
  exact h
set_option maxRecDepth 20000 in
theorem tX8_weigh_y (w : q_W) (ξ : m_S) (B P : Nat) (g : Int → Option Nat) (p t : Int) (hp0 : 0 ≤ p) (hp1 : p < ξ 7 0) (hPs : x_Ps ξ B P g) (hT : x_Pt ξ p) (hG : x_G ξ) (ht0 : 0 ≤ t) (ht1 : t < ξ 8 2) (hV : ∀ c, 0 ≤ c → c < ξ 8 2 → 0 ≤ ξ 14 c ∧ ξ 14 c ≤ 9000000000000000000) : q_D mX8_weigh 3 [.ref 7, q_i p, q_i t] (x_w w ξ B P g) none (x_w w (m_u ξ 14 (x_wlf (ξ 14) ξ p t (ξ 8 2))) B P g) := by
  refine q_T.of (lv := [some (.ref 7), some (q_i p), some (q_i t), none]) (by decide) rfl (Nat.le_of_ble_eq_true rfl) ?_
  have hPs1 := hPs.1
  have hPs2 := hPs.2.1
  have hPs3 := hPs.2.2.1
  have hWN := hG.1
  have hW := hG.1.1
  have hN := hG.1.2
  have hS := hG.S
  refine q_aload_n dX8_weigh_0 rfl ?_
  refine q_iload_n dX8_weigh_1 rfl ?_
  refine q_cV [q_i p] kX8_109_8 rfl (tX8_personAt_y w ξ B P g p (show (0 : Int) ≤ p by omega) (show p < ξ 7 0 by omega) hPs) dX8_weigh_2 rfl (by decide) (Nat.le_of_ble_eq_true rfl) rfl ?_
  refine q_astore_n (lv' := [some (.ref 7), some (q_i p), some (q_i t), some (.ref (B + p.toNat))]) dX8_weigh_5 (by decide) rfl ?_
  refine q_aload_n dX8_weigh_6 rfl ?_
  refine q_ifnullS dX8_weigh_7 ?_
  refine q_aload_n dX8_weigh_10 rfl ?_
  refine q_aload_n dX8_weigh_11 rfl ?_
  refine q_get (v := .ref 14) fX8_31_8 rfl rfl dX8_weigh_12 ?_
  refine q_aload_n dX8_weigh_15 rfl ?_
  refine q_iload_n dX8_weigh_16 rfl ?_
  refine q_cVv [.ref 14, .ref (B + p.toNat), q_i t] kX8_136_8 rfl (tX8_weighLook_14 w ξ B P g p t (by omega) (show p < ξ 7 0 by omega) hPs hT hG (by omega) (show t < ξ 8 2 by omega) hV) dX8_weigh_17 rfl (by decide) (Nat.le_of_ble_eq_true rfl) rfl ?_
  show q_J _ _ _ _ _ _ _ [] (x_w w (m_u ξ 14 (x_wlf (ξ 14) ξ p t (ξ 8 2))) B P g)
  refine q_goto (tgt := 41) dX8_weigh_20 (by decide) ?_
  exact q_vret rfl dX8_weigh_41 (⟨rfl, rfl⟩)
set_option maxRecDepth 20000 in
theorem tX8_weigh_n (w : q_W) (ξ : m_S) (B P : Nat) (g : Int → Option Nat) (t : Int) (hPs : x_Ps ξ B P g) (hS : 0 ≤ ξ 8 2 ∧ ξ 8 2 ≤ 216) (ht0 : 0 ≤ t) (ht1 : t < ξ 8 2) : q_D mX8_weigh 3 [.ref 7, q_i (-1), q_i t] (x_w w ξ B P g) none (x_w w (m_u ξ 14 (q_us (ξ 14) t 0)) B P g) := by
  refine q_T.of (lv := [some (.ref 7), some (q_i (-1)), some (q_i t), none]) (by decide) rfl (Nat.le_of_ble_eq_true rfl) ?_
  have hPs1 := hPs.1
  have hPs2 := hPs.2.1
  have hPs3 := hPs.2.2.1
  refine q_aload_n dX8_weigh_0 rfl ?_
  refine q_iload_n dX8_weigh_1 rfl ?_
  refine q_cV [q_i (-1)] kX8_109_8 rfl (tX8_personAt_n w ξ B P g (-1) (⟨by decide, by decide⟩) (show ¬ (0 ≤ (-1) ∧ (-1) < ξ 7 0) by omega) hPs) dX8_weigh_2 rfl (by decide) (Nat.le_of_ble_eq_true rfl) rfl ?_
  refine q_astore_nN (lv' := [some (.ref 7), some (q_i (-1)), some (q_i t), some (.null)]) dX8_weigh_5 (by decide) rfl ?_
  refine q_aload_nN dX8_weigh_6 rfl ?_
  refine q_ifnullN (tgt := 23) dX8_weigh_7 (by decide) ?_
  refine q_aload_n dX8_weigh_23 rfl ?_
  refine q_get (v := .ref 8) fX8_18_8 rfl rfl dX8_weigh_24 ?_
  refine q_iload_n dX8_weigh_27 rfl ?_
  refine q_cV [q_i t] kX8_140_10 rfl (tX10_isSetting w ξ B P g t (⟨by omega, by omega⟩) (show 0 ≤ ξ 8 2 ∧ ξ 8 2 ≤ 216 by omega)) dX8_weigh_28 rfl (by decide) (Nat.le_of_ble_eq_true rfl) rfl ?_
  refine q_ifb_eq (tgt := 41) dX8_weigh_31 (by decide) (fun h31 => False.elim (by omega)) (fun h31 => ?_)
  refine q_aload_n dX8_weigh_34 rfl ?_
  refine q_get (v := .ref 14) fX8_31_8 rfl rfl dX8_weigh_35 ?_
  refine q_iload_n dX8_weigh_38 rfl ?_
  refine q_lconst 0 dX8_weigh_39 ?_
  refine q_last (f := (ξ 14)) (n9 := 216) rfl (by omega) (by omega) dX8_weigh_40 ?_
  refine q_Jeq rfl rfl (x_up (f := (q_us (ξ 14) t 0)) rfl) ?_
  exact q_vret rfl dX8_weigh_41 (⟨rfl, rfl⟩)
