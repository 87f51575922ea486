/-! contracts with one outcome; booleans; casting a state -/
abbrev q_D (M : q_M) (fr : Nat) (As : List Value) (w : q_W) (v : Option Value) (w1 : q_W) : Prop := q_T M fr 0 0 As w (fun v' w' => v' = v ∧ w' = w1)
def q_b (c : Prop) [Decidable c] : Value := q_i (if c then 1 else 0)
section QR
variable {M : q_M} {fr : Nat} {Q : Option Value → q_W → Prop} {kc ks kc0 ks0 pc : Nat} {lv : List (Option Value)} {st st0 : List Value} {w : q_W}
theorem q_Jeq {lv' : List (Option Value)} {st' : List Value} {w' : q_W} (h1 : lv = lv') (h2 : st = st') (h3 : w = w') (k : q_J M fr Q kc ks pc lv' st' w') : q_J M fr Q kc ks pc lv st w := by
  subst h1; subst h2; subst h3; exact k
theorem q_T.mono {M1 : q_M} {As : List Value} {Q1 Q2 : Option Value → q_W → Prop} (h : q_T M1 fr kc ks As w Q1) (hq : ∀ v w', Q1 v w' → Q2 v w') : q_T M1 fr kc ks As w Q2 := by
  intro l D dA b n hd p e ha hc hk2 s m args below hf happ hP hK
  obtain ⟨k, o, h1, h2, h3, hQ, hF⟩ := h l D dA b n hd p e ha hc hk2 s m args below hf happ hP hK
  obtain ⟨⟨v, w', g1, g2, g3⟩, g4⟩ := hQ
  exact ⟨k, o, h1, h2, h3, ⟨⟨v, w', g1, hq v w' g2, g3⟩, g4⟩, hF⟩
theorem q_cV {M1 : q_M} {fr1 idx a ci np : Nat} {fs : List Value} (As : List Value) {r : Value} {w1 : q_W} (hc1 : q_CV M.1.cls idx ci M1 np) (hw : w a = some (q_ob ci fs)) (hT1 : q_D M1 fr1 (.ref a :: As) w (some r) w1) (hd : decode M.2.1 pc = .ok (.invokevirtual idx, 3)) (hst : st0 = As.reverse ++ .ref a :: st) (hfr : fr1 + 1 ≤ fr) (hroom : (st.map (fun v => v.category)).sum ≤ 8) (hn1 : As.length = np) (k : q_J M fr Q kc ks (pc + 3) lv (r :: st) w1) : q_J M fr Q kc ks pc lv st0 w :=
  q_callV As hc1 hw hT1 hfr hn1 hst hroom (Nat.zero_add _).symm (Nat.zero_add _).symm hd (fun v w' h => by rw [h.1, h.2]; exact k)
theorem q_cVv {M1 : q_M} {fr1 idx a ci np : Nat} {fs : List Value} (As : List Value) {w1 : q_W} (hc1 : q_CV M.1.cls idx ci M1 np) (hw : w a = some (q_ob ci fs)) (hT1 : q_D M1 fr1 (.ref a :: As) w none w1) (hd : decode M.2.1 pc = .ok (.invokevirtual idx, 3)) (hst : st0 = As.reverse ++ .ref a :: st) (hfr : fr1 + 1 ≤ fr) (hroom : (st.map (fun v => v.category)).sum ≤ 8) (hn1 : As.length = np) (k : q_J M fr Q kc ks (pc + 3) lv st w1) : q_J M fr Q kc ks pc lv st0 w :=
  q_callV As hc1 hw hT1 hfr hn1 hst hroom (Nat.zero_add _).symm (Nat.zero_add _).symm hd (fun v w' h => by rw [h.1, h.2]; exact k)
theorem q_cU {M1 : q_M} {fr1 idx a ci np : Nat} {fs : List Value} (As : List Value) {r : Value} {w1 : q_W} (hc1 : q_CU M.1.cls idx ci M1 np) (hw : w a = some (q_ob ci fs)) (hT1 : q_D M1 fr1 (.ref a :: As) w (some r) w1) (hd : decode M.2.1 pc = .ok (.invokevirtual idx, 3)) (hst : st0 = As.reverse ++ .ref a :: st) (hfr : fr1 + 1 ≤ fr) (hroom : (st.map (fun v => v.category)).sum ≤ 8) (hn1 : As.length = np) (k : q_J M fr Q kc ks (pc + 3) lv (r :: st) w1) : q_J M fr Q kc ks pc lv st0 w :=
  q_callU As hc1 hw hT1 hfr hn1 hst hroom (Nat.zero_add _).symm (Nat.zero_add _).symm hd (fun v w' h => by rw [h.1, h.2]; exact k)
theorem q_cUv {M1 : q_M} {fr1 idx a ci np : Nat} {fs : List Value} (As : List Value) {w1 : q_W} (hc1 : q_CU M.1.cls idx ci M1 np) (hw : w a = some (q_ob ci fs)) (hT1 : q_D M1 fr1 (.ref a :: As) w none w1) (hd : decode M.2.1 pc = .ok (.invokevirtual idx, 3)) (hst : st0 = As.reverse ++ .ref a :: st) (hfr : fr1 + 1 ≤ fr) (hroom : (st.map (fun v => v.category)).sum ≤ 8) (hn1 : As.length = np) (k : q_J M fr Q kc ks (pc + 3) lv st w1) : q_J M fr Q kc ks pc lv st0 w :=
  q_callU As hc1 hw hT1 hfr hn1 hst hroom (Nat.zero_add _).symm (Nat.zero_add _).symm hd (fun v w' h => by rw [h.1, h.2]; exact k)
theorem q_cS {M1 : q_M} {fr1 idx np : Nat} (As : List Value) {r : Value} {w1 : q_W} (hc1 : q_CS M.1.cls idx M1 np) (hT1 : q_D M1 fr1 As w (some r) w1) (hd : decode M.2.1 pc = .ok (.invokestatic idx, 3)) (hst : st0 = As.reverse ++ st) (hfr : fr1 + 1 ≤ fr) (hroom : (st.map (fun v => v.category)).sum ≤ 8) (hn1 : As.length = np) (k : q_J M fr Q kc ks (pc + 3) lv (r :: st) w1) : q_J M fr Q kc ks pc lv st0 w :=
  q_callS As hc1 hT1 hfr hn1 hst hroom (Nat.zero_add _).symm (Nat.zero_add _).symm hd (fun v w' h => by rw [h.1, h.2]; exact k)
theorem q_ifb_eq {c : Prop} [Decidable c] {off : Int} {tgt : Nat} (hd : decode M.2.1 pc = .ok (.ifCond .eq off, 3)) (ht : (pc : Int) + off = (tgt : Int)) (kt : ¬ c → q_J M fr Q kc ks tgt lv st w) (kf : c → q_J M fr Q kc ks (pc + 3) lv st w) : q_J M fr Q kc ks pc lv (q_b c :: st) w := by
  unfold q_b
  by_cases h : c
  · rw [if_pos h]
    exact q_if_eq hd ht ⟨by decide, by decide⟩ (fun q => absurd q (by decide)) (fun _ => kf h)
  · rw [if_neg h]
    exact q_if_eq hd ht ⟨by decide, by decide⟩ (fun _ => kt h) (fun q => absurd rfl q)
theorem q_ifb_ne {c : Prop} [Decidable c] {off : Int} {tgt : Nat} (hd : decode M.2.1 pc = .ok (.ifCond .ne off, 3)) (ht : (pc : Int) + off = (tgt : Int)) (kt : c → q_J M fr Q kc ks tgt lv st w) (kf : ¬ c → q_J M fr Q kc ks (pc + 3) lv st w) : q_J M fr Q kc ks pc lv (q_b c :: st) w := by
  unfold q_b
  by_cases h : c
  · rw [if_pos h]
    exact q_if_ne hd ht ⟨by decide, by decide⟩ (fun _ => kt h) (fun q => absurd q (by decide))
  · rw [if_neg h]
    exact q_if_ne hd ht ⟨by decide, by decide⟩ (fun q => absurd rfl q) (fun _ => kf h)
end QR
theorem q_b1 {c : Prop} [Decidable c] (h : c) : q_i 1 = q_b c := by unfold q_b; rw [if_pos h]
theorem q_b0 {c : Prop} [Decidable c] (h : ¬ c) : q_i 0 = q_b c := by unfold q_b; rw [if_neg h]
