/-! contracts with one outcome; booleans; casting a state -/
abbrev q_D (M : q_M) (fr : Nat) (As : List Value) (w : q_W) (v : Option Value) (w1 : q_W) : Prop := q_T M fr 0 0 As w (fun v' w' => v' = v ∧ w' = w1)
def q_b (c : Prop) [Decidable c] : Value := q_i (if c then 1 else 0)
section QR
variable {M : q_M} {fr : Nat} {Q : Option Value → q_W → Prop} {kc ks kc0 ks0 pc : Nat} {lv : List (Option Value)} {st st0 : List Value} {w : q_W}
theorem q_Jeq {lv' : List (Option Value)} {st' : List Value} {w' : q_W} (h1 : lv = lv') (h2 : st = st') (h3 : w = w') (k : q_J M fr Q kc ks pc lv' st' w') : q_J M fr Q kc ks pc lv st w := by
  subst h1; subst h2; subst h3; exact k
theorem q_T.mono {M1 : q_M} {As : List Value} {Q1 Q2 : Option Value → q_W → Prop} (h : q_T M1 fr kc ks As w Q1) (hq : ∀ v w', Q1 v w' → Q2 v w') : q_T M1 fr kc ks As w Q2 := by
  intro l D dA b n hd p e ha hc hk2 s m args below hf happ hP hK
  obtain ⟨k, o, h1, h2, h3, hQ, hF⟩ := h l D dA b n hd p e ha hc hk2 s m args below hf happ hP hK
  obtain ⟨⟨v, w', g1, g2, g3⟩, g4⟩ := hQ
  exact ⟨k, o, h1, h2, h3, ⟨⟨v, w', g1, hq v w' g2, g3⟩, g4⟩, hF⟩
theorem q_cV {M1 : q_M} {fr1 idx a ci np : Nat} {fs : List Value} (As : List Value) {r : Value} {w1 : q_W} (hc1 : q_CV M.1.cls idx ci M1 np) (hw : w a = some (q_ob ci fs)) (hT1 : q_D M1 fr1 (.ref a :: As) w (some r) w1) (hd : decode M.2.1 pc = .ok (.invokevirtual idx, 3)) (hst : st0 = As.reverse ++ .ref a :: st) (hfr : fr1 + 1 ≤ fr) (hroom : (st.map (fun v => v.category)).sum ≤ 8) (hn1 : As.length = np) (k : q_J M fr Q kc ks (pc + 3) lv (r :: st) w1) : q_J M fr Q kc ks pc lv st0 w :=
  q_callV As hc1 hw hT1 hfr hn1 hst hroom (Nat.zero_add _).symm (Nat.zero_add _).symm hd (fun v w' h => by rw [h.1, h.2]; exact k)
theorem q_cVv {M1 : q_M} {fr1 idx a ci np : Nat} {fs : List Value} (As : List Value) {w1 : q_W} (hc1 : q_CV M.1.cls idx ci M1 np) (hw : w a = some (q_ob ci fs)) (hT1 : q_D M1 fr1 (.ref a :: As) w none w1) (hd : decode M.2.1 pc = .ok (.invokevirtual idx, 3)) (hst : st0 = As.reverse ++ .ref a :: st) (hfr : fr1 + 1 ≤ fr) (hroom : (st.map (fun v => v.category)).sum ≤ 8) (hn1 : As.length = np) (k : q_J M fr Q kc ks (pc + 3) lv st w1) : q_J M fr Q kc ks pc lv st0 w :=
  q_callV As hc1 hw hT1 hfr hn1 hst hroom (Nat.zero_add _).symm (Nat.zero_add _).symm hd (fun v w' h => by rw [h.1, h.2]; exact k)
theorem q_cU {M1 : q_M} {fr1 idx a ci np : Nat} {fs : List Value} (As : List Value) {r : Value} {w1 : q_W} (hc1 : q_CU M.1.cls idx ci M1 np) (hw : w a = some (q_ob ci fs)) (hT1 : q_D M1 fr1 (.ref a :: As) w (some r) w1) (hd : decode M.2.1 pc = .ok (.invokevirtual idx, 3)) (hst : st0 = As.reverse ++ .ref a :: st) (hfr : fr1 + 1 ≤ fr) (hroom : (st.map (fun v => v.category)).sum ≤ 8) (hn1 : As.length = np) (k : q_J M fr Q kc ks (pc + 3) lv (r :: st) w1) : q_J M fr Q kc ks pc lv st0 w :=
  q_callU As hc1 hw hT1 hfr hn1 hst hroom (Nat.zero_add _).symm (Nat.zero_add _).symm hd (fun v w' h => by rw [h.1, h.2]; exact k)
theorem q_cUv {M1 : q_M} {fr1 idx a ci np : Nat} {fs : List Value} (As : List Value) {w1 : q_W} (hc1 : q_CU M.1.cls idx ci M1 np) (hw : w a = some (q_ob ci fs)) (hT1 : q_D M1 fr1 (.ref a :: As) w none w1) (hd : decode M.2.1 pc = .ok (.invokevirtual idx, 3)) (hst : st0 = As.reverse ++ .ref a :: st) (hfr : fr1 + 1 ≤ fr) (hroom : (st.map (fun v => v.category)).sum ≤ 8) (hn1 : As.length = np) (k : q_J M fr Q kc ks (pc + 3) lv st w1) : q_J M fr Q kc ks pc lv st0 w :=
  q_callU As hc1 hw hT1 hfr hn1 hst hroom (Nat.zero_add _).symm (Nat.zero_add _).symm hd (fun v w' h => by rw [h.1, h.2]; exact k)
theorem q_cS {M1 : q_M} {fr1 idx np : Nat} (As : List Value) {r : Value} {w1 : q_W} (hc1 : q_CS M.1.cls idx M1 np) (hT1 : q_D M1 fr1 As w (some r) w1) (hd : decode M.2.1 pc = .ok (.invokestatic idx, 3)) (hst : st0 = As.reverse ++ st) (hfr : fr1 + 1 ≤ fr) (hroom : (st.map (fun v => v.category)).sum ≤ 8) (hn1 : As.length = np) (k : q_J M fr Q kc ks (pc + 3) lv (r :: st) w1) : q_J M fr Q kc ks pc lv st0 w :=
  q_callS As hc1 hT1 hfr hn1 hst hroom (Nat.zero_add _).symm (Nat.zero_add _).symm hd (fun v w' h => by rw [h.1, h.2]; exact k)
theorem q_ifb_eq {c : Prop} [Decidable c] {off : Int} {tgt : Nat} (hd : decode M.2.1 pc = .ok (.ifCond .eq off, 3)) (ht : (pc : Int) + off = (tgt : Int)) (kt : ¬ c → q_J M fr Q kc ks tgt lv st w) (kf : c → q_J M fr Q kc ks (pc + 3) lv st w) : q_J M fr Q kc ks pc lv (q_b c :: st) w := by
  unfold q_b
  by_cases h : c
  · rw [if_pos h]
    exact q_if_eq hd ht ⟨by decide, by decide⟩ (fun q => absurd q (by decide)) (fun _ => kf h)
  · rw [if_neg h]
    exact q_if_eq hd ht ⟨by decide, by decide⟩ (fun _ => kt h) (fun q => absurd rfl q)
theorem q_ifb_ne {c : Prop} [Decidable c] {off : Int} {tgt : Nat} (hd : decode M.2.1 pc = .ok (.ifCond .ne off, 3)) (ht : (pc : Int) + off = (tgt : Int)) (kt : c → q_J M fr Q kc ks tgt lv st w) (kf : ¬ c → q_J M fr Q kc ks (pc + 3) lv st w) : q_J M fr Q kc ks pc lv (q_b c :: st) w := by
  unfold q_b
  by_cases h : c
  · rw [if_pos h]
    exact q_if_ne hd ht ⟨by decide, by decide⟩ (fun _ => kt h) (fun q => absurd q (by decide))
  · rw [if_neg h]
    exact q_if_ne hd ht ⟨by decide, by decide⟩ (fun q => absurd rfl q) (fun _ => kf h)
end QR
theorem q_b1 {c : Prop} [Decidable c] (h : c) : q_i 1 = q_b c := by unfold q_b; rw [if_pos h]
theorem q_b0 {c : Prop} [Decidable c] (h : ¬ c) : q_i 0 = q_b c := by unfold q_b; rw [if_neg h]
/-- lv knows all that lv' knows -/
def q_le : List (Option Value) → List (Option Value) → Prop
  | [], _ => True
  | none :: a, _ :: b => q_le a b
  | some u :: a, v :: b => v = some u ∧ q_le a b
  | _ :: _, [] => False
theorem q_le_e (b : List (Option Value)) : q_le [] b := trivial
theorem q_le_n {a b : List (Option Value)} {v : Option Value} (h : q_le a b) : q_le (none :: a) (v :: b) := h
theorem q_le_s {a b : List (Option Value)} {u : Value} {v : Option Value} (e : v = some u) (h : q_le a b) : q_le (some u :: a) (v :: b) := ⟨e, h⟩
theorem q_le_get : ∀ (a b : List (Option Value)) (i : Nat) (u : Value), q_le a b → a[i]? = some (some u) → b[i]? = some (some u)
  | [], _, i, u, _, h => by simp at h
  | none :: a, v :: b, 0, u, _, h => by simp at h
  | none :: a, v :: b, i + 1, u, hl, h => by
    rw [List.getElem?_cons_succ] at h ⊢
    exact q_le_get a b i u hl h
  | some x :: a, v :: b, 0, u, hl, h => by
    rw [List.getElem?_cons_zero] at h ⊢
    rw [hl.1]
    exact h
  | some x :: a, v :: b, i + 1, u, hl, h => by
    rw [List.getElem?_cons_succ] at h ⊢
    exact q_le_get a b i u hl.2 h
  | none :: _, [], _, _, hl, _ => hl.elim
  | some _ :: _, [], _, _, hl, _ => hl.elim
theorem q_Jle {M : q_M} {fr : Nat} {Q : Option Value → q_W → Prop} {kc ks pc : Nat} {lv lv' : List (Option Value)} {st st' : List Value} {w w' : q_W} (h1 : q_le lv' lv) (h2 : st = st') (h3 : w = w') (k : q_J M fr Q kc ks pc lv' st' w') : q_J M fr Q kc ks pc lv st w := by
  subst h2; subst h3
  intro p l e R s m args below meth c D dA b n0 n mc ms H locs ls cells slots C hd2 hs hn hc hk hP hS hl
  refine k p l e R s m args below meth c D dA b n0 n mc ms H locs ls cells slots C hd2 hs hn hc hk hP hS ⟨hl.1, hl.2.1, fun q hq => hl.2.2 q ?_⟩
  obtain ⟨i, v⟩ := q
  obtain ⟨u, g1, g2⟩ := q_ll_mem.mp hq
  exact q_ll_mem.mpr ⟨u, q_le_get lv' lv i u h1 g1, g2⟩
