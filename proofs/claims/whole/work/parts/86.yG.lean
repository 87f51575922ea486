/-! what the tables say when the law begins -/
theorem q_K0a {s : State} {sb : Nat} (hts : ∀ w ∈ lw_tbl, w.before #[Value.ref sb] s = true) : ∃ D : va_G, ∀ (c : Nat) (q : vw_C), vwCl[c]? = some q → u_Kn s q.1 q.2.1 q.2.2 (D.1 c) (D.2 c) := by
  have hB : ∀ w ∈ q_B, w.before #[Value.ref sb] s = true := fun w hw => hts w (q_B_tbl hw)
  have h : ∀ c : Nat, ∃ P : ClassId × (Nat → Nat), ∀ q : vw_C, vwCl[c]? = some q → u_Kn s q.1 q.2.1 q.2.2 P.1 P.2 := by
    intro c
    by_cases hc : c < 13
    · rcases (show c = 0 ∨ c = 1 ∨ c = 2 ∨ c = 3 ∨ c = 4 ∨ c = 5 ∨ c = 6 ∨ c = 7 ∨ c = 8 ∨ c = 9 ∨ c = 10 ∨ c = 11 ∨ c = 12 by omega) with rfl | rfl | rfl | rfl | rfl | rfl | rfl | rfl | rfl | rfl | rfl | rfl | rfl
      · obtain ⟨cC, iS, hk⟩ := u_known hB uX0 (hB _ wd_490)
        exact ⟨(cC, iS), fun q hq => by cases hq; exact hk⟩
      · obtain ⟨cC, iS, hk⟩ := u_known hB uX1 (hB _ wd_451)
        exact ⟨(cC, iS), fun q hq => by cases hq; exact hk⟩
      · obtain ⟨cC, iS, hk⟩ := u_known hB uX2 (hB _ wd_464)
        exact ⟨(cC, iS), fun q hq => by cases hq; exact hk⟩
      · obtain ⟨cC, iS, hk⟩ := u_known hB uX3 (hB _ wd_477)
        exact ⟨(cC, iS), fun q hq => by cases hq; exact hk⟩
      · obtain ⟨cC, iS, hk⟩ := u_known hB uX4 (hB _ wd_396)
        exact ⟨(cC, iS), fun q hq => by cases hq; exact hk⟩
      · obtain ⟨cC, iS, hk⟩ := u_known hB uX5 (hB _ wd_502)
        exact ⟨(cC, iS), fun q hq => by cases hq; exact hk⟩
      · obtain ⟨cC, iS, hk⟩ := u_known hB uX6 (hB _ wd_90)
        exact ⟨(cC, iS), fun q hq => by cases hq; exact hk⟩
      · obtain ⟨cC, iS, hk⟩ := u_known hB uX7 (hB _ wd_219)
        exact ⟨(cC, iS), fun q hq => by cases hq; exact hk⟩
      · obtain ⟨cC, iS, hk⟩ := u_known hB uX8 (hB _ wd_118)
        exact ⟨(cC, iS), fun q hq => by cases hq; exact hk⟩
      · obtain ⟨cC, iS, hk⟩ := u_known hB uX9 (hB _ wd_154)
        exact ⟨(cC, iS), fun q hq => by cases hq; exact hk⟩
      · obtain ⟨cC, iS, hk⟩ := u_known hB uX10 (hB _ wd_124)
        exact ⟨(cC, iS), fun q hq => by cases hq; exact hk⟩
      · obtain ⟨cC, iS, hk⟩ := u_known hB uX11 (hB _ wd_78)
        exact ⟨(cC, iS), fun q hq => by cases hq; exact hk⟩
      · obtain ⟨cC, iS, hk⟩ := u_known hB uX12 (hB _ wd_1009)
        exact ⟨(cC, iS), fun q hq => by cases hq; exact hk⟩
    · exact ⟨(0, fun _ => 0), fun q hq => absurd (List.getElem?_eq_some_iff.mp hq).1 hc⟩
  exact ⟨(fun c => (Classical.choose (h c)).1, fun c => (Classical.choose (h c)).2), fun c q hq => Classical.choose_spec (h c) q hq⟩
theorem q_K0b {s : State} {sb : Nat} (hts : ∀ w ∈ lw_tbl, w.before #[Value.ref sb] s = true) : ∃ dA : Nat → ClassId, ∀ (k : Nat) (q : ClassId × FieldType), (q_tys dA)[k]? = some q → ArrOfT s q.1 q.2 ∧ va_RA s q.1 q.2 := by
  have hB : ∀ w ∈ q_B, w.before #[Value.ref sb] s = true := fun w hw => hts w (q_B_tbl hw)
  obtain ⟨c0, k0, m0, h01, h02, h03⟩ := Cond.arrayClass_spec (hB _ wd_116)
  obtain ⟨c1, k1, m1, h11, h12, h13⟩ := Cond.arrayClass_spec (hB _ wd_218)
  have a2 : (Cond.arrayOver (.object RX7)).before #[Value.ref sb] s = true := (hts _ (List.mem_of_getElem? (i := 86) (by decide +kernel)))
  obtain ⟨m2, c2, k2, h21, -, h23, h24, h25⟩ := Cond.arrayOver_spec a2
  have a3 : (Cond.arrayOver (.object RX9)).before #[Value.ref sb] s = true := (hts _ (List.mem_of_getElem? (i := 88) (by decide +kernel)))
  obtain ⟨m3, c3, k3, h31, -, h33, h34, h35⟩ := Cond.arrayOver_spec a3
  have a4 : (Cond.arrayOver (.object RX5)).before #[Value.ref sb] s = true := (hts _ (List.mem_of_getElem? (i := 178) (by decide +kernel)))
  obtain ⟨m4, c4, k4, h41, -, h43, h44, h45⟩ := Cond.arrayOver_spec a4
  have a5 : (Cond.arrayOver (.array .int)).before #[Value.ref sb] s = true := (hts _ (List.mem_of_getElem? (i := 180) (by decide +kernel)))
  obtain ⟨m5, c5, k5, h51, -, h53, h54, h55⟩ := arrayOverA_spec a5
  refine ⟨fun k => if k = 0 then c0 else if k = 1 then c1 else if k = 2 then c2 else if k = 3 then c3 else if k = 4 then c4 else c5, fun k q hq => ?_⟩
  have hk : k < 6 := (List.getElem?_eq_some_iff.mp hq).1
  rcases (show k = 0 ∨ k = 1 ∨ k = 2 ∨ k = 3 ∨ k = 4 ∨ k = 5 by omega) with rfl | rfl | rfl | rfl | rfl | rfl <;> cases hq
  · exact ⟨fun n z => ⟨fun k h => (by cases h), k0, h02, m0, h03⟩, h01⟩
  · exact ⟨fun n z => ⟨fun k h => (by cases h), k1, h12, m1, h13⟩, h11⟩
  · exact ⟨fun n z => ⟨fun k h => (by cases h), k2, h23, m2, h24⟩, k2, m2, h23, h24, h21, h25⟩
  · exact ⟨fun n z => ⟨fun k h => (by cases h), k3, h33, m3, h34⟩, k3, m3, h33, h34, h31, h35⟩
  · exact ⟨fun n z => ⟨fun k h => (by cases h), k4, h43, m4, h44⟩, k4, m4, h43, h44, h41, h45⟩
  · exact ⟨fun n z => ⟨fun k h => (by cases h), k5, h53, m5, h54⟩, h55⟩
theorem q_K0c {s : State} {sb : Nat} (hg : (Jvm.Cond.and given_1 narrow_1).before #[Value.ref sb] s = true) : ∀ q ∈ q_nc, va_Nc q.1 q.2 s := by
  have hs := flat_of_before _ hg
  intro q hq
  simp only [q_nc, List.mem_cons, List.not_mem_nil, or_false] at hq
  rcases hq with rfl | rfl | rfl | rfl | rfl | rfl | rfl | rfl | rfl | rfl | rfl | rfl | rfl | rfl | rfl | rfl | rfl | rfl | rfl | rfl | rfl | rfl | rfl
  · exact va_Nc.of (hs (Cond.not (.castable RX1 RX4)) (by decide +kernel))
  · exact va_Nc.of (hs (Cond.not (.castable RX2 RX4)) (by decide +kernel))
  · exact va_Nc.of (hs (Cond.not (.castable RX0 RX4)) (by decide +kernel))
  · exact va_Nc.of (hs (Cond.not (.castable RX5 RX4)) (by decide +kernel))
  · exact va_Nc.of (hs (Cond.not (.castable RX4 RX1)) (by decide +kernel))
  · exact va_Nc.of (hs (Cond.not (.castable RX2 RX1)) (by decide +kernel))
  · exact va_Nc.of (hs (Cond.not (.castable RX3 RX1)) (by decide +kernel))
  · exact va_Nc.of (hs (Cond.not (.castable RX5 RX1)) (by decide +kernel))
  · exact va_Nc.of (hs (Cond.not (.castable RX4 RX2)) (by decide +kernel))
  · exact va_Nc.of (hs (Cond.not (.castable RX1 RX2)) (by decide +kernel))
  · exact va_Nc.of (hs (Cond.not (.castable RX3 RX2)) (by decide +kernel))
  · exact va_Nc.of (hs (Cond.not (.castable RX0 RX2)) (by decide +kernel))
  · exact va_Nc.of (hs (Cond.not (.castable RX5 RX2)) (by decide +kernel))
  · exact va_Nc.of (hs (Cond.not (.castable RX4 RX3)) (by decide +kernel))
  · exact va_Nc.of (hs (Cond.not (.castable RX1 RX3)) (by decide +kernel))
  · exact va_Nc.of (hs (Cond.not (.castable RX2 RX3)) (by decide +kernel))
  · exact va_Nc.of (hs (Cond.not (.castable RX0 RX3)) (by decide +kernel))
  · exact va_Nc.of (hs (Cond.not (.castable RX5 RX3)) (by decide +kernel))
  · exact va_Nc.of (hs (Cond.not (.castable RX4 RX0)) (by decide +kernel))
  · exact va_Nc.of (hs (Cond.not (.castable RX1 RX0)) (by decide +kernel))
  · exact va_Nc.of (hs (Cond.not (.castable RX2 RX0)) (by decide +kernel))
  · exact va_Nc.of (hs (Cond.not (.castable RX3 RX0)) (by decide +kernel))
  · exact va_Nc.of (hs (Cond.not (.castable RX5 RX0)) (by decide +kernel))
theorem q_K0d {s : State} {sb : Nat} (hts : ∀ w ∈ lw_tbl, w.before #[Value.ref sb] s = true) : (∀ q ∈ q_cs, va_Nw (.castable q.1 q.2) s) ∧ (∀ C ∈ q_ao, va_AO C s) ∧ (∀ q ∈ q_nl, va_Nw (.methodLinkNest q.1 q.2.1 q.2.2.1 q.2.2.2) s) ∧ q_AI s := by
  refine ⟨fun q hq => ?_, fun C hC => ?_, fun q hq => ?_, ?_⟩
  · simp only [q_cs, List.mem_cons, List.not_mem_nil, or_false] at hq
    rcases hq with rfl | rfl | rfl | rfl | rfl | rfl | rfl
    · exact va_tabs (c := .castable RX3 RX4) rfl rfl (hts _ (List.mem_of_getElem? (i := 1479) (by decide +kernel)))
    · exact va_tabs (c := .castable RX0 RX1) rfl rfl (hts _ (List.mem_of_getElem? (i := 1480) (by decide +kernel)))
    · exact va_tabs (c := .castable RX4 RX5) rfl rfl (hts _ (List.mem_of_getElem? (i := 1481) (by decide +kernel)))
    · exact va_tabs (c := .castable RX1 RX5) rfl rfl (hts _ (List.mem_of_getElem? (i := 1482) (by decide +kernel)))
    · exact va_tabs (c := .castable RX2 RX5) rfl rfl (hts _ (List.mem_of_getElem? (i := 1483) (by decide +kernel)))
    · exact va_tabs (c := .castable RX3 RX5) rfl rfl (hts _ (List.mem_of_getElem? (i := 1484) (by decide +kernel)))
    · exact va_tabs (c := .castable RX0 RX5) rfl rfl (hts _ (List.mem_of_getElem? (i := 1485) (by decide +kernel)))
  · simp only [q_ao, List.mem_cons, List.not_mem_nil, or_false] at hC
    rcases hC with rfl | rfl | rfl
    · exact va_AO.of (hts _ (List.mem_of_getElem? (i := 86) (by decide +kernel)))
    · exact va_AO.of (hts _ (List.mem_of_getElem? (i := 88) (by decide +kernel)))
    · exact va_AO.of (hts _ (List.mem_of_getElem? (i := 178) (by decide +kernel)))
  · simp only [q_nl, List.mem_cons, List.not_mem_nil, or_false] at hq
    rcases hq with rfl | rfl | rfl
    · exact va_tabs rfl rfl (hts _ (List.mem_of_getElem? (i := 91) (by decide +kernel)))
    · exact va_tabs rfl rfl (hts _ (List.mem_of_getElem? (i := 119) (by decide +kernel)))
    · exact va_tabs rfl rfl (hts _ (List.mem_of_getElem? (i := 125) (by decide +kernel)))
  · exact (show (Cond.arrayOver (.array .int)).before #[Value.ref sb] s = true from (hts _ (List.mem_of_getElem? (i := 180) (by decide +kernel))))
theorem q_K0 {s : State} {sb : Nat} (hts : ∀ w ∈ lw_tbl, w.before #[Value.ref sb] s = true) (hg : (Jvm.Cond.and given_1 narrow_1).before #[Value.ref sb] s = true) : ∃ (D : va_G) (dA : Nat → ClassId), q_K D dA s := by
  obtain ⟨D, hD⟩ := q_K0a hts
  obtain ⟨dA, hA⟩ := q_K0b hts
  exact ⟨D, dA, ⟨hD, hA⟩, q_K0c hg, q_K0d hts⟩
