/-! five rows of 216 ints and the row of them -/
def q_mz : q_E := q_ia 216 (fun _ => 0)
def q_mw (w : q_W) (n : Nat) : q_W := q_up (q_up (q_up (q_up (q_up (q_up w n (q_ra 5 5 (x_arr (n + 1)))) (n + 1) q_mz) (n + 2) q_mz) (n + 3) q_mz) (n + 4) q_mz) (n + 5) q_mz
theorem q_mw_dom {w : q_W} {n : Nat} (h : q_dom w n) : q_dom (q_mw w n) (n + 6) := (((((h.push _).push _).push _).push _).push _).push _
theorem q_mw_c {dA : Nat → ClassId} {b : Nat} {w : q_W} {n : Nat} : q_c dA b w n ++ [(b + n, q_e dA b (q_ra 5 5 (x_arr (n + 1))))] ++ [(b + (n + 1), q_e dA b q_mz)] ++ [(b + (n + 2), q_e dA b q_mz)] ++ [(b + (n + 3), q_e dA b q_mz)] ++ [(b + (n + 4), q_e dA b q_mz)] ++ [(b + (n + 5), q_e dA b q_mz)] = q_c dA b (q_mw w n) (n + 6) := by
  rw [q_c_push, q_c_push, q_c_push, q_c_push, q_c_push, q_c_push]
  rfl
theorem q_at1 {D : va_G} {H : Heap} {a : Nat} {x : va_E} (h : va_at D vwCl (a, x) H) : va_P D vwCl [(a, x)] H := fun k y hy => by
  have hz : k < 1 := (List.getElem?_eq_some_iff.mp hy).1
  rw [show k = 0 by omega] at hy
  cases hy
  exact h
section QR
variable {M : q_M} {fr : Nat} {Q : Option Value → q_W → Prop} {kc ks pc : Nat} {lv : List (Option Value)} {st : List Value} {w : q_W}
set_option maxRecDepth 20000 in
theorem q_mna {n idx : Nat} (hcl : Cond.classLink M.1.cls idx "[[I" ∈ q_B) (ha : Cond.arrayClass .int ∈ q_B) (hdm : q_dom w n) (hd : decode M.2.1 pc = .ok (.multianewarray idx 2, 4)) (k : q_J M fr Q kc ks (pc + 4) lv (.ref n :: st) (q_mw w n)) : q_J M fr Q (kc + 6) (ks + 1085) pc lv (q_i 216 :: q_i 5 :: st) w := by
  intro p l e R s m args below meth c D dA b n0 n' mc ms H locs ls cells slots C9 hd2 hs hn hc hk hP hS hl
  have hnn := q_dom_u hdm hd2
  subst hnn
  have hB := C9.2.2.2.2.2.2.2.2.1
  have hsx := C9.1
  subst hsx
  intro T hT X
  have hsz := q_size X hT hd2 hs hn hP hS
  have hexec := C9.2.1
  have hb := C9.2.2.1
  have hown := C9.2.2.2.2.1
  have hover : (Cond.arrayOver (.array .int)).before args s = true := C9.2.2.2.2.2.2.2.2.2.1.2.2.2.2.2
  have hpl : e.platform.magicAccessors = ({} : Platform).magicAccessors := by rw [X.admits.platform]
  obtain ⟨comp, cA, kA, hcomp, -, hkA, hkindA, hnameA⟩ := arrayOverA_spec hover
  obtain ⟨comp', kC, cc, hcomp', hkC, hkindC⟩ := Cond.arrayClass_spec (hB _ ha)
  have ecomp : comp' = comp := Option.some.inj (hcomp'.symm.trans hcomp)
  subst ecomp
  have eA : cA = dA 5 := Option.some.inj (hnameA.symm.trans (C9.2.2.2.2.2.2.2.2.2.1.1.2 5 (dA 5, .array .int) rfl).2)
  have eC : comp' = dA 0 := Option.some.inj (hcomp'.symm.trans (C9.2.2.2.2.2.2.2.2.2.1.1.2 0 (dA 0, .int) rfl).2)
  subst eA
  subst eC
  have es : "[" ++ (FieldType.array .int).toString = "[[I" := by decide
  rw [es] at hnameA
  obtain ⟨c0, hfc0, hclk⟩ := Cond.classLink_spec hown (hB _ hcl) e.platform hpl
  cases hnameA.symm.trans hfc0
  obtain ⟨hg₁, hwarm₁, hready₁⟩ := State.classEntry (e := e) X.warmed hclk
  generalize T.vm.noted m.cls idx (.cls (dA 5)) = vm₁ at hg₁ hwarm₁ hready₁
  have hal : s.vm.Alike vm₁ := hwarm₁.alike
  obtain ⟨kA₁, hkA₁, heA⟩ := hal.2.2 _ _ hkA
  obtain ⟨kC₁, hkC₁, heC⟩ := hal.2.2 _ _ hkC
  have hkindA₁ : kA₁.kind = .array (dA 0) (.array .int) := by rw [heA]; exact hkindA
  have hkindC₁ : kC₁.kind = .array cc .int := by rw [heC]; exact hkindC
  have X₁ := X.noted hwarm₁
  obtain ⟨J, hJ, XF⟩ := q_mf_X X₁ (dA 5) (dA 0) 5 216 5
  obtain ⟨f1, f2, f3, f4, f5, f6⟩ := q_mf_f (T.setVm vm₁) (dA 5) (dA 0) 5 216 5
  have hTh : (T.setVm vm₁).heap = H := hT
  rw [hTh] at f1 f2 f5 f6 hJ
  obtain ⟨hr1, hr2⟩ := X.roomAbove (a := 6) (b := 1085) (by show cells + 6 ≤ mc; omega) (by show slots + 1085 ≤ ms; omega)
  generalize hF : q_mf (T.setVm vm₁) (dA 5) (dA 0) 5 216 5 = F at *
  have hin : ∀ j : Nat, j < 5 → va_at D vwCl (b + (n' + 1 + j), q_e dA b q_mz) F.heap := fun j hj => by
    show F.heap[b + (n' + 1 + j)]? = some (vp_cell (dA 0) _)
    rw [show b + (n' + 1 + j) = H.size + 1 + j by omega, f6 j hj]
    rfl
  have hfn : ∀ j : Nat, va_rf (if j < 5 then some (H.size + 1 + j) else none) = va_rf ((x_arr (n' + 1) (j : Int)).map (fun x => b + x)) := fun j => by
    unfold x_arr
    by_cases hj : j < 5
    · rw [if_pos hj, if_pos (by omega)]
      exact congrArg Value.ref (show H.size + 1 + j = b + (n' + 1 + (j : Int).toNat) by omega)
    · rw [if_neg hj, if_neg (by omega)]
      rfl
  have hP1 : va_P D vwCl (q_c dA b (q_mw w n') (n' + 6)) F.heap := by
    rw [← q_mw_c]
    refine ((((((hP.kept (fun k x hx => f5 x.1 (hP k x hx).lt)).app (q_at1 ?_)).app (q_at1 (hin 0 (by omega)))).app (q_at1 (hin 1 (by omega)))).app (q_at1 (hin 2 (by omega)))).app (q_at1 (hin 3 (by omega)))).app (q_at1 (hin 4 (by omega)))
    have hcell : F.heap[b + n']? = some (arrV (dA 5) 5 (fun j : Nat => va_rf ((x_arr (n' + 1) (j : Int)).map (fun x => b + x)))) := by
      rw [← hsz, f2]
      refine congrArg some (congrArg (arrV (dA 5) 5) (funext fun j => ?_))
      exact hfn j
    exact hcell
  have hS1 : va_S (fun q => b ≤ q) s.heap F.heap (locs ++ J) := by
    refine ⟨?_, fun x h1 h2 => ?_, fun y hy => ?_⟩
    · have := hS.1
      omega
    · rw [f5 x (Nat.lt_of_lt_of_le h1 hS.1)]
      exact hS.2.1 x h1 h2
    · rcases List.mem_append.mp hy with q | q
      · exact hS.2.2 y q
      · exact Nat.le_trans (show b ≤ H.size by omega) (Nat.le_of_eq (hJ y q).symm)
  obtain ⟨t', a1, b1⟩ := k p l e _ s m args below meth c D dA b n0 (n' + 6) mc ms F.heap (locs ++ J) ls (cells + 1 + 5) (slots + 5 + 5 * 216) C9 (q_mw_dom hd2) hs (by omega) (by omega) (by omega) hP1 hS1 hl F rfl XF
  refine ⟨t', ?_, b1⟩
  have hl1 : ¬ 5 > e.platform.arrayLengthLimit := by rw [Launch.admits_arrayLengthLimit X.admits]; decide
  have hh1 : ¬ 5 * componentBytes (.array .int) > e.platform.maxHeapBytes := by rw [Launch.admits_maxHeapBytes X.admits]; decide
  have hl2 : ¬ 216 > e.platform.arrayLengthLimit := by rw [Launch.admits_arrayLengthLimit X.admits]; decide
  have hh2 : ¬ 216 * componentBytes .int > e.platform.maxHeapBytes := by rw [Launch.admits_maxHeapBytes X.admits]; decide
  have hdg : decode c.code pc = .ok (.multianewarray idx 2, 4) := by rw [hb]; exact hd
  show Steps p.tables e below (T.setTop (F0 m pc ls (.int 216 :: .int 5 :: st.map (q_v b)))) t'
  jvm_step X.here [hexec, hdg]
  simp only [multianewarray.sem, wp_bind', _root_.Jvm.W.resolveClassAt_links (State.method?_setTop (F0 m pc ls (.int 216 :: .int 5 :: st.map (q_v b))) X.here.top) hg₁]
  rw [_root_.Jvm.W.popN, if_neg (by decide)]
  refine ⟨F0 m pc ls (.int 216 :: .int 5 :: st.map (q_v b)), State.topJava?_setTop' (s := T.setVm vm₁) _ X.here.top, [.int 5, .int 216], st.map (q_v b), rfl, rfl, ?_⟩
  simp only [List.mapM_cons, List.mapM_nil, wp_bind', wp_pure']
  refine q_wp2 (ka := kA₁) (kb := kC₁) (b := dA 0) (b0 := cc) (N := 5) (M := 216) hkA₁ hkindA₁ hkC₁ hkindC₁ (by decide) (by decide) (by decide) (by decide) hl1 hh1 hl2 hh2 (by show T.heap.size + 1 + 5 ≤ _; omega) (by show T.slotsUsed + 5 + 5 * 216 ≤ _; omega) (fun d' acts' => ?_)
  have eS : ((T.setTop (F0 m pc ls (.int 216 :: .int 5 :: st.map (q_v b)))).setVm vm₁).setTop { (F0 m pc ls (.int 216 :: .int 5 :: st.map (q_v b))) with stack := st.map (q_v b) } = (T.setVm vm₁).setTop { (F0 m pc ls (.int 216 :: .int 5 :: st.map (q_v b))) with stack := st.map (q_v b) } := by
    show ((T.setVm vm₁).setTop _).setTop _ = _
    rw [State.setTop_setTop]
  rw [eS, q_mf_t, hF]
  simp only [wp_bind', _root_.Jvm.W.mark, _root_.Jvm.W.pushRef, State.topJava?_setTop' _ XF.here.top, Option.some.injEq, exists_eq_left', State.setTop_setTop, State.heap_setTop]
  intro acts
  simp [jvm, XF.here.top]
  have eh : (T.setVm vm₁).heap.size = b + n' := by rw [hTh]; exact hsz
  have a1' : Steps p.tables e below (F.setTop (F0 m (pc + 4) ls (.ref (b + n') :: st.map (q_v b)))) t' := a1
  rw [← eh] at a1'
  exact a1'
end QR
