/-! calls and returns -/
/-- what a call asks of the tables: a method of the receiver's own class -/
def q_CV (own : String) (idx ci : Nat) (M1 : q_M) (np : Nat) : Prop := ∃ (T : u_T) (N : Nat), vwCl[ci]? = some (M1.1.cls, T, N) ∧ Cond.methodLink own idx M1.1 ∈ q_B ∧ Cond.instanceMethod M1.1 ∈ q_B ∧ Cond.selects M1.1.cls M1.1 M1.1 ∈ q_B ∧ Cond.initialized M1.1.cls ∈ q_B ∧ Cond.code M1.1 M1.2.1 M1.2.2.1 M1.2.2.2 ∈ q_B ∧ (M1.1.cls ≠ "java/lang/invoke/MethodHandle" ∧ M1.1.cls ≠ "java/lang/invoke/VarHandle") ∧ (parseMethodDescriptor M1.1.desc).map (fun d => d.parameters.length) = some np ∧ M1.2.2.1 ≤ 24
/-- .. a method M1 that the receiver's class (number ci) has for the named one x, declared in owner (ov: another method's code stands there) -/
def q_CU (own : String) (idx ci : Nat) (M1 : q_M) (np : Nat) : Prop := ∃ (C : String) (T : u_T) (N : Nat) (owner : String) (x : MethodName), vwCl[ci]? = some (C, T, N) ∧ Cond.methodLink own idx x ∈ q_B ∧ Cond.sameMethod x.cls owner x.name x.desc ∈ q_B ∧ Cond.selects C x M1.1 ∈ q_B ∧ Cond.instanceMethod M1.1 ∈ q_B ∧ Cond.initialized M1.1.cls ∈ q_B ∧ Cond.code M1.1 M1.2.1 M1.2.2.1 M1.2.2.2 ∈ q_B ∧ Cond.instanceMethod ⟨owner, x.name, x.desc⟩ ∈ q_B ∧ (∃ b0 m0 r0, Cond.code ⟨owner, x.name, x.desc⟩ b0 m0 r0 ∈ q_B) ∧ (owner ≠ "java/lang/invoke/MethodHandle" ∧ owner ≠ "java/lang/invoke/VarHandle") ∧ (parseMethodDescriptor x.desc).map (fun d => d.parameters.length) = some np ∧ M1.2.2.1 ≤ 24
def q_CS (own : String) (idx : Nat) (M1 : q_M) (np : Nat) : Prop := Cond.methodLink own idx M1.1 ∈ q_B ∧ Cond.static M1.1 ∈ q_B ∧ Cond.initialized M1.1.cls ∈ q_B ∧ Cond.code M1.1 M1.2.1 M1.2.2.1 M1.2.2.2 ∈ q_B ∧ (M1.1.cls ≠ "java/lang/invoke/MethodHandle" ∧ M1.1.cls ≠ "java/lang/invoke/VarHandle") ∧ (parseMethodDescriptor M1.1.desc).map (fun d => d.parameters.length) = some np ∧ M1.2.2.1 ≤ 24
def q_CI (own : String) (idx : Nat) (M1 : q_M) (np : Nat) : Prop := Cond.methodLink own idx M1.1 ∈ q_B ∧ Cond.instanceMethod M1.1 ∈ q_B ∧ Cond.initialized M1.1.cls ∈ q_B ∧ Cond.code M1.1 M1.2.1 M1.2.2.1 none ∈ q_B ∧ M1.2.2.2 = none ∧ M1.1.name = "<init>" ∧ (M1.1.cls ≠ "java/lang/invoke/MethodHandle" ∧ M1.1.cls ≠ "java/lang/invoke/VarHandle") ∧ (parseMethodDescriptor M1.1.desc).map (fun d => d.parameters.length) = some np ∧ M1.2.2.1 ≤ 24
/-- .. a nest mate's constructor -/
def q_CN (own : String) (idx : Nat) (M1 : q_M) (host : String) (np : Nat) : Prop := (own, idx, M1.1, host) ∈ q_nl ∧ Cond.instanceMethod M1.1 ∈ q_B ∧ Cond.initialized M1.1.cls ∈ q_B ∧ Cond.code M1.1 M1.2.1 M1.2.2.1 none ∈ q_B ∧ M1.2.2.2 = none ∧ M1.1.name = "<init>" ∧ (M1.1.cls ≠ "java/lang/invoke/MethodHandle" ∧ M1.1.cls ≠ "java/lang/invoke/VarHandle") ∧ (parseMethodDescriptor M1.1.desc).map (fun d => d.parameters.length) = some np ∧ M1.2.2.1 ≤ 24
theorem q_allB {x : Cond} {l : List Cond} (h : x ∈ q_B) (hl : ∀ w ∈ l, w ∈ q_B) : ∀ w ∈ l ++ (x :: q_B), w ∈ q_B := fun w hw => by
  rcases List.mem_append.mp hw with h1 | h1
  · exact hl w h1
  · rcases List.mem_cons.mp h1 with h2 | h2
    · rw [h2]; exact h
    · exact h2
theorem q_blind {av : List Value} {D : va_G} {dA : Nat → ClassId} {b n : Nat} {w : q_W} : FrameBlind (va_Pc av (fun U => U.heap.size = b + n ∧ va_P D vwCl (q_c dA b w n) U.heap ∧ q_K D dA U)) := fun a U g mk q => ⟨q.1, q.2.1, q.2.2.1, q_K.same (u := U) (U := U.calling g mk a) rfl q.2.2.2⟩
section QR
variable {M : q_M} {fr : Nat} {Q : Option Value → q_W → Prop} {kc ks kc0 ks0 pc : Nat} {lv : List (Option Value)} {st st0 : List Value} {w : q_W}
theorem q_roomle {fr fr1 nL mc ms kc1 ks1 : Nat} (h : fr1 + 1 ≤ fr) (hL : nL ≤ 24) : (q_rm fr1 kc1 ks1).frames + 1 ≤ (q_rm fr mc ms).frames ∧ 8 + (nL + 11) + (q_rm fr1 kc1 ks1).locals ≤ (q_rm fr mc ms).locals := ⟨h, by show 8 + (nL + 11) + 43 * fr1 ≤ 43 * fr; omega⟩
theorem q_catsum (b : Nat) (l : List Value) : ((l.map (q_v b)).map (fun v => v.category)).sum = (l.map (fun v => v.category)).sum := by
  rw [List.map_map]
  congr 1
  apply List.map_congr_left
  intro a _
  exact q_v_cat b a
theorem q_stk (b : Nat) {As : List Value} {a : Nat} (h : st0 = As.reverse ++ .ref a :: st) : st0.map (q_v b) = (As.map (q_v b)).reverse ++ .ref (b + a) :: st.map (q_v b) := by
  rw [h, List.map_append, List.map_reverse, List.map_cons]
  rfl
theorem q_stkS (b : Nat) {As : List Value} (h : st0 = As.reverse ++ st) : st0.map (q_v b) = (As.map (q_v b)).reverse ++ st.map (q_v b) := by
  rw [h, List.map_append, List.map_reverse]
theorem q_callV {M1 : q_M} {fr1 kc1 ks1 idx a ci np : Nat} {fs : List Value} (As : List Value) {Q1 : Option Value → q_W → Prop} (hc1 : q_CV M.1.cls idx ci M1 np) (hw : w a = some (q_ob ci fs)) (hT1 : q_T M1 fr1 kc1 ks1 (.ref a :: As) w Q1) (hfr : fr1 + 1 ≤ fr) (hn1 : As.length = np) (hst : st0 = As.reverse ++ .ref a :: st) (hroom : (st.map (fun v => v.category)).sum ≤ 8) (hkc : kc0 = kc1 + kc) (hks : ks0 = ks1 + ks) (hd : decode M.2.1 pc = .ok (.invokevirtual idx, 3))
    (k : ∀ (v : Option Value) (w' : q_W), Q1 v w' → q_J M fr Q kc ks (pc + 3) lv (v.toList ++ [] ++ st) w') : q_J M fr Q kc0 ks0 pc lv st0 w := by
  intro p l e R s m args below meth c D dA b n0 n mc ms H locs ls cells slots C hd2 hs hn hc hk hP hS hl
  obtain ⟨T, N, h1, h2, h3, h4, h5, h6, h7, h8, h9⟩ := hc1
  have hsx := C.1
  subst hsx
  intro T9 hT9 X
  have hsz := q_size X hT9 hd2 hs hn hP hS
  have hr := va_recv C.2.2.2.2.2.2.2.2.2.1.1 hP (ci := ci) (q0 := a) h1 (q_c_get hd2 hw)
  refine (q_run (va_runV (As := As.map (q_v b)) (rest := st.map (q_v b)) ⟨C.2.1, C.2.2.1, C.2.2.2.1, C.2.2.2.2.1, C.2.2.2.2.2.2.2.2.1⟩ (hT1 l D dA b n hd2) (cwV np C.2.2.2.2.2.2.2.2.1 (q_goodB (q_allB h6 (List.forall_mem_cons.mpr ⟨h2, List.forall_mem_cons.mpr ⟨h3, List.forall_mem_cons.mpr ⟨h4, List.forall_mem_cons.mpr ⟨h5, fun _ h => absurd h List.not_mem_nil⟩⟩⟩⟩))) rfl rfl rfl ⟨rfl, h7.1, h7.2, h8⟩ (q_roomle hfr h9))
    ⟨q_blind, hr, fun U hU hW => ⟨rfl, by rw [hU]; exact hsz, by rw [hU]; exact hP, C.2.2.2.2.2.2.2.2.2.1.warm hW⟩⟩ rfl (by rw [List.length_map]; exact hn1) hl.1 (q_stk b hst) (lv_room (by rw [q_catsum]; exact hroom)) hd ⟨by show cells + kc1 ≤ mc; omega, by show slots + ks1 ≤ ms; omega⟩) hS (fun v w' H1 locs1 hq hd3 hP1 hS1 => ?_)) T9 hT9 X
  have kk := k v w' hq p l e _ s m args below meth c D dA b n0 (n + kc1) mc ms H1 locs1 ls (cells + kc1) (slots + ks1) C hd3 hs (by omega) (by omega) (by omega) hP1 hS1 hl
  rw [List.map_append] at kk
  exact kk
theorem q_callU {M1 : q_M} {fr1 kc1 ks1 idx a ci np : Nat} {fs : List Value} (As : List Value) {Q1 : Option Value → q_W → Prop} (hc1 : q_CU M.1.cls idx ci M1 np) (hw : w a = some (q_ob ci fs)) (hT1 : q_T M1 fr1 kc1 ks1 (.ref a :: As) w Q1) (hfr : fr1 + 1 ≤ fr) (hn1 : As.length = np) (hst : st0 = As.reverse ++ .ref a :: st) (hroom : (st.map (fun v => v.category)).sum ≤ 8) (hkc : kc0 = kc1 + kc) (hks : ks0 = ks1 + ks) (hd : decode M.2.1 pc = .ok (.invokevirtual idx, 3))
    (k : ∀ (v : Option Value) (w' : q_W), Q1 v w' → q_J M fr Q kc ks (pc + 3) lv (v.toList ++ [] ++ st) w') : q_J M fr Q kc0 ks0 pc lv st0 w := by
  intro p l e R s m args below meth c D dA b n0 n mc ms H locs ls cells slots C hd2 hs hn hc hk hP hS hl
  obtain ⟨Cn, T, N, owner, x, h1, h2, h3, h4, h5, h6, h7, h8, ⟨b0, m0, r0, h9⟩, h10, h11, h12⟩ := hc1
  have hsx := C.1
  subst hsx
  intro T9 hT9 X
  have hsz := q_size X hT9 hd2 hs hn hP hS
  have hr := va_recv C.2.2.2.2.2.2.2.2.2.1.1 hP (ci := ci) (q0 := a) h1 (q_c_get hd2 hw)
  refine (q_run (va_runU (As := As.map (q_v b)) (rest := st.map (q_v b)) ⟨C.2.1, C.2.2.1, C.2.2.2.1, C.2.2.2.2.1, C.2.2.2.2.2.2.2.2.1⟩ (hT1 l D dA b n hd2) (va_cwO (C := Cn) (owner := owner) (x := x) np C.2.2.2.2.2.2.2.2.1 (q_goodB (q_allB h7 (List.forall_mem_cons.mpr ⟨h2, List.forall_mem_cons.mpr ⟨h3, List.forall_mem_cons.mpr ⟨h8, List.forall_mem_cons.mpr ⟨h4, List.forall_mem_cons.mpr ⟨h5, List.forall_mem_cons.mpr ⟨h6, fun _ h => absurd h List.not_mem_nil⟩⟩⟩⟩⟩⟩))) rfl rfl rfl h9 ⟨h10.1, h10.2, h11⟩ (q_roomle hfr h12))
    ⟨q_blind, hr, fun U hU hW => ⟨rfl, by rw [hU]; exact hsz, by rw [hU]; exact hP, C.2.2.2.2.2.2.2.2.2.1.warm hW⟩⟩ rfl (by rw [List.length_map]; exact hn1) hl.1 (q_stk b hst) (lv_room (by rw [q_catsum]; exact hroom)) hd ⟨by show cells + kc1 ≤ mc; omega, by show slots + ks1 ≤ ms; omega⟩) hS (fun v w' H1 locs1 hq hd3 hP1 hS1 => ?_)) T9 hT9 X
  have kk := k v w' hq p l e _ s m args below meth c D dA b n0 (n + kc1) mc ms H1 locs1 ls (cells + kc1) (slots + ks1) C hd3 hs (by omega) (by omega) (by omega) hP1 hS1 hl
  rw [List.map_append] at kk
  exact kk
theorem q_callS {M1 : q_M} {fr1 kc1 ks1 idx np : Nat} (As : List Value) {Q1 : Option Value → q_W → Prop} (hc1 : q_CS M.1.cls idx M1 np) (hT1 : q_T M1 fr1 kc1 ks1 As w Q1) (hfr : fr1 + 1 ≤ fr) (hn1 : As.length = np) (hst : st0 = As.reverse ++ st) (hroom : (st.map (fun v => v.category)).sum ≤ 8) (hkc : kc0 = kc1 + kc) (hks : ks0 = ks1 + ks) (hd : decode M.2.1 pc = .ok (.invokestatic idx, 3))
    (k : ∀ (v : Option Value) (w' : q_W), Q1 v w' → q_J M fr Q kc ks (pc + 3) lv (v.toList ++ [] ++ st) w') : q_J M fr Q kc0 ks0 pc lv st0 w := by
  intro p l e R s m args below meth c D dA b n0 n mc ms H locs ls cells slots C hd2 hs hn hc hk hP hS hl
  obtain ⟨h2, h3, h5, h6, h7, h8, h9⟩ := hc1
  have hsx := C.1
  subst hsx
  intro T9 hT9 X
  have hsz := q_size X hT9 hd2 hs hn hP hS
  refine (q_run (va_runS (As := As.map (q_v b)) (rest := st.map (q_v b)) ⟨C.2.1, C.2.2.1, C.2.2.2.1, C.2.2.2.2.1, C.2.2.2.2.2.2.2.2.1⟩ (hT1 l D dA b n hd2) (va_cwS np C.2.2.2.2.2.2.2.2.1 (q_goodB (q_allB h6 (List.forall_mem_cons.mpr ⟨h2, List.forall_mem_cons.mpr ⟨h3, List.forall_mem_cons.mpr ⟨h5, fun _ h => absurd h List.not_mem_nil⟩⟩⟩))) rfl rfl rfl ⟨h7.1, h7.2, h8⟩ (q_roomle hfr h9))
    ⟨q_blind, fun U hU hW => ⟨rfl, by rw [hU]; exact hsz, by rw [hU]; exact hP, C.2.2.2.2.2.2.2.2.2.1.warm hW⟩⟩ rfl (by rw [List.length_map]; exact hn1) hl.1 (q_stkS b hst) (lv_room (by rw [q_catsum]; exact hroom)) hd ⟨by show cells + kc1 ≤ mc; omega, by show slots + ks1 ≤ ms; omega⟩) hS (fun v w' H1 locs1 hq hd3 hP1 hS1 => ?_)) T9 hT9 X
  have kk := k v w' hq p l e _ s m args below meth c D dA b n0 (n + kc1) mc ms H1 locs1 ls (cells + kc1) (slots + ks1) C hd3 hs (by omega) (by omega) (by omega) hP1 hS1 hl
  rw [List.map_append] at kk
  exact kk
theorem q_callI {M1 : q_M} {fr1 kc1 ks1 idx a np : Nat} (As : List Value) {Q1 : Option Value → q_W → Prop} (hc1 : q_CI M.1.cls idx M1 np) (hT1 : q_T M1 fr1 kc1 ks1 (.ref a :: As) w Q1) (hfr : fr1 + 1 ≤ fr) (hn1 : As.length = np) (hst : st0 = As.reverse ++ .ref a :: st) (hroom : (st.map (fun v => v.category)).sum ≤ 8) (hkc : kc0 = kc1 + kc) (hks : ks0 = ks1 + ks) (hd : decode M.2.1 pc = .ok (.invokespecial idx, 3))
    (k : ∀ (v : Option Value) (w' : q_W), Q1 v w' → q_J M fr Q kc ks (pc + 3) lv (v.toList ++ [] ++ st) w') : q_J M fr Q kc0 ks0 pc lv st0 w := by
  intro p l e R s m args below meth c D dA b n0 n mc ms H locs ls cells slots C hd2 hs hn hc hk hP hS hl
  obtain ⟨y9, c9, L9, r9⟩ := M1
  obtain ⟨h2, h3, h5, h6, h10, h11, h7, h8, h9⟩ := hc1
  dsimp only at h10
  subst h10
  have hsx := C.1
  subst hsx
  intro T9 hT9 X
  have hsz := q_size X hT9 hd2 hs hn hP hS
  refine (q_run (va_runI (As := As.map (q_v b)) (rest := st.map (q_v b)) ⟨C.2.1, C.2.2.1, C.2.2.2.1, C.2.2.2.2.1, C.2.2.2.2.2.2.2.2.1⟩ (hT1 l D dA b n hd2) (cwI np C.2.2.2.2.2.2.2.2.1 (q_goodB (q_allB (l := []) h6 (fun w hw => by cases hw))) rfl rfl rfl (C.2.2.2.2.2.2.2.2.1 _ h5) (C.2.2.2.2.2.2.2.2.1 _ h2) (C.2.2.2.2.2.2.2.2.1 _ h3) h11 ⟨h7.1, h7.2, h8⟩ (q_roomle hfr h9))
    ⟨q_blind, fun U hU hW => ⟨rfl, by rw [hU]; exact hsz, by rw [hU]; exact hP, C.2.2.2.2.2.2.2.2.2.1.warm hW⟩⟩ rfl (by rw [List.length_map]; exact hn1) hl.1 (q_stk b hst) (lv_room (by rw [q_catsum]; exact hroom)) hd ⟨by show cells + kc1 ≤ mc; omega, by show slots + ks1 ≤ ms; omega⟩) hS (fun v w' H1 locs1 hq hd3 hP1 hS1 => ?_)) T9 hT9 X
  have kk := k v w' hq p l e _ s m args below meth c D dA b n0 (n + kc1) mc ms H1 locs1 ls (cells + kc1) (slots + ks1) C hd3 hs (by omega) (by omega) (by omega) hP1 hS1 hl
  rw [List.map_append] at kk
  exact kk
theorem q_callN {M1 : q_M} {fr1 kc1 ks1 idx a np : Nat} {host : String} (As : List Value) {Q1 : Option Value → q_W → Prop} (hc1 : q_CN M.1.cls idx M1 host np) (hT1 : q_T M1 fr1 kc1 ks1 (.ref a :: As) w Q1) (hfr : fr1 + 1 ≤ fr) (hn1 : As.length = np) (hst : st0 = As.reverse ++ .ref a :: st) (hroom : (st.map (fun v => v.category)).sum ≤ 8) (hkc : kc0 = kc1 + kc) (hks : ks0 = ks1 + ks) (hd : decode M.2.1 pc = .ok (.invokespecial idx, 3))
    (k : ∀ (v : Option Value) (w' : q_W), Q1 v w' → q_J M fr Q kc ks (pc + 3) lv (v.toList ++ [] ++ st) w') : q_J M fr Q kc0 ks0 pc lv st0 w := by
  intro p l e R s m args below meth c D dA b n0 n mc ms H locs ls cells slots C hd2 hs hn hc hk hP hS hl
  obtain ⟨y9, c9, L9, r9⟩ := M1
  obtain ⟨h2, h3, h5, h6, h10, h11, h7, h8, h9⟩ := hc1
  dsimp only at h10
  subst h10
  have hsx := C.1
  subst hsx
  intro T9 hT9 X
  have hsz := q_size X hT9 hd2 hs hn hP hS
  refine (q_run (va_runIN (As := As.map (q_v b)) (rest := st.map (q_v b)) ⟨C.2.1, C.2.2.1, C.2.2.2.1, C.2.2.2.2.1, C.2.2.2.2.2.2.2.2.1⟩ (hT1 l D dA b n hd2) ⟨va_cnB np C.2.2.2.2.2.2.2.2.1 (q_goodB (q_allB (l := []) h6 (fun w hw => by cases hw))) rfl rfl rfl (C.2.2.2.2.2.2.2.2.2.1.2.2.2.2.1 _ h2) (C.2.2.2.2.2.2.2.2.1 _ h5) ⟨h7.1, h7.2, h8⟩ (q_roomle hfr h9), h11, C.2.2.2.2.2.2.2.2.1 _ h3⟩
    ⟨q_blind, fun U hU hW => ⟨rfl, by rw [hU]; exact hsz, by rw [hU]; exact hP, C.2.2.2.2.2.2.2.2.2.1.warm hW⟩⟩ rfl (by rw [List.length_map]; exact hn1) hl.1 (q_stk b hst) (lv_room (by rw [q_catsum]; exact hroom)) hd ⟨by show cells + kc1 ≤ mc; omega, by show slots + ks1 ≤ ms; omega⟩) hS (fun v w' H1 locs1 hq hd3 hP1 hS1 => ?_)) T9 hT9 X
  have kk := k v w' hq p l e _ s m args below meth c D dA b n0 (n + kc1) mc ms H1 locs1 ls (cells + kc1) (slots + ks1) C hd3 hs (by omega) (by omega) (by omega) hP1 hS1 hl
  rw [List.map_append] at kk
  exact kk
/-! returns -/
theorem q_iret {z : Int} (hr : M.2.2.2 = some .int) (hd : decode M.2.1 pc = .ok (.ireturn, 1)) (hq : Q (some (q_i z)) w) : q_J M fr Q 0 ks pc lv [q_i z] w := by
  intro p l e R s m args below meth c D dA b n0 n mc ms H locs ls cells slots C hd2 hs hn hc hk hP hS hl
  refine W.widen (k := mc) (n := ms) (by omega) (by omega) ?_
  exact W.iret (v := Int32.ofInt z) C.2.1 C.2.2.1 (C.2.2.2.2.2.1.trans hr) (fun t ht hW => ⟨⟨some (q_i z), w, rfl, hq, by rw [show n0 + mc = n by omega]; exact hd2, by rw [ht, show n0 + mc = n by omega]; exact hP⟩, hS.F ht⟩) hS.2.2 hd C.2.2.2.2.2.2.1
theorem q_lret {z : Int} (hr : M.2.2.2 = some .long) (hd : decode M.2.1 pc = .ok (.lreturn, 1)) (hq : Q (some (q_l z)) w) : q_J M fr Q 0 ks pc lv [q_l z] w := by
  intro p l e R s m args below meth c D dA b n0 n mc ms H locs ls cells slots C hd2 hs hn hc hk hP hS hl
  refine W.widen (k := mc) (n := ms) (by omega) (by omega) ?_
  exact W.lret (v := Int64.ofInt z) C.2.1 C.2.2.1 (C.2.2.2.2.2.1.trans hr) (fun t ht hW => ⟨⟨some (q_l z), w, rfl, hq, by rw [show n0 + mc = n by omega]; exact hd2, by rw [ht, show n0 + mc = n by omega]; exact hP⟩, hS.F ht⟩) hS.2.2 hd C.2.2.2.2.2.2.1
theorem q_zret {z : Int} (hr : M.2.2.2 = some .boolean) (hz : z = 0 ∨ z = 1) (hd : decode M.2.1 pc = .ok (.ireturn, 1)) (hq : Q (some (q_i z)) w) : q_J M fr Q 0 ks pc lv [q_i z] w := by
  intro p l e R s m args below meth c D dA b n0 n mc ms H locs ls cells slots C hd2 hs hn hc hk hP hS hl
  refine W.widen (k := mc) (n := ms) (by omega) (by omega) ?_
  exact W.zret (v := Int32.ofInt z) (ty := .boolean) C.2.1 C.2.2.1 (C.2.2.2.2.2.1.trans hr) (by rcases hz with rfl | rfl <;> decide) (fun t ht hW => ⟨⟨some (q_i z), w, rfl, hq, by rw [show n0 + mc = n by omega]; exact hd2, by rw [ht, show n0 + mc = n by omega]; exact hP⟩, hS.F ht⟩) hS.2.2 hd C.2.2.2.2.2.2.1
theorem q_vret (hr : M.2.2.2 = none) (hd : decode M.2.1 pc = .ok (.return_, 1)) (hq : Q none w) : q_J M fr Q 0 ks pc lv [] w := by
  intro p l e R s m args below meth c D dA b n0 n mc ms H locs ls cells slots C hd2 hs hn hc hk hP hS hl
  refine W.widen (k := mc) (n := ms) (by omega) (by omega) ?_
  exact W.vret C.2.1 C.2.2.1 (C.2.2.2.2.2.1.trans hr) (fun t ht hW => ⟨⟨none, w, rfl, hq, by rw [show n0 + mc = n by omega]; exact hd2, by rw [ht, show n0 + mc = n by omega]; exact hP⟩, hS.F ht⟩) hS.2.2 hd C.2.2.2.2.2.2.1
theorem q_aret {o : Option Nat} {C0 : String} (hr : M.2.2.2 = some (.object C0)) (hd : decode M.2.1 pc = .ok (.areturn, 1)) (hq : Q (some (q_rf o)) w) : q_J M fr Q 0 ks pc lv [q_rf o] w := by
  intro p l e R s m args below meth c D dA b n0 n mc ms H locs ls cells slots C hd2 hs hn hc hk hP hS hl
  refine W.widen (k := mc) (n := ms) (by omega) (by omega) ?_
  exact W.aret (v := q_v b (q_rf o)) C.2.1 C.2.2.1 (C.2.2.2.2.2.1.trans hr) (Or.inl ⟨C0, rfl⟩) (by cases o; exact Or.inl rfl; exact Or.inr ⟨_, rfl⟩) (fun t ht hW => ⟨⟨some (q_rf o), w, rfl, hq, by rw [show n0 + mc = n by omega]; exact hd2, by rw [ht, show n0 + mc = n by omega]; exact hP⟩, hS.F ht⟩) hS.2.2 hd C.2.2.2.2.2.2.1
end QR
