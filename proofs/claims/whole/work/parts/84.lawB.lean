/-! the law's own judgement: the cells are those that the law made, counted exactly, from the heap's size at its start on; the script lies below -/
def q_LC (p : Program) (s : State) (m : MethodId) (meth : Method) (c : Code) (sb L : Nat) (xs : Nat → Int32) (D : va_G) (dA : Nat → ClassId) : Prop :=
  p.tables.exec = Jvm.exec ∧ c.code = cL_law ∧ c.maxLocals = 4 ∧ s.vm.findClass RL = some m.cls ∧ meth.sig.returnType = ret ∧ meth.locks = false ∧ (∀ w ∈ q_B, w.before #[Value.ref sb] s = true) ∧ q_K D dA s ∧ va_X sb L xs s s.heap ∧ sb < s.heap.size
def q_L (p : Program) (l : Launch) (e : Env) (s : State) (m : MethodId) (below : List Frame) (meth : Method) (c : Code) (sb : Nat) (D : va_G) (dA : Nat → ClassId) (cells slots pc : Nat) (lvs : List (Nat × Value)) (st : List Value) (w : q_W) : Prop :=
  ∀ (H : Heap) (locs : List Loc) (ls : Array Slot), q_dom w cells → va_P D vwCl (q_c dA s.heap.size w cells) H → va_S (fun q => s.heap.size ≤ q) s.heap H locs → lv_has ls 4 lvs → W p l e room_1 s m #[Value.ref sb] below meth c H locs cells slots (lw_Z below #[Value.ref sb] s) (F0 m pc ls st)
section QL
variable {p : Program} {l : Launch} {e : Env} {s : State} {m : MethodId} {below : List Frame} {meth : Method} {c : Code} {sb L : Nat} {xs : Nat → Int32} {D : va_G} {dA : Nat → ClassId} {cells slots pc : Nat} {lvs : List (Nat × Value)} {st : List Value} {w : q_W}
theorem q_Lroom {fr1 nL kc1 ks1 : Nat} (h : fr1 ≤ 9) (hL : nL ≤ 24) : (q_rm fr1 kc1 ks1).frames + 1 ≤ room_1.frames ∧ 8 + (nL + 11) + (q_rm fr1 kc1 ks1).locals ≤ room_1.locals := ⟨by show fr1 + 1 ≤ 11; omega, by show 8 + (nL + 11) + 43 * fr1 ≤ 430; omega⟩
theorem q_Lsize {T : State} {locs : List Loc} {H : Heap} (X : Stand p l e room_1 s m #[Value.ref sb] below meth c T locs cells slots) (hT : T.heap = H) (hd : q_dom w cells) (hP : va_P D vwCl (q_c dA s.heap.size w cells) H) (hS : va_S (fun q => s.heap.size ≤ q) s.heap H locs) : H.size = s.heap.size + cells := q_size X hT hd (n0 := 0) rfl (Nat.zero_add _) hP hS
theorem q_Lrf {a i : Nat} {j : Fin 4} (C : q_LC p s m meth c sb L xs D dA) (hm : (i, Value.ref a) ∈ lvs) (hi : (j : Nat) = i) (hd : decode cL_law pc = .ok (.aload_n j, 1)) (k : q_L p l e s m below meth c sb D dA cells slots (pc + 1) lvs (.ref a :: st) w) : q_L p l e s m below meth c sb D dA cells slots pc lvs st w := fun H locs ls h1 h2 h3 h4 => lv_aload_n C.1 C.2.1 hd hi (h4.2.2 _ hm) (k H locs ls h1 h2 h3 h4)
theorem q_Lil {x : Int32} {i : Nat} {j : Fin 4} (C : q_LC p s m meth c sb L xs D dA) (hm : (i, Value.int x) ∈ lvs) (hi : (j : Nat) = i) (hd : decode cL_law pc = .ok (.iload_n j, 1)) (k : q_L p l e s m below meth c sb D dA cells slots (pc + 1) lvs (.int x :: st) w) : q_L p l e s m below meth c sb D dA cells slots pc lvs st w := fun H locs ls h1 h2 h3 h4 => lv_iload_n C.1 C.2.1 hd hi (h4.2.2 _ hm) (k H locs ls h1 h2 h3 h4)
theorem q_Lic {n : Int} {v : Int32} (C : q_LC p s m meth c sb L xs D dA) (hd : decode cL_law pc = .ok (.iconst n, 1)) (hv : Int32.ofInt n = v) (k : q_L p l e s m below meth c sb D dA cells slots (pc + 1) lvs (.int v :: st) w) : q_L p l e s m below meth c sb D dA cells slots pc lvs st w := fun H locs ls h1 h2 h3 h4 => lv_iconst (v := v) C.1 C.2.1 hd hv (k H locs ls h1 h2 h3 h4)
theorem q_Lbp {n : Int} {v : Int32} (C : q_LC p s m meth c sb L xs D dA) (hd : decode cL_law pc = .ok (.bipush n, 2)) (hv : (Int8.ofInt n).toInt32 = v) (k : q_L p l e s m below meth c sb D dA cells slots (pc + 2) lvs (.int v :: st) w) : q_L p l e s m below meth c sb D dA cells slots pc lvs st w := fun H locs ls h1 h2 h3 h4 => lv_bipush (v := v) C.1 C.2.1 hd hv (k H locs ls h1 h2 h3 h4)
theorem q_Lad {x y : Int32} (C : q_LC p s m meth c sb L xs D dA) (hd : decode cL_law pc = .ok (.iadd, 1)) (k : q_L p l e s m below meth c sb D dA cells slots (pc + 1) lvs (.int (x + y) :: st) w) : q_L p l e s m below meth c sb D dA cells slots pc lvs (.int y :: .int x :: st) w := fun H locs ls h1 h2 h3 h4 => lv_iadd C.1 C.2.1 hd (k H locs ls h1 h2 h3 h4)
theorem q_Lsu {x y : Int32} (C : q_LC p s m meth c sb L xs D dA) (hd : decode cL_law pc = .ok (.isub, 1)) (k : q_L p l e s m below meth c sb D dA cells slots (pc + 1) lvs (.int (x - y) :: st) w) : q_L p l e s m below meth c sb D dA cells slots pc lvs (.int y :: .int x :: st) w := fun H locs ls h1 h2 h3 h4 => lv_isub C.1 C.2.1 hd (k H locs ls h1 h2 h3 h4)
theorem q_Lan {x y : Int32} (C : q_LC p s m meth c sb L xs D dA) (hd : decode cL_law pc = .ok (.iand, 1)) (k : q_L p l e s m below meth c sb D dA cells slots (pc + 1) lvs (.int (x &&& y) :: st) w) : q_L p l e s m below meth c sb D dA cells slots pc lvs (.int y :: .int x :: st) w := fun H locs ls h1 h2 h3 h4 => lv_iand C.1 C.2.1 hd (k H locs ls h1 h2 h3 h4)
theorem q_Lgo {off : Int} {tgt : Nat} (C : q_LC p s m meth c sb L xs D dA) (hd : decode cL_law pc = .ok (.goto off, 3)) (ht : (pc : Int) + off = (tgt : Int)) (k : q_L p l e s m below meth c sb D dA cells slots tgt lvs st w) : q_L p l e s m below meth c sb D dA cells slots pc lvs st w := fun H locs ls h1 h2 h3 h4 => lv_goto C.1 C.2.1 hd ht (k H locs ls h1 h2 h3 h4)
theorem q_Ldup {v : Value} (C : q_LC p s m meth c sb L xs D dA) (hd : decode cL_law pc = .ok (.dup, 1)) (hv : v.category = 1) (k : q_L p l e s m below meth c sb D dA cells slots (pc + 1) lvs (v :: v :: st) w) : q_L p l e s m below meth c sb D dA cells slots pc lvs (v :: st) w := fun H locs ls h1 h2 h3 h4 => lv_dup C.1 C.2.1 hd hv (k H locs ls h1 h2 h3 h4)
theorem q_Lst {a i : Nat} {j : Fin 4} {lvs' : List (Nat × Value)} (C : q_LC p s m meth c sb L xs D dA) (hd : decode cL_law pc = .ok (.astore_n j, 1)) (hi : (j : Nat) = i) (hn : i < 4) (hl : (i, Value.ref a) :: lvs.filter (fun q => !(q.1 == i) && !(q.1 + 1 == i && q.2.category == 2)) = lvs') (k : q_L p l e s m below meth c sb D dA cells slots (pc + 1) lvs' st w) : q_L p l e s m below meth c sb D dA cells slots pc lvs (.ref a :: st) w := fun H locs ls h1 h2 h3 h4 => lv_astore_n C.1 C.2.1 hd hi h4 hn hl (fun ls2 h5 => k H locs ls2 h1 h2 h3 h5)
theorem q_Lis {x : Int32} {i : Nat} {j : Fin 4} {lvs' : List (Nat × Value)} (C : q_LC p s m meth c sb L xs D dA) (hd : decode cL_law pc = .ok (.istore_n j, 1)) (hi : (j : Nat) = i) (hn : i < 4) (hl : (i, Value.int x) :: lvs.filter (fun q => !(q.1 == i) && !(q.1 + 1 == i && q.2.category == 2)) = lvs') (k : q_L p l e s m below meth c sb D dA cells slots (pc + 1) lvs' st w) : q_L p l e s m below meth c sb D dA cells slots pc lvs (.int x :: st) w := fun H locs ls h1 h2 h3 h4 => lv_istore_n C.1 C.2.1 hd hi h4 hn hl (fun ls2 h5 => k H locs ls2 h1 h2 h3 h5)
theorem q_Linc {x v : Int32} {i k9 : Nat} {n : Int} {lvs' : List (Nat × Value)} (C : q_LC p s m meth c sb L xs D dA) (hd : decode cL_law pc = .ok (.iinc i n, 3)) (hk : lvs[k9]? = some (i, .int x)) (hv : x + Int32.ofInt n = v) (hn : i < 4) (hl : (i, Value.int v) :: lvs.filter (fun q => !(q.1 == i) && !(q.1 + 1 == i && q.2.category == 2)) = lvs') (k : q_L p l e s m below meth c sb D dA cells slots (pc + 3) lvs' st w) : q_L p l e s m below meth c sb D dA cells slots pc lvs st w := fun H locs ls h1 h2 h3 h4 => lv_iinc C.1 C.2.1 hd h4 hk hv hn hl (fun ls2 h5 => k H locs ls2 h1 h2 h3 h5)
theorem q_Lgt {x y : Int32} {off : Int} {tgt : Nat} (C : q_LC p s m meth c sb L xs D dA) (hd : decode cL_law pc = .ok (.if_icmp .gt off, 3)) (ht : (pc : Int) + off = (tgt : Int)) (kt : y < x → q_L p l e s m below meth c sb D dA cells slots tgt lvs st w) (kf : ¬ y < x → q_L p l e s m below meth c sb D dA cells slots (pc + 3) lvs st w) : q_L p l e s m below meth c sb D dA cells slots pc lvs (.int y :: .int x :: st) w := fun H locs ls h1 h2 h3 h4 => lv_icmp_gt C.1 C.2.1 hd ht (fun q => kt q H locs ls h1 h2 h3 h4) (fun q => kf q H locs ls h1 h2 h3 h4)
theorem q_Leq {x : Int32} {off : Int} {tgt : Nat} (C : q_LC p s m meth c sb L xs D dA) (hd : decode cL_law pc = .ok (.if_icmp .eq off, 3)) (ht : (pc : Int) + off = (tgt : Int)) (kt : q_L p l e s m below meth c sb D dA cells slots tgt lvs st w) : q_L p l e s m below meth c sb D dA cells slots pc lvs (.int x :: .int x :: st) w := fun H locs ls h1 h2 h3 h4 => lv_icmp_eq C.1 C.2.1 hd ht (fun _ => kt H locs ls h1 h2 h3 h4) (fun q => absurd rfl q)
theorem q_Ltin {z : Int32} {dflt lo hi off : Int} {offs : Array Int} {len tgt : Nat} (C : q_LC p s m meth c sb L xs D dA) (hd : decode cL_law pc = .ok (.tableswitch dflt lo hi offs, len)) (h5 : lo ≤ z.toInt) (h6 : z.toInt ≤ hi) (ho : offs[(z.toInt - lo).toNat]? = some off) (ht : (pc : Int) + off = (tgt : Int)) (k : q_L p l e s m below meth c sb D dA cells slots tgt lvs st w) : q_L p l e s m below meth c sb D dA cells slots pc lvs (.int z :: st) w := fun H locs ls h1 h2 h3 h4 => lv_tableIn C.1 C.2.1 hd (by omega) (by omega) ho ht (k H locs ls h1 h2 h3 h4)
theorem q_Ltout {z : Int32} {dflt lo hi : Int} {offs : Array Int} {len tgt : Nat} (C : q_LC p s m meth c sb L xs D dA) (hd : decode cL_law pc = .ok (.tableswitch dflt lo hi offs, len)) (h5 : z.toInt < lo ∨ hi < z.toInt) (ht : (pc : Int) + dflt = (tgt : Int)) (k : q_L p l e s m below meth c sb D dA cells slots tgt lvs st w) : q_L p l e s m below meth c sb D dA cells slots pc lvs (.int z :: st) w := fun H locs ls h1 h2 h3 h4 => lv_tableOut C.1 C.2.1 hd h5 ht (k H locs ls h1 h2 h3 h4)
theorem q_Lsl {i : Int32} (C : q_LC p s m meth c sb L xs D dA) (hin : vp_in i L) (hd : decode cL_law pc = .ok (.iaload, 1)) (k : q_L p l e s m below meth c sb D dA cells slots (pc + 1) lvs (.int (xs i.toNatClampNeg) :: st) w) : q_L p l e s m below meth c sb D dA cells slots pc lvs (.int i :: .ref sb :: st) w := fun H locs ls h1 h2 h3 h4 => va_sld C.1 C.2.1 C.2.2.2.2.2.2.2.2.1 C.2.2.2.2.2.2.2.2.2 (by have := C.2.2.2.2.2.2.2.2.2; omega) h3 hin hd (k H locs ls h1 h2 h3 h4)
theorem q_Llen (C : q_LC p s m meth c sb L xs D dA) (hd : decode cL_law pc = .ok (.arraylength, 1)) (k : q_L p l e s m below meth c sb D dA cells slots (pc + 1) lvs (.int (Int32.ofNat L) :: st) w) : q_L p l e s m below meth c sb D dA cells slots pc lvs (.ref sb :: st) w := fun H locs ls h1 h2 h3 h4 => va_slen C.1 C.2.1 C.2.2.2.2.2.2.2.2.1 C.2.2.2.2.2.2.2.2.2 (by have := C.2.2.2.2.2.2.2.2.2; omega) h3 hd (k H locs ls h1 h2 h3 h4)
theorem q_Lret (C : q_LC p s m meth c sb L xs D dA) (hc : cells ≤ 600000) (hs : slots ≤ 7302250) (hd : decode cL_law pc = .ok (.ireturn, 1)) : q_L p l e s m below meth c sb D dA cells slots pc lvs [.int 1] w := fun H locs ls _ _ h3 _ => va_forget h3.2.2 (W.widen hc hs (lw_ret C.1 C.2.1 C.2.2.2.2.1 C.2.2.2.2.2.1 hd))
theorem q_Lnew {ci idx N : Nat} {Cn : String} {T : u_T} {fs : List Value} (ty0 : Nat → FieldType) (C : q_LC p s m meth c sb L xs D dA) (hC : vwCl[ci]? = some (Cn, T, N)) (hin : ∀ w ∈ u_ws Cn T N, w ∈ q_B) (hty : ∀ k, k < N → parseFieldDescriptor (T k).2.2.1 = some (ty0 k)) (hcl : Cond.classLink RL idx Cn ∈ q_B) (hins : Cond.instantiable Cn N ∈ q_B) (hini : Cond.initialized Cn ∈ q_B) (hfs : ∀ b j, j < N → defaultValue (ty0 j) = vp_V (fs.map (q_v b)) j) (hd : decode cL_law pc = .ok (.new idx, 3)) (hc : cells + 1 ≤ 600000) (hs : slots + N ≤ 7302250) (k : q_L p l e s m below meth c sb D dA (cells + 1) (slots + N) (pc + 3) lvs (.ref (s.heap.size + cells) :: st) (q_up w cells (q_ob ci fs))) : q_L p l e s m below meth c sb D dA cells slots pc lvs st w := by
  intro H locs ls hd2 hP hS hl T9 hT9 X
  have hB := C.2.2.2.2.2.2.1
  have hsz := q_Lsize X hT9 hd2 hP hS
  have hKn := C.2.2.2.2.2.2.2.1.1.1 ci _ hC
  refine (W.newcK (h := s.heap.size + cells) C.1 C.2.1 C.2.2.2.1 (hB _ hcl) (hB _ hins) (hB _ hini) (g := F0 m pc ls st) rfl hd hc hs hKn.2.1 hsz (fun H1 kC hkC e1 z1 o1 => ?_)) T9 hT9 X
  have hk9 : ∀ (k : Nat) (x : Nat × va_E), (q_c dA s.heap.size w cells)[k]? = some x → H1[x.1]? = H[x.1]? := fun k x hx => o1 x.1 (by have := (hP k x hx).lt; omega)
  have hP1 : va_P D vwCl (q_c dA s.heap.size w cells ++ [(s.heap.size + cells, q_e dA s.heap.size (q_ob ci fs))]) H1 := (hP.kept hk9).app (fun k x hx => by
    have hz : k < 1 := (List.getElem?_eq_some_iff.mp hx).1
    rw [show k = 0 by omega] at hx
    cases hx
    exact ⟨_, hC, (u_born ty0 hB hin hKn hkC e1 hty).to (hfs s.heap.size)⟩)
  rw [q_c_push] at hP1
  exact k H1 locs ls (hd2.push _) hP1 (q_S1 hS (k := 1) (by omega) (fun q hq => o1 q (by omega))) hl
theorem q_LcI {M1 : q_M} {fr1 kc1 ks1 idx a : Nat} {w1 : q_W} (C : q_LC p s m meth c sb L xs D dA) (hc1 : q_CI RL idx M1 0) (hT1 : q_T M1 fr1 kc1 ks1 [.ref a] w (fun v' w' => v' = none ∧ w' = w1)) (hfr : fr1 ≤ 9) (hroom : (st.map (fun v => v.category)).sum ≤ 8) (hd : decode cL_law pc = .ok (.invokespecial idx, 3)) (hc : cells + kc1 ≤ 600000) (hs : slots + ks1 ≤ 7302250) (k : q_L p l e s m below meth c sb D dA (cells + kc1) (slots + ks1) (pc + 3) lvs st w1) : q_L p l e s m below meth c sb D dA cells slots pc lvs (.ref (s.heap.size + a) :: st) w := by
  intro H locs ls hd2 hP hS hl
  obtain ⟨y9, c9, L9, r9⟩ := M1
  obtain ⟨h2, h3, h5, h6, h10, h11, h7, h8, h9⟩ := hc1
  dsimp only at h10
  subst h10
  intro T9 hT9 X
  have hsz := q_Lsize X hT9 hd2 hP hS
  have hB := C.2.2.2.2.2.2.1
  refine (q_run (va_runI (As := []) (rest := st) ⟨C.1, C.2.1, C.2.2.1, C.2.2.2.1, hB⟩ (hT1 l D dA s.heap.size cells hd2) (cwI 0 hB (q_goodB (q_allB (l := []) h6 (fun w hw => by cases hw))) rfl rfl rfl (hB _ h5) (hB _ h2) (hB _ h3) h11 ⟨h7.1, h7.2, h8⟩ (q_Lroom hfr h9))
    ⟨q_blind, fun U hU hW => ⟨rfl, by rw [hU]; exact hsz, by rw [hU]; exact hP, C.2.2.2.2.2.2.2.1.warm hW⟩⟩ rfl rfl hl.1 rfl (lv_room hroom) hd ⟨hc, hs⟩) hS (fun v w' H1 locs1 hq hd3 hP1 hS1 => ?_)) T9 hT9 X
  rw [hq.1]
  rw [hq.2] at hd3 hP1
  exact k H1 locs1 ls hd3 hP1 hS1 hl
theorem q_LcV {M1 : q_M} {fr1 kc1 ks1 idx a ci np : Nat} {fs : List Value} {st0 : List Value} (As : List Value) {Q1 : Option Value → q_W → Prop} (C : q_LC p s m meth c sb L xs D dA) (hc1 : q_CV RL idx ci M1 np) (hw : w a = some (q_ob ci fs)) (hT1 : q_T M1 fr1 kc1 ks1 (.ref a :: As) w Q1) (hd : decode cL_law pc = .ok (.invokevirtual idx, 3)) (hst : st0 = (As.map (q_v s.heap.size)).reverse ++ .ref (s.heap.size + a) :: st) (hfr : fr1 ≤ 9) (hroom : (st.map (fun v => v.category)).sum ≤ 8) (hn1 : As.length = np) (hc : cells + kc1 ≤ 600000) (hs : slots + ks1 ≤ 7302250)
    (k : ∀ (v : Option Value) (w' : q_W), Q1 v w' → q_L p l e s m below meth c sb D dA (cells + kc1) (slots + ks1) (pc + 3) lvs ((v.toList ++ []).map (q_v s.heap.size) ++ st) w') : q_L p l e s m below meth c sb D dA cells slots pc lvs st0 w := by
  intro H locs ls hd2 hP hS hl
  obtain ⟨T, N, h1, h2, h3, h4, h5, h6, h7, h8, h9⟩ := hc1
  intro T9 hT9 X
  have hsz := q_Lsize X hT9 hd2 hP hS
  have hB := C.2.2.2.2.2.2.1
  have hr := va_recv C.2.2.2.2.2.2.2.1.1 hP (ci := ci) (q0 := a) h1 (q_c_get hd2 hw)
  refine (q_run (va_runV (As := As.map (q_v s.heap.size)) (rest := st) ⟨C.1, C.2.1, C.2.2.1, C.2.2.2.1, hB⟩ (hT1 l D dA s.heap.size cells hd2) (cwV np hB (q_goodB (q_allB h6 (List.forall_mem_cons.mpr ⟨h2, List.forall_mem_cons.mpr ⟨h3, List.forall_mem_cons.mpr ⟨h4, List.forall_mem_cons.mpr ⟨h5, fun _ h => absurd h List.not_mem_nil⟩⟩⟩⟩))) rfl rfl rfl ⟨rfl, h7.1, h7.2, h8⟩ (q_Lroom hfr h9))
    ⟨q_blind, hr, fun U hU hW => ⟨rfl, by rw [hU]; exact hsz, by rw [hU]; exact hP, C.2.2.2.2.2.2.2.1.warm hW⟩⟩ rfl (by rw [List.length_map]; exact hn1) hl.1 hst (lv_room hroom) hd ⟨hc, hs⟩) hS (fun v w' H1 locs1 hq hd3 hP1 hS1 => ?_)) T9 hT9 X
  exact k v w' hq H1 locs1 ls hd3 hP1 hS1 hl
end QL
section QL2
variable {p : Program} {l : Launch} {e : Env} {s : State} {m : MethodId} {below : List Frame} {meth : Method} {c : Code} {sb L : Nat} {xs : Nat → Int32} {D : va_G} {dA : Nat → ClassId} {cells slots pc : Nat} {lvs : List (Nat × Value)} {st : List Value} {w w0 : q_W} {μ ν ξ σ : m_S} {B P : Nat} {g : Int → Option Nat}
theorem q_Ldom (k : q_dom w cells → q_L p l e s m below meth c sb D dA cells slots pc lvs st w) : q_L p l e s m below meth c sb D dA cells slots pc lvs st w := fun H locs ls h1 h2 h3 h4 => k h1 H locs ls h1 h2 h3 h4
theorem q_Leqw {w' : q_W} (h : w = w') (k : q_L p l e s m below meth c sb D dA cells slots pc lvs st w') : q_L p l e s m below meth c sb D dA cells slots pc lvs st w := by
  subst h; exact k
theorem q_Lld {i j : Nat} (C : q_LC p s m meth c sb L xs D dA) (hL : L ≤ 384) (hij : i + j < L) (hd : decode cL_law pc = .ok (.iaload, 1)) (k : q_L p l e s m below meth c sb D dA cells slots (pc + 1) lvs (q_i ((xs (i + j)).toInt) :: st) w) : q_L p l e s m below meth c sb D dA cells slots pc lvs (.int (Int32.ofInt (((i + j : Nat)) : Int)) :: .ref sb :: st) w := by
  have hr : q_r ((i + j : Nat) : Int) := ⟨by omega, by omega⟩
  refine q_Lsl C (q_ar (b := 0) (by omega) (by omega) (by omega)) hd ?_
  rw [q_cl hr, Int.toNat_natCast]
  have e9 : Value.int (xs (i + j)) = q_i ((xs (i + j)).toInt) := by
    unfold q_i
    rw [Int32.ofInt_toInt]
  rw [e9]
  exact k
/-- an argument out of the script -/
theorem q_Larg {i j : Nat} (C : q_LC p s m meth c sb L xs D dA) (hL : L ≤ 384) (hij : i + j < L) (hm0 : (0, Value.ref sb) ∈ lvs) (hm3 : (3, Value.int (Int32.ofInt (i : Int))) ∈ lvs) (d1 : decode cL_law pc = .ok (.aload_n 0, 1)) (d2 : decode cL_law (pc + 1) = .ok (.iload_n 3, 1)) (d3 : decode cL_law (pc + 2) = .ok (.iconst j, 1)) (d4 : decode cL_law (pc + 3) = .ok (.iadd, 1)) (d5 : decode cL_law (pc + 4) = .ok (.iaload, 1)) (k : q_L p l e s m below meth c sb D dA cells slots (pc + 5) lvs (q_i ((xs (i + j)).toInt) :: st) w) : q_L p l e s m below meth c sb D dA cells slots pc lvs st w := by
  refine q_Lrf C hm0 rfl d1 (q_Lil C hm3 rfl d2 (q_Lic (v := Int32.ofInt (j : Int)) C d3 rfl (q_Lad C d4 ?_)))
  rw [← Int32.ofInt_add, ← Int.natCast_add]
  exact q_Lld C hL hij d5 k
theorem q_Lcls {M1 : q_M} {fr1 idx np : Nat} {v : Value} {st0 : List Value} (As : List Value) (C : q_LC p s m meth c sb L xs D dA) (hc1 : q_CV RL idx 11 M1 np) (hT1 : q_T M1 fr1 0 0 (.ref 0 :: As) (x_w (m_w w0 μ) ξ B P g) (z_Q (m_w w0 μ) B P g v ν)) (hd : decode cL_law pc = .ok (.invokevirtual idx, 3)) (hst : st0 = (As.map (q_v s.heap.size)).reverse ++ .ref (s.heap.size + 0) :: st) (hfr : fr1 ≤ 9) (hroom : (st.map (fun v => v.category)).sum ≤ 8) (hn1 : As.length = np) (hc : cells ≤ 600000) (hs : slots ≤ 7302250)
    (k : ∀ σ, z_R ν σ B P g → q_L p l e s m below meth c sb D dA cells slots (pc + 3) lvs (q_v s.heap.size v :: st) (x_w (m_w w0 μ) σ B P g)) : q_L p l e s m below meth c sb D dA cells slots pc lvs st0 (x_w (m_w w0 μ) ξ B P g) :=
  q_LcV As C hc1 rfl hT1 hd hst hfr hroom hn1 hc hs (fun v9 w9 h9 => by
    obtain ⟨e1, σ, e2, h⟩ := h9
    rw [e1, e2]
    exact k σ h)
theorem q_Lref {M1 : q_M} {fr1 idx np : Nat} {v : Value} {st0 : List Value} (As : List Value) (C : q_LC p s m meth c sb L xs D dA) (hB : 76 ≤ B) (hc1 : q_CV RL idx 12 M1 np) (hT1 : q_D M1 fr1 (.ref 64 :: As) (m_w (x_w w0 σ B P g) μ) (some v) (m_w (x_w w0 σ B P g) ν)) (hd : decode cL_law pc = .ok (.invokevirtual idx, 3)) (hst : st0 = (As.map (q_v s.heap.size)).reverse ++ .ref (s.heap.size + 64) :: st) (hfr : fr1 ≤ 9) (hroom : (st.map (fun v => v.category)).sum ≤ 8) (hn1 : As.length = np) (hc : cells ≤ 600000) (hs : slots ≤ 7302250)
    (k : q_L p l e s m below meth c sb D dA cells slots (pc + 3) lvs (q_v s.heap.size v :: st) (x_w (m_w w0 ν) σ B P g)) : q_L p l e s m below meth c sb D dA cells slots pc lvs st0 (x_w (m_w w0 μ) σ B P g) := by
  rw [← x_m_w hB]
  refine q_LcV As C hc1 rfl hT1 hd hst hfr hroom hn1 hc hs (fun v9 w9 h9 => ?_)
  rw [h9.1, h9.2, x_m_w hB]
  exact k
theorem q_Llq {x : Int64} {off : Int} {tgt : Nat} (C : q_LC p s m meth c sb L xs D dA) (hd : decode cL_law pc = .ok (.lcmp, 1)) (hd2 : decode cL_law (pc + 1) = .ok (.ifCond .eq off, 3)) (ht : (pc + 1 : Int) + off = (tgt : Int)) (kt : q_L p l e s m below meth c sb D dA cells slots tgt lvs st w) : q_L p l e s m below meth c sb D dA cells slots pc lvs (.long x :: .long x :: st) w := fun H locs ls h1 h2 h3 h4 => W.lcmp C.1 C.2.1 hd (by
    have e9 : lg_cmp x x = 0 := by
      unfold lg_cmp
      rw [if_neg (by exact Int64.lt_irrefl), if_pos rfl]
    rw [e9]
    exact lv_if_eq C.1 C.2.1 hd2 (by rw [← ht]; rfl) (fun _ => kt H locs ls h1 h2 h3 h4) (fun q => absurd rfl q))
end QL2
