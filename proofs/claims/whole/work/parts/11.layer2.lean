/-! the words that a method takes with it; what the tables say; the judgement q_J and the contract q_T -/
abbrev q_M : Type := MethodName × ByteArray × Nat × Option FieldType
def q_B : List Cond := lw_tbl.filter goodWord
theorem q_B_in {w : Cond} (h : w ∈ lw_tbl) (hg : goodWord w = true) : w ∈ q_B := List.mem_filter.mpr ⟨h, hg⟩
theorem q_B_tbl {w : Cond} (h : w ∈ q_B) : w ∈ lw_tbl := (List.mem_filter.mp h).1
theorem q_B_good {w : Cond} (h : w ∈ q_B) : (w.onTables && w.keeps) = true ∨ ∃ ty, w = .arrayClass ty := good_of_word (List.mem_filter.mp h).2
theorem q_good {x : Cond} {ws : List Cond} (h : ∀ w ∈ ws, w ∈ q_B) : GoodIn (x :: q_B) ws := fun w hw => ⟨List.mem_cons_of_mem _ (h w hw), q_B_good (h w hw)⟩
theorem q_goodB {ws : List Cond} (h : ∀ w ∈ ws, w ∈ q_B) : GoodIn q_B ws := fun w hw => ⟨h w hw, q_B_good (h w hw)⟩
def q_nc : List (String × String) := [(RX1, RX4), (RX2, RX4), (RX0, RX4), (RX5, RX4), (RX4, RX1), (RX2, RX1), (RX3, RX1), (RX5, RX1), (RX4, RX2), (RX1, RX2), (RX3, RX2), (RX0, RX2), (RX5, RX2), (RX4, RX3), (RX1, RX3), (RX2, RX3), (RX0, RX3), (RX5, RX3), (RX4, RX0), (RX1, RX0), (RX2, RX0), (RX3, RX0), (RX5, RX0)]
def q_cs : List (String × String) := [(RX3, RX4), (RX0, RX1), (RX4, RX5), (RX1, RX5), (RX2, RX5), (RX3, RX5), (RX0, RX5)]
def q_ao : List String := [RX7, RX9, RX5]
def q_tys (dA : Nat → ClassId) : List (ClassId × FieldType) := [(dA 0, .int), (dA 1, .long), (dA 2, .object RX7), (dA 3, .object RX9), (dA 4, .object RX5), (dA 5, .array .int)]
def q_nl : List (String × Nat × MethodName × String) := [(RX11, 26, yX6_init, RX11), (RX11, 33, yX8_init, RX11), (RX8, 17, yX10_init, RX11)]
def q_AI (U : State) : Prop := (Cond.arrayOver (.array .int)).before #[] U = true
def q_K (D : va_G) (dA : Nat → ClassId) (U : State) : Prop := va_K D vwCl (q_tys dA) U ∧ (∀ q ∈ q_nc, va_Nc q.1 q.2 U) ∧ (∀ q ∈ q_cs, va_Nw (.castable q.1 q.2) U) ∧ (∀ C ∈ q_ao, va_AO C U) ∧ (∀ q ∈ q_nl, va_Nw (.methodLinkNest q.1 q.2.1 q.2.2.1 q.2.2.2) U) ∧ q_AI U
theorem q_castable_moved {C T : String} {u U : State} (hvm : u.vm.Alike U.vm) (h : va_Nw (.castable C T) u) : va_Nw (.castable C T) U := va_tabs rfl (rfl : (u.setVm U.vm).vm = U.vm) (by rw [Cond.castable_setVm hvm]; exact h)
theorem q_AI.moved {u U : State} (hvm : u.vm.Alike U.vm) (h : q_AI u) : q_AI U := by
  have e := Cond.arrayOver_setVmC (args := #[]) hvm (.array .int)
  have h2 : (Cond.arrayOver (.array .int)).before #[] (u.setVm U.vm) = true := by rw [e]; exact h
  exact h2
theorem q_K.warm {D : va_G} {dA : Nat → ClassId} {u U : State} (hW : u.WarmedH U.vm) (h : q_K D dA u) : q_K D dA U :=
  ⟨va_K.moved hW.alike h.1, fun q hq => (h.2.1 q hq).moved hW.alike, fun q hq => q_castable_moved hW.alike (h.2.2.1 q hq), fun C hC => (h.2.2.2.1 C hC).moved hW.alike, fun q hq => va_Nw.warmM hW (h.2.2.2.2.1 q hq), h.2.2.2.2.2.moved hW.alike⟩
theorem q_K.same {D : va_G} {dA : Nat → ClassId} {u U : State} (e : u.vm = U.vm) (h : q_K D dA u) : q_K D dA U := by
  have hA : u.vm.Alike U.vm := by rw [e]; exact Vm.Alike.refl U.vm
  exact ⟨va_K.moved hA h.1, fun q hq => (h.2.1 q hq).moved hA, fun q hq => q_castable_moved hA (h.2.2.1 q hq), fun C hC => (h.2.2.2.1 C hC).moved hA, fun q hq => va_Nw.same rfl e (h.2.2.2.2.1 q hq), h.2.2.2.2.2.moved hA⟩
def q_rm (fr kc ks : Nat) : Room := { frames := fr, cells := kc, slots := ks, locals := 43 * fr }
def q_Qc (Q : Option Value → q_W → Prop) (D : va_G) (dA : Nat → ClassId) (b n : Nat) : Array Value → State → Outcome → State → Prop := fun _ st oc t =>
  (∃ (v : Option Value) (w' : q_W), oc = .returned (v.map (q_v b)) ∧ Q v w' ∧ q_dom w' n ∧ va_P D vwCl (q_c dA b w' n) t.heap) ∧ va_F (fun q => b ≤ q) st t
def q_Cx (M : q_M) (fr mc ms : Nat) (p : Program) (R : Room) (s : State) (m : MethodId) (args : Array Value) (meth : Method) (c : Code) (D : va_G) (dA : Nat → ClassId) (b : Nat) : Prop :=
  R = q_rm fr mc ms ∧ p.tables.exec = Jvm.exec ∧ c.code = M.2.1 ∧ c.maxLocals = M.2.2.1 ∧ s.vm.findClass M.1.cls = some m.cls ∧ meth.sig.returnType = M.2.2.2 ∧ meth.locks = false ∧ meth.name = M.1.name ∧ (∀ w ∈ q_B, w.before args s = true) ∧ q_K D dA s ∧ b ≤ s.heap.size
/-- the machine, at pc of M, with these locals, this stack, this world, comes to its end with Q; kc cells come yet, at most ks slots -/
def q_J (M : q_M) (fr : Nat) (Q : Option Value → q_W → Prop) (kc ks pc : Nat) (lv : List (Option Value)) (st : List Value) (w : q_W) : Prop :=
  ∀ (p : Program) (l : Launch) (e : Env) (R : Room) (s : State) (m : MethodId) (args : Array Value) (below : List Frame) (meth : Method) (c : Code) (D : va_G) (dA : Nat → ClassId) (b n0 n mc ms : Nat) (H : Heap) (locs : List Loc) (ls : Array Slot) (cells slots : Nat),
    q_Cx M fr mc ms p R s m args meth c D dA b → q_dom w n → s.heap.size = b + n0 → n0 + cells = n → cells + kc = mc → slots + ks ≤ ms → va_P D vwCl (q_c dA b w n) H → va_S (fun q => b ≤ q) s.heap H locs → lv_has ls M.2.2.1 (q_ll b lv) →
    W p l e R s m args below meth c H locs cells slots (MQ below (q_Qc Q D dA b (n0 + mc)) args s mc ms (fun q => b ≤ q)) (F0 m pc ls (st.map (q_v b)))
/-- the contract of M: from these arguments and this world it returns with Q; kc cells are new, at most ks slots -/
def q_T (M : q_M) (fr kc ks : Nat) (As : List Value) (w : q_W) (Q : Option Value → q_W → Prop) : Prop :=
  ∀ (l : Launch) (D : va_G) (dA : Nat → ClassId) (b n : Nat), q_dom w n →
    Met l M.1 (.code M.1 M.2.1 M.2.2.1 M.2.2.2 :: q_B) (q_rm fr kc ks) (va_Pc (As.map (q_v b)) (fun U => U.heap.size = b + n ∧ va_P D vwCl (q_c dA b w n) U.heap ∧ q_K D dA U)) (q_Qc Q D dA b (n + kc)) kc ks (fun q => b ≤ q)
def q_args : List Value → List (Option Value)
  | [] => []
  | v :: vs => match v with
    | .long _ => some v :: none :: q_args vs
    | .double _ => some v :: none :: q_args vs
    | _ => some v :: q_args vs
theorem q_v_cat (b : Nat) (v : Value) : (q_v b v).category = v.category := by cases v <;> rfl
theorem q_args_mem (b : Nat) : ∀ (vs : List Value) (k i : Nat) (u : Value), (q_args vs)[i]? = some (some u) → (k + i, q_v b u) ∈ lv_args k (vs.map (q_v b))
  | [], k, i, u, h => by simp [q_args] at h
  | v :: vs, k, i, u, h => by
    have key : ∀ (l : List (Option Value)) (d : Nat), (l = [none] ∧ d = 2 ∨ l = [] ∧ d = 1) → (q_v b v).category = d → (some v :: (l ++ q_args vs))[i]? = some (some u) → (k + i, q_v b u) ∈ lv_args k ((v :: vs).map (q_v b)) := by
      intro l d hl hd hi
      rw [List.map_cons, lv_args]
      cases i with
      | zero =>
        rw [List.getElem?_cons_zero] at hi
        injection hi with hi
        injection hi with hi
        subst hi
        exact List.mem_cons_self
      | succ i =>
        rw [List.getElem?_cons_succ] at hi
        refine List.mem_cons_of_mem _ ?_
        rcases hl with ⟨rfl, rfl⟩ | ⟨rfl, rfl⟩
        · rw [if_pos hd]
          cases i with
          | zero => simp at hi
          | succ i =>
            have := q_args_mem b vs (k + 2) i u (by simpa using hi)
            rwa [show k + (i + 1 + 1) = k + 2 + i by omega]
        · rw [if_neg (by omega)]
          have := q_args_mem b vs (k + 1) i u (by simpa using hi)
          rwa [show k + (i + 1) = k + 1 + i by omega]
    cases v with
    | long x => exact key [none] 2 (Or.inl ⟨rfl, rfl⟩) rfl h
    | double x => exact key [none] 2 (Or.inl ⟨rfl, rfl⟩) rfl h
    | int x => exact key [] 1 (Or.inr ⟨rfl, rfl⟩) rfl h
    | float x => exact key [] 1 (Or.inr ⟨rfl, rfl⟩) rfl h
    | null => exact key [] 1 (Or.inr ⟨rfl, rfl⟩) rfl h
    | ref x => exact key [] 1 (Or.inr ⟨rfl, rfl⟩) rfl h
    | retAddr x => exact key [] 1 (Or.inr ⟨rfl, rfl⟩) rfl h
theorem q_args_len (b : Nat) : ∀ (vs : List Value), (lg_sl (vs.map (q_v b))).length = (q_args vs).length
  | [] => rfl
  | v :: vs => by
    have ih := q_args_len b vs
    unfold lg_sl at ih ⊢
    rw [List.map_cons, List.flatMap_cons, List.length_append, ih, q_v_cat]
    cases v <;> simp [q_args, Value.category] <;> omega
/-- lv: what is known of the locals at the entry, with none behind the arguments -/
theorem q_T.of {M : q_M} {fr kc ks : Nat} {As : List Value} {w : q_W} {Q : Option Value → q_W → Prop} (hy : plainName M.1.cls = true) {lv : List (Option Value)} (hlv : q_args As ++ List.replicate (M.2.2.1 - (q_args As).length) none = lv) (hlen : (q_args As).length ≤ M.2.2.1) (k : q_J M fr Q kc ks 0 lv [] w) : q_T M fr kc ks As w Q := by
  intro l D dA b n hd
  refine Met.ofW (cc := M.2.1) (maxL := M.2.2.1) (ret := M.2.2.2) hy rfl ?_
  intro p e s m args below meth c s₁ B hml hv
  obtain ⟨rfl, hsz, hP, hK⟩ := hv
  have hl := lv_entry (As.map (q_v b)) (n := M.2.2.1) (by rw [q_args_len]; exact hlen)
  rw [lg_entry_eq]
  have hts := atoms_spec (ws := .code M.1 M.2.1 M.2.2.1 M.2.2.2 :: q_B) B.pre
  refine k p l e _ s m _ below meth c D dA b n n kc ks s.heap [] _ 0 0 ⟨rfl, B.exec, B.bytes, hml, findClass_of_methodNamed B.named, B.returns, B.notSynchronized, (name_of_methodNamed B.named B.method).1, fun w hw => hts w (List.mem_cons_of_mem _ hw), hK, by omega⟩ hd hsz rfl (Nat.zero_add _) (by omega) hP va_S.rf ⟨hl.1, hl.2.1, fun q hq => hl.2.2 q ?_⟩
  obtain ⟨i, v⟩ := q
  obtain ⟨u, h1, rfl⟩ := q_ll_mem.mp hq
  rw [← hlv] at h1
  have hi : i < (q_args As).length := by
    rcases Nat.lt_or_ge i (q_args As).length with h | h
    · exact h
    · rw [List.getElem?_append_right h, List.getElem?_replicate] at h1
      split at h1 <;> simp at h1
  rw [List.getElem?_append_left hi] at h1
  have := q_args_mem b As 0 i u h1
  rwa [Nat.zero_add] at this
/-- the real heap's size, where cells are counted exactly -/
theorem q_size {p : Program} {l : Launch} {e : Env} {R : Room} {s : State} {m : MethodId} {args : Array Value} {below : List Frame} {meth : Method} {c : Code} {T : State} {locs : List Loc} {cells slots : Nat} (X : Stand p l e R s m args below meth c T locs cells slots) {D : va_G} {dA : Nat → ClassId} {b n0 n : Nat} {w : q_W} {H : Heap} (hT : T.heap = H) (hd : q_dom w n) (hs : s.heap.size = b + n0) (hn : n0 + cells = n) (hP : va_P D vwCl (q_c dA b w n) H) (hS : va_S (fun q => b ≤ q) s.heap H locs) : H.size = b + n := by
  have h1 := X.heapSize
  rw [hT] at h1
  have h2 : b + n ≤ H.size := by
    cases n with
    | zero => have := hS.1; omega
    | succ k =>
      have h3 : w k ≠ none := (hd k).mpr (by omega)
      obtain ⟨c0, hc⟩ := Option.ne_none_iff_exists'.mp h3
      have h4 := (hP k _ (q_c_get hd hc)).lt
      dsimp only at h4
      omega
  omega
/-- steps that touch neither heap nor locals -/
theorem q_go {M : q_M} {fr : Nat} {Q : Option Value → q_W → Prop} {kc ks pc pc2 : Nat} {lv : List (Option Value)} {st st2 : List Value} {w : q_W}
    (h : ∀ (p : Program) (l : Launch) (e : Env) (R : Room) (s : State) (m : MethodId) (args : Array Value) (below : List Frame) (meth : Method) (c : Code) (b : Nat) (H : Heap) (locs : List Loc) (ls : Array Slot) (cells slots : Nat) (Z : State → Prop), p.tables.exec = Jvm.exec → c.code = M.2.1 → s.vm.findClass M.1.cls = some m.cls → (∀ w ∈ q_B, w.before args s = true) → lv_has ls M.2.2.1 (q_ll b lv) →
      W p l e R s m args below meth c H locs cells slots Z (F0 m pc2 ls (st2.map (q_v b))) → W p l e R s m args below meth c H locs cells slots Z (F0 m pc ls (st.map (q_v b))))
    (k : q_J M fr Q kc ks pc2 lv st2 w) : q_J M fr Q kc ks pc lv st w := by
  intro p l e R s m args below meth c D dA b n0 n mc ms H locs ls cells slots C hd hs hn hc hk hP hS hl
  exact h p l e R s m args below meth c b H locs ls cells slots _ C.2.1 C.2.2.1 C.2.2.2.2.1 C.2.2.2.2.2.2.2.2.1 hl (k p l e R s m args below meth c D dA b n0 n mc ms H locs ls cells slots C hd hs hn hc hk hP hS hl)
