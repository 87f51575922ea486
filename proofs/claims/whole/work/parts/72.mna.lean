/-! rows of rows, made at once: a walk of the instruction over the machine's own words -/
def q_mo (c : ClassId) (N h i : Nat) : Cell := arrV c N (fun j => va_rf (if j < i then some (h + 1 + j) else none))
def q_mi (d : ClassId) (M : Nat) : Cell := arrV d M (fun _ => .int 0)
/-- the machine when i of the inner rows stand -/
def q_mf (s : State) (c d : ClassId) (N M : Nat) : Nat → State
  | 0 => s.pushCell (q_mo c N s.heap.size 0)
  | i + 1 => ((q_mf s c d N M i).pushCell (q_mi d M)).setCell s.heap.size (q_mo c N s.heap.size (i + 1))
theorem q_mo_s (c : ClassId) (N h i : Nat) : (q_mo c N h i).setSlot i (.ref (h + 1 + i)) = q_mo c N h (i + 1) := by
  unfold q_mo
  rw [arrV_store]
  congr 1
  funext j
  unfold updV
  by_cases e : j = i
  · rw [if_pos e, if_pos (by omega), e]
    rfl
  · rw [if_neg e]
    show va_rf (if j < i then some (h + 1 + j) else none) = _
    by_cases h2 : j < i
    · rw [if_pos h2, if_pos (by omega)]
    · rw [if_neg h2, if_neg (by omega)]
theorem q_mo_0 (c : ClassId) (N h : Nat) : ({ cls := c, slots := Array.replicate N .null, vm := .none } : Cell) = q_mo c N h 0 := by
  rw [arrV_new]
  unfold q_mo
  congr 1
theorem q_mo_f (c : ClassId) (N h i : Nat) : (q_mo c N h i).cls = c ∧ (q_mo c N h i).vm = .none ∧ (q_mo c N h i).slots.size = N := ⟨rfl, rfl, arrV_size _ _ _⟩
theorem q_mf_f (s : State) (c d : ClassId) (N M : Nat) : ∀ i : Nat, (q_mf s c d N M i).heap.size = s.heap.size + 1 + i ∧ (q_mf s c d N M i).heap[s.heap.size]? = some (q_mo c N s.heap.size i) ∧ (q_mf s c d N M i).vm = s.vm ∧ (q_mf s c d N M i).slotsUsed = s.slotsUsed + N + i * M ∧ (∀ a : Nat, a < s.heap.size → (q_mf s c d N M i).heap[a]? = s.heap[a]?) ∧ ∀ j : Nat, j < i → (q_mf s c d N M i).heap[s.heap.size + 1 + j]? = some (q_mi d M)
  | 0 => by
    refine ⟨by simp [q_mf], by simp [q_mf], rfl, ?_, fun a ha => State.heap_pushCell_of_lt _ _ ha, fun j hj => absurd hj (Nat.not_lt_zero j)⟩
    show s.slotsUsed + (q_mo c N s.heap.size 0).slots.size = _
    rw [(q_mo_f c N s.heap.size 0).2.2]
    omega
  | i + 1 => by
    obtain ⟨h1, h2, h3, h4, h5, h6⟩ := q_mf_f s c d N M i
    have hs : ∀ x : Cell, (((q_mf s c d N M i).pushCell (q_mi d M)).setCell s.heap.size x).heap.size = s.heap.size + 1 + (i + 1) := fun x => by
      simp [State.setCell, h1]
      omega
    have hlt : s.heap.size < (q_mf s c d N M i).heap.size := by rw [h1]; omega
    have hp : ((q_mf s c d N M i).pushCell (q_mi d M)).heap[s.heap.size]? = some (q_mo c N s.heap.size i) := by
      rw [State.heap_pushCell_of_lt (h := hlt)]
      exact h2
    refine ⟨hs _, State.heap_setCell_self hp, h3, ?_, fun a ha => ?_, fun j hj => ?_⟩
    · show (q_mf s c d N M i).slotsUsed + (q_mi d M).slots.size = _
      rw [h4, show (q_mi d M).slots.size = M from arrV_size _ _ _, Nat.succ_mul]
      omega
    · show (((q_mf s c d N M i).pushCell (q_mi d M)).setCell s.heap.size _).heap[a]? = _
      have hla : a < (q_mf s c d N M i).heap.size := Nat.lt_trans ha hlt
      rw [State.heap_setCell_other (Nat.ne_of_gt ha), State.heap_pushCell_of_lt (h := hla)]
      exact h5 a ha
    · show (((q_mf s c d N M i).pushCell (q_mi d M)).setCell s.heap.size _).heap[s.heap.size + 1 + j]? = _
      have hne : s.heap.size ≠ s.heap.size + 1 + j := by omega
      rw [State.heap_setCell_other hne]
      rcases Nat.lt_or_ge j i with e | e
      · have hlj : s.heap.size + 1 + j < (q_mf s c d N M i).heap.size := by rw [h1]; omega
        rw [State.heap_pushCell_of_lt (h := hlj)]
        exact h6 j e
      · have ej : j = i := by omega
        subst ej
        rw [← h1]
        exact State.heap_pushCell_size _ _
theorem q_mf_t (s : State) (f : JFrame) (c d : ClassId) (N M : Nat) : ∀ i : Nat, q_mf (s.setTop f) c d N M i = (q_mf s c d N M i).setTop f
  | 0 => rfl
  | i + 1 => by
    show ((q_mf (s.setTop f) c d N M i).pushCell (q_mi d M)).setCell s.heap.size _ = _
    rw [q_mf_t s f c d N M i]
    rfl
section
variable {p : Program} {l : Launch} {e : Env} {R : Room} {s : State} {m : MethodId} {args : Array Value} {below : List Frame} {meth : Method} {c : Code} {T : State} {locs : List Loc} {cells slots : Nat}
theorem q_mf_X (X : Stand p l e R s m args below meth c T locs cells slots) (a d : ClassId) (N M : Nat) : ∀ i : Nat, ∃ J : List Loc, (∀ x ∈ J, x.base = T.heap.size) ∧ Stand p l e R s m args below meth c (q_mf T a d N M i) (locs ++ J) (cells + 1 + i) (slots + N + i * M)
  | 0 => by
    refine ⟨[], fun x hx => absurd hx List.not_mem_nil, ?_⟩
    have h := X.pushed (q_mo a N T.heap.size 0)
    rw [(q_mo_f a N T.heap.size 0).2.2] at h
    rw [List.append_nil, Nat.zero_mul, Nat.add_zero, Nat.add_zero]
    exact h
  | i + 1 => by
    obtain ⟨J, hJ, Xi⟩ := q_mf_X X a d N M i
    obtain ⟨h1, h2, -⟩ := q_mf_f T a d N M i
    have hlt : T.heap.size < (q_mf T a d N M i).heap.size := by rw [h1]; omega
    have hp : ((q_mf T a d N M i).pushCell (q_mi d M)).heap[T.heap.size]? = some (q_mo a N T.heap.size i) := by
      rw [State.heap_pushCell_of_lt (h := hlt)]
      exact h2
    have h := (Xi.pushed (q_mi d M)).stored hp i (.ref (T.heap.size + 1 + i))
    rw [q_mo_s, show (q_mi d M).slots.size = M from arrV_size _ _ _] at h
    refine ⟨J ++ [⟨T.heap.size, i⟩], fun x hx => ?_, ?_⟩
    · rcases List.mem_append.mp hx with q | q
      · exact hJ x q
      · rw [List.mem_singleton.mp q]
    · rw [← List.append_assoc, show slots + N + (i + 1) * M = slots + N + i * M + M by rw [Nat.succ_mul]; omega]
      exact h
end
section
variable {E : CtlPost} {e : Env} {d : Bool} {acts : List Action} {s : State}
/-- the innermost rows -/
theorem q_wp1 {b b0 : ClassId} {kb : Class} {k : Int32} {M : Nat} (hkb : s.vm.classes[b]? = some kb) (hkind : kb.kind = .array b0 .int) (hk : ¬ k < 0) (hM : k.toNatClampNeg = M) (hl : ¬ M > e.platform.arrayLengthLimit) (hh : ¬ M * componentBytes .int > e.platform.maxHeapBytes) (h1 : s.heap.size < e.platform.maxCells) (h2 : s.slotsUsed + M ≤ e.platform.maxSlots) {Q : Addr → Pre} (hq : ∀ acts', Q s.heap.size d acts' (s.pushCell (q_mi b M))) : wp (multianewarray.make b [k]) Q E e d acts s := by
  subst hM
  rw [multianewarray.make]
  simp only [wp_bind', _root_.Jvm.W.ite, hk, if_false, wp_pure', _root_.Jvm.W.theClass, hkb, hkind, Option.some.injEq, exists_eq_left']
  refine _root_.Jvm.W.newArray_of hkb hkind hl hh h1 h2 rfl (fun acts' => ?_)
  have e0 : ({ cls := b, slots := Array.replicate k.toNatClampNeg (defaultValue .int) } : Cell) = q_mi b k.toNatClampNeg := arrV_new _ _ _
  rw [e0]
  exact hq acts'
theorem q_wp2 {a b b0 : ClassId} {ka kb : Class} {n k : Int32} {N M : Nat} (hka : s.vm.classes[a]? = some ka) (hkinda : ka.kind = .array b (.array .int)) (hkb : s.vm.classes[b]? = some kb) (hkindb : kb.kind = .array b0 .int) (hn : ¬ n < 0) (hk : ¬ k < 0) (hN : n.toNatClampNeg = N) (hM : k.toNatClampNeg = M)
    (hl1 : ¬ N > e.platform.arrayLengthLimit) (hh1 : ¬ N * componentBytes (.array .int) > e.platform.maxHeapBytes) (hl2 : ¬ M > e.platform.arrayLengthLimit) (hh2 : ¬ M * componentBytes .int > e.platform.maxHeapBytes) (hc : s.heap.size + 1 + N ≤ e.platform.maxCells) (hs : s.slotsUsed + N + N * M ≤ e.platform.maxSlots)
    {Q : Addr → Pre} (hq : ∀ d' acts', Q s.heap.size d' acts' (q_mf s a b N M N)) : wp (multianewarray.make a [n, k]) Q E e d acts s := by
  subst hN
  have hfind : ([k].find? (· < 0)) = none := by simp [hk]
  rw [multianewarray.make]
  simp only [wp_bind', _root_.Jvm.W.ite, hn, if_false, wp_pure', _root_.Jvm.W.theClass, hka, hkinda, Option.some.injEq, exists_eq_left']
  refine _root_.Jvm.W.newArray_of hka hkinda hl1 hh1 (by omega) (by omega) rfl (fun acts1 => ?_)
  have e0 : ({ cls := a, slots := Array.replicate n.toNatClampNeg .null } : Cell) = q_mo a n.toNatClampNeg s.heap.size 0 := q_mo_0 a _ _
  rw [e0]
  simp only [hfind]
  rw [ite_self, wp_bind', Std.Legacy.Range.forIn_eq_forIn_range']
  have hsz : ([:n.toNatClampNeg] : Std.Legacy.Range).size = n.toNatClampNeg := by simp [Std.Legacy.Range.size]
  rw [hsz]
  refine wp_forIn_inv (fun (rest : List Nat) s' => ∃ i, i ≤ n.toNatClampNeg ∧ rest = List.range' i (n.toNatClampNeg - i) ∧ s' = q_mf s a b n.toNatClampNeg M i) _ _ ⟨0, Nat.zero_le _, rfl, rfl⟩ ?_ ?_
  · rintro x rest s' d' acts' Q' ⟨i, hi, hl, rfl⟩ hnext
    have hlt : i < n.toNatClampNeg := by
      rcases Nat.lt_or_ge i n.toNatClampNeg with h | h
      · exact h
      · rw [show n.toNatClampNeg - i = 0 by omega] at hl
        cases hl
    rw [show n.toNatClampNeg - i = (n.toNatClampNeg - (i + 1)) + 1 by omega, List.range'_succ] at hl
    obtain ⟨rfl, hrest⟩ := List.cons.inj hl
    obtain ⟨f1, f2, f3, f4, -⟩ := q_mf_f s a b n.toNatClampNeg M x
    obtain ⟨o1, o2, o3⟩ := q_mo_f a n.toNatClampNeg s.heap.size x
    have hmul : (x + 1) * M ≤ n.toNatClampNeg * M := Nat.mul_le_mul_right M hlt
    rw [Nat.succ_mul] at hmul
    simp only [wp_bind']
    refine q_wp1 (by rw [f3]; exact hkb) hkindb hk hM hl2 hh2 (by rw [f1]; omega) (by rw [f4]; omega) (fun acts2 => ?_)
    simp only [wp_bind', _root_.Jvm.W.writeLoc, wp_pure']
    refine ⟨q_mo a n.toNatClampNeg s.heap.size x, ?_, by rw [o2]; exact fun q => (by cases q), by rw [o3]; exact hlt, ?_, hnext _ _ _ ⟨x + 1, hlt, hrest, ?_⟩⟩
    · have hlx : s.heap.size < (q_mf s a b n.toNatClampNeg M x).heap.size := by rw [f1]; omega
      rw [State.heap_pushCell_of_lt (h := hlx)]
      exact f2
    · rw [o1, o2]
      simp [State.fitsSlot, State.slotType?, f3, hka, hkinda, fits]
    · rw [f1, q_mo_s]
      rfl
  · rintro s' d' acts' ⟨i, hi, hl, rfl⟩
    have hiN : i = n.toNatClampNeg := by
      rcases Nat.lt_or_ge i n.toNatClampNeg with h | h
      · rw [show n.toNatClampNeg - i = (n.toNatClampNeg - (i + 1)) + 1 by omega, List.range'_succ] at hl
        cases hl
      · omega
    subst hiN
    simp only [wp_pure']
    exact hq _ _
end
