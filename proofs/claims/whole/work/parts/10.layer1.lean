/-! THE LAYER (my own): a pure world (function from small addresses to cells), values with whole numbers, and a judgement over it. -/
abbrev q_E : Type := (Nat × vp_A) ⊕ (Nat × List Value)
abbrev q_W : Type := Nat → Option q_E
/-- an int, a long, by a whole number -/
def q_i (z : Int) : Value := .int (Int32.ofInt z)
def q_l (z : Int) : Value := .long (Int64.ofInt z)
/-- arrays: of ints, of longs, of references (kind k) -/
def q_ia (n : Nat) (f : Int → Int) : q_E := .inl (0, n, .inl (fun j => Int32.ofInt (f (j : Int))))
def q_la (n : Nat) (f : Int → Int) : q_E := .inl (1, n, .inr (.inl (fun j => Int64.ofInt (f (j : Int)))))
def q_ra (k n : Nat) (f : Int → Option Nat) : q_E := .inl (k, n, .inr (.inr (.inr (.inr (fun j => f (j : Int))))))
def q_ob (c : Nat) (fs : List Value) : q_E := .inr (c, fs)
def q_up (w : q_W) (a : Nat) (c : q_E) : q_W := fun x => if x = a then some c else w x
def q_us {α : Type} (f : Int → α) (i : Int) (v : α) : Int → α := fun j => if j = i then v else f j
theorem q_up_s (w : q_W) (a : Nat) (c : q_E) : q_up w a c a = some c := if_pos rfl
theorem q_up_n {w : q_W} {a b : Nat} {c : q_E} (h : b ≠ a) : q_up w a c b = w b := if_neg h
theorem q_up_up (w : q_W) (a : Nat) (c d : q_E) : q_up (q_up w a c) a d = q_up w a d := by
  funext x
  unfold q_up
  split <;> rfl
theorem q_up_id {w : q_W} {a : Nat} {c : q_E} (h : w a = some c) : q_up w a c = w := by
  funext x
  unfold q_up
  split
  · rename_i e
    rw [e, h]
  · rfl
theorem q_up_comm (w : q_W) {a b : Nat} (c d : q_E) (h : a ≠ b) : q_up (q_up w a c) b d = q_up (q_up w b d) a c := by
  funext x
  unfold q_up
  by_cases h1 : x = a
  · subst h1
    rw [if_neg h, if_pos rfl, if_pos rfl]
  · by_cases h2 : x = b
    · subst h2
      rw [if_pos rfl, if_neg h1, if_pos rfl]
    · rw [if_neg h2, if_neg h1, if_neg h1, if_neg h2]
theorem q_us_s {α : Type} (f : Int → α) (i : Int) (v : α) : q_us f i v i = v := if_pos rfl
theorem q_us_n {α : Type} {f : Int → α} {i j : Int} {v : α} (h : j ≠ i) : q_us f i v j = f j := if_neg h
def q_dom (w : q_W) (n : Nat) : Prop := ∀ a, w a ≠ none ↔ a < n
theorem q_dom.lt {w : q_W} {n a : Nat} {c : q_E} (h : q_dom w n) (ha : w a = some c) : a < n := (h a).mp (by rw [ha]; exact Option.some_ne_none c)
theorem q_dom.up {w : q_W} {n a : Nat} (c : q_E) (h : q_dom w n) (ha : a < n) : q_dom (q_up w a c) n := by
  intro x
  unfold q_up
  by_cases e : x = a
  · rw [if_pos e, e]
    exact ⟨fun _ => ha, fun _ => Option.some_ne_none c⟩
  · rw [if_neg e]
    exact h x
theorem q_dom.push {w : q_W} {n : Nat} (c : q_E) (h : q_dom w n) : q_dom (q_up w n c) (n + 1) := by
  intro x
  unfold q_up
  by_cases e : x = n
  · rw [if_pos e, e]
    exact ⟨fun _ => Nat.lt_succ_self n, fun _ => Option.some_ne_none c⟩
  · rw [if_neg e, h x]
    omega
theorem q_dom.none {w : q_W} {n : Nat} (h : q_dom w n) : w n = none := Classical.byContradiction fun e => Nat.lt_irrefl n ((h n).mp e)
/-- the real value, the real cell, the real list of cells -/
def q_v (b : Nat) : Value → Value
  | .ref a => .ref (b + a)
  | v => v
def q_arr (b : Nat) : vp_A → vp_A
  | (n, .inr (.inr (.inr (.inr f)))) => (n, .inr (.inr (.inr (.inr (fun j => (f j).map (fun x => b + x))))))
  | a => a
def q_e (dA : Nat → ClassId) (b : Nat) : q_E → va_E
  | .inl (k, a) => .inl (dA k, q_arr b a)
  | .inr (c, fs) => .inr (c, fs.map (q_v b))
def q_c (dA : Nat → ClassId) (b : Nat) (w : q_W) (n : Nat) : va_W := (List.range n).map (fun a => (b + a, q_e dA b ((w a).getD (.inr (0, [])))))
theorem q_c_get {dA : Nat → ClassId} {b : Nat} {w : q_W} {n a : Nat} {c : q_E} (hd : q_dom w n) (h : w a = some c) : (q_c dA b w n)[a]? = some (b + a, q_e dA b c) := by
  unfold q_c
  rw [List.getElem?_map, List.getElem?_range (hd.lt h), Option.map_some, h]
  rfl
theorem q_c_lt {dA : Nat → ClassId} {b : Nat} {w : q_W} {n k : Nat} {x : Nat × va_E} (h : (q_c dA b w n)[k]? = some x) : k < n ∧ x.1 = b + k := by
  unfold q_c at h
  rw [List.getElem?_map] at h
  by_cases hk : k < n
  · rw [List.getElem?_range hk, Option.map_some] at h
    cases h
    exact ⟨hk, rfl⟩
  · rw [List.getElem?_eq_none (by rw [List.length_range]; omega)] at h
    cases h
theorem q_c_D (dA : Nat → ClassId) (b : Nat) (w : q_W) (n : Nat) : va_D (fun q => b ≤ q) (q_c dA b w n) := by
  refine ⟨fun i j x y hi hj hxy => ?_, fun k x hx => ?_⟩
  · have h1 := q_c_lt hi
    have h2 := q_c_lt hj
    omega
  · have h1 := q_c_lt hx
    show b ≤ x.1
    omega
theorem q_c_set {dA : Nat → ClassId} {b : Nat} {w : q_W} {n a : Nat} {c : q_E} {e : va_E} (ha : a < n) (he : e = q_e dA b c) : (q_c dA b w n).set a (b + a, e) = q_c dA b (q_up w a c) n := by
  subst he
  apply List.ext_getElem?
  intro k
  unfold q_c
  by_cases e : k = a
  · subst e
    rw [List.getElem?_set_self (by simpa using ha), List.getElem?_map, List.getElem?_range ha, Option.map_some, q_up_s]
    rfl
  · rw [List.getElem?_set_ne (Ne.symm e), List.getElem?_map, List.getElem?_map]
    by_cases hk : k < n
    · rw [List.getElem?_range hk, Option.map_some, Option.map_some, q_up_n e]
    · rw [List.getElem?_eq_none (by rw [List.length_range]; omega)]
      rfl
theorem q_c_push {dA : Nat → ClassId} {b : Nat} {w : q_W} {n : Nat} {c : q_E} : q_c dA b w n ++ [(b + n, q_e dA b c)] = q_c dA b (q_up w n c) (n + 1) := by
  unfold q_c
  rw [List.range_succ, List.map_append]
  congr 1
  · apply List.map_congr_left
    intro a ha
    rw [q_up_n (Nat.ne_of_lt (List.mem_range.mp ha))]
  · rw [List.map_cons, List.map_nil, q_up_s]
    rfl
/-- local variables: by their places; none: not known -/
def q_ll (b : Nat) (lv : List (Option Value)) : List (Nat × Value) := lv.zipIdx.filterMap (fun q => q.1.map (fun v => (q.2, q_v b v)))
theorem q_ll_mem {b : Nat} {lv : List (Option Value)} {i : Nat} {v : Value} : (i, v) ∈ q_ll b lv ↔ ∃ u, lv[i]? = some (some u) ∧ v = q_v b u := by
  unfold q_ll
  rw [List.mem_filterMap]
  constructor
  · rintro ⟨⟨o, j⟩, h1, h2⟩
    have h3 := List.mem_zipIdx_iff_getElem?.mp h1
    cases o with
    | none => cases h2
    | some u =>
      simp only [Option.map_some, Option.some.injEq, Prod.mk.injEq] at h2
      obtain ⟨rfl, rfl⟩ := h2
      exact ⟨u, h3, rfl⟩
  · rintro ⟨u, h1, rfl⟩
    exact ⟨(some u, i), List.mem_zipIdx_iff_getElem?.mpr h1, rfl⟩
def q_kill (lv : List (Option Value)) : Nat → List (Option Value)
  | 0 => lv
  | j + 1 => match lv[j]? with
    | some (some (.long _)) => lv.set j none
    | some (some (.double _)) => lv.set j none
    | _ => lv
def q_st1 (lv : List (Option Value)) (i : Nat) (v : Value) : List (Option Value) := (q_kill lv i).set i (some v)
def q_st2 (lv : List (Option Value)) (i : Nat) (v : Value) : List (Option Value) := ((q_kill lv i).set i (some v)).set (i + 1) none
theorem q_kill_get {lv : List (Option Value)} {i j : Nat} {u : Value} (h : (q_kill lv i)[j]? = some (some u)) : lv[j]? = some (some u) ∧ ¬ (j + 1 = i ∧ u.category = 2) := by
  cases i with
  | zero => exact ⟨h, fun q => by omega⟩
  | succ k =>
    unfold q_kill at h
    dsimp only at h
    by_cases hjk : j = k
    · subst hjk
      cases hl : lv[j]? with
      | none => rw [hl] at h; dsimp only at h; rw [hl] at h; cases h
      | some o =>
        have hlt := (List.getElem?_eq_some_iff.mp hl).1
        rw [hl] at h
        cases o with
        | none => dsimp only at h; rw [hl] at h; cases h
        | some v =>
          cases v <;> dsimp only at h <;> (try rw [List.getElem?_set_self hlt] at h) <;> (try rw [hl] at h) <;> (try (cases h; done)) <;> (injection h with h; injection h with h; subst h; exact ⟨rfl, fun q => by have := q.2; simp [Value.category] at this⟩)
    · refine ⟨?_, fun q => hjk (by omega)⟩
      split at h
      · rwa [List.getElem?_set_ne (Ne.symm hjk)] at h
      · rwa [List.getElem?_set_ne (Ne.symm hjk)] at h
      · exact h
