/-! whole numbers and machine numbers -/
abbrev q_r (z : Int) : Prop := -2147483648 ≤ z ∧ z ≤ 2147483647
abbrev q_rl (z : Int) : Prop := -9223372036854775808 ≤ z ∧ z ≤ 9223372036854775807
theorem q_32 {z : Int} (h : q_r z) : (Int32.ofInt z).toInt = z := Int32.toInt_ofInt_of_le (by have := h.1; omega) (by have := h.2; omega)
theorem q_64 {z : Int} (h : q_rl z) : (Int64.ofInt z).toInt = z := Int64.toInt_ofInt_of_le (by have := h.1; omega) (by have := h.2; omega)
theorem q_32eq {a b : Int} (ha : q_r a) (hb : q_r b) : Int32.ofInt a = Int32.ofInt b ↔ a = b := by rw [← Int32.toInt_inj, q_32 ha, q_32 hb]
theorem q_32lt {a b : Int} (ha : q_r a) (hb : q_r b) : Int32.ofInt a < Int32.ofInt b ↔ a < b := by rw [Int32.lt_iff_toInt_lt, q_32 ha, q_32 hb]
theorem q_32le {a b : Int} (ha : q_r a) (hb : q_r b) : Int32.ofInt a ≤ Int32.ofInt b ↔ a ≤ b := by rw [Int32.le_iff_toInt_le, q_32 ha, q_32 hb]
theorem q_64eq {a b : Int} (ha : q_rl a) (hb : q_rl b) : Int64.ofInt a = Int64.ofInt b ↔ a = b := by rw [← Int64.toInt_inj, q_64 ha, q_64 hb]
theorem q_64lt {a b : Int} (ha : q_rl a) (hb : q_rl b) : Int64.ofInt a < Int64.ofInt b ↔ a < b := by rw [Int64.lt_iff_toInt_lt, q_64 ha, q_64 hb]
theorem q_64le {a b : Int} (ha : q_rl a) (hb : q_rl b) : Int64.ofInt a ≤ Int64.ofInt b ↔ a ≤ b := by rw [Int64.le_iff_toInt_le, q_64 ha, q_64 hb]
theorem q_0 : (0 : Int32) = Int32.ofInt 0 := by decide
theorem q_0l : (0 : Int64) = Int64.ofInt 0 := by decide
theorem q_r0 : q_r 0 := ⟨by decide, by decide⟩
theorem q_cl {z : Int} (h : q_r z) : (Int32.ofInt z).toNatClampNeg = z.toNat := Int32.toNatClampNeg_ofInt_of_le (by have := h.1; omega) (by have := h.2; omega)
theorem q_i_of (x : Int32) : Value.int x = q_i x.toInt := by unfold q_i; rw [Int32.ofInt_toInt]
theorem q_r_of (x : Int32) : q_r x.toInt := by
  have h1 := Int32.le_toInt x
  have h2 := Int32.toInt_lt x
  constructor <;> omega
theorem q_32div {a b : Int} (ha : q_r a) (hb : q_r b) (h : ¬ (a = -2147483648 ∧ b = -1)) : Int32.ofInt a / Int32.ofInt b = Int32.ofInt (a.tdiv b) := by
  by_cases e : b = -1
  · have h2 : Int32.ofInt a ≠ Int32.minValue := by
      intro q
      have := congrArg Int32.toInt q
      rw [q_32 ha] at this
      exact h ⟨by rw [this]; decide, e⟩
    apply Int32.toInt_inj.mp
    rw [Int32.toInt_div_of_ne_left _ _ h2, q_32 ha, q_32 hb, q_32]
    subst e
    rw [Int.tdiv_neg, Int.tdiv_one]
    have := ha.1
    have := ha.2
    constructor <;> omega
  · have h2 : Int32.ofInt b ≠ -1 := by
      intro q
      have := congrArg Int32.toInt q
      rw [q_32 hb] at this
      exact e (by rw [this]; decide)
    apply Int32.toInt_inj.mp
    rw [Int32.toInt_div_of_ne_right _ _ h2, q_32 ha, q_32 hb, q_32]
    have h3 : (a.tdiv b).natAbs ≤ a.natAbs := by rw [Int.natAbs_tdiv]; exact Nat.div_le_self _ _
    have := ha.1
    have := ha.2
    by_cases h4 : a = -2147483648
    · subst h4
      have h5 : ¬ (-2147483648 : Int).tdiv b = 2147483648 := by
        intro q
        have h6 := Int.tdiv_mul_add_tmod (-2147483648) b
        rw [q] at h6
        by_cases h7 : b = 0
        · subst h7; simp at q
        · have h8 := Int.natAbs_tmod (-2147483648) b
          have h9 : (2147483648 : Nat) % b.natAbs < b.natAbs := Nat.mod_lt _ (by omega)
          have h10 : ((-2147483648 : Int).tmod b).natAbs < b.natAbs := by rw [h8]; exact h9
          omega
      constructor <;> omega
    · constructor <;> omega
theorem q_64div {a b : Int} (ha : q_rl a) (hb : q_rl b) (h : ¬ b = -1) : Int64.ofInt a / Int64.ofInt b = Int64.ofInt (a.tdiv b) := by
  have h2 : Int64.ofInt b ≠ -1 := by
    intro q
    have := congrArg Int64.toInt q
    rw [q_64 hb] at this
    exact h (by rw [this]; decide)
  apply Int64.toInt_inj.mp
  rw [Int64.toInt_div_of_ne_right _ _ h2, q_64 ha, q_64 hb, q_64]
  have h3 : (a.tdiv b).natAbs ≤ a.natAbs := by rw [Int.natAbs_tdiv]; exact Nat.div_le_self _ _
  have := ha.1
  have := ha.2
  by_cases h4 : a = -9223372036854775808
  · subst h4
    have h5 : ¬ (-9223372036854775808 : Int).tdiv b = 9223372036854775808 := by
      intro q
      have h6 := Int.tdiv_mul_add_tmod (-9223372036854775808) b
      rw [q] at h6
      by_cases h7 : b = 0
      · subst h7; simp at q
      · have h8 := Int.natAbs_tmod (-9223372036854775808) b
        have h9 : (9223372036854775808 : Nat) % b.natAbs < b.natAbs := Nat.mod_lt _ (by omega)
        have h10 : ((-9223372036854775808 : Int).tmod b).natAbs < b.natAbs := by rw [h8]; exact h9
        omega
    constructor <;> omega
  · constructor <;> omega
theorem q_32rem {a b : Int} (ha : q_r a) (hb : q_r b) (h : ¬ (a = -2147483648 ∧ b = -1)) : Int32.ofInt a - Int32.ofInt a / Int32.ofInt b * Int32.ofInt b = Int32.ofInt (a.tmod b) := by
  rw [q_32div ha hb h, ← Int32.ofInt_mul, ← Int32.ofInt_sub]
  congr 1
  have := Int.tdiv_mul_add_tmod a b
  omega
theorem q_64rem {a b : Int} (ha : q_rl a) (hb : q_rl b) (h : ¬ b = -1) : Int64.ofInt a - Int64.ofInt a / Int64.ofInt b * Int64.ofInt b = Int64.ofInt (a.tmod b) := by
  rw [q_64div ha hb h, ← Int64.ofInt_mul, ← Int64.ofInt_sub]
  congr 1
  have := Int.tdiv_mul_add_tmod a b
  omega
theorem q_i2l {z : Int} (h : q_r z) : (Int32.ofInt z).toInt64 = Int64.ofInt z := by
  apply Int64.toInt_inj.mp
  rw [Int32.toInt_toInt64, q_32 h, q_64]
  have := h.1
  have := h.2
  constructor <;> omega
def q_shl (a b : Int) : Int := (Int32.ofInt a <<< (Int32.ofInt b &&& 31)).toInt
def q_or (a b : Int) : Int := (Int32.ofInt a ||| Int32.ofInt b).toInt
def q_and (a b : Int) : Int := (Int32.ofInt a &&& Int32.ofInt b).toInt
theorem q_ar {b : Nat} {z : Int} {n : Nat} (h0 : 0 ≤ z) (h : z < n) (hn : n < 2147483648) : vp_in (Int32.ofInt z) n := by
  have hz : q_r z := ⟨by omega, by omega⟩
  rintro (q | q)
  · rw [q_0, q_32lt hz q_r0] at q
    omega
  · rw [q_cl hz] at q
    omega
def q_rf (o : Option Nat) : Value := match o with
  | none => .null
  | some a => .ref a
theorem q_v_rf (b : Nat) (o : Option Nat) : q_v b (q_rf o) = va_rf (o.map (fun x => b + x)) := by cases o <;> rfl
theorem q_lget {ls : Array Slot} {nL b i : Nat} {lv : List (Option Value)} {u : Value} (h : lv_has ls nL (q_ll b lv)) (hi : lv[i]? = some (some u)) : ls[i]? = some (.val (q_v b u)) := h.2.2 (i, q_v b u) (q_ll_mem.mpr ⟨u, hi, rfl⟩)
theorem q_lset1 {b i : Nat} {lv lv' : List (Option Value)} {v : Value} (h : q_st1 lv i v = lv') {ls : Array Slot} {nL : Nat} (hl : lv_has ls nL ((i, q_v b v) :: (q_ll b lv).filter (fun q => !(q.1 == i) && !(q.1 + 1 == i && q.2.category == 2)))) : lv_has ls nL (q_ll b lv') := by
  refine ⟨hl.1, hl.2.1, fun q hq => hl.2.2 q ?_⟩
  obtain ⟨j, x⟩ := q
  obtain ⟨u, h1, rfl⟩ := q_ll_mem.mp hq
  rw [← h] at h1
  unfold q_st1 at h1
  by_cases e : j = i
  · subst e
    have hlt : j < (q_kill lv j).length := by
      have := (List.getElem?_eq_some_iff.mp h1).1
      rwa [List.length_set] at this
    rw [List.getElem?_set_self hlt] at h1
    injection h1 with h1
    injection h1 with h1
    subst h1
    exact List.mem_cons_self
  · rw [List.getElem?_set_ne (Ne.symm e)] at h1
    obtain ⟨h2, h3⟩ := q_kill_get h1
    refine List.mem_cons_of_mem _ (List.mem_filter.mpr ⟨q_ll_mem.mpr ⟨u, h2, rfl⟩, ?_⟩)
    simp only [Bool.and_eq_true, Bool.not_eq_true', beq_eq_false_iff_ne, ne_eq, Bool.and_eq_false_iff, q_v_cat]
    refine ⟨e, ?_⟩
    by_cases h4 : j + 1 = i
    · exact Or.inr (fun h5 => h3 ⟨h4, h5⟩)
    · exact Or.inl h4
theorem q_lset2 {b i : Nat} {lv lv' : List (Option Value)} {v : Value} (h : q_st2 lv i v = lv') {ls : Array Slot} {nL : Nat} (hl : lv_has ls nL ((i, q_v b v) :: (q_ll b lv).filter (fun q => !(q.1 == i) && (!(q.1 == i + 1) && !(q.1 + 1 == i && q.2.category == 2))))) : lv_has ls nL (q_ll b lv') := by
  refine ⟨hl.1, hl.2.1, fun q hq => hl.2.2 q ?_⟩
  obtain ⟨j, x⟩ := q
  obtain ⟨u, h1, rfl⟩ := q_ll_mem.mp hq
  rw [← h] at h1
  unfold q_st2 at h1
  by_cases e1 : j = i + 1
  · subst e1
    have hlt := (List.getElem?_eq_some_iff.mp h1).1
    rw [List.length_set] at hlt
    rw [List.getElem?_set_self hlt] at h1
    cases h1
  rw [List.getElem?_set_ne (Ne.symm e1)] at h1
  by_cases e : j = i
  · subst e
    have hlt : j < (q_kill lv j).length := by
      have := (List.getElem?_eq_some_iff.mp h1).1
      rwa [List.length_set] at this
    rw [List.getElem?_set_self hlt] at h1
    injection h1 with h1
    injection h1 with h1
    subst h1
    exact List.mem_cons_self
  · rw [List.getElem?_set_ne (Ne.symm e)] at h1
    obtain ⟨h2, h3⟩ := q_kill_get h1
    refine List.mem_cons_of_mem _ (List.mem_filter.mpr ⟨q_ll_mem.mpr ⟨u, h2, rfl⟩, ?_⟩)
    simp only [Bool.and_eq_true, Bool.not_eq_true', beq_eq_false_iff_ne, ne_eq, Bool.and_eq_false_iff, q_v_cat]
    refine ⟨e, e1, ?_⟩
    by_cases h4 : j + 1 = i
    · exact Or.inr (fun h5 => h3 ⟨h4, h5⟩)
    · exact Or.inl h4
section QR
variable {M : q_M} {fr : Nat} {Q : Option Value → q_W → Prop} {kc ks pc : Nat} {lv : List (Option Value)} {st : List Value} {w : q_W}

theorem q_iconst {n : Int} (hd : decode M.2.1 pc = .ok (.iconst n, 1)) (k : q_J M fr Q kc ks (pc + 1) lv (q_i n :: st) w) : q_J M fr Q kc ks pc lv st w :=
  q_go (fun _ _ _ _ _ _ _ _ _ _ _ _ _ _ _ _ _ hx hb _ _ _ k => lv_iconst (v := Int32.ofInt n) hx hb hd rfl k) k
theorem q_bipush {n : Int} (hd : decode M.2.1 pc = .ok (.bipush n, 2)) (k : q_J M fr Q kc ks (pc + 2) lv (q_i n :: st) w) (hv : (Int8.ofInt n).toInt32 = Int32.ofInt n := by decide) : q_J M fr Q kc ks pc lv st w :=
  q_go (fun _ _ _ _ _ _ _ _ _ _ _ _ _ _ _ _ _ hx hb _ _ _ k => lv_bipush (v := Int32.ofInt n) hx hb hd hv k) k
theorem q_sipush {n : Int} (hd : decode M.2.1 pc = .ok (.sipush n, 3)) (k : q_J M fr Q kc ks (pc + 3) lv (q_i n :: st) w) (hv : (Int16.ofInt n).toInt32 = Int32.ofInt n := by decide) : q_J M fr Q kc ks pc lv st w :=
  q_go (fun _ _ _ _ _ _ _ _ _ _ _ _ _ _ _ _ _ hx hb _ _ _ k => lv_sipush (v := Int32.ofInt n) hx hb hd hv k) k
theorem q_lconst {n : Fin 2} (z : Int) (hd : decode M.2.1 pc = .ok (.lconst n, 1)) (k : q_J M fr Q kc ks (pc + 1) lv (q_l z :: st) w) (hv : Int64.ofNat (n : Nat) = Int64.ofInt z := by decide) : q_J M fr Q kc ks pc lv st w :=
  q_go (fun _ _ _ _ _ _ _ _ _ _ _ _ _ _ _ _ _ hx hb _ _ _ k => lv_lconst (v := Int64.ofInt z) hx hb hd hv k) k
theorem q_ldcw {idx : Nat} {v : Int32} (z : Int) (hw : Cond.constant M.1.cls idx v ∈ q_B) (hd : decode M.2.1 pc = .ok (.ldc_w idx, 3)) (k : q_J M fr Q kc ks (pc + 3) lv (q_i z :: st) w) (hv : v = Int32.ofInt z := by decide) : q_J M fr Q kc ks pc lv st w :=
  q_go (fun _ _ _ _ _ _ _ _ _ _ _ _ _ _ _ _ _ hx hb ho ht _ k => lv_ldcw hx hb ho (ht _ hw) hd (by rw [hv]; exact k)) k
theorem q_ldc {idx : Nat} {v : Int32} (z : Int) (hw : Cond.constant M.1.cls idx v ∈ q_B) (hd : decode M.2.1 pc = .ok (.ldc idx, 2)) (k : q_J M fr Q kc ks (pc + 2) lv (q_i z :: st) w) (hv : v = Int32.ofInt z := by decide) : q_J M fr Q kc ks pc lv st w :=
  q_go (fun _ _ _ _ _ _ _ _ _ _ _ _ _ _ _ _ _ hx hb ho ht _ k => lv_ldc hx hb ho (ht _ hw) hd (by rw [hv]; exact k)) k
theorem q_ldc2 {idx : Nat} {v : Int64} (z : Int) (hw : Cond.constantLong M.1.cls idx v ∈ q_B) (hd : decode M.2.1 pc = .ok (.ldc2_w idx, 3)) (k : q_J M fr Q kc ks (pc + 3) lv (q_l z :: st) w) (hv : v = Int64.ofInt z := by decide) : q_J M fr Q kc ks pc lv st w :=
  q_go (fun _ _ _ _ _ _ _ _ _ _ _ _ _ _ _ _ _ hx hb ho ht _ k => lv_ldc2 hx hb ho (ht _ hw) hd (by rw [hv]; exact k)) k
theorem q_null (hd : decode M.2.1 pc = .ok (.aconst_null, 1)) (k : q_J M fr Q kc ks (pc + 1) lv (.null :: st) w) : q_J M fr Q kc ks pc lv st w :=
  q_go (fun _ _ _ _ _ _ _ _ _ _ _ _ _ _ _ _ _ hx hb _ _ _ k => lv_null hx hb hd k) k
theorem q_iload_n {j : Fin 4} {z : Int} (hd : decode M.2.1 pc = .ok (.iload_n j, 1)) (hi : lv[(j : Nat)]? = some (some (q_i z))) (k : q_J M fr Q kc ks (pc + 1) lv (q_i z :: st) w) : q_J M fr Q kc ks pc lv st w :=
  q_go (fun _ _ _ _ _ _ _ _ _ _ _ _ _ _ _ _ _ hx hb _ _ hl k => lv_iload_n hx hb hd rfl (q_lget hl hi) k) k
theorem q_iload {i : Nat} {z : Int} (hd : decode M.2.1 pc = .ok (.iload i, 2)) (hi : lv[i]? = some (some (q_i z))) (k : q_J M fr Q kc ks (pc + 2) lv (q_i z :: st) w) : q_J M fr Q kc ks pc lv st w :=
  q_go (fun _ _ _ _ _ _ _ _ _ _ _ _ _ _ _ _ _ hx hb _ _ hl k => lv_iload hx hb hd (q_lget hl hi) k) k
theorem q_lload_n {j : Fin 4} {z : Int} (hd : decode M.2.1 pc = .ok (.lload_n j, 1)) (hi : lv[(j : Nat)]? = some (some (q_l z))) (k : q_J M fr Q kc ks (pc + 1) lv (q_l z :: st) w) : q_J M fr Q kc ks pc lv st w :=
  q_go (fun _ _ _ _ _ _ _ _ _ _ _ _ _ _ _ _ _ hx hb _ _ hl k => lv_lload_n hx hb hd rfl (q_lget hl hi) k) k
theorem q_lload {i : Nat} {z : Int} (hd : decode M.2.1 pc = .ok (.lload i, 2)) (hi : lv[i]? = some (some (q_l z))) (k : q_J M fr Q kc ks (pc + 2) lv (q_l z :: st) w) : q_J M fr Q kc ks pc lv st w :=
  q_go (fun _ _ _ _ _ _ _ _ _ _ _ _ _ _ _ _ _ hx hb _ _ hl k => lv_lload hx hb hd (q_lget hl hi) k) k
theorem q_aload_n {j : Fin 4} {z : Nat} (hd : decode M.2.1 pc = .ok (.aload_n j, 1)) (hi : lv[(j : Nat)]? = some (some (.ref z))) (k : q_J M fr Q kc ks (pc + 1) lv (.ref z :: st) w) : q_J M fr Q kc ks pc lv st w :=
  q_go (fun _ _ _ _ _ _ _ _ _ _ _ _ _ _ _ _ _ hx hb _ _ hl k => lv_aload_n hx hb hd rfl (q_lget hl hi) k) k
theorem q_aload {i : Nat} {z : Nat} (hd : decode M.2.1 pc = .ok (.aload i, 2)) (hi : lv[i]? = some (some (.ref z))) (k : q_J M fr Q kc ks (pc + 2) lv (.ref z :: st) w) : q_J M fr Q kc ks pc lv st w :=
  q_go (fun _ _ _ _ _ _ _ _ _ _ _ _ _ _ _ _ _ hx hb _ _ hl k => lv_aload hx hb hd (q_lget hl hi) k) k
theorem q_aload_nN {j : Fin 4} (hd : decode M.2.1 pc = .ok (.aload_n j, 1)) (hi : lv[(j : Nat)]? = some (some .null)) (k : q_J M fr Q kc ks (pc + 1) lv (.null :: st) w) : q_J M fr Q kc ks pc lv st w :=
  q_go (fun _ _ _ _ _ _ _ _ _ _ _ _ _ _ _ _ _ hx hb _ _ hl k => lv_aload_nN hx hb hd rfl (q_lget hl hi) k) k
theorem q_aloadN {i : Nat} (hd : decode M.2.1 pc = .ok (.aload i, 2)) (hi : lv[i]? = some (some .null)) (k : q_J M fr Q kc ks (pc + 2) lv (.null :: st) w) : q_J M fr Q kc ks pc lv st w :=
  q_go (fun _ _ _ _ _ _ _ _ _ _ _ _ _ _ _ _ _ hx hb _ _ hl k => lv_aloadN hx hb hd (q_lget hl hi) k) k
theorem q_iadd {a b : Int} (hd : decode M.2.1 pc = .ok (.iadd, 1)) (k : q_J M fr Q kc ks (pc + 1) lv (q_i (a + b) :: st) w) : q_J M fr Q kc ks pc lv (q_i b :: q_i a :: st) w :=
  q_go (fun _ _ _ _ _ _ _ _ _ _ _ _ _ _ _ _ _ hx hb _ _ hl k => lv_iadd hx hb hd (by rw [← Int32.ofInt_add]; exact k)) k
theorem q_isub {a b : Int} (hd : decode M.2.1 pc = .ok (.isub, 1)) (k : q_J M fr Q kc ks (pc + 1) lv (q_i (a - b) :: st) w) : q_J M fr Q kc ks pc lv (q_i b :: q_i a :: st) w :=
  q_go (fun _ _ _ _ _ _ _ _ _ _ _ _ _ _ _ _ _ hx hb _ _ hl k => lv_isub hx hb hd (by rw [← Int32.ofInt_sub]; exact k)) k
theorem q_imul {a b : Int} (hd : decode M.2.1 pc = .ok (.imul, 1)) (k : q_J M fr Q kc ks (pc + 1) lv (q_i (a * b) :: st) w) : q_J M fr Q kc ks pc lv (q_i b :: q_i a :: st) w :=
  q_go (fun _ _ _ _ _ _ _ _ _ _ _ _ _ _ _ _ _ hx hb _ _ hl k => lv_imul hx hb hd (by rw [← Int32.ofInt_mul]; exact k)) k
theorem q_ladd {a b : Int} (hd : decode M.2.1 pc = .ok (.ladd, 1)) (k : q_J M fr Q kc ks (pc + 1) lv (q_l (a + b) :: st) w) : q_J M fr Q kc ks pc lv (q_l b :: q_l a :: st) w :=
  q_go (fun _ _ _ _ _ _ _ _ _ _ _ _ _ _ _ _ _ hx hb _ _ hl k => lv_ladd hx hb hd (by rw [← Int64.ofInt_add]; exact k)) k
theorem q_lsub {a b : Int} (hd : decode M.2.1 pc = .ok (.lsub, 1)) (k : q_J M fr Q kc ks (pc + 1) lv (q_l (a - b) :: st) w) : q_J M fr Q kc ks pc lv (q_l b :: q_l a :: st) w :=
  q_go (fun _ _ _ _ _ _ _ _ _ _ _ _ _ _ _ _ _ hx hb _ _ hl k => lv_lsub hx hb hd (by rw [← Int64.ofInt_sub]; exact k)) k
theorem q_lmul {a b : Int} (hd : decode M.2.1 pc = .ok (.lmul, 1)) (k : q_J M fr Q kc ks (pc + 1) lv (q_l (a * b) :: st) w) : q_J M fr Q kc ks pc lv (q_l b :: q_l a :: st) w :=
  q_go (fun _ _ _ _ _ _ _ _ _ _ _ _ _ _ _ _ _ hx hb _ _ hl k => lv_lmul hx hb hd (by rw [← Int64.ofInt_mul]; exact k)) k
theorem q_idiv {a b : Int} (hd : decode M.2.1 pc = .ok (.idiv, 1)) (ha : q_r a) (hb2 : q_r b) (h0 : b ≠ 0) (hm : ¬ (a = -2147483648 ∧ b = -1)) (k : q_J M fr Q kc ks (pc + 1) lv (q_i (a.tdiv b) :: st) w) : q_J M fr Q kc ks pc lv (q_i b :: q_i a :: st) w :=
  q_go (fun _ _ _ _ _ _ _ _ _ _ _ _ _ _ _ _ _ hx hb _ _ hl k => lv_idiv hx hb hd (fun q => h0 ((q_32eq hb2 q_r0).mp (q.trans q_0))) (by rw [q_32div ha hb2 hm]; exact k)) k
theorem q_irem {a b : Int} (hd : decode M.2.1 pc = .ok (.irem, 1)) (ha : q_r a) (hb2 : q_r b) (h0 : b ≠ 0) (hm : ¬ (a = -2147483648 ∧ b = -1)) (k : q_J M fr Q kc ks (pc + 1) lv (q_i (a.tmod b) :: st) w) : q_J M fr Q kc ks pc lv (q_i b :: q_i a :: st) w :=
  q_go (fun _ _ _ _ _ _ _ _ _ _ _ _ _ _ _ _ _ hx hb _ _ hl k => lv_irem hx hb hd (fun q => h0 ((q_32eq hb2 q_r0).mp (q.trans q_0))) (by rw [q_32rem ha hb2 hm]; exact k)) k
theorem q_ldiv {a b : Int} (hd : decode M.2.1 pc = .ok (.ldiv, 1)) (ha : q_rl a) (hb2 : q_rl b) (h0 : b ≠ 0) (hm : ¬ b = -1) (k : q_J M fr Q kc ks (pc + 1) lv (q_l (a.tdiv b) :: st) w) : q_J M fr Q kc ks pc lv (q_l b :: q_l a :: st) w :=
  q_go (fun _ _ _ _ _ _ _ _ _ _ _ _ _ _ _ _ _ hx hb _ _ hl k => lv_ldiv hx hb hd (fun q => h0 ((q_64eq hb2 ⟨by decide, by decide⟩).mp (q.trans q_0l))) (by rw [q_64div ha hb2 hm]; exact k)) k
theorem q_lrem {a b : Int} (hd : decode M.2.1 pc = .ok (.lrem, 1)) (ha : q_rl a) (hb2 : q_rl b) (h0 : b ≠ 0) (hm : ¬ b = -1) (k : q_J M fr Q kc ks (pc + 1) lv (q_l (a.tmod b) :: st) w) : q_J M fr Q kc ks pc lv (q_l b :: q_l a :: st) w :=
  q_go (fun _ _ _ _ _ _ _ _ _ _ _ _ _ _ _ _ _ hx hb _ _ hl k => lv_lrem hx hb hd (fun q => h0 ((q_64eq hb2 ⟨by decide, by decide⟩).mp (q.trans q_0l))) (by rw [q_64rem ha hb2 hm]; exact k)) k
theorem q_ishl {a b : Int} (hd : decode M.2.1 pc = .ok (.ishl, 1)) (k : q_J M fr Q kc ks (pc + 1) lv (q_i (q_shl a b) :: st) w) : q_J M fr Q kc ks pc lv (q_i b :: q_i a :: st) w :=
  q_go (fun _ _ _ _ _ _ _ _ _ _ _ _ _ _ _ _ _ hx hb _ _ hl k => lv_ishl hx hb hd (by have k := k; simp only [q_shl, q_i, List.map_cons, Int32.ofInt_toInt] at k; exact k)) k
theorem q_ior {a b : Int} (hd : decode M.2.1 pc = .ok (.ior, 1)) (k : q_J M fr Q kc ks (pc + 1) lv (q_i (q_or a b) :: st) w) : q_J M fr Q kc ks pc lv (q_i b :: q_i a :: st) w :=
  q_go (fun _ _ _ _ _ _ _ _ _ _ _ _ _ _ _ _ _ hx hb _ _ hl k => lv_ior hx hb hd (by have k := k; simp only [q_or, q_i, List.map_cons, Int32.ofInt_toInt] at k; exact k)) k
theorem q_iand {a b : Int} (hd : decode M.2.1 pc = .ok (.iand, 1)) (k : q_J M fr Q kc ks (pc + 1) lv (q_i (q_and a b) :: st) w) : q_J M fr Q kc ks pc lv (q_i b :: q_i a :: st) w :=
  q_go (fun _ _ _ _ _ _ _ _ _ _ _ _ _ _ _ _ _ hx hb _ _ hl k => lv_iand hx hb hd (by have k := k; simp only [q_and, q_i, List.map_cons, Int32.ofInt_toInt] at k; exact k)) k
theorem q_i2lr {a : Int} (hd : decode M.2.1 pc = .ok (.i2l, 1)) (ha : q_r a) (k : q_J M fr Q kc ks (pc + 1) lv (q_l a :: st) w) : q_J M fr Q kc ks pc lv (q_i a :: st) w :=
  q_go (fun _ _ _ _ _ _ _ _ _ _ _ _ _ _ _ _ _ hx hb _ _ hl k => lv_i2l (v := Int64.ofInt a) hx hb hd (q_i2l ha) k) k
theorem q_l2i {a : Int} (hd : decode M.2.1 pc = .ok (.l2i, 1)) (k : q_J M fr Q kc ks (pc + 1) lv (q_i a :: st) w) : q_J M fr Q kc ks pc lv (q_l a :: st) w :=
  q_go (fun _ _ _ _ _ _ _ _ _ _ _ _ _ _ _ _ _ hx hb _ _ hl k => lv_l2i (v := Int32.ofInt a) hx hb hd Int64.toInt32_ofInt k) k
theorem q_i2b {a : Int} (hd : decode M.2.1 pc = .ok (.i2b, 1)) (ha : q_r a) (k : q_J M fr Q kc ks (pc + 1) lv (q_i (a.bmod 256) :: st) w) : q_J M fr Q kc ks pc lv (q_i a :: st) w :=
  q_go (fun _ _ _ _ _ _ _ _ _ _ _ _ _ _ _ _ _ hx hb _ _ hl k => lv_i2b (v := Int32.ofInt (a.bmod 256)) hx hb hd (by
    apply Int32.toInt_inj.mp
    have h1 := Int.le_bmod (x := a) (m := 256) (by decide)
    have h2 := Int.bmod_lt (x := a) (m := 256) (by decide)
    rw [Int8.toInt_toInt32, Int32.toInt_toInt8, q_32 ha, q_32 ⟨by omega, by omega⟩]) k) k
theorem q_dup {v : Value} (hd : decode M.2.1 pc = .ok (.dup, 1)) (hv : v.category = 1) (k : q_J M fr Q kc ks (pc + 1) lv (v :: v :: st) w) : q_J M fr Q kc ks pc lv (v :: st) w :=
  q_go (fun _ _ _ _ _ _ _ _ _ _ _ _ _ _ _ _ _ hx hb _ _ hl k => lv_dup hx hb hd ((q_v_cat _ _).trans hv) k) k
theorem q_dup2 {u v : Value} (hd : decode M.2.1 pc = .ok (.dup2, 1)) (hu : u.category = 1) (hv : v.category = 1) (k : q_J M fr Q kc ks (pc + 1) lv (u :: v :: u :: v :: st) w) : q_J M fr Q kc ks pc lv (u :: v :: st) w :=
  q_go (fun _ _ _ _ _ _ _ _ _ _ _ _ _ _ _ _ _ hx hb _ _ hl k => lv_dup2_11 hx hb hd ((q_v_cat _ _).trans hu) ((q_v_cat _ _).trans hv) k) k
theorem q_dup2l {v : Value} (hd : decode M.2.1 pc = .ok (.dup2, 1)) (hv : v.category = 2) (k : q_J M fr Q kc ks (pc + 1) lv (v :: v :: st) w) : q_J M fr Q kc ks pc lv (v :: st) w :=
  q_go (fun _ _ _ _ _ _ _ _ _ _ _ _ _ _ _ _ _ hx hb _ _ hl k => lv_dup2_2 hx hb hd ((q_v_cat _ _).trans hv) k) k
theorem q_goto {off : Int} {tgt : Nat} (hd : decode M.2.1 pc = .ok (.goto off, 3)) (ht : (pc : Int) + off = (tgt : Int)) (k : q_J M fr Q kc ks tgt lv st w) : q_J M fr Q kc ks pc lv st w :=
  q_go (fun _ _ _ _ _ _ _ _ _ _ _ _ _ _ _ _ _ hx hb _ _ hl k => lv_goto hx hb hd ht k) k
theorem q_ifnullS {a : Nat} {off : Int} (hd : decode M.2.1 pc = .ok (.ifnull off, 3)) (k : q_J M fr Q kc ks (pc + 3) lv st w) : q_J M fr Q kc ks pc lv (.ref a :: st) w :=
  q_go (fun _ _ _ _ _ _ _ _ _ _ _ _ _ _ _ _ _ hx hb _ _ hl k => lv_ifnull hx hb hd k) k
theorem q_ifnullN {off : Int} {tgt : Nat} (hd : decode M.2.1 pc = .ok (.ifnull off, 3)) (ht : (pc : Int) + off = (tgt : Int)) (k : q_J M fr Q kc ks tgt lv st w) : q_J M fr Q kc ks pc lv (.null :: st) w :=
  q_go (fun _ _ _ _ _ _ _ _ _ _ _ _ _ _ _ _ _ hx hb _ _ hl k => lv_ifnullN hx hb hd ht k) k
theorem q_ifnonnullS {a : Nat} {off : Int} {tgt : Nat} (hd : decode M.2.1 pc = .ok (.ifnonnull off, 3)) (ht : (pc : Int) + off = (tgt : Int)) (k : q_J M fr Q kc ks tgt lv st w) : q_J M fr Q kc ks pc lv (.ref a :: st) w :=
  q_go (fun _ _ _ _ _ _ _ _ _ _ _ _ _ _ _ _ _ hx hb _ _ hl k => lv_ifnonnull hx hb hd ht k) k
theorem q_ifnonnullN {off : Int} (hd : decode M.2.1 pc = .ok (.ifnonnull off, 3)) (k : q_J M fr Q kc ks (pc + 3) lv st w) : q_J M fr Q kc ks pc lv (.null :: st) w :=
  q_go (fun _ _ _ _ _ _ _ _ _ _ _ _ _ _ _ _ _ hx hb _ _ hl k => lv_ifnonnullN hx hb hd k) k
theorem q_istore_n {j : Fin 4} {z : Int} {lv' : List (Option Value)} (hd : decode M.2.1 pc = .ok (.istore_n j, 1)) (hj : (j : Nat) < M.2.2.1) (h : q_st1 lv j (q_i z) = lv') (k : q_J M fr Q kc ks (pc + 1) lv' st w) : q_J M fr Q kc ks pc lv (q_i z :: st) w := by
  intro p l e R s m args below meth c D dA b n0 n mc ms H locs ls cells slots C hd2 hs hn hc hk hP hS hl
  exact lv_istore_n C.2.1 C.2.2.1 hd rfl hl hj rfl (fun ls2 hl2 => k p l e R s m args below meth c D dA b n0 n mc ms H locs ls2 cells slots C hd2 hs hn hc hk hP hS (q_lset1 h hl2))
theorem q_istore {i : Nat} {z : Int} {lv' : List (Option Value)} (hd : decode M.2.1 pc = .ok (.istore i, 2)) (hj : i < M.2.2.1) (h : q_st1 lv i (q_i z) = lv') (k : q_J M fr Q kc ks (pc + 2) lv' st w) : q_J M fr Q kc ks pc lv (q_i z :: st) w := by
  intro p l e R s m args below meth c D dA b n0 n mc ms H locs ls cells slots C hd2 hs hn hc hk hP hS hl
  exact lv_istore C.2.1 C.2.2.1 hd hl hj rfl (fun ls2 hl2 => k p l e R s m args below meth c D dA b n0 n mc ms H locs ls2 cells slots C hd2 hs hn hc hk hP hS (q_lset1 h hl2))
theorem q_lstore_n {j : Fin 4} {z : Int} {lv' : List (Option Value)} (hd : decode M.2.1 pc = .ok (.lstore_n j, 1)) (hj : (j : Nat) + 1 < M.2.2.1) (h : q_st2 lv j (q_l z) = lv') (k : q_J M fr Q kc ks (pc + 1) lv' st w) : q_J M fr Q kc ks pc lv (q_l z :: st) w := by
  intro p l e R s m args below meth c D dA b n0 n mc ms H locs ls cells slots C hd2 hs hn hc hk hP hS hl
  exact lv_lstore_n C.2.1 C.2.2.1 hd rfl hl hj rfl (fun ls2 hl2 => k p l e R s m args below meth c D dA b n0 n mc ms H locs ls2 cells slots C hd2 hs hn hc hk hP hS (q_lset2 h hl2))
theorem q_lstore {i : Nat} {z : Int} {lv' : List (Option Value)} (hd : decode M.2.1 pc = .ok (.lstore i, 2)) (hj : i + 1 < M.2.2.1) (h : q_st2 lv i (q_l z) = lv') (k : q_J M fr Q kc ks (pc + 2) lv' st w) : q_J M fr Q kc ks pc lv (q_l z :: st) w := by
  intro p l e R s m args below meth c D dA b n0 n mc ms H locs ls cells slots C hd2 hs hn hc hk hP hS hl
  exact lv_lstore C.2.1 C.2.2.1 hd hl hj rfl (fun ls2 hl2 => k p l e R s m args below meth c D dA b n0 n mc ms H locs ls2 cells slots C hd2 hs hn hc hk hP hS (q_lset2 h hl2))
theorem q_astore_n {j : Fin 4} {z : Nat} {lv' : List (Option Value)} (hd : decode M.2.1 pc = .ok (.astore_n j, 1)) (hj : (j : Nat) < M.2.2.1) (h : q_st1 lv j (.ref z) = lv') (k : q_J M fr Q kc ks (pc + 1) lv' st w) : q_J M fr Q kc ks pc lv (.ref z :: st) w := by
  intro p l e R s m args below meth c D dA b n0 n mc ms H locs ls cells slots C hd2 hs hn hc hk hP hS hl
  exact lv_astore_n C.2.1 C.2.2.1 hd rfl hl hj rfl (fun ls2 hl2 => k p l e R s m args below meth c D dA b n0 n mc ms H locs ls2 cells slots C hd2 hs hn hc hk hP hS (q_lset1 h hl2))
theorem q_astore {i : Nat} {z : Nat} {lv' : List (Option Value)} (hd : decode M.2.1 pc = .ok (.astore i, 2)) (hj : i < M.2.2.1) (h : q_st1 lv i (.ref z) = lv') (k : q_J M fr Q kc ks (pc + 2) lv' st w) : q_J M fr Q kc ks pc lv (.ref z :: st) w := by
  intro p l e R s m args below meth c D dA b n0 n mc ms H locs ls cells slots C hd2 hs hn hc hk hP hS hl
  exact lv_astore C.2.1 C.2.2.1 hd hl hj rfl (fun ls2 hl2 => k p l e R s m args below meth c D dA b n0 n mc ms H locs ls2 cells slots C hd2 hs hn hc hk hP hS (q_lset1 h hl2))
theorem q_astore_nN {j : Fin 4} {lv' : List (Option Value)} (hd : decode M.2.1 pc = .ok (.astore_n j, 1)) (hj : (j : Nat) < M.2.2.1) (h : q_st1 lv j .null = lv') (k : q_J M fr Q kc ks (pc + 1) lv' st w) : q_J M fr Q kc ks pc lv (.null :: st) w := by
  intro p l e R s m args below meth c D dA b n0 n mc ms H locs ls cells slots C hd2 hs hn hc hk hP hS hl
  exact lv_astore_nN C.2.1 C.2.2.1 hd rfl hl hj rfl (fun ls2 hl2 => k p l e R s m args below meth c D dA b n0 n mc ms H locs ls2 cells slots C hd2 hs hn hc hk hP hS (q_lset1 (v := .null) h hl2))
theorem q_astoreN {i : Nat} {lv' : List (Option Value)} (hd : decode M.2.1 pc = .ok (.astore i, 2)) (hj : i < M.2.2.1) (h : q_st1 lv i .null = lv') (k : q_J M fr Q kc ks (pc + 2) lv' st w) : q_J M fr Q kc ks pc lv (.null :: st) w := by
  intro p l e R s m args below meth c D dA b n0 n mc ms H locs ls cells slots C hd2 hs hn hc hk hP hS hl
  exact lv_astoreN C.2.1 C.2.2.1 hd hl hj rfl (fun ls2 hl2 => k p l e R s m args below meth c D dA b n0 n mc ms H locs ls2 cells slots C hd2 hs hn hc hk hP hS (q_lset1 (v := .null) h hl2))
theorem q_iinc {i : Nat} {n9 z : Int} {lv' : List (Option Value)} (hd : decode M.2.1 pc = .ok (.iinc i n9, 3)) (hi : lv[i]? = some (some (q_i z))) (hj : i < M.2.2.1) (h : q_st1 lv i (q_i (z + n9)) = lv') (k : q_J M fr Q kc ks (pc + 3) lv' st w) : q_J M fr Q kc ks pc lv st w := by
  intro p l e R s m args below meth c D dA b n0 n mc ms H locs ls cells slots C hd2 hs hn hc hk hP hS hl
  obtain ⟨j, hj2⟩ := List.getElem?_of_mem (q_ll_mem (b := b).mpr ⟨_, hi, rfl⟩)
  exact lv_iinc (v := Int32.ofInt (z + n9)) C.2.1 C.2.2.1 hd hl hj2 (Int32.ofInt_add z n9).symm hj rfl (fun ls2 hl2 => k p l e R s m args below meth c D dA b n0 n mc ms H locs ls2 cells slots C hd2 hs hn hc hk hP hS (q_lset1 (v := q_i (z + n9)) h hl2))
theorem q_icmp_eq {a b : Int} {off : Int} {tgt : Nat} (hd : decode M.2.1 pc = .ok (.if_icmp .eq off, 3)) (ht : (pc : Int) + off = (tgt : Int)) (ha : q_r a) (hb : q_r b) (kt : a = b → q_J M fr Q kc ks tgt lv st w) (kf : ¬ a = b → q_J M fr Q kc ks (pc + 3) lv st w) : q_J M fr Q kc ks pc lv (q_i b :: q_i a :: st) w := by
  intro p l e R s m args below meth c D dA b9 n0 n mc ms H locs ls cells slots C hd2 hs hn hc hk hP hS hl
  exact lv_icmp_eq C.2.1 C.2.2.1 hd ht (fun q => kt ((q_32eq ha hb).mp q) p l e R s m args below meth c D dA b9 n0 n mc ms H locs ls cells slots C hd2 hs hn hc hk hP hS hl) (fun q => kf (fun q2 => q ((q_32eq ha hb).mpr q2)) p l e R s m args below meth c D dA b9 n0 n mc ms H locs ls cells slots C hd2 hs hn hc hk hP hS hl)
theorem q_icmp_ne {a b : Int} {off : Int} {tgt : Nat} (hd : decode M.2.1 pc = .ok (.if_icmp .ne off, 3)) (ht : (pc : Int) + off = (tgt : Int)) (ha : q_r a) (hb : q_r b) (kt : a ≠ b → q_J M fr Q kc ks tgt lv st w) (kf : a = b → q_J M fr Q kc ks (pc + 3) lv st w) : q_J M fr Q kc ks pc lv (q_i b :: q_i a :: st) w := by
  intro p l e R s m args below meth c D dA b9 n0 n mc ms H locs ls cells slots C hd2 hs hn hc hk hP hS hl
  exact lv_icmp_ne C.2.1 C.2.2.1 hd ht (fun q => kt (fun q2 => q ((q_32eq ha hb).mpr q2)) p l e R s m args below meth c D dA b9 n0 n mc ms H locs ls cells slots C hd2 hs hn hc hk hP hS hl) (fun q => kf ((q_32eq ha hb).mp q) p l e R s m args below meth c D dA b9 n0 n mc ms H locs ls cells slots C hd2 hs hn hc hk hP hS hl)
theorem q_icmp_lt {a b : Int} {off : Int} {tgt : Nat} (hd : decode M.2.1 pc = .ok (.if_icmp .lt off, 3)) (ht : (pc : Int) + off = (tgt : Int)) (ha : q_r a) (hb : q_r b) (kt : a < b → q_J M fr Q kc ks tgt lv st w) (kf : b ≤ a → q_J M fr Q kc ks (pc + 3) lv st w) : q_J M fr Q kc ks pc lv (q_i b :: q_i a :: st) w := by
  intro p l e R s m args below meth c D dA b9 n0 n mc ms H locs ls cells slots C hd2 hs hn hc hk hP hS hl
  exact lv_icmp_lt C.2.1 C.2.2.1 hd ht (fun q => kt ((q_32lt ha hb).mp q) p l e R s m args below meth c D dA b9 n0 n mc ms H locs ls cells slots C hd2 hs hn hc hk hP hS hl) (fun q => kf (Int.not_lt.mp fun q2 => q ((q_32lt ha hb).mpr q2)) p l e R s m args below meth c D dA b9 n0 n mc ms H locs ls cells slots C hd2 hs hn hc hk hP hS hl)
theorem q_icmp_ge {a b : Int} {off : Int} {tgt : Nat} (hd : decode M.2.1 pc = .ok (.if_icmp .ge off, 3)) (ht : (pc : Int) + off = (tgt : Int)) (ha : q_r a) (hb : q_r b) (kt : b ≤ a → q_J M fr Q kc ks tgt lv st w) (kf : a < b → q_J M fr Q kc ks (pc + 3) lv st w) : q_J M fr Q kc ks pc lv (q_i b :: q_i a :: st) w := by
  intro p l e R s m args below meth c D dA b9 n0 n mc ms H locs ls cells slots C hd2 hs hn hc hk hP hS hl
  exact lv_icmp_ge C.2.1 C.2.2.1 hd ht (fun q => kt ((q_32le hb ha).mp q) p l e R s m args below meth c D dA b9 n0 n mc ms H locs ls cells slots C hd2 hs hn hc hk hP hS hl) (fun q => kf (Int.not_le.mp fun q2 => q ((q_32le hb ha).mpr q2)) p l e R s m args below meth c D dA b9 n0 n mc ms H locs ls cells slots C hd2 hs hn hc hk hP hS hl)
theorem q_icmp_gt {a b : Int} {off : Int} {tgt : Nat} (hd : decode M.2.1 pc = .ok (.if_icmp .gt off, 3)) (ht : (pc : Int) + off = (tgt : Int)) (ha : q_r a) (hb : q_r b) (kt : b < a → q_J M fr Q kc ks tgt lv st w) (kf : a ≤ b → q_J M fr Q kc ks (pc + 3) lv st w) : q_J M fr Q kc ks pc lv (q_i b :: q_i a :: st) w := by
  intro p l e R s m args below meth c D dA b9 n0 n mc ms H locs ls cells slots C hd2 hs hn hc hk hP hS hl
  exact lv_icmp_gt C.2.1 C.2.2.1 hd ht (fun q => kt ((q_32lt hb ha).mp q) p l e R s m args below meth c D dA b9 n0 n mc ms H locs ls cells slots C hd2 hs hn hc hk hP hS hl) (fun q => kf (Int.not_lt.mp fun q2 => q ((q_32lt hb ha).mpr q2)) p l e R s m args below meth c D dA b9 n0 n mc ms H locs ls cells slots C hd2 hs hn hc hk hP hS hl)
theorem q_icmp_le {a b : Int} {off : Int} {tgt : Nat} (hd : decode M.2.1 pc = .ok (.if_icmp .le off, 3)) (ht : (pc : Int) + off = (tgt : Int)) (ha : q_r a) (hb : q_r b) (kt : a ≤ b → q_J M fr Q kc ks tgt lv st w) (kf : b < a → q_J M fr Q kc ks (pc + 3) lv st w) : q_J M fr Q kc ks pc lv (q_i b :: q_i a :: st) w := by
  intro p l e R s m args below meth c D dA b9 n0 n mc ms H locs ls cells slots C hd2 hs hn hc hk hP hS hl
  exact lv_icmp_le C.2.1 C.2.2.1 hd ht (fun q => kt ((q_32le ha hb).mp q) p l e R s m args below meth c D dA b9 n0 n mc ms H locs ls cells slots C hd2 hs hn hc hk hP hS hl) (fun q => kf (Int.not_le.mp fun q2 => q ((q_32le ha hb).mpr q2)) p l e R s m args below meth c D dA b9 n0 n mc ms H locs ls cells slots C hd2 hs hn hc hk hP hS hl)
theorem q_if_eq {a : Int} {off : Int} {tgt : Nat} (hd : decode M.2.1 pc = .ok (.ifCond .eq off, 3)) (ht : (pc : Int) + off = (tgt : Int)) (ha : q_r a) (kt : a = 0 → q_J M fr Q kc ks tgt lv st w) (kf : ¬ a = 0 → q_J M fr Q kc ks (pc + 3) lv st w) : q_J M fr Q kc ks pc lv (q_i a :: st) w := by
  intro p l e R s m args below meth c D dA b9 n0 n mc ms H locs ls cells slots C hd2 hs hn hc hk hP hS hl
  exact lv_if_eq C.2.1 C.2.2.1 hd ht (fun q => kt ((q_32eq ha q_r0).mp (q.trans q_0)) p l e R s m args below meth c D dA b9 n0 n mc ms H locs ls cells slots C hd2 hs hn hc hk hP hS hl) (fun q => kf (fun q2 => q (((q_32eq ha q_r0).mpr q2).trans q_0.symm)) p l e R s m args below meth c D dA b9 n0 n mc ms H locs ls cells slots C hd2 hs hn hc hk hP hS hl)
theorem q_if_ne {a : Int} {off : Int} {tgt : Nat} (hd : decode M.2.1 pc = .ok (.ifCond .ne off, 3)) (ht : (pc : Int) + off = (tgt : Int)) (ha : q_r a) (kt : a ≠ 0 → q_J M fr Q kc ks tgt lv st w) (kf : a = 0 → q_J M fr Q kc ks (pc + 3) lv st w) : q_J M fr Q kc ks pc lv (q_i a :: st) w := by
  intro p l e R s m args below meth c D dA b9 n0 n mc ms H locs ls cells slots C hd2 hs hn hc hk hP hS hl
  exact lv_if_ne C.2.1 C.2.2.1 hd ht (fun q => kt (fun q2 => q (((q_32eq ha q_r0).mpr q2).trans q_0.symm)) p l e R s m args below meth c D dA b9 n0 n mc ms H locs ls cells slots C hd2 hs hn hc hk hP hS hl) (fun q => kf ((q_32eq ha q_r0).mp (q.trans q_0)) p l e R s m args below meth c D dA b9 n0 n mc ms H locs ls cells slots C hd2 hs hn hc hk hP hS hl)
theorem q_if_lt {a : Int} {off : Int} {tgt : Nat} (hd : decode M.2.1 pc = .ok (.ifCond .lt off, 3)) (ht : (pc : Int) + off = (tgt : Int)) (ha : q_r a) (kt : a < 0 → q_J M fr Q kc ks tgt lv st w) (kf : 0 ≤ a → q_J M fr Q kc ks (pc + 3) lv st w) : q_J M fr Q kc ks pc lv (q_i a :: st) w := by
  intro p l e R s m args below meth c D dA b9 n0 n mc ms H locs ls cells slots C hd2 hs hn hc hk hP hS hl
  exact lv_if_lt C.2.1 C.2.2.1 hd ht (fun q => kt ((q_32lt ha q_r0).mp (by rw [← q_0]; exact q)) p l e R s m args below meth c D dA b9 n0 n mc ms H locs ls cells slots C hd2 hs hn hc hk hP hS hl) (fun q => kf (Int.not_lt.mp fun q2 => q (by rw [q_0]; exact (q_32lt ha q_r0).mpr q2)) p l e R s m args below meth c D dA b9 n0 n mc ms H locs ls cells slots C hd2 hs hn hc hk hP hS hl)
theorem q_if_ge {a : Int} {off : Int} {tgt : Nat} (hd : decode M.2.1 pc = .ok (.ifCond .ge off, 3)) (ht : (pc : Int) + off = (tgt : Int)) (ha : q_r a) (kt : 0 ≤ a → q_J M fr Q kc ks tgt lv st w) (kf : a < 0 → q_J M fr Q kc ks (pc + 3) lv st w) : q_J M fr Q kc ks pc lv (q_i a :: st) w := by
  intro p l e R s m args below meth c D dA b9 n0 n mc ms H locs ls cells slots C hd2 hs hn hc hk hP hS hl
  exact lv_if_ge C.2.1 C.2.2.1 hd ht (fun q => kt ((q_32le q_r0 ha).mp (by rw [← q_0]; exact q)) p l e R s m args below meth c D dA b9 n0 n mc ms H locs ls cells slots C hd2 hs hn hc hk hP hS hl) (fun q => kf (Int.not_le.mp fun q2 => q (by show (0 : Int32) ≤ _; rw [q_0]; exact (q_32le q_r0 ha).mpr q2)) p l e R s m args below meth c D dA b9 n0 n mc ms H locs ls cells slots C hd2 hs hn hc hk hP hS hl)
theorem q_if_gt {a : Int} {off : Int} {tgt : Nat} (hd : decode M.2.1 pc = .ok (.ifCond .gt off, 3)) (ht : (pc : Int) + off = (tgt : Int)) (ha : q_r a) (kt : 0 < a → q_J M fr Q kc ks tgt lv st w) (kf : a ≤ 0 → q_J M fr Q kc ks (pc + 3) lv st w) : q_J M fr Q kc ks pc lv (q_i a :: st) w := by
  intro p l e R s m args below meth c D dA b9 n0 n mc ms H locs ls cells slots C hd2 hs hn hc hk hP hS hl
  exact lv_if_gt C.2.1 C.2.2.1 hd ht (fun q => kt ((q_32lt q_r0 ha).mp (by rw [← q_0]; exact q)) p l e R s m args below meth c D dA b9 n0 n mc ms H locs ls cells slots C hd2 hs hn hc hk hP hS hl) (fun q => kf (Int.not_lt.mp fun q2 => q (by show (0 : Int32) < _; rw [q_0]; exact (q_32lt q_r0 ha).mpr q2)) p l e R s m args below meth c D dA b9 n0 n mc ms H locs ls cells slots C hd2 hs hn hc hk hP hS hl)
theorem q_if_le {a : Int} {off : Int} {tgt : Nat} (hd : decode M.2.1 pc = .ok (.ifCond .le off, 3)) (ht : (pc : Int) + off = (tgt : Int)) (ha : q_r a) (kt : a ≤ 0 → q_J M fr Q kc ks tgt lv st w) (kf : 0 < a → q_J M fr Q kc ks (pc + 3) lv st w) : q_J M fr Q kc ks pc lv (q_i a :: st) w := by
  intro p l e R s m args below meth c D dA b9 n0 n mc ms H locs ls cells slots C hd2 hs hn hc hk hP hS hl
  exact lv_if_le C.2.1 C.2.2.1 hd ht (fun q => kt ((q_32le ha q_r0).mp (by rw [← q_0]; exact q)) p l e R s m args below meth c D dA b9 n0 n mc ms H locs ls cells slots C hd2 hs hn hc hk hP hS hl) (fun q => kf (Int.not_le.mp fun q2 => q (by rw [q_0]; exact (q_32le ha q_r0).mpr q2)) p l e R s m args below meth c D dA b9 n0 n mc ms H locs ls cells slots C hd2 hs hn hc hk hP hS hl)
def q_cmp (a b : Int) : Int := if b < a then 1 else if a = b then 0 else -1
theorem q_cmp_r (a b : Int) : q_r (q_cmp a b) := by
  unfold q_cmp
  split
  · exact ⟨by decide, by decide⟩
  · split
    · exact ⟨by decide, by decide⟩
    · exact ⟨by decide, by decide⟩
theorem q_lcmp {a b : Int} (hd : decode M.2.1 pc = .ok (.lcmp, 1)) (ha : q_rl a) (hb : q_rl b) (k : q_J M fr Q kc ks (pc + 1) lv (q_i (q_cmp a b) :: st) w) : q_J M fr Q kc ks pc lv (q_l b :: q_l a :: st) w :=
  q_go (fun _ _ _ _ _ _ _ _ _ _ _ _ _ _ _ _ _ hx hb2 _ _ _ k => W.lcmp hx hb2 hd (by
    have e : lg_cmp (Int64.ofInt a) (Int64.ofInt b) = Int32.ofInt (q_cmp a b) := by
      unfold lg_cmp q_cmp
      simp only [gt_iff_lt, q_64lt hb ha, q_64eq ha hb]
      split
      · decide
      · split <;> decide
    rw [e]; exact k)) k
theorem q_lcmp_eq {a b : Int} {off : Int} {tgt : Nat} (hd1 : decode M.2.1 pc = .ok (.lcmp, 1)) (hd : decode M.2.1 (pc + 1) = .ok (.ifCond .eq off, 3)) (ht : (pc + 1 : Int) + off = (tgt : Int)) (ha : q_rl a) (hb : q_rl b) (kt : a = b → q_J M fr Q kc ks tgt lv st w) (kf : ¬ a = b → q_J M fr Q kc ks (pc + 4) lv st w) : q_J M fr Q kc ks pc lv (q_l b :: q_l a :: st) w :=
  q_lcmp hd1 ha hb (q_if_eq (tgt := tgt) hd (by rw [← ht]; rfl) (q_cmp_r a b) (fun q => kt (by unfold q_cmp at q; split at q <;> (try split at q) <;> omega)) (fun q => kf (by unfold q_cmp at q; split at q <;> (try split at q) <;> omega)))
theorem q_lcmp_ne {a b : Int} {off : Int} {tgt : Nat} (hd1 : decode M.2.1 pc = .ok (.lcmp, 1)) (hd : decode M.2.1 (pc + 1) = .ok (.ifCond .ne off, 3)) (ht : (pc + 1 : Int) + off = (tgt : Int)) (ha : q_rl a) (hb : q_rl b) (kt : a ≠ b → q_J M fr Q kc ks tgt lv st w) (kf : a = b → q_J M fr Q kc ks (pc + 4) lv st w) : q_J M fr Q kc ks pc lv (q_l b :: q_l a :: st) w :=
  q_lcmp hd1 ha hb (q_if_ne (tgt := tgt) hd (by rw [← ht]; rfl) (q_cmp_r a b) (fun q => kt (by unfold q_cmp at q; split at q <;> (try split at q) <;> omega)) (fun q => kf (by unfold q_cmp at q; split at q <;> (try split at q) <;> omega)))
theorem q_lcmp_lt {a b : Int} {off : Int} {tgt : Nat} (hd1 : decode M.2.1 pc = .ok (.lcmp, 1)) (hd : decode M.2.1 (pc + 1) = .ok (.ifCond .lt off, 3)) (ht : (pc + 1 : Int) + off = (tgt : Int)) (ha : q_rl a) (hb : q_rl b) (kt : a < b → q_J M fr Q kc ks tgt lv st w) (kf : b ≤ a → q_J M fr Q kc ks (pc + 4) lv st w) : q_J M fr Q kc ks pc lv (q_l b :: q_l a :: st) w :=
  q_lcmp hd1 ha hb (q_if_lt (tgt := tgt) hd (by rw [← ht]; rfl) (q_cmp_r a b) (fun q => kt (by unfold q_cmp at q; split at q <;> (try split at q) <;> omega)) (fun q => kf (by unfold q_cmp at q; split at q <;> (try split at q) <;> omega)))
theorem q_lcmp_ge {a b : Int} {off : Int} {tgt : Nat} (hd1 : decode M.2.1 pc = .ok (.lcmp, 1)) (hd : decode M.2.1 (pc + 1) = .ok (.ifCond .ge off, 3)) (ht : (pc + 1 : Int) + off = (tgt : Int)) (ha : q_rl a) (hb : q_rl b) (kt : b ≤ a → q_J M fr Q kc ks tgt lv st w) (kf : a < b → q_J M fr Q kc ks (pc + 4) lv st w) : q_J M fr Q kc ks pc lv (q_l b :: q_l a :: st) w :=
  q_lcmp hd1 ha hb (q_if_ge (tgt := tgt) hd (by rw [← ht]; rfl) (q_cmp_r a b) (fun q => kt (by unfold q_cmp at q; split at q <;> (try split at q) <;> omega)) (fun q => kf (by unfold q_cmp at q; split at q <;> (try split at q) <;> omega)))
theorem q_lcmp_gt {a b : Int} {off : Int} {tgt : Nat} (hd1 : decode M.2.1 pc = .ok (.lcmp, 1)) (hd : decode M.2.1 (pc + 1) = .ok (.ifCond .gt off, 3)) (ht : (pc + 1 : Int) + off = (tgt : Int)) (ha : q_rl a) (hb : q_rl b) (kt : b < a → q_J M fr Q kc ks tgt lv st w) (kf : a ≤ b → q_J M fr Q kc ks (pc + 4) lv st w) : q_J M fr Q kc ks pc lv (q_l b :: q_l a :: st) w :=
  q_lcmp hd1 ha hb (q_if_gt (tgt := tgt) hd (by rw [← ht]; rfl) (q_cmp_r a b) (fun q => kt (by unfold q_cmp at q; split at q <;> (try split at q) <;> omega)) (fun q => kf (by unfold q_cmp at q; split at q <;> (try split at q) <;> omega)))
theorem q_lcmp_le {a b : Int} {off : Int} {tgt : Nat} (hd1 : decode M.2.1 pc = .ok (.lcmp, 1)) (hd : decode M.2.1 (pc + 1) = .ok (.ifCond .le off, 3)) (ht : (pc + 1 : Int) + off = (tgt : Int)) (ha : q_rl a) (hb : q_rl b) (kt : a ≤ b → q_J M fr Q kc ks tgt lv st w) (kf : b < a → q_J M fr Q kc ks (pc + 4) lv st w) : q_J M fr Q kc ks pc lv (q_l b :: q_l a :: st) w :=
  q_lcmp hd1 ha hb (q_if_le (tgt := tgt) hd (by rw [← ht]; rfl) (q_cmp_r a b) (fun q => kt (by unfold q_cmp at q; split at q <;> (try split at q) <;> omega)) (fun q => kf (by unfold q_cmp at q; split at q <;> (try split at q) <;> omega)))
end QR
