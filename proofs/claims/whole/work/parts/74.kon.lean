/-! a world with an object O at a and new cells from N on: what constructors make -/
def q_k (w : q_W) (a : Nat) (O : q_E) (N : Nat) (ns : List q_E) : q_W := fun x => if x = a then some O else if x < N then w x else ns[x - N]?
section
variable {w : q_W} {a N : Nat} {O : q_E} {ns : List q_E}
theorem q_k_a : q_k w a O N ns a = some O := if_pos rfl
theorem q_k_n {i : Nat} {c : q_E} (ha : a < N) (h : ns[i]? = some c) : q_k w a O N ns (N + i) = some c := by
  unfold q_k
  rw [if_neg (by omega), if_neg (by omega), show N + i - N = i by omega, h]
theorem q_k_dom (hd : q_dom w N) (ha : a < N) : q_dom (q_k w a O N ns) (N + ns.length) := by
  intro x
  unfold q_k
  by_cases e : x = a
  · rw [if_pos e]
    exact ⟨fun _ => by omega, fun _ => Option.some_ne_none O⟩
  · rw [if_neg e]
    by_cases e2 : x < N
    · rw [if_pos e2, hd x]
      omega
    · rw [if_neg e2, ne_eq, List.getElem?_eq_none_iff]
      omega
theorem q_k_o (O' : q_E) : q_up (q_k w a O N ns) a O' = q_k w a O' N ns := by
  funext x
  unfold q_up q_k
  by_cases e : x = a
  · rw [if_pos e, if_pos e]
  · rw [if_neg e, if_neg e, if_neg e]
theorem q_k_push (ha : a < N) (c : q_E) : q_up (q_k w a O N ns) (N + ns.length) c = q_k w a O N (ns ++ [c]) := by
  funext x
  unfold q_up q_k
  by_cases e : x = N + ns.length
  · rw [if_pos e, if_neg (by omega), if_neg (by omega), show x - N = ns.length by omega, List.getElem?_concat_length]
  · rw [if_neg e]
    by_cases e1 : x = a
    · rw [if_pos e1, if_pos e1]
    · rw [if_neg e1, if_neg e1]
      by_cases e2 : x < N
      · rw [if_pos e2, if_pos e2]
      · rw [if_neg e2, if_neg e2]
        by_cases e3 : x - N < ns.length
        · rw [List.getElem?_append_left e3]
        · rw [List.getElem?_eq_none (by omega), List.getElem?_eq_none (by rw [List.length_append, List.length_singleton]; omega)]
theorem q_k_set {i : Nat} (ha : a < N) (hi : i < ns.length) (c : q_E) : q_up (q_k w a O N ns) (N + i) c = q_k w a O N (ns.set i c) := by
  funext x
  unfold q_up q_k
  by_cases e : x = N + i
  · rw [if_pos e, if_neg (by omega), if_neg (by omega), show x - N = i by omega, List.getElem?_set_self hi]
  · rw [if_neg e]
    by_cases e1 : x = a
    · rw [if_pos e1, if_pos e1]
    · rw [if_neg e1, if_neg e1]
      by_cases e2 : x < N
      · rw [if_pos e2, if_pos e2]
      · rw [if_neg e2, if_neg e2, List.getElem?_set_ne (by omega)]
theorem q_k_0 (hd : q_dom w N) (ha : w a = some O) : w = q_k w a O N [] := by
  funext x
  unfold q_k
  by_cases e : x = a
  · rw [if_pos e, e, ha]
  · rw [if_neg e]
    by_cases e2 : x < N
    · rw [if_pos e2]
    · rw [if_neg e2, List.getElem?_nil]
      exact Classical.byContradiction fun q => e2 ((hd x).mp q)
/-- what a constructor made of a new object, in the world of the one that calls it -/
theorem q_k_k {i : Nat} {O' : q_E} {ms : List q_E} (ha : a < N) (hi : i < ns.length) : q_k (q_k w a O N ns) (N + i) O' (N + ns.length) ms = q_k w a O N (ns.set i O' ++ ms) := by
  funext x
  unfold q_k
  by_cases e : x = N + i
  · rw [if_pos e, if_neg (by omega), if_neg (by omega), show x - N = i by omega, List.getElem?_append_left (by rw [List.length_set]; exact hi), List.getElem?_set_self hi]
  · rw [if_neg e]
    by_cases e1 : x = a
    · rw [if_pos (show x < N + ns.length by omega), if_pos e1, if_pos e1]
    · rw [if_neg e1, if_neg e1]
      by_cases e2 : x < N
      · rw [if_pos (show x < N + ns.length by omega), if_pos e2, if_pos e2]
      · rw [if_neg e2, if_neg e2]
        by_cases e3 : x < N + ns.length
        · rw [if_pos e3, List.getElem?_append_left (by rw [List.length_set]; omega), List.getElem?_set_ne (by omega)]
        · rw [if_neg e3, List.getElem?_append_right (by rw [List.length_set]; omega), List.length_set]
          congr 1
          omega
/-- rows of rows in such a world -/
theorem q_k_mw (ha : a < N) : q_mw (q_k w a O N ns) (N + ns.length) = q_k w a O N (ns ++ [q_ra 5 5 (x_arr (N + ns.length + 1)), q_mz, q_mz, q_mz, q_mz, q_mz]) := by
  unfold q_mw
  have h1 := q_k_push (w := w) (O := O) (ns := ns) ha (q_ra 5 5 (x_arr (N + ns.length + 1)))
  rw [h1]
  have step : ∀ (ms : List q_E) (j : Nat), ms.length = ns.length + j → q_up (q_k w a O N ms) (N + ns.length + j) q_mz = q_k w a O N (ms ++ [q_mz]) := fun ms j hj => by
    have := q_k_push (w := w) (O := O) (ns := ms) ha q_mz
    rw [← this, hj, Nat.add_assoc]
  rw [step _ 1 (by simp), step _ 2 (by simp), step _ 3 (by simp), step _ 4 (by simp), step _ 5 (by simp)]
  simp only [List.append_assoc, List.cons_append, List.nil_append]
end
section QR
variable {M : q_M} {fr : Nat} {Q : Option Value → q_W → Prop} {kc ks kc0 ks0 kc1 ks1 pc : Nat} {lv : List (Option Value)} {st st0 : List Value} {w : q_W}
theorem q_Jk {kc' ks' : Nat} (h1 : kc = kc') (h2 : ks = ks') (k : q_J M fr Q kc' ks' pc lv st w) : q_J M fr Q kc ks pc lv st w := by
  subst h1; subst h2; exact k
theorem q_cI {M1 : q_M} {fr1 idx a np : Nat} (As : List Value) {w1 : q_W} (hc1 : q_CI M.1.cls idx M1 np) (hT1 : q_T M1 fr1 kc1 ks1 (.ref a :: As) w (fun v' w' => v' = none ∧ w' = w1)) (hd : decode M.2.1 pc = .ok (.invokespecial idx, 3)) (hst : st0 = As.reverse ++ .ref a :: st) (hfr : fr1 + 1 ≤ fr) (hroom : (st.map (fun v => v.category)).sum ≤ 8) (hn1 : As.length = np) (hkc : kc0 = kc1 + kc) (hks : ks0 = ks1 + ks) (k : q_J M fr Q kc ks (pc + 3) lv st w1) : q_J M fr Q kc0 ks0 pc lv st0 w :=
  q_callI As hc1 hT1 hfr hn1 hst hroom hkc hks hd (fun v w' h => by rw [h.1, h.2]; exact k)
theorem q_cN {M1 : q_M} {fr1 idx a np : Nat} {host : String} (As : List Value) {w1 : q_W} (hc1 : q_CN M.1.cls idx M1 host np) (hT1 : q_T M1 fr1 kc1 ks1 (.ref a :: As) w (fun v' w' => v' = none ∧ w' = w1)) (hd : decode M.2.1 pc = .ok (.invokespecial idx, 3)) (hst : st0 = As.reverse ++ .ref a :: st) (hfr : fr1 + 1 ≤ fr) (hroom : (st.map (fun v => v.category)).sum ≤ 8) (hn1 : As.length = np) (hkc : kc0 = kc1 + kc) (hks : ks0 = ks1 + ks) (k : q_J M fr Q kc ks (pc + 3) lv st w1) : q_J M fr Q kc0 ks0 pc lv st0 w :=
  q_callN As hc1 hT1 hfr hn1 hst hroom hkc hks hd (fun v w' h => by rw [h.1, h.2]; exact k)
end QR
