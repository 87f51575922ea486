/-! the same numbers, counted by the class and by the reference -/
theorem z_a_max (f : Int → Int) : ∀ (k : Nat) (c : Int), 0 ≤ c → c < k → f c ≤ f (z_a f k)
  | 0, c, h0, h1 => by omega
  | k + 1, c, h0, h1 => by
    show f c ≤ f (if f (z_a f k) < f k then (k : Int) else z_a f k)
    by_cases e : c = k
    · subst e
      split <;> omega
    · have ih := z_a_max f k c h0 (by omega)
      split <;> omega
theorem z_c_e (f : Int → Int) : ∀ k : Nat, z_c f k = z_s (fun c => if f c = f (z_a f k) then 1 else 0) k
  | 0 => rfl
  | k + 1 => by
    have ih := z_c_e f k
    show (if f (z_a f k) < f k then 1 else if f k = f (z_a f k) then z_c f k + 1 else z_c f k) = z_s (fun c => if f c = f (if f (z_a f k) < f k then (k : Int) else z_a f k) then 1 else 0) k + (if f k = f (if f (z_a f k) < f k then (k : Int) else z_a f k) then 1 else 0)
    by_cases e : f (z_a f k) < f k
    · rw [if_pos e, if_pos e, if_pos rfl]
      have hz : z_s (fun c => if f c = f (k : Int) then 1 else 0) k = z_s (fun _ => 0) k := z_s_c k (fun c h0 h1 => by
        have := z_a_max f k c h0 h1
        (try dsimp only)
        rw [if_neg (by omega)])
      rw [hz, z_s_z]
      rfl
    · rw [if_neg e, if_neg e]
      by_cases e2 : f k = f (z_a f k)
      · rw [if_pos e2, if_pos e2, ih]
      · rw [if_neg e2, if_neg e2, ih, Int.add_zero]
theorem z_ac_e (f : Int → Int) (n : Int) : z_ac f n = z_sum (fun c => if f c = f (z_am f n) then 1 else 0) n := z_c_e f n.toNat
theorem z_a_c {f g : Int → Int} : ∀ k : Nat, (∀ j : Int, 0 ≤ j → j < k → f j = g j) → z_a f k = z_a g k
  | 0, _ => rfl
  | k + 1, h => by
    have ih := z_a_c k (fun j h0 h1 => h j h0 (by omega))
    have hr := z_a_r g k
    show (if f (z_a f k) < f k then (k : Int) else z_a f k) = (if g (z_a g k) < g k then (k : Int) else z_a g k)
    rw [ih, h (z_a g k) hr.1 (by omega), h k (by omega) (by omega)]
theorem z_am_c {f g : Int → Int} {n : Int} (h : ∀ j : Int, 0 ≤ j → j < n → f j = g j) : z_am f n = z_am g n := z_a_c n.toNat (fun j h0 h1 => h j h0 (by omega))
theorem z_u_one (g : Int → Int) (a m : Int) : ∀ k : Nat, (∀ j : Int, 0 ≤ j → j < k → g j = a → j = m) → z_u g a k = if (0 ≤ m ∧ m < k) ∧ g m = a then m else 9
  | 0, _ => by rw [if_neg (by omega)]; rfl
  | k + 1, h => by
    have ih := z_u_one g a m k (fun j h0 h1 h2 => h j h0 (by omega) h2)
    show (if g k = a then (k : Int) else z_u g a k) = _
    by_cases e : g k = a
    · have em := h k (by omega) (by omega) e
      rw [if_pos e, if_pos (by rw [← em]; exact ⟨by omega, e⟩), em]
    · rw [if_neg e, ih]
      by_cases e2 : (0 ≤ m ∧ m < k) ∧ g m = a
      · rw [if_pos e2, if_pos ⟨by omega, e2.2⟩]
      · rw [if_neg e2, if_neg (fun q => e2 ⟨⟨q.1.1, by
          have q1 := q.1.2
          have : m ≠ k := fun q2 => e (by rw [← q2]; exact q.2)
          omega⟩, q.2⟩)]
/-- a wheel is certain just where the first code that can be has it -/
theorem z_cert {f nt : Int → Int} {S N all : Int} (hS : 0 < S) (hf : ∀ c, 0 ≤ c → c < S → 0 ≤ f c) (hp : ∃ c : Int, 0 ≤ c ∧ c < S ∧ 0 < f c) (hn : ∀ c, 0 ≤ c → c < S → 0 ≤ nt c ∧ nt c < N) (ha : all = z_sum f S) : z_su (fun n => z_sum (fun c => if nt c = n then f c else 0) S) all N = if z_sum (fun c => if nt c = nt (z_fa f S) then f c else 0) S = all then nt (z_fa f S) else 9 := by
  have hfa := z_fa_p f hS
  have h0 : 0 < f (z_fa f S) := by
    have hge := hf _ hfa.1.1 hfa.1.2
    rcases (show f (z_fa f S) = 0 ∨ 0 < f (z_fa f S) by omega) with e | e
    · obtain ⟨c, c0, c1, c2⟩ := hp
      rcases hfa.2.2 with q | q
      · exact absurd e q
      · rcases (show c < z_fa f S ∨ c = z_fa f S by omega) with g1 | g1
        · have := hfa.2.1 c c0 g1; omega
        · rw [g1] at c2; omega
    · exact e
  have hlt : ∀ n, n ≠ nt (z_fa f S) → z_sum (fun c => if nt c = n then f c else 0) S ≠ all := by
    intro n hne he
    have e1 : z_sum f S = z_sum (fun c => if nt c = n then f c else 0) S + z_sum (fun c => if nt c = n then 0 else f c) S := by
      have e2 : z_sum f S = z_sum (fun c => (if nt c = n then f c else 0) + (if nt c = n then 0 else f c)) S := z_sum_c (fun j _ _ => by
        (try dsimp only)
        split <;> omega)
      rw [e2]
      exact z_sum_add _ _ _
    have e3 : 0 < z_sum (fun c => if nt c = n then 0 else f c) S := (z_sum_pos (fun j j0 j1 => by
      have := hf j j0 j1
      (try dsimp only)
      split <;> omega)).mpr ⟨z_fa f S, hfa.1.1, hfa.1.2, by (try dsimp only); rw [if_neg (fun q => hne q.symm)]; exact h0⟩
    omega
  have hnt := hn _ hfa.1.1 hfa.1.2
  unfold z_su
  rw [z_u_one _ all (nt (z_fa f S)) N.toNat (fun j j0 j1 j2 => Classical.byContradiction fun q => hlt j q j2)]
  by_cases e : z_sum (fun c => if nt c = nt (z_fa f S) then f c else 0) S = all
  · rw [if_pos e, if_pos ⟨by omega, e⟩]
  · rw [if_neg e, if_neg (fun q => e q.2)]
theorem z_sk_hi (f : Int → Int) (c : Int) : ∀ (k : Nat) (so : Int → Int) (j : Int), (k : Int) < j → (z_sk f c k so).1 j = so j
  | 0, so, j, h => rfl
  | k + 1, so, j, h => by
    show ((if f (so k) < f c then z_sk f c k (q_us so ((k : Int) + 1) (so k)) else (so, (k : Int) + 1)).1) j = so j
    by_cases e : f (so k) < f c
    · rw [if_pos e, z_sk_hi f c k _ j (by omega), q_us_n (by omega)]
    · rw [if_neg e]
theorem z_sk_c {f f' : Int → Int} {c : Int} (hc : f c = f' c) : ∀ (k : Nat) (so so' : Int → Int), (∀ j : Int, 0 ≤ j → j < k → so j = so' j ∧ f (so j) = f' (so j)) → (z_sk f c k so).2 = (z_sk f' c k so').2 ∧ ∀ j : Int, 0 ≤ j → j ≤ k → j ≠ (z_sk f c k so).2 → (z_sk f c k so).1 j = (z_sk f' c k so').1 j
  | 0, so, so', h => ⟨rfl, fun j h0 h1 h2 => absurd (show j = 0 by omega) h2⟩
  | k + 1, so, so', h => by
    have hk := h k (by omega) (by omega)
    show ((if f (so k) < f c then z_sk f c k (q_us so ((k : Int) + 1) (so k)) else (so, (k : Int) + 1)).2) = ((if f' (so' k) < f' c then z_sk f' c k (q_us so' ((k : Int) + 1) (so' k)) else (so', (k : Int) + 1)).2) ∧ ∀ j : Int, 0 ≤ j → j ≤ ((k + 1 : Nat) : Int) → j ≠ ((if f (so k) < f c then z_sk f c k (q_us so ((k : Int) + 1) (so k)) else (so, (k : Int) + 1)).2) → ((if f (so k) < f c then z_sk f c k (q_us so ((k : Int) + 1) (so k)) else (so, (k : Int) + 1)).1) j = ((if f' (so' k) < f' c then z_sk f' c k (q_us so' ((k : Int) + 1) (so' k)) else (so', (k : Int) + 1)).1) j
    rw [← hk.1, ← hk.2, ← hc]
    by_cases e : f (so k) < f c
    · rw [if_pos e, if_pos e]
      have ih := z_sk_c hc k (q_us so ((k : Int) + 1) (so k)) (q_us so' ((k : Int) + 1) (so k)) (fun j h0 h1 => by
        rw [q_us_n (by omega), q_us_n (by omega)]
        exact h j h0 (by omega))
      refine ⟨ih.1, fun j h0 h1 h2 => ?_⟩
      rcases (show j ≤ k ∨ j = (k : Int) + 1 by omega) with q | q
      · exact ih.2 j h0 q h2
      · rw [z_sk_hi f c k _ j (by omega), z_sk_hi f' c k _ j (by omega), q, q_us_s, q_us_s]
    · rw [if_neg e, if_neg e]
      refine ⟨rfl, fun j h0 h1 h2 => ?_⟩
      have h2' : j ≠ (k : Int) + 1 := h2
      exact (h j h0 (by omega)).1
theorem z_l0_c {f f' : Int → Int} (so so' : Int → Int) : ∀ c : Nat, (∀ j : Int, 0 ≤ j → j < c → f j = f' j) → ∀ j : Int, 0 ≤ j → j < z_pos f c → z_l0 f so c j = z_l0 f' so' c j
  | 0, _, j, h0, h1 => by
    have : z_pos f ((0 : Nat) : Int) = 0 := rfl
    omega
  | c + 1, h, j, h0, h1 => by
    have ih := z_l0_c so so' c (fun j g0 g1 => h j g0 (by omega))
    have hc := h c (by omega) (by omega)
    have hp : z_pos f (c : Int) = z_pos f' (c : Int) := z_pos_c (fun j g0 g1 => h j g0 (by omega))
    have hs : z_pos f ((c : Int) + 1) = z_pos f c + (if 0 < f c then 1 else 0) := z_pos_s f (by omega)
    have hpr := z_pos_r f (n := (c : Int)) (by omega)
    have h1' : j < z_pos f ((c : Int) + 1) := h1
    rw [hs] at h1'
    show (if 0 < f c then z_ins f c (z_l0 f so c) (z_pos f c) else z_l0 f so c) j = (if 0 < f' c then z_ins f' c (z_l0 f' so' c) (z_pos f' c) else z_l0 f' so' c) j
    rw [← hc, ← hp]
    by_cases e : 0 < f c
    · rw [if_pos e] at h1'
      rw [if_pos e, if_pos e]
      unfold z_ins
      have hk := z_sk_c (f := f) (f' := f') (c := (c : Int)) hc (z_pos f c).toNat (z_l0 f so c) (z_l0 f' so' c) (fun i g0 g1 => by
        have hr := z_l0_r f so c i g0 (by omega)
        exact ⟨ih i g0 (by omega), h _ hr.1 (by omega)⟩)
      rw [← hk.1]
      unfold q_us
      by_cases e2 : j = (z_sk f c (z_pos f c).toNat (z_l0 f so c)).2
      · rw [if_pos e2, if_pos e2]
      · rw [if_neg e2, if_neg e2]
        exact hk.2 j h0 (by omega) e2
    · rw [if_neg e] at h1'
      rw [if_neg e, if_neg e]
      exact ih j h0 (by omega)
theorem z_lo_c {f f' : Int → Int} (so so' : Int → Int) {c : Int} (hc : 0 ≤ c) (h : ∀ j : Int, 0 ≤ j → j < c → f j = f' j) {j : Int} (h0 : 0 ≤ j) (h1 : j < z_pos f c) : z_lo f so c j = z_lo f' so' c j := z_l0_c so so' c.toNat (fun j g0 g1 => h j g0 (by omega)) j h0 (by rw [Int.toNat_of_nonneg hc]; exact h1)
theorem z_hm_c {f f' g g' : Int → Int} : ∀ k : Nat, (∀ j : Int, 0 ≤ j → j ≤ k → f j = f' j ∧ g j = g' j) → z_hm f g k = z_hm f' g' k
  | 0, _ => rfl
  | k + 1, h => by
    have ih := z_hm_c k (fun j h0 h1 => h j h0 (by omega))
    have hr := z_hm_r f' g' k
    have h1 := h ((k : Int) + 1) (by omega) (by omega)
    have h2 := h (z_hm f' g' k) hr.1 (by omega)
    show (if f (z_hm f g k) * g ((k : Int) + 1) < f ((k : Int) + 1) * g (z_hm f g k) then (k : Int) + 1 else z_hm f g k) = (if f' (z_hm f' g' k) * g' ((k : Int) + 1) < f' ((k : Int) + 1) * g' (z_hm f' g' k) then (k : Int) + 1 else z_hm f' g' k)
    rw [ih, h1.1, h1.2, h2.1, h2.2]
theorem z_hl_c {f f' g g' : Int → Int} : ∀ k : Nat, (∀ j : Int, 0 ≤ j → j ≤ k → f j = f' j ∧ g j = g' j) → z_hl f g k = z_hl f' g' k
  | 0, _ => rfl
  | k + 1, h => by
    have ih := z_hl_c k (fun j h0 h1 => h j h0 (by omega))
    have hr := z_hl_r f' g' k
    have h1 := h ((k : Int) + 1) (by omega) (by omega)
    have h2 := h (z_hl f' g' k) hr.1 (by omega)
    show (if f ((k : Int) + 1) * g (z_hl f g k) < f (z_hl f g k) * g ((k : Int) + 1) then (k : Int) + 1 else z_hl f g k) = (if f' ((k : Int) + 1) * g' (z_hl f' g' k) < f' (z_hl f' g' k) * g' ((k : Int) + 1) then (k : Int) + 1 else z_hl f' g' k)
    rw [ih, h1.1, h1.2, h2.1, h2.2]
theorem z_most_c {f f' g g' : Int → Int} {n : Int} (h : ∀ j : Int, 0 ≤ j → j ≤ n → f j = f' j ∧ g j = g' j) (hn : 0 ≤ n) : z_most f g n = z_most f' g' n := z_hm_c n.toNat (fun j h0 h1 => h j h0 (by omega))
theorem z_least_c {f f' g g' : Int → Int} {n : Int} (h : ∀ j : Int, 0 ≤ j → j ≤ n → f j = f' j ∧ g j = g' j) (hn : 0 ≤ n) : z_least f g n = z_least f' g' n := z_hl_c n.toNat (fun j h0 h1 => h j h0 (by omega))
theorem z_wo_c {f f' g g' : Int → Int} : ∀ k : Nat, (∀ j : Int, 0 ≤ j → j < k → f j = f' j ∧ g j = g' j) → z_wo f g k = z_wo f' g' k
  | 0, _ => rfl
  | k + 1, h => by
    have ih := z_wo_c k (fun j h0 h1 => h j h0 (by omega))
    have hr := z_wo_r f' g' k
    have h1 := h k (by omega) (by omega)
    show (if 0 < f k ∧ (z_wo f g k = -9 ∨ f (z_wo f g k) * g k < f k * g (z_wo f g k)) then (k : Int) else z_wo f g k) = (if 0 < f' k ∧ (z_wo f' g' k = -9 ∨ f' (z_wo f' g' k) * g' k < f' k * g' (z_wo f' g' k)) then (k : Int) else z_wo f' g' k)
    rw [ih, h1.1, h1.2]
    rcases hr with q | q
    · rw [q]
      by_cases e : 0 < f' k
      · rw [if_pos ⟨e, Or.inl rfl⟩, if_pos ⟨e, Or.inl rfl⟩]
      · rw [if_neg (fun x => e x.1), if_neg (fun x => e x.1)]
    · have h2 := h (z_wo f' g' k) q.1 (by omega)
      rw [h2.1, h2.2]
theorem z_who_c {f f' g g' : Int → Int} {n : Int} (h : ∀ j : Int, 0 ≤ j → j < n → f j = f' j ∧ g j = g' j) : z_who f g n = z_who f' g' n := z_wo_c n.toNat (fun j h0 h1 => h j h0 (by omega))
theorem z_b_c {u v : Int → Int} : ∀ k : Nat, (∀ j : Int, 0 ≤ j → j < k → u j = v j) → z_b u k = z_b v k
  | 0, _ => rfl
  | k + 1, h => by
    have ih := z_b_c k (fun j h0 h1 => h j h0 (by omega))
    show q_or (z_b u k) (if u k < 9 then q_shl 1 k else 0) = q_or (z_b v k) (if v k < 9 then q_shl 1 k else 0)
    rw [ih, h k (by omega) (by omega)]
theorem z_bits_c {u v : Int → Int} {n : Int} (h : ∀ j : Int, 0 ≤ j → j < n → u j = v j) : z_bits u n = z_bits v n := z_b_c n.toNat (fun j h0 h1 => h j h0 (by omega))
theorem z_t_c {u v : Int → Int} : ∀ k : Nat, (∀ j : Int, 0 ≤ j → j < k → u j = v j) → z_t u k = z_t v k
  | 0, _ => rfl
  | k + 1, h => by
    have ih := z_t_c k (fun j h0 h1 => h j h0 (by omega))
    show 10 * z_t u k + u k = 10 * z_t v k + v k
    rw [ih, h k (by omega) (by omega)]
theorem z_tens_c {u v : Int → Int} {n : Int} (h : ∀ j : Int, 0 ≤ j → j < n → u j = v j) : z_tens u n = z_tens v n := z_t_c n.toNat (fun j h0 h1 => h j h0 (by omega))
theorem z_m_c {f g : Int → Int} : ∀ k : Nat, (∀ j : Int, 0 ≤ j → j < k → f j = g j) → z_m f k = z_m g k
  | 0, _ => rfl
  | k + 1, h => by
    have ih := z_m_c k (fun j h0 h1 => h j h0 (by omega))
    show (if z_m f k < f k then f k else z_m f k) = (if z_m g k < g k then g k else z_m g k)
    rw [ih, h k (by omega) (by omega)]
theorem z_max_c {f g : Int → Int} {n : Int} (h : ∀ j : Int, 0 ≤ j → j < n → f j = g j) : z_max f n = z_max g n := z_m_c n.toNat (fun j h0 h1 => h j h0 (by omega))
theorem z_h_c {f g : Int → Int} {h : Int} : ∀ k : Nat, (∀ j : Int, 0 ≤ j → j < k → f j = g j) → z_h f h k = z_h g h k
  | 0, _ => rfl
  | k + 1, e => by
    have ih := z_h_c (h := h) k (fun j h0 h1 => e j h0 (by omega))
    show 31 * z_h f h k + f k = 31 * z_h g h k + g k
    rw [ih, e k (by omega) (by omega)]
theorem z_hash_c {f g : Int → Int} {h n : Int} (e : ∀ j : Int, 0 ≤ j → j < n → f j = g j) : z_hash f h n = z_hash g h n := z_h_c n.toNat (fun j h0 h1 => e j h0 (by omega))
theorem z_hr_c {sz sz' : Int → Int} {it it' : Int → Int → Int} {h : Int} : ∀ k : Nat, (∀ r : Int, 0 ≤ r → r < k → sz r = sz' r ∧ ∀ j : Int, 0 ≤ j → j < sz r → it r j = it' r j) → z_hr sz it h k = z_hr sz' it' h k
  | 0, _ => rfl
  | k + 1, e => by
    have ih := z_hr_c (h := h) k (fun j h0 h1 => e j h0 (by omega))
    have hk := e k (by omega) (by omega)
    show z_hash (it k) (31 * z_hr sz it h k + sz k) (sz k) = z_hash (it' k) (31 * z_hr sz' it' h k + sz' k) (sz' k)
    rw [ih, ← hk.1]
    exact z_hash_c (fun j h0 h1 => hk.2 j h0 h1)
theorem z_hrows_c {sz sz' : Int → Int} {it it' : Int → Int → Int} {h n : Int} (e : ∀ r : Int, 0 ≤ r → r < n → sz r = sz' r ∧ ∀ j : Int, 0 ≤ j → j < sz r → it r j = it' r j) : z_hrows sz it h n = z_hrows sz' it' h n := z_hr_c n.toNat (fun r h0 h1 => e r h0 (by omega))
theorem z_m_nn (f : Int → Int) : ∀ k : Nat, 0 ≤ z_m f k
  | 0 => Int.le_refl 0
  | k + 1 => by
    have ih := z_m_nn f k
    show 0 ≤ (if z_m f k < f k then f k else z_m f k)
    split <;> omega
theorem z_g0_a (f : Int → Int) (a : Int) : ∀ k : Nat, (∀ j : Int, 0 ≤ j → j < k → 0 ≤ f j) → 0 < z_m f k → z_g0 f a k = z_a f k
  | 0, _, h => (Int.lt_irrefl 0 h).elim
  | k + 1, hf, h => by
    have h' : 0 < (if z_m f k < f k then f k else z_m f k) := h
    have hnn := z_m_nn f k
    show (if z_m f k < f k then (k : Int) else z_g0 f a k) = (if f (z_a f k) < f k then (k : Int) else z_a f k)
    by_cases hk : k = 0
    · subst hk
      have e0 : z_m f 0 = 0 := rfl
      have e1 : z_a f 0 = 0 := rfl
      by_cases e : z_m f 0 < f (0 : Nat)
      · rw [if_pos e, e1]
        split <;> rfl
      · rw [if_neg e, e0] at h'
        exact (Int.lt_irrefl 0 h').elim
    · have hm := z_am_max f (fun _ => Or.inr trivial) k (fun j h0 h1 => hf j h0 (by omega)) (by omega)
      rw [hm]
      by_cases e : z_m f k < f k
      · rw [if_pos e, if_pos e]
      · rw [if_neg e] at h'
        rw [if_neg e, if_neg e]
        exact z_g0_a f a k (fun j h0 h1 => hf j h0 (by omega)) h'
theorem z_m_ge (f : Int → Int) : ∀ (k : Nat) (c : Int), 0 ≤ c → c < k → f c ≤ z_m f k
  | 0, c, h0, h1 => by omega
  | k + 1, c, h0, h1 => by
    show f c ≤ (if z_m f k < f k then f k else z_m f k)
    by_cases e : c = k
    · subst e
      split <;> omega
    · have ih := z_m_ge f k c h0 (by omega)
      split <;> omega
theorem z_ag_e {f : Int → Int} (a : Int) {n : Int} (hf : ∀ j : Int, 0 ≤ j → j < n → 0 ≤ f j) (hp : ∃ c : Int, 0 ≤ c ∧ c < n ∧ 0 < f c) : z_ag f a n = z_am f n := by
  obtain ⟨c, c0, c1, c2⟩ := hp
  have := z_m_ge f n.toNat c c0 (by omega)
  exact z_g0_a f a n.toNat (fun j h0 h1 => hf j h0 (by omega)) (by omega)
theorem z_bw_p (f : Int → Int) (S : Int) : ∀ k : Nat, (k : Int) ≤ S → (z_bw f S k = -9 ∧ ∀ i : Int, S - k ≤ i → i < S → ¬ 0 < f i) ∨ ((S - k ≤ z_bw f S k ∧ z_bw f S k < S) ∧ 0 < f (z_bw f S k) ∧ ∀ i : Int, S - k ≤ i → i < z_bw f S k → ¬ 0 < f i)
  | 0, _ => Or.inl ⟨rfl, fun i h0 h1 => by omega⟩
  | k + 1, h => by
    have ih := z_bw_p f S k (by omega)
    show ((if 0 < f (S - ((k : Int) + 1)) then S - ((k : Int) + 1) else z_bw f S k) = -9 ∧ _) ∨ ((_ ≤ (if 0 < f (S - ((k : Int) + 1)) then S - ((k : Int) + 1) else z_bw f S k) ∧ (if 0 < f (S - ((k : Int) + 1)) then S - ((k : Int) + 1) else z_bw f S k) < S) ∧ 0 < f (if 0 < f (S - ((k : Int) + 1)) then S - ((k : Int) + 1) else z_bw f S k) ∧ ∀ i : Int, _ → i < (if 0 < f (S - ((k : Int) + 1)) then S - ((k : Int) + 1) else z_bw f S k) → ¬ 0 < f i)
    by_cases e : 0 < f (S - ((k : Int) + 1))
    · rw [if_pos e]
      exact Or.inr ⟨⟨by omega, by omega⟩, e, fun i h0 h1 => by omega⟩
    · rw [if_neg e]
      have key : ∀ i : Int, S - ((k + 1 : Nat) : Int) ≤ i → i < S - k → ¬ 0 < f i := fun i h0 h1 => by
        rw [show i = S - ((k : Int) + 1) by omega]
        exact e
      rcases ih with q | q
      · refine Or.inl ⟨q.1, fun i h0 h1 => ?_⟩
        rcases (show i < S - k ∨ S - k ≤ i by omega) with g | g
        · exact key i h0 g
        · exact q.2 i g h1
      · refine Or.inr ⟨⟨by omega, q.1.2⟩, q.2.1, fun i h0 h1 => ?_⟩
        rcases (show i < S - k ∨ S - k ≤ i by omega) with g | g
        · exact key i h0 g
        · exact q.2.2 i g h1
theorem z_back_e {f : Int → Int} {S : Int} (hS : 0 < S) (hf : ∀ j : Int, 0 ≤ j → j < S → 0 ≤ f j) : z_back f S S = if z_pos f S = 0 then -9 else z_fa f S := by
  have h := z_bw_p f S S.toNat (by omega)
  rw [show S - ((S.toNat : Nat) : Int) = 0 by omega] at h
  have hfa := z_fa_p f hS
  by_cases e : z_pos f S = 0
  · rw [if_pos e]
    have he := z_pos_0.mp e
    rcases h with q | q
    · exact q.1
    · exact absurd ⟨_, q.1.1, q.1.2, q.2.1⟩ he
  · rw [if_neg e]
    rcases h with q | q
    · refine absurd (z_pos_0.mpr ?_) e
      rintro ⟨j, h0, h1, h2⟩
      exact q.2 j h0 h1 h2
    · have ha : 0 < f (z_fa f S) := by
        have hge := hf _ hfa.1.1 hfa.1.2
        rcases hfa.2.2 with g | g
        · omega
        · rcases (show z_bw f S S.toNat < z_fa f S ∨ z_bw f S S.toNat = z_fa f S by omega) with g1 | g1
          · have := hfa.2.1 _ q.1.1 g1
            have := q.2.1
            omega
          · rw [← g1]; exact q.2.1
      show z_bw f S S.toNat = z_fa f S
      rcases (show z_bw f S S.toNat < z_fa f S ∨ z_bw f S S.toNat = z_fa f S ∨ z_fa f S < z_bw f S S.toNat by omega) with g | g | g
      · have h1 := hfa.2.1 _ q.1.1 g
        have h2 := q.2.1
        omega
      · exact g
      · exact absurd ha (q.2.2 _ hfa.1.1 g)
theorem z_far_e {W N : Int} (h : z_WN W N) {c s : Int} (hc : 0 ≤ c) (hs : 0 ≤ s) : z_sum (fun w => if N - z_nt W N (z_tn W N c s) w < z_nt W N (z_tn W N c s) w then N - z_nt W N (z_tn W N c s) w else z_nt W N (z_tn W N c s) w) W = z_far W N c s := by
  unfold z_far
  refine z_sum_c (fun w h0 h1 => ?_)
  (try dsimp only)
  rw [z_nt_tn h hc hs h0 h1]
  (repeat' split) <;> omega
theorem z_dif_e {W N : Int} (h : z_WN W N) {c s : Int} (hc : 0 ≤ c) (hs : 0 ≤ s) : z_sum (fun w => if z_nt W N (z_tn W N c s) w = 0 then 0 else 1) W = z_dif W N c s := by
  unfold z_dif
  refine z_sum_c (fun w h0 h1 => ?_)
  (try dsimp only)
  rw [z_nt_tn h hc hs h0 h1]
