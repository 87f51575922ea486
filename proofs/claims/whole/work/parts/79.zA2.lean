/-! a shed begun: the class's world with its new persons -/
theorem x_w_0 {w : q_W} {ξ : m_S} {B P n : Nat} {g : Int → Option Nat} : x_w w ξ B P g = x_w (x_pw w ξ B P) ξ n 0 g := by
  funext a
  by_cases h6 : a < 64
  · unfold x_w
    rw [List.getElem?_eq_getElem (show a < (x_cells g).length from h6)]
  · rw [x_hi (by omega), x_hi (by omega)]
    exact (if_neg (by omega)).symm
theorem x_dom_n {w : q_W} {ξ σ : m_S} {B P n p : Nat} {g g' : Int → Option Nat} (hd : q_dom (x_w w ξ B P g) n) (h64 : 64 ≤ n) : q_dom (x_w (x_pw w ξ B P) σ n p g') (n + p) := by
  intro a
  by_cases h6 : a < 64
  · unfold x_w
    rw [List.getElem?_eq_getElem (show a < (x_cells g').length from h6)]
    exact ⟨fun _ => by omega, fun _ => Option.some_ne_none _⟩
  · have q := hd a
    rw [x_hi (by omega)] at q ⊢
    show (if n ≤ a ∧ a < n + p then _ else x_pw w ξ B P a) ≠ none ↔ _
    by_cases e : n ≤ a ∧ a < n + p
    · rw [if_pos e]
      exact ⟨fun _ => e.2, fun _ => Option.some_ne_none _⟩
    · rw [if_neg e, q]
      omega
def x_nw (σ : m_S) (p k : Int) : m_S := m_u (m_u (m_u (m_u σ 1000 (q_us (σ 1000) p k)) 1003 (q_us (σ 1003) p 0)) 1004 (q_us (σ 1004) p 0)) 1005 (q_us (σ 1005) p 1)
theorem x_nw_k {σ : m_S} {p k : Int} {j : Nat} (hj : j < 1000) : x_nw σ p k j = σ j := by
  unfold x_nw
  rw [m_un (by omega), m_un (by omega), m_un (by omega), m_un (by omega)]
theorem x_nw_w {w : q_W} {σ : m_S} {n : Nat} {g : Int → Option Nat} {p k : Int} (h64 : 64 ≤ n) (h0 : 0 ≤ p) : q_up (x_w w σ n p.toNat g) (n + p.toNat) (q_ob (x_cl k) [.ref 8, .ref (20 + p.toNat), .ref (26 + p.toNat), q_i 0, q_i 0, q_i 1]) = x_w w (x_nw σ p k) n (p.toNat + 1) g := by
  have e0 : ((p.toNat : Nat) : Int) = p := Int.toNat_of_nonneg h0
  funext a
  by_cases h6 : a < 64
  · rw [q_up_n (by omega)]
    unfold x_w
    rw [List.getElem?_eq_getElem (show a < (x_cells g).length from h6), x_nw_k (by omega)]
  · rw [x_hi (a := a) (by omega)]
    unfold q_up
    by_cases e : a = n + p.toNat
    · rw [if_pos e]
      unfold x_pw
      rw [if_pos (by omega), show a - n = p.toNat by omega]
      have e1 : x_nw σ p k 1000 p = k := q_us_s _ _ _
      have e3 : x_nw σ p k 1003 p = 0 := q_us_s _ _ _
      have e4 : x_nw σ p k 1004 p = 0 := q_us_s _ _ _
      have e5 : x_nw σ p k 1005 p = 1 := q_us_s _ _ _
      unfold x_po
      rw [e0, e1, e3, e4, e5]
    · rw [if_neg e, x_hi (by omega)]
      unfold x_pw
      by_cases h : n ≤ a ∧ a < n + p.toNat
      · rw [if_pos h, if_pos (by omega)]
        have e1 : x_nw σ p k 1000 ((a - n : Nat) : Int) = σ 1000 ((a - n : Nat) : Int) := q_us_n (by omega)
        have e3 : x_nw σ p k 1003 ((a - n : Nat) : Int) = σ 1003 ((a - n : Nat) : Int) := q_us_n (by omega)
        have e4 : x_nw σ p k 1004 ((a - n : Nat) : Int) = σ 1004 ((a - n : Nat) : Int) := q_us_n (by omega)
        have e5 : x_nw σ p k 1005 ((a - n : Nat) : Int) = σ 1005 ((a - n : Nat) : Int) := q_us_n (by omega)
        unfold x_po
        rw [e1, e3, e4, e5]
      · rw [if_neg h, if_neg (by omega)]
theorem x_g_u {w : q_W} {σ : m_S} {n P : Nat} {g g' : Int → Option Nat} : q_up (x_w w σ n P g) 18 (q_ra 4 5 g') = x_w w σ n P g' := by
  funext a
  unfold q_up
  by_cases e : a = 18
  · rw [if_pos e, e]
    rfl
  · rw [if_neg e]
    by_cases h6 : a < 64
    · rcases (show a < 18 ∨ (18 < a ∧ a < 64) by omega) with h | h
      · rcases (show a = 0 ∨ a = 1 ∨ a = 2 ∨ a = 3 ∨ a = 4 ∨ a = 5 ∨ a = 6 ∨ a = 7 ∨ a = 8 ∨ a = 9 ∨ a = 10 ∨ a = 11 ∨ a = 12 ∨ a = 13 ∨ a = 14 ∨ a = 15 ∨ a = 16 ∨ a = 17 by omega) with rfl | rfl | rfl | rfl | rfl | rfl | rfl | rfl | rfl | rfl | rfl | rfl | rfl | rfl | rfl | rfl | rfl | rfl <;> rfl
      · have e9 : a = 19 + (a - 19) := by omega
        unfold x_w
        rw [e9]
        have : (x_cells g)[19 + (a - 19)]? = (x_cells g')[19 + (a - 19)]? := by
          rw [← List.getElem?_drop, ← List.getElem?_drop]
          rfl
        rw [this]
    · rw [x_hi (by omega), x_hi (by omega)]
theorem x_clC (k : Int) : ∃ C T, vwCl[x_cl k]? = some (C, T, 6) ∧ (C = RX5 ∨ (C, RX5) ∈ q_cs) := by
  unfold x_cl
  by_cases h1 : k = 1
  · rw [if_pos h1]; exact ⟨RX4, _, rfl, Or.inr (by simp [q_cs])⟩
  rw [if_neg h1]
  by_cases h2 : k = 2
  · rw [if_pos h2]; exact ⟨RX1, _, rfl, Or.inr (by simp [q_cs])⟩
  rw [if_neg h2]
  by_cases h3 : k = 3
  · rw [if_pos h3]; exact ⟨RX2, _, rfl, Or.inr (by simp [q_cs])⟩
  rw [if_neg h3]
  by_cases h4 : k = 4
  · rw [if_pos h4]; exact ⟨RX3, _, rfl, Or.inr (by simp [q_cs])⟩
  rw [if_neg h4]
  by_cases h5 : k = 5
  · rw [if_pos h5]; exact ⟨RX0, _, rfl, Or.inr (by simp [q_cs])⟩
  rw [if_neg h5]
  exact ⟨RX5, _, rfl, Or.inl rfl⟩
/-- the shed while it is begun: p persons stand -/
def x_bg (ξ σ : m_S) (n : Nat) (g : Int → Option Nat) (p : Int) : Prop := (∀ k, k < 7 ∨ (31 ≤ k ∧ k < 1000) → σ k = ξ k) ∧ x_G σ ∧ (σ 8 0 = ξ 4 0 ∧ σ 8 1 = ξ 4 1 ∧ σ 7 0 = ξ 4 2) ∧ (∀ q : Int, 0 ≤ q → q < p → g q = some (n + q.toNat)) ∧ ∀ q : Int, 0 ≤ q → q < p → σ 1000 q = ξ 5 q ∧ σ 1005 q = ξ 6 q ∧ σ 11 q = ξ 6 q ∧ x_Pt σ q
theorem x_bg.c {ξ σ : m_S} {n : Nat} {g : Int → Option Nat} {p : Int} {f : Int → Int} (h : x_bg ξ σ n g p) (h5 : p ≤ 5) : x_bg ξ (m_u σ 10 f) n g p := by
  refine ⟨fun k hk => (m_un (by omega)).trans (h.1 k hk), ?_, h.2.2.1, h.2.2.2.1, fun q h0 h1 => ?_⟩
  · exact h.2.1
  · have q := h.2.2.2.2 q h0 h1
    exact ⟨q.1, q.2.1, q.2.2.1, q.2.2.2.c (by omega) (fun k hk => m_un (by omega))⟩
theorem x_bg.g {ξ σ : m_S} {n : Nat} {g : Int → Option Nat} {p : Int} (h : x_bg ξ σ n g p) : x_G (x_nw σ p (σ 5 p)) := by
  unfold x_G
  rw [x_nw_k (by decide), x_nw_k (by decide)]
  exact h.2.1
theorem x_bg.s {ξ σ : m_S} {n : Nat} {g : Int → Option Nat} {p : Int} (h : x_bg ξ σ n g p) (h0 : 0 ≤ p) (h5 : p < 5) (hk : 0 ≤ ξ 5 p ∧ ξ 5 p ≤ 5) (hv : 1 ≤ ξ 6 p ∧ ξ 6 p ≤ 3) : x_bg ξ (x_sf (x_nw σ p (σ 5 p)) p (x_nw σ p (σ 5 p) 6 p)) n (q_us g p (some (n + p.toNat))) (p + 1) := by
  have e5 : σ 5 = ξ 5 := h.1 5 (by omega)
  have e6 : σ 6 = ξ 6 := h.1 6 (by omega)
  have e6' : x_nw σ p (σ 5 p) 6 p = ξ 6 p := by rw [x_nw_k (by decide), e6]
  have hS := h.g.S
  have ek : x_nw σ p (σ 5 p) 1000 p = ξ 5 p := (q_us_s _ _ _).trans (by rw [e5])
  rw [e6']
  refine ⟨fun k hk9 => ?_, x_sf_G h.g, ?_, fun q q0 q1 => ?_, fun q q0 q1 => ?_⟩
  · rw [x_sf_k (by omega) (by omega) (by omega) (by omega) (by omega) (by omega), x_nw_k (by omega)]
    exact h.1 k hk9
  · rw [x_sf_8, x_sf_k (k := 7) (by omega) (by omega) (by omega) (by omega) (by omega) (by omega), x_nw_k (by decide), x_nw_k (by decide)]
    exact h.2.2.1
  · by_cases e : q = p
    · rw [e, q_us_s]
    · rw [q_us_n e]
      exact h.2.2.2.1 q q0 (by omega)
  · rw [x_sf_1000 h5, x_sf_1005 h0, x_sf_11]
    by_cases e : q = p
    · rw [e, q_us_s, q_us_s]
      exact ⟨ek, rfl, rfl, x_sf_Pt h0 h5 (by rw [ek]; exact hk) hv (by omega)⟩
    · have hq := h.2.2.2.2 q q0 (by omega)
      rw [q_us_n e, q_us_n e, x_nw_k (j := 11) (by decide)]
      have a0 : x_nw σ p (σ 5 p) 1000 q = σ 1000 q := q_us_n e
      have a3 : x_nw σ p (σ 5 p) 1003 q = σ 1003 q := q_us_n e
      have a4 : x_nw σ p (σ 5 p) 1004 q = σ 1004 q := q_us_n e
      have a5 : x_nw σ p (σ 5 p) 1005 q = σ 1005 q := q_us_n e
      refine ⟨a0.trans hq.1, a5.trans hq.2.1, hq.2.2.1, x_sf_Pq h0 h5 q0 (by omega) e ?_⟩
      have e0 : x_fp (x_nw σ p (σ 5 p)) q = x_fp σ q := by
        unfold x_fp
        rw [a0, a5, x_nw_k (by decide)]
      unfold x_Pt
      rw [e0, a0, a3, a4, a5, x_nw_k (j := 8) (by decide), x_nw_k (j := 26 + q.toNat) (by omega), x_nw_k (j := 20 + q.toNat) (by omega)]
      exact hq.2.2.2
theorem x_bg.z {ξ : m_S} {n : Nat} {g : Int → Option Nat} (h : z_WN (ξ 4 0) (ξ 4 1)) {f : Int → Int} (hf : f 0 = ξ 4 2) : x_bg ξ (m_u (x_mk ξ (ξ 4 0) (ξ 4 1)) 7 f) n g 0 := by
  refine ⟨fun k hk => ?_, ?_, ⟨rfl, rfl, hf⟩, fun q q0 q1 => by omega, fun q q0 q1 => by omega⟩
  · rw [m_un (by omega)]
    unfold x_mk
    rw [m_un (by omega), m_un (by omega)]
  · exact x_mk_G (ξ := ξ) h
