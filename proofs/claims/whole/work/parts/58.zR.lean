/-! what holds between the reference's state and the class's -/
def z_nn (x : Int) : Int := if x < 0 then -1 else x
theorem z_wk_c {kd fl kd' fl' dw dv dw' dv' : Int → Int} {W N c : Int} : ∀ k : Nat, (∀ d : Int, 0 ≤ d → d < k → dv' d = dv d ∧ ((dw d < 0 ∧ dw' d < 0) ∨ (0 ≤ dw d ∧ dw' d = dw d ∧ kd' (dw d) = kd (dw d) ∧ fl' (dw d) = fl (dw d)))) → z_wk kd' fl' W N dw' dv' c k = z_wk kd fl W N dw dv c k
  | 0, _ => rfl
  | k + 1, h => by
    have ih : z_wk kd' fl' W N dw' dv' c k = z_wk kd fl W N dw dv c k := z_wk_c k (fun d h0 h1 => h d h0 (by omega))
    have hk := h k (by omega) (by omega)
    show z_w1 kd' fl' W N (z_wk kd' fl' W N dw' dv' c k) (dw' k) (dv' k) c = z_w1 kd fl W N (z_wk kd fl W N dw dv c k) (dw k) (dv k) c
    rw [ih, hk.1]
    unfold z_w1
    rcases hk.2 with q | q
    · rw [if_pos q.1, if_pos q.2]
    · rw [if_neg (show ¬ dw k < 0 by omega), if_neg (show ¬ dw' k < 0 by omega), q.2.1, q.2.2.1, q.2.2.2]
theorem z_wt_c {kd fl kd' fl' dw dv dw' dv' : Int → Int} {W N c k : Int} (h : ∀ d : Int, 0 ≤ d → d < k → dv' d = dv d ∧ ((dw d < 0 ∧ dw' d < 0) ∨ (0 ≤ dw d ∧ dw' d = dw d ∧ kd' (dw d) = kd (dw d) ∧ fl' (dw d) = fl (dw d)))) : z_wt kd' fl' W N dw' dv' c k = z_wt kd fl W N dw dv c k := z_wk_c k.toNat (fun d h0 h1 => h d h0 (by omega))
theorem z_w1_pos {kd fl : Int → Int} {W N x o t c : Int} (hx : 0 ≤ x) (h : 0 < z_w1 kd fl W N x o t c) : 0 < x := by
  unfold z_w1 at h
  by_cases h1 : o < 0
  · rw [if_pos h1] at h
    split at h <;> omega
  · rw [if_neg h1] at h
    rcases (show x = 0 ∨ 0 < x by omega) with e | e
    · rw [e, Int.zero_mul] at h
      omega
    · exact e
theorem z_wk_dn {kd fl dw dv : Int → Int} {W N c : Int} (hW : 1 ≤ W ∧ W ≤ 3) {j : Nat} : ∀ i : Nat, 0 < z_wk kd fl W N dw dv c (j + i) → 0 < z_wk kd fl W N dw dv c j
  | 0, h => h
  | i + 1, h => z_wk_dn hW i (z_w1_pos (z_wk_r (kd := kd) (fl := fl) (N := N) (dw := dw) (dv := dv) c hW (j + i)).1 h)
theorem z_wt_dn {kd fl dw dv : Int → Int} {W N c j k : Int} (hW : 1 ≤ W ∧ W ≤ 3) (hjk : j ≤ k) (h : 0 < z_wt kd fl W N dw dv c k) : 0 < z_wt kd fl W N dw dv c j := by
  unfold z_wt at h ⊢
  refine z_wk_dn (j := j.toNat) hW (k.toNat - j.toNat) ?_
  rw [show j.toNat + (k.toNat - j.toNat) = k.toNat by omega]
  exact h
theorem z_s_pos (f : Int → Int) : ∀ k : Nat, (∀ j : Int, 0 ≤ j → j < k → 0 ≤ f j) → (0 < z_s f k ↔ ∃ j : Int, 0 ≤ j ∧ j < k ∧ 0 < f j)
  | 0, _ => ⟨fun h => (Int.lt_irrefl 0 h).elim, fun ⟨j, h0, h1, _⟩ => by omega⟩
  | k + 1, h => by
    have ih := z_s_pos f k (fun j h0 h1 => h j h0 (by omega))
    have hk := h k (by omega) (by omega)
    have hn : 0 ≤ z_s f k := by
      by_cases e : 0 < z_s f k
      · omega
      · exact (Nat.rec (motive := fun n => n ≤ k → 0 ≤ z_s f n) (fun _ => Int.le_refl 0) (fun n ihn hle => by
          have h1 := ihn (by omega)
          have h2 := h n (by omega) (by omega)
          show 0 ≤ z_s f n + f n
          omega) k) (Nat.le_refl k)
    show 0 < z_s f k + f k ↔ _
    constructor
    · intro q
      by_cases e : 0 < f k
      · exact ⟨k, by omega, by omega, e⟩
      · obtain ⟨j, h0, h1, h2⟩ := ih.mp (by omega)
        exact ⟨j, h0, by omega, h2⟩
    · rintro ⟨j, h0, h1, h2⟩
      by_cases e : j = k
      · rw [e] at h2; omega
      · have := ih.mpr ⟨j, h0, by omega, h2⟩
        omega
theorem z_sum_pos {f : Int → Int} {n : Int} (h : ∀ j : Int, 0 ≤ j → j < n → 0 ≤ f j) : 0 < z_sum f n ↔ ∃ j : Int, 0 ≤ j ∧ j < n ∧ 0 < f j := by
  have q := z_s_pos f n.toNat (fun j h0 h1 => h j h0 (by omega))
  unfold z_sum
  rw [q]
  constructor
  · rintro ⟨j, h0, h1, h2⟩; exact ⟨j, h0, by omega, h2⟩
  · rintro ⟨j, h0, h1, h2⟩; exact ⟨j, h0, by omega, h2⟩
theorem z_pos_0 {f : Int → Int} {n : Int} : z_pos f n = 0 ↔ ¬ ∃ j : Int, 0 ≤ j ∧ j < n ∧ 0 < f j := by
  have q := z_sum_pos (f := fun c => if 0 < f c then 1 else 0) (n := n) (fun j _ _ => by (try dsimp only); split <;> omega)
  have hr : 0 ≤ z_pos f n := by
    unfold z_pos z_sum
    have := (z_s_b (fun c => if 0 < f c then 1 else 0) 0 1 n.toNat (fun j _ _ => by (try dsimp only); split <;> omega)).1
    omega
  constructor
  · rintro h ⟨j, h0, h1, h2⟩
    have : 0 < z_pos f n := q.mpr ⟨j, h0, h1, by (try dsimp only); rw [if_pos h2]; decide⟩
    omega
  · intro h
    rcases (show z_pos f n = 0 ∨ 0 < z_pos f n by omega) with e | e
    · exact e
    · obtain ⟨j, h0, h1, h2⟩ := q.mp e
      exact absurd ⟨j, h0, h1, by (try dsimp only at h2); split at h2 <;> omega⟩ h
theorem z_pos_c {f g : Int → Int} {n : Int} (h : ∀ j : Int, 0 ≤ j → j < n → f j = g j) : z_pos f n = z_pos g n := by
  unfold z_pos
  exact z_sum_c (fun j h0 h1 => by (try dsimp only); rw [h j h0 h1])
/-! the parts of the relation -/
def z_Ra (μ ξ : m_S) : Prop := (∀ r : Int, 0 ≤ r → r < 6 → (-1 ≤ μ 7 r ∧ μ 7 r ≤ 40) ∧ ξ (32 + 2 * r.toNat) 1 = μ 7 r ∧ ∀ j : Int, 0 ≤ j → j < μ 7 r → ξ (32 + 2 * r.toNat + 1) j = μ 8 (40 * r + j)) ∧ ∀ j, q_r (μ 8 j)
def z_Rb (μ ξ : m_S) : Prop := (∀ t : Int, 0 ≤ t → t < 4 → (-1 ≤ μ 9 t ∧ μ 9 t ≤ 60) ∧ ξ (44 + 2 * t.toNat) 1 = μ 9 t ∧ (∀ j : Int, 0 ≤ j → j < μ 9 t → ξ (44 + 2 * t.toNat + 1) j = μ 10 (60 * t + j)) ∧ ∀ j : Int, -128 ≤ ξ (44 + 2 * t.toNat + 1) j ∧ ξ (44 + 2 * t.toNat + 1) j ≤ 127) ∧ ∀ j, -128 ≤ μ 10 j ∧ μ 10 j ≤ 127
def z_Rc (μ ξ : m_S) : Prop := ξ 0 6 = μ 14 0 ∧ ξ 0 7 = μ 11 0 ∧ ξ 0 8 = μ 12 0 ∧ ξ 0 9 = μ 13 0 ∧ ∀ z : Int, ξ 31 z = μ 15 z
def z_Rd (μ ξ : m_S) (B P : Nat) (g : Int → Option Nat) : Prop :=
  (ξ 7 0 = μ 4 0 ∧ ξ 8 0 = μ 1 0 ∧ ξ 8 1 = μ 2 0 ∧ ξ 8 2 = μ 3 0 ∧ ξ 10 0 = μ 0 0) ∧
  (∀ p : Int, 0 ≤ p → p < μ 4 0 → ξ 1000 p = μ 5 p ∧ ξ 1005 p = μ 0 (1 + p) ∧ ξ 11 p = μ 0 (1 + p)) ∧
  (∀ d : Int, 0 ≤ d → d < μ 0 0 → ξ 12 d = z_nn (μ 0 (6 + d)) ∧ ξ 13 d = μ 0 (22 + d)) ∧
  (∀ c : Int, 0 ≤ c → c < μ 3 0 → ξ 14 c = μ 6 c ∧ μ 6 c = m_Z μ c (μ 0 0)) ∧
  m_Sh μ ∧ m_De μ ∧ (0 < μ 3 0 → ∃ c : Int, 0 ≤ c ∧ c < μ 3 0 ∧ 0 < μ 6 c) ∧
  x_Ps ξ B P g ∧ (∀ p : Int, 0 ≤ p → p < ξ 7 0 → x_Pt ξ p) ∧ (0 < ξ 7 0 → x_G ξ)
def z_Kp (μ ξ : m_S) (k : Int) : Prop := 0 ≤ μ 0 (38 * (1 + k)) ∧ m_G (m_kp μ k) ∧ m_De (m_kp μ k) ∧
  (∀ p : Int, 0 ≤ p → p < μ 4 0 → ξ (52 + 4 * k.toNat + 1) p = μ 0 (38 * (1 + k) + (1 + p))) ∧
  (∀ d : Int, 0 ≤ d → d < μ 0 (38 * (1 + k)) → ξ (52 + 4 * k.toNat + 2) d = z_nn (μ 0 (38 * (1 + k) + (6 + d))) ∧ ξ (52 + 4 * k.toNat + 3) d = μ 0 (38 * (1 + k) + (22 + d))) ∧
  ∃ c : Int, 0 ≤ c ∧ c < μ 3 0 ∧ 0 < m_Z (m_kp μ k) c (m_kp μ k 0 0)
def z_Re (μ ξ : m_S) : Prop := ∀ k : Int, 0 ≤ k → k < 3 → ξ (52 + 4 * k.toNat) 0 = μ 0 (38 * (1 + k)) ∧ (μ 0 (38 * (1 + k)) = -1 ∨ z_Kp μ ξ k)
def z_R (μ ξ : m_S) (B P : Nat) (g : Int → Option Nat) : Prop := z_Ra μ ξ ∧ z_Rb μ ξ ∧ z_Rc μ ξ ∧ z_Rd μ ξ B P g ∧ z_Re μ ξ
theorem z_Ra.c {μ ν ξ σ : m_S} (h : z_Ra μ ξ) (e7 : ν 7 = μ 7) (e8 : ν 8 = μ 8) (ex : ∀ k, 32 ≤ k → k < 44 → σ k = ξ k) : z_Ra ν σ := by
  unfold z_Ra
  rw [e7, e8]
  refine ⟨fun r h0 h1 => ?_, h.2⟩
  rw [ex (32 + 2 * r.toNat) (by omega) (by omega), ex (32 + 2 * r.toNat + 1) (by omega) (by omega)]
  exact h.1 r h0 h1
theorem z_Rb.c {μ ν ξ σ : m_S} (h : z_Rb μ ξ) (e7 : ν 9 = μ 9) (e8 : ν 10 = μ 10) (ex : ∀ k, 44 ≤ k → k < 52 → σ k = ξ k) : z_Rb ν σ := by
  unfold z_Rb
  rw [e7, e8]
  refine ⟨fun r h0 h1 => ?_, h.2⟩
  rw [ex (44 + 2 * r.toNat) (by omega) (by omega), ex (44 + 2 * r.toNat + 1) (by omega) (by omega)]
  exact h.1 r h0 h1
theorem z_Rc.c {μ ν ξ σ : m_S} (h : z_Rc μ ξ) (e : ∀ k, 11 ≤ k → k ≤ 15 → ν k = μ k) (e0 : σ 0 = ξ 0) (e1 : σ 31 = ξ 31) : z_Rc ν σ := by
  unfold z_Rc
  rw [e 11 (by omega) (by omega), e 12 (by omega) (by omega), e 13 (by omega) (by omega), e 14 (by omega) (by omega), e 15 (by omega) (by omega), e0, e1]
  exact h
theorem z_Rd.c {μ ν ξ σ : m_S} {B P : Nat} {g : Int → Option Nat} (h : z_Rd μ ξ B P g) (e : ∀ k, k ≤ 6 → ν k = μ k) (ex : ∀ k, (7 ≤ k ∧ k ≤ 14) ∨ (20 ≤ k ∧ k ≤ 30) ∨ 1000 ≤ k → σ k = ξ k) : z_Rd ν σ B P g := by
  have e0 := e 0 (by omega)
  have e1 := e 1 (by omega)
  have e2 := e 2 (by omega)
  have e3 := e 3 (by omega)
  have e4 := e 4 (by omega)
  have e5 := e 5 (by omega)
  have e6 := e 6 (by omega)
  have hps := h.2.2.2.2.2.2.2.1
  have h5 : ξ 7 0 ≤ 5 := by have h1 := hps.2.1; have h2 := hps.2.2.1; omega
  have x7 := ex 7 (by omega)
  refine ⟨?_, ?_, ?_, ?_, ?_, ?_, ?_, ?_, ?_, ?_⟩
  · rw [x7, ex 8 (by omega), ex 10 (by omega), e4, e1, e2, e3, e0]; exact h.1
  · rw [ex 1000 (by omega), ex 1005 (by omega), ex 11 (by omega), e4, e5, e0]; exact h.2.1
  · rw [ex 12 (by omega), ex 13 (by omega), e0]; exact h.2.2.1
  · rw [ex 14 (by omega), e3, e6, e0]
    unfold m_Z m_fl m_dw m_dv
    rw [e0, e1, e2, e5]
    exact h.2.2.2.1
  · unfold m_Sh m_G
    rw [e0, e1, e2, e3, e4, e5]
    exact h.2.2.2.2.1
  · unfold m_De
    rw [e0, e3, e4]
    exact h.2.2.2.2.2.1
  · rw [e3, e6]; exact h.2.2.2.2.2.2.1
  · unfold x_Ps
    rw [x7]
    exact hps
  · rw [x7]
    exact fun p h0 h1 => (h.2.2.2.2.2.2.2.2.1 p h0 h1).c (by omega) (fun k hk => ex k (by omega))
  · rw [x7]
    exact fun q => (h.2.2.2.2.2.2.2.2.2 q).c (ex 8 (by omega)) (ex 9 (by omega))
theorem m_G.c2 {μ ν : m_S} (h : m_G μ) (e : ∀ k, 1 ≤ k → k ≤ 5 → ν k = μ k) (e0 : ∀ j : Int, 0 ≤ j → j < 38 → ν 0 j = μ 0 j) : m_G ν := by
  unfold m_G
  rw [e 1 (by omega) (by omega), e 2 (by omega) (by omega), e 3 (by omega) (by omega), e 4 (by omega) (by omega), e 5 (by omega) (by omega)]
  refine ⟨h.1, h.2.1, h.2.2.1, h.2.2.2.1, fun p h0 h1 => ?_⟩
  have := h.2.2.2.1
  rw [e0 (1 + p) (by omega) (by omega)]
  exact h.2.2.2.2 p h0 h1
theorem m_De.c2 {μ ν : m_S} (h : m_De μ) (e : ∀ k, 1 ≤ k → k ≤ 5 → ν k = μ k) (e0 : ∀ j : Int, 0 ≤ j → j < 38 → ν 0 j = μ 0 j) : m_De ν := by
  have h16 := h.1
  unfold m_De
  rw [e0 0 (by omega) (by omega), e 3 (by omega) (by omega), e 4 (by omega) (by omega)]
  refine ⟨h.1, fun d h0 h1 => ?_⟩
  rw [e0 (6 + d) (by omega) (by omega), e0 (22 + d) (by omega) (by omega)]
  exact h.2 d h0 h1
theorem m_Z.c2 {μ ν : m_S} (h : m_De μ) (h5 : μ 4 0 ≤ 5) (e : ∀ k, 1 ≤ k → k ≤ 5 → ν k = μ k) (e0 : ∀ j : Int, 0 ≤ j → j < 38 → ν 0 j = μ 0 j) (c : Int) {k : Int} (hk : k ≤ μ 0 0) : m_Z ν c k = m_Z μ c k := by
  have h16 := h.1
  unfold m_Z
  rw [e 1 (by omega) (by omega), e 2 (by omega) (by omega)]
  refine z_wt_c (fun d h0 h1 => ?_)
  have hd := h.2 d h0 (by omega)
  unfold m_dv m_dw m_fl
  rw [e0 (6 + d) (by omega) (by omega), e0 (22 + d) (by omega) (by omega), e 5 (by omega) (by omega)]
  refine ⟨rfl, ?_⟩
  rcases hd.1 with q | q
  · exact Or.inl ⟨by omega, by omega⟩
  · exact Or.inr ⟨q.1, rfl, rfl, e0 _ (by omega) (by omega)⟩
theorem z_Re.c2 {μ ν ξ σ : m_S} (h : z_Re μ ξ) (e : ∀ k, 1 ≤ k → k ≤ 5 → ν k = μ k) (e0 : ∀ j : Int, 38 ≤ j → j < 152 → ν 0 j = μ 0 j) (ex : ∀ k, 52 ≤ k → k < 64 → σ k = ξ k) : z_Re ν σ := by
  intro k h0 h1
  have hk := h k h0 h1
  rw [ex (52 + 4 * k.toNat) (by omega) (by omega), e0 (38 * (1 + k)) (by omega) (by omega)]
  refine ⟨hk.1, ?_⟩
  rcases hk.2 with q | q
  · exact Or.inl q
  · right
    obtain ⟨q0, q1, q2, q3, q4, q5⟩ := q
    have f0 : ∀ j : Int, 0 ≤ j → j < 38 → m_kp ν k 0 j = m_kp μ k 0 j := fun j g0 g1 => e0 (38 * (1 + k) + j) (by omega) (by omega)
    have fe : ∀ j, 1 ≤ j → j ≤ 5 → m_kp ν k j = m_kp μ k j := fun j g0 g1 => by
      unfold m_kp
      rw [m_un (by omega), m_un (by omega)]
      exact e j g0 g1
    have h5 : m_kp μ k 4 0 ≤ 5 := q1.2.2.2.1.2
    have h5' : μ 4 0 ≤ 5 := h5
    have h16 : μ 0 (38 * (1 + k)) ≤ 16 := by
      have := q2.1.2
      unfold m_kp at this
      rw [m_us] at this
      rwa [Int.add_zero] at this
    refine ⟨by rw [e0 _ (by omega) (by omega)]; exact q0, q1.c2 fe f0, q2.c2 fe f0, ?_, ?_, ?_⟩
    · rw [e 4 (by omega) (by omega), ex (52 + 4 * k.toNat + 1) (by omega) (by omega)]
      intro p g0 g1
      rw [e0 _ (by omega) (by omega)]
      exact q3 p g0 g1
    · rw [e0 (38 * (1 + k)) (by omega) (by omega), ex (52 + 4 * k.toNat + 2) (by omega) (by omega), ex (52 + 4 * k.toNat + 3) (by omega) (by omega)]
      intro d g0 g1
      rw [e0 (38 * (1 + k) + (6 + d)) (by omega) (by omega), e0 (38 * (1 + k) + (22 + d)) (by omega) (by omega)]
      exact q4 d g0 g1
    · rw [e 3 (by omega) (by omega)]
      obtain ⟨c, g0, g1, g2⟩ := q5
      refine ⟨c, g0, g1, ?_⟩
      rw [f0 0 (by omega) (by omega), m_Z.c2 q2 h5 fe f0 c (Int.le_refl _)]
      exact g2
theorem z_Re.c {μ ν ξ σ : m_S} (h : z_Re μ ξ) (e : ∀ k, k ≤ 5 → ν k = μ k) (ex : ∀ k, 52 ≤ k → k < 64 → σ k = ξ k) : z_Re ν σ := h.c2 (fun k _ h1 => e k h1) (fun j _ _ => by rw [e 0 (by omega)]) ex
/-- what the relation doesn't speak of -/
theorem z_R.c {μ ν ξ σ : m_S} {B P : Nat} {g : Int → Option Nat} (h : z_R μ ξ B P g) (e : ∀ k, k ≤ 15 → ν k = μ k) (ex : ∀ k, k ≠ 4 → k ≠ 5 → k ≠ 6 → k ≠ 15 → k ≠ 16 → k ≠ 17 → σ k = ξ k) : z_R ν σ B P g :=
  ⟨h.1.c (e 7 (by omega)) (e 8 (by omega)) (fun k _ _ => ex k (by omega) (by omega) (by omega) (by omega) (by omega) (by omega)), h.2.1.c (e 9 (by omega)) (e 10 (by omega)) (fun k _ _ => ex k (by omega) (by omega) (by omega) (by omega) (by omega) (by omega)), h.2.2.1.c (fun k _ _ => e k (by omega)) (ex 0 (by omega) (by omega) (by omega) (by omega) (by omega) (by omega)) (ex 31 (by omega) (by omega) (by omega) (by omega) (by omega) (by omega)), h.2.2.2.1.c (fun k _ => e k (by omega)) (fun k _ => ex k (by omega) (by omega) (by omega) (by omega) (by omega) (by omega)), h.2.2.2.2.c (fun k _ => e k (by omega)) (fun k _ _ => ex k (by omega) (by omega) (by omega) (by omega) (by omega) (by omega))⟩
/-- told numbers alone change -/
theorem z_R.c3 {μ ν ξ σ : m_S} {B P : Nat} {g : Int → Option Nat} (h : z_R μ ξ B P g) (h3 : z_Rc ν σ) (e : ∀ k, k ≤ 10 → ν k = μ k) (ex : ∀ k, k ≠ 0 → k ≠ 31 → k ≠ 4 → k ≠ 5 → k ≠ 6 → k ≠ 15 → k ≠ 16 → k ≠ 17 → σ k = ξ k) : z_R ν σ B P g :=
  ⟨h.1.c (e 7 (by omega)) (e 8 (by omega)) (fun k _ _ => ex k (by omega) (by omega) (by omega) (by omega) (by omega) (by omega) (by omega) (by omega)), h.2.1.c (e 9 (by omega)) (e 10 (by omega)) (fun k _ _ => ex k (by omega) (by omega) (by omega) (by omega) (by omega) (by omega) (by omega) (by omega)), h3, h.2.2.2.1.c (fun k _ => e k (by omega)) (fun k _ => ex k (by omega) (by omega) (by omega) (by omega) (by omega) (by omega) (by omega) (by omega)), h.2.2.2.2.c (fun k _ => e k (by omega)) (fun k _ _ => ex k (by omega) (by omega) (by omega) (by omega) (by omega) (by omega) (by omega) (by omega))⟩
section
variable {μ ξ : m_S} {B P : Nat} {g : Int → Option Nat}
theorem z_R.find (h : z_R μ ξ B P g) (z : Int) : z_R (m_find μ z) (x_fi ξ z) B P g := by
  refine h.c3 ?_ (fun k hk => ?_) (fun k h0 h1 _ _ _ _ _ _ => ?_)
  · obtain ⟨q1, q2, q3, q4, q5⟩ := h.2.2.1
    refine ⟨rfl, q2, q3, q4, fun y => ?_⟩
    show q_us (ξ 31) z (ξ 31 z + 1) y = q_us (μ 15) z (μ 15 z + 1) y
    unfold q_us
    rw [q5 z, q5 y]
  · unfold m_find
    rw [m_un (by omega), m_un (by omega)]
  · unfold x_fi
    rw [m_un h1, m_un h0]
theorem z_R.tell (h : z_R μ ξ B P g) (v : Int) : z_R (m_u μ 11 (fun _ => v)) (x_tn ξ v) B P g := by
  refine h.c3 ?_ (fun k hk => m_un (by omega)) (fun k h0 h1 _ _ _ _ _ _ => ?_)
  · obtain ⟨q1, q2, q3, q4, q5⟩ := h.2.2.1
    exact ⟨q1, rfl, q3, q4, q5⟩
  · unfold x_tn
    rw [m_un h0]
theorem z_R.tp (h : z_R μ ξ B P g) (a b : Int) : z_R (m_tp μ a b) (x_tp ξ a b) B P g := by
  refine h.c3 ?_ (fun k hk => ?_) (fun k h0 h1 _ _ _ _ _ _ => ?_)
  · obtain ⟨q1, q2, q3, q4, q5⟩ := h.2.2.1
    exact ⟨q1, q2, rfl, rfl, q5⟩
  · unfold m_tp
    rw [m_un (by omega), m_un (by omega)]
  · unfold x_tp
    rw [m_un h0]
/-! what the relation gives -/
theorem z_R.I (h : z_R μ ξ B P g) : m_I μ := ⟨fun r h0 h5 => (h.1.1 r h0 (by omega)).1, h.1.2, fun t h0 h3 => (h.2.1.1 t h0 (by omega)).1, h.2.1.2⟩
theorem z_R.Sh (h : z_R μ ξ B P g) : m_Sh μ := h.2.2.2.1.2.2.2.2.1
theorem z_R.De (h : z_R μ ξ B P g) : m_De μ := h.2.2.2.1.2.2.2.2.2.1
theorem z_R.n (h : z_R μ ξ B P g) : ξ 7 0 = μ 4 0 ∧ ξ 8 0 = μ 1 0 ∧ ξ 8 1 = μ 2 0 ∧ ξ 8 2 = μ 3 0 ∧ ξ 10 0 = μ 0 0 := h.2.2.2.1.1
theorem z_R.mG (h : z_R μ ξ B P g) (q : 0 < μ 4 0 ∨ 0 < μ 3 0 ∨ 0 < μ 1 0) : m_G μ := h.Sh.g q
theorem z_R.G (h : z_R μ ξ B P g) (q : 0 < ξ 7 0 ∨ 0 < ξ 8 2 ∨ 0 < ξ 8 0) : x_G ξ := by
  have hn := h.n
  have hG := h.mG (by omega)
  have := hG.2.2.2.1
  exact h.2.2.2.1.2.2.2.2.2.2.2.2.2 (by omega)
theorem z_R.Ps (h : z_R μ ξ B P g) : x_Ps ξ B P g := h.2.2.2.1.2.2.2.2.2.2.2.1
theorem z_R.Ts (h : z_R μ ξ B P g) : ∀ p : Int, 0 ≤ p → p < ξ 7 0 → x_Pt ξ p := h.2.2.2.1.2.2.2.2.2.2.2.2.1
theorem z_R.w (h : z_R μ ξ B P g) {c : Int} (h0 : 0 ≤ c) (h1 : c < μ 3 0) : ξ 14 c = μ 6 c := (h.2.2.2.1.2.2.2.1 c h0 h1).1
theorem z_R.Z (h : z_R μ ξ B P g) {c : Int} (h0 : 0 ≤ c) (h1 : c < μ 3 0) : μ 6 c = m_Z μ c (μ 0 0) := (h.2.2.2.1.2.2.2.1 c h0 h1).2
theorem z_R.p (h : z_R μ ξ B P g) {p : Int} (h0 : 0 ≤ p) (h1 : p < μ 4 0) : ξ 1000 p = μ 5 p ∧ ξ 1005 p = μ 0 (1 + p) ∧ ξ 11 p = μ 0 (1 + p) := h.2.2.2.1.2.1 p h0 h1
theorem z_R.d (h : z_R μ ξ B P g) {d : Int} (h0 : 0 ≤ d) (h1 : d < μ 0 0) : ξ 12 d = z_nn (μ 0 (6 + d)) ∧ ξ 13 d = μ 0 (22 + d) := h.2.2.2.1.2.2.1 d h0 h1
theorem z_R.mV (h : z_R μ ξ B P g) : m_V μ := by
  refine ⟨h.Sh.b.2.1, fun c h0 h1 => ?_⟩
  rw [h.Z h0 h1]
  exact z_wt_r c (h.mG (by omega)).1 h.De.1.2
theorem z_R.V (h : z_R μ ξ B P g) : ∀ c, 0 ≤ c → c < ξ 8 2 → 0 ≤ ξ 14 c ∧ ξ 14 c ≤ 4294967296 := fun c h0 h1 => by
  have hn := h.n
  rw [h.w h0 (by omega)]
  exact h.mV.2 c h0 (by omega)
theorem z_R.pos (h : z_R μ ξ B P g) (q : 0 < μ 3 0) : ∃ c : Int, 0 ≤ c ∧ c < μ 3 0 ∧ 0 < μ 6 c := h.2.2.2.1.2.2.2.2.2.2.1 q
theorem z_R.Po (h : z_R μ ξ B P g) : m_Po μ := ⟨h.mV, fun q => (z_sum_pos (fun j h0 h1 => (h.mV.2 j h0 h1).1)).mpr (h.pos q)⟩
theorem z_R.xD (h : z_R μ ξ B P g) : x_De ξ := by
  have hn := h.n
  have hD := h.De
  unfold x_De
  rw [hn.2.2.2.2, hn.1, hn.2.2.2.1]
  refine ⟨hD.1, fun d h0 h1 => ?_⟩
  have hd := h.d h0 h1
  have hm := hD.2 d h0 h1
  rw [hd.1, hd.2]
  unfold z_nn
  refine ⟨?_, hm.2⟩
  split <;> omega
theorem z_R.Ke (h : z_R μ ξ B P g) : m_Ke μ := fun k h0 h1 => by
  rcases (h.2.2.2.2 k h0 (by omega)).2 with q | q
  · exact Or.inl q
  · exact Or.inr ⟨q.1, q.2.1, q.2.2.1⟩
theorem z_R.k (h : z_R μ ξ B P g) {k : Int} (h0 : 0 ≤ k) (h1 : k < 3) : ξ (52 + 4 * k.toNat) 0 = μ 0 (38 * (1 + k)) := (h.2.2.2.2 k h0 h1).1
theorem z_R.kz (h : z_R μ ξ B P g) {k : Int} (h0 : 0 ≤ k) (h1 : k < 3) : -1 ≤ μ 0 (38 * (1 + k)) ∧ μ 0 (38 * (1 + k)) ≤ 16 := by
  rcases (h.2.2.2.2 k h0 h1).2 with q | q
  · omega
  · have h2 := q.2.2.1.1.2
    have h3 := q.1
    unfold m_kp at h2
    rw [m_us, Int.add_zero] at h2
    omega
theorem z_R.rz (h : z_R μ ξ B P g) {r : Int} (h0 : 0 ≤ r) (h1 : r < 6) : (-1 ≤ μ 7 r ∧ μ 7 r ≤ 40) ∧ ξ (32 + 2 * r.toNat) 1 = μ 7 r := ⟨(h.1.1 r h0 h1).1, (h.1.1 r h0 h1).2.1⟩
theorem z_R.ri (h : z_R μ ξ B P g) {r : Int} (h0 : 0 ≤ r) (h1 : r < 6) {j : Int} (h2 : 0 ≤ j) (h3 : j < μ 7 r) : ξ (32 + 2 * r.toNat + 1) j = μ 8 (40 * r + j) := (h.1.1 r h0 h1).2.2 j h2 h3
theorem z_R.tz (h : z_R μ ξ B P g) {r : Int} (h0 : 0 ≤ r) (h1 : r < 4) : (-1 ≤ μ 9 r ∧ μ 9 r ≤ 60) ∧ ξ (44 + 2 * r.toNat) 1 = μ 9 r := ⟨(h.2.1.1 r h0 h1).1, (h.2.1.1 r h0 h1).2.1⟩
theorem z_R.ti (h : z_R μ ξ B P g) {r : Int} (h0 : 0 ≤ r) (h1 : r < 4) {j : Int} (h2 : 0 ≤ j) (h3 : j < μ 9 r) : ξ (44 + 2 * r.toNat + 1) j = μ 10 (60 * r + j) := (h.2.1.1 r h0 h1).2.2.1 j h2 h3
theorem z_R.tb (h : z_R μ ξ B P g) {r : Int} (h0 : 0 ≤ r) (h1 : r < 4) (j : Int) : -128 ≤ ξ (44 + 2 * r.toNat + 1) j ∧ ξ (44 + 2 * r.toNat + 1) j ≤ 127 := (h.2.1.1 r h0 h1).2.2.2 j
theorem z_R.pw (h : z_R μ ξ B P g) {p : Int} (h0 : 0 ≤ p) (h1 : p < μ 4 0) (c s : Int) : z_ways (ξ 1000 p) (ξ 1005 p) (ξ 8 0) (ξ 8 1) c s = m_ways μ p c s := by
  have hn := h.n
  have hp := h.p h0 h1
  rw [hp.1, hp.2.1, hn.2.1, hn.2.2.1]
  rfl
theorem z_R.inn (h : z_R μ ξ B P g) {p : Int} (h0 : 0 ≤ p) (h1 : p < μ 4 0) : ξ 1004 p = m_inall μ p := by
  have hn := h.n
  have hp := h.p h0 h1
  rw [(x_in_r (h.G (by omega)) (h.Ts p h0 (by omega))).2.2, hp.1, hp.2.1, hn.2.1, hn.2.2.2.1]
  rfl
theorem z_R.sum (h : z_R μ ξ B P g) : z_sum (ξ 14) (ξ 8 2) = z_sum (μ 6) (μ 3 0) := by
  rw [h.n.2.2.2.1]
  exact z_sum_c (fun c h0 h1 => h.w h0 h1)
theorem z_R.zpos (h : z_R μ ξ B P g) : z_pos (ξ 14) (ξ 8 2) = z_pos (μ 6) (μ 3 0) := by
  rw [h.n.2.2.2.1]
  exact z_pos_c (fun c h0 h1 => h.w h0 h1)
end
abbrev z_Q (w : q_W) (B P : Nat) (g : Int → Option Nat) (v : Value) (ν : m_S) : Option Value → q_W → Prop := fun v' w' => v' = some v ∧ ∃ σ, w' = x_w w σ B P g ∧ z_R ν σ B P g
