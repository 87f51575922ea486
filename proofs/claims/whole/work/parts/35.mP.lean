/-! turns: the number whose notches are how far up each wheel goes -/
def z_hk (N : Int) (u : Int → Int) : Nat → Int
  | 0 => 0
  | k + 1 => z_hk N u k * N + u k
def z_hn (N : Int) (u : Int → Int) (n : Int) : Int := z_hk N u n.toNat
theorem z_hn_0 (N : Int) (u : Int → Int) : z_hn N u 0 = 0 := rfl
theorem z_hn_s (N : Int) (u : Int → Int) {n : Int} (h : 0 ≤ n) : z_hn N u (n + 1) = z_hn N u n * N + u n := by
  unfold z_hn
  rw [show (n + 1).toNat = n.toNat + 1 by omega]
  show z_hk N u n.toNat * N + u (n.toNat : Int) = _
  rw [show (n.toNat : Int) = n by omega]
theorem z_hk_c {N : Int} {u v : Int → Int} : ∀ k : Nat, (∀ j : Int, 0 ≤ j → j < k → u j = v j) → z_hk N u k = z_hk N v k
  | 0, _ => rfl
  | k + 1, h => by
    show z_hk N u k * N + u k = z_hk N v k * N + v k
    rw [z_hk_c k (fun j h0 h1 => h j h0 (by omega)), h k (by omega) (by omega)]
theorem z_hn_c {N : Int} {u v : Int → Int} {n : Int} (h : ∀ j : Int, 0 ≤ j → j < n → u j = v j) : z_hn N u n = z_hn N v n := z_hk_c n.toNat (fun j h0 h1 => h j h0 (by omega))
theorem z_p_c {f g : Int → Int} : ∀ k : Nat, (∀ j : Int, 0 ≤ j → j < k → f j = g j) → z_p f k = z_p g k
  | 0, _ => rfl
  | k + 1, h => by
    show z_p f k * f k = z_p g k * g k
    rw [z_p_c k (fun j h0 h1 => h j h0 (by omega)), h k (by omega) (by omega)]
theorem z_prod_c {f g : Int → Int} {n : Int} (h : ∀ j : Int, 0 ≤ j → j < n → f j = g j) : z_prod f n = z_prod g n := z_p_c n.toNat (fun j h0 h1 => h j h0 (by omega))
theorem z_dm {a : Int} (h : 0 ≤ a) (p N : Int) (hp : 0 ≤ p) : (a.tdiv p).tmod N = a / p % N := by
  rw [Int.tdiv_eq_ediv_of_nonneg h, Int.tmod_eq_emod_of_nonneg (Int.ediv_nonneg h hp)]
/-- wheels and notches as they may be -/
def z_WN (W N : Int) : Prop := (1 ≤ W ∧ W ≤ 3) ∧ (4 ≤ N ∧ N ≤ 6)
theorem z_hn_r {W N : Int} (h : z_WN W N) {u : Int → Int} (hu : ∀ w, 0 ≤ w → w < W → 0 ≤ u w ∧ u w < N) : 0 ≤ z_hn N u W ∧ z_hn N u W < z_pw N W := by
  obtain ⟨hW, hN⟩ := h
  have u0 := hu 0 (by omega) (by omega)
  rcases (show W = 1 ∨ W = 2 ∨ W = 3 by omega) with rfl | rfl | rfl
  · rw [show z_hn N u 1 = 0 * N + u 0 from rfl, show z_pw N 1 = 1 * N from rfl]
    omega
  · have u1 := hu 1 (by omega) (by omega)
    rw [show z_hn N u 2 = (0 * N + u 0) * N + u 1 from rfl, show z_pw N 2 = 1 * N * N from rfl]
    rcases (show N = 4 ∨ N = 5 ∨ N = 6 by omega) with rfl | rfl | rfl <;> omega
  · have u1 := hu 1 (by omega) (by omega)
    have u2 := hu 2 (by omega) (by omega)
    rw [show z_hn N u 3 = ((0 * N + u 0) * N + u 1) * N + u 2 from rfl, show z_pw N 3 = 1 * N * N * N from rfl]
    rcases (show N = 4 ∨ N = 5 ∨ N = 6 by omega) with rfl | rfl | rfl <;> omega
theorem z_nt_hn {W N : Int} (h : z_WN W N) {u : Int → Int} (hu : ∀ w, 0 ≤ w → w < W → 0 ≤ u w ∧ u w < N) {v : Int} (h0 : 0 ≤ v) (h1 : v < W) : z_nt W N (z_hn N u W) v = u v := by
  have hr := (z_hn_r h hu).1
  obtain ⟨hW, hN⟩ := h
  have u0 := hu 0 (by omega) (by omega)
  have hp := (z_pw_r hN (n := W - 1 - v) (by omega) (by omega)).1
  unfold z_nt
  rw [z_dm hr _ _ (by omega)]
  rcases (show W = 1 ∨ W = 2 ∨ W = 3 by omega) with rfl | rfl | rfl
  · obtain rfl : v = 0 := by omega
    rw [show z_hn N u 1 = 0 * N + u 0 from rfl, show z_pw N (1 - 1 - 0) = 1 from rfl]
    rcases (show N = 4 ∨ N = 5 ∨ N = 6 by omega) with rfl | rfl | rfl <;> omega
  · have u1 := hu 1 (by omega) (by omega)
    rw [show z_hn N u 2 = (0 * N + u 0) * N + u 1 from rfl]
    rcases (show v = 0 ∨ v = 1 by omega) with rfl | rfl
    · rw [show z_pw N (2 - 1 - 0) = 1 * N from rfl]
      rcases (show N = 4 ∨ N = 5 ∨ N = 6 by omega) with rfl | rfl | rfl <;> omega
    · rw [show z_pw N (2 - 1 - 1) = 1 from rfl]
      rcases (show N = 4 ∨ N = 5 ∨ N = 6 by omega) with rfl | rfl | rfl <;> omega
  · have u1 := hu 1 (by omega) (by omega)
    have u2 := hu 2 (by omega) (by omega)
    rw [show z_hn N u 3 = ((0 * N + u 0) * N + u 1) * N + u 2 from rfl]
    rcases (show v = 0 ∨ v = 1 ∨ v = 2 by omega) with rfl | rfl | rfl
    · rw [show z_pw N (3 - 1 - 0) = 1 * N * N from rfl]
      rcases (show N = 4 ∨ N = 5 ∨ N = 6 by omega) with rfl | rfl | rfl <;> omega
    · rw [show z_pw N (3 - 1 - 1) = 1 * N from rfl]
      rcases (show N = 4 ∨ N = 5 ∨ N = 6 by omega) with rfl | rfl | rfl <;> omega
    · rw [show z_pw N (3 - 1 - 2) = 1 from rfl]
      rcases (show N = 4 ∨ N = 5 ∨ N = 6 by omega) with rfl | rfl | rfl <;> omega
theorem z_hn_nt {W N : Int} (h : z_WN W N) {s : Int} (h0 : 0 ≤ s) (h1 : s < z_pw N W) : z_hn N (fun w => z_nt W N s w) W = s := by
  obtain ⟨hW, hN⟩ := h
  have e : ∀ w, 0 ≤ w → w < W → z_nt W N s w = s / z_pw N (W - 1 - w) % N := fun w g0 g1 => by
    unfold z_nt
    exact z_dm h0 _ _ (by have := (z_pw_r hN (n := W - 1 - w) (by omega) (by omega)).1; omega)
  rw [z_hn_c e]
  rcases (show W = 1 ∨ W = 2 ∨ W = 3 by omega) with rfl | rfl | rfl
  · show 0 * N + s / (1 : Int) % N = s
    have h1' : s < 1 * N := h1
    rcases (show N = 4 ∨ N = 5 ∨ N = 6 by omega) with rfl | rfl | rfl <;> omega
  · show (0 * N + s / (1 * N) % N) * N + s / (1 : Int) % N = s
    have h1' : s < 1 * N * N := h1
    rcases (show N = 4 ∨ N = 5 ∨ N = 6 by omega) with rfl | rfl | rfl <;> omega
  · show ((0 * N + s / (1 * N * N) % N) * N + s / (1 * N) % N) * N + s / (1 : Int) % N = s
    have h1' : s < 1 * N * N * N := h1
    rcases (show N = 4 ∨ N = 5 ∨ N = 6 by omega) with rfl | rfl | rfl <;> omega
theorem z_nt_in {W N : Int} (h : z_WN W N) {s : Int} (hs : 0 ≤ s) {w : Int} (h0 : 0 ≤ w) (h1 : w < W) : 0 ≤ z_nt W N s w ∧ z_nt W N s w < N := z_nt_r h.2.1 hs (z_pw_r h.2 (n := W - 1 - w) (by omega) (by have := h.1; omega)).1
theorem z_up_e {W N : Int} (h : z_WN W N) {c s : Int} (hc : 0 ≤ c) (hs : 0 ≤ s) {w : Int} (h0 : 0 ≤ w) (h1 : w < W) : z_up W N w c s = if z_nt W N s w - z_nt W N c w < 0 then z_nt W N s w - z_nt W N c w + N else z_nt W N s w - z_nt W N c w := by
  have a := z_nt_in h hs h0 h1
  have b := z_nt_in h hc h0 h1
  unfold z_up
  rw [Int.tmod_eq_emod_of_nonneg (by omega)]
  obtain ⟨-, hN⟩ := h
  generalize z_nt W N s w = x at *
  generalize z_nt W N c w = y at *
  split <;> rcases (show N = 4 ∨ N = 5 ∨ N = 6 by omega) with rfl | rfl | rfl <;> omega
def z_tn (W N c s : Int) : Int := z_hn N (fun w => z_up W N w c s) W
def z_dn (W N c t w : Int) : Int := if z_nt W N c w + z_nt W N t w < N then z_nt W N c w + z_nt W N t w else z_nt W N c w + z_nt W N t w - N
def z_td (W N c t : Int) : Int := z_hn N (fun w => z_dn W N c t w) W
theorem z_dn_r {W N : Int} (h : z_WN W N) {c t : Int} (hc : 0 ≤ c) (ht : 0 ≤ t) {w : Int} (h0 : 0 ≤ w) (h1 : w < W) : 0 ≤ z_dn W N c t w ∧ z_dn W N c t w < N := by
  have a := z_nt_in h ht h0 h1
  have b := z_nt_in h hc h0 h1
  unfold z_dn
  split <;> omega
theorem z_tn_r {W N : Int} (h : z_WN W N) {c s : Int} (hc : 0 ≤ c) (hs : 0 ≤ s) : 0 ≤ z_tn W N c s ∧ z_tn W N c s < z_pw N W := z_hn_r h (fun w h0 h1 => z_up_r h.1.2 h.2 hc hs h0 h1)
theorem z_td_r {W N : Int} (h : z_WN W N) {c t : Int} (hc : 0 ≤ c) (ht : 0 ≤ t) : 0 ≤ z_td W N c t ∧ z_td W N c t < z_pw N W := z_hn_r h (fun w h0 h1 => z_dn_r h hc ht h0 h1)
theorem z_nt_tn {W N : Int} (h : z_WN W N) {c s : Int} (hc : 0 ≤ c) (hs : 0 ≤ s) {w : Int} (h0 : 0 ≤ w) (h1 : w < W) : z_nt W N (z_tn W N c s) w = z_up W N w c s := z_nt_hn h (fun w h0 h1 => z_up_r h.1.2 h.2 hc hs h0 h1) h0 h1
theorem z_nt_td {W N : Int} (h : z_WN W N) {c t : Int} (hc : 0 ≤ c) (ht : 0 ≤ t) {w : Int} (h0 : 0 ≤ w) (h1 : w < W) : z_nt W N (z_td W N c t) w = z_dn W N c t w := z_nt_hn h (fun w h0 h1 => z_dn_r h hc ht h0 h1) h0 h1
theorem z_tn_td {W N : Int} (h : z_WN W N) {c t : Int} (hc : 0 ≤ c) (ht : 0 ≤ t) (ht1 : t < z_pw N W) : z_tn W N c (z_td W N c t) = t := by
  refine Eq.trans ?_ (z_hn_nt h ht ht1)
  unfold z_tn
  refine z_hn_c (fun w h0 h1 => ?_)
  rw [z_up_e h hc (z_td_r h hc ht).1 h0 h1, z_nt_td h hc ht h0 h1]
  have a := z_nt_in h ht h0 h1
  have b := z_nt_in h hc h0 h1
  unfold z_dn
  (repeat' split) <;> omega
theorem z_td_tn {W N : Int} (h : z_WN W N) {c s : Int} (hc : 0 ≤ c) (hs : 0 ≤ s) (hs1 : s < z_pw N W) : z_td W N c (z_tn W N c s) = s := by
  refine Eq.trans ?_ (z_hn_nt h hs hs1)
  unfold z_td
  refine z_hn_c (fun w h0 h1 => ?_)
  have a := z_nt_in h hs h0 h1
  have b := z_nt_in h hc h0 h1
  unfold z_dn
  rw [z_nt_tn h hc hs h0 h1, z_up_e h hc hs h0 h1]
  (repeat' split) <;> omega
theorem z_nt_0 {W N : Int} (w : Int) : z_nt W N 0 w = 0 := by
  unfold z_nt
  simp
theorem z_up_0 {W N : Int} (h : z_WN W N) {t : Int} (ht : 0 ≤ t) {w : Int} (h0 : 0 ≤ w) (h1 : w < W) : z_up W N w 0 t = z_nt W N t w := by
  have a := z_nt_in h ht h0 h1
  rw [z_up_e h (Int.le_refl 0) ht h0 h1, z_nt_0]
  split <;> omega
theorem z_ways_tn {W N : Int} (h : z_WN W N) (k f : Int) {c s : Int} (hc : 0 ≤ c) (hs : 0 ≤ s) : z_ways k f W N c s = z_ways k f W N 0 (z_tn W N c s) := by
  have e : ∀ w, 0 ≤ w → w < W → z_up W N w 0 (z_tn W N c s) = z_up W N w c s := fun w h0 h1 => by rw [z_up_0 h (z_tn_r h hc hs).1 h0 h1, z_nt_tn h hc hs h0 h1]
  unfold z_ways z_aw
  rw [z_prod_c (n := W) (f := fun w => z_ww k f W N w (z_up W N w 0 (z_tn W N c s))) (g := fun w => z_ww k f W N w (z_up W N w c s)) (fun w h0 h1 => by show z_ww k f W N w _ = z_ww k f W N w _; rw [e w h0 h1]), z_sum_c (n := W) (f := fun w => if z_up W N w 0 (z_tn W N c s) = 0 then 0 else 1) (g := fun w => if z_up W N w c s = 0 then 0 else 1) (fun w h0 h1 => by show (if z_up W N w 0 (z_tn W N c s) = 0 then (0:Int) else 1) = _; rw [e w h0 h1]), z_sum_c (n := W) (f := fun w => z_up W N w 0 (z_tn W N c s)) (g := fun w => z_up W N w c s) e]
theorem z_sum_add (f g : Int → Int) : ∀ k : Nat, z_s (fun j => f j + g j) k = z_s f k + z_s g k
  | 0 => rfl
  | k + 1 => by
    show z_s (fun j => f j + g j) k + (f k + g k) = z_s f k + f k + (z_s g k + g k)
    rw [z_sum_add f g k]
    omega
theorem z_s_z : ∀ k : Nat, z_s (fun _ => 0) k = 0
  | 0 => rfl
  | k + 1 => by
    show z_s (fun _ => 0) k + 0 = 0
    rw [z_s_z k]
    rfl
theorem z_s_swap (F : Int → Int → Int) (m : Nat) : ∀ k : Nat, z_s (fun i => z_s (fun j => F i j) m) k = z_s (fun j => z_s (fun i => F i j) k) m
  | 0 => (z_s_z m).symm
  | k + 1 => by
    show z_s (fun i => z_s (fun j => F i j) m) k + z_s (fun j => F k j) m = z_s (fun j => z_s (fun i => F i j) k + F k j) m
    rw [z_sum_add, z_s_swap F m k]
theorem z_sum_swap (F : Int → Int → Int) (k m : Int) : z_sum (fun i => z_sum (fun j => F i j) m) k = z_sum (fun j => z_sum (fun i => F i j) k) m := z_s_swap F m.toNat k.toNat
theorem z_s_one (a : Int) (x : Int → Int) : ∀ k : Nat, 0 ≤ a → z_s (fun j => if j = a then x j else 0) k = if a < k then x a else 0
  | 0, h => by
    rw [if_neg (by omega)]
    rfl
  | k + 1, h => by
    show z_s (fun j => if j = a then x j else 0) k + (if (k : Int) = a then x k else 0) = _
    rw [z_s_one a x k h]
    by_cases e : (k : Int) = a
    · rw [if_neg (by omega), if_pos e, if_pos (by omega), e]
      omega
    · rw [if_neg e, Int.add_zero]
      by_cases e2 : a < k
      · rw [if_pos e2, if_pos (by omega)]
      · rw [if_neg e2, if_neg (by omega)]
theorem z_sum_one {a : Int} (x : Int → Int) {n : Int} (h0 : 0 ≤ a) (h1 : a < n) : z_sum (fun j => if j = a then x j else 0) n = x a := by
  unfold z_sum
  rw [z_s_one a x n.toNat h0, if_pos (by omega)]
/-- a sum goes the same way by turns as by settings -/
theorem z_sum_bij {S : Int} {a b : Int → Int} (F : Int → Int) (ha : ∀ s, 0 ≤ s → s < S → 0 ≤ a s ∧ a s < S) (hb : ∀ t, 0 ≤ t → t < S → 0 ≤ b t ∧ b t < S) (hab : ∀ t, 0 ≤ t → t < S → a (b t) = t) (hba : ∀ s, 0 ≤ s → s < S → b (a s) = s) : z_sum (fun s => F (a s)) S = z_sum F S := by
  have e1 : z_sum (fun s => F (a s)) S = z_sum (fun s => z_sum (fun t => if t = a s then F t else 0) S) S := z_sum_c (fun s h0 h1 => by
    show F (a s) = _
    exact (z_sum_one F (ha s h0 h1).1 (ha s h0 h1).2).symm)
  rw [e1, z_sum_swap]
  refine z_sum_c (fun t h0 h1 => ?_)
  show z_sum (fun s => if t = a s then F t else 0) S = F t
  refine Eq.trans ?_ (z_sum_one (a := b t) (fun _ => F t) (hb t h0 h1).1 (hb t h0 h1).2)
  refine z_sum_c (fun s g0 g1 => ?_)
  show (if t = a s then F t else 0) = if s = b t then F t else 0
  by_cases e : t = a s
  · rw [if_pos e, if_pos (by rw [e]; exact (hba s g0 g1).symm)]
  · rw [if_neg e, if_neg (fun e2 => e (by rw [e2]; exact (hab t h0 h1).symm))]
theorem z_sum_tn {W N : Int} (h : z_WN W N) {c : Int} (hc : 0 ≤ c) (F : Int → Int) : z_sum (fun s => F (z_tn W N c s)) (z_pw N W) = z_sum F (z_pw N W) :=
  z_sum_bij (b := fun t => z_td W N c t) F (fun s h0 h1 => z_tn_r h hc h0) (fun t h0 h1 => z_td_r h hc h0) (fun t h0 h1 => z_tn_td h hc h0 h1) (fun s h0 h1 => z_td_tn h hc h0 h1)
theorem z_sum_w0 : ∀ k : Fin 6, ∀ f : Fin 3, ∀ W : Fin 3, ∀ N : Fin 3, z_sum (fun t => z_ways (k.val : Int) ((f.val : Int) + 1) ((W.val : Int) + 1) ((N.val : Int) + 4) 0 t) (z_pw ((N.val : Int) + 4) ((W.val : Int) + 1)) = z_in (k.val : Int) ((f.val : Int) + 1) ((W.val : Int) + 1) (z_pw ((N.val : Int) + 4) ((W.val : Int) + 1)) := by decide +kernel
theorem z_sum_0in {W N : Int} (h : z_WN W N) {k f : Int} (hk : 0 ≤ k ∧ k ≤ 5) (hf : 1 ≤ f ∧ f ≤ 3) : z_sum (fun t => z_ways k f W N 0 t) (z_pw N W) = z_in k f W (z_pw N W) := by
  obtain ⟨hW, hN⟩ := h
  have e := z_sum_w0 ⟨k.toNat, by omega⟩ ⟨(f - 1).toNat, by omega⟩ ⟨(W - 1).toNat, by omega⟩ ⟨(N - 4).toNat, by omega⟩
  dsimp only at e
  rw [show (k.toNat : Int) = k by omega, show ((f - 1).toNat : Int) + 1 = f by omega, show ((W - 1).toNat : Int) + 1 = W by omega, show ((N - 4).toNat : Int) + 4 = N by omega] at e
  exact e
theorem z_sum_win {W N : Int} (h : z_WN W N) {k f : Int} (hk : 0 ≤ k ∧ k ≤ 5) (hf : 1 ≤ f ∧ f ≤ 3) {c : Int} (hc : 0 ≤ c) : z_sum (fun s => z_ways k f W N c s) (z_pw N W) = z_in k f W (z_pw N W) := by
  rw [← z_sum_0in h hk hf, ← z_sum_tn h hc (fun t => z_ways k f W N 0 t)]
  exact z_sum_c (fun s h0 h1 => z_ways_tn h k f hc h0)
