/-! the class: persons -/
theorem z_ways_0 {W N : Int} (h : z_WN W N) {k f t : Int} (ht : 0 ≤ t) (h2 : k ≠ 2) (h3 : k ≠ 3) : z_ways k f W N 0 t = z_prod (fun w => z_ww k f W N w (z_nt W N t w)) W := by
  unfold z_ways
  rw [if_neg h3, if_neg h2]
  exact z_prod_c (fun w h0 h1 => by show z_ww _ _ _ _ _ _ = z_ww _ _ _ _ _ _; rw [z_up_0 h ht h0 h1])
theorem z_la_01 (W N t v : Int) : z_la W N t v = 0 ∨ z_la W N t v = 1 := by
  have h : ∀ k : Nat, z_p (fun w => if z_nt W N t w = 0 then 1 else 0) k = 0 ∨ z_p (fun w => if z_nt W N t w = 0 then 1 else 0) k = 1 := by
    intro k
    induction k with
    | zero => exact Or.inr rfl
    | succ k ih =>
      show z_p (fun w => if z_nt W N t w = 0 then 1 else 0) k * (if z_nt W N t (k : Int) = 0 then 1 else 0) = 0 ∨ z_p (fun w => if z_nt W N t w = 0 then 1 else 0) k * (if z_nt W N t (k : Int) = 0 then 1 else 0) = 1
      split <;> omega
  exact h v.toNat
def z_fst (k W : Int) : Int := if k = 4 then (if W < 2 then 0 else W - 2) else W - 1
theorem z_prod_la {W N : Int} (hW : 1 ≤ W) {k f t : Int} (hk : k = 0 ∨ k = 1 ∨ k = 4) : z_prod (fun w => z_ww k f W N w (z_nt W N t w)) (z_fst k W) = z_la W N t (z_fst k W) := by
  unfold z_la
  refine z_prod_c (fun w h0 h1 => ?_)
  unfold z_fst at h1
  show z_ww k f W N w (z_nt W N t w) = if z_nt W N t w = 0 then 1 else 0
  unfold z_ww
  rcases hk with rfl | rfl | rfl
  · rw [if_neg (by decide), if_neg (by decide), if_neg (by decide), if_neg (by simp at h1; omega)]
  · rw [if_pos rfl, if_neg (by simp at h1; omega)]
  · rw [if_neg (by decide), if_pos rfl, if_neg (by simp at h1; split at h1 <;> omega)]
theorem z_prod_0l {f : Int → Int} {n m : Int} (h0 : 0 ≤ n) (h : n ≤ m) (hz : z_prod f n = 0) : z_prod f m = 0 := by
  have key : ∀ (k : Nat) (j : Nat), z_p f k = 0 → z_p f (k + j) = 0 := by
    intro k j hk
    induction j with
    | zero => exact hk
    | succ j ih => show z_p f (k + j) * f ((k + j : Nat) : Int) = 0; rw [ih, Int.zero_mul]
  have := key n.toNat (m.toNat - n.toNat) hz
  unfold z_prod
  rwa [show n.toNat + (m.toNat - n.toNat) = m.toNat by omega] at this
theorem z_ways_no {W N : Int} (h : z_WN W N) {k f t : Int} (ht : 0 ≤ t) (hk : k = 0 ∨ k = 1 ∨ k = 4) (hz : z_la W N t (z_fst k W) = 0) : z_ways k f W N 0 t = 0 := by
  have hW := h.1
  rw [z_ways_0 h ht (by omega) (by omega)]
  refine z_prod_0l (n := z_fst k W) (by unfold z_fst; (repeat' split) <;> omega) (by unfold z_fst; (repeat' split) <;> omega) ?_
  rw [z_prod_la hW.1 hk, hz]
theorem z_ways_p {W N : Int} (h : z_WN W N) {f t : Int} (ht : 0 ≤ t) : z_ways 0 f W N 0 t = z_la W N t (W - 1) * (if 1 ≤ z_nt W N t (W - 1) ∧ z_nt W N t (W - 1) ≤ f then 1 else 0) := by
  have hW := h.1
  rw [z_ways_0 h ht (by decide) (by decide)]
  have e := z_prod_s (fun w => z_ww 0 f W N w (z_nt W N t w)) (n := W - 1) (by omega)
  rw [show W - 1 + 1 = W by omega] at e
  rw [e]
  have e2 := z_prod_la (N := N) (f := f) (t := t) hW.1 (k := 0) (Or.inl rfl)
  have e3 : z_fst 0 W = W - 1 := by unfold z_fst; rw [if_neg (by decide)]
  rw [e3] at e2
  rw [e2]
  congr 1
  show z_ww 0 f W N (W - 1) (z_nt W N t (W - 1)) = _
  unfold z_ww
  rw [if_neg (by decide), if_neg (by decide), if_neg (by decide), if_pos rfl]
def z_na (f W N t : Int) : Int := z_prod (fun w => if z_nt W N t w ≤ f then 1 else 0) W
theorem z_ways_a {W N : Int} (h : z_WN W N) {f t : Int} (ht : 0 ≤ t) : z_ways 5 f W N 0 t = z_na f W N t := by
  rw [z_ways_0 h ht (by decide) (by decide)]
  refine z_prod_c (fun w h0 h1 => ?_)
  show z_ww 5 f W N w (z_nt W N t w) = if z_nt W N t w ≤ f then 1 else 0
  unfold z_ww
  rw [if_neg (by decide), if_neg (by decide), if_pos rfl]
theorem z_na_01 (f W N t : Int) : z_na f W N t = 0 ∨ z_na f W N t = 1 := by
  have h : ∀ k : Nat, z_p (fun w => if z_nt W N t w ≤ f then 1 else 0) k = 0 ∨ z_p (fun w => if z_nt W N t w ≤ f then 1 else 0) k = 1 := by
    intro k
    induction k with
    | zero => exact Or.inr rfl
    | succ k ih =>
      show z_p (fun w => if z_nt W N t w ≤ f then 1 else 0) k * (if z_nt W N t (k : Int) ≤ f then 1 else 0) = 0 ∨ z_p (fun w => if z_nt W N t w ≤ f then 1 else 0) k * (if z_nt W N t (k : Int) ≤ f then 1 else 0) = 1
      split <;> omega
  exact h W.toNat
theorem z_ways_any {W N : Int} (h : z_WN W N) {f t : Int} (hf : 1 ≤ f) (ht : 0 ≤ t) : z_ways 2 f W N 0 t = if z_sum (fun w => if z_nt W N t w = 0 then 0 else 1) W = 1 ∧ z_na f W N t ≠ 0 then 1 else 0 := by
  have hW := h.1
  unfold z_ways z_aw
  rw [if_neg (by decide), if_pos rfl]
  rw [z_sum_c (n := W) (f := fun w => if z_up W N w 0 t = 0 then 0 else 1) (g := fun w => if z_nt W N t w = 0 then 0 else 1) (fun w h0 h1 => by show (if z_up W N w 0 t = 0 then (0 : Int) else 1) = _; rw [z_up_0 h ht h0 h1]), z_sum_c (n := W) (f := fun w => z_up W N w 0 t) (g := fun w => z_nt W N t w) (fun w h0 h1 => z_up_0 h ht h0 h1)]
  have r0 := z_nt_in h ht (w := 0) (by omega) (by omega)
  have key : z_sum (fun w => if z_nt W N t w = 0 then 0 else 1) W = 1 → (z_sum (fun w => z_nt W N t w) W ≤ f ↔ z_na f W N t ≠ 0) := by
    rcases (show W = 1 ∨ W = 2 ∨ W = 3 by omega) with rfl | rfl | rfl
    · show (0 + if z_nt 1 N t 0 = 0 then (0:Int) else 1) = 1 → (0 + z_nt 1 N t 0 ≤ f ↔ 1 * (if z_nt 1 N t 0 ≤ f then (1:Int) else 0) ≠ 0)
      split <;> split <;> omega
    · have r1 := z_nt_in h ht (w := 1) (by omega) (by omega)
      show (0 + (if z_nt 2 N t 0 = 0 then (0:Int) else 1) + (if z_nt 2 N t 1 = 0 then (0:Int) else 1)) = 1 → (0 + z_nt 2 N t 0 + z_nt 2 N t 1 ≤ f ↔ 1 * (if z_nt 2 N t 0 ≤ f then (1:Int) else 0) * (if z_nt 2 N t 1 ≤ f then (1:Int) else 0) ≠ 0)
      (repeat' split) <;> omega
    · have r1 := z_nt_in h ht (w := 1) (by omega) (by omega)
      have r2 := z_nt_in h ht (w := 2) (by omega) (by omega)
      show (0 + (if z_nt 3 N t 0 = 0 then (0:Int) else 1) + (if z_nt 3 N t 1 = 0 then (0:Int) else 1) + (if z_nt 3 N t 2 = 0 then (0:Int) else 1)) = 1 → (0 + z_nt 3 N t 0 + z_nt 3 N t 1 + z_nt 3 N t 2 ≤ f ↔ 1 * (if z_nt 3 N t 0 ≤ f then (1:Int) else 0) * (if z_nt 3 N t 1 ≤ f then (1:Int) else 0) * (if z_nt 3 N t 2 ≤ f then (1:Int) else 0) ≠ 0)
      (repeat' split) <;> omega
  by_cases c1 : z_sum (fun w => if z_nt W N t w = 0 then 0 else 1) W = 1
  · by_cases c2 : z_na f W N t ≠ 0
    · rw [if_pos ⟨c1, (key c1).mpr c2⟩, if_pos ⟨c1, c2⟩]
    · rw [if_neg (fun q => c2 ((key c1).mp q.2)), if_neg (fun q => c2 q.2)]
  · rw [if_neg (fun q => c1 q.1), if_neg (fun q => c1 q.1)]
set_option maxRecDepth 20000 in
theorem tX5_timesOf (w : q_W) (ξ : m_S) (B P : Nat) (g : Int → Option Nat) (p : Nat) (hB : 64 ≤ B) (hP : p < P) (h5 : p < 5) (t : Int) (ht0 : 0 ≤ t) (ht1 : t < ξ 8 2) (hS : ξ 8 2 ≤ 216) : q_D mX5_timesOf 1 [.ref (B + p), q_i t] (x_w w ξ B P g) (some (q_i (ξ (26 + p) t))) (x_w w ξ B P g) := by
  refine q_T.of (lv := [some (.ref (B + p)), some (q_i t)]) (by decide) rfl (Nat.le_of_ble_eq_true rfl) ?_
  refine q_aload_n dX5_timesOf_0 rfl ?_
  refine q_get (v := .ref 8) (fPX5_21 _) (x_pO hB hP) rfl dX5_timesOf_1 ?_
  refine q_iload_n dX5_timesOf_4 rfl ?_
  refine q_cV [q_i t] kX5_52_10 rfl (tX10_isSetting w ξ B P g t (⟨by omega, by omega⟩) (show 0 ≤ ξ 8 2 ∧ ξ 8 2 ≤ 216 by omega)) dX5_timesOf_5 rfl (by decide) (Nat.le_of_ble_eq_true rfl) rfl ?_
  refine q_ifb_eq (tgt := 29) dX5_timesOf_8 (by decide) (fun h8 => False.elim (by omega)) (fun h8 => ?_)
  refine q_iload_n dX5_timesOf_11 rfl ?_
  refine q_aload_n dX5_timesOf_12 rfl ?_
  refine q_get (v := .ref (26 + p)) (fPX5_29 _) (x_pO hB hP) rfl dX5_timesOf_13 ?_
  refine q_alen (x_ti h5) (by decide) dX5_timesOf_16 ?_
  refine q_icmp_ge (tgt := 29) dX5_timesOf_17 (by decide) ⟨by omega, by omega⟩ ⟨by omega, by omega⟩ (fun h17 => False.elim (by omega)) (fun h17 => ?_)
  refine q_aload_n dX5_timesOf_20 rfl ?_
  refine q_get (v := .ref (26 + p)) (fPX5_29 _) (x_pO hB hP) rfl dX5_timesOf_21 ?_
  refine q_iload_n dX5_timesOf_24 rfl ?_
  refine q_iald (f := (ξ (26 + p))) (n9 := 216) (x_ti h5) (by omega) (by omega) dX5_timesOf_25 ?_
  refine q_goto (tgt := 30) dX5_timesOf_26 (by decide) ?_
  exact q_iret rfl dX5_timesOf_30 (⟨rfl, rfl⟩)
set_option maxRecDepth 20000 in
theorem tX5_countWays (w : q_W) (ξ : m_S) (B P : Nat) (g : Int → Option Nat) (p : Nat) (hB : 64 ≤ B) (hP : p < P) (h5 : p < 5) (t : Int) (ht0 : 0 ≤ t) (ht1 : t < ξ 8 2) (hG : x_G ξ) (hf : 1 ≤ ξ 1005 p ∧ ξ 1005 p ≤ 3) : q_D mX5_countWays 2 [.ref (B + p), q_i t] (x_w w ξ B P g) (some (q_i (z_ways 0 (ξ 1005 p) (ξ 8 0) (ξ 8 1) 0 t))) (x_w w ξ B P g) := by
  refine q_T.of (lv := [some (.ref (B + p)), some (q_i t), none, none]) (by decide) rfl (Nat.le_of_ble_eq_true rfl) ?_
  have hWN := hG.1
  have hW := hG.1.1
  have hN := hG.1.2
  have hS := hG.S
  refine q_aload_n dX5_countWays_0 rfl ?_
  refine q_get (v := .ref 8) (fPX5_21 _) (x_pO hB hP) rfl dX5_countWays_1 ?_
  refine q_get (v := q_i (ξ 8 0)) fX5_32_10 rfl rfl dX5_countWays_4 ?_
  refine q_iconst dX5_countWays_7 ?_
  refine q_isub dX5_countWays_8 ?_
  refine q_istore_n (lv' := [some (.ref (B + p)), some (q_i t), some (q_i ((ξ 8 0) - 1)), none]) dX5_countWays_9 (by decide) rfl ?_
  refine q_aload_n dX5_countWays_10 rfl ?_
  refine q_get (v := .ref 8) (fPX5_21 _) (x_pO hB hP) rfl dX5_countWays_11 ?_
  refine q_iload_n dX5_countWays_14 rfl ?_
  refine q_iload_n dX5_countWays_15 rfl ?_
  refine q_cV [q_i t, q_i ((ξ 8 0) - 1)] kX5_37_10 rfl (tX10_notchOf w ξ B P g t ((ξ 8 0) - 1) (show (0 : Int) ≤ t by omega) (show t < ξ 8 2 by omega) (show (0 : Int) ≤ ((ξ 8 0) - 1) by omega) (show ((ξ 8 0) - 1) < ξ 8 0 by omega) hG) dX5_countWays_16 rfl (by decide) (Nat.le_of_ble_eq_true rfl) rfl ?_
  refine q_istore_n (lv' := [some (.ref (B + p)), some (q_i t), some (q_i ((ξ 8 0) - 1)), some (q_i (z_nt (ξ 8 0) (ξ 8 1) t ((ξ 8 0) - 1)))]) dX5_countWays_19 (by decide) rfl ?_
  refine q_aload_n dX5_countWays_20 rfl ?_
  refine q_get (v := .ref 8) (fPX5_21 _) (x_pO hB hP) rfl dX5_countWays_21 ?_
  refine q_iload_n dX5_countWays_24 rfl ?_
  refine q_iload_n dX5_countWays_25 rfl ?_
  refine q_cV [q_i t, q_i ((ξ 8 0) - 1)] kX5_41_10 rfl (tX10_leavesAhead w ξ B P g t ((ξ 8 0) - 1) (by omega) (by omega) (by omega) (by omega) hG) dX5_countWays_26 rfl (by decide) (Nat.le_of_ble_eq_true rfl) rfl ?_
  refine q_if_eq (tgt := 49) dX5_countWays_29 (by decide) ⟨by have := z_la_01  (ξ 8 0) (ξ 8 1) t ((ξ 8 0) - 1); omega, by have := z_la_01  (ξ 8 0) (ξ 8 1) t ((ξ 8 0) - 1); omega⟩ (fun h29 => ?_) (fun h29 => ?_)
  · skip
    refine q_iconst dX5_countWays_49 ?_
    exact q_iret rfl dX5_countWays_50 (⟨by (rw [z_ways_p hWN ht0]; rcases z_la_01 (ξ 8 0) (ξ 8 1) t (ξ 8 0 - 1) with q | q <;> rw [q] <;> split <;> first | rfl | (exfalso; omega)), rfl⟩)
  · skip
    refine q_iload_n dX5_countWays_32 rfl ?_
    refine q_iconst dX5_countWays_33 ?_
    refine q_icmp_lt (tgt := 49) dX5_countWays_34 (by decide) ⟨by have := z_nt_in hWN ht0 (w := ((ξ 8 0) - 1)) (by omega) (by omega); omega, by have := z_nt_in hWN ht0 (w := ((ξ 8 0) - 1)) (by omega) (by omega); omega⟩ ⟨by decide, by decide⟩ (fun h34 => ?_) (fun h34 => ?_)
    · skip
      refine q_iconst dX5_countWays_49 ?_
      exact q_iret rfl dX5_countWays_50 (⟨by (rw [z_ways_p hWN ht0]; rcases z_la_01 (ξ 8 0) (ξ 8 1) t (ξ 8 0 - 1) with q | q <;> rw [q] <;> split <;> first | rfl | (exfalso; omega)), rfl⟩)
    · skip
      refine q_iload_n dX5_countWays_37 rfl ?_
      refine q_aload_n dX5_countWays_38 rfl ?_
      refine q_get (v := q_i (ξ 1005 p)) (fPX5_18 _) (x_pO hB hP) rfl dX5_countWays_39 ?_
      refine q_icmp_gt (tgt := 49) dX5_countWays_42 (by decide) ⟨by have := z_nt_in hWN ht0 (w := ((ξ 8 0) - 1)) (by omega) (by omega); omega, by have := z_nt_in hWN ht0 (w := ((ξ 8 0) - 1)) (by omega) (by omega); omega⟩ ⟨by omega, by omega⟩ (fun h42 => ?_) (fun h42 => ?_)
      · skip
        refine q_iconst dX5_countWays_49 ?_
        exact q_iret rfl dX5_countWays_50 (⟨by (rw [z_ways_p hWN ht0]; rcases z_la_01 (ξ 8 0) (ξ 8 1) t (ξ 8 0 - 1) with q | q <;> rw [q] <;> split <;> first | rfl | (exfalso; omega)), rfl⟩)
      · skip
        refine q_iconst dX5_countWays_45 ?_
        refine q_goto (tgt := 50) dX5_countWays_46 (by decide) ?_
        exact q_iret rfl dX5_countWays_50 (⟨by (rw [z_ways_p hWN ht0]; rcases z_la_01 (ξ 8 0) (ξ 8 1) t (ξ 8 0 - 1) with q | q <;> rw [q] <;> split <;> first | rfl | (exfalso; omega)), rfl⟩)
set_option maxRecDepth 20000 in
theorem tX2_countWays (w : q_W) (ξ : m_S) (B P : Nat) (g : Int → Option Nat) (p : Nat) (hB : 64 ≤ B) (hP : p < P) (h5 : p < 5) (t : Int) (ht0 : 0 ≤ t) (ht1 : t < ξ 8 2) (hG : x_G ξ) (hf : 1 ≤ ξ 1005 p ∧ ξ 1005 p ≤ 3) : q_D mX2_countWays 2 [.ref (B + p), q_i t] (x_w w ξ B P g) (some (q_i (z_ways 3 (ξ 1005 p) (ξ 8 0) (ξ 8 1) 0 t))) (x_w w ξ B P g) := by
  refine q_T.of (lv := [some (.ref (B + p)), some (q_i t)]) (by decide) rfl (Nat.le_of_ble_eq_true rfl) ?_
  refine q_iconst dX2_countWays_0 ?_
  exact q_iret rfl dX2_countWays_1 (⟨rfl, rfl⟩)
set_option maxRecDepth 20000 in
theorem tX4_firstTurned (w : q_W) (ξ : m_S) (B P : Nat) (g : Int → Option Nat) (p : Nat) (hB : 64 ≤ B) (hP : p < P) (h5 : p < 5) (hk : ξ 1000 p = 1 ∨ ξ 1000 p = 4) (hW : 1 ≤ ξ 8 0 ∧ ξ 8 0 ≤ 3) : q_D mX4_firstTurned 1 [.ref (B + p)] (x_w w ξ B P g) (some (q_i (ξ 8 0 - 1))) (x_w w ξ B P g) := by
  refine q_T.of (lv := [some (.ref (B + p))]) (by decide) rfl (Nat.le_of_ble_eq_true rfl) ?_
  refine q_aload_n dX4_firstTurned_0 rfl ?_
  refine q_get (v := .ref 8) (fPX4_9 hk) (x_pO hB hP) rfl dX4_firstTurned_1 ?_
  refine q_get (v := q_i (ξ 8 0)) fX4_15_10 rfl rfl dX4_firstTurned_4 ?_
  refine q_iconst dX4_firstTurned_7 ?_
  refine q_isub dX4_firstTurned_8 ?_
  exact q_iret rfl dX4_firstTurned_9 (⟨rfl, rfl⟩)
set_option maxRecDepth 20000 in
theorem tX3_firstTurned (w : q_W) (ξ : m_S) (B P : Nat) (g : Int → Option Nat) (p : Nat) (hB : 64 ≤ B) (hP : p < P) (h5 : p < 5) (hk : ξ 1000 p = 4) (hW : 1 ≤ ξ 8 0 ∧ ξ 8 0 ≤ 3) : q_D mX3_firstTurned 1 [.ref (B + p)] (x_w w ξ B P g) (some (q_i (z_fst 4 (ξ 8 0)))) (x_w w ξ B P g) := by
  refine q_T.of (lv := [some (.ref (B + p))]) (by decide) rfl (Nat.le_of_ble_eq_true rfl) ?_
  refine q_iconst dX3_firstTurned_0 ?_
  refine q_aload_n dX3_firstTurned_1 rfl ?_
  refine q_get (v := .ref 8) (fPX3_9 hk) (x_pO hB hP) rfl dX3_firstTurned_2 ?_
  refine q_get (v := q_i (ξ 8 0)) fX3_15_10 rfl rfl dX3_firstTurned_5 ?_
  refine q_iconst dX3_firstTurned_8 ?_
  refine q_isub dX3_firstTurned_9 ?_
  refine q_jmax wd_568 wd_225 wd_68 wd_226 (by decide) (Nat.le_of_ble_eq_true rfl) ⟨by decide, by decide⟩ ⟨by omega, by omega⟩ dX3_firstTurned_10 ?_
  exact q_iret rfl dX3_firstTurned_13 (⟨by unfold z_fst; (repeat' split) <;> first | rfl | (exfalso; omega) | (congr 2; omega), rfl⟩)
theorem x_pOk {w : q_W} {ξ : m_S} {B P : Nat} {g : Int → Option Nat} {p ci : Nat} {k : Int} (hB : 64 ≤ B) (h : p < P) (hk : ξ 1000 p = k) (hc : x_cl k = ci) : x_w w ξ B P g (B + p) = some (q_ob ci (x_po ξ p)) := by rw [x_pO hB h, hk, hc]
set_option maxRecDepth 20000 in
theorem tX4_countWays_1 (w : q_W) (ξ : m_S) (B P : Nat) (g : Int → Option Nat) (p : Nat) (hB : 64 ≤ B) (hP : p < P) (h5 : p < 5) (t : Int) (ht0 : 0 ≤ t) (ht1 : t < ξ 8 2) (hG : x_G ξ) (hf : 1 ≤ ξ 1005 p ∧ ξ 1005 p ≤ 3) (hk : ξ 1000 p = 1) : q_D mX4_countWays 2 [.ref (B + p), q_i t] (x_w w ξ B P g) (some (q_i (z_ways 1 (ξ 1005 p) (ξ 8 0) (ξ 8 1) 0 t))) (x_w w ξ B P g) := by
  refine q_T.of (lv := [some (.ref (B + p)), some (q_i t), none, none, none, none, none]) (by decide) rfl (Nat.le_of_ble_eq_true rfl) ?_
  have hWN := hG.1
  have hW := hG.1.1
  have hN := hG.1.2
  have hS := hG.S
  have hfr : 0 ≤ (z_fst 1 (ξ 8 0)) ∧ (z_fst 1 (ξ 8 0)) < ξ 8 0 := by unfold z_fst; (repeat' split) <;> omega
  refine q_aload_n dX4_countWays_0 rfl ?_
  refine q_cV [] kX4_21_4 (x_pOk hB hP hk rfl) (tX4_firstTurned w ξ B P g p hB hP h5 (Or.inl hk) hW) dX4_countWays_1 rfl (by decide) (Nat.le_of_ble_eq_true rfl) rfl ?_
  show q_J _ _ _ _ _ _ _ [q_i (z_fst 1 (ξ 8 0))] (x_w w ξ B P g)
  refine q_istore_n (lv' := [some (.ref (B + p)), some (q_i t), some (q_i (z_fst 1 (ξ 8 0))), none, none, none, none]) dX4_countWays_4 (by decide) rfl ?_
  refine q_aload_n dX4_countWays_5 rfl ?_
  refine q_get (v := .ref 8) (fPX4_9 (by omega)) (x_pO hB hP) rfl dX4_countWays_6 ?_
  refine q_iload_n dX4_countWays_9 rfl ?_
  refine q_iload_n dX4_countWays_10 rfl ?_
  refine q_cV [q_i t, q_i (z_fst 1 (ξ 8 0))] kX4_25_10 rfl (tX10_leavesAhead w ξ B P g t (z_fst 1 (ξ 8 0)) (by omega) (by omega) (by omega) (by omega) hG) dX4_countWays_11 rfl (by decide) (Nat.le_of_ble_eq_true rfl) rfl ?_
  refine q_if_ne (tgt := 19) dX4_countWays_14 (by decide) ⟨by have := z_la_01  (ξ 8 0) (ξ 8 1) t (z_fst 1 (ξ 8 0)); omega, by have := z_la_01  (ξ 8 0) (ξ 8 1) t (z_fst 1 (ξ 8 0)); omega⟩ (fun h14 => ?_) (fun h14 => ?_)
  · skip
    refine q_iconst dX4_countWays_19 ?_
    refine q_istore_n (lv' := [some (.ref (B + p)), some (q_i t), some (q_i (z_fst 1 (ξ 8 0))), some (q_i 1), none, none, none]) dX4_countWays_20 (by decide) rfl ?_
    refine q_iload_n dX4_countWays_21 rfl ?_
    refine q_istore (lv' := [some (.ref (B + p)), some (q_i t), some (q_i (z_fst 1 (ξ 8 0))), some (q_i 1), some (q_i (z_fst 1 (ξ 8 0))), none, none]) dX4_countWays_22 (by decide) rfl ?_
    have L24 : ∀ (m9 : Nat) (j : Int) (hj0 : (z_fst 1 (ξ 8 0)) ≤ j) (hj1 : j ≤ ξ 8 0) (hm9 : ξ 8 0 - j < (m9 : Int)), q_J mX4_countWays 2 (fun v' w' => v' = (some (q_i (z_ways 1 (ξ 1005 p) (ξ 8 0) (ξ 8 1) 0 t))) ∧ w' = (x_w w ξ B P g)) 0 0 24 [some (.ref (B + p)), some (q_i t), some (q_i (z_fst 1 (ξ 8 0))), some (q_i (z_prod (fun w => z_ww 1 (ξ 1005 p) (ξ 8 0) (ξ 8 1) w (z_nt (ξ 8 0) (ξ 8 1) t w)) j)), some (q_i j), none, none] [] (x_w w ξ B P g) := by
      intro m9
      induction m9 with
      | zero => intro j hj0 hj1 hm9; exact absurd hm9 (by omega)
      | succ m9 ih24 =>
        intro j hj0 hj1 hm9
        refine q_iload dX4_countWays_24 rfl ?_
        refine q_aload_n dX4_countWays_26 rfl ?_
        refine q_get (v := .ref 8) (fPX4_9 (by omega)) (x_pO hB hP) rfl dX4_countWays_27 ?_
        refine q_get (v := q_i (ξ 8 0)) fX4_15_10 rfl rfl dX4_countWays_30 ?_
        refine q_icmp_ge (tgt := 110) dX4_countWays_33 (by decide) ⟨by omega, by omega⟩ ⟨by omega, by omega⟩ (fun h33 => ?_) (fun h33 => ?_)
        · skip
          refine q_iload_n dX4_countWays_110 rfl ?_
          exact q_iret rfl dX4_countWays_111 (⟨by rw [z_ways_0 hWN ht0 (by decide) (by decide), show j = ξ 8 0 by omega], rfl⟩)
        · skip
          refine q_aload_n dX4_countWays_36 rfl ?_
          refine q_get (v := .ref 8) (fPX4_9 (by omega)) (x_pO hB hP) rfl dX4_countWays_37 ?_
          refine q_iload_n dX4_countWays_40 rfl ?_
          refine q_iload dX4_countWays_41 rfl ?_
          refine q_cV [q_i t, q_i j] kX4_29_10 rfl (tX10_notchOf w ξ B P g t j (show (0 : Int) ≤ t by omega) (show t < ξ 8 2 by omega) (show (0 : Int) ≤ j by omega) (show j < ξ 8 0 by omega) hG) dX4_countWays_43 rfl (by decide) (Nat.le_of_ble_eq_true rfl) rfl ?_
          refine q_istore (lv' := [some (.ref (B + p)), some (q_i t), some (q_i (z_fst 1 (ξ 8 0))), some (q_i (z_prod (fun w => z_ww 1 (ξ 1005 p) (ξ 8 0) (ξ 8 1) w (z_nt (ξ 8 0) (ξ 8 1) t w)) j)), some (q_i j), some (q_i (z_nt (ξ 8 0) (ξ 8 1) t j)), none]) dX4_countWays_46 (by decide) rfl ?_
          have na := z_nt_in hWN ht0 (w := j) (by omega) (by omega)
          have hfe : (z_fst 1 (ξ 8 0)) = ξ 8 0 - 1 := by unfold z_fst; rw [if_neg (by decide)]
          skip
          refine q_aload_n dX4_countWays_48 rfl ?_
          refine q_get (v := .ref 8) (fPX4_9 (by omega)) (x_pO hB hP) rfl dX4_countWays_49 ?_
          refine q_get (v := q_i (ξ 8 1)) fX4_33_10 rfl rfl dX4_countWays_52 ?_
          refine q_iload dX4_countWays_55 rfl ?_
          refine q_isub dX4_countWays_57 ?_
          refine q_istore (lv' := [some (.ref (B + p)), some (q_i t), some (q_i (z_fst 1 (ξ 8 0))), some (q_i (z_prod (fun w => z_ww 1 (ξ 1005 p) (ξ 8 0) (ξ 8 1) w (z_nt (ξ 8 0) (ξ 8 1) t w)) j)), some (q_i j), some (q_i (z_nt (ξ 8 0) (ξ 8 1) t j)), some (q_i ((ξ 8 1) - (z_nt (ξ 8 0) (ξ 8 1) t j)))]) dX4_countWays_58 (by decide) rfl ?_
          refine q_iload_n dX4_countWays_60 rfl ?_
          refine q_iload dX4_countWays_61 rfl ?_
          refine q_iconst dX4_countWays_63 ?_
          refine q_icmp_lt (tgt := 80) dX4_countWays_64 (by decide) ⟨by have := z_nt_in hWN ht0 (w := j) (by omega) (by omega); omega, by have := z_nt_in hWN ht0 (w := j) (by omega) (by omega); omega⟩ ⟨by decide, by decide⟩ (fun h64 => ?_) (fun h64 => ?_)
          · skip
            refine q_iconst dX4_countWays_80 ?_
            refine q_iload dX4_countWays_81 rfl ?_
            refine q_iconst dX4_countWays_83 ?_
            refine q_icmp_lt (tgt := 100) dX4_countWays_84 (by decide) ⟨by omega, by omega⟩ ⟨by decide, by decide⟩ (fun h84 => ?_) (fun h84 => ?_)
            · skip
              refine q_iconst dX4_countWays_100 ?_
              refine q_iadd dX4_countWays_101 ?_
              refine q_imul dX4_countWays_102 ?_
              refine q_istore_n (lv' := [some (.ref (B + p)), some (q_i t), some (q_i (z_fst 1 (ξ 8 0))), some (q_i ((z_prod (fun w => z_ww 1 (ξ 1005 p) (ξ 8 0) (ξ 8 1) w (z_nt (ξ 8 0) (ξ 8 1) t w)) j) * (0 + 0))), some (q_i j), some (q_i (z_nt (ξ 8 0) (ξ 8 1) t j)), some (q_i ((ξ 8 1) - (z_nt (ξ 8 0) (ξ 8 1) t j)))]) dX4_countWays_103 (by decide) rfl ?_
              refine q_iinc (lv' := [some (.ref (B + p)), some (q_i t), some (q_i (z_fst 1 (ξ 8 0))), some (q_i ((z_prod (fun w => z_ww 1 (ξ 1005 p) (ξ 8 0) (ξ 8 1) w (z_nt (ξ 8 0) (ξ 8 1) t w)) j) * (0 + 0))), some (q_i (j + 1)), some (q_i (z_nt (ξ 8 0) (ξ 8 1) t j)), some (q_i ((ξ 8 1) - (z_nt (ξ 8 0) (ξ 8 1) t j)))]) dX4_countWays_104 rfl (by decide) rfl ?_
              refine q_goto (tgt := 24) dX4_countWays_107 (by decide) ?_
              exact q_Jle (q_le_s (rfl) (q_le_s (rfl) (q_le_s (rfl) (q_le_s (by (rw [z_prod_s _ (show (0:Int) ≤ j by omega)]; refine congrArg (fun z => some (q_i ((z_prod (fun w => z_ww 1 (ξ 1005 p) (ξ 8 0) (ξ 8 1) w (z_nt (ξ 8 0) (ξ 8 1) t w)) j) * z))) ?_; show _ = z_ww 1 _ _ _ j _; unfold z_ww z_ei; rw [if_pos rfl, if_pos (by omega)]; (repeat' split) <;> first | rfl | (exfalso; omega))) (q_le_s (rfl) (q_le_n (q_le_n (q_le_e _)))))))) (rfl) (rfl) (ih24 (j + 1) (by omega) (by omega) (by omega))
            · skip
              refine q_iload dX4_countWays_87 rfl ?_
              refine q_aload_n dX4_countWays_89 rfl ?_
              refine q_get (v := q_i (ξ 1005 p)) (fPX4_36 (by omega)) (x_pO hB hP) rfl dX4_countWays_90 ?_
              refine q_icmp_gt (tgt := 100) dX4_countWays_93 (by decide) ⟨by omega, by omega⟩ ⟨by omega, by omega⟩ (fun h93 => ?_) (fun h93 => ?_)
              · skip
                refine q_iconst dX4_countWays_100 ?_
                refine q_iadd dX4_countWays_101 ?_
                refine q_imul dX4_countWays_102 ?_
                refine q_istore_n (lv' := [some (.ref (B + p)), some (q_i t), some (q_i (z_fst 1 (ξ 8 0))), some (q_i ((z_prod (fun w => z_ww 1 (ξ 1005 p) (ξ 8 0) (ξ 8 1) w (z_nt (ξ 8 0) (ξ 8 1) t w)) j) * (0 + 0))), some (q_i j), some (q_i (z_nt (ξ 8 0) (ξ 8 1) t j)), some (q_i ((ξ 8 1) - (z_nt (ξ 8 0) (ξ 8 1) t j)))]) dX4_countWays_103 (by decide) rfl ?_
                refine q_iinc (lv' := [some (.ref (B + p)), some (q_i t), some (q_i (z_fst 1 (ξ 8 0))), some (q_i ((z_prod (fun w => z_ww 1 (ξ 1005 p) (ξ 8 0) (ξ 8 1) w (z_nt (ξ 8 0) (ξ 8 1) t w)) j) * (0 + 0))), some (q_i (j + 1)), some (q_i (z_nt (ξ 8 0) (ξ 8 1) t j)), some (q_i ((ξ 8 1) - (z_nt (ξ 8 0) (ξ 8 1) t j)))]) dX4_countWays_104 rfl (by decide) rfl ?_
                refine q_goto (tgt := 24) dX4_countWays_107 (by decide) ?_
                exact q_Jle (q_le_s (rfl) (q_le_s (rfl) (q_le_s (rfl) (q_le_s (by (rw [z_prod_s _ (show (0:Int) ≤ j by omega)]; refine congrArg (fun z => some (q_i ((z_prod (fun w => z_ww 1 (ξ 1005 p) (ξ 8 0) (ξ 8 1) w (z_nt (ξ 8 0) (ξ 8 1) t w)) j) * z))) ?_; show _ = z_ww 1 _ _ _ j _; unfold z_ww z_ei; rw [if_pos rfl, if_pos (by omega)]; (repeat' split) <;> first | rfl | (exfalso; omega))) (q_le_s (rfl) (q_le_n (q_le_n (q_le_e _)))))))) (rfl) (rfl) (ih24 (j + 1) (by omega) (by omega) (by omega))
              · skip
                refine q_iconst dX4_countWays_96 ?_
                refine q_goto (tgt := 101) dX4_countWays_97 (by decide) ?_
                refine q_iadd dX4_countWays_101 ?_
                refine q_imul dX4_countWays_102 ?_
                refine q_istore_n (lv' := [some (.ref (B + p)), some (q_i t), some (q_i (z_fst 1 (ξ 8 0))), some (q_i ((z_prod (fun w => z_ww 1 (ξ 1005 p) (ξ 8 0) (ξ 8 1) w (z_nt (ξ 8 0) (ξ 8 1) t w)) j) * (0 + 1))), some (q_i j), some (q_i (z_nt (ξ 8 0) (ξ 8 1) t j)), some (q_i ((ξ 8 1) - (z_nt (ξ 8 0) (ξ 8 1) t j)))]) dX4_countWays_103 (by decide) rfl ?_
                refine q_iinc (lv' := [some (.ref (B + p)), some (q_i t), some (q_i (z_fst 1 (ξ 8 0))), some (q_i ((z_prod (fun w => z_ww 1 (ξ 1005 p) (ξ 8 0) (ξ 8 1) w (z_nt (ξ 8 0) (ξ 8 1) t w)) j) * (0 + 1))), some (q_i (j + 1)), some (q_i (z_nt (ξ 8 0) (ξ 8 1) t j)), some (q_i ((ξ 8 1) - (z_nt (ξ 8 0) (ξ 8 1) t j)))]) dX4_countWays_104 rfl (by decide) rfl ?_
                refine q_goto (tgt := 24) dX4_countWays_107 (by decide) ?_
                exact q_Jle (q_le_s (rfl) (q_le_s (rfl) (q_le_s (rfl) (q_le_s (by (rw [z_prod_s _ (show (0:Int) ≤ j by omega)]; refine congrArg (fun z => some (q_i ((z_prod (fun w => z_ww 1 (ξ 1005 p) (ξ 8 0) (ξ 8 1) w (z_nt (ξ 8 0) (ξ 8 1) t w)) j) * z))) ?_; show _ = z_ww 1 _ _ _ j _; unfold z_ww z_ei; rw [if_pos rfl, if_pos (by omega)]; (repeat' split) <;> first | rfl | (exfalso; omega))) (q_le_s (rfl) (q_le_n (q_le_n (q_le_e _)))))))) (rfl) (rfl) (ih24 (j + 1) (by omega) (by omega) (by omega))
          · skip
            refine q_iload dX4_countWays_67 rfl ?_
            refine q_aload_n dX4_countWays_69 rfl ?_
            refine q_get (v := q_i (ξ 1005 p)) (fPX4_36 (by omega)) (x_pO hB hP) rfl dX4_countWays_70 ?_
            refine q_icmp_gt (tgt := 80) dX4_countWays_73 (by decide) ⟨by have := z_nt_in hWN ht0 (w := j) (by omega) (by omega); omega, by have := z_nt_in hWN ht0 (w := j) (by omega) (by omega); omega⟩ ⟨by omega, by omega⟩ (fun h73 => ?_) (fun h73 => ?_)
            · skip
              refine q_iconst dX4_countWays_80 ?_
              refine q_iload dX4_countWays_81 rfl ?_
              refine q_iconst dX4_countWays_83 ?_
              refine q_icmp_lt (tgt := 100) dX4_countWays_84 (by decide) ⟨by omega, by omega⟩ ⟨by decide, by decide⟩ (fun h84 => ?_) (fun h84 => ?_)
              · skip
                refine q_iconst dX4_countWays_100 ?_
                refine q_iadd dX4_countWays_101 ?_
                refine q_imul dX4_countWays_102 ?_
                refine q_istore_n (lv' := [some (.ref (B + p)), some (q_i t), some (q_i (z_fst 1 (ξ 8 0))), some (q_i ((z_prod (fun w => z_ww 1 (ξ 1005 p) (ξ 8 0) (ξ 8 1) w (z_nt (ξ 8 0) (ξ 8 1) t w)) j) * (0 + 0))), some (q_i j), some (q_i (z_nt (ξ 8 0) (ξ 8 1) t j)), some (q_i ((ξ 8 1) - (z_nt (ξ 8 0) (ξ 8 1) t j)))]) dX4_countWays_103 (by decide) rfl ?_
                refine q_iinc (lv' := [some (.ref (B + p)), some (q_i t), some (q_i (z_fst 1 (ξ 8 0))), some (q_i ((z_prod (fun w => z_ww 1 (ξ 1005 p) (ξ 8 0) (ξ 8 1) w (z_nt (ξ 8 0) (ξ 8 1) t w)) j) * (0 + 0))), some (q_i (j + 1)), some (q_i (z_nt (ξ 8 0) (ξ 8 1) t j)), some (q_i ((ξ 8 1) - (z_nt (ξ 8 0) (ξ 8 1) t j)))]) dX4_countWays_104 rfl (by decide) rfl ?_
                refine q_goto (tgt := 24) dX4_countWays_107 (by decide) ?_
                exact q_Jle (q_le_s (rfl) (q_le_s (rfl) (q_le_s (rfl) (q_le_s (by (rw [z_prod_s _ (show (0:Int) ≤ j by omega)]; refine congrArg (fun z => some (q_i ((z_prod (fun w => z_ww 1 (ξ 1005 p) (ξ 8 0) (ξ 8 1) w (z_nt (ξ 8 0) (ξ 8 1) t w)) j) * z))) ?_; show _ = z_ww 1 _ _ _ j _; unfold z_ww z_ei; rw [if_pos rfl, if_pos (by omega)]; (repeat' split) <;> first | rfl | (exfalso; omega))) (q_le_s (rfl) (q_le_n (q_le_n (q_le_e _)))))))) (rfl) (rfl) (ih24 (j + 1) (by omega) (by omega) (by omega))
              · skip
                refine q_iload dX4_countWays_87 rfl ?_
                refine q_aload_n dX4_countWays_89 rfl ?_
                refine q_get (v := q_i (ξ 1005 p)) (fPX4_36 (by omega)) (x_pO hB hP) rfl dX4_countWays_90 ?_
                refine q_icmp_gt (tgt := 100) dX4_countWays_93 (by decide) ⟨by omega, by omega⟩ ⟨by omega, by omega⟩ (fun h93 => ?_) (fun h93 => ?_)
                · skip
                  refine q_iconst dX4_countWays_100 ?_
                  refine q_iadd dX4_countWays_101 ?_
                  refine q_imul dX4_countWays_102 ?_
                  refine q_istore_n (lv' := [some (.ref (B + p)), some (q_i t), some (q_i (z_fst 1 (ξ 8 0))), some (q_i ((z_prod (fun w => z_ww 1 (ξ 1005 p) (ξ 8 0) (ξ 8 1) w (z_nt (ξ 8 0) (ξ 8 1) t w)) j) * (0 + 0))), some (q_i j), some (q_i (z_nt (ξ 8 0) (ξ 8 1) t j)), some (q_i ((ξ 8 1) - (z_nt (ξ 8 0) (ξ 8 1) t j)))]) dX4_countWays_103 (by decide) rfl ?_
                  refine q_iinc (lv' := [some (.ref (B + p)), some (q_i t), some (q_i (z_fst 1 (ξ 8 0))), some (q_i ((z_prod (fun w => z_ww 1 (ξ 1005 p) (ξ 8 0) (ξ 8 1) w (z_nt (ξ 8 0) (ξ 8 1) t w)) j) * (0 + 0))), some (q_i (j + 1)), some (q_i (z_nt (ξ 8 0) (ξ 8 1) t j)), some (q_i ((ξ 8 1) - (z_nt (ξ 8 0) (ξ 8 1) t j)))]) dX4_countWays_104 rfl (by decide) rfl ?_
                  refine q_goto (tgt := 24) dX4_countWays_107 (by decide) ?_
                  exact q_Jle (q_le_s (rfl) (q_le_s (rfl) (q_le_s (rfl) (q_le_s (by (rw [z_prod_s _ (show (0:Int) ≤ j by omega)]; refine congrArg (fun z => some (q_i ((z_prod (fun w => z_ww 1 (ξ 1005 p) (ξ 8 0) (ξ 8 1) w (z_nt (ξ 8 0) (ξ 8 1) t w)) j) * z))) ?_; show _ = z_ww 1 _ _ _ j _; unfold z_ww z_ei; rw [if_pos rfl, if_pos (by omega)]; (repeat' split) <;> first | rfl | (exfalso; omega))) (q_le_s (rfl) (q_le_n (q_le_n (q_le_e _)))))))) (rfl) (rfl) (ih24 (j + 1) (by omega) (by omega) (by omega))
                · skip
                  refine q_iconst dX4_countWays_96 ?_
                  refine q_goto (tgt := 101) dX4_countWays_97 (by decide) ?_
                  refine q_iadd dX4_countWays_101 ?_
                  refine q_imul dX4_countWays_102 ?_
                  refine q_istore_n (lv' := [some (.ref (B + p)), some (q_i t), some (q_i (z_fst 1 (ξ 8 0))), some (q_i ((z_prod (fun w => z_ww 1 (ξ 1005 p) (ξ 8 0) (ξ 8 1) w (z_nt (ξ 8 0) (ξ 8 1) t w)) j) * (0 + 1))), some (q_i j), some (q_i (z_nt (ξ 8 0) (ξ 8 1) t j)), some (q_i ((ξ 8 1) - (z_nt (ξ 8 0) (ξ 8 1) t j)))]) dX4_countWays_103 (by decide) rfl ?_
                  refine q_iinc (lv' := [some (.ref (B + p)), some (q_i t), some (q_i (z_fst 1 (ξ 8 0))), some (q_i ((z_prod (fun w => z_ww 1 (ξ 1005 p) (ξ 8 0) (ξ 8 1) w (z_nt (ξ 8 0) (ξ 8 1) t w)) j) * (0 + 1))), some (q_i (j + 1)), some (q_i (z_nt (ξ 8 0) (ξ 8 1) t j)), some (q_i ((ξ 8 1) - (z_nt (ξ 8 0) (ξ 8 1) t j)))]) dX4_countWays_104 rfl (by decide) rfl ?_
                  refine q_goto (tgt := 24) dX4_countWays_107 (by decide) ?_
                  exact q_Jle (q_le_s (rfl) (q_le_s (rfl) (q_le_s (rfl) (q_le_s (by (rw [z_prod_s _ (show (0:Int) ≤ j by omega)]; refine congrArg (fun z => some (q_i ((z_prod (fun w => z_ww 1 (ξ 1005 p) (ξ 8 0) (ξ 8 1) w (z_nt (ξ 8 0) (ξ 8 1) t w)) j) * z))) ?_; show _ = z_ww 1 _ _ _ j _; unfold z_ww z_ei; rw [if_pos rfl, if_pos (by omega)]; (repeat' split) <;> first | rfl | (exfalso; omega))) (q_le_s (rfl) (q_le_n (q_le_n (q_le_e _)))))))) (rfl) (rfl) (ih24 (j + 1) (by omega) (by omega) (by omega))
            · skip
              refine q_iconst dX4_countWays_76 ?_
              refine q_goto (tgt := 81) dX4_countWays_77 (by decide) ?_
              refine q_iload dX4_countWays_81 rfl ?_
              refine q_iconst dX4_countWays_83 ?_
              refine q_icmp_lt (tgt := 100) dX4_countWays_84 (by decide) ⟨by omega, by omega⟩ ⟨by decide, by decide⟩ (fun h84 => ?_) (fun h84 => ?_)
              · skip
                refine q_iconst dX4_countWays_100 ?_
                refine q_iadd dX4_countWays_101 ?_
                refine q_imul dX4_countWays_102 ?_
                refine q_istore_n (lv' := [some (.ref (B + p)), some (q_i t), some (q_i (z_fst 1 (ξ 8 0))), some (q_i ((z_prod (fun w => z_ww 1 (ξ 1005 p) (ξ 8 0) (ξ 8 1) w (z_nt (ξ 8 0) (ξ 8 1) t w)) j) * (1 + 0))), some (q_i j), some (q_i (z_nt (ξ 8 0) (ξ 8 1) t j)), some (q_i ((ξ 8 1) - (z_nt (ξ 8 0) (ξ 8 1) t j)))]) dX4_countWays_103 (by decide) rfl ?_
                refine q_iinc (lv' := [some (.ref (B + p)), some (q_i t), some (q_i (z_fst 1 (ξ 8 0))), some (q_i ((z_prod (fun w => z_ww 1 (ξ 1005 p) (ξ 8 0) (ξ 8 1) w (z_nt (ξ 8 0) (ξ 8 1) t w)) j) * (1 + 0))), some (q_i (j + 1)), some (q_i (z_nt (ξ 8 0) (ξ 8 1) t j)), some (q_i ((ξ 8 1) - (z_nt (ξ 8 0) (ξ 8 1) t j)))]) dX4_countWays_104 rfl (by decide) rfl ?_
                refine q_goto (tgt := 24) dX4_countWays_107 (by decide) ?_
                exact q_Jle (q_le_s (rfl) (q_le_s (rfl) (q_le_s (rfl) (q_le_s (by (rw [z_prod_s _ (show (0:Int) ≤ j by omega)]; refine congrArg (fun z => some (q_i ((z_prod (fun w => z_ww 1 (ξ 1005 p) (ξ 8 0) (ξ 8 1) w (z_nt (ξ 8 0) (ξ 8 1) t w)) j) * z))) ?_; show _ = z_ww 1 _ _ _ j _; unfold z_ww z_ei; rw [if_pos rfl, if_pos (by omega)]; (repeat' split) <;> first | rfl | (exfalso; omega))) (q_le_s (rfl) (q_le_n (q_le_n (q_le_e _)))))))) (rfl) (rfl) (ih24 (j + 1) (by omega) (by omega) (by omega))
              · skip
                refine q_iload dX4_countWays_87 rfl ?_
                refine q_aload_n dX4_countWays_89 rfl ?_
                refine q_get (v := q_i (ξ 1005 p)) (fPX4_36 (by omega)) (x_pO hB hP) rfl dX4_countWays_90 ?_
                refine q_icmp_gt (tgt := 100) dX4_countWays_93 (by decide) ⟨by omega, by omega⟩ ⟨by omega, by omega⟩ (fun h93 => ?_) (fun h93 => ?_)
                · skip
                  refine q_iconst dX4_countWays_100 ?_
                  refine q_iadd dX4_countWays_101 ?_
                  refine q_imul dX4_countWays_102 ?_
                  refine q_istore_n (lv' := [some (.ref (B + p)), some (q_i t), some (q_i (z_fst 1 (ξ 8 0))), some (q_i ((z_prod (fun w => z_ww 1 (ξ 1005 p) (ξ 8 0) (ξ 8 1) w (z_nt (ξ 8 0) (ξ 8 1) t w)) j) * (1 + 0))), some (q_i j), some (q_i (z_nt (ξ 8 0) (ξ 8 1) t j)), some (q_i ((ξ 8 1) - (z_nt (ξ 8 0) (ξ 8 1) t j)))]) dX4_countWays_103 (by decide) rfl ?_
                  refine q_iinc (lv' := [some (.ref (B + p)), some (q_i t), some (q_i (z_fst 1 (ξ 8 0))), some (q_i ((z_prod (fun w => z_ww 1 (ξ 1005 p) (ξ 8 0) (ξ 8 1) w (z_nt (ξ 8 0) (ξ 8 1) t w)) j) * (1 + 0))), some (q_i (j + 1)), some (q_i (z_nt (ξ 8 0) (ξ 8 1) t j)), some (q_i ((ξ 8 1) - (z_nt (ξ 8 0) (ξ 8 1) t j)))]) dX4_countWays_104 rfl (by decide) rfl ?_
                  refine q_goto (tgt := 24) dX4_countWays_107 (by decide) ?_
                  exact q_Jle (q_le_s (rfl) (q_le_s (rfl) (q_le_s (rfl) (q_le_s (by (rw [z_prod_s _ (show (0:Int) ≤ j by omega)]; refine congrArg (fun z => some (q_i ((z_prod (fun w => z_ww 1 (ξ 1005 p) (ξ 8 0) (ξ 8 1) w (z_nt (ξ 8 0) (ξ 8 1) t w)) j) * z))) ?_; show _ = z_ww 1 _ _ _ j _; unfold z_ww z_ei; rw [if_pos rfl, if_pos (by omega)]; (repeat' split) <;> first | rfl | (exfalso; omega))) (q_le_s (rfl) (q_le_n (q_le_n (q_le_e _)))))))) (rfl) (rfl) (ih24 (j + 1) (by omega) (by omega) (by omega))
                · skip
                  refine q_iconst dX4_countWays_96 ?_
                  refine q_goto (tgt := 101) dX4_countWays_97 (by decide) ?_
                  refine q_iadd dX4_countWays_101 ?_
                  refine q_imul dX4_countWays_102 ?_
                  refine q_istore_n (lv' := [some (.ref (B + p)), some (q_i t), some (q_i (z_fst 1 (ξ 8 0))), some (q_i ((z_prod (fun w => z_ww 1 (ξ 1005 p) (ξ 8 0) (ξ 8 1) w (z_nt (ξ 8 0) (ξ 8 1) t w)) j) * (1 + 1))), some (q_i j), some (q_i (z_nt (ξ 8 0) (ξ 8 1) t j)), some (q_i ((ξ 8 1) - (z_nt (ξ 8 0) (ξ 8 1) t j)))]) dX4_countWays_103 (by decide) rfl ?_
                  refine q_iinc (lv' := [some (.ref (B + p)), some (q_i t), some (q_i (z_fst 1 (ξ 8 0))), some (q_i ((z_prod (fun w => z_ww 1 (ξ 1005 p) (ξ 8 0) (ξ 8 1) w (z_nt (ξ 8 0) (ξ 8 1) t w)) j) * (1 + 1))), some (q_i (j + 1)), some (q_i (z_nt (ξ 8 0) (ξ 8 1) t j)), some (q_i ((ξ 8 1) - (z_nt (ξ 8 0) (ξ 8 1) t j)))]) dX4_countWays_104 rfl (by decide) rfl ?_
                  refine q_goto (tgt := 24) dX4_countWays_107 (by decide) ?_
                  exact q_Jle (q_le_s (rfl) (q_le_s (rfl) (q_le_s (rfl) (q_le_s (by (rw [z_prod_s _ (show (0:Int) ≤ j by omega)]; refine congrArg (fun z => some (q_i ((z_prod (fun w => z_ww 1 (ξ 1005 p) (ξ 8 0) (ξ 8 1) w (z_nt (ξ 8 0) (ξ 8 1) t w)) j) * z))) ?_; show _ = z_ww 1 _ _ _ j _; unfold z_ww z_ei; rw [if_pos rfl, if_pos (by omega)]; (repeat' split) <;> first | rfl | (exfalso; omega))) (q_le_s (rfl) (q_le_n (q_le_n (q_le_e _)))))))) (rfl) (rfl) (ih24 (j + 1) (by omega) (by omega) (by omega))
    exact q_Jle (q_le_s (rfl) (q_le_s (rfl) (q_le_s (rfl) (q_le_s (by rw [z_prod_la hW.1 (k := 1) (by decide), show z_la (ξ 8 0) (ξ 8 1) t (z_fst 1 (ξ 8 0)) = 1 by have := z_la_01 (ξ 8 0) (ξ 8 1) t (z_fst 1 (ξ 8 0)); omega]) (q_le_s (rfl) (q_le_n (q_le_n (q_le_e _)))))))) (rfl) (rfl) (L24 ((ξ 8 0 - (z_fst 1 (ξ 8 0)) : Int).toNat + 1) (z_fst 1 (ξ 8 0)) (by omega) (by omega) (by omega))
  · skip
    refine q_iconst dX4_countWays_17 ?_
    exact q_iret rfl dX4_countWays_18 (⟨by rw [z_ways_no hWN ht0 (k := 1) (by decide) (by omega)], rfl⟩)
set_option maxRecDepth 20000 in
theorem tX4_countWays_4 (w : q_W) (ξ : m_S) (B P : Nat) (g : Int → Option Nat) (p : Nat) (hB : 64 ≤ B) (hP : p < P) (h5 : p < 5) (t : Int) (ht0 : 0 ≤ t) (ht1 : t < ξ 8 2) (hG : x_G ξ) (hf : 1 ≤ ξ 1005 p ∧ ξ 1005 p ≤ 3) (hk : ξ 1000 p = 4) : q_D mX4_countWays 2 [.ref (B + p), q_i t] (x_w w ξ B P g) (some (q_i (z_ways 4 (ξ 1005 p) (ξ 8 0) (ξ 8 1) 0 t))) (x_w w ξ B P g) := by
  refine q_T.of (lv := [some (.ref (B + p)), some (q_i t), none, none, none, none, none]) (by decide) rfl (Nat.le_of_ble_eq_true rfl) ?_
  have hWN := hG.1
  have hW := hG.1.1
  have hN := hG.1.2
  have hS := hG.S
  have hfr : 0 ≤ (z_fst 4 (ξ 8 0)) ∧ (z_fst 4 (ξ 8 0)) < ξ 8 0 := by unfold z_fst; (repeat' split) <;> omega
  refine q_aload_n dX4_countWays_0 rfl ?_
  refine q_cU [] kX4_21_3 (x_pOk hB hP hk rfl) (tX3_firstTurned w ξ B P g p hB hP h5 hk hW) dX4_countWays_1 rfl (by decide) (Nat.le_of_ble_eq_true rfl) rfl ?_
  show q_J _ _ _ _ _ _ _ [q_i (z_fst 4 (ξ 8 0))] (x_w w ξ B P g)
  refine q_istore_n (lv' := [some (.ref (B + p)), some (q_i t), some (q_i (z_fst 4 (ξ 8 0))), none, none, none, none]) dX4_countWays_4 (by decide) rfl ?_
  refine q_aload_n dX4_countWays_5 rfl ?_
  refine q_get (v := .ref 8) (fPX4_9 (by omega)) (x_pO hB hP) rfl dX4_countWays_6 ?_
  refine q_iload_n dX4_countWays_9 rfl ?_
  refine q_iload_n dX4_countWays_10 rfl ?_
  refine q_cV [q_i t, q_i (z_fst 4 (ξ 8 0))] kX4_25_10 rfl (tX10_leavesAhead w ξ B P g t (z_fst 4 (ξ 8 0)) (by omega) (by omega) (by omega) (by omega) hG) dX4_countWays_11 rfl (by decide) (Nat.le_of_ble_eq_true rfl) rfl ?_
  refine q_if_ne (tgt := 19) dX4_countWays_14 (by decide) ⟨by have := z_la_01  (ξ 8 0) (ξ 8 1) t (z_fst 4 (ξ 8 0)); omega, by have := z_la_01  (ξ 8 0) (ξ 8 1) t (z_fst 4 (ξ 8 0)); omega⟩ (fun h14 => ?_) (fun h14 => ?_)
  · skip
    refine q_iconst dX4_countWays_19 ?_
    refine q_istore_n (lv' := [some (.ref (B + p)), some (q_i t), some (q_i (z_fst 4 (ξ 8 0))), some (q_i 1), none, none, none]) dX4_countWays_20 (by decide) rfl ?_
    refine q_iload_n dX4_countWays_21 rfl ?_
    refine q_istore (lv' := [some (.ref (B + p)), some (q_i t), some (q_i (z_fst 4 (ξ 8 0))), some (q_i 1), some (q_i (z_fst 4 (ξ 8 0))), none, none]) dX4_countWays_22 (by decide) rfl ?_
    have L24 : ∀ (m9 : Nat) (j : Int) (hj0 : (z_fst 4 (ξ 8 0)) ≤ j) (hj1 : j ≤ ξ 8 0) (hm9 : ξ 8 0 - j < (m9 : Int)), q_J mX4_countWays 2 (fun v' w' => v' = (some (q_i (z_ways 4 (ξ 1005 p) (ξ 8 0) (ξ 8 1) 0 t))) ∧ w' = (x_w w ξ B P g)) 0 0 24 [some (.ref (B + p)), some (q_i t), some (q_i (z_fst 4 (ξ 8 0))), some (q_i (z_prod (fun w => z_ww 4 (ξ 1005 p) (ξ 8 0) (ξ 8 1) w (z_nt (ξ 8 0) (ξ 8 1) t w)) j)), some (q_i j), none, none] [] (x_w w ξ B P g) := by
      intro m9
      induction m9 with
      | zero => intro j hj0 hj1 hm9; exact absurd hm9 (by omega)
      | succ m9 ih24 =>
        intro j hj0 hj1 hm9
        refine q_iload dX4_countWays_24 rfl ?_
        refine q_aload_n dX4_countWays_26 rfl ?_
        refine q_get (v := .ref 8) (fPX4_9 (by omega)) (x_pO hB hP) rfl dX4_countWays_27 ?_
        refine q_get (v := q_i (ξ 8 0)) fX4_15_10 rfl rfl dX4_countWays_30 ?_
        refine q_icmp_ge (tgt := 110) dX4_countWays_33 (by decide) ⟨by omega, by omega⟩ ⟨by omega, by omega⟩ (fun h33 => ?_) (fun h33 => ?_)
        · skip
          refine q_iload_n dX4_countWays_110 rfl ?_
          exact q_iret rfl dX4_countWays_111 (⟨by rw [z_ways_0 hWN ht0 (by decide) (by decide), show j = ξ 8 0 by omega], rfl⟩)
        · skip
          refine q_aload_n dX4_countWays_36 rfl ?_
          refine q_get (v := .ref 8) (fPX4_9 (by omega)) (x_pO hB hP) rfl dX4_countWays_37 ?_
          refine q_iload_n dX4_countWays_40 rfl ?_
          refine q_iload dX4_countWays_41 rfl ?_
          refine q_cV [q_i t, q_i j] kX4_29_10 rfl (tX10_notchOf w ξ B P g t j (show (0 : Int) ≤ t by omega) (show t < ξ 8 2 by omega) (show (0 : Int) ≤ j by omega) (show j < ξ 8 0 by omega) hG) dX4_countWays_43 rfl (by decide) (Nat.le_of_ble_eq_true rfl) rfl ?_
          refine q_istore (lv' := [some (.ref (B + p)), some (q_i t), some (q_i (z_fst 4 (ξ 8 0))), some (q_i (z_prod (fun w => z_ww 4 (ξ 1005 p) (ξ 8 0) (ξ 8 1) w (z_nt (ξ 8 0) (ξ 8 1) t w)) j)), some (q_i j), some (q_i (z_nt (ξ 8 0) (ξ 8 1) t j)), none]) dX4_countWays_46 (by decide) rfl ?_
          have na := z_nt_in hWN ht0 (w := j) (by omega) (by omega)
          have hfe : ξ 8 0 - 2 ≤ (z_fst 4 (ξ 8 0)) := by unfold z_fst; rw [if_pos rfl]; split <;> omega
          refine q_aload_n dX4_countWays_48 rfl ?_
          refine q_get (v := .ref 8) (fPX4_9 (by omega)) (x_pO hB hP) rfl dX4_countWays_49 ?_
          refine q_get (v := q_i (ξ 8 1)) fX4_33_10 rfl rfl dX4_countWays_52 ?_
          refine q_iload dX4_countWays_55 rfl ?_
          refine q_isub dX4_countWays_57 ?_
          refine q_istore (lv' := [some (.ref (B + p)), some (q_i t), some (q_i (z_fst 4 (ξ 8 0))), some (q_i (z_prod (fun w => z_ww 4 (ξ 1005 p) (ξ 8 0) (ξ 8 1) w (z_nt (ξ 8 0) (ξ 8 1) t w)) j)), some (q_i j), some (q_i (z_nt (ξ 8 0) (ξ 8 1) t j)), some (q_i ((ξ 8 1) - (z_nt (ξ 8 0) (ξ 8 1) t j)))]) dX4_countWays_58 (by decide) rfl ?_
          refine q_iload_n dX4_countWays_60 rfl ?_
          refine q_iload dX4_countWays_61 rfl ?_
          refine q_iconst dX4_countWays_63 ?_
          refine q_icmp_lt (tgt := 80) dX4_countWays_64 (by decide) ⟨by have := z_nt_in hWN ht0 (w := j) (by omega) (by omega); omega, by have := z_nt_in hWN ht0 (w := j) (by omega) (by omega); omega⟩ ⟨by decide, by decide⟩ (fun h64 => ?_) (fun h64 => ?_)
          · skip
            refine q_iconst dX4_countWays_80 ?_
            refine q_iload dX4_countWays_81 rfl ?_
            refine q_iconst dX4_countWays_83 ?_
            refine q_icmp_lt (tgt := 100) dX4_countWays_84 (by decide) ⟨by omega, by omega⟩ ⟨by decide, by decide⟩ (fun h84 => ?_) (fun h84 => ?_)
            · skip
              refine q_iconst dX4_countWays_100 ?_
              refine q_iadd dX4_countWays_101 ?_
              refine q_imul dX4_countWays_102 ?_
              refine q_istore_n (lv' := [some (.ref (B + p)), some (q_i t), some (q_i (z_fst 4 (ξ 8 0))), some (q_i ((z_prod (fun w => z_ww 4 (ξ 1005 p) (ξ 8 0) (ξ 8 1) w (z_nt (ξ 8 0) (ξ 8 1) t w)) j) * (0 + 0))), some (q_i j), some (q_i (z_nt (ξ 8 0) (ξ 8 1) t j)), some (q_i ((ξ 8 1) - (z_nt (ξ 8 0) (ξ 8 1) t j)))]) dX4_countWays_103 (by decide) rfl ?_
              refine q_iinc (lv' := [some (.ref (B + p)), some (q_i t), some (q_i (z_fst 4 (ξ 8 0))), some (q_i ((z_prod (fun w => z_ww 4 (ξ 1005 p) (ξ 8 0) (ξ 8 1) w (z_nt (ξ 8 0) (ξ 8 1) t w)) j) * (0 + 0))), some (q_i (j + 1)), some (q_i (z_nt (ξ 8 0) (ξ 8 1) t j)), some (q_i ((ξ 8 1) - (z_nt (ξ 8 0) (ξ 8 1) t j)))]) dX4_countWays_104 rfl (by decide) rfl ?_
              refine q_goto (tgt := 24) dX4_countWays_107 (by decide) ?_
              exact q_Jle (q_le_s (rfl) (q_le_s (rfl) (q_le_s (rfl) (q_le_s (by (rw [z_prod_s _ (show (0:Int) ≤ j by omega)]; refine congrArg (fun z => some (q_i ((z_prod (fun w => z_ww 4 (ξ 1005 p) (ξ 8 0) (ξ 8 1) w (z_nt (ξ 8 0) (ξ 8 1) t w)) j) * z))) ?_; show _ = z_ww 4 _ _ _ j _; unfold z_ww z_ei; rw [if_neg (by decide), if_pos rfl, if_pos (by omega)]; (repeat' split) <;> first | rfl | (exfalso; omega))) (q_le_s (rfl) (q_le_n (q_le_n (q_le_e _)))))))) (rfl) (rfl) (ih24 (j + 1) (by omega) (by omega) (by omega))
            · skip
              refine q_iload dX4_countWays_87 rfl ?_
              refine q_aload_n dX4_countWays_89 rfl ?_
              refine q_get (v := q_i (ξ 1005 p)) (fPX4_36 (by omega)) (x_pO hB hP) rfl dX4_countWays_90 ?_
              refine q_icmp_gt (tgt := 100) dX4_countWays_93 (by decide) ⟨by omega, by omega⟩ ⟨by omega, by omega⟩ (fun h93 => ?_) (fun h93 => ?_)
              · skip
                refine q_iconst dX4_countWays_100 ?_
                refine q_iadd dX4_countWays_101 ?_
                refine q_imul dX4_countWays_102 ?_
                refine q_istore_n (lv' := [some (.ref (B + p)), some (q_i t), some (q_i (z_fst 4 (ξ 8 0))), some (q_i ((z_prod (fun w => z_ww 4 (ξ 1005 p) (ξ 8 0) (ξ 8 1) w (z_nt (ξ 8 0) (ξ 8 1) t w)) j) * (0 + 0))), some (q_i j), some (q_i (z_nt (ξ 8 0) (ξ 8 1) t j)), some (q_i ((ξ 8 1) - (z_nt (ξ 8 0) (ξ 8 1) t j)))]) dX4_countWays_103 (by decide) rfl ?_
                refine q_iinc (lv' := [some (.ref (B + p)), some (q_i t), some (q_i (z_fst 4 (ξ 8 0))), some (q_i ((z_prod (fun w => z_ww 4 (ξ 1005 p) (ξ 8 0) (ξ 8 1) w (z_nt (ξ 8 0) (ξ 8 1) t w)) j) * (0 + 0))), some (q_i (j + 1)), some (q_i (z_nt (ξ 8 0) (ξ 8 1) t j)), some (q_i ((ξ 8 1) - (z_nt (ξ 8 0) (ξ 8 1) t j)))]) dX4_countWays_104 rfl (by decide) rfl ?_
                refine q_goto (tgt := 24) dX4_countWays_107 (by decide) ?_
                exact q_Jle (q_le_s (rfl) (q_le_s (rfl) (q_le_s (rfl) (q_le_s (by (rw [z_prod_s _ (show (0:Int) ≤ j by omega)]; refine congrArg (fun z => some (q_i ((z_prod (fun w => z_ww 4 (ξ 1005 p) (ξ 8 0) (ξ 8 1) w (z_nt (ξ 8 0) (ξ 8 1) t w)) j) * z))) ?_; show _ = z_ww 4 _ _ _ j _; unfold z_ww z_ei; rw [if_neg (by decide), if_pos rfl, if_pos (by omega)]; (repeat' split) <;> first | rfl | (exfalso; omega))) (q_le_s (rfl) (q_le_n (q_le_n (q_le_e _)))))))) (rfl) (rfl) (ih24 (j + 1) (by omega) (by omega) (by omega))
              · skip
                refine q_iconst dX4_countWays_96 ?_
                refine q_goto (tgt := 101) dX4_countWays_97 (by decide) ?_
                refine q_iadd dX4_countWays_101 ?_
                refine q_imul dX4_countWays_102 ?_
                refine q_istore_n (lv' := [some (.ref (B + p)), some (q_i t), some (q_i (z_fst 4 (ξ 8 0))), some (q_i ((z_prod (fun w => z_ww 4 (ξ 1005 p) (ξ 8 0) (ξ 8 1) w (z_nt (ξ 8 0) (ξ 8 1) t w)) j) * (0 + 1))), some (q_i j), some (q_i (z_nt (ξ 8 0) (ξ 8 1) t j)), some (q_i ((ξ 8 1) - (z_nt (ξ 8 0) (ξ 8 1) t j)))]) dX4_countWays_103 (by decide) rfl ?_
                refine q_iinc (lv' := [some (.ref (B + p)), some (q_i t), some (q_i (z_fst 4 (ξ 8 0))), some (q_i ((z_prod (fun w => z_ww 4 (ξ 1005 p) (ξ 8 0) (ξ 8 1) w (z_nt (ξ 8 0) (ξ 8 1) t w)) j) * (0 + 1))), some (q_i (j + 1)), some (q_i (z_nt (ξ 8 0) (ξ 8 1) t j)), some (q_i ((ξ 8 1) - (z_nt (ξ 8 0) (ξ 8 1) t j)))]) dX4_countWays_104 rfl (by decide) rfl ?_
                refine q_goto (tgt := 24) dX4_countWays_107 (by decide) ?_
                exact q_Jle (q_le_s (rfl) (q_le_s (rfl) (q_le_s (rfl) (q_le_s (by (rw [z_prod_s _ (show (0:Int) ≤ j by omega)]; refine congrArg (fun z => some (q_i ((z_prod (fun w => z_ww 4 (ξ 1005 p) (ξ 8 0) (ξ 8 1) w (z_nt (ξ 8 0) (ξ 8 1) t w)) j) * z))) ?_; show _ = z_ww 4 _ _ _ j _; unfold z_ww z_ei; rw [if_neg (by decide), if_pos rfl, if_pos (by omega)]; (repeat' split) <;> first | rfl | (exfalso; omega))) (q_le_s (rfl) (q_le_n (q_le_n (q_le_e _)))))))) (rfl) (rfl) (ih24 (j + 1) (by omega) (by omega) (by omega))
          · skip
            refine q_iload dX4_countWays_67 rfl ?_
            refine q_aload_n dX4_countWays_69 rfl ?_
            refine q_get (v := q_i (ξ 1005 p)) (fPX4_36 (by omega)) (x_pO hB hP) rfl dX4_countWays_70 ?_
            refine q_icmp_gt (tgt := 80) dX4_countWays_73 (by decide) ⟨by have := z_nt_in hWN ht0 (w := j) (by omega) (by omega); omega, by have := z_nt_in hWN ht0 (w := j) (by omega) (by omega); omega⟩ ⟨by omega, by omega⟩ (fun h73 => ?_) (fun h73 => ?_)
            · skip
              refine q_iconst dX4_countWays_80 ?_
              refine q_iload dX4_countWays_81 rfl ?_
              refine q_iconst dX4_countWays_83 ?_
              refine q_icmp_lt (tgt := 100) dX4_countWays_84 (by decide) ⟨by omega, by omega⟩ ⟨by decide, by decide⟩ (fun h84 => ?_) (fun h84 => ?_)
              · skip
                refine q_iconst dX4_countWays_100 ?_
                refine q_iadd dX4_countWays_101 ?_
                refine q_imul dX4_countWays_102 ?_
                refine q_istore_n (lv' := [some (.ref (B + p)), some (q_i t), some (q_i (z_fst 4 (ξ 8 0))), some (q_i ((z_prod (fun w => z_ww 4 (ξ 1005 p) (ξ 8 0) (ξ 8 1) w (z_nt (ξ 8 0) (ξ 8 1) t w)) j) * (0 + 0))), some (q_i j), some (q_i (z_nt (ξ 8 0) (ξ 8 1) t j)), some (q_i ((ξ 8 1) - (z_nt (ξ 8 0) (ξ 8 1) t j)))]) dX4_countWays_103 (by decide) rfl ?_
                refine q_iinc (lv' := [some (.ref (B + p)), some (q_i t), some (q_i (z_fst 4 (ξ 8 0))), some (q_i ((z_prod (fun w => z_ww 4 (ξ 1005 p) (ξ 8 0) (ξ 8 1) w (z_nt (ξ 8 0) (ξ 8 1) t w)) j) * (0 + 0))), some (q_i (j + 1)), some (q_i (z_nt (ξ 8 0) (ξ 8 1) t j)), some (q_i ((ξ 8 1) - (z_nt (ξ 8 0) (ξ 8 1) t j)))]) dX4_countWays_104 rfl (by decide) rfl ?_
                refine q_goto (tgt := 24) dX4_countWays_107 (by decide) ?_
                exact q_Jle (q_le_s (rfl) (q_le_s (rfl) (q_le_s (rfl) (q_le_s (by (rw [z_prod_s _ (show (0:Int) ≤ j by omega)]; refine congrArg (fun z => some (q_i ((z_prod (fun w => z_ww 4 (ξ 1005 p) (ξ 8 0) (ξ 8 1) w (z_nt (ξ 8 0) (ξ 8 1) t w)) j) * z))) ?_; show _ = z_ww 4 _ _ _ j _; unfold z_ww z_ei; rw [if_neg (by decide), if_pos rfl, if_pos (by omega)]; (repeat' split) <;> first | rfl | (exfalso; omega))) (q_le_s (rfl) (q_le_n (q_le_n (q_le_e _)))))))) (rfl) (rfl) (ih24 (j + 1) (by omega) (by omega) (by omega))
              · skip
                refine q_iload dX4_countWays_87 rfl ?_
                refine q_aload_n dX4_countWays_89 rfl ?_
                refine q_get (v := q_i (ξ 1005 p)) (fPX4_36 (by omega)) (x_pO hB hP) rfl dX4_countWays_90 ?_
                refine q_icmp_gt (tgt := 100) dX4_countWays_93 (by decide) ⟨by omega, by omega⟩ ⟨by omega, by omega⟩ (fun h93 => ?_) (fun h93 => ?_)
                · skip
                  refine q_iconst dX4_countWays_100 ?_
                  refine q_iadd dX4_countWays_101 ?_
                  refine q_imul dX4_countWays_102 ?_
                  refine q_istore_n (lv' := [some (.ref (B + p)), some (q_i t), some (q_i (z_fst 4 (ξ 8 0))), some (q_i ((z_prod (fun w => z_ww 4 (ξ 1005 p) (ξ 8 0) (ξ 8 1) w (z_nt (ξ 8 0) (ξ 8 1) t w)) j) * (0 + 0))), some (q_i j), some (q_i (z_nt (ξ 8 0) (ξ 8 1) t j)), some (q_i ((ξ 8 1) - (z_nt (ξ 8 0) (ξ 8 1) t j)))]) dX4_countWays_103 (by decide) rfl ?_
                  refine q_iinc (lv' := [some (.ref (B + p)), some (q_i t), some (q_i (z_fst 4 (ξ 8 0))), some (q_i ((z_prod (fun w => z_ww 4 (ξ 1005 p) (ξ 8 0) (ξ 8 1) w (z_nt (ξ 8 0) (ξ 8 1) t w)) j) * (0 + 0))), some (q_i (j + 1)), some (q_i (z_nt (ξ 8 0) (ξ 8 1) t j)), some (q_i ((ξ 8 1) - (z_nt (ξ 8 0) (ξ 8 1) t j)))]) dX4_countWays_104 rfl (by decide) rfl ?_
                  refine q_goto (tgt := 24) dX4_countWays_107 (by decide) ?_
                  exact q_Jle (q_le_s (rfl) (q_le_s (rfl) (q_le_s (rfl) (q_le_s (by (rw [z_prod_s _ (show (0:Int) ≤ j by omega)]; refine congrArg (fun z => some (q_i ((z_prod (fun w => z_ww 4 (ξ 1005 p) (ξ 8 0) (ξ 8 1) w (z_nt (ξ 8 0) (ξ 8 1) t w)) j) * z))) ?_; show _ = z_ww 4 _ _ _ j _; unfold z_ww z_ei; rw [if_neg (by decide), if_pos rfl, if_pos (by omega)]; (repeat' split) <;> first | rfl | (exfalso; omega))) (q_le_s (rfl) (q_le_n (q_le_n (q_le_e _)))))))) (rfl) (rfl) (ih24 (j + 1) (by omega) (by omega) (by omega))
                · skip
                  refine q_iconst dX4_countWays_96 ?_
                  refine q_goto (tgt := 101) dX4_countWays_97 (by decide) ?_
                  refine q_iadd dX4_countWays_101 ?_
                  refine q_imul dX4_countWays_102 ?_
                  refine q_istore_n (lv' := [some (.ref (B + p)), some (q_i t), some (q_i (z_fst 4 (ξ 8 0))), some (q_i ((z_prod (fun w => z_ww 4 (ξ 1005 p) (ξ 8 0) (ξ 8 1) w (z_nt (ξ 8 0) (ξ 8 1) t w)) j) * (0 + 1))), some (q_i j), some (q_i (z_nt (ξ 8 0) (ξ 8 1) t j)), some (q_i ((ξ 8 1) - (z_nt (ξ 8 0) (ξ 8 1) t j)))]) dX4_countWays_103 (by decide) rfl ?_
                  refine q_iinc (lv' := [some (.ref (B + p)), some (q_i t), some (q_i (z_fst 4 (ξ 8 0))), some (q_i ((z_prod (fun w => z_ww 4 (ξ 1005 p) (ξ 8 0) (ξ 8 1) w (z_nt (ξ 8 0) (ξ 8 1) t w)) j) * (0 + 1))), some (q_i (j + 1)), some (q_i (z_nt (ξ 8 0) (ξ 8 1) t j)), some (q_i ((ξ 8 1) - (z_nt (ξ 8 0) (ξ 8 1) t j)))]) dX4_countWays_104 rfl (by decide) rfl ?_
                  refine q_goto (tgt := 24) dX4_countWays_107 (by decide) ?_
                  exact q_Jle (q_le_s (rfl) (q_le_s (rfl) (q_le_s (rfl) (q_le_s (by (rw [z_prod_s _ (show (0:Int) ≤ j by omega)]; refine congrArg (fun z => some (q_i ((z_prod (fun w => z_ww 4 (ξ 1005 p) (ξ 8 0) (ξ 8 1) w (z_nt (ξ 8 0) (ξ 8 1) t w)) j) * z))) ?_; show _ = z_ww 4 _ _ _ j _; unfold z_ww z_ei; rw [if_neg (by decide), if_pos rfl, if_pos (by omega)]; (repeat' split) <;> first | rfl | (exfalso; omega))) (q_le_s (rfl) (q_le_n (q_le_n (q_le_e _)))))))) (rfl) (rfl) (ih24 (j + 1) (by omega) (by omega) (by omega))
            · skip
              refine q_iconst dX4_countWays_76 ?_
              refine q_goto (tgt := 81) dX4_countWays_77 (by decide) ?_
              refine q_iload dX4_countWays_81 rfl ?_
              refine q_iconst dX4_countWays_83 ?_
              refine q_icmp_lt (tgt := 100) dX4_countWays_84 (by decide) ⟨by omega, by omega⟩ ⟨by decide, by decide⟩ (fun h84 => ?_) (fun h84 => ?_)
              · skip
                refine q_iconst dX4_countWays_100 ?_
                refine q_iadd dX4_countWays_101 ?_
                refine q_imul dX4_countWays_102 ?_
                refine q_istore_n (lv' := [some (.ref (B + p)), some (q_i t), some (q_i (z_fst 4 (ξ 8 0))), some (q_i ((z_prod (fun w => z_ww 4 (ξ 1005 p) (ξ 8 0) (ξ 8 1) w (z_nt (ξ 8 0) (ξ 8 1) t w)) j) * (1 + 0))), some (q_i j), some (q_i (z_nt (ξ 8 0) (ξ 8 1) t j)), some (q_i ((ξ 8 1) - (z_nt (ξ 8 0) (ξ 8 1) t j)))]) dX4_countWays_103 (by decide) rfl ?_
                refine q_iinc (lv' := [some (.ref (B + p)), some (q_i t), some (q_i (z_fst 4 (ξ 8 0))), some (q_i ((z_prod (fun w => z_ww 4 (ξ 1005 p) (ξ 8 0) (ξ 8 1) w (z_nt (ξ 8 0) (ξ 8 1) t w)) j) * (1 + 0))), some (q_i (j + 1)), some (q_i (z_nt (ξ 8 0) (ξ 8 1) t j)), some (q_i ((ξ 8 1) - (z_nt (ξ 8 0) (ξ 8 1) t j)))]) dX4_countWays_104 rfl (by decide) rfl ?_
                refine q_goto (tgt := 24) dX4_countWays_107 (by decide) ?_
                exact q_Jle (q_le_s (rfl) (q_le_s (rfl) (q_le_s (rfl) (q_le_s (by (rw [z_prod_s _ (show (0:Int) ≤ j by omega)]; refine congrArg (fun z => some (q_i ((z_prod (fun w => z_ww 4 (ξ 1005 p) (ξ 8 0) (ξ 8 1) w (z_nt (ξ 8 0) (ξ 8 1) t w)) j) * z))) ?_; show _ = z_ww 4 _ _ _ j _; unfold z_ww z_ei; rw [if_neg (by decide), if_pos rfl, if_pos (by omega)]; (repeat' split) <;> first | rfl | (exfalso; omega))) (q_le_s (rfl) (q_le_n (q_le_n (q_le_e _)))))))) (rfl) (rfl) (ih24 (j + 1) (by omega) (by omega) (by omega))
              · skip
                refine q_iload dX4_countWays_87 rfl ?_
                refine q_aload_n dX4_countWays_89 rfl ?_
                refine q_get (v := q_i (ξ 1005 p)) (fPX4_36 (by omega)) (x_pO hB hP) rfl dX4_countWays_90 ?_
                refine q_icmp_gt (tgt := 100) dX4_countWays_93 (by decide) ⟨by omega, by omega⟩ ⟨by omega, by omega⟩ (fun h93 => ?_) (fun h93 => ?_)
                · skip
                  refine q_iconst dX4_countWays_100 ?_
                  refine q_iadd dX4_countWays_101 ?_
                  refine q_imul dX4_countWays_102 ?_
                  refine q_istore_n (lv' := [some (.ref (B + p)), some (q_i t), some (q_i (z_fst 4 (ξ 8 0))), some (q_i ((z_prod (fun w => z_ww 4 (ξ 1005 p) (ξ 8 0) (ξ 8 1) w (z_nt (ξ 8 0) (ξ 8 1) t w)) j) * (1 + 0))), some (q_i j), some (q_i (z_nt (ξ 8 0) (ξ 8 1) t j)), some (q_i ((ξ 8 1) - (z_nt (ξ 8 0) (ξ 8 1) t j)))]) dX4_countWays_103 (by decide) rfl ?_
                  refine q_iinc (lv' := [some (.ref (B + p)), some (q_i t), some (q_i (z_fst 4 (ξ 8 0))), some (q_i ((z_prod (fun w => z_ww 4 (ξ 1005 p) (ξ 8 0) (ξ 8 1) w (z_nt (ξ 8 0) (ξ 8 1) t w)) j) * (1 + 0))), some (q_i (j + 1)), some (q_i (z_nt (ξ 8 0) (ξ 8 1) t j)), some (q_i ((ξ 8 1) - (z_nt (ξ 8 0) (ξ 8 1) t j)))]) dX4_countWays_104 rfl (by decide) rfl ?_
                  refine q_goto (tgt := 24) dX4_countWays_107 (by decide) ?_
                  exact q_Jle (q_le_s (rfl) (q_le_s (rfl) (q_le_s (rfl) (q_le_s (by (rw [z_prod_s _ (show (0:Int) ≤ j by omega)]; refine congrArg (fun z => some (q_i ((z_prod (fun w => z_ww 4 (ξ 1005 p) (ξ 8 0) (ξ 8 1) w (z_nt (ξ 8 0) (ξ 8 1) t w)) j) * z))) ?_; show _ = z_ww 4 _ _ _ j _; unfold z_ww z_ei; rw [if_neg (by decide), if_pos rfl, if_pos (by omega)]; (repeat' split) <;> first | rfl | (exfalso; omega))) (q_le_s (rfl) (q_le_n (q_le_n (q_le_e _)))))))) (rfl) (rfl) (ih24 (j + 1) (by omega) (by omega) (by omega))
                · skip
                  refine q_iconst dX4_countWays_96 ?_
                  refine q_goto (tgt := 101) dX4_countWays_97 (by decide) ?_
                  refine q_iadd dX4_countWays_101 ?_
                  refine q_imul dX4_countWays_102 ?_
                  refine q_istore_n (lv' := [some (.ref (B + p)), some (q_i t), some (q_i (z_fst 4 (ξ 8 0))), some (q_i ((z_prod (fun w => z_ww 4 (ξ 1005 p) (ξ 8 0) (ξ 8 1) w (z_nt (ξ 8 0) (ξ 8 1) t w)) j) * (1 + 1))), some (q_i j), some (q_i (z_nt (ξ 8 0) (ξ 8 1) t j)), some (q_i ((ξ 8 1) - (z_nt (ξ 8 0) (ξ 8 1) t j)))]) dX4_countWays_103 (by decide) rfl ?_
                  refine q_iinc (lv' := [some (.ref (B + p)), some (q_i t), some (q_i (z_fst 4 (ξ 8 0))), some (q_i ((z_prod (fun w => z_ww 4 (ξ 1005 p) (ξ 8 0) (ξ 8 1) w (z_nt (ξ 8 0) (ξ 8 1) t w)) j) * (1 + 1))), some (q_i (j + 1)), some (q_i (z_nt (ξ 8 0) (ξ 8 1) t j)), some (q_i ((ξ 8 1) - (z_nt (ξ 8 0) (ξ 8 1) t j)))]) dX4_countWays_104 rfl (by decide) rfl ?_
                  refine q_goto (tgt := 24) dX4_countWays_107 (by decide) ?_
                  exact q_Jle (q_le_s (rfl) (q_le_s (rfl) (q_le_s (rfl) (q_le_s (by (rw [z_prod_s _ (show (0:Int) ≤ j by omega)]; refine congrArg (fun z => some (q_i ((z_prod (fun w => z_ww 4 (ξ 1005 p) (ξ 8 0) (ξ 8 1) w (z_nt (ξ 8 0) (ξ 8 1) t w)) j) * z))) ?_; show _ = z_ww 4 _ _ _ j _; unfold z_ww z_ei; rw [if_neg (by decide), if_pos rfl, if_pos (by omega)]; (repeat' split) <;> first | rfl | (exfalso; omega))) (q_le_s (rfl) (q_le_n (q_le_n (q_le_e _)))))))) (rfl) (rfl) (ih24 (j + 1) (by omega) (by omega) (by omega))
    exact q_Jle (q_le_s (rfl) (q_le_s (rfl) (q_le_s (rfl) (q_le_s (by rw [z_prod_la hW.1 (k := 4) (by decide), show z_la (ξ 8 0) (ξ 8 1) t (z_fst 4 (ξ 8 0)) = 1 by have := z_la_01 (ξ 8 0) (ξ 8 1) t (z_fst 4 (ξ 8 0)); omega]) (q_le_s (rfl) (q_le_n (q_le_n (q_le_e _)))))))) (rfl) (rfl) (L24 ((ξ 8 0 - (z_fst 4 (ξ 8 0)) : Int).toNat + 1) (z_fst 4 (ξ 8 0)) (by omega) (by omega) (by omega))
  · skip
    refine q_iconst dX4_countWays_17 ?_
    exact q_iret rfl dX4_countWays_18 (⟨by rw [z_ways_no hWN ht0 (k := 4) (by decide) (by omega)], rfl⟩)
set_option maxRecDepth 20000 in
theorem tX1_noneAboveFlicks (w : q_W) (ξ : m_S) (B P : Nat) (g : Int → Option Nat) (p : Nat) (hB : 64 ≤ B) (hP : p < P) (h5 : p < 5) (t : Int) (ht0 : 0 ≤ t) (ht1 : t < ξ 8 2) (hG : x_G ξ) (hf : 1 ≤ ξ 1005 p ∧ ξ 1005 p ≤ 3) (hk : ξ 1000 p = 2 ∨ ξ 1000 p = 5) : q_D mX1_noneAboveFlicks 1 [.ref (B + p), q_i t] (x_w w ξ B P g) (some (q_i (z_na (ξ 1005 p) (ξ 8 0) (ξ 8 1) t))) (x_w w ξ B P g) := by
  refine q_T.of (lv := [some (.ref (B + p)), some (q_i t), none]) (by decide) rfl (Nat.le_of_ble_eq_true rfl) ?_
  have hWN := hG.1
  have hW := hG.1.1
  have hN := hG.1.2
  have hS := hG.S
  refine q_iconst dX1_noneAboveFlicks_0 ?_
  refine q_istore_n (lv' := [some (.ref (B + p)), some (q_i t), some (q_i 0)]) dX1_noneAboveFlicks_1 (by decide) rfl ?_
  have L2 : ∀ (m9 : Nat) (k : Int) (hk0 : 0 ≤ k) (hk1 : k ≤ ξ 8 0) (hz : ∀ j, 0 ≤ j → j < k → (z_nt (ξ 8 0) (ξ 8 1) t j) ≤ ξ 1005 p) (hm9 : ξ 8 0 - k < (m9 : Int)), q_J mX1_noneAboveFlicks 1 (fun v' w' => v' = (some (q_i (z_na (ξ 1005 p) (ξ 8 0) (ξ 8 1) t))) ∧ w' = (x_w w ξ B P g)) 0 0 2 [some (.ref (B + p)), some (q_i t), some (q_i k)] [] (x_w w ξ B P g) := by
    intro m9
    induction m9 with
    | zero => intro k hk0 hk1 hz hm9; exact absurd hm9 (by omega)
    | succ m9 ih2 =>
      intro k hk0 hk1 hz hm9
      refine q_iload_n dX1_noneAboveFlicks_2 rfl ?_
      refine q_aload_n dX1_noneAboveFlicks_3 rfl ?_
      refine q_get (v := .ref 8) (fPX1_9 hk) (x_pO hB hP) rfl dX1_noneAboveFlicks_4 ?_
      refine q_get (v := q_i (ξ 8 0)) fX1_25_10 rfl rfl dX1_noneAboveFlicks_7 ?_
      refine q_icmp_ge (tgt := 37) dX1_noneAboveFlicks_10 (by decide) ⟨by omega, by omega⟩ ⟨by omega, by omega⟩ (fun h10 => ?_) (fun h10 => ?_)
      · skip
        refine q_iconst dX1_noneAboveFlicks_37 ?_
        exact q_zret rfl (Or.inr rfl) dX1_noneAboveFlicks_38 (⟨by unfold z_na; rw [show z_prod _ (ξ 8 0) = 1 from z_p_1 (fun j h0 h1 => if_pos (hz j h0 (by omega)))], rfl⟩)
      · skip
        have na := z_nt_in hWN ht0 hk0 (show k < ξ 8 0 by omega)
        refine q_aload_n dX1_noneAboveFlicks_13 rfl ?_
        refine q_get (v := .ref 8) (fPX1_9 hk) (x_pO hB hP) rfl dX1_noneAboveFlicks_14 ?_
        refine q_iload_n dX1_noneAboveFlicks_17 rfl ?_
        refine q_iload_n dX1_noneAboveFlicks_18 rfl ?_
        refine q_cV [q_i t, q_i k] kX1_29_10 rfl (tX10_notchOf w ξ B P g t k (show (0 : Int) ≤ t by omega) (show t < ξ 8 2 by omega) (show (0 : Int) ≤ k by omega) (show k < ξ 8 0 by omega) hG) dX1_noneAboveFlicks_19 rfl (by decide) (Nat.le_of_ble_eq_true rfl) rfl ?_
        refine q_aload_n dX1_noneAboveFlicks_22 rfl ?_
        refine q_get (v := q_i (ξ 1005 p)) (fPX1_33 hk) (x_pO hB hP) rfl dX1_noneAboveFlicks_23 ?_
        refine q_icmp_le (tgt := 31) dX1_noneAboveFlicks_26 (by decide) ⟨by have := z_nt_in hWN ht0 (w := k) (by omega) (by omega); omega, by have := z_nt_in hWN ht0 (w := k) (by omega) (by omega); omega⟩ ⟨by omega, by omega⟩ (fun h26 => ?_) (fun h26 => ?_)
        · skip
          refine q_iinc (lv' := [some (.ref (B + p)), some (q_i t), some (q_i (k + 1))]) dX1_noneAboveFlicks_31 rfl (by decide) rfl ?_
          refine q_goto (tgt := 2) dX1_noneAboveFlicks_34 (by decide) ?_
          exact q_Jle (q_le_s (rfl) (q_le_s (rfl) (q_le_s (rfl) (q_le_e _)))) (rfl) (rfl) (ih2 (k + 1) (by omega) (by omega) (fun j h0 h1 => by rcases (show j < k ∨ j = k by omega) with e | e; exact hz j h0 e; rw [e]; omega) (by omega))
        · skip
          refine q_iconst dX1_noneAboveFlicks_29 ?_
          exact q_zret rfl (Or.inl rfl) dX1_noneAboveFlicks_30 (⟨by unfold z_na; rw [z_prod_z (j := k) hk0 (by omega) (if_neg (by omega))], rfl⟩)
  exact q_Jle (q_le_s (rfl) (q_le_s (rfl) (q_le_s (rfl) (q_le_e _)))) (rfl) (rfl) (L2 ((ξ 8 0 : Int).toNat + 1) 0 (by omega) (by omega) (fun j h0 h1 => by omega) (by omega))
set_option maxRecDepth 20000 in
theorem tX1_countWays (w : q_W) (ξ : m_S) (B P : Nat) (g : Int → Option Nat) (p : Nat) (hB : 64 ≤ B) (hP : p < P) (h5 : p < 5) (t : Int) (ht0 : 0 ≤ t) (ht1 : t < ξ 8 2) (hG : x_G ξ) (hf : 1 ≤ ξ 1005 p ∧ ξ 1005 p ≤ 3) (hk : ξ 1000 p = 2) : q_D mX1_countWays 2 [.ref (B + p), q_i t] (x_w w ξ B P g) (some (q_i (z_ways 2 (ξ 1005 p) (ξ 8 0) (ξ 8 1) 0 t))) (x_w w ξ B P g) := by
  refine q_T.of (lv := [some (.ref (B + p)), some (q_i t)]) (by decide) rfl (Nat.le_of_ble_eq_true rfl) ?_
  have hWN := hG.1
  have hW := hG.1.1
  have hN := hG.1.2
  have hS := hG.S
  have hsi : z_sum (fun w => if z_nt (ξ 8 0) (ξ 8 1) t w = 0 then 0 else 1) (ξ 8 0) = z_sum (fun w => if ¬ z_nt (ξ 8 0) (ξ 8 1) t w = 0 then 1 else 0) (ξ 8 0) := z_sum_c (fun j _ _ => by (try dsimp only); split <;> simp_all)
  refine q_aload_n dX1_countWays_0 rfl ?_
  refine q_get (v := .ref 8) (fPX1_9 (Or.inl hk)) (x_pO hB hP) rfl dX1_countWays_1 ?_
  refine q_iload_n dX1_countWays_4 rfl ?_
  refine q_cV [q_i t] kX1_15_10 rfl (tX10_wheelsIn w ξ B P g t (show (0 : Int) ≤ t by omega) (show t < ξ 8 2 by omega) hG) dX1_countWays_5 rfl (by decide) (Nat.le_of_ble_eq_true rfl) rfl ?_
  refine q_iconst dX1_countWays_8 ?_
  refine q_icmp_ne (tgt := 24) dX1_countWays_9 (by decide) ⟨by have := z_ind_r (fun w => ¬ z_nt (ξ 8 0) (ξ 8 1) t w = 0) (n := ξ 8 0) (by omega); have e9 := hsi; omega, by have := z_ind_r (fun w => ¬ z_nt (ξ 8 0) (ξ 8 1) t w = 0) (n := ξ 8 0) (by omega); have e9 := hsi; omega⟩ ⟨by decide, by decide⟩ (fun h9 => ?_) (fun h9 => ?_)
  · skip
    refine q_iconst dX1_countWays_24 ?_
    exact q_iret rfl dX1_countWays_25 (⟨by (rw [z_ways_any hWN hf.1 ht0]; split <;> first | rfl | (exfalso; omega)), rfl⟩)
  · skip
    refine q_aload_n dX1_countWays_12 rfl ?_
    refine q_iload_n dX1_countWays_13 rfl ?_
    refine q_cP [q_i t] (kPX1_21 (Or.inl hk)) (x_pO hB hP) (tX1_noneAboveFlicks w ξ B P g p hB hP h5 t ht0 ht1 hG hf (Or.inl hk)) dX1_countWays_14 rfl (by decide) (Nat.le_of_ble_eq_true rfl) rfl ?_
    refine q_if_eq (tgt := 24) dX1_countWays_17 (by decide) ⟨by have := z_na_01  (ξ 1005 p) (ξ 8 0) (ξ 8 1) t; omega, by have := z_na_01  (ξ 1005 p) (ξ 8 0) (ξ 8 1) t; omega⟩ (fun h17 => ?_) (fun h17 => ?_)
    · skip
      refine q_iconst dX1_countWays_24 ?_
      exact q_iret rfl dX1_countWays_25 (⟨by (rw [z_ways_any hWN hf.1 ht0]; split <;> first | rfl | (exfalso; omega)), rfl⟩)
    · skip
      refine q_iconst dX1_countWays_20 ?_
      refine q_goto (tgt := 25) dX1_countWays_21 (by decide) ?_
      exact q_iret rfl dX1_countWays_25 (⟨by (rw [z_ways_any hWN hf.1 ht0]; split <;> first | rfl | (exfalso; omega)), rfl⟩)
set_option maxRecDepth 20000 in
theorem tX0_countWays (w : q_W) (ξ : m_S) (B P : Nat) (g : Int → Option Nat) (p : Nat) (hB : 64 ≤ B) (hP : p < P) (h5 : p < 5) (t : Int) (ht0 : 0 ≤ t) (ht1 : t < ξ 8 2) (hG : x_G ξ) (hf : 1 ≤ ξ 1005 p ∧ ξ 1005 p ≤ 3) (hk : ξ 1000 p = 5) : q_D mX0_countWays 2 [.ref (B + p), q_i t] (x_w w ξ B P g) (some (q_i (z_ways 5 (ξ 1005 p) (ξ 8 0) (ξ 8 1) 0 t))) (x_w w ξ B P g) := by
  refine q_T.of (lv := [some (.ref (B + p)), some (q_i t)]) (by decide) rfl (Nat.le_of_ble_eq_true rfl) ?_
  have hWN := hG.1
  have hW := hG.1.1
  have hN := hG.1.2
  have hS := hG.S
  refine q_aload_n dX0_countWays_0 rfl ?_
  refine q_iload_n dX0_countWays_1 rfl ?_
  refine q_cP [q_i t] (kPX0_9 hk) (x_pO hB hP) (tX1_noneAboveFlicks w ξ B P g p hB hP h5 t ht0 ht1 hG hf (Or.inr hk)) dX0_countWays_2 rfl (by decide) (Nat.le_of_ble_eq_true rfl) rfl ?_
  refine q_if_eq (tgt := 12) dX0_countWays_5 (by decide) ⟨by have := z_na_01  (ξ 1005 p) (ξ 8 0) (ξ 8 1) t; omega, by have := z_na_01  (ξ 1005 p) (ξ 8 0) (ξ 8 1) t; omega⟩ (fun h5 => ?_) (fun h5 => ?_)
  · skip
    refine q_iconst dX0_countWays_12 ?_
    exact q_iret rfl dX0_countWays_13 (⟨by (rw [z_ways_a hWN ht0]; rcases z_na_01 (ξ 1005 p) (ξ 8 0) (ξ 8 1) t with q | q <;> rw [q] <;> first | rfl | (exfalso; omega)), rfl⟩)
  · skip
    refine q_iconst dX0_countWays_8 ?_
    refine q_goto (tgt := 13) dX0_countWays_9 (by decide) ?_
    exact q_iret rfl dX0_countWays_13 (⟨by (rw [z_ways_a hWN ht0]; rcases z_na_01 (ξ 1005 p) (ξ 8 0) (ξ 8 1) t with q | q <;> rw [q] <;> first | rfl | (exfalso; omega)), rfl⟩)
