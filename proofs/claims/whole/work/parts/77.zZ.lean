/-! the world at the start: a new TurnedLock at 0, a new reference at 64 -/
def z_ξ0 : m_S := fun a => if a = 0 then fun j => if j = 9 then 1 else 0 else if 32 ≤ a ∧ a ≤ 50 ∧ a % 2 = 0 then fun j => if j = 1 then -1 else 0 else if a = 52 ∨ a = 56 ∨ a = 60 then fun j => if j = 0 then -1 else 0 else fun _ => 0
def z_μ0 : m_S := fun k => if k = 0 then (q_us (q_us (q_us (fun _ => 0) ((38 * 1) + 0) (-1)) ((38 * 2) + 0) (-1)) ((38 * 3) + 0) (-1)) else if k = 7 then (q_us (q_us (q_us (q_us (q_us (q_us (fun _ => 0) 0 (-1)) 1 (-1)) 2 (-1)) 3 (-1)) 4 (-1)) 5 (-1)) else if k = 9 then (q_us (q_us (q_us (q_us (fun _ => 0) 0 (-1)) 1 (-1)) 2 (-1)) 3 (-1)) else if k = 13 then fun _ => 1 else fun _ => 0
def z_gN : Int → Option Nat := fun _ => none
def z_w0 : q_W := fun _ => none
theorem z_rows0 : (q_us (q_us (q_us (q_us (q_us (q_us (fun _ => none) 0 (some (1 + 31))) 1 (some (1 + 33))) 2 (some (1 + 35))) 3 (some (1 + 37))) 4 (some (1 + 39))) 5 (some (1 + 41))) = x_rows := by
  funext j
  unfold q_us x_rows
  by_cases h : 0 ≤ j ∧ j < 6
  · rcases (show j = 0 ∨ j = 1 ∨ j = 2 ∨ j = 3 ∨ j = 4 ∨ j = 5 by omega) with rfl | rfl | rfl | rfl | rfl | rfl <;> rfl
  · rw [if_neg h]
    repeat rw [if_neg (by omega)]
theorem z_texts0 : (q_us (q_us (q_us (q_us (fun _ => none) 0 (some (1 + 43))) 1 (some (1 + 45))) 2 (some (1 + 47))) 3 (some (1 + 49))) = x_texts := by
  funext j
  unfold q_us x_texts
  by_cases h : 0 ≤ j ∧ j < 4
  · rcases (show j = 0 ∨ j = 1 ∨ j = 2 ∨ j = 3 by omega) with rfl | rfl | rfl | rfl <;> rfl
  · rw [if_neg h]
    repeat rw [if_neg (by omega)]
theorem z_kept0 : (q_us (q_us (q_us (fun _ => none) 0 (some (1 + 51))) 1 (some (1 + 55))) 2 (some (1 + 59))) = x_kept := by
  funext j
  unfold q_us x_kept
  by_cases h : 0 ≤ j ∧ j < 3
  · rcases (show j = 0 ∨ j = 1 ∨ j = 2 by omega) with rfl | rfl | rfl <;> rfl
  · rw [if_neg h]
    repeat rw [if_neg (by omega)]
set_option maxRecDepth 20000 in
theorem z_init11 : (q_k (q_up z_w0 0 (q_ob 11 [.null, .null, .null, .null, .null, .null, q_i 0, q_i 0, q_l 0, q_l 0])) 0 (q_ob 11 [.ref (1 + 0), .ref (1 + 1), .ref (1 + 2), .ref (1 + 3), .ref (1 + 6), .ref (1 + 30), q_i 0, q_i 0, q_l 0, q_l 1]) 1 [q_ra 2 6 (q_us (q_us (q_us (q_us (q_us (q_us (fun _ => none) 0 (some (1 + 31))) 1 (some (1 + 33))) 2 (some (1 + 35))) 3 (some (1 + 37))) 4 (some (1 + 39))) 5 (some (1 + 41))), q_ra 2 4 (q_us (q_us (q_us (q_us (fun _ => none) 0 (some (1 + 43))) 1 (some (1 + 45))) 2 (some (1 + 47))) 3 (some (1 + 49))), q_ra 3 3 (q_us (q_us (q_us (fun _ => none) 0 (some (1 + 51))) 1 (some (1 + 55))) 2 (some (1 + 59))), q_ob 6 [q_i 0, q_i 0, q_i 0, .ref (1 + 4), .ref (1 + 5)], q_ia 5 (fun _ => 0), q_ia 5 (fun _ => 0), q_ob 8 [q_i 0, .ref (1 + 7), .ref (1 + 9), .ref (1 + 13), .ref (1 + 14), .ref (1 + 15), .ref (1 + 16), .ref (1 + 17), .ref (1 + 18), .ref (1 + 24)], q_ob 10 [q_i 0, q_i 0, q_i 0, .ref (1 + 8)], q_ia 648 (fun _ => 0), q_ob 9 [q_i 0, .ref (1 + 10), .ref (1 + 11), .ref (1 + 12)], q_ia 5 (fun _ => 0), q_ia 16 (fun _ => 0), q_ia 16 (fun _ => 0), q_la 216 (fun _ => 0), q_la 216 (fun _ => 0), q_ia 216 (fun _ => 0), q_la 5 (fun _ => 0), q_ra 4 5 (fun _ => none), q_ra 5 5 (x_arr (1 + 19)), q_mz, q_mz, q_mz, q_mz, q_mz, q_ra 5 5 (x_arr (1 + 25)), q_mz, q_mz, q_mz, q_mz, q_mz, q_ia 6 (fun _ => 0), q_ob 7 [.ref (1 + 32), q_i (-1)], q_ia 40 (fun _ => 0), q_ob 7 [.ref (1 + 34), q_i (-1)], q_ia 40 (fun _ => 0), q_ob 7 [.ref (1 + 36), q_i (-1)], q_ia 40 (fun _ => 0), q_ob 7 [.ref (1 + 38), q_i (-1)], q_ia 40 (fun _ => 0), q_ob 7 [.ref (1 + 40), q_i (-1)], q_ia 40 (fun _ => 0), q_ob 7 [.ref (1 + 42), q_i (-1)], q_ia 40 (fun _ => 0), q_ob 7 [.ref (1 + 44), q_i (-1)], q_ia 60 (fun _ => 0), q_ob 7 [.ref (1 + 46), q_i (-1)], q_ia 60 (fun _ => 0), q_ob 7 [.ref (1 + 48), q_i (-1)], q_ia 60 (fun _ => 0), q_ob 7 [.ref (1 + 50), q_i (-1)], q_ia 60 (fun _ => 0), q_ob 9 [q_i (-1), .ref (1 + 52), .ref (1 + 53), .ref (1 + 54)], q_ia 5 (fun _ => 0), q_ia 16 (fun _ => 0), q_ia 16 (fun _ => 0), q_ob 9 [q_i (-1), .ref (1 + 56), .ref (1 + 57), .ref (1 + 58)], q_ia 5 (fun _ => 0), q_ia 16 (fun _ => 0), q_ia 16 (fun _ => 0), q_ob 9 [q_i (-1), .ref (1 + 60), .ref (1 + 61), .ref (1 + 62)], q_ia 5 (fun _ => 0), q_ia 16 (fun _ => 0), q_ia 16 (fun _ => 0)]) = x_w z_w0 z_ξ0 76 0 z_gN := by
  rw [z_rows0, z_texts0, z_kept0]
  funext a
  by_cases h : a < 64
  · rcases (show a = 0 ∨ a = 1 ∨ a = 2 ∨ a = 3 ∨ a = 4 ∨ a = 5 ∨ a = 6 ∨ a = 7 ∨ a = 8 ∨ a = 9 ∨ a = 10 ∨ a = 11 ∨ a = 12 ∨ a = 13 ∨ a = 14 ∨ a = 15 ∨ a = 16 ∨ a = 17 ∨ a = 18 ∨ a = 19 ∨ a = 20 ∨ a = 21 ∨ a = 22 ∨ a = 23 ∨ a = 24 ∨ a = 25 ∨ a = 26 ∨ a = 27 ∨ a = 28 ∨ a = 29 ∨ a = 30 ∨ a = 31 ∨ a = 32 ∨ a = 33 ∨ a = 34 ∨ a = 35 ∨ a = 36 ∨ a = 37 ∨ a = 38 ∨ a = 39 ∨ a = 40 ∨ a = 41 ∨ a = 42 ∨ a = 43 ∨ a = 44 ∨ a = 45 ∨ a = 46 ∨ a = 47 ∨ a = 48 ∨ a = 49 ∨ a = 50 ∨ a = 51 ∨ a = 52 ∨ a = 53 ∨ a = 54 ∨ a = 55 ∨ a = 56 ∨ a = 57 ∨ a = 58 ∨ a = 59 ∨ a = 60 ∨ a = 61 ∨ a = 62 ∨ a = 63 by omega) with rfl | rfl | rfl | rfl | rfl | rfl | rfl | rfl | rfl | rfl | rfl | rfl | rfl | rfl | rfl | rfl | rfl | rfl | rfl | rfl | rfl | rfl | rfl | rfl | rfl | rfl | rfl | rfl | rfl | rfl | rfl | rfl | rfl | rfl | rfl | rfl | rfl | rfl | rfl | rfl | rfl | rfl | rfl | rfl | rfl | rfl | rfl | rfl | rfl | rfl | rfl | rfl | rfl | rfl | rfl | rfl | rfl | rfl | rfl | rfl | rfl | rfl | rfl | rfl <;> rfl
  · rw [x_hi (by omega)]
    unfold q_k x_pw
    rw [if_neg (by omega), if_neg (by omega), if_neg (by omega), List.getElem?_eq_none (show 63 ≤ a - 1 by omega)]
    rfl
set_option maxRecDepth 20000 in
theorem z_init12 : (q_k (q_up (x_w z_w0 z_ξ0 76 0 z_gN) 64 (q_ob 12 [.null, q_i 0, q_i 0, q_i 0, q_i 0, .null, .null, .null, .null, .null, .null, q_i 0, q_l 0, q_l 0, q_i 0, .null, q_i 0, q_i 0, q_i 0, q_i 0, q_i 0, .null, q_i 0, .null, .null])) 64 (q_ob 12 [.ref (65 + 0), q_i 0, q_i 0, q_i 0, q_i 0, .ref (65 + 1), .ref (65 + 2), .ref (65 + 3), .ref (65 + 4), .ref (65 + 5), .ref (65 + 6), q_i 0, q_l 0, q_l 1, q_i 0, .ref (65 + 7), q_i 0, q_i 0, q_i 0, q_i 0, q_i 0, .ref (65 + 8), q_i 0, .ref (65 + 9), .ref (65 + 10)]) 65 [q_ia 152 (q_us (q_us (q_us (fun _ => 0) ((38 * 1) + 0) (-1)) ((38 * 2) + 0) (-1)) ((38 * 3) + 0) (-1)), q_ia 5 (fun _ => 0), q_la 216 (fun _ => 0), q_ia 6 (q_us (q_us (q_us (q_us (q_us (q_us (fun _ => 0) 0 (-1)) 1 (-1)) 2 (-1)) 3 (-1)) 4 (-1)) 5 (-1)), q_ia 240 (fun _ => 0), q_ia 4 (q_us (q_us (q_us (q_us (fun _ => 0) 0 (-1)) 1 (-1)) 2 (-1)) 3 (-1)), q_ia 240 (fun _ => 0), q_ia 6 (fun _ => 0), q_ia 10 (fun _ => 0), q_ia 216 (fun _ => 0), q_la 216 (fun _ => 0)]) = m_w (x_w z_w0 z_ξ0 76 0 z_gN) z_μ0 := by
  funext a
  by_cases h : a < 64
  · unfold q_k q_up m_w
    rw [if_neg (show ¬ a = 64 by omega), if_pos (show a < 65 by omega), if_neg (show ¬ a = 64 by omega)]
    repeat rw [if_neg (by omega)]
  · by_cases h7 : a < 76
    · rcases (show a = 64 ∨ a = 65 ∨ a = 66 ∨ a = 67 ∨ a = 68 ∨ a = 69 ∨ a = 70 ∨ a = 71 ∨ a = 72 ∨ a = 73 ∨ a = 74 ∨ a = 75 by omega) with rfl | rfl | rfl | rfl | rfl | rfl | rfl | rfl | rfl | rfl | rfl | rfl <;> rfl
    · unfold q_k m_w
      rw [if_neg (show ¬ a = 64 by omega), if_neg (show ¬ a < 65 by omega), List.getElem?_eq_none (show 11 ≤ a - 65 by omega)]
      repeat rw [if_neg (by omega)]
      rw [x_hi (by omega)]
      unfold x_pw
      rw [if_neg (by omega)]
      rfl
theorem z_R0 : z_R z_μ0 z_ξ0 76 0 z_gN := by
  have h3 : z_μ0 3 0 = 0 := rfl
  have h4 : z_μ0 4 0 = 0 := rfl
  have h00 : z_μ0 0 0 = 0 := rfl
  have x7 : z_ξ0 7 0 = 0 := rfl
  refine ⟨⟨fun r h0 h1 => ?_, fun j => (show q_r 0 from ⟨by decide, by decide⟩)⟩, ⟨fun t h0 h1 => ?_, fun j => (show -128 ≤ (0 : Int) ∧ (0 : Int) ≤ 127 from ⟨by decide, by decide⟩)⟩, ⟨rfl, rfl, rfl, rfl, fun z => rfl⟩, ⟨⟨rfl, rfl, rfl, rfl, rfl⟩, fun p h0 h1 => by omega, fun d h0 h1 => by omega, fun c h0 h1 => by omega, Or.inl ⟨rfl, rfl, rfl, rfl⟩, ⟨⟨by decide, by decide⟩, fun d h0 h1 => by omega⟩, fun q => by omega, ⟨by decide, rfl, by decide, fun p h0 h1 => by omega⟩, fun p h0 h1 => by omega, fun q => by omega⟩, fun k h0 h1 => ?_⟩
  · have e7 : z_μ0 7 r = -1 := by
      rcases (show r = 0 ∨ r = 1 ∨ r = 2 ∨ r = 3 ∨ r = 4 ∨ r = 5 by omega) with rfl | rfl | rfl | rfl | rfl | rfl <;> rfl
    rw [e7]
    refine ⟨⟨by decide, by decide⟩, ?_, fun j q0 q1 => by omega⟩
    rcases (show r = 0 ∨ r = 1 ∨ r = 2 ∨ r = 3 ∨ r = 4 ∨ r = 5 by omega) with rfl | rfl | rfl | rfl | rfl | rfl <;> rfl
  · have e7 : z_μ0 9 t = -1 := by
      rcases (show t = 0 ∨ t = 1 ∨ t = 2 ∨ t = 3 by omega) with rfl | rfl | rfl | rfl <;> rfl
    have e8 : z_ξ0 (44 + 2 * t.toNat) 1 = -1 ∧ z_ξ0 (44 + 2 * t.toNat + 1) = fun _ => 0 := by
      rcases (show t = 0 ∨ t = 1 ∨ t = 2 ∨ t = 3 by omega) with rfl | rfl | rfl | rfl <;> exact ⟨rfl, rfl⟩
    rw [e7, e8.1, e8.2]
    exact ⟨⟨by decide, by decide⟩, rfl, fun j q0 q1 => by omega, fun j => (show -128 ≤ (0 : Int) ∧ (0 : Int) ≤ 127 from ⟨by decide, by decide⟩)⟩
  · rcases (show k = 0 ∨ k = 1 ∨ k = 2 by omega) with rfl | rfl | rfl <;> exact ⟨rfl, Or.inl rfl⟩
