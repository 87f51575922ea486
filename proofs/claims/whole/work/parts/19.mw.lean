/-! the reference's state: mu k is field k (a number: mu k 0; an array: its places); its cells lie at 64 .. 75 -/
abbrev m_S : Type := Nat → Int → Int
def m_u (μ : m_S) (k : Nat) (f : Int → Int) : m_S := fun j => if j = k then f else μ j
def m_o (μ : m_S) : List Value := [.ref 65, q_i (μ 1 0), q_i (μ 2 0), q_i (μ 3 0), q_i (μ 4 0), .ref 66, .ref 67, .ref 68, .ref 69, .ref 70, .ref 71, q_i (μ 11 0), q_l (μ 12 0), q_l (μ 13 0), q_i (μ 14 0), .ref 72, q_i (μ 16 0), q_i (μ 17 0), q_i (μ 18 0), q_i (μ 19 0), q_i (μ 20 0), .ref 73, q_i (μ 22 0), .ref 74, .ref 75]
def m_w (w : q_W) (μ : m_S) : q_W := fun a => if a = 64 then some (q_ob 12 (m_o μ)) else if a = 65 then some (q_ia 152 (μ 0)) else if a = 66 then some (q_ia 5 (μ 5)) else if a = 67 then some (q_la 216 (μ 6)) else if a = 68 then some (q_ia 6 (μ 7)) else if a = 69 then some (q_ia 240 (μ 8)) else if a = 70 then some (q_ia 4 (μ 9)) else if a = 71 then some (q_ia 240 (μ 10)) else if a = 72 then some (q_ia 6 (μ 15)) else if a = 73 then some (q_ia 10 (μ 21)) else if a = 74 then some (q_ia 216 (μ 23)) else if a = 75 then some (q_la 216 (μ 24)) else w a
theorem m_p1 (w : q_W) (μ : m_S) (v : Int) : q_up (m_w w μ) 64 (q_ob 12 ((m_o μ).set 1 (q_i v))) = m_w w (m_u μ 1 (fun _ => v)) := by
  funext x
  unfold q_up m_w
  by_cases h : x = 64
  · rw [if_pos h, if_pos h]; rfl
  · rw [if_neg h, if_neg h, if_neg h]; rfl
theorem m_p2 (w : q_W) (μ : m_S) (v : Int) : q_up (m_w w μ) 64 (q_ob 12 ((m_o μ).set 2 (q_i v))) = m_w w (m_u μ 2 (fun _ => v)) := by
  funext x
  unfold q_up m_w
  by_cases h : x = 64
  · rw [if_pos h, if_pos h]; rfl
  · rw [if_neg h, if_neg h, if_neg h]; rfl
theorem m_p3 (w : q_W) (μ : m_S) (v : Int) : q_up (m_w w μ) 64 (q_ob 12 ((m_o μ).set 3 (q_i v))) = m_w w (m_u μ 3 (fun _ => v)) := by
  funext x
  unfold q_up m_w
  by_cases h : x = 64
  · rw [if_pos h, if_pos h]; rfl
  · rw [if_neg h, if_neg h, if_neg h]; rfl
theorem m_p4 (w : q_W) (μ : m_S) (v : Int) : q_up (m_w w μ) 64 (q_ob 12 ((m_o μ).set 4 (q_i v))) = m_w w (m_u μ 4 (fun _ => v)) := by
  funext x
  unfold q_up m_w
  by_cases h : x = 64
  · rw [if_pos h, if_pos h]; rfl
  · rw [if_neg h, if_neg h, if_neg h]; rfl
theorem m_p11 (w : q_W) (μ : m_S) (v : Int) : q_up (m_w w μ) 64 (q_ob 12 ((m_o μ).set 11 (q_i v))) = m_w w (m_u μ 11 (fun _ => v)) := by
  funext x
  unfold q_up m_w
  by_cases h : x = 64
  · rw [if_pos h, if_pos h]; rfl
  · rw [if_neg h, if_neg h, if_neg h]; rfl
theorem m_p12 (w : q_W) (μ : m_S) (v : Int) : q_up (m_w w μ) 64 (q_ob 12 ((m_o μ).set 12 (q_l v))) = m_w w (m_u μ 12 (fun _ => v)) := by
  funext x
  unfold q_up m_w
  by_cases h : x = 64
  · rw [if_pos h, if_pos h]; rfl
  · rw [if_neg h, if_neg h, if_neg h]; rfl
theorem m_p13 (w : q_W) (μ : m_S) (v : Int) : q_up (m_w w μ) 64 (q_ob 12 ((m_o μ).set 13 (q_l v))) = m_w w (m_u μ 13 (fun _ => v)) := by
  funext x
  unfold q_up m_w
  by_cases h : x = 64
  · rw [if_pos h, if_pos h]; rfl
  · rw [if_neg h, if_neg h, if_neg h]; rfl
theorem m_p14 (w : q_W) (μ : m_S) (v : Int) : q_up (m_w w μ) 64 (q_ob 12 ((m_o μ).set 14 (q_i v))) = m_w w (m_u μ 14 (fun _ => v)) := by
  funext x
  unfold q_up m_w
  by_cases h : x = 64
  · rw [if_pos h, if_pos h]; rfl
  · rw [if_neg h, if_neg h, if_neg h]; rfl
theorem m_p16 (w : q_W) (μ : m_S) (v : Int) : q_up (m_w w μ) 64 (q_ob 12 ((m_o μ).set 16 (q_i v))) = m_w w (m_u μ 16 (fun _ => v)) := by
  funext x
  unfold q_up m_w
  by_cases h : x = 64
  · rw [if_pos h, if_pos h]; rfl
  · rw [if_neg h, if_neg h, if_neg h]; rfl
theorem m_p17 (w : q_W) (μ : m_S) (v : Int) : q_up (m_w w μ) 64 (q_ob 12 ((m_o μ).set 17 (q_i v))) = m_w w (m_u μ 17 (fun _ => v)) := by
  funext x
  unfold q_up m_w
  by_cases h : x = 64
  · rw [if_pos h, if_pos h]; rfl
  · rw [if_neg h, if_neg h, if_neg h]; rfl
theorem m_p18 (w : q_W) (μ : m_S) (v : Int) : q_up (m_w w μ) 64 (q_ob 12 ((m_o μ).set 18 (q_i v))) = m_w w (m_u μ 18 (fun _ => v)) := by
  funext x
  unfold q_up m_w
  by_cases h : x = 64
  · rw [if_pos h, if_pos h]; rfl
  · rw [if_neg h, if_neg h, if_neg h]; rfl
theorem m_p19 (w : q_W) (μ : m_S) (v : Int) : q_up (m_w w μ) 64 (q_ob 12 ((m_o μ).set 19 (q_i v))) = m_w w (m_u μ 19 (fun _ => v)) := by
  funext x
  unfold q_up m_w
  by_cases h : x = 64
  · rw [if_pos h, if_pos h]; rfl
  · rw [if_neg h, if_neg h, if_neg h]; rfl
theorem m_p20 (w : q_W) (μ : m_S) (v : Int) : q_up (m_w w μ) 64 (q_ob 12 ((m_o μ).set 20 (q_i v))) = m_w w (m_u μ 20 (fun _ => v)) := by
  funext x
  unfold q_up m_w
  by_cases h : x = 64
  · rw [if_pos h, if_pos h]; rfl
  · rw [if_neg h, if_neg h, if_neg h]; rfl
theorem m_p22 (w : q_W) (μ : m_S) (v : Int) : q_up (m_w w μ) 64 (q_ob 12 ((m_o μ).set 22 (q_i v))) = m_w w (m_u μ 22 (fun _ => v)) := by
  funext x
  unfold q_up m_w
  by_cases h : x = 64
  · rw [if_pos h, if_pos h]; rfl
  · rw [if_neg h, if_neg h, if_neg h]; rfl
theorem m_a0 (w : q_W) (μ : m_S) (f : Int → Int) : q_up (m_w w μ) 65 (q_ia 152 f) = m_w w (m_u μ 0 f) := by
  funext x
  unfold q_up m_w
  by_cases h : x = 65
  · subst h; rfl
  · rw [if_neg h]
    simp only [if_neg h]
    rfl
theorem m_a5 (w : q_W) (μ : m_S) (f : Int → Int) : q_up (m_w w μ) 66 (q_ia 5 f) = m_w w (m_u μ 5 f) := by
  funext x
  unfold q_up m_w
  by_cases h : x = 66
  · subst h; rfl
  · rw [if_neg h]
    simp only [if_neg h]
    rfl
theorem m_a6 (w : q_W) (μ : m_S) (f : Int → Int) : q_up (m_w w μ) 67 (q_la 216 f) = m_w w (m_u μ 6 f) := by
  funext x
  unfold q_up m_w
  by_cases h : x = 67
  · subst h; rfl
  · rw [if_neg h]
    simp only [if_neg h]
    rfl
theorem m_a7 (w : q_W) (μ : m_S) (f : Int → Int) : q_up (m_w w μ) 68 (q_ia 6 f) = m_w w (m_u μ 7 f) := by
  funext x
  unfold q_up m_w
  by_cases h : x = 68
  · subst h; rfl
  · rw [if_neg h]
    simp only [if_neg h]
    rfl
theorem m_a8 (w : q_W) (μ : m_S) (f : Int → Int) : q_up (m_w w μ) 69 (q_ia 240 f) = m_w w (m_u μ 8 f) := by
  funext x
  unfold q_up m_w
  by_cases h : x = 69
  · subst h; rfl
  · rw [if_neg h]
    simp only [if_neg h]
    rfl
theorem m_a9 (w : q_W) (μ : m_S) (f : Int → Int) : q_up (m_w w μ) 70 (q_ia 4 f) = m_w w (m_u μ 9 f) := by
  funext x
  unfold q_up m_w
  by_cases h : x = 70
  · subst h; rfl
  · rw [if_neg h]
    simp only [if_neg h]
    rfl
theorem m_a10 (w : q_W) (μ : m_S) (f : Int → Int) : q_up (m_w w μ) 71 (q_ia 240 f) = m_w w (m_u μ 10 f) := by
  funext x
  unfold q_up m_w
  by_cases h : x = 71
  · subst h; rfl
  · rw [if_neg h]
    simp only [if_neg h]
    rfl
theorem m_a15 (w : q_W) (μ : m_S) (f : Int → Int) : q_up (m_w w μ) 72 (q_ia 6 f) = m_w w (m_u μ 15 f) := by
  funext x
  unfold q_up m_w
  by_cases h : x = 72
  · subst h; rfl
  · rw [if_neg h]
    simp only [if_neg h]
    rfl
theorem m_a21 (w : q_W) (μ : m_S) (f : Int → Int) : q_up (m_w w μ) 73 (q_ia 10 f) = m_w w (m_u μ 21 f) := by
  funext x
  unfold q_up m_w
  by_cases h : x = 73
  · subst h; rfl
  · rw [if_neg h]
    simp only [if_neg h]
    rfl
theorem m_a23 (w : q_W) (μ : m_S) (f : Int → Int) : q_up (m_w w μ) 74 (q_ia 216 f) = m_w w (m_u μ 23 f) := by
  funext x
  unfold q_up m_w
  by_cases h : x = 74
  · subst h; rfl
  · rw [if_neg h]
    simp only [if_neg h]
    rfl
theorem m_a24 (w : q_W) (μ : m_S) (f : Int → Int) : q_up (m_w w μ) 75 (q_la 216 f) = m_w w (m_u μ 24 f) := by
  funext x
  unfold q_up m_w
  by_cases h : x = 75
  · subst h; rfl
  · rw [if_neg h]
    simp only [if_neg h]
    rfl
theorem m_uu (μ : m_S) (k : Nat) (f g : Int → Int) : m_u (m_u μ k f) k g = m_u μ k g := by
  funext j
  unfold m_u
  split <;> rfl
theorem m_us (μ : m_S) (k : Nat) (f : Int → Int) : m_u μ k f k = f := if_pos rfl
theorem m_un {μ : m_S} {k j : Nat} {f : Int → Int} (h : j ≠ k) : m_u μ k f j = μ j := if_neg h
theorem m_uid (μ : m_S) (k : Nat) : m_u μ k (μ k) = μ := by
  funext j
  unfold m_u
  split
  · rename_i h; rw [h]
  · rfl
theorem m_uc (μ : m_S) {k l : Nat} (f g : Int → Int) (h : k ≠ l) : m_u (m_u μ k f) l g = m_u (m_u μ l g) k f := by
  funext j
  unfold m_u
  by_cases h1 : j = l
  · rw [if_pos h1, if_pos h1, if_neg (by omega)]
  · rw [if_neg h1, if_neg h1]
