/-! the class's state: xi a is the cell at a (an array: its places; an object: its numbers, by their fields); its cells lie at 0 .. 63, persons at B ..; g: the row of persons -/
def x_rows : Int → Option Nat := fun j => if 0 ≤ j ∧ j < 6 then some (32 + 2 * j.toNat) else none
def x_texts : Int → Option Nat := fun j => if 0 ≤ j ∧ j < 4 then some (44 + 2 * j.toNat) else none
def x_kept : Int → Option Nat := fun j => if 0 ≤ j ∧ j < 3 then some (52 + 4 * j.toNat) else none
def x_arr (b : Nat) : Int → Option Nat := fun j => if 0 ≤ j ∧ j < 5 then some (b + j.toNat) else none
def x_cl (k : Int) : Nat := if k = 1 then 4 else if k = 2 then 1 else if k = 3 then 2 else if k = 4 then 3 else if k = 5 then 0 else 5
def x_cells (g : Int → Option Nat) : List ((Int → Int) → q_E) := [fun f => q_ob 11 [.ref 1, .ref 2, .ref 3, .ref 4, .ref 7, .ref 31, q_i (f 6), q_i (f 7), q_l (f 8), q_l (f 9)], fun _ => q_ra 2 6 x_rows, fun _ => q_ra 2 4 x_texts, fun _ => q_ra 3 3 x_kept, fun f => q_ob 6 [q_i (f 0), q_i (f 1), q_i (f 2), .ref 5, .ref 6], fun f => q_ia 5 f, fun f => q_ia 5 f, fun f => q_ob 8 [q_i (f 0), .ref 8, .ref 10, .ref 14, .ref 15, .ref 16, .ref 17, .ref 18, .ref 19, .ref 25], fun f => q_ob 10 [q_i (f 0), q_i (f 1), q_i (f 2), .ref 9], fun f => q_ia 648 f, fun f => q_ob 9 [q_i (f 0), .ref 11, .ref 12, .ref 13], fun f => q_ia 5 f, fun f => q_ia 16 f, fun f => q_ia 16 f, fun f => q_la 216 f, fun f => q_la 216 f, fun f => q_ia 216 f, fun f => q_la 5 f, fun _ => q_ra 4 5 g, fun _ => q_ra 5 5 (x_arr 20), fun f => q_ia 216 f, fun f => q_ia 216 f, fun f => q_ia 216 f, fun f => q_ia 216 f, fun f => q_ia 216 f, fun _ => q_ra 5 5 (x_arr 26), fun f => q_ia 216 f, fun f => q_ia 216 f, fun f => q_ia 216 f, fun f => q_ia 216 f, fun f => q_ia 216 f, fun f => q_ia 6 f, fun f => q_ob 7 [.ref 33, q_i (f 1)], fun f => q_ia 40 f, fun f => q_ob 7 [.ref 35, q_i (f 1)], fun f => q_ia 40 f, fun f => q_ob 7 [.ref 37, q_i (f 1)], fun f => q_ia 40 f, fun f => q_ob 7 [.ref 39, q_i (f 1)], fun f => q_ia 40 f, fun f => q_ob 7 [.ref 41, q_i (f 1)], fun f => q_ia 40 f, fun f => q_ob 7 [.ref 43, q_i (f 1)], fun f => q_ia 40 f, fun f => q_ob 7 [.ref 45, q_i (f 1)], fun f => q_ia 60 f, fun f => q_ob 7 [.ref 47, q_i (f 1)], fun f => q_ia 60 f, fun f => q_ob 7 [.ref 49, q_i (f 1)], fun f => q_ia 60 f, fun f => q_ob 7 [.ref 51, q_i (f 1)], fun f => q_ia 60 f, fun f => q_ob 9 [q_i (f 0), .ref 53, .ref 54, .ref 55], fun f => q_ia 5 f, fun f => q_ia 16 f, fun f => q_ia 16 f, fun f => q_ob 9 [q_i (f 0), .ref 57, .ref 58, .ref 59], fun f => q_ia 5 f, fun f => q_ia 16 f, fun f => q_ia 16 f, fun f => q_ob 9 [q_i (f 0), .ref 61, .ref 62, .ref 63], fun f => q_ia 5 f, fun f => q_ia 16 f, fun f => q_ia 16 f]
def x_po (ξ : m_S) (p : Nat) : List Value := [.ref 8, .ref (20 + p), .ref (26 + p), q_i (ξ 1003 p), q_i (ξ 1004 p), q_i (ξ 1005 p)]
def x_pw (w : q_W) (ξ : m_S) (B P : Nat) : q_W := fun a => if B ≤ a ∧ a < B + P then some (q_ob (x_cl (ξ 1000 ((a - B : Nat) : Int))) (x_po ξ (a - B))) else w a
def x_w (w : q_W) (ξ : m_S) (B P : Nat) (g : Int → Option Nat) : q_W := fun a => match (x_cells g)[a]? with
  | some c => some (c (ξ a))
  | none => x_pw w ξ B P a
theorem x_pw_k {w : q_W} {ξ : m_S} {B P k : Nat} {f : Int → Int} (hk : k < 1000) : x_pw w (m_u ξ k f) B P = x_pw w ξ B P := by
  funext a
  unfold x_pw x_po
  rw [m_un (show 1000 ≠ k by omega), m_un (show 1003 ≠ k by omega), m_un (show 1004 ≠ k by omega), m_un (show 1005 ≠ k by omega)]
theorem x_up {w : q_W} {ξ : m_S} {B P : Nat} {g : Int → Option Nat} {a : Nat} {c : q_E} {f : Int → Int} (h : ((x_cells g)[a]?).map (fun z => z f) = some c) : q_up (x_w w ξ B P g) a c = x_w w (m_u ξ a f) B P g := by
  obtain ⟨z, h1, h2⟩ := Option.map_eq_some_iff.mp h
  have ha : a < 64 := (List.getElem?_eq_some_iff.mp h1).1
  funext x
  unfold q_up
  by_cases e : x = a
  · subst e
    rw [if_pos rfl]
    unfold x_w
    rw [h1, m_us]
    exact (congrArg some h2).symm
  · rw [if_neg e]
    unfold x_w
    rw [x_pw_k (by omega), m_un e]
/-- a row of ints or a text: its object, how much it holds -/
def x_isR (a n : Nat) : Prop := (n = 40 ∧ (a = 32 ∨ a = 34 ∨ a = 36 ∨ a = 38 ∨ a = 40 ∨ a = 42)) ∨ (n = 60 ∧ (a = 44 ∨ a = 46 ∨ a = 48 ∨ a = 50))
theorem x_isR.n {a n : Nat} (h : x_isR a n) : n = 40 ∨ n = 60 := h.imp (fun q => q.1) (fun q => q.1)
section
variable {w : q_W} {ξ : m_S} {B P : Nat} {g : Int → Option Nat}
theorem x_rO {a n : Nat} (h : x_isR a n) : x_w w ξ B P g a = some (q_ob 7 [.ref (a + 1), q_i (ξ a 1)]) := by
  rcases h with ⟨rfl, rfl | rfl | rfl | rfl | rfl | rfl⟩ | ⟨rfl, rfl | rfl | rfl | rfl⟩ <;> rfl
theorem x_rP {a n : Nat} (h : x_isR a n) : x_w w ξ B P g (a + 1) = some (q_ia n (ξ (a + 1))) := by
  rcases h with ⟨rfl, rfl | rfl | rfl | rfl | rfl | rfl⟩ | ⟨rfl, rfl | rfl | rfl | rfl⟩ <;> rfl
theorem x_rO_u {a n : Nat} (h : x_isR a n) (v : Int) : q_up (x_w w ξ B P g) a (q_ob 7 [.ref (a + 1), q_i v]) = x_w w (m_u ξ a (q_us (ξ a) 1 v)) B P g := by
  refine x_up ?_
  rcases h with ⟨rfl, rfl | rfl | rfl | rfl | rfl | rfl⟩ | ⟨rfl, rfl | rfl | rfl | rfl⟩ <;> rfl
theorem x_rP_u {a n : Nat} (h : x_isR a n) (f : Int → Int) : q_up (x_w w ξ B P g) (a + 1) (q_ia n f) = x_w w (m_u ξ (a + 1) f) B P g := by
  refine x_up ?_
  rcases h with ⟨rfl, rfl | rfl | rfl | rfl | rfl | rfl⟩ | ⟨rfl, rfl | rfl | rfl | rfl⟩ <;> rfl
/-- a kept story, or the shed's -/
def x_isS (a : Nat) : Prop := a = 10 ∨ a = 52 ∨ a = 56 ∨ a = 60
theorem x_sO {a : Nat} (h : x_isS a) : x_w w ξ B P g a = some (q_ob 9 [q_i (ξ a 0), .ref (a + 1), .ref (a + 2), .ref (a + 3)]) := by
  rcases h with rfl | rfl | rfl | rfl <;> rfl
theorem x_sF {a : Nat} (h : x_isS a) : x_w w ξ B P g (a + 1) = some (q_ia 5 (ξ (a + 1))) := by
  rcases h with rfl | rfl | rfl | rfl <;> rfl
theorem x_sP {a : Nat} (h : x_isS a) : x_w w ξ B P g (a + 2) = some (q_ia 16 (ξ (a + 2))) := by
  rcases h with rfl | rfl | rfl | rfl <;> rfl
theorem x_sS {a : Nat} (h : x_isS a) : x_w w ξ B P g (a + 3) = some (q_ia 16 (ξ (a + 3))) := by
  rcases h with rfl | rfl | rfl | rfl <;> rfl
theorem x_sO_u {a : Nat} (h : x_isS a) (v : Int) : q_up (x_w w ξ B P g) a (q_ob 9 [q_i v, .ref (a + 1), .ref (a + 2), .ref (a + 3)]) = x_w w (m_u ξ a (q_us (ξ a) 0 v)) B P g := by
  refine x_up ?_
  rcases h with rfl | rfl | rfl | rfl <;> rfl
theorem x_sF_u {a : Nat} (h : x_isS a) (f : Int → Int) : q_up (x_w w ξ B P g) (a + 1) (q_ia 5 f) = x_w w (m_u ξ (a + 1) f) B P g := by
  refine x_up ?_
  rcases h with rfl | rfl | rfl | rfl <;> rfl
theorem x_sP_u {a : Nat} (h : x_isS a) (f : Int → Int) : q_up (x_w w ξ B P g) (a + 2) (q_ia 16 f) = x_w w (m_u ξ (a + 2) f) B P g := by
  refine x_up ?_
  rcases h with rfl | rfl | rfl | rfl <;> rfl
theorem x_sS_u {a : Nat} (h : x_isS a) (f : Int → Int) : q_up (x_w w ξ B P g) (a + 3) (q_ia 16 f) = x_w w (m_u ξ (a + 3) f) B P g := by
  refine x_up ?_
  rcases h with rfl | rfl | rfl | rfl <;> rfl
/-- the turns' and the times' rows of person p -/
theorem x_tu {p : Nat} (h : p < 5) : x_w w ξ B P g (20 + p) = some (q_ia 216 (ξ (20 + p))) := by
  rcases (show p = 0 ∨ p = 1 ∨ p = 2 ∨ p = 3 ∨ p = 4 by omega) with rfl | rfl | rfl | rfl | rfl <;> rfl
theorem x_ti {p : Nat} (h : p < 5) : x_w w ξ B P g (26 + p) = some (q_ia 216 (ξ (26 + p))) := by
  rcases (show p = 0 ∨ p = 1 ∨ p = 2 ∨ p = 3 ∨ p = 4 by omega) with rfl | rfl | rfl | rfl | rfl <;> rfl
theorem x_tu_u {p : Nat} (h : p < 5) (f : Int → Int) : q_up (x_w w ξ B P g) (20 + p) (q_ia 216 f) = x_w w (m_u ξ (20 + p) f) B P g := by
  refine x_up ?_
  rcases (show p = 0 ∨ p = 1 ∨ p = 2 ∨ p = 3 ∨ p = 4 by omega) with rfl | rfl | rfl | rfl | rfl <;> rfl
theorem x_ti_u {p : Nat} (h : p < 5) (f : Int → Int) : q_up (x_w w ξ B P g) (26 + p) (q_ia 216 f) = x_w w (m_u ξ (26 + p) f) B P g := by
  refine x_up ?_
  rcases (show p = 0 ∨ p = 1 ∨ p = 2 ∨ p = 3 ∨ p = 4 by omega) with rfl | rfl | rfl | rfl | rfl <;> rfl
theorem x_hi {a : Nat} (ha : 64 ≤ a) : x_w w ξ B P g a = x_pw w ξ B P a := by
  unfold x_w
  rw [List.getElem?_eq_none (show (x_cells g).length ≤ a from ha)]
theorem x_pO {p : Nat} (hB : 64 ≤ B) (h : p < P) : x_w w ξ B P g (B + p) = some (q_ob (x_cl (ξ 1000 p)) (x_po ξ p)) := by
  rw [x_hi (by omega)]
  unfold x_pw
  rw [if_pos (by omega), show B + p - B = p by omega]
theorem x_pO_u {p k : Nat} (hB : 64 ≤ B) (h : p < P) (hk : k = 1003 ∨ k = 1004 ∨ k = 1005) (v : Int) : q_up (x_w w ξ B P g) (B + p) (q_ob (x_cl (ξ 1000 p)) ((x_po ξ p).set (k - 1000) (q_i v))) = x_w w (m_u ξ k (q_us (ξ k) p v)) B P g := by
  funext x
  unfold q_up
  by_cases e : x = B + p
  · rw [if_pos e, e, x_pO hB h, m_un (show 1000 ≠ k by omega)]
    refine congrArg (fun z => some (q_ob (x_cl (ξ 1000 p)) z)) ?_
    unfold x_po
    rcases hk with rfl | rfl | rfl
    · rw [m_us, q_us_s, m_un (show 1004 ≠ 1003 by decide), m_un (show 1005 ≠ 1003 by decide)]; rfl
    · rw [m_us, q_us_s, m_un (show 1003 ≠ 1004 by decide), m_un (show 1005 ≠ 1004 by decide)]; rfl
    · rw [m_us, q_us_s, m_un (show 1003 ≠ 1005 by decide), m_un (show 1004 ≠ 1005 by decide)]; rfl
  · rw [if_neg e]
    by_cases h6 : x < 64
    · unfold x_w
      rw [m_un (show x ≠ k by omega), List.getElem?_eq_getElem (show x < (x_cells g).length from h6)]
    · rw [x_hi (by omega), x_hi (by omega)]
      unfold x_pw
      by_cases hx : B ≤ x ∧ x < B + P
      · rw [if_pos hx, if_pos hx, m_un (show 1000 ≠ k by omega)]
        refine congrArg (fun z => some (q_ob (x_cl (ξ 1000 ((x - B : Nat) : Int))) z)) ?_
        unfold x_po
        have hne : ((x - B : Nat) : Int) ≠ (p : Int) := by omega
        rcases hk with rfl | rfl | rfl
        · rw [m_us, q_us_n hne, m_un (show 1004 ≠ 1003 by decide), m_un (show 1005 ≠ 1003 by decide)]
        · rw [m_us, q_us_n hne, m_un (show 1003 ≠ 1004 by decide), m_un (show 1005 ≠ 1004 by decide)]
        · rw [m_us, q_us_n hne, m_un (show 1003 ≠ 1005 by decide), m_un (show 1004 ≠ 1005 by decide)]
      · rw [if_neg hx, if_neg hx]
end
theorem x_m_w {w : q_W} {ξ μ : m_S} {B P : Nat} {g : Int → Option Nat} (hB : 76 ≤ B) : m_w (x_w w ξ B P g) μ = x_w (m_w w μ) ξ B P g := by
  funext a
  by_cases h6 : a < 64
  · have e1 : m_w (x_w w ξ B P g) μ a = x_w w ξ B P g a := by
      unfold m_w
      repeat rw [if_neg (by omega)]
    rw [e1]
    unfold x_w
    rw [List.getElem?_eq_getElem (show a < (x_cells g).length from h6)]
  · rw [x_hi (by omega)]
    by_cases h7 : a < 76
    · have e2 : x_pw (m_w w μ) ξ B P a = m_w w μ a := by
        unfold x_pw
        rw [if_neg (by omega)]
      rw [e2]
      rcases (show a = 64 ∨ a = 65 ∨ a = 66 ∨ a = 67 ∨ a = 68 ∨ a = 69 ∨ a = 70 ∨ a = 71 ∨ a = 72 ∨ a = 73 ∨ a = 74 ∨ a = 75 by omega) with rfl | rfl | rfl | rfl | rfl | rfl | rfl | rfl | rfl | rfl | rfl | rfl <;> rfl
    · have e1 : ∀ w' : q_W, m_w w' μ a = w' a := fun w' => by
        unfold m_w
        repeat rw [if_neg (by omega)]
      rw [e1, x_hi (by omega)]
      unfold x_pw
      rw [e1]
/-! calls to a person's own methods, whatever the kind -/
def q_CP (own : String) (idx : Nat) (k : Int) (M1 : q_M) (np : Nat) : Prop := q_CV own idx (x_cl k) M1 np ∨ q_CU own idx (x_cl k) M1 np
section QR
variable {M : q_M} {fr : Nat} {Q : Option Value → q_W → Prop} {kc ks kc0 ks0 pc : Nat} {lv : List (Option Value)} {st st0 : List Value} {w : q_W}
theorem q_cP {M1 : q_M} {fr1 idx a np : Nat} {k9 : Int} {fs : List Value} (As : List Value) {r : Value} {w1 : q_W} (hc1 : q_CP M.1.cls idx k9 M1 np) (hw : w a = some (q_ob (x_cl k9) fs)) (hT1 : q_D M1 fr1 (.ref a :: As) w (some r) w1) (hd : decode M.2.1 pc = .ok (.invokevirtual idx, 3)) (hst : st0 = As.reverse ++ .ref a :: st) (hfr : fr1 + 1 ≤ fr) (hroom : (st.map (fun v => v.category)).sum ≤ 8) (hn1 : As.length = np) (k : q_J M fr Q kc ks (pc + 3) lv (r :: st) w1) : q_J M fr Q kc ks pc lv st0 w := by
  rcases hc1 with hc1 | hc1
  · exact q_cV As hc1 hw hT1 hd hst hfr hroom hn1 k
  · exact q_cU As hc1 hw hT1 hd hst hfr hroom hn1 k
theorem q_cPv {M1 : q_M} {fr1 idx a np : Nat} {k9 : Int} {fs : List Value} (As : List Value) {w1 : q_W} (hc1 : q_CP M.1.cls idx k9 M1 np) (hw : w a = some (q_ob (x_cl k9) fs)) (hT1 : q_D M1 fr1 (.ref a :: As) w none w1) (hd : decode M.2.1 pc = .ok (.invokevirtual idx, 3)) (hst : st0 = As.reverse ++ .ref a :: st) (hfr : fr1 + 1 ≤ fr) (hroom : (st.map (fun v => v.category)).sum ≤ 8) (hn1 : As.length = np) (k : q_J M fr Q kc ks (pc + 3) lv st w1) : q_J M fr Q kc ks pc lv st0 w := by
  rcases hc1 with hc1 | hc1
  · exact q_cVv As hc1 hw hT1 hd hst hfr hroom hn1 k
  · exact q_cUv As hc1 hw hT1 hd hst hfr hroom hn1 k
end QR
theorem fPX5_21 (k : Int) : q_FL RX5 21 (x_cl k) 0 := by
  unfold x_cl
  split
  · exact fX5_21_4
  · split
    · exact fX5_21_1
    · split
      · exact fX5_21_2
      · split
        · exact fX5_21_3
        · split
          · exact fX5_21_0
          · exact fX5_21_5
theorem fPX1_9 {k : Int} (hk : k = 2 ∨ k = 5) : q_FL RX1 9 (x_cl k) 0 := by
  rcases hk with rfl | rfl
  · exact fX1_9_1
  · exact fX1_9_0
theorem fPX4_9 {k : Int} (hk : k = 1 ∨ k = 4) : q_FL RX4 9 (x_cl k) 0 := by
  rcases hk with rfl | rfl
  · exact fX4_9_4
  · exact fX4_9_3
theorem fPX3_9 {k : Int} (hk : k = 4) : q_FL RX3 9 (x_cl k) 0 := by
  rcases hk with rfl
  · exact fX3_9_3
theorem fPX0_19 {k : Int} (hk : k = 5) : q_FL RX0 19 (x_cl k) 0 := by
  rcases hk with rfl
  · exact fX0_19_0
theorem fPX5_25 (k : Int) : q_FL RX5 25 (x_cl k) 1 := by
  unfold x_cl
  split
  · exact fX5_25_4
  · split
    · exact fX5_25_1
    · split
      · exact fX5_25_2
      · split
        · exact fX5_25_3
        · split
          · exact fX5_25_0
          · exact fX5_25_5
theorem fPX0_28 {k : Int} (hk : k = 5) : q_FL RX0 28 (x_cl k) 1 := by
  rcases hk with rfl
  · exact fX0_28_0
theorem fPX1_39 {k : Int} (hk : k = 2 ∨ k = 5) : q_FL RX1 39 (x_cl k) 1 := by
  rcases hk with rfl | rfl
  · exact fX1_39_1
  · exact fX1_39_0
theorem fPX8_196 (k : Int) : q_FL RX8 196 (x_cl k) 1 := by
  unfold x_cl
  split
  · exact fX8_196_4
  · split
    · exact fX8_196_1
    · split
      · exact fX8_196_2
      · split
        · exact fX8_196_3
        · split
          · exact fX8_196_0
          · exact fX8_196_5
theorem fPX5_29 (k : Int) : q_FL RX5 29 (x_cl k) 2 := by
  unfold x_cl
  split
  · exact fX5_29_4
  · split
    · exact fX5_29_1
    · split
      · exact fX5_29_2
      · split
        · exact fX5_29_3
        · split
          · exact fX5_29_0
          · exact fX5_29_5
theorem fPX5_9 (k : Int) : q_FL RX5 9 (x_cl k) 3 := by
  unfold x_cl
  split
  · exact fX5_9_4
  · split
    · exact fX5_9_1
    · split
      · exact fX5_9_2
      · split
        · exact fX5_9_3
        · split
          · exact fX5_9_0
          · exact fX5_9_5
theorem pPX5_9 (k : Int) : q_FP RX5 9 (x_cl k) 3 .int false := by
  unfold x_cl
  split
  · exact pX5_9_4
  · split
    · exact pX5_9_1
    · split
      · exact pX5_9_2
      · split
        · exact pX5_9_3
        · split
          · exact pX5_9_0
          · exact pX5_9_5
theorem fPX0_15 {k : Int} (hk : k = 5) : q_FL RX0 15 (x_cl k) 3 := by
  rcases hk with rfl
  · exact fX0_15_0
theorem fPX4_39 {k : Int} (hk : k = 1 ∨ k = 4) : q_FL RX4 39 (x_cl k) 3 := by
  rcases hk with rfl | rfl
  · exact fX4_39_4
  · exact fX4_39_3
theorem fPX1_36 {k : Int} (hk : k = 2 ∨ k = 5) : q_FL RX1 36 (x_cl k) 3 := by
  rcases hk with rfl | rfl
  · exact fX1_36_1
  · exact fX1_36_0
theorem fPX8_193 (k : Int) : q_FL RX8 193 (x_cl k) 3 := by
  unfold x_cl
  split
  · exact fX8_193_4
  · split
    · exact fX8_193_1
    · split
      · exact fX8_193_2
      · split
        · exact fX8_193_3
        · split
          · exact fX8_193_0
          · exact fX8_193_5
theorem fPX5_15 (k : Int) : q_FL RX5 15 (x_cl k) 4 := by
  unfold x_cl
  split
  · exact fX5_15_4
  · split
    · exact fX5_15_1
    · split
      · exact fX5_15_2
      · split
        · exact fX5_15_3
        · split
          · exact fX5_15_0
          · exact fX5_15_5
theorem pPX5_15 (k : Int) : q_FP RX5 15 (x_cl k) 4 .int false := by
  unfold x_cl
  split
  · exact pX5_15_4
  · split
    · exact pX5_15_1
    · split
      · exact pX5_15_2
      · split
        · exact pX5_15_3
        · split
          · exact pX5_15_0
          · exact pX5_15_5
theorem fPX11_257 (k : Int) : q_FL RX11 257 (x_cl k) 4 := by
  unfold x_cl
  split
  · exact fX11_257_4
  · split
    · exact fX11_257_1
    · split
      · exact fX11_257_2
      · split
        · exact fX11_257_3
        · split
          · exact fX11_257_0
          · exact fX11_257_5
theorem fPX8_214 (k : Int) : q_FL RX8 214 (x_cl k) 4 := by
  unfold x_cl
  split
  · exact fX8_214_4
  · split
    · exact fX8_214_1
    · split
      · exact fX8_214_2
      · split
        · exact fX8_214_3
        · split
          · exact fX8_214_0
          · exact fX8_214_5
theorem fPX5_18 (k : Int) : q_FL RX5 18 (x_cl k) 5 := by
  unfold x_cl
  split
  · exact fX5_18_4
  · split
    · exact fX5_18_1
    · split
      · exact fX5_18_2
      · split
        · exact fX5_18_3
        · split
          · exact fX5_18_0
          · exact fX5_18_5
theorem pPX5_18 (k : Int) : q_FP RX5 18 (x_cl k) 5 .int false := by
  unfold x_cl
  split
  · exact pX5_18_4
  · split
    · exact pX5_18_1
    · split
      · exact pX5_18_2
      · split
        · exact pX5_18_3
        · split
          · exact pX5_18_0
          · exact pX5_18_5
theorem fPX1_33 {k : Int} (hk : k = 2 ∨ k = 5) : q_FL RX1 33 (x_cl k) 5 := by
  rcases hk with rfl | rfl
  · exact fX1_33_1
  · exact fX1_33_0
theorem fPX4_36 {k : Int} (hk : k = 1 ∨ k = 4) : q_FL RX4 36 (x_cl k) 5 := by
  rcases hk with rfl | rfl
  · exact fX4_36_4
  · exact fX4_36_3
theorem fPX11_156 (k : Int) : q_FL RX11 156 (x_cl k) 5 := by
  unfold x_cl
  split
  · exact fX11_156_4
  · split
    · exact fX11_156_1
    · split
      · exact fX11_156_2
      · split
        · exact fX11_156_3
        · split
          · exact fX11_156_0
          · exact fX11_156_5
theorem kPX8_113 (k : Int) : q_CP RX8 113 k mX5_learn 1 := by
  unfold q_CP x_cl
  split
  · exact Or.inr kX8_113_4
  · split
    · exact Or.inr kX8_113_1
    · split
      · exact Or.inr kX8_113_2
      · split
        · exact Or.inr kX8_113_3
        · split
          · exact Or.inr kX8_113_0
          · exact Or.inl kX8_113_5
theorem kPX0_9 {k : Int} (hk : k = 5) : q_CP RX0 9 k mX1_noneAboveFlicks 1 := by
  rcases hk with rfl
  · exact Or.inr kX0_9_0
theorem kPX1_21 {k : Int} (hk : k = 2 ∨ k = 5) : q_CP RX1 21 k mX1_noneAboveFlicks 1 := by
  rcases hk with rfl | rfl
  · exact Or.inl kX1_21_1
  · exact Or.inr kX1_21_0
theorem kPX8_150 (k : Int) : q_CP RX8 150 k mX5_timesOf 1 := by
  unfold q_CP x_cl
  split
  · exact Or.inr kX8_150_4
  · split
    · exact Or.inr kX8_150_1
    · split
      · exact Or.inr kX8_150_2
      · split
        · exact Or.inr kX8_150_3
        · split
          · exact Or.inr kX8_150_0
          · exact Or.inl kX8_150_5
theorem kPX11_128 {k : Int} (hk : k = 1 ∨ k = 4) : q_CP RX11 128 k mX4_unlikeSights 0 := by
  rcases hk with rfl | rfl
  · exact Or.inl kX11_128_4
  · exact Or.inr kX11_128_3
theorem kPX11_134 {k : Int} (hk : k = 2 ∨ k = 5) : q_CP RX11 134 k mX1_waysLeavingFirst 0 := by
  rcases hk with rfl | rfl
  · exact Or.inl kX11_134_1
  · exact Or.inr kX11_134_0
theorem kPX1_43 {k : Int} (hk : k = 2 ∨ k = 5) : q_CP RX1 43 k mX5_timesOf 1 := by
  rcases hk with rfl | rfl
  · exact Or.inr kX1_43_1
  · exact Or.inr kX1_43_0
theorem kPX11_144 {k : Int} (hk : k = 4) : q_CP RX11 144 k mX3_turnedWheels 0 := by
  rcases hk with rfl
  · exact Or.inl kX11_144_3
theorem kPX3_27 {k : Int} (hk : k = 4) : q_CP RX3 27 k mX3_firstTurned 0 := by
  rcases hk with rfl
  · exact Or.inl kX3_27_3
theorem kPX11_149 {k : Int} (hk : k = 5) : q_CP RX11 149 k mX0_turnedNotches 0 := by
  rcases hk with rfl
  · exact Or.inl kX11_149_0
theorem kPX0_32 {k : Int} (hk : k = 5) : q_CP RX0 32 k mX5_timesOf 1 := by
  rcases hk with rfl
  · exact Or.inr kX0_32_0
theorem kPX11_300 (k : Int) : q_CP RX11 300 k mX5_timesOf 1 := by
  unfold q_CP x_cl
  split
  · exact Or.inr kX11_300_4
  · split
    · exact Or.inr kX11_300_1
    · split
      · exact Or.inr kX11_300_2
      · split
        · exact Or.inr kX11_300_3
        · split
          · exact Or.inr kX11_300_0
          · exact Or.inl kX11_300_5
