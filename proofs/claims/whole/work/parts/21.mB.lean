/-! the reference: settings, ways -/
def z_p (f : Int → Int) : Nat → Int
  | 0 => 1
  | k + 1 => z_p f k * f k
def z_prod (f : Int → Int) (n : Int) : Int := z_p f n.toNat
theorem z_prod_0 (f : Int → Int) : z_prod f 0 = 1 := rfl
theorem z_prod_s (f : Int → Int) {n : Int} (h : 0 ≤ n) : z_prod f (n + 1) = z_prod f n * f n := by
  unfold z_prod
  rw [show (n + 1).toNat = n.toNat + 1 by omega]
  show z_p f n.toNat * f (n.toNat : Int) = _
  rw [show (n.toNat : Int) = n by omega]
def z_pw (b n : Int) : Int := z_prod (fun _ => b) n
theorem z_pw_0 (b : Int) : z_pw b 0 = 1 := rfl
theorem z_pw_s (b : Int) {n : Int} (h : 0 ≤ n) : z_pw b (n + 1) = z_pw b n * b := z_prod_s _ h
def z_nt (W N s w : Int) : Int := (s.tdiv (z_pw N (W - 1 - w))).tmod N
def z_up (W N w c s : Int) : Int := (z_nt W N s w - z_nt W N c w + N).tmod N
def z_ei (N f u : Int) : Int := (if 1 ≤ u ∧ u ≤ f then 1 else 0) + (if 1 ≤ N - u ∧ N - u ≤ f then 1 else 0)
def z_ww (k f W N w u : Int) : Int := if k = 1 then (if w = W - 1 then z_ei N f u else if u = 0 then 1 else 0) else if k = 4 then (if W - 2 ≤ w then z_ei N f u else if u = 0 then 1 else 0) else if k = 5 then (if u ≤ f then 1 else 0) else (if w = W - 1 then (if 1 ≤ u ∧ u ≤ f then 1 else 0) else if u = 0 then 1 else 0)
def z_aw (f W N c s : Int) : Int := if z_sum (fun w => if z_up W N w c s = 0 then 0 else 1) W = 1 ∧ z_sum (fun w => z_up W N w c s) W ≤ f then 1 else 0
def z_ways (k f W N c s : Int) : Int := if k = 3 then 1 else if k = 2 then z_aw f W N c s else z_prod (fun w => z_ww k f W N w (z_up W N w c s)) W
def z_two (W : Int) : Int := if W < 2 then W else 2
def z_in (k f W S : Int) : Int := if k = 1 then 2 * f else if k = 2 then W * f else if k = 3 then S else if k = 4 then z_pw (2 * f) (z_two W) else if k = 5 then z_pw (f + 1) W else f
/-- there is a shed: its wheels, notches, settings, persons -/
def m_G (μ : m_S) : Prop := (1 ≤ μ 1 0 ∧ μ 1 0 ≤ 3) ∧ (4 ≤ μ 2 0 ∧ μ 2 0 ≤ 6) ∧ μ 3 0 = z_pw (μ 2 0) (μ 1 0) ∧ (1 ≤ μ 4 0 ∧ μ 4 0 ≤ 5) ∧ (∀ p, 0 ≤ p → p < μ 4 0 → 0 ≤ μ 5 p ∧ μ 5 p ≤ 5 ∧ 1 ≤ μ 0 (1 + p) ∧ μ 0 (1 + p) ≤ 3)
theorem z_pw_r {N n : Int} (hN : 4 ≤ N ∧ N ≤ 6) (h0 : 0 ≤ n) (h3 : n ≤ 3) : 1 ≤ z_pw N n ∧ z_pw N n ≤ 216 := by
  rcases (show N = 4 ∨ N = 5 ∨ N = 6 by omega) with rfl | rfl | rfl <;> rcases (show n = 0 ∨ n = 1 ∨ n = 2 ∨ n = 3 by omega) with rfl | rfl | rfl | rfl <;> decide
theorem m_G.S {μ : m_S} (h : m_G μ) : 4 ≤ μ 3 0 ∧ μ 3 0 ≤ 216 := by
  obtain ⟨h1, h2, h3, -, -⟩ := h
  rw [h3]
  generalize μ 1 0 = W at *
  generalize μ 2 0 = N at *
  rcases (show N = 4 ∨ N = 5 ∨ N = 6 by omega) with rfl | rfl | rfl <;> rcases (show W = 1 ∨ W = 2 ∨ W = 3 by omega) with rfl | rfl | rfl <;> decide
theorem z_nt_r {W N s w : Int} (hN : 4 ≤ N) (hs : 0 ≤ s) (hp : 1 ≤ z_pw N (W - 1 - w)) : 0 ≤ z_nt W N s w ∧ z_nt W N s w < N := by
  unfold z_nt
  have h1 : 0 ≤ s.tdiv (z_pw N (W - 1 - w)) := Int.tdiv_nonneg hs (by omega)
  exact ⟨Int.tmod_nonneg _ h1, Int.tmod_lt_of_pos _ (by omega)⟩
theorem z_up_r {W N c s w : Int} (hW : W ≤ 3) (hN : 4 ≤ N ∧ N ≤ 6) (hc : 0 ≤ c) (hs : 0 ≤ s) (h0 : 0 ≤ w) (h1 : w < W) : 0 ≤ z_up W N w c s ∧ z_up W N w c s < N := by
  have hp := (z_pw_r hN (n := W - 1 - w) (by omega) (by omega)).1
  have g1 := z_nt_r (w := w) (W := W) hN.1 hc hp
  have g2 := z_nt_r (w := w) (W := W) hN.1 hs hp
  unfold z_up
  exact ⟨Int.tmod_nonneg _ (by omega), Int.tmod_lt_of_pos _ (by omega)⟩
set_option maxRecDepth 20000 in
theorem tX12_power (w : q_W) (b n : Int) (hn : q_r n) (h0 : 0 ≤ n) : q_D mX12_power 0 [q_i b, q_i n] w (some (q_i (z_pw b n))) w := by
  refine q_T.of (lv := [some (q_i b), some (q_i n), none, none]) (by decide) rfl (Nat.le_of_ble_eq_true rfl) ?_
  refine q_iconst dX12_power_0 ?_
  refine q_istore_n (lv' := [some (q_i b), some (q_i n), some (q_i 1), none]) dX12_power_1 (by decide) rfl ?_
  refine q_iconst dX12_power_2 ?_
  refine q_istore_n (lv' := [some (q_i b), some (q_i n), some (q_i 1), some (q_i 0)]) dX12_power_3 (by decide) rfl ?_
  have L4 : ∀ (m9 : Nat) (k : Int) (hk0 : 0 ≤ k) (hk1 : k ≤ n) (hm9 : n - k < (m9 : Int)), q_J mX12_power 0 (fun v' w' => v' = (some (q_i (z_pw b n))) ∧ w' = w) 0 0 4 [some (q_i b), some (q_i n), some (q_i (z_pw b k)), some (q_i k)] [] w := by
    intro m9
    induction m9 with
    | zero => intro k hk0 hk1 hm9; exact absurd hm9 (by omega)
    | succ m9 ih4 =>
      intro k hk0 hk1 hm9
      refine q_iload_n dX12_power_4 rfl ?_
      refine q_iload_n dX12_power_5 rfl ?_
      refine q_icmp_ge (tgt := 19) dX12_power_6 (by decide) ⟨by omega, by omega⟩ hn (fun h6 => ?_) (fun h6 => ?_)
      · skip
        refine q_iload_n dX12_power_19 rfl ?_
        exact q_iret rfl dX12_power_20 (⟨by rw [show k = n by omega], rfl⟩)
      · skip
        refine q_iload_n dX12_power_9 rfl ?_
        refine q_iload_n dX12_power_10 rfl ?_
        refine q_imul dX12_power_11 ?_
        refine q_istore_n (lv' := [some (q_i b), some (q_i n), some (q_i ((z_pw b k) * b)), some (q_i k)]) dX12_power_12 (by decide) rfl ?_
        refine q_iinc (lv' := [some (q_i b), some (q_i n), some (q_i ((z_pw b k) * b)), some (q_i (k + 1))]) dX12_power_13 rfl (by decide) rfl ?_
        refine q_goto (tgt := 4) dX12_power_16 (by decide) ?_
        exact q_Jle (q_le_s (rfl) (q_le_s (rfl) (q_le_s (by rw [z_pw_s _ hk0]) (q_le_s (rfl) (q_le_e _))))) (rfl) (rfl) (ih4 (k + 1) (by omega) (by omega) (by omega))
  exact q_Jle (q_le_s (rfl) (q_le_s (rfl) (q_le_s (rfl) (q_le_s (rfl) (q_le_e _))))) (rfl) (rfl) (L4 ((n : Int).toNat + 1) 0 (by omega) (by omega) (by omega))
set_option maxRecDepth 20000 in
theorem tX12_notch (w : q_W) (μ : m_S) (s v : Int) (hs0 : 0 ≤ s) (hs1 : s < μ 3 0) (h0 : 0 ≤ v) (h1 : v < μ 1 0) (hG : m_G μ) : q_D mX12_notch 1 [.ref 64, q_i s, q_i v] (m_w w μ) (some (q_i (z_nt (μ 1 0) (μ 2 0) s v))) (m_w w μ) := by
  refine q_T.of (lv := [some (.ref 64), some (q_i s), some (q_i v)]) (by decide) rfl (Nat.le_of_ble_eq_true rfl) ?_
  have hW := hG.1
  have hN := hG.2.1
  have hS := hG.S
  have hPn := hG.2.2.2.1
  have hp := z_pw_r hN (n := μ 1 0 - 1 - v) (by omega) (by omega)
  have hdv : 0 ≤ s.tdiv (z_pw (μ 2 0) (μ 1 0 - 1 - v)) := Int.tdiv_nonneg hs0 (by omega)
  have hdw : s.tdiv (z_pw (μ 2 0) (μ 1 0 - 1 - v)) ≤ s := Int.tdiv_le_self _ hs0
  refine q_iload_n dX12_notch_0 rfl ?_
  refine q_aload_n dX12_notch_1 rfl ?_
  refine q_get (v := q_i (μ 2 0)) fX12_133_12 rfl rfl dX12_notch_2 ?_
  refine q_aload_n dX12_notch_5 rfl ?_
  refine q_get (v := q_i (μ 1 0)) fX12_130_12 rfl rfl dX12_notch_6 ?_
  refine q_iconst dX12_notch_9 ?_
  refine q_isub dX12_notch_10 ?_
  refine q_iload_n dX12_notch_11 rfl ?_
  refine q_isub dX12_notch_12 ?_
  refine q_cS [q_i (μ 2 0), q_i (((μ 1 0) - 1) - v)] kX12_136 (tX12_power (m_w w μ) (μ 2 0) (((μ 1 0) - 1) - v) ⟨by omega, by omega⟩ (by omega)) dX12_notch_13 rfl (by decide) (Nat.le_of_ble_eq_true rfl) rfl ?_
  refine q_idiv dX12_notch_16 ⟨by omega, by omega⟩ ⟨by omega, by omega⟩ (by omega) (by omega) ?_
  refine q_aload_n dX12_notch_17 rfl ?_
  refine q_get (v := q_i (μ 2 0)) fX12_133_12 rfl rfl dX12_notch_18 ?_
  refine q_irem dX12_notch_21 ⟨by omega, by omega⟩ ⟨by omega, by omega⟩ (by omega) (by omega) ?_
  exact q_iret rfl dX12_notch_22 (⟨rfl, rfl⟩)
set_option maxRecDepth 20000 in
theorem tX12_up (w : q_W) (μ : m_S) (v c s : Int) (h0 : 0 ≤ v) (h1 : v < μ 1 0) (hc0 : 0 ≤ c) (hc1 : c < μ 3 0) (hs0 : 0 ≤ s) (hs1 : s < μ 3 0) (hG : m_G μ) : q_D mX12_up 2 [.ref 64, q_i v, q_i c, q_i s] (m_w w μ) (some (q_i (z_up (μ 1 0) (μ 2 0) v c s))) (m_w w μ) := by
  refine q_T.of (lv := [some (.ref 64), some (q_i v), some (q_i c), some (q_i s)]) (by decide) rfl (Nat.le_of_ble_eq_true rfl) ?_
  have hW := hG.1
  have hN := hG.2.1
  have hS := hG.S
  have hPn := hG.2.2.2.1
  have hp := (z_pw_r hN (n := μ 1 0 - 1 - v) (by omega) (by omega)).1
  have g1 := z_nt_r (w := v) (W := μ 1 0) hN.1 hc0 hp
  have g2 := z_nt_r (w := v) (W := μ 1 0) hN.1 hs0 hp
  refine q_aload_n dX12_up_0 rfl ?_
  refine q_iload_n dX12_up_1 rfl ?_
  refine q_iload_n dX12_up_2 rfl ?_
  refine q_cV [q_i s, q_i v] kX12_148_12 rfl (tX12_notch w μ s v (by omega) (by omega) (by omega) (by omega) hG) dX12_up_3 rfl (by decide) (Nat.le_of_ble_eq_true rfl) rfl ?_
  refine q_aload_n dX12_up_6 rfl ?_
  refine q_iload_n dX12_up_7 rfl ?_
  refine q_iload_n dX12_up_8 rfl ?_
  refine q_cV [q_i c, q_i v] kX12_148_12 rfl (tX12_notch w μ c v (by omega) (by omega) (by omega) (by omega) hG) dX12_up_9 rfl (by decide) (Nat.le_of_ble_eq_true rfl) rfl ?_
  refine q_isub dX12_up_12 ?_
  refine q_aload_n dX12_up_13 rfl ?_
  refine q_get (v := q_i (μ 2 0)) fX12_133_12 rfl rfl dX12_up_14 ?_
  refine q_iadd dX12_up_17 ?_
  refine q_aload_n dX12_up_18 rfl ?_
  refine q_get (v := q_i (μ 2 0)) fX12_133_12 rfl rfl dX12_up_19 ?_
  refine q_irem dX12_up_22 ⟨by omega, by omega⟩ ⟨by omega, by omega⟩ (by omega) (by omega) ?_
  exact q_iret rfl dX12_up_23 (⟨rfl, rfl⟩)
set_option maxRecDepth 20000 in
theorem tX12_flicksOf (w : q_W) (μ : m_S) (p : Int) (h0 : 0 ≤ p) (h1 : p < 5) : q_D mX12_flicksOf 0 [.ref 64, q_i p] (m_w w μ) (some (q_i (μ 0 (1 + p)))) (m_w w μ) := by
  refine q_T.of (lv := [some (.ref 64), some (q_i p)]) (by decide) rfl (Nat.le_of_ble_eq_true rfl) ?_
  refine q_aload_n dX12_flicksOf_0 rfl ?_
  refine q_get (v := .ref 65) fX12_7_12 rfl rfl dX12_flicksOf_1 ?_
  refine q_iconst dX12_flicksOf_4 ?_
  refine q_iload_n dX12_flicksOf_5 rfl ?_
  refine q_iadd dX12_flicksOf_6 ?_
  refine q_iald (f := (μ 0)) (n9 := 152) rfl (by omega) (by omega) dX12_flicksOf_7 ?_
  exact q_iret rfl dX12_flicksOf_8 (⟨rfl, rfl⟩)
set_option maxRecDepth 20000 in
theorem tX12_eithers (w : q_W) (μ : m_S) (f u : Int) (hf0 : 0 ≤ f) (hf1 : f ≤ 3) (hu0 : 0 ≤ u) (hu1 : u < μ 2 0) (hG : m_G μ) : q_D mX12_eithers 1 [.ref 64, q_i f, q_i u] (m_w w μ) (some (q_i (z_ei (μ 2 0) f u))) (m_w w μ) := by
  refine q_T.of (lv := [some (.ref 64), some (q_i f), some (q_i u)]) (by decide) rfl (Nat.le_of_ble_eq_true rfl) ?_
  have hW := hG.1
  have hN := hG.2.1
  have hS := hG.S
  have hPn := hG.2.2.2.1
  refine q_iload_n dX12_eithers_0 rfl ?_
  refine q_i2lr dX12_eithers_1 ⟨by omega, by omega⟩ ?_
  refine q_lconst 1 dX12_eithers_2 ?_
  refine q_iload_n dX12_eithers_3 rfl ?_
  refine q_i2lr dX12_eithers_4 ⟨by omega, by omega⟩ ?_
  refine q_cS [q_l u, q_l 1, q_l f] kX12_57 (tX12_in u 1 f (⟨by omega, by omega⟩) (⟨by decide, by decide⟩) (⟨by omega, by omega⟩) (m_w w μ)) dX12_eithers_5 rfl (by decide) (Nat.le_of_ble_eq_true rfl) rfl ?_
  refine q_ifb_eq (tgt := 15) dX12_eithers_8 (by decide) (fun h8 => ?_) (fun h8 => ?_)
  · skip
    refine q_iconst dX12_eithers_15 ?_
    refine q_aload_n dX12_eithers_16 rfl ?_
    refine q_get (v := q_i (μ 2 0)) fX12_133_12 rfl rfl dX12_eithers_17 ?_
    refine q_iload_n dX12_eithers_20 rfl ?_
    refine q_isub dX12_eithers_21 ?_
    refine q_i2lr dX12_eithers_22 ⟨by omega, by omega⟩ ?_
    refine q_lconst 1 dX12_eithers_23 ?_
    refine q_iload_n dX12_eithers_24 rfl ?_
    refine q_i2lr dX12_eithers_25 ⟨by omega, by omega⟩ ?_
    refine q_cS [q_l ((μ 2 0) - u), q_l 1, q_l f] kX12_57 (tX12_in ((μ 2 0) - u) 1 f (⟨by omega, by omega⟩) (⟨by decide, by decide⟩) (⟨by omega, by omega⟩) (m_w w μ)) dX12_eithers_26 rfl (by decide) (Nat.le_of_ble_eq_true rfl) rfl ?_
    refine q_ifb_eq (tgt := 36) dX12_eithers_29 (by decide) (fun h29 => ?_) (fun h29 => ?_)
    · skip
      refine q_iconst dX12_eithers_36 ?_
      refine q_iadd dX12_eithers_37 ?_
      exact q_iret rfl dX12_eithers_38 (⟨by (unfold z_ei; (repeat' split) <;> first | rfl | (exfalso; omega)), rfl⟩)
    · skip
      refine q_iconst dX12_eithers_32 ?_
      refine q_goto (tgt := 37) dX12_eithers_33 (by decide) ?_
      refine q_iadd dX12_eithers_37 ?_
      exact q_iret rfl dX12_eithers_38 (⟨by (unfold z_ei; (repeat' split) <;> first | rfl | (exfalso; omega)), rfl⟩)
  · skip
    refine q_iconst dX12_eithers_11 ?_
    refine q_goto (tgt := 16) dX12_eithers_12 (by decide) ?_
    refine q_aload_n dX12_eithers_16 rfl ?_
    refine q_get (v := q_i (μ 2 0)) fX12_133_12 rfl rfl dX12_eithers_17 ?_
    refine q_iload_n dX12_eithers_20 rfl ?_
    refine q_isub dX12_eithers_21 ?_
    refine q_i2lr dX12_eithers_22 ⟨by omega, by omega⟩ ?_
    refine q_lconst 1 dX12_eithers_23 ?_
    refine q_iload_n dX12_eithers_24 rfl ?_
    refine q_i2lr dX12_eithers_25 ⟨by omega, by omega⟩ ?_
    refine q_cS [q_l ((μ 2 0) - u), q_l 1, q_l f] kX12_57 (tX12_in ((μ 2 0) - u) 1 f (⟨by omega, by omega⟩) (⟨by decide, by decide⟩) (⟨by omega, by omega⟩) (m_w w μ)) dX12_eithers_26 rfl (by decide) (Nat.le_of_ble_eq_true rfl) rfl ?_
    refine q_ifb_eq (tgt := 36) dX12_eithers_29 (by decide) (fun h29 => ?_) (fun h29 => ?_)
    · skip
      refine q_iconst dX12_eithers_36 ?_
      refine q_iadd dX12_eithers_37 ?_
      exact q_iret rfl dX12_eithers_38 (⟨by (unfold z_ei; (repeat' split) <;> first | rfl | (exfalso; omega)), rfl⟩)
    · skip
      refine q_iconst dX12_eithers_32 ?_
      refine q_goto (tgt := 37) dX12_eithers_33 (by decide) ?_
      refine q_iadd dX12_eithers_37 ?_
      exact q_iret rfl dX12_eithers_38 (⟨by (unfold z_ei; (repeat' split) <;> first | rfl | (exfalso; omega)), rfl⟩)
set_option maxRecDepth 20000 in
theorem tX12_wheelWays (w : q_W) (μ : m_S) (p v u : Int) (hp0 : 0 ≤ p) (hp1 : p < μ 4 0) (h0 : 0 ≤ v) (h1 : v < μ 1 0) (hu0 : 0 ≤ u) (hu1 : u < μ 2 0) (hG : m_G μ) : q_D mX12_wheelWays 2 [.ref 64, q_i p, q_i v, q_i u] (m_w w μ) (some (q_i (z_ww (μ 5 p) (μ 0 (1 + p)) (μ 1 0) (μ 2 0) v u))) (m_w w μ) := by
  refine q_T.of (lv := [some (.ref 64), some (q_i p), some (q_i v), some (q_i u), none, none]) (by decide) rfl (Nat.le_of_ble_eq_true rfl) ?_
  have hW := hG.1
  have hN := hG.2.1
  have hS := hG.S
  have hPn := hG.2.2.2.1
  have hq := hG.2.2.2.2 p hp0 hp1
  refine q_aload_n dX12_wheelWays_0 rfl ?_
  refine q_iload_n dX12_wheelWays_1 rfl ?_
  refine q_cV [q_i p] kX12_151_12 rfl (tX12_flicksOf w μ p (by omega) (by omega)) dX12_wheelWays_2 rfl (by decide) (Nat.le_of_ble_eq_true rfl) rfl ?_
  refine q_istore (lv' := [some (.ref 64), some (q_i p), some (q_i v), some (q_i u), some (q_i ((μ 0) (1 + p))), none]) dX12_wheelWays_5 (by decide) rfl ?_
  refine q_iload_n dX12_wheelWays_7 rfl ?_
  refine q_aload_n dX12_wheelWays_8 rfl ?_
  refine q_get (v := q_i (μ 1 0)) fX12_130_12 rfl rfl dX12_wheelWays_9 ?_
  refine q_iconst dX12_wheelWays_12 ?_
  refine q_isub dX12_wheelWays_13 ?_
  refine q_icmp_ne (tgt := 21) dX12_wheelWays_14 (by decide) ⟨by omega, by omega⟩ ⟨by omega, by omega⟩ (fun h14 => ?_) (fun h14 => ?_)
  · skip
    refine q_iconst dX12_wheelWays_21 ?_
    refine q_istore (lv' := [some (.ref 64), some (q_i p), some (q_i v), some (q_i u), some (q_i ((μ 0) (1 + p))), some (q_i 0)]) dX12_wheelWays_22 (by decide) rfl ?_
    refine q_aload_n dX12_wheelWays_24 rfl ?_
    refine q_get (v := .ref 66) fX12_13_12 rfl rfl dX12_wheelWays_25 ?_
    refine q_iload_n dX12_wheelWays_28 rfl ?_
    refine q_iald (f := (μ 5)) (n9 := 5) rfl (by omega) (by omega) dX12_wheelWays_29 ?_
    rcases (show ((μ 5) p) = 1 ∨ ((μ 5) p) = 2 ∨ ((μ 5) p) = 3 ∨ ((μ 5) p) = 4 ∨ ((μ 5) p) = 5 ∨ (((μ 5) p) < 1 ∨ 5 < ((μ 5) p)) by omega) with hs30 | hs30 | hs30 | hs30 | hs30 | hs30
    · skip
      refine q_tabIn (tgt := 64) dX12_wheelWays_30 ⟨by omega, by omega⟩ (by omega) (by omega) (by rw [hs30]; rfl) (by decide) ?_
      refine q_iload dX12_wheelWays_64 rfl ?_
      refine q_if_eq (tgt := 79) dX12_wheelWays_66 (by decide) ⟨by decide, by decide⟩ (fun h66 => ?_) (fun h66 => ?_)
      · skip
        refine q_iload_n dX12_wheelWays_79 rfl ?_
        refine q_if_ne (tgt := 87) dX12_wheelWays_80 (by decide) ⟨by omega, by omega⟩ (fun h80 => ?_) (fun h80 => ?_)
        · skip
          refine q_iconst dX12_wheelWays_87 ?_
          exact q_iret rfl dX12_wheelWays_88 (⟨by (unfold z_ww; (repeat' split) <;> first | rfl | (exfalso; omega)), rfl⟩)
        · skip
          refine q_iconst dX12_wheelWays_83 ?_
          refine q_goto (tgt := 88) dX12_wheelWays_84 (by decide) ?_
          exact q_iret rfl dX12_wheelWays_88 (⟨by (unfold z_ww; (repeat' split) <;> first | rfl | (exfalso; omega)), rfl⟩)
      · skip
        refine q_aload_n dX12_wheelWays_69 rfl ?_
        refine q_iload dX12_wheelWays_70 rfl ?_
        refine q_iload_n dX12_wheelWays_72 rfl ?_
        refine q_cV [q_i ((μ 0) (1 + p)), q_i u] kX12_154_12 rfl (tX12_eithers w μ ((μ 0) (1 + p)) u (by omega) (by omega) (by omega) (by omega) hG) dX12_wheelWays_73 rfl (by decide) (Nat.le_of_ble_eq_true rfl) rfl ?_
        refine q_goto (tgt := 88) dX12_wheelWays_76 (by decide) ?_
        exact q_iret rfl dX12_wheelWays_88 (⟨by (unfold z_ww; (repeat' split) <;> first | rfl | (exfalso; omega)), rfl⟩)
    · skip
      refine q_tabIn (tgt := 131) dX12_wheelWays_30 ⟨by omega, by omega⟩ (by omega) (by omega) (by rw [hs30]; rfl) (by decide) ?_
      refine q_iload dX12_wheelWays_131 rfl ?_
      refine q_if_eq (tgt := 156) dX12_wheelWays_133 (by decide) ⟨by decide, by decide⟩ (fun h133 => ?_) (fun h133 => ?_)
      · skip
        refine q_iload_n dX12_wheelWays_156 rfl ?_
        refine q_if_ne (tgt := 164) dX12_wheelWays_157 (by decide) ⟨by omega, by omega⟩ (fun h157 => ?_) (fun h157 => ?_)
        · skip
          refine q_iconst dX12_wheelWays_164 ?_
          exact q_iret rfl dX12_wheelWays_165 (⟨by (unfold z_ww; (repeat' split) <;> first | rfl | (exfalso; omega)), rfl⟩)
        · skip
          refine q_iconst dX12_wheelWays_160 ?_
          refine q_goto (tgt := 165) dX12_wheelWays_161 (by decide) ?_
          exact q_iret rfl dX12_wheelWays_165 (⟨by (unfold z_ww; (repeat' split) <;> first | rfl | (exfalso; omega)), rfl⟩)
      · skip
        refine q_iload_n dX12_wheelWays_136 rfl ?_
        refine q_i2lr dX12_wheelWays_137 ⟨by omega, by omega⟩ ?_
        refine q_lconst 1 dX12_wheelWays_138 ?_
        refine q_iload dX12_wheelWays_139 rfl ?_
        refine q_i2lr dX12_wheelWays_141 ⟨by omega, by omega⟩ ?_
        refine q_cS [q_l u, q_l 1, q_l ((μ 0) (1 + p))] kX12_57 (tX12_in u 1 ((μ 0) (1 + p)) (⟨by omega, by omega⟩) (⟨by decide, by decide⟩) (⟨by omega, by omega⟩) (m_w w μ)) dX12_wheelWays_142 rfl (by decide) (Nat.le_of_ble_eq_true rfl) rfl ?_
        refine q_ifb_eq (tgt := 152) dX12_wheelWays_145 (by decide) (fun h145 => ?_) (fun h145 => ?_)
        · skip
          refine q_iconst dX12_wheelWays_152 ?_
          refine q_goto (tgt := 165) dX12_wheelWays_153 (by decide) ?_
          exact q_iret rfl dX12_wheelWays_165 (⟨by (unfold z_ww; (repeat' split) <;> first | rfl | (exfalso; omega)), rfl⟩)
        · skip
          refine q_iconst dX12_wheelWays_148 ?_
          refine q_goto (tgt := 165) dX12_wheelWays_149 (by decide) ?_
          exact q_iret rfl dX12_wheelWays_165 (⟨by (unfold z_ww; (repeat' split) <;> first | rfl | (exfalso; omega)), rfl⟩)
    · skip
      refine q_tabIn (tgt := 131) dX12_wheelWays_30 ⟨by omega, by omega⟩ (by omega) (by omega) (by rw [hs30]; rfl) (by decide) ?_
      refine q_iload dX12_wheelWays_131 rfl ?_
      refine q_if_eq (tgt := 156) dX12_wheelWays_133 (by decide) ⟨by decide, by decide⟩ (fun h133 => ?_) (fun h133 => ?_)
      · skip
        refine q_iload_n dX12_wheelWays_156 rfl ?_
        refine q_if_ne (tgt := 164) dX12_wheelWays_157 (by decide) ⟨by omega, by omega⟩ (fun h157 => ?_) (fun h157 => ?_)
        · skip
          refine q_iconst dX12_wheelWays_164 ?_
          exact q_iret rfl dX12_wheelWays_165 (⟨by (unfold z_ww; (repeat' split) <;> first | rfl | (exfalso; omega)), rfl⟩)
        · skip
          refine q_iconst dX12_wheelWays_160 ?_
          refine q_goto (tgt := 165) dX12_wheelWays_161 (by decide) ?_
          exact q_iret rfl dX12_wheelWays_165 (⟨by (unfold z_ww; (repeat' split) <;> first | rfl | (exfalso; omega)), rfl⟩)
      · skip
        refine q_iload_n dX12_wheelWays_136 rfl ?_
        refine q_i2lr dX12_wheelWays_137 ⟨by omega, by omega⟩ ?_
        refine q_lconst 1 dX12_wheelWays_138 ?_
        refine q_iload dX12_wheelWays_139 rfl ?_
        refine q_i2lr dX12_wheelWays_141 ⟨by omega, by omega⟩ ?_
        refine q_cS [q_l u, q_l 1, q_l ((μ 0) (1 + p))] kX12_57 (tX12_in u 1 ((μ 0) (1 + p)) (⟨by omega, by omega⟩) (⟨by decide, by decide⟩) (⟨by omega, by omega⟩) (m_w w μ)) dX12_wheelWays_142 rfl (by decide) (Nat.le_of_ble_eq_true rfl) rfl ?_
        refine q_ifb_eq (tgt := 152) dX12_wheelWays_145 (by decide) (fun h145 => ?_) (fun h145 => ?_)
        · skip
          refine q_iconst dX12_wheelWays_152 ?_
          refine q_goto (tgt := 165) dX12_wheelWays_153 (by decide) ?_
          exact q_iret rfl dX12_wheelWays_165 (⟨by (unfold z_ww; (repeat' split) <;> first | rfl | (exfalso; omega)), rfl⟩)
        · skip
          refine q_iconst dX12_wheelWays_148 ?_
          refine q_goto (tgt := 165) dX12_wheelWays_149 (by decide) ?_
          exact q_iret rfl dX12_wheelWays_165 (⟨by (unfold z_ww; (repeat' split) <;> first | rfl | (exfalso; omega)), rfl⟩)
    · skip
      refine q_tabIn (tgt := 89) dX12_wheelWays_30 ⟨by omega, by omega⟩ (by omega) (by omega) (by rw [hs30]; rfl) (by decide) ?_
      refine q_iload_n dX12_wheelWays_89 rfl ?_
      refine q_aload_n dX12_wheelWays_90 rfl ?_
      refine q_get (v := q_i (μ 1 0)) fX12_130_12 rfl rfl dX12_wheelWays_91 ?_
      refine q_iconst dX12_wheelWays_94 ?_
      refine q_isub dX12_wheelWays_95 ?_
      refine q_icmp_lt (tgt := 109) dX12_wheelWays_96 (by decide) ⟨by omega, by omega⟩ ⟨by omega, by omega⟩ (fun h96 => ?_) (fun h96 => ?_)
      · skip
        refine q_iload_n dX12_wheelWays_109 rfl ?_
        refine q_if_ne (tgt := 117) dX12_wheelWays_110 (by decide) ⟨by omega, by omega⟩ (fun h110 => ?_) (fun h110 => ?_)
        · skip
          refine q_iconst dX12_wheelWays_117 ?_
          exact q_iret rfl dX12_wheelWays_118 (⟨by (unfold z_ww; (repeat' split) <;> first | rfl | (exfalso; omega)), rfl⟩)
        · skip
          refine q_iconst dX12_wheelWays_113 ?_
          refine q_goto (tgt := 118) dX12_wheelWays_114 (by decide) ?_
          exact q_iret rfl dX12_wheelWays_118 (⟨by (unfold z_ww; (repeat' split) <;> first | rfl | (exfalso; omega)), rfl⟩)
      · skip
        refine q_aload_n dX12_wheelWays_99 rfl ?_
        refine q_iload dX12_wheelWays_100 rfl ?_
        refine q_iload_n dX12_wheelWays_102 rfl ?_
        refine q_cV [q_i ((μ 0) (1 + p)), q_i u] kX12_154_12 rfl (tX12_eithers w μ ((μ 0) (1 + p)) u (by omega) (by omega) (by omega) (by omega) hG) dX12_wheelWays_103 rfl (by decide) (Nat.le_of_ble_eq_true rfl) rfl ?_
        refine q_goto (tgt := 118) dX12_wheelWays_106 (by decide) ?_
        exact q_iret rfl dX12_wheelWays_118 (⟨by (unfold z_ww; (repeat' split) <;> first | rfl | (exfalso; omega)), rfl⟩)
    · skip
      refine q_tabIn (tgt := 119) dX12_wheelWays_30 ⟨by omega, by omega⟩ (by omega) (by omega) (by rw [hs30]; rfl) (by decide) ?_
      refine q_iload_n dX12_wheelWays_119 rfl ?_
      refine q_iload dX12_wheelWays_120 rfl ?_
      refine q_icmp_gt (tgt := 129) dX12_wheelWays_122 (by decide) ⟨by omega, by omega⟩ ⟨by omega, by omega⟩ (fun h122 => ?_) (fun h122 => ?_)
      · skip
        refine q_iconst dX12_wheelWays_129 ?_
        exact q_iret rfl dX12_wheelWays_130 (⟨by (unfold z_ww; (repeat' split) <;> first | rfl | (exfalso; omega)), rfl⟩)
      · skip
        refine q_iconst dX12_wheelWays_125 ?_
        refine q_goto (tgt := 130) dX12_wheelWays_126 (by decide) ?_
        exact q_iret rfl dX12_wheelWays_130 (⟨by (unfold z_ww; (repeat' split) <;> first | rfl | (exfalso; omega)), rfl⟩)
    · skip
      refine q_tabOut (tgt := 131) dX12_wheelWays_30 ⟨by omega, by omega⟩ hs30 (by decide) ?_
      refine q_iload dX12_wheelWays_131 rfl ?_
      refine q_if_eq (tgt := 156) dX12_wheelWays_133 (by decide) ⟨by decide, by decide⟩ (fun h133 => ?_) (fun h133 => ?_)
      · skip
        refine q_iload_n dX12_wheelWays_156 rfl ?_
        refine q_if_ne (tgt := 164) dX12_wheelWays_157 (by decide) ⟨by omega, by omega⟩ (fun h157 => ?_) (fun h157 => ?_)
        · skip
          refine q_iconst dX12_wheelWays_164 ?_
          exact q_iret rfl dX12_wheelWays_165 (⟨by (unfold z_ww; (repeat' split) <;> first | rfl | (exfalso; omega)), rfl⟩)
        · skip
          refine q_iconst dX12_wheelWays_160 ?_
          refine q_goto (tgt := 165) dX12_wheelWays_161 (by decide) ?_
          exact q_iret rfl dX12_wheelWays_165 (⟨by (unfold z_ww; (repeat' split) <;> first | rfl | (exfalso; omega)), rfl⟩)
      · skip
        refine q_iload_n dX12_wheelWays_136 rfl ?_
        refine q_i2lr dX12_wheelWays_137 ⟨by omega, by omega⟩ ?_
        refine q_lconst 1 dX12_wheelWays_138 ?_
        refine q_iload dX12_wheelWays_139 rfl ?_
        refine q_i2lr dX12_wheelWays_141 ⟨by omega, by omega⟩ ?_
        refine q_cS [q_l u, q_l 1, q_l ((μ 0) (1 + p))] kX12_57 (tX12_in u 1 ((μ 0) (1 + p)) (⟨by omega, by omega⟩) (⟨by decide, by decide⟩) (⟨by omega, by omega⟩) (m_w w μ)) dX12_wheelWays_142 rfl (by decide) (Nat.le_of_ble_eq_true rfl) rfl ?_
        refine q_ifb_eq (tgt := 152) dX12_wheelWays_145 (by decide) (fun h145 => ?_) (fun h145 => ?_)
        · skip
          refine q_iconst dX12_wheelWays_152 ?_
          refine q_goto (tgt := 165) dX12_wheelWays_153 (by decide) ?_
          exact q_iret rfl dX12_wheelWays_165 (⟨by (unfold z_ww; (repeat' split) <;> first | rfl | (exfalso; omega)), rfl⟩)
        · skip
          refine q_iconst dX12_wheelWays_148 ?_
          refine q_goto (tgt := 165) dX12_wheelWays_149 (by decide) ?_
          exact q_iret rfl dX12_wheelWays_165 (⟨by (unfold z_ww; (repeat' split) <;> first | rfl | (exfalso; omega)), rfl⟩)
  · skip
    refine q_iconst dX12_wheelWays_17 ?_
    refine q_goto (tgt := 22) dX12_wheelWays_18 (by decide) ?_
    refine q_istore (lv' := [some (.ref 64), some (q_i p), some (q_i v), some (q_i u), some (q_i ((μ 0) (1 + p))), some (q_i 1)]) dX12_wheelWays_22 (by decide) rfl ?_
    refine q_aload_n dX12_wheelWays_24 rfl ?_
    refine q_get (v := .ref 66) fX12_13_12 rfl rfl dX12_wheelWays_25 ?_
    refine q_iload_n dX12_wheelWays_28 rfl ?_
    refine q_iald (f := (μ 5)) (n9 := 5) rfl (by omega) (by omega) dX12_wheelWays_29 ?_
    rcases (show ((μ 5) p) = 1 ∨ ((μ 5) p) = 2 ∨ ((μ 5) p) = 3 ∨ ((μ 5) p) = 4 ∨ ((μ 5) p) = 5 ∨ (((μ 5) p) < 1 ∨ 5 < ((μ 5) p)) by omega) with hs30 | hs30 | hs30 | hs30 | hs30 | hs30
    · skip
      refine q_tabIn (tgt := 64) dX12_wheelWays_30 ⟨by omega, by omega⟩ (by omega) (by omega) (by rw [hs30]; rfl) (by decide) ?_
      refine q_iload dX12_wheelWays_64 rfl ?_
      refine q_if_eq (tgt := 79) dX12_wheelWays_66 (by decide) ⟨by decide, by decide⟩ (fun h66 => ?_) (fun h66 => ?_)
      · skip
        refine q_iload_n dX12_wheelWays_79 rfl ?_
        refine q_if_ne (tgt := 87) dX12_wheelWays_80 (by decide) ⟨by omega, by omega⟩ (fun h80 => ?_) (fun h80 => ?_)
        · skip
          refine q_iconst dX12_wheelWays_87 ?_
          exact q_iret rfl dX12_wheelWays_88 (⟨by (unfold z_ww; (repeat' split) <;> first | rfl | (exfalso; omega)), rfl⟩)
        · skip
          refine q_iconst dX12_wheelWays_83 ?_
          refine q_goto (tgt := 88) dX12_wheelWays_84 (by decide) ?_
          exact q_iret rfl dX12_wheelWays_88 (⟨by (unfold z_ww; (repeat' split) <;> first | rfl | (exfalso; omega)), rfl⟩)
      · skip
        refine q_aload_n dX12_wheelWays_69 rfl ?_
        refine q_iload dX12_wheelWays_70 rfl ?_
        refine q_iload_n dX12_wheelWays_72 rfl ?_
        refine q_cV [q_i ((μ 0) (1 + p)), q_i u] kX12_154_12 rfl (tX12_eithers w μ ((μ 0) (1 + p)) u (by omega) (by omega) (by omega) (by omega) hG) dX12_wheelWays_73 rfl (by decide) (Nat.le_of_ble_eq_true rfl) rfl ?_
        refine q_goto (tgt := 88) dX12_wheelWays_76 (by decide) ?_
        exact q_iret rfl dX12_wheelWays_88 (⟨by (unfold z_ww; (repeat' split) <;> first | rfl | (exfalso; omega)), rfl⟩)
    · skip
      refine q_tabIn (tgt := 131) dX12_wheelWays_30 ⟨by omega, by omega⟩ (by omega) (by omega) (by rw [hs30]; rfl) (by decide) ?_
      refine q_iload dX12_wheelWays_131 rfl ?_
      refine q_if_eq (tgt := 156) dX12_wheelWays_133 (by decide) ⟨by decide, by decide⟩ (fun h133 => ?_) (fun h133 => ?_)
      · skip
        refine q_iload_n dX12_wheelWays_156 rfl ?_
        refine q_if_ne (tgt := 164) dX12_wheelWays_157 (by decide) ⟨by omega, by omega⟩ (fun h157 => ?_) (fun h157 => ?_)
        · skip
          refine q_iconst dX12_wheelWays_164 ?_
          exact q_iret rfl dX12_wheelWays_165 (⟨by (unfold z_ww; (repeat' split) <;> first | rfl | (exfalso; omega)), rfl⟩)
        · skip
          refine q_iconst dX12_wheelWays_160 ?_
          refine q_goto (tgt := 165) dX12_wheelWays_161 (by decide) ?_
          exact q_iret rfl dX12_wheelWays_165 (⟨by (unfold z_ww; (repeat' split) <;> first | rfl | (exfalso; omega)), rfl⟩)
      · skip
        refine q_iload_n dX12_wheelWays_136 rfl ?_
        refine q_i2lr dX12_wheelWays_137 ⟨by omega, by omega⟩ ?_
        refine q_lconst 1 dX12_wheelWays_138 ?_
        refine q_iload dX12_wheelWays_139 rfl ?_
        refine q_i2lr dX12_wheelWays_141 ⟨by omega, by omega⟩ ?_
        refine q_cS [q_l u, q_l 1, q_l ((μ 0) (1 + p))] kX12_57 (tX12_in u 1 ((μ 0) (1 + p)) (⟨by omega, by omega⟩) (⟨by decide, by decide⟩) (⟨by omega, by omega⟩) (m_w w μ)) dX12_wheelWays_142 rfl (by decide) (Nat.le_of_ble_eq_true rfl) rfl ?_
        refine q_ifb_eq (tgt := 152) dX12_wheelWays_145 (by decide) (fun h145 => ?_) (fun h145 => ?_)
        · skip
          refine q_iconst dX12_wheelWays_152 ?_
          refine q_goto (tgt := 165) dX12_wheelWays_153 (by decide) ?_
          exact q_iret rfl dX12_wheelWays_165 (⟨by (unfold z_ww; (repeat' split) <;> first | rfl | (exfalso; omega)), rfl⟩)
        · skip
          refine q_iconst dX12_wheelWays_148 ?_
          refine q_goto (tgt := 165) dX12_wheelWays_149 (by decide) ?_
          exact q_iret rfl dX12_wheelWays_165 (⟨by (unfold z_ww; (repeat' split) <;> first | rfl | (exfalso; omega)), rfl⟩)
    · skip
      refine q_tabIn (tgt := 131) dX12_wheelWays_30 ⟨by omega, by omega⟩ (by omega) (by omega) (by rw [hs30]; rfl) (by decide) ?_
      refine q_iload dX12_wheelWays_131 rfl ?_
      refine q_if_eq (tgt := 156) dX12_wheelWays_133 (by decide) ⟨by decide, by decide⟩ (fun h133 => ?_) (fun h133 => ?_)
      · skip
        refine q_iload_n dX12_wheelWays_156 rfl ?_
        refine q_if_ne (tgt := 164) dX12_wheelWays_157 (by decide) ⟨by omega, by omega⟩ (fun h157 => ?_) (fun h157 => ?_)
        · skip
          refine q_iconst dX12_wheelWays_164 ?_
          exact q_iret rfl dX12_wheelWays_165 (⟨by (unfold z_ww; (repeat' split) <;> first | rfl | (exfalso; omega)), rfl⟩)
        · skip
          refine q_iconst dX12_wheelWays_160 ?_
          refine q_goto (tgt := 165) dX12_wheelWays_161 (by decide) ?_
          exact q_iret rfl dX12_wheelWays_165 (⟨by (unfold z_ww; (repeat' split) <;> first | rfl | (exfalso; omega)), rfl⟩)
      · skip
        refine q_iload_n dX12_wheelWays_136 rfl ?_
        refine q_i2lr dX12_wheelWays_137 ⟨by omega, by omega⟩ ?_
        refine q_lconst 1 dX12_wheelWays_138 ?_
        refine q_iload dX12_wheelWays_139 rfl ?_
        refine q_i2lr dX12_wheelWays_141 ⟨by omega, by omega⟩ ?_
        refine q_cS [q_l u, q_l 1, q_l ((μ 0) (1 + p))] kX12_57 (tX12_in u 1 ((μ 0) (1 + p)) (⟨by omega, by omega⟩) (⟨by decide, by decide⟩) (⟨by omega, by omega⟩) (m_w w μ)) dX12_wheelWays_142 rfl (by decide) (Nat.le_of_ble_eq_true rfl) rfl ?_
        refine q_ifb_eq (tgt := 152) dX12_wheelWays_145 (by decide) (fun h145 => ?_) (fun h145 => ?_)
        · skip
          refine q_iconst dX12_wheelWays_152 ?_
          refine q_goto (tgt := 165) dX12_wheelWays_153 (by decide) ?_
          exact q_iret rfl dX12_wheelWays_165 (⟨by (unfold z_ww; (repeat' split) <;> first | rfl | (exfalso; omega)), rfl⟩)
        · skip
          refine q_iconst dX12_wheelWays_148 ?_
          refine q_goto (tgt := 165) dX12_wheelWays_149 (by decide) ?_
          exact q_iret rfl dX12_wheelWays_165 (⟨by (unfold z_ww; (repeat' split) <;> first | rfl | (exfalso; omega)), rfl⟩)
    · skip
      refine q_tabIn (tgt := 89) dX12_wheelWays_30 ⟨by omega, by omega⟩ (by omega) (by omega) (by rw [hs30]; rfl) (by decide) ?_
      refine q_iload_n dX12_wheelWays_89 rfl ?_
      refine q_aload_n dX12_wheelWays_90 rfl ?_
      refine q_get (v := q_i (μ 1 0)) fX12_130_12 rfl rfl dX12_wheelWays_91 ?_
      refine q_iconst dX12_wheelWays_94 ?_
      refine q_isub dX12_wheelWays_95 ?_
      refine q_icmp_lt (tgt := 109) dX12_wheelWays_96 (by decide) ⟨by omega, by omega⟩ ⟨by omega, by omega⟩ (fun h96 => ?_) (fun h96 => ?_)
      · skip
        refine q_iload_n dX12_wheelWays_109 rfl ?_
        refine q_if_ne (tgt := 117) dX12_wheelWays_110 (by decide) ⟨by omega, by omega⟩ (fun h110 => ?_) (fun h110 => ?_)
        · skip
          refine q_iconst dX12_wheelWays_117 ?_
          exact q_iret rfl dX12_wheelWays_118 (⟨by (unfold z_ww; (repeat' split) <;> first | rfl | (exfalso; omega)), rfl⟩)
        · skip
          refine q_iconst dX12_wheelWays_113 ?_
          refine q_goto (tgt := 118) dX12_wheelWays_114 (by decide) ?_
          exact q_iret rfl dX12_wheelWays_118 (⟨by (unfold z_ww; (repeat' split) <;> first | rfl | (exfalso; omega)), rfl⟩)
      · skip
        refine q_aload_n dX12_wheelWays_99 rfl ?_
        refine q_iload dX12_wheelWays_100 rfl ?_
        refine q_iload_n dX12_wheelWays_102 rfl ?_
        refine q_cV [q_i ((μ 0) (1 + p)), q_i u] kX12_154_12 rfl (tX12_eithers w μ ((μ 0) (1 + p)) u (by omega) (by omega) (by omega) (by omega) hG) dX12_wheelWays_103 rfl (by decide) (Nat.le_of_ble_eq_true rfl) rfl ?_
        refine q_goto (tgt := 118) dX12_wheelWays_106 (by decide) ?_
        exact q_iret rfl dX12_wheelWays_118 (⟨by (unfold z_ww; (repeat' split) <;> first | rfl | (exfalso; omega)), rfl⟩)
    · skip
      refine q_tabIn (tgt := 119) dX12_wheelWays_30 ⟨by omega, by omega⟩ (by omega) (by omega) (by rw [hs30]; rfl) (by decide) ?_
      refine q_iload_n dX12_wheelWays_119 rfl ?_
      refine q_iload dX12_wheelWays_120 rfl ?_
      refine q_icmp_gt (tgt := 129) dX12_wheelWays_122 (by decide) ⟨by omega, by omega⟩ ⟨by omega, by omega⟩ (fun h122 => ?_) (fun h122 => ?_)
      · skip
        refine q_iconst dX12_wheelWays_129 ?_
        exact q_iret rfl dX12_wheelWays_130 (⟨by (unfold z_ww; (repeat' split) <;> first | rfl | (exfalso; omega)), rfl⟩)
      · skip
        refine q_iconst dX12_wheelWays_125 ?_
        refine q_goto (tgt := 130) dX12_wheelWays_126 (by decide) ?_
        exact q_iret rfl dX12_wheelWays_130 (⟨by (unfold z_ww; (repeat' split) <;> first | rfl | (exfalso; omega)), rfl⟩)
    · skip
      refine q_tabOut (tgt := 131) dX12_wheelWays_30 ⟨by omega, by omega⟩ hs30 (by decide) ?_
      refine q_iload dX12_wheelWays_131 rfl ?_
      refine q_if_eq (tgt := 156) dX12_wheelWays_133 (by decide) ⟨by decide, by decide⟩ (fun h133 => ?_) (fun h133 => ?_)
      · skip
        refine q_iload_n dX12_wheelWays_156 rfl ?_
        refine q_if_ne (tgt := 164) dX12_wheelWays_157 (by decide) ⟨by omega, by omega⟩ (fun h157 => ?_) (fun h157 => ?_)
        · skip
          refine q_iconst dX12_wheelWays_164 ?_
          exact q_iret rfl dX12_wheelWays_165 (⟨by (unfold z_ww; (repeat' split) <;> first | rfl | (exfalso; omega)), rfl⟩)
        · skip
          refine q_iconst dX12_wheelWays_160 ?_
          refine q_goto (tgt := 165) dX12_wheelWays_161 (by decide) ?_
          exact q_iret rfl dX12_wheelWays_165 (⟨by (unfold z_ww; (repeat' split) <;> first | rfl | (exfalso; omega)), rfl⟩)
      · skip
        refine q_iload_n dX12_wheelWays_136 rfl ?_
        refine q_i2lr dX12_wheelWays_137 ⟨by omega, by omega⟩ ?_
        refine q_lconst 1 dX12_wheelWays_138 ?_
        refine q_iload dX12_wheelWays_139 rfl ?_
        refine q_i2lr dX12_wheelWays_141 ⟨by omega, by omega⟩ ?_
        refine q_cS [q_l u, q_l 1, q_l ((μ 0) (1 + p))] kX12_57 (tX12_in u 1 ((μ 0) (1 + p)) (⟨by omega, by omega⟩) (⟨by decide, by decide⟩) (⟨by omega, by omega⟩) (m_w w μ)) dX12_wheelWays_142 rfl (by decide) (Nat.le_of_ble_eq_true rfl) rfl ?_
        refine q_ifb_eq (tgt := 152) dX12_wheelWays_145 (by decide) (fun h145 => ?_) (fun h145 => ?_)
        · skip
          refine q_iconst dX12_wheelWays_152 ?_
          refine q_goto (tgt := 165) dX12_wheelWays_153 (by decide) ?_
          exact q_iret rfl dX12_wheelWays_165 (⟨by (unfold z_ww; (repeat' split) <;> first | rfl | (exfalso; omega)), rfl⟩)
        · skip
          refine q_iconst dX12_wheelWays_148 ?_
          refine q_goto (tgt := 165) dX12_wheelWays_149 (by decide) ?_
          exact q_iret rfl dX12_wheelWays_165 (⟨by (unfold z_ww; (repeat' split) <;> first | rfl | (exfalso; omega)), rfl⟩)
set_option maxRecDepth 20000 in
theorem tX12_anyWays (w : q_W) (μ : m_S) (p c s : Int) (hp0 : 0 ≤ p) (hp1 : p < μ 4 0) (hc0 : 0 ≤ c) (hc1 : c < μ 3 0) (hs0 : 0 ≤ s) (hs1 : s < μ 3 0) (hG : m_G μ) : q_D mX12_anyWays 3 [.ref 64, q_i p, q_i c, q_i s] (m_w w μ) (some (q_i (z_aw (μ 0 (1 + p)) (μ 1 0) (μ 2 0) c s))) (m_w w μ) := by
  refine q_T.of (lv := [some (.ref 64), some (q_i p), some (q_i c), some (q_i s), none, none, none, none]) (by decide) rfl (Nat.le_of_ble_eq_true rfl) ?_
  have hW := hG.1
  have hN := hG.2.1
  have hS := hG.S
  have hPn := hG.2.2.2.1
  have hq := hG.2.2.2.2 p hp0 hp1
  refine q_iconst dX12_anyWays_0 ?_
  refine q_istore (lv' := [some (.ref 64), some (q_i p), some (q_i c), some (q_i s), some (q_i 0), none, none, none]) dX12_anyWays_1 (by decide) rfl ?_
  refine q_iconst dX12_anyWays_3 ?_
  refine q_istore (lv' := [some (.ref 64), some (q_i p), some (q_i c), some (q_i s), some (q_i 0), some (q_i 0), none, none]) dX12_anyWays_4 (by decide) rfl ?_
  refine q_iconst dX12_anyWays_6 ?_
  refine q_istore (lv' := [some (.ref 64), some (q_i p), some (q_i c), some (q_i s), some (q_i 0), some (q_i 0), some (q_i 0), none]) dX12_anyWays_7 (by decide) rfl ?_
  have L9 : ∀ (m9 : Nat) (k : Int) (hk0 : 0 ≤ k) (hk1 : k ≤ μ 1 0) (hm9 : μ 1 0 - k < (m9 : Int)), q_J mX12_anyWays 3 (fun v' w' => v' = (some (q_i (z_aw (μ 0 (1 + p)) (μ 1 0) (μ 2 0) c s))) ∧ w' = (m_w w μ)) 0 0 9 [some (.ref 64), some (q_i p), some (q_i c), some (q_i s), some (q_i (z_sum (fun w => if z_up (μ 1 0) (μ 2 0) w c s = 0 then 0 else 1) k)), some (q_i (z_sum (fun w => z_up (μ 1 0) (μ 2 0) w c s) k)), some (q_i k), none] [] (m_w w μ) := by
    intro m9
    induction m9 with
    | zero => intro k hk0 hk1 hm9; exact absurd hm9 (by omega)
    | succ m9 ih9 =>
      intro k hk0 hk1 hm9
      refine q_iload dX12_anyWays_9 rfl ?_
      refine q_aload_n dX12_anyWays_11 rfl ?_
      refine q_get (v := q_i (μ 1 0)) fX12_130_12 rfl rfl dX12_anyWays_12 ?_
      refine q_icmp_ge (tgt := 56) dX12_anyWays_15 (by decide) ⟨by omega, by omega⟩ ⟨by omega, by omega⟩ (fun h15 => ?_) (fun h15 => ?_)
      · skip
        have hke : k = μ 1 0 := by omega
        subst hke
        have hb1 := z_sum_b (fun w => if z_up (μ 1 0) (μ 2 0) w c s = 0 then 0 else 1) 0 1 hk0 (fun j _ _ => by (try dsimp only); split <;> omega)
        have hb2 := z_sum_b (fun w => z_up (μ 1 0) (μ 2 0) w c s) 0 6 hk0 (fun j h0 h1 => by have hh := z_up_r (c := c) (s := s) (w := j) hW.2 hN hc0 hs0 h0 (by omega); exact ⟨hh.1, by have := hh.2; omega⟩)
        refine q_iload dX12_anyWays_56 rfl ?_
        refine q_iconst dX12_anyWays_58 ?_
        refine q_icmp_ne (tgt := 76) dX12_anyWays_59 (by decide) ⟨by omega, by omega⟩ ⟨by decide, by decide⟩ (fun h59 => ?_) (fun h59 => ?_)
        · skip
          refine q_iconst dX12_anyWays_76 ?_
          exact q_iret rfl dX12_anyWays_77 (⟨by (unfold z_aw; (repeat' split) <;> first | rfl | (exfalso; omega)), rfl⟩)
        · skip
          refine q_iload dX12_anyWays_62 rfl ?_
          refine q_aload_n dX12_anyWays_64 rfl ?_
          refine q_iload_n dX12_anyWays_65 rfl ?_
          refine q_cV [q_i p] kX12_151_12 rfl (tX12_flicksOf w μ p (by omega) (by omega)) dX12_anyWays_66 rfl (by decide) (Nat.le_of_ble_eq_true rfl) rfl ?_
          refine q_icmp_gt (tgt := 76) dX12_anyWays_69 (by decide) ⟨by omega, by omega⟩ ⟨by omega, by omega⟩ (fun h69 => ?_) (fun h69 => ?_)
          · skip
            refine q_iconst dX12_anyWays_76 ?_
            exact q_iret rfl dX12_anyWays_77 (⟨by (unfold z_aw; (repeat' split) <;> first | rfl | (exfalso; omega)), rfl⟩)
          · skip
            refine q_iconst dX12_anyWays_72 ?_
            refine q_goto (tgt := 77) dX12_anyWays_73 (by decide) ?_
            exact q_iret rfl dX12_anyWays_77 (⟨by (unfold z_aw; (repeat' split) <;> first | rfl | (exfalso; omega)), rfl⟩)
      · skip
        have hur := z_up_r (c := c) (s := s) (w := k) hW.2 hN hc0 hs0 hk0 (by omega)
        refine q_aload_n dX12_anyWays_18 rfl ?_
        refine q_iload dX12_anyWays_19 rfl ?_
        refine q_iload_n dX12_anyWays_21 rfl ?_
        refine q_iload_n dX12_anyWays_22 rfl ?_
        refine q_cV [q_i k, q_i c, q_i s] kX12_157_12 rfl (tX12_up w μ k c s (by omega) (by omega) (by omega) (by omega) (by omega) (by omega) hG) dX12_anyWays_23 rfl (by decide) (Nat.le_of_ble_eq_true rfl) rfl ?_
        refine q_istore (lv' := [some (.ref 64), some (q_i p), some (q_i c), some (q_i s), some (q_i (z_sum (fun w => if z_up (μ 1 0) (μ 2 0) w c s = 0 then 0 else 1) k)), some (q_i (z_sum (fun w => z_up (μ 1 0) (μ 2 0) w c s) k)), some (q_i k), some (q_i (z_up (μ 1 0) (μ 2 0) k c s))]) dX12_anyWays_26 (by decide) rfl ?_
        refine q_iload dX12_anyWays_28 rfl ?_
        refine q_iload dX12_anyWays_30 rfl ?_
        refine q_if_ne (tgt := 39) dX12_anyWays_32 (by decide) ⟨by omega, by omega⟩ (fun h32 => ?_) (fun h32 => ?_)
        · skip
          refine q_iconst dX12_anyWays_39 ?_
          refine q_iadd dX12_anyWays_40 ?_
          refine q_istore (lv' := [some (.ref 64), some (q_i p), some (q_i c), some (q_i s), some (q_i ((z_sum (fun w => if z_up (μ 1 0) (μ 2 0) w c s = 0 then 0 else 1) k) + 1)), some (q_i (z_sum (fun w => z_up (μ 1 0) (μ 2 0) w c s) k)), some (q_i k), some (q_i (z_up (μ 1 0) (μ 2 0) k c s))]) dX12_anyWays_41 (by decide) rfl ?_
          refine q_iload dX12_anyWays_43 rfl ?_
          refine q_iload dX12_anyWays_45 rfl ?_
          refine q_iadd dX12_anyWays_47 ?_
          refine q_istore (lv' := [some (.ref 64), some (q_i p), some (q_i c), some (q_i s), some (q_i ((z_sum (fun w => if z_up (μ 1 0) (μ 2 0) w c s = 0 then 0 else 1) k) + 1)), some (q_i ((z_sum (fun w => z_up (μ 1 0) (μ 2 0) w c s) k) + (z_up (μ 1 0) (μ 2 0) k c s))), some (q_i k), some (q_i (z_up (μ 1 0) (μ 2 0) k c s))]) dX12_anyWays_48 (by decide) rfl ?_
          refine q_iinc (lv' := [some (.ref 64), some (q_i p), some (q_i c), some (q_i s), some (q_i ((z_sum (fun w => if z_up (μ 1 0) (μ 2 0) w c s = 0 then 0 else 1) k) + 1)), some (q_i ((z_sum (fun w => z_up (μ 1 0) (μ 2 0) w c s) k) + (z_up (μ 1 0) (μ 2 0) k c s))), some (q_i (k + 1)), some (q_i (z_up (μ 1 0) (μ 2 0) k c s))]) dX12_anyWays_50 rfl (by decide) rfl ?_
          refine q_goto (tgt := 9) dX12_anyWays_53 (by decide) ?_
          exact q_Jle (q_le_s (rfl) (q_le_s (rfl) (q_le_s (rfl) (q_le_s (rfl) (q_le_s (by rw [z_sum_s _ hk0]; (try dsimp only); (repeat' split) <;> first | rfl | (exfalso; omega)) (q_le_s (by rw [z_sum_s _ hk0]) (q_le_s (rfl) (q_le_n (q_le_e _))))))))) (rfl) (rfl) (ih9 (k + 1) (by omega) (by omega) (by omega))
        · skip
          refine q_iconst dX12_anyWays_35 ?_
          refine q_goto (tgt := 40) dX12_anyWays_36 (by decide) ?_
          refine q_iadd dX12_anyWays_40 ?_
          refine q_istore (lv' := [some (.ref 64), some (q_i p), some (q_i c), some (q_i s), some (q_i ((z_sum (fun w => if z_up (μ 1 0) (μ 2 0) w c s = 0 then 0 else 1) k) + 0)), some (q_i (z_sum (fun w => z_up (μ 1 0) (μ 2 0) w c s) k)), some (q_i k), some (q_i (z_up (μ 1 0) (μ 2 0) k c s))]) dX12_anyWays_41 (by decide) rfl ?_
          refine q_iload dX12_anyWays_43 rfl ?_
          refine q_iload dX12_anyWays_45 rfl ?_
          refine q_iadd dX12_anyWays_47 ?_
          refine q_istore (lv' := [some (.ref 64), some (q_i p), some (q_i c), some (q_i s), some (q_i ((z_sum (fun w => if z_up (μ 1 0) (μ 2 0) w c s = 0 then 0 else 1) k) + 0)), some (q_i ((z_sum (fun w => z_up (μ 1 0) (μ 2 0) w c s) k) + (z_up (μ 1 0) (μ 2 0) k c s))), some (q_i k), some (q_i (z_up (μ 1 0) (μ 2 0) k c s))]) dX12_anyWays_48 (by decide) rfl ?_
          refine q_iinc (lv' := [some (.ref 64), some (q_i p), some (q_i c), some (q_i s), some (q_i ((z_sum (fun w => if z_up (μ 1 0) (μ 2 0) w c s = 0 then 0 else 1) k) + 0)), some (q_i ((z_sum (fun w => z_up (μ 1 0) (μ 2 0) w c s) k) + (z_up (μ 1 0) (μ 2 0) k c s))), some (q_i (k + 1)), some (q_i (z_up (μ 1 0) (μ 2 0) k c s))]) dX12_anyWays_50 rfl (by decide) rfl ?_
          refine q_goto (tgt := 9) dX12_anyWays_53 (by decide) ?_
          exact q_Jle (q_le_s (rfl) (q_le_s (rfl) (q_le_s (rfl) (q_le_s (rfl) (q_le_s (by rw [z_sum_s _ hk0]; (try dsimp only); (repeat' split) <;> first | rfl | (exfalso; omega)) (q_le_s (by rw [z_sum_s _ hk0]) (q_le_s (rfl) (q_le_n (q_le_e _))))))))) (rfl) (rfl) (ih9 (k + 1) (by omega) (by omega) (by omega))
  exact q_Jle (q_le_s (rfl) (q_le_s (rfl) (q_le_s (rfl) (q_le_s (rfl) (q_le_s (rfl) (q_le_s (rfl) (q_le_s (rfl) (q_le_n (q_le_e _))))))))) (rfl) (rfl) (L9 ((μ 1 0 : Int).toNat + 1) 0 (by omega) (by omega) (by omega))
set_option maxRecDepth 20000 in
theorem tX12_waysOf (w : q_W) (μ : m_S) (p c s : Int) (hp0 : 0 ≤ p) (hp1 : p < μ 4 0) (hc0 : 0 ≤ c) (hc1 : c < μ 3 0) (hs0 : 0 ≤ s) (hs1 : s < μ 3 0) (hG : m_G μ) : q_D mX12_waysOf 4 [.ref 64, q_i p, q_i c, q_i s] (m_w w μ) (some (q_i (z_ways (μ 5 p) (μ 0 (1 + p)) (μ 1 0) (μ 2 0) c s))) (m_w w μ) := by
  refine q_T.of (lv := [some (.ref 64), some (q_i p), some (q_i c), some (q_i s), none, none]) (by decide) rfl (Nat.le_of_ble_eq_true rfl) ?_
  have hW := hG.1
  have hN := hG.2.1
  have hS := hG.S
  have hPn := hG.2.2.2.1
  have hq := hG.2.2.2.2 p hp0 hp1
  refine q_aload_n dX12_waysOf_0 rfl ?_
  refine q_get (v := .ref 66) fX12_13_12 rfl rfl dX12_waysOf_1 ?_
  refine q_iload_n dX12_waysOf_4 rfl ?_
  refine q_iald (f := (μ 5)) (n9 := 5) rfl (by omega) (by omega) dX12_waysOf_5 ?_
  refine q_iconst dX12_waysOf_6 ?_
  refine q_icmp_ne (tgt := 12) dX12_waysOf_7 (by decide) ⟨by omega, by omega⟩ ⟨by decide, by decide⟩ (fun h7 => ?_) (fun h7 => ?_)
  · skip
    refine q_aload_n dX12_waysOf_12 rfl ?_
    refine q_get (v := .ref 66) fX12_13_12 rfl rfl dX12_waysOf_13 ?_
    refine q_iload_n dX12_waysOf_16 rfl ?_
    refine q_iald (f := (μ 5)) (n9 := 5) rfl (by omega) (by omega) dX12_waysOf_17 ?_
    refine q_iconst dX12_waysOf_18 ?_
    refine q_icmp_ne (tgt := 30) dX12_waysOf_19 (by decide) ⟨by omega, by omega⟩ ⟨by decide, by decide⟩ (fun h19 => ?_) (fun h19 => ?_)
    · skip
      refine q_iconst dX12_waysOf_30 ?_
      refine q_istore (lv' := [some (.ref 64), some (q_i p), some (q_i c), some (q_i s), some (q_i 1), none]) dX12_waysOf_31 (by decide) rfl ?_
      refine q_iconst dX12_waysOf_33 ?_
      refine q_istore (lv' := [some (.ref 64), some (q_i p), some (q_i c), some (q_i s), some (q_i 1), some (q_i 0)]) dX12_waysOf_34 (by decide) rfl ?_
      have L36 : ∀ (m9 : Nat) (k : Int) (hk0 : 0 ≤ k) (hk1 : k ≤ μ 1 0) (hm9 : μ 1 0 - k < (m9 : Int)), q_J mX12_waysOf 4 (fun v' w' => v' = (some (q_i (z_ways (μ 5 p) (μ 0 (1 + p)) (μ 1 0) (μ 2 0) c s))) ∧ w' = (m_w w μ)) 0 0 36 [some (.ref 64), some (q_i p), some (q_i c), some (q_i s), some (q_i (z_prod (fun w => z_ww (μ 5 p) (μ 0 (1 + p)) (μ 1 0) (μ 2 0) w (z_up (μ 1 0) (μ 2 0) w c s)) k)), some (q_i k)] [] (m_w w μ) := by
        intro m9
        induction m9 with
        | zero => intro k hk0 hk1 hm9; exact absurd hm9 (by omega)
        | succ m9 ih36 =>
          intro k hk0 hk1 hm9
          refine q_iload dX12_waysOf_36 rfl ?_
          refine q_aload_n dX12_waysOf_38 rfl ?_
          refine q_get (v := q_i (μ 1 0)) fX12_130_12 rfl rfl dX12_waysOf_39 ?_
          refine q_icmp_ge (tgt := 71) dX12_waysOf_42 (by decide) ⟨by omega, by omega⟩ ⟨by omega, by omega⟩ (fun h42 => ?_) (fun h42 => ?_)
          · skip
            refine q_iload dX12_waysOf_71 rfl ?_
            exact q_iret rfl dX12_waysOf_73 (⟨by (rw [show k = μ 1 0 by omega]; unfold z_ways; (repeat' split) <;> first | rfl | (exfalso; omega)), rfl⟩)
          · skip
            have hur := z_up_r (c := c) (s := s) (w := k) hW.2 hN hc0 hs0 hk0 (by omega)
            refine q_iload dX12_waysOf_45 rfl ?_
            refine q_aload_n dX12_waysOf_47 rfl ?_
            refine q_iload_n dX12_waysOf_48 rfl ?_
            refine q_iload dX12_waysOf_49 rfl ?_
            refine q_aload_n dX12_waysOf_51 rfl ?_
            refine q_iload dX12_waysOf_52 rfl ?_
            refine q_iload_n dX12_waysOf_54 rfl ?_
            refine q_iload_n dX12_waysOf_55 rfl ?_
            refine q_cV [q_i k, q_i c, q_i s] kX12_157_12 rfl (tX12_up w μ k c s (by omega) (by omega) (by omega) (by omega) (by omega) (by omega) hG) dX12_waysOf_56 rfl (by decide) (Nat.le_of_ble_eq_true rfl) rfl ?_
            refine q_cV [q_i p, q_i k, q_i (z_up (μ 1 0) (μ 2 0) k c s)] kX12_164_12 rfl (tX12_wheelWays w μ p k (z_up (μ 1 0) (μ 2 0) k c s) (by omega) (by omega) (by omega) (by omega) hur.1 hur.2 hG) dX12_waysOf_59 rfl (by decide) (Nat.le_of_ble_eq_true rfl) rfl ?_
            refine q_imul dX12_waysOf_62 ?_
            refine q_istore (lv' := [some (.ref 64), some (q_i p), some (q_i c), some (q_i s), some (q_i ((z_prod (fun w => z_ww (μ 5 p) (μ 0 (1 + p)) (μ 1 0) (μ 2 0) w (z_up (μ 1 0) (μ 2 0) w c s)) k) * (z_ww (μ 5 p) (μ 0 (1 + p)) (μ 1 0) (μ 2 0) k (z_up (μ 1 0) (μ 2 0) k c s)))), some (q_i k)]) dX12_waysOf_63 (by decide) rfl ?_
            refine q_iinc (lv' := [some (.ref 64), some (q_i p), some (q_i c), some (q_i s), some (q_i ((z_prod (fun w => z_ww (μ 5 p) (μ 0 (1 + p)) (μ 1 0) (μ 2 0) w (z_up (μ 1 0) (μ 2 0) w c s)) k) * (z_ww (μ 5 p) (μ 0 (1 + p)) (μ 1 0) (μ 2 0) k (z_up (μ 1 0) (μ 2 0) k c s)))), some (q_i (k + 1))]) dX12_waysOf_65 rfl (by decide) rfl ?_
            refine q_goto (tgt := 36) dX12_waysOf_68 (by decide) ?_
            exact q_Jle (q_le_s (rfl) (q_le_s (rfl) (q_le_s (rfl) (q_le_s (rfl) (q_le_s (by rw [z_prod_s _ hk0]) (q_le_s (rfl) (q_le_e _))))))) (rfl) (rfl) (ih36 (k + 1) (by omega) (by omega) (by omega))
      exact q_Jle (q_le_s (rfl) (q_le_s (rfl) (q_le_s (rfl) (q_le_s (rfl) (q_le_s (rfl) (q_le_s (rfl) (q_le_e _))))))) (rfl) (rfl) (L36 ((μ 1 0 : Int).toNat + 1) 0 (by omega) (by omega) (by omega))
    · skip
      refine q_aload_n dX12_waysOf_22 rfl ?_
      refine q_iload_n dX12_waysOf_23 rfl ?_
      refine q_iload_n dX12_waysOf_24 rfl ?_
      refine q_iload_n dX12_waysOf_25 rfl ?_
      refine q_cV [q_i p, q_i c, q_i s] kX12_161_12 rfl (tX12_anyWays w μ p c s (by omega) (by omega) (by omega) (by omega) (by omega) (by omega) hG) dX12_waysOf_26 rfl (by decide) (Nat.le_of_ble_eq_true rfl) rfl ?_
      exact q_iret rfl dX12_waysOf_29 (⟨by (unfold z_ways; (repeat' split) <;> first | rfl | (exfalso; omega)), rfl⟩)
  · skip
    refine q_iconst dX12_waysOf_10 ?_
    exact q_iret rfl dX12_waysOf_11 (⟨by (unfold z_ways; (repeat' split) <;> first | rfl | (exfalso; omega)), rfl⟩)
