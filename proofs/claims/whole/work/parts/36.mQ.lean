/-! the reference: lots -/
def z_bk (g : Int → Int) : Nat → Int → Int → Int
  | 0, _, s => s
  | k + 1, l, s => if g s ≤ l then z_bk g k (l - g s) (s + 1) else s
def z_bt (g : Int → Int) (S l : Int) : Int := z_bk g S.toNat l 0
theorem z_bk_go {g : Int → Int} {S l s : Int} (h : s < S) (h2 : g s ≤ l) : z_bk g (S - s).toNat l s = z_bk g (S - (s + 1)).toNat (l - g s) (s + 1) := by
  rw [show (S - s).toNat = (S - (s + 1)).toNat + 1 by omega]
  exact if_pos h2
theorem z_bk_no {g : Int → Int} {S l s : Int} (h : s < S) (h2 : ¬ g s ≤ l) : z_bk g (S - s).toNat l s = s := by
  rw [show (S - s).toNat = (S - (s + 1)).toNat + 1 by omega]
  exact if_neg h2
theorem z_bk_r (g : Int → Int) : ∀ (k : Nat) (l s : Int), s ≤ z_bk g k l s ∧ z_bk g k l s ≤ s + k
  | 0, _, s => ⟨Int.le_refl _, by show s ≤ s + 0; omega⟩
  | k + 1, l, s => by
    show s ≤ (if g s ≤ l then z_bk g k (l - g s) (s + 1) else s) ∧ (if g s ≤ l then z_bk g k (l - g s) (s + 1) else s) ≤ s + ((k + 1 : Nat) : Int)
    split
    · have := z_bk_r g k (l - g s) (s + 1)
      omega
    · omega
theorem z_bk_lt (g : Int → Int) (S : Int) : ∀ (k : Nat) (l s : Int), S - s = k → 0 ≤ s → 0 ≤ l → l + z_sum g s < z_sum g S → z_bk g k l s < S
  | 0, l, s, h, h0, hl, h1 => by
    have e : s = S := by omega
    subst e
    show s < s
    omega
  | k + 1, l, s, h, h0, hl, h1 => by
    show (if g s ≤ l then z_bk g k (l - g s) (s + 1) else s) < S
    split
    · exact z_bk_lt g S k (l - g s) (s + 1) (by omega) (by omega) (by omega) (by rw [z_sum_s _ h0]; omega)
    · omega
theorem z_bt_r {g : Int → Int} {S l : Int} (hS : 0 ≤ S) (hl : 0 ≤ l) (h : l < z_sum g S) : 0 ≤ z_bt g S l ∧ z_bt g S l < S := by
  have h1 := z_bk_r g S.toNat l 0
  have h2 := z_bk_lt g S S.toNat l 0 (by omega) (by omega) hl (by rw [z_sum_0]; omega)
  unfold z_bt
  omega
theorem m_G.WN {μ : m_S} (h : m_G μ) : z_WN (μ 1 0) (μ 2 0) := ⟨h.1, h.2.1⟩
def m_wy (μ : m_S) (p c : Int) : Int → Int := fun s => z_ways (μ 5 p) (μ 0 (1 + p)) (μ 1 0) (μ 2 0) c s
def m_in (μ : m_S) (p : Int) : Int := z_in (μ 5 p) (μ 0 (1 + p)) (μ 1 0) (μ 3 0)
theorem m_wy_sum {μ : m_S} (hG : m_G μ) {p c : Int} (hp0 : 0 ≤ p) (hp1 : p < μ 4 0) (hc : 0 ≤ c) : z_sum (m_wy μ p c) (μ 3 0) = m_in μ p := by
  have hq := hG.2.2.2.2 p hp0 hp1
  have e := z_sum_win hG.WN (k := μ 5 p) (f := μ 0 (1 + p)) ⟨hq.1, hq.2.1⟩ ⟨hq.2.2.1, hq.2.2.2⟩ hc
  rw [← hG.2.2.1] at e
  exact e
set_option maxRecDepth 20000 in
theorem tX12_broughtTo (w : q_W) (μ : m_S) (p c x : Int) (hp0 : 0 ≤ p) (hp1 : p < μ 4 0) (hc0 : 0 ≤ c) (hc1 : c < μ 3 0) (hx0 : 0 ≤ x) (hx1 : x < z_sum (m_wy μ p c) (μ 3 0)) (hx2 : x ≤ 216) (hG : m_G μ) : q_D mX12_broughtTo 5 [.ref 64, q_i p, q_i c, q_i x] (m_w w μ) (some (q_i (z_bt (m_wy μ p c) (μ 3 0) x))) (m_w w μ) := by
  refine q_T.of (lv := [some (.ref 64), some (q_i p), some (q_i c), some (q_i x), none, none]) (by decide) rfl (Nat.le_of_ble_eq_true rfl) ?_
  have hW := hG.1
  have hN := hG.2.1
  have hS := hG.S
  have hPn := hG.2.2.2.1
  have hq := hG.2.2.2.2 p hp0 hp1
  refine q_iload_n dX12_broughtTo_0 rfl ?_
  refine q_istore (lv' := [some (.ref 64), some (q_i p), some (q_i c), some (q_i x), some (q_i x), none]) dX12_broughtTo_1 (by decide) rfl ?_
  refine q_iconst dX12_broughtTo_3 ?_
  refine q_istore (lv' := [some (.ref 64), some (q_i p), some (q_i c), some (q_i x), some (q_i x), some (q_i 0)]) dX12_broughtTo_4 (by decide) rfl ?_
  have L6 : ∀ (m9 : Nat) (l : Int) (s : Int) (hl0 : 0 ≤ l) (hs0 : 0 ≤ s) (hs2 : s ≤ μ 3 0) (hl1 : l + z_sum (m_wy μ p c) s = x) (hbk : z_bk (m_wy μ p c) (μ 3 0 - s).toNat l s = z_bt (m_wy μ p c) (μ 3 0) x) (hl2 : l ≤ 216) (hm9 : μ 3 0 - s < (m9 : Int)), q_J mX12_broughtTo 5 (fun v' w' => v' = (some (q_i (z_bt (m_wy μ p c) (μ 3 0) x))) ∧ w' = (m_w w μ)) 0 0 6 [some (.ref 64), some (q_i p), some (q_i c), some (q_i x), some (q_i l), some (q_i s)] [] (m_w w μ) := by
    intro m9
    induction m9 with
    | zero => intro l s hl0 hs0 hs2 hl1 hbk hl2 hm9; exact absurd hm9 (by omega)
    | succ m9 ih6 =>
      intro l s hl0 hs0 hs2 hl1 hbk hl2 hm9
      refine q_iload dX12_broughtTo_6 rfl ?_
      have hs1 : s < μ 3 0 := by
        rcases (show s < μ 3 0 ∨ s = μ 3 0 by omega) with h | h
        · exact h
        · rw [← h] at hx1; omega
      refine q_aload_n dX12_broughtTo_8 rfl ?_
      refine q_iload_n dX12_broughtTo_9 rfl ?_
      refine q_iload_n dX12_broughtTo_10 rfl ?_
      refine q_iload dX12_broughtTo_11 rfl ?_
      refine q_cV [q_i p, q_i c, q_i s] kX12_170_12 rfl (tX12_waysOf w μ p c s hp0 hp1 hc0 hc1 hs0 hs1 hG) dX12_broughtTo_13 rfl (by decide) (Nat.le_of_ble_eq_true rfl) rfl ?_
      show q_J _ _ _ _ _ _ _ [q_i (m_wy μ p c s), q_i l] (m_w w μ)
      refine q_icmp_lt (tgt := 38) dX12_broughtTo_16 (by decide) ⟨by omega, by omega⟩ ⟨by have := z_ways_r (k := μ 5 p) (f := μ 0 (1 + p)) (N := μ 2 0) c s hW; unfold m_wy; omega, by have := z_ways_r (k := μ 5 p) (f := μ 0 (1 + p)) (N := μ 2 0) c s hW; unfold m_wy; omega⟩ (fun h16 => ?_) (fun h16 => ?_)
      · skip
        refine q_iload dX12_broughtTo_38 rfl ?_
        exact q_iret rfl dX12_broughtTo_40 (⟨by rw [← hbk, z_bk_no hs1 (by omega)], rfl⟩)
      · skip
        refine q_iload dX12_broughtTo_19 rfl ?_
        refine q_aload_n dX12_broughtTo_21 rfl ?_
        refine q_iload_n dX12_broughtTo_22 rfl ?_
        refine q_iload_n dX12_broughtTo_23 rfl ?_
        refine q_iload dX12_broughtTo_24 rfl ?_
        refine q_cV [q_i p, q_i c, q_i s] kX12_170_12 rfl (tX12_waysOf w μ p c s hp0 hp1 hc0 hc1 hs0 hs1 hG) dX12_broughtTo_26 rfl (by decide) (Nat.le_of_ble_eq_true rfl) rfl ?_
        show q_J _ _ _ _ _ _ _ [q_i (m_wy μ p c s), q_i l] (m_w w μ)
        refine q_isub dX12_broughtTo_29 ?_
        refine q_istore (lv' := [some (.ref 64), some (q_i p), some (q_i c), some (q_i x), some (q_i (l - (m_wy μ p c s))), some (q_i s)]) dX12_broughtTo_30 (by decide) rfl ?_
        refine q_iinc (lv' := [some (.ref 64), some (q_i p), some (q_i c), some (q_i x), some (q_i (l - (m_wy μ p c s))), some (q_i (s + 1))]) dX12_broughtTo_32 rfl (by decide) rfl ?_
        refine q_goto (tgt := 6) dX12_broughtTo_35 (by decide) ?_
        exact q_Jle (q_le_s (rfl) (q_le_s (rfl) (q_le_s (rfl) (q_le_s (rfl) (q_le_s (rfl) (q_le_s (rfl) (q_le_e _))))))) (rfl) (rfl) (ih6 (l - (m_wy μ p c s)) (s + 1) (by omega) (by omega) (by omega) (by rw [z_sum_s _ hs0]; omega) ((z_bk_go hs1 (by omega)).symm.trans hbk) (by have := z_ways_r (k := μ 5 p) (f := μ 0 (1 + p)) (N := μ 2 0) c s hW; have e9 : m_wy μ p c s = z_ways (μ 5 p) (μ 0 (1 + p)) (μ 1 0) (μ 2 0) c s := rfl; omega) (by omega))
  exact q_Jle (q_le_s (rfl) (q_le_s (rfl) (q_le_s (rfl) (q_le_s (rfl) (q_le_s (rfl) (q_le_s (rfl) (q_le_e _))))))) (rfl) (rfl) (L6 ((μ 3 0 : Int).toNat + 1) x 0 (by omega) (by omega) (by omega) (by rw [z_sum_0]; omega) (by rw [Int.sub_zero]; rfl) (by omega) (by omega))
def z_nx (x : Int) : Int := (x * 48271).tmod 2147483647
theorem z_nx_r {x : Int} (h : 0 ≤ x) : 0 ≤ z_nx x ∧ z_nx x < 2147483647 := ⟨Int.tmod_nonneg _ (by omega), Int.tmod_lt_of_pos _ (by decide)⟩
def z_ik (x : Int) : Nat → Int
  | 0 => x
  | k + 1 => z_nx (z_nx (z_ik x k))
def z_it (x k : Int) : Int := z_ik x k.toNat
theorem z_it_s (x : Int) {k : Int} (h : 0 ≤ k) : z_it x (k + 1) = z_nx (z_nx (z_it x k)) := by
  unfold z_it
  rw [show (k + 1).toNat = k.toNat + 1 by omega]
  rfl
theorem z_ik_r {x : Int} (h : 0 ≤ x ∧ x < 2147483647) : ∀ k : Nat, 0 ≤ z_ik x k ∧ z_ik x k < 2147483647
  | 0 => h
  | k + 1 => z_nx_r (z_nx_r (z_ik_r h k).1).1
theorem z_it_r {x : Int} (h : 0 ≤ x ∧ x < 2147483647) (k : Int) : 0 ≤ z_it x k ∧ z_it x k < 2147483647 := z_ik_r h k.toNat
/-- who shuts it the k-th time, and by which way -/
def m_lw_p (μ : m_S) (x k : Int) : Int := ((z_nx (z_it x k)).tdiv 16).tmod (μ 4 0)
def m_lw_w (μ : m_S) (x k : Int) : Int := ((z_it x (k + 1)).tdiv 32).tmod (m_in μ (m_lw_p μ x k))
def m_lw_v (μ : m_S) (x c k : Int) : Int := z_bt (m_wy μ (m_lw_p μ x k) c) (μ 3 0) (m_lw_w μ x k)
def m_ltr (μ : m_S) (n x c k : Int) : Int → Int := fun j => if j = 0 then n else if 6 ≤ j ∧ j < 6 + k then m_lw_p μ x (j - 6) else if 22 ≤ j ∧ j < 22 + k then m_lw_v μ x c (j - 22) else μ 0 j
theorem m_ltr_0 (μ : m_S) (n x c : Int) : m_ltr μ n x c 0 = q_us (μ 0) 0 n := by
  funext j
  unfold m_ltr q_us
  split
  · rfl
  · rw [if_neg (by omega), if_neg (by omega)]
theorem m_ltr_s (μ : m_S) (n x c : Int) {k : Int} (h0 : 0 ≤ k) (h1 : k < 8) : q_us (q_us (m_ltr μ n x c k) (6 + k) (m_lw_p μ x k)) (22 + k) (m_lw_v μ x c k) = m_ltr μ n x c (k + 1) := by
  funext j
  unfold q_us m_ltr
  by_cases e1 : j = 22 + k
  · rw [if_pos e1, if_neg (by omega), if_neg (by omega), if_pos (by omega), show j - 22 = k by omega]
  · rw [if_neg e1]
    by_cases e2 : j = 6 + k
    · rw [if_pos e2, if_neg (by omega), if_pos (by omega), show j - 6 = k by omega]
    · rw [if_neg e2]
      by_cases e3 : j = 0
      · rw [if_pos e3, if_pos e3]
      · rw [if_neg e3, if_neg e3]
        by_cases e4 : 6 ≤ j ∧ j < 6 + k
        · rw [if_pos e4, if_pos (by omega)]
        · rw [if_neg e4, if_neg (show ¬ (6 ≤ j ∧ j < 6 + (k + 1)) by omega)]
          by_cases e5 : 22 ≤ j ∧ j < 22 + k
          · rw [if_pos e5, if_pos (by omega)]
          · rw [if_neg e5, if_neg (by omega)]
theorem m_ltr_f {μ : m_S} {n x c k p : Int} (h0 : 0 ≤ p) (h1 : p < 5) (h8 : k ≤ 8) : m_ltr μ n x c k (1 + p) = μ 0 (1 + p) := by
  unfold m_ltr
  rw [if_neg (by omega), if_neg (by omega), if_neg (by omega)]
theorem m_lw_pr {μ : m_S} (hP : 1 ≤ μ 4 0) {x : Int} (hx : 0 ≤ x ∧ x < 2147483647) (k : Int) : 0 ≤ m_lw_p μ x k ∧ m_lw_p μ x k < μ 4 0 := by
  have h1 := z_nx_r (z_it_r hx k).1
  unfold m_lw_p
  exact ⟨Int.tmod_nonneg _ (Int.tdiv_nonneg h1.1 (by decide)), Int.tmod_lt_of_pos _ (by omega)⟩
theorem m_in_r {μ : m_S} (hG : m_G μ) {p : Int} (hp0 : 0 ≤ p) (hp1 : p < μ 4 0) : 1 ≤ m_in μ p ∧ m_in μ p ≤ 216 := by
  have hq := hG.2.2.2.2 p hp0 hp1
  exact z_in_r ⟨hq.2.2.1, hq.2.2.2⟩ hG.1 hG.S
theorem m_lw_wr {μ : m_S} (hG : m_G μ) {x : Int} (hx : 0 ≤ x ∧ x < 2147483647) (k : Int) : 0 ≤ m_lw_w μ x k ∧ m_lw_w μ x k < m_in μ (m_lw_p μ x k) := by
  have h1 := z_it_r hx (k + 1)
  have h2 := m_lw_pr hG.2.2.2.1.1 hx k
  have h3 := m_in_r hG h2.1 h2.2
  unfold m_lw_w
  exact ⟨Int.tmod_nonneg _ (Int.tdiv_nonneg h1.1 (by decide)), Int.tmod_lt_of_pos _ (by omega)⟩
theorem m_lw_vr {μ : m_S} (hG : m_G μ) {x c : Int} (hx : 0 ≤ x ∧ x < 2147483647) (hc : 0 ≤ c) (k : Int) : 0 ≤ m_lw_v μ x c k ∧ m_lw_v μ x c k < μ 3 0 := by
  have h2 := m_lw_pr hG.2.2.2.1.1 hx k
  have h3 := m_lw_wr hG hx k
  have hS := hG.S
  exact z_bt_r (by omega) h3.1 (by rw [m_wy_sum hG h2.1 h2.2 hc]; exact h3.2)
def m_lts (μ : m_S) (n x c : Int) : m_S := m_u μ 0 (m_ltr μ n x c n)
def m_lots_c (μ : m_S) (e : Int) : Int := (z_nx e).tmod (μ 3 0)
def m_lots_v (μ : m_S) (n e : Int) : Int := if ¬ (1 ≤ n ∧ n ≤ 8) then -1 else if ¬ (1 ≤ e ∧ e ≤ 2147483646) then -1 else if μ 4 0 = 0 then -4 else m_lots_c μ e
def m_lots_s (μ : m_S) (n e : Int) : m_S := if ¬ (1 ≤ n ∧ n ≤ 8) then μ else if ¬ (1 ≤ e ∧ e ≤ 2147483646) then μ else if μ 4 0 = 0 then μ else m_lw (m_lts μ n (z_nx e) (m_lots_c μ e))
theorem m_ltr_G {μ : m_S} (hG : m_G μ) {f : Int → Int} (hf : ∀ p, 0 ≤ p → p < 5 → f (1 + p) = μ 0 (1 + p)) : m_G (m_u μ 0 f) := by
  have h := hG.S
  rcases m_Sh_row (Or.inr hG) hf with e | e
  · have e2 : μ 3 0 = 0 := e.2.2.2
    omega
  · exact e
theorem m_lts_D {μ : m_S} (hG : m_G μ) {n x c : Int} (hn : 1 ≤ n ∧ n ≤ 8) (hx : 0 ≤ x ∧ x < 2147483647) (hc : 0 ≤ c) : m_De (m_lts μ n x c) := by
  have e0 : m_ltr μ n x c n 0 = n := if_pos rfl
  refine ⟨by show 0 ≤ m_ltr μ n x c n 0 ∧ m_ltr μ n x c n 0 ≤ 16; omega, fun d h0 h1 => ?_⟩
  have h1' : d < m_ltr μ n x c n 0 := h1
  have hp := m_lw_pr hG.2.2.2.1.1 hx d
  have hv := m_lw_vr hG hx hc d
  have e1 : m_ltr μ n x c n (6 + d) = m_lw_p μ x d := by
    unfold m_ltr
    rw [if_neg (by omega), if_pos (by omega), show 6 + d - 6 = d by omega]
  have e2 : m_ltr μ n x c n (22 + d) = m_lw_v μ x c d := by
    unfold m_ltr
    rw [if_neg (by omega), if_neg (by omega), if_pos (by omega), show 22 + d - 22 = d by omega]
  show (m_ltr μ n x c n (6 + d) = -9 ∨ (0 ≤ m_ltr μ n x c n (6 + d) ∧ m_ltr μ n x c n (6 + d) < μ 4 0)) ∧ 0 ≤ m_ltr μ n x c n (22 + d) ∧ m_ltr μ n x c n (22 + d) < μ 3 0
  rw [e1, e2]
  exact ⟨Or.inr hp, hv⟩
set_option maxRecDepth 20000 in
theorem tX12_lots (w : q_W) (μ : m_S) (n e : Int) (hn : q_r n) (he : q_r e) (hH : m_Sh μ) : q_D mX12_lots 7 [.ref 64, q_i n, q_i e] (m_w w μ) (some (q_i (m_lots_v μ n e))) (m_w w (m_lots_s μ n e)) := by
  refine q_T.of (lv := [some (.ref 64), some (q_i n), some (q_i e), none, none, none, none, none]) (by decide) rfl (Nat.le_of_ble_eq_true rfl) ?_
  have hb := hH.b
  refine q_iload_n dX12_lots_0 rfl ?_
  refine q_i2lr dX12_lots_1 hn ?_
  refine q_lconst 1 dX12_lots_2 ?_
  refine q_ldc2 8 wd_1423 dX12_lots_3 ?_
  refine q_cS [q_l n, q_l 1, q_l 8] kX12_57 (tX12_in n 1 8 (⟨by have := (hn).1; omega, by have := (hn).2; omega⟩) (⟨by decide, by decide⟩) (⟨by decide, by decide⟩) (m_w w μ)) dX12_lots_6 rfl (by decide) (Nat.le_of_ble_eq_true rfl) rfl ?_
  refine q_ifb_eq (tgt := 24) dX12_lots_9 (by decide) (fun h9 => ?_) (fun h9 => ?_)
  · skip
    refine q_iconst dX12_lots_24 ?_
    exact q_iret rfl dX12_lots_25 (⟨by (unfold m_lots_v; (repeat' split) <;> first | rfl | (exfalso; omega)), by (unfold m_lots_s; (repeat' split) <;> first | rfl | (exfalso; omega))⟩)
  · skip
    refine q_iload_n dX12_lots_12 rfl ?_
    refine q_i2lr dX12_lots_13 he ?_
    refine q_lconst 1 dX12_lots_14 ?_
    refine q_ldc2 2147483646 wd_1424 dX12_lots_15 ?_
    refine q_cS [q_l e, q_l 1, q_l 2147483646] kX12_57 (tX12_in e 1 2147483646 (⟨by have := (he).1; omega, by have := (he).2; omega⟩) (⟨by decide, by decide⟩) (⟨by decide, by decide⟩) (m_w w μ)) dX12_lots_18 rfl (by decide) (Nat.le_of_ble_eq_true rfl) rfl ?_
    refine q_ifb_ne (tgt := 26) dX12_lots_21 (by decide) (fun h21 => ?_) (fun h21 => ?_)
    · skip
      refine q_aload_n dX12_lots_26 rfl ?_
      refine q_get (v := q_i (μ 4 0)) fX12_142_12 rfl rfl dX12_lots_27 ?_
      refine q_if_ne (tgt := 36) dX12_lots_30 (by decide) ⟨by omega, by omega⟩ (fun h30 => ?_) (fun h30 => ?_)
      · skip
        have hG := hH.g (by omega)
        have hS := hG.S
        have hP := hG.2.2.2.1
        have hx := z_nx_r (x := e) (by omega)
        have hcr : 0 ≤ m_lots_c μ e ∧ m_lots_c μ e < μ 3 0 := ⟨Int.tmod_nonneg _ hx.1, Int.tmod_lt_of_pos _ (by omega)⟩
        refine q_iload_n dX12_lots_36 rfl ?_
        refine q_i2lr dX12_lots_37 he ?_
        refine q_ldc2 48271 wd_1425 dX12_lots_38 ?_
        refine q_lmul dX12_lots_41 ?_
        refine q_ldc2 2147483647 wd_1426 dX12_lots_42 ?_
        refine q_lrem dX12_lots_45 ⟨by omega, by omega⟩ ⟨by decide, by decide⟩ (by omega) (by omega) ?_
        refine q_lstore_n (lv' := [some (.ref 64), some (q_i n), some (q_i e), some (q_l (((e * 48271)).tmod 2147483647)), none, none, none, none]) dX12_lots_46 (by decide) rfl ?_
        show q_J _ _ _ _ _ _ [some (.ref 64), some (q_i n), some (q_i e), some (q_l (z_nx e)), none, none, none, none] [] _
        refine q_lload_n dX12_lots_47 rfl ?_
        refine q_aload_n dX12_lots_48 rfl ?_
        refine q_get (v := q_i (μ 3 0)) fX12_139_12 rfl rfl dX12_lots_49 ?_
        refine q_i2lr dX12_lots_52 ⟨by omega, by omega⟩ ?_
        refine q_lrem dX12_lots_53 ⟨by omega, by omega⟩ ⟨by omega, by omega⟩ (by omega) (by omega) ?_
        refine q_l2i dX12_lots_54 ?_
        refine q_istore (lv' := [some (.ref 64), some (q_i n), some (q_i e), some (q_l (z_nx e)), none, some (q_i (((z_nx e)).tmod (μ 3 0))), none, none]) dX12_lots_55 (by decide) rfl ?_
        show q_J _ _ _ _ _ _ [some (.ref 64), some (q_i n), some (q_i e), some (q_l (z_nx e)), none, some (q_i (m_lots_c μ e)), none, none] [] _
        refine q_aload_n dX12_lots_57 rfl ?_
        refine q_get (v := .ref 65) fX12_7_12 rfl rfl dX12_lots_58 ?_
        refine q_iconst dX12_lots_61 ?_
        refine q_iload_n dX12_lots_62 rfl ?_
        refine q_iast (f := (μ 0)) (n9 := 152) rfl (by omega) (by omega) dX12_lots_63 ?_
        rw [m_a0]
        refine q_iconst dX12_lots_64 ?_
        refine q_istore (lv' := [some (.ref 64), some (q_i n), some (q_i e), some (q_l (z_nx e)), none, some (q_i (m_lots_c μ e)), some (q_i 0), none]) dX12_lots_65 (by decide) rfl ?_
        have L67 : ∀ (m9 : Nat) (k : Int) (hk0 : 0 ≤ k) (hk1 : k ≤ n) (hm9 : n - k < (m9 : Int)), q_J mX12_lots 7 (fun v' w' => v' = (some (q_i (m_lots_v μ n e))) ∧ w' = (m_w w (m_lots_s μ n e))) 0 0 67 [some (.ref 64), some (q_i n), some (q_i e), some (q_l (z_it (z_nx e) k)), none, some (q_i (m_lots_c μ e)), some (q_i k), none] [] (m_w w (m_u μ 0 (m_ltr μ n (z_nx e) (m_lots_c μ e) k))) := by
          intro m9
          induction m9 with
          | zero => intro k hk0 hk1 hm9; exact absurd hm9 (by omega)
          | succ m9 ih67 =>
            intro k hk0 hk1 hm9
            refine q_iload dX12_lots_67 rfl ?_
            refine q_iload_n dX12_lots_69 rfl ?_
            refine q_icmp_ge (tgt := 157) dX12_lots_70 (by decide) ⟨by omega, by omega⟩ hn (fun h70 => ?_) (fun h70 => ?_)
            · skip
              have hke : k = n := by omega
              subst hke
              show q_J _ _ _ _ _ _ _ _ (m_w w (m_lts μ k (z_nx e) (m_lots_c μ e)))
              refine q_aload_n dX12_lots_157 rfl ?_
              refine q_cVv [] kX12_145_12 rfl (tX12_layWeights w (m_lts μ k (z_nx e) (m_lots_c μ e)) (Or.inr (m_ltr_G hG (fun p h0 h1 => m_ltr_f h0 h1 (by omega)))) (m_lts_D hG (by omega) hx hcr.1)) dX12_lots_158 rfl (by decide) (Nat.le_of_ble_eq_true rfl) rfl ?_
              refine q_iload dX12_lots_161 rfl ?_
              exact q_iret rfl dX12_lots_163 (⟨by (unfold m_lots_v; (repeat' split) <;> first | rfl | (exfalso; omega)), by (unfold m_lots_s; (repeat' split) <;> first | rfl | (exfalso; omega))⟩)
            · skip
              have hi := z_it_r hx k
              have hj := z_nx_r hi.1
              have hpr := m_lw_pr hP.1 hx k
              have hwr := m_lw_wr hG hx k
              have hvr := m_lw_vr hG hx hcr.1 k
              have hir := m_in_r hG hpr.1 hpr.2
              have hf2 : ∀ p, 0 ≤ p → p < 5 → (q_us (m_ltr μ n (z_nx e) (m_lots_c μ e) k) (6 + k) (m_lw_p μ (z_nx e) k)) (1 + p) = μ 0 (1 + p) := fun p h0 h1 => by rw [q_us_n (by omega)]; exact m_ltr_f h0 h1 (by omega)
              have hp5 : (m_lw_p μ (z_nx e) k) < 5 := by omega
              have hk8 : k < 8 := by omega
              have hd1 := Int.tdiv_nonneg (b := 16) hj.1 (by decide)
              have hd2 := Int.tdiv_le_self 16 hj.1
              have hi2 := z_it_r hx (k + 1)
              have hd3 := Int.tdiv_nonneg (b := 32) hi2.1 (by decide)
              have hd4 := Int.tdiv_le_self 32 hi2.1
              refine q_lload_n dX12_lots_73 rfl ?_
              refine q_ldc2 48271 wd_1425 dX12_lots_74 ?_
              refine q_lmul dX12_lots_77 ?_
              refine q_ldc2 2147483647 wd_1426 dX12_lots_78 ?_
              refine q_lrem dX12_lots_81 ⟨by omega, by omega⟩ ⟨by decide, by decide⟩ (by omega) (by omega) ?_
              refine q_lstore_n (lv' := [some (.ref 64), some (q_i n), some (q_i e), some (q_l ((((z_it (z_nx e) k) * 48271)).tmod 2147483647)), none, some (q_i (m_lots_c μ e)), some (q_i k), none]) dX12_lots_82 (by decide) rfl ?_
              show q_J _ _ _ _ _ _ [some (.ref 64), some (q_i n), some (q_i e), some (q_l (z_nx (z_it (z_nx e) k))), none, some (q_i (m_lots_c μ e)), some (q_i k), none] [] _
              refine q_lload_n dX12_lots_83 rfl ?_
              refine q_ldc2 16 wd_1427 dX12_lots_84 ?_
              refine q_ldiv dX12_lots_87 ⟨by omega, by omega⟩ ⟨by decide, by decide⟩ (by omega) (by omega) ?_
              refine q_aload_n dX12_lots_88 rfl ?_
              refine q_get (v := q_i (μ 4 0)) fX12_142_12 rfl rfl dX12_lots_89 ?_
              refine q_i2lr dX12_lots_92 ⟨by omega, by omega⟩ ?_
              refine q_lrem dX12_lots_93 ⟨by omega, by omega⟩ ⟨by omega, by omega⟩ (by omega) (by omega) ?_
              refine q_l2i dX12_lots_94 ?_
              refine q_istore (lv' := [some (.ref 64), some (q_i n), some (q_i e), some (q_l (z_nx (z_it (z_nx e) k))), none, some (q_i (m_lots_c μ e)), some (q_i k), some (q_i (((((z_nx (z_it (z_nx e) k))).tdiv 16)).tmod (μ 4 0)))]) dX12_lots_95 (by decide) rfl ?_
              show q_J _ _ _ _ _ _ [some (.ref 64), some (q_i n), some (q_i e), some (q_l (z_nx (z_it (z_nx e) k))), none, some (q_i (m_lots_c μ e)), some (q_i k), some (q_i (m_lw_p μ (z_nx e) k))] [] _
              refine q_lload_n dX12_lots_97 rfl ?_
              refine q_ldc2 48271 wd_1425 dX12_lots_98 ?_
              refine q_lmul dX12_lots_101 ?_
              refine q_ldc2 2147483647 wd_1426 dX12_lots_102 ?_
              refine q_lrem dX12_lots_105 ⟨by omega, by omega⟩ ⟨by decide, by decide⟩ (by omega) (by omega) ?_
              refine q_lstore_n (lv' := [some (.ref 64), some (q_i n), some (q_i e), some (q_l ((((z_nx (z_it (z_nx e) k)) * 48271)).tmod 2147483647)), none, some (q_i (m_lots_c μ e)), some (q_i k), some (q_i (m_lw_p μ (z_nx e) k))]) dX12_lots_106 (by decide) rfl ?_
              refine q_Jle (lv' := [some (.ref 64), some (q_i n), some (q_i e), some (q_l (z_it (z_nx e) (k + 1))), none, some (q_i (m_lots_c μ e)), some (q_i k), some (q_i (m_lw_p μ (z_nx e) k))]) (q_le_s rfl (q_le_s rfl (q_le_s rfl (q_le_s (by rw [z_it_s _ hk0]; rfl) (q_le_n (q_le_s rfl (q_le_s rfl (q_le_s rfl (q_le_e _)))))))) ) rfl rfl ?_
              refine q_aload_n dX12_lots_107 rfl ?_
              refine q_get (v := .ref 65) fX12_7_12 rfl rfl dX12_lots_108 ?_
              refine q_bipush dX12_lots_111 ?_
              refine q_iload dX12_lots_113 rfl ?_
              refine q_iadd dX12_lots_115 ?_
              refine q_iload dX12_lots_116 rfl ?_
              refine q_iast (f := (m_ltr μ n (z_nx e) (m_lots_c μ e) k)) (n9 := 152) rfl (by omega) (by omega) dX12_lots_118 ?_
              rw [m_a0]
              rw [m_uu]
              refine q_aload_n dX12_lots_119 rfl ?_
              refine q_get (v := .ref 65) fX12_7_12 rfl rfl dX12_lots_120 ?_
              refine q_bipush dX12_lots_123 ?_
              refine q_iload dX12_lots_125 rfl ?_
              refine q_iadd dX12_lots_127 ?_
              refine q_aload_n dX12_lots_128 rfl ?_
              refine q_iload dX12_lots_129 rfl ?_
              refine q_iload dX12_lots_131 rfl ?_
              refine q_lload_n dX12_lots_133 rfl ?_
              refine q_ldc2 32 wd_1428 dX12_lots_134 ?_
              refine q_ldiv dX12_lots_137 ⟨by omega, by omega⟩ ⟨by decide, by decide⟩ (by omega) (by omega) ?_
              refine q_aload_n dX12_lots_138 rfl ?_
              refine q_iload dX12_lots_139 rfl ?_
              have hG2 : m_G (m_u μ 0 (q_us (m_ltr μ n (z_nx e) (m_lots_c μ e) k) (6 + k) (m_lw_p μ (z_nx e) k))) := m_ltr_G hG hf2
              refine q_cV [q_i (m_lw_p μ (z_nx e) k)] kX12_177_12 rfl (Eq.mp (congrArg (fun z => q_D mX12_waysInAll 1 [.ref 64, q_i (m_lw_p μ (z_nx e) k)] (m_w w (m_u μ 0 (q_us (m_ltr μ n (z_nx e) (m_lots_c μ e) k) (6 + k) (m_lw_p μ (z_nx e) k)))) (some (q_i (z_in (μ 5 (m_lw_p μ (z_nx e) k)) z (μ 1 0) (μ 3 0)))) (m_w w (m_u μ 0 (q_us (m_ltr μ n (z_nx e) (m_lots_c μ e) k) (6 + k) (m_lw_p μ (z_nx e) k))))) (hf2 (m_lw_p μ (z_nx e) k) hpr.1 hp5)) (tX12_waysInAll w (m_u μ 0 (q_us (m_ltr μ n (z_nx e) (m_lots_c μ e) k) (6 + k) (m_lw_p μ (z_nx e) k))) (m_lw_p μ (z_nx e) k) hpr.1 hpr.2 hG2)) dX12_lots_141 rfl (by decide) (Nat.le_of_ble_eq_true rfl) rfl ?_
              show q_J _ _ _ _ _ _ _ [q_i (m_in μ (m_lw_p μ (z_nx e) k)), q_l (((z_it (z_nx e) (k + 1))).tdiv 32), q_i (m_lots_c μ e), q_i (m_lw_p μ (z_nx e) k), .ref 64, q_i (22 + k), .ref 65] (m_w w (m_u μ 0 (q_us (m_ltr μ n (z_nx e) (m_lots_c μ e) k) (6 + k) (m_lw_p μ (z_nx e) k))))
              refine q_i2lr dX12_lots_144 ⟨by omega, by omega⟩ ?_
              refine q_lrem dX12_lots_145 ⟨by omega, by omega⟩ ⟨by omega, by omega⟩ (by omega) (by omega) ?_
              refine q_l2i dX12_lots_146 ?_
              show q_J _ _ _ _ _ _ _ [q_i (m_lw_w μ (z_nx e) k), q_i (m_lots_c μ e), q_i (m_lw_p μ (z_nx e) k), .ref 64, q_i (22 + k), .ref 65] _
              have hew : m_wy (m_u μ 0 (q_us (m_ltr μ n (z_nx e) (m_lots_c μ e) k) (6 + k) (m_lw_p μ (z_nx e) k))) (m_lw_p μ (z_nx e) k) (m_lots_c μ e) = m_wy μ (m_lw_p μ (z_nx e) k) (m_lots_c μ e) := by funext s; show z_ways _ ((q_us (m_ltr μ n (z_nx e) (m_lots_c μ e) k) (6 + k) (m_lw_p μ (z_nx e) k)) (1 + (m_lw_p μ (z_nx e) k))) _ _ _ _ = _; rw [hf2 (m_lw_p μ (z_nx e) k) hpr.1 hp5]; rfl
              refine q_cV [q_i (m_lw_p μ (z_nx e) k), q_i (m_lots_c μ e), q_i (m_lw_w μ (z_nx e) k)] kX12_265_12 rfl (Eq.mp (congrArg (fun z => q_D mX12_broughtTo 5 [.ref 64, q_i (m_lw_p μ (z_nx e) k), q_i (m_lots_c μ e), q_i (m_lw_w μ (z_nx e) k)] (m_w w (m_u μ 0 (q_us (m_ltr μ n (z_nx e) (m_lots_c μ e) k) (6 + k) (m_lw_p μ (z_nx e) k)))) (some (q_i (z_bt z (μ 3 0) (m_lw_w μ (z_nx e) k)))) (m_w w (m_u μ 0 (q_us (m_ltr μ n (z_nx e) (m_lots_c μ e) k) (6 + k) (m_lw_p μ (z_nx e) k))))) hew) (tX12_broughtTo w (m_u μ 0 (q_us (m_ltr μ n (z_nx e) (m_lots_c μ e) k) (6 + k) (m_lw_p μ (z_nx e) k))) (m_lw_p μ (z_nx e) k) (m_lots_c μ e) (m_lw_w μ (z_nx e) k) hpr.1 hpr.2 hcr.1 hcr.2 hwr.1 (by rw [hew]; show _ < z_sum _ (μ 3 0); rw [m_wy_sum hG hpr.1 hpr.2 hcr.1]; exact hwr.2) (by omega) hG2)) dX12_lots_147 rfl (by decide) (Nat.le_of_ble_eq_true rfl) rfl ?_
              refine q_iast (f := (q_us (m_ltr μ n (z_nx e) (m_lots_c μ e) k) (6 + k) (m_lw_p μ (z_nx e) k))) (n9 := 152) rfl (by omega) (by omega) dX12_lots_150 ?_
              rw [m_a0]
              refine q_iinc (lv' := [some (.ref 64), some (q_i n), some (q_i e), some (q_l (z_it (z_nx e) (k + 1))), none, some (q_i (m_lots_c μ e)), some (q_i (k + 1)), some (q_i (m_lw_p μ (z_nx e) k))]) dX12_lots_151 rfl (by decide) rfl ?_
              refine q_goto (tgt := 67) dX12_lots_154 (by decide) ?_
              exact q_Jle (q_le_s (rfl) (q_le_s (rfl) (q_le_s (rfl) (q_le_s (rfl) (q_le_n (q_le_s (rfl) (q_le_s (rfl) (q_le_n (q_le_e _))))))))) (rfl) (by rw [m_uu, ← m_ltr_s _ _ _ _ hk0 hk8]; rfl) (ih67 (k + 1) (by omega) (by omega) (by omega))
        exact q_Jle (q_le_s (rfl) (q_le_s (rfl) (q_le_s (rfl) (q_le_s (rfl) (q_le_n (q_le_s (rfl) (q_le_s (rfl) (q_le_n (q_le_e _))))))))) (rfl) (by rw [m_ltr_0]) (L67 ((n : Int).toNat + 1) 0 (by omega) (by omega) (by omega))
      · skip
        refine q_bipush dX12_lots_33 ?_
        exact q_iret rfl dX12_lots_35 (⟨by (unfold m_lots_v; (repeat' split) <;> first | rfl | (exfalso; omega)), by (unfold m_lots_s; (repeat' split) <;> first | rfl | (exfalso; omega))⟩)
    · skip
      refine q_iconst dX12_lots_24 ?_
      exact q_iret rfl dX12_lots_25 (⟨by (unfold m_lots_v; (repeat' split) <;> first | rfl | (exfalso; omega)), by (unfold m_lots_s; (repeat' split) <;> first | rfl | (exfalso; omega))⟩)
