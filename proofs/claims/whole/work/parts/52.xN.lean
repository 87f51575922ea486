/-! the class: flicks, going on, lots -/
set_option maxRecDepth 20000 in
theorem tX8_personAt_w (w : q_W) (ξ : m_S) (B P : Nat) (g : Int → Option Nat) (p : Int) (hp0 : 0 ≤ p) (hp1 : p < ξ 7 0) (h75 : ξ 7 0 ≤ 5) (hg : g p = some (B + p.toNat)) : q_D mX8_personAt 0 [.ref 7, q_i p] (x_w w ξ B P g) (some (.ref (B + p.toNat))) (x_w w ξ B P g) := by
  refine q_T.of (lv := [some (.ref 7), some (q_i p)]) (by decide) rfl (Nat.le_of_ble_eq_true rfl) ?_
  refine q_iload_n dX8_personAt_0 rfl ?_
  refine q_if_lt (tgt := 12) dX8_personAt_1 (by decide) ⟨by omega, by omega⟩ (fun h1 => False.elim (by omega)) (fun h1 => ?_)
  refine q_iload_n dX8_personAt_4 rfl ?_
  refine q_aload_n dX8_personAt_5 rfl ?_
  refine q_get (v := q_i (ξ 7 0)) fX8_9_8 rfl rfl dX8_personAt_6 ?_
  refine q_icmp_lt (tgt := 16) dX8_personAt_9 (by decide) ⟨by omega, by omega⟩ ⟨by omega, by omega⟩ (fun h9 => ?_) (fun h9 => False.elim (by omega))
  refine q_aload_n dX8_personAt_16 rfl ?_
  refine q_get (v := .ref 18) fX8_47_8 rfl rfl dX8_personAt_17 ?_
  refine q_iload_n dX8_personAt_20 rfl ?_
  refine q_aald rfl (by decide) (by omega) (by omega) dX8_personAt_21 ?_
  rw [hg]
  show q_J _ _ _ _ _ _ _ (.ref (B + p.toNat) :: _) _
  exact q_aret (o := some (B + p.toNat)) rfl dX8_personAt_22 (⟨rfl, rfl⟩)
def x_sf (ξ : m_S) (p v : Int) : m_S := m_u (x_lr ξ p.toNat v (ξ 8 2)) 11 (q_us (ξ 11) p v)
theorem x_lr_k {ξ : m_S} {p : Nat} {v t : Int} {k : Nat} (h1 : k ≠ 1003) (h2 : k ≠ 1004) (h3 : k ≠ 1005) (h4 : k ≠ 20 + p) (h5 : k ≠ 26 + p) : x_lr ξ p v t k = ξ k := x_pn_k h1 h2 h3 h4 h5
theorem x_sf_k {ξ : m_S} {p v : Int} {k : Nat} (h0 : k ≠ 11) (h1 : k ≠ 1003) (h2 : k ≠ 1004) (h3 : k ≠ 1005) (h4 : k ≠ 20 + p.toNat) (h5 : k ≠ 26 + p.toNat) : x_sf ξ p v k = ξ k := by
  unfold x_sf
  rw [m_un h0, x_lr_k h1 h2 h3 h4 h5]
theorem x_sf_11 (ξ : m_S) (p v : Int) : x_sf ξ p v 11 = q_us (ξ 11) p v := m_us _ _ _
theorem x_us_c {f : Int → Int} {p : Int} (h0 : 0 ≤ p) (v : Int) : q_us f ((p.toNat : Nat) : Int) v = q_us f p v := by rw [Int.toNat_of_nonneg h0]
theorem x_sf_8 {ξ : m_S} {p v : Int} : x_sf ξ p v 8 = ξ 8 := x_sf_k (by decide) (by decide) (by decide) (by decide) (by omega) (by omega)
theorem x_sf_1000 {ξ : m_S} {p v : Int} (h5 : p < 5) : x_sf ξ p v 1000 = ξ 1000 := x_sf_k (by decide) (by decide) (by decide) (by decide) (by omega) (by omega)
theorem x_sf_1005 {ξ : m_S} {p v : Int} (h0 : 0 ≤ p) : x_sf ξ p v 1005 = q_us (ξ 1005) p v := by
  unfold x_sf
  rw [m_un (by decide)]
  show q_us (ξ 1005) ((p.toNat : Nat) : Int) v = _
  exact x_us_c h0 v
theorem x_sf_1003 {ξ : m_S} {p v : Int} (h0 : 0 ≤ p) : x_sf ξ p v 1003 = q_us (ξ 1003) p (z_pos (x_ft ξ p.toNat v) (ξ 8 2)) := by
  unfold x_sf
  rw [m_un (by decide)]
  show q_us (ξ 1003) ((p.toNat : Nat) : Int) _ = _
  exact x_us_c h0 _
theorem x_sf_1004 {ξ : m_S} {p v : Int} (h0 : 0 ≤ p) : x_sf ξ p v 1004 = q_us (ξ 1004) p (z_sum (x_ft ξ p.toNat v) (ξ 8 2)) := by
  unfold x_sf
  rw [m_un (by decide)]
  show q_us (ξ 1004) ((p.toNat : Nat) : Int) _ = _
  exact x_us_c h0 _
theorem x_sf_tu {ξ : m_S} {p v : Int} (h5 : p < 5) : x_sf ξ p v (20 + p.toNat) = z_tl (x_ft ξ p.toNat v) (ξ (20 + p.toNat)) (ξ 8 2) := by
  unfold x_sf
  rw [m_un (by omega)]
  exact x_pn_tu (by omega)
theorem x_sf_ti {ξ : m_S} {p v : Int} (h5 : p < 5) : x_sf ξ p v (26 + p.toNat) = x_tm (ξ (26 + p.toNat)) (x_ft ξ p.toNat v) (ξ 8 2) := by
  unfold x_sf
  rw [m_un (by omega)]
  exact x_pn_ti (by omega)
/-- who has learnt has true tables -/
theorem x_sf_Pt {ξ : m_S} {p v : Int} (h0 : 0 ≤ p) (h5 : p < 5) (hk : 0 ≤ ξ 1000 p ∧ ξ 1000 p ≤ 5) (hv : 1 ≤ v ∧ v ≤ 3) (hS : 0 ≤ ξ 8 2) : x_Pt (x_sf ξ p v) p := by
  have e0 : x_fp (x_sf ξ p v) p = x_ft ξ p.toNat v := by
    unfold x_fp x_ft
    rw [x_sf_1000 h5, x_sf_1005 h0, x_sf_8, q_us_s, Int.toNat_of_nonneg h0]
  unfold x_Pt
  rw [e0, x_sf_1000 h5, x_sf_1005 h0, x_sf_1003 h0, x_sf_1004 h0, x_sf_tu h5, x_sf_ti h5, x_sf_8, q_us_s, q_us_s, q_us_s]
  refine ⟨hk, hv, fun t g0 g1 => ?_, rfl, rfl, fun i g0 g1 => z_tl_b _ _ _ hS g0 g1⟩
  unfold x_tm
  rw [if_pos ⟨g0, g1⟩]
theorem x_sf_Pq {ξ : m_S} {p v q : Int} (h0 : 0 ≤ p) (h5 : p < 5) (hq0 : 0 ≤ q) (hq5 : q < 5) (hne : q ≠ p) (h : x_Pt ξ q) : x_Pt (x_sf ξ p v) q := by
  have e0 : x_fp (x_sf ξ p v) q = x_fp ξ q := by
    unfold x_fp
    rw [x_sf_1000 h5, x_sf_1005 h0, x_sf_8, q_us_n hne]
  unfold x_Pt
  rw [e0, x_sf_1000 h5, x_sf_1005 h0, x_sf_1003 h0, x_sf_1004 h0, x_sf_8, q_us_n hne, q_us_n hne, q_us_n hne, x_sf_k (k := 26 + q.toNat) (by omega) (by omega) (by omega) (by omega) (by omega) (by omega), x_sf_k (k := 20 + q.toNat) (by omega) (by omega) (by omega) (by omega) (by omega) (by omega)]
  exact h
theorem x_sf_G {ξ : m_S} {p v : Int} (hG : x_G ξ) : x_G (x_sf ξ p v) := by
  unfold x_G
  rw [x_sf_8, x_sf_k (k := 9) (by decide) (by decide) (by decide) (by decide) (by omega) (by omega)]
  exact hG
set_option maxRecDepth 20000 in
theorem tX8_setFlicks (w : q_W) (ξ : m_S) (B P : Nat) (g : Int → Option Nat) (p v : Int) (hp0 : 0 ≤ p) (hp1 : p < ξ 7 0) (h75 : ξ 7 0 ≤ 5) (hg : g p = some (B + p.toNat)) (hB : 64 ≤ B) (hpP : p < P) (hk : 0 ≤ ξ 1000 p ∧ ξ 1000 p ≤ 5) (hv : 1 ≤ v ∧ v ≤ 3) (hG : x_G ξ) : q_D mX8_setFlicks 4 [.ref 7, q_i p, q_i v] (x_w w ξ B P g) none (x_w w (x_sf ξ p v) B P g) := by
  refine q_T.of (lv := [some (.ref 7), some (q_i p), some (q_i v), none]) (by decide) rfl (Nat.le_of_ble_eq_true rfl) ?_
  refine q_aload_n dX8_setFlicks_0 rfl ?_
  refine q_iload_n dX8_setFlicks_1 rfl ?_
  refine q_cV [q_i p] kX8_109_8 rfl (tX8_personAt_w w ξ B P g p hp0 hp1 h75 hg) dX8_setFlicks_2 rfl (by decide) (Nat.le_of_ble_eq_true rfl) rfl ?_
  refine q_astore_n (lv' := [some (.ref 7), some (q_i p), some (q_i v), some (.ref (B + p.toNat))]) dX8_setFlicks_5 (by decide) rfl ?_
  refine q_aload_n dX8_setFlicks_6 rfl ?_
  refine q_ifnullS dX8_setFlicks_7 ?_
  refine q_aload_n dX8_setFlicks_10 rfl ?_
  refine q_iload_n dX8_setFlicks_11 rfl ?_
  refine q_cPv [q_i v] (kPX8_113 _) (x_pOi (p := p) (by omega) (by omega) (by omega)) (tX5_learn w ξ B P g p.toNat (by omega) (by omega) (by omega) v hv hG (by rw [Int.toNat_of_nonneg hp0]; exact hk)) dX8_setFlicks_12 rfl (by decide) (Nat.le_of_ble_eq_true rfl) rfl ?_
  refine q_aload_n dX8_setFlicks_15 rfl ?_
  refine q_get (v := .ref 10) fX8_27_8 rfl rfl dX8_setFlicks_16 ?_
  refine q_get (v := .ref 11) fX8_116_9 rfl rfl dX8_setFlicks_19 ?_
  refine q_iload_n dX8_setFlicks_22 rfl ?_
  refine q_iload_n dX8_setFlicks_23 rfl ?_
  refine q_iast (f := ((x_lr ξ p.toNat v (ξ 8 2)) 11)) (n9 := 5) rfl (by omega) (by omega) dX8_setFlicks_24 ?_
  refine q_Jeq rfl rfl (x_up (f := (q_us ((x_lr ξ p.toNat v (ξ 8 2)) 11) p v)) rfl) ?_
  exact q_vret rfl dX8_setFlicks_25 (⟨rfl, by unfold x_sf; rw [x_lr_k (k := 11) (by decide) (by decide) (by decide) (by omega) (by omega)]⟩)
def x_gk (ξ : m_S) : Nat → m_S
  | 0 => ξ
  | p + 1 => x_sf (x_gk ξ p) p (x_gk ξ p 11 p)
def x_gs (ξ : m_S) (p : Int) : m_S := x_gk ξ p.toNat
theorem x_gs_s (ξ : m_S) {p : Int} (h : 0 ≤ p) : x_gs ξ (p + 1) = x_sf (x_gs ξ p) p (x_gs ξ p 11 p) := by
  unfold x_gs
  rw [show (p + 1).toNat = p.toNat + 1 by omega]
  show x_sf (x_gk ξ p.toNat) (p.toNat : Int) (x_gk ξ p.toNat 11 (p.toNat : Int)) = _
  rw [Int.toNat_of_nonneg h]
theorem x_gk_k {ξ : m_S} {k : Nat} (hk : k < 20 ∨ k = 25 ∨ (30 < k ∧ k < 1003) ∨ 1005 < k) (h11 : k ≠ 11) : ∀ n : Nat, n ≤ 5 → x_gk ξ n k = ξ k
  | 0, _ => rfl
  | n + 1, h => by
    show x_sf (x_gk ξ n) n (x_gk ξ n 11 n) k = ξ k
    rw [x_sf_k h11 (by omega) (by omega) (by omega) (by omega) (by omega)]
    exact x_gk_k hk h11 n (by omega)
theorem x_gk_11 {ξ : m_S} : ∀ n : Nat, x_gk ξ n 11 = ξ 11
  | 0 => rfl
  | n + 1 => by
    show x_sf (x_gk ξ n) n (x_gk ξ n 11 n) 11 = ξ 11
    rw [x_sf_11, x_gk_11 n]
    funext j
    unfold q_us
    split
    · rename_i e; rw [e]
    · rfl
theorem x_gk_G {ξ : m_S} (hG : x_G ξ) : ∀ n : Nat, x_G (x_gk ξ n)
  | 0 => hG
  | n + 1 => x_sf_G (x_gk_G hG n)
theorem x_gk_Pt {ξ : m_S} (hS : 0 ≤ ξ 8 2) : ∀ n : Nat, n ≤ 5 → (∀ p : Int, 0 ≤ p → p < n → (0 ≤ ξ 1000 p ∧ ξ 1000 p ≤ 5) ∧ 1 ≤ ξ 11 p ∧ ξ 11 p ≤ 3) → ∀ p : Int, 0 ≤ p → p < n → x_Pt (x_gk ξ n) p ∧ x_gk ξ n 1005 p = ξ 11 p
  | 0, _, _, p, h0, h1 => by omega
  | n + 1, h, hh, p, h0, h1 => by
    have e8 : x_gk ξ n 8 = ξ 8 := x_gk_k (by omega) (by omega) n (by omega)
    have e1 : x_gk ξ n 1000 = ξ 1000 := x_gk_k (by omega) (by omega) n (by omega)
    have e11 := x_gk_11 (ξ := ξ) n
    have hn := hh n (by omega) (by omega)
    show x_Pt (x_sf (x_gk ξ n) n (x_gk ξ n 11 n)) p ∧ x_sf (x_gk ξ n) n (x_gk ξ n 11 n) 1005 p = ξ 11 p
    rw [x_sf_1005 (by omega)]
    by_cases e : p = n
    · rw [e, q_us_s]
      refine ⟨x_sf_Pt (by omega) (by omega) (by rw [e1]; exact hn.1) (by rw [e11]; exact hn.2) (by rw [e8]; exact hS), by rw [e11]⟩
    · rw [q_us_n e]
      have ih := x_gk_Pt hS n (by omega) (fun p g0 g1 => hh p g0 (by omega)) p h0 (by omega)
      exact ⟨x_sf_Pq (by omega) (by omega) h0 (by omega) e ih.1, ih.2⟩
theorem x_tf_k {ξ : m_S} {a b k : Nat} (h : k ≠ a ∧ k ≠ a + 1 ∧ k ≠ a + 2 ∧ k ≠ a + 3) : x_tf ξ a b k = ξ k := by
  unfold x_tf
  rw [m_un h.2.2.2, m_un h.2.2.1, m_un h.2.1, m_un h.1]
set_option maxRecDepth 20000 in
theorem tX8_goOnFrom (w : q_W) (ξ : m_S) (B P : Nat) (g : Int → Option Nat) (a : Nat) (ha : x_isS a) (ha10 : a ≠ 10) (hPs : x_Ps ξ B P g) (hG : x_G ξ) (hK : ∀ p, 0 ≤ p → p < ξ 7 0 → 0 ≤ ξ 1000 p ∧ ξ 1000 p ≤ 5) (hF : ∀ p, 0 ≤ p → p < ξ 7 0 → 1 ≤ (x_tf ξ 10 a) 11 p ∧ (x_tf ξ 10 a) 11 p ≤ 3) (hD : x_De (x_gs (x_tf ξ 10 a) (ξ 7 0))) : q_D mX8_goOnFrom 5 [.ref 7, .ref a] (x_w w ξ B P g) none (x_w w (x_wg (x_gs (x_tf ξ 10 a) (ξ 7 0))) B P g) := by
  refine q_T.of (lv := [some (.ref 7), some (.ref a), none]) (by decide) rfl (Nat.le_of_ble_eq_true rfl) ?_
  have hPs1 := hPs.1
  have hPs2 := hPs.2.1
  have hPs3 := hPs.2.2.1
  have hWN := hG.1
  have hW := hG.1.1
  have hN := hG.1.2
  have hS := hG.S
  refine q_aload_n dX8_goOnFrom_0 rfl ?_
  refine q_get (v := .ref 10) fX8_27_8 rfl rfl dX8_goOnFrom_1 ?_
  refine q_aload_n dX8_goOnFrom_4 rfl ?_
  refine q_cVv [.ref a] kX8_117_9 rfl (tX9_takeFrom w ξ B P g 10 a (Or.inl rfl) ha (Ne.symm ha10)) dX8_goOnFrom_5 rfl (by decide) (Nat.le_of_ble_eq_true rfl) rfl ?_
  refine q_iconst dX8_goOnFrom_8 ?_
  refine q_istore_n (lv' := [some (.ref 7), some (.ref a), some (q_i 0)]) dX8_goOnFrom_9 (by decide) rfl ?_
  have L10 : ∀ (m9 : Nat) (p : Int) (hp0 : 0 ≤ p) (hp1 : p ≤ ξ 7 0) (hm9 : ξ 7 0 - p < (m9 : Int)), q_J mX8_goOnFrom 5 (fun v' w' => v' = none ∧ w' = (x_w w (x_wg (x_gs (x_tf ξ 10 a) (ξ 7 0))) B P g)) 0 0 10 [some (.ref 7), some (.ref a), some (q_i p)] [] (x_w w (x_gs (x_tf ξ 10 a) p) B P g) := by
    intro m9
    induction m9 with
    | zero => intro p hp0 hp1 hm9; exact absurd hm9 (by omega)
    | succ m9 ih10 =>
      intro p hp0 hp1 hm9
      have ha9 : a = 52 ∨ a = 56 ∨ a = 60 := by unfold x_isS at ha; omega
      have eg7 : x_gs (x_tf ξ 10 a) p 7 = ξ 7 := (x_gk_k (by omega) (by omega) p.toNat (by omega)).trans (x_tf_k (by omega))
      refine q_iload_n dX8_goOnFrom_10 rfl ?_
      refine q_aload_n dX8_goOnFrom_11 rfl ?_
      refine q_get (v := q_i ((x_gs (x_tf ξ 10 a) p) 7 0)) fX8_9_8 rfl rfl dX8_goOnFrom_12 ?_
      rw [eg7]
      refine q_icmp_ge (tgt := 38) dX8_goOnFrom_15 (by decide) ⟨by omega, by omega⟩ ⟨by omega, by omega⟩ (fun h15 => ?_) (fun h15 => ?_)
      · skip
        have hpe : p = ξ 7 0 := by omega
        rw [hpe] at eg7 ⊢
        have eg8 : (x_gs (x_tf ξ 10 a) (ξ 7 0)) 8 = ξ 8 := (x_gk_k (by omega) (by omega) _ (by omega)).trans (x_tf_k (by omega))
        refine q_aload_n dX8_goOnFrom_38 rfl ?_
        refine q_cVv [] kX8_88_8 rfl (tX8_weighAgain w (x_gs (x_tf ξ 10 a) (ξ 7 0)) B P g (by refine ⟨hPs1, ?_, hPs3, hPs.2.2.2⟩; rw [eg7]; exact hPs2) (fun q h0 h1 => (x_gk_Pt (ξ := (x_tf ξ 10 a)) (by rw [x_tf_k (by omega)]; omega) (ξ 7 0).toNat (by omega) (fun q g0 g1 => ⟨by rw [x_tf_k (by omega)]; exact hK q g0 (by omega), hF q g0 (by omega)⟩) q h0 (by rw [eg7] at h1; omega)).1) (fun _ => x_gk_G (by unfold x_G; rw [x_tf_k (by omega), x_tf_k (by omega)]; exact hG) _) (by rw [eg8]; omega) hD) dX8_goOnFrom_39 rfl (by decide) (Nat.le_of_ble_eq_true rfl) rfl ?_
        exact q_vret rfl dX8_goOnFrom_42 (⟨rfl, rfl⟩)
      · skip
        have eg1000 : x_gs (x_tf ξ 10 a) p 1000 = ξ 1000 := (x_gk_k (by omega) (by omega) p.toNat (by omega)).trans (x_tf_k (by omega))
        have eg11 : x_gs (x_tf ξ 10 a) p 11 = (x_tf ξ 10 a) 11 := x_gk_11 _
        have hGp : x_G (x_gs (x_tf ξ 10 a) p) := x_gk_G (by unfold x_G; rw [x_tf_k (by omega), x_tf_k (by omega)]; exact hG) _
        refine q_aload_n dX8_goOnFrom_18 rfl ?_
        refine q_iload_n dX8_goOnFrom_19 rfl ?_
        refine q_aload_n dX8_goOnFrom_20 rfl ?_
        refine q_get (v := .ref 10) fX8_27_8 rfl rfl dX8_goOnFrom_21 ?_
        refine q_get (v := .ref 11) fX8_116_9 rfl rfl dX8_goOnFrom_24 ?_
        refine q_iload_n dX8_goOnFrom_27 rfl ?_
        refine q_iald (f := ((x_gs (x_tf ξ 10 a) p) 11)) (n9 := 5) rfl (by omega) (by omega) dX8_goOnFrom_28 ?_
        refine q_cVv [q_i p, q_i (((x_gs (x_tf ξ 10 a) p) 11) p)] kX8_82_8 rfl (tX8_setFlicks w (x_gs (x_tf ξ 10 a) p) B P g p (((x_gs (x_tf ξ 10 a) p) 11) p) hp0 (by rw [eg7]; omega) (by rw [eg7]; omega) (hPs.2.2.2 p hp0 (by omega)) (by omega) (by omega) (by rw [eg1000]; exact hK p hp0 (by omega)) (by rw [eg11]; exact hF p hp0 (by omega)) hGp) dX8_goOnFrom_29 rfl (by decide) (Nat.le_of_ble_eq_true rfl) rfl ?_
        refine q_iinc (lv' := [some (.ref 7), some (.ref a), some (q_i (p + 1))]) dX8_goOnFrom_32 rfl (by decide) rfl ?_
        refine q_goto (tgt := 10) dX8_goOnFrom_35 (by decide) ?_
        exact q_Jle (q_le_s (rfl) (q_le_s (rfl) (q_le_s (rfl) (q_le_e _)))) (rfl) (by rw [x_gs_s _ hp0]) (ih10 (p + 1) (by omega) (by omega) (by omega))
  exact q_Jle (q_le_s (rfl) (q_le_s (rfl) (q_le_s (rfl) (q_le_e _)))) (rfl) (rfl) (L10 ((ξ 7 0 : Int).toNat + 1) 0 (by omega) (by omega) (by omega))
