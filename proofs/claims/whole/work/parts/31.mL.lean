/-! the reference: its digest -/
def z_h (f : Int → Int) (h : Int) : Nat → Int
  | 0 => h
  | k + 1 => 31 * z_h f h k + f k
def z_hash (f : Int → Int) (h n : Int) : Int := z_h f h n.toNat
theorem z_hash_0 (f : Int → Int) (h : Int) : z_hash f h 0 = h := rfl
theorem z_hash_s (f : Int → Int) (h : Int) {n : Int} (hn : 0 ≤ n) : z_hash f h (n + 1) = 31 * z_hash f h n + f n := by
  unfold z_hash
  rw [show (n + 1).toNat = n.toNat + 1 by omega]
  show 31 * z_h f h n.toNat + f (n.toNat : Int) = _
  rw [show (n.toNat : Int) = n by omega]
theorem z_hash_n (f : Int → Int) (h : Int) {n : Int} (hn : n ≤ 0) : z_hash f h n = h := by
  unfold z_hash
  rw [show n.toNat = 0 by omega]
  rfl
def z_hr (sz : Int → Int) (it : Int → Int → Int) (h : Int) : Nat → Int
  | 0 => h
  | k + 1 => z_hash (it k) (31 * z_hr sz it h k + sz k) (sz k)
def z_hrows (sz : Int → Int) (it : Int → Int → Int) (h n : Int) : Int := z_hr sz it h n.toNat
theorem z_hrows_s (sz : Int → Int) (it : Int → Int → Int) (h : Int) {n : Int} (hn : 0 ≤ n) : z_hrows sz it h (n + 1) = z_hash (it n) (31 * z_hrows sz it h n + sz n) (sz n) := by
  unfold z_hrows
  rw [show (n + 1).toNat = n.toNat + 1 by omega]
  show z_hash (it (n.toNat : Int)) (31 * z_hr sz it h n.toNat + sz (n.toNat : Int)) (sz (n.toNat : Int)) = _
  rw [show (n.toNat : Int) = n by omega]
def m_d1 (μ : m_S) : Int := z_hash (m_cnt μ) 17 10
def m_d2 (μ : m_S) : Int := z_hash (μ 6) (m_d1 μ) (μ 3 0)
def m_d3 (μ : m_S) : Int := z_hash (fun k => m_told μ (k.tdiv 4) (k.tmod 4)) (m_d2 μ) (4 * μ 4 0)
def m_d4 (μ : m_S) : Int := z_hash (fun k => μ 0 (38 * (1 + k))) (m_d3 μ) 3
def m_d5 (μ : m_S) : Int := z_hrows (μ 7) (fun r j => μ 8 (40 * r + j)) (m_d4 μ) 6
def m_d6 (μ : m_S) : Int := z_hrows (μ 9) (fun r j => μ 10 (60 * r + j)) (m_d5 μ) 4
theorem z_ind_r (c : Int → Prop) [∀ j, Decidable (c j)] {n : Int} (h : 0 ≤ n) : 0 ≤ z_sum (fun j => if c j then 1 else 0) n ∧ z_sum (fun j => if c j then 1 else 0) n ≤ n := by
  have h1 := z_sum_b (fun j => if c j then 1 else 0) 0 1 h (fun j _ _ => by (try dsimp only); split <;> omega)
  omega
theorem m_cnt_r {μ : m_S} (hH : m_Sh μ) (hD : m_De μ) (t : Int) : 0 ≤ m_cnt μ t ∧ m_cnt μ t ≤ 216 := by
  have hb := hH.b
  have hd := hD.1
  have h1 := z_ind_r (fun c => 0 < μ 6 c) (n := μ 3 0) (by omega)
  have h2 := z_ind_r (fun p => μ 5 p = 2 ∨ μ 5 p = 5) (n := μ 4 0) (by omega)
  have h3 := z_sum_b (fun k => if μ 7 k < 0 then 0 else 1) 0 1 (n := 6) (by decide) (fun j _ _ => by (try dsimp only); split <;> omega)
  have h4 := z_ind_r (fun k => k < 4 ∧ 0 ≤ μ 9 k) (n := 6) (by decide)
  have h5 := z_ind_r (fun k => k < 3 ∧ 0 ≤ μ 0 (38 * (1 + k))) (n := 6) (by decide)
  unfold m_cnt m_there
  (repeat' split) <;> omega
theorem m_told_r {μ : m_S} (hG : m_G μ) (hD : m_De μ) {p : Int} (h0 : 0 ≤ p) (h1 : p < μ 4 0) (t : Int) : 0 ≤ m_told μ p t ∧ m_told μ p t ≤ 216 := by
  have hq := hG.2.2.2.2 p h0 h1
  have hi := m_inall_r hG h0 h1
  have hd := hD.1
  have h1 := z_ind_r (fun d => μ 0 (6 + d) = p) (n := μ 0 0) (by omega)
  unfold m_inall at hi
  unfold m_told
  (repeat' split) <;> omega
theorem dz_e {f : Int → Int} {h k n : Int} (hk0 : 0 ≤ k) (hk2 : k ≤ n ∨ k = 0) (hn : n ≤ k) : z_hash f h n = z_hash f h k := by
  by_cases e : k = n
  · rw [e]
  · rw [z_hash_n f h (show n ≤ 0 by omega), z_hash_n f h (show k ≤ 0 by omega)]
set_option maxRecDepth 20000 in
theorem tX12_digest (w : q_W) (μ : m_S) (hH : m_Sh μ) (hV : m_V μ) (hI : m_I μ) (hK : m_Ke μ) (hD : m_De μ) : q_D mX12_digest 3 [.ref 64] (m_w w μ) (some (q_l (m_d6 μ))) (m_w w μ) := by
  refine q_T.of (lv := [some (.ref 64), none, none, none, none]) (by decide) rfl (Nat.le_of_ble_eq_true rfl) ?_
  have hb := hH.b
  refine q_ldc2 17 wd_1473 dX12_digest_0 ?_
  refine q_lstore_n (lv' := [some (.ref 64), some (q_l 17), none, none, none]) dX12_digest_3 (by decide) rfl ?_
  refine q_iconst dX12_digest_4 ?_
  refine q_istore_n (lv' := [some (.ref 64), some (q_l 17), none, some (q_i 0), none]) dX12_digest_5 (by decide) rfl ?_
  have L6 : ∀ (m9 : Nat) (k : Int) (hk0 : 0 ≤ k) (hk1 : k ≤ 10) (hm9 : 10 - k < (m9 : Int)), q_J mX12_digest 3 (fun v' w' => v' = (some (q_l (m_d6 μ))) ∧ w' = (m_w w μ)) 0 0 6 [some (.ref 64), some (q_l (z_hash (m_cnt μ) 17 k)), none, some (q_i k), none] [] (m_w w μ) := by
    intro m9
    induction m9 with
    | zero => intro k hk0 hk1 hm9; exact absurd hm9 (by omega)
    | succ m9 ih6 =>
      intro k hk0 hk1 hm9
      refine q_iload_n dX12_digest_6 rfl ?_
      refine q_bipush dX12_digest_7 ?_
      refine q_icmp_ge (tgt := 31) dX12_digest_9 (by decide) ⟨by omega, by omega⟩ ⟨by decide, by decide⟩ (fun h9 => ?_) (fun h9 => ?_)
      · skip
        have hke : k = 10 := by omega
        subst hke
        refine q_Jle (lv' := [some (.ref 64), some (q_l (m_d1 μ)), none, none, none]) (q_le_s rfl (q_le_s rfl (q_le_n (q_le_n (q_le_n (q_le_e _)))))) rfl rfl ?_
        clear hk0 hk1 hm9
        refine q_iconst dX12_digest_31 ?_
        refine q_istore_n (lv' := [some (.ref 64), some (q_l (m_d1 μ)), none, some (q_i 0), none]) dX12_digest_32 (by decide) rfl ?_
        have L33 : ∀ (m9 : Nat) (k : Int) (hk0 : 0 ≤ k) (hk1 : k ≤ μ 3 0) (hm9 : μ 3 0 - k < (m9 : Int)), q_J mX12_digest 3 (fun v' w' => v' = (some (q_l (m_d6 μ))) ∧ w' = (m_w w μ)) 0 0 33 [some (.ref 64), some (q_l (z_hash (μ 6) (m_d1 μ) k)), none, some (q_i k), none] [] (m_w w μ) := by
          intro m9
          induction m9 with
          | zero => intro k hk0 hk1 hm9; exact absurd hm9 (by omega)
          | succ m9 ih33 =>
            intro k hk0 hk1 hm9
            refine q_iload_n dX12_digest_33 rfl ?_
            refine q_aload_n dX12_digest_34 rfl ?_
            refine q_get (v := q_i (μ 3 0)) fX12_139_12 rfl rfl dX12_digest_35 ?_
            refine q_icmp_ge (tgt := 60) dX12_digest_38 (by decide) ⟨by omega, by omega⟩ ⟨by omega, by omega⟩ (fun h38 => ?_) (fun h38 => ?_)
            · skip
              have hke : k = μ 3 0 := by omega
              subst hke
              refine q_Jle (lv' := [some (.ref 64), some (q_l (m_d2 μ)), none, none, none]) (q_le_s rfl (q_le_s rfl (q_le_n (q_le_n (q_le_n (q_le_e _)))))) rfl rfl ?_
              clear hk0 hk1 hm9
              refine q_iconst dX12_digest_60 ?_
              refine q_istore_n (lv' := [some (.ref 64), some (q_l (m_d2 μ)), none, some (q_i 0), none]) dX12_digest_61 (by decide) rfl ?_
              have L62 : ∀ (m9 : Nat) (k : Int) (hk0 : 0 ≤ k) (hk1 : k ≤ 4 * μ 4 0) (hm9 : 4 * μ 4 0 - k < (m9 : Int)), q_J mX12_digest 3 (fun v' w' => v' = (some (q_l (m_d6 μ))) ∧ w' = (m_w w μ)) 0 0 62 [some (.ref 64), some (q_l (z_hash (fun k => m_told μ (k.tdiv 4) (k.tmod 4)) (m_d2 μ) k)), none, some (q_i k), none] [] (m_w w μ) := by
                intro m9
                induction m9 with
                | zero => intro k hk0 hk1 hm9; exact absurd hm9 (by omega)
                | succ m9 ih62 =>
                  intro k hk0 hk1 hm9
                  refine q_iload_n dX12_digest_62 rfl ?_
                  refine q_iconst dX12_digest_63 ?_
                  refine q_aload_n dX12_digest_64 rfl ?_
                  refine q_get (v := q_i (μ 4 0)) fX12_142_12 rfl rfl dX12_digest_65 ?_
                  refine q_imul dX12_digest_68 ?_
                  refine q_icmp_ge (tgt := 96) dX12_digest_69 (by decide) ⟨by omega, by omega⟩ ⟨by omega, by omega⟩ (fun h69 => ?_) (fun h69 => ?_)
                  · skip
                    have hke : k = 4 * μ 4 0 := by omega
                    subst hke
                    refine q_Jle (lv' := [some (.ref 64), some (q_l (m_d3 μ)), none, none, none]) (q_le_s rfl (q_le_s rfl (q_le_n (q_le_n (q_le_n (q_le_e _)))))) rfl rfl ?_
                    clear hk0 hk1 hm9
                    refine q_iconst dX12_digest_96 ?_
                    refine q_istore_n (lv' := [some (.ref 64), some (q_l (m_d3 μ)), none, some (q_i 1), none]) dX12_digest_97 (by decide) rfl ?_
                    have L98 : ∀ (m9 : Nat) (k : Int) (hk0 : 0 ≤ k) (hk1 : k ≤ 3) (hm9 : 3 - k < (m9 : Int)), q_J mX12_digest 3 (fun v' w' => v' = (some (q_l (m_d6 μ))) ∧ w' = (m_w w μ)) 0 0 98 [some (.ref 64), some (q_l (z_hash (fun k => μ 0 (38 * (1 + k))) (m_d3 μ) k)), none, some (q_i (1 + k)), none] [] (m_w w μ) := by
                      intro m9
                      induction m9 with
                      | zero => intro k hk0 hk1 hm9; exact absurd hm9 (by omega)
                      | succ m9 ih98 =>
                        intro k hk0 hk1 hm9
                        refine q_iload_n dX12_digest_98 rfl ?_
                        refine q_iconst dX12_digest_99 ?_
                        refine q_icmp_ge (tgt := 128) dX12_digest_100 (by decide) ⟨by omega, by omega⟩ ⟨by decide, by decide⟩ (fun h100 => ?_) (fun h100 => ?_)
                        · skip
                          have hke : k = 3 := by omega
                          subst hke
                          refine q_Jle (lv' := [some (.ref 64), some (q_l (m_d4 μ)), none, none, none]) (q_le_s rfl (q_le_s rfl (q_le_n (q_le_n (q_le_n (q_le_e _)))))) rfl rfl ?_
                          clear hk0 hk1 hm9
                          refine q_iconst dX12_digest_128 ?_
                          refine q_istore_n (lv' := [some (.ref 64), some (q_l (m_d4 μ)), none, some (q_i 0), none]) dX12_digest_129 (by decide) rfl ?_
                          have L130 : ∀ (m9 : Nat) (r : Int) (hr0 : 0 ≤ r) (hr1 : r ≤ 6) (hm9 : 6 - r < (m9 : Int)), q_J mX12_digest 3 (fun v' w' => v' = (some (q_l (m_d6 μ))) ∧ w' = (m_w w μ)) 0 0 130 [some (.ref 64), some (q_l (z_hrows (μ 7) (fun r j => μ 8 (40 * r + j)) (m_d4 μ) r)), none, some (q_i r), none] [] (m_w w μ) := by
                            intro m9
                            induction m9 with
                            | zero => intro r hr0 hr1 hm9; exact absurd hm9 (by omega)
                            | succ m9 ih130 =>
                              intro r hr0 hr1 hm9
                              refine q_iload_n dX12_digest_130 rfl ?_
                              refine q_bipush dX12_digest_131 ?_
                              refine q_icmp_ge (tgt := 196) dX12_digest_133 (by decide) ⟨by omega, by omega⟩ ⟨by decide, by decide⟩ (fun h133 => ?_) (fun h133 => ?_)
                              · skip
                                have hre : r = 6 := by omega
                                subst hre
                                refine q_Jle (lv' := [some (.ref 64), some (q_l (m_d5 μ)), none, none, none]) (q_le_s rfl (q_le_s rfl (q_le_n (q_le_n (q_le_n (q_le_e _)))))) rfl rfl ?_
                                clear hr0 hr1 hm9
                                refine q_iconst dX12_digest_196 ?_
                                refine q_istore_n (lv' := [some (.ref 64), some (q_l (m_d5 μ)), none, some (q_i 0), none]) dX12_digest_197 (by decide) rfl ?_
                                have L198 : ∀ (m9 : Nat) (r : Int) (hr0 : 0 ≤ r) (hr1 : r ≤ 4) (hm9 : 4 - r < (m9 : Int)), q_J mX12_digest 3 (fun v' w' => v' = (some (q_l (m_d6 μ))) ∧ w' = (m_w w μ)) 0 0 198 [some (.ref 64), some (q_l (z_hrows (μ 9) (fun r j => μ 10 (60 * r + j)) (m_d5 μ) r)), none, some (q_i r), none] [] (m_w w μ) := by
                                  intro m9
                                  induction m9 with
                                  | zero => intro r hr0 hr1 hm9; exact absurd hm9 (by omega)
                                  | succ m9 ih198 =>
                                    intro r hr0 hr1 hm9
                                    refine q_iload_n dX12_digest_198 rfl ?_
                                    refine q_iconst dX12_digest_199 ?_
                                    refine q_icmp_ge (tgt := 263) dX12_digest_200 (by decide) ⟨by omega, by omega⟩ ⟨by decide, by decide⟩ (fun h200 => ?_) (fun h200 => ?_)
                                    · skip
                                      have hre : r = 4 := by omega
                                      subst hre
                                      refine q_Jle (lv' := [some (.ref 64), some (q_l (m_d6 μ)), none, none, none]) (q_le_s rfl (q_le_s rfl (q_le_n (q_le_n (q_le_n (q_le_e _)))))) rfl rfl ?_
                                      clear hr0 hr1 hm9
                                      refine q_lload_n dX12_digest_263 rfl ?_
                                      exact q_lret rfl dX12_digest_264 (⟨rfl, rfl⟩)
                                    · skip
                                      have hln := hI.ln r hr0 (by omega)
                                      refine q_ldc2 31 wd_1474 dX12_digest_203 ?_
                                      refine q_lload_n dX12_digest_206 rfl ?_
                                      refine q_lmul dX12_digest_207 ?_
                                      refine q_aload_n dX12_digest_208 rfl ?_
                                      refine q_get (v := .ref 70) fX12_26_12 rfl rfl dX12_digest_209 ?_
                                      refine q_iload_n dX12_digest_212 rfl ?_
                                      refine q_iald (f := (μ 9)) (n9 := 4) rfl (by omega) (by omega) dX12_digest_213 ?_
                                      refine q_i2lr dX12_digest_214 ⟨by omega, by omega⟩ ?_
                                      refine q_ladd dX12_digest_215 ?_
                                      refine q_lstore_n (lv' := [some (.ref 64), some (q_l ((31 * (z_hrows (μ 9) (fun r j => μ 10 (60 * r + j)) (m_d5 μ) r)) + ((μ 9) r))), none, some (q_i r), none]) dX12_digest_216 (by decide) rfl ?_
                                      refine q_iconst dX12_digest_217 ?_
                                      refine q_istore (lv' := [some (.ref 64), some (q_l ((31 * (z_hrows (μ 9) (fun r j => μ 10 (60 * r + j)) (m_d5 μ) r)) + ((μ 9) r))), none, some (q_i r), some (q_i 0)]) dX12_digest_218 (by decide) rfl ?_
                                      have L220 : ∀ (m9 : Nat) (k : Int) (hk0 : 0 ≤ k) (hk2 : k ≤ (μ 9) r ∨ k = 0) (hm9 : ((μ 9) r + 1) - k < (m9 : Int)), q_J mX12_digest 3 (fun v' w' => v' = (some (q_l (m_d6 μ))) ∧ w' = (m_w w μ)) 0 0 220 [some (.ref 64), some (q_l (z_hash ((fun r j => μ 10 (60 * r + j)) r) (31 * z_hrows (μ 9) (fun r j => μ 10 (60 * r + j)) (m_d5 μ) r + (μ 9) r) k)), none, some (q_i r), some (q_i k)] [] (m_w w μ) := by
                                        intro m9
                                        induction m9 with
                                        | zero => intro k hk0 hk2 hm9; exact absurd hm9 (by omega)
                                        | succ m9 ih220 =>
                                          intro k hk0 hk2 hm9
                                          refine q_iload dX12_digest_220 rfl ?_
                                          refine q_aload_n dX12_digest_222 rfl ?_
                                          refine q_get (v := .ref 70) fX12_26_12 rfl rfl dX12_digest_223 ?_
                                          refine q_iload_n dX12_digest_226 rfl ?_
                                          refine q_iald (f := (μ 9)) (n9 := 4) rfl (by omega) (by omega) dX12_digest_227 ?_
                                          refine q_icmp_ge (tgt := 257) dX12_digest_228 (by decide) ⟨by omega, by omega⟩ ⟨by omega, by omega⟩ (fun h228 => ?_) (fun h228 => ?_)
                                          · skip
                                            refine q_iinc (lv' := [some (.ref 64), some (q_l (z_hash ((fun r j => μ 10 (60 * r + j)) r) (31 * z_hrows (μ 9) (fun r j => μ 10 (60 * r + j)) (m_d5 μ) r + (μ 9) r) k)), none, some (q_i (r + 1)), some (q_i k)]) dX12_digest_257 rfl (by decide) rfl ?_
                                            refine q_goto (tgt := 198) dX12_digest_260 (by decide) ?_
                                            exact q_Jle (q_le_s (rfl) (q_le_s (by rw [z_hrows_s _ _ _ hr0, dz_e hk0 hk2 (by omega)]) (q_le_n (q_le_s (rfl) (q_le_n (q_le_e _)))))) (rfl) (rfl) (ih198 (r + 1) (by omega) (by omega) (by omega))
                                          · skip
                                            refine q_ldc2 31 wd_1474 dX12_digest_231 ?_
                                            refine q_lload_n dX12_digest_234 rfl ?_
                                            refine q_lmul dX12_digest_235 ?_
                                            refine q_aload_n dX12_digest_236 rfl ?_
                                            refine q_get (v := .ref 71) fX12_29_12 rfl rfl dX12_digest_237 ?_
                                            refine q_bipush dX12_digest_240 ?_
                                            refine q_iload_n dX12_digest_242 rfl ?_
                                            refine q_imul dX12_digest_243 ?_
                                            refine q_iload dX12_digest_244 rfl ?_
                                            refine q_iadd dX12_digest_246 ?_
                                            refine q_iald (f := (μ 10)) (n9 := 240) rfl (by omega) (by omega) dX12_digest_247 ?_
                                            refine q_i2lr dX12_digest_248 ⟨by have := hI.by8 (60 * r + k); omega, by have := hI.by8 (60 * r + k); omega⟩ ?_
                                            refine q_ladd dX12_digest_249 ?_
                                            refine q_lstore_n (lv' := [some (.ref 64), some (q_l ((31 * (z_hash ((fun r j => μ 10 (60 * r + j)) r) (31 * z_hrows (μ 9) (fun r j => μ 10 (60 * r + j)) (m_d5 μ) r + (μ 9) r) k)) + ((μ 10) ((60 * r) + k)))), none, some (q_i r), some (q_i k)]) dX12_digest_250 (by decide) rfl ?_
                                            refine q_iinc (lv' := [some (.ref 64), some (q_l ((31 * (z_hash ((fun r j => μ 10 (60 * r + j)) r) (31 * z_hrows (μ 9) (fun r j => μ 10 (60 * r + j)) (m_d5 μ) r + (μ 9) r) k)) + ((μ 10) ((60 * r) + k)))), none, some (q_i r), some (q_i (k + 1))]) dX12_digest_251 rfl (by decide) rfl ?_
                                            refine q_goto (tgt := 220) dX12_digest_254 (by decide) ?_
                                            exact q_Jle (q_le_s (rfl) (q_le_s (by rw [z_hash_s _ _ hk0]) (q_le_n (q_le_s (rfl) (q_le_s (rfl) (q_le_e _)))))) (rfl) (rfl) (ih220 (k + 1) (by omega) (by omega) (by omega))
                                      exact q_Jle (q_le_s (rfl) (q_le_s (rfl) (q_le_n (q_le_s (rfl) (q_le_s (rfl) (q_le_e _)))))) (rfl) (rfl) (L220 (((μ 9) r + 1 : Int).toNat + 1) 0 (by omega) (by omega) (by omega))
                                exact q_Jle (q_le_s (rfl) (q_le_s (rfl) (q_le_n (q_le_s (rfl) (q_le_n (q_le_e _)))))) (rfl) (rfl) (L198 ((4 : Int).toNat + 1) 0 (by omega) (by omega) (by omega))
                              · skip
                                have hsz := hI.sz r hr0 (by omega)
                                refine q_ldc2 31 wd_1474 dX12_digest_136 ?_
                                refine q_lload_n dX12_digest_139 rfl ?_
                                refine q_lmul dX12_digest_140 ?_
                                refine q_aload_n dX12_digest_141 rfl ?_
                                refine q_get (v := .ref 68) fX12_20_12 rfl rfl dX12_digest_142 ?_
                                refine q_iload_n dX12_digest_145 rfl ?_
                                refine q_iald (f := (μ 7)) (n9 := 6) rfl (by omega) (by omega) dX12_digest_146 ?_
                                refine q_i2lr dX12_digest_147 ⟨by omega, by omega⟩ ?_
                                refine q_ladd dX12_digest_148 ?_
                                refine q_lstore_n (lv' := [some (.ref 64), some (q_l ((31 * (z_hrows (μ 7) (fun r j => μ 8 (40 * r + j)) (m_d4 μ) r)) + ((μ 7) r))), none, some (q_i r), none]) dX12_digest_149 (by decide) rfl ?_
                                refine q_iconst dX12_digest_150 ?_
                                refine q_istore (lv' := [some (.ref 64), some (q_l ((31 * (z_hrows (μ 7) (fun r j => μ 8 (40 * r + j)) (m_d4 μ) r)) + ((μ 7) r))), none, some (q_i r), some (q_i 0)]) dX12_digest_151 (by decide) rfl ?_
                                have L153 : ∀ (m9 : Nat) (k : Int) (hk0 : 0 ≤ k) (hk2 : k ≤ (μ 7) r ∨ k = 0) (hm9 : ((μ 7) r + 1) - k < (m9 : Int)), q_J mX12_digest 3 (fun v' w' => v' = (some (q_l (m_d6 μ))) ∧ w' = (m_w w μ)) 0 0 153 [some (.ref 64), some (q_l (z_hash ((fun r j => μ 8 (40 * r + j)) r) (31 * z_hrows (μ 7) (fun r j => μ 8 (40 * r + j)) (m_d4 μ) r + (μ 7) r) k)), none, some (q_i r), some (q_i k)] [] (m_w w μ) := by
                                  intro m9
                                  induction m9 with
                                  | zero => intro k hk0 hk2 hm9; exact absurd hm9 (by omega)
                                  | succ m9 ih153 =>
                                    intro k hk0 hk2 hm9
                                    refine q_iload dX12_digest_153 rfl ?_
                                    refine q_aload_n dX12_digest_155 rfl ?_
                                    refine q_get (v := .ref 68) fX12_20_12 rfl rfl dX12_digest_156 ?_
                                    refine q_iload_n dX12_digest_159 rfl ?_
                                    refine q_iald (f := (μ 7)) (n9 := 6) rfl (by omega) (by omega) dX12_digest_160 ?_
                                    refine q_icmp_ge (tgt := 190) dX12_digest_161 (by decide) ⟨by omega, by omega⟩ ⟨by omega, by omega⟩ (fun h161 => ?_) (fun h161 => ?_)
                                    · skip
                                      refine q_iinc (lv' := [some (.ref 64), some (q_l (z_hash ((fun r j => μ 8 (40 * r + j)) r) (31 * z_hrows (μ 7) (fun r j => μ 8 (40 * r + j)) (m_d4 μ) r + (μ 7) r) k)), none, some (q_i (r + 1)), some (q_i k)]) dX12_digest_190 rfl (by decide) rfl ?_
                                      refine q_goto (tgt := 130) dX12_digest_193 (by decide) ?_
                                      exact q_Jle (q_le_s (rfl) (q_le_s (by rw [z_hrows_s _ _ _ hr0, dz_e hk0 hk2 (by omega)]) (q_le_n (q_le_s (rfl) (q_le_n (q_le_e _)))))) (rfl) (rfl) (ih130 (r + 1) (by omega) (by omega) (by omega))
                                    · skip
                                      refine q_ldc2 31 wd_1474 dX12_digest_164 ?_
                                      refine q_lload_n dX12_digest_167 rfl ?_
                                      refine q_lmul dX12_digest_168 ?_
                                      refine q_aload_n dX12_digest_169 rfl ?_
                                      refine q_get (v := .ref 69) fX12_23_12 rfl rfl dX12_digest_170 ?_
                                      refine q_bipush dX12_digest_173 ?_
                                      refine q_iload_n dX12_digest_175 rfl ?_
                                      refine q_imul dX12_digest_176 ?_
                                      refine q_iload dX12_digest_177 rfl ?_
                                      refine q_iadd dX12_digest_179 ?_
                                      refine q_iald (f := (μ 8)) (n9 := 240) rfl (by omega) (by omega) dX12_digest_180 ?_
                                      refine q_i2lr dX12_digest_181 (hI.it _) ?_
                                      refine q_ladd dX12_digest_182 ?_
                                      refine q_lstore_n (lv' := [some (.ref 64), some (q_l ((31 * (z_hash ((fun r j => μ 8 (40 * r + j)) r) (31 * z_hrows (μ 7) (fun r j => μ 8 (40 * r + j)) (m_d4 μ) r + (μ 7) r) k)) + ((μ 8) ((40 * r) + k)))), none, some (q_i r), some (q_i k)]) dX12_digest_183 (by decide) rfl ?_
                                      refine q_iinc (lv' := [some (.ref 64), some (q_l ((31 * (z_hash ((fun r j => μ 8 (40 * r + j)) r) (31 * z_hrows (μ 7) (fun r j => μ 8 (40 * r + j)) (m_d4 μ) r + (μ 7) r) k)) + ((μ 8) ((40 * r) + k)))), none, some (q_i r), some (q_i (k + 1))]) dX12_digest_184 rfl (by decide) rfl ?_
                                      refine q_goto (tgt := 153) dX12_digest_187 (by decide) ?_
                                      exact q_Jle (q_le_s (rfl) (q_le_s (by rw [z_hash_s _ _ hk0]) (q_le_n (q_le_s (rfl) (q_le_s (rfl) (q_le_e _)))))) (rfl) (rfl) (ih153 (k + 1) (by omega) (by omega) (by omega))
                                exact q_Jle (q_le_s (rfl) (q_le_s (rfl) (q_le_n (q_le_s (rfl) (q_le_s (rfl) (q_le_e _)))))) (rfl) (rfl) (L153 (((μ 7) r + 1 : Int).toNat + 1) 0 (by omega) (by omega) (by omega))
                          exact q_Jle (q_le_s (rfl) (q_le_s (rfl) (q_le_n (q_le_s (rfl) (q_le_n (q_le_e _)))))) (rfl) (rfl) (L130 ((6 : Int).toNat + 1) 0 (by omega) (by omega) (by omega))
                        · skip
                          have hkk := hK k hk0 (by omega)
                          refine q_ldc2 31 wd_1474 dX12_digest_103 ?_
                          refine q_lload_n dX12_digest_106 rfl ?_
                          refine q_lmul dX12_digest_107 ?_
                          refine q_aload_n dX12_digest_108 rfl ?_
                          refine q_get (v := .ref 65) fX12_7_12 rfl rfl dX12_digest_109 ?_
                          refine q_bipush dX12_digest_112 ?_
                          refine q_iload_n dX12_digest_114 rfl ?_
                          refine q_imul dX12_digest_115 ?_
                          refine q_iconst dX12_digest_116 ?_
                          refine q_iadd dX12_digest_117 ?_
                          refine q_iald (f := (μ 0)) (n9 := 152) rfl (by omega) (by omega) dX12_digest_118 ?_
                          rw [Int.add_zero]
                          refine q_i2lr dX12_digest_119 (m_ker hkk) ?_
                          refine q_ladd dX12_digest_120 ?_
                          refine q_lstore_n (lv' := [some (.ref 64), some (q_l ((31 * (z_hash (fun k => μ 0 (38 * (1 + k))) (m_d3 μ) k)) + ((μ 0) (38 * (1 + k))))), none, some (q_i (1 + k)), none]) dX12_digest_121 (by decide) rfl ?_
                          refine q_iinc (lv' := [some (.ref 64), some (q_l ((31 * (z_hash (fun k => μ 0 (38 * (1 + k))) (m_d3 μ) k)) + ((μ 0) (38 * (1 + k))))), none, some (q_i ((1 + k) + 1)), none]) dX12_digest_122 rfl (by decide) rfl ?_
                          refine q_goto (tgt := 98) dX12_digest_125 (by decide) ?_
                          exact q_Jle (q_le_s (rfl) (q_le_s (by rw [z_hash_s _ _ hk0]) (q_le_n (q_le_s (by rw [Int.add_assoc]) (q_le_n (q_le_e _)))))) (rfl) (rfl) (ih98 (k + 1) (by omega) (by omega) (by omega))
                    exact q_Jle (q_le_s (rfl) (q_le_s (rfl) (q_le_n (q_le_s (rfl) (q_le_n (q_le_e _)))))) (rfl) (rfl) (L98 ((3 : Int).toNat + 1) 0 (by omega) (by omega) (by omega))
                  · skip
                    have hG := hH.g (by omega)
                    have hq0 : 0 ≤ k.tdiv 4 := Int.tdiv_nonneg hk0 (by decide)
                    have hqe := Int.tdiv_mul_add_tmod k 4
                    have hqm0 := Int.tmod_nonneg 4 hk0
                    have hqm1 := Int.tmod_lt_of_pos k (show (0 : Int) < 4 by decide)
                    have hq1 : k.tdiv 4 < μ 4 0 := by omega
                    refine q_ldc2 31 wd_1474 dX12_digest_72 ?_
                    refine q_lload_n dX12_digest_75 rfl ?_
                    refine q_lmul dX12_digest_76 ?_
                    refine q_aload_n dX12_digest_77 rfl ?_
                    refine q_iload_n dX12_digest_78 rfl ?_
                    refine q_iconst dX12_digest_79 ?_
                    refine q_idiv dX12_digest_80 ⟨by omega, by omega⟩ ⟨by decide, by decide⟩ (by decide) (by omega) ?_
                    refine q_iload_n dX12_digest_81 rfl ?_
                    refine q_iconst dX12_digest_82 ?_
                    refine q_irem dX12_digest_83 ⟨by omega, by omega⟩ ⟨by decide, by decide⟩ (by decide) (by omega) ?_
                    refine q_cV [q_i ((k).tdiv 4), q_i ((k).tmod 4)] kX12_186_12 rfl (tX12_toldOf w μ ((k).tdiv 4) ((k).tmod 4) (by omega) (by omega) ⟨by omega, by omega⟩ hG hD) dX12_digest_84 rfl (by decide) (Nat.le_of_ble_eq_true rfl) rfl ?_
                    refine q_i2lr dX12_digest_87 ⟨by have := m_told_r hG hD (p := k.tdiv 4) hq0 hq1 (k.tmod 4); omega, by have := m_told_r hG hD (p := k.tdiv 4) hq0 hq1 (k.tmod 4); omega⟩ ?_
                    refine q_ladd dX12_digest_88 ?_
                    refine q_lstore_n (lv' := [some (.ref 64), some (q_l ((31 * (z_hash (fun k => m_told μ (k.tdiv 4) (k.tmod 4)) (m_d2 μ) k)) + (m_told μ ((k).tdiv 4) ((k).tmod 4)))), none, some (q_i k), none]) dX12_digest_89 (by decide) rfl ?_
                    refine q_iinc (lv' := [some (.ref 64), some (q_l ((31 * (z_hash (fun k => m_told μ (k.tdiv 4) (k.tmod 4)) (m_d2 μ) k)) + (m_told μ ((k).tdiv 4) ((k).tmod 4)))), none, some (q_i (k + 1)), none]) dX12_digest_90 rfl (by decide) rfl ?_
                    refine q_goto (tgt := 62) dX12_digest_93 (by decide) ?_
                    exact q_Jle (q_le_s (rfl) (q_le_s (by rw [z_hash_s _ _ hk0]) (q_le_n (q_le_s (rfl) (q_le_n (q_le_e _)))))) (rfl) (rfl) (ih62 (k + 1) (by omega) (by omega) (by omega))
              exact q_Jle (q_le_s (rfl) (q_le_s (rfl) (q_le_n (q_le_s (rfl) (q_le_n (q_le_e _)))))) (rfl) (rfl) (L62 ((4 * μ 4 0 : Int).toNat + 1) 0 (by omega) (by omega) (by omega))
            · skip
              refine q_ldc2 31 wd_1474 dX12_digest_41 ?_
              refine q_lload_n dX12_digest_44 rfl ?_
              refine q_lmul dX12_digest_45 ?_
              refine q_aload_n dX12_digest_46 rfl ?_
              refine q_get (v := .ref 67) fX12_16_12 rfl rfl dX12_digest_47 ?_
              refine q_iload_n dX12_digest_50 rfl ?_
              refine q_lald (f := (μ 6)) (n9 := 216) rfl (by omega) (by omega) dX12_digest_51 ?_
              refine q_ladd dX12_digest_52 ?_
              refine q_lstore_n (lv' := [some (.ref 64), some (q_l ((31 * (z_hash (μ 6) (m_d1 μ) k)) + ((μ 6) k))), none, some (q_i k), none]) dX12_digest_53 (by decide) rfl ?_
              refine q_iinc (lv' := [some (.ref 64), some (q_l ((31 * (z_hash (μ 6) (m_d1 μ) k)) + ((μ 6) k))), none, some (q_i (k + 1)), none]) dX12_digest_54 rfl (by decide) rfl ?_
              refine q_goto (tgt := 33) dX12_digest_57 (by decide) ?_
              exact q_Jle (q_le_s (rfl) (q_le_s (by rw [z_hash_s _ _ hk0]) (q_le_n (q_le_s (rfl) (q_le_n (q_le_e _)))))) (rfl) (rfl) (ih33 (k + 1) (by omega) (by omega) (by omega))
        exact q_Jle (q_le_s (rfl) (q_le_s (rfl) (q_le_n (q_le_s (rfl) (q_le_n (q_le_e _)))))) (rfl) (rfl) (L33 ((μ 3 0 : Int).toNat + 1) 0 (by omega) (by omega) (by omega))
      · skip
        refine q_ldc2 31 wd_1474 dX12_digest_12 ?_
        refine q_lload_n dX12_digest_15 rfl ?_
        refine q_lmul dX12_digest_16 ?_
        refine q_aload_n dX12_digest_17 rfl ?_
        refine q_iload_n dX12_digest_18 rfl ?_
        refine q_cV [q_i k] kX12_274_12 rfl (tX12_countOf w μ k ⟨by omega, by omega⟩ (by omega) hH hV hI hK) dX12_digest_19 rfl (by decide) (Nat.le_of_ble_eq_true rfl) rfl ?_
        refine q_i2lr dX12_digest_22 ⟨by have := m_cnt_r hH hD k; omega, by have := m_cnt_r hH hD k; omega⟩ ?_
        refine q_ladd dX12_digest_23 ?_
        refine q_lstore_n (lv' := [some (.ref 64), some (q_l ((31 * (z_hash (m_cnt μ) 17 k)) + (m_cnt μ k))), none, some (q_i k), none]) dX12_digest_24 (by decide) rfl ?_
        refine q_iinc (lv' := [some (.ref 64), some (q_l ((31 * (z_hash (m_cnt μ) 17 k)) + (m_cnt μ k))), none, some (q_i (k + 1)), none]) dX12_digest_25 rfl (by decide) rfl ?_
        refine q_goto (tgt := 6) dX12_digest_28 (by decide) ?_
        exact q_Jle (q_le_s (rfl) (q_le_s (by rw [z_hash_s _ _ hk0]) (q_le_n (q_le_s (rfl) (q_le_n (q_le_e _)))))) (rfl) (rfl) (ih6 (k + 1) (by omega) (by omega) (by omega))
  exact q_Jle (q_le_s (rfl) (q_le_s (rfl) (q_le_n (q_le_s (rfl) (q_le_n (q_le_e _)))))) (rfl) (rfl) (L6 ((10 : Int).toNat + 1) 0 (by omega) (by omega) (by omega))
