/-! the law's loop; its start -/
section QO
variable {p : Program} {l : Launch} {e : Env} {s : State} {m : MethodId} {below : List Frame} {meth : Method} {c : Code} {sb L : Nat} {xs : Nat → Int32} {D : va_G} {dA : Nat → ClassId}
set_option maxRecDepth 20000 in
theorem q_Lloop (C : q_LC p s m meth c sb L xs D dA) (hL : L ≤ 384) : ∀ (f i cells slots : Nat) (w0 : q_W) (μ ξ : m_S) (B P : Nat) (g : Int → Option Nat), L + 6 - i < f → i ≤ L + 6 → 76 ≤ cells → cells ≤ 76 + 5 * i → slots ≤ 6000 + 30 * i → z_R μ ξ B P g → q_L p l e s m below meth c sb D dA cells slots 18 (q_lvs s sb i) [] (x_w (m_w w0 μ) ξ B P g) := by
  intro f
  induction f with
  | zero => intro i cells slots w0 μ ξ B P g h0; exact absurd h0 (by omega)
  | succ f ih =>
    intro i cells slots w0 μ ξ B P g h0 h1 h76 hc hs hR
    refine q_Lil (i := 3) C (q_lv3 _ _ _) rfl dL_law_18 ?_
    refine q_Lrf (i := 0) C (q_lv0 _ _ _) rfl dL_law_19 ?_
    refine q_Llen C dL_law_20 ?_
    refine q_Lbp (v := Int32.ofInt 6) C dL_law_21 (by decide) ?_
    refine q_Lsu C dL_law_23 ?_
    rw [show Int32.ofNat L - Int32.ofInt 6 = Int32.ofInt ((L : Int) - 6) by rw [Int32.ofInt_sub]; rfl]
    have hr1 : q_r ((L : Int) - 6) := ⟨by omega, by omega⟩
    have hr2 : q_r (i : Int) := ⟨by omega, by omega⟩
    refine q_Lgt (tgt := 1395) C dL_law_24 (by decide) (fun h => ?_) (fun h => ?_)
    · refine q_Lic (v := 1) C dL_law_1395 (by decide) ?_
      exact q_Lret C (by omega) (by omega) dL_law_1396
    · rw [q_32lt hr1 hr2] at h
      have hi : i + 6 ≤ L := by omega
      have hK : q_LN p l e s m below meth c sb D dA i cells slots := fun cells' slots' w0' μ' ξ' B' P' g' a1 a2 a3 hR' =>
        q_Linc (x := Int32.ofInt (i : Int)) (v := Int32.ofInt ((i + 6 : Nat) : Int)) (k9 := 0) (lvs' := q_lvs s sb (i + 6)) C dL_law_1389 rfl (by rw [← Int32.ofInt_add]; rfl) (by decide) rfl (q_Lgo (tgt := 18) C dL_law_1392 (by decide) (ih (i + 6) cells' slots' w0' μ' ξ' B' P' g' (by omega) (by omega) (by omega) (by omega) (by omega) hR'))
      refine q_Lrf (i := 0) C (q_lv0 _ _ _) rfl dL_law_27 ?_
      refine q_Lil (i := 3) C (q_lv3 _ _ _) rfl dL_law_28 ?_
      refine q_Lld (i := i) (j := 0) C hL (by omega) dL_law_29 ?_
      refine q_Lbp (v := 63) C dL_law_30 (by decide) ?_
      refine q_Lan (x := Int32.ofInt ((xs (i + 0)).toInt)) (y := 63) C dL_law_32 ?_
      generalize Int32.ofInt ((xs (i + 0)).toInt) &&& 63 = z
      rcases (show z.toInt = 0 ∨ z.toInt = 1 ∨ z.toInt = 2 ∨ z.toInt = 3 ∨ z.toInt = 4 ∨ z.toInt = 5 ∨ z.toInt = 6 ∨ z.toInt = 7 ∨ z.toInt = 8 ∨ z.toInt = 9 ∨ z.toInt = 10 ∨ z.toInt = 11 ∨ z.toInt = 12 ∨ z.toInt = 13 ∨ z.toInt = 14 ∨ z.toInt = 15 ∨ z.toInt = 16 ∨ z.toInt = 17 ∨ z.toInt = 18 ∨ z.toInt = 19 ∨ z.toInt = 20 ∨ z.toInt = 21 ∨ z.toInt = 22 ∨ z.toInt = 23 ∨ z.toInt = 24 ∨ z.toInt = 25 ∨ z.toInt = 26 ∨ z.toInt = 27 ∨ z.toInt = 28 ∨ z.toInt = 29 ∨ z.toInt = 30 ∨ z.toInt = 31 ∨ z.toInt = 32 ∨ z.toInt = 33 ∨ z.toInt = 34 ∨ z.toInt = 35 ∨ z.toInt = 36 ∨ z.toInt = 37 ∨ z.toInt = 38 ∨ z.toInt = 39 ∨ z.toInt = 40 ∨ z.toInt = 41 ∨ z.toInt = 42 ∨ z.toInt = 43 ∨ (z.toInt < 0 ∨ 43 < z.toInt) by omega) with hz | hz | hz | hz | hz | hz | hz | hz | hz | hz | hz | hz | hz | hz | hz | hz | hz | hz | hz | hz | hz | hz | hz | hz | hz | hz | hz | hz | hz | hz | hz | hz | hz | hz | hz | hz | hz | hz | hz | hz | hz | hz | hz | hz | hz
      · exact q_Ltin (tgt := 224) C dL_law_33 (by omega) (by omega) (by rw [hz]; rfl) (by decide) (q_Lc0 C hL hi (by omega) (by omega) h76 hR hK)
      · exact q_Ltin (tgt := 257) C dL_law_33 (by omega) (by omega) (by rw [hz]; rfl) (by decide) (q_Lc1 C hL hi (by omega) (by omega) h76 hR hK)
      · exact q_Ltin (tgt := 300) C dL_law_33 (by omega) (by omega) (by rw [hz]; rfl) (by decide) (q_Lc2 C hL hi (by omega) (by omega) h76 hR hK)
      · exact q_Ltin (tgt := 333) C dL_law_33 (by omega) (by omega) (by rw [hz]; rfl) (by decide) (q_Lc3 C hL hi (by omega) (by omega) h76 hR hK)
      · exact q_Ltin (tgt := 356) C dL_law_33 (by omega) (by omega) (by rw [hz]; rfl) (by decide) (q_Lc4 C hL hi (by omega) (by omega) h76 hR hK)
      · exact q_Ltin (tgt := 419) C dL_law_33 (by omega) (by omega) (by rw [hz]; rfl) (by decide) (q_Lc5 C hL hi (by omega) (by omega) h76 hR hK)
      · exact q_Ltin (tgt := 442) C dL_law_33 (by omega) (by omega) (by rw [hz]; rfl) (by decide) (q_Lc6 C hL hi (by omega) (by omega) h76 hR hK)
      · exact q_Ltin (tgt := 475) C dL_law_33 (by omega) (by omega) (by rw [hz]; rfl) (by decide) (q_Lc7 C hL hi (by omega) (by omega) h76 hR hK)
      · exact q_Ltin (tgt := 518) C dL_law_33 (by omega) (by omega) (by rw [hz]; rfl) (by decide) (q_Lc8 C hL hi (by omega) (by omega) h76 hR hK)
      · exact q_Ltin (tgt := 541) C dL_law_33 (by omega) (by omega) (by rw [hz]; rfl) (by decide) (q_Lc9 C hL hi (by omega) (by omega) h76 hR hK)
      · exact q_Ltin (tgt := 564) C dL_law_33 (by omega) (by omega) (by rw [hz]; rfl) (by decide) (q_Lc10 C hL hi (by omega) (by omega) h76 hR hK)
      · exact q_Ltin (tgt := 597) C dL_law_33 (by omega) (by omega) (by rw [hz]; rfl) (by decide) (q_Lc11 C hL hi (by omega) (by omega) h76 hR hK)
      · exact q_Ltin (tgt := 630) C dL_law_33 (by omega) (by omega) (by rw [hz]; rfl) (by decide) (q_Lc12 C hL hi (by omega) (by omega) h76 hR hK)
      · exact q_Ltin (tgt := 663) C dL_law_33 (by omega) (by omega) (by rw [hz]; rfl) (by decide) (q_Lc13 C hL hi (by omega) (by omega) h76 hR hK)
      · exact q_Ltin (tgt := 696) C dL_law_33 (by omega) (by omega) (by rw [hz]; rfl) (by decide) (q_Lc14 C hL hi (by omega) (by omega) h76 hR hK)
      · exact q_Ltin (tgt := 719) C dL_law_33 (by omega) (by omega) (by rw [hz]; rfl) (by decide) (q_Lc15 C hL hi (by omega) (by omega) h76 hR hK)
      · exact q_Ltin (tgt := 742) C dL_law_33 (by omega) (by omega) (by rw [hz]; rfl) (by decide) (q_Lc16 C hL hi (by omega) (by omega) h76 hR hK)
      · exact q_Ltin (tgt := 765) C dL_law_33 (by omega) (by omega) (by rw [hz]; rfl) (by decide) (q_Lc17 C hL hi (by omega) (by omega) h76 hR hK)
      · exact q_Ltin (tgt := 788) C dL_law_33 (by omega) (by omega) (by rw [hz]; rfl) (by decide) (q_Lc18 C hL hi (by omega) (by omega) h76 hR hK)
      · exact q_Ltin (tgt := 811) C dL_law_33 (by omega) (by omega) (by rw [hz]; rfl) (by decide) (q_Lc19 C hL hi (by omega) (by omega) h76 hR hK)
      · exact q_Ltin (tgt := 824) C dL_law_33 (by omega) (by omega) (by rw [hz]; rfl) (by decide) (q_Lc20 C hL hi (by omega) (by omega) h76 hR hK)
      · exact q_Ltin (tgt := 857) C dL_law_33 (by omega) (by omega) (by rw [hz]; rfl) (by decide) (q_Lc21 C hL hi (by omega) (by omega) h76 hR hK)
      · exact q_Ltin (tgt := 870) C dL_law_33 (by omega) (by omega) (by rw [hz]; rfl) (by decide) (q_Lc22 C hL hi (by omega) (by omega) h76 hR hK)
      · exact q_Ltin (tgt := 903) C dL_law_33 (by omega) (by omega) (by rw [hz]; rfl) (by decide) (q_Lc23 C hL hi (by omega) (by omega) h76 hR hK)
      · exact q_Ltin (tgt := 916) C dL_law_33 (by omega) (by omega) (by rw [hz]; rfl) (by decide) (q_Lc24 C hL hi (by omega) (by omega) h76 hR hK)
      · exact q_Ltin (tgt := 939) C dL_law_33 (by omega) (by omega) (by rw [hz]; rfl) (by decide) (q_Lc25 C hL hi (by omega) (by omega) h76 hR hK)
      · exact q_Ltin (tgt := 962) C dL_law_33 (by omega) (by omega) (by rw [hz]; rfl) (by decide) (q_Lc26 C hL hi (by omega) (by omega) h76 hR hK)
      · exact q_Ltin (tgt := 975) C dL_law_33 (by omega) (by omega) (by rw [hz]; rfl) (by decide) (q_Lc27 C hL hi (by omega) (by omega) h76 hR hK)
      · exact q_Ltin (tgt := 1008) C dL_law_33 (by omega) (by omega) (by rw [hz]; rfl) (by decide) (q_Lc28 C hL hi (by omega) (by omega) h76 hR hK)
      · exact q_Ltin (tgt := 1031) C dL_law_33 (by omega) (by omega) (by rw [hz]; rfl) (by decide) (q_Lc29 C hL hi (by omega) (by omega) h76 hR hK)
      · exact q_Ltin (tgt := 1054) C dL_law_33 (by omega) (by omega) (by rw [hz]; rfl) (by decide) (q_Lc30 C hL hi (by omega) (by omega) h76 hR hK)
      · exact q_Ltin (tgt := 1077) C dL_law_33 (by omega) (by omega) (by rw [hz]; rfl) (by decide) (q_Lc31 C hL hi (by omega) (by omega) h76 hR hK)
      · exact q_Ltin (tgt := 1100) C dL_law_33 (by omega) (by omega) (by rw [hz]; rfl) (by decide) (q_Lc32 C hL hi (by omega) (by omega) h76 hR hK)
      · exact q_Ltin (tgt := 1133) C dL_law_33 (by omega) (by omega) (by rw [hz]; rfl) (by decide) (q_Lc33 C hL hi (by omega) (by omega) h76 hR hK)
      · exact q_Ltin (tgt := 1176) C dL_law_33 (by omega) (by omega) (by rw [hz]; rfl) (by decide) (q_Lc34 C hL hi (by omega) (by omega) h76 hR hK)
      · exact q_Ltin (tgt := 1209) C dL_law_33 (by omega) (by omega) (by rw [hz]; rfl) (by decide) (q_Lc35 C hL hi (by omega) (by omega) h76 hR hK)
      · exact q_Ltin (tgt := 1242) C dL_law_33 (by omega) (by omega) (by rw [hz]; rfl) (by decide) (q_Lc36 C hL hi (by omega) (by omega) h76 hR hK)
      · exact q_Ltin (tgt := 1275) C dL_law_33 (by omega) (by omega) (by rw [hz]; rfl) (by decide) (q_Lc37 C hL hi (by omega) (by omega) h76 hR hK)
      · exact q_Ltin (tgt := 1288) C dL_law_33 (by omega) (by omega) (by rw [hz]; rfl) (by decide) (q_Lc38 C hL hi (by omega) (by omega) h76 hR hK)
      · exact q_Ltin (tgt := 1302) C dL_law_33 (by omega) (by omega) (by rw [hz]; rfl) (by decide) (q_Lc39 C hL hi (by omega) (by omega) h76 hR hK)
      · exact q_Ltin (tgt := 1316) C dL_law_33 (by omega) (by omega) (by rw [hz]; rfl) (by decide) (q_Lc40 C hL hi (by omega) (by omega) h76 hR hK)
      · exact q_Ltin (tgt := 1339) C dL_law_33 (by omega) (by omega) (by rw [hz]; rfl) (by decide) (q_Lc41 C hL hi (by omega) (by omega) h76 hR hK)
      · exact q_Ltin (tgt := 1352) C dL_law_33 (by omega) (by omega) (by rw [hz]; rfl) (by decide) (q_Lc42 C hL hi (by omega) (by omega) h76 hR hK)
      · exact q_Ltin (tgt := 1375) C dL_law_33 (by omega) (by omega) (by rw [hz]; rfl) (by decide) (q_Lc43 C hL hi (by omega) (by omega) h76 hR hK)
      · exact q_Ltout (tgt := 1389) C dL_law_33 hz (by decide) (hK cells slots w0 μ ξ B P g (by omega) (by omega) (by omega) hR)
end QO
theorem z_w0_d : q_dom z_w0 0 := fun a => ⟨fun h => absurd rfl h, fun h => absurd h (Nat.not_lt_zero a)⟩
set_option maxRecDepth 20000 in
theorem q_Lstart {p : Program} {l : Launch} {e : Env} {s : State} {m : MethodId} {below : List Frame} {meth : Method} {c : Code} {sb L : Nat} {xs : Nat → Int32} {D : va_G} {dA : Nat → ClassId} (C : q_LC p s m meth c sb L xs D dA) (hL : L ≤ 384) : q_L p l e s m below meth c sb D dA 0 0 0 [(0, .ref sb)] [] z_w0 := by
  refine q_Lnew (ci := 11) (fs := [.null, .null, .null, .null, .null, .null, q_i 0, q_i 0, q_l 0, q_l 0]) tyX11 C rfl uX11 tyX11_ok wd_77 wd_78 wd_62 dvX11 dL_law_0 (by omega) (by omega) ?_
  refine q_Ldup C dL_law_3 rfl ?_
  refine q_LcI (a := 0) C kL_9 (tX11_init (q_up z_w0 0 (q_ob 11 [.null, .null, .null, .null, .null, .null, q_i 0, q_i 0, q_l 0, q_l 0])) 0 1 (z_w0_d.push _) (q_up_s _ _ _)) (by decide) (Nat.le_of_ble_eq_true rfl) dL_law_4 (by omega) (by omega) ?_
  refine q_Leqw z_init11 ?_
  show q_L p l e s m below meth c sb D dA 64 4198 7 [(0, .ref sb)] [.ref (s.heap.size + 0)] _
  refine q_Lst (i := 1) (lvs' := [(1, .ref (s.heap.size + 0)), (0, .ref sb)]) C dL_law_7 rfl (by decide) rfl ?_
  refine q_Ldom (fun hd64 => ?_)
  refine q_Lnew (ci := 12) (fs := [.null, q_i 0, q_i 0, q_i 0, q_i 0, .null, .null, .null, .null, .null, .null, q_i 0, q_l 0, q_l 0, q_i 0, .null, q_i 0, q_i 0, q_i 0, q_i 0, q_i 0, .null, q_i 0, .null, .null]) tyX12 C rfl uX12 tyX12_ok wd_1008 wd_1009 wd_69 dvX12 dL_law_8 (by omega) (by omega) ?_
  refine q_Ldup C dL_law_11 rfl ?_
  refine q_LcI (a := 64) C kL_12 (tX12_init (q_up (x_w z_w0 z_ξ0 76 0 z_gN) 64 (q_ob 12 [.null, q_i 0, q_i 0, q_i 0, q_i 0, .null, .null, .null, .null, .null, .null, q_i 0, q_l 0, q_l 0, q_i 0, .null, q_i 0, q_i 0, q_i 0, q_i 0, q_i 0, .null, q_i 0, .null, .null])) 64 65 (hd64.push _) (q_up_s _ _ _)) (by decide) (Nat.le_of_ble_eq_true rfl) dL_law_12 (by omega) (by omega) ?_
  refine q_Leqw z_init12 ?_
  refine q_Leqw (x_m_w (by decide)) ?_
  show q_L p l e s m below meth c sb D dA 76 5534 15 [(1, .ref (s.heap.size + 0)), (0, .ref sb)] [.ref (s.heap.size + 64)] _
  refine q_Lst (i := 2) (lvs' := [(2, .ref (s.heap.size + 64)), (1, .ref (s.heap.size + 0)), (0, .ref sb)]) C dL_law_15 rfl (by decide) rfl ?_
  refine q_Lic (v := Int32.ofInt ((0 : Nat) : Int)) C dL_law_16 rfl ?_
  refine q_Lis (i := 3) (lvs' := q_lvs s sb 0) C dL_law_17 rfl (by decide) rfl ?_
  exact q_Lloop C hL (L + 7) 0 76 5534 z_w0 z_μ0 z_ξ0 76 0 z_gN (by omega) (by omega) (by omega) (by omega) (by omega) z_R0
/-- from the entry, for every script of at most 384 ints, the law comes to its end with true -/
theorem whole_start {p : Program} {e : Env} {s : State} {m : MethodId} {below : List Frame} {meth : Method} {c : Code} (l : Launch) {b L : Nat} {xs : Nat → Int32} (hL : L ≤ 384) (C0 : lw_At p s m meth c b L xs) : W p l e room_1 s m #[Value.ref b] below meth c s.heap [] 0 0 (lw_Z below #[Value.ref b] s) (entryFrame m ([Value.ref b] : List Value).toArray 4) := by
  obtain ⟨hx, hb, hr, hml, hown, hts, hX, hsb, hlk, hg⟩ := C0
  obtain ⟨D, dA, hK⟩ := q_K0 hts hg
  have C : q_LC p s m meth c b L xs D dA := ⟨hx, hb, hml, hown, hr, hlk, fun w hw => hts w (q_B_tbl hw), hK, hX, hsb⟩
  have hl := lv_entry [Value.ref b] (n := 4) (Nat.le_of_ble_eq_true rfl)
  rw [lg_entry_eq]
  exact q_Lstart C hL s.heap [] _ z_w0_d (fun k q hq => by rw [show q_c dA s.heap.size z_w0 0 = [] from rfl] at hq; simp at hq) va_S.rf ⟨hl.1, hl.2.1, fun q hq => hl.2.2 q hq⟩
