/-! new objects and arrays, a reference laid into a row -/
theorem q_dom_u {w : q_W} {n n' : Nat} (h : q_dom w n) (h' : q_dom w n') : n' = n := by
  rcases Nat.lt_trichotomy n n' with e | e | e
  · exact absurd ((h n).mp ((h' n).mpr e)) (Nat.lt_irrefl n)
  · exact e.symm
  · exact absurd ((h' n').mp ((h n').mpr e)) (Nat.lt_irrefl n')
theorem q_S1 {b : Nat} {H0 H H1 : Heap} {locs : List Loc} (hS : va_S (fun q => b ≤ q) H0 H locs) {k : Nat} (hz : H1.size = H.size + k) (ho : ∀ q : Nat, q < H.size → H1[q]? = H[q]?) : va_S (fun q => b ≤ q) H0 H1 locs := by
  refine ⟨?_, fun x h1 h2 => ?_, hS.2.2⟩
  · have := hS.1
    omega
  · rw [ho x (Nat.lt_of_lt_of_le h1 hS.1)]
    exact hS.2.1 x h1 h2
section QR
variable {M : q_M} {fr : Nat} {Q : Option Value → q_W → Prop} {kc ks pc : Nat} {lv : List (Option Value)} {st : List Value} {w : q_W}
theorem q_newo {ci idx n N : Nat} {C : String} {T : u_T} {fs : List Value} (ty0 : Nat → FieldType) (hC : vwCl[ci]? = some (C, T, N)) (hin : ∀ w ∈ u_ws C T N, w ∈ q_B) (hty : ∀ k, k < N → parseFieldDescriptor (T k).2.2.1 = some (ty0 k)) (hcl : Cond.classLink M.1.cls idx C ∈ q_B) (hins : Cond.instantiable C N ∈ q_B) (hini : Cond.initialized C ∈ q_B) (hfs : ∀ b j, j < N → defaultValue (ty0 j) = vp_V (fs.map (q_v b)) j) (hdm : q_dom w n) (hd : decode M.2.1 pc = .ok (.new idx, 3)) (k : q_J M fr Q kc ks (pc + 3) lv (.ref n :: st) (q_up w n (q_ob ci fs))) : q_J M fr Q (kc + 1) (ks + N) pc lv st w := by
  intro p l e R s m args below meth c D dA b n0 n' mc ms H locs ls cells slots C9 hd2 hs hn hc hk hP hS hl
  have hnn := q_dom_u hdm hd2
  subst hnn
  have hB := C9.2.2.2.2.2.2.2.2.1
  have hsx := C9.1
  subst hsx
  intro T9 hT9 X
  have hsz := q_size X hT9 hd2 hs hn hP hS
  have hKn := C9.2.2.2.2.2.2.2.2.2.1.1.1 ci _ hC
  refine (W.newcK (h := b + n') C9.2.1 C9.2.2.1 C9.2.2.2.2.1 (hB _ hcl) (hB _ hins) (hB _ hini) (g := F0 m pc ls (st.map (q_v b))) rfl hd (by show cells + 1 ≤ mc; omega) (by show slots + N ≤ ms; omega) hKn.2.1 hsz (fun H1 kC hkC e1 z1 o1 => ?_)) T9 hT9 X
  have hk9 : ∀ (k : Nat) (x : Nat × va_E), (q_c dA b w n')[k]? = some x → H1[x.1]? = H[x.1]? := fun k x hx => o1 x.1 (by have := (hP k x hx).lt; omega)
  have hP1 : va_P D vwCl (q_c dA b w n' ++ [(b + n', q_e dA b (q_ob ci fs))]) H1 := (hP.kept hk9).app (fun k x hx => by
    have hz : k < 1 := (List.getElem?_eq_some_iff.mp hx).1
    rw [show k = 0 by omega] at hx
    cases hx
    exact ⟨_, hC, (u_born ty0 hB hin hKn hkC e1 hty).to (hfs b)⟩)
  rw [q_c_push] at hP1
  exact k p l e _ s m args below meth c D dA b n0 (n' + 1) mc ms H1 locs ls (cells + 1) (slots + N) C9 (hd2.push _) hs (by omega) (by omega) (by omega) hP1 (q_S1 hS (k := 1) (by omega) (fun q hq => o1 q (by omega))) hl
theorem q_newai {n N : Nat} {z : Int} (ha : Cond.arrayClass .int ∈ q_B) (hz0 : 0 ≤ z) (hzN : z = N) (hN : N ≤ 1000) (hdm : q_dom w n) (hd : decode M.2.1 pc = .ok (.newarray .int, 2)) (k : q_J M fr Q kc ks (pc + 2) lv (.ref n :: st) (q_up w n (q_ia N (fun _ => 0)))) : q_J M fr Q (kc + 1) (ks + N) pc lv (q_i z :: st) w := by
  intro p l e R s m args below meth c D dA b n0 n' mc ms H locs ls cells slots C9 hd2 hs hn hc hk hP hS hl
  have hnn := q_dom_u hdm hd2
  subst hnn
  have hB := C9.2.2.2.2.2.2.2.2.1
  have hsx := C9.1
  subst hsx
  intro T9 hT9 X
  have hsz := q_size X hT9 hd2 hs hn hP hS
  have hzr : q_r z := ⟨by omega, by omega⟩
  refine (va_newaK (h := b + n') (N := N) (atype := .int) C9.2.1 C9.2.2.1 (hB _ ha) (g := F0 m pc ls (.int (Int32.ofInt z) :: st.map (q_v b))) rfl hd rfl (fun q => by rw [q_0, q_32lt hzr q_r0] at q; omega) (by rw [q_cl hzr]; omega) (by show N * 4 ≤ _; omega) (by show cells + 1 ≤ mc; omega) (by show slots + N ≤ ms; omega) hsz (fun H1 cA e1 z1 o1 _ hNm => ?_)) T9 hT9 X
  have hcA : cA = dA 0 := Option.some.inj (hNm.symm.trans (C9.2.2.2.2.2.2.2.2.2.1.1.2 0 (dA 0, .int) rfl).2)
  subst hcA
  have hk9 : ∀ (k : Nat) (x : Nat × va_E), (q_c dA b w n')[k]? = some x → H1[x.1]? = H[x.1]? := fun k x hx => o1 x.1 (by have := (hP k x hx).lt; omega)
  have hP1 : va_P D vwCl (q_c dA b w n' ++ [(b + n', q_e dA b (q_ia N (fun _ => 0)))]) H1 := (hP.kept hk9).app (fun k x hx => by
    have hz : k < 1 := (List.getElem?_eq_some_iff.mp hx).1
    rw [show k = 0 by omega] at hx
    cases hx
    exact e1)
  rw [q_c_push] at hP1
  exact k p l e _ s m args below meth c D dA b n0 (n' + 1) mc ms H1 locs ls (cells + 1) (slots + N) C9 (hd2.push _) hs (by omega) (by omega) (by omega) hP1 (q_S1 hS (k := 1) (by omega) (fun q hq => o1 q (by omega))) hl
theorem q_newal {n N : Nat} {z : Int} (ha : Cond.arrayClass .long ∈ q_B) (hz0 : 0 ≤ z) (hzN : z = N) (hN : N ≤ 1000) (hdm : q_dom w n) (hd : decode M.2.1 pc = .ok (.newarray .long, 2)) (k : q_J M fr Q kc ks (pc + 2) lv (.ref n :: st) (q_up w n (q_la N (fun _ => 0)))) : q_J M fr Q (kc + 1) (ks + N) pc lv (q_i z :: st) w := by
  intro p l e R s m args below meth c D dA b n0 n' mc ms H locs ls cells slots C9 hd2 hs hn hc hk hP hS hl
  have hnn := q_dom_u hdm hd2
  subst hnn
  have hB := C9.2.2.2.2.2.2.2.2.1
  have hsx := C9.1
  subst hsx
  intro T9 hT9 X
  have hsz := q_size X hT9 hd2 hs hn hP hS
  have hzr : q_r z := ⟨by omega, by omega⟩
  refine (va_newaK (h := b + n') (N := N) (atype := .long) C9.2.1 C9.2.2.1 (hB _ ha) (g := F0 m pc ls (.int (Int32.ofInt z) :: st.map (q_v b))) rfl hd rfl (fun q => by rw [q_0, q_32lt hzr q_r0] at q; omega) (by rw [q_cl hzr]; omega) (by show N * 8 ≤ _; omega) (by show cells + 1 ≤ mc; omega) (by show slots + N ≤ ms; omega) hsz (fun H1 cA e1 z1 o1 _ hNm => ?_)) T9 hT9 X
  have hcA : cA = dA 1 := Option.some.inj (hNm.symm.trans (C9.2.2.2.2.2.2.2.2.2.1.1.2 1 (dA 1, .long) rfl).2)
  subst hcA
  have hk9 : ∀ (k : Nat) (x : Nat × va_E), (q_c dA b w n')[k]? = some x → H1[x.1]? = H[x.1]? := fun k x hx => o1 x.1 (by have := (hP k x hx).lt; omega)
  have hP1 : va_P D vwCl (q_c dA b w n' ++ [(b + n', q_e dA b (q_la N (fun _ => 0)))]) H1 := (hP.kept hk9).app (fun k x hx => by
    have hz : k < 1 := (List.getElem?_eq_some_iff.mp hx).1
    rw [show k = 0 by omega] at hx
    cases hx
    exact e1)
  rw [q_c_push] at hP1
  exact k p l e _ s m args below meth c D dA b n0 (n' + 1) mc ms H1 locs ls (cells + 1) (slots + N) C9 (hd2.push _) hs (by omega) (by omega) (by omega) hP1 (q_S1 hS (k := 1) (by omega) (fun q hq => o1 q (by omega))) hl
/-- rows of references: kinds 2 .. 4 -/
theorem q_newr {n N idx ak : Nat} {z : Int} {C : String} (hak : ∀ dA : Nat → ClassId, (q_tys dA)[ak]? = some (dA ak, .object C)) (hao : C ∈ q_ao) (hcl : Cond.classLink M.1.cls idx C ∈ q_B) (hz0 : 0 ≤ z) (hzN : z = N) (hN : N ≤ 1000) (hdm : q_dom w n) (hd : decode M.2.1 pc = .ok (.anewarray idx, 3)) (k : q_J M fr Q kc ks (pc + 3) lv (.ref n :: st) (q_up w n (q_ra ak N (fun _ => none)))) : q_J M fr Q (kc + 1) (ks + N) pc lv (q_i z :: st) w := by
  intro p l e R s m args below meth c D dA b n0 n' mc ms H locs ls cells slots C9 hd2 hs hn hc hk hP hS hl
  have hnn := q_dom_u hdm hd2
  subst hnn
  have hB := C9.2.2.2.2.2.2.2.2.1
  have hsx := C9.1
  subst hsx
  intro T9 hT9 X
  have hsz := q_size X hT9 hd2 hs hn hP hS
  have hzr : q_r z := ⟨by omega, by omega⟩
  have hcl9 : (Int32.ofInt z).toNatClampNeg = N := by rw [q_cl hzr]; omega
  refine (W.anew C9.2.1 C9.2.2.1 C9.2.2.2.2.1 (hB _ hcl) (va_AO.use (C9.2.2.2.2.2.2.2.2.2.1.2.2.2.1 C hao)) (g := F0 m pc ls (.int (Int32.ofInt z) :: st.map (q_v b))) rfl hd rfl (fun q => by rw [q_0, q_32lt hzr q_r0] at q; omega) (by rw [hcl9]; omega) (by show cells + 1 ≤ mc; omega) (by rw [hcl9]; show slots + N ≤ ms; omega) (fun cA kA comp f1 f2 f3 f4 => ?_)) T9 hT9 X
  rw [hcl9, hsz]
  obtain ⟨kA', comp', g1, g2, g3, g4⟩ := (C9.2.2.2.2.2.2.2.2.2.1.1.2 ak (dA ak, .object C) (hak dA)).2
  have hcA : cA = dA ak := Option.some.inj (f1.symm.trans g4)
  subst hcA
  generalize hH1 : H.push ({ cls := dA ak, slots := Array.replicate N .null, vm := .none } : Cell) = H1
  have z1 : H1.size = H.size + 1 := by rw [← hH1, Array.size_push]
  have e1 : H1[b + n']? = some (arrV (dA ak) N (fun _ => .null)) := by rw [← hH1, ← hsz, Array.getElem?_push_size, ← arrV_new]
  have o1 : ∀ q : Nat, q < H.size → H1[q]? = H[q]? := fun q hq => by rw [← hH1, Array.getElem?_push, if_neg (Nat.ne_of_lt hq)]
  have hk9 : ∀ (k : Nat) (x : Nat × va_E), (q_c dA b w n')[k]? = some x → H1[x.1]? = H[x.1]? := fun k x hx => o1 x.1 (hP k x hx).lt
  have hP1 : va_P D vwCl (q_c dA b w n' ++ [(b + n', q_e dA b (q_ra ak N (fun _ => none)))]) H1 := (hP.kept hk9).app (fun k x hx => by
    have hz : k < 1 := (List.getElem?_eq_some_iff.mp hx).1
    rw [show k = 0 by omega] at hx
    cases hx
    exact e1)
  rw [q_c_push] at hP1
  exact k p l e _ s m args below meth c D dA b n0 (n' + 1) mc ms H1 locs ls (cells + 1) (slots + N) C9 (hd2.push _) hs (by omega) (by omega) (by omega) hP1 (q_S1 hS (k := 1) z1 o1) hl
/-- an object laid into a row of its own class, or of one above it -/
theorem q_aast {a x n9 ak ci N : Nat} {C E : String} {T : u_T} {vs : List Value} {f : Int → Option Nat} {z : Int} (hw : w a = some (q_ra ak n9 f)) (hak : ∀ dA : Nat → ClassId, (q_tys dA)[ak]? = some (dA ak, .object E)) (hx : w x = some (q_ob ci vs)) (hC : vwCl[ci]? = some (C, T, N)) (hce : C = E ∨ (C, E) ∈ q_cs) (h0 : 0 ≤ z) (hz : z < n9) (hd : decode M.2.1 pc = .ok (.aastore, 1)) (k : q_J M fr Q kc ks (pc + 1) lv st (q_up w a (q_ra ak n9 (q_us f z (some x))))) (hn9 : n9 < 2147483648 := by decide) : q_J M fr Q kc ks pc lv (.ref x :: q_i z :: .ref a :: st) w := by
  intro p l e R s m args below meth c D dA b n0 n mc ms H locs ls cells slots C9 hd2 hs hn hc hk hP hS hl
  have hup : q_e dA b (q_ra ak n9 (q_us f z (some x))) = Sum.inl (dA ak, n9, Sum.inr (Sum.inr (Sum.inr (Sum.inr (va_up (fun j : Nat => (f (j : Int)).map (fun x => b + x)) (Int32.ofInt z).toNatClampNeg (some (b + x))))))) := by
    rw [q_cl ⟨by omega, by omega⟩]
    show Sum.inl (dA ak, n9, Sum.inr (Sum.inr (Sum.inr (Sum.inr (fun j : Nat => (q_us f z (some x) (j : Int)).map (fun x => b + x)))))) = _
    congr 7
    funext j
    unfold va_up q_us
    by_cases e : j = z.toNat
    · rw [if_pos e, if_pos (show (j : Int) = z by omega)]
      rfl
    · rw [if_neg e, if_neg (show ¬ (j : Int) = z by omega)]
  have hin := q_ar (b := 0) h0 hz hn9
  have kk : ∀ (H1 : Heap) (locs1 : List Loc), va_P D vwCl ((q_c dA b w n).set a (b + a, Sum.inl (dA ak, n9, Sum.inr (Sum.inr (Sum.inr (Sum.inr (va_up (fun j : Nat => (f (j : Int)).map (fun x => b + x)) (Int32.ofInt z).toNatClampNeg (some (b + x))))))))) H1 → va_D (fun q => b ≤ q) ((q_c dA b w n).set a (b + a, Sum.inl (dA ak, n9, Sum.inr (Sum.inr (Sum.inr (Sum.inr (va_up (fun j : Nat => (f (j : Int)).map (fun x => b + x)) (Int32.ofInt z).toNatClampNeg (some (b + x))))))))) → va_S (fun q => b ≤ q) s.heap H1 locs1 → W p l e R s m args below meth c H1 locs1 cells slots (MQ below (q_Qc Q D dA b (n0 + mc)) args s mc ms (fun q => b ≤ q)) (F0 m (pc + 1) ls (st.map (q_v b))) := fun H1 locs1 hP1 _ hS1 => by
    rw [q_c_set (c := q_ra ak n9 (q_us f z (some x))) (hd2.lt hw) hup.symm] at hP1
    exact k p l e R s m args below meth c D dA b n0 n mc ms H1 locs1 ls cells slots C9 (hd2.up _ (hd2.lt hw)) hs hn hc hk hP1 hS1 hl
  rcases hce with q | q
  · subst q
    exact va_astq (D := D) C9.2.1 C9.2.2.1 C9.2.2.2.2.2.2.2.2.2.1.1 hP (q_c_D dA b w n) hS a ak x ci (r := (C, T, N)) (q_c_get hd2 hw) (hak dA) (q_c_get hd2 hx) hC hin hd kk
  · exact va_astqO (D := D) C9.2.1 C9.2.2.1 C9.2.2.2.2.2.2.2.2.2.1.1 hP (q_c_D dA b w n) hS a ak x ci (r := (C, T, N)) (q_c_get hd2 hw) (hak dA) (C9.2.2.2.2.2.2.2.2.2.1.2.2.1 (C, E) q) (q_c_get hd2 hx) hC hin hd kk
end QR
