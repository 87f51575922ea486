/-! classes asked, Math, arraycopy, switches, new cells -/
section QR
variable {M : q_M} {fr : Nat} {Q : Option Value → q_W → Prop} {kc ks kc0 ks0 pc : Nat} {lv : List (Option Value)} {st st0 : List Value} {w : q_W}
theorem q_instY {a ci idx : Nat} {fs : List Value} {C nm : String} {T : u_T} {N : Nat} (h1 : vwCl[ci]? = some (C, T, N)) (hc1 : (C, nm) ∈ q_cs) (hlk : Cond.classLink M.1.cls idx nm ∈ q_B) (hw : w a = some (q_ob ci fs)) (hd : decode M.2.1 pc = .ok (.instanceof idx, 3)) (k : q_J M fr Q kc ks (pc + 3) lv (q_i 1 :: st) w) : q_J M fr Q kc ks pc lv (.ref a :: st) w := by
  intro p l e R s m args below meth c D dA b n0 n mc ms H locs ls cells slots C9 hd2 hs hn hc hk hP hS hl
  exact va_instY C9.2.1 C9.2.2.1 C9.2.2.2.2.1 (C9.2.2.2.2.2.2.2.2.1 _ hlk) (C9.2.2.2.2.2.2.2.2.2.1.2.2.1 _ hc1) (va_recv C9.2.2.2.2.2.2.2.2.2.1.1 hP (ci := ci) (q0 := a) h1 (q_c_get hd2 hw)) hd (k p l e R s m args below meth c D dA b n0 n mc ms H locs ls cells slots C9 hd2 hs hn hc hk hP hS hl)
theorem q_instS {a ci idx : Nat} {fs : List Value} {C : String} {T : u_T} {N : Nat} (h1 : vwCl[ci]? = some (C, T, N)) (hlk : Cond.classLink M.1.cls idx C ∈ q_B) (hw : w a = some (q_ob ci fs)) (hd : decode M.2.1 pc = .ok (.instanceof idx, 3)) (k : q_J M fr Q kc ks (pc + 3) lv (q_i 1 :: st) w) : q_J M fr Q kc ks pc lv (.ref a :: st) w := by
  intro p l e R s m args below meth c D dA b n0 n mc ms H locs ls cells slots C9 hd2 hs hn hc hk hP hS hl
  exact va_instS C9.2.1 C9.2.2.1 C9.2.2.2.2.1 (C9.2.2.2.2.2.2.2.2.1 _ hlk) (C9.2.2.2.2.2.2.2.2.2.1.1.1 ci _ h1).2 (va_recv C9.2.2.2.2.2.2.2.2.2.1.1 hP (ci := ci) (q0 := a) h1 (q_c_get hd2 hw)) hd (k p l e R s m args below meth c D dA b n0 n mc ms H locs ls cells slots C9 hd2 hs hn hc hk hP hS hl)
theorem q_instNo {a ci idx : Nat} {fs : List Value} {C nm : String} {T : u_T} {N : Nat} (h1 : vwCl[ci]? = some (C, T, N)) (hc1 : (C, nm) ∈ q_nc) (hlk : Cond.classLink M.1.cls idx nm ∈ q_B) (hw : w a = some (q_ob ci fs)) (hd : decode M.2.1 pc = .ok (.instanceof idx, 3)) (k : q_J M fr Q kc ks (pc + 3) lv (q_i 0 :: st) w) : q_J M fr Q kc ks pc lv (.ref a :: st) w := by
  intro p l e R s m args below meth c D dA b n0 n mc ms H locs ls cells slots C9 hd2 hs hn hc hk hP hS hl
  exact va_instNo C9.2.1 C9.2.2.1 C9.2.2.2.2.1 (C9.2.2.2.2.2.2.2.2.1 _ hlk) (C9.2.2.2.2.2.2.2.2.2.1.2.1 _ hc1) (va_recv C9.2.2.2.2.2.2.2.2.2.1.1 hP (ci := ci) (q0 := a) h1 (q_c_get hd2 hw)) hd (k p l e R s m args below meth c D dA b n0 n mc ms H locs ls cells slots C9 hd2 hs hn hc hk hP hS hl)
theorem q_castY {a ci idx : Nat} {fs : List Value} {C nm : String} {T : u_T} {N : Nat} (h1 : vwCl[ci]? = some (C, T, N)) (hc1 : (C, nm) ∈ q_cs) (hlk : Cond.classLink M.1.cls idx nm ∈ q_B) (hw : w a = some (q_ob ci fs)) (hd : decode M.2.1 pc = .ok (.checkcast idx, 3)) (k : q_J M fr Q kc ks (pc + 3) lv (.ref a :: st) w) : q_J M fr Q kc ks pc lv (.ref a :: st) w := by
  intro p l e R s m args below meth c D dA b n0 n mc ms H locs ls cells slots C9 hd2 hs hn hc hk hP hS hl
  exact va_castY C9.2.1 C9.2.2.1 C9.2.2.2.2.1 (C9.2.2.2.2.2.2.2.2.1 _ hlk) (C9.2.2.2.2.2.2.2.2.2.1.2.2.1 _ hc1) (va_recv C9.2.2.2.2.2.2.2.2.2.1.1 hP (ci := ci) (q0 := a) h1 (q_c_get hd2 hw)) hd (k p l e R s m args below meth c D dA b n0 n mc ms H locs ls cells slots C9 hd2 hs hn hc hk hP hS hl)
theorem q_castS {a ci idx : Nat} {fs : List Value} {C : String} {T : u_T} {N : Nat} (h1 : vwCl[ci]? = some (C, T, N)) (hlk : Cond.classLink M.1.cls idx C ∈ q_B) (hw : w a = some (q_ob ci fs)) (hd : decode M.2.1 pc = .ok (.checkcast idx, 3)) (k : q_J M fr Q kc ks (pc + 3) lv (.ref a :: st) w) : q_J M fr Q kc ks pc lv (.ref a :: st) w := by
  intro p l e R s m args below meth c D dA b n0 n mc ms H locs ls cells slots C9 hd2 hs hn hc hk hP hS hl
  exact va_castS C9.2.1 C9.2.2.1 C9.2.2.2.2.1 (C9.2.2.2.2.2.2.2.2.1 _ hlk) (C9.2.2.2.2.2.2.2.2.2.1.1.1 ci _ h1).2 (va_recv C9.2.2.2.2.2.2.2.2.2.1.1 hP (ci := ci) (q0 := a) h1 (q_c_get hd2 hw)) hd (k p l e R s m args below meth c D dA b n0 n mc ms H locs ls cells slots C9 hd2 hs hn hc hk hP hS hl)
theorem q_jmax {idx : Nat} {x y : Int} (h1 : Cond.methodLink M.1.cls idx Lib.Math.max.name ∈ q_B) (h2 : Cond.static Lib.Math.max.name ∈ q_B) (h3 : Cond.initialized "java/lang/Math" ∈ q_B) (h4 : Cond.code Lib.Math.max.name Lib.Math.max.code 2 (some .int) ∈ q_B) (hfr : 1 ≤ fr) (hroom : (st.map (fun v => v.category)).sum ≤ 8) (hx : q_r x) (hy : q_r y) (hd : decode M.2.1 pc = .ok (.invokestatic idx, 3)) (k : q_J M fr Q kc ks (pc + 3) lv (q_i (if x < y then y else x) :: st) w) : q_J M fr Q kc ks pc lv (q_i y :: q_i x :: st) w := by
  intro p l e R s m args below meth c D dA b n0 n mc ms H locs ls cells slots C hd2 hs hn hc hk hP hS hl
  have hB := C.2.2.2.2.2.2.2.2.1
  refine va_mmax C.2.1 C.2.2.1 (C.2.2.2.1.trans hl.1.symm) C.2.2.2.2.1 (hB _ h1) (hB _ h2) (hB _ h3) (hB _ h4) (by rw [C.1]; exact hfr) (by rw [C.1, q_catsum]; show _ ≤ 43 * fr; omega) (by rw [C.1]; show cells ≤ mc; omega) (by rw [C.1]; show slots ≤ ms; omega) hd ?_
  have kk := k p l e R s m args below meth c D dA b n0 n mc ms H locs ls cells slots C hd2 hs hn hc hk hP hS hl
  have e9 : (if Int32.ofInt x < Int32.ofInt y then Int32.ofInt y else Int32.ofInt x) = Int32.ofInt (if x < y then y else x) := by
    by_cases q : x < y
    · rw [if_pos q, if_pos ((q_32lt hx hy).mpr q)]
    · rw [if_neg q, if_neg (fun q2 => q ((q_32lt hx hy).mp q2))]
  rw [e9]
  exact kk
theorem q_jmin {idx : Nat} {x y : Int} (h1 : Cond.methodLink M.1.cls idx Lib.Math.min.name ∈ q_B) (h2 : Cond.static Lib.Math.min.name ∈ q_B) (h3 : Cond.initialized "java/lang/Math" ∈ q_B) (h4 : Cond.code Lib.Math.min.name Lib.Math.min.code 2 (some .int) ∈ q_B) (hfr : 1 ≤ fr) (hroom : (st.map (fun v => v.category)).sum ≤ 8) (hx : q_r x) (hy : q_r y) (hd : decode M.2.1 pc = .ok (.invokestatic idx, 3)) (k : q_J M fr Q kc ks (pc + 3) lv (q_i (if y < x then y else x) :: st) w) : q_J M fr Q kc ks pc lv (q_i y :: q_i x :: st) w := by
  intro p l e R s m args below meth c D dA b n0 n mc ms H locs ls cells slots C hd2 hs hn hc hk hP hS hl
  have hB := C.2.2.2.2.2.2.2.2.1
  refine va_mmin C.2.1 C.2.2.1 (C.2.2.2.1.trans hl.1.symm) C.2.2.2.2.1 (hB _ h1) (hB _ h2) (hB _ h3) (hB _ h4) (by rw [C.1]; exact hfr) (by rw [C.1, q_catsum]; show _ ≤ 43 * fr; omega) (by rw [C.1]; show cells ≤ mc; omega) (by rw [C.1]; show slots ≤ ms; omega) hd ?_
  have kk := k p l e R s m args below meth c D dA b n0 n mc ms H locs ls cells slots C hd2 hs hn hc hk hP hS hl
  have e9 : (if Int32.ofInt y < Int32.ofInt x then Int32.ofInt y else Int32.ofInt x) = Int32.ofInt (if y < x then y else x) := by
    by_cases q : y < x
    · rw [if_pos q, if_pos ((q_32lt hy hx).mpr q)]
    · rw [if_neg q, if_neg (fun q2 => q ((q_32lt hy hx).mp q2))]
  rw [e9]
  exact kk
theorem q_jmaxl {idx : Nat} {x y : Int} (h1 : Cond.methodLink M.1.cls idx Lib.MathLoose.max_long.x ∈ q_B) (h2 : Cond.static Lib.MathLoose.max_long.x ∈ q_B) (h3 : Cond.initialized "java/lang/Math" ∈ q_B) (h4 : Cond.code Lib.MathLoose.max_long.x Lib.MathLoose.max_long.code 4 (some .long) ∈ q_B) (hfr : 1 ≤ fr) (hroom : (st.map (fun v => v.category)).sum ≤ 8) (hx : q_rl x) (hy : q_rl y) (hd : decode M.2.1 pc = .ok (.invokestatic idx, 3)) (k : q_J M fr Q kc ks (pc + 3) lv (q_l (if x < y then y else x) :: st) w) : q_J M fr Q kc ks pc lv (q_l y :: q_l x :: st) w := by
  intro p l e R s m args below meth c D dA b n0 n mc ms H locs ls cells slots C hd2 hs hn hc hk hP hS hl
  have hB := C.2.2.2.2.2.2.2.2.1
  refine va_mmax_long C.2.1 C.2.2.1 (C.2.2.2.1.trans hl.1.symm) C.2.2.2.2.1 (hB _ h1) (hB _ h2) (hB _ h3) (hB _ h4) (by rw [C.1]; exact hfr) (by rw [C.1, q_catsum]; show _ ≤ 43 * fr; omega) (by rw [C.1]; show cells ≤ mc; omega) (by rw [C.1]; show slots ≤ ms; omega) hd ?_
  have kk := k p l e R s m args below meth c D dA b n0 n mc ms H locs ls cells slots C hd2 hs hn hc hk hP hS hl
  have e9 : (if Int64.ofInt y < Int64.ofInt x then Int64.ofInt x else Int64.ofInt y) = Int64.ofInt (if x < y then y else x) := by
    by_cases q : y < x
    · rw [if_neg (show ¬ x < y by omega), if_pos ((q_64lt hy hx).mpr q)]
    · rw [if_neg (fun q2 => q ((q_64lt hy hx).mp q2))]
      by_cases q3 : x < y
      · rw [if_pos q3]
      · rw [if_neg q3, show x = y by omega]
  rw [e9]
  exact kk
/-- f's places from sp on, n of them, come to g's from dp on -/
def q_cpy (f g : Int → Int) (sp dp n : Int) : Int → Int := fun j => if dp ≤ j ∧ j < dp + n then f (sp + (j - dp)) else g j
theorem q_copyi {idx a0 a1 n0' n1' : Nat} {f g : Int → Int} {sp dp n' : Int} (h1 : Cond.methodLink M.1.cls idx arraycopyName ∈ q_B) (h2 : Cond.native arraycopyName ∈ q_B) (h3 : Cond.static arraycopyName ∈ q_B) (h4 : Cond.initialized "java/lang/System" ∈ q_B) (hw0 : w a0 = some (q_ia n0' f)) (hw1 : w a1 = some (q_ia n1' g)) (hs0 : 0 ≤ sp) (hd0 : 0 ≤ dp) (hn0 : 0 ≤ n') (hs1 : sp + n' ≤ n0') (hd1 : dp + n' ≤ n1') (hfr : 1 ≤ fr) (hroom : (st.map (fun v => v.category)).sum ≤ 8) (hd : decode M.2.1 pc = .ok (.invokestatic idx, 3)) (k : q_J M fr Q kc ks (pc + 3) lv st (q_up w a1 (q_ia n1' (q_cpy f g sp dp n')))) (hb0 : n0' < 2147483648 := by decide) (hb1 : n1' < 2147483648 := by decide) : q_J M fr Q kc ks pc lv (q_i n' :: q_i dp :: .ref a1 :: q_i sp :: .ref a0 :: st) w := by
  intro p l e R s m args below meth c D dA b n0 n mc ms H locs ls cells slots C hd2 hs hn hc hk hP hS hl
  have hB := C.2.2.2.2.2.2.2.2.1
  have r1 : q_r sp := ⟨by omega, by omega⟩
  have r2 : q_r dp := ⟨by omega, by omega⟩
  have r3 : q_r n' := ⟨by omega, by omega⟩
  have nn : ∀ z : Int, 0 ≤ z → q_r z → ¬ Int32.ofInt z < 0 := fun z h hr q => by rw [q_0, q_32lt hr q_r0] at q; omega
  refine va_copyi (D := D) C.2.1 C.2.2.1 (C.2.2.2.1.trans hl.1.symm) C.2.2.2.2.1 (hB _ h1) (hB _ h2) (hB _ h3) (hB _ h4) C.2.2.2.2.2.2.2.2.2.1.1 hP (q_c_D dA b w n) hS a0 a1 0 0 (ty := .int) (q_c_get hd2 hw0) (q_c_get hd2 hw1) rfl rfl rfl (nn _ hs0 r1) (nn _ hd0 r2) (nn _ hn0 r3) (by rw [q_cl r1, q_cl r3]; omega) (by rw [q_cl r2, q_cl r3]; omega) (fun _ _ => rfl) (by rw [C.1]; exact hfr) (by rw [C.1, q_catsum, show nativeFrameWords "java/lang/System" "arraycopy" 5 = 7 by decide]; show _ + (7 + 11) ≤ 43 * fr; omega) hd (fun H1 locs1 hP1 _ hS1 => ?_)
  rw [q_c_set (c := q_ia n1' (q_cpy f g sp dp n')) (hd2.lt hw1) (by
    rw [q_cl r1, q_cl r2, q_cl r3]
    show Sum.inl (dA 0, n1', Sum.inl (va_cpy (fun j : Nat => Int32.ofInt (f (j : Int))) (fun j : Nat => Int32.ofInt (g (j : Int))) sp.toNat dp.toNat n'.toNat)) = Sum.inl (dA 0, n1', Sum.inl (fun j : Nat => Int32.ofInt (q_cpy f g sp dp n' (j : Int))))
    congr 4
    funext j
    unfold va_cpy q_cpy
    by_cases q : dp.toNat ≤ j ∧ j < dp.toNat + n'.toNat
    · rw [if_pos q, if_pos (by omega)]
      dsimp only
      rw [show ((sp.toNat + (j - dp.toNat) : Nat) : Int) = sp + ((j : Int) - dp) by omega]
    · rw [if_neg q, if_neg (by omega)])] at hP1
  exact k p l e R s m args below meth c D dA b n0 n mc ms H1 locs1 ls cells slots C (hd2.up _ (hd2.lt hw1)) hs hn hc hk hP1 hS1 hl
theorem q_copyl {idx a0 a1 n0' n1' : Nat} {f g : Int → Int} {sp dp n' : Int} (h1 : Cond.methodLink M.1.cls idx arraycopyName ∈ q_B) (h2 : Cond.native arraycopyName ∈ q_B) (h3 : Cond.static arraycopyName ∈ q_B) (h4 : Cond.initialized "java/lang/System" ∈ q_B) (hw0 : w a0 = some (q_la n0' f)) (hw1 : w a1 = some (q_la n1' g)) (hs0 : 0 ≤ sp) (hd0 : 0 ≤ dp) (hn0 : 0 ≤ n') (hs1 : sp + n' ≤ n0') (hd1 : dp + n' ≤ n1') (hfr : 1 ≤ fr) (hroom : (st.map (fun v => v.category)).sum ≤ 8) (hd : decode M.2.1 pc = .ok (.invokestatic idx, 3)) (k : q_J M fr Q kc ks (pc + 3) lv st (q_up w a1 (q_la n1' (q_cpy f g sp dp n')))) (hb0 : n0' < 2147483648 := by decide) (hb1 : n1' < 2147483648 := by decide) : q_J M fr Q kc ks pc lv (q_i n' :: q_i dp :: .ref a1 :: q_i sp :: .ref a0 :: st) w := by
  intro p l e R s m args below meth c D dA b n0 n mc ms H locs ls cells slots C hd2 hs hn hc hk hP hS hl
  have hB := C.2.2.2.2.2.2.2.2.1
  have r1 : q_r sp := ⟨by omega, by omega⟩
  have r2 : q_r dp := ⟨by omega, by omega⟩
  have r3 : q_r n' := ⟨by omega, by omega⟩
  have nn : ∀ z : Int, 0 ≤ z → q_r z → ¬ Int32.ofInt z < 0 := fun z h hr q => by rw [q_0, q_32lt hr q_r0] at q; omega
  refine va_copyl (D := D) C.2.1 C.2.2.1 (C.2.2.2.1.trans hl.1.symm) C.2.2.2.2.1 (hB _ h1) (hB _ h2) (hB _ h3) (hB _ h4) C.2.2.2.2.2.2.2.2.2.1.1 hP (q_c_D dA b w n) hS a0 a1 1 1 (ty := .long) (q_c_get hd2 hw0) (q_c_get hd2 hw1) rfl rfl rfl (nn _ hs0 r1) (nn _ hd0 r2) (nn _ hn0 r3) (by rw [q_cl r1, q_cl r3]; omega) (by rw [q_cl r2, q_cl r3]; omega) (fun _ _ => rfl) (by rw [C.1]; exact hfr) (by rw [C.1, q_catsum, show nativeFrameWords "java/lang/System" "arraycopy" 5 = 7 by decide]; show _ + (7 + 11) ≤ 43 * fr; omega) hd (fun H1 locs1 hP1 _ hS1 => ?_)
  rw [q_c_set (c := q_la n1' (q_cpy f g sp dp n')) (hd2.lt hw1) (by
    rw [q_cl r1, q_cl r2, q_cl r3]
    show Sum.inl (dA 1, n1', Sum.inr (Sum.inl (va_cpy (fun j : Nat => Int64.ofInt (f (j : Int))) (fun j : Nat => Int64.ofInt (g (j : Int))) sp.toNat dp.toNat n'.toNat))) = Sum.inl (dA 1, n1', Sum.inr (Sum.inl (fun j : Nat => Int64.ofInt (q_cpy f g sp dp n' (j : Int)))))
    congr 5
    funext j
    unfold va_cpy q_cpy
    by_cases q : dp.toNat ≤ j ∧ j < dp.toNat + n'.toNat
    · rw [if_pos q, if_pos (by omega)]
      dsimp only
      rw [show ((sp.toNat + (j - dp.toNat) : Nat) : Int) = sp + ((j : Int) - dp) by omega]
    · rw [if_neg q, if_neg (by omega)])] at hP1
  exact k p l e R s m args below meth c D dA b n0 n mc ms H1 locs1 ls cells slots C (hd2.up _ (hd2.lt hw1)) hs hn hc hk hP1 hS1 hl
theorem q_tabOut {z dflt lo hi : Int} {offs : Array Int} {len tgt : Nat} (hd : decode M.2.1 pc = .ok (.tableswitch dflt lo hi offs, len)) (hz : q_r z) (h : z < lo ∨ hi < z) (ht : (pc : Int) + dflt = (tgt : Int)) (k : q_J M fr Q kc ks tgt lv st w) : q_J M fr Q kc ks pc lv (q_i z :: st) w :=
  q_go (fun _ _ _ _ _ _ _ _ _ _ _ _ _ _ _ _ _ hx hb _ _ _ k => lv_tableOut hx hb hd (by rw [q_32 hz]; exact h) ht k) k
theorem q_tabIn {z dflt lo hi off : Int} {offs : Array Int} {len tgt : Nat} (hd : decode M.2.1 pc = .ok (.tableswitch dflt lo hi offs, len)) (hz : q_r z) (h1 : lo ≤ z) (h2 : z ≤ hi) (ho : offs[(z - lo).toNat]? = some off) (ht : (pc : Int) + off = (tgt : Int)) (k : q_J M fr Q kc ks tgt lv st w) : q_J M fr Q kc ks pc lv (q_i z :: st) w :=
  q_go (fun _ _ _ _ _ _ _ _ _ _ _ _ _ _ _ _ _ hx hb _ _ _ k => lv_tableIn hx hb hd (by rw [q_32 hz]; omega) (by rw [q_32 hz]; omega) (by rw [q_32 hz]; exact ho) ht k) k
theorem q_objInit {idx a : Nat} (h1 : Cond.methodLink M.1.cls idx Lib.objectInit ∈ q_B) (h2 : Cond.instanceMethod Lib.objectInit ∈ q_B) (h3 : Cond.code Lib.objectInit ⟨#[0xb1]⟩ 1 none ∈ q_B) (hfr : 1 ≤ fr) (hroom : (st.map (fun v => v.category)).sum ≤ 8) (hd : decode M.2.1 pc = .ok (.invokespecial idx, 3)) (k : q_J M fr Q kc ks (pc + 3) lv st w) : q_J M fr Q kc ks pc lv (.ref a :: st) w := by
  intro p l e R s m args below meth c D dA b n0 n mc ms H locs ls cells slots C hd2 hs hn hc hk hP hS hl
  have hB := C.2.2.2.2.2.2.2.2.1
  exact W.objInit C.2.1 C.2.2.1 C.2.2.2.2.1 (hB _ h1) (hB _ h2) (hB _ h3) rfl (hl.1.trans C.2.2.2.1.symm) rfl hd (by rw [C.1]; exact hfr) (by rw [C.1, q_catsum]; show 2 * 0 + _ + 12 ≤ 43 * fr; omega) (k p l e R s m args below meth c D dA b n0 n mc ms H locs ls cells slots C hd2 hs hn hc hk hP hS hl)
end QR
