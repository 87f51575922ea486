/-! fields, arrays, calls, returns -/
def q_FL (own : String) (idx ci k : Nat) : Prop := ∃ (C : String) (T : u_T) (N : Nat) (ref : String), vwCl[ci]? = some (C, T, N) ∧ k < N ∧ (∀ w ∈ u_ws C T N, w ∈ q_B) ∧ Cond.fieldLink own idx ref (T k).2.1 (T k).2.2.1 ∈ q_B ∧ (ref = (T k).1 ∨ Cond.sameField ref (T k).1 (T k).2.1 (T k).2.2.1 ∈ q_B)
/-- a field that is put to: fin: it is final (its own constructor puts it) -/
def q_FP (own : String) (idx ci k : Nat) (ty : FieldType) (fin : Bool) : Prop := ∃ (C : String) (T : u_T) (N : Nat) (ref : String) (ty0 : Nat → FieldType), vwCl[ci]? = some (C, T, N) ∧ k < N ∧ (∀ w ∈ u_ws C T N, w ∈ q_B) ∧ Cond.fieldLink own idx ref (T k).2.1 (T k).2.2.1 ∈ q_B ∧ (ref = (T k).1 ∨ Cond.sameField ref (T k).1 (T k).2.1 (T k).2.2.1 ∈ q_B) ∧
  (∀ k, k < N → parseFieldDescriptor (T k).2.2.1 = some (ty0 k)) ∧ (∀ a, a < N → ∀ b, b < N → a ≠ b → (T a).2.1 ≠ (T b).2.1) ∧ (T k).2.2.2 = fin ∧ parseFieldDescriptor (T k).2.2.1 = some ty ∧ (fin = true → (T k).1 = own)
section QR
variable {M : q_M} {fr : Nat} {Q : Option Value → q_W → Prop} {kc ks pc : Nat} {lv : List (Option Value)} {st : List Value} {w : q_W}
theorem q_get {a ci fk idx : Nat} {fs : List Value} {v : Value} (hf : q_FL M.1.cls idx ci fk) (hw : w a = some (q_ob ci fs)) (hv : fs[fk]? = some v) (hd : decode M.2.1 pc = .ok (.getfield idx, 3)) (k : q_J M fr Q kc ks (pc + 3) lv (v :: st) w) : q_J M fr Q kc ks pc lv (.ref a :: st) w := by
  intro p l e R s m args below meth c D dA b n0 n mc ms H locs ls cells slots C hd2 hs hn hc hk hP hS hl
  obtain ⟨Cn, T, N, ref, h1, h2, h3, h4, h5⟩ := hf
  refine va_get (D := D) (ci := ci) (v := q_v b v) (C := Cn) (T := T) (N := N) C.2.1 C.2.2.1 C.2.2.2.2.2.2.2.2.1 h3 C.2.2.2.2.1 C.2.2.2.2.2.2.2.2.2.1.1 hP a (q_c_get hd2 hw) h1 fk h2 (C.2.2.2.2.2.2.2.2.1 _ h4) ?_ (by rw [List.getElem?_map, hv]; rfl) hd (k p l e R s m args below meth c D dA b n0 n mc ms H locs ls cells slots C hd2 hs hn hc hk hP hS hl)
  rcases h5 with h5 | h5
  · rw [h5]; exact fun _ h => h
  · exact fun x hx => u_same (C.2.2.2.2.2.2.2.2.1 _ h5) x hx
theorem q_put0 {a ci fk idx : Nat} {fs : List Value} {v : Value} {ty : FieldType} (hf : q_FP M.1.cls idx ci fk ty false) (hw : w a = some (q_ob ci fs)) (hl2 : fk < fs.length) (hn2 : ∀ b, narrow ty (q_v b v) = q_v b v) (hfit : ∀ b, fits ty (q_v b v) = true) (hd : decode M.2.1 pc = .ok (.putfield idx, 3)) (k : q_J M fr Q kc ks (pc + 3) lv st (q_up w a (q_ob ci (fs.set fk v)))) : q_J M fr Q kc ks pc lv (v :: .ref a :: st) w := by
  intro p l e R s m args below meth c D dA b n0 n mc ms H locs ls cells slots C hd2 hs hn hc hk hP hS hl
  obtain ⟨Cn, T, N, ref, ty0, h1, h2, h3, h4, h5, h6, h7, h8, h9, h10⟩ := hf
  refine va_put (D := D) (ci := ci) (v := q_v b v) (ty := ty) (C := Cn) (T := T) (N := N) C.2.1 C.2.2.1 C.2.2.2.2.2.2.2.2.1 h3 ty0 h6 h7 C.2.2.2.2.1 C.2.2.2.2.2.2.2.2.2.1.1 hP (q_c_D dA b w n) hS a (q_c_get hd2 hw) h1 fk h2 (C.2.2.2.2.2.2.2.2.1 _ h4) ?_ h8 h9 (hn2 b) (hfit b) (by rw [List.length_map]; exact hl2) hd (fun H1 locs1 hP1 _ hS1 => ?_)
  · rcases h5 with h5 | h5
    · rw [h5]; exact fun _ h => h
    · exact fun x hx => u_same (C.2.2.2.2.2.2.2.2.1 _ h5) x hx
  · rw [q_c_set (c := q_ob ci (fs.set fk v)) (hd2.lt hw) (by show _ = Sum.inr (ci, (fs.set fk v).map (q_v b)); rw [List.map_set])] at hP1
    exact k p l e R s m args below meth c D dA b n0 n mc ms H1 locs1 ls cells slots C (hd2.up _ (hd2.lt hw)) hs hn hc hk hP1 hS1 hl
theorem q_putF0 {a ci fk idx : Nat} {fs : List Value} {v : Value} {ty : FieldType} (hf : q_FP M.1.cls idx ci fk ty true) (hi : M.1.name = "<init>") (hw : w a = some (q_ob ci fs)) (hl2 : fk < fs.length) (hn2 : ∀ b, narrow ty (q_v b v) = q_v b v) (hfit : ∀ b, fits ty (q_v b v) = true) (hd : decode M.2.1 pc = .ok (.putfield idx, 3)) (k : q_J M fr Q kc ks (pc + 3) lv st (q_up w a (q_ob ci (fs.set fk v)))) : q_J M fr Q kc ks pc lv (v :: .ref a :: st) w := by
  intro p l e R s m args below meth c D dA b n0 n mc ms H locs ls cells slots C hd2 hs hn hc hk hP hS hl
  obtain ⟨Cn, T, N, ref, ty0, h1, h2, h3, h4, h5, h6, h7, h8, h9, h10⟩ := hf
  refine va_putF (D := D) (ci := ci) (v := q_v b v) (ty := ty) (C := Cn) (T := T) (N := N) C.2.1 C.2.2.1 C.2.2.2.2.2.2.2.2.1 h3 ty0 h6 h7 C.2.2.2.2.1 C.2.2.2.2.2.2.2.2.2.1.1 hP (q_c_D dA b w n) hS a (q_c_get hd2 hw) h1 fk h2 (C.2.2.2.2.2.2.2.2.1 _ h4) ?_ h8 (C.2.2.2.2.2.2.2.1.trans hi) (h10 rfl) h9 (hn2 b) (hfit b) (by rw [List.length_map]; exact hl2) hd (fun H1 locs1 hP1 _ hS1 => ?_)
  · rcases h5 with h5 | h5
    · rw [h5]; exact fun _ h => h
    · exact fun x hx => u_same (C.2.2.2.2.2.2.2.2.1 _ h5) x hx
  · rw [q_c_set (c := q_ob ci (fs.set fk v)) (hd2.lt hw) (by show _ = Sum.inr (ci, (fs.set fk v).map (q_v b)); rw [List.map_set])] at hP1
    exact k p l e R s m args below meth c D dA b n0 n mc ms H1 locs1 ls cells slots C (hd2.up _ (hd2.lt hw)) hs hn hc hk hP1 hS1 hl
theorem q_puti {a ci fk idx : Nat} {fs : List Value} {z : Int} (hf : q_FP M.1.cls idx ci fk .int false) (hw : w a = some (q_ob ci fs)) (hl2 : fk < fs.length) (hd : decode M.2.1 pc = .ok (.putfield idx, 3)) (k : q_J M fr Q kc ks (pc + 3) lv st (q_up w a (q_ob ci (fs.set fk (q_i z))))) : q_J M fr Q kc ks pc lv (q_i z :: .ref a :: st) w := q_put0 hf hw hl2 (fun _ => rfl) (fun _ => rfl) hd k
theorem q_putl {a ci fk idx : Nat} {fs : List Value} {z : Int} (hf : q_FP M.1.cls idx ci fk .long false) (hw : w a = some (q_ob ci fs)) (hl2 : fk < fs.length) (hd : decode M.2.1 pc = .ok (.putfield idx, 3)) (k : q_J M fr Q kc ks (pc + 3) lv st (q_up w a (q_ob ci (fs.set fk (q_l z))))) : q_J M fr Q kc ks pc lv (q_l z :: .ref a :: st) w := q_put0 hf hw hl2 (fun _ => rfl) (fun _ => rfl) hd k
theorem q_putro {a ci fk idx x : Nat} {fs : List Value} {C : String} (hf : q_FP M.1.cls idx ci fk (.object C) true) (hi : M.1.name = "<init>") (hw : w a = some (q_ob ci fs)) (hl2 : fk < fs.length) (hd : decode M.2.1 pc = .ok (.putfield idx, 3)) (k : q_J M fr Q kc ks (pc + 3) lv st (q_up w a (q_ob ci (fs.set fk (.ref x))))) : q_J M fr Q kc ks pc lv (.ref x :: .ref a :: st) w := q_putF0 hf hi hw hl2 (fun _ => rfl) (fun _ => rfl) hd k
theorem q_putra {a ci fk idx x : Nat} {fs : List Value} {t : FieldType} (hf : q_FP M.1.cls idx ci fk (.array t) true) (hi : M.1.name = "<init>") (hw : w a = some (q_ob ci fs)) (hl2 : fk < fs.length) (hd : decode M.2.1 pc = .ok (.putfield idx, 3)) (k : q_J M fr Q kc ks (pc + 3) lv st (q_up w a (q_ob ci (fs.set fk (.ref x))))) : q_J M fr Q kc ks pc lv (.ref x :: .ref a :: st) w := q_putF0 hf hi hw hl2 (fun _ => rfl) (fun _ => rfl) hd k
theorem q_iald {a n9 : Nat} {f : Int → Int} {z : Int} (hw : w a = some (q_ia n9 f)) (h0 : 0 ≤ z) (hz : z < n9) (hd : decode M.2.1 pc = .ok (.iaload, 1)) (k : q_J M fr Q kc ks (pc + 1) lv (q_i (f z) :: st) w) (hn9 : n9 < 2147483648 := by decide) : q_J M fr Q kc ks pc lv (q_i z :: .ref a :: st) w := by
  intro p l e R s m args below meth c D dA b n0 n mc ms H locs ls cells slots C hd2 hs hn hc hk hP hS hl
  have kk := k p l e R s m args below meth c D dA b n0 n mc ms H locs ls cells slots C hd2 hs hn hc hk hP hS hl
  refine va_iald (D := D) C.2.1 C.2.2.1 C.2.2.2.2.2.2.2.2.2.1.1 hP a 0 (q_c_get hd2 hw) rfl (q_ar (b := 0) h0 hz hn9) hd ?_
  rw [q_cl ⟨by omega, by omega⟩, Int.toNat_of_nonneg h0]
  exact kk
theorem q_lald {a n9 : Nat} {f : Int → Int} {z : Int} (hw : w a = some (q_la n9 f)) (h0 : 0 ≤ z) (hz : z < n9) (hd : decode M.2.1 pc = .ok (.laload, 1)) (k : q_J M fr Q kc ks (pc + 1) lv (q_l (f z) :: st) w) (hn9 : n9 < 2147483648 := by decide) : q_J M fr Q kc ks pc lv (q_i z :: .ref a :: st) w := by
  intro p l e R s m args below meth c D dA b n0 n mc ms H locs ls cells slots C hd2 hs hn hc hk hP hS hl
  have kk := k p l e R s m args below meth c D dA b n0 n mc ms H locs ls cells slots C hd2 hs hn hc hk hP hS hl
  refine va_lald (D := D) C.2.1 C.2.2.1 C.2.2.2.2.2.2.2.2.2.1.1 hP a 1 (q_c_get hd2 hw) rfl (q_ar (b := 0) h0 hz hn9) hd ?_
  rw [q_cl ⟨by omega, by omega⟩, Int.toNat_of_nonneg h0]
  exact kk
theorem q_iast {a n9 : Nat} {f : Int → Int} {z x : Int} (hw : w a = some (q_ia n9 f)) (h0 : 0 ≤ z) (hz : z < n9) (hd : decode M.2.1 pc = .ok (.iastore, 1)) (k : q_J M fr Q kc ks (pc + 1) lv st (q_up w a (q_ia n9 (q_us f z x)))) (hn9 : n9 < 2147483648 := by decide) : q_J M fr Q kc ks pc lv (q_i x :: q_i z :: .ref a :: st) w := by
  intro p l e R s m args below meth c D dA b n0 n mc ms H locs ls cells slots C hd2 hs hn hc hk hP hS hl
  refine va_iast (D := D) C.2.1 C.2.2.1 C.2.2.2.2.2.2.2.2.2.1.1 hP (q_c_D dA b w n) hS a 0 (q_c_get hd2 hw) rfl (q_ar (b := 0) h0 hz hn9) hd (fun H1 locs1 hP1 _ hS1 => ?_)
  rw [q_c_set (c := q_ia n9 (q_us f z x)) (hd2.lt hw) (by
    rw [q_cl ⟨by omega, by omega⟩]
    show Sum.inl (dA 0, n9, Sum.inl (upd (fun j : Nat => Int32.ofInt (f (j : Int))) z.toNat (Int32.ofInt x))) = Sum.inl (dA 0, n9, Sum.inl (fun j : Nat => Int32.ofInt (q_us f z x (j : Int))))
    congr 4
    funext j
    unfold upd q_us
    by_cases e : j = z.toNat
    · rw [if_pos e, if_pos (by omega)]
    · rw [if_neg e, if_neg (by omega)])] at hP1
  exact k p l e R s m args below meth c D dA b n0 n mc ms H1 locs1 ls cells slots C (hd2.up _ (hd2.lt hw)) hs hn hc hk hP1 hS1 hl
theorem q_last {a n9 : Nat} {f : Int → Int} {z x : Int} (hw : w a = some (q_la n9 f)) (h0 : 0 ≤ z) (hz : z < n9) (hd : decode M.2.1 pc = .ok (.lastore, 1)) (k : q_J M fr Q kc ks (pc + 1) lv st (q_up w a (q_la n9 (q_us f z x)))) (hn9 : n9 < 2147483648 := by decide) : q_J M fr Q kc ks pc lv (q_l x :: q_i z :: .ref a :: st) w := by
  intro p l e R s m args below meth c D dA b n0 n mc ms H locs ls cells slots C hd2 hs hn hc hk hP hS hl
  refine va_last (D := D) C.2.1 C.2.2.1 C.2.2.2.2.2.2.2.2.2.1.1 hP (q_c_D dA b w n) hS a 1 (q_c_get hd2 hw) rfl (q_ar (b := 0) h0 hz hn9) hd (fun H1 locs1 hP1 _ hS1 => ?_)
  rw [q_c_set (c := q_la n9 (q_us f z x)) (hd2.lt hw) (by
    rw [q_cl ⟨by omega, by omega⟩]
    show Sum.inl (dA 1, n9, Sum.inr (Sum.inl (vp_updL (fun j : Nat => Int64.ofInt (f (j : Int))) z.toNat (Int64.ofInt x)))) = Sum.inl (dA 1, n9, Sum.inr (Sum.inl (fun j : Nat => Int64.ofInt (q_us f z x (j : Int)))))
    congr 5
    funext j
    unfold vp_updL q_us
    by_cases e : j = z.toNat
    · rw [if_pos e, if_pos (by omega)]
    · rw [if_neg e, if_neg (by omega)])] at hP1
  exact k p l e R s m args below meth c D dA b n0 n mc ms H1 locs1 ls cells slots C (hd2.up _ (hd2.lt hw)) hs hn hc hk hP1 hS1 hl
theorem q_aald {a n9 ak : Nat} {f : Int → Option Nat} {z : Int} (hw : w a = some (q_ra ak n9 f)) (hak : ak = 2 ∨ ak = 3 ∨ ak = 4 ∨ ak = 5) (h0 : 0 ≤ z) (hz : z < n9) (hd : decode M.2.1 pc = .ok (.aaload, 1)) (k : q_J M fr Q kc ks (pc + 1) lv (q_rf (f z) :: st) w) (hn9 : n9 < 2147483648 := by decide) : q_J M fr Q kc ks pc lv (q_i z :: .ref a :: st) w := by
  intro p l e R s m args below meth c D dA b n0 n mc ms H locs ls cells slots C hd2 hs hn hc hk hP hS hl
  have kk := k p l e R s m args below meth c D dA b n0 n mc ms H locs ls cells slots C hd2 hs hn hc hk hP hS hl
  rw [List.map_cons, q_v_rf] at kk
  have hin := q_ar (b := 0) h0 hz hn9
  have hlt : (Int32.ofInt z).toNatClampNeg < n9 := by rw [q_cl ⟨by omega, by omega⟩]; omega
  have hget := q_c_get (dA := dA) (b := b) hd2 hw
  have hK := C.2.2.2.2.2.2.2.2.2.1.1
  obtain ⟨ty, ht, hty⟩ : ∃ ty, (q_tys dA)[ak]? = some (dA ak, ty) ∧ ty.isReference = true := by
    rcases hak with rfl | rfl | rfl | rfl
    · exact ⟨_, rfl, rfl⟩
    · exact ⟨_, rfl, rfl⟩
    · exact ⟨_, rfl, rfl⟩
    · exact ⟨_, rfl, rfl⟩
  refine W.aald (v := va_rf ((f z).map (fun x => b + x))) (ty := ty) C.2.1 C.2.2.1 (hP a _ hget) ((hK.2 ak _ ht).1 n9 _) hty (fun q => by cases q) (by show ¬ (Int32.ofInt z < 0 ∨ (arrV _ _ _).slots.size ≤ _); rw [arrV_size]; exact hin) (by show (arrV (dA ak) n9 (fun j : Nat => va_rf ((f (j : Int)).map (fun x => b + x)))).slots[_]? = _; rw [arrV_read _ _ hlt, q_cl ⟨by omega, by omega⟩, Int.toNat_of_nonneg h0]) rfl rfl hd kk
theorem q_alen {a n9 ak : Nat} {y : (Nat → Int32) ⊕ (Nat → Int64) ⊕ (Nat → UInt32) ⊕ (Nat → UInt64) ⊕ (Nat → Option Nat)} (hw : w a = some (.inl (ak, n9, y))) (hak : ak < 6) (hd : decode M.2.1 pc = .ok (.arraylength, 1)) (k : q_J M fr Q kc ks (pc + 1) lv (q_i n9 :: st) w) : q_J M fr Q kc ks pc lv (.ref a :: st) w := by
  intro p l e R s m args below meth c D dA b n0 n mc ms H locs ls cells slots C hd2 hs hn hc hk hP hS hl
  have kk := k p l e R s m args below meth c D dA b n0 n mc ms H locs ls cells slots C hd2 hs hn hc hk hP hS hl
  obtain ⟨ty, ht⟩ : ∃ ty, (q_tys dA)[ak]? = some (dA ak, ty) := by
    rcases (show ak = 0 ∨ ak = 1 ∨ ak = 2 ∨ ak = 3 ∨ ak = 4 ∨ ak = 5 by omega) with rfl | rfl | rfl | rfl | rfl | rfl <;> exact ⟨_, rfl⟩
  refine va_alen (D := D) C.2.1 C.2.2.1 C.2.2.2.2.2.2.2.2.2.1.1 hP a ak (q_c_get hd2 hw) ht (v := Int32.ofInt n9) ?_ hd kk
  have : (q_arr b (n9, y)).1 = n9 := by
    rcases y with y | y | y | y | y <;> rfl
  rw [this]
  rfl
/-! a call, by its run -/
theorem q_run {p : Program} {l : Launch} {e : Env} {R : Room} {s : State} {m : MethodId} {args : Array Value} {below : List Frame} {meth : Method} {c : Code} {H : Heap} {locs : List Loc} {cells slots kc1 ks1 n1 b : Nat} {Z : State → Prop} {ls : Array Slot} {st0 rest : List Value} {a : Array Value} {Q1 : Option Value → q_W → Prop} {D : va_G} {dA : Nat → ClassId}
    (hr : va_Run p l e R s m args below meth c H locs cells slots kc1 ks1 (F0 m pc ls st0) rest (q_Qc Q1 D dA b n1 a) (fun q => b ≤ q)) (hS : va_S (fun q => b ≤ q) s.heap H locs)
    (kk : ∀ (v : Option Value) (w' : q_W) (H1 : Heap) (locs1 : List Loc), Q1 v w' → q_dom w' n1 → va_P D vwCl (q_c dA b w' n1) H1 → va_S (fun q => b ≤ q) s.heap H1 locs1 → W p l e R s m args below meth c H1 locs1 (cells + kc1) (slots + ks1) Z (F0 m (pc + 3) ls ((v.toList ++ []).map (q_v b) ++ rest))) : W p l e R s m args below meth c H locs cells slots Z (F0 m pc ls st0) := by
  intro T hT X
  obtain ⟨v, st₀, t, T', L, h0, X', hL, e1, e2, ⟨⟨v', w', hv, hq, hd, hp⟩, hz, hk⟩, st⟩ := hr T hT X
  injection hv with hv
  subst hv
  rw [h0] at hz hk
  obtain ⟨t2, a1, b1⟩ := kk v' w' T'.heap (locs ++ L) hq hd (by rw [e1]; exact hp) ⟨Nat.le_trans hS.1 (by rw [e1]; exact hz), fun q h1 h2 => by rw [e1, hk q (Nat.lt_of_lt_of_le h1 hS.1) h2]; exact hS.2.1 q h1 h2, fun q hq => by
      rcases List.mem_append.mp hq with h | h
      · exact hS.2.2 q h
      · exact hL q h⟩ T' rfl X'
  refine ⟨t2, st t2 ?_, b1⟩
  have : (Option.map (q_v b) v').toList ++ rest = (v'.toList ++ []).map (q_v b) ++ rest := by cases v' <;> rfl
  dsimp only
  rw [this]
  exact a1
end QR
