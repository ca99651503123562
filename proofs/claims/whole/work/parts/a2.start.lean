/-! the law: its start -/
def lw_At (p : Program) (s : State) (m : MethodId) (meth : Method) (c : Code) (b L : Nat) (xs : Nat → Int32) : Prop :=
  p.tables.exec = Jvm.exec ∧ c.code = code ∧ meth.sig.returnType = ret ∧ c.maxLocals = 7 ∧ s.vm.findClass "WaxReignLaw" = some m.cls ∧ (∀ w ∈ lw_tbl, w.before #[Value.ref b] s = true) ∧ va_X b L xs s s.heap ∧ b < s.heap.size ∧ meth.locks = false ∧ (Jvm.Cond.and given_1 narrow_1).before #[Value.ref b] s = true ∧ meth.name = "law"
theorem aw_X_ad {ad ad' : Nat → Nat} {b : Nat} {U : State} (h : ∀ k, 63 ≤ k → ad' k = ad k) (hX : aw_X ad b U) : aw_X ad' b U := by
  have e1 : (fun i => ad' (100 + i)) = fun i => ad (100 + i) := funext fun i => h _ (by omega)
  have e2 : (fun i => ad' (112 + i)) = fun i => ad (112 + i) := funext fun i => h _ (by omega)
  unfold aw_X at hX ⊢
  unfold xT at hX ⊢
  simp only [e1, e2, h 100 (by decide), h 101 (by decide), h 102 (by decide), h 103 (by decide), h 104 (by decide), h 105 (by decide), h 106 (by decide), h 107 (by decide), h 108 (by decide), h 109 (by decide), h 110 (by decide), h 111 (by decide), h (130 + 0) (by decide), h (130 + 1) (by decide), h (130 + 2) (by decide), h (130 + 3) (by decide), h (130 + 4) (by decide), h (130 + 5) (by decide), h (130 + 6) (by decide)]
  exact hX
theorem adl {L : List Nat} {ad : Nat → Nat} {k : Nat} (h : L.length ≤ k) : L[k]?.getD (ad k) = ad k := by rw [List.getElem?_eq_none h]; rfl
theorem st_hx {ad : Nat → Nat} {D : va_G} {ca : Nat → ClassId} {b0 b L : Nat} {xs : Nat → Int32} : aw_hx (ad, D, ca, b0, st_X ad b0 b L xs) := fun U h => h.1
theorem st_hz {ad : Nat → Nat} {D : va_G} {ca : Nat → ClassId} {b0 b L : Nat} {xs : Nat → Int32} {ad' : Nat → Nat} : aw_hz (ad', D, ca, b0, st_X ad b0 b L xs) := ⟨fun U h => h.2.2.2.1.1, fun U h => h.2.2.2.2.2.1⟩
theorem st_hn {ad : Nat → Nat} {D : va_G} {ca : Nat → ClassId} {b0 b L : Nat} {xs : Nat → Int32} {ad' : Nat → Nat} : aw_hn (ad', D, ca, b0, st_X ad b0 b L xs) := ⟨fun U h => h.2.2.2.2.1.1, fun U h => h.2.2.2.2.1.2.1, fun U h => h.2.2.2.2.1.2.2.1, fun U h => h.2.2.2.2.1.2.2.2⟩
theorem st_ht {ad : Nat → Nat} {D : va_G} {ca : Nat → ClassId} {b0 b L : Nat} {xs : Nat → Int32} {ad' : Nat → Nat} : aw_ht (ad', D, ca, b0, st_X ad b0 b L xs) := fun U h => ⟨h.2.1, h.2.2.1, fun w hw => by
  obtain ⟨-, c2, c3, c4, c5⟩ := h.2.2.2.1
  simp only [List.mem_cons, List.not_mem_nil, or_false] at hw
  rcases hw with rfl | rfl | rfl | rfl
  · exact c2
  · exact c3
  · exact c4
  · exact c5⟩
theorem st_X7 {ad : Nat → Nat} {b0 b L : Nat} {xs : Nat → Int32} {U : State} (h : st_X ad b0 b L xs U) : va_X b L xs U U.heap := h.2.2.2.2.2.2
set_option maxRecDepth 40000 in
theorem lw_main {l : Launch} (hl : l.stackTraces = false) {ad : Nat → Nat} {D : va_G} {ca : Nat → ClassId} {b0 b L : Nat} {xs : Nat → Int32} (hb : b < b0) (hL : L ≤ 3584) : aw_W l (ad, D, ca, b0, st_X ad b0 b L xs) mi_L_law room_1 (lz (ad, D, ca, b0, st_X ad b0 b L xs)) 0 0 [] 0 [some (.ref b)] [] := by
  refine aw_newc (ci := 11) (N := 14) (fs := [.null, .null, .null, .null, .null, .null, .int 0, .int 0, .null, .null, .null, .null, .null, .null]) kY11 rfl (aw_t1 27 rfl rfl) (aw_t1 28 rfl rfl) (aw_t1 1 rfl rfl) rfl kI11 kO11 (by decide) (by decide) (by decide) (fun a => ?_)
  refine aw_dup rfl rfl ?_
  refine aw_callI (N := mi_X11_init) (k := 0) rfl ⟨aw_t1 29 rfl rfl, aw_t1 30 rfl rfl, aw_t1 1 rfl rfl, aw_t1 31 rfl rfl, rfl, rfl, ⟨by decide, by decide, by decide +kernel⟩⟩ (c_X11_init st_hz st_hn (a := a)) rfl rfl (Nat.le_of_ble_eq_true rfl) (by decide) (by decide) (by decide) (by decide) ?_
  rintro _ _ ⟨q0, q1, q2, q3, q4, q5, q6, q7, q8, q9, q10, q11, q12, q13, q14, q15, q16, q17, q18, q19, q20, q21, q22, q23, q24, q25, q26, q27, q28, q29, q30, q31, q32, q33, q34, q35, q36, q37, rfl, rfl⟩
  refine aw_astore_n rfl (by decide) ?_
  refine aw_newc (ci := 12) (N := 50) (fs := [.int 0, .null, .null, .null, .null, .null, .int 0, .int 0, .int 0, .int 0, .int 0, .int 0, .int 0, .int 0, .int 0, .null, .null, .int 0, .null, .null, .null, .null, .null, .null, .null, .null, .int 0, .int 0, .int 0, .int 0, .int 0, .int 0, .null, .null, .int 0, .int 0, .null, .null, .null, .int 0, .long 0, .null, .null, .null, .int 0, .int 0, .null, .int 0, .null, .int 0]) kY12 rfl (aw_t5 222 rfl rfl) (aw_t5 223 rfl rfl) (aw_t1 13 rfl rfl) rfl kI12 kO12 (by decide) (by decide) (by decide) (fun a2 => ?_)
  refine aw_dup rfl rfl ?_
  refine aw_callI (N := mi_X12_init) (k := 0) rfl ⟨aw_t5 224 rfl rfl, aw_t5 225 rfl rfl, aw_t1 13 rfl rfl, aw_t5 226 rfl rfl, rfl, rfl, ⟨by decide, by decide, by decide +kernel⟩⟩ (c_X12_init st_hx (a := a2)) rfl rfl (Nat.le_of_ble_eq_true rfl) (by decide) (by decide) (by decide) (by decide) ?_
  rintro _ _ ⟨p0, p1, p2, p3, p4, p5, p6, p7, p8, p9, p10, p11, p12, p13, p14, p15, p16, p17, p18, p19, p20, p21, rfl, rfl⟩
  refine aw_astore_n rfl (by decide) ?_
  refine aw_iconst (v := 1) rfl (by decide) ?_
  refine aw_newl (N := 1) rfl (aw_t6 141 rfl rfl) rfl (by decide) (by decide) (by decide) (fun z => ?_)
  refine aw_astore_n rfl (by decide) ?_
  refine aw_iconst (v := 0) rfl (by decide) ?_
  refine aw_istore rfl (by decide) ?_
  have hk : LK l ((fun k => ([a, q0, q1, q2, q3, q4, q5, q6, q7, q8, q9, q10, q11, q12, q13, q14, q15, q16, q17, q18, q19, q20, q21, q22, q23, q24, q25, q26, q27, q28, q29, q30, q31, q32, q33, q34, q35, q36, q37, a2, p0, p1, p2, p3, p4, p5, p6, p7, p8, p9, p10, p11, p12, p13, p14, p15, p16, p17, p18, p19, p20, p21, z])[k]?.getD (ad k)), D, ca, b0, st_X ad b0 b L xs) b L xs := ⟨fun U h => aw_X_ad (fun k hk => adl (by show 63 ≤ k; exact hk)) h.1, st_hz, st_ht, hl, fun U h => st_X7 h, hb, hL⟩
  exact aw_eqs (lw_loop hk 512 0 63 31060 s00 n00 (by omega) (by omega) (by omega) (by omega) REL_0) rfl rfl rfl

