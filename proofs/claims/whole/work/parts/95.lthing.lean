/-! the law's own way to thing: it catches -/
def mi_L_thing : ag_M := (⟨"WaxReignLaw", "thing", "(LWaxReign;II[J)I"⟩, method_3_code, 5, some .int, [(0, .aload_n 3, 1), (1, .iconst 0, 1), (2, .aload_n 0, 1), (3, .iload_n 1, 1), (4, .iload_n 2, 1), (5, .invokevirtual 7, 3), (8, .i2l, 1), (9, .lastore, 1), (10, .goto 7, 3), (13, .astore 4, 2), (15, .iconst 1, 1), (16, .ireturn, 1), (17, .iconst 0, 1), (18, .ireturn, 1)])
theorem mo_L_thing : aw_ok mi_L_thing := aw_ok_of (by decide +kernel)
abbrev tbL : List (Nat × Nat × Nat × Nat) := [(0, 10, 13, 13)]
abbrev wsLt : List Cond := Cond.codeWith (m_y mi_L_thing) (m_c mi_L_thing) 5 (some .int) tbL :: aw_tbl
theorem wd_Lt : Cond.codeWith (m_y mi_L_thing) (m_c mi_L_thing) 5 (some .int) tbL ∈ aw_tbl := aw_t5 150 rfl rfl
theorem cw_Lt : aw_cV "WaxReignLaw" 7 mi_X11_thing 2 := ⟨aw_t5 152 rfl rfl, aw_t5 153 rfl rfl, aw_t5 154 rfl rfl, aw_t1 1 rfl rfl, aw_t5 155 rfl rfl, ⟨by decide, by decide, by decide +kernel⟩⟩
theorem met_x {l : Launch} {y : MethodName} {ws : List Cond} {rm : Room} {Pc : Array Value → State → Prop} {Qc : Array Value → State → Outcome → State → Prop} {mc ms : Nat} {free : Addr → Prop} (h : vx_Met l y ws rm Pc Qc (fun _ _ _ => False) mc ms free) : Met l y ws rm Pc Qc mc ms free := by
  intro p e ha hc hk s m args below hf happ hP hK
  obtain ⟨n, o, h1, h2, h3, hQ⟩ := h p e ha hc hk s m args below hf happ hP hK
  rcases hQ with hQ | ⟨q, -, E, ce, L, hF, -⟩
  · exact ⟨n, o, h1, h2, h3, hQ⟩
  · exact hF.elim
def q_Lt (g : ag_G) (V : (Nat → Int32) → Int32) (s : am_S) (n : am_N) (t x : Int32) : Option Value → va_W → Prop := fun r w => ∃ s', eo skC s s' ∧ ((okC s t x = true ∧ r = some (.int 0) ∧ w = hp g s' (upL n 62 0 (q_thing V s t x).toInt64)) ∨ (okC s t x = false ∧ r = some (.int 1) ∧ w = hp g s' n))
set_option maxRecDepth 4000 in
theorem c_L_thing {l : Launch} {g : ag_G} {s : am_S} {n : am_N} (hl : l.stackTraces = false) (ht : aw_ht g) (hx : aw_hx g) {T Q : Nat} (hb : kb s T Q) {V : (Nat → Int32) → Int32} (hV : LawIs l g s n V) {t x : Int32} : Met l (m_y mi_L_thing) wsLt (aw_rm 7 1 6) (aw_Pc g [.ref (g_ad g 0), .int t, .int x, .ref (g_ad g 62)] (hp g s n)) (aw_Q g (q_Lt g V s n t x)) 1 6 (aw_A g) := by
  refine met_x (vx_ofWH (cc := m_c mi_L_thing) (maxL := 5) (ret := some .int) (hh := tbL) (by decide) rfl ?_)
  intro p e s0 m args below meth c s₁ B hml hv
  obtain ⟨rfl, hbb, hP, hD, hK, hX, hXM⟩ := hv
  have hts := atoms_spec (ws := wsLt) B.pre
  have htab : c.exceptionTable.toList = tableOf tbL := vx_table (x := m_y mi_L_thing) B (hts _ List.mem_cons_self)
  rw [lg_entry_eq]
  have hC : aw_C g mi_L_thing p s0 m _ meth c := ⟨B.exec, B.bytes, hml, findClass_of_methodNamed B.named, fun w hw => hts w (List.mem_cons_of_mem _ hw), B.returns, B.notSynchronized, hK, hX, hbb, hXM, mo_L_thing, (name_of_methodNamed B.named B.method).1, fun h => absurd rfl h⟩
  have hH : aw_H g (hp g s n) s0 s0.heap [] := ⟨hP, hD, va_S.rf⟩
  have hl0 := lv_entry [Value.ref (g_ad g 0), .int t, .int x, .ref (g_ad g 62)] (n := 5) (Nat.le_of_ble_eq_true rfl)
  have hL : aw_L _ 5 (aw_arg [Value.ref (g_ad g 0), .int t, .int x, .ref (g_ad g 62)]) := ⟨hl0.1, hl0.2.1, fun i v hi => hl0.2.2 (i, v) (by simpa using aw_arg_has _ i 0 v hi)⟩
  refine vx_ret ?_
  refine lv_aload_n hC.1 hC.2.1 (mo_L_thing _ _ _ rfl) rfl (hL.2.2 3 _ rfl) ?_
  refine lv_iconst (v := 0) hC.1 hC.2.1 (mo_L_thing _ _ _ rfl) (by decide) ?_
  refine lv_aload_n hC.1 hC.2.1 (mo_L_thing _ _ _ rfl) rfl (hL.2.2 0 _ rfl) ?_
  refine lv_iload_n hC.1 hC.2.1 (mo_L_thing _ _ _ rfl) rfl (hL.2.2 1 _ rfl) ?_
  refine lv_iload_n hC.1 hC.2.1 (mo_L_thing _ _ _ rfl) rfl (hL.2.2 2 _ rfl) ?_
  obtain ⟨w1, w2, w3, w4, w5, w6⟩ := cw_Lt
  refine aw_goesX (Z := aw_Z g (q_Lt g V s n t x) 1 6) hC hH hL (vx_runV (nL := 5) (cc := m_c mi_L_thing) (As := [.int t, .int x]) (b := g_ad g 0) (rest := [.int 0, .ref (g_ad g 62)]) (own := "WaxReignLaw") (index := 7) ⟨hC.1, hC.2.1, hC.2.2.1, hC.2.2.2.1, hC.2.2.2.2.1⟩ (c_X11_thing hl ht hx hb hV (t := t) (x := x)) (cwV (C := "WaxReign") (bytes := m_c mi_X11_thing) (maxL := 3) (ret := some .int) 2 hC.2.2.2.2.1 ?_ rfl rfl rfl ⟨rfl, w6⟩ ⟨by decide, by decide⟩) ⟨aw_blind, ?_, fun U hU hW => aw_pre hC hH hU hW⟩ rfl rfl hL.1 rfl (lv_room (Nat.le_of_ble_eq_true rfl)) (mo_L_thing _ _ _ rfl) ⟨by decide, by decide⟩) ?_ ?_
  · intro w hw
    rcases List.mem_append.mp hw with hw | hw
    · simp only [List.mem_cons, List.not_mem_nil, or_false] at hw
      rcases hw with rfl | rfl | rfl | rfl
      · exact aw_goodIn _ w1
      · exact aw_goodIn _ w2
      · exact aw_goodIn _ w3
      · exact aw_goodIn _ w4
    · exact aw_wsGood w5 w hw
  · exact va_recv (q0 := 0) (ci := 11) (q := (kR11, kT11, 14)) hC.2.2.2.2.2.2.2.1 hH.1 rfl rfl
  · rintro r w ⟨s', rfl, rfl, he, hok⟩
    refine aw_i2l rfl ?_
    refine ps_62 (j := 0) rfl rfl (by decide) ?_
    refine aw_goto (tgt := 17) rfl (by decide) ?_
    refine aw_iconst (v := 0) rfl (by decide) ?_
    exact aw_iret rfl rfl ⟨s', he, Or.inl ⟨hok, rfl, rfl⟩⟩
  · intro H1 locs1 q9 ce hH1 hno hce hcv hcl
    refine vx_catch (own := "WaxReignLaw") (name := nsE) (E := nsE) hC.2.2.2.1 [] ⟨0, 10, 13, 13⟩ [] (by rw [htab]; rfl) (fun z hz => nomatch hz) (by decide) (by decide) (hC.2.2.2.2.1 _ (aw_t5 151 rfl rfl)) (va_Nw.use rfl ((ht s0 hX).2.2 _ List.mem_cons_self)) hce hcv hcl ?_
    have k : aw_W l g mi_L_thing (aw_rm 7 1 6) (aw_Z g (q_Lt g V s n t x) 1 6) (0 + 1) (0 + 6) (hp g s n) 13 (aw_arg [Value.ref (g_ad g 0), .int t, .int x, .ref (g_ad g 62)]) [.ref q9] := by
      refine aw_astore rfl (by decide) ?_
      refine aw_iconst (v := 1) rfl (by decide) ?_
      exact aw_iret rfl rfl ⟨s, eo_rf, Or.inr ⟨hno, rfl, rfl⟩⟩
    exact k p e s0 m _ below meth c H1 locs1 _ hC hH1 hL
section AwLt
variable {l : Launch} {g : ag_G} {M : ag_M} {R : Room} {Z : ag_Z} {cells slots : Nat} {ws : va_W} {pc : Nat} {L : List (Option Value)} {st : List Value}
theorem aw_callW {n mc ms : Nat} {As rest st0 : List Value} {Q' : Option Value → va_W → Prop} (hown : (m_y M).cls = "WaxReignLaw") (hd : m_at M pc = some (.invokestatic 42, 3))
    (hM : Met l (m_y mi_L_thing) wsLt (aw_rm n mc ms) (aw_Pc g As ws) (aw_Q g Q') mc ms (aw_A g)) (hk : As.length = 4) (hst : st0 = As.reverse ++ rest) (hrest : (rest.map fun v => v.category).sum ≤ 8) (hf : n + 1 ≤ R.frames) (hlo : 8 + (5 + 11) + 100 * n ≤ R.locals) (h1 : cells + mc ≤ R.cells) (h2 : slots + ms ≤ R.slots)
    (kk : ∀ (r : Option Value) (ws' : va_W), Q' r ws' → aw_W l g M R Z (cells + mc) (slots + ms) ws' (pc + 3) L (r.toList ++ rest)) : aw_W l g M R Z cells slots ws pc L st0 := by
  intro p e s m args below meth c H locs ls hC hH hL
  subst hst
  refine aw_goes hC hH hL (vx_runSW (nL := m_n M) (cc := m_c M) (As := As) (hh := tbL) (bytes := m_c mi_L_thing) (maxL := 5) (ret := some .int) (own := (m_y M).cls) (index := 42) ⟨hC.1, hC.2.1, hC.2.2.1, hC.2.2.2.1, hC.2.2.2.2.1⟩ hM (vx_cwSW 4 hC.2.2.2.2.1 ?_ rfl rfl rfl ⟨by decide, by decide, by decide +kernel⟩ ⟨hf, hlo⟩) ⟨aw_blind, fun U hU hW => aw_pre hC hH hU hW⟩ rfl hk hL.1 rfl (lv_room hrest) (hC.2.2.2.2.2.2.2.2.2.2.2.1 _ _ _ hd) ⟨h1, h2⟩) kk
  intro w hw
  rcases List.mem_append.mp hw with hw | hw
  · simp only [List.mem_cons, List.not_mem_nil, or_false] at hw
    rcases hw with rfl | rfl | rfl
    · rw [hown]; exact aw_goodIn _ (aw_t5 148 rfl rfl)
    · exact aw_goodIn _ (aw_t5 149 rfl rfl)
    · exact aw_goodIn _ (aw_t1 0 rfl rfl)
  · rcases List.mem_cons.mp hw with rfl | hw
    · exact aw_goodIn _ wd_Lt
    · exact aw_goodIn _ hw
end AwLt
