/-! a throw, and who catches it -/
abbrev nsE : String := "java/util/NoSuchElementException"
abbrev nsN : List String := ["java/lang/RuntimeException", "java/lang/Exception"]
abbrev nsR : ByteArray := prog_32_method_4_code
abbrev nsB : List Cond := [Cond.castable nsE nsE, .declares ⟨"java/lang/RuntimeException", "<init>", "(Ljava/lang/String;)V"⟩, .declares ⟨"java/lang/Exception", "<init>", "(Ljava/lang/String;)V"⟩, .declares ⟨"java/lang/Throwable", "<init>", "(Ljava/lang/String;)V"⟩]
theorem ns_g : ∀ w ∈ (tw_atS "WaxReign" 163 nsE 13 nsR nsN).filter goodWord, w ∈ aw_tbl := by decide +kernel
theorem ns_b : ∀ w ∈ (tw_atS "WaxReign" 163 nsE 13 nsR nsN).filter (fun w => !goodWord w), w ∈ nsB := by decide +kernel
theorem ns_t : ∀ w ∈ nsB, w.onTables = true := by decide +kernel
theorem ns_o : ∀ w ∈ Cond.classLink "WaxReign" 159 nsE :: Cond.initialized nsE :: tw_atS "WaxReign" 163 nsE 13 nsR nsN, vx_ot w = true := by decide +kernel
def aw_ht (g : ag_G) : Prop := ∀ U, g_X g U → vx_Zq Bundle.tN "UNASSIGNED_STACK" Bundle.steD (aw_A g) U U.heap ∧ vx_Zq Bundle.tN "SUPPRESSED_SENTINEL" Bundle.listD (aw_A g) U U.heap ∧ ∀ w ∈ nsB, va_Nw w U
def aw_XC (g : ag_G) (P : Prop) (ws0 : va_W) : String → State → State → Prop := fun E st t => E = nsE ∧ P ∧ va_P (g_D g) aw_cl ws0 t.heap ∧ va_D (aw_A g) ws0 ∧ va_F (aw_A g) st t
def aw_ZX (g : ag_G) (Q : Option Value → va_W → Prop) (P : Prop) (ws0 : va_W) (mc ms : Nat) : ag_Z := fun below args s => vx_MQ below (aw_Q g Q) (aw_XC g P ws0) args s mc ms (aw_A g)
def aw_MX (l : Launch) (g : ag_G) (M : ag_M) (n mc ms : Nat) (vs : List Value) (ws : va_W) (Q : Option Value → va_W → Prop) (P : Prop) (ws0 : va_W) : Prop := vx_Met l (m_y M) (aw_ws M) (aw_rm n mc ms) (aw_Pc g vs ws) (aw_Q g Q) (aw_XC g P ws0) mc ms (aw_A g)
section AwX
variable {l : Launch} {g : ag_G} {M : ag_M} {R : Room} {Z : ag_Z} {cells slots : Nat} {ws ws0 : va_W} {pc : Nat} {L : List (Option Value)} {st : List Value} {Q : Option Value → va_W → Prop} {P : Prop}
theorem aw_rx {mc ms : Nat} (k : aw_W l g M R (aw_Z g Q mc ms) cells slots ws pc L st) : aw_W l g M R (aw_ZX g Q P ws0 mc ms) cells slots ws pc L st :=
  fun p e s m args below meth c H locs ls hC hH hL => vx_ret (k p e s m args below meth c H locs ls hC hH hL)
theorem aw_MX_of {n mc ms : Nat} {vs : List Value} (hok : aw_ok M) (hy : plainName (m_y M).cls = true) (hn : (lg_sl vs).length ≤ m_n M) (body : aw_W l g M (aw_rm n mc ms) (aw_ZX g Q P ws0 mc ms) 0 0 ws 0 (aw_arg vs) []) : aw_MX l g M n mc ms vs ws Q P ws0 := by
  refine vx_ofW (cc := m_c M) (maxL := m_n M) (ret := m_r M) hy rfl ?_
  intro p e s m args below meth c s₁ B hml ht hv
  obtain ⟨rfl, hb, hP, hD, hK, hX, hXM⟩ := hv
  have hts := atoms_spec (ws := aw_ws M) B.pre
  rw [lg_entry_eq]
  refine body p e s m _ below meth c s.heap [] _ ⟨B.exec, B.bytes, hml, findClass_of_methodNamed B.named, fun w hw => hts w (List.mem_cons_of_mem _ hw), B.returns, B.notSynchronized, hK, hX, hb, hXM, hok, (name_of_methodNamed B.named B.method).1, fun _ => ht⟩ ⟨hP, hD, va_S.rf⟩ ?_
  have hl := lv_entry vs hn
  exact ⟨hl.1, hl.2.1, fun i v hi => hl.2.2 (i, v) (by simpa using aw_arg_has vs i 0 v hi)⟩
theorem aw_throwS {mc ms is sa : Nat} {text : String} (hl : l.stackTraces = false) (ht : aw_ht g) (hstr : ∀ U, g_X g U → vk_R "WaxReign" is text sa U) (d0 : m_at M pc = some (.new 159, 3)) (d3 : m_at M (pc + 3) = some (.dup, 1)) (d4 : m_at M (pc + 4) = some (.ldc is, 2)) (d6 : m_at M (pc + 6) = some (.invokespecial 163, 3)) (d9 : m_at M (pc + 9) = some (.athrow, 1)) (hM : (m_y M).cls = "WaxReign") (hf : 5 < R.frames) (hlo : (st.map fun v => v.category).sum + 82 ≤ R.locals) (hc : cells + 1 ≤ R.cells) (hs : slots + 6 ≤ R.slots) (hp : P) (hmc : cells + 1 ≤ mc) (hms : slots + 6 ≤ ms) : aw_W l g M R (aw_ZX g Q P ws mc ms) cells slots ws pc L st := by
  intro p e s m args below meth c H locs ls hC hH hL
  have hts := hC.2.2.2.2.1
  have hX := hC.2.2.2.2.2.2.2.2.1
  have hok := hC.2.2.2.2.2.2.2.2.2.2.2.1
  have htb := hC.2.2.2.2.2.2.2.2.2.2.2.2.2 (by rw [hM]; decide)
  obtain ⟨hP, hD, hS⟩ := hH
  refine tw_throwS (ix := 13) (rx := nsR) (by decide +kernel) (by decide +kernel) (by decide +kernel) (by decide +kernel) (cc := m_c M) (own := "WaxReign") (cls := nsE) (names := nsN) (text := text) (ik := 159) (is := is) (ic := 163) (sa := sa) (A := aw_A g) hC.1 hC.2.1 hl (by rw [← hM]; exact hC.2.2.2.1) (by decide +kernel) (by decide +kernel) (hts _ (aw_t5 156 rfl rfl)) (hts _ (aw_t1 25 rfl rfl)) (hstr s hX) (vx_hat (fun w hw => hts w (ns_g w hw)) ns_b (fun w hw => va_Nw.use (ns_t w hw) ((ht s hX).2.2 w hw))) ns_o (ht s hX).1 (ht s hX).2.1 hS (hL.1.trans hC.2.2.1.symm) (hok _ _ _ d0) (hok _ _ _ d3) (hok _ _ _ d4) (hok _ _ _ d6) (hok _ _ _ d9) (fun x hx => (htb x hx).elim) hf hlo hc hs hC.2.2.2.2.2.2.1 (fun t _ h1 h2 => ?_) hS.2.2 hmc hms
  exact ⟨rfl, hp, hP.kept (fun k x hx => h2 x.1 ((hP k x hx).lt)), hD, Nat.le_trans hS.1 h1, fun q hq hA => (h2 q (Nat.lt_of_lt_of_le hq hS.1)).trans (hS.2.1 q hq hA)⟩
theorem aw_goesX {p : Program} {e : Env} {s : State} {m : MethodId} {args : Array Value} {below : List Frame} {meth : Method} {c : Code} {H : Heap} {locs : List Loc} {ls : Array Slot} {mc ms : Nat} {rest st0 : List Value} {a : Array Value} {Q' : Option Value → va_W → Prop}
    (hC : aw_C g M p s m args meth c) (hH : aw_H g ws s H locs) (hL : aw_L ls (m_n M) L)
    (hr : vx_Run p l e R s m args below meth c H locs cells slots mc ms (F0 m pc ls st0) rest (aw_Q g Q' a) (aw_XC g P ws0) (aw_A g))
    (kk : ∀ (r : Option Value) (ws' : va_W), Q' r ws' → aw_W l g M R Z (cells + mc) (slots + ms) ws' (pc + 3) L (r.toList ++ rest))
    (kx : ∀ (H1 : Heap) (locs1 : List Loc) (q9 : Addr) (ce : Cell), aw_H g ws0 s H1 locs1 → P → H1[q9]? = some ce → ce.vm = .none → s.vm.findClass nsE = some ce.cls → vx_W p l e R s m args below meth c H1 locs1 (cells + mc) (slots + ms) (Z below args s) (F0 m pc ls rest) q9) :
    W p l e R s m args below meth c H locs cells slots (Z below args s) (F0 m pc ls st0) := by
  intro T hT X
  have hS := hH.2.2
  rcases hr T hT X with ⟨v, st₀, t, T', LL, h0, X', hLL, e1, e2, ⟨⟨r, ws', hv, hq, hP, hD⟩, hz, hk⟩, st⟩ | ⟨q9, st₀, t, T', LL, E, ce, h0, X', hLL, e1, e2, ⟨rfl, hp, hP, hD, hz, hk⟩, hce, hcv, hcl, st⟩
  · cases hv
    rw [h0] at hz hk
    obtain ⟨t2, a1, b1⟩ := kk v ws' hq p e s m args below meth c T'.heap (locs ++ LL) ls hC
      ⟨by rw [e1]; exact hP, hD, Nat.le_trans hS.1 (by rw [e1]; exact hz), fun q h1 h2 => by rw [e1, hk q (Nat.lt_of_lt_of_le h1 hS.1) h2]; exact hS.2.1 q h1 h2, fun q hq => by
        rcases List.mem_append.mp hq with h | h
        · exact hS.2.2 q h
        · exact hLL q h⟩ hL T' rfl X'
    exact ⟨t2, st t2 a1, b1⟩
  · rw [h0] at hz hk
    obtain ⟨t2, a1, b1⟩ := kx T'.heap (locs ++ LL) q9 ce ⟨by rw [e1]; exact hP, hD, Nat.le_trans hS.1 (by rw [e1]; exact hz), fun q h1 h2 => by rw [e1, hk q (Nat.lt_of_lt_of_le h1 hS.1) h2]; exact hS.2.1 q h1 h2, fun q hq => by
        rcases List.mem_append.mp hq with h | h
        · exact hS.2.2 q h
        · exact hLL q h⟩ hp (by rw [e1]; exact hce) hcv hcl T' rfl X'
    exact ⟨t2, st.trans a1, b1⟩
end AwX
def okC (s : am_S) (t x : Int32) : Bool := isT s t && (!decide (x < 0) && !decide (6 < x))
def q_thing (V : (Nat → Int32) → Int32) (s : am_S) (t x : Int32) : Int32 := if x = 0 then s 18 (cl t) else if x = 1 then s 19 (cl t) else if x = 2 then s 20 (cl t) else if x = 3 then s 16 (5 + cl t) else if x = 4 then s 16 (12 + cl t) else if x = 5 then s 16 (19 + cl t) else hdN V s (cl t)
theorem x06 (q : Int32) : (q = 0 ∨ q = 1 ∨ q = 2 ∨ q = 3 ∨ q = 4 ∨ q = 5 ∨ q = 6) ∨ q < 0 ∨ 6 < q := by
  by_cases h : q < 0
  · exact Or.inr (Or.inl h)
  · by_cases h6 : 6 < q
    · exact Or.inr (Or.inr h6)
    · obtain ⟨j, hj, rfl⟩ := nI_of2 (M := 6) (n := 6) (by decide) h (Int32.not_lt.mp h6)
      left
      have : j = 0 ∨ j = 1 ∨ j = 2 ∨ j = 3 ∨ j = 4 ∨ j = 5 ∨ j = 6 := by omega
      rcases this with rfl | rfl | rfl | rfl | rfl | rfl | rfl <;> decide
set_option maxRecDepth 4000 in
theorem c_X11_thing {l : Launch} {g : ag_G} {s : am_S} {n : am_N} (hl : l.stackTraces = false) (ht : aw_ht g) (hx : aw_hx g) {T Q : Nat} (hb : kb s T Q) {V : (Nat → Int32) → Int32} (hV : LawIs l g s n V) {t x : Int32} : aw_MX l g mi_X11_thing 6 1 6 [.ref (g_ad g 0), .int t, .int x] (hp g s n) (fun r w => ∃ s', r = some (.int (q_thing V s t x)) ∧ w = hp g s' n ∧ eo skC s s' ∧ okC s t x = true) (okC s t x = false) (hp g s n) := by
  have hT := hb.2.1
  refine aw_MX_of mo_X11_thing (by decide) (Nat.le_of_ble_eq_true rfl) ?_
  refine aw_aload_n rfl rfl ?_
  refine pg_0_8 rfl kl_X11_57 ?_
  refine aw_iload_n rfl rfl ?_
  refine aw_iV (q0 := 15) (ci := 8) rfl cw_X11_155 rfl rfl rfl (c_X8_isThing) rfl rfl (Nat.le_of_ble_eq_true rfl) (by decide) (by decide) (by decide) (by decide) ?_
  refine aw_if_ne (tgt := 21) rfl (by decide) (fun h8 => ?_) (fun h8 => ?_)
  · have hk : isT s t = true := bB_n0.mp h8
    obtain ⟨j, hj, rfl⟩ := isT_nI hb hk
    have hcj : cl (nI j) = j := cl_nI (by omega)
    refine aw_iload_n rfl rfl ?_
    refine aw_sw 0 (fun h22_0 => ?_) (fun h22_0 => ?_)
    · refine aw_tabIn (off := 42) (tgt := 64) rfl (by decide) (by decide) (by decide) (by decide) ?_
      refine aw_aload_n rfl rfl ?_
      refine pg_0_8 rfl kl_X11_57 ?_
      refine pg_15_3 rfl kl_X11_166 ?_
      refine aw_iload_n rfl rfl ?_
      refine pl_18 (j := j) rfl rfl (by omega) ?_
      exact aw_rx (aw_widen (c' := 1) (s' := 6) (by decide) (by decide) (aw_iret rfl rfl ⟨_, congrArg (fun z => some (Value.int z)) (by unfold q_thing; rw [if_pos h22_0, hcj]), rfl, eo_rf, (by unfold okC; rw [hk, h22_0]; rfl)⟩))
    · skip
      refine aw_sw 1 (fun h22_1 => ?_) (fun h22_1 => ?_)
      · refine aw_tabIn (off := 52) (tgt := 74) rfl (by decide) (by decide) (by decide) (by decide) ?_
        refine aw_aload_n rfl rfl ?_
        refine pg_0_8 rfl kl_X11_57 ?_
        refine pg_15_4 rfl kl_X11_169 ?_
        refine aw_iload_n rfl rfl ?_
        refine pl_19 (j := j) rfl rfl (by omega) ?_
        exact aw_rx (aw_widen (c' := 1) (s' := 6) (by decide) (by decide) (aw_iret rfl rfl ⟨_, congrArg (fun z => some (Value.int z)) (by unfold q_thing; rw [if_neg h22_0, if_pos h22_1, hcj]), rfl, eo_rf, (by unfold okC; rw [hk, h22_1]; rfl)⟩))
      · skip
        refine aw_sw 2 (fun h22_2 => ?_) (fun h22_2 => ?_)
        · refine aw_tabIn (off := 62) (tgt := 84) rfl (by decide) (by decide) (by decide) (by decide) ?_
          refine aw_aload_n rfl rfl ?_
          refine pg_0_8 rfl kl_X11_57 ?_
          refine pg_15_5 rfl kl_X11_172 ?_
          refine aw_iload_n rfl rfl ?_
          refine pl_20 (j := j) rfl rfl (by omega) ?_
          exact aw_rx (aw_widen (c' := 1) (s' := 6) (by decide) (by decide) (aw_iret rfl rfl ⟨_, congrArg (fun z => some (Value.int z)) (by unfold q_thing; rw [if_neg h22_0, if_neg h22_1, if_pos h22_2, hcj]), rfl, eo_rf, (by unfold okC; rw [hk, h22_2]; rfl)⟩))
        · skip
          refine aw_sw 3 (fun h22_3 => ?_) (fun h22_3 => ?_)
          · refine aw_tabIn (off := 72) (tgt := 94) rfl (by decide) (by decide) (by decide) (by decide) ?_
            refine aw_aload_n rfl rfl ?_
            refine pg_0_8 rfl kl_X11_57 ?_
            refine pg_15_1 rfl kl_X11_149 ?_
            refine aw_iconst (v := 5) rfl (by decide) ?_
            refine aw_iload_n rfl rfl ?_
            refine aw_iadd rfl ?_
            refine pl_16 (j := 5 + j) rfl (nI_add 5 j) (by omega) ?_
            exact aw_rx (aw_widen (c' := 1) (s' := 6) (by decide) (by decide) (aw_iret rfl rfl ⟨_, congrArg (fun z => some (Value.int z)) (by unfold q_thing; rw [if_neg h22_0, if_neg h22_1, if_neg h22_2, if_pos h22_3, hcj]), rfl, eo_rf, (by unfold okC; rw [hk, h22_3]; rfl)⟩))
          · skip
            refine aw_sw 4 (fun h22_4 => ?_) (fun h22_4 => ?_)
            · refine aw_tabIn (off := 84) (tgt := 106) rfl (by decide) (by decide) (by decide) (by decide) ?_
              refine aw_aload_n rfl rfl ?_
              refine pg_0_8 rfl kl_X11_57 ?_
              refine pg_15_1 rfl kl_X11_149 ?_
              refine aw_bipush (v := 12) rfl (by decide) ?_
              refine aw_iload_n rfl rfl ?_
              refine aw_iadd rfl ?_
              refine pl_16 (j := 12 + j) rfl (nI_add 12 j) (by omega) ?_
              exact aw_rx (aw_widen (c' := 1) (s' := 6) (by decide) (by decide) (aw_iret rfl rfl ⟨_, congrArg (fun z => some (Value.int z)) (by unfold q_thing; rw [if_neg h22_0, if_neg h22_1, if_neg h22_2, if_neg h22_3, if_pos h22_4, hcj]), rfl, eo_rf, (by unfold okC; rw [hk, h22_4]; rfl)⟩))
            · skip
              refine aw_sw 5 (fun h22_5 => ?_) (fun h22_5 => ?_)
              · refine aw_tabIn (off := 97) (tgt := 119) rfl (by decide) (by decide) (by decide) (by decide) ?_
                refine aw_aload_n rfl rfl ?_
                refine pg_0_8 rfl kl_X11_57 ?_
                refine pg_15_1 rfl kl_X11_149 ?_
                refine aw_bipush (v := 19) rfl (by decide) ?_
                refine aw_iload_n rfl rfl ?_
                refine aw_iadd rfl ?_
                refine pl_16 (j := 19 + j) rfl (nI_add 19 j) (by omega) ?_
                exact aw_rx (aw_widen (c' := 1) (s' := 6) (by decide) (by decide) (aw_iret rfl rfl ⟨_, congrArg (fun z => some (Value.int z)) (by unfold q_thing; rw [if_neg h22_0, if_neg h22_1, if_neg h22_2, if_neg h22_3, if_neg h22_4, if_pos h22_5, hcj]), rfl, eo_rf, (by unfold okC; rw [hk, h22_5]; rfl)⟩))
              · skip
                refine aw_sw 6 (fun h22_6 => ?_) (fun h22_6 => ?_)
                · refine aw_tabIn (off := 110) (tgt := 132) rfl (by decide) (by decide) (by decide) (by decide) ?_
                  refine aw_aload_n rfl rfl ?_
                  refine pg_0_8 rfl kl_X11_57 ?_
                  refine aw_iload_n rfl rfl ?_
                  refine aw_eV (q0 := 15) (ci := 8) rfl cw_X11_175 rfl rfl rfl (c_X8_holdsNow hb hj hV) rfl rfl (Nat.le_of_ble_eq_true rfl) (by decide) (by decide) (by decide) (by decide) (fun s1 e1 => ?_)
                  exact aw_rx (aw_widen (c' := 1) (s' := 6) (by decide) (by decide) (aw_iret rfl rfl ⟨_, congrArg (fun z => some (Value.int z)) (by unfold q_thing; rw [if_neg h22_0, if_neg h22_1, if_neg h22_2, if_neg h22_3, if_neg h22_4, if_neg h22_5, hcj]), rfl, e1, (by unfold okC; rw [hk, h22_6]; rfl)⟩))
                · skip
                  refine aw_tabOut (tgt := 141) rfl (by have e0 := ne_toInt h22_0 (i := 0) (by decide); have e1 := ne_toInt h22_1 (i := 1) (by decide); have e2 := ne_toInt h22_2 (i := 2) (by decide); have e3 := ne_toInt h22_3 (i := 3) (by decide); have e4 := ne_toInt h22_4 (i := 4) (by decide); have e5 := ne_toInt h22_5 (i := 5) (by decide); have e6 := ne_toInt h22_6 (i := 6) (by decide); omega) (by decide) ?_
                  exact aw_throwS hl ht (xr_X11_178 hx) rfl rfl rfl rfl rfl rfl (by decide) (by decide) (by decide) (by decide) (by unfold okC; have e : ∀ q : Int32, (q = 0 ∨ q = 1 ∨ q = 2 ∨ q = 3 ∨ q = 4 ∨ q = 5 ∨ q = 6) ∨ q < 0 ∨ 6 < q := x06; rcases e x with (h | h | h | h | h | h | h) | h | h; exact absurd h h22_0; exact absurd h h22_1; exact absurd h h22_2; exact absurd h h22_3; exact absurd h h22_4; exact absurd h h22_5; exact absurd h h22_6; (rw [decide_eq_true h]; cases isT s (nI j) <;> rfl); (rw [decide_eq_true h]; cases isT s (nI j) <;> cases decide (x < 0) <;> rfl)) (by decide) (by decide)
  · exact aw_throwS hl ht (xr_X11_161 hx) rfl rfl rfl rfl rfl rfl (by decide) (by decide) (by decide) (by decide) (by unfold okC; rw [bB_0.mp h8]; rfl) (by decide) (by decide)
