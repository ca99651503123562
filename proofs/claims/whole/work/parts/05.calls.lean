section AwCalls
variable {l : Launch} {g : ag_G} {M : ag_M} {R : Room} {Z : ag_Z} {cells slots : Nat} {ws ws2 : va_W} {pc : Nat} {L : List (Option Value)} {st : List Value} {Q : Option Value → va_W → Prop}
theorem aw_end {s t : State} {args : Array Value} {H : Heap} {locs : List Loc} {r : Option Value} (hH : aw_H g ws s H locs) (hq : Q r ws) (ht : t.heap = H) : aw_Q g Q args s (.returned r) t :=
  ⟨⟨r, ws, rfl, hq, by rw [ht]; exact hH.1, hH.2.1⟩, hH.2.2.F ht⟩
theorem aw_iret {v : Int32} (hd : m_at M pc = some (.ireturn, 1)) (hr : m_r M = some .int) (hq : Q (some (.int v)) ws) : aw_W l g M R (aw_Z g Q cells slots) cells slots ws pc L [.int v] :=
  fun p e s m args below meth c H locs ls hC hH hL => W.iret hC.1 hC.2.1 (hC.2.2.2.2.2.1.trans hr) (fun t ht _ => aw_end hH hq ht) hH.2.2.2.2 (hC.2.2.2.2.2.2.2.2.2.2.2.1 _ _ _ hd) hC.2.2.2.2.2.2.1
theorem aw_zret {v : Int32} (hd : m_at M pc = some (.ireturn, 1)) (hr : m_r M = some .boolean) (hv : v = 0 ∨ v = 1) (hq : Q (some (.int v)) ws) : aw_W l g M R (aw_Z g Q cells slots) cells slots ws pc L [.int v] :=
  fun p e s m args below meth c H locs ls hC hH hL => W.zret (ty := .boolean) hC.1 hC.2.1 (hC.2.2.2.2.2.1.trans hr) (by rcases hv with rfl | rfl <;> rfl) (fun t ht _ => aw_end hH hq ht) hH.2.2.2.2 (hC.2.2.2.2.2.2.2.2.2.2.2.1 _ _ _ hd) hC.2.2.2.2.2.2.1
theorem aw_vret (hd : m_at M pc = some (.return_, 1)) (hr : m_r M = none) (hq : Q none ws) : aw_W l g M R (aw_Z g Q cells slots) cells slots ws pc L [] :=
  fun p e s m args below meth c H locs ls hC hH hL => W.vret hC.1 hC.2.1 (hC.2.2.2.2.2.1.trans hr) (fun t ht _ => aw_end hH hq ht) hH.2.2.2.2 (hC.2.2.2.2.2.2.2.2.2.2.2.1 _ _ _ hd) hC.2.2.2.2.2.2.1
theorem aw_aret {a : Nat} {t : FieldType} (hd : m_at M pc = some (.areturn, 1)) (hr : m_r M = some (.array t)) (hq : Q (some (.ref a)) ws) : aw_W l g M R (aw_Z g Q cells slots) cells slots ws pc L [.ref a] :=
  fun p e s m args below meth c H locs ls hC hH hL => W.aret hC.1 hC.2.1 (hC.2.2.2.2.2.1.trans hr) (Or.inr ⟨t, rfl⟩) (Or.inr ⟨a, rfl⟩) (fun t ht _ => aw_end hH hq ht) hH.2.2.2.2 (hC.2.2.2.2.2.2.2.2.2.2.2.1 _ _ _ hd) hC.2.2.2.2.2.2.1
theorem aw_sret {C : String} {a : Nat} (hd : m_at M pc = some (.areturn, 1)) (hr : m_r M = some (.object C)) (hq : Q (some (.ref a)) ws) : aw_W l g M R (aw_Z g Q cells slots) cells slots ws pc L [.ref a] :=
  fun p e s m args below meth c H locs ls hC hH hL => W.aret hC.1 hC.2.1 (hC.2.2.2.2.2.1.trans hr) (Or.inl ⟨C, rfl⟩) (Or.inr ⟨a, rfl⟩) (fun t ht _ => aw_end hH hq ht) hH.2.2.2.2 (hC.2.2.2.2.2.2.2.2.2.2.2.1 _ _ _ hd) hC.2.2.2.2.2.2.1
/-- a contract out of the walk of the body -/
theorem aw_M_of {n mc ms : Nat} {vs : List Value} (hok : aw_ok M) (hy : plainName (m_y M).cls = true) (hn : (lg_sl vs).length ≤ m_n M) (body : aw_W l g M (aw_rm n mc ms) (aw_Z g Q mc ms) 0 0 ws 0 (aw_arg vs) []) : aw_M l g M n mc ms vs ws Q := by
  refine Met.ofW (cc := m_c M) (maxL := m_n M) (ret := m_r M) hy rfl ?_
  intro p e s m args below meth c s₁ B hml hv
  obtain ⟨rfl, hb, hP, hD, hK, hX, hXM⟩ := hv
  have hts := atoms_spec (ws := aw_ws M) B.pre
  have ht : ∀ x ∈ c.exceptionTable.toList, False := by
    obtain ⟨meth9, c9, h1, h2, -, -, -, -, h7, -⟩ := Cond.code_spec B.named (hts _ List.mem_cons_self)
    cases Option.some.inj (h1.symm.trans B.method)
    cases Option.some.inj (h2.symm.trans (Stand.of_body B).code)
    intro x hx
    rw [Array.isEmpty_iff.mp h7] at hx
    cases hx
  rw [lg_entry_eq]
  refine body p e s m _ below meth c s.heap [] _ ⟨B.exec, B.bytes, hml, findClass_of_methodNamed B.named, fun w hw => hts w (List.mem_cons_of_mem _ hw), B.returns, B.notSynchronized, hK, hX, hb, hXM, hok, (name_of_methodNamed B.named B.method).1, fun _ => ht⟩ ⟨hP, hD, va_S.rf⟩ ?_
  have hl := lv_entry vs hn
  exact ⟨hl.1, hl.2.1, fun i v hi => hl.2.2 (i, v) (by simpa using aw_arg_has vs i 0 v hi)⟩
theorem aw_blind {vs : List Value} : FrameBlind (aw_Pc g vs ws) := by
  intro a U f mk h
  obtain ⟨h1, h2, h3, h4, h5, h6, h7⟩ := h
  exact ⟨h1, h2, h3, h4, va_K.moved (u := U) (U := U.calling f mk a) (Vm.Alike.refl U.vm) h5, h7 U (U.calling f mk a) h6 (Or.inr rfl) (Nat.le_refl _) (fun _ _ _ => rfl), h7⟩
theorem aw_pre {s U : State} {H : Heap} {locs : List Loc} {p : Program} {m : MethodId} {args : Array Value} {meth : Method} {c : Code} {vs : List Value} (hC : aw_C g M p s m args meth c) (hH : aw_H g ws s H locs) (hU : U.heap = H) (hW : s.WarmedH U.vm) : aw_Pc g vs ws vs.toArray U := by
  obtain ⟨-, -, -, -, -, -, -, hK, hX, hb, hXM, -⟩ := hC
  obtain ⟨hP, hD, hS⟩ := hH
  refine ⟨rfl, by rw [hU]; exact Nat.le_trans hb hS.1, by rw [hU]; exact hP, hD, va_K.moved hW.alike hK, ?_, hXM⟩
  exact hXM s U hX (Or.inl hW) (by rw [hU]; exact hS.1) (fun q h1 h2 => by rw [hU]; exact hS.2.1 q h1 h2)
theorem aw_goes {p : Program} {e : Env} {s : State} {m : MethodId} {args : Array Value} {below : List Frame} {meth : Method} {c : Code} {H : Heap} {locs : List Loc} {ls : Array Slot} {mc ms : Nat} {rest st0 : List Value} {a : Array Value} {Q' : Option Value → va_W → Prop}
    (hC : aw_C g M p s m args meth c) (hH : aw_H g ws s H locs) (hL : aw_L ls (m_n M) L)
    (hr : va_Run p l e R s m args below meth c H locs cells slots mc ms (F0 m pc ls st0) rest (aw_Q g Q' a) (aw_A g))
    (kk : ∀ (r : Option Value) (ws' : va_W), Q' r ws' → aw_W l g M R Z (cells + mc) (slots + ms) ws' (pc + 3) L (r.toList ++ rest)) :
    W p l e R s m args below meth c H locs cells slots (Z below args s) (F0 m pc ls st0) := by
  intro T hT X
  obtain ⟨v, st₀, t, T', LL, h0, X', hLL, e1, e2, ⟨⟨r, ws', hv, hq, hP, hD⟩, hz, hk⟩, st⟩ := hr T hT X
  cases hv
  rw [h0] at hz hk
  have hS := hH.2.2
  obtain ⟨t2, a1, b1⟩ := kk v ws' hq p e s m args below meth c T'.heap (locs ++ LL) ls hC
    ⟨by rw [e1]; exact hP, hD, Nat.le_trans hS.1 (by rw [e1]; exact hz), fun q h1 h2 => by rw [e1, hk q (Nat.lt_of_lt_of_le h1 hS.1) h2]; exact hS.2.1 q h1 h2, fun q hq => by
      rcases List.mem_append.mp hq with h | h
      · exact hS.2.2 q h
      · exact hLL q h⟩ hL T' rfl X'
  exact ⟨t2, st t2 a1, b1⟩
/-- the words of a call -/
def aw_cV (own : String) (index : Nat) (N : ag_M) (k : Nat) : Prop := Cond.methodLink own index (m_y N) ∈ aw_tbl ∧ Cond.instanceMethod (m_y N) ∈ aw_tbl ∧ Cond.selects (m_y N).cls (m_y N) (m_y N) ∈ aw_tbl ∧ Cond.initialized (m_y N).cls ∈ aw_tbl ∧ Cond.code (m_y N) (m_c N) (m_n N) (m_r N) ∈ aw_tbl ∧ ((m_y N).cls ≠ "java/lang/invoke/MethodHandle" ∧ (m_y N).cls ≠ "java/lang/invoke/VarHandle" ∧ (parseMethodDescriptor (m_y N).desc).map (fun d => d.parameters.length) = some k)
def aw_cS (own : String) (index : Nat) (N : ag_M) (k : Nat) : Prop := Cond.methodLink own index (m_y N) ∈ aw_tbl ∧ Cond.static (m_y N) ∈ aw_tbl ∧ Cond.initialized (m_y N).cls ∈ aw_tbl ∧ Cond.code (m_y N) (m_c N) (m_n N) (m_r N) ∈ aw_tbl ∧ ((m_y N).cls ≠ "java/lang/invoke/MethodHandle" ∧ (m_y N).cls ≠ "java/lang/invoke/VarHandle" ∧ (parseMethodDescriptor (m_y N).desc).map (fun d => d.parameters.length) = some k)
theorem aw_wsGood {N : ag_M} (h : Cond.code (m_y N) (m_c N) (m_n N) (m_r N) ∈ aw_tbl) : GoodIn aw_tbl (aw_ws N) := fun w hw => by
  rcases List.mem_cons.mp hw with rfl | hw
  · exact aw_goodIn _ h
  · exact aw_goodIn _ hw
theorem aw_callV {N : ag_M} {index n mc ms k q0 ci b : Nat} {C : vw_C} {fs As rest st0 : List Value} {Q' : Option Value → va_W → Prop}
    (hd : m_at M pc = some (.invokevirtual index, 3)) (hw : aw_cV (m_y M).cls index N k) (hc : aw_cl[ci]? = some C) (hcn : C.1 = (m_y N).cls) (he : ws[q0]? = some (b, .inr (ci, fs)))
    (hM : aw_M l g N n mc ms (.ref b :: As) ws Q') (hk : As.length = k) (hst : st0 = As.reverse ++ .ref b :: rest) (hrest : (rest.map fun v => v.category).sum ≤ 8) (hf : n + 1 ≤ R.frames) (hlo : 8 + (m_n N + 11) + 100 * n ≤ R.locals) (h1 : cells + mc ≤ R.cells) (h2 : slots + ms ≤ R.slots)
    (kk : ∀ (r : Option Value) (ws' : va_W), Q' r ws' → aw_W l g M R Z (cells + mc) (slots + ms) ws' (pc + 3) L (r.toList ++ rest)) : aw_W l g M R Z cells slots ws pc L st0 := by
  intro p e s m args below meth c H locs ls hC hH hL
  obtain ⟨w1, w2, w3, w4, w5, w6⟩ := hw
  subst hst
  refine aw_goes hC hH hL (va_runV (nL := m_n M) (cc := m_c M) (As := As) (b := b) ⟨hC.1, hC.2.1, hC.2.2.1, hC.2.2.2.1, hC.2.2.2.2.1⟩ hM (cwV (C := (m_y N).cls) (bytes := m_c N) (maxL := m_n N) (ret := m_r N) k hC.2.2.2.2.1 ?_ rfl rfl rfl ⟨rfl, w6⟩ ⟨hf, hlo⟩) ⟨aw_blind, ?_, fun U hU hW => aw_pre hC hH hU hW⟩ rfl hk hL.1 rfl (lv_room hrest) (hC.2.2.2.2.2.2.2.2.2.2.2.1 _ _ _ hd) ⟨h1, h2⟩) kk
  · intro w hw
    rcases List.mem_append.mp hw with hw | hw
    · simp only [List.mem_cons, List.not_mem_nil, or_false] at hw
      rcases hw with rfl | rfl | rfl | rfl
      · exact aw_goodIn _ w1
      · exact aw_goodIn _ w2
      · exact aw_goodIn _ w3
      · exact aw_goodIn _ w4
    · exact aw_wsGood w5 w hw
  · rw [← hcn]; exact va_recv hC.2.2.2.2.2.2.2.1 hH.1 hc he
theorem aw_callS {N : ag_M} {index n mc ms k : Nat} {As rest st0 : List Value} {Q' : Option Value → va_W → Prop}
    (hd : m_at M pc = some (.invokestatic index, 3)) (hw : aw_cS (m_y M).cls index N k)
    (hM : aw_M l g N n mc ms As ws Q') (hk : As.length = k) (hst : st0 = As.reverse ++ rest) (hrest : (rest.map fun v => v.category).sum ≤ 8) (hf : n + 1 ≤ R.frames) (hlo : 8 + (m_n N + 11) + 100 * n ≤ R.locals) (h1 : cells + mc ≤ R.cells) (h2 : slots + ms ≤ R.slots)
    (kk : ∀ (r : Option Value) (ws' : va_W), Q' r ws' → aw_W l g M R Z (cells + mc) (slots + ms) ws' (pc + 3) L (r.toList ++ rest)) : aw_W l g M R Z cells slots ws pc L st0 := by
  intro p e s m args below meth c H locs ls hC hH hL
  obtain ⟨w1, w2, w3, w5, w6⟩ := hw
  subst hst
  refine aw_goes hC hH hL (va_runS (nL := m_n M) (cc := m_c M) (As := As) ⟨hC.1, hC.2.1, hC.2.2.1, hC.2.2.2.1, hC.2.2.2.2.1⟩ hM (va_cwS (bytes := m_c N) (maxL := m_n N) (ret := m_r N) k hC.2.2.2.2.1 ?_ rfl rfl rfl w6 ⟨hf, hlo⟩) ⟨aw_blind, fun U hU hW => aw_pre hC hH hU hW⟩ rfl hk hL.1 rfl (lv_room hrest) (hC.2.2.2.2.2.2.2.2.2.2.2.1 _ _ _ hd) ⟨h1, h2⟩) kk
  intro w hw
  rcases List.mem_append.mp hw with hw | hw
  · simp only [List.mem_cons, List.not_mem_nil, or_false] at hw
    rcases hw with rfl | rfl | rfl
    · exact aw_goodIn _ w1
    · exact aw_goodIn _ w2
    · exact aw_goodIn _ w3
  · exact aw_wsGood w5 w hw
end AwCalls
