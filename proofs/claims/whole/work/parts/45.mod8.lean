/-! the reference: what a drop holds -/
/-- a call that finds more than eight words on the stack -/
theorem ax_runV {p : Program} {l : Launch} {e : Env} {R : Room} {s : State} {m : MethodId} {args : Array Value} {below : List Frame} {meth : Method} {c : Code} {H : Heap} {locs : List Loc} {cells slots : Nat} {y : MethodName} {bytes cc : ByteArray} {maxL nL mc ms n index : Nat} {ret : Option FieldType} {ws : List Cond} {rm : Room} {Pc : Array Value → State → Prop} {Qc : Array Value → State → Outcome → State → Prop} {free : Addr → Prop} {Ts : List Cond} {own C : String} {b : Addr} {As rest : List Value} {g : JFrame}
    (S : CallFix p m c cc nL s args Ts own) (hM : Met l y ws rm Pc Qc mc ms free) (cw : CallW R s args own C index y bytes maxL ret ws rm mc ms n) (h16 : 16 + (maxL + 11) + rm.locals ≤ R.locals) (hp : PreV s H C b Pc As)
    (hg : g.method = m) (hn : As.length = n) (hsize : g.locals.size = nL) (hstack : g.stack = As.reverse ++ .ref b :: rest) (hW : 2 * g.monitorRoom + (rest.map fun v => v.category).sum ≤ 16) (hdg : decode cc g.pc = .ok (.invokevirtual index, 3)) (hf : cells + mc ≤ R.cells ∧ slots + ms ≤ R.slots) :
    va_Run p l e R s m args below meth c H locs cells slots mc ms g rest (Qc (Value.ref b :: As).toArray) (free) := by
  have hK : Back l R p e below s args y 3 16 (PreOf R mc ms Pc) (PostOf Qc mc ms free) := by
    obtain ⟨hrc, hrs, hfr, hlo, hws, hcw, -, hini, -⟩ := cw.1
    exact back_of (bytes := bytes) (maxL := maxL) (ret := ret) hM hp.1 hrc hrs hfr h16 hws hcw (fun a' U hW => word_at hW (Or.inl (by first | rfl | simp [Cond.onTables, Cond.keeps, Cond.steady])) hini)
  obtain ⟨⟨-, -, -, -, -, -, hcode, -, hy, hlen, hl⟩, hin, hse⟩ := cw
  obtain ⟨hx, hb, hml, ho, -⟩ := S
  obtain ⟨-, ⟨cellB, hcB, hoB, hclB⟩, hPc⟩ := hp
  intro T hT X
  obtain ⟨v, vm₁, ⟨U', l2, c2, s2⟩, hW₁, X', ⟨g', mk, t, L, e1, e2, hq, h1, hL, h2, h3⟩, st⟩ := callV X hx (C := C) (bytes := bytes) (maxL := maxL) (ret := ret) ho hl hin hse hcode hy hK (by rw [hT]; exact hcB) hoB hclB hg (hsize.trans hml.symm) (argsL := As) (rest := rest) (fun sig h => hn.trans (hlen sig h)) hstack hW (by rw [hb]; exact hdg)
    (fun vm₁ hW₁ => ⟨hf.1, hf.2, hPc (T.setVm vm₁) hT hW₁⟩)
  dsimp only [Pt.U, Pt.locs, Pt.cells, Pt.slots] at X' e1 e2 h1 h2 h3 st
  subst h1; subst h2; subst h3
  exact ⟨v, (T.setVm vm₁).calling g' mk (Value.ref b :: As).toArray, t, U', L, hT, X', hL, e1, e2, hq, st⟩
section AwBig
variable {l : Launch} {g : ag_G} {M : ag_M} {R : Room} {Z : ag_Z} {cells slots : Nat} {ws ws2 : va_W} {pc : Nat} {L : List (Option Value)} {st : List Value}
theorem aw_callB {N : ag_M} {index n mc ms k q0 ci b : Nat} {C : vw_C} {fs As rest st0 : List Value} {Q' : Option Value → va_W → Prop}
    (hd : m_at M pc = some (.invokevirtual index, 3)) (hw : aw_cV (m_y M).cls index N k) (hc : aw_cl[ci]? = some C) (hcn : C.1 = (m_y N).cls) (he : ws[q0]? = some (b, .inr (ci, fs)))
    (hM : aw_M l g N n mc ms (.ref b :: As) ws Q') (hk : As.length = k) (hst : st0 = As.reverse ++ .ref b :: rest) (hrest : (rest.map fun v => v.category).sum ≤ 16) (hf : n + 1 ≤ R.frames) (hlo : 16 + (m_n N + 11) + 100 * n ≤ R.locals) (h1 : cells + mc ≤ R.cells) (h2 : slots + ms ≤ R.slots)
    (kk : ∀ (r : Option Value) (ws' : va_W), Q' r ws' → aw_W l g M R Z (cells + mc) (slots + ms) ws' (pc + 3) L (r.toList ++ rest)) : aw_W l g M R Z cells slots ws pc L st0 := by
  intro p e s m args below meth c H locs ls hC hH hL
  obtain ⟨w1, w2, w3, w4, w5, w6⟩ := hw
  subst hst
  refine aw_goes hC hH hL (ax_runV (nL := m_n M) (cc := m_c M) (As := As) (b := b) ⟨hC.1, hC.2.1, hC.2.2.1, hC.2.2.2.1, hC.2.2.2.2.1⟩ hM (cwV (C := (m_y N).cls) (bytes := m_c N) (maxL := m_n N) (ret := m_r N) k hC.2.2.2.2.1 ?_ rfl rfl rfl ⟨rfl, w6⟩ ⟨hf, Nat.le_trans (Nat.add_le_add_right (Nat.add_le_add_right (by decide) _) _) hlo⟩) hlo ⟨aw_blind, ?_, fun U hU hW => aw_pre hC hH hU hW⟩ rfl hk hL.1 rfl (by show 2 * 0 + _ ≤ 16; omega) (hC.2.2.2.2.2.2.2.2.2.2.2.1 _ _ _ hd) ⟨h1, h2⟩) kk
  · intro w hw
    rcases List.mem_append.mp hw with hw | hw
    · simp only [List.mem_cons, List.not_mem_nil, or_false] at hw
      rcases hw with rfl | rfl | rfl | rfl
      · exact aw_goodIn _ w1
      · exact aw_goodIn _ w2
      · exact aw_goodIn _ w3
      · exact aw_goodIn _ w4
    · exact aw_wsGood w5 w hw
  · rw [← hcn]; exact va_recv hC.2.2.2.2.2.2.2.1 hH.1 hc he
theorem aw_iB {N : ag_M} {index d k q0 ci b : Nat} {C : vw_C} {fs As rest st0 : List Value} {v : Value}
    (hd : m_at M pc = some (.invokevirtual index, 3)) (hw : aw_cV (m_y M).cls index N k) (hc : aw_cl[ci]? = some C) (hcn : C.1 = (m_y N).cls) (he : ws[q0]? = some (b, .inr (ci, fs)))
    (hM : aw_F l g N d (.ref b :: As) ws v ws2) (hk : As.length = k) (hst : st0 = As.reverse ++ .ref b :: rest) (hrest : (rest.map fun v => v.category).sum ≤ 16) (hf : d + 1 ≤ R.frames) (hlo : 16 + (m_n N + 11) + 100 * d ≤ R.locals) (h1 : cells ≤ R.cells) (h2 : slots ≤ R.slots)
    (kk : aw_W l g M R Z cells slots ws2 (pc + 3) L (v :: rest)) : aw_W l g M R Z cells slots ws pc L st0 :=
  aw_callB hd hw hc hcn he hM hk hst hrest hf hlo h1 h2 (by rintro r w ⟨rfl, rfl⟩; exact kk)
end AwBig
/-- the reference's own scratch: letters, memo, the reader's fields -/
def skM : Nat → Nat → Bool := fun k j => Nat.beq k 43 || Nat.beq k 55 || (Nat.beq k 39 && [8, 9, 10, 11, 12, 13, 14, 17].contains j)
def en (n n' : am_N) : Prop := (∀ k, Nat.beq k 54 = false → n'.1 k = n.1 k) ∧ n'.2.1 = n.2.1 ∧ n'.2.2.2 = n.2.2.2
theorem en_rf {n : am_N} : en n n := ⟨fun _ _ => rfl, rfl, rfl⟩
theorem en_tr {n n1 n2 : am_N} (h : en n n1) (h2 : en n1 n2) : en n n2 := ⟨fun k e => (h2.1 k e).trans (h.1 k e), h2.2.1.trans h.2.1, h2.2.2.trans h.2.2⟩
def aw_R (l : Launch) (g : ag_G) (N : ag_M) (d : Nat) (K : Nat → Nat → Bool) (vs : List Value) (s : am_S) (n : am_N) (MI : am_S → am_N → Prop) (v : Value) (s2 : am_S) : Prop := aw_M l g N d 0 0 vs (hp g s n) (fun r w => ∃ s' n', r = some v ∧ w = hp g s' n' ∧ eo K s2 s' ∧ en n n' ∧ MI s' n')
section AwR
variable {l : Launch} {g : ag_G} {M : ag_M} {R : Room} {Z : ag_Z} {cells slots : Nat} {pc : Nat} {L : List (Option Value)} {st : List Value} {s s2 : am_S} {n n0 : am_N} {K : Nat → Nat → Bool} {MI : am_S → am_N → Prop}
theorem aw_R_of {d : Nat} {vs : List Value} {v : Value} (hok : aw_ok M) (hy : plainName (m_y M).cls = true) (hn : (lg_sl vs).length ≤ m_n M) (body : aw_W l g M (aw_rm d 0 0) (aw_Z g (fun r w => ∃ s' n', r = some v ∧ w = hp g s' n' ∧ eo K s2 s' ∧ en n n' ∧ MI s' n') 0 0) 0 0 (hp g s n) 0 (aw_arg vs) []) : aw_R l g M d K vs s n MI v s2 := aw_M_of hok hy hn body
theorem aw_rV {N : ag_M} {index d k q0 ci b : Nat} {C : vw_C} {fs As rest st0 : List Value} {v : Value}
    (hd : m_at M pc = some (.invokevirtual index, 3)) (hw : aw_cV (m_y M).cls index N k) (hc : aw_cl[ci]? = some C) (hcn : C.1 = (m_y N).cls) (he : (hp g s n)[q0]? = some (b, .inr (ci, fs)))
    (hM : aw_R l g N d K (.ref b :: As) s n MI v s2) (hk : As.length = k) (hst : st0 = As.reverse ++ .ref b :: rest) (hrest : (rest.map fun v => v.category).sum ≤ 8) (hf : d + 1 ≤ R.frames) (hlo : 8 + (m_n N + 11) + 100 * d ≤ R.locals) (h1 : cells ≤ R.cells) (h2 : slots ≤ R.slots)
    (kk : ∀ s' n', eo K s2 s' → en n n' → MI s' n' → aw_W l g M R Z cells slots (hp g s' n') (pc + 3) L (v :: rest)) : aw_W l g M R Z cells slots (hp g s n) pc L st0 :=
  aw_callV hd hw hc hcn he hM hk hst hrest hf hlo h1 h2 (by rintro r w ⟨s', n', rfl, rfl, e1, e2, e3⟩; exact kk s' n' e1 e2 e3)
theorem aw_ri {v x : Int32} {s' : am_S} {n' : am_N} (hd : m_at M pc = some (.ireturn, 1)) (hr : m_r M = some .int) (hv : v = x) (he : eo K s2 s') (hn : en n n') (hm : MI s' n') : aw_W l g M R (aw_Z g (fun r w => ∃ s' n', r = some (.int x) ∧ w = hp g s' n' ∧ eo K s2 s' ∧ en n n' ∧ MI s' n') cells slots) cells slots (hp g s' n') pc L [.int v] := aw_iret hd hr ⟨s', n', by rw [hv], rfl, he, hn, hm⟩
end AwR
/-- what the law gives: worthOf's contract, and what the memo's invariant looks at -/
def LM (l : Launch) (g : ag_G) (MI : am_S → am_N → Prop) (V : (Nat → Int32) → Int32) (w : Int32) : Prop :=
  (w = -1 → ∀ A : Nat → Int32, V A = A 0 + 2 * A 1 - A 2) ∧
  (¬ w = -1 → ∀ (s : am_S) (n : am_N), s 39 34 = w → MI s n → ∀ a b c d e f : Nat, a < 100 → b < 10 → c < 10 → d < 12 → e < 10 → f < 10 → aw_R l g mi_X12_worthOf 100 skM [.ref (g_ad g 39), .int (nI a), .int (nI b), .int (nI c), .int (nI d), .int (nI e), .int (nI f)] s n MI (.int (V (lets (nI a) (nI b) (nI c) (nI d) (nI e) (nI f)))) s) ∧
  (∀ (s s' : am_S) (n n' : am_N), MI s n → s' 41 = s 41 → s' 42 = s 42 → s' 55 = s 55 → s' 39 7 = s 39 7 → s' 43 = s 43 → n'.1 54 = n.1 54 → MI s' n') ∧
  (∀ A B : Nat → Int32, (∀ i, i < 6 → A i = B i) → V A = V B)
/-- the reference's kingdom, law and memo -/
def MC (l : Launch) (g : ag_G) (MI : am_S → am_N → Prop) (V : (Nat → Int32) → Int32) (s : am_S) (n : am_N) (T Q : Nat) : Prop := mb s T Q ∧ LM l g MI V (s 39 34) ∧ MI s n ∧ ∀ j, j < T → (∃ h, h ≤ 40 ∧ s 46 (5 * j + 1) = nI h) ∧ ∃ d, d ≤ 9 ∧ s 46 (5 * j + 2) = nI d
def rwb (f : Nat → Int32) (T Q : Nat) : Prop := (∀ j, j < T → (∃ u, u ≤ 9 ∧ f (3 * j) = nI u) ∧ ∃ D, D ≤ 9 ∧ f (3 * j + 1) = nI D) ∧ (∀ r, r < Q → ∃ k, k ≤ 9 ∧ f (21 + 2 * r) = nI k) ∧ ∃ tm, tm ≤ 9999 ∧ f 35 = nI tm
theorem eo_cell {K : Nat → Nat → Bool} {s s' : am_S} (e : eo K s s') (k : Nat) (h : ∀ j, K k j = false) : s' k = s k := funext fun j => e k j (h j)
theorem mb_m {s s' : am_S} {T Q : Nat} (h : mb s T Q) (h1 : s' 39 26 = s 39 26) (h2 : s' 39 27 = s 39 27) (h3 : s' 46 = s 46) : mb s' T Q := by
  unfold mb
  rw [h1, h2, h3]
  exact h
theorem MC.eo {l : Launch} {g : ag_G} {MI : am_S → am_N → Prop} {V : (Nat → Int32) → Int32} {s s' : am_S} {n n' : am_N} {T Q : Nat} (h : MC l g MI V s n T Q) (e : eo skM s s') (hm : MI s' n') : MC l g MI V s' n' T Q := by
  have e46 := eo_cell e 46 (fun _ => rfl)
  refine ⟨mb_m h.1 (e 39 26 rfl) (e 39 27 rfl) e46, by rw [e 39 34 rfl]; exact h.2.1, hm, ?_⟩
  rw [e46]
  exact h.2.2.2
theorem rm12_nI {t : Nat} (h : t < 2 ^ 31) : rm12 (nI t) = nI (t % 12) := pk_rem (d := 12) h (by decide) (by decide)
def hbm (V : (Nat → Int32) → Int32) (s : am_S) (f : Nat → Int32) (j : Nat) (h w su time : Int32) : Int32 := mm (V (lets h w su (rm12 time) (s 46 (5 * j + 2)) (f (21 + 2 * cl (s 46 (5 * j))))))
def hnm (V : (Nat → Int32) → Int32) (s : am_S) (f : Nat → Int32) (j : Nat) : Int32 := hbm V s f j (s 46 (5 * j + 1)) (f (3 * j + 1)) (f (3 * j)) (f 35)
def mtm (V : (Nat → Int32) → Int32) (s : am_S) (j : Nat) (h w su : Int32) (i : Nat) : Bool := decide (hbm V s (s 52) j h w su (s 52 35 + nI i) < warm (s 52 32) (s 52 35 + nI i))
def oN : Option Nat → Int32
  | none => -1
  | some i => nI i + 1
theorem hbm_m {V : (Nat → Int32) → Int32} {s s' : am_S} (e : eo skM s s') : hbm V s' = hbm V s := by
  funext f j h w su t
  unfold hbm
  rw [e 46 _ rfl, e 46 _ rfl]
theorem mtm_m {V : (Nat → Int32) → Int32} {s s' : am_S} (e : eo skM s s') : mtm V s' = mtm V s := by
  funext j h w su i
  unfold mtm
  rw [hbm_m e, eo_cell e 52 (fun _ => rfl)]
set_option maxRecDepth 4000 in
theorem c_m_holdsBy {l : Launch} {g : ag_G} {s : am_S} {n : am_N} {MI : am_S → am_N → Prop} {V : (Nat → Int32) → Int32} {T Q : Nat} (hC : MC l g MI V s n T Q) (hr : rwb (s 52) T Q) {j a b c tm : Nat} (hj : j < T) (ha : a < 100) (hb : b < 10) (hc : c < 10) (ht : tm < 2 ^ 31) : aw_R l g mi_X12_holdsBy 101 skM [.ref (g_ad g 39), .int (nI j), .int (nI a), .int (nI b), .int (nI c), .int (nI tm)] s n MI (.int (hbm V s (s 52) j (nI a) (nI b) (nI c) (nI tm))) s := by
  have hT := hC.1.2.1
  have hQ := hC.1.2.2.2.1
  obtain ⟨o, ho, hoe⟩ := hC.1.2.2.2.2 j hj
  obtain ⟨⟨hh, hhl, hhe⟩, dd, hdl, hde⟩ := hC.2.2.2 j hj
  obtain ⟨kk, hkl, hke⟩ := hr.2.1 o ho
  have hco : cl (s 46 (5 * j)) = o := by rw [hoe]; exact cl_nI (by omega)
  refine aw_R_of mo_X12_holdsBy (by decide) (Nat.le_of_ble_eq_true rfl) ?_
  refine aw_aload_n rfl rfl ?_
  refine pg_39_34 rfl kl_X12_67 ?_
  refine aw_iconst (v := -1) rfl (by decide) ?_
  refine aw_icmp_ne (tgt := 19) rfl (by decide) (fun h5 => ?_) (fun h5 => ?_)
  · have q5 : ¬ s 39 34 = -1 := h5
    refine aw_aload_n rfl rfl ?_
    refine aw_iload_n rfl rfl ?_
    refine aw_iload_n rfl rfl ?_
    refine aw_iload rfl rfl ?_
    refine aw_iload rfl rfl ?_
    refine aw_bipush (v := 12) rfl (by decide) ?_
    refine aw_irem rfl (by decide) ?_
    refine aw_aload_n rfl rfl ?_
    refine aw_iload_n rfl rfl ?_
    refine aw_iconst (v := 2) rfl (by decide) ?_
    refine aw_iV (q0 := 39) (ci := 12) rfl cw_X12_319 rfl rfl rfl (c_m_of (j := j) (c := 2) (by omega) (by decide)) rfl rfl (Nat.le_of_ble_eq_true rfl) (by decide) (by decide) (by decide) (by decide) ?_
    refine aw_aload_n rfl rfl ?_
    refine pg_39_32 rfl kl_X12_61 ?_
    refine aw_bipush (v := 21) rfl (by decide) ?_
    refine aw_iconst (v := 2) rfl (by decide) ?_
    refine aw_aload_n rfl rfl ?_
    refine aw_iload_n rfl rfl ?_
    refine aw_iconst (v := 0) rfl (by decide) ?_
    refine aw_iB (q0 := 39) (ci := 12) rfl cw_X12_319 rfl rfl rfl (c_m_of (j := j) (c := 0) (by omega) (by decide)) rfl rfl (Nat.le_of_ble_eq_true rfl) (by decide) (by decide) (by decide) (by decide) ?_
    refine aw_imul rfl ?_
    refine aw_iadd rfl ?_
    refine pl_52 rfl (show (21 : Int32) + 2 * s 46 (5 * j) = nI (21 + 2 * o) from by (rw [hoe]; exact i21 o)) (by omega) ?_
    refine aw_rV (q0 := 39) (ci := 12) rfl cw_X12_322 rfl rfl rfl ((show aw_R l g mi_X12_worthOf 100 skM [.ref (g_ad g 39), .int (nI a), .int (nI b), .int (nI c), .int (rm12 (nI tm)), .int (s 46 (5 * j + 2)), .int (s 52 (21 + 2 * o))] s n MI (.int (V (lets (nI a) (nI b) (nI c) (rm12 (nI tm)) (s 46 (5 * j + 2)) (s 52 (21 + 2 * o))))) s from by (rw [rm12_nI ht, hde, hke]; exact hC.2.1.2.1 h5 s n rfl hC.2.2.1 a b c (tm % 12) dd kk ha hb hc (Nat.mod_lt _ (by decide)) (by omega) (by omega)))) rfl rfl (Nat.le_of_ble_eq_true rfl) (by decide) (by decide) (by decide) (by decide) (fun s1 n1 e1 f1 m1 => ?_)
    refine aw_istore rfl (by decide) ?_
    refine aw_iconst (v := 0) rfl (by decide) ?_
    refine aw_bipush (v := 99) rfl (by decide) ?_
    refine aw_iload rfl rfl ?_
    refine aw_mmin rfl km_X12_309 (aw_t2 171 rfl rfl) (aw_t1 18 rfl rfl) (aw_t2 172 rfl rfl) (by decide) (Nat.le_of_ble_eq_true rfl) (by decide) (by decide) ?_
    refine aw_mmax rfl km_X12_326 (aw_t2 168 rfl rfl) (aw_t1 18 rfl rfl) (aw_t2 169 rfl rfl) (by decide) (Nat.le_of_ble_eq_true rfl) (by decide) (by decide) ?_
    first
      | exact aw_ri rfl rfl (by unfold hbm; rw [hC.2.1.1 q5]; rfl) eo_rf en_rf hC.2.2.1
      | exact aw_ri rfl rfl (by unfold hbm; rw [hco]; rfl) e1 f1 m1
  · have q5 : s 39 34 = -1 := h5
    refine aw_iload_n rfl rfl ?_
    refine aw_iconst (v := 2) rfl (by decide) ?_
    refine aw_iload_n rfl rfl ?_
    refine aw_imul rfl ?_
    refine aw_iadd rfl ?_
    refine aw_iload rfl rfl ?_
    refine aw_isub rfl ?_
    refine aw_goto (tgt := 54) rfl (by decide) ?_
    refine aw_istore rfl (by decide) ?_
    refine aw_iconst (v := 0) rfl (by decide) ?_
    refine aw_bipush (v := 99) rfl (by decide) ?_
    refine aw_iload rfl rfl ?_
    refine aw_mmin rfl km_X12_309 (aw_t2 171 rfl rfl) (aw_t1 18 rfl rfl) (aw_t2 172 rfl rfl) (by decide) (Nat.le_of_ble_eq_true rfl) (by decide) (by decide) ?_
    refine aw_mmax rfl km_X12_326 (aw_t2 168 rfl rfl) (aw_t1 18 rfl rfl) (aw_t2 169 rfl rfl) (by decide) (Nat.le_of_ble_eq_true rfl) (by decide) (by decide) ?_
    first
      | exact aw_ri rfl rfl (by unfold hbm; rw [hC.2.1.1 q5]; rfl) eo_rf en_rf hC.2.2.1
      | exact aw_ri rfl rfl (by unfold hbm; rw [hco]; rfl) e1 f1 m1
set_option maxRecDepth 4000 in
theorem c_m_holds_52 {l : Launch} {g : ag_G} {s : am_S} {n : am_N} {MI : am_S → am_N → Prop} {V : (Nat → Int32) → Int32} {T Q : Nat} (hC : MC l g MI V s n T Q) (hr : rwb (s 52) T Q) {j : Nat} (hj : j < T) : aw_R l g mi_X12_holds 101 skM [.ref (g_ad g 39), .ref (g_ad g 52), .int (nI j)] s n MI (.int (hnm V s (s 52) j)) s := by
  have hT := hC.1.2.1
  have hQ := hC.1.2.2.2.1
  obtain ⟨o, ho, hoe⟩ := hC.1.2.2.2.2 j hj
  obtain ⟨⟨hh, hhl, hhe⟩, dd, hdl, hde⟩ := hC.2.2.2 j hj
  obtain ⟨kk, hkl, hke⟩ := hr.2.1 o ho
  have hco : cl (s 46 (5 * j)) = o := by rw [hoe]; exact cl_nI (by omega)
  obtain ⟨⟨u, hul, hue⟩, D, hDl, hDe⟩ := hr.1 j hj
  obtain ⟨tm, htl, hte⟩ := hr.2.2
  refine aw_R_of mo_X12_holds (by decide) (Nat.le_of_ble_eq_true rfl) ?_
  refine aw_aload_n rfl rfl ?_
  refine pg_39_34 rfl kl_X12_67 ?_
  refine aw_iconst (v := -1) rfl (by decide) ?_
  refine aw_icmp_ne (tgt := 35) rfl (by decide) (fun h5 => ?_) (fun h5 => ?_)
  · have q5 : ¬ s 39 34 = -1 := h5
    refine aw_aload_n rfl rfl ?_
    refine aw_aload_n rfl rfl ?_
    refine aw_iload_n rfl rfl ?_
    refine aw_iconst (v := 1) rfl (by decide) ?_
    refine aw_iV (q0 := 39) (ci := 12) rfl cw_X12_319 rfl rfl rfl (c_m_of (j := j) (c := 1) (by omega) (by decide)) rfl rfl (Nat.le_of_ble_eq_true rfl) (by decide) (by decide) (by decide) (by decide) ?_
    refine aw_aload_n rfl rfl ?_
    refine aw_iconst (v := 3) rfl (by decide) ?_
    refine aw_iload_n rfl rfl ?_
    refine aw_imul rfl ?_
    refine aw_iconst (v := 1) rfl (by decide) ?_
    refine aw_iadd rfl ?_
    refine pl_52 rfl (i3 j 1) (by omega) ?_
    refine aw_aload_n rfl rfl ?_
    refine aw_iconst (v := 3) rfl (by decide) ?_
    refine aw_iload_n rfl rfl ?_
    refine aw_imul rfl ?_
    refine aw_iconst (v := 0) rfl (by decide) ?_
    refine aw_iadd rfl ?_
    refine pl_52 rfl (i3 j 0) (by omega) ?_
    refine aw_aload_n rfl rfl ?_
    refine aw_bipush (v := 35) rfl (by decide) ?_
    refine pl_52 (j := 35) rfl rfl (by decide) ?_
    refine aw_bipush (v := 12) rfl (by decide) ?_
    refine aw_irem rfl (by decide) ?_
    refine aw_aload_n rfl rfl ?_
    refine aw_iload_n rfl rfl ?_
    refine aw_iconst (v := 2) rfl (by decide) ?_
    refine aw_iV (q0 := 39) (ci := 12) rfl cw_X12_319 rfl rfl rfl (c_m_of (j := j) (c := 2) (by omega) (by decide)) rfl rfl (Nat.le_of_ble_eq_true rfl) (by decide) (by decide) (by decide) (by decide) ?_
    refine aw_aload_n rfl rfl ?_
    refine aw_bipush (v := 21) rfl (by decide) ?_
    refine aw_iconst (v := 2) rfl (by decide) ?_
    refine aw_aload_n rfl rfl ?_
    refine aw_iload_n rfl rfl ?_
    refine aw_iconst (v := 0) rfl (by decide) ?_
    refine aw_iB (q0 := 39) (ci := 12) rfl cw_X12_319 rfl rfl rfl (c_m_of (j := j) (c := 0) (by omega) (by decide)) rfl rfl (Nat.le_of_ble_eq_true rfl) (by decide) (by decide) (by decide) (by decide) ?_
    refine aw_imul rfl ?_
    refine aw_iadd rfl ?_
    refine pl_52 rfl (show (21 : Int32) + 2 * s 46 (5 * j) = nI (21 + 2 * o) from by (rw [hoe]; exact i21 o)) (by omega) ?_
    refine aw_rV (q0 := 39) (ci := 12) rfl cw_X12_322 rfl rfl rfl ((show aw_R l g mi_X12_worthOf 100 skM [.ref (g_ad g 39), .int (s 46 (5 * j + 1)), .int (s 52 (3 * j + 1)), .int (s 52 (3 * j)), .int (rm12 (s 52 35)), .int (s 46 (5 * j + 2)), .int (s 52 (21 + 2 * o))] s n MI (.int (V (lets (s 46 (5 * j + 1)) (s 52 (3 * j + 1)) (s 52 (3 * j)) (rm12 (s 52 35)) (s 46 (5 * j + 2)) (s 52 (21 + 2 * o))))) s from by (rw [hte, rm12_nI (by omega), hde, hke, hhe, hue, hDe]; exact hC.2.1.2.1 h5 s n rfl hC.2.2.1 hh D u (tm % 12) dd kk (by omega) (by omega) (by omega) (Nat.mod_lt _ (by decide)) (by omega) (by omega)))) rfl rfl (Nat.le_of_ble_eq_true rfl) (by decide) (by decide) (by decide) (by decide) (fun s1 n1 e1 f1 m1 => ?_)
    refine aw_istore_n rfl (by decide) ?_
    refine aw_iconst (v := 0) rfl (by decide) ?_
    refine aw_bipush (v := 99) rfl (by decide) ?_
    refine aw_iload_n rfl rfl ?_
    refine aw_mmin rfl km_X12_309 (aw_t2 171 rfl rfl) (aw_t1 18 rfl rfl) (aw_t2 172 rfl rfl) (by decide) (Nat.le_of_ble_eq_true rfl) (by decide) (by decide) ?_
    refine aw_mmax rfl km_X12_326 (aw_t2 168 rfl rfl) (aw_t1 18 rfl rfl) (aw_t2 169 rfl rfl) (by decide) (Nat.le_of_ble_eq_true rfl) (by decide) (by decide) ?_
    first
      | exact aw_ri rfl rfl (by unfold hnm hbm; rw [hC.2.1.1 q5]; rfl) eo_rf en_rf hC.2.2.1
      | exact aw_ri rfl rfl (by unfold hnm hbm; rw [hco]; rfl) e1 f1 m1
  · have q5 : s 39 34 = -1 := h5
    refine aw_aload_n rfl rfl ?_
    refine aw_iload_n rfl rfl ?_
    refine aw_iconst (v := 1) rfl (by decide) ?_
    refine aw_iV (q0 := 39) (ci := 12) rfl cw_X12_319 rfl rfl rfl (c_m_of (j := j) (c := 1) (by omega) (by decide)) rfl rfl (Nat.le_of_ble_eq_true rfl) (by decide) (by decide) (by decide) (by decide) ?_
    refine aw_iconst (v := 2) rfl (by decide) ?_
    refine aw_aload_n rfl rfl ?_
    refine aw_iconst (v := 3) rfl (by decide) ?_
    refine aw_iload_n rfl rfl ?_
    refine aw_imul rfl ?_
    refine aw_iconst (v := 1) rfl (by decide) ?_
    refine aw_iadd rfl ?_
    refine pl_52 rfl (i3 j 1) (by omega) ?_
    refine aw_imul rfl ?_
    refine aw_iadd rfl ?_
    refine aw_aload_n rfl rfl ?_
    refine aw_iconst (v := 3) rfl (by decide) ?_
    refine aw_iload_n rfl rfl ?_
    refine aw_imul rfl ?_
    refine aw_iconst (v := 0) rfl (by decide) ?_
    refine aw_iadd rfl ?_
    refine pl_52 rfl (i3 j 0) (by omega) ?_
    refine aw_isub rfl ?_
    refine aw_goto (tgt := 85) rfl (by decide) ?_
    refine aw_istore_n rfl (by decide) ?_
    refine aw_iconst (v := 0) rfl (by decide) ?_
    refine aw_bipush (v := 99) rfl (by decide) ?_
    refine aw_iload_n rfl rfl ?_
    refine aw_mmin rfl km_X12_309 (aw_t2 171 rfl rfl) (aw_t1 18 rfl rfl) (aw_t2 172 rfl rfl) (by decide) (Nat.le_of_ble_eq_true rfl) (by decide) (by decide) ?_
    refine aw_mmax rfl km_X12_326 (aw_t2 168 rfl rfl) (aw_t1 18 rfl rfl) (aw_t2 169 rfl rfl) (by decide) (Nat.le_of_ble_eq_true rfl) (by decide) (by decide) ?_
    first
      | exact aw_ri rfl rfl (by unfold hnm hbm; rw [hC.2.1.1 q5]; rfl) eo_rf en_rf hC.2.2.1
      | exact aw_ri rfl rfl (by unfold hnm hbm; rw [hco]; rfl) e1 f1 m1
set_option maxRecDepth 4000 in
theorem c_m_holds_53 {l : Launch} {g : ag_G} {s : am_S} {n : am_N} {MI : am_S → am_N → Prop} {V : (Nat → Int32) → Int32} {T Q : Nat} (hC : MC l g MI V s n T Q) (hr : rwb (s 53) T Q) {j : Nat} (hj : j < T) : aw_R l g mi_X12_holds 101 skM [.ref (g_ad g 39), .ref (g_ad g 53), .int (nI j)] s n MI (.int (hnm V s (s 53) j)) s := by
  have hT := hC.1.2.1
  have hQ := hC.1.2.2.2.1
  obtain ⟨o, ho, hoe⟩ := hC.1.2.2.2.2 j hj
  obtain ⟨⟨hh, hhl, hhe⟩, dd, hdl, hde⟩ := hC.2.2.2 j hj
  obtain ⟨kk, hkl, hke⟩ := hr.2.1 o ho
  have hco : cl (s 46 (5 * j)) = o := by rw [hoe]; exact cl_nI (by omega)
  obtain ⟨⟨u, hul, hue⟩, D, hDl, hDe⟩ := hr.1 j hj
  obtain ⟨tm, htl, hte⟩ := hr.2.2
  refine aw_R_of mo_X12_holds (by decide) (Nat.le_of_ble_eq_true rfl) ?_
  refine aw_aload_n rfl rfl ?_
  refine pg_39_34 rfl kl_X12_67 ?_
  refine aw_iconst (v := -1) rfl (by decide) ?_
  refine aw_icmp_ne (tgt := 35) rfl (by decide) (fun h5 => ?_) (fun h5 => ?_)
  · have q5 : ¬ s 39 34 = -1 := h5
    refine aw_aload_n rfl rfl ?_
    refine aw_aload_n rfl rfl ?_
    refine aw_iload_n rfl rfl ?_
    refine aw_iconst (v := 1) rfl (by decide) ?_
    refine aw_iV (q0 := 39) (ci := 12) rfl cw_X12_319 rfl rfl rfl (c_m_of (j := j) (c := 1) (by omega) (by decide)) rfl rfl (Nat.le_of_ble_eq_true rfl) (by decide) (by decide) (by decide) (by decide) ?_
    refine aw_aload_n rfl rfl ?_
    refine aw_iconst (v := 3) rfl (by decide) ?_
    refine aw_iload_n rfl rfl ?_
    refine aw_imul rfl ?_
    refine aw_iconst (v := 1) rfl (by decide) ?_
    refine aw_iadd rfl ?_
    refine pl_53 rfl (i3 j 1) (by omega) ?_
    refine aw_aload_n rfl rfl ?_
    refine aw_iconst (v := 3) rfl (by decide) ?_
    refine aw_iload_n rfl rfl ?_
    refine aw_imul rfl ?_
    refine aw_iconst (v := 0) rfl (by decide) ?_
    refine aw_iadd rfl ?_
    refine pl_53 rfl (i3 j 0) (by omega) ?_
    refine aw_aload_n rfl rfl ?_
    refine aw_bipush (v := 35) rfl (by decide) ?_
    refine pl_53 (j := 35) rfl rfl (by decide) ?_
    refine aw_bipush (v := 12) rfl (by decide) ?_
    refine aw_irem rfl (by decide) ?_
    refine aw_aload_n rfl rfl ?_
    refine aw_iload_n rfl rfl ?_
    refine aw_iconst (v := 2) rfl (by decide) ?_
    refine aw_iV (q0 := 39) (ci := 12) rfl cw_X12_319 rfl rfl rfl (c_m_of (j := j) (c := 2) (by omega) (by decide)) rfl rfl (Nat.le_of_ble_eq_true rfl) (by decide) (by decide) (by decide) (by decide) ?_
    refine aw_aload_n rfl rfl ?_
    refine aw_bipush (v := 21) rfl (by decide) ?_
    refine aw_iconst (v := 2) rfl (by decide) ?_
    refine aw_aload_n rfl rfl ?_
    refine aw_iload_n rfl rfl ?_
    refine aw_iconst (v := 0) rfl (by decide) ?_
    refine aw_iB (q0 := 39) (ci := 12) rfl cw_X12_319 rfl rfl rfl (c_m_of (j := j) (c := 0) (by omega) (by decide)) rfl rfl (Nat.le_of_ble_eq_true rfl) (by decide) (by decide) (by decide) (by decide) ?_
    refine aw_imul rfl ?_
    refine aw_iadd rfl ?_
    refine pl_53 rfl (show (21 : Int32) + 2 * s 46 (5 * j) = nI (21 + 2 * o) from by (rw [hoe]; exact i21 o)) (by omega) ?_
    refine aw_rV (q0 := 39) (ci := 12) rfl cw_X12_322 rfl rfl rfl ((show aw_R l g mi_X12_worthOf 100 skM [.ref (g_ad g 39), .int (s 46 (5 * j + 1)), .int (s 53 (3 * j + 1)), .int (s 53 (3 * j)), .int (rm12 (s 53 35)), .int (s 46 (5 * j + 2)), .int (s 53 (21 + 2 * o))] s n MI (.int (V (lets (s 46 (5 * j + 1)) (s 53 (3 * j + 1)) (s 53 (3 * j)) (rm12 (s 53 35)) (s 46 (5 * j + 2)) (s 53 (21 + 2 * o))))) s from by (rw [hte, rm12_nI (by omega), hde, hke, hhe, hue, hDe]; exact hC.2.1.2.1 h5 s n rfl hC.2.2.1 hh D u (tm % 12) dd kk (by omega) (by omega) (by omega) (Nat.mod_lt _ (by decide)) (by omega) (by omega)))) rfl rfl (Nat.le_of_ble_eq_true rfl) (by decide) (by decide) (by decide) (by decide) (fun s1 n1 e1 f1 m1 => ?_)
    refine aw_istore_n rfl (by decide) ?_
    refine aw_iconst (v := 0) rfl (by decide) ?_
    refine aw_bipush (v := 99) rfl (by decide) ?_
    refine aw_iload_n rfl rfl ?_
    refine aw_mmin rfl km_X12_309 (aw_t2 171 rfl rfl) (aw_t1 18 rfl rfl) (aw_t2 172 rfl rfl) (by decide) (Nat.le_of_ble_eq_true rfl) (by decide) (by decide) ?_
    refine aw_mmax rfl km_X12_326 (aw_t2 168 rfl rfl) (aw_t1 18 rfl rfl) (aw_t2 169 rfl rfl) (by decide) (Nat.le_of_ble_eq_true rfl) (by decide) (by decide) ?_
    first
      | exact aw_ri rfl rfl (by unfold hnm hbm; rw [hC.2.1.1 q5]; rfl) eo_rf en_rf hC.2.2.1
      | exact aw_ri rfl rfl (by unfold hnm hbm; rw [hco]; rfl) e1 f1 m1
  · have q5 : s 39 34 = -1 := h5
    refine aw_aload_n rfl rfl ?_
    refine aw_iload_n rfl rfl ?_
    refine aw_iconst (v := 1) rfl (by decide) ?_
    refine aw_iV (q0 := 39) (ci := 12) rfl cw_X12_319 rfl rfl rfl (c_m_of (j := j) (c := 1) (by omega) (by decide)) rfl rfl (Nat.le_of_ble_eq_true rfl) (by decide) (by decide) (by decide) (by decide) ?_
    refine aw_iconst (v := 2) rfl (by decide) ?_
    refine aw_aload_n rfl rfl ?_
    refine aw_iconst (v := 3) rfl (by decide) ?_
    refine aw_iload_n rfl rfl ?_
    refine aw_imul rfl ?_
    refine aw_iconst (v := 1) rfl (by decide) ?_
    refine aw_iadd rfl ?_
    refine pl_53 rfl (i3 j 1) (by omega) ?_
    refine aw_imul rfl ?_
    refine aw_iadd rfl ?_
    refine aw_aload_n rfl rfl ?_
    refine aw_iconst (v := 3) rfl (by decide) ?_
    refine aw_iload_n rfl rfl ?_
    refine aw_imul rfl ?_
    refine aw_iconst (v := 0) rfl (by decide) ?_
    refine aw_iadd rfl ?_
    refine pl_53 rfl (i3 j 0) (by omega) ?_
    refine aw_isub rfl ?_
    refine aw_goto (tgt := 85) rfl (by decide) ?_
    refine aw_istore_n rfl (by decide) ?_
    refine aw_iconst (v := 0) rfl (by decide) ?_
    refine aw_bipush (v := 99) rfl (by decide) ?_
    refine aw_iload_n rfl rfl ?_
    refine aw_mmin rfl km_X12_309 (aw_t2 171 rfl rfl) (aw_t1 18 rfl rfl) (aw_t2 172 rfl rfl) (by decide) (Nat.le_of_ble_eq_true rfl) (by decide) (by decide) ?_
    refine aw_mmax rfl km_X12_326 (aw_t2 168 rfl rfl) (aw_t1 18 rfl rfl) (aw_t2 169 rfl rfl) (by decide) (Nat.le_of_ble_eq_true rfl) (by decide) (by decide) ?_
    first
      | exact aw_ri rfl rfl (by unfold hnm hbm; rw [hC.2.1.1 q5]; rfl) eo_rf en_rf hC.2.2.1
      | exact aw_ri rfl rfl (by unfold hnm hbm; rw [hco]; rfl) e1 f1 m1
set_option maxRecDepth 4000 in
theorem c_m_meltsIn {l : Launch} {g : ag_G} {s : am_S} {n : am_N} {MI : am_S → am_N → Prop} {V : (Nat → Int32) → Int32} {T Q : Nat} (hC : MC l g MI V s n T Q) (hr : rwb (s 52) T Q) {j a b c M : Nat} (hj : j < T) (ha : a < 100) (hb : b < 10) (hc : c < 10) (hM : M ≤ 60) : aw_R l g mi_X12_meltsIn 102 skM [.ref (g_ad g 39), .int (nI j), .int (nI a), .int (nI b), .int (nI c), .int (nI M)] s n MI (.int (oN (fs (mtm V s j (nI a) (nI b) (nI c)) 0 M))) s := by
  obtain ⟨tm, htl, hte⟩ := hr.2.2
  generalize hXX : oN (fs (mtm V s j (nI a) (nI b) (nI c)) 0 M) = X
  have loop : ∀ (d i : Nat) (s1 : am_S) (n1 : am_N), i + d = M → eo skM s s1 → en n n1 → MI s1 n1 → oN (fs (mtm V s j (nI a) (nI b) (nI c)) i d) = X → aw_W l g mi_X12_meltsIn (aw_rm 102 0 0) (aw_Z g (fun r w => ∃ s' n', r = some (.int X) ∧ w = hp g s' n' ∧ eo skM s s' ∧ en n n' ∧ MI s' n') 0 0) 0 0 (hp g s1 n1) 3 [some (.ref (g_ad g 39)), some (.int (nI j)), some (.int (nI a)), some (.int (nI b)), some (.int (nI c)), some (.int (nI M)), some (.int (nI i))] [] := by
    intro d
    induction d with
    | zero =>
      intro i s1 n1 hi e1 f1 m1 hX
      obtain rfl : i = M := by omega
      refine aw_iload rfl rfl ?_
      refine aw_iload rfl rfl ?_
      refine aw_icmp_ge (tgt := 63) rfl (by decide) (fun h7 => ?_) (fun h7 => absurd (Int32.le_refl _) h7)
      refine aw_iconst (v := -1) rfl (by decide) ?_
      exact aw_ri rfl rfl hX e1 f1 m1
    | succ d ih =>
      intro i s1 n1 hi e1 f1 m1 hX
      have hC1 := hC.eo e1 m1
      have e52 : s1 52 = s 52 := eo_cell e1 52 (fun _ => rfl)
      have hr1 : rwb (s1 52) T Q := by rw [e52]; exact hr
      have hte1 : s1 52 35 = nI tm := by rw [e52]; exact hte
      refine aw_iload rfl rfl ?_
      refine aw_iload rfl rfl ?_
      refine aw_icmp_ge (tgt := 63) rfl (by decide) (fun h7 => absurd h7 (nI_ge (by omega) (by omega))) (fun h7 => ?_)
      refine aw_aload_n rfl rfl ?_
      refine pg_39_32 rfl kl_X12_61 ?_
      refine aw_bipush (v := 32) rfl (by decide) ?_
      refine pl_52 (j := 32) rfl rfl (by decide) ?_
      refine aw_aload_n rfl rfl ?_
      refine pg_39_32 rfl kl_X12_61 ?_
      refine aw_bipush (v := 35) rfl (by decide) ?_
      refine pl_52 (j := 35) rfl rfl (by decide) ?_
      refine aw_iload rfl rfl ?_
      refine aw_iadd rfl ?_
      refine aw_iS rfl cw_X12_328 (c_m_warmthAt) rfl rfl (Nat.le_of_ble_eq_true rfl) (by decide) (by decide) (by decide) (by decide) ?_
      refine aw_aload_n rfl rfl ?_
      refine aw_iload_n rfl rfl ?_
      refine aw_iload_n rfl rfl ?_
      refine aw_iload_n rfl rfl ?_
      refine aw_iload rfl rfl ?_
      refine aw_aload_n rfl rfl ?_
      refine pg_39_32 rfl kl_X12_61 ?_
      refine aw_bipush (v := 35) rfl (by decide) ?_
      refine pl_52 (j := 35) rfl rfl (by decide) ?_
      refine aw_iload rfl rfl ?_
      refine aw_iadd rfl ?_
      refine aw_rV (q0 := 39) (ci := 12) rfl cw_X12_331 rfl rfl rfl ((show aw_R l g mi_X12_holdsBy 101 skM [.ref (g_ad g 39), .int (nI j), .int (nI a), .int (nI b), .int (nI c), .int (s1 52 35 + nI i)] s1 n1 MI (.int (hbm V s1 (s1 52) j (nI a) (nI b) (nI c) (s1 52 35 + nI i))) s1 from by (rw [hte1, nI_add]; exact c_m_holdsBy hC1 hr1 hj ha hb hc (by omega)))) rfl rfl (Nat.le_of_ble_eq_true rfl) (by decide) (by decide) (by decide) (by decide) (fun s2 n2 e2 f2 m2 => ?_)
      refine aw_icmp_le (tgt := 57) rfl (by decide) (fun h49 => ?_) (fun h49 => ?_)
      · refine aw_inc1 rfl rfl (by decide) ?_
        refine aw_goto (tgt := 3) rfl (by decide) ?_
        have hm : mtm V s j (nI a) (nI b) (nI c) i = false := by (unfold mtm; rw [← hbm_m e1, ← e52]; exact decide_eq_false (Int32.not_lt.mpr h49))
        exact aw_wk (ih (i + 1) s2 n2 (by omega) (eo_tr e1 e2) (en_tr f1 f2) m2 (by rw [← hX]; simp only [fs]; rw [hm]; rfl)) (And.intro rfl (And.intro rfl (And.intro rfl (And.intro rfl (And.intro rfl (And.intro rfl (And.intro (congrArg (fun x => some (Value.int x)) (nI_1 i)) True.intro)))))))
      · refine aw_iload rfl rfl ?_
        refine aw_iconst (v := 1) rfl (by decide) ?_
        refine aw_iadd rfl ?_
        have hm : mtm V s j (nI a) (nI b) (nI c) i = true := by (unfold mtm; rw [← hbm_m e1, ← e52]; exact decide_eq_true (Int32.not_le.mp h49))
        exact aw_ri rfl rfl (by rw [← hX]; simp only [fs]; rw [hm]; rfl) (eo_tr e1 e2) (en_tr f1 f2) m2
  refine aw_R_of mo_X12_meltsIn (by decide) (Nat.le_of_ble_eq_true rfl) ?_
  refine aw_iconst (v := 0) rfl (by decide) ?_
  refine aw_istore rfl (by decide) ?_
  exact aw_wk (loop M 0 s n (by omega) eo_rf en_rf hC.2.2.1 hXX) (And.intro rfl (And.intro rfl (And.intro rfl (And.intro rfl (And.intro rfl (And.intro rfl (And.intro rfl True.intro)))))))
def mnm (V : (Nat → Int32) → Int32) (s : am_S) (j : Nat) (h w : Int32) (m : Nat) : Int32 := oN (fs (mtm V s j (s 46 (5 * j + 1) + h) (s 52 (3 * j + 1) + w) (s 52 (3 * j))) 0 m)
set_option maxRecDepth 4000 in
theorem c_m_meltsNow {l : Launch} {g : ag_G} {s : am_S} {n : am_N} {MI : am_S → am_N → Prop} {V : (Nat → Int32) → Int32} {T Q : Nat} (hC : MC l g MI V s n T Q) (hr : rwb (s 52) T Q) {j M : Nat} (hj : j < T) (hM : M ≤ 60) : aw_R l g mi_X12_meltsNow 103 skM [.ref (g_ad g 39), .int (nI j), .int (nI M)] s n MI (.int (mnm V s j 0 0 M)) s := by
  have hT := hC.1.2.1
  obtain ⟨⟨hh, hhl, hhe⟩, dd, hdl, hde⟩ := hC.2.2.2 j hj
  obtain ⟨⟨u, hul, hue⟩, D, hDl, hDe⟩ := hr.1 j hj
  refine aw_R_of mo_X12_meltsNow (by decide) (Nat.le_of_ble_eq_true rfl) ?_
  refine aw_aload_n rfl rfl ?_
  refine aw_iload_n rfl rfl ?_
  refine aw_aload_n rfl rfl ?_
  refine aw_iload_n rfl rfl ?_
  refine aw_iconst (v := 1) rfl (by decide) ?_
  refine aw_iV (q0 := 39) (ci := 12) rfl cw_X12_319 rfl rfl rfl (c_m_of (j := j) (c := 1) (by omega) (by decide)) rfl rfl (Nat.le_of_ble_eq_true rfl) (by decide) (by decide) (by decide) (by decide) ?_
  refine aw_aload_n rfl rfl ?_
  refine pg_39_32 rfl kl_X12_61 ?_
  refine aw_iconst (v := 3) rfl (by decide) ?_
  refine aw_iload_n rfl rfl ?_
  refine aw_imul rfl ?_
  refine aw_iconst (v := 1) rfl (by decide) ?_
  refine aw_iadd rfl ?_
  refine pl_52 rfl (i3 j 1) (by omega) ?_
  refine aw_aload_n rfl rfl ?_
  refine pg_39_32 rfl kl_X12_61 ?_
  refine aw_iconst (v := 3) rfl (by decide) ?_
  refine aw_iload_n rfl rfl ?_
  refine aw_imul rfl ?_
  refine aw_iconst (v := 0) rfl (by decide) ?_
  refine aw_iadd rfl ?_
  refine pl_52 rfl (i3 j 0) (by omega) ?_
  refine aw_iload_n rfl rfl ?_
  refine aw_rV (q0 := 39) (ci := 12) rfl cw_X12_335 rfl rfl rfl ((show aw_R l g mi_X12_meltsIn 102 skM [.ref (g_ad g 39), .int (nI j), .int (s 46 (5 * j + 1)), .int (s 52 (3 * j + 1)), .int (s 52 (3 * j)), .int (nI M)] s n MI (.int (mnm V s j 0 0 M)) s from by (unfold mnm; rw [hhe, hue, hDe, Int32.add_zero, Int32.add_zero]; exact c_m_meltsIn hC hr hj (by omega) (by omega) (by omega) hM))) rfl rfl (Nat.le_of_ble_eq_true rfl) (by decide) (by decide) (by decide) (by decide) (fun s1 n1 e1 f1 m1 => ?_)
  exact aw_ri rfl rfl rfl e1 f1 m1
