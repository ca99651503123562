/-! rows that make cells -/
section AwMk
variable {l : Launch} {g : ag_G} {M : ag_M} {R : Room} {Z : ag_Z} {cells slots : Nat} {ws ws2 : va_W} {pc : Nat} {L : List (Option Value)} {st : List Value}
theorem aw_widen {c' s' : Nat} (h1 : cells ≤ c') (h2 : slots ≤ s') (k : aw_W l g M R Z c' s' ws pc L st) : aw_W l g M R Z cells slots ws pc L st := fun p e s m args below meth c H locs ls hC hH hL => W.widen h1 h2 (k p e s m args below meth c H locs ls hC hH hL)
theorem aw_ab {p : Program} {s : State} {m : MethodId} {args : Array Value} {meth : Method} {c : Code} (hC : aw_C g M p s m args meth c) : ∀ q : Nat, s.heap.size ≤ q → aw_A g q := fun _ h => Nat.le_trans hC.2.2.2.2.2.2.2.2.2.1 h
theorem aw_newc {ci index N : Nat} {C : String} {T : u_T} {fs : List Value} (ty0 : Nat → FieldType) (hd : m_at M pc = some (.new index, 3)) (hcl : Cond.classLink (m_y M).cls index C ∈ aw_tbl) (hinst : Cond.instantiable C N ∈ aw_tbl) (hini : Cond.initialized C ∈ aw_tbl) (hc : aw_cl[ci]? = some (C, T, N)) (hin : ∀ w ∈ u_ws C T N, w ∈ aw_tbl) (hty : ∀ k, k < N → parseFieldDescriptor (T k).2.2.1 = some (ty0 k)) (hfs : ∀ j, j < N → defaultValue (ty0 j) = vp_V fs j) (hcells : cells + 1 ≤ R.cells) (hslots : slots + N ≤ R.slots) (kk : ∀ q : Nat, aw_W l g M R Z (cells + 1) (slots + N) (ws ++ [(q, .inr (ci, fs))]) (pc + 3) L (.ref q :: st)) : aw_W l g M R Z cells slots ws pc L st :=
  fun p e s m args below meth c H locs ls hC hH hL => va_new hC.1 hC.2.1 hC.2.2.2.2.1 hin ty0 hty hC.2.2.2.1 (hC.2.2.2.2.1 _ hcl) (hC.2.2.2.2.1 _ hinst) (hC.2.2.2.2.1 _ hini) hC.2.2.2.2.2.2.2.1 hH.1 hH.2.1 hH.2.2 (aw_ab hC) hc hfs hcells hslots (hC.2.2.2.2.2.2.2.2.2.2.2.1 _ _ _ hd) (fun q H1 h1 h2 h3 => kk q p e s m args below meth c H1 locs ls hC ⟨h1, h2, h3⟩ hL)
theorem aw_newi {n : Int32} {N : Nat} (hd : m_at M pc = some (.newarray .int, 2)) (harr : Cond.arrayClass .int ∈ aw_tbl) (hn : n = nI N) (hN : N ≤ 10000) (hcells : cells + 1 ≤ R.cells) (hslots : slots + N ≤ R.slots) (kk : ∀ q : Nat, aw_W l g M R Z (cells + 1) (slots + N) (ws ++ [(q, .inl (g_ca g 0, N, .inl (fun _ => 0)))]) (pc + 2) L (.ref q :: st)) : aw_W l g M R Z cells slots ws pc L (.int n :: st) := by
  subst hn
  intro p e s m args below meth c H locs ls hC hH hL
  have hK : va_K (g_D g) aw_cl (aw_tys g) s := hC.2.2.2.2.2.2.2.1
  refine va_newa (atype := .int) (N' := N) (a0 := (N, .inl (fun _ => 0))) hC.1 hC.2.1 (hC.2.2.2.2.1 _ harr) rfl hK hH.1 hH.2.1 hH.2.2 (aw_ab hC) (fun _ => rfl) (nI_pos (by omega)) (nI_clamp (by omega)) (by show N * 4 ≤ _; omega) hcells hslots (hC.2.2.2.2.2.2.2.2.2.2.2.1 _ _ _ hd) (fun q cA H1 hK1 h1 h2 h3 => ?_)
  have e1 : s.vm.findClass ("[" ++ FieldType.toString .int) = some cA := (hK1.2 5 (cA, .int) rfl).2
  have e2 : s.vm.findClass ("[" ++ FieldType.toString .int) = some (g_ca g 0) := (hK.2 0 (g_ca g 0, .int) rfl).2
  have e3 : cA = g_ca g 0 := Option.some.inj (e1.symm.trans e2)
  subst e3
  exact kk q p e s m args below meth c H1 locs ls hC ⟨h1, h2, h3⟩ hL
theorem aw_newl {n : Int32} {N : Nat} (hd : m_at M pc = some (.newarray .long, 2)) (harr : Cond.arrayClass .long ∈ aw_tbl) (hn : n = nI N) (hN : N ≤ 10000) (hcells : cells + 1 ≤ R.cells) (hslots : slots + N ≤ R.slots) (kk : ∀ q : Nat, aw_W l g M R Z (cells + 1) (slots + N) (ws ++ [(q, .inl (g_ca g 1, N, .inr (.inl (fun _ => 0))))]) (pc + 2) L (.ref q :: st)) : aw_W l g M R Z cells slots ws pc L (.int n :: st) := by
  subst hn
  intro p e s m args below meth c H locs ls hC hH hL
  have hK : va_K (g_D g) aw_cl (aw_tys g) s := hC.2.2.2.2.2.2.2.1
  refine va_newa (atype := .long) (N' := N) (a0 := (N, .inr (.inl (fun _ => 0)))) hC.1 hC.2.1 (hC.2.2.2.2.1 _ harr) rfl hK hH.1 hH.2.1 hH.2.2 (aw_ab hC) (fun _ => rfl) (nI_pos (by omega)) (nI_clamp (by omega)) (by show N * 8 ≤ _; omega) hcells hslots (hC.2.2.2.2.2.2.2.2.2.2.2.1 _ _ _ hd) (fun q cA H1 hK1 h1 h2 h3 => ?_)
  have e1 : s.vm.findClass ("[" ++ FieldType.toString .long) = some cA := (hK1.2 5 (cA, .long) rfl).2
  have e2 : s.vm.findClass ("[" ++ FieldType.toString .long) = some (g_ca g 1) := (hK.2 1 (g_ca g 1, .long) rfl).2
  have e3 : cA = g_ca g 1 := Option.some.inj (e1.symm.trans e2)
  subst e3
  exact kk q p e s m args below meth c H1 locs ls hC ⟨h1, h2, h3⟩ hL
theorem aw_newb {n : Int32} {N : Nat} (hd : m_at M pc = some (.newarray .byte, 2)) (harr : Cond.arrayClass .byte ∈ aw_tbl) (hn : n = nI N) (hN : N ≤ 10000) (hcells : cells + 1 ≤ R.cells) (hslots : slots + N ≤ R.slots) (kk : ∀ q : Nat, aw_W l g M R Z (cells + 1) (slots + N) (ws ++ [(q, .inl (g_ca g 2, N, .inl (fun _ => 0)))]) (pc + 2) L (.ref q :: st)) : aw_W l g M R Z cells slots ws pc L (.int n :: st) := by
  subst hn
  intro p e s m args below meth c H locs ls hC hH hL
  have hK : va_K (g_D g) aw_cl (aw_tys g) s := hC.2.2.2.2.2.2.2.1
  refine va_newa (atype := .byte) (N' := N) (a0 := (N, .inl (fun _ => 0))) hC.1 hC.2.1 (hC.2.2.2.2.1 _ harr) rfl hK hH.1 hH.2.1 hH.2.2 (aw_ab hC) (fun _ => rfl) (nI_pos (by omega)) (nI_clamp (by omega)) (by show N * 1 ≤ _; omega) hcells hslots (hC.2.2.2.2.2.2.2.2.2.2.2.1 _ _ _ hd) (fun q cA H1 hK1 h1 h2 h3 => ?_)
  have e1 : s.vm.findClass ("[" ++ FieldType.toString .byte) = some cA := (hK1.2 5 (cA, .byte) rfl).2
  have e2 : s.vm.findClass ("[" ++ FieldType.toString .byte) = some (g_ca g 2) := (hK.2 2 (g_ca g 2, .byte) rfl).2
  have e3 : cA = g_ca g 2 := Option.some.inj (e1.symm.trans e2)
  subst e3
  exact kk q p e s m args below meth c H1 locs ls hC ⟨h1, h2, h3⟩ hL
theorem aw_newz {n : Int32} {N : Nat} (hd : m_at M pc = some (.newarray .boolean, 2)) (harr : Cond.arrayClass .boolean ∈ aw_tbl) (hn : n = nI N) (hN : N ≤ 10000) (hcells : cells + 1 ≤ R.cells) (hslots : slots + N ≤ R.slots) (kk : ∀ q : Nat, aw_W l g M R Z (cells + 1) (slots + N) (ws ++ [(q, .inl (g_ca g 3, N, .inl (fun _ => 0)))]) (pc + 2) L (.ref q :: st)) : aw_W l g M R Z cells slots ws pc L (.int n :: st) := by
  subst hn
  intro p e s m args below meth c H locs ls hC hH hL
  have hK : va_K (g_D g) aw_cl (aw_tys g) s := hC.2.2.2.2.2.2.2.1
  refine va_newa (atype := .boolean) (N' := N) (a0 := (N, .inl (fun _ => 0))) hC.1 hC.2.1 (hC.2.2.2.2.1 _ harr) rfl hK hH.1 hH.2.1 hH.2.2 (aw_ab hC) (fun _ => rfl) (nI_pos (by omega)) (nI_clamp (by omega)) (by show N * 1 ≤ _; omega) hcells hslots (hC.2.2.2.2.2.2.2.2.2.2.2.1 _ _ _ hd) (fun q cA H1 hK1 h1 h2 h3 => ?_)
  have e1 : s.vm.findClass ("[" ++ FieldType.toString .boolean) = some cA := (hK1.2 5 (cA, .boolean) rfl).2
  have e2 : s.vm.findClass ("[" ++ FieldType.toString .boolean) = some (g_ca g 3) := (hK.2 3 (g_ca g 3, .boolean) rfl).2
  have e3 : cA = g_ca g 3 := Option.some.inj (e1.symm.trans e2)
  subst e3
  exact kk q p e s m args below meth c H1 locs ls hC ⟨h1, h2, h3⟩ hL
/-- rows of rows of ints -/
def aw_AO (U : State) : Prop := (Cond.arrayOver (.array .int)).before #[] U = true
theorem aw_newq {index : Nat} {n : Int32} {N : Nat} (hd : m_at M pc = some (.anewarray index, 3)) (hcl : Cond.classLink (m_y M).cls index "[I" ∈ aw_tbl) (hao : ∀ U, g_X g U → aw_AO U) (hn : n = nI N) (hN : N ≤ 10000) (hcells : cells + 1 ≤ R.cells) (hslots : slots + N ≤ R.slots) (kk : ∀ q : Nat, aw_W l g M R Z (cells + 1) (slots + N) (ws ++ [(q, .inl (g_ca g 4, N, .inr (.inr (.inr (.inr (fun _ => none))))))]) (pc + 3) L (.ref q :: st)) : aw_W l g M R Z cells slots ws pc L (.int n :: st) := by
  subst hn
  intro p e s m args below meth c H locs ls hC hH hL
  have hK : va_K (g_D g) aw_cl (aw_tys g) s := hC.2.2.2.2.2.2.2.1
  have hcl' : (nI N).toNatClampNeg = N := nI_clamp (by omega)
  obtain ⟨hP, hD, hS⟩ := hH
  have hao' : (Cond.arrayOver (.array .int)).before args s = true := hao s hC.2.2.2.2.2.2.2.2.1
  refine W.anewA (t := .int) hC.1 hC.2.1 hC.2.2.2.1 (hC.2.2.2.2.1 _ hcl) hao' rfl (hC.2.2.2.2.2.2.2.2.2.2.2.1 _ _ _ hd) rfl (nI_pos (by omega)) (by rw [hcl']; omega) hcells (by rw [hcl']; exact hslots) (fun cA kA comp f1 f2 f3 f4 => ?_)
  rw [hcl']
  have e2 : s.vm.findClass ("[" ++ FieldType.toString (.array .int)) = some (g_ca g 4) := (hK.2 4 (g_ca g 4, .array .int) rfl).2
  have e3 : cA = g_ca g 4 := Option.some.inj (f1.symm.trans e2)
  subst e3
  generalize hH1 : H.push ({ cls := g_ca g 4, slots := Array.replicate N .null, vm := .none } : Cell) = H1
  have z1 : H1.size = H.size + 1 := by rw [← hH1, Array.size_push]
  have e1 : H1[H.size]? = some (arrV (g_ca g 4) N (fun _ => .null)) := by rw [← hH1, Array.getElem?_push_size, ← arrV_new]
  have o1 : ∀ q : Nat, q < H.size → H1[q]? = H[q]? := fun q hq => by rw [← hH1, Array.getElem?_push, if_neg (Nat.ne_of_lt hq)]
  have hk : ∀ (k : Nat) (x : Nat × va_E), ws[k]? = some x → H1[x.1]? = H[x.1]? := fun k x hx => o1 x.1 ((hP k x hx).lt)
  refine kk H.size p e s m args below meth c H1 locs ls hC ⟨(hP.kept hk).app (fun k x hx => ?_), hD.push hP rfl (aw_ab hC _ hS.1), Nat.le_trans hS.1 (by omega), fun x h1 h2 => (o1 x (Nat.lt_of_lt_of_le h1 hS.1)).trans (hS.2.1 x h1 h2), hS.2.2⟩ hL
  have hz : k < 1 := (List.getElem?_eq_some_iff.mp hx).1
  rw [show k = 0 by omega] at hx
  cases hx
  show H1[H.size]? = some (vp_cell _ _)
  rw [vp_cell_q]
  exact e1
theorem aw_clone {index a q0 N : Nat} {f : Nat → Int32} (hd : m_at M pc = some (.invokevirtual index, 3)) (hl : Cond.methodLink (m_y M).cls index ⟨"[I", "clone", "()Ljava/lang/Object;"⟩ ∈ aw_tbl) (hsame : Cond.sameMethod "[I" "java/lang/Object" "clone" "()Ljava/lang/Object;" ∈ aw_tbl) (hnat : Cond.native ⟨"java/lang/Object", "clone", "()Ljava/lang/Object;"⟩ ∈ aw_tbl) (hinst : Cond.instanceMethod ⟨"java/lang/Object", "clone", "()Ljava/lang/Object;"⟩ ∈ aw_tbl) (hsel : Cond.selects "[I" ⟨"[I", "clone", "()Ljava/lang/Object;"⟩ ⟨"java/lang/Object", "clone", "()Ljava/lang/Object;"⟩ ∈ aw_tbl) (hca : ∀ U, g_X g U → va_Nw (.castable "[I" "java/lang/Cloneable") U) (ha : ws[q0]? = some (a, .inl (g_ca g 0, N, .inl f))) (hf : 1 ≤ R.frames) (hlo : (st.map fun v => v.category).sum + 14 ≤ R.locals) (hcells : cells + 1 ≤ R.cells) (hslots : slots + N ≤ R.slots) (kk : ∀ q : Nat, aw_W l g M R Z (cells + 1) (slots + N) (ws ++ [(q, .inl (g_ca g 0, N, .inl f))]) (pc + 3) L (.ref q :: st)) : aw_W l g M R Z cells slots ws pc L (.ref a :: st) := by
  intro p e s m args below meth c H locs ls hC hH hL
  have hK : va_K (g_D g) aw_cl (aw_tys g) s := hC.2.2.2.2.2.2.2.1
  have e2 : s.vm.findClass ("[" ++ FieldType.toString .int) = some (g_ca g 0) := (hK.2 0 (g_ca g 0, .int) rfl).2
  refine va_clone hC.1 hC.2.1 (hC.2.2.1.trans hL.1.symm) hC.2.2.2.1 (hC.2.2.2.2.1 _ hl) (hC.2.2.2.2.1 _ hsame) (hC.2.2.2.2.1 _ hnat) (hC.2.2.2.2.1 _ hinst) (hC.2.2.2.2.1 _ hsel) (hca s hC.2.2.2.2.2.2.2.2.1) hK hH.1 hH.2.1 hH.2.2 (aw_ab hC) q0 0 ha (show (aw_tys g)[0]? = some (g_ca g 0, .int) from rfl) e2 (fun i v hv => ?_) hf hlo hcells hslots (hC.2.2.2.2.2.2.2.2.2.2.2.1 _ _ _ hd) (fun q H1 hK1 h1 h2 h3 => kk q p e s m args below meth c H1 locs ls hC ⟨h1, h2, h3⟩ hL)
  have hv' : (arrV (g_ca g 0) N (fun j => .int (f j))).slots[i]? = some v := hv
  by_cases hi : i < N
  · rw [arrV_read _ _ hi] at hv'
    cases hv'
    rfl
  · rw [Array.getElem?_eq_none (by rw [arrV_size]; omega)] at hv'
    cases hv'
theorem aw_castI {index a q0 : Nat} {x : vp_A} (hd : m_at M pc = some (.checkcast index, 3)) (hl : Cond.classLink (m_y M).cls index "[I" ∈ aw_tbl) (ha : ws[q0]? = some (a, .inl (g_ca g 0, x))) (kk : aw_W l g M R Z cells slots ws (pc + 3) L (.ref a :: st)) : aw_W l g M R Z cells slots ws pc L (.ref a :: st) := by
  intro p e s m args below meth c H locs ls hC hH hL
  have hK : va_K (g_D g) aw_cl (aw_tys g) s := hC.2.2.2.2.2.2.2.1
  have e2 : s.vm.findClass ("[" ++ FieldType.toString .int) = some (g_ca g 0) := (hK.2 0 (g_ca g 0, .int) rfl).2
  exact va_castA hC.1 hC.2.1 hC.2.2.2.1 (hC.2.2.2.2.1 _ hl) hH.1 q0 ha e2 (hC.2.2.2.2.2.2.2.2.2.2.2.1 _ _ _ hd) (kk p e s m args below meth c H locs ls hC hH hL)
theorem aw_aast {a v q0 qk N : Nat} {x : vp_A} {f : Nat → Option Nat} {i : Int32} {j : Nat} (hd : m_at M pc = some (.aastore, 1)) (ha : ws[q0]? = some (a, .inl (g_ca g 4, N, .inr (.inr (.inr (.inr f)))))) (hao : ∀ U, g_X g U → aw_AO U) (hv : ws[qk]? = some (v, .inl (g_ca g 0, x))) (hi : i = nI j) (hj : j < N) (hN : N < 2 ^ 31) (hw : ws.set q0 (a, .inl (g_ca g 4, N, .inr (.inr (.inr (.inr (va_up f j (some v))))))) = ws2) (kk : aw_W l g M R Z cells slots ws2 (pc + 1) L st) : aw_W l g M R Z cells slots ws pc L (.ref v :: .int i :: .ref a :: st) := by
  subst hi
  subst hw
  intro p e s m args below meth c H locs ls hC hH hL
  have hK : va_K (g_D g) aw_cl (aw_tys g) s := hC.2.2.2.2.2.2.2.1
  obtain ⟨hP, hD, hS⟩ := hH
  have hcl' : (nI j).toNatClampNeg = j := nI_clamp (by omega)
  have hao' : (Cond.arrayOver (.array .int)).before args s = true := hao s hC.2.2.2.2.2.2.2.2.1
  obtain ⟨comp, cA, kA, f4, -, f2, f3, f1⟩ := arrayOverA_spec hao'
  have e4 : s.vm.findClass ("[" ++ FieldType.toString (.array .int)) = some (g_ca g 4) := (hK.2 4 (g_ca g 4, .array .int) rfl).2
  have e0 : s.vm.findClass ("[" ++ FieldType.toString .int) = some (g_ca g 0) := (hK.2 0 (g_ca g 0, .int) rfl).2
  have e5 : cA = g_ca g 4 := Option.some.inj (f1.symm.trans e4)
  subst e5
  have e6 : comp = g_ca g 0 := Option.some.inj (f4.symm.trans e0)
  subst e6
  obtain ⟨kC, hkC, -⟩ := Vm.findClass_spec e0
  have hcl0 : (vp_cell (g_ca g 0) x).cls = g_ca g 0 := by obtain ⟨n, f | f | f | f | f⟩ := x <;> rfl
  have hvm0 : (vp_cell (g_ca g 0) x).vm = .none := by obtain ⟨n, f | f | f | f | f⟩ := x <;> rfl
  refine W.aast hC.1 hC.2.1 (hP q0 _ ha) (fun q h => by cases h) (fun h => by cases h) f2 f3 rfl hkC ⟨nI_pos (by omega), by show _ < (arrV _ _ _).slots.size; rw [arrV_size, hcl']; exact hj⟩ (hP qk _ hv) (fun q h => by rw [hvm0] at h; cases h) (by rw [hcl0]; exact hkC) (by rw [hcl0]; exact va_asg _ _) rfl rfl (hC.2.2.2.2.2.2.2.2.2.2.2.1 _ _ _ hd) (fun H1 e z oq => ?_)
  rw [hcl'] at e
  refine kk p _ s m args below meth c H1 _ ls hC ⟨hP.set hD ha ?_ oq, hD.set ha, hS.put z oq (hD.2 q0 _ ha)⟩ hL
  show H1[a]? = some (vp_cell _ _)
  rw [e, vp_cell_q, vp_cell_q, arrV_store]
  congr 2
  funext q
  by_cases hq : q = j
  · subst hq
    simp [updV, va_up, va_rf]
  · simp [updV, va_up, hq]
/-- the words of a constructor's call -/
def aw_cI (own : String) (index : Nat) (N : ag_M) (k : Nat) : Prop := Cond.methodLink own index (m_y N) ∈ aw_tbl ∧ Cond.instanceMethod (m_y N) ∈ aw_tbl ∧ Cond.initialized (m_y N).cls ∈ aw_tbl ∧ Cond.code (m_y N) (m_c N) (m_n N) none ∈ aw_tbl ∧ (m_y N).name = "<init>" ∧ m_r N = none ∧ ((m_y N).cls ≠ "java/lang/invoke/MethodHandle" ∧ (m_y N).cls ≠ "java/lang/invoke/VarHandle" ∧ (parseMethodDescriptor (m_y N).desc).map (fun d => d.parameters.length) = some k)
theorem aw_callI {N : ag_M} {index n mc ms k b : Nat} {As rest st0 : List Value} {Q' : Option Value → va_W → Prop}
    (hd : m_at M pc = some (.invokespecial index, 3)) (hw : aw_cI (m_y M).cls index N k)
    (hM : aw_M l g N n mc ms (.ref b :: As) ws Q') (hk : As.length = k) (hst : st0 = As.reverse ++ .ref b :: rest) (hrest : (rest.map fun v => v.category).sum ≤ 8) (hf : n + 1 ≤ R.frames) (hlo : 8 + (m_n N + 11) + 100 * n ≤ R.locals) (h1 : cells + mc ≤ R.cells) (h2 : slots + ms ≤ R.slots)
    (kk : ∀ (r : Option Value) (ws' : va_W), Q' r ws' → aw_W l g M R Z (cells + mc) (slots + ms) ws' (pc + 3) L (r.toList ++ rest)) : aw_W l g M R Z cells slots ws pc L st0 := by
  intro p e s m args below meth c H locs ls hC hH hL
  obtain ⟨w1, w2, w4, w5, w7, w8, w6⟩ := hw
  subst hst
  have w5' : Cond.code (m_y N) (m_c N) (m_n N) (m_r N) ∈ aw_tbl := by rw [w8]; exact w5
  exact aw_goes hC hH hL (va_runI (nL := m_n M) (cc := m_c M) (As := As) (b := b) ⟨hC.1, hC.2.1, hC.2.2.1, hC.2.2.2.1, hC.2.2.2.2.1⟩ hM (cwI (bytes := m_c N) (maxL := m_n N) k hC.2.2.2.2.1 (aw_wsGood w5') (by show aw_ws N = _; rw [show aw_ws N = Cond.code (m_y N) (m_c N) (m_n N) (m_r N) :: aw_tbl from rfl, w8]) rfl rfl (hC.2.2.2.2.1 _ w4) (hC.2.2.2.2.1 _ w1) (hC.2.2.2.2.1 _ w2) w7 w6 ⟨hf, hlo⟩) ⟨aw_blind, fun U hU hW => aw_pre hC hH hU hW⟩ rfl hk hL.1 rfl (lv_room hrest) (hC.2.2.2.2.2.2.2.2.2.2.2.1 _ _ _ hd) ⟨h1, h2⟩) kk
/-- the same for a private one of a class beside -/
def aw_cN (own : String) (index : Nat) (N : ag_M) (k : Nat) : Prop := Cond.instanceMethod (m_y N) ∈ aw_tbl ∧ Cond.initialized (m_y N).cls ∈ aw_tbl ∧ Cond.code (m_y N) (m_c N) (m_n N) none ∈ aw_tbl ∧ (m_y N).name = "<init>" ∧ m_r N = none ∧ ((m_y N).cls ≠ "java/lang/invoke/MethodHandle" ∧ (m_y N).cls ≠ "java/lang/invoke/VarHandle" ∧ (parseMethodDescriptor (m_y N).desc).map (fun d => d.parameters.length) = some k)
theorem aw_callN {N : ag_M} {index n mc ms k b : Nat} {host : String} {As rest st0 : List Value} {Q' : Option Value → va_W → Prop}
    (hd : m_at M pc = some (.invokespecial index, 3)) (hn : ∀ U, g_X g U → va_Nw (.methodLinkNest (m_y M).cls index (m_y N) host) U) (hw : aw_cN (m_y M).cls index N k)
    (hM : aw_M l g N n mc ms (.ref b :: As) ws Q') (hk : As.length = k) (hst : st0 = As.reverse ++ .ref b :: rest) (hrest : (rest.map fun v => v.category).sum ≤ 8) (hf : n + 1 ≤ R.frames) (hlo : 8 + (m_n N + 11) + 100 * n ≤ R.locals) (h1 : cells + mc ≤ R.cells) (h2 : slots + ms ≤ R.slots)
    (kk : ∀ (r : Option Value) (ws' : va_W), Q' r ws' → aw_W l g M R Z (cells + mc) (slots + ms) ws' (pc + 3) L (r.toList ++ rest)) : aw_W l g M R Z cells slots ws pc L st0 := by
  intro p e s m args below meth c H locs ls hC hH hL
  obtain ⟨w2, w4, w5, w7, w8, w6⟩ := hw
  subst hst
  have w5' : Cond.code (m_y N) (m_c N) (m_n N) (m_r N) ∈ aw_tbl := by rw [w8]; exact w5
  exact aw_goes hC hH hL (va_runIN (nL := m_n M) (cc := m_c M) (As := As) (b := b) ⟨hC.1, hC.2.1, hC.2.2.1, hC.2.2.2.1, hC.2.2.2.2.1⟩ hM ⟨va_cnB (bytes := m_c N) (maxL := m_n N) (ret := none) k hC.2.2.2.2.1 (aw_wsGood w5') (by show aw_ws N = _; rw [show aw_ws N = Cond.code (m_y N) (m_c N) (m_n N) (m_r N) :: aw_tbl from rfl, w8]) rfl rfl (hn s hC.2.2.2.2.2.2.2.2.1) (hC.2.2.2.2.1 _ w4) w6 ⟨hf, hlo⟩, w7, hC.2.2.2.2.1 _ w2⟩ ⟨aw_blind, fun U hU hW => aw_pre hC hH hU hW⟩ rfl hk hL.1 rfl (lv_room hrest) (hC.2.2.2.2.2.2.2.2.2.2.2.1 _ _ _ hd) ⟨h1, h2⟩) kk
theorem aw_objI {index a : Nat} (hd : m_at M pc = some (.invokespecial index, 3)) (hl : Cond.methodLink (m_y M).cls index Lib.objectInit ∈ aw_tbl) (hi : Cond.instanceMethod Lib.objectInit ∈ aw_tbl) (hc : Cond.code Lib.objectInit ⟨#[0xb1]⟩ 1 none ∈ aw_tbl) (hf : 1 ≤ R.frames) (hlo : (st.map fun v => v.category).sum + 12 ≤ R.locals) (kk : aw_W l g M R Z cells slots ws (pc + 3) L st) : aw_W l g M R Z cells slots ws pc L (.ref a :: st) :=
  fun p e s m args below meth c H locs ls hC hH hL => W.objInit hC.1 hC.2.1 hC.2.2.2.1 (hC.2.2.2.2.1 _ hl) (hC.2.2.2.2.1 _ hi) (hC.2.2.2.2.1 _ hc) rfl (hL.1.trans hC.2.2.1.symm) rfl (hC.2.2.2.2.2.2.2.2.2.2.2.1 _ _ _ hd) hf (by show 2 * 0 + _ + 12 ≤ _; omega) (kk p e s m args below meth c H locs ls hC hH hL)
end AwMk
