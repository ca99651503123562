/-! The bundled judgement: aw_W, a frame of a method over the world ws; what is fixed in one start of the law is g. -/
/-- ad: where the cells of the world lie; D: class numbers and slots; ca: array classes (0 int, 1 long, 2 byte, 3 boolean, 4 int[]); base: where the law's own cells begin; X: what holds of the start (statics, texts) -/
abbrev ag_G : Type := (Nat → Nat) × va_G × (Nat → ClassId) × Nat × (State → Prop)
abbrev g_ad (g : ag_G) : Nat → Nat := g.1
abbrev g_D (g : ag_G) : va_G := g.2.1
abbrev g_ca (g : ag_G) : Nat → ClassId := g.2.2.1
abbrev g_b (g : ag_G) : Nat := g.2.2.2.1
abbrev g_X (g : ag_G) : State → Prop := g.2.2.2.2
/-- a method: name, bytes, locals, what it returns, its instructions -/
abbrev ag_M : Type := MethodName × ByteArray × Nat × Option FieldType × List (Nat × Instr × Nat)
abbrev m_y (M : ag_M) : MethodName := M.1
abbrev m_c (M : ag_M) : ByteArray := M.2.1
abbrev m_n (M : ag_M) : Nat := M.2.2.1
abbrev m_r (M : ag_M) : Option FieldType := M.2.2.2.1
def aw_find : List (Nat × Instr × Nat) → Nat → Option (Instr × Nat)
  | [], _ => none
  | (k, i) :: t, pc => cond (Nat.beq k pc) (some i) (aw_find t pc)
def m_at (M : ag_M) (pc : Nat) : Option (Instr × Nat) := aw_find M.2.2.2.2 pc
def aw_ok (M : ag_M) : Prop := ∀ (pc : Nat) (i : Instr) (n : Nat), m_at M pc = some (i, n) → decode (m_c M) pc = .ok (i, n)
theorem aw_find_mem : ∀ (T : List (Nat × Instr × Nat)) (pc : Nat) (i : Instr) (n : Nat), aw_find T pc = some (i, n) → (pc, i, n) ∈ T
  | [], _, _, _, h => by cases h
  | (k, j) :: t, pc, i, n, h => by
    simp only [aw_find] at h
    cases hk : Nat.beq k pc with
    | true =>
      rw [hk] at h
      have e : j = (i, n) := Option.some.inj h
      have hkp : k = pc := Nat.eq_of_beq_eq_true hk
      rw [← hkp, ← e]
      exact List.mem_cons_self
    | false =>
      rw [hk] at h
      exact List.mem_cons_of_mem _ (aw_find_mem t pc i n h)
theorem aw_ok_of {M : ag_M} (h : ∀ q ∈ M.2.2.2.2, decode (m_c M) q.1 = .ok (q.2.1, q.2.2)) : aw_ok M :=
  fun pc i n hm => h (pc, i, n) (aw_find_mem _ pc i n hm)
def aw_A (g : ag_G) : Nat → Prop := fun q => g_b g ≤ q
abbrev aw_tys (g : ag_G) : List (ClassId × FieldType) := [(g_ca g 0, .int), (g_ca g 1, .long), (g_ca g 2, .byte), (g_ca g 3, .boolean), (g_ca g 4, .array .int)]
def aw_K (g : ag_G) (s : State) : Prop := va_K (g_D g) aw_cl (aw_tys g) s
def aw_XM (g : ag_G) : Prop := ∀ s U : State, g_X g s → (s.WarmedH U.vm ∨ U.vm = s.vm) → s.heap.size ≤ U.heap.size → (∀ q : Nat, q < s.heap.size → ¬ aw_A g q → U.heap[q]? = s.heap[q]?) → g_X g U
def aw_C (g : ag_G) (M : ag_M) (p : Program) (s : State) (m : MethodId) (args : Array Value) (meth : Method) (c : Code) : Prop :=
  p.tables.exec = Jvm.exec ∧ c.code = m_c M ∧ c.maxLocals = m_n M ∧ s.vm.findClass (m_y M).cls = some m.cls ∧ (∀ w ∈ aw_tbl, w.before args s = true) ∧ meth.sig.returnType = m_r M ∧ meth.locks = false ∧ aw_K g s ∧ g_X g s ∧ g_b g ≤ s.heap.size ∧ aw_XM g ∧ aw_ok M ∧ meth.name = (m_y M).name ∧ ((m_y M).cls ≠ "WaxReignLaw" → ∀ x ∈ c.exceptionTable.toList, False)
def aw_H (g : ag_G) (ws : va_W) (s : State) (H : Heap) (locs : List Loc) : Prop := va_P (g_D g) aw_cl ws H ∧ va_D (aw_A g) ws ∧ va_S (aw_A g) s.heap H locs
def aw_L (ls : Array Slot) (n : Nat) (L : List (Option Value)) : Prop := ls.size = n ∧ lv_wf ls ∧ ∀ (i : Nat) (v : Value), L[i]? = some (some v) → ls[i]? = some (.val v)
/-- the end: below, args, s, then the state -/
abbrev ag_Z : Type := List Frame → Array Value → State → State → Prop
def aw_W (l : Launch) (g : ag_G) (M : ag_M) (R : Room) (Z : ag_Z) (cells slots : Nat) (ws : va_W) (pc : Nat) (L : List (Option Value)) (st : List Value) : Prop :=
  ∀ (p : Program) (e : Env) (s : State) (m : MethodId) (args : Array Value) (below : List Frame) (meth : Method) (c : Code) (H : Heap) (locs : List Loc) (ls : Array Slot),
    aw_C g M p s m args meth c → aw_H g ws s H locs → aw_L ls (m_n M) L → W p l e R s m args below meth c H locs cells slots (Z below args s) (F0 m pc ls st)
def aw_Q (g : ag_G) (Q : Option Value → va_W → Prop) : Array Value → State → Outcome → State → Prop := fun _ st o t =>
  (∃ (r : Option Value) (ws : va_W), o = .returned r ∧ Q r ws ∧ va_P (g_D g) aw_cl ws t.heap ∧ va_D (aw_A g) ws) ∧ va_F (aw_A g) st t
def aw_Z (g : ag_G) (Q : Option Value → va_W → Prop) (mc ms : Nat) : ag_Z := fun below args s => MQ below (aw_Q g Q) args s mc ms (aw_A g)
def aw_Pc (g : ag_G) (vs : List Value) (ws : va_W) : Array Value → State → Prop := fun v U =>
  v = vs.toArray ∧ g_b g ≤ U.heap.size ∧ va_P (g_D g) aw_cl ws U.heap ∧ va_D (aw_A g) ws ∧ aw_K g U ∧ g_X g U ∧ aw_XM g
abbrev aw_ws (M : ag_M) : List Cond := .code (m_y M) (m_c M) (m_n M) (m_r M) :: aw_tbl
abbrev aw_rm (n mc ms : Nat) : Room := { frames := n, cells := mc, slots := ms, locals := 100 * n }
/-- a method's contract at depth n: from the world ws with these arguments it returns, and Q of the answer and the new world -/
def aw_M (l : Launch) (g : ag_G) (M : ag_M) (n mc ms : Nat) (vs : List Value) (ws : va_W) (Q : Option Value → va_W → Prop) : Prop :=
  Met l (m_y M) (aw_ws M) (aw_rm n mc ms) (aw_Pc g vs ws) (aw_Q g Q) mc ms (aw_A g)
/-- the locals at the entry, by slots -/
def aw_arg : List Value → List (Option Value)
  | [] => []
  | v :: t => match v with
    | .long _ => some v :: none :: aw_arg t
    | .double _ => some v :: none :: aw_arg t
    | _ => some v :: aw_arg t
theorem aw_arg_has (vs : List Value) : ∀ (i j : Nat) (v : Value), (aw_arg vs)[i]? = some (some v) → (i + j, v) ∈ lv_args j vs := by
  induction vs with
  | nil => intro i j v h; simp [aw_arg] at h
  | cons a t ih =>
    intro i j v h
    cases a <;> simp only [aw_arg] at h <;> simp only [lv_args] <;> cases i with
    | zero => simp at h; subst h; simp
    | succ i =>
      first
      | (cases i with
         | zero => simp at h
         | succ i => refine List.mem_cons_of_mem _ ?_; have := ih i (j + 2) v (by simpa using h); rw [show i + 1 + 1 + j = i + (j + 2) by omega]; exact this)
      | (refine List.mem_cons_of_mem _ ?_; have := ih i (j + 1) v (by simpa using h); rw [show i + 1 + j = i + (j + 1) by omega]; exact this)
