/-! the rows, over aw_W -/
def aw_pr (L : List (Option Value)) : List (Nat × Value) := (List.range L.length).filterMap (fun i => (L[i]?.join).map (fun v => (i, v)))
theorem aw_pr_mem {L : List (Option Value)} {i : Nat} {v : Value} : (i, v) ∈ aw_pr L ↔ L[i]? = some (some v) := by
  unfold aw_pr
  rw [List.mem_filterMap]
  constructor
  · rintro ⟨j, -, h⟩
    cases hj : L[j]? with
    | none => rw [hj] at h; simp at h
    | some o =>
      rw [hj] at h
      cases o with
      | none => simp at h
      | some u =>
        simp at h
        obtain ⟨rfl, rfl⟩ := h
        exact hj
  · intro h
    refine ⟨i, ?_, ?_⟩
    · have := (List.getElem?_eq_some_iff.mp h).1
      exact List.mem_range.mpr this
    · rw [h]; rfl
theorem aw_L.has {ls : Array Slot} {n : Nat} {L : List (Option Value)} (h : aw_L ls n L) : lv_has ls n (aw_pr L) := ⟨h.1, h.2.1, fun q hq => h.2.2 q.1 q.2 (aw_pr_mem.mp hq)⟩
def aw_clr : Option Value → Option Value
  | some (.long _) => none
  | some (.double _) => none
  | o => o
def aw_sto : List (Option Value) → Nat → Value → List (Option Value)
  | [], 0, v => [some v]
  | [], i + 1, v => none :: aw_sto [] i v
  | _ :: L, 0, v => some v :: L
  | o :: L, i + 1, v => (match i with | 0 => aw_clr o | _ + 1 => o) :: aw_sto L i v
theorem aw_clr_some {o : Option Value} {w : Value} (h : aw_clr o = some w) : o = some w ∧ ¬ w.category = 2 := by
  cases o with
  | none => cases h
  | some u => cases u <;> simp [aw_clr] at h <;> subst h <;> exact ⟨rfl, by simp [Value.category]⟩
theorem aw_sto_get (i : Nat) : ∀ (L : List (Option Value)) (v : Value) (j : Nat) (w : Value), (aw_sto L i v)[j]? = some (some w) → (j = i ∧ w = v) ∨ (j ≠ i ∧ L[j]? = some (some w) ∧ ¬ (j + 1 = i ∧ w.category = 2)) := by
  induction i with
  | zero =>
    intro L v j w h
    cases L with
    | nil =>
      cases j with
      | zero => simp [aw_sto] at h; exact Or.inl ⟨rfl, h.symm⟩
      | succ j => simp [aw_sto] at h
    | cons o t =>
      cases j with
      | zero => simp [aw_sto] at h; exact Or.inl ⟨rfl, h.symm⟩
      | succ j => exact Or.inr ⟨by omega, by simpa [aw_sto] using h, by omega⟩
  | succ i ih =>
    intro L v j w h
    cases L with
    | nil =>
      cases j with
      | zero => simp [aw_sto] at h
      | succ j =>
        rcases ih [] v j w (by simpa [aw_sto] using h) with ⟨a, b⟩ | ⟨a, b, -⟩
        · exact Or.inl ⟨by omega, b⟩
        · simp at b
    | cons o t =>
      cases j with
      | zero =>
        cases i with
        | zero =>
          have h2 : aw_clr o = some w := by simpa [aw_sto] using h
          obtain ⟨e, f⟩ := aw_clr_some h2
          exact Or.inr ⟨by omega, by simp [e], fun q => f q.2⟩
        | succ i =>
          have h2 : o = some w := by simpa [aw_sto] using h
          exact Or.inr ⟨by omega, by simp [h2], by omega⟩
      | succ j =>
        rcases ih t v j w (by simpa [aw_sto] using h) with ⟨a, b⟩ | ⟨a, b, c⟩
        · exact Or.inl ⟨by omega, b⟩
        · exact Or.inr ⟨by omega, by simpa using b, fun q => c ⟨by omega, q.2⟩⟩
theorem aw_L.st1 {ls : Array Slot} {n i : Nat} {L : List (Option Value)} {v : Value} (h : lv_has ls n ((i, v) :: (aw_pr L).filter (fun q => !(q.1 == i) && !(q.1 + 1 == i && q.2.category == 2)))) : aw_L ls n (aw_sto L i v) := by
  refine ⟨h.1, h.2.1, fun j w hj => ?_⟩
  rcases aw_sto_get i L v j w hj with ⟨rfl, rfl⟩ | ⟨a, b, c⟩
  · exact h.2.2 (j, w) List.mem_cons_self
  · refine h.2.2 (j, w) (List.mem_cons_of_mem _ (List.mem_filter.mpr ⟨aw_pr_mem.mpr b, ?_⟩))
    simp only [Bool.and_eq_true, Bool.not_eq_true', beq_eq_false_iff_ne, ne_eq, Bool.and_eq_false_iff]
    refine ⟨a, ?_⟩
    by_cases e : j + 1 = i
    · exact Or.inr (fun q => c ⟨e, q⟩)
    · exact Or.inl e
def aw_non : List (Option Value) → Nat → List (Option Value)
  | [], _ => []
  | _ :: L, 0 => none :: L
  | o :: L, i + 1 => o :: aw_non L i
theorem aw_non_get (i : Nat) : ∀ (L : List (Option Value)) (j : Nat) (w : Value), (aw_non L i)[j]? = some (some w) → j ≠ i ∧ L[j]? = some (some w) := by
  induction i with
  | zero =>
    intro L j w h
    cases L with
    | nil => simp [aw_non] at h
    | cons o t =>
      cases j with
      | zero => simp [aw_non] at h
      | succ j => exact ⟨by omega, by simpa [aw_non] using h⟩
  | succ i ih =>
    intro L j w h
    cases L with
    | nil => simp [aw_non] at h
    | cons o t =>
      cases j with
      | zero => exact ⟨by omega, by simpa [aw_non] using h⟩
      | succ j =>
        obtain ⟨a, b⟩ := ih t j w (by simpa [aw_non] using h)
        exact ⟨by omega, by simpa using b⟩
theorem aw_L.st2 {ls : Array Slot} {n i : Nat} {L : List (Option Value)} {v : Value} (h : lv_has ls n ((i, v) :: (aw_pr L).filter (fun q => !(q.1 == i) && (!(q.1 == i + 1) && !(q.1 + 1 == i && q.2.category == 2))))) : aw_L ls n (aw_non (aw_sto L i v) (i + 1)) := by
  refine ⟨h.1, h.2.1, fun j w hj => ?_⟩
  obtain ⟨z, hj⟩ := aw_non_get _ _ _ _ hj
  rcases aw_sto_get i L v j w hj with ⟨rfl, rfl⟩ | ⟨a, b, c⟩
  · exact h.2.2 (j, w) List.mem_cons_self
  · refine h.2.2 (j, w) (List.mem_cons_of_mem _ (List.mem_filter.mpr ⟨aw_pr_mem.mpr b, ?_⟩))
    simp only [Bool.and_eq_true, Bool.not_eq_true', beq_eq_false_iff_ne, ne_eq, Bool.and_eq_false_iff]
    refine ⟨a, z, ?_⟩
    by_cases e : j + 1 = i
    · exact Or.inr (fun q => c ⟨e, q⟩)
    · exact Or.inl e
/-- fewer locals known -/
def aw_le : List (Option Value) → List (Option Value) → Prop
  | [], _ => True
  | none :: L, [] => aw_le L []
  | some _ :: _, [] => False
  | none :: L, _ :: L' => aw_le L L'
  | some v :: L, o :: L' => o = some v ∧ aw_le L L'
theorem aw_le_get : ∀ (L L' : List (Option Value)), aw_le L L' → ∀ (i : Nat) (v : Value), L[i]? = some (some v) → L'[i]? = some (some v)
  | [], _, _, i, v, h => by simp at h
  | none :: L, [], q, i, v, h => by
    cases i with
    | zero => simp at h
    | succ i => have := aw_le_get L [] (by simpa [aw_le] using q) i v (by simpa using h); simp at this
  | some _ :: _, [], q, _, _, _ => absurd q (by simp [aw_le])
  | none :: L, o :: L', q, i, v, h => by
    cases i with
    | zero => simp at h
    | succ i => have := aw_le_get L L' (by simpa [aw_le] using q) i v (by simpa using h); simpa using this
  | some u :: L, o :: L', q, i, v, h => by
    obtain ⟨e, q⟩ := (by simpa [aw_le] using q : o = some u ∧ aw_le L L')
    cases i with
    | zero => simp at h; subst h; simp [e]
    | succ i => have := aw_le_get L L' q i v (by simpa using h); simpa using this
section AwRows
variable {l : Launch} {g : ag_G} {M : ag_M} {R : Room} {Z : ag_Z} {cells slots : Nat} {ws : va_W} {pc : Nat} {L : List (Option Value)} {st : List Value}
theorem aw_wk {L' : List (Option Value)} (k : aw_W l g M R Z cells slots ws pc L st) (h : aw_le L L') : aw_W l g M R Z cells slots ws pc L' st :=
  fun p e s m args below meth c H locs ls hC hH hL => k p e s m args below meth c H locs ls hC hH ⟨hL.1, hL.2.1, fun i v hi => hL.2.2 i v (aw_le_get _ _ h i v hi)⟩
theorem aw_eqs {pc' : Nat} {st' : List Value} {ws' : va_W} (k : aw_W l g M R Z cells slots ws' pc' L st') (h1 : pc = pc') (h2 : st = st') (h3 : ws = ws') : aw_W l g M R Z cells slots ws pc L st := by subst h1; subst h2; subst h3; exact k
theorem aw_wide {c' s' : Nat} (k : aw_W l g M R Z c' s' ws pc L st) (h1 : cells ≤ c') (h2 : slots ≤ s') : aw_W l g M R Z cells slots ws pc L st :=
  fun p e s m args below meth c H locs ls hC hH hL => W.widen h1 h2 (k p e s m args below meth c H locs ls hC hH hL)
theorem aw_iconst {n : Int} {v : Int32} (hd : m_at M pc = some (.iconst n, 1)) (hv : Int32.ofInt n = v) (kk : aw_W l g M R Z cells slots ws (pc + 1) L (.int v :: st)) : aw_W l g M R Z cells slots ws pc L st := fun p e s m args below meth c H locs ls hC hH hL => lv_iconst (v := v) hC.1 hC.2.1 (hC.2.2.2.2.2.2.2.2.2.2.2.1 _ _ _ hd) hv (kk p e s m args below meth c H locs ls hC hH hL)
theorem aw_bipush {n : Int} {v : Int32} (hd : m_at M pc = some (.bipush n, 2)) (hv : (Int8.ofInt n).toInt32 = v) (kk : aw_W l g M R Z cells slots ws (pc + 2) L (.int v :: st)) : aw_W l g M R Z cells slots ws pc L st := fun p e s m args below meth c H locs ls hC hH hL => lv_bipush (v := v) hC.1 hC.2.1 (hC.2.2.2.2.2.2.2.2.2.2.2.1 _ _ _ hd) hv (kk p e s m args below meth c H locs ls hC hH hL)
theorem aw_sipush {n : Int} {v : Int32} (hd : m_at M pc = some (.sipush n, 3)) (hv : (Int16.ofInt n).toInt32 = v) (kk : aw_W l g M R Z cells slots ws (pc + 3) L (.int v :: st)) : aw_W l g M R Z cells slots ws pc L st := fun p e s m args below meth c H locs ls hC hH hL => lv_sipush (v := v) hC.1 hC.2.1 (hC.2.2.2.2.2.2.2.2.2.2.2.1 _ _ _ hd) hv (kk p e s m args below meth c H locs ls hC hH hL)
theorem aw_lconst {n : Fin 2} {v : Int64} (hd : m_at M pc = some (.lconst n, 1)) (hv : Int64.ofNat (n : Nat) = v) (kk : aw_W l g M R Z cells slots ws (pc + 1) L (.long v :: st)) : aw_W l g M R Z cells slots ws pc L st := fun p e s m args below meth c H locs ls hC hH hL => lv_lconst (v := v) hC.1 hC.2.1 (hC.2.2.2.2.2.2.2.2.2.2.2.1 _ _ _ hd) hv (kk p e s m args below meth c H locs ls hC hH hL)
theorem aw_iload_n {k : Fin 4} {x : Int32} (hd : m_at M pc = some (.iload_n k, 1)) (hl : L[(k : Nat)]? = some (some (.int x))) (kk : aw_W l g M R Z cells slots ws (pc + 1) L (.int x :: st)) : aw_W l g M R Z cells slots ws pc L st := fun p e s m args below meth c H locs ls hC hH hL => lv_iload_n hC.1 hC.2.1 (hC.2.2.2.2.2.2.2.2.2.2.2.1 _ _ _ hd) rfl (hL.2.2 _ _ hl) (kk p e s m args below meth c H locs ls hC hH hL)
theorem aw_iload {i : Nat} {x : Int32} (hd : m_at M pc = some (.iload i, 2)) (hl : L[i]? = some (some (.int x))) (kk : aw_W l g M R Z cells slots ws (pc + 2) L (.int x :: st)) : aw_W l g M R Z cells slots ws pc L st := fun p e s m args below meth c H locs ls hC hH hL => lv_iload hC.1 hC.2.1 (hC.2.2.2.2.2.2.2.2.2.2.2.1 _ _ _ hd) (hL.2.2 _ _ hl) (kk p e s m args below meth c H locs ls hC hH hL)
theorem aw_lload_n {k : Fin 4} {x : Int64} (hd : m_at M pc = some (.lload_n k, 1)) (hl : L[(k : Nat)]? = some (some (.long x))) (kk : aw_W l g M R Z cells slots ws (pc + 1) L (.long x :: st)) : aw_W l g M R Z cells slots ws pc L st := fun p e s m args below meth c H locs ls hC hH hL => lv_lload_n hC.1 hC.2.1 (hC.2.2.2.2.2.2.2.2.2.2.2.1 _ _ _ hd) rfl (hL.2.2 _ _ hl) (kk p e s m args below meth c H locs ls hC hH hL)
theorem aw_lload {i : Nat} {x : Int64} (hd : m_at M pc = some (.lload i, 2)) (hl : L[i]? = some (some (.long x))) (kk : aw_W l g M R Z cells slots ws (pc + 2) L (.long x :: st)) : aw_W l g M R Z cells slots ws pc L st := fun p e s m args below meth c H locs ls hC hH hL => lv_lload hC.1 hC.2.1 (hC.2.2.2.2.2.2.2.2.2.2.2.1 _ _ _ hd) (hL.2.2 _ _ hl) (kk p e s m args below meth c H locs ls hC hH hL)
theorem aw_aload_n {k : Fin 4} {x : Nat} (hd : m_at M pc = some (.aload_n k, 1)) (hl : L[(k : Nat)]? = some (some (.ref x))) (kk : aw_W l g M R Z cells slots ws (pc + 1) L (.ref x :: st)) : aw_W l g M R Z cells slots ws pc L st := fun p e s m args below meth c H locs ls hC hH hL => lv_aload_n hC.1 hC.2.1 (hC.2.2.2.2.2.2.2.2.2.2.2.1 _ _ _ hd) rfl (hL.2.2 _ _ hl) (kk p e s m args below meth c H locs ls hC hH hL)
theorem aw_aload {i : Nat} {x : Nat} (hd : m_at M pc = some (.aload i, 2)) (hl : L[i]? = some (some (.ref x))) (kk : aw_W l g M R Z cells slots ws (pc + 2) L (.ref x :: st)) : aw_W l g M R Z cells slots ws pc L st := fun p e s m args below meth c H locs ls hC hH hL => lv_aload hC.1 hC.2.1 (hC.2.2.2.2.2.2.2.2.2.2.2.1 _ _ _ hd) (hL.2.2 _ _ hl) (kk p e s m args below meth c H locs ls hC hH hL)
theorem aw_istore_n {k : Fin 4} {x : Int32} (hd : m_at M pc = some (.istore_n k, 1)) (hn : (k : Nat) < m_n M) (kk : aw_W l g M R Z cells slots ws (pc + 1) (aw_sto L k (.int x)) st) : aw_W l g M R Z cells slots ws pc L (.int x :: st) := fun p e s m args below meth c H locs ls hC hH hL => lv_istore_n hC.1 hC.2.1 (hC.2.2.2.2.2.2.2.2.2.2.2.1 _ _ _ hd) rfl hL.has hn rfl (fun ls2 h2 => kk p e s m args below meth c H locs ls2 hC hH (aw_L.st1 h2))
theorem aw_istore {i : Nat} {x : Int32} (hd : m_at M pc = some (.istore i, 2)) (hn : i < m_n M) (kk : aw_W l g M R Z cells slots ws (pc + 2) (aw_sto L i (.int x)) st) : aw_W l g M R Z cells slots ws pc L (.int x :: st) := fun p e s m args below meth c H locs ls hC hH hL => lv_istore hC.1 hC.2.1 (hC.2.2.2.2.2.2.2.2.2.2.2.1 _ _ _ hd) hL.has hn rfl (fun ls2 h2 => kk p e s m args below meth c H locs ls2 hC hH (aw_L.st1 h2))
theorem aw_astore_n {k : Fin 4} {x : Nat} (hd : m_at M pc = some (.astore_n k, 1)) (hn : (k : Nat) < m_n M) (kk : aw_W l g M R Z cells slots ws (pc + 1) (aw_sto L k (.ref x)) st) : aw_W l g M R Z cells slots ws pc L (.ref x :: st) := fun p e s m args below meth c H locs ls hC hH hL => lv_astore_n hC.1 hC.2.1 (hC.2.2.2.2.2.2.2.2.2.2.2.1 _ _ _ hd) rfl hL.has hn rfl (fun ls2 h2 => kk p e s m args below meth c H locs ls2 hC hH (aw_L.st1 h2))
theorem aw_astore {i : Nat} {x : Nat} (hd : m_at M pc = some (.astore i, 2)) (hn : i < m_n M) (kk : aw_W l g M R Z cells slots ws (pc + 2) (aw_sto L i (.ref x)) st) : aw_W l g M R Z cells slots ws pc L (.ref x :: st) := fun p e s m args below meth c H locs ls hC hH hL => lv_astore hC.1 hC.2.1 (hC.2.2.2.2.2.2.2.2.2.2.2.1 _ _ _ hd) hL.has hn rfl (fun ls2 h2 => kk p e s m args below meth c H locs ls2 hC hH (aw_L.st1 h2))
theorem aw_lstore_n {k : Fin 4} {x : Int64} (hd : m_at M pc = some (.lstore_n k, 1)) (hn : (k : Nat) + 1 < m_n M) (kk : aw_W l g M R Z cells slots ws (pc + 1) (aw_non (aw_sto L k (.long x)) (k + 1)) st) : aw_W l g M R Z cells slots ws pc L (.long x :: st) := fun p e s m args below meth c H locs ls hC hH hL => lv_lstore_n hC.1 hC.2.1 (hC.2.2.2.2.2.2.2.2.2.2.2.1 _ _ _ hd) rfl hL.has hn rfl (fun ls2 h2 => kk p e s m args below meth c H locs ls2 hC hH (aw_L.st2 h2))
theorem aw_lstore {i : Nat} {x : Int64} (hd : m_at M pc = some (.lstore i, 2)) (hn : i + 1 < m_n M) (kk : aw_W l g M R Z cells slots ws (pc + 2) (aw_non (aw_sto L i (.long x)) (i + 1)) st) : aw_W l g M R Z cells slots ws pc L (.long x :: st) := fun p e s m args below meth c H locs ls hC hH hL => lv_lstore hC.1 hC.2.1 (hC.2.2.2.2.2.2.2.2.2.2.2.1 _ _ _ hd) hL.has hn rfl (fun ls2 h2 => kk p e s m args below meth c H locs ls2 hC hH (aw_L.st2 h2))
theorem aw_iinc {i : Nat} {n : Int} {x v : Int32} (hd : m_at M pc = some (.iinc i n, 3)) (hl : L[i]? = some (some (.int x))) (hv : x + Int32.ofInt n = v) (hn : i < m_n M) (kk : aw_W l g M R Z cells slots ws (pc + 3) (aw_sto L i (.int v)) st) : aw_W l g M R Z cells slots ws pc L st := by
  intro p e s m args below meth c H locs ls hC hH hL
  obtain ⟨k, hk⟩ := List.mem_iff_getElem?.mp (aw_pr_mem.mpr hl)
  exact lv_iinc hC.1 hC.2.1 (hC.2.2.2.2.2.2.2.2.2.2.2.1 _ _ _ hd) hL.has hk hv hn rfl (fun ls2 h2 => kk p e s m args below meth c H locs ls2 hC hH (aw_L.st1 h2))
theorem aw_iadd {x y : Int32} (hd : m_at M pc = some (.iadd, 1)) (kk : aw_W l g M R Z cells slots ws (pc + 1) L (.int (x + y) :: st)) : aw_W l g M R Z cells slots ws pc L (.int y :: .int x :: st) := fun p e s m args below meth c H locs ls hC hH hL => lv_iadd hC.1 hC.2.1 (hC.2.2.2.2.2.2.2.2.2.2.2.1 _ _ _ hd) (kk p e s m args below meth c H locs ls hC hH hL)
theorem aw_isub {x y : Int32} (hd : m_at M pc = some (.isub, 1)) (kk : aw_W l g M R Z cells slots ws (pc + 1) L (.int (x - y) :: st)) : aw_W l g M R Z cells slots ws pc L (.int y :: .int x :: st) := fun p e s m args below meth c H locs ls hC hH hL => lv_isub hC.1 hC.2.1 (hC.2.2.2.2.2.2.2.2.2.2.2.1 _ _ _ hd) (kk p e s m args below meth c H locs ls hC hH hL)
theorem aw_imul {x y : Int32} (hd : m_at M pc = some (.imul, 1)) (kk : aw_W l g M R Z cells slots ws (pc + 1) L (.int (x * y) :: st)) : aw_W l g M R Z cells slots ws pc L (.int y :: .int x :: st) := fun p e s m args below meth c H locs ls hC hH hL => lv_imul hC.1 hC.2.1 (hC.2.2.2.2.2.2.2.2.2.2.2.1 _ _ _ hd) (kk p e s m args below meth c H locs ls hC hH hL)
theorem aw_iand {x y : Int32} (hd : m_at M pc = some (.iand, 1)) (kk : aw_W l g M R Z cells slots ws (pc + 1) L (.int (x &&& y) :: st)) : aw_W l g M R Z cells slots ws pc L (.int y :: .int x :: st) := fun p e s m args below meth c H locs ls hC hH hL => lv_iand hC.1 hC.2.1 (hC.2.2.2.2.2.2.2.2.2.2.2.1 _ _ _ hd) (kk p e s m args below meth c H locs ls hC hH hL)
theorem aw_ior {x y : Int32} (hd : m_at M pc = some (.ior, 1)) (kk : aw_W l g M R Z cells slots ws (pc + 1) L (.int (x ||| y) :: st)) : aw_W l g M R Z cells slots ws pc L (.int y :: .int x :: st) := fun p e s m args below meth c H locs ls hC hH hL => lv_ior hC.1 hC.2.1 (hC.2.2.2.2.2.2.2.2.2.2.2.1 _ _ _ hd) (kk p e s m args below meth c H locs ls hC hH hL)
theorem aw_ixor {x y : Int32} (hd : m_at M pc = some (.ixor, 1)) (kk : aw_W l g M R Z cells slots ws (pc + 1) L (.int (x ^^^ y) :: st)) : aw_W l g M R Z cells slots ws pc L (.int y :: .int x :: st) := fun p e s m args below meth c H locs ls hC hH hL => lv_ixor hC.1 hC.2.1 (hC.2.2.2.2.2.2.2.2.2.2.2.1 _ _ _ hd) (kk p e s m args below meth c H locs ls hC hH hL)
theorem aw_ishl {x y : Int32} (hd : m_at M pc = some (.ishl, 1)) (kk : aw_W l g M R Z cells slots ws (pc + 1) L (.int (x <<< (y &&& 31)) :: st)) : aw_W l g M R Z cells slots ws pc L (.int y :: .int x :: st) := fun p e s m args below meth c H locs ls hC hH hL => lv_ishl hC.1 hC.2.1 (hC.2.2.2.2.2.2.2.2.2.2.2.1 _ _ _ hd) (kk p e s m args below meth c H locs ls hC hH hL)
theorem aw_ishr {x y : Int32} (hd : m_at M pc = some (.ishr, 1)) (kk : aw_W l g M R Z cells slots ws (pc + 1) L (.int (x >>> (y &&& 31)) :: st)) : aw_W l g M R Z cells slots ws pc L (.int y :: .int x :: st) := fun p e s m args below meth c H locs ls hC hH hL => lv_ishr hC.1 hC.2.1 (hC.2.2.2.2.2.2.2.2.2.2.2.1 _ _ _ hd) (kk p e s m args below meth c H locs ls hC hH hL)
theorem aw_iushr {x y v : Int32} (hd : m_at M pc = some (.iushr, 1)) (hv : (x.toUInt32 >>> (y.toUInt32 &&& Int32.toUInt32 31)).toInt32 = v) (kk : aw_W l g M R Z cells slots ws (pc + 1) L (.int v :: st)) : aw_W l g M R Z cells slots ws pc L (.int y :: .int x :: st) := fun p e s m args below meth c H locs ls hC hH hL => lv_iushr hC.1 hC.2.1 (hC.2.2.2.2.2.2.2.2.2.2.2.1 _ _ _ hd) hv (kk p e s m args below meth c H locs ls hC hH hL)
theorem aw_idiv {x y : Int32} (hd : m_at M pc = some (.idiv, 1)) (hne : ¬ y = 0) (kk : aw_W l g M R Z cells slots ws (pc + 1) L (.int (x / y) :: st)) : aw_W l g M R Z cells slots ws pc L (.int y :: .int x :: st) := fun p e s m args below meth c H locs ls hC hH hL => lv_idiv hC.1 hC.2.1 (hC.2.2.2.2.2.2.2.2.2.2.2.1 _ _ _ hd) hne (kk p e s m args below meth c H locs ls hC hH hL)
theorem aw_irem {x y : Int32} (hd : m_at M pc = some (.irem, 1)) (hne : ¬ y = 0) (kk : aw_W l g M R Z cells slots ws (pc + 1) L (.int (x - x / y * y) :: st)) : aw_W l g M R Z cells slots ws pc L (.int y :: .int x :: st) := fun p e s m args below meth c H locs ls hC hH hL => lv_irem hC.1 hC.2.1 (hC.2.2.2.2.2.2.2.2.2.2.2.1 _ _ _ hd) hne (kk p e s m args below meth c H locs ls hC hH hL)
theorem aw_ineg {x : Int32} (hd : m_at M pc = some (.ineg, 1)) (kk : aw_W l g M R Z cells slots ws (pc + 1) L (.int (-x) :: st)) : aw_W l g M R Z cells slots ws pc L (.int x :: st) := fun p e s m args below meth c H locs ls hC hH hL => lv_ineg hC.1 hC.2.1 (hC.2.2.2.2.2.2.2.2.2.2.2.1 _ _ _ hd) (kk p e s m args below meth c H locs ls hC hH hL)
theorem aw_ladd {x y : Int64} (hd : m_at M pc = some (.ladd, 1)) (kk : aw_W l g M R Z cells slots ws (pc + 1) L (.long (x + y) :: st)) : aw_W l g M R Z cells slots ws pc L (.long y :: .long x :: st) := fun p e s m args below meth c H locs ls hC hH hL => lv_ladd hC.1 hC.2.1 (hC.2.2.2.2.2.2.2.2.2.2.2.1 _ _ _ hd) (kk p e s m args below meth c H locs ls hC hH hL)
theorem aw_lsub {x y : Int64} (hd : m_at M pc = some (.lsub, 1)) (kk : aw_W l g M R Z cells slots ws (pc + 1) L (.long (x - y) :: st)) : aw_W l g M R Z cells slots ws pc L (.long y :: .long x :: st) := fun p e s m args below meth c H locs ls hC hH hL => lv_lsub hC.1 hC.2.1 (hC.2.2.2.2.2.2.2.2.2.2.2.1 _ _ _ hd) (kk p e s m args below meth c H locs ls hC hH hL)
theorem aw_lmul {x y : Int64} (hd : m_at M pc = some (.lmul, 1)) (kk : aw_W l g M R Z cells slots ws (pc + 1) L (.long (x * y) :: st)) : aw_W l g M R Z cells slots ws pc L (.long y :: .long x :: st) := fun p e s m args below meth c H locs ls hC hH hL => lv_lmul hC.1 hC.2.1 (hC.2.2.2.2.2.2.2.2.2.2.2.1 _ _ _ hd) (kk p e s m args below meth c H locs ls hC hH hL)
theorem aw_land {x y : Int64} (hd : m_at M pc = some (.land, 1)) (kk : aw_W l g M R Z cells slots ws (pc + 1) L (.long (x &&& y) :: st)) : aw_W l g M R Z cells slots ws pc L (.long y :: .long x :: st) := fun p e s m args below meth c H locs ls hC hH hL => lv_land hC.1 hC.2.1 (hC.2.2.2.2.2.2.2.2.2.2.2.1 _ _ _ hd) (kk p e s m args below meth c H locs ls hC hH hL)
theorem aw_lor {x y : Int64} (hd : m_at M pc = some (.lor, 1)) (kk : aw_W l g M R Z cells slots ws (pc + 1) L (.long (x ||| y) :: st)) : aw_W l g M R Z cells slots ws pc L (.long y :: .long x :: st) := fun p e s m args below meth c H locs ls hC hH hL => lv_lor hC.1 hC.2.1 (hC.2.2.2.2.2.2.2.2.2.2.2.1 _ _ _ hd) (kk p e s m args below meth c H locs ls hC hH hL)
theorem aw_ldiv {x y : Int64} (hd : m_at M pc = some (.ldiv, 1)) (hne : ¬ y = 0) (kk : aw_W l g M R Z cells slots ws (pc + 1) L (.long (x / y) :: st)) : aw_W l g M R Z cells slots ws pc L (.long y :: .long x :: st) := fun p e s m args below meth c H locs ls hC hH hL => lv_ldiv hC.1 hC.2.1 (hC.2.2.2.2.2.2.2.2.2.2.2.1 _ _ _ hd) hne (kk p e s m args below meth c H locs ls hC hH hL)
theorem aw_lrem {x y : Int64} (hd : m_at M pc = some (.lrem, 1)) (hne : ¬ y = 0) (kk : aw_W l g M R Z cells slots ws (pc + 1) L (.long (x - x / y * y) :: st)) : aw_W l g M R Z cells slots ws pc L (.long y :: .long x :: st) := fun p e s m args below meth c H locs ls hC hH hL => lv_lrem hC.1 hC.2.1 (hC.2.2.2.2.2.2.2.2.2.2.2.1 _ _ _ hd) hne (kk p e s m args below meth c H locs ls hC hH hL)
theorem aw_lshl {x v : Int64} {y : Int32} (hd : m_at M pc = some (.lshl, 1)) (hv : x <<< (y.toInt64 &&& 63) = v) (kk : aw_W l g M R Z cells slots ws (pc + 1) L (.long v :: st)) : aw_W l g M R Z cells slots ws pc L (.int y :: .long x :: st) := fun p e s m args below meth c H locs ls hC hH hL => lv_lshl hC.1 hC.2.1 (hC.2.2.2.2.2.2.2.2.2.2.2.1 _ _ _ hd) hv (kk p e s m args below meth c H locs ls hC hH hL)
theorem aw_lushr {x v : Int64} {y : Int32} (hd : m_at M pc = some (.lushr, 1)) (hv : (x.toUInt64 >>> (y.toInt64.toUInt64 &&& Int64.toUInt64 63)).toInt64 = v) (kk : aw_W l g M R Z cells slots ws (pc + 1) L (.long v :: st)) : aw_W l g M R Z cells slots ws pc L (.int y :: .long x :: st) := fun p e s m args below meth c H locs ls hC hH hL => lv_lushr hC.1 hC.2.1 (hC.2.2.2.2.2.2.2.2.2.2.2.1 _ _ _ hd) hv (kk p e s m args below meth c H locs ls hC hH hL)
theorem aw_i2l {x : Int32} (hd : m_at M pc = some (.i2l, 1)) (kk : aw_W l g M R Z cells slots ws (pc + 1) L (.long x.toInt64 :: st)) : aw_W l g M R Z cells slots ws pc L (.int x :: st) := fun p e s m args below meth c H locs ls hC hH hL => lv_i2l hC.1 hC.2.1 (hC.2.2.2.2.2.2.2.2.2.2.2.1 _ _ _ hd) rfl (kk p e s m args below meth c H locs ls hC hH hL)
theorem aw_l2i {x : Int64} (hd : m_at M pc = some (.l2i, 1)) (kk : aw_W l g M R Z cells slots ws (pc + 1) L (.int x.toInt32 :: st)) : aw_W l g M R Z cells slots ws pc L (.long x :: st) := fun p e s m args below meth c H locs ls hC hH hL => lv_l2i hC.1 hC.2.1 (hC.2.2.2.2.2.2.2.2.2.2.2.1 _ _ _ hd) rfl (kk p e s m args below meth c H locs ls hC hH hL)
theorem aw_i2b {x : Int32} (hd : m_at M pc = some (.i2b, 1)) (kk : aw_W l g M R Z cells slots ws (pc + 1) L (.int x.toInt8.toInt32 :: st)) : aw_W l g M R Z cells slots ws pc L (.int x :: st) := fun p e s m args below meth c H locs ls hC hH hL => lv_i2b hC.1 hC.2.1 (hC.2.2.2.2.2.2.2.2.2.2.2.1 _ _ _ hd) rfl (kk p e s m args below meth c H locs ls hC hH hL)
theorem aw_i2c {x : Int32} (hd : m_at M pc = some (.i2c, 1)) (kk : aw_W l g M R Z cells slots ws (pc + 1) L (.int (x.toUInt32 % 65536).toInt32 :: st)) : aw_W l g M R Z cells slots ws pc L (.int x :: st) := fun p e s m args below meth c H locs ls hC hH hL => lv_i2c hC.1 hC.2.1 (hC.2.2.2.2.2.2.2.2.2.2.2.1 _ _ _ hd) rfl (kk p e s m args below meth c H locs ls hC hH hL)
theorem aw_dup {v : Value} (hd : m_at M pc = some (.dup, 1)) (hv : v.category = 1) (kk : aw_W l g M R Z cells slots ws (pc + 1) L (v :: v :: st)) : aw_W l g M R Z cells slots ws pc L (v :: st) := fun p e s m args below meth c H locs ls hC hH hL => lv_dup hC.1 hC.2.1 (hC.2.2.2.2.2.2.2.2.2.2.2.1 _ _ _ hd) hv (kk p e s m args below meth c H locs ls hC hH hL)
theorem aw_pop {v : Value} (hd : m_at M pc = some (.pop, 1)) (hv : v.category = 1) (kk : aw_W l g M R Z cells slots ws (pc + 1) L st) : aw_W l g M R Z cells slots ws pc L (v :: st) := fun p e s m args below meth c H locs ls hC hH hL => lv_pop hC.1 hC.2.1 (hC.2.2.2.2.2.2.2.2.2.2.2.1 _ _ _ hd) hv (kk p e s m args below meth c H locs ls hC hH hL)
theorem aw_dup2 {v u : Value} (hd : m_at M pc = some (.dup2, 1)) (hv : v.category = 1) (hu : u.category = 1) (kk : aw_W l g M R Z cells slots ws (pc + 1) L (v :: u :: v :: u :: st)) : aw_W l g M R Z cells slots ws pc L (v :: u :: st) := fun p e s m args below meth c H locs ls hC hH hL => lv_dup2_11 hC.1 hC.2.1 (hC.2.2.2.2.2.2.2.2.2.2.2.1 _ _ _ hd) hv hu (kk p e s m args below meth c H locs ls hC hH hL)
theorem aw_lcmp {x y : Int64} (hd : m_at M pc = some (.lcmp, 1)) (kk : aw_W l g M R Z cells slots ws (pc + 1) L (.int (lg_cmp x y) :: st)) : aw_W l g M R Z cells slots ws pc L (.long y :: .long x :: st) := fun p e s m args below meth c H locs ls hC hH hL => W.lcmp hC.1 hC.2.1 (hC.2.2.2.2.2.2.2.2.2.2.2.1 _ _ _ hd) (kk p e s m args below meth c H locs ls hC hH hL)
theorem aw_goto {off : Int} {tgt : Nat} (hd : m_at M pc = some (.goto off, 3)) (ht : (pc : Int) + off = (tgt : Int)) (kk : aw_W l g M R Z cells slots ws tgt L st) : aw_W l g M R Z cells slots ws pc L st := fun p e s m args below meth c H locs ls hC hH hL => lv_goto hC.1 hC.2.1 (hC.2.2.2.2.2.2.2.2.2.2.2.1 _ _ _ hd) ht (kk p e s m args below meth c H locs ls hC hH hL)
theorem aw_icmp_eq {x y : Int32} {off : Int} {tgt : Nat} (hd : m_at M pc = some (.if_icmp .eq off, 3)) (ht : (pc : Int) + off = (tgt : Int)) (kt : x = y → aw_W l g M R Z cells slots ws tgt L st) (kf : ¬ x = y → aw_W l g M R Z cells slots ws (pc + 3) L st) : aw_W l g M R Z cells slots ws pc L (.int y :: .int x :: st) := fun p e s m args below meth c H locs ls hC hH hL => lv_icmp_eq hC.1 hC.2.1 (hC.2.2.2.2.2.2.2.2.2.2.2.1 _ _ _ hd) ht (fun h => kt h p e s m args below meth c H locs ls hC hH hL) (fun h => kf h p e s m args below meth c H locs ls hC hH hL)
theorem aw_if_eq {x : Int32} {off : Int} {tgt : Nat} (hd : m_at M pc = some (.ifCond .eq off, 3)) (ht : (pc : Int) + off = (tgt : Int)) (kt : x = 0 → aw_W l g M R Z cells slots ws tgt L st) (kf : ¬ x = 0 → aw_W l g M R Z cells slots ws (pc + 3) L st) : aw_W l g M R Z cells slots ws pc L (.int x :: st) := fun p e s m args below meth c H locs ls hC hH hL => lv_if_eq hC.1 hC.2.1 (hC.2.2.2.2.2.2.2.2.2.2.2.1 _ _ _ hd) ht (fun h => kt h p e s m args below meth c H locs ls hC hH hL) (fun h => kf h p e s m args below meth c H locs ls hC hH hL)
theorem aw_icmp_ne {x y : Int32} {off : Int} {tgt : Nat} (hd : m_at M pc = some (.if_icmp .ne off, 3)) (ht : (pc : Int) + off = (tgt : Int)) (kt : ¬ x = y → aw_W l g M R Z cells slots ws tgt L st) (kf : x = y → aw_W l g M R Z cells slots ws (pc + 3) L st) : aw_W l g M R Z cells slots ws pc L (.int y :: .int x :: st) := fun p e s m args below meth c H locs ls hC hH hL => lv_icmp_ne hC.1 hC.2.1 (hC.2.2.2.2.2.2.2.2.2.2.2.1 _ _ _ hd) ht (fun h => kt h p e s m args below meth c H locs ls hC hH hL) (fun h => kf h p e s m args below meth c H locs ls hC hH hL)
theorem aw_if_ne {x : Int32} {off : Int} {tgt : Nat} (hd : m_at M pc = some (.ifCond .ne off, 3)) (ht : (pc : Int) + off = (tgt : Int)) (kt : ¬ x = 0 → aw_W l g M R Z cells slots ws tgt L st) (kf : x = 0 → aw_W l g M R Z cells slots ws (pc + 3) L st) : aw_W l g M R Z cells slots ws pc L (.int x :: st) := fun p e s m args below meth c H locs ls hC hH hL => lv_if_ne hC.1 hC.2.1 (hC.2.2.2.2.2.2.2.2.2.2.2.1 _ _ _ hd) ht (fun h => kt h p e s m args below meth c H locs ls hC hH hL) (fun h => kf h p e s m args below meth c H locs ls hC hH hL)
theorem aw_icmp_lt {x y : Int32} {off : Int} {tgt : Nat} (hd : m_at M pc = some (.if_icmp .lt off, 3)) (ht : (pc : Int) + off = (tgt : Int)) (kt : x < y → aw_W l g M R Z cells slots ws tgt L st) (kf : ¬ x < y → aw_W l g M R Z cells slots ws (pc + 3) L st) : aw_W l g M R Z cells slots ws pc L (.int y :: .int x :: st) := fun p e s m args below meth c H locs ls hC hH hL => lv_icmp_lt hC.1 hC.2.1 (hC.2.2.2.2.2.2.2.2.2.2.2.1 _ _ _ hd) ht (fun h => kt h p e s m args below meth c H locs ls hC hH hL) (fun h => kf h p e s m args below meth c H locs ls hC hH hL)
theorem aw_if_lt {x : Int32} {off : Int} {tgt : Nat} (hd : m_at M pc = some (.ifCond .lt off, 3)) (ht : (pc : Int) + off = (tgt : Int)) (kt : x < 0 → aw_W l g M R Z cells slots ws tgt L st) (kf : ¬ x < 0 → aw_W l g M R Z cells slots ws (pc + 3) L st) : aw_W l g M R Z cells slots ws pc L (.int x :: st) := fun p e s m args below meth c H locs ls hC hH hL => lv_if_lt hC.1 hC.2.1 (hC.2.2.2.2.2.2.2.2.2.2.2.1 _ _ _ hd) ht (fun h => kt h p e s m args below meth c H locs ls hC hH hL) (fun h => kf h p e s m args below meth c H locs ls hC hH hL)
theorem aw_icmp_ge {x y : Int32} {off : Int} {tgt : Nat} (hd : m_at M pc = some (.if_icmp .ge off, 3)) (ht : (pc : Int) + off = (tgt : Int)) (kt : y ≤ x → aw_W l g M R Z cells slots ws tgt L st) (kf : ¬ y ≤ x → aw_W l g M R Z cells slots ws (pc + 3) L st) : aw_W l g M R Z cells slots ws pc L (.int y :: .int x :: st) := fun p e s m args below meth c H locs ls hC hH hL => lv_icmp_ge hC.1 hC.2.1 (hC.2.2.2.2.2.2.2.2.2.2.2.1 _ _ _ hd) ht (fun h => kt h p e s m args below meth c H locs ls hC hH hL) (fun h => kf h p e s m args below meth c H locs ls hC hH hL)
theorem aw_if_ge {x : Int32} {off : Int} {tgt : Nat} (hd : m_at M pc = some (.ifCond .ge off, 3)) (ht : (pc : Int) + off = (tgt : Int)) (kt : 0 ≤ x → aw_W l g M R Z cells slots ws tgt L st) (kf : ¬ 0 ≤ x → aw_W l g M R Z cells slots ws (pc + 3) L st) : aw_W l g M R Z cells slots ws pc L (.int x :: st) := fun p e s m args below meth c H locs ls hC hH hL => lv_if_ge hC.1 hC.2.1 (hC.2.2.2.2.2.2.2.2.2.2.2.1 _ _ _ hd) ht (fun h => kt h p e s m args below meth c H locs ls hC hH hL) (fun h => kf h p e s m args below meth c H locs ls hC hH hL)
theorem aw_icmp_gt {x y : Int32} {off : Int} {tgt : Nat} (hd : m_at M pc = some (.if_icmp .gt off, 3)) (ht : (pc : Int) + off = (tgt : Int)) (kt : y < x → aw_W l g M R Z cells slots ws tgt L st) (kf : ¬ y < x → aw_W l g M R Z cells slots ws (pc + 3) L st) : aw_W l g M R Z cells slots ws pc L (.int y :: .int x :: st) := fun p e s m args below meth c H locs ls hC hH hL => lv_icmp_gt hC.1 hC.2.1 (hC.2.2.2.2.2.2.2.2.2.2.2.1 _ _ _ hd) ht (fun h => kt h p e s m args below meth c H locs ls hC hH hL) (fun h => kf h p e s m args below meth c H locs ls hC hH hL)
theorem aw_if_gt {x : Int32} {off : Int} {tgt : Nat} (hd : m_at M pc = some (.ifCond .gt off, 3)) (ht : (pc : Int) + off = (tgt : Int)) (kt : 0 < x → aw_W l g M R Z cells slots ws tgt L st) (kf : ¬ 0 < x → aw_W l g M R Z cells slots ws (pc + 3) L st) : aw_W l g M R Z cells slots ws pc L (.int x :: st) := fun p e s m args below meth c H locs ls hC hH hL => lv_if_gt hC.1 hC.2.1 (hC.2.2.2.2.2.2.2.2.2.2.2.1 _ _ _ hd) ht (fun h => kt h p e s m args below meth c H locs ls hC hH hL) (fun h => kf h p e s m args below meth c H locs ls hC hH hL)
theorem aw_icmp_le {x y : Int32} {off : Int} {tgt : Nat} (hd : m_at M pc = some (.if_icmp .le off, 3)) (ht : (pc : Int) + off = (tgt : Int)) (kt : x ≤ y → aw_W l g M R Z cells slots ws tgt L st) (kf : ¬ x ≤ y → aw_W l g M R Z cells slots ws (pc + 3) L st) : aw_W l g M R Z cells slots ws pc L (.int y :: .int x :: st) := fun p e s m args below meth c H locs ls hC hH hL => lv_icmp_le hC.1 hC.2.1 (hC.2.2.2.2.2.2.2.2.2.2.2.1 _ _ _ hd) ht (fun h => kt h p e s m args below meth c H locs ls hC hH hL) (fun h => kf h p e s m args below meth c H locs ls hC hH hL)
theorem aw_if_le {x : Int32} {off : Int} {tgt : Nat} (hd : m_at M pc = some (.ifCond .le off, 3)) (ht : (pc : Int) + off = (tgt : Int)) (kt : x ≤ 0 → aw_W l g M R Z cells slots ws tgt L st) (kf : ¬ x ≤ 0 → aw_W l g M R Z cells slots ws (pc + 3) L st) : aw_W l g M R Z cells slots ws pc L (.int x :: st) := fun p e s m args below meth c H locs ls hC hH hL => lv_if_le hC.1 hC.2.1 (hC.2.2.2.2.2.2.2.2.2.2.2.1 _ _ _ hd) ht (fun h => kt h p e s m args below meth c H locs ls hC hH hL) (fun h => kf h p e s m args below meth c H locs ls hC hH hL)
end AwRows
