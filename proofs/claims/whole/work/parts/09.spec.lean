/-! words for what the methods answer -/
abbrev cl (t : Int32) : Nat := t.toNatClampNeg
/-- the same but for what is marked -/
def eo (K : Nat → Nat → Bool) (s s' : am_S) : Prop := ∀ k j, K k j = false → s' k j = s k j
theorem eo_rf {K : Nat → Nat → Bool} {s : am_S} : eo K s s := fun _ _ _ => rfl
theorem eo_tr {K : Nat → Nat → Bool} {s s1 s2 : am_S} (h : eo K s s1) (h2 : eo K s1 s2) : eo K s s2 := fun k j e => (h2 k j e).trans (h k j e)
theorem eo_up {K : Nat → Nat → Bool} {s s1 : am_S} {k i : Nat} {v : Int32} (hk : ∀ j, K k j = true) (h : eo K s s1) : eo K s (up s1 k i v) := by
  intro k' j e
  unfold up
  cases hb : Nat.beq k' k with
  | true => rw [Nat.eq_of_beq_eq_true hb] at e; rw [hk j] at e; cases e
  | false => exact h k' j e
theorem up_s {s : am_S} {k i : Nat} {v : Int32} {j : Nat} : up s k i v k j = if j = i then v else s k j := by unfold up; rw [Nat.beq_refl]; rfl
theorem up_n {s : am_S} {k i : Nat} {v : Int32} {k' : Nat} (h : Nat.beq k' k = false) : up s k i v k' = s k' := by unfold up; rw [h]; rfl
theorem up_e {s : am_S} {k i : Nat} {v : Int32} {k' j : Nat} (h : Nat.beq k' k = false) : up s k i v k' j = s k' j := by rw [up_n h]
/-- the law's own scratch: stack, letters -/
def skC : Nat → Nat → Bool := fun k _ => [12, 13].contains k
/-- the class's own scratch: stack, letters, needs, suns, prices, leastPrice, fits -/
def skF : Nat → Nat → Bool := fun k _ => [12, 13, 28, 29, 30, 31, 36].contains k
theorem eo_CF {s s' : am_S} (h : eo skC s s') : eo skF s s' := fun k j e => h k j (by
  simp only [skF, skC, List.contains_cons, List.contains_nil, Bool.or_eq_false_iff] at e ⊢
  exact ⟨e.1, e.2.1, trivial⟩)
/-- a method that answers v and leaves all but scratch -/
def aw_E (l : Launch) (g : ag_G) (N : ag_M) (d : Nat) (K : Nat → Nat → Bool) (vs : List Value) (s : am_S) (n : am_N) (v : Value) : Prop := aw_M l g N d 0 0 vs (hp g s n) (fun r w => ∃ s', r = some v ∧ w = hp g s' n ∧ eo K s s')
section AwE
variable {l : Launch} {g : ag_G} {M : ag_M} {R : Room} {Z : ag_Z} {cells slots : Nat} {pc : Nat} {L : List (Option Value)} {st : List Value} {s : am_S} {n : am_N} {K : Nat → Nat → Bool}
theorem aw_E_of {d : Nat} {vs : List Value} {v : Value} (hok : aw_ok M) (hy : plainName (m_y M).cls = true) (hn : (lg_sl vs).length ≤ m_n M) (body : aw_W l g M (aw_rm d 0 0) (aw_Z g (fun r w => ∃ s', r = some v ∧ w = hp g s' n ∧ eo K s s') 0 0) 0 0 (hp g s n) 0 (aw_arg vs) []) : aw_E l g M d K vs s n v := aw_M_of hok hy hn body
theorem aw_F.E {d : Nat} {vs : List Value} {v : Value} (h : aw_F l g M d vs (hp g s n) v (hp g s n)) : aw_E l g M d K vs s n v := by
  have e : (fun (r : Option Value) (w : va_W) => r = some v ∧ w = hp g s n) = (fun r w => r = some v ∧ w = hp g s n) := rfl
  intro p e' a b c' s1 m args below h1 h2 h3 h4
  obtain ⟨k, o, q1, q2, q3, ⟨⟨⟨r, w, z1, ⟨z2, z3⟩, z4, z5⟩, z6⟩, z7⟩⟩ := h p e' a b c' s1 m args below h1 h2 h3 h4
  exact ⟨k, o, q1, q2, q3, ⟨⟨⟨r, w, z1, ⟨s, z2, z3, eo_rf⟩, z4, z5⟩, z6⟩, z7⟩⟩
theorem aw_eV {N : ag_M} {index d k q0 ci b : Nat} {C : vw_C} {fs As rest st0 : List Value} {v : Value}
    (hd : m_at M pc = some (.invokevirtual index, 3)) (hw : aw_cV (m_y M).cls index N k) (hc : aw_cl[ci]? = some C) (hcn : C.1 = (m_y N).cls) (he : (hp g s n)[q0]? = some (b, .inr (ci, fs)))
    (hM : aw_E l g N d K (.ref b :: As) s n v) (hk : As.length = k) (hst : st0 = As.reverse ++ .ref b :: rest) (hrest : (rest.map fun v => v.category).sum ≤ 8) (hf : d + 1 ≤ R.frames) (hlo : 8 + (m_n N + 11) + 100 * d ≤ R.locals) (h1 : cells ≤ R.cells) (h2 : slots ≤ R.slots)
    (kk : ∀ s', eo K s s' → aw_W l g M R Z cells slots (hp g s' n) (pc + 3) L (v :: rest)) : aw_W l g M R Z cells slots (hp g s n) pc L st0 :=
  aw_callV hd hw hc hcn he hM hk hst hrest hf hlo h1 h2 (by rintro r w ⟨s', rfl, rfl, e⟩; exact kk s' e)
theorem aw_ei {v x : Int32} {s' : am_S} (hd : m_at M pc = some (.ireturn, 1)) (hr : m_r M = some .int) (hv : v = x) (he : eo K s s') : aw_W l g M R (aw_Z g (fun r w => ∃ s', r = some (.int x) ∧ w = hp g s' n ∧ eo K s s') cells slots) cells slots (hp g s' n) pc L [.int v] := aw_iret hd hr ⟨s', by rw [hv], rfl, he⟩
end AwE
/-- the first place from i on, of d places -/
def fs (P : Nat → Bool) : Nat → Nat → Option Nat
  | _, 0 => none
  | i, d + 1 => if P i then some i else fs P (i + 1) d
/-- over the places from i on, d of them -/
def fd {α : Type} (f : Nat → α → α) : Nat → Nat → α → α
  | _, 0, a => a
  | i, d + 1, a => fd f (i + 1) d (f i a)
def rm12 (t : Int32) : Int32 := t - t / 12 * 12
def lets (a b c d e f : Int32) : Nat → Int32
  | 0 => a
  | 1 => b
  | 2 => c
  | 3 => d
  | 4 => e
  | _ => f
def mm (v : Int32) : Int32 := if 0 < (if v < 99 then v else 99) then (if v < 99 then v else 99) else 0
def warm (heat time : Int32) : Int32 := heat + 2 * (if 12 - rm12 time < rm12 time then 12 - rm12 time else rm12 time)
theorem nI_lt7 {t : Int32} {T : Nat} (hT : T < 2 ^ 31) (h0 : 0 ≤ t) (h1 : t < nI T) : ∃ j, j < T ∧ t = nI j := by
  obtain ⟨j, hj, rfl⟩ := nI_of (x := t) (fun h => absurd h0 (by rw [Int32.not_le]; exact h))
  exact ⟨j, (nI_ltI hj hT).mp h1, rfl⟩
theorem cl_nI {j : Nat} (h : j < 2 ^ 31) : cl (nI j) = j := nI_clamp h
theorem iL (a j : Nat) {x : Int32} (h : x = nI a) : x + nI j = nI (a + j) := by rw [h]; exact nI_add a j
section AwCp
variable {l : Launch} {g : ag_G} {M : ag_M} {R : Room} {Z : ag_Z} {cells slots : Nat} {ws ws2 : va_W} {pc : Nat} {L : List (Option Value)} {st : List Value}
theorem aw_copyN {index q0 q1 a0 a1 n0 n1 a b c : Nat} {f h : Nat → Int32} {sp dp n : Int32} (hd : m_at M pc = some (.invokestatic index, 3)) (hl : Cond.methodLink (m_y M).cls index arraycopyName ∈ aw_tbl) (hna : Cond.native arraycopyName ∈ aw_tbl) (hs : Cond.static arraycopyName ∈ aw_tbl) (hi : Cond.initialized "java/lang/System" ∈ aw_tbl) (ha0 : ws[q0]? = some (a0, .inl (g_ca g 0, n0, .inl f))) (ha1 : ws[q1]? = some (a1, .inl (g_ca g 0, n1, .inl h))) (h1 : sp = nI a) (h2 : dp = nI b) (h3 : n = nI c) (h4 : a + c ≤ n0) (h5 : b + c ≤ n1) (hz0 : n0 < 2 ^ 31) (hz1 : n1 < 2 ^ 31) (hf : 1 ≤ R.frames) (hlo : (st.map fun v => v.category).sum + (nativeFrameWords "java/lang/System" "arraycopy" 5 + 11) ≤ R.locals) (hw : ws.set q1 (a1, .inl (g_ca g 0, n1, .inl (va_cpy f h a b c))) = ws2) (kk : aw_W l g M R Z cells slots ws2 (pc + 3) L st) : aw_W l g M R Z cells slots ws pc L (.int n :: .int dp :: .ref a1 :: .int sp :: .ref a0 :: st) := by
  subst h1; subst h2; subst h3
  have e1 : (nI a).toNatClampNeg = a := nI_clamp (by omega)
  have e2 : (nI b).toNatClampNeg = b := nI_clamp (by omega)
  have e3 : (nI c).toNatClampNeg = c := nI_clamp (by omega)
  refine aw_copy hd hl hna hs hi ha0 ha1 (nI_pos (by omega)) (nI_pos (by omega)) (nI_pos (by omega)) (by rw [e1, e3]; exact h4) (by rw [e2, e3]; exact h5) hf hlo (ws2 := ws2) (by rw [e1, e2, e3]; exact hw) kk
end AwCp
/-- a row of 36 copied -/
def cp (s : am_S) (k k' a b : Nat) (c : Nat) : am_S := upR s k' (va_cpy (s k) (s k') a b c)
section AwCq
variable {l : Launch} {g : ag_G} {M : ag_M} {R : Room} {Z : ag_Z} {cells slots : Nat} {s : am_S} {n : am_N} {pc : Nat} {L : List (Option Value)} {st : List Value}
theorem pc_16_17 {index a b c : Nat} {sp dp k : Int32} (hd : m_at M pc = some (.invokestatic index, 3)) (hl : Cond.methodLink (m_y M).cls index arraycopyName ∈ aw_tbl) (h1 : sp = nI a) (h2 : dp = nI b) (h3 : k = nI c) (h4 : a + c ≤ 36) (h5 : b + c ≤ 36) (hf : 1 ≤ R.frames) (hlo : (st.map fun v => v.category).sum + (nativeFrameWords "java/lang/System" "arraycopy" 5 + 11) ≤ R.locals) (kk : aw_W l g M R Z cells slots (hp g (cp s 16 17 a b c) n) (pc + 3) L st) : aw_W l g M R Z cells slots (hp g s n) pc L (.int k :: .int dp :: .ref (g_ad g 17) :: .int sp :: .ref (g_ad g 16) :: st) := aw_copyN (q0 := 16) (q1 := 17) hd hl (aw_t2 129 rfl rfl) (aw_t2 128 rfl rfl) (aw_t1 15 rfl rfl) rfl rfl h1 h2 h3 h4 h5 (by decide) (by decide) hf hlo rfl kk
theorem pc_17_16 {index a b c : Nat} {sp dp k : Int32} (hd : m_at M pc = some (.invokestatic index, 3)) (hl : Cond.methodLink (m_y M).cls index arraycopyName ∈ aw_tbl) (h1 : sp = nI a) (h2 : dp = nI b) (h3 : k = nI c) (h4 : a + c ≤ 36) (h5 : b + c ≤ 36) (hf : 1 ≤ R.frames) (hlo : (st.map fun v => v.category).sum + (nativeFrameWords "java/lang/System" "arraycopy" 5 + 11) ≤ R.locals) (kk : aw_W l g M R Z cells slots (hp g (cp s 17 16 a b c) n) (pc + 3) L st) : aw_W l g M R Z cells slots (hp g s n) pc L (.int k :: .int dp :: .ref (g_ad g 16) :: .int sp :: .ref (g_ad g 17) :: st) := aw_copyN (q0 := 17) (q1 := 16) hd hl (aw_t2 129 rfl rfl) (aw_t2 128 rfl rfl) (aw_t1 15 rfl rfl) rfl rfl h1 h2 h3 h4 h5 (by decide) (by decide) hf hlo rfl kk
theorem pc_16_23 {index a b c : Nat} {sp dp k : Int32} (hd : m_at M pc = some (.invokestatic index, 3)) (hl : Cond.methodLink (m_y M).cls index arraycopyName ∈ aw_tbl) (h1 : sp = nI a) (h2 : dp = nI b) (h3 : k = nI c) (h4 : a + c ≤ 36) (h5 : b + c ≤ 36) (hf : 1 ≤ R.frames) (hlo : (st.map fun v => v.category).sum + (nativeFrameWords "java/lang/System" "arraycopy" 5 + 11) ≤ R.locals) (kk : aw_W l g M R Z cells slots (hp g (cp s 16 23 a b c) n) (pc + 3) L st) : aw_W l g M R Z cells slots (hp g s n) pc L (.int k :: .int dp :: .ref (g_ad g 23) :: .int sp :: .ref (g_ad g 16) :: st) := aw_copyN (q0 := 16) (q1 := 23) hd hl (aw_t2 129 rfl rfl) (aw_t2 128 rfl rfl) (aw_t1 15 rfl rfl) rfl rfl h1 h2 h3 h4 h5 (by decide) (by decide) hf hlo rfl kk
theorem pc_23_24 {index a b c : Nat} {sp dp k : Int32} (hd : m_at M pc = some (.invokestatic index, 3)) (hl : Cond.methodLink (m_y M).cls index arraycopyName ∈ aw_tbl) (h1 : sp = nI a) (h2 : dp = nI b) (h3 : k = nI c) (h4 : a + c ≤ 36) (h5 : b + c ≤ 1440) (hf : 1 ≤ R.frames) (hlo : (st.map fun v => v.category).sum + (nativeFrameWords "java/lang/System" "arraycopy" 5 + 11) ≤ R.locals) (kk : aw_W l g M R Z cells slots (hp g (cp s 23 24 a b c) n) (pc + 3) L st) : aw_W l g M R Z cells slots (hp g s n) pc L (.int k :: .int dp :: .ref (g_ad g 24) :: .int sp :: .ref (g_ad g 23) :: st) := aw_copyN (q0 := 23) (q1 := 24) hd hl (aw_t2 129 rfl rfl) (aw_t2 128 rfl rfl) (aw_t1 15 rfl rfl) rfl rfl h1 h2 h3 h4 h5 (by decide) (by decide) hf hlo rfl kk
theorem pc_24_16 {index a b c : Nat} {sp dp k : Int32} (hd : m_at M pc = some (.invokestatic index, 3)) (hl : Cond.methodLink (m_y M).cls index arraycopyName ∈ aw_tbl) (h1 : sp = nI a) (h2 : dp = nI b) (h3 : k = nI c) (h4 : a + c ≤ 1440) (h5 : b + c ≤ 36) (hf : 1 ≤ R.frames) (hlo : (st.map fun v => v.category).sum + (nativeFrameWords "java/lang/System" "arraycopy" 5 + 11) ≤ R.locals) (kk : aw_W l g M R Z cells slots (hp g (cp s 24 16 a b c) n) (pc + 3) L st) : aw_W l g M R Z cells slots (hp g s n) pc L (.int k :: .int dp :: .ref (g_ad g 16) :: .int sp :: .ref (g_ad g 24) :: st) := aw_copyN (q0 := 24) (q1 := 16) hd hl (aw_t2 129 rfl rfl) (aw_t2 128 rfl rfl) (aw_t1 15 rfl rfl) rfl rfl h1 h2 h3 h4 h5 (by decide) (by decide) hf hlo rfl kk
theorem pc_16_25 {index a b c : Nat} {sp dp k : Int32} (hd : m_at M pc = some (.invokestatic index, 3)) (hl : Cond.methodLink (m_y M).cls index arraycopyName ∈ aw_tbl) (h1 : sp = nI a) (h2 : dp = nI b) (h3 : k = nI c) (h4 : a + c ≤ 36) (h5 : b + c ≤ 36) (hf : 1 ≤ R.frames) (hlo : (st.map fun v => v.category).sum + (nativeFrameWords "java/lang/System" "arraycopy" 5 + 11) ≤ R.locals) (kk : aw_W l g M R Z cells slots (hp g (cp s 16 25 a b c) n) (pc + 3) L st) : aw_W l g M R Z cells slots (hp g s n) pc L (.int k :: .int dp :: .ref (g_ad g 25) :: .int sp :: .ref (g_ad g 16) :: st) := aw_copyN (q0 := 16) (q1 := 25) hd hl (aw_t2 129 rfl rfl) (aw_t2 128 rfl rfl) (aw_t1 15 rfl rfl) rfl rfl h1 h2 h3 h4 h5 (by decide) (by decide) hf hlo rfl kk
theorem pc_22_26 {index a b c : Nat} {sp dp k : Int32} (hd : m_at M pc = some (.invokestatic index, 3)) (hl : Cond.methodLink (m_y M).cls index arraycopyName ∈ aw_tbl) (h1 : sp = nI a) (h2 : dp = nI b) (h3 : k = nI c) (h4 : a + c ≤ 384) (h5 : b + c ≤ 384) (hf : 1 ≤ R.frames) (hlo : (st.map fun v => v.category).sum + (nativeFrameWords "java/lang/System" "arraycopy" 5 + 11) ≤ R.locals) (kk : aw_W l g M R Z cells slots (hp g (cp s 22 26 a b c) n) (pc + 3) L st) : aw_W l g M R Z cells slots (hp g s n) pc L (.int k :: .int dp :: .ref (g_ad g 26) :: .int sp :: .ref (g_ad g 22) :: st) := aw_copyN (q0 := 22) (q1 := 26) hd hl (aw_t2 129 rfl rfl) (aw_t2 128 rfl rfl) (aw_t1 15 rfl rfl) rfl rfl h1 h2 h3 h4 h5 (by decide) (by decide) hf hlo rfl kk
theorem pc_25_16 {index a b c : Nat} {sp dp k : Int32} (hd : m_at M pc = some (.invokestatic index, 3)) (hl : Cond.methodLink (m_y M).cls index arraycopyName ∈ aw_tbl) (h1 : sp = nI a) (h2 : dp = nI b) (h3 : k = nI c) (h4 : a + c ≤ 36) (h5 : b + c ≤ 36) (hf : 1 ≤ R.frames) (hlo : (st.map fun v => v.category).sum + (nativeFrameWords "java/lang/System" "arraycopy" 5 + 11) ≤ R.locals) (kk : aw_W l g M R Z cells slots (hp g (cp s 25 16 a b c) n) (pc + 3) L st) : aw_W l g M R Z cells slots (hp g s n) pc L (.int k :: .int dp :: .ref (g_ad g 16) :: .int sp :: .ref (g_ad g 25) :: st) := aw_copyN (q0 := 25) (q1 := 16) hd hl (aw_t2 129 rfl rfl) (aw_t2 128 rfl rfl) (aw_t1 15 rfl rfl) rfl rfl h1 h2 h3 h4 h5 (by decide) (by decide) hf hlo rfl kk
theorem pc_26_22 {index a b c : Nat} {sp dp k : Int32} (hd : m_at M pc = some (.invokestatic index, 3)) (hl : Cond.methodLink (m_y M).cls index arraycopyName ∈ aw_tbl) (h1 : sp = nI a) (h2 : dp = nI b) (h3 : k = nI c) (h4 : a + c ≤ 384) (h5 : b + c ≤ 384) (hf : 1 ≤ R.frames) (hlo : (st.map fun v => v.category).sum + (nativeFrameWords "java/lang/System" "arraycopy" 5 + 11) ≤ R.locals) (kk : aw_W l g M R Z cells slots (hp g (cp s 26 22 a b c) n) (pc + 3) L st) : aw_W l g M R Z cells slots (hp g s n) pc L (.int k :: .int dp :: .ref (g_ad g 22) :: .int sp :: .ref (g_ad g 26) :: st) := aw_copyN (q0 := 26) (q1 := 22) hd hl (aw_t2 129 rfl rfl) (aw_t2 128 rfl rfl) (aw_t1 15 rfl rfl) rfl rfl h1 h2 h3 h4 h5 (by decide) (by decide) hf hlo rfl kk
end AwCq
