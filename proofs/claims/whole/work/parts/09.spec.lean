/-! words for what the methods answer -/
abbrev cl (t : Int32) : Nat := t.toNatClampNeg
/-- the same but for what is marked -/
def eo (K : Nat → Nat → Bool) (s s' : am_S) : Prop := ∀ k j, K k j = false → s' k j = s k j
theorem eo_rf {K : Nat → Nat → Bool} {s : am_S} : eo K s s := fun _ _ _ => rfl
theorem eo_tr {K : Nat → Nat → Bool} {s s1 s2 : am_S} (h : eo K s s1) (h2 : eo K s1 s2) : eo K s s2 := fun k j e => (h2 k j e).trans (h k j e)
theorem eo_up {K : Nat → Nat → Bool} {s s1 : am_S} {k i : Nat} {v : Int32} (hk : ∀ j, K k j = true) (h : eo K s s1) : eo K s (up s1 k i v) := by
  intro k' j e
  unfold up
  cases hb : Nat.beq k' k with
  | true => rw [Nat.eq_of_beq_eq_true hb] at e; rw [hk j] at e; cases e
  | false => exact h k' j e
theorem up_s {s : am_S} {k i : Nat} {v : Int32} {j : Nat} : up s k i v k j = if j = i then v else s k j := by unfold up; rw [Nat.beq_refl]; rfl
theorem up_n {s : am_S} {k i : Nat} {v : Int32} {k' : Nat} (h : Nat.beq k' k = false) : up s k i v k' = s k' := by unfold up; rw [h]; rfl
theorem up_e {s : am_S} {k i : Nat} {v : Int32} {k' j : Nat} (h : Nat.beq k' k = false) : up s k i v k' j = s k' j := by rw [up_n h]
/-- the class's own scratch: stack, letters, needs, suns, prices, leastPrice, fits -/
def skC : Nat → Nat → Bool := fun k _ => [12, 13, 28, 29, 30, 31, 36].contains k
/-- a method that answers v and leaves all but scratch -/
def aw_E (l : Launch) (g : ag_G) (N : ag_M) (d : Nat) (K : Nat → Nat → Bool) (vs : List Value) (s : am_S) (n : am_N) (v : Value) : Prop := aw_M l g N d 0 0 vs (hp g s n) (fun r w => ∃ s', r = some v ∧ w = hp g s' n ∧ eo K s s')
section AwE
variable {l : Launch} {g : ag_G} {M : ag_M} {R : Room} {Z : ag_Z} {cells slots : Nat} {pc : Nat} {L : List (Option Value)} {st : List Value} {s : am_S} {n : am_N} {K : Nat → Nat → Bool}
theorem aw_E_of {d : Nat} {vs : List Value} {v : Value} (hok : aw_ok M) (hy : plainName (m_y M).cls = true) (hn : (lg_sl vs).length ≤ m_n M) (body : aw_W l g M (aw_rm d 0 0) (aw_Z g (fun r w => ∃ s', r = some v ∧ w = hp g s' n ∧ eo K s s') 0 0) 0 0 (hp g s n) 0 (aw_arg vs) []) : aw_E l g M d K vs s n v := aw_M_of hok hy hn body
theorem aw_F.E {d : Nat} {vs : List Value} {v : Value} (h : aw_F l g M d vs (hp g s n) v (hp g s n)) : aw_E l g M d K vs s n v := by
  have e : (fun (r : Option Value) (w : va_W) => r = some v ∧ w = hp g s n) = (fun r w => r = some v ∧ w = hp g s n) := rfl
  intro p e' a b c' s1 m args below h1 h2 h3 h4
  obtain ⟨k, o, q1, q2, q3, ⟨⟨⟨r, w, z1, ⟨z2, z3⟩, z4, z5⟩, z6⟩, z7⟩⟩ := h p e' a b c' s1 m args below h1 h2 h3 h4
  exact ⟨k, o, q1, q2, q3, ⟨⟨⟨r, w, z1, ⟨s, z2, z3, eo_rf⟩, z4, z5⟩, z6⟩, z7⟩⟩
theorem aw_eV {N : ag_M} {index d k q0 ci b : Nat} {C : vw_C} {fs As rest st0 : List Value} {v : Value}
    (hd : m_at M pc = some (.invokevirtual index, 3)) (hw : aw_cV (m_y M).cls index N k) (hc : aw_cl[ci]? = some C) (hcn : C.1 = (m_y N).cls) (he : (hp g s n)[q0]? = some (b, .inr (ci, fs)))
    (hM : aw_E l g N d K (.ref b :: As) s n v) (hk : As.length = k) (hst : st0 = As.reverse ++ .ref b :: rest) (hrest : (rest.map fun v => v.category).sum ≤ 8) (hf : d + 1 ≤ R.frames) (hlo : 8 + (m_n N + 11) + 100 * d ≤ R.locals) (h1 : cells ≤ R.cells) (h2 : slots ≤ R.slots)
    (kk : ∀ s', eo K s s' → aw_W l g M R Z cells slots (hp g s' n) (pc + 3) L (v :: rest)) : aw_W l g M R Z cells slots (hp g s n) pc L st0 :=
  aw_callV hd hw hc hcn he hM hk hst hrest hf hlo h1 h2 (by rintro r w ⟨s', rfl, rfl, e⟩; exact kk s' e)
theorem aw_ei {v x : Int32} {s' : am_S} (hd : m_at M pc = some (.ireturn, 1)) (hr : m_r M = some .int) (hv : v = x) (he : eo K s s') : aw_W l g M R (aw_Z g (fun r w => ∃ s', r = some (.int x) ∧ w = hp g s' n ∧ eo K s s') cells slots) cells slots (hp g s' n) pc L [.int v] := aw_iret hd hr ⟨s', by rw [hv], rfl, he⟩
end AwE
/-- the first place from i on, of d places -/
def fs (P : Nat → Bool) : Nat → Nat → Option Nat
  | _, 0 => none
  | i, d + 1 => if P i then some i else fs P (i + 1) d
/-- over the places from i on, d of them -/
def fd {α : Type} (f : Nat → α → α) : Nat → Nat → α → α
  | _, 0, a => a
  | i, d + 1, a => fd f (i + 1) d (f i a)
def rm12 (t : Int32) : Int32 := t - t / 12 * 12
def lets (a b c d e f : Int32) : Nat → Int32
  | 0 => a
  | 1 => b
  | 2 => c
  | 3 => d
  | 4 => e
  | _ => f
def mm (v : Int32) : Int32 := if 0 < (if v < 99 then v else 99) then (if v < 99 then v else 99) else 0
def warm (heat time : Int32) : Int32 := heat + 2 * (if 12 - rm12 time < rm12 time then 12 - rm12 time else rm12 time)
theorem nI_lt7 {t : Int32} {T : Nat} (hT : T < 2 ^ 31) (h0 : 0 ≤ t) (h1 : t < nI T) : ∃ j, j < T ∧ t = nI j := by
  obtain ⟨j, hj, rfl⟩ := nI_of (x := t) (fun h => absurd h0 (by rw [Int32.not_le]; exact h))
  exact ⟨j, (nI_ltI hj hT).mp h1, rfl⟩
theorem cl_nI {j : Nat} (h : j < 2 ^ 31) : cl (nI j) = j := nI_clamp h
theorem iL (a j : Nat) {x : Int32} (h : x = nI a) : x + nI j = nI (a + j) := by rw [h]; exact nI_add a j
