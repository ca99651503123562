/-! contracts in the form of functions, and their calls -/
def aw_F (l : Launch) (g : ag_G) (N : ag_M) (n : Nat) (vs : List Value) (ws : va_W) (v : Value) (ws' : va_W) : Prop := aw_M l g N n 0 0 vs ws (fun r w => r = some v ∧ w = ws')
def aw_V (l : Launch) (g : ag_G) (N : ag_M) (n : Nat) (vs : List Value) (ws : va_W) (ws' : va_W) : Prop := aw_M l g N n 0 0 vs ws (fun r w => r = none ∧ w = ws')
section AwForms
variable {l : Launch} {g : ag_G} {M : ag_M} {R : Room} {Z : ag_Z} {cells slots : Nat} {ws ws2 : va_W} {pc : Nat} {L : List (Option Value)} {st : List Value}
theorem aw_F_of {n : Nat} {vs : List Value} {v : Value} (hok : aw_ok M) (hy : plainName (m_y M).cls = true) (hn : (lg_sl vs).length ≤ m_n M) (body : aw_W l g M (aw_rm n 0 0) (aw_Z g (fun r w => r = some v ∧ w = ws2) 0 0) 0 0 ws 0 (aw_arg vs) []) : aw_F l g M n vs ws v ws2 := aw_M_of hok hy hn body
theorem aw_V_of {n : Nat} {vs : List Value} (hok : aw_ok M) (hy : plainName (m_y M).cls = true) (hn : (lg_sl vs).length ≤ m_n M) (body : aw_W l g M (aw_rm n 0 0) (aw_Z g (fun r w => r = none ∧ w = ws2) 0 0) 0 0 ws 0 (aw_arg vs) []) : aw_V l g M n vs ws ws2 := aw_M_of hok hy hn body
theorem aw_iV {N : ag_M} {index n k q0 ci b : Nat} {C : vw_C} {fs As rest st0 : List Value} {v : Value}
    (hd : m_at M pc = some (.invokevirtual index, 3)) (hw : aw_cV (m_y M).cls index N k) (hc : aw_cl[ci]? = some C) (hcn : C.1 = (m_y N).cls) (he : ws[q0]? = some (b, .inr (ci, fs)))
    (hM : aw_F l g N n (.ref b :: As) ws v ws2) (hk : As.length = k) (hst : st0 = As.reverse ++ .ref b :: rest) (hrest : (rest.map fun v => v.category).sum ≤ 8) (hf : n + 1 ≤ R.frames) (hlo : 8 + (m_n N + 11) + 100 * n ≤ R.locals) (h1 : cells ≤ R.cells) (h2 : slots ≤ R.slots)
    (kk : aw_W l g M R Z cells slots ws2 (pc + 3) L (v :: rest)) : aw_W l g M R Z cells slots ws pc L st0 :=
  aw_callV hd hw hc hcn he hM hk hst hrest hf hlo h1 h2 (by rintro r w ⟨rfl, rfl⟩; exact kk)
theorem aw_vV {N : ag_M} {index n k q0 ci b : Nat} {C : vw_C} {fs As rest st0 : List Value}
    (hd : m_at M pc = some (.invokevirtual index, 3)) (hw : aw_cV (m_y M).cls index N k) (hc : aw_cl[ci]? = some C) (hcn : C.1 = (m_y N).cls) (he : ws[q0]? = some (b, .inr (ci, fs)))
    (hM : aw_V l g N n (.ref b :: As) ws ws2) (hk : As.length = k) (hst : st0 = As.reverse ++ .ref b :: rest) (hrest : (rest.map fun v => v.category).sum ≤ 8) (hf : n + 1 ≤ R.frames) (hlo : 8 + (m_n N + 11) + 100 * n ≤ R.locals) (h1 : cells ≤ R.cells) (h2 : slots ≤ R.slots)
    (kk : aw_W l g M R Z cells slots ws2 (pc + 3) L rest) : aw_W l g M R Z cells slots ws pc L st0 :=
  aw_callV hd hw hc hcn he hM hk hst hrest hf hlo h1 h2 (by rintro r w ⟨rfl, rfl⟩; exact kk)
theorem aw_iS {N : ag_M} {index n k : Nat} {As rest st0 : List Value} {v : Value}
    (hd : m_at M pc = some (.invokestatic index, 3)) (hw : aw_cS (m_y M).cls index N k)
    (hM : aw_F l g N n As ws v ws2) (hk : As.length = k) (hst : st0 = As.reverse ++ rest) (hrest : (rest.map fun v => v.category).sum ≤ 8) (hf : n + 1 ≤ R.frames) (hlo : 8 + (m_n N + 11) + 100 * n ≤ R.locals) (h1 : cells ≤ R.cells) (h2 : slots ≤ R.slots)
    (kk : aw_W l g M R Z cells slots ws2 (pc + 3) L (v :: rest)) : aw_W l g M R Z cells slots ws pc L st0 :=
  aw_callS hd hw hM hk hst hrest hf hlo h1 h2 (by rintro r w ⟨rfl, rfl⟩; exact kk)
theorem aw_vS {N : ag_M} {index n k : Nat} {As rest st0 : List Value}
    (hd : m_at M pc = some (.invokestatic index, 3)) (hw : aw_cS (m_y M).cls index N k)
    (hM : aw_V l g N n As ws ws2) (hk : As.length = k) (hst : st0 = As.reverse ++ rest) (hrest : (rest.map fun v => v.category).sum ≤ 8) (hf : n + 1 ≤ R.frames) (hlo : 8 + (m_n N + 11) + 100 * n ≤ R.locals) (h1 : cells ≤ R.cells) (h2 : slots ≤ R.slots)
    (kk : aw_W l g M R Z cells slots ws2 (pc + 3) L rest) : aw_W l g M R Z cells slots ws pc L st0 :=
  aw_callS hd hw hM hk hst hrest hf hlo h1 h2 (by rintro r w ⟨rfl, rfl⟩; exact kk)
theorem aw_inc1 {i : Nat} {x : Int32} (hd : m_at M pc = some (.iinc i 1, 3)) (hl : L[i]? = some (some (.int x))) (hn : i < m_n M) (kk : aw_W l g M R Z cells slots ws (pc + 3) (aw_sto L i (.int (x + 1))) st) : aw_W l g M R Z cells slots ws pc L st := aw_iinc hd hl rfl hn kk
theorem aw_fi {v : Int32} (hd : m_at M pc = some (.ireturn, 1)) (hr : m_r M = some .int) {x : Int32} (hv : v = x) (hw : ws = ws2) : aw_W l g M R (aw_Z g (fun r w => r = some (.int x) ∧ w = ws2) cells slots) cells slots ws pc L [.int v] := aw_iret hd hr ⟨by rw [hv], hw⟩
theorem aw_fz {v : Int32} (hd : m_at M pc = some (.ireturn, 1)) (hr : m_r M = some .boolean) {x : Int32} (h01 : v = 0 ∨ v = 1) (hv : v = x) (hw : ws = ws2) : aw_W l g M R (aw_Z g (fun r w => r = some (.int x) ∧ w = ws2) cells slots) cells slots ws pc L [.int v] := aw_zret hd hr h01 ⟨by rw [hv], hw⟩
theorem aw_fv (hd : m_at M pc = some (.return_, 1)) (hr : m_r M = none) (hw : ws = ws2) : aw_W l g M R (aw_Z g (fun r w => r = none ∧ w = ws2) cells slots) cells slots ws pc L [] := aw_vret hd hr ⟨rfl, hw⟩
end AwForms
/-- a truth as the machine has it -/
def bB (b : Bool) : Int32 := cond b 1 0
theorem bB_0 {b : Bool} : bB b = 0 ↔ b = false := by cases b <;> simp [bB]
theorem bB_n0 {b : Bool} : ¬ bB b = 0 ↔ b = true := by cases b <;> simp [bB]
theorem bB_01 {b : Bool} : bB b = 0 ∨ bB b = 1 := by cases b <;> simp [bB]
theorem bB_1 {b : Bool} : 1 = bB b ↔ b = true := by cases b <;> simp [bB]
theorem bB_z {b : Bool} : 0 = bB b ↔ b = false := by cases b <;> simp [bB]
