/-- a method that answers v; but for scratch its memory is s2 -/
def aw_G (l : Launch) (g : ag_G) (N : ag_M) (d : Nat) (K : Nat → Nat → Bool) (vs : List Value) (s : am_S) (n : am_N) (v : Value) (s2 : am_S) : Prop := aw_M l g N d 0 0 vs (hp g s n) (fun r w => ∃ s', r = some v ∧ w = hp g s' n ∧ eo K s2 s')
section AwG
variable {l : Launch} {g : ag_G} {M : ag_M} {R : Room} {Z : ag_Z} {cells slots : Nat} {pc : Nat} {L : List (Option Value)} {st : List Value} {s s2 : am_S} {n : am_N} {K : Nat → Nat → Bool}
theorem aw_G_of {d : Nat} {vs : List Value} {v : Value} (hok : aw_ok M) (hy : plainName (m_y M).cls = true) (hn : (lg_sl vs).length ≤ m_n M) (body : aw_W l g M (aw_rm d 0 0) (aw_Z g (fun r w => ∃ s', r = some v ∧ w = hp g s' n ∧ eo K s2 s') 0 0) 0 0 (hp g s n) 0 (aw_arg vs) []) : aw_G l g M d K vs s n v s2 := aw_M_of hok hy hn body
theorem aw_gV {N : ag_M} {index d k q0 ci b : Nat} {C : vw_C} {fs As rest st0 : List Value} {v : Value}
    (hd : m_at M pc = some (.invokevirtual index, 3)) (hw : aw_cV (m_y M).cls index N k) (hc : aw_cl[ci]? = some C) (hcn : C.1 = (m_y N).cls) (he : (hp g s n)[q0]? = some (b, .inr (ci, fs)))
    (hM : aw_G l g N d K (.ref b :: As) s n v s2) (hk : As.length = k) (hst : st0 = As.reverse ++ .ref b :: rest) (hrest : (rest.map fun v => v.category).sum ≤ 8) (hf : d + 1 ≤ R.frames) (hlo : 8 + (m_n N + 11) + 100 * d ≤ R.locals) (h1 : cells ≤ R.cells) (h2 : slots ≤ R.slots)
    (kk : ∀ s', eo K s2 s' → aw_W l g M R Z cells slots (hp g s' n) (pc + 3) L (v :: rest)) : aw_W l g M R Z cells slots (hp g s n) pc L st0 :=
  aw_callV hd hw hc hcn he hM hk hst hrest hf hlo h1 h2 (by rintro r w ⟨s', rfl, rfl, e⟩; exact kk s' e)
theorem aw_gi {v x : Int32} {s' : am_S} (hd : m_at M pc = some (.ireturn, 1)) (hr : m_r M = some .int) (hv : v = x) (he : eo K s2 s') : aw_W l g M R (aw_Z g (fun r w => ∃ s', r = some (.int x) ∧ w = hp g s' n ∧ eo K s2 s') cells slots) cells slots (hp g s' n) pc L [.int v] := aw_iret hd hr ⟨s', by rw [hv], rfl, he⟩
theorem aw_F.G {d : Nat} {vs : List Value} {v : Value} (h : aw_F l g M d vs (hp g s n) v (hp g s2 n)) : aw_G l g M d K vs s n v s2 := by
  intro p e' a b c' s1 m args below h1 h2 h3 h4
  obtain ⟨k, o, q1, q2, q3, ⟨⟨⟨r, w, z1, ⟨z2, z3⟩, z4, z5⟩, z6⟩, z7⟩⟩ := h p e' a b c' s1 m args below h1 h2 h3 h4
  exact ⟨k, o, q1, q2, q3, ⟨⟨⟨r, w, z1, ⟨s2, z2, z3, eo_rf⟩, z4, z5⟩, z6⟩, z7⟩⟩
end AwG
theorem eo_up2 {K : Nat → Nat → Bool} {s s1 : am_S} {k i : Nat} {v v1 : Int32} (h : eo K s s1) (hv : v1 = v) : eo K (up s k i v) (up s1 k i v1) := by
  subst hv
  intro k' j e
  unfold up
  cases hb : Nat.beq k' k with
  | true =>
    have hk := Nat.eq_of_beq_eq_true hb
    subst hk
    show upd (s1 k') i v1 j = upd (s k') i v1 j
    by_cases hj : j = i
    · subst hj; rw [pk_us, pk_us]
    · rw [pk_un hj, pk_un hj]; exact h k' j e
  | false => exact h k' j e
/-- seal -/
def aSeal (s : am_S) (t m : Int32) : Int32 × am_S := if isT s t = false then (-1, s) else if m < 1 then (-1, s) else if 9 - s 16 (12 + cl t) < m then (-1, s) else if m ≤ s 16 0 then (s 16 (12 + cl t) + m, up (up s 16 0 (s 16 0 - m)) 16 (12 + cl t) (s 16 (12 + cl t) + m)) else (-1, s)
def mn (a b : Int32) : Int32 := if b < a then b else a
def mx (a b : Int32) : Int32 := if a < b then b else a
def aOpen (s : am_S) (t : Int32) : Int32 × am_S := if sl s t = false then (-1, s) else (mn 999 (s 16 0 + s 16 (12 + cl t)), up (up s 16 0 (mn 999 (s 16 0 + s 16 (12 + cl t)))) 16 (12 + cl t) 0)
def aPry (s : am_S) (t r : Int32) : Int32 × am_S := if sl s t = false then (-1, s) else if isR s r = false then (-1, s) else if s 18 (cl t) = r then (-1, s) else
  if sk s (cl r) (cl t) then (1, up (up s 16 (19 + cl t) (s 16 (19 + cl t) ||| (1 <<< (r &&& 31)))) 16 3 (s 16 3 + 1))
  else (0, up (up (up (up s 16 (19 + cl t) (s 16 (19 + cl t) ||| (1 <<< (r &&& 31)))) 16 (12 + cl t) 0) 16 (31 + cl r) (mn 9 (s 16 (31 + cl r) + 1))) 16 (26 + cl r) (mx 0 (s 16 (26 + cl r) - 1)))
def aCarry (s : am_S) (t v : Int32) : Int32 × am_S := if isT s t = false then (-1, s) else if v < 0 then (-1, s) else if 9 < v then (-1, s) else if v = s 16 (5 + cl t) then (-1, s) else (s 16 (5 + cl t), up s 16 (5 + cl t) v)
def aHeat (s : am_S) (v : Int32) : Int32 × am_S := if 0 < s 15 6 then (if v < 0 then (-1, s) else if 40 < v then (-1, s) else if v = s 16 1 then (-1, s) else (s 16 1, up s 16 1 v)) else (-1, s)

set_option maxRecDepth 4000 in
theorem c_X8_setsWax {l : Launch} {g : ag_G} {s : am_S} {n : am_N} {t m : Int32} {T Q : Nat} (hb : kb s T Q) : aw_F l g mi_X8_setsWax 1 [.ref (g_ad g 15), .int t, .int m] (hp g s n) (.int (aSeal s t m).1) (hp g (aSeal s t m).2 n) := by
  refine aw_F_of mo_X8_setsWax (by decide) (Nat.le_of_ble_eq_true rfl) ?_
  refine aw_aload_n rfl rfl ?_
  refine aw_iload_n rfl rfl ?_
  refine aw_iV (q0 := 15) (ci := 8) rfl cw_X8_57 rfl rfl rfl (c_X8_isThing) rfl rfl (Nat.le_of_ble_eq_true rfl) (by decide) (by decide) (by decide) (by decide) ?_
  refine aw_if_eq (tgt := 39) rfl (by decide) (fun h5 => ?_) (fun h5 => ?_)
  · try rw [bB_0] at h5
    refine aw_iconst (v := -1) rfl (by decide) ?_
    exact aw_fi rfl rfl (by simp [*, aSeal]) (by simp [*, aSeal])
  · rw [bB_n0] at h5
    obtain ⟨j, hj, rfl⟩ := isT_nI hb h5
    have hT := hb.2.1
    have hc : cl (nI j) = j := cl_nI (by omega)
    have n0 : ¬ (0 = 12 + j) := by omega
    have n9 : ¬ (12 + j = 0) := by omega
    refine aw_iload_n rfl rfl ?_
    refine aw_iconst (v := 1) rfl (by decide) ?_
    refine aw_icmp_lt (tgt := 39) rfl (by decide) (fun h10 => ?_) (fun h10 => ?_)
    · try rw [bB_0] at h5
      refine aw_iconst (v := -1) rfl (by decide) ?_
      exact aw_fi rfl rfl (by simp [*, aSeal]) (by simp [*, aSeal])
    · refine aw_iload_n rfl rfl ?_
      refine aw_bipush (v := 9) rfl (by decide) ?_
      refine aw_aload_n rfl rfl ?_
      refine pg_15_1 rfl kl_X8_11 ?_
      refine aw_bipush (v := 12) rfl (by decide) ?_
      refine aw_iload_n rfl rfl ?_
      refine aw_iadd rfl ?_
      refine pl_16 rfl (iL 12 j rfl) (by omega) ?_
      refine aw_isub rfl ?_
      refine aw_icmp_gt (tgt := 39) rfl (by decide) (fun h26 => ?_) (fun h26 => ?_)
      · try rw [bB_0] at h5
        refine aw_iconst (v := -1) rfl (by decide) ?_
        exact aw_fi rfl rfl (by simp [*, aSeal]) (by simp [*, aSeal])
      · refine aw_iload_n rfl rfl ?_
        refine aw_aload_n rfl rfl ?_
        refine pg_15_1 rfl kl_X8_11 ?_
        refine aw_iconst (v := 0) rfl (by decide) ?_
        refine pl_16 (j := 0) rfl rfl (by decide) ?_
        refine aw_icmp_le (tgt := 41) rfl (by decide) (fun h36 => ?_) (fun h36 => ?_)
        · refine aw_aload_n rfl rfl ?_
          refine pg_15_1 rfl kl_X8_11 ?_
          refine aw_iconst (v := 0) rfl (by decide) ?_
          refine aw_dup2 rfl rfl rfl ?_
          refine pl_16 (j := 0) rfl rfl (by decide) ?_
          refine aw_iload_n rfl rfl ?_
          refine aw_isub rfl ?_
          refine ps_16 (j := 0) rfl rfl (by decide) ?_
          refine aw_aload_n rfl rfl ?_
          refine pg_15_1 rfl kl_X8_11 ?_
          refine aw_bipush (v := 12) rfl (by decide) ?_
          refine aw_iload_n rfl rfl ?_
          refine aw_iadd rfl ?_
          refine aw_dup2 rfl rfl rfl ?_
          refine pl_16 rfl (iL 12 j rfl) (by omega) ?_
          refine aw_iload_n rfl rfl ?_
          refine aw_iadd rfl ?_
          refine ps_16 rfl (iL 12 j rfl) (by omega) ?_
          refine aw_aload_n rfl rfl ?_
          refine pg_15_1 rfl kl_X8_11 ?_
          refine aw_bipush (v := 12) rfl (by decide) ?_
          refine aw_iload_n rfl rfl ?_
          refine aw_iadd rfl ?_
          refine pl_16 rfl (iL 12 j rfl) (by omega) ?_
          exact aw_fi rfl rfl (by simp [*, aSeal, up_s]) (by simp [*, aSeal, up_s])
        · try rw [bB_0] at h5
          refine aw_iconst (v := -1) rfl (by decide) ?_
          exact aw_fi rfl rfl (by simp [*, aSeal]) (by simp [*, aSeal])
set_option maxRecDepth 4000 in
theorem c_X8_opensOwn {l : Launch} {g : ag_G} {s : am_S} {n : am_N} {t : Int32} {T Q : Nat} (hb : kb s T Q) : aw_F l g mi_X8_opensOwn 2 [.ref (g_ad g 15), .int t] (hp g s n) (.int (aOpen s t).1) (hp g (aOpen s t).2 n) := by
  refine aw_F_of mo_X8_opensOwn (by decide) (Nat.le_of_ble_eq_true rfl) ?_
  refine aw_aload_n rfl rfl ?_
  refine aw_iload_n rfl rfl ?_
  refine aw_iV (q0 := 15) (ci := 8) rfl cw_X8_117 rfl rfl rfl (c_X8_isSealed hb) rfl rfl (Nat.le_of_ble_eq_true rfl) (by decide) (by decide) (by decide) (by decide) ?_
  refine aw_if_ne (tgt := 10) rfl (by decide) (fun h5 => ?_) (fun h5 => ?_)
  · have h6 : sl s t = true := bB_n0.mp h5
    obtain ⟨j, hj, rfl⟩ := isT_nI hb (Bool.and_eq_true_iff.mp h6).1
    have hT := hb.2.1
    have hc : cl (nI j) = j := cl_nI (by omega)
    have n0 : ¬ (0 = 12 + j) := by omega
    have n9 : ¬ (12 + j = 0) := by omega
    refine aw_aload_n rfl rfl ?_
    refine pg_15_1 rfl kl_X8_11 ?_
    refine aw_iconst (v := 0) rfl (by decide) ?_
    refine aw_sipush (v := 999) rfl (by decide) ?_
    refine aw_aload_n rfl rfl ?_
    refine pg_15_1 rfl kl_X8_11 ?_
    refine aw_iconst (v := 0) rfl (by decide) ?_
    refine pl_16 (j := 0) rfl rfl (by decide) ?_
    refine aw_aload_n rfl rfl ?_
    refine pg_15_1 rfl kl_X8_11 ?_
    refine aw_bipush (v := 12) rfl (by decide) ?_
    refine aw_iload_n rfl rfl ?_
    refine aw_iadd rfl ?_
    refine pl_16 rfl (iL 12 j rfl) (by omega) ?_
    refine aw_iadd rfl ?_
    refine aw_mmin rfl km_X8_70 (aw_t2 171 rfl rfl) (aw_t1 18 rfl rfl) (aw_t2 172 rfl rfl) (by decide) (Nat.le_of_ble_eq_true rfl) (by decide) (by decide) ?_
    refine ps_16 (j := 0) rfl rfl (by decide) ?_
    refine aw_aload_n rfl rfl ?_
    refine pg_15_1 rfl kl_X8_11 ?_
    refine aw_bipush (v := 12) rfl (by decide) ?_
    refine aw_iload_n rfl rfl ?_
    refine aw_iadd rfl ?_
    refine aw_iconst (v := 0) rfl (by decide) ?_
    refine ps_16 rfl (iL 12 j rfl) (by omega) ?_
    refine aw_aload_n rfl rfl ?_
    refine pg_15_1 rfl kl_X8_11 ?_
    refine aw_iconst (v := 0) rfl (by decide) ?_
    refine pl_16 (j := 0) rfl rfl (by decide) ?_
    exact aw_fi rfl rfl (by simp [aOpen, h6, hc, up_s, mn, n0]) (by simp [aOpen, h6, hc, up_s, mn])
  · have h6 : sl s t = false := bB_0.mp h5
    refine aw_iconst (v := -1) rfl (by decide) ?_
    exact aw_fi rfl rfl (by simp [aOpen, h6]) (by simp [aOpen, h6])
set_option maxRecDepth 4000 in
theorem c_X8_carries {l : Launch} {g : ag_G} {s : am_S} {n : am_N} {t v : Int32} {T Q : Nat} (hb : kb s T Q) : aw_F l g mi_X8_carries 1 [.ref (g_ad g 15), .int t, .int v] (hp g s n) (.int (aCarry s t v).1) (hp g (aCarry s t v).2 n) := by
  refine aw_F_of mo_X8_carries (by decide) (Nat.le_of_ble_eq_true rfl) ?_
  refine aw_aload_n rfl rfl ?_
  refine aw_iload_n rfl rfl ?_
  refine aw_iV (q0 := 15) (ci := 8) rfl cw_X8_57 rfl rfl rfl (c_X8_isThing) rfl rfl (Nat.le_of_ble_eq_true rfl) (by decide) (by decide) (by decide) (by decide) ?_
  refine aw_if_eq (tgt := 30) rfl (by decide) (fun h5 => ?_) (fun h5 => ?_)
  · try rw [bB_0] at h5
    refine aw_iconst (v := -1) rfl (by decide) ?_
    exact aw_fi rfl rfl (by simp [*, aCarry]) (by simp [*, aCarry])
  · rw [bB_n0] at h5
    obtain ⟨j, hj, rfl⟩ := isT_nI hb h5
    have hT := hb.2.1
    have hc : cl (nI j) = j := cl_nI (by omega)
    have n0 : ¬ (0 = 12 + j) := by omega
    have n9 : ¬ (12 + j = 0) := by omega
    refine aw_iload_n rfl rfl ?_
    refine aw_if_lt (tgt := 30) rfl (by decide) (fun h9 => ?_) (fun h9 => ?_)
    · try rw [bB_0] at h5
      refine aw_iconst (v := -1) rfl (by decide) ?_
      exact aw_fi rfl rfl (by simp [*, aCarry]) (by simp [*, aCarry])
    · refine aw_iload_n rfl rfl ?_
      refine aw_bipush (v := 9) rfl (by decide) ?_
      refine aw_icmp_gt (tgt := 30) rfl (by decide) (fun h15 => ?_) (fun h15 => ?_)
      · try rw [bB_0] at h5
        refine aw_iconst (v := -1) rfl (by decide) ?_
        exact aw_fi rfl rfl (by simp [*, aCarry]) (by simp [*, aCarry])
      · refine aw_iload_n rfl rfl ?_
        refine aw_aload_n rfl rfl ?_
        refine pg_15_1 rfl kl_X8_11 ?_
        refine aw_iconst (v := 5) rfl (by decide) ?_
        refine aw_iload_n rfl rfl ?_
        refine aw_iadd rfl ?_
        refine pl_16 rfl (iL 5 j rfl) (by omega) ?_
        refine aw_icmp_ne (tgt := 32) rfl (by decide) (fun h27 => ?_) (fun h27 => ?_)
        · refine aw_aload_n rfl rfl ?_
          refine pg_15_1 rfl kl_X8_11 ?_
          refine aw_iconst (v := 5) rfl (by decide) ?_
          refine aw_iload_n rfl rfl ?_
          refine aw_iadd rfl ?_
          refine pl_16 rfl (iL 5 j rfl) (by omega) ?_
          refine aw_istore_n rfl (by decide) ?_
          refine aw_aload_n rfl rfl ?_
          refine pg_15_1 rfl kl_X8_11 ?_
          refine aw_iconst (v := 5) rfl (by decide) ?_
          refine aw_iload_n rfl rfl ?_
          refine aw_iadd rfl ?_
          refine aw_iload_n rfl rfl ?_
          refine ps_16 rfl (iL 5 j rfl) (by omega) ?_
          refine aw_iload_n rfl rfl ?_
          exact aw_fi rfl rfl (by simp [*, aCarry, up_s]) (by simp [*, aCarry, up_s])
        · try rw [bB_0] at h5
          refine aw_iconst (v := -1) rfl (by decide) ?_
          exact aw_fi rfl rfl (by simp [*, aCarry]) (by simp [*, aCarry])
set_option maxRecDepth 4000 in
theorem c_X8_setsHeat {l : Launch} {g : ag_G} {s : am_S} {n : am_N} {v : Int32} : aw_F l g mi_X8_setsHeat 1 [.ref (g_ad g 15), .int v] (hp g s n) (.int (aHeat s v).1) (hp g (aHeat s v).2 n) := by
  refine aw_F_of mo_X8_setsHeat (by decide) (Nat.le_of_ble_eq_true rfl) ?_
  refine aw_aload_n rfl rfl ?_
  refine aw_iV (q0 := 15) (ci := 8) rfl cw_X8_110 rfl rfl rfl (c_X8_isTold) rfl rfl (Nat.le_of_ble_eq_true rfl) (by decide) (by decide) (by decide) (by decide) ?_
  refine aw_if_eq (tgt := 27) rfl (by decide) (fun h4 => ?_) (fun h4 => ?_)
  · try rw [bB_0, decide_eq_false_iff_not] at h4
    refine aw_iconst (v := -1) rfl (by decide) ?_
    exact aw_fi rfl rfl (by simp [*, aHeat]) (by simp [*, aHeat])
  · rw [bB_n0, decide_eq_true_eq] at h4
    refine aw_iload_n rfl rfl ?_
    refine aw_if_lt (tgt := 27) rfl (by decide) (fun h8 => ?_) (fun h8 => ?_)
    · try rw [bB_0, decide_eq_false_iff_not] at h4
      refine aw_iconst (v := -1) rfl (by decide) ?_
      exact aw_fi rfl rfl (by simp [*, aHeat]) (by simp [*, aHeat])
    · refine aw_iload_n rfl rfl ?_
      refine aw_bipush (v := 40) rfl (by decide) ?_
      refine aw_icmp_gt (tgt := 27) rfl (by decide) (fun h14 => ?_) (fun h14 => ?_)
      · try rw [bB_0, decide_eq_false_iff_not] at h4
        refine aw_iconst (v := -1) rfl (by decide) ?_
        exact aw_fi rfl rfl (by simp [*, aHeat]) (by simp [*, aHeat])
      · refine aw_iload_n rfl rfl ?_
        refine aw_aload_n rfl rfl ?_
        refine pg_15_1 rfl kl_X8_11 ?_
        refine aw_iconst (v := 1) rfl (by decide) ?_
        refine pl_16 (j := 1) rfl rfl (by decide) ?_
        refine aw_icmp_ne (tgt := 29) rfl (by decide) (fun h24 => ?_) (fun h24 => ?_)
        · refine aw_aload_n rfl rfl ?_
          refine pg_15_1 rfl kl_X8_11 ?_
          refine aw_iconst (v := 1) rfl (by decide) ?_
          refine pl_16 (j := 1) rfl rfl (by decide) ?_
          refine aw_istore_n rfl (by decide) ?_
          refine aw_aload_n rfl rfl ?_
          refine pg_15_1 rfl kl_X8_11 ?_
          refine aw_iconst (v := 1) rfl (by decide) ?_
          refine aw_iload_n rfl rfl ?_
          refine ps_16 (j := 1) rfl rfl (by decide) ?_
          refine aw_iload_n rfl rfl ?_
          exact aw_fi rfl rfl (by simp [*, aHeat, up_s]) (by simp [*, aHeat, up_s])
        · try rw [bB_0, decide_eq_false_iff_not] at h4
          refine aw_iconst (v := -1) rfl (by decide) ?_
          exact aw_fi rfl rfl (by simp [*, aHeat]) (by simp [*, aHeat])
set_option maxRecDepth 4000 in
theorem c_X8_warms {l : Launch} {g : ag_G} {s : am_S} {n : am_N} {v : Int32} : aw_V l g mi_X8_warms 1 [.ref (g_ad g 15), .int v] (hp g s n) (hp g (up s 16 1 (mx 0 (mn 40 (s 16 1 + v)))) n) := by
  refine aw_V_of mo_X8_warms (by decide) (Nat.le_of_ble_eq_true rfl) ?_
  refine aw_aload_n rfl rfl ?_
  refine pg_15_1 rfl kl_X8_11 ?_
  refine aw_iconst (v := 1) rfl (by decide) ?_
  refine aw_iconst (v := 0) rfl (by decide) ?_
  refine aw_bipush (v := 40) rfl (by decide) ?_
  refine aw_aload_n rfl rfl ?_
  refine pg_15_1 rfl kl_X8_11 ?_
  refine aw_iconst (v := 1) rfl (by decide) ?_
  refine pl_16 (j := 1) rfl rfl (by decide) ?_
  refine aw_iload_n rfl rfl ?_
  refine aw_iadd rfl ?_
  refine aw_mmin rfl km_X8_70 (aw_t2 171 rfl rfl) (aw_t1 18 rfl rfl) (aw_t2 172 rfl rfl) (by decide) (Nat.le_of_ble_eq_true rfl) (by decide) (by decide) ?_
  refine aw_mmax rfl km_X8_89 (aw_t2 168 rfl rfl) (aw_t1 18 rfl rfl) (aw_t2 169 rfl rfl) (by decide) (Nat.le_of_ble_eq_true rfl) (by decide) (by decide) ?_
  refine ps_16 (j := 1) rfl rfl (by decide) ?_
  exact aw_fv rfl rfl rfl
set_option maxRecDepth 4000 in
set_option maxHeartbeats 1000000 in
theorem c_X8_pries {l : Launch} {g : ag_G} {s : am_S} {n : am_N} {t r : Int32} {T Q : Nat} (hb : kb s T Q) : aw_F l g mi_X8_pries 2 [.ref (g_ad g 15), .int t, .int r] (hp g s n) (.int (aPry s t r).1) (hp g (aPry s t r).2 n) := by
  refine aw_F_of mo_X8_pries (by decide) (Nat.le_of_ble_eq_true rfl) ?_
  refine aw_aload_n rfl rfl ?_
  refine aw_iload_n rfl rfl ?_
  refine aw_iV (q0 := 15) (ci := 8) rfl cw_X8_117 rfl rfl rfl (c_X8_isSealed hb) rfl rfl (Nat.le_of_ble_eq_true rfl) (by decide) (by decide) (by decide) (by decide) ?_
  refine aw_if_eq (tgt := 26) rfl (by decide) (fun h5 => ?_) (fun h5 => ?_)
  · first | (have h6 : sl s t = false := bB_0.mp h5) | (have h14 : isR s r = false := bB_0.mp h13) | skip
    refine aw_iconst (v := -1) rfl (by decide) ?_
    exact aw_fi rfl rfl (by first | simp [aPry, h6]; done | simp [aPry, h6, h14]; done | simp [aPry, h6, h14, hc, h23]) (by first | simp [aPry, h6]; done | simp [aPry, h6, h14]; done | simp [aPry, h6, h14, hc, h23])
  · have h6 : sl s t = true := bB_n0.mp h5
    refine aw_aload_n rfl rfl ?_
    refine aw_iload_n rfl rfl ?_
    refine aw_iV (q0 := 15) (ci := 8) rfl cw_X8_123 rfl rfl rfl (c_X8_isRing) rfl rfl (Nat.le_of_ble_eq_true rfl) (by decide) (by decide) (by decide) (by decide) ?_
    refine aw_if_eq (tgt := 26) rfl (by decide) (fun h13 => ?_) (fun h13 => ?_)
    · first | (have h6 : sl s t = false := bB_0.mp h5) | (have h14 : isR s r = false := bB_0.mp h13) | skip
      refine aw_iconst (v := -1) rfl (by decide) ?_
      exact aw_fi rfl rfl (by first | simp [aPry, h6]; done | simp [aPry, h6, h14]; done | simp [aPry, h6, h14, hc, h23]) (by first | simp [aPry, h6]; done | simp [aPry, h6, h14]; done | simp [aPry, h6, h14, hc, h23])
    · have h14 : isR s r = true := bB_n0.mp h13
      obtain ⟨j, hj, rfl⟩ := isT_nI hb (Bool.and_eq_true_iff.mp h6).1
      obtain ⟨q, hq, rfl⟩ := isR_nI hb h14
      have hT := hb.2.1
      have hQ := hb.2.2.2.1
      have hc : cl (nI j) = j := cl_nI (by omega)
      have hcq : cl (nI q) = q := cl_nI (by omega)
      have n1 : ¬ (26 + q = 19 + j) := by omega
      have n2 : ¬ (31 + q = 19 + j) := by omega
      have n3 : ¬ (31 + q = 12 + j) := by omega
      have n4 : ¬ (26 + q = 12 + j) := by omega
      have n5 : ¬ (26 + q = 31 + q) := by omega
      have n6 : ¬ (3 = 19 + j) := by omega
      refine aw_aload_n rfl rfl ?_
      refine pg_15_3 rfl kl_X8_18 ?_
      refine aw_iload_n rfl rfl ?_
      refine pl_18 rfl rfl (by omega) ?_
      refine aw_iload_n rfl rfl ?_
      refine aw_icmp_ne (tgt := 28) rfl (by decide) (fun h23 => ?_) (fun h23 => ?_)
      · refine aw_aload_n rfl rfl ?_
        refine pg_15_1 rfl kl_X8_11 ?_
        refine aw_bipush (v := 19) rfl (by decide) ?_
        refine aw_iload_n rfl rfl ?_
        refine aw_iadd rfl ?_
        refine aw_dup2 rfl rfl rfl ?_
        refine pl_16 rfl (iL 19 j rfl) (by omega) ?_
        refine aw_iconst (v := 1) rfl (by decide) ?_
        refine aw_iload_n rfl rfl ?_
        refine aw_ishl rfl ?_
        refine aw_ior rfl ?_
        refine ps_16 rfl (iL 19 j rfl) (by omega) ?_
        refine aw_aload_n rfl rfl ?_
        refine aw_iload_n rfl rfl ?_
        refine aw_iload_n rfl rfl ?_
        refine aw_iV (q0 := 15) (ci := 8) rfl cw_X8_126 rfl rfl rfl (c_X8_isSkilledFor (by omega) (by omega)) rfl rfl (Nat.le_of_ble_eq_true rfl) (by decide) (by decide) (by decide) (by decide) ?_
        refine aw_if_eq (tgt := 64) rfl (by decide) (fun h49 => ?_) (fun h49 => ?_)
        · refine aw_aload_n rfl rfl ?_
          refine pg_15_1 rfl kl_X8_11 ?_
          refine aw_bipush (v := 12) rfl (by decide) ?_
          refine aw_iload_n rfl rfl ?_
          refine aw_iadd rfl ?_
          refine aw_iconst (v := 0) rfl (by decide) ?_
          refine ps_16 rfl (iL 12 j rfl) (by omega) ?_
          refine aw_aload_n rfl rfl ?_
          refine pg_15_1 rfl kl_X8_11 ?_
          refine aw_bipush (v := 31) rfl (by decide) ?_
          refine aw_iload_n rfl rfl ?_
          refine aw_iadd rfl ?_
          refine aw_bipush (v := 9) rfl (by decide) ?_
          refine aw_aload_n rfl rfl ?_
          refine pg_15_1 rfl kl_X8_11 ?_
          refine aw_bipush (v := 31) rfl (by decide) ?_
          refine aw_iload_n rfl rfl ?_
          refine aw_iadd rfl ?_
          refine pl_16 rfl (iL 31 q rfl) (by omega) ?_
          refine aw_iconst (v := 1) rfl (by decide) ?_
          refine aw_iadd rfl ?_
          refine aw_mmin rfl km_X8_70 (aw_t2 171 rfl rfl) (aw_t1 18 rfl rfl) (aw_t2 172 rfl rfl) (by decide) (Nat.le_of_ble_eq_true rfl) (by decide) (by decide) ?_
          refine ps_16 rfl (iL 31 q rfl) (by omega) ?_
          refine aw_aload_n rfl rfl ?_
          refine pg_15_1 rfl kl_X8_11 ?_
          refine aw_bipush (v := 26) rfl (by decide) ?_
          refine aw_iload_n rfl rfl ?_
          refine aw_iadd rfl ?_
          refine aw_iconst (v := 0) rfl (by decide) ?_
          refine aw_aload_n rfl rfl ?_
          refine pg_15_1 rfl kl_X8_11 ?_
          refine aw_bipush (v := 26) rfl (by decide) ?_
          refine aw_iload_n rfl rfl ?_
          refine aw_iadd rfl ?_
          refine pl_16 rfl (iL 26 q rfl) (by omega) ?_
          refine aw_iconst (v := 1) rfl (by decide) ?_
          refine aw_isub rfl ?_
          refine aw_mmax rfl km_X8_89 (aw_t2 168 rfl rfl) (aw_t1 18 rfl rfl) (aw_t2 169 rfl rfl) (by decide) (Nat.le_of_ble_eq_true rfl) (by decide) (by decide) ?_
          refine ps_16 rfl (iL 26 q rfl) (by omega) ?_
          refine aw_iconst (v := 0) rfl (by decide) ?_
          have h50 : sk s q j = false := by simpa [sk, up_s, n1, n4] using bB_0.mp h49
          exact aw_fi rfl rfl (by simp [aPry, h6, h14, hc, hcq, h23, h50]) (by simp [aPry, h6, h14, hc, hcq, h23, h50, up_s, mn, mx, n1, n2, n3, n4, n5])
        · refine aw_aload_n rfl rfl ?_
          refine pg_15_1 rfl kl_X8_11 ?_
          refine aw_iconst (v := 3) rfl (by decide) ?_
          refine aw_dup2 rfl rfl rfl ?_
          refine pl_16 (j := 3) rfl rfl (by decide) ?_
          refine aw_iconst (v := 1) rfl (by decide) ?_
          refine aw_iadd rfl ?_
          refine ps_16 (j := 3) rfl rfl (by decide) ?_
          refine aw_iconst (v := 1) rfl (by decide) ?_
          have h50 : sk s q j = true := by simpa [sk, up_s, n1, n4] using bB_n0.mp h49
          exact aw_fi rfl rfl (by simp [aPry, h6, h14, hc, hcq, h23, h50]) (by simp [aPry, h6, h14, hc, hcq, h23, h50, up_s, n6])
      · first | (have h6 : sl s t = false := bB_0.mp h5) | (have h14 : isR s r = false := bB_0.mp h13) | skip
        refine aw_iconst (v := -1) rfl (by decide) ?_
        exact aw_fi rfl rfl (by first | simp [aPry, h6]; done | simp [aPry, h6, h14]; done | simp [aPry, h6, h14, hc, h23]) (by first | simp [aPry, h6]; done | simp [aPry, h6, h14]; done | simp [aPry, h6, h14, hc, h23])
