/-! the reference: steps -/
def rI (f : Nat → Int32) (T Q : Nat) : Prop := rwb f T Q ∧ ∃ G, G ≤ 60 ∧ f 36 = nI G
theorem rwb_of {f f' : Nat → Int32} {T Q : Nat} (h : rwb f T Q) (h1 : ∀ i, i < T → f' (3 * i) = f (3 * i) ∧ (f' (3 * i + 1) = f (3 * i + 1) ∨ ∃ D, D ≤ 9 ∧ f' (3 * i + 1) = nI D)) (h2 : ∀ r, r < Q → f' (21 + 2 * r) = f (21 + 2 * r) ∨ ∃ k, k ≤ 9 ∧ f' (21 + 2 * r) = nI k) (h3 : f' 35 = f 35 ∨ ∃ tm, tm ≤ 9999 ∧ f' 35 = nI tm) : rwb f' T Q := by
  refine ⟨fun j hj => ⟨?_, ?_⟩, fun r hr => ?_, ?_⟩
  · rw [(h1 j hj).1]; exact (h.1 j hj).1
  · rcases (h1 j hj).2 with e | e
    · rw [e]; exact (h.1 j hj).2
    · exact e
  · rcases h2 r hr with e | e
    · rw [e]; exact h.2.1 r hr
    · exact e
  · rcases h3 with e | e
    · rw [e]; exact h.2.2
    · exact e
theorem rwb_seal {f : Nat → Int32} {T Q j : Nat} {v : Int32} (hT : T ≤ 7) (hQ : Q ≤ 5) (hj : j < T) (h : rwb f T Q) (hv : ∃ D, D ≤ 9 ∧ f (3 * j + 1) + v = nI D) : rwb (mSeal f j v) T Q := by
  unfold mSeal
  refine rwb_of h (fun i hi => ⟨?_, ?_⟩) (fun r hr => Or.inl ?_) (Or.inl ?_)
  · rw [upd_n (by omega), upd_n (by omega)]
  · rw [upd_n (by omega)]
    by_cases e : i = j
    · rw [e, upd_s]; exact Or.inr hv
    · rw [upd_n (by omega)]; exact Or.inl rfl
  · rw [upd_n (by omega), upd_n (by omega)]
  · rw [upd_n (by omega), upd_n (by omega)]
theorem rwb_open {f : Nat → Int32} {T Q j : Nat} (hT : T ≤ 7) (hQ : Q ≤ 5) (hj : j < T) (h : rwb f T Q) : rwb (mOpen f j) T Q := by
  unfold mOpen
  refine rwb_of h (fun i hi => ⟨?_, ?_⟩) (fun r hr => Or.inl ?_) (Or.inl ?_)
  · rw [upd_n (by omega), upd_n (by omega)]
  · by_cases e : i = j
    · rw [e, upd_s]; exact Or.inr ⟨0, by omega, rfl⟩
    · rw [upd_n (by omega), upd_n (by omega)]; exact Or.inl rfl
  · rw [upd_n (by omega), upd_n (by omega)]
  · rw [upd_n (by omega), upd_n (by omega)]
theorem mx_sk {k : Nat} (h : k ≤ 9) : ∃ k', k' ≤ 9 ∧ mx 0 (nI k - 1) = nI k' := by
  match k, h with
  | 0, _ => exact ⟨0, by omega, by decide⟩
  | k + 1, h =>
    refine ⟨k, by omega, ?_⟩
    rw [nI_m1 (by omega)]
    unfold mx
    split
    · rfl
    · rename_i h0
      by_cases e : k = 0
      · rw [e]; rfl
      · exact absurd ((nI_ltI (a := 0) (b := k) (by decide) (by omega)).mpr (by omega)) h0
theorem rwb_pry {f : Nat → Int32} {T Q j r : Nat} (hT : T ≤ 7) (hQ : Q ≤ 5) (hj : j < T) (hr : r < Q) (h : rwb f T Q) : rwb (mPry f j r).2 T Q := by
  unfold mPry
  split <;> dsimp only
  · refine rwb_of h (fun i hi => ⟨?_, Or.inl ?_⟩) (fun r' hr' => Or.inl ?_) (Or.inl ?_) <;> (rw [upd_n (by omega), upd_n (by omega)])
  · refine rwb_of h (fun i hi => ⟨?_, ?_⟩) (fun r' hr' => ?_) (Or.inl ?_)
    · rw [upd_n (by omega), upd_n (by omega), upd_n (by omega), upd_n (by omega)]
    · rw [upd_n (by omega), upd_n (by omega)]
      by_cases e : i = j
      · rw [e, upd_s]; exact Or.inr ⟨0, by omega, rfl⟩
      · rw [upd_n (by omega), upd_n (by omega)]; exact Or.inl rfl
    · rw [upd_n (by omega)]
      by_cases e : r' = r
      · rw [e, upd_s]
        obtain ⟨k, hk, hke⟩ := h.2.1 r hr
        rw [hke]
        exact Or.inr (mx_sk hk)
      · rw [upd_n (by omega), upd_n (by omega), upd_n (by omega)]; exact Or.inl rfl
    · rw [upd_n (by omega), upd_n (by omega), upd_n (by omega), upd_n (by omega)]
theorem rwb_gF {D : Nat → Int32} {ev me : Int32} {T Q i : Nat} {f : Nat → Int32} (hT : T ≤ 7) (hQ : Q ≤ 5) (hi : i < 7) (h : rwb f T Q) : rwb (gF D ev me i f) T Q := by
  unfold gF
  split
  · split
    · refine rwb_of h (fun q hq => ⟨?_, ?_⟩) (fun r' hr' => Or.inl ?_) (Or.inl ?_)
      · rw [upd_n (by omega), upd_n (by omega)]
      · rw [upd_n (by omega)]
        by_cases e : q = i
        · rw [e, upd_s]; exact Or.inr ⟨0, by omega, rfl⟩
        · rw [upd_n (by omega)]; exact Or.inl rfl
      · rw [upd_n (by omega), upd_n (by omega)]
      · rw [upd_n (by omega), upd_n (by omega)]
    · refine rwb_of h (fun q hq => ⟨?_, ?_⟩) (fun r' hr' => ?_) (Or.inl ?_)
      · rw [upd_n (by omega), upd_n (by omega), upd_n (by omega)]
      · rw [upd_n (by omega), upd_n (by omega)]
        by_cases e : q = i
        · rw [e, upd_s]; exact Or.inr ⟨0, by omega, rfl⟩
        · rw [upd_n (by omega)]; exact Or.inl rfl
      · rw [upd_n (by omega), upd_n (by omega), upd_n (by omega)]; exact Or.inl rfl
      · rw [upd_n (by omega), upd_n (by omega), upd_n (by omega)]
  · exact h
theorem rwb_fgF {D : Nat → Int32} {ev me : Int32} {T Q : Nat} (hT : T ≤ 7) (hQ : Q ≤ 5) : ∀ (d i : Nat) (f : Nat → Int32), i + d ≤ 7 → rwb f T Q → rwb (fd (gF D ev me) i d f) T Q
  | 0, _, _, _, h => h
  | d + 1, i, f, hi, h => rwb_fgF hT hQ d (i + 1) _ (by omega) (rwb_gF hT hQ (by omega) h)
theorem rI_gE {f : Nat → Int32} {T Q G : Nat} {wm me : Int32} (hT : T ≤ 7) (hQ : Q ≤ 5) (h : rwb f T Q) (hG : G < 60) : rI (gE f wm me G) T Q := by
  unfold gE
  refine ⟨rwb_of h (fun q hq => ⟨?_, Or.inl ?_⟩) (fun r' hr' => Or.inl ?_) (Or.inl ?_), G + 1, by omega, upd_s⟩ <;> rw [upd_n (by omega), upd_n (by omega), upd_n (by omega), upd_n (by omega)]
theorem rI_goM {V : (Nat → Int32) → Int32} {s : am_S} {f : Nat → Int32} {T Q G : Nat} (hT : T ≤ 7) (hQ : Q ≤ 5) (h : rwb f T Q) (hG : G ≤ 60) (ht : ¬ f 35 = 9999) : rI (goM V s T Q G f).2 T Q := by
  unfold goM
  generalize fd (gmM V s f) 0 T 0 = me
  have h1 := rwb_fgF (D := s 46) (ev := bt Q - 1) (me := me) hT hQ T 0 f (by omega) h
  have h35 : fd (gF (s 46) (bt Q - 1) me) 0 T f 35 = f 35 := fd_gF (by decide) (by decide) T 0 f (by omega)
  generalize fd (gF (s 46) (bt Q - 1) me) 0 T f = F at h1 h35
  have h2 : rwb (gT F (s 44 2)) T Q := by
    unfold gT
    refine rwb_of h1 (fun q hq => ⟨?_, Or.inl ?_⟩) (fun r' hr' => Or.inl ?_) (Or.inr ?_)
    · rw [upd_n (by omega), upd_n (by omega)]
    · rw [upd_n (by omega), upd_n (by omega)]
    · rw [upd_n (by omega), upd_n (by omega)]
    · obtain ⟨tm, htm, hte⟩ := h.2.2
      have : tm ≠ 9999 := fun e => ht (by rw [hte, e]; rfl)
      exact ⟨tm + 1, by omega, by rw [upd_s, h35, hte]; exact nI_1 tm⟩
  generalize gT F (s 44 2) = F2 at h2
  show rI (gG F2 _ me G) T Q
  unfold gG
  split
  · refine rI_gE hT hQ ?_ (by decide)
    refine rwb_of h2 (fun q hq => ⟨?_, Or.inl ?_⟩) (fun r' hr' => Or.inl ?_) (Or.inl ?_) <;> (rw [upd_n (by omega)]; unfold va_cpy; rw [if_neg (by omega)])
  · exact rI_gE hT hQ h2 (by omega)
def cStm (s : am_S) (f : Nat → Int32) (R : Nat) : Bool := if s 50 R = 0 then decide (f 35 < 9999) else if s 50 R = 1 then cSm s f (s 50 (R + 1)) (s 50 (R + 2)) else if s 50 R = 2 then cPm s f (s 50 (R + 1)) (s 50 (R + 2)) else shm s f (s 50 (R + 1))
def gSt (V : (Nat → Int32) → Int32) (s : am_S) (T Q : Nat) (f : Nat → Int32) (R : Nat) : Nat → Int32 := if s 50 R = 0 then (goM V s T Q (cl (f 36)) f).2 else if s 50 R = 1 then mSeal f (cl (s 50 (R + 1))) (s 50 (R + 2)) else if s 50 R = 2 then (mPry f (cl (s 50 (R + 1))) (cl (s 50 (R + 2)))).2 else mOpen f (cl (s 50 (R + 1)))
theorem cSm_D {s : am_S} {f : Nat → Int32} {T Q j : Nat} {v : Int32} (hb : mb s T Q) (hr : rwb f T Q) (hj : j < T) (h : cSm s f (nI j) v = true) : ∃ D, D ≤ 9 ∧ f (3 * j + 1) + v = nI D := by
  have hT := hb.2.1
  unfold cSm at h
  simp only [Bool.and_eq_true, decide_eq_true_eq] at h
  obtain ⟨w, hw, rfl⟩ := mm_in (M := 9) (by decide) (by decide) h.2.1
  obtain ⟨-, D, hD, hDe⟩ := hr.1 j hj
  have h3 := h.2.2.1
  rw [cl_nI (by omega), hDe, nI_add] at h3
  rw [hDe, nI_add]
  refine ⟨D + w, ?_, rfl⟩
  by_cases e : D + w ≤ 9
  · exact e
  · exact absurd ((nI_ltI (a := 9) (b := D + w) (by decide) (by omega)).mpr (by omega)) (Int32.not_lt.mpr h3)
theorem rI_gSt {V : (Nat → Int32) → Int32} {s : am_S} {f : Nat → Int32} {T Q R : Nat} (hb : mb s T Q) (h : rI f T Q) (hc : cStm s f R = true) : rI (gSt V s T Q f R) T Q := by
  have hT := hb.2.1
  have hQ := hb.2.2.2.1
  obtain ⟨hr, G, hG, hGe⟩ := h
  have hcG : cl (f 36) = G := by rw [hGe]; exact cl_nI (by omega)
  unfold cStm at hc
  unfold gSt
  by_cases h0 : s 50 R = 0
  · rw [if_pos h0] at hc ⊢
    rw [hcG]
    exact rI_goM hT hQ hr hG (fun e => absurd (of_decide_eq_true hc) (by rw [e]; decide))
  · rw [if_neg h0] at hc ⊢
    by_cases h1 : s 50 R = 1
    · rw [if_pos h1] at hc ⊢
      obtain ⟨j, hj, hje⟩ := isTm_nI hb (Bool.and_eq_true_iff.mp (by unfold cSm at hc; exact hc)).1
      rw [hje] at hc ⊢
      rw [cl_nI (by omega)]
      refine ⟨rwb_seal hT hQ hj hr (cSm_D hb hr hj hc), G, hG, ?_⟩
      unfold mSeal
      rw [upd_n (by omega), upd_n (by omega)]
      exact hGe
    · rw [if_neg h1] at hc ⊢
      by_cases h2 : s 50 R = 2
      · rw [if_pos h2] at hc ⊢
        unfold cPm shm at hc
        simp only [Bool.and_eq_true] at hc
        obtain ⟨j, hj, hje⟩ := isTm_nI hb hc.1.1
        obtain ⟨r, hr1, hre⟩ := isRm_nI hb hc.2.1
        rw [hje, hre, cl_nI (by omega), cl_nI (by omega)]
        refine ⟨rwb_pry hT hQ hj hr1 hr, G, hG, ?_⟩
        unfold mPry
        split <;> dsimp only
        · rw [upd_n (by omega), upd_n (by omega)]; exact hGe
        · rw [upd_n (by omega), upd_n (by omega), upd_n (by omega), upd_n (by omega)]; exact hGe
      · rw [if_neg h2] at hc ⊢
        unfold shm at hc
        simp only [Bool.and_eq_true] at hc
        obtain ⟨j, hj, hje⟩ := isTm_nI hb hc.1
        rw [hje, cl_nI (by omega)]
        refine ⟨rwb_open hT hQ hj hr, G, hG, ?_⟩
        unfold mOpen
        rw [upd_n (by omega), upd_n (by omega)]
        exact hGe
def aw_RV (l : Launch) (g : ag_G) (N : ag_M) (d : Nat) (K : Nat → Nat → Bool) (vs : List Value) (s : am_S) (n : am_N) (MI : am_S → am_N → Prop) (s2 : am_S) : Prop := aw_M l g N d 0 0 vs (hp g s n) (fun r w => ∃ s' n', r = none ∧ w = hp g s' n' ∧ eo K s2 s' ∧ en n n' ∧ MI s' n')
section AwRV
variable {l : Launch} {g : ag_G} {M : ag_M} {R : Room} {Z : ag_Z} {cells slots : Nat} {pc : Nat} {L : List (Option Value)} {st : List Value} {s s2 : am_S} {n n0 : am_N} {K : Nat → Nat → Bool} {MI : am_S → am_N → Prop}
theorem aw_RV_of {d : Nat} {vs : List Value} (hok : aw_ok M) (hy : plainName (m_y M).cls = true) (hn : (lg_sl vs).length ≤ m_n M) (body : aw_W l g M (aw_rm d 0 0) (aw_Z g (fun r w => ∃ s' n', r = none ∧ w = hp g s' n' ∧ eo K s2 s' ∧ en n n' ∧ MI s' n') 0 0) 0 0 (hp g s n) 0 (aw_arg vs) []) : aw_RV l g M d K vs s n MI s2 := aw_M_of hok hy hn body
theorem aw_rvV {N : ag_M} {index d k q0 ci b : Nat} {C : vw_C} {fs As rest st0 : List Value}
    (hd : m_at M pc = some (.invokevirtual index, 3)) (hw : aw_cV (m_y M).cls index N k) (hc : aw_cl[ci]? = some C) (hcn : C.1 = (m_y N).cls) (he : (hp g s n)[q0]? = some (b, .inr (ci, fs)))
    (hM : aw_RV l g N d K (.ref b :: As) s n MI s2) (hk : As.length = k) (hst : st0 = As.reverse ++ .ref b :: rest) (hrest : (rest.map fun v => v.category).sum ≤ 8) (hf : d + 1 ≤ R.frames) (hlo : 8 + (m_n N + 11) + 100 * d ≤ R.locals) (h1 : cells ≤ R.cells) (h2 : slots ≤ R.slots)
    (kk : ∀ s' n', eo K s2 s' → en n n' → MI s' n' → aw_W l g M R Z cells slots (hp g s' n') (pc + 3) L rest) : aw_W l g M R Z cells slots (hp g s n) pc L st0 :=
  aw_callV hd hw hc hcn he hM hk hst hrest hf hlo h1 h2 (by rintro r w ⟨s', n', rfl, rfl, e1, e2, e3⟩; exact kk s' n' e1 e2 e3)
theorem aw_rvr {s' : am_S} {n' : am_N} (hd : m_at M pc = some (.return_, 1)) (hr : m_r M = none) (he : eo K s2 s') (hn : en n n') (hm : MI s' n') : aw_W l g M R (aw_Z g (fun r w => ∃ s' n', r = none ∧ w = hp g s' n' ∧ eo K s2 s' ∧ en n n' ∧ MI s' n') cells slots) cells slots (hp g s' n') pc L [] := aw_vret hd hr ⟨s', n', rfl, rfl, he, hn, hm⟩
end AwRV
set_option maxRecDepth 4000 in
theorem c_m_copy {l : Launch} {g : ag_G} {s : am_S} {n : am_N}  : aw_V l g mi_X12_copy 0 [.ref (g_ad g 52), .ref (g_ad g 53)] (hp g s n) (hp g (upR s 53 (upd (va_cpy (s 52) (s 53) 0 0 36) 36 0)) n) := by
  have loop : ∀ (d i : Nat), i + d = 36 → aw_W l g mi_X12_copy (aw_rm 0 0 0) (aw_Z g (fun r w => r = none ∧ w = hp g (upR s 53 (upd (va_cpy (s 52) (s 53) 0 0 36) 36 0)) n) 0 0) 0 0 (hp g (upR s 53 (va_cpy (s 52) (s 53) 0 0 i)) n) 2 [some (.ref (g_ad g 52)), some (.ref (g_ad g 53)), some (.int (nI i))] [] := by
    intro d
    induction d with
    | zero =>
      intro i hi
      obtain rfl : i = 36 := by omega
      refine aw_iload_n rfl rfl ?_
      refine aw_bipush (v := 36) rfl (by decide) ?_
      refine aw_icmp_ge (tgt := 20) rfl (by decide) (fun h5 => ?_) (fun h5 => absurd (by decide) h5)
      refine aw_aload_n rfl rfl ?_
      refine aw_bipush (v := 36) rfl (by decide) ?_
      refine aw_iconst (v := 0) rfl (by decide) ?_
      refine ps_53 (j := 36) rfl rfl (by decide) ?_
      exact aw_fv rfl rfl (by rw [upR_up])
    | succ d ih =>
      intro i hi
      refine aw_iload_n rfl rfl ?_
      refine aw_bipush (v := 36) rfl (by decide) ?_
      refine aw_icmp_ge (tgt := 20) rfl (by decide) (fun h5 => absurd h5 (nI_ge (b := 36) (by omega) (by decide))) (fun h5 => ?_)
      refine aw_aload_n rfl rfl ?_
      refine aw_iload_n rfl rfl ?_
      refine aw_aload_n rfl rfl ?_
      refine aw_iload_n rfl rfl ?_
      refine pl_52 rfl rfl (by omega) ?_
      refine ps_53 rfl rfl (by omega) ?_
      refine aw_inc1 rfl rfl (by decide) ?_
      refine aw_goto (tgt := 2) rfl (by decide) ?_
      refine aw_wk (aw_eqs (ih (i + 1) (by omega)) rfl rfl (congrArg (fun z => hp g z n) ?_)) (And.intro rfl (And.intro rfl (And.intro (congrArg (fun x => some (Value.int x)) (nI_1 i)) True.intro)))
      rw [upR_up, ← cpy_s, Nat.zero_add]
      rfl
  have go0 := loop 36 0 rfl
  rw [cpy_0, upR_rf] at go0
  refine aw_V_of mo_X12_copy (by decide) (Nat.le_of_ble_eq_true rfl) ?_
  refine aw_iconst (v := 0) rfl (by decide) ?_
  refine aw_istore_n rfl (by decide) ?_
  exact aw_wk go0 (And.intro rfl (And.intro rfl (And.intro rfl True.intro)))
set_option maxRecDepth 4000 in
theorem c_m_canStep_52 {l : Launch} {g : ag_G} {s : am_S} {n : am_N} {T Q R : Nat} (hb : mb s T Q) (hR : R + 2 < 240) : aw_F l g mi_X12_canStep 3 [.ref (g_ad g 39), .ref (g_ad g 52), .int (nI R)] (hp g s n) (.int (bB (cStm s (s 52) R))) (hp g s n) := by
  refine aw_F_of mo_X12_canStep (by decide) (Nat.le_of_ble_eq_true rfl) ?_
  refine aw_aload_n rfl rfl ?_
  refine pg_39_24 rfl kl_X12_55 ?_
  refine aw_iload_n rfl rfl ?_
  refine aw_iconst (v := 1) rfl (by decide) ?_
  refine aw_iadd rfl ?_
  refine pl_50 rfl (nI_add R 1) (by omega) ?_
  refine aw_istore_n rfl (by decide) ?_
  refine aw_aload_n rfl rfl ?_
  refine pg_39_24 rfl kl_X12_55 ?_
  refine aw_iload_n rfl rfl ?_
  refine aw_iconst (v := 2) rfl (by decide) ?_
  refine aw_iadd rfl ?_
  refine pl_50 rfl (nI_add R 2) (by omega) ?_
  refine aw_istore rfl (by decide) ?_
  refine aw_aload_n rfl rfl ?_
  refine pg_39_24 rfl kl_X12_55 ?_
  refine aw_iload_n rfl rfl ?_
  refine pl_50 rfl rfl (by omega) ?_
  refine aw_sw 0 (fun h25_0 => ?_) (fun h25_0 => ?_)
  · refine aw_tabIn (off := 27) (tgt := 52) rfl (by decide) (by decide) (by decide) (by decide) ?_
    refine aw_aload_n rfl rfl ?_
    refine aw_bipush (v := 35) rfl (by decide) ?_
    refine pl_52 (j := 35) rfl rfl (by decide) ?_
    refine aw_sipush (v := 9999) rfl (by decide) ?_
    refine aw_icmp_ge (tgt := 66) rfl (by decide) (fun h59 => ?_) (fun h59 => ?_)
    · refine aw_iconst (v := 0) rfl (by decide) ?_
      first
      | exact aw_fz rfl rfl (by first | exact Or.inl rfl | exact Or.inr rfl) (by unfold cStm; rw [if_pos h25_0, decide_eq_false (Int32.not_lt.mpr h59)]; rfl) rfl
      | exact aw_fz rfl rfl (by first | exact Or.inl rfl | exact Or.inr rfl) (by unfold cStm; rw [if_pos h25_0, decide_eq_true (Int32.not_le.mp h59)]; rfl) rfl
    · refine aw_iconst (v := 1) rfl (by decide) ?_
      refine aw_goto (tgt := 67) rfl (by decide) ?_
      first
      | exact aw_fz rfl rfl (by first | exact Or.inl rfl | exact Or.inr rfl) (by unfold cStm; rw [if_pos h25_0, decide_eq_false (Int32.not_lt.mpr h59)]; rfl) rfl
      | exact aw_fz rfl rfl (by first | exact Or.inl rfl | exact Or.inr rfl) (by unfold cStm; rw [if_pos h25_0, decide_eq_true (Int32.not_le.mp h59)]; rfl) rfl
  · skip
    refine aw_sw 1 (fun h25_1 => ?_) (fun h25_1 => ?_)
    · refine aw_tabIn (off := 43) (tgt := 68) rfl (by decide) (by decide) (by decide) (by decide) ?_
      refine aw_aload_n rfl rfl ?_
      refine aw_aload_n rfl rfl ?_
      refine aw_iload_n rfl rfl ?_
      refine aw_iload rfl rfl ?_
      refine aw_iV (q0 := 39) (ci := 12) rfl cw_X12_371 rfl rfl rfl (c_m_canSeal_52 hb) rfl rfl (Nat.le_of_ble_eq_true rfl) (by decide) (by decide) (by decide) (by decide) ?_
      exact aw_fz rfl rfl bB_01 (by unfold cStm; rw [if_neg h25_0, if_pos h25_1]) rfl
    · skip
      refine aw_sw 2 (fun h25_2 => ?_) (fun h25_2 => ?_)
      · refine aw_tabIn (off := 52) (tgt := 77) rfl (by decide) (by decide) (by decide) (by decide) ?_
        refine aw_aload_n rfl rfl ?_
        refine aw_aload_n rfl rfl ?_
        refine aw_iload_n rfl rfl ?_
        refine aw_iload rfl rfl ?_
        refine aw_iV (q0 := 39) (ci := 12) rfl cw_X12_389 rfl rfl rfl (c_m_canPry_52 hb) rfl rfl (Nat.le_of_ble_eq_true rfl) (by decide) (by decide) (by decide) (by decide) ?_
        exact aw_fz rfl rfl bB_01 (by unfold cStm; rw [if_neg h25_0, if_neg h25_1, if_pos h25_2]) rfl
      · skip
        refine aw_tabOut (tgt := 86) rfl (by have e0 := ne_toInt h25_0 (i := 0) (by decide); have e1 := ne_toInt h25_1 (i := 1) (by decide); have e2 := ne_toInt h25_2 (i := 2) (by decide); omega) (by decide) ?_
        refine aw_aload_n rfl rfl ?_
        refine aw_aload_n rfl rfl ?_
        refine aw_iload_n rfl rfl ?_
        refine aw_iV (q0 := 39) (ci := 12) rfl cw_X12_379 rfl rfl rfl (c_m_isShut_52 hb) rfl rfl (Nat.le_of_ble_eq_true rfl) (by decide) (by decide) (by decide) (by decide) ?_
        exact aw_fz rfl rfl bB_01 (by unfold cStm; rw [if_neg h25_0, if_neg h25_1, if_neg h25_2]) rfl
set_option maxRecDepth 4000 in
theorem c_m_goStep_52 {l : Launch} {g : ag_G} {s : am_S} {n : am_N} {MI : am_S → am_N → Prop} {V : (Nat → Int32) → Int32} {T Q : Nat} (hC : MC l g MI V s n T Q) (hr : rI (s 52) T Q) {R : Nat} (hR : R + 2 < 240) (hc : cStm s (s 52) R = true) : aw_RV l g mi_X12_goStep 103 skM [.ref (g_ad g 39), .ref (g_ad g 52), .int (nI R)] s n MI (upR s 52 (gSt V s T Q (s 52) R)) := by
  have hT := hC.1.2.1
  have hQ := hC.1.2.2.2.1
  have hb := hC.1
  obtain ⟨hr, G, hG, hGe⟩ := hr
  have hcG : cl (s 52 36) = G := by rw [hGe]; exact cl_nI (by omega)
  have hMI : ∀ f, MI (upR s 52 f) n := fun f => hC.2.1.2.2.1 s _ n n hC.2.2.1 rfl rfl rfl rfl rfl rfl
  refine aw_RV_of mo_X12_goStep (by decide) (Nat.le_of_ble_eq_true rfl) ?_
  refine aw_aload_n rfl rfl ?_
  refine pg_39_24 rfl kl_X12_55 ?_
  refine aw_iload_n rfl rfl ?_
  refine aw_iconst (v := 1) rfl (by decide) ?_
  refine aw_iadd rfl ?_
  refine pl_50 rfl (nI_add R 1) (by omega) ?_
  refine aw_istore_n rfl (by decide) ?_
  refine aw_aload_n rfl rfl ?_
  refine pg_39_24 rfl kl_X12_55 ?_
  refine aw_iload_n rfl rfl ?_
  refine aw_iconst (v := 2) rfl (by decide) ?_
  refine aw_iadd rfl ?_
  refine pl_50 rfl (nI_add R 2) (by omega) ?_
  refine aw_istore rfl (by decide) ?_
  refine aw_aload_n rfl rfl ?_
  refine pg_39_24 rfl kl_X12_55 ?_
  refine aw_iload_n rfl rfl ?_
  refine pl_50 rfl rfl (by omega) ?_
  refine aw_sw 0 (fun h25_0 => ?_) (fun h25_0 => ?_)
  · refine aw_tabIn (off := 27) (tgt := 52) rfl (by decide) (by decide) (by decide) (by decide) ?_
    refine aw_aload_n rfl rfl ?_
    refine aw_aload_n rfl rfl ?_
    refine aw_rV (q0 := 39) (ci := 12) rfl cw_X12_362 rfl rfl rfl (c_m_goMonth_52 (G := G) hC hr hG hGe) rfl rfl (Nat.le_of_ble_eq_true rfl) (by decide) (by decide) (by decide) (by decide) (fun s1 n1 e1 f1 m1 => ?_)
    refine aw_istore rfl (by decide) ?_
    refine aw_goto (tgt := 89) rfl (by decide) ?_
    first
    | (rw [hq]; exact aw_rvr rfl rfl eo_rf en_rf (hMI _))
    | exact aw_rvr rfl rfl (by rw [show gSt V s T Q (s 52) R = (goM V s T Q G (s 52)).2 from by (unfold gSt; rw [if_pos h25_0, hcG])]; exact e1) f1 m1
  · skip
    refine aw_sw 1 (fun h25_1 => ?_) (fun h25_1 => ?_)
    · refine aw_tabIn (off := 37) (tgt := 62) rfl (by decide) (by decide) (by decide) (by decide) ?_
      unfold cStm at hc
      rw [if_neg h25_0, if_pos h25_1] at hc
      obtain ⟨j, hj, hje⟩ := isTm_nI hb (Bool.and_eq_true_iff.mp (by unfold cSm at hc; exact hc)).1
      have hq : gSt V s T Q (s 52) R = mSeal (s 52) j (s 50 (R + 2)) := by (unfold gSt; rw [if_neg h25_0, if_pos h25_1, hje, cl_nI (by omega)])
      rw [hje]
      refine aw_aload_n rfl rfl ?_
      refine aw_iload_n rfl rfl ?_
      refine aw_iload rfl rfl ?_
      refine aw_vS rfl cw_X12_375 (c_m_seals_52 (j := j) (by omega)) rfl rfl (Nat.le_of_ble_eq_true rfl) (by decide) (by decide) (by decide) (by decide) ?_
      refine aw_goto (tgt := 89) rfl (by decide) ?_
      first
      | (rw [hq]; exact aw_rvr rfl rfl eo_rf en_rf (hMI _))
      | exact aw_rvr rfl rfl (by rw [show gSt V s T Q (s 52) R = (goM V s T Q G (s 52)).2 from by (unfold gSt; rw [if_pos h25_0, hcG])]; exact e1) f1 m1
    · skip
      refine aw_sw 2 (fun h25_2 => ?_) (fun h25_2 => ?_)
      · refine aw_tabIn (off := 47) (tgt := 72) rfl (by decide) (by decide) (by decide) (by decide) ?_
        unfold cStm at hc
        rw [if_neg h25_0, if_neg h25_1, if_pos h25_2] at hc
        unfold cPm shm at hc
        simp only [Bool.and_eq_true] at hc
        obtain ⟨j, hj, hje⟩ := isTm_nI hb hc.1.1
        obtain ⟨r, hr1, hre⟩ := isRm_nI hb hc.2.1
        have hq : gSt V s T Q (s 52) R = (mPry (s 52) j r).2 := by (unfold gSt; rw [if_neg h25_0, if_neg h25_1, if_pos h25_2, hje, hre, cl_nI (by omega), cl_nI (by omega)])
        rw [hje, hre]
        refine aw_aload_n rfl rfl ?_
        refine aw_iload_n rfl rfl ?_
        refine aw_iload rfl rfl ?_
        refine aw_iS rfl cw_X12_392 (c_m_pries_52 (j := j) (r := r) (by omega) (by omega)) rfl rfl (Nat.le_of_ble_eq_true rfl) (by decide) (by decide) (by decide) (by decide) ?_
        refine aw_istore rfl (by decide) ?_
        refine aw_goto (tgt := 89) rfl (by decide) ?_
        first
        | (rw [hq]; exact aw_rvr rfl rfl eo_rf en_rf (hMI _))
        | exact aw_rvr rfl rfl (by rw [show gSt V s T Q (s 52) R = (goM V s T Q G (s 52)).2 from by (unfold gSt; rw [if_pos h25_0, hcG])]; exact e1) f1 m1
      · skip
        refine aw_tabOut (tgt := 84) rfl (by have e0 := ne_toInt h25_0 (i := 0) (by decide); have e1 := ne_toInt h25_1 (i := 1) (by decide); have e2 := ne_toInt h25_2 (i := 2) (by decide); omega) (by decide) ?_
        unfold cStm at hc
        rw [if_neg h25_0, if_neg h25_1, if_neg h25_2] at hc
        unfold shm at hc
        simp only [Bool.and_eq_true] at hc
        obtain ⟨j, hj, hje⟩ := isTm_nI hb hc.1
        have hq : gSt V s T Q (s 52) R = mOpen (s 52) j := by (unfold gSt; rw [if_neg h25_0, if_neg h25_1, if_neg h25_2, hje, cl_nI (by omega)])
        rw [hje]
        refine aw_aload_n rfl rfl ?_
        refine aw_iload_n rfl rfl ?_
        refine aw_vS rfl cw_X12_382 (c_m_opens_52 (j := j) (by omega)) rfl rfl (Nat.le_of_ble_eq_true rfl) (by decide) (by decide) (by decide) (by decide) ?_
        first
        | (rw [hq]; exact aw_rvr rfl rfl eo_rf en_rf (hMI _))
        | exact aw_rvr rfl rfl (by rw [show gSt V s T Q (s 52) R = (goM V s T Q G (s 52)).2 from by (unfold gSt; rw [if_pos h25_0, hcG])]; exact e1) f1 m1
set_option maxRecDepth 4000 in
theorem c_m_canStep_53 {l : Launch} {g : ag_G} {s : am_S} {n : am_N} {T Q R : Nat} (hb : mb s T Q) (hR : R + 2 < 240) : aw_F l g mi_X12_canStep 3 [.ref (g_ad g 39), .ref (g_ad g 53), .int (nI R)] (hp g s n) (.int (bB (cStm s (s 53) R))) (hp g s n) := by
  refine aw_F_of mo_X12_canStep (by decide) (Nat.le_of_ble_eq_true rfl) ?_
  refine aw_aload_n rfl rfl ?_
  refine pg_39_24 rfl kl_X12_55 ?_
  refine aw_iload_n rfl rfl ?_
  refine aw_iconst (v := 1) rfl (by decide) ?_
  refine aw_iadd rfl ?_
  refine pl_50 rfl (nI_add R 1) (by omega) ?_
  refine aw_istore_n rfl (by decide) ?_
  refine aw_aload_n rfl rfl ?_
  refine pg_39_24 rfl kl_X12_55 ?_
  refine aw_iload_n rfl rfl ?_
  refine aw_iconst (v := 2) rfl (by decide) ?_
  refine aw_iadd rfl ?_
  refine pl_50 rfl (nI_add R 2) (by omega) ?_
  refine aw_istore rfl (by decide) ?_
  refine aw_aload_n rfl rfl ?_
  refine pg_39_24 rfl kl_X12_55 ?_
  refine aw_iload_n rfl rfl ?_
  refine pl_50 rfl rfl (by omega) ?_
  refine aw_sw 0 (fun h25_0 => ?_) (fun h25_0 => ?_)
  · refine aw_tabIn (off := 27) (tgt := 52) rfl (by decide) (by decide) (by decide) (by decide) ?_
    refine aw_aload_n rfl rfl ?_
    refine aw_bipush (v := 35) rfl (by decide) ?_
    refine pl_53 (j := 35) rfl rfl (by decide) ?_
    refine aw_sipush (v := 9999) rfl (by decide) ?_
    refine aw_icmp_ge (tgt := 66) rfl (by decide) (fun h59 => ?_) (fun h59 => ?_)
    · refine aw_iconst (v := 0) rfl (by decide) ?_
      first
      | exact aw_fz rfl rfl (by first | exact Or.inl rfl | exact Or.inr rfl) (by unfold cStm; rw [if_pos h25_0, decide_eq_false (Int32.not_lt.mpr h59)]; rfl) rfl
      | exact aw_fz rfl rfl (by first | exact Or.inl rfl | exact Or.inr rfl) (by unfold cStm; rw [if_pos h25_0, decide_eq_true (Int32.not_le.mp h59)]; rfl) rfl
    · refine aw_iconst (v := 1) rfl (by decide) ?_
      refine aw_goto (tgt := 67) rfl (by decide) ?_
      first
      | exact aw_fz rfl rfl (by first | exact Or.inl rfl | exact Or.inr rfl) (by unfold cStm; rw [if_pos h25_0, decide_eq_false (Int32.not_lt.mpr h59)]; rfl) rfl
      | exact aw_fz rfl rfl (by first | exact Or.inl rfl | exact Or.inr rfl) (by unfold cStm; rw [if_pos h25_0, decide_eq_true (Int32.not_le.mp h59)]; rfl) rfl
  · skip
    refine aw_sw 1 (fun h25_1 => ?_) (fun h25_1 => ?_)
    · refine aw_tabIn (off := 43) (tgt := 68) rfl (by decide) (by decide) (by decide) (by decide) ?_
      refine aw_aload_n rfl rfl ?_
      refine aw_aload_n rfl rfl ?_
      refine aw_iload_n rfl rfl ?_
      refine aw_iload rfl rfl ?_
      refine aw_iV (q0 := 39) (ci := 12) rfl cw_X12_371 rfl rfl rfl (c_m_canSeal_53 hb) rfl rfl (Nat.le_of_ble_eq_true rfl) (by decide) (by decide) (by decide) (by decide) ?_
      exact aw_fz rfl rfl bB_01 (by unfold cStm; rw [if_neg h25_0, if_pos h25_1]) rfl
    · skip
      refine aw_sw 2 (fun h25_2 => ?_) (fun h25_2 => ?_)
      · refine aw_tabIn (off := 52) (tgt := 77) rfl (by decide) (by decide) (by decide) (by decide) ?_
        refine aw_aload_n rfl rfl ?_
        refine aw_aload_n rfl rfl ?_
        refine aw_iload_n rfl rfl ?_
        refine aw_iload rfl rfl ?_
        refine aw_iV (q0 := 39) (ci := 12) rfl cw_X12_389 rfl rfl rfl (c_m_canPry_53 hb) rfl rfl (Nat.le_of_ble_eq_true rfl) (by decide) (by decide) (by decide) (by decide) ?_
        exact aw_fz rfl rfl bB_01 (by unfold cStm; rw [if_neg h25_0, if_neg h25_1, if_pos h25_2]) rfl
      · skip
        refine aw_tabOut (tgt := 86) rfl (by have e0 := ne_toInt h25_0 (i := 0) (by decide); have e1 := ne_toInt h25_1 (i := 1) (by decide); have e2 := ne_toInt h25_2 (i := 2) (by decide); omega) (by decide) ?_
        refine aw_aload_n rfl rfl ?_
        refine aw_aload_n rfl rfl ?_
        refine aw_iload_n rfl rfl ?_
        refine aw_iV (q0 := 39) (ci := 12) rfl cw_X12_379 rfl rfl rfl (c_m_isShut_53 hb) rfl rfl (Nat.le_of_ble_eq_true rfl) (by decide) (by decide) (by decide) (by decide) ?_
        exact aw_fz rfl rfl bB_01 (by unfold cStm; rw [if_neg h25_0, if_neg h25_1, if_neg h25_2]) rfl
set_option maxRecDepth 4000 in
theorem c_m_goStep_53 {l : Launch} {g : ag_G} {s : am_S} {n : am_N} {MI : am_S → am_N → Prop} {V : (Nat → Int32) → Int32} {T Q : Nat} (hC : MC l g MI V s n T Q) (hr : rI (s 53) T Q) {R : Nat} (hR : R + 2 < 240) (hc : cStm s (s 53) R = true) : aw_RV l g mi_X12_goStep 103 skM [.ref (g_ad g 39), .ref (g_ad g 53), .int (nI R)] s n MI (upR s 53 (gSt V s T Q (s 53) R)) := by
  have hT := hC.1.2.1
  have hQ := hC.1.2.2.2.1
  have hb := hC.1
  obtain ⟨hr, G, hG, hGe⟩ := hr
  have hcG : cl (s 53 36) = G := by rw [hGe]; exact cl_nI (by omega)
  have hMI : ∀ f, MI (upR s 53 f) n := fun f => hC.2.1.2.2.1 s _ n n hC.2.2.1 rfl rfl rfl rfl rfl rfl
  refine aw_RV_of mo_X12_goStep (by decide) (Nat.le_of_ble_eq_true rfl) ?_
  refine aw_aload_n rfl rfl ?_
  refine pg_39_24 rfl kl_X12_55 ?_
  refine aw_iload_n rfl rfl ?_
  refine aw_iconst (v := 1) rfl (by decide) ?_
  refine aw_iadd rfl ?_
  refine pl_50 rfl (nI_add R 1) (by omega) ?_
  refine aw_istore_n rfl (by decide) ?_
  refine aw_aload_n rfl rfl ?_
  refine pg_39_24 rfl kl_X12_55 ?_
  refine aw_iload_n rfl rfl ?_
  refine aw_iconst (v := 2) rfl (by decide) ?_
  refine aw_iadd rfl ?_
  refine pl_50 rfl (nI_add R 2) (by omega) ?_
  refine aw_istore rfl (by decide) ?_
  refine aw_aload_n rfl rfl ?_
  refine pg_39_24 rfl kl_X12_55 ?_
  refine aw_iload_n rfl rfl ?_
  refine pl_50 rfl rfl (by omega) ?_
  refine aw_sw 0 (fun h25_0 => ?_) (fun h25_0 => ?_)
  · refine aw_tabIn (off := 27) (tgt := 52) rfl (by decide) (by decide) (by decide) (by decide) ?_
    refine aw_aload_n rfl rfl ?_
    refine aw_aload_n rfl rfl ?_
    refine aw_rV (q0 := 39) (ci := 12) rfl cw_X12_362 rfl rfl rfl (c_m_goMonth_53 (G := G) hC hr hG hGe) rfl rfl (Nat.le_of_ble_eq_true rfl) (by decide) (by decide) (by decide) (by decide) (fun s1 n1 e1 f1 m1 => ?_)
    refine aw_istore rfl (by decide) ?_
    refine aw_goto (tgt := 89) rfl (by decide) ?_
    first
    | (rw [hq]; exact aw_rvr rfl rfl eo_rf en_rf (hMI _))
    | exact aw_rvr rfl rfl (by rw [show gSt V s T Q (s 53) R = (goM V s T Q G (s 53)).2 from by (unfold gSt; rw [if_pos h25_0, hcG])]; exact e1) f1 m1
  · skip
    refine aw_sw 1 (fun h25_1 => ?_) (fun h25_1 => ?_)
    · refine aw_tabIn (off := 37) (tgt := 62) rfl (by decide) (by decide) (by decide) (by decide) ?_
      unfold cStm at hc
      rw [if_neg h25_0, if_pos h25_1] at hc
      obtain ⟨j, hj, hje⟩ := isTm_nI hb (Bool.and_eq_true_iff.mp (by unfold cSm at hc; exact hc)).1
      have hq : gSt V s T Q (s 53) R = mSeal (s 53) j (s 50 (R + 2)) := by (unfold gSt; rw [if_neg h25_0, if_pos h25_1, hje, cl_nI (by omega)])
      rw [hje]
      refine aw_aload_n rfl rfl ?_
      refine aw_iload_n rfl rfl ?_
      refine aw_iload rfl rfl ?_
      refine aw_vS rfl cw_X12_375 (c_m_seals_53 (j := j) (by omega)) rfl rfl (Nat.le_of_ble_eq_true rfl) (by decide) (by decide) (by decide) (by decide) ?_
      refine aw_goto (tgt := 89) rfl (by decide) ?_
      first
      | (rw [hq]; exact aw_rvr rfl rfl eo_rf en_rf (hMI _))
      | exact aw_rvr rfl rfl (by rw [show gSt V s T Q (s 53) R = (goM V s T Q G (s 53)).2 from by (unfold gSt; rw [if_pos h25_0, hcG])]; exact e1) f1 m1
    · skip
      refine aw_sw 2 (fun h25_2 => ?_) (fun h25_2 => ?_)
      · refine aw_tabIn (off := 47) (tgt := 72) rfl (by decide) (by decide) (by decide) (by decide) ?_
        unfold cStm at hc
        rw [if_neg h25_0, if_neg h25_1, if_pos h25_2] at hc
        unfold cPm shm at hc
        simp only [Bool.and_eq_true] at hc
        obtain ⟨j, hj, hje⟩ := isTm_nI hb hc.1.1
        obtain ⟨r, hr1, hre⟩ := isRm_nI hb hc.2.1
        have hq : gSt V s T Q (s 53) R = (mPry (s 53) j r).2 := by (unfold gSt; rw [if_neg h25_0, if_neg h25_1, if_pos h25_2, hje, hre, cl_nI (by omega), cl_nI (by omega)])
        rw [hje, hre]
        refine aw_aload_n rfl rfl ?_
        refine aw_iload_n rfl rfl ?_
        refine aw_iload rfl rfl ?_
        refine aw_iS rfl cw_X12_392 (c_m_pries_53 (j := j) (r := r) (by omega) (by omega)) rfl rfl (Nat.le_of_ble_eq_true rfl) (by decide) (by decide) (by decide) (by decide) ?_
        refine aw_istore rfl (by decide) ?_
        refine aw_goto (tgt := 89) rfl (by decide) ?_
        first
        | (rw [hq]; exact aw_rvr rfl rfl eo_rf en_rf (hMI _))
        | exact aw_rvr rfl rfl (by rw [show gSt V s T Q (s 53) R = (goM V s T Q G (s 53)).2 from by (unfold gSt; rw [if_pos h25_0, hcG])]; exact e1) f1 m1
      · skip
        refine aw_tabOut (tgt := 84) rfl (by have e0 := ne_toInt h25_0 (i := 0) (by decide); have e1 := ne_toInt h25_1 (i := 1) (by decide); have e2 := ne_toInt h25_2 (i := 2) (by decide); omega) (by decide) ?_
        unfold cStm at hc
        rw [if_neg h25_0, if_neg h25_1, if_neg h25_2] at hc
        unfold shm at hc
        simp only [Bool.and_eq_true] at hc
        obtain ⟨j, hj, hje⟩ := isTm_nI hb hc.1
        have hq : gSt V s T Q (s 53) R = mOpen (s 53) j := by (unfold gSt; rw [if_neg h25_0, if_neg h25_1, if_neg h25_2, hje, cl_nI (by omega)])
        rw [hje]
        refine aw_aload_n rfl rfl ?_
        refine aw_iload_n rfl rfl ?_
        refine aw_vS rfl cw_X12_382 (c_m_opens_53 (j := j) (by omega)) rfl rfl (Nat.le_of_ble_eq_true rfl) (by decide) (by decide) (by decide) (by decide) ?_
        first
        | (rw [hq]; exact aw_rvr rfl rfl eo_rf en_rf (hMI _))
        | exact aw_rvr rfl rfl (by rw [show gSt V s T Q (s 53) R = (goM V s T Q G (s 53)).2 from by (unfold gSt; rw [if_pos h25_0, hcG])]; exact e1) f1 m1
