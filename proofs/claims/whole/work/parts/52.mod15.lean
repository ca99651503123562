/-! the reference: run, perform, years -/
theorem cStm_c {s s' : am_S} (h50 : s' 50 = s 50) (h46 : s' 46 = s 46) (h26 : s' 39 26 = s 39 26) (h27 : s' 39 27 = s 39 27) : cStm s' = cStm s := by
  funext f R
  unfold cStm cSm cPm shm isTm isRm
  rw [h50, h46, h26, h27]
theorem cPm_c {s s' : am_S} (h46 : s' 46 = s 46) (h26 : s' 39 26 = s 39 26) (h27 : s' 39 27 = s 39 27) : cPm s' = cPm s := by
  funext f t r
  unfold cPm shm isTm isRm
  rw [h46, h26, h27]
theorem gmM_c {V : (Nat → Int32) → Int32} {s s' : am_S} (h46 : s' 46 = s 46) : gmM V s' = gmM V s := by
  funext f
  unfold gmM
  rw [hnm_c h46]
theorem goM_c {V : (Nat → Int32) → Int32} {s s' : am_S} (h46 : s' 46 = s 46) (h44 : s' 44 = s 44) : goM V s' = goM V s := by
  funext T Q G f
  unfold goM
  rw [gmM_c h46, h46, h44]
theorem gSt_c {V : (Nat → Int32) → Int32} {s s' : am_S} (h50 : s' 50 = s 50) (h46 : s' 46 = s 46) (h44 : s' 44 = s 44) : gSt V s' = gSt V s := by
  funext T Q f R
  unfold gSt
  rw [goM_c h46 h44, h50]
theorem eo_R53 {s s1 : am_S} {f : Nat → Int32} (e : eo skM (upR s 53 f) s1) : eo skN s s1 := by
  intro k j h
  have h2 : skM k j = false := by unfold skN at h; exact (Bool.or_eq_false_iff.mp h).1
  rw [e k j h2]
  unfold upR
  cases hb : Nat.beq k 53 with
  | true =>
    rw [Nat.eq_of_beq_eq_true hb] at h
    exact absurd h (by show ¬ true = false; decide)
  | false => rfl
theorem eo_mRem {s s1 : am_S} {a : Nat} (e : eo skM s s1) : eo skM (mRem s a) (mRem s1 a) := by
  unfold mRem
  rw [eo_cell e 56 (fun _ => rfl), eo_cell e 52 (fun _ => rfl)]
  exact eo_up2 (eo_upR3 e) rfl
theorem stR (k i : Nat) : (3 : Int32) * (16 * nI k + nI i) = nI (3 * (16 * k + i)) := by
  rw [show (16 : Int32) * nI k = nI (16 * k) from pk_mul 16 k, nI_add]
  exact pk_mul 3 _
def rnL (V : (Nat → Int32) → Int32) (s : am_S) (T Q k : Nat) : Nat → Nat → (Nat → Int32) → Nat × (Nat → Int32)
  | 0, i, f => (i, f)
  | d + 1, i, f => if cStm s f (3 * (16 * k + i)) = true then rnL V s T Q k d (i + 1) (gSt V s T Q f (3 * (16 * k + i))) else (i, f)
def pfL (V : (Nat → Int32) → Int32) (T Q k : Nat) : Nat → Nat → am_S → Nat × am_S
  | 0, i, s => (i, s)
  | d + 1, i, s => if cStm s (s 52) (3 * (16 * k + i)) = true then pfL V T Q k d (i + 1) (upR (mRem s (cl (s 39 39))) 52 (gSt V s T Q (s 52) (3 * (16 * k + i)))) else (i, s)
def m_run (V : (Nat → Int32) → Int32) (s : am_S) (T Q : Nat) (k x : Int32) : Int32 := if isPm s k = true then (if s 39 26 = 0 then -1000000 else if inn x.toInt64 0 1 = true then (fun z : Nat × (Nat → Int32) => if x = 1 then z.2 33 - s 52 33 else if nI z.1 = s 51 (cl k) then -1 else nI z.1) (rnL V s T Q (cl k) (cl (s 51 (cl k))) 0 (upd (va_cpy (s 52) (s 53) 0 0 36) 36 0)) else -1000000) else -1000000
def m_perform (V : (Nat → Int32) → Int32) (s : am_S) (T Q : Nat) (k : Int32) : Int32 × am_S := if isPm s k = true then (if s 39 26 = 0 then (-1, s) else (fun z : Nat × am_S => (nI z.1, z.2)) (pfL V T Q (cl k) (cl (s 51 (cl k))) 0 s)) else (-1, s)
set_option maxRecDepth 4000 in
theorem c_m_run {l : Launch} {g : ag_G} {s : am_S} {n : am_N} {MI : am_S → am_N → Prop} {V : (Nat → Int32) → Int32} {T Q : Nat} (hC : MC l g MI V s n T Q) (hr : rI (s 52) T Q) {k x : Int32} {P : Nat} (hp' : s 39 30 = nI P) (hP : P ≤ 4) (hl : ∀ q, q < P → ∃ L, L ≤ 16 ∧ s 51 q = nI L) : aw_R l g mi_X12_run 104 skN [.ref (g_ad g 39), .int k, .int x] s n MI (.int (m_run V (up s 39 0 0) T Q k x)) ((up s 39 0 0)) := by
  refine aw_R_of mo_X12_run (by decide) (Nat.le_of_ble_eq_true rfl) ?_
  refine aw_aload_n rfl rfl ?_
  refine aw_iconst (v := 0) rfl (by decide) ?_
  refine pp_39_0 rfl kl_X12_96 ?_
  have hC : MC l g MI V (up s 39 0 0) n T Q := hC.z0
  have hr : rI ((up s 39 0 0) 52) T Q := hr
  have hp' : (up s 39 0 0) 39 30 = nI P := hp'
  have hl : ∀ q, q < P → ∃ L, L ≤ 16 ∧ (up s 39 0 0) 51 q = nI L := hl
  generalize up s 39 0 0 = S at *
  have hT := hC.1.2.1
  have loop : ∀ (X : Int32) (kk L : Nat), kk < 4 → L ≤ 16 → S 51 kk = nI L → ∀ (Z : Nat × (Nat → Int32)), (if x = 1 then Z.2 33 - S 52 33 else if nI Z.1 = S 51 kk then -1 else nI Z.1) = X → ∀ (d i : Nat) (f : Nat → Int32) (s1 : am_S) (n1 : am_N), i + d = L → rI f T Q → eo skM (upR S 53 f) s1 → en n n1 → MI s1 n1 → rnL V S T Q kk d i f = Z → aw_W l g mi_X12_run (aw_rm 104 0 0) (aw_Z g (fun r w => ∃ s' n', r = some (.int X) ∧ w = hp g s' n' ∧ eo skN S s' ∧ en n n' ∧ MI s' n') 0 0) 0 0 (hp g s1 n1) 47 [some (.ref (g_ad g 39)), some (.int (nI kk)), some (.int x), some (.int (nI i))] [] := by
    intro X kk L hk hL hLe Z hZ d
    induction d with
    | zero =>
      intro i f s1 n1 hi hf e1 f1 m1 hX
      have h51 : s1 51 kk = nI L := (e1 51 kk rfl).trans hLe
      simp only [rnL] at hX
      subst hX
      have h53 : s1 53 = f := eo_cell e1 53 (fun _ => rfl)
      have h52 : s1 52 = S 52 := eo_cell e1 52 (fun _ => rfl)
      have hXe : (if x = 1 then f 33 - S 52 33 else if nI i = S 51 kk then -1 else nI i) = X := hZ
      refine aw_iload_n rfl rfl ?_
      refine aw_aload_n rfl rfl ?_
      refine pg_39_25 rfl kl_X12_58 ?_
      refine aw_iload_n rfl rfl ?_
      refine pl_51 rfl rfl (by omega) ?_
      refine aw_icmp_ge (tgt := 98) rfl (by decide) (fun h54 => ?_) (fun h54 => absurd (by rw [h51]; exact nI_le (by omega) (by omega)) h54)
      refine aw_iload_n rfl rfl ?_
      refine aw_iconst (v := 1) rfl (by decide) ?_
      refine aw_icmp_ne (tgt := 119) rfl (by decide) (fun h100 => ?_) (fun h100 => ?_)
      · refine aw_iload_n rfl rfl ?_
        refine aw_aload_n rfl rfl ?_
        refine pg_39_25 rfl kl_X12_58 ?_
        refine aw_iload_n rfl rfl ?_
        refine pl_51 rfl rfl (by omega) ?_
        refine aw_icmp_ne (tgt := 133) rfl (by decide) (fun h126 => ?_) (fun h126 => ?_)
        · refine aw_iload_n rfl rfl ?_
          first
          | exact aw_ri rfl rfl (by rw [← hXe, if_neg h100, if_pos (by rw [hLe, ← h51]; exact h126)]) (eo_R53 e1) f1 m1
          | exact aw_ri rfl rfl (by rw [← hXe, if_neg h100, if_neg (by rw [hLe, ← h51]; exact h126)]) (eo_R53 e1) f1 m1
        · refine aw_iconst (v := -1) rfl (by decide) ?_
          refine aw_goto (tgt := 134) rfl (by decide) ?_
          first
          | exact aw_ri rfl rfl (by rw [← hXe, if_neg h100, if_pos (by rw [hLe, ← h51]; exact h126)]) (eo_R53 e1) f1 m1
          | exact aw_ri rfl rfl (by rw [← hXe, if_neg h100, if_neg (by rw [hLe, ← h51]; exact h126)]) (eo_R53 e1) f1 m1
      · refine aw_aload_n rfl rfl ?_
        refine pg_39_33 rfl kl_X12_64 ?_
        refine aw_bipush (v := 33) rfl (by decide) ?_
        refine pl_53 (j := 33) rfl rfl (by decide) ?_
        refine aw_aload_n rfl rfl ?_
        refine pg_39_32 rfl kl_X12_61 ?_
        refine aw_bipush (v := 33) rfl (by decide) ?_
        refine pl_52 (j := 33) rfl rfl (by decide) ?_
        refine aw_isub rfl ?_
        exact aw_ri rfl rfl (by rw [← hXe, if_pos h100, h53, h52]) (eo_R53 e1) f1 m1
    | succ d ih =>
      intro i f s1 n1 hi hf e1 f1 m1 hX
      have h51 : s1 51 kk = nI L := (e1 51 kk rfl).trans hLe
      have h53 : s1 53 = f := eo_cell e1 53 (fun _ => rfl)
      have h52 : s1 52 = S 52 := eo_cell e1 52 (fun _ => rfl)
      have hC1 : MC l g MI V s1 n1 T Q := MC_eN hC (eo_R53 e1) m1
      have hcc : cStm s1 = cStm S := cStm_c (eo_cell e1 50 (fun _ => rfl)) (eo_cell e1 46 (fun _ => rfl)) (e1 39 26 rfl) (e1 39 27 rfl)
      have hgg : gSt V s1 = gSt V S := gSt_c (eo_cell e1 50 (fun _ => rfl)) (eo_cell e1 46 (fun _ => rfl)) (eo_cell e1 44 (fun _ => rfl))
      simp only [rnL] at hX
      refine aw_iload_n rfl rfl ?_
      refine aw_aload_n rfl rfl ?_
      refine pg_39_25 rfl kl_X12_58 ?_
      refine aw_iload_n rfl rfl ?_
      refine pl_51 rfl rfl (by omega) ?_
      refine aw_icmp_ge (tgt := 98) rfl (by decide) (fun h54 => absurd h54 (by rw [h51]; exact nI_ge (by omega) (by omega))) (fun h54 => ?_)
      refine aw_aload_n rfl rfl ?_
      refine aw_aload_n rfl rfl ?_
      refine pg_39_33 rfl kl_X12_64 ?_
      refine aw_iconst (v := 3) rfl (by decide) ?_
      refine aw_bipush (v := 16) rfl (by decide) ?_
      refine aw_iload_n rfl rfl ?_
      refine aw_imul rfl ?_
      refine aw_iload_n rfl rfl ?_
      refine aw_iadd rfl ?_
      refine aw_imul rfl ?_
      refine aw_iV (q0 := 39) (ci := 12) rfl cw_X12_418 rfl rfl rfl ((show aw_F l g mi_X12_canStep 3 [.ref (g_ad g 39), .ref (g_ad g 53), .int (3 * (16 * nI kk + nI i))] (hp g s1 n1) (.int (bB (cStm S f (3 * (16 * kk + i))))) (hp g s1 n1) from by (rw [stR, ← hcc, ← h53]; exact c_m_canStep_53 hC1.1 (by omega)))) rfl rfl (Nat.le_of_ble_eq_true rfl) (by decide) (by decide) (by decide) (by decide) ?_
      refine aw_if_eq (tgt := 98) rfl (by decide) (fun h73 => ?_) (fun h73 => ?_)
      · rw [if_neg (by rw [bB_0.mp h73]; exact Bool.false_ne_true)] at hX
        subst hX
        have hXe : (if x = 1 then f 33 - S 52 33 else if nI i = S 51 kk then -1 else nI i) = X := hZ
        refine aw_iload_n rfl rfl ?_
        refine aw_iconst (v := 1) rfl (by decide) ?_
        refine aw_icmp_ne (tgt := 119) rfl (by decide) (fun h100 => ?_) (fun h100 => ?_)
        · refine aw_iload_n rfl rfl ?_
          refine aw_aload_n rfl rfl ?_
          refine pg_39_25 rfl kl_X12_58 ?_
          refine aw_iload_n rfl rfl ?_
          refine pl_51 rfl rfl (by omega) ?_
          refine aw_icmp_ne (tgt := 133) rfl (by decide) (fun h126 => ?_) (fun h126 => ?_)
          · refine aw_iload_n rfl rfl ?_
            first
            | exact aw_ri rfl rfl (by rw [← hXe, if_neg h100, if_pos (by rw [hLe, ← h51]; exact h126)]) (eo_R53 e1) f1 m1
            | exact aw_ri rfl rfl (by rw [← hXe, if_neg h100, if_neg (by rw [hLe, ← h51]; exact h126)]) (eo_R53 e1) f1 m1
          · refine aw_iconst (v := -1) rfl (by decide) ?_
            refine aw_goto (tgt := 134) rfl (by decide) ?_
            first
            | exact aw_ri rfl rfl (by rw [← hXe, if_neg h100, if_pos (by rw [hLe, ← h51]; exact h126)]) (eo_R53 e1) f1 m1
            | exact aw_ri rfl rfl (by rw [← hXe, if_neg h100, if_neg (by rw [hLe, ← h51]; exact h126)]) (eo_R53 e1) f1 m1
        · refine aw_aload_n rfl rfl ?_
          refine pg_39_33 rfl kl_X12_64 ?_
          refine aw_bipush (v := 33) rfl (by decide) ?_
          refine pl_53 (j := 33) rfl rfl (by decide) ?_
          refine aw_aload_n rfl rfl ?_
          refine pg_39_32 rfl kl_X12_61 ?_
          refine aw_bipush (v := 33) rfl (by decide) ?_
          refine pl_52 (j := 33) rfl rfl (by decide) ?_
          refine aw_isub rfl ?_
          exact aw_ri rfl rfl (by rw [← hXe, if_pos h100, h53, h52]) (eo_R53 e1) f1 m1
      · rw [if_pos (bB_n0.mp h73)] at hX
        refine aw_aload_n rfl rfl ?_
        refine aw_aload_n rfl rfl ?_
        refine pg_39_33 rfl kl_X12_64 ?_
        refine aw_iconst (v := 3) rfl (by decide) ?_
        refine aw_bipush (v := 16) rfl (by decide) ?_
        refine aw_iload_n rfl rfl ?_
        refine aw_imul rfl ?_
        refine aw_iload_n rfl rfl ?_
        refine aw_iadd rfl ?_
        refine aw_imul rfl ?_
        refine aw_rvV (q0 := 39) (ci := 12) rfl cw_X12_421 rfl rfl rfl ((show aw_RV l g mi_X12_goStep 103 skM [.ref (g_ad g 39), .ref (g_ad g 53), .int (3 * (16 * nI kk + nI i))] s1 n1 MI (upR s1 53 (gSt V S T Q f (3 * (16 * kk + i)))) from by (have z := c_m_goStep_53 (R := (3 * (16 * kk + i))) hC1 (by rw [h53]; exact hf) (by omega) (by rw [hcc, h53]; exact bB_n0.mp h73); rw [hgg, h53] at z; rw [stR]; exact z))) rfl rfl (Nat.le_of_ble_eq_true rfl) (by decide) (by decide) (by decide) (by decide) (fun s2 n2 e2 f2 m2 => ?_)
        refine aw_inc1 rfl rfl (by decide) ?_
        refine aw_goto (tgt := 47) rfl (by decide) ?_
        refine aw_wk (ih (i + 1) _ s2 n2 (by omega) (rI_gSt hC.1 hf (bB_n0.mp h73)) ?_ (en_tr f1 f2) m2 hX) (And.intro rfl (And.intro rfl (And.intro rfl (And.intro (congrArg (fun x => some (Value.int x)) (nI_1 i)) True.intro))))
        have z := eo_upR3 (k := 53) (f := gSt V S T Q f (3 * (16 * kk + i))) e1
        rw [upR_upR] at z
        exact eo_tr z e2
  refine aw_aload_n rfl rfl ?_
  refine aw_iload_n rfl rfl ?_
  refine aw_iV (q0 := 39) (ci := 12) rfl cw_X12_410 rfl rfl rfl (c_m_isPlan) rfl rfl (Nat.le_of_ble_eq_true rfl) (by decide) (by decide) (by decide) (by decide) ?_
  refine aw_if_eq (tgt := 30) rfl (by decide) (fun h10 => ?_) (fun h10 => ?_)
  · refine aw_ldcw (v := -1000000) rfl (aw_t7 227 rfl rfl) ?_
    refine aw_ri rfl rfl ?_ eo_rf en_rf hC.2.2.1
    unfold m_run
    first
      | (rw [if_neg (by rw [bB_0.mp h10]; exact Bool.false_ne_true)]; done)
      | (rw [if_pos q0, if_pos h17]; done)
      | (rw [if_pos q0, if_neg h17, if_neg (by rw [bB_0.mp h27]; exact Bool.false_ne_true)]; done)
      | fail "x"
  · have q0 := bB_n0.mp h10
    obtain ⟨kk, hkk, rfl⟩ := isPm_nI hp' hP q0
    obtain ⟨L, hL, hLe⟩ := hl kk hkk
    have hck : cl (nI kk) = kk := cl_nI (by omega)
    have hcL : cl (S 51 kk) = L := by rw [hLe]; exact cl_nI (by omega)
    refine aw_aload_n rfl rfl ?_
    refine pg_39_26 rfl kl_X12_291 ?_
    refine aw_if_eq (tgt := 30) rfl (by decide) (fun h17 => ?_) (fun h17 => ?_)
    · refine aw_ldcw (v := -1000000) rfl (aw_t7 227 rfl rfl) ?_
      refine aw_ri rfl rfl ?_ eo_rf en_rf hC.2.2.1
      unfold m_run
      first
        | (rw [if_neg (by rw [bB_0.mp h10]; exact Bool.false_ne_true)]; done)
        | (rw [if_pos q0, if_pos h17]; done)
        | (rw [if_pos q0, if_neg h17, if_neg (by rw [bB_0.mp h27]; exact Bool.false_ne_true)]; done)
        | fail "x"
    · refine aw_iload_n rfl rfl ?_
      refine aw_i2l rfl ?_
      refine aw_lconst (v := 0) rfl (by decide) ?_
      refine aw_lconst (v := 1) rfl (by decide) ?_
      refine aw_iS rfl cw_X12_217 (c_m_isIn) rfl rfl (Nat.le_of_ble_eq_true rfl) (by decide) (by decide) (by decide) (by decide) ?_
      refine aw_if_ne (tgt := 34) rfl (by decide) (fun h27 => ?_) (fun h27 => ?_)
      · refine aw_aload_n rfl rfl ?_
        refine pg_39_32 rfl kl_X12_61 ?_
        refine aw_aload_n rfl rfl ?_
        refine pg_39_33 rfl kl_X12_64 ?_
        refine aw_vS rfl cw_X12_414 (c_m_copy) rfl rfl (Nat.le_of_ble_eq_true rfl) (by decide) (by decide) (by decide) (by decide) ?_
        have hrT : rI (upd (va_cpy (S 52) (S 53) 0 0 36) 36 0) T Q := by
          refine ⟨rwb_of hr.1 (fun q hq => ⟨?_, Or.inl ?_⟩) (fun r' hr' => Or.inl ?_) (Or.inl ?_), 0, by omega, upd_s⟩ <;> (rw [upd_n (by omega)]; unfold va_cpy; rw [if_pos (by have := hC.1.2.2.2.1; omega)] <;> (first | (congr 1; done) | (congr 1; omega)))
        refine aw_iconst (v := 0) rfl (by decide) ?_
        refine aw_istore_n rfl (by decide) ?_
        exact aw_wk (loop _ kk L (by omega) hL hLe _ (by unfold m_run; rw [if_pos q0, if_neg h17, if_pos (bB_n0.mp h27), hck, hcL]) L 0 _ _ n (by omega) hrT eo_rf en_rf (hC.2.1.2.2.1 S _ n n hC.2.2.1 rfl rfl rfl rfl rfl rfl) rfl) (And.intro rfl (And.intro rfl (And.intro rfl (And.intro rfl True.intro))))
      · refine aw_ldcw (v := -1000000) rfl (aw_t7 227 rfl rfl) ?_
        refine aw_ri rfl rfl ?_ eo_rf en_rf hC.2.2.1
        unfold m_run
        first
          | (rw [if_neg (by rw [bB_0.mp h10]; exact Bool.false_ne_true)]; done)
          | (rw [if_pos q0, if_pos h17]; done)
          | (rw [if_pos q0, if_neg h17, if_neg (by rw [bB_0.mp h27]; exact Bool.false_ne_true)]; done)
          | fail "x"
set_option maxRecDepth 4000 in
theorem c_m_perform {l : Launch} {g : ag_G} {s : am_S} {n : am_N} {MI : am_S → am_N → Prop} {V : (Nat → Int32) → Int32} {T Q : Nat} (hC : MC l g MI V s n T Q) (hr : rI (s 52) T Q) {k : Int32} {a : Nat} (ha : s 39 39 = nI a) (ha4 : a ≤ 40) {P : Nat} (hp' : s 39 30 = nI P) (hP : P ≤ 4) (hl : ∀ q, q < P → ∃ L, L ≤ 16 ∧ s 51 q = nI L) : aw_R l g mi_X12_perform 104 skM [.ref (g_ad g 39), .int k] s n MI (.int (m_perform V (up s 39 0 0) T Q k).1) ((m_perform V (up s 39 0 0) T Q k).2) := by
  refine aw_R_of mo_X12_perform (by decide) (Nat.le_of_ble_eq_true rfl) ?_
  refine aw_aload_n rfl rfl ?_
  refine aw_iconst (v := 0) rfl (by decide) ?_
  refine pp_39_0 rfl kl_X12_96 ?_
  have hC : MC l g MI V (up s 39 0 0) n T Q := hC.z0
  have hr : rI ((up s 39 0 0) 52) T Q := hr
  have ha : (up s 39 0 0) 39 39 = nI a := ha
  have hp' : (up s 39 0 0) 39 30 = nI P := hp'
  have hl : ∀ q, q < P → ∃ L, L ≤ 16 ∧ (up s 39 0 0) 51 q = nI L := hl
  generalize up s 39 0 0 = S at *
  have hT := hC.1.2.1
  have loop : ∀ (kk L : Nat), kk < 4 → L ≤ 16 → ∀ (Z : Nat × am_S) (d i a : Nat) (s0 s1 : am_S) (n1 : am_N), i + d = L → a ≤ 40 → s0 39 39 = nI a → s0 51 kk = nI L → MC l g MI V s1 n1 T Q → rI (s1 52) T Q → eo skM s0 s1 → en n n1 → pfL V T Q kk d i s0 = Z → aw_W l g mi_X12_perform (aw_rm 104 0 0) (aw_Z g (fun r w => ∃ s' n', r = some (.int (nI Z.1)) ∧ w = hp g s' n' ∧ eo skM Z.2 s' ∧ en n n' ∧ MI s' n') 0 0) 0 0 (hp g s1 n1) 24 [some (.ref (g_ad g 39)), some (.int (nI kk)), some (.int (nI i))] [] := by
    intro kk L hk hL Z d
    induction d with
    | zero =>
      intro i a s0 s1 n1 hi ha4 ha hLe hC1 hr1 e1 f1 hX
      have h51 : s1 51 kk = nI L := (e1 51 kk rfl).trans hLe
      simp only [pfL] at hX
      subst hX
      refine aw_iload_n rfl rfl ?_
      refine aw_aload_n rfl rfl ?_
      refine pg_39_25 rfl kl_X12_58 ?_
      refine aw_iload_n rfl rfl ?_
      refine pl_51 rfl rfl (by omega) ?_
      refine aw_icmp_ge (tgt := 79) rfl (by decide) (fun h31 => ?_) (fun h31 => absurd (by rw [h51]; exact nI_le (by omega) (by omega)) h31)
      refine aw_iload_n rfl rfl ?_
      exact aw_ri rfl rfl rfl e1 f1 hC1.2.2.1
    | succ d ih =>
      intro i a s0 s1 n1 hi ha4 ha hLe hC1 hr1 e1 f1 hX
      have h51 : s1 51 kk = nI L := (e1 51 kk rfl).trans hLe
      have h52 : s1 52 = s0 52 := eo_cell e1 52 (fun _ => rfl)
      have ha1 : s1 39 39 = nI a := (e1 39 39 rfl).trans ha
      have hca : cl (s0 39 39) = a := by rw [ha]; exact cl_nI (by omega)
      have hcc : cStm s1 = cStm s0 := cStm_c (eo_cell e1 50 (fun _ => rfl)) (eo_cell e1 46 (fun _ => rfl)) (e1 39 26 rfl) (e1 39 27 rfl)
      have hgg : gSt V (mRem s1 a) = gSt V s0 := gSt_c (eo_cell e1 50 (fun _ => rfl)) (eo_cell e1 46 (fun _ => rfl)) (eo_cell e1 44 (fun _ => rfl))
      have hcr : cStm (mRem s1 a) = cStm s1 := rfl
      simp only [pfL] at hX
      rw [hca] at hX
      refine aw_iload_n rfl rfl ?_
      refine aw_aload_n rfl rfl ?_
      refine pg_39_25 rfl kl_X12_58 ?_
      refine aw_iload_n rfl rfl ?_
      refine pl_51 rfl rfl (by omega) ?_
      refine aw_icmp_ge (tgt := 79) rfl (by decide) (fun h31 => absurd h31 (by rw [h51]; exact nI_ge (by omega) (by omega))) (fun h31 => ?_)
      refine aw_aload_n rfl rfl ?_
      refine aw_aload_n rfl rfl ?_
      refine pg_39_32 rfl kl_X12_61 ?_
      refine aw_iconst (v := 3) rfl (by decide) ?_
      refine aw_bipush (v := 16) rfl (by decide) ?_
      refine aw_iload_n rfl rfl ?_
      refine aw_imul rfl ?_
      refine aw_iload_n rfl rfl ?_
      refine aw_iadd rfl ?_
      refine aw_imul rfl ?_
      refine aw_iV (q0 := 39) (ci := 12) rfl cw_X12_418 rfl rfl rfl ((show aw_F l g mi_X12_canStep 3 [.ref (g_ad g 39), .ref (g_ad g 52), .int (3 * (16 * nI kk + nI i))] (hp g s1 n1) (.int (bB (cStm s0 (s0 52) (3 * (16 * kk + i))))) (hp g s1 n1) from by (rw [stR, ← hcc, ← h52]; exact c_m_canStep_52 hC1.1 (by omega)))) rfl rfl (Nat.le_of_ble_eq_true rfl) (by decide) (by decide) (by decide) (by decide) ?_
      refine aw_if_eq (tgt := 79) rfl (by decide) (fun h50 => ?_) (fun h50 => ?_)
      · refine aw_iload_n rfl rfl ?_
        exact aw_ri rfl rfl (by rw [if_neg (by rw [bB_0.mp h50]; exact Bool.false_ne_true)] at hX; rw [← hX]) (by rw [if_neg (by rw [bB_0.mp h50]; exact Bool.false_ne_true)] at hX; rw [← hX]; exact e1) f1 hC1.2.2.1
      · rw [if_pos (bB_n0.mp h50)] at hX
        refine aw_aload_n rfl rfl ?_
        refine aw_vV (q0 := 39) (ci := 12) rfl cw_X12_359 rfl rfl rfl (c_m_remember ha1 ha4) rfl rfl (Nat.le_of_ble_eq_true rfl) (by decide) (by decide) (by decide) (by decide) ?_
        refine aw_aload_n rfl rfl ?_
        refine aw_aload_n rfl rfl ?_
        refine pg_39_32 rfl kl_X12_61 ?_
        refine aw_iconst (v := 3) rfl (by decide) ?_
        refine aw_bipush (v := 16) rfl (by decide) ?_
        refine aw_iload_n rfl rfl ?_
        refine aw_imul rfl ?_
        refine aw_iload_n rfl rfl ?_
        refine aw_iadd rfl ?_
        refine aw_imul rfl ?_
        refine aw_rvV (q0 := 39) (ci := 12) rfl cw_X12_421 rfl rfl rfl ((show aw_RV l g mi_X12_goStep 103 skM [.ref (g_ad g 39), .ref (g_ad g 52), .int (3 * (16 * nI kk + nI i))] (mRem s1 a) n1 MI (upR (mRem s1 a) 52 (gSt V s0 T Q (s0 52) (3 * (16 * kk + i)))) from by (have z := c_m_goStep_52 (R := (3 * (16 * kk + i))) (hC1.rem a) hr1 (by omega) (by rw [hcr, hcc]; show cStm s0 (s1 52) _ = true; rw [h52]; exact bB_n0.mp h50); rw [hgg, show mRem s1 a 52 = s0 52 from h52] at z; rw [stR]; exact z))) rfl rfl (Nat.le_of_ble_eq_true rfl) (by decide) (by decide) (by decide) (by decide) (fun s2 n2 e2 f2 m2 => ?_)
        refine aw_inc1 rfl rfl (by decide) ?_
        refine aw_goto (tgt := 24) rfl (by decide) ?_
        have e3 : eo skM (upR (mRem s0 a) 52 (gSt V s0 T Q (s0 52) (3 * (16 * kk + i)))) s2 := eo_tr (eo_upR3 (eo_mRem e1)) e2
        have hC2 : MC l g MI V s2 n2 T Q := MC.eo (s := upR (mRem s1 a) 52 (gSt V s0 T Q (s0 52) (3 * (16 * kk + i)))) ⟨hC1.1, hC1.2.1, hC1.2.1.2.2.1 s1 _ n1 n1 hC1.2.2.1 rfl rfl rfl rfl rfl rfl, hC1.2.2.2⟩ e2 m2
        have hr2 : rI (s2 52) T Q := by
          rw [show s2 52 = gSt V s0 T Q (s0 52) (3 * (16 * kk + i)) from eo_cell e2 52 (fun _ => rfl), ← hgg]
          exact rI_gSt hC1.1 (by rw [← h52]; exact hr1) (by rw [hcr, hcc]; exact bB_n0.mp h50)
        exact aw_wk (ih (i + 1) (min 40 (a + 1)) (upR (mRem s0 a) 52 (gSt V s0 T Q (s0 52) (3 * (16 * kk + i)))) s2 n2 (by omega) (by omega) rfl hLe hC2 hr2 e3 (en_tr f1 f2) hX) (And.intro rfl (And.intro rfl (And.intro (congrArg (fun x => some (Value.int x)) (nI_1 i)) True.intro)))
  refine aw_aload_n rfl rfl ?_
  refine aw_iload_n rfl rfl ?_
  refine aw_iV (q0 := 39) (ci := 12) rfl cw_X12_410 rfl rfl rfl (c_m_isPlan) rfl rfl (Nat.le_of_ble_eq_true rfl) (by decide) (by decide) (by decide) (by decide) ?_
  refine aw_if_eq (tgt := 20) rfl (by decide) (fun h10 => ?_) (fun h10 => ?_)
  · refine aw_iconst (v := -1) rfl (by decide) ?_
    first
      | (rw [show m_perform V S T Q k = (-1, S) from by (unfold m_perform; rw [if_neg (by rw [bB_0.mp h10]; exact Bool.false_ne_true)])]; exact aw_ri rfl rfl rfl eo_rf en_rf hC.2.2.1)
      | (rw [show m_perform V S T Q (nI kk) = (-1, S) from by (unfold m_perform; rw [if_pos q0, if_pos h17])]; exact aw_ri rfl rfl rfl eo_rf en_rf hC.2.2.1)
      | fail "x"
  · have q0 := bB_n0.mp h10
    obtain ⟨kk, hkk, rfl⟩ := isPm_nI hp' hP q0
    obtain ⟨L, hL, hLe⟩ := hl kk hkk
    have hck : cl (nI kk) = kk := cl_nI (by omega)
    have hcL : cl (S 51 kk) = L := by rw [hLe]; exact cl_nI (by omega)
    refine aw_aload_n rfl rfl ?_
    refine pg_39_26 rfl kl_X12_291 ?_
    refine aw_if_ne (tgt := 22) rfl (by decide) (fun h17 => ?_) (fun h17 => ?_)
    · refine aw_iconst (v := 0) rfl (by decide) ?_
      refine aw_istore_n rfl (by decide) ?_
      rw [show m_perform V S T Q (nI kk) = (nI (pfL V T Q kk L 0 S).1, (pfL V T Q kk L 0 S).2) from by (unfold m_perform; rw [if_pos q0, if_neg h17, hck, hcL])]
      exact aw_wk (loop kk L (by omega) hL _ L 0 a S S n (by omega) ha4 ha hLe hC hr eo_rf en_rf rfl) (And.intro rfl (And.intro rfl (And.intro rfl True.intro)))
    · refine aw_iconst (v := -1) rfl (by decide) ?_
      first
        | (rw [show m_perform V S T Q k = (-1, S) from by (unfold m_perform; rw [if_neg (by rw [bB_0.mp h10]; exact Bool.false_ne_true)])]; exact aw_ri rfl rfl rfl eo_rf en_rf hC.2.2.1)
        | (rw [show m_perform V S T Q (nI kk) = (-1, S) from by (unfold m_perform; rw [if_pos q0, if_pos h17])]; exact aw_ri rfl rfl rfl eo_rf en_rf hC.2.2.1)
        | fail "x"
