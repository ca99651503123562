/-- how much wax lies on a thing -/
def vb (s : am_S) (T : Nat) : Prop := ∀ j, j < T → ∃ D, D ≤ 9 ∧ s 16 (12 + j) = nI D
theorem vb_eo {s s' : am_S} {T : Nat} (h : vb s T) (e : eo skC s s') : vb s' T := fun j hj => by
  obtain ⟨D, h1, h2⟩ := h j hj
  exact ⟨D, h1, by rw [e 16 _ rfl]; exact h2⟩
theorem vb_eF {s s' : am_S} {T : Nat} (h : vb s T) (e : eo skF s s') : vb s' T := fun j hj => by
  obtain ⟨D, h1, h2⟩ := h j hj
  exact ⟨D, h1, by rw [e 16 _ rfl]; exact h2⟩
def on : Option Nat → Int32
  | none => -1
  | some i => nI i
def mU (V : (Nat → Int32) → Int32) (s : am_S) (j : Nat) (h w : Int32) (m : Nat) : Int32 := o1 (fs (mlt V s j (s 19 j + h) (s 16 (12 + j) + w) (s 16 (5 + j))) 0 (min m 12))
theorem mU_eo {V : (Nat → Int32) → Int32} {s s' : am_S} (e : eo skC s s') {j : Nat} {h w : Int32} {m : Nat} : mU V s' j h w m = mU V s j h w m := by unfold mU; rw [mlt_eo e, e 19 j rfl, e 16 _ rfl, e 16 _ rfl]
theorem mU_eF {V : (Nat → Int32) → Int32} {s s' : am_S} (e : eo skF s s') {j : Nat} {h w : Int32} {m : Nat} : mU V s' j h w m = mU V s j h w m := by unfold mU; rw [mlt_eF e, e 19 j rfl, e 16 _ rfl, e 16 _ rfl]
def mTM (V : (Nat → Int32) → Int32) (s : am_S) (j : Nat) : Int32 := if sl s (nI j) = true then (if mU V s j 0 0 60 = 0 then -1 else mU V s j 0 0 60) else 0
/-- the wax that a thing needs -/
def wN (V : (Nat → Int32) → Int32) (s : am_S) (j m : Nat) : Int32 := if sl s (nI j) = true then on (fs (fun e => decide (mU V s j 0 (nI e) m = 0)) 0 (10 - cl (s 16 (12 + j)))) else 0
theorem wN_eo {V : (Nat → Int32) → Int32} {s s' : am_S} (e : eo skC s s') {j m : Nat} : wN V s' j m = wN V s j m := by
  unfold wN
  rw [sl_eo e, e 16 _ rfl]
  simp only [mU_eo e]
theorem wN_eF {V : (Nat → Int32) → Int32} {s s' : am_S} (e : eo skF s s') {j m : Nat} : wN V s' j m = wN V s j m := by
  unfold wN
  rw [sl_eF e, e 16 _ rfl]
  simp only [mU_eF e]
def hB (V : (Nat → Int32) → Int32) (s : am_S) (j m : Nat) : Int32 := on (fs (fun e => decide (mU V s j (nI e) 0 m = 0)) 0 41)

set_option maxRecDepth 4000 in
theorem c_X3_meltsUnder {l : Launch} {g : ag_G} {s : am_S} {n : am_N} {j m : Nat} {h w : Int32} {T Q : Nat} (hb : kb s T Q) (hj : j < T) (hm : m < 2 ^ 31) {V : (Nat → Int32) → Int32} (hV : LawIs l g s n V) : aw_E l g mi_X3_meltsUnder 5 skC [.ref (g_ad g 27), .int (nI j), .int h, .int w, .int (nI m)] s n (.int (mU V s j h w m)) := by
  have hT := hb.2.1
  refine aw_E_of mo_X3_meltsUnder (by decide) (Nat.le_of_ble_eq_true rfl) ?_
  refine aw_aload_n rfl rfl ?_
  refine pg_27_0 rfl kl_X3_26 ?_
  refine pg_15_1 rfl kl_X3_38 ?_
  refine aw_bipush (v := 12) rfl (by decide) ?_
  refine aw_iload_n rfl rfl ?_
  refine aw_iadd rfl ?_
  refine pl_16 rfl (iL 12 j rfl) (by omega) ?_
  refine aw_iload_n rfl rfl ?_
  refine aw_iadd rfl ?_
  refine aw_istore rfl (by decide) ?_
  refine aw_aload_n rfl rfl ?_
  refine pg_27_0 rfl kl_X3_26 ?_
  refine aw_iload_n rfl rfl ?_
  refine aw_aload_n rfl rfl ?_
  refine pg_27_0 rfl kl_X3_26 ?_
  refine pg_15_4 rfl kl_X3_41 ?_
  refine aw_iload_n rfl rfl ?_
  refine pl_19 rfl rfl (by omega) ?_
  refine aw_iload_n rfl rfl ?_
  refine aw_iadd rfl ?_
  refine aw_iload rfl rfl ?_
  refine aw_aload_n rfl rfl ?_
  refine pg_27_0 rfl kl_X3_26 ?_
  refine pg_15_1 rfl kl_X3_38 ?_
  refine aw_iconst (v := 5) rfl (by decide) ?_
  refine aw_iload_n rfl rfl ?_
  refine aw_iadd rfl ?_
  refine pl_16 rfl (iL 5 j rfl) (by omega) ?_
  refine aw_iload rfl rfl ?_
  refine aw_eV (q0 := 15) (ci := 8) rfl cw_X3_44 rfl rfl rfl (c_X8_meltsIn hb hj hm hV) rfl rfl (Nat.le_of_ble_eq_true rfl) (by decide) (by decide) (by decide) (by decide) (fun s1 e1 => ?_)
  exact aw_ei rfl rfl rfl e1
set_option maxRecDepth 4000 in
theorem c_X3_monthsTillMelt {l : Launch} {g : ag_G} {s : am_S} {n : am_N} {j : Nat} {T Q : Nat} (hb : kb s T Q) (hj : j < T) {V : (Nat → Int32) → Int32} (hV : LawIs l g s n V) : aw_E l g mi_X3_monthsTillMelt 6 skC [.ref (g_ad g 27), .int (nI j)] s n (.int (mTM V s j)) := by
  refine aw_E_of mo_X3_monthsTillMelt (by decide) (Nat.le_of_ble_eq_true rfl) ?_
  refine aw_aload_n rfl rfl ?_
  refine pg_27_0 rfl kl_X3_26 ?_
  refine aw_iload_n rfl rfl ?_
  refine aw_iV (q0 := 15) (ci := 8) rfl cw_X3_30 rfl rfl rfl (c_X8_isSealed hb) rfl rfl (Nat.le_of_ble_eq_true rfl) (by decide) (by decide) (by decide) (by decide) ?_
  refine aw_if_ne (tgt := 13) rfl (by decide) (fun h8 => ?_) (fun h8 => ?_)
  · refine aw_aload_n rfl rfl ?_
    refine aw_iload_n rfl rfl ?_
    refine aw_iconst (v := 0) rfl (by decide) ?_
    refine aw_iconst (v := 0) rfl (by decide) ?_
    refine aw_bipush (v := 60) rfl (by decide) ?_
    refine aw_eV (q0 := 27) (ci := 3) rfl cw_X3_34 rfl rfl rfl (c_X3_meltsUnder (m := 60) hb hj (by decide) hV) rfl rfl (Nat.le_of_ble_eq_true rfl) (by decide) (by decide) (by decide) (by decide) (fun s1 e1 => ?_)
    refine aw_istore_n rfl (by decide) ?_
    refine aw_iload_n rfl rfl ?_
    refine aw_if_ne (tgt := 31) rfl (by decide) (fun h24 => ?_) (fun h24 => ?_)
    · refine aw_iload_n rfl rfl ?_
      exact aw_ei rfl rfl (by simp [mTM, bB_n0.mp h8, h24]) e1
    · refine aw_iconst (v := -1) rfl (by decide) ?_
      refine aw_goto (tgt := 32) rfl (by decide) ?_
      exact aw_ei rfl rfl (by simp [mTM, bB_n0.mp h8, h24]) e1
  · refine aw_iconst (v := 0) rfl (by decide) ?_
    exact aw_ei rfl rfl (by simp [mTM, bB_0.mp (by simpa using h8)]) eo_rf
set_option maxRecDepth 4000 in
theorem c_X3_waxNeeded {l : Launch} {g : ag_G} {s : am_S} {n : am_N} {j m : Nat} {T Q : Nat} (hb : kb s T Q) (hj : j < T) (hm : m < 2 ^ 31) (hvb : vb s T) {V : (Nat → Int32) → Int32} (hV : LawIs l g s n V) : aw_E l g mi_X3_waxNeeded 6 skC [.ref (g_ad g 27), .int (nI j), .int (nI m)] s n (.int (wN V s j m)) := by
  have hT := hb.2.1
  obtain ⟨D, hD9, hD⟩ := hvb j hj
  have hcD : cl (nI D) = D := cl_nI (by omega)
  refine aw_E_of mo_X3_waxNeeded (by decide) (Nat.le_of_ble_eq_true rfl) ?_
  refine aw_aload_n rfl rfl ?_
  refine pg_27_0 rfl kl_X3_26 ?_
  refine aw_iload_n rfl rfl ?_
  refine aw_iV (q0 := 15) (ci := 8) rfl cw_X3_30 rfl rfl rfl (c_X8_isSealed hb) rfl rfl (Nat.le_of_ble_eq_true rfl) (by decide) (by decide) (by decide) (by decide) ?_
  refine aw_if_ne (tgt := 13) rfl (by decide) (fun h8 => ?_) (fun h8 => ?_)
  · rw [show wN V s j m = on (fs (fun e => decide (mU V s j 0 (nI e) m = 0)) 0 (10 - D)) from by (unfold wN; rw [if_pos (bB_n0.mp h8), hD, hcD])]
    generalize hXX : fs (fun e => decide (mU V s j 0 (nI e) m = 0)) 0 (10 - D) = X
    have loop : ∀ (d i : Nat) (s1 : am_S), eo skC s s1 → i + d = 10 - D → fs (fun e => decide (mU V s j 0 (nI e) m = 0)) i d = X → aw_W l g mi_X3_waxNeeded (aw_rm 6 0 0) (aw_Z g (fun r w => ∃ s', r = some (.int (on X)) ∧ w = hp g s' n ∧ eo skC s s') 0 0) 0 0 (hp g s1 n) 32 [some (.ref (g_ad g 27)), some (.int (nI j)), some (.int (nI m)), some (.int (nI (9 - D))), some (.int (nI i))] [] := by
      intro d
      induction d with
      | zero =>
        intro i s1 e1 hi hX
        refine aw_iload rfl rfl ?_
        refine aw_iload_n rfl rfl ?_
        refine aw_icmp_gt (tgt := 59) rfl (by decide) (fun h35 => ?_) (fun h35 => absurd (by exact nI_lt (by omega) (by omega)) h35)
        refine aw_iconst (v := -1) rfl (by decide) ?_
        exact aw_ei rfl rfl (by rw [← hX]; rfl) e1
      | succ d ih =>
        intro i s1 e1 hi hX
        refine aw_iload rfl rfl ?_
        refine aw_iload_n rfl rfl ?_
        refine aw_icmp_gt (tgt := 59) rfl (by decide) (fun h35 => absurd h35 (by exact nI_nlt (by omega) (by omega))) (fun h35 => ?_)
        refine aw_aload_n rfl rfl ?_
        refine aw_iload_n rfl rfl ?_
        refine aw_iconst (v := 0) rfl (by decide) ?_
        refine aw_iload rfl rfl ?_
        refine aw_iload_n rfl rfl ?_
        refine aw_eV (q0 := 27) (ci := 3) rfl cw_X3_34 rfl rfl rfl (c_X3_meltsUnder (kb_eo hb e1) hj hm (hV.eC e1)) rfl rfl (Nat.le_of_ble_eq_true rfl) (by decide) (by decide) (by decide) (by decide) (fun s2 e2 => ?_)
        refine aw_if_ne (tgt := 53) rfl (by decide) (fun h47 => ?_) (fun h47 => ?_)
        · refine aw_inc1 rfl rfl (by decide) ?_
          refine aw_goto (tgt := 32) rfl (by decide) ?_
          refine aw_wk (ih (i + 1) s2 (eo_tr e1 e2) (by omega) ?_) (And.intro rfl (And.intro rfl (And.intro rfl (And.intro rfl (And.intro (congrArg (fun x => some (Value.int x)) (nI_1 i)) True.intro)))))
          rw [mU_eo e1] at h47; rw [← hX]; simp only [fs]; rw [if_neg (by simpa using h47)]
        · refine aw_iload rfl rfl ?_
          exact aw_ei rfl rfl (by rw [← hX]; simp only [fs]; rw [mU_eo e1] at h47; rw [if_pos (by simpa using h47)]; rfl) (eo_tr e1 e2)
    refine aw_bipush (v := 9) rfl (by decide) ?_
    refine aw_aload_n rfl rfl ?_
    refine pg_27_0 rfl kl_X3_26 ?_
    refine pg_15_1 rfl kl_X3_38 ?_
    refine aw_bipush (v := 12) rfl (by decide) ?_
    refine aw_iload_n rfl rfl ?_
    refine aw_iadd rfl ?_
    refine pl_16 rfl (iL 12 j rfl) (by omega) ?_
    refine aw_isub rfl ?_
    rw [hD, show (9 : Int32) - nI D = nI (9 - D) from pk_sub (a := 9) (by omega)]
    refine aw_istore_n rfl (by decide) ?_
    refine aw_iconst (v := 0) rfl (by decide) ?_
    refine aw_istore rfl (by decide) ?_
    refine aw_wk (loop (10 - D) 0 s eo_rf (by omega) hXX) (And.intro rfl (And.intro rfl (And.intro rfl (And.intro rfl (And.intro rfl True.intro)))))
  · refine aw_iconst (v := 0) rfl (by decide) ?_
    exact aw_ei rfl rfl (by simp [wN, bB_0.mp (by simpa using h8)]) eo_rf
set_option maxRecDepth 4000 in
theorem c_X3_harderBy {l : Launch} {g : ag_G} {s : am_S} {n : am_N} {j m : Nat} {T Q : Nat} (hb : kb s T Q) (hj : j < T) (hm : m < 2 ^ 31) {V : (Nat → Int32) → Int32} (hV : LawIs l g s n V) : aw_E l g mi_X3_harderBy 6 skC [.ref (g_ad g 27), .int (nI j), .int (nI m)] s n (.int (hB V s j m)) := by
  unfold hB
  generalize hXX : fs (fun e => decide (mU V s j (nI e) 0 m = 0)) 0 41 = X
  have loop : ∀ (d i : Nat) (s1 : am_S), eo skC s s1 → i + d = 41 → fs (fun e => decide (mU V s j (nI e) 0 m = 0)) i d = X → aw_W l g mi_X3_harderBy (aw_rm 6 0 0) (aw_Z g (fun r w => ∃ s', r = some (.int (on X)) ∧ w = hp g s' n ∧ eo skC s s') 0 0) 0 0 (hp g s1 n) 2 [some (.ref (g_ad g 27)), some (.int (nI j)), some (.int (nI m)), some (.int (nI i))] [] := by
    intro d
    induction d with
    | zero =>
      intro i s1 e1 hi hX
      refine aw_iload_n rfl rfl ?_
      refine aw_bipush (v := 40) rfl (by decide) ?_
      refine aw_icmp_gt (tgt := 27) rfl (by decide) (fun h5 => ?_) (fun h5 => absurd (by exact nI_lt (a := 40) (by omega) (by omega)) h5)
      refine aw_iconst (v := -1) rfl (by decide) ?_
      exact aw_ei rfl rfl (by rw [← hX]; rfl) e1
    | succ d ih =>
      intro i s1 e1 hi hX
      refine aw_iload_n rfl rfl ?_
      refine aw_bipush (v := 40) rfl (by decide) ?_
      refine aw_icmp_gt (tgt := 27) rfl (by decide) (fun h5 => absurd h5 (by exact nI_nlt (b := i) (a := 40) (by omega) (by omega))) (fun h5 => ?_)
      refine aw_aload_n rfl rfl ?_
      refine aw_iload_n rfl rfl ?_
      refine aw_iload_n rfl rfl ?_
      refine aw_iconst (v := 0) rfl (by decide) ?_
      refine aw_iload_n rfl rfl ?_
      refine aw_eV (q0 := 27) (ci := 3) rfl cw_X3_34 rfl rfl rfl (c_X3_meltsUnder (kb_eo hb e1) hj hm (hV.eC e1)) rfl rfl (Nat.le_of_ble_eq_true rfl) (by decide) (by decide) (by decide) (by decide) (fun s2 e2 => ?_)
      refine aw_if_ne (tgt := 21) rfl (by decide) (fun h16 => ?_) (fun h16 => ?_)
      · refine aw_inc1 rfl rfl (by decide) ?_
        refine aw_goto (tgt := 2) rfl (by decide) ?_
        refine aw_wk (ih (i + 1) s2 (eo_tr e1 e2) (by omega) ?_) (And.intro rfl (And.intro rfl (And.intro rfl (And.intro (congrArg (fun x => some (Value.int x)) (nI_1 i)) True.intro))))
        rw [mU_eo e1] at h16; rw [← hX]; simp only [fs]; rw [if_neg (by simpa using h16)]
      · refine aw_iload_n rfl rfl ?_
        exact aw_ei rfl rfl (by rw [← hX]; simp only [fs]; rw [mU_eo e1] at h16; rw [if_pos (by simpa using h16)]; rfl) (eo_tr e1 e2)
  refine aw_E_of mo_X3_harderBy (by decide) (Nat.le_of_ble_eq_true rfl) ?_
  refine aw_iconst (v := 0) rfl (by decide) ?_
  refine aw_istore_n rfl (by decide) ?_
  refine aw_wk (loop 41 0 s eo_rf (by omega) hXX) (And.intro rfl (And.intro rfl (And.intro rfl (And.intro rfl True.intro))))
