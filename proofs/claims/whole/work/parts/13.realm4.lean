section AwSw
variable {l : Launch} {g : ag_G} {M : ag_M} {R : Room} {Z : ag_Z} {cells slots : Nat} {ws : va_W} {pc : Nat} {L : List (Option Value)} {st : List Value}
theorem aw_sw {x : Int32} (v : Int32) (k1 : x = v → aw_W l g M R Z cells slots ws pc L (.int v :: st)) (k2 : ¬ x = v → aw_W l g M R Z cells slots ws pc L (.int x :: st)) : aw_W l g M R Z cells slots ws pc L (.int x :: st) := by
  by_cases h : x = v
  · have := k1 h; rw [h]; exact this
  · exact k2 h
end AwSw
theorem mn12 {m : Nat} (hm : m < 2 ^ 31) : (if (12 : Int32) < nI m then (12 : Int32) else nI m) = nI (min m 12) := by
  by_cases h : 12 < m
  · have h1 : (12 : Int32) < nI m := nI_lt (a := 12) (b := m) h hm
    rw [if_pos h1, Nat.min_eq_right (by omega)]; rfl
  · have h1 : ¬ (12 : Int32) < nI m := nI_nlt (a := 12) (b := m) (by omega) (by omega)
    rw [if_neg h1, Nat.min_eq_left (by omega)]
theorem ne_toInt {x v : Int32} {i : Int} (h : ¬ x = v) (e : v.toInt = i) : ¬ x.toInt = i := fun q => h (Int32.toInt_inj.mp (q.trans e.symm))
/-- melts within d months from i on -/
def mlt (V : (Nat → Int32) → Int32) (s : am_S) (j : Nat) (h w su : Int32) (i : Nat) : Bool := decide (hd V s j h w su (s 16 4 + nI i) < warm (s 16 1) (s 16 4 + nI i))
def o1 : Option Nat → Int32
  | none => 0
  | some i => nI i + 1
theorem mlt_eo {V : (Nat → Int32) → Int32} {s s' : am_S} (e : eo skC s s') : mlt V s' = mlt V s := by
  funext j h w su i
  unfold mlt
  rw [hd_eo e, e 16 4 rfl, e 16 1 rfl]
theorem mlt_eF {V : (Nat → Int32) → Int32} {s s' : am_S} (e : eo skF s s') : mlt V s' = mlt V s := by
  funext j h w su i
  unfold mlt
  rw [hd_eF e, e 16 4 rfl, e 16 1 rfl]
def hdN (V : (Nat → Int32) → Int32) (s : am_S) (j : Nat) : Int32 := hd V s j (s 19 j) (s 16 (12 + j)) (s 16 (5 + j)) (s 16 4)
theorem hdN_eo {V : (Nat → Int32) → Int32} {s s' : am_S} (e : eo skC s s') {j : Nat} : hdN V s' j = hdN V s j := by unfold hdN; rw [hd_eo e, e 19 j rfl, e 16 _ rfl, e 16 _ rfl, e 16 _ rfl]
theorem hdN_eF {V : (Nat → Int32) → Int32} {s s' : am_S} (e : eo skF s s') {j : Nat} : hdN V s' j = hdN V s j := by unfold hdN; rw [hd_eF e, e 19 j rfl, e 16 _ rfl, e 16 _ rfl, e 16 _ rfl]
theorem sl_eo {s s' : am_S} (e : eo skC s s') {t : Int32} : sl s' t = sl s t := by unfold sl isT; rw [e 15 6 rfl, e 16 _ rfl]
theorem sl_eF {s s' : am_S} (e : eo skF s s') {t : Int32} : sl s' t = sl s t := by unfold sl isT; rw [e 15 6 rfl, e 16 _ rfl]
set_option maxRecDepth 4000 in
theorem c_X8_holdsAt {l : Launch} {g : ag_G} {s : am_S} {n : am_N} {j : Nat} {h w su time : Int32} {T Q : Nat} (hb : kb s T Q) (hj : j < T) {V : (Nat → Int32) → Int32} (hV : LawIs l g s n V) : aw_E l g mi_X8_holdsAt 3 skC [.ref (g_ad g 15), .int (nI j), .int h, .int w, .int su, .int time] s n (.int (hd V s j h w su time)) := by
  have hT := hb.2.1
  have hQ := hb.2.2.2.1
  obtain ⟨o, ho, hw⟩ := hb.2.2.2.2 j hj
  refine aw_E_of mo_X8_holdsAt (by decide) (Nat.le_of_ble_eq_true rfl) ?_
  refine aw_aload_n rfl rfl ?_
  refine pg_15_0 rfl kl_X8_27 ?_
  refine pg_10_2 rfl kl_X8_80 ?_
  refine aw_iconst (v := 0) rfl (by decide) ?_
  refine aw_iload_n rfl rfl ?_
  refine ps_13 (j := 0) rfl rfl (by decide) ?_
  refine aw_aload_n rfl rfl ?_
  refine pg_15_0 rfl kl_X8_27 ?_
  refine pg_10_2 rfl kl_X8_80 ?_
  refine aw_iconst (v := 1) rfl (by decide) ?_
  refine aw_iload_n rfl rfl ?_
  refine ps_13 (j := 1) rfl rfl (by decide) ?_
  refine aw_aload_n rfl rfl ?_
  refine pg_15_0 rfl kl_X8_27 ?_
  refine pg_10_2 rfl kl_X8_80 ?_
  refine aw_iconst (v := 2) rfl (by decide) ?_
  refine aw_iload rfl rfl ?_
  refine ps_13 (j := 2) rfl rfl (by decide) ?_
  refine aw_aload_n rfl rfl ?_
  refine pg_15_0 rfl kl_X8_27 ?_
  refine pg_10_2 rfl kl_X8_80 ?_
  refine aw_iconst (v := 3) rfl (by decide) ?_
  refine aw_iload rfl rfl ?_
  refine aw_bipush (v := 12) rfl (by decide) ?_
  refine aw_irem rfl (by decide) ?_
  refine ps_13 (j := 3) rfl rfl (by decide) ?_
  refine aw_aload_n rfl rfl ?_
  refine pg_15_0 rfl kl_X8_27 ?_
  refine pg_10_2 rfl kl_X8_80 ?_
  refine aw_iconst (v := 4) rfl (by decide) ?_
  refine aw_aload_n rfl rfl ?_
  refine pg_15_5 rfl kl_X8_24 ?_
  refine aw_iload_n rfl rfl ?_
  refine pl_20 rfl rfl (by omega) ?_
  refine ps_13 (j := 4) rfl rfl (by decide) ?_
  refine aw_aload_n rfl rfl ?_
  refine pg_15_0 rfl kl_X8_27 ?_
  refine pg_10_2 rfl kl_X8_80 ?_
  refine aw_iconst (v := 5) rfl (by decide) ?_
  refine aw_aload_n rfl rfl ?_
  refine pg_15_1 rfl kl_X8_11 ?_
  refine aw_bipush (v := 26) rfl (by decide) ?_
  refine aw_aload_n rfl rfl ?_
  refine pg_15_3 rfl kl_X8_18 ?_
  refine aw_iload_n rfl rfl ?_
  refine pl_18 rfl rfl (by omega) ?_
  refine aw_iadd rfl ?_
  refine pl_16 rfl (by rw [show up (up (up (up (up s 13 0 h) 13 1 w) 13 2 su) 13 3 (time - time / 12 * 12)) 13 4 _ 18 j = s 18 j from rfl, hw]; exact nI_add 26 o) (by omega) ?_
  refine ps_13 (j := 5) rfl rfl (by decide) ?_
  refine aw_iconst (v := 0) rfl (by decide) ?_
  refine aw_bipush (v := 99) rfl (by decide) ?_
  refine aw_aload_n rfl rfl ?_
  refine pg_15_0 rfl kl_X8_27 ?_
  refine aw_eV (q0 := 10) (ci := 6) rfl cw_X8_85 rfl rfl rfl (hV.1 _ (fun _ => rfl)) rfl rfl (Nat.le_of_ble_eq_true rfl) (by decide) (by decide) (by decide) (by decide) (fun s1 e1 => ?_)
  refine aw_mmin rfl km_X8_70 (aw_t2 171 rfl rfl) (aw_t1 18 rfl rfl) (aw_t2 172 rfl rfl) (by decide) (Nat.le_of_ble_eq_true rfl) (by decide) (by decide) ?_
  refine aw_mmax rfl km_X8_89 (aw_t2 168 rfl rfl) (aw_t1 18 rfl rfl) (aw_t2 169 rfl rfl) (by decide) (Nat.le_of_ble_eq_true rfl) (by decide) (by decide) ?_
  exact aw_ei rfl rfl (by unfold hd; rw [hw, cl_nI (show o < 2 ^ 31 by omega)]; refine congrArg mm (hV.2 _ _ (fun i hi => ?_)); rcases i with _ | _ | _ | _ | _ | _ | i <;> first | rfl | omega) (eo_tr (by repeat (first | exact eo_rf | refine eo_up (fun _ => rfl) ?_)) e1)
set_option maxRecDepth 4000 in
theorem c_X8_holdsNow {l : Launch} {g : ag_G} {s : am_S} {n : am_N} {j : Nat} {T Q : Nat} (hb : kb s T Q) (hj : j < T) {V : (Nat → Int32) → Int32} (hV : LawIs l g s n V) : aw_E l g mi_X8_holdsNow 4 skC [.ref (g_ad g 15), .int (nI j)] s n (.int (hdN V s j)) := by
  have hT := hb.2.1
  refine aw_E_of mo_X8_holdsNow (by decide) (Nat.le_of_ble_eq_true rfl) ?_
  refine aw_aload_n rfl rfl ?_
  refine aw_iload_n rfl rfl ?_
  refine aw_aload_n rfl rfl ?_
  refine pg_15_4 rfl kl_X8_21 ?_
  refine aw_iload_n rfl rfl ?_
  refine pl_19 rfl rfl (by omega) ?_
  refine aw_aload_n rfl rfl ?_
  refine pg_15_1 rfl kl_X8_11 ?_
  refine aw_bipush (v := 12) rfl (by decide) ?_
  refine aw_iload_n rfl rfl ?_
  refine aw_iadd rfl ?_
  refine pl_16 rfl (iL 12 j rfl) (by omega) ?_
  refine aw_aload_n rfl rfl ?_
  refine pg_15_1 rfl kl_X8_11 ?_
  refine aw_iconst (v := 5) rfl (by decide) ?_
  refine aw_iload_n rfl rfl ?_
  refine aw_iadd rfl ?_
  refine pl_16 rfl (iL 5 j rfl) (by omega) ?_
  refine aw_aload_n rfl rfl ?_
  refine pg_15_1 rfl kl_X8_11 ?_
  refine aw_iconst (v := 4) rfl (by decide) ?_
  refine pl_16 (j := 4) rfl rfl (by decide) ?_
  refine aw_eV (q0 := 15) (ci := 8) rfl cw_X8_76 rfl rfl rfl (c_X8_holdsAt hb hj hV) rfl rfl (Nat.le_of_ble_eq_true rfl) (by decide) (by decide) (by decide) (by decide) (fun s1 e1 => ?_)
  exact aw_ei rfl rfl rfl e1
set_option maxRecDepth 4000 in
theorem c_X8_meltsIn {l : Launch} {g : ag_G} {s : am_S} {n : am_N} {j m : Nat} {h w su : Int32} {T Q : Nat} (hb : kb s T Q) (hj : j < T) (hm : m < 2 ^ 31) {V : (Nat → Int32) → Int32} (hV : LawIs l g s n V) : aw_E l g mi_X8_meltsIn 4 skC [.ref (g_ad g 15), .int (nI j), .int h, .int w, .int su, .int (nI m)] s n (.int (o1 (fs (mlt V s j h w su) 0 (min m 12)))) := by
  have hN : min m 12 ≤ 12 := Nat.min_le_right _ _
  generalize hXX : fs (mlt V s j h w su) 0 (min m 12) = X
  have loop : ∀ (d i : Nat) (s1 : am_S), eo skC s s1 → i + d = min m 12 → fs (mlt V s j h w su) i d = X → aw_W l g mi_X8_meltsIn (aw_rm 4 0 0) (aw_Z g (fun r w => ∃ s', r = some (.int (o1 X)) ∧ w = hp g s' n ∧ eo skC s s') 0 0) 0 0 (hp g s1 n) 12 [some (.ref (g_ad g 15)), some (.int (nI j)), some (.int h), some (.int w), some (.int su), none, some (.int (nI (min m 12))), some (.int (nI i))] [] := by
    intro d
    induction d with
    | zero =>
      intro i s1 e1 hi hX
      refine aw_iload rfl rfl ?_
      refine aw_iload rfl rfl ?_
      refine aw_icmp_ge (tgt := 61) rfl (by decide) (fun h16 => ?_) (fun h16 => absurd (by exact nI_le (by omega) (by omega)) h16)
      refine aw_iconst (v := 0) rfl (by decide) ?_
      exact aw_ei rfl rfl (by rw [← hX]; rfl) e1
    | succ d ih =>
      intro i s1 e1 hi hX
      refine aw_iload rfl rfl ?_
      refine aw_iload rfl rfl ?_
      refine aw_icmp_ge (tgt := 61) rfl (by decide) (fun h16 => absurd h16 (by exact nI_ge (by omega) (by omega))) (fun h16 => ?_)
      refine aw_aload_n rfl rfl ?_
      refine pg_15_1 rfl kl_X8_11 ?_
      refine aw_iconst (v := 4) rfl (by decide) ?_
      refine pl_16 (j := 4) rfl rfl (by decide) ?_
      refine aw_iload rfl rfl ?_
      refine aw_iadd rfl ?_
      refine aw_istore rfl (by decide) ?_
      refine aw_aload_n rfl rfl ?_
      refine aw_iload rfl rfl ?_
      refine aw_iV (q0 := 15) (ci := 8) rfl cw_X8_67 rfl rfl rfl (c_X8_warmthAt) rfl rfl (Nat.le_of_ble_eq_true rfl) (by decide) (by decide) (by decide) (by decide) ?_
      refine aw_aload_n rfl rfl ?_
      refine aw_iload_n rfl rfl ?_
      refine aw_iload_n rfl rfl ?_
      refine aw_iload_n rfl rfl ?_
      refine aw_iload rfl rfl ?_
      refine aw_iload rfl rfl ?_
      refine aw_eV (q0 := 15) (ci := 8) rfl cw_X8_76 rfl rfl rfl (c_X8_holdsAt (kb_eo hb e1) hj (hV.eC e1)) rfl rfl (Nat.le_of_ble_eq_true rfl) (by decide) (by decide) (by decide) (by decide) (fun s2 e2 => ?_)
      have hm : mlt V s j h w su i = decide (hd V s1 j h w su (s1 16 4 + nI i) < warm (s1 16 1) (s1 16 4 + nI i)) := by unfold mlt; rw [hd_eo e1, e1 16 4 rfl, e1 16 1 rfl]
      refine aw_icmp_le (tgt := 55) rfl (by decide) (fun h47 => ?_) (fun h47 => ?_)
      · refine aw_inc1 rfl rfl (by decide) ?_
        refine aw_goto (tgt := 12) rfl (by decide) ?_
        refine aw_wk (ih (i + 1) s2 (eo_tr e1 e2) (by omega) ?_) (And.intro rfl (And.intro rfl (And.intro rfl (And.intro rfl (And.intro rfl (And.intro rfl (And.intro (congrArg (fun x => some (Value.int x)) (nI_1 i)) True.intro)))))))
        rw [← hX]; simp only [fs]; rw [hm, if_neg (by rw [decide_eq_true_eq, ← Int32.not_le]; exact not_not_intro h47)]
      · refine aw_iload rfl rfl ?_
        refine aw_iconst (v := 1) rfl (by decide) ?_
        refine aw_iadd rfl ?_
        exact aw_ei rfl rfl (by rw [← hX]; simp only [fs]; rw [hm, if_pos (by rw [decide_eq_true_eq, ← Int32.not_le]; exact h47)]; rfl) (eo_tr e1 e2)
  refine aw_E_of mo_X8_meltsIn (by decide) (Nat.le_of_ble_eq_true rfl) ?_
  refine aw_iload rfl rfl ?_
  refine aw_bipush (v := 12) rfl (by decide) ?_
  refine aw_mmin rfl km_X8_70 (aw_t2 171 rfl rfl) (aw_t1 18 rfl rfl) (aw_t2 172 rfl rfl) (by decide) (Nat.le_of_ble_eq_true rfl) (by decide) (by decide) ?_
  rw [mn12 hm]
  refine aw_istore rfl (by decide) ?_
  refine aw_iconst (v := 0) rfl (by decide) ?_
  refine aw_istore rfl (by decide) ?_
  refine aw_wk (loop (min m 12) 0 s eo_rf (by omega) hXX) (And.intro rfl (And.intro rfl (And.intro rfl (And.intro rfl (And.intro rfl (And.intro rfl (And.intro rfl True.intro)))))))
