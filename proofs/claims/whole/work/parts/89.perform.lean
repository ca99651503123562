/-! the class performs -/
def kDo (V : (Nat → Int32) → Int32) (s : am_S) (T tm q a : Nat) (act f h : Int32) : Int32 × am_S := if (kAct V s T (s 16) act f h).1 = -1 then ((kAct V s T (s 16) act f h).1, upR (cp s 16 23 0 0 36) 16 (kAct V s T (s 16) act f h).2) else ((kAct V s T (s 16) act f h).1, keep (if act = 0 then wr (upR (cp s 16 23 0 0 36) 16 (kAct V s T (s 16) act f h).2) tm (warm (s 16 1) (s 16 4)) (kAct V s T (s 16) act f h).1 else upR (cp s 16 23 0 0 36) 16 (kAct V s T (s 16) act f h).2) q a)
theorem dDo_r {V : (Nat → Int32) → Int32} {s : am_S} {T tm q a : Nat} {act f h : Int32} : dDo V s T tm q a act f h = kDo V s T tm q a act f h := by
  have e : kAct V (cp s 16 23 0 0 36) = kAct V s := kAct_c ⟨fun _ => rfl, rfl, rfl, rfl⟩
  have em : kMonth V (cp s 16 23 0 0 36) = kMonth V s := kMonth_c ⟨fun _ => rfl, rfl, rfl, rfl⟩
  have e16 : cp s 16 23 0 0 36 16 = s 16 := rfl
  unfold dDo dDo0 dGo kDo
  rw [aMonth_r, aAct_r, e, em, e16]
  by_cases h0 : act = 0
  · have ek : kAct V s T (s 16) act f h = kMonth V s T (s 16) := by (unfold kAct; rw [if_pos h0])
    rw [if_pos h0, if_pos h0, ek]
    by_cases h1 : (kMonth V s T (s 16)).1 = -1
    · rw [if_pos (show (r16 (cp s 16 23 0 0 36) (kMonth V s T (s 16))).1 = -1 from h1), if_pos (show (r16 (cp s 16 23 0 0 36) (kMonth V s T (s 16))).1 = -1 from h1), if_pos h1]; rfl
    · rw [if_neg (show ¬ (r16 (cp s 16 23 0 0 36) (kMonth V s T (s 16))).1 = -1 from h1), if_neg (show ¬ (r16 (cp s 16 23 0 0 36) (kMonth V s T (s 16))).1 = -1 from h1), if_neg h1]; rfl
  · rw [if_neg h0, if_neg h0]
    by_cases h1 : (kAct V s T (s 16) act f h).1 = -1
    · rw [if_pos (show (r16 (cp s 16 23 0 0 36) (kAct V s T (s 16) act f h)).1 = -1 from h1), if_pos h1]; rfl
    · rw [if_neg (show ¬ (r16 (cp s 16 23 0 0 36) (kAct V s T (s 16) act f h)).1 = -1 from h1), if_neg h1]; rfl
theorem eo_wr {s s1 : am_S} {m : Nat} {a b : Int32} (h : eo skC s s1) : eo skC (wr s m a b) (wr s1 m a b) := eo_up2 (eo_up2 (eo_up2 h rfl) rfl) (h 16 2 rfl)
theorem eo_keep {s s1 : am_S} {q a : Nat} (h : eo skC s s1) : eo skC (keep s q a) (keep s1 q a) := eo_up2 (eo_up2 (eo_cp h (fun _ => rfl) (fun _ => rfl)) rfl) rfl
theorem dDo_c {V : (Nat → Int32) → Int32} {s s1 : am_S} {T tm q a : Nat} {act f h : Int32} (he : eo skC s s1) : (dDo V s1 T tm q a act f h).1 = (dDo V s T tm q a act f h).1 ∧ eo skC (dDo V s T tm q a act f h).2 (dDo V s1 T tm q a act f h).2 := by
  rw [dDo_r, dDo_r]
  have e : kAct V s1 = kAct V s := kAct_c (eqS_C he)
  have e16 : s1 16 = s 16 := eo_cell he 16 (fun _ => rfl)
  unfold kDo
  rw [e, e16]
  have hu : eo skC (upR (cp s 16 23 0 0 36) 16 (kAct V s T (s 16) act f h).2) (upR (cp s1 16 23 0 0 36) 16 (kAct V s T (s 16) act f h).2) := eo_upR3 (eo_cp he (fun _ => rfl) (fun _ => rfl))
  by_cases h1 : (kAct V s T (s 16) act f h).1 = -1
  · rw [if_pos h1, if_pos h1]
    exact ⟨rfl, hu⟩
  · rw [if_neg h1, if_neg h1]
    refine ⟨rfl, eo_keep ?_⟩
    by_cases h0 : act = 0
    · rw [if_pos h0, if_pos h0]; exact eo_wr hu
    · rw [if_neg h0, if_neg h0]; exact hu
theorem kAct_4 {V : (Nat → Int32) → Int32} {s : am_S} {f : Nat → Int32} {T Q : Nat} {a b c : Int32} (hb : kb s T Q) : (kAct V s T f a b c).2 4 = f 4 ∨ (f 4 < 9999 ∧ (kAct V s T f a b c).2 4 = f 4 + 1) := by
  have hT := hb.2.1
  unfold kAct
  split
  · unfold kMonth
    split
    · split
      · rename_i h4
        refine Or.inr ⟨h4, ?_⟩
        unfold kPass
        show upd (upd (kPA V s T f).2 0 (mn 999 ((kPA V s T f).2 0 + s 15 8))) 4 ((kPA V s T f).2 4 + 1) 4 = f 4 + 1
        rw [upd_s]
        exact congrArg (fun v => v + 1) (kPF_hi (Or.inr rfl) T 0 (0, f) (by omega))
      · exact Or.inl rfl
    · exact Or.inl rfl
  · refine Or.inl ?_
    split
    · unfold kSeal
      split
      · rfl
      · rename_i h1
        have := isT_cl hb h1
        (repeat' split) <;> first | rfl | (show upd (upd f _ _) _ _ 4 = f 4; rw [upd_n (by omega), upd_n (by omega)])
    · split
      · unfold kPry
        split
        · rfl
        · rename_i h1
          have := slF_cl hb h1
          split
          · rfl
          · rename_i h2
            have := isR_cl hb h2
            (repeat' split) <;> first | rfl | (exact (upd_n (f := upd f (19 + cl b) (f (19 + cl b) ||| 1 <<< (c &&& 31))) (i := 3) (j := 4) (v := f 3 + 1) (by decide)).trans (upd_n (by omega))) | (show upd (upd (upd (upd f _ _) _ _) _ _) _ _ 4 = f 4; rw [upd_n (by omega), upd_n (by omega), upd_n (by omega), upd_n (by omega)])
      · split
        · unfold kOpen
          split
          · rfl
          · rename_i h1
            have := slF_cl hb h1
            show upd (upd f _ _) _ _ 4 = f 4
            rw [upd_n (by omega), upd_n (by omega)]
        · split
          · unfold kCarry
            split
            · rfl
            · rename_i h1
              have := isT_cl hb h1
              (repeat' split) <;> first | rfl | (show upd f _ _ 4 = f 4; rw [upd_n (by omega)])
          · split
            · unfold kHeat
              (repeat' split) <;> first | rfl | (show upd f _ _ 4 = f 4; rw [upd_n (by omega)])
            · rfl
/-- the cells that acts change -/
def skD : Nat → Nat → Bool := fun k _ => [16, 21, 22, 23, 24].contains k
theorem eo_dDo {V : (Nat → Int32) → Int32} {s : am_S} {T tm q a : Nat} {act f h : Int32} : eo skD s (dDo V s T tm q a act f h).2 := by
  rw [dDo_r]
  unfold kDo
  have hu : eo skD s (upR (cp s 16 23 0 0 36) 16 (kAct V s T (s 16) act f h).2) := eo_upRK (fun _ => rfl) (eo_upRK (fun _ => rfl) eo_rf)
  by_cases h1 : (kAct V s T (s 16) act f h).1 = -1
  · rw [if_pos h1]; exact hu
  · rw [if_neg h1]
    refine eo_up (fun _ => rfl) (eo_up (fun _ => rfl) (eo_upRK (fun _ => rfl) ?_))
    by_cases h0 : act = 0
    · rw [if_pos h0]; exact eo_up (fun _ => rfl) (eo_up (fun _ => rfl) (eo_up (fun _ => rfl) hu))
    · rw [if_neg h0]; exact hu
def PJ (s : am_S) (T Q : Nat) : Prop := kb s T Q ∧ (∃ q a, ab4 s q a) ∧ ∃ tm, s 16 4 = nI tm ∧ tm ≤ 9999
theorem kb_D {s s' : am_S} {T Q : Nat} (h : kb s T Q) (e : eo skD s s') : kb s' T Q := by
  unfold kb at h ⊢
  rw [e 15 6 rfl, e 15 7 rfl, eo_cell e 18 (fun _ => rfl)]
  exact h
theorem PJ_dDo {V : (Nat → Int32) → Int32} {s : am_S} {T Q : Nat} (h : PJ s T Q) {tm q a : Nat} (hq : ab4 s q a) {act f h2 : Int32} : PJ (dDo V s T tm q a act f h2).2 T Q := by
  obtain ⟨hb, -, t, ht, ht9⟩ := h
  refine ⟨kb_D hb eo_dDo, ?_⟩
  rw [dDo_r]
  have h16 : (kDo V s T tm q a act f h2).2 16 = (kAct V s T (s 16) act f h2).2 := by
    unfold kDo
    (repeat' split) <;> rfl
  have ht4 : ∃ t, (kDo V s T tm q a act f h2).2 16 4 = nI t ∧ t ≤ 9999 := by
    rw [h16]
    rcases kAct_4 (V := V) (a := act) (b := f) (c := h2) (f := s 16) hb with e | ⟨e1, e2⟩
    · exact ⟨t, e.trans ht, ht9⟩
    · refine ⟨t + 1, ?_, ?_⟩
      · rw [e2, ht, nI_1]
      · rw [ht] at e1
        have := (nI_ltI (a := t) (b := 9999) (by omega) (by decide)).mp e1
        omega
  refine ⟨?_, ht4⟩
  obtain ⟨h3, hq4, h4, ha4⟩ := hq
  unfold kDo
  split
  · exact ⟨q, a, h3, hq4, h4, ha4⟩
  · exact ⟨(q + 1) % 40, min 40 (a + 1), rfl, Nat.mod_lt _ (by decide), rfl, Nat.min_le_left _ _⟩
def dAt (V : (Nat → Int32) → Int32) (s : am_S) (T : Nat) (act f h : Int32) : Int32 × am_S := dDo V s T (cl (s 16 4)) (cl (s 21 3)) (cl (s 21 4)) act f h
def pcL (V : (Nat → Int32) → Int32) (T : Nat) (F : Nat → Int32) : Nat → Nat → am_S → Nat × am_S
  | 0, i, s => (i, s)
  | d + 1, i, s => if (dAt V s T (F (3 * i)) (F (3 * i + 1)) (F (3 * i + 2))).1 = -1 then (i, (dAt V s T (F (3 * i)) (F (3 * i + 1)) (F (3 * i + 2))).2) else pcL V T F d (i + 1) (dAt V s T (F (3 * i)) (F (3 * i + 1)) (F (3 * i + 2))).2
def q_perf (V : (Nat → Int32) → Int32) (s : am_S) (T : Nat) (pL : Nat → Nat) (pF : Nat → Nat → Int32) (k : Int32) : Int32 × am_S := if isPc s k = true then (if 0 < s 15 6 then (nI (pcL V T (pF (cl k)) (pL (cl k)) 0 s).1, (pcL V T (pF (cl k)) (pL (cl k)) 0 s).2) else (-1, s)) else (-1, s)
set_option maxRecDepth 4000 in
theorem c_X11_perform {l : Launch} {g : ag_G} {s : am_S} {n : am_N} {P : Nat} {pL : Nat → Nat} {pF : Nat → Nat → Int32} (hg : RGs g s n P pL pF) {T Q : Nat} (hI : PJ s T Q) {V : (Nat → Int32) → Int32} (hV : LawIs l g s n V) {k : Int32} : aw_G l g mi_X11_perform 8 skC [.ref (g_ad g 0), .int k] s n (.int (q_perf V s T pL pF k).1) (q_perf V s T pL pF k).2 := by
  have hP := hg.2.1
  refine aw_G_of mo_X11_perform (by decide) (Nat.le_of_ble_eq_true rfl) ?_
  refine aw_aload_n rfl rfl ?_
  refine aw_iload_n rfl rfl ?_
  refine aw_iV (q0 := 0) (ci := 11) rfl cw_X11_251 rfl rfl rfl (c_X11_isReign hg) rfl rfl (Nat.le_of_ble_eq_true rfl) (by decide) (by decide) (by decide) (by decide) ?_
  refine aw_if_eq (tgt := 18) rfl (by decide) (fun h5 => ?_) (fun h5 => ?_)
  · refine aw_iconst (v := -1) rfl (by decide) ?_
    exact aw_gi rfl rfl (by unfold q_perf; first | (rw [if_neg (by rw [bB_0.mp h5]; decide)]; done) | (rw [if_pos hk, if_neg (of_decide_eq_false (bB_0.mp h15))]; done)) (by unfold q_perf; first | (rw [if_neg (by rw [bB_0.mp h5]; decide)]; exact eo_rf) | (rw [if_pos hk, if_neg (of_decide_eq_false (bB_0.mp h15))]; exact eo_rf))
  · have hk : isPc s k = true := bB_n0.mp h5
    obtain ⟨q, hq, rfl⟩ := isPc_nI hg hk
    have h16 := (hg.2.2 q hq).1
    have hclq : cl (nI q) = q := cl_nI (by omega)
    refine aw_aload_n rfl rfl ?_
    refine pg_0_8 rfl kl_X11_57 ?_
    refine aw_iV (q0 := 15) (ci := 8) rfl cw_X11_146 rfl rfl rfl (c_X8_isTold) rfl rfl (Nat.le_of_ble_eq_true rfl) (by decide) (by decide) (by decide) (by decide) ?_
    refine aw_if_ne (tgt := 20) rfl (by decide) (fun h15 => ?_) (fun h15 => ?_)
    · have hT0 : 0 < s 15 6 := of_decide_eq_true (bB_n0.mp h15)
      have hqp : q_perf V s T pL pF (nI q) = (nI (pcL V T (pF q) (pL q) 0 s).1, (pcL V T (pF q) (pL q) 0 s).2) := by (unfold q_perf; rw [if_pos hk, if_pos hT0, hclq])
      rw [hqp]
      refine aw_aload_n rfl rfl ?_
      refine aw_iload_n rfl rfl ?_
      refine aw_iV (q0 := 0) (ci := 11) rfl cw_X11_254 rfl rfl rfl (c_X11_stepsOf hg hq) rfl rfl (Nat.le_of_ble_eq_true rfl) (by decide) (by decide) (by decide) (by decide) ?_
      refine aw_istore_n rfl (by decide) ?_
      refine aw_iconst (v := 0) rfl (by decide) ?_
      refine aw_istore_n rfl (by decide) ?_
      have loop : ∀ (d i : Nat) (sv s1 : am_S), i + d = pL q → eo skC sv s1 → eo skD s sv → PJ sv T Q → pcL V T (pF q) d i sv = pcL V T (pF q) (pL q) 0 s → aw_W l g mi_X11_perform (aw_rm 8 0 0) (aw_Z g (fun r w => ∃ s', r = some (.int (nI (pcL V T (pF q) (pL q) 0 s).1)) ∧ w = hp g s' n ∧ eo skC (pcL V T (pF q) (pL q) 0 s).2 s') 0 0) 0 0 (hp g s1 n) 28 [some (.ref (g_ad g 0)), some (.int (nI q)), some (.int (nI (pL q))), some (.int (nI i))] [] := by
        intro d
        induction d with
        | zero =>
          intro i sv s1 hi he hD hI1 hR
          refine aw_iload_n rfl rfl ?_
          refine aw_iload_n rfl rfl ?_
          refine aw_icmp_ge (tgt := 68) rfl (by decide) (fun h30 => ?_) (fun h30 => absurd (by rw [show i = pL q by omega]; exact nI_le (Nat.le_refl _) (by omega)) h30)
          refine aw_iload_n rfl rfl ?_
          exact aw_gi rfl rfl (by rw [← hR]; rfl) (by rw [← hR]; exact he)
        | succ d ih =>
          intro i sv s1 hi he hD hI1 hR
          have hb1 : kb s1 T Q := kb_c hI1.1 (eqS_C he)
          have hV1 : LawIs l g s1 n V := hV.mv (fun j => (he 10 j rfl).trans (hD 10 j rfl))
          have hg1 : RGs g s1 n P pL pF := RGs_mv hg ((he 0 6 rfl).trans (hD 0 6 rfl)) rfl rfl
          obtain ⟨-, ⟨q1, a1, hab⟩, tm, htm, htm9⟩ := id hI1
          have hab1 : ab4 s1 q1 a1 := ⟨(he 21 3 rfl).trans hab.1, hab.2.1, (he 21 4 rfl).trans hab.2.2.1, hab.2.2.2⟩
          have htm1 : s1 16 4 = nI tm := (he 16 4 rfl).trans htm
          have hAt : ∀ a b c, dAt V sv T a b c = dDo V sv T tm q1 a1 a b c := by (intro a b c; unfold dAt; rw [htm, hab.1, hab.2.2.1, cl_nI (by omega), cl_nI (by have := hab.2.1; omega), cl_nI (by have := hab.2.2.2; omega)])
          simp only [pcL] at hR
          simp only [hAt] at hR
          refine aw_iload_n rfl rfl ?_
          refine aw_iload_n rfl rfl ?_
          refine aw_icmp_ge (tgt := 68) rfl (by decide) (fun h30 => absurd h30 (nI_ge (a := i) (b := pL q) (by omega) (by omega))) (fun h30 => ?_)
          refine aw_aload_n rfl rfl ?_
          refine aw_aload_n rfl rfl ?_
          refine aw_iload_n rfl rfl ?_
          refine aw_iload_n rfl rfl ?_
          refine aw_iconst (v := 0) rfl (by decide) ?_
          refine aw_iV (q0 := 0) (ci := 11) rfl cw_X11_258 rfl rfl rfl (c_X11_part hg1 (q := q) (i := i) (x := 0) hq (by omega) (by decide)) rfl rfl (Nat.le_of_ble_eq_true rfl) (by decide) (by decide) (by decide) (by decide) ?_
          refine aw_aload_n rfl rfl ?_
          refine aw_iload_n rfl rfl ?_
          refine aw_iload_n rfl rfl ?_
          refine aw_iconst (v := 1) rfl (by decide) ?_
          refine aw_iV (q0 := 0) (ci := 11) rfl cw_X11_258 rfl rfl rfl (c_X11_part hg1 (q := q) (i := i) (x := 1) hq (by omega) (by decide)) rfl rfl (Nat.le_of_ble_eq_true rfl) (by decide) (by decide) (by decide) (by decide) ?_
          refine aw_aload_n rfl rfl ?_
          refine aw_iload_n rfl rfl ?_
          refine aw_iload_n rfl rfl ?_
          refine aw_iconst (v := 2) rfl (by decide) ?_
          refine aw_iV (q0 := 0) (ci := 11) rfl cw_X11_258 rfl rfl rfl (c_X11_part hg1 (q := q) (i := i) (x := 2) hq (by omega) (by decide)) rfl rfl (Nat.le_of_ble_eq_true rfl) (by decide) (by decide) (by decide) (by decide) ?_
          refine aw_gV (q0 := 0) (ci := 11) rfl cw_X11_189 rfl rfl rfl (c_X11_does hb1 htm1 (by omega) hab1 hV1) rfl rfl (Nat.le_of_ble_eq_true rfl) (by decide) (by decide) (by decide) (by decide) (fun s2 e2 => ?_)
          have hC := dDo_c (V := V) (T := T) (tm := tm) (q := q1) (a := a1) (act := pF q (3 * i)) (f := pF q (3 * i + 1)) (h := pF q (3 * i + 2)) he
          have e2C := eo_tr hC.2 e2
          have hI2 := PJ_dDo (V := V) hI1 (tm := tm) hab (act := pF q (3 * i)) (f := pF q (3 * i + 1)) (h2 := pF q (3 * i + 2))
          have hD2 := eo_tr hD (eo_dDo (V := V) (s := sv) (T := T) (tm := tm) (q := q1) (a := a1) (act := pF q (3 * i)) (f := pF q (3 * i + 1)) (h := pF q (3 * i + 2)))
          rw [show (dDo V s1 T tm q1 a1 (pF q (3 * i + 0)) (pF q (3 * i + 1)) (pF q (3 * i + 2))).1 = (dDo V sv T tm q1 a1 (pF q (3 * i)) (pF q (3 * i + 1)) (pF q (3 * i + 2))).1 from hC.1]
          refine aw_iconst (v := -1) rfl (by decide) ?_
          refine aw_icmp_eq (tgt := 68) rfl (by decide) (fun h59 => ?_) (fun h59 => ?_)
          · refine aw_iload_n rfl rfl ?_
            rw [if_pos h59] at hR; exact aw_gi rfl rfl (by rw [← hR]) (by rw [← hR]; exact e2C)
          · refine aw_inc1 rfl rfl (by decide) ?_
            refine aw_goto (tgt := 28) rfl (by decide) ?_
            rw [if_neg h59] at hR
            exact aw_wk (ih (i + 1) _ s2 (by omega) e2C hD2 hI2 hR) (And.intro rfl (And.intro rfl (And.intro rfl (And.intro (congrArg (fun x => some (Value.int x)) (nI_1 i)) True.intro))))
      have h0 := loop (pL q) 0 s s (by omega) eo_rf eo_rf hI rfl
      exact aw_wk h0 (And.intro rfl (And.intro rfl (And.intro rfl (And.intro rfl True.intro))))
    · refine aw_iconst (v := -1) rfl (by decide) ?_
      exact aw_gi rfl rfl (by unfold q_perf; first | (rw [if_neg (by rw [bB_0.mp h5]; decide)]; done) | (rw [if_pos hk, if_neg (of_decide_eq_false (bB_0.mp h15))]; done)) (by unfold q_perf; first | (rw [if_neg (by rw [bB_0.mp h5]; decide)]; exact eo_rf) | (rw [if_pos hk, if_neg (of_decide_eq_false (bB_0.mp h15))]; exact eo_rf))
