def aFit (s : am_S) (N T Q : Nat) (i : Int32) : Int32 := if i = -1 then nI (fL s N T Q).length else if i < 0 then -1 else if nI (fL s N T Q).length ≤ i then -1 else (fL s N T Q).getD (cl i) 0
def aNote (s : am_S) (N : Nat) (r t b : Int32) : am_S := up (up (up (up s 33 N r) 34 N t) 35 N b) 32 4 (nI (N + 1))
set_option maxRecDepth 4000 in
theorem c_X7_fitting {l : Launch} {g : ag_G} {s : am_S} {n : am_N} {N : Nat} {i : Int32} {T Q : Nat} (hb : kb s T Q) (hn : nb s N) : aw_E l g mi_X7_fitting 4 skF [.ref (g_ad g 32), .int i] s n (.int (aFit s N T Q i)) := by
  refine aw_E_of mo_X7_fitting (by decide) (Nat.le_of_ble_eq_true rfl) ?_
  refine aw_aload_n rfl rfl ?_
  refine aw_callV (q0 := 32) (ci := 7) rfl cw_X7_35 rfl rfl rfl (c_X7_findsFitting hb hn) rfl rfl (Nat.le_of_ble_eq_true rfl) (by decide) (by decide) (by decide) (by decide) ?_
  rintro _ _ ⟨s2, rfl, rfl, e2, hl, hlen⟩
  refine aw_istore_n rfl (by decide) ?_
  refine aw_iload_n rfl rfl ?_
  refine aw_iconst (v := -1) rfl (by decide) ?_
  refine aw_icmp_ne (tgt := 12) rfl (by decide) (fun h7 => ?_) (fun h7 => ?_)
  · refine aw_iload_n rfl rfl ?_
    refine aw_if_lt (tgt := 30) rfl (by decide) (fun h13 => ?_) (fun h13 => ?_)
    · refine aw_iconst (v := -1) rfl (by decide) ?_
      exact aw_ei rfl rfl (by first | (simp [aFit, h7, h13]; done) | (simp [aFit, h7, h13, h18]; done) | (rw [hl j hj]; simp [aFit, h7, h13, h18, hc]; done)) e2
    · refine aw_iload_n rfl rfl ?_
      refine aw_iload_n rfl rfl ?_
      refine aw_icmp_ge (tgt := 30) rfl (by decide) (fun h18 => ?_) (fun h18 => ?_)
      · refine aw_iconst (v := -1) rfl (by decide) ?_
        exact aw_ei rfl rfl (by first | (simp [aFit, h7, h13]; done) | (simp [aFit, h7, h13, h18]; done) | (rw [hl j hj]; simp [aFit, h7, h13, h18, hc]; done)) e2
      · obtain ⟨j, hj, rfl⟩ := nI_lt7 (T := (fL s N T Q).length) (by omega) (Int32.not_lt.mp h13) (Int32.not_le.mp h18)
        have hc : cl (nI j) = j := cl_nI (by omega)
        refine aw_aload_n rfl rfl ?_
        refine pg_32_5 rfl kl_X7_24 ?_
        refine aw_iload_n rfl rfl ?_
        refine pl_36 rfl rfl (by omega) ?_
        refine aw_goto (tgt := 31) rfl (by decide) ?_
        exact aw_ei rfl rfl (by first | (simp [aFit, h7, h13]; done) | (simp [aFit, h7, h13, h18]; done) | (rw [hl j hj]; simp [aFit, h7, h13, h18, hc]; done)) e2
  · refine aw_iload_n rfl rfl ?_
    exact aw_ei rfl rfl (by simp [aFit, (by simpa using h7 : i = -1)]) e2
set_option maxRecDepth 4000 in
theorem c_X7_adds {l : Launch} {g : ag_G} {s : am_S} {n : am_N} {N : Nat} {r t b : Int32} (hn : s 32 4 = nI N) (hN : N < 10) (hb : b = 0 ∨ b = 1) : aw_F l g mi_X7_adds 0 [.ref (g_ad g 32), .int r, .int t, .int b] (hp g s n) (.int (nI (N + 1))) (hp g (aNote s N r t b) n) := by
  refine aw_F_of mo_X7_adds (by decide) (Nat.le_of_ble_eq_true rfl) ?_
  refine aw_aload_n rfl rfl ?_
  refine pg_32_4 rfl kl_X7_31 ?_
  refine aw_bipush (v := 10) rfl (by decide) ?_
  refine aw_icmp_lt (tgt := 11) rfl (by decide) (fun h6 => ?_) (fun h6 => absurd (by rw [hn]; exact nI_lt (b := 10) hN (by decide)) h6)
  refine aw_aload_n rfl rfl ?_
  refine pg_32_1 rfl kl_X7_13 ?_
  refine aw_aload_n rfl rfl ?_
  refine pg_32_4 rfl kl_X7_31 ?_
  refine aw_iload_n rfl rfl ?_
  refine ps_33 rfl hn (by omega) ?_
  refine aw_aload_n rfl rfl ?_
  refine pg_32_2 rfl kl_X7_17 ?_
  refine aw_aload_n rfl rfl ?_
  refine pg_32_4 rfl kl_X7_31 ?_
  refine aw_iload_n rfl rfl ?_
  refine ps_34 rfl (show up s 33 N r 32 4 = nI N from hn) (by omega) ?_
  refine aw_aload_n rfl rfl ?_
  refine pg_32_3 rfl kl_X7_20 ?_
  refine aw_aload_n rfl rfl ?_
  refine pg_32_4 rfl kl_X7_31 ?_
  refine aw_iload_n rfl rfl ?_
  refine ps_35 rfl (show up (up s 33 N r) 34 N t 32 4 = nI N from hn) (by omega) ?_
  rw [show vp_nar .boolean b = b from by (rcases hb with rfl | rfl <;> rfl)]
  refine aw_aload_n rfl rfl ?_
  refine aw_dup rfl rfl ?_
  refine pg_32_4 rfl kl_X7_31 ?_
  refine aw_iconst (v := 1) rfl (by decide) ?_
  refine aw_iadd rfl ?_
  rw [show up (up (up s 33 N r) 34 N t) 35 N b 32 4 + 1 = nI (N + 1) from by (show s 32 4 + 1 = _; rw [hn, nI_1])]
  refine pp_32_4 rfl kl_X7_31 ?_
  refine aw_aload_n rfl rfl ?_
  refine pg_32_4 rfl kl_X7_31 ?_
  exact aw_fi rfl rfl rfl rfl
def apF (s : am_S) (L : List Int32) (r : Int32) (t i : Nat) (a : Int32) : Int32 := a + (if wK s (L.getD i 0) r t = true then 1 else -1)
def ab (x : Int32) : Int32 := if 0 ≤ x then x else 0 - x
def ap (s : am_S) (L : List Int32) (r : Int32) (t : Nat) : Int32 := ab (fd (apF s L r t) 0 L.length 0)
set_option maxRecDepth 4000 in
theorem c_X7_apartBy {l : Launch} {g : ag_G} {s : am_S} {n : am_N} {L : List Int32} {r : Int32} {t : Nat} (ht : t < 7) (hl : lsR s L) (hlen : L.length ≤ 36) : aw_F l g mi_X7_apartBy 2 [.ref (g_ad g 32), .int r, .int (nI t), .int (nI L.length)] (hp g s n) (.int (ap s L r t)) (hp g s n) := by
  unfold ap
  generalize hXX : fd (apF s L r t) 0 L.length 0 = X
  have loop : ∀ (d i : Nat) (a : Int32), i + d = L.length → fd (apF s L r t) i d a = X → aw_W l g mi_X7_apartBy (aw_rm 2 0 0) (aw_Z g (fun r w => r = some (.int (ab X)) ∧ w = hp g s n) 0 0) 0 0 (hp g s n) 6 [some (.ref (g_ad g 32)), some (.int r), some (.int (nI t)), some (.int (nI L.length)), some (.int a), some (.int (nI i))] [] := by
    intro d
    induction d with
    | zero =>
      intro i a hi hX
      refine aw_iload rfl rfl ?_
      refine aw_iload_n rfl rfl ?_
      refine aw_icmp_ge (tgt := 44) rfl (by decide) (fun h9 => ?_) (fun h9 => absurd (by exact nI_le (by omega) (by omega)) h9)
      refine aw_iload rfl rfl ?_
      refine aw_mabs rfl km_X7_61 (aw_t5 13 rfl rfl) (aw_t1 18 rfl rfl) (aw_t5 14 rfl rfl) (by decide) (Nat.le_of_ble_eq_true rfl) (by decide) (by decide) ?_
      exact aw_fi rfl rfl (by have hx : a = X := hX; rw [← hx]; rfl) rfl
    | succ d ih =>
      intro i a hi hX
      refine aw_iload rfl rfl ?_
      refine aw_iload_n rfl rfl ?_
      refine aw_icmp_ge (tgt := 44) rfl (by decide) (fun h9 => absurd h9 (by exact nI_ge (by omega) (by omega))) (fun h9 => ?_)
      refine aw_iload rfl rfl ?_
      refine aw_aload_n rfl rfl ?_
      refine aw_aload_n rfl rfl ?_
      refine pg_32_5 rfl kl_X7_24 ?_
      refine aw_iload rfl rfl ?_
      refine pl_36 rfl rfl (by omega) ?_
      rw [hl i (by omega)]
      refine aw_iload_n rfl rfl ?_
      refine aw_iload_n rfl rfl ?_
      refine aw_iV (q0 := 32) (ci := 7) rfl cw_X7_53 rfl rfl rfl (c_X7_wouldKnow ht) rfl rfl (Nat.le_of_ble_eq_true rfl) (by decide) (by decide) (by decide) (by decide) ?_
      refine aw_if_eq (tgt := 34) rfl (by decide) (fun h27 => ?_) (fun h27 => ?_)
      · refine aw_iconst (v := -1) rfl (by decide) ?_
        refine aw_iadd rfl ?_
        refine aw_istore rfl (by decide) ?_
        refine aw_inc1 rfl rfl (by decide) ?_
        refine aw_goto (tgt := 6) rfl (by decide) ?_
        refine aw_wk (ih (i + 1) _ (by omega) ?_) (And.intro rfl (And.intro rfl (And.intro rfl (And.intro rfl (And.intro rfl (And.intro (congrArg (fun x => some (Value.int x)) (nI_1 i)) True.intro))))))
        exact Eq.trans (congrArg (fd _ (i + 1) d) (by first | (have z := bB_0.mp h27; simp only [apF, z]; rfl) | (have z := bB_n0.mp h27; simp only [apF, z]; rfl))) hX
      · refine aw_iconst (v := 1) rfl (by decide) ?_
        refine aw_goto (tgt := 35) rfl (by decide) ?_
        refine aw_iadd rfl ?_
        refine aw_istore rfl (by decide) ?_
        refine aw_inc1 rfl rfl (by decide) ?_
        refine aw_goto (tgt := 6) rfl (by decide) ?_
        refine aw_wk (ih (i + 1) _ (by omega) ?_) (And.intro rfl (And.intro rfl (And.intro rfl (And.intro rfl (And.intro rfl (And.intro (congrArg (fun x => some (Value.int x)) (nI_1 i)) True.intro))))))
        exact Eq.trans (congrArg (fd _ (i + 1) d) (by first | (have z := bB_0.mp h27; simp only [apF, z]; rfl) | (have z := bB_n0.mp h27; simp only [apF, z]; rfl))) hX
  refine aw_F_of mo_X7_apartBy (by decide) (Nat.le_of_ble_eq_true rfl) ?_
  refine aw_iconst (v := 0) rfl (by decide) ?_
  refine aw_istore rfl (by decide) ?_
  refine aw_iconst (v := 0) rfl (by decide) ?_
  refine aw_istore rfl (by decide) ?_
  refine aw_wk (loop L.length 0 0 (by omega) hXX) (And.intro rfl (And.intro rfl (And.intro rfl (And.intro rfl (And.intro rfl (And.intro rfl True.intro))))))
theorem ap_eo {s s' : am_S} (e : eo skC s s') {L : List Int32} {r : Int32} {t : Nat} : ap s' L r t = ap s L r t := by
  unfold ap
  rw [show apF s' L r t = apF s L r t from by (funext i a; unfold apF; rw [wK_eo e])]
theorem ap_eF {s s' : am_S} (e : eo skF s s') {L : List Int32} {r : Int32} {t : Nat} : ap s' L r t = ap s L r t := by
  unfold ap
  rw [show apF s' L r t = apF s L r t from by (funext i a; unfold apF; rw [wK_eF e])]
def bqI (s : am_S) (L : List Int32) (t r : Nat) (a : Int32 × Int32) : Int32 × Int32 := if a.1 = -1 then (10 * nI t + nI r, ap s L (nI r) t) else if a.2 ≤ ap s L (nI r) t then a else (10 * nI t + nI r, ap s L (nI r) t)
def bqO (s : am_S) (L : List Int32) (Q t : Nat) (a : Int32 × Int32) : Int32 × Int32 := fd (bqI s L t) 0 Q a
def aAsk (s : am_S) (N T Q : Nat) : Int32 := if (fL s N T Q).length = 0 then -1 else (fd (bqO s (fL s N T Q) Q) 0 T (-1, 0)).1
set_option maxRecDepth 4000 in
theorem c_X7_bestQuestion {l : Launch} {g : ag_G} {s : am_S} {n : am_N} {N : Nat} {T Q : Nat} (hb : kb s T Q) (hn : nb s N) : aw_E l g mi_X7_bestQuestion 4 skF [.ref (g_ad g 32)] s n (.int (aAsk s N T Q)) := by
  have hT := hb.2.1
  have hQ := hb.2.2.2.1
  unfold aAsk
  generalize hLL : fL s N T Q = LL
  generalize hXX : fd (bqO s LL Q) 0 T (-1, 0) = X
  have row : ∀ (s1 : am_S) (t : Nat) (Y : Int32 × Int32), eo skF s s1 → lsR s1 LL → LL.length ≤ 36 → t < T → aw_W l g mi_X7_bestQuestion (aw_rm 4 0 0) (aw_Z g (fun r w => ∃ s', r = some (.int (if LL.length = 0 then -1 else X.1)) ∧ w = hp g s' n ∧ eo skF s s') 0 0) 0 0 (hp g s1 n) 85 [some (.ref (g_ad g 32)), some (.int (nI LL.length)), some (.int Y.1), some (.int Y.2), some (.int (nI t))] [] → ∀ (d i : Nat) (a : Int32 × Int32), i + d = Q → fd (bqI s LL t) i d a = Y → aw_W l g mi_X7_bestQuestion (aw_rm 4 0 0) (aw_Z g (fun r w => ∃ s', r = some (.int (if LL.length = 0 then -1 else X.1)) ∧ w = hp g s' n ∧ eo skF s s') 0 0) 0 0 (hp g s1 n) 33 [some (.ref (g_ad g 32)), some (.int (nI LL.length)), some (.int a.1), some (.int a.2), some (.int (nI t)), some (.int (nI i))] [] := by
    intro s1 t Y e1 hl hlen ht kont d
    induction d with
    | zero =>
      intro i a hi hX
      refine aw_iload rfl rfl ?_
      refine aw_aload_n rfl rfl ?_
      refine pg_32_0 rfl kl_X7_27 ?_
      refine pg_15_7 rfl kl_X7_42 ?_
      refine aw_icmp_ge (tgt := 85) rfl (by decide) (fun h42 => ?_) (fun h42 => absurd (by rw [(kb_eF hb e1).2.2.1]; exact nI_le (by omega) (by omega)) h42)
      have hx : a = Y := hX
      subst hx
      exact aw_wk kont (And.intro rfl (And.intro rfl (And.intro rfl (And.intro rfl (And.intro rfl True.intro)))))
    | succ d ih =>
      intro i a hi hX
      refine aw_iload rfl rfl ?_
      refine aw_aload_n rfl rfl ?_
      refine pg_32_0 rfl kl_X7_27 ?_
      refine pg_15_7 rfl kl_X7_42 ?_
      refine aw_icmp_ge (tgt := 85) rfl (by decide) (fun h42 => absurd h42 (by rw [(kb_eF hb e1).2.2.1]; exact nI_ge (by omega) (by omega))) (fun h42 => ?_)
      refine aw_aload_n rfl rfl ?_
      refine aw_iload rfl rfl ?_
      refine aw_iload rfl rfl ?_
      refine aw_iload_n rfl rfl ?_
      refine aw_iV (q0 := 32) (ci := 7) rfl cw_X7_57 rfl rfl rfl (c_X7_apartBy (by omega) hl hlen) rfl rfl (Nat.le_of_ble_eq_true rfl) (by decide) (by decide) (by decide) (by decide) ?_
      rw [ap_eF e1]
      refine aw_istore rfl (by decide) ?_
      refine aw_iload_n rfl rfl ?_
      refine aw_iconst (v := -1) rfl (by decide) ?_
      refine aw_icmp_eq (tgt := 67) rfl (by decide) (fun h58 => ?_) (fun h58 => ?_)
      · refine aw_bipush (v := 10) rfl (by decide) ?_
        refine aw_iload rfl rfl ?_
        refine aw_imul rfl ?_
        refine aw_iload rfl rfl ?_
        refine aw_iadd rfl ?_
        refine aw_istore_n rfl (by decide) ?_
        refine aw_iload rfl rfl ?_
        refine aw_istore_n rfl (by decide) ?_
        refine aw_inc1 rfl rfl (by decide) ?_
        refine aw_goto (tgt := 33) rfl (by decide) ?_
        first
          | (refine aw_wk (ih (i + 1) a (by omega) ?_) (And.intro rfl (And.intro rfl (And.intro rfl (And.intro rfl (And.intro rfl (And.intro (congrArg (fun x => some (Value.int x)) (nI_1 i)) True.intro)))))); exact Eq.trans (congrArg (fd _ (i + 1) d) (by unfold bqI; rw [if_neg h58, if_pos h64])) hX)
          | (refine aw_wk (ih (i + 1) (10 * nI t + nI i, ap s LL (nI i) t) (by omega) ?_) (And.intro rfl (And.intro rfl (And.intro rfl (And.intro rfl (And.intro rfl (And.intro (congrArg (fun x => some (Value.int x)) (nI_1 i)) True.intro)))))); exact Eq.trans (congrArg (fd _ (i + 1) d) (by unfold bqI; first | rw [if_pos h58] | rw [if_neg h58, if_neg h64])) hX)
      · refine aw_iload rfl rfl ?_
        refine aw_iload_n rfl rfl ?_
        refine aw_icmp_ge (tgt := 79) rfl (by decide) (fun h64 => ?_) (fun h64 => ?_)
        · refine aw_inc1 rfl rfl (by decide) ?_
          refine aw_goto (tgt := 33) rfl (by decide) ?_
          first
            | (refine aw_wk (ih (i + 1) a (by omega) ?_) (And.intro rfl (And.intro rfl (And.intro rfl (And.intro rfl (And.intro rfl (And.intro (congrArg (fun x => some (Value.int x)) (nI_1 i)) True.intro)))))); exact Eq.trans (congrArg (fd _ (i + 1) d) (by unfold bqI; rw [if_neg h58, if_pos h64])) hX)
            | (refine aw_wk (ih (i + 1) (10 * nI t + nI i, ap s LL (nI i) t) (by omega) ?_) (And.intro rfl (And.intro rfl (And.intro rfl (And.intro rfl (And.intro rfl (And.intro (congrArg (fun x => some (Value.int x)) (nI_1 i)) True.intro)))))); exact Eq.trans (congrArg (fd _ (i + 1) d) (by unfold bqI; first | rw [if_pos h58] | rw [if_neg h58, if_neg h64])) hX)
        · refine aw_bipush (v := 10) rfl (by decide) ?_
          refine aw_iload rfl rfl ?_
          refine aw_imul rfl ?_
          refine aw_iload rfl rfl ?_
          refine aw_iadd rfl ?_
          refine aw_istore_n rfl (by decide) ?_
          refine aw_iload rfl rfl ?_
          refine aw_istore_n rfl (by decide) ?_
          refine aw_inc1 rfl rfl (by decide) ?_
          refine aw_goto (tgt := 33) rfl (by decide) ?_
          first
            | (refine aw_wk (ih (i + 1) a (by omega) ?_) (And.intro rfl (And.intro rfl (And.intro rfl (And.intro rfl (And.intro rfl (And.intro (congrArg (fun x => some (Value.int x)) (nI_1 i)) True.intro)))))); exact Eq.trans (congrArg (fd _ (i + 1) d) (by unfold bqI; rw [if_neg h58, if_pos h64])) hX)
            | (refine aw_wk (ih (i + 1) (10 * nI t + nI i, ap s LL (nI i) t) (by omega) ?_) (And.intro rfl (And.intro rfl (And.intro rfl (And.intro rfl (And.intro rfl (And.intro (congrArg (fun x => some (Value.int x)) (nI_1 i)) True.intro)))))); exact Eq.trans (congrArg (fd _ (i + 1) d) (by unfold bqI; first | rw [if_pos h58] | rw [if_neg h58, if_neg h64])) hX)
  have loop : ∀ (d i : Nat) (a : Int32 × Int32) (s1 : am_S), eo skF s s1 → lsR s1 LL → LL.length ≤ 36 → ¬ LL.length = 0 → i + d = T → fd (bqO s LL Q) i d a = X → aw_W l g mi_X7_bestQuestion (aw_rm 4 0 0) (aw_Z g (fun r w => ∃ s', r = some (.int (if LL.length = 0 then -1 else X.1)) ∧ w = hp g s' n ∧ eo skF s s') 0 0) 0 0 (hp g s1 n) 18 [some (.ref (g_ad g 32)), some (.int (nI LL.length)), some (.int a.1), some (.int a.2), some (.int (nI i))] [] := by
    intro d
    induction d with
    | zero =>
      intro i a s1 e1 hl hlen h0 hi hX
      refine aw_iload rfl rfl ?_
      refine aw_aload_n rfl rfl ?_
      refine pg_32_0 rfl kl_X7_27 ?_
      refine pg_15_6 rfl kl_X7_39 ?_
      refine aw_icmp_ge (tgt := 91) rfl (by decide) (fun h27 => ?_) (fun h27 => absurd (by rw [(kb_eF hb e1).1]; exact nI_le (by omega) (by omega)) h27)
      refine aw_iload_n rfl rfl ?_
      exact aw_ei rfl rfl (by have hx : a = X := hX; rw [← hx, if_neg h0]) e1
    | succ d ih =>
      intro i a s1 e1 hl hlen h0 hi hX
      refine aw_iload rfl rfl ?_
      refine aw_aload_n rfl rfl ?_
      refine pg_32_0 rfl kl_X7_27 ?_
      refine pg_15_6 rfl kl_X7_39 ?_
      refine aw_icmp_ge (tgt := 91) rfl (by decide) (fun h27 => absurd h27 (by rw [(kb_eF hb e1).1]; exact nI_ge (by omega) (by omega))) (fun h27 => ?_)
      refine aw_iconst (v := 0) rfl (by decide) ?_
      refine aw_istore rfl (by decide) ?_
      refine aw_wk (row s1 i (bqO s LL Q i a) e1 hl hlen (by omega) ?_ Q 0 a (by omega) rfl) (And.intro rfl (And.intro rfl (And.intro rfl (And.intro rfl (And.intro rfl (And.intro rfl True.intro))))))
      refine aw_inc1 rfl rfl (by decide) ?_
      refine aw_goto (tgt := 18) rfl (by decide) ?_
      exact aw_wk (ih (i + 1) _ s1 e1 hl hlen h0 (by omega) hX) (And.intro rfl (And.intro rfl (And.intro rfl (And.intro rfl (And.intro (congrArg (fun x => some (Value.int x)) (nI_1 i)) True.intro)))))
  refine aw_E_of mo_X7_bestQuestion (by decide) (Nat.le_of_ble_eq_true rfl) ?_
  refine aw_aload_n rfl rfl ?_
  refine aw_callV (q0 := 32) (ci := 7) rfl cw_X7_35 rfl rfl rfl (c_X7_findsFitting hb hn) rfl rfl (Nat.le_of_ble_eq_true rfl) (by decide) (by decide) (by decide) (by decide) ?_
  rintro _ _ ⟨s2, rfl, rfl, e2, hl, hlen⟩
  rw [hLL] at hl hlen ⊢
  refine aw_istore_n rfl (by decide) ?_
  refine aw_iload_n rfl rfl ?_
  refine aw_if_ne (tgt := 11) rfl (by decide) (fun h6 => ?_) (fun h6 => ?_)
  · have h7 : ¬ LL.length = 0 := fun z => h6 (by rw [z]; rfl)
    refine aw_iconst (v := -1) rfl (by decide) ?_
    refine aw_istore_n rfl (by decide) ?_
    refine aw_iconst (v := 0) rfl (by decide) ?_
    refine aw_istore_n rfl (by decide) ?_
    refine aw_iconst (v := 0) rfl (by decide) ?_
    refine aw_istore rfl (by decide) ?_
    refine aw_wk (loop T 0 (-1, 0) s2 e2 hl hlen h7 (by omega) hXX) (And.intro rfl (And.intro rfl (And.intro rfl (And.intro rfl (And.intro rfl True.intro)))))
  · have h7 : LL.length = 0 := (nI_eq (b := 0) (by omega) (by decide)).mp h6
    refine aw_iconst (v := -1) rfl (by decide) ?_
    exact aw_ei rfl rfl (by rw [if_pos h7]) e2
