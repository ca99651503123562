def m_openers (s : am_S) (Q : Nat) (t : Int32) : Int32 := if shm s (s 52) t = true then fd (fun i a => a ||| (if cPm s (s 52) t (nI i) = true then (if skm (s 52) (cl t) i = true then bt i else 0) else 0)) 0 Q 0 else -1
def m_tells (s : am_S) (T : Nat) (r : Int32) : Int32 := if isRm s r = true then fd (fun i a => a + (if s 46 (5 * i) = r then 0 else if hs (s 52 (3 * i + 2)) r = true then s 46 (5 * i + 2) else 0)) 0 T 0 else -1
def m_count (s : am_S) (x : Int32) : Int32 := if x = 0 then s 39 26 else if x = 1 then s 39 27 else if x = 2 then s 39 7 else if x = 3 then s 39 30 else if x = 4 then s 39 6 else if x = 5 then s 39 34 else if x = 6 then s 52 35 else if x = 7 then s 52 33 else if x = 8 then s 39 35 else if x = 9 then s 39 47 else if x = 10 then s 52 36 else if x = 11 then s 39 39 else -1000000
def m_log (s : am_S) (G : Nat) (i x : Int32) : Int32 := if inn i.toInt64 0 (s 52 36 - 1).toInt64 = true then (if inn x.toInt64 0 2 = true then s 52 (37 + 3 * (G - 1 - cl i) + cl x) else -1) else -1
def m_step (s : am_S) (k i x : Int32) : Int32 := if isPm s k = true then (if inn i.toInt64 0 (s 51 (cl k) - 1).toInt64 = true then (if inn x.toInt64 0 2 = true then s 50 (3 * (16 * cl k + cl i) + cl x) else -1000000) else -1000000) else -1000000
def m_noted (s : am_S) (N : Nat) (r t b : Int32) : Int32 × am_S := if isRm s r = false then (-1, s) else if isTm s t = false then (-1, s) else if N = 10 then (-1, s) else (nI (N + 1), up (up (up (up s 60 (3 * N) r) 60 (3 * N + 1) t) 60 (3 * N + 2) b) 39 47 (nI (N + 1)))
theorem not_not' {p : Prop} [Decidable p] (h : ¬ ¬ p) : p := Decidable.of_not_not h
theorem log_ix {G : Nat} {x i : Int32} (hg : x = nI G) (h6 : G ≤ 60) (h : inn i.toInt64 0 (x - 1).toInt64 = true) : ∃ j, j < G ∧ i = nI j := by
  subst hg
  rw [inn_i (A := 0) (B := (nI G - 1).toInt) (by decide) (Int32.toInt_toInt64 _)] at h
  simp only [Bool.and_eq_true, decide_eq_true_eq] at h
  by_cases h0 : G = 0
  · subst h0
    have e : (nI 0 - 1).toInt = -1 := by decide
    omega
  · rw [nI_m1 (by omega), nI_toInt (by omega)] at h
    obtain ⟨j, hj, rfl⟩ := nI_of (x := i) (by rw [Int32.lt_iff_toInt_lt]; have e0 : (0 : Int32).toInt = 0 := (by decide); omega)
    rw [nI_toInt hj] at h
    exact ⟨j, by omega, rfl⟩
theorem nI_sb {a b : Nat} (h : b ≤ a) : nI a - nI b = nI (a - b) := by
  have e := nI_add (a - b) b
  rw [Nat.sub_add_cancel h] at e
  rw [← e, Int32.add_sub_cancel]
theorem log_ad {G j y : Nat} {x : Int32} (hg : x = nI G) (hj : j < G) (h6 : G ≤ 60) : (37 : Int32) + 3 * (x - 1 - nI j) + nI y = nI (37 + 3 * (G - 1 - j) + y) := by
  subst hg
  rw [nI_m1 (by omega), show nI (G - 1) - nI j = nI (G - 1 - j) from nI_sb (by omega), i30, show (37 : Int32) + nI (3 * (G - 1 - j)) = nI (37 + 3 * (G - 1 - j)) from nI_add 37 _]
  exact nI_add _ _
theorem stp_ad (k j y : Nat) : (3 : Int32) * (16 * nI k + nI j) + nI y = nI (3 * (16 * k + j) + y) := by
  rw [show (16 : Int32) * nI k = nI (16 * k) from pk_mul 16 k, nI_add, i30]
  exact nI_add _ _
theorem isPm_nI {s : am_S} {P : Nat} {t : Int32} (h : s 39 30 = nI P) (hP : P ≤ 4) (ht : isPm s t = true) : ∃ j, j < P ∧ t = nI j := by
  unfold isPm at ht
  simp only [Bool.and_eq_true, decide_eq_true_eq] at ht
  rw [h] at ht
  exact nI_lt7 (by omega) ht.1 ht.2
set_option maxRecDepth 4000 in
theorem c_m_known {l : Launch} {g : ag_G} {s : am_S} {n : am_N} {T Q : Nat} {r : Int32} (hb : mb s T Q) : aw_F l g mi_X12_known 1 [.ref (g_ad g 39), .int r] (hp g s n) (.int (m_known (up s 39 0 0) T r)) (hp g ((up s 39 0 0)) n) := by
  refine aw_F_of mo_X12_known (by decide) (Nat.le_of_ble_eq_true rfl) ?_
  refine aw_aload_n rfl rfl ?_
  refine aw_iconst (v := 0) rfl (by decide) ?_
  refine pp_39_0 rfl kl_X12_96 ?_
  have hb : mb (up s 39 0 0) T Q := hb
  skip
  generalize up s 39 0 0 = S at *
  have hT := hb.2.1
  have hN_loop : T < 2 ^ 31 := (by omega)
  have loop : ∀ (X : Int32) (d i : Nat) (a : Int32), i + d = T → fd (fun i a => a ||| (if hs (S 52 (3 * i + 2)) r = true then bt i else 0)) i d a = X → aw_W l g mi_X12_known (aw_rm 1 0 0) (aw_Z g (fun r w => r = some (.int (X)) ∧ w = hp g S n) 0 0) 0 0 (hp g S n) 19 [some (.ref (g_ad g 39)), some (.int r), some (.int a), some (.int (nI i))] [] := by
    intro X d
    induction d with
    | zero =>
      intro i a hi hX
      simp only [fd] at hX
      subst hX
      have hiN : i = T := by omega
      refine aw_iload_n rfl rfl ?_
      refine aw_aload_n rfl rfl ?_
      refine pg_39_26 rfl kl_X12_291 ?_
      refine aw_icmp_ge (tgt := 60) rfl (by decide) (fun h24 => ?_) (fun h24 => absurd (by rw [hb.1]; exact nI_le (by omega) (by omega)) h24)
      refine aw_iload_n rfl rfl ?_
      exact aw_fi rfl rfl rfl rfl
    | succ d ih =>
      intro i a hi hX
      simp only [fd] at hX
      refine aw_iload_n rfl rfl ?_
      refine aw_aload_n rfl rfl ?_
      refine pg_39_26 rfl kl_X12_291 ?_
      refine aw_icmp_ge (tgt := 60) rfl (by decide) (fun h24 => absurd h24 (by rw [hb.1]; exact nI_ge (by omega) (by omega))) (fun h24 => ?_)
      refine aw_iload_n rfl rfl ?_
      refine aw_aload_n rfl rfl ?_
      refine pg_39_32 rfl kl_X12_61 ?_
      refine aw_iconst (v := 3) rfl (by decide) ?_
      refine aw_iload_n rfl rfl ?_
      refine aw_imul rfl ?_
      refine aw_iconst (v := 2) rfl (by decide) ?_
      refine aw_iadd rfl ?_
      refine pl_52 rfl (i3 i 2) (by omega) ?_
      refine aw_iload_n rfl rfl ?_
      refine aw_iS rfl cw_X12_229 (c_m_has) rfl rfl (Nat.le_of_ble_eq_true rfl) (by decide) (by decide) (by decide) (by decide) ?_
      refine aw_if_eq (tgt := 51) rfl (by decide) (fun h42 => ?_) (fun h42 => ?_)
      · refine aw_iconst (v := 0) rfl (by decide) ?_
        refine aw_ior rfl ?_
        refine aw_istore_n rfl (by decide) ?_
        refine aw_inc1 rfl rfl (by decide) ?_
        refine aw_goto (tgt := 19) rfl (by decide) ?_
        refine aw_wk (ih (i + 1) _ (by omega) ?_) (And.intro rfl (And.intro rfl (And.intro rfl (And.intro (congrArg (fun x => some (Value.int x)) (nI_1 i)) True.intro))))
        refine Eq.trans (congrArg _ ?_) hX
        first | (simp only [bB_n0.mp h42, if_true]; rfl) | (simp only [bB_0.mp h42]; rfl)
      · refine aw_iconst (v := 1) rfl (by decide) ?_
        refine aw_iload_n rfl rfl ?_
        refine aw_ishl rfl ?_
        refine aw_goto (tgt := 52) rfl (by decide) ?_
        refine aw_ior rfl ?_
        refine aw_istore_n rfl (by decide) ?_
        refine aw_inc1 rfl rfl (by decide) ?_
        refine aw_goto (tgt := 19) rfl (by decide) ?_
        refine aw_wk (ih (i + 1) _ (by omega) ?_) (And.intro rfl (And.intro rfl (And.intro rfl (And.intro (congrArg (fun x => some (Value.int x)) (nI_1 i)) True.intro))))
        refine Eq.trans (congrArg _ ?_) hX
        first | (simp only [bB_n0.mp h42, if_true]; rfl) | (simp only [bB_0.mp h42]; rfl)
  refine aw_aload_n rfl rfl ?_
  refine aw_iload_n rfl rfl ?_
  refine aw_iV (q0 := 39) (ci := 12) rfl cw_X12_351 rfl rfl rfl (c_m_isRing) rfl rfl (Nat.le_of_ble_eq_true rfl) (by decide) (by decide) (by decide) (by decide) ?_
  refine aw_if_ne (tgt := 15) rfl (by decide) (fun h10 => ?_) (fun h10 => ?_)
  · refine aw_iconst (v := 0) rfl (by decide) ?_
    refine aw_istore_n rfl (by decide) ?_
    refine aw_iconst (v := 0) rfl (by decide) ?_
    refine aw_istore_n rfl (by decide) ?_
    unfold m_known
    rw [if_pos (bB_n0.mp h10)]
    refine aw_wk (loop _ T 0 0 (by omega) rfl) (And.intro rfl (And.intro rfl (And.intro rfl (And.intro rfl True.intro))))
  · refine aw_iconst (v := -1) rfl (by decide) ?_
    exact aw_fi rfl rfl (by simp [m_known, bB_0.mp (by simpa using h10)]) rfl
set_option maxRecDepth 4000 in
theorem c_m_tells {l : Launch} {g : ag_G} {s : am_S} {n : am_N} {T Q : Nat} {r : Int32} (hb : mb s T Q) : aw_F l g mi_X12_tells 1 [.ref (g_ad g 39), .int r] (hp g s n) (.int (m_tells (up s 39 0 0) T r)) (hp g ((up s 39 0 0)) n) := by
  refine aw_F_of mo_X12_tells (by decide) (Nat.le_of_ble_eq_true rfl) ?_
  refine aw_aload_n rfl rfl ?_
  refine aw_iconst (v := 0) rfl (by decide) ?_
  refine pp_39_0 rfl kl_X12_96 ?_
  have hb : mb (up s 39 0 0) T Q := hb
  skip
  generalize up s 39 0 0 = S at *
  have hT := hb.2.1
  have hN_loop : T < 2 ^ 31 := (by omega)
  have loop : ∀ (X : Int32) (d i : Nat) (a : Int32), i + d = T → fd (fun i a => a + (if S 46 (5 * i) = r then 0 else if hs (S 52 (3 * i + 2)) r = true then S 46 (5 * i + 2) else 0)) i d a = X → aw_W l g mi_X12_tells (aw_rm 1 0 0) (aw_Z g (fun r w => r = some (.int (X)) ∧ w = hp g S n) 0 0) 0 0 (hp g S n) 19 [some (.ref (g_ad g 39)), some (.int r), some (.int a), some (.int (nI i))] [] := by
    intro X d
    induction d with
    | zero =>
      intro i a hi hX
      simp only [fd] at hX
      subst hX
      have hiN : i = T := by omega
      refine aw_iload_n rfl rfl ?_
      refine aw_aload_n rfl rfl ?_
      refine pg_39_26 rfl kl_X12_291 ?_
      refine aw_icmp_ge (tgt := 73) rfl (by decide) (fun h24 => ?_) (fun h24 => absurd (by rw [hb.1]; exact nI_le (by omega) (by omega)) h24)
      refine aw_iload_n rfl rfl ?_
      exact aw_fi rfl rfl rfl rfl
    | succ d ih =>
      intro i a hi hX
      simp only [fd] at hX
      refine aw_iload_n rfl rfl ?_
      refine aw_aload_n rfl rfl ?_
      refine pg_39_26 rfl kl_X12_291 ?_
      refine aw_icmp_ge (tgt := 73) rfl (by decide) (fun h24 => absurd h24 (by rw [hb.1]; exact nI_ge (by omega) (by omega))) (fun h24 => ?_)
      refine aw_iload_n rfl rfl ?_
      refine aw_aload_n rfl rfl ?_
      refine aw_iload_n rfl rfl ?_
      refine aw_iconst (v := 0) rfl (by decide) ?_
      refine aw_iV (q0 := 39) (ci := 12) rfl cw_X12_319 rfl rfl rfl (c_m_of (c := 0) (by omega) (by decide)) rfl rfl (Nat.le_of_ble_eq_true rfl) (by decide) (by decide) (by decide) (by decide) ?_
      refine aw_iload_n rfl rfl ?_
      refine aw_icmp_eq (tgt := 64) rfl (by decide) (fun h35 => ?_) (fun h35 => ?_)
      · refine aw_iconst (v := 0) rfl (by decide) ?_
        refine aw_iadd rfl ?_
        refine aw_istore_n rfl (by decide) ?_
        refine aw_inc1 rfl rfl (by decide) ?_
        refine aw_goto (tgt := 19) rfl (by decide) ?_
        refine aw_wk (ih (i + 1) _ (by omega) ?_) (And.intro rfl (And.intro rfl (And.intro rfl (And.intro (congrArg (fun x => some (Value.int x)) (nI_1 i)) True.intro))))
        refine Eq.trans (congrArg _ ?_) hX
        first | (rw [if_pos (show S 46 (5 * i) = r from h35)]; done) | (rw [if_neg (show ¬ S 46 (5 * i) = r from h35), if_pos (bB_n0.mp h52)]; done) | (rw [if_neg (show ¬ S 46 (5 * i) = r from h35), bB_0.mp h52]; rfl)
      · refine aw_aload_n rfl rfl ?_
        refine pg_39_32 rfl kl_X12_61 ?_
        refine aw_iconst (v := 3) rfl (by decide) ?_
        refine aw_iload_n rfl rfl ?_
        refine aw_imul rfl ?_
        refine aw_iconst (v := 2) rfl (by decide) ?_
        refine aw_iadd rfl ?_
        refine pl_52 rfl (i3 i 2) (by omega) ?_
        refine aw_iload_n rfl rfl ?_
        refine aw_iS rfl cw_X12_229 (c_m_has) rfl rfl (Nat.le_of_ble_eq_true rfl) (by decide) (by decide) (by decide) (by decide) ?_
        refine aw_if_eq (tgt := 64) rfl (by decide) (fun h52 => ?_) (fun h52 => ?_)
        · refine aw_iconst (v := 0) rfl (by decide) ?_
          refine aw_iadd rfl ?_
          refine aw_istore_n rfl (by decide) ?_
          refine aw_inc1 rfl rfl (by decide) ?_
          refine aw_goto (tgt := 19) rfl (by decide) ?_
          refine aw_wk (ih (i + 1) _ (by omega) ?_) (And.intro rfl (And.intro rfl (And.intro rfl (And.intro (congrArg (fun x => some (Value.int x)) (nI_1 i)) True.intro))))
          refine Eq.trans (congrArg _ ?_) hX
          first | (rw [if_pos (show S 46 (5 * i) = r from h35)]; done) | (rw [if_neg (show ¬ S 46 (5 * i) = r from h35), if_pos (bB_n0.mp h52)]; done) | (rw [if_neg (show ¬ S 46 (5 * i) = r from h35), bB_0.mp h52]; rfl)
        · refine aw_aload_n rfl rfl ?_
          refine aw_iload_n rfl rfl ?_
          refine aw_iconst (v := 2) rfl (by decide) ?_
          refine aw_iV (q0 := 39) (ci := 12) rfl cw_X12_319 rfl rfl rfl (c_m_of (c := 2) (by omega) (by decide)) rfl rfl (Nat.le_of_ble_eq_true rfl) (by decide) (by decide) (by decide) (by decide) ?_
          refine aw_goto (tgt := 65) rfl (by decide) ?_
          refine aw_iadd rfl ?_
          refine aw_istore_n rfl (by decide) ?_
          refine aw_inc1 rfl rfl (by decide) ?_
          refine aw_goto (tgt := 19) rfl (by decide) ?_
          refine aw_wk (ih (i + 1) _ (by omega) ?_) (And.intro rfl (And.intro rfl (And.intro rfl (And.intro (congrArg (fun x => some (Value.int x)) (nI_1 i)) True.intro))))
          refine Eq.trans (congrArg _ ?_) hX
          first | (rw [if_pos (show S 46 (5 * i) = r from h35)]; done) | (rw [if_neg (show ¬ S 46 (5 * i) = r from h35), if_pos (bB_n0.mp h52)]; done) | (rw [if_neg (show ¬ S 46 (5 * i) = r from h35), bB_0.mp h52]; rfl)
  refine aw_aload_n rfl rfl ?_
  refine aw_iload_n rfl rfl ?_
  refine aw_iV (q0 := 39) (ci := 12) rfl cw_X12_351 rfl rfl rfl (c_m_isRing) rfl rfl (Nat.le_of_ble_eq_true rfl) (by decide) (by decide) (by decide) (by decide) ?_
  refine aw_if_ne (tgt := 15) rfl (by decide) (fun h10 => ?_) (fun h10 => ?_)
  · refine aw_iconst (v := 0) rfl (by decide) ?_
    refine aw_istore_n rfl (by decide) ?_
    refine aw_iconst (v := 0) rfl (by decide) ?_
    refine aw_istore_n rfl (by decide) ?_
    unfold m_tells
    rw [if_pos (bB_n0.mp h10)]
    refine aw_wk (loop _ T 0 0 (by omega) rfl) (And.intro rfl (And.intro rfl (And.intro rfl (And.intro rfl True.intro))))
  · refine aw_iconst (v := -1) rfl (by decide) ?_
    exact aw_fi rfl rfl (by simp [m_tells, bB_0.mp (by simpa using h10)]) rfl
set_option maxRecDepth 4000 in
theorem c_m_openers {l : Launch} {g : ag_G} {s : am_S} {n : am_N} {T Q : Nat} {t : Int32} (hb : mb s T Q) : aw_F l g mi_X12_openers 3 [.ref (g_ad g 39), .int t] (hp g s n) (.int (m_openers (up s 39 0 0) Q t)) (hp g ((up s 39 0 0)) n) := by
  refine aw_F_of mo_X12_openers (by decide) (Nat.le_of_ble_eq_true rfl) ?_
  refine aw_aload_n rfl rfl ?_
  refine aw_iconst (v := 0) rfl (by decide) ?_
  refine pp_39_0 rfl kl_X12_96 ?_
  have hb : mb (up s 39 0 0) T Q := hb
  skip
  generalize up s 39 0 0 = S at *
  have hT := hb.2.1
  have hQ := hb.2.2.2.1
  refine aw_aload_n rfl rfl ?_
  refine aw_aload_n rfl rfl ?_
  refine pg_39_32 rfl kl_X12_61 ?_
  refine aw_iload_n rfl rfl ?_
  refine aw_iV (q0 := 39) (ci := 12) rfl cw_X12_379 rfl rfl rfl (c_m_isShut_52 hb) rfl rfl (Nat.le_of_ble_eq_true rfl) (by decide) (by decide) (by decide) (by decide) ?_
  refine aw_if_ne (tgt := 19) rfl (by decide) (fun h14 => ?_) (fun h14 => ?_)
  · have q := bB_n0.mp h14
    obtain ⟨j, hj, rfl⟩ := isTm_nI hb (Bool.and_eq_true_iff.mp q).1
    have hcj : cl (nI j) = j := cl_nI (by omega)
    unfold m_openers
    rw [if_pos q, hcj]
    have hN_loop : Q < 2 ^ 31 := (by omega)
    have loop : ∀ (X : Int32) (d i : Nat) (a : Int32), i + d = Q → fd (fun i a => a ||| (if cPm S (S 52) (nI j) (nI i) = true then (if skm (S 52) j i = true then bt i else 0) else 0)) i d a = X → aw_W l g mi_X12_openers (aw_rm 3 0 0) (aw_Z g (fun r w => r = some (.int (X)) ∧ w = hp g S n) 0 0) 0 0 (hp g S n) 23 [some (.ref (g_ad g 39)), some (.int (nI j)), some (.int a), some (.int (nI i))] [] := by
      intro X d
      induction d with
      | zero =>
        intro i a hi hX
        simp only [fd] at hX
        subst hX
        have hiN : i = Q := by omega
        refine aw_iload_n rfl rfl ?_
        refine aw_aload_n rfl rfl ?_
        refine pg_39_27 rfl kl_X12_294 ?_
        refine aw_icmp_ge (tgt := 72) rfl (by decide) (fun h28 => ?_) (fun h28 => absurd (by rw [hb.2.2.1]; exact nI_le (by omega) (by omega)) h28)
        refine aw_iload_n rfl rfl ?_
        exact aw_fi rfl rfl rfl rfl
      | succ d ih =>
        intro i a hi hX
        simp only [fd] at hX
        refine aw_iload_n rfl rfl ?_
        refine aw_aload_n rfl rfl ?_
        refine pg_39_27 rfl kl_X12_294 ?_
        refine aw_icmp_ge (tgt := 72) rfl (by decide) (fun h28 => absurd h28 (by rw [hb.2.2.1]; exact nI_ge (by omega) (by omega))) (fun h28 => ?_)
        refine aw_iload_n rfl rfl ?_
        refine aw_aload_n rfl rfl ?_
        refine aw_aload_n rfl rfl ?_
        refine pg_39_32 rfl kl_X12_61 ?_
        refine aw_iload_n rfl rfl ?_
        refine aw_iload_n rfl rfl ?_
        refine aw_iV (q0 := 39) (ci := 12) rfl cw_X12_389 rfl rfl rfl (c_m_canPry_52 hb) rfl rfl (Nat.le_of_ble_eq_true rfl) (by decide) (by decide) (by decide) (by decide) ?_
        refine aw_if_eq (tgt := 63) rfl (by decide) (fun h42 => ?_) (fun h42 => ?_)
        · refine aw_iconst (v := 0) rfl (by decide) ?_
          refine aw_ior rfl ?_
          refine aw_istore_n rfl (by decide) ?_
          refine aw_inc1 rfl rfl (by decide) ?_
          refine aw_goto (tgt := 23) rfl (by decide) ?_
          refine aw_wk (ih (i + 1) _ (by omega) ?_) (And.intro rfl (And.intro rfl (And.intro rfl (And.intro (congrArg (fun x => some (Value.int x)) (nI_1 i)) True.intro))))
          refine Eq.trans (congrArg _ ?_) hX
          first | (simp only [bB_n0.mp h42, bB_n0.mp h54, if_true]; rfl) | (simp only [bB_n0.mp h42, bB_0.mp h54, if_true]; rfl) | (simp only [bB_0.mp h42]; rfl)
        · refine aw_aload_n rfl rfl ?_
          refine pg_39_32 rfl kl_X12_61 ?_
          refine aw_iload_n rfl rfl ?_
          refine aw_iload_n rfl rfl ?_
          refine aw_iS rfl cw_X12_386 (c_m_isSkilled_52 (by omega) (by omega)) rfl rfl (Nat.le_of_ble_eq_true rfl) (by decide) (by decide) (by decide) (by decide) ?_
          refine aw_if_eq (tgt := 63) rfl (by decide) (fun h54 => ?_) (fun h54 => ?_)
          · refine aw_iconst (v := 0) rfl (by decide) ?_
            refine aw_ior rfl ?_
            refine aw_istore_n rfl (by decide) ?_
            refine aw_inc1 rfl rfl (by decide) ?_
            refine aw_goto (tgt := 23) rfl (by decide) ?_
            refine aw_wk (ih (i + 1) _ (by omega) ?_) (And.intro rfl (And.intro rfl (And.intro rfl (And.intro (congrArg (fun x => some (Value.int x)) (nI_1 i)) True.intro))))
            refine Eq.trans (congrArg _ ?_) hX
            first | (simp only [bB_n0.mp h42, bB_n0.mp h54, if_true]; rfl) | (simp only [bB_n0.mp h42, bB_0.mp h54, if_true]; rfl) | (simp only [bB_0.mp h42]; rfl)
          · refine aw_iconst (v := 1) rfl (by decide) ?_
            refine aw_iload_n rfl rfl ?_
            refine aw_ishl rfl ?_
            refine aw_goto (tgt := 64) rfl (by decide) ?_
            refine aw_ior rfl ?_
            refine aw_istore_n rfl (by decide) ?_
            refine aw_inc1 rfl rfl (by decide) ?_
            refine aw_goto (tgt := 23) rfl (by decide) ?_
            refine aw_wk (ih (i + 1) _ (by omega) ?_) (And.intro rfl (And.intro rfl (And.intro rfl (And.intro (congrArg (fun x => some (Value.int x)) (nI_1 i)) True.intro))))
            refine Eq.trans (congrArg _ ?_) hX
            first | (simp only [bB_n0.mp h42, bB_n0.mp h54, if_true]; rfl) | (simp only [bB_n0.mp h42, bB_0.mp h54, if_true]; rfl) | (simp only [bB_0.mp h42]; rfl)
    refine aw_iconst (v := 0) rfl (by decide) ?_
    refine aw_istore_n rfl (by decide) ?_
    refine aw_iconst (v := 0) rfl (by decide) ?_
    refine aw_istore_n rfl (by decide) ?_
    refine aw_wk (loop _ Q 0 0 (by omega) rfl) (And.intro rfl (And.intro rfl (And.intro rfl (And.intro rfl True.intro))))
  · refine aw_iconst (v := -1) rfl (by decide) ?_
    exact aw_fi rfl rfl (by simp [m_openers, bB_0.mp (by simpa using h14)]) rfl
set_option maxRecDepth 4000 in
theorem c_m_count {l : Launch} {g : ag_G} {s : am_S} {n : am_N} {x : Int32} : aw_F l g mi_X12_count 0 [.ref (g_ad g 39), .int x] (hp g s n) (.int (m_count (up s 39 0 0) x)) (hp g ((up s 39 0 0)) n) := by
  refine aw_F_of mo_X12_count (by decide) (Nat.le_of_ble_eq_true rfl) ?_
  refine aw_aload_n rfl rfl ?_
  refine aw_iconst (v := 0) rfl (by decide) ?_
  refine pp_39_0 rfl kl_X12_96 ?_
  generalize up s 39 0 0 = S at *
  refine aw_iload_n rfl rfl ?_
  refine aw_sw 0 (fun h6_0 => ?_) (fun h6_0 => ?_)
  · refine aw_tabIn (off := 62) (tgt := 68) rfl (by decide) (by decide) (by decide) (by decide) ?_
    refine aw_aload_n rfl rfl ?_
    refine pg_39_26 rfl kl_X12_291 ?_
    exact aw_fi rfl rfl (by simp [m_count, h6_0]) rfl
  · skip
    refine aw_sw 1 (fun h6_1 => ?_) (fun h6_1 => ?_)
    · refine aw_tabIn (off := 67) (tgt := 73) rfl (by decide) (by decide) (by decide) (by decide) ?_
      refine aw_aload_n rfl rfl ?_
      refine pg_39_27 rfl kl_X12_294 ?_
      exact aw_fi rfl rfl (by simp [m_count, h6_0, h6_1]) rfl
    · skip
      refine aw_sw 2 (fun h6_2 => ?_) (fun h6_2 => ?_)
      · refine aw_tabIn (off := 72) (tgt := 78) rfl (by decide) (by decide) (by decide) (by decide) ?_
        refine aw_aload_n rfl rfl ?_
        refine pg_39_7 rfl kl_X12_283 ?_
        exact aw_fi rfl rfl (by simp [m_count, h6_0, h6_1, h6_2]) rfl
      · skip
        refine aw_sw 3 (fun h6_3 => ?_) (fun h6_3 => ?_)
        · refine aw_tabIn (off := 77) (tgt := 83) rfl (by decide) (by decide) (by decide) (by decide) ?_
          refine aw_aload_n rfl rfl ?_
          refine pg_39_30 rfl kl_X12_286 ?_
          exact aw_fi rfl rfl (by simp [m_count, h6_0, h6_1, h6_2, h6_3]) rfl
        · skip
          refine aw_sw 4 (fun h6_4 => ?_) (fun h6_4 => ?_)
          · refine aw_tabIn (off := 82) (tgt := 88) rfl (by decide) (by decide) (by decide) (by decide) ?_
            refine aw_aload_n rfl rfl ?_
            refine pg_39_6 rfl kl_X12_109 ?_
            exact aw_fi rfl rfl (by simp [m_count, h6_0, h6_1, h6_2, h6_3, h6_4]) rfl
          · skip
            refine aw_sw 5 (fun h6_5 => ?_) (fun h6_5 => ?_)
            · refine aw_tabIn (off := 87) (tgt := 93) rfl (by decide) (by decide) (by decide) (by decide) ?_
              refine aw_aload_n rfl rfl ?_
              refine pg_39_34 rfl kl_X12_67 ?_
              exact aw_fi rfl rfl (by simp [m_count, h6_0, h6_1, h6_2, h6_3, h6_4, h6_5]) rfl
            · skip
              refine aw_sw 6 (fun h6_6 => ?_) (fun h6_6 => ?_)
              · refine aw_tabIn (off := 92) (tgt := 98) rfl (by decide) (by decide) (by decide) (by decide) ?_
                refine aw_aload_n rfl rfl ?_
                refine pg_39_32 rfl kl_X12_61 ?_
                refine aw_bipush (v := 35) rfl (by decide) ?_
                refine pl_52 (j := 35) rfl rfl (by decide) ?_
                exact aw_fi rfl rfl (by simp [m_count, h6_0, h6_1, h6_2, h6_3, h6_4, h6_5, h6_6]) rfl
              · skip
                refine aw_sw 7 (fun h6_7 => ?_) (fun h6_7 => ?_)
                · refine aw_tabIn (off := 100) (tgt := 106) rfl (by decide) (by decide) (by decide) (by decide) ?_
                  refine aw_aload_n rfl rfl ?_
                  refine pg_39_32 rfl kl_X12_61 ?_
                  refine aw_bipush (v := 33) rfl (by decide) ?_
                  refine pl_52 (j := 33) rfl rfl (by decide) ?_
                  exact aw_fi rfl rfl (by simp [m_count, h6_0, h6_1, h6_2, h6_3, h6_4, h6_5, h6_6, h6_7]) rfl
                · skip
                  refine aw_sw 8 (fun h6_8 => ?_) (fun h6_8 => ?_)
                  · refine aw_tabIn (off := 108) (tgt := 114) rfl (by decide) (by decide) (by decide) (by decide) ?_
                    refine aw_aload_n rfl rfl ?_
                    refine pg_39_35 rfl kl_X12_356 ?_
                    exact aw_fi rfl rfl (by simp [m_count, h6_0, h6_1, h6_2, h6_3, h6_4, h6_5, h6_6, h6_7, h6_8]) rfl
                  · skip
                    refine aw_sw 9 (fun h6_9 => ?_) (fun h6_9 => ?_)
                    · refine aw_tabIn (off := 113) (tgt := 119) rfl (by decide) (by decide) (by decide) (by decide) ?_
                      refine aw_aload_n rfl rfl ?_
                      refine pg_39_47 rfl kl_X12_300 ?_
                      exact aw_fi rfl rfl (by simp [m_count, h6_0, h6_1, h6_2, h6_3, h6_4, h6_5, h6_6, h6_7, h6_8, h6_9]) rfl
                    · skip
                      refine aw_sw 10 (fun h6_10 => ?_) (fun h6_10 => ?_)
                      · refine aw_tabIn (off := 118) (tgt := 124) rfl (by decide) (by decide) (by decide) (by decide) ?_
                        refine aw_aload_n rfl rfl ?_
                        refine pg_39_32 rfl kl_X12_61 ?_
                        refine aw_bipush (v := 36) rfl (by decide) ?_
                        refine pl_52 (j := 36) rfl rfl (by decide) ?_
                        exact aw_fi rfl rfl (by simp [m_count, h6_0, h6_1, h6_2, h6_3, h6_4, h6_5, h6_6, h6_7, h6_8, h6_9, h6_10]) rfl
                      · skip
                        refine aw_sw 11 (fun h6_11 => ?_) (fun h6_11 => ?_)
                        · refine aw_tabIn (off := 126) (tgt := 132) rfl (by decide) (by decide) (by decide) (by decide) ?_
                          refine aw_aload_n rfl rfl ?_
                          refine pg_39_39 rfl kl_X12_303 ?_
                          exact aw_fi rfl rfl (by simp [m_count, h6_0, h6_1, h6_2, h6_3, h6_4, h6_5, h6_6, h6_7, h6_8, h6_9, h6_10, h6_11]) rfl
                        · skip
                          refine aw_tabOut (tgt := 137) rfl (by have e0 := ne_toInt h6_0 (i := 0) (by decide); have e1 := ne_toInt h6_1 (i := 1) (by decide); have e2 := ne_toInt h6_2 (i := 2) (by decide); have e3 := ne_toInt h6_3 (i := 3) (by decide); have e4 := ne_toInt h6_4 (i := 4) (by decide); have e5 := ne_toInt h6_5 (i := 5) (by decide); have e6 := ne_toInt h6_6 (i := 6) (by decide); have e7 := ne_toInt h6_7 (i := 7) (by decide); have e8 := ne_toInt h6_8 (i := 8) (by decide); have e9 := ne_toInt h6_9 (i := 9) (by decide); have e10 := ne_toInt h6_10 (i := 10) (by decide); have e11 := ne_toInt h6_11 (i := 11) (by decide); omega) (by decide) ?_
                          refine aw_ldcw (v := -1000000) rfl (aw_t7 227 rfl rfl) ?_
                          exact aw_fi rfl rfl (by simp [m_count, h6_0, h6_1, h6_2, h6_3, h6_4, h6_5, h6_6, h6_7, h6_8, h6_9, h6_10, h6_11]) rfl
set_option maxRecDepth 4000 in
theorem c_m_log {l : Launch} {g : ag_G} {s : am_S} {n : am_N} {G : Nat} {i x : Int32} (hg : s 52 36 = nI G) (hg6 : G ≤ 60) : aw_F l g mi_X12_log 1 [.ref (g_ad g 39), .int i, .int x] (hp g s n) (.int (m_log (up s 39 0 0) G i x)) (hp g ((up s 39 0 0)) n) := by
  refine aw_F_of mo_X12_log (by decide) (Nat.le_of_ble_eq_true rfl) ?_
  refine aw_aload_n rfl rfl ?_
  refine aw_iconst (v := 0) rfl (by decide) ?_
  refine pp_39_0 rfl kl_X12_96 ?_
  have hg : (up s 39 0 0) 52 36 = nI G := hg
  skip
  generalize up s 39 0 0 = S at *
  refine aw_iload_n rfl rfl ?_
  refine aw_i2l rfl ?_
  refine aw_lconst (v := 0) rfl (by decide) ?_
  refine aw_aload_n rfl rfl ?_
  refine pg_39_32 rfl kl_X12_61 ?_
  refine aw_bipush (v := 36) rfl (by decide) ?_
  refine pl_52 (j := 36) rfl rfl (by decide) ?_
  refine aw_iconst (v := 1) rfl (by decide) ?_
  refine aw_isub rfl ?_
  refine aw_i2l rfl ?_
  refine aw_iS rfl cw_X12_217 (c_m_isIn) rfl rfl (Nat.le_of_ble_eq_true rfl) (by decide) (by decide) (by decide) (by decide) ?_
  refine aw_if_eq (tgt := 62) rfl (by decide) (fun h21 => ?_) (fun h21 => ?_)
  · refine aw_iconst (v := -1) rfl (by decide) ?_
    exact aw_fi rfl rfl (by first | (simp [m_log, bB_0.mp h21]; done) | (simp [m_log, bB_n0.mp h21, bB_0.mp h33]; done) | (unfold m_log; rw [if_pos q1, if_pos q2, cl_nI (by omega), cl_nI (by omega)])) rfl
  · have q1 := bB_n0.mp h21
    refine aw_iload_n rfl rfl ?_
    refine aw_i2l rfl ?_
    refine aw_lconst (v := 0) rfl (by decide) ?_
    refine aw_ldc2 (v := 2) rfl (aw_t6 165 rfl rfl) ?_
    refine aw_iS rfl cw_X12_217 (c_m_isIn) rfl rfl (Nat.le_of_ble_eq_true rfl) (by decide) (by decide) (by decide) (by decide) ?_
    refine aw_if_eq (tgt := 62) rfl (by decide) (fun h33 => ?_) (fun h33 => ?_)
    · refine aw_iconst (v := -1) rfl (by decide) ?_
      exact aw_fi rfl rfl (by first | (simp [m_log, bB_0.mp h21]; done) | (simp [m_log, bB_n0.mp h21, bB_0.mp h33]; done) | (unfold m_log; rw [if_pos q1, if_pos q2, cl_nI (by omega), cl_nI (by omega)])) rfl
    · have q2 := bB_n0.mp h33
      obtain ⟨j, hj, rfl⟩ := log_ix hg hg6 q1
      obtain ⟨y, hy, rfl⟩ := inn_nI (M := 2) (by decide) (by decide) q2
      refine aw_aload_n rfl rfl ?_
      refine pg_39_32 rfl kl_X12_61 ?_
      refine aw_bipush (v := 37) rfl (by decide) ?_
      refine aw_iconst (v := 3) rfl (by decide) ?_
      refine aw_aload_n rfl rfl ?_
      refine pg_39_32 rfl kl_X12_61 ?_
      refine aw_bipush (v := 36) rfl (by decide) ?_
      refine pl_52 (j := 36) rfl rfl (by decide) ?_
      refine aw_iconst (v := 1) rfl (by decide) ?_
      refine aw_isub rfl ?_
      refine aw_iload_n rfl rfl ?_
      refine aw_isub rfl ?_
      refine aw_imul rfl ?_
      refine aw_iadd rfl ?_
      refine aw_iload_n rfl rfl ?_
      refine aw_iadd rfl ?_
      refine pl_52 rfl (log_ad hg hj hg6) (by omega) ?_
      refine aw_goto (tgt := 63) rfl (by decide) ?_
      exact aw_fi rfl rfl (by first | (simp [m_log, bB_0.mp h21]; done) | (simp [m_log, bB_n0.mp h21, bB_0.mp h33]; done) | (unfold m_log; rw [if_pos q1, if_pos q2, cl_nI (by omega), cl_nI (by omega)])) rfl
set_option maxRecDepth 4000 in
theorem c_m_step {l : Launch} {g : ag_G} {s : am_S} {n : am_N} {k i x : Int32} {P : Nat} (hp' : s 39 30 = nI P) (hP : P ≤ 4) (hl : ∀ q, q < P → ∃ L, L ≤ 16 ∧ s 51 q = nI L) : aw_F l g mi_X12_step 1 [.ref (g_ad g 39), .int k, .int i, .int x] (hp g s n) (.int (m_step (up s 39 0 0) k i x)) (hp g ((up s 39 0 0)) n) := by
  refine aw_F_of mo_X12_step (by decide) (Nat.le_of_ble_eq_true rfl) ?_
  refine aw_aload_n rfl rfl ?_
  refine aw_iconst (v := 0) rfl (by decide) ?_
  refine pp_39_0 rfl kl_X12_96 ?_
  have hp' : (up s 39 0 0) 39 30 = nI P := hp'
  have hl : ∀ q, q < P → ∃ L, L ≤ 16 ∧ (up s 39 0 0) 51 q = nI L := hl
  skip
  generalize up s 39 0 0 = S at *
  refine aw_aload_n rfl rfl ?_
  refine aw_iload_n rfl rfl ?_
  refine aw_iV (q0 := 39) (ci := 12) rfl cw_X12_410 rfl rfl rfl (c_m_isPlan) rfl rfl (Nat.le_of_ble_eq_true rfl) (by decide) (by decide) (by decide) (by decide) ?_
  refine aw_if_eq (tgt := 61) rfl (by decide) (fun h10 => ?_) (fun h10 => ?_)
  · refine aw_ldcw (v := -1000000) rfl (aw_t7 227 rfl rfl) ?_
    exact aw_fi rfl rfl (by first | (simp [m_step, bB_0.mp h10]; done) | (unfold m_step; rw [if_pos q0, cl_nI (by omega), bB_0.mp h28]; rfl) | (unfold m_step; rw [if_pos q0, cl_nI (by omega), if_pos q1, bB_0.mp h40]; rfl) | (unfold m_step; rw [if_pos q0, cl_nI (by omega), if_pos q1, if_pos q2, cl_nI (by omega), cl_nI (by omega)])) rfl
  · have q0 := bB_n0.mp h10
    obtain ⟨kk, hkk, rfl⟩ := isPm_nI hp' hP q0
    obtain ⟨L, hL, hLe⟩ := hl kk hkk
    refine aw_iload_n rfl rfl ?_
    refine aw_i2l rfl ?_
    refine aw_lconst (v := 0) rfl (by decide) ?_
    refine aw_aload_n rfl rfl ?_
    refine pg_39_25 rfl kl_X12_58 ?_
    refine aw_iload_n rfl rfl ?_
    refine pl_51 rfl rfl (by omega) ?_
    refine aw_iconst (v := 1) rfl (by decide) ?_
    refine aw_isub rfl ?_
    refine aw_i2l rfl ?_
    refine aw_iS rfl cw_X12_217 (c_m_isIn) rfl rfl (Nat.le_of_ble_eq_true rfl) (by decide) (by decide) (by decide) (by decide) ?_
    refine aw_if_eq (tgt := 61) rfl (by decide) (fun h28 => ?_) (fun h28 => ?_)
    · refine aw_ldcw (v := -1000000) rfl (aw_t7 227 rfl rfl) ?_
      exact aw_fi rfl rfl (by first | (simp [m_step, bB_0.mp h10]; done) | (unfold m_step; rw [if_pos q0, cl_nI (by omega), bB_0.mp h28]; rfl) | (unfold m_step; rw [if_pos q0, cl_nI (by omega), if_pos q1, bB_0.mp h40]; rfl) | (unfold m_step; rw [if_pos q0, cl_nI (by omega), if_pos q1, if_pos q2, cl_nI (by omega), cl_nI (by omega)])) rfl
    · have q1 := bB_n0.mp h28
      refine aw_iload_n rfl rfl ?_
      refine aw_i2l rfl ?_
      refine aw_lconst (v := 0) rfl (by decide) ?_
      refine aw_ldc2 (v := 2) rfl (aw_t6 165 rfl rfl) ?_
      refine aw_iS rfl cw_X12_217 (c_m_isIn) rfl rfl (Nat.le_of_ble_eq_true rfl) (by decide) (by decide) (by decide) (by decide) ?_
      refine aw_if_eq (tgt := 61) rfl (by decide) (fun h40 => ?_) (fun h40 => ?_)
      · refine aw_ldcw (v := -1000000) rfl (aw_t7 227 rfl rfl) ?_
        exact aw_fi rfl rfl (by first | (simp [m_step, bB_0.mp h10]; done) | (unfold m_step; rw [if_pos q0, cl_nI (by omega), bB_0.mp h28]; rfl) | (unfold m_step; rw [if_pos q0, cl_nI (by omega), if_pos q1, bB_0.mp h40]; rfl) | (unfold m_step; rw [if_pos q0, cl_nI (by omega), if_pos q1, if_pos q2, cl_nI (by omega), cl_nI (by omega)])) rfl
      · have q2 := bB_n0.mp h40
        obtain ⟨j, hj, rfl⟩ := log_ix hLe (by omega) q1
        obtain ⟨y, hy, rfl⟩ := inn_nI (M := 2) (by decide) (by decide) q2
        refine aw_aload_n rfl rfl ?_
        refine pg_39_24 rfl kl_X12_55 ?_
        refine aw_iconst (v := 3) rfl (by decide) ?_
        refine aw_bipush (v := 16) rfl (by decide) ?_
        refine aw_iload_n rfl rfl ?_
        refine aw_imul rfl ?_
        refine aw_iload_n rfl rfl ?_
        refine aw_iadd rfl ?_
        refine aw_imul rfl ?_
        refine aw_iload_n rfl rfl ?_
        refine aw_iadd rfl ?_
        refine pl_50 rfl (stp_ad kk j y) (by omega) ?_
        refine aw_goto (tgt := 64) rfl (by decide) ?_
        exact aw_fi rfl rfl (by first | (simp [m_step, bB_0.mp h10]; done) | (unfold m_step; rw [if_pos q0, cl_nI (by omega), bB_0.mp h28]; rfl) | (unfold m_step; rw [if_pos q0, cl_nI (by omega), if_pos q1, bB_0.mp h40]; rfl) | (unfold m_step; rw [if_pos q0, cl_nI (by omega), if_pos q1, if_pos q2, cl_nI (by omega), cl_nI (by omega)])) rfl
set_option maxRecDepth 4000 in
theorem c_m_noted {l : Launch} {g : ag_G} {s : am_S} {n : am_N} {N : Nat} {r t b : Int32} (hn : s 39 47 = nI N) (hN : N ≤ 10) (hb : b = 0 ∨ b = 1) : aw_F l g mi_X12_noted 1 [.ref (g_ad g 39), .int r, .int t, .int b] (hp g s n) (.int (m_noted (up s 39 0 0) N r t b).1) (hp g ((m_noted (up s 39 0 0) N r t b).2) n) := by
  refine aw_F_of mo_X12_noted (by decide) (Nat.le_of_ble_eq_true rfl) ?_
  refine aw_aload_n rfl rfl ?_
  refine aw_iconst (v := 0) rfl (by decide) ?_
  refine pp_39_0 rfl kl_X12_96 ?_
  have hn : (up s 39 0 0) 39 47 = nI N := hn
  skip
  generalize up s 39 0 0 = S at *
  refine aw_aload_n rfl rfl ?_
  refine aw_iload_n rfl rfl ?_
  refine aw_iV (q0 := 39) (ci := 12) rfl cw_X12_351 rfl rfl rfl (c_m_isRing) rfl rfl (Nat.le_of_ble_eq_true rfl) (by decide) (by decide) (by decide) (by decide) ?_
  refine aw_if_eq (tgt := 30) rfl (by decide) (fun h10 => ?_) (fun h10 => ?_)
  · refine aw_iconst (v := -1) rfl (by decide) ?_
    exact aw_fi rfl rfl (by first | (simp [m_noted, bB_0.mp h10]; done) | (simp [m_noted, bB_n0.mp h10, bB_0.mp h18]; done) | (have z : N = 10 := (nI_eq (b := 10) (by omega) (by decide)).mp (show nI N = nI 10 from by (rw [← hn]; exact h27)); simp [m_noted, z]; done)) (by first | (simp [m_noted, bB_0.mp h10]; done) | (simp [m_noted, bB_n0.mp h10, bB_0.mp h18]; done) | (have z : N = 10 := (nI_eq (b := 10) (by omega) (by decide)).mp (show nI N = nI 10 from by (rw [← hn]; exact h27)); simp [m_noted, z]; done))
  · refine aw_aload_n rfl rfl ?_
    refine aw_iload_n rfl rfl ?_
    refine aw_iV (q0 := 39) (ci := 12) rfl cw_X12_346 rfl rfl rfl (c_m_isThing) rfl rfl (Nat.le_of_ble_eq_true rfl) (by decide) (by decide) (by decide) (by decide) ?_
    refine aw_if_eq (tgt := 30) rfl (by decide) (fun h18 => ?_) (fun h18 => ?_)
    · refine aw_iconst (v := -1) rfl (by decide) ?_
      exact aw_fi rfl rfl (by first | (simp [m_noted, bB_0.mp h10]; done) | (simp [m_noted, bB_n0.mp h10, bB_0.mp h18]; done) | (have z : N = 10 := (nI_eq (b := 10) (by omega) (by decide)).mp (show nI N = nI 10 from by (rw [← hn]; exact h27)); simp [m_noted, z]; done)) (by first | (simp [m_noted, bB_0.mp h10]; done) | (simp [m_noted, bB_n0.mp h10, bB_0.mp h18]; done) | (have z : N = 10 := (nI_eq (b := 10) (by omega) (by decide)).mp (show nI N = nI 10 from by (rw [← hn]; exact h27)); simp [m_noted, z]; done))
    · refine aw_aload_n rfl rfl ?_
      refine pg_39_47 rfl kl_X12_300 ?_
      refine aw_bipush (v := 10) rfl (by decide) ?_
      refine aw_icmp_ne (tgt := 32) rfl (by decide) (fun h27 => ?_) (fun h27 => ?_)
      · have q1 := bB_n0.mp h10
        have q2 := bB_n0.mp h18
        have q3 : ¬ N = 10 := fun z => h27 (by rw [hn, z]; rfl)
        refine aw_aload_n rfl rfl ?_
        refine pg_39_46 rfl kl_X12_90 ?_
        refine aw_iconst (v := 3) rfl (by decide) ?_
        refine aw_aload_n rfl rfl ?_
        refine pg_39_47 rfl kl_X12_300 ?_
        refine aw_imul rfl ?_
        refine aw_iload_n rfl rfl ?_
        refine ps_60 rfl (show (3 : Int32) * S 39 47 = nI (3 * N) from by (rw [hn]; exact i30 N)) (by omega) ?_
        refine aw_aload_n rfl rfl ?_
        refine pg_39_46 rfl kl_X12_90 ?_
        refine aw_iconst (v := 3) rfl (by decide) ?_
        refine aw_aload_n rfl rfl ?_
        refine pg_39_47 rfl kl_X12_300 ?_
        refine aw_imul rfl ?_
        refine aw_iconst (v := 1) rfl (by decide) ?_
        refine aw_iadd rfl ?_
        refine aw_iload_n rfl rfl ?_
        refine ps_60 rfl (show (3 : Int32) * S 39 47 + 1 = nI (3 * N + 1) from by (rw [hn]; exact i3 N 1)) (by omega) ?_
        refine aw_aload_n rfl rfl ?_
        refine pg_39_46 rfl kl_X12_90 ?_
        refine aw_iconst (v := 3) rfl (by decide) ?_
        refine aw_aload_n rfl rfl ?_
        refine pg_39_47 rfl kl_X12_300 ?_
        refine aw_imul rfl ?_
        refine aw_iconst (v := 2) rfl (by decide) ?_
        refine aw_iadd rfl ?_
        refine aw_iload_n rfl rfl ?_
        refine aw_if_eq (tgt := 78) rfl (by decide) (fun h71 => ?_) (fun h71 => ?_)
        · refine aw_iconst (v := 0) rfl (by decide) ?_
          refine ps_60 rfl (show (3 : Int32) * S 39 47 + 2 = nI (3 * N + 2) from by (rw [hn]; exact i3 N 2)) (by omega) ?_
          refine aw_aload_n rfl rfl ?_
          refine aw_dup rfl rfl ?_
          refine pg_39_47 rfl kl_X12_300 ?_
          refine aw_iconst (v := 1) rfl (by decide) ?_
          refine aw_iadd rfl ?_
          refine pp_39_47 rfl kl_X12_300 ?_
          refine aw_aload_n rfl rfl ?_
          refine pg_39_47 rfl kl_X12_300 ?_
          exact aw_fi rfl rfl (by unfold m_noted; rw [q1, q2, if_neg q3]; show S 39 47 + 1 = _; rw [hn]; exact nI_1 N) (by unfold m_noted; rw [q1, q2, if_neg q3]; rcases hb with rfl | rfl <;> first | (exact absurd rfl h71) | (exact absurd h71 (by decide)) | (exact congrArg (fun z => hp g (up (up (up (up S 60 (3 * N) r) 60 (3 * N + 1) t) 60 (3 * N + 2) _) 39 47 z) n) (show S 39 47 + 1 = _ from by (rw [hn]; exact nI_1 N))))
        · refine aw_iconst (v := 1) rfl (by decide) ?_
          refine aw_goto (tgt := 79) rfl (by decide) ?_
          refine ps_60 rfl (show (3 : Int32) * S 39 47 + 2 = nI (3 * N + 2) from by (rw [hn]; exact i3 N 2)) (by omega) ?_
          refine aw_aload_n rfl rfl ?_
          refine aw_dup rfl rfl ?_
          refine pg_39_47 rfl kl_X12_300 ?_
          refine aw_iconst (v := 1) rfl (by decide) ?_
          refine aw_iadd rfl ?_
          refine pp_39_47 rfl kl_X12_300 ?_
          refine aw_aload_n rfl rfl ?_
          refine pg_39_47 rfl kl_X12_300 ?_
          exact aw_fi rfl rfl (by unfold m_noted; rw [q1, q2, if_neg q3]; show S 39 47 + 1 = _; rw [hn]; exact nI_1 N) (by unfold m_noted; rw [q1, q2, if_neg q3]; rcases hb with rfl | rfl <;> first | (exact absurd rfl h71) | (exact absurd h71 (by decide)) | (exact congrArg (fun z => hp g (up (up (up (up S 60 (3 * N) r) 60 (3 * N + 1) t) 60 (3 * N + 2) _) 39 47 z) n) (show S 39 47 + 1 = _ from by (rw [hn]; exact nI_1 N))))
      · refine aw_iconst (v := -1) rfl (by decide) ?_
        exact aw_fi rfl rfl (by first | (simp [m_noted, bB_0.mp h10]; done) | (simp [m_noted, bB_n0.mp h10, bB_0.mp h18]; done) | (have z : N = 10 := (nI_eq (b := 10) (by omega) (by decide)).mp (show nI N = nI 10 from by (rw [← hn]; exact h27)); simp [m_noted, z]; done)) (by first | (simp [m_noted, bB_0.mp h10]; done) | (simp [m_noted, bB_n0.mp h10, bB_0.mp h18]; done) | (have z : N = 10 := (nI_eq (b := 10) (by omega) (by decide)).mp (show nI N = nI 10 from by (rw [← hn]; exact h27)); simp [m_noted, z]; done))
