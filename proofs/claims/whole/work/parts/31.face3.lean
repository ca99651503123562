set_option maxRecDepth 4000 in
theorem c_X11_noted {l : Launch} {g : ag_G} {s : am_S} {n : am_N} {N : Nat} {r t b : Int32} (hn : s 32 4 = nI N) (hN : N ≤ 10) (hb : b = 0 ∨ b = 1) : aw_F l g mi_X11_noted 1 [.ref (g_ad g 0), .int r, .int t, .int b] (hp g s n) (.int (q_noted s N r t b).1) (hp g (q_noted s N r t b).2 n) := by
  refine aw_F_of mo_X11_noted (by decide) (Nat.le_of_ble_eq_true rfl) ?_
  refine aw_aload_n rfl rfl ?_
  refine pg_0_8 rfl kl_X11_57 ?_
  refine aw_iload_n rfl rfl ?_
  refine aw_iV (q0 := 15) (ci := 8) rfl cw_X11_180 rfl rfl rfl (c_X8_isRing) rfl rfl (Nat.le_of_ble_eq_true rfl) (by decide) (by decide) (by decide) (by decide) ?_
  refine aw_if_eq (tgt := 34) rfl (by decide) (fun h8 => ?_) (fun h8 => ?_)
  · skip
    refine aw_iconst (v := -1) rfl (by decide) ?_
    exact aw_fi rfl rfl (by first | (simp [q_noted, bB_0.mp h8]; done) | (simp [q_noted, bB_n0.mp h8, bB_0.mp h19]; done) | (have z : ¬ N < 10 := (fun z => h31 (by rw [hn]; exact nI_lt (b := 10) z (by decide))); simp [q_noted, z]; done)) (by first | (simp [q_noted, bB_0.mp h8]; done) | (simp [q_noted, bB_n0.mp h8, bB_0.mp h19]; done) | (have z : ¬ N < 10 := (fun z => h31 (by rw [hn]; exact nI_lt (b := 10) z (by decide))); simp [q_noted, z]; done))
  · refine aw_aload_n rfl rfl ?_
    refine pg_0_8 rfl kl_X11_57 ?_
    refine aw_iload_n rfl rfl ?_
    refine aw_iV (q0 := 15) (ci := 8) rfl cw_X11_155 rfl rfl rfl (c_X8_isThing) rfl rfl (Nat.le_of_ble_eq_true rfl) (by decide) (by decide) (by decide) (by decide) ?_
    refine aw_if_eq (tgt := 34) rfl (by decide) (fun h19 => ?_) (fun h19 => ?_)
    · skip
      refine aw_iconst (v := -1) rfl (by decide) ?_
      exact aw_fi rfl rfl (by first | (simp [q_noted, bB_0.mp h8]; done) | (simp [q_noted, bB_n0.mp h8, bB_0.mp h19]; done) | (have z : ¬ N < 10 := (fun z => h31 (by rw [hn]; exact nI_lt (b := 10) z (by decide))); simp [q_noted, z]; done)) (by first | (simp [q_noted, bB_0.mp h8]; done) | (simp [q_noted, bB_n0.mp h8, bB_0.mp h19]; done) | (have z : ¬ N < 10 := (fun z => h31 (by rw [hn]; exact nI_lt (b := 10) z (by decide))); simp [q_noted, z]; done))
    · refine aw_aload_n rfl rfl ?_
      refine pg_0_11 rfl kl_X11_80 ?_
      refine pg_32_4 rfl kl_X11_145 ?_
      refine aw_bipush (v := 10) rfl (by decide) ?_
      refine aw_icmp_lt (tgt := 36) rfl (by decide) (fun h31 => ?_) (fun h31 => ?_)
      · have h32 : N < 10 := by (rw [hn] at h31; exact (nI_ltI (b := 10) (by omega) (by decide)).mp h31)
        refine aw_aload_n rfl rfl ?_
        refine pg_0_11 rfl kl_X11_80 ?_
        refine aw_iload_n rfl rfl ?_
        refine aw_iload_n rfl rfl ?_
        refine aw_iload_n rfl rfl ?_
        refine aw_iV (q0 := 32) (ci := 7) rfl cw_X11_292 rfl rfl rfl (c_X7_adds hn h32 hb) rfl rfl (Nat.le_of_ble_eq_true rfl) (by decide) (by decide) (by decide) (by decide) ?_
        exact aw_fi rfl rfl (by simp [q_noted, bB_n0.mp h8, bB_n0.mp h19, h32]) (by simp [q_noted, bB_n0.mp h8, bB_n0.mp h19, h32])
      · skip
        refine aw_iconst (v := -1) rfl (by decide) ?_
        exact aw_fi rfl rfl (by first | (simp [q_noted, bB_0.mp h8]; done) | (simp [q_noted, bB_n0.mp h8, bB_0.mp h19]; done) | (have z : ¬ N < 10 := (fun z => h31 (by rw [hn]; exact nI_lt (b := 10) z (by decide))); simp [q_noted, z]; done)) (by first | (simp [q_noted, bB_0.mp h8]; done) | (simp [q_noted, bB_n0.mp h8, bB_0.mp h19]; done) | (have z : ¬ N < 10 := (fun z => h31 (by rw [hn]; exact nI_lt (b := 10) z (by decide))); simp [q_noted, z]; done))
theorem lg_idx {tm : Nat} {i : Int32} (htm : tm < 2 ^ 30) (h0 : ¬ i < 0) (h : ¬ mn 60 (nI tm) ≤ i) : ∃ j, j < tm ∧ j < 60 ∧ i = nI j := by
  have h60 : mn 60 (nI tm) = nI (min 60 tm) := mnN 60 tm (by decide) (by omega)
  rw [h60] at h
  obtain ⟨j, hj, rfl⟩ := nI_lt7 (T := min 60 tm) (by omega) (Int32.not_lt.mp h0) (Int32.not_le.mp h)
  exact ⟨j, by omega, by omega, rfl⟩
theorem x3_idx {x : Int32} (h0 : ¬ x < 0) (h : x < 3) : ∃ j, j < 3 ∧ x = nI j := nI_lt7 (T := 3) (by decide) (Int32.not_lt.mp h0) h
set_option maxRecDepth 4000 in
theorem c_X11_log {l : Launch} {g : ag_G} {s : am_S} {n : am_N} {tm : Nat} {i x : Int32} (htm : s 16 4 = nI tm) (htm4 : tm < 2 ^ 30) : aw_F l g mi_X11_log 2 [.ref (g_ad g 0), .int i, .int x] (hp g s n) (.int (q_log s tm i x)) (hp g s n) := by
  refine aw_F_of mo_X11_log (by decide) (Nat.le_of_ble_eq_true rfl) ?_
  refine aw_iload_n rfl rfl ?_
  refine aw_if_lt (tgt := 28) rfl (by decide) (fun h1 => ?_) (fun h1 => ?_)
  · refine aw_iconst (v := -1) rfl (by decide) ?_
    exact aw_fi rfl rfl (by first | (simp [q_log, h1]; done) | (simp [q_log, h1, (by simpa using h16 : mn 60 (s 16 4) ≤ i)]; done) | (simp [q_log, h1, h16, h20]; done) | (simp [q_log, h1, h16, h20, h25]; done)) rfl
  · refine aw_iload_n rfl rfl ?_
    refine aw_aload_n rfl rfl ?_
    refine pg_0_9 rfl kl_X11_64 ?_
    refine aw_aload_n rfl rfl ?_
    refine pg_0_8 rfl kl_X11_57 ?_
    refine aw_iV (q0 := 21) (ci := 0) rfl cw_X11_245 rfl rfl rfl (c_X0_lengthFor) rfl rfl (Nat.le_of_ble_eq_true rfl) (by decide) (by decide) (by decide) (by decide) ?_
    refine aw_icmp_ge (tgt := 28) rfl (by decide) (fun h16 => ?_) (fun h16 => ?_)
    · refine aw_iconst (v := -1) rfl (by decide) ?_
      exact aw_fi rfl rfl (by first | (simp [q_log, h1]; done) | (simp [q_log, h1, (by simpa using h16 : mn 60 (s 16 4) ≤ i)]; done) | (simp [q_log, h1, h16, h20]; done) | (simp [q_log, h1, h16, h20, h25]; done)) rfl
    · refine aw_iload_n rfl rfl ?_
      refine aw_if_lt (tgt := 28) rfl (by decide) (fun h20 => ?_) (fun h20 => ?_)
      · refine aw_iconst (v := -1) rfl (by decide) ?_
        exact aw_fi rfl rfl (by first | (simp [q_log, h1]; done) | (simp [q_log, h1, (by simpa using h16 : mn 60 (s 16 4) ≤ i)]; done) | (simp [q_log, h1, h16, h20]; done) | (simp [q_log, h1, h16, h20, h25]; done)) rfl
      · refine aw_iload_n rfl rfl ?_
        refine aw_iconst (v := 3) rfl (by decide) ?_
        refine aw_icmp_lt (tgt := 30) rfl (by decide) (fun h25 => ?_) (fun h25 => ?_)
        · obtain ⟨j, hj, hj6, rfl⟩ := lg_idx htm4 h1 (by rw [← htm]; exact h16)
          obtain ⟨q, hq, rfl⟩ := x3_idx h20 h25
          have hcj : cl (nI j) = j := cl_nI (by omega)
          have hcq : cl (nI q) = q := cl_nI (by omega)
          refine aw_aload_n rfl rfl ?_
          refine pg_0_9 rfl kl_X11_64 ?_
          refine aw_aload_n rfl rfl ?_
          refine pg_0_8 rfl kl_X11_57 ?_
          refine pg_15_1 rfl kl_X11_149 ?_
          refine aw_iconst (v := 4) rfl (by decide) ?_
          refine pl_16 (j := 4) rfl rfl (by decide) ?_
          refine aw_iconst (v := 1) rfl (by decide) ?_
          refine aw_isub rfl ?_
          refine aw_iload_n rfl rfl ?_
          refine aw_isub rfl ?_
          rw [htm, nI_m1 (by omega), pk_sub (show j ≤ tm - 1 by omega)]
          refine aw_iload_n rfl rfl ?_
          refine aw_iV (q0 := 21) (ci := 0) rfl cw_X11_248 rfl rfl rfl (c_X0_entry (m := tm - 1 - j) (by omega) hq) rfl rfl (Nat.le_of_ble_eq_true rfl) (by decide) (by decide) (by decide) (by decide) ?_
          exact aw_fi rfl rfl (by simp [q_log, h1, h16, h20, h25, hcj, hcq]) rfl
        · refine aw_iconst (v := -1) rfl (by decide) ?_
          exact aw_fi rfl rfl (by first | (simp [q_log, h1]; done) | (simp [q_log, h1, (by simpa using h16 : mn 60 (s 16 4) ≤ i)]; done) | (simp [q_log, h1, h16, h20]; done) | (simp [q_log, h1, h16, h20, h25]; done)) rfl
