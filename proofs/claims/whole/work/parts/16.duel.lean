def aUndo (s : am_S) (q a : Nat) : Int32 × am_S := if a = 0 then (-1, s) else (nI (a - 1), cp (up (up s 21 3 (nI ((q + 39) % 40))) 21 4 (nI (a - 1))) 24 16 ((q + 39) % 40 * 36) 0 36)
theorem nI_m1 {a : Nat} (h : 0 < a) : nI a - 1 = nI (a - 1) := by
  obtain ⟨b, rfl⟩ : ∃ b, a = b + 1 := ⟨a - 1, by omega⟩
  exact nI_pred b
set_option maxRecDepth 4000 in
theorem c_X0_takesBack {l : Launch} {g : ag_G} {s : am_S} {n : am_N} {q a : Nat} (hq : s 21 3 = nI q) (hq4 : q < 40) (ha : s 21 4 = nI a) (ha4 : a ≤ 40) : aw_F l g mi_X0_takesBack 1 [.ref (g_ad g 21), .ref (g_ad g 15)] (hp g s n) (.int (aUndo s q a).1) (hp g (aUndo s q a).2 n) := by
  refine aw_F_of mo_X0_takesBack (by decide) (Nat.le_of_ble_eq_true rfl) ?_
  refine aw_aload_n rfl rfl ?_
  refine pg_21_4 rfl kl_X0_29 ?_
  refine aw_if_ne (tgt := 9) rfl (by decide) (fun h4 => ?_) (fun h4 => ?_)
  · have h6 : ¬ a = 0 := by (rw [ha] at h4; exact fun z => h4 (by rw [z]; rfl))
    refine aw_aload_n rfl rfl ?_
    refine aw_aload_n rfl rfl ?_
    refine pg_21_3 rfl kl_X0_56 ?_
    refine aw_bipush (v := 40) rfl (by decide) ?_
    refine aw_iadd rfl ?_
    refine aw_iconst (v := 1) rfl (by decide) ?_
    refine aw_isub rfl ?_
    refine aw_bipush (v := 40) rfl (by decide) ?_
    refine aw_irem rfl (by decide) ?_
    rw [hq, show nI q + 40 = nI (q + 39 + 1) from nI_add q 40, show nI (q + 39 + 1) - 1 = nI (q + 39) from nI_pred _, show nI (q + 39) - nI (q + 39) / 40 * 40 = nI ((q + 39) % 40) from pk_rem (d := 40) (by omega) (by decide) (by decide)]
    refine pp_21_3 rfl kl_X0_56 ?_
    refine aw_aload_n rfl rfl ?_
    refine aw_dup rfl rfl ?_
    refine pg_21_4 rfl kl_X0_29 ?_
    refine aw_iconst (v := 1) rfl (by decide) ?_
    refine aw_isub rfl ?_
    rw [show up s 21 3 (nI ((q + 39) % 40)) 21 4 = s 21 4 from rfl, ha, nI_m1 (by omega)]
    refine pp_21_4 rfl kl_X0_29 ?_
    refine aw_aload_n rfl rfl ?_
    refine pg_21_2 rfl kl_X0_20 ?_
    refine aw_aload_n rfl rfl ?_
    refine pg_21_3 rfl kl_X0_56 ?_
    refine aw_bipush (v := 36) rfl (by decide) ?_
    refine aw_imul rfl ?_
    refine aw_aload_n rfl rfl ?_
    refine pg_15_1 rfl kl_X0_37 ?_
    refine aw_iconst (v := 0) rfl (by decide) ?_
    refine aw_bipush (v := 36) rfl (by decide) ?_
    refine pc_24_16 rfl km_X0_50 (a := (q + 39) % 40 * 36) (b := 0) (c := 36) (pk_mul _ 36) rfl rfl (by omega) (by decide) (by decide) (Nat.le_of_ble_eq_true rfl) ?_
    refine aw_aload_n rfl rfl ?_
    refine pg_21_4 rfl kl_X0_29 ?_
    exact aw_fi rfl rfl (by simp [aUndo, h6]; rfl) (by simp [aUndo, h6])
  · have h6 : a = 0 := by (rw [ha] at h4; exact (nI_eq (b := 0) (by omega) (by decide)).mp h4)
    refine aw_iconst (v := -1) rfl (by decide) ?_
    exact aw_fi rfl rfl (by simp [aUndo, h6]) (by simp [aUndo, h6])
set_option maxRecDepth 4000 in
theorem c_X0_draws {l : Launch} {g : ag_G} {s : am_S} {n : am_N} : aw_V l g mi_X0_draws 1 [.ref (g_ad g 21), .ref (g_ad g 15)] (hp g s n) (hp g (up (cp (cp s 16 25 0 0 36) 22 26 0 0 384) 21 7 1) n) := by
  refine aw_V_of mo_X0_draws (by decide) (Nat.le_of_ble_eq_true rfl) ?_
  refine aw_aload_n rfl rfl ?_
  refine pg_15_1 rfl kl_X0_37 ?_
  refine aw_iconst (v := 0) rfl (by decide) ?_
  refine aw_aload_n rfl rfl ?_
  refine pg_21_5 rfl kl_X0_23 ?_
  refine aw_iconst (v := 0) rfl (by decide) ?_
  refine aw_bipush (v := 36) rfl (by decide) ?_
  refine pc_16_25 rfl km_X0_50 (a := 0) (b := 0) (c := 36) rfl rfl rfl (by decide) (by decide) (by decide) (Nat.le_of_ble_eq_true rfl) ?_
  refine aw_aload_n rfl rfl ?_
  refine pg_21_0 rfl kl_X0_11 ?_
  refine aw_iconst (v := 0) rfl (by decide) ?_
  refine aw_aload_n rfl rfl ?_
  refine pg_21_6 rfl kl_X0_26 ?_
  refine aw_iconst (v := 0) rfl (by decide) ?_
  refine aw_aload_n rfl rfl ?_
  refine pg_21_0 rfl kl_X0_11 ?_
  refine pn_22 (v := 384) rfl (by decide) ?_
  refine pc_22_26 rfl km_X0_50 (a := 0) (b := 0) (c := 384) rfl rfl rfl (by decide) (by decide) (by decide) (Nat.le_of_ble_eq_true rfl) ?_
  refine aw_aload_n rfl rfl ?_
  refine aw_iconst (v := 1) rfl (by decide) ?_
  refine pp_21_7 rfl kl_X0_33 (by first | exact Or.inl rfl | exact Or.inr rfl | exact bB_01) ?_
  exact aw_fv rfl rfl rfl
set_option maxRecDepth 4000 in
theorem c_X0_restores {l : Launch} {g : ag_G} {s : am_S} {n : am_N} : aw_V l g mi_X0_restores 1 [.ref (g_ad g 21), .ref (g_ad g 15)] (hp g s n) (hp g (up (cp (cp s 25 16 0 0 36) 26 22 0 0 384) 21 4 0) n) := by
  refine aw_V_of mo_X0_restores (by decide) (Nat.le_of_ble_eq_true rfl) ?_
  refine aw_aload_n rfl rfl ?_
  refine pg_21_5 rfl kl_X0_23 ?_
  refine aw_iconst (v := 0) rfl (by decide) ?_
  refine aw_aload_n rfl rfl ?_
  refine pg_15_1 rfl kl_X0_37 ?_
  refine aw_iconst (v := 0) rfl (by decide) ?_
  refine aw_bipush (v := 36) rfl (by decide) ?_
  refine pc_25_16 rfl km_X0_50 (a := 0) (b := 0) (c := 36) rfl rfl rfl (by decide) (by decide) (by decide) (Nat.le_of_ble_eq_true rfl) ?_
  refine aw_aload_n rfl rfl ?_
  refine pg_21_6 rfl kl_X0_26 ?_
  refine aw_iconst (v := 0) rfl (by decide) ?_
  refine aw_aload_n rfl rfl ?_
  refine pg_21_0 rfl kl_X0_11 ?_
  refine aw_iconst (v := 0) rfl (by decide) ?_
  refine aw_aload_n rfl rfl ?_
  refine pg_21_0 rfl kl_X0_11 ?_
  refine pn_22 (v := 384) rfl (by decide) ?_
  refine pc_26_22 rfl km_X0_50 (a := 0) (b := 0) (c := 384) rfl rfl rfl (by decide) (by decide) (by decide) (Nat.le_of_ble_eq_true rfl) ?_
  refine aw_aload_n rfl rfl ?_
  refine aw_iconst (v := 0) rfl (by decide) ?_
  refine pp_21_4 rfl kl_X0_29 ?_
  exact aw_fv rfl rfl rfl
/-- the draws -/
def dx (x : Int64) : Int64 := x * 6364136223846793005 + 1442695040888963407
def dvv (x : Int64) : Int64 := (x.toUInt64 >>> ((33 : Int32).toInt64.toUInt64 &&& Int64.toUInt64 63)).toInt64
def dv (x : Int64) (j : Int32) : Int32 := (dvv x - dvv x / j.toInt64 * j.toInt64).toInt32
theorem j64 {j : Int32} (h : ¬ j < 1) : ¬ j.toInt64 = 0 := by
  intro q
  have h1 : j.toInt64.toInt = 0 := by rw [q]; rfl
  rw [Int32.toInt_toInt64] at h1
  rw [Int32.lt_iff_toInt_lt, h1] at h
  exact h (by decide)
set_option maxRecDepth 4000 in
theorem c_X1_next {l : Launch} {g : ag_G} {s : am_S} {n : am_N} {j : Int32} (hj : ¬ j < 1) : aw_F l g mi_X1_next 0 [.ref (g_ad g 38), .int j] (hp g s n) (.int (dv (dx (n.1 38 0)) j)) (hp g s (upL n 38 0 (dx (n.1 38 0)))) := by
  refine aw_F_of mo_X1_next (by decide) (Nat.le_of_ble_eq_true rfl) ?_
  refine aw_iload_n rfl rfl ?_
  refine aw_iconst (v := 1) rfl (by decide) ?_
  refine aw_icmp_ge (tgt := 7) rfl (by decide) (fun h2 => ?_) (fun h2 => absurd (by rw [← Int32.not_lt]; exact hj) h2)
  refine aw_aload_n rfl rfl ?_
  refine aw_aload_n rfl rfl ?_
  refine pg_38_0 rfl kl_X1_7 ?_
  refine aw_ldc2 (v := 6364136223846793005) rfl (aw_t4 50 rfl rfl) ?_
  refine aw_lmul rfl ?_
  refine aw_ldc2 (v := 1442695040888963407) rfl (aw_t4 51 rfl rfl) ?_
  refine aw_ladd rfl ?_
  refine pp_38_0 rfl kl_X1_7 ?_
  refine aw_aload_n rfl rfl ?_
  refine pg_38_0 rfl kl_X1_7 ?_
  refine aw_bipush (v := 33) rfl (by decide) ?_
  refine aw_lushr rfl rfl ?_
  refine aw_iload_n rfl rfl ?_
  refine aw_i2l rfl ?_
  refine aw_lrem rfl (j64 hj) ?_
  refine aw_l2i rfl ?_
  exact aw_fi rfl rfl rfl rfl
def cB (s : am_S) (a b t : Int32) : Bool := isR s a && (isR s b && (!decide (a = b) && (sl s t && (!decide (s 18 (cl t) = a) && !decide (s 18 (cl t) = b)))))
def gn (s : am_S) (j : Nat) (sh sc : Int32) : Int32 := (if sh = 1 then s 20 j / 2 else s 20 j) - (if sc = 0 then 0 else 3)
def fH (s : am_S) (a j : Nat) (x y : Int32) : Int32 := if x = 0 then 0 else gn s j y (bB (!sk s a j))
def sH (s : am_S) (a b j : Nat) (x y : Int32) : Int32 := if y = 0 then 0 else gn s j x (bB (!(decide (x = 1) && !sk s a j) && !sk s b j))
def rS (s : am_S) (a b j : Nat) (x y : Int32) : Bool := decide (fH s a j (1 - x) y ≤ fH s a j x y) && decide (sH s a b j x (1 - y) ≤ sH s a b j x y)
set_option maxRecDepth 4000 in
theorem c_X2_canBe {l : Launch} {g : ag_G} {s : am_S} {n : am_N} {a b t : Int32} {T Q : Nat} (hb : kb s T Q) : aw_F l g mi_X2_canBe 2 [.ref (g_ad g 37), .int a, .int b, .int t] (hp g s n) (.int (bB (cB s a b t))) (hp g s n) := by
  refine aw_F_of mo_X2_canBe (by decide) (Nat.le_of_ble_eq_true rfl) ?_
  refine aw_aload_n rfl rfl ?_
  refine pg_37_0 rfl kl_X2_9 ?_
  refine aw_iload_n rfl rfl ?_
  refine aw_iV (q0 := 15) (ci := 8) rfl cw_X2_15 rfl rfl rfl (c_X8_isRing) rfl rfl (Nat.le_of_ble_eq_true rfl) (by decide) (by decide) (by decide) (by decide) ?_
  refine aw_if_eq (tgt := 68) rfl (by decide) (fun h8 => ?_) (fun h8 => ?_)
  · refine aw_iconst (v := 0) rfl (by decide) ?_
    exact aw_fz rfl rfl (by first | exact Or.inl rfl | exact Or.inr rfl) (by first | (have y1 := bB_n0.mp h8; have y2 := bB_n0.mp h19; simp [cB, y1, y2, h24, h36, hc, h48, h61, bB]; done) | (first | (have z := bB_0.mp h8; simp [cB, z, bB]; done) | (have z := bB_0.mp h19; simp [cB, z, bB]; done) | (simp [cB, h24, bB]; done) | (have z := bB_0.mp h35; simp [cB, z, bB]; done) | (simp [cB, hc, h48, bB]; done) | (simp [cB, hc, h61, bB]; done))) rfl
  · refine aw_aload_n rfl rfl ?_
    refine pg_37_0 rfl kl_X2_9 ?_
    refine aw_iload_n rfl rfl ?_
    refine aw_iV (q0 := 15) (ci := 8) rfl cw_X2_15 rfl rfl rfl (c_X8_isRing) rfl rfl (Nat.le_of_ble_eq_true rfl) (by decide) (by decide) (by decide) (by decide) ?_
    refine aw_if_eq (tgt := 68) rfl (by decide) (fun h19 => ?_) (fun h19 => ?_)
    · refine aw_iconst (v := 0) rfl (by decide) ?_
      exact aw_fz rfl rfl (by first | exact Or.inl rfl | exact Or.inr rfl) (by first | (have y1 := bB_n0.mp h8; have y2 := bB_n0.mp h19; simp [cB, y1, y2, h24, h36, hc, h48, h61, bB]; done) | (first | (have z := bB_0.mp h8; simp [cB, z, bB]; done) | (have z := bB_0.mp h19; simp [cB, z, bB]; done) | (simp [cB, h24, bB]; done) | (have z := bB_0.mp h35; simp [cB, z, bB]; done) | (simp [cB, hc, h48, bB]; done) | (simp [cB, hc, h61, bB]; done))) rfl
    · refine aw_iload_n rfl rfl ?_
      refine aw_iload_n rfl rfl ?_
      refine aw_icmp_eq (tgt := 68) rfl (by decide) (fun h24 => ?_) (fun h24 => ?_)
      · refine aw_iconst (v := 0) rfl (by decide) ?_
        exact aw_fz rfl rfl (by first | exact Or.inl rfl | exact Or.inr rfl) (by first | (have y1 := bB_n0.mp h8; have y2 := bB_n0.mp h19; simp [cB, y1, y2, h24, h36, hc, h48, h61, bB]; done) | (first | (have z := bB_0.mp h8; simp [cB, z, bB]; done) | (have z := bB_0.mp h19; simp [cB, z, bB]; done) | (simp [cB, h24, bB]; done) | (have z := bB_0.mp h35; simp [cB, z, bB]; done) | (simp [cB, hc, h48, bB]; done) | (simp [cB, hc, h61, bB]; done))) rfl
      · refine aw_aload_n rfl rfl ?_
        refine pg_37_0 rfl kl_X2_9 ?_
        refine aw_iload_n rfl rfl ?_
        refine aw_iV (q0 := 15) (ci := 8) rfl cw_X2_21 rfl rfl rfl (c_X8_isSealed hb) rfl rfl (Nat.le_of_ble_eq_true rfl) (by decide) (by decide) (by decide) (by decide) ?_
        refine aw_if_eq (tgt := 68) rfl (by decide) (fun h35 => ?_) (fun h35 => ?_)
        · refine aw_iconst (v := 0) rfl (by decide) ?_
          exact aw_fz rfl rfl (by first | exact Or.inl rfl | exact Or.inr rfl) (by first | (have y1 := bB_n0.mp h8; have y2 := bB_n0.mp h19; simp [cB, y1, y2, h24, h36, hc, h48, h61, bB]; done) | (first | (have z := bB_0.mp h8; simp [cB, z, bB]; done) | (have z := bB_0.mp h19; simp [cB, z, bB]; done) | (simp [cB, h24, bB]; done) | (have z := bB_0.mp h35; simp [cB, z, bB]; done) | (simp [cB, hc, h48, bB]; done) | (simp [cB, hc, h61, bB]; done))) rfl
        · have h36 := bB_n0.mp h35
          obtain ⟨j, hj, rfl⟩ := isT_nI hb (Bool.and_eq_true_iff.mp h36).1
          have hT := hb.2.1
          have hc : cl (nI j) = j := cl_nI (by omega)
          refine aw_aload_n rfl rfl ?_
          refine pg_37_0 rfl kl_X2_9 ?_
          refine pg_15_3 rfl kl_X2_24 ?_
          refine aw_iload_n rfl rfl ?_
          refine pl_18 rfl rfl (by omega) ?_
          refine aw_iload_n rfl rfl ?_
          refine aw_icmp_eq (tgt := 68) rfl (by decide) (fun h48 => ?_) (fun h48 => ?_)
          · refine aw_iconst (v := 0) rfl (by decide) ?_
            exact aw_fz rfl rfl (by first | exact Or.inl rfl | exact Or.inr rfl) (by first | (have y1 := bB_n0.mp h8; have y2 := bB_n0.mp h19; simp [cB, y1, y2, h24, h36, hc, h48, h61, bB]; done) | (first | (have z := bB_0.mp h8; simp [cB, z, bB]; done) | (have z := bB_0.mp h19; simp [cB, z, bB]; done) | (simp [cB, h24, bB]; done) | (have z := bB_0.mp h35; simp [cB, z, bB]; done) | (simp [cB, hc, h48, bB]; done) | (simp [cB, hc, h61, bB]; done))) rfl
          · refine aw_aload_n rfl rfl ?_
            refine pg_37_0 rfl kl_X2_9 ?_
            refine pg_15_3 rfl kl_X2_24 ?_
            refine aw_iload_n rfl rfl ?_
            refine pl_18 rfl rfl (by omega) ?_
            refine aw_iload_n rfl rfl ?_
            refine aw_icmp_eq (tgt := 68) rfl (by decide) (fun h61 => ?_) (fun h61 => ?_)
            · refine aw_iconst (v := 0) rfl (by decide) ?_
              exact aw_fz rfl rfl (by first | exact Or.inl rfl | exact Or.inr rfl) (by first | (have y1 := bB_n0.mp h8; have y2 := bB_n0.mp h19; simp [cB, y1, y2, h24, h36, hc, h48, h61, bB]; done) | (first | (have z := bB_0.mp h8; simp [cB, z, bB]; done) | (have z := bB_0.mp h19; simp [cB, z, bB]; done) | (simp [cB, h24, bB]; done) | (have z := bB_0.mp h35; simp [cB, z, bB]; done) | (simp [cB, hc, h48, bB]; done) | (simp [cB, hc, h61, bB]; done))) rfl
            · refine aw_iconst (v := 1) rfl (by decide) ?_
              refine aw_goto (tgt := 69) rfl (by decide) ?_
              exact aw_fz rfl rfl (by first | exact Or.inl rfl | exact Or.inr rfl) (by first | (have y1 := bB_n0.mp h8; have y2 := bB_n0.mp h19; simp [cB, y1, y2, h24, h36, hc, h48, h61, bB]; done) | (first | (have z := bB_0.mp h8; simp [cB, z, bB]; done) | (have z := bB_0.mp h19; simp [cB, z, bB]; done) | (simp [cB, h24, bB]; done) | (have z := bB_0.mp h35; simp [cB, z, bB]; done) | (simp [cB, hc, h48, bB]; done) | (simp [cB, hc, h61, bB]; done))) rfl
set_option maxRecDepth 4000 in
theorem c_X2_gain {l : Launch} {g : ag_G} {s : am_S} {n : am_N} {j : Nat} {sh sc : Int32} (hj : j < 7) : aw_F l g mi_X2_gain 0 [.ref (g_ad g 37), .int (nI j), .int sh, .int sc] (hp g s n) (.int (gn s j sh sc)) (hp g s n) := by
  refine aw_F_of mo_X2_gain (by decide) (Nat.le_of_ble_eq_true rfl) ?_
  refine aw_aload_n rfl rfl ?_
  refine pg_37_0 rfl kl_X2_9 ?_
  refine pg_15_5 rfl kl_X2_36 ?_
  refine aw_iload_n rfl rfl ?_
  refine pl_20 rfl rfl (by omega) ?_
  refine aw_istore rfl (by decide) ?_
  refine aw_iload_n rfl rfl ?_
  refine aw_iconst (v := 1) rfl (by decide) ?_
  refine aw_icmp_ne (tgt := 23) rfl (by decide) (fun h13 => ?_) (fun h13 => ?_)
  · refine aw_iload rfl rfl ?_
    refine aw_iload_n rfl rfl ?_
    refine aw_if_eq (tgt := 33) rfl (by decide) (fun h26 => ?_) (fun h26 => ?_)
    · refine aw_iconst (v := 0) rfl (by decide) ?_
      refine aw_isub rfl ?_
      exact aw_fi rfl rfl (by simp [gn, h13, h26]) rfl
    · refine aw_iconst (v := 3) rfl (by decide) ?_
      refine aw_goto (tgt := 34) rfl (by decide) ?_
      refine aw_isub rfl ?_
      exact aw_fi rfl rfl (by simp [gn, h13, h26]) rfl
  · refine aw_iload rfl rfl ?_
    refine aw_iconst (v := 2) rfl (by decide) ?_
    refine aw_idiv rfl (by decide) ?_
    refine aw_goto (tgt := 25) rfl (by decide) ?_
    refine aw_iload_n rfl rfl ?_
    refine aw_if_eq (tgt := 33) rfl (by decide) (fun h26 => ?_) (fun h26 => ?_)
    · refine aw_iconst (v := 0) rfl (by decide) ?_
      refine aw_isub rfl ?_
      exact aw_fi rfl rfl (by simp [gn, h13, h26]) rfl
    · refine aw_iconst (v := 3) rfl (by decide) ?_
      refine aw_goto (tgt := 34) rfl (by decide) ?_
      refine aw_isub rfl ?_
      exact aw_fi rfl rfl (by simp [gn, h13, h26]) rfl
set_option maxRecDepth 4000 in
theorem c_X2_firstHas {l : Launch} {g : ag_G} {s : am_S} {n : am_N} {a j : Nat} {x y : Int32} (ha : a < 5) (hj : j < 7) : aw_F l g mi_X2_firstHas 1 [.ref (g_ad g 37), .int (nI a), .int (nI j), .int x, .int y] (hp g s n) (.int (fH s a j x y)) (hp g s n) := by
  refine aw_F_of mo_X2_firstHas (by decide) (Nat.le_of_ble_eq_true rfl) ?_
  refine aw_iload_n rfl rfl ?_
  refine aw_if_ne (tgt := 8) rfl (by decide) (fun h1 => ?_) (fun h1 => ?_)
  · refine aw_aload_n rfl rfl ?_
    refine aw_iload_n rfl rfl ?_
    refine aw_iload rfl rfl ?_
    refine aw_aload_n rfl rfl ?_
    refine pg_37_0 rfl kl_X2_9 ?_
    refine aw_iload_n rfl rfl ?_
    refine aw_iload_n rfl rfl ?_
    refine aw_iV (q0 := 15) (ci := 8) rfl cw_X2_28 rfl rfl rfl (c_X8_isSkilledFor ha hj) rfl rfl (Nat.le_of_ble_eq_true rfl) (by decide) (by decide) (by decide) (by decide) ?_
    refine aw_if_ne (tgt := 28) rfl (by decide) (fun h21 => ?_) (fun h21 => ?_)
    · refine aw_iconst (v := 0) rfl (by decide) ?_
      refine aw_iV (q0 := 37) (ci := 2) rfl cw_X2_32 rfl rfl rfl (c_X2_gain hj) rfl rfl (Nat.le_of_ble_eq_true rfl) (by decide) (by decide) (by decide) (by decide) ?_
      exact aw_fi rfl rfl (by first | (simp [fH, h1]; done) | (have z := bB_n0.mp h21; simp [fH, h1, z, bB]; done) | (have z := bB_0.mp (by simpa using h21); simp [fH, h1, z, bB]; done)) rfl
    · refine aw_iconst (v := 1) rfl (by decide) ?_
      refine aw_goto (tgt := 29) rfl (by decide) ?_
      refine aw_iV (q0 := 37) (ci := 2) rfl cw_X2_32 rfl rfl rfl (c_X2_gain hj) rfl rfl (Nat.le_of_ble_eq_true rfl) (by decide) (by decide) (by decide) (by decide) ?_
      exact aw_fi rfl rfl (by first | (simp [fH, h1]; done) | (have z := bB_n0.mp h21; simp [fH, h1, z, bB]; done) | (have z := bB_0.mp (by simpa using h21); simp [fH, h1, z, bB]; done)) rfl
  · refine aw_iconst (v := 0) rfl (by decide) ?_
    refine aw_goto (tgt := 32) rfl (by decide) ?_
    exact aw_fi rfl rfl (by first | (simp [fH, h1]; done) | (have z := bB_n0.mp h21; simp [fH, h1, z, bB]; done) | (have z := bB_0.mp (by simpa using h21); simp [fH, h1, z, bB]; done)) rfl
set_option maxRecDepth 4000 in
theorem c_X2_secondHas {l : Launch} {g : ag_G} {s : am_S} {n : am_N} {a b j : Nat} {x y : Int32} (ha : a < 5) (hb : b < 5) (hj : j < 7) : aw_F l g mi_X2_secondHas 1 [.ref (g_ad g 37), .int (nI a), .int (nI b), .int (nI j), .int x, .int y] (hp g s n) (.int (sH s a b j x y)) (hp g s n) := by
  refine aw_F_of mo_X2_secondHas (by decide) (Nat.le_of_ble_eq_true rfl) ?_
  refine aw_iload rfl rfl ?_
  refine aw_iconst (v := 1) rfl (by decide) ?_
  refine aw_icmp_ne (tgt := 22) rfl (by decide) (fun h3 => ?_) (fun h3 => ?_)
  · refine aw_iconst (v := 0) rfl (by decide) ?_
    refine aw_istore rfl (by decide) ?_
    refine aw_iload rfl rfl ?_
    refine aw_if_ne (tgt := 34) rfl (by decide) (fun h27 => ?_) (fun h27 => ?_)
    · refine aw_aload_n rfl rfl ?_
      refine aw_iload_n rfl rfl ?_
      refine aw_iload rfl rfl ?_
      refine aw_iload rfl rfl ?_
      refine aw_if_ne (tgt := 59) rfl (by decide) (fun h40 => absurd h40 (by decide)) (fun h40 => ?_)
      refine aw_aload_n rfl rfl ?_
      refine pg_37_0 rfl kl_X2_9 ?_
      refine aw_iload_n rfl rfl ?_
      refine aw_iload_n rfl rfl ?_
      refine aw_iV (q0 := 15) (ci := 8) rfl cw_X2_28 rfl rfl rfl (c_X8_isSkilledFor (by omega) hj) rfl rfl (Nat.le_of_ble_eq_true rfl) (by decide) (by decide) (by decide) (by decide) ?_
      refine aw_if_ne (tgt := 59) rfl (by decide) (fun h52 => ?_) (fun h52 => ?_)
      · refine aw_iconst (v := 0) rfl (by decide) ?_
        refine aw_iV (q0 := 37) (ci := 2) rfl cw_X2_32 rfl rfl rfl (c_X2_gain hj) rfl rfl (Nat.le_of_ble_eq_true rfl) (by decide) (by decide) (by decide) (by decide) ?_
        exact aw_fi rfl rfl (by first | (simp [sH, h27]; done) | (simp [sH, h27, h3, bB]; done) | (have z := bB_n0.mp h15; first | (simp [sH, h27, h3, z, bB]; done) | (have u := bB_n0.mp h52; simp [sH, h27, h3, z, u, bB]; done) | (have u := bB_0.mp (by simpa using h52); simp [sH, h27, h3, z, u, bB]; done)) | (have z := bB_0.mp (by simpa using h15); simp [sH, h27, h3, z, bB]; done) | (have u := bB_n0.mp h52; simp [sH, h27, h3, u, bB]; done) | (have u := bB_0.mp (by simpa using h52); simp [sH, h27, h3, u, bB]; done)) rfl
      · refine aw_iconst (v := 1) rfl (by decide) ?_
        refine aw_goto (tgt := 60) rfl (by decide) ?_
        refine aw_iV (q0 := 37) (ci := 2) rfl cw_X2_32 rfl rfl rfl (c_X2_gain hj) rfl rfl (Nat.le_of_ble_eq_true rfl) (by decide) (by decide) (by decide) (by decide) ?_
        exact aw_fi rfl rfl (by first | (simp [sH, h27]; done) | (simp [sH, h27, h3, bB]; done) | (have z := bB_n0.mp h15; first | (simp [sH, h27, h3, z, bB]; done) | (have u := bB_n0.mp h52; simp [sH, h27, h3, z, u, bB]; done) | (have u := bB_0.mp (by simpa using h52); simp [sH, h27, h3, z, u, bB]; done)) | (have z := bB_0.mp (by simpa using h15); simp [sH, h27, h3, z, bB]; done) | (have u := bB_n0.mp h52; simp [sH, h27, h3, u, bB]; done) | (have u := bB_0.mp (by simpa using h52); simp [sH, h27, h3, u, bB]; done)) rfl
    · refine aw_iconst (v := 0) rfl (by decide) ?_
      refine aw_goto (tgt := 63) rfl (by decide) ?_
      exact aw_fi rfl rfl (by first | (simp [sH, h27]; done) | (simp [sH, h27, h3, bB]; done) | (have z := bB_n0.mp h15; first | (simp [sH, h27, h3, z, bB]; done) | (have u := bB_n0.mp h52; simp [sH, h27, h3, z, u, bB]; done) | (have u := bB_0.mp (by simpa using h52); simp [sH, h27, h3, z, u, bB]; done)) | (have z := bB_0.mp (by simpa using h15); simp [sH, h27, h3, z, bB]; done) | (have u := bB_n0.mp h52; simp [sH, h27, h3, u, bB]; done) | (have u := bB_0.mp (by simpa using h52); simp [sH, h27, h3, u, bB]; done)) rfl
  · refine aw_aload_n rfl rfl ?_
    refine pg_37_0 rfl kl_X2_9 ?_
    refine aw_iload_n rfl rfl ?_
    refine aw_iload_n rfl rfl ?_
    refine aw_iV (q0 := 15) (ci := 8) rfl cw_X2_28 rfl rfl rfl (c_X8_isSkilledFor (by omega) hj) rfl rfl (Nat.le_of_ble_eq_true rfl) (by decide) (by decide) (by decide) (by decide) ?_
    refine aw_if_ne (tgt := 22) rfl (by decide) (fun h15 => ?_) (fun h15 => ?_)
    · refine aw_iconst (v := 0) rfl (by decide) ?_
      refine aw_istore rfl (by decide) ?_
      refine aw_iload rfl rfl ?_
      refine aw_if_ne (tgt := 34) rfl (by decide) (fun h27 => ?_) (fun h27 => ?_)
      · refine aw_aload_n rfl rfl ?_
        refine aw_iload_n rfl rfl ?_
        refine aw_iload rfl rfl ?_
        refine aw_iload rfl rfl ?_
        refine aw_if_ne (tgt := 59) rfl (by decide) (fun h40 => absurd h40 (by decide)) (fun h40 => ?_)
        refine aw_aload_n rfl rfl ?_
        refine pg_37_0 rfl kl_X2_9 ?_
        refine aw_iload_n rfl rfl ?_
        refine aw_iload_n rfl rfl ?_
        refine aw_iV (q0 := 15) (ci := 8) rfl cw_X2_28 rfl rfl rfl (c_X8_isSkilledFor (by omega) hj) rfl rfl (Nat.le_of_ble_eq_true rfl) (by decide) (by decide) (by decide) (by decide) ?_
        refine aw_if_ne (tgt := 59) rfl (by decide) (fun h52 => ?_) (fun h52 => ?_)
        · refine aw_iconst (v := 0) rfl (by decide) ?_
          refine aw_iV (q0 := 37) (ci := 2) rfl cw_X2_32 rfl rfl rfl (c_X2_gain hj) rfl rfl (Nat.le_of_ble_eq_true rfl) (by decide) (by decide) (by decide) (by decide) ?_
          exact aw_fi rfl rfl (by first | (simp [sH, h27]; done) | (simp [sH, h27, h3, bB]; done) | (have z := bB_n0.mp h15; first | (simp [sH, h27, h3, z, bB]; done) | (have u := bB_n0.mp h52; simp [sH, h27, h3, z, u, bB]; done) | (have u := bB_0.mp (by simpa using h52); simp [sH, h27, h3, z, u, bB]; done)) | (have z := bB_0.mp (by simpa using h15); simp [sH, h27, h3, z, bB]; done) | (have u := bB_n0.mp h52; simp [sH, h27, h3, u, bB]; done) | (have u := bB_0.mp (by simpa using h52); simp [sH, h27, h3, u, bB]; done)) rfl
        · refine aw_iconst (v := 1) rfl (by decide) ?_
          refine aw_goto (tgt := 60) rfl (by decide) ?_
          refine aw_iV (q0 := 37) (ci := 2) rfl cw_X2_32 rfl rfl rfl (c_X2_gain hj) rfl rfl (Nat.le_of_ble_eq_true rfl) (by decide) (by decide) (by decide) (by decide) ?_
          exact aw_fi rfl rfl (by first | (simp [sH, h27]; done) | (simp [sH, h27, h3, bB]; done) | (have z := bB_n0.mp h15; first | (simp [sH, h27, h3, z, bB]; done) | (have u := bB_n0.mp h52; simp [sH, h27, h3, z, u, bB]; done) | (have u := bB_0.mp (by simpa using h52); simp [sH, h27, h3, z, u, bB]; done)) | (have z := bB_0.mp (by simpa using h15); simp [sH, h27, h3, z, bB]; done) | (have u := bB_n0.mp h52; simp [sH, h27, h3, u, bB]; done) | (have u := bB_0.mp (by simpa using h52); simp [sH, h27, h3, u, bB]; done)) rfl
      · refine aw_iconst (v := 0) rfl (by decide) ?_
        refine aw_goto (tgt := 63) rfl (by decide) ?_
        exact aw_fi rfl rfl (by first | (simp [sH, h27]; done) | (simp [sH, h27, h3, bB]; done) | (have z := bB_n0.mp h15; first | (simp [sH, h27, h3, z, bB]; done) | (have u := bB_n0.mp h52; simp [sH, h27, h3, z, u, bB]; done) | (have u := bB_0.mp (by simpa using h52); simp [sH, h27, h3, z, u, bB]; done)) | (have z := bB_0.mp (by simpa using h15); simp [sH, h27, h3, z, bB]; done) | (have u := bB_n0.mp h52; simp [sH, h27, h3, u, bB]; done) | (have u := bB_0.mp (by simpa using h52); simp [sH, h27, h3, u, bB]; done)) rfl
    · refine aw_iconst (v := 1) rfl (by decide) ?_
      refine aw_goto (tgt := 23) rfl (by decide) ?_
      refine aw_istore rfl (by decide) ?_
      refine aw_iload rfl rfl ?_
      refine aw_if_ne (tgt := 34) rfl (by decide) (fun h27 => ?_) (fun h27 => ?_)
      · refine aw_aload_n rfl rfl ?_
        refine aw_iload_n rfl rfl ?_
        refine aw_iload rfl rfl ?_
        refine aw_iload rfl rfl ?_
        refine aw_if_ne (tgt := 59) rfl (by decide) (fun h40 => ?_) (fun h40 => absurd h40 (by decide))
        refine aw_iconst (v := 0) rfl (by decide) ?_
        refine aw_iV (q0 := 37) (ci := 2) rfl cw_X2_32 rfl rfl rfl (c_X2_gain hj) rfl rfl (Nat.le_of_ble_eq_true rfl) (by decide) (by decide) (by decide) (by decide) ?_
        exact aw_fi rfl rfl (by first | (simp [sH, h27]; done) | (simp [sH, h27, h3, bB]; done) | (have z := bB_n0.mp h15; first | (simp [sH, h27, h3, z, bB]; done) | (have u := bB_n0.mp h52; simp [sH, h27, h3, z, u, bB]; done) | (have u := bB_0.mp (by simpa using h52); simp [sH, h27, h3, z, u, bB]; done)) | (have z := bB_0.mp (by simpa using h15); simp [sH, h27, h3, z, bB]; done) | (have u := bB_n0.mp h52; simp [sH, h27, h3, u, bB]; done) | (have u := bB_0.mp (by simpa using h52); simp [sH, h27, h3, u, bB]; done)) rfl
      · refine aw_iconst (v := 0) rfl (by decide) ?_
        refine aw_goto (tgt := 63) rfl (by decide) ?_
        exact aw_fi rfl rfl (by first | (simp [sH, h27]; done) | (simp [sH, h27, h3, bB]; done) | (have z := bB_n0.mp h15; first | (simp [sH, h27, h3, z, bB]; done) | (have u := bB_n0.mp h52; simp [sH, h27, h3, z, u, bB]; done) | (have u := bB_0.mp (by simpa using h52); simp [sH, h27, h3, z, u, bB]; done)) | (have z := bB_0.mp (by simpa using h15); simp [sH, h27, h3, z, bB]; done) | (have u := bB_n0.mp h52; simp [sH, h27, h3, u, bB]; done) | (have u := bB_0.mp (by simpa using h52); simp [sH, h27, h3, u, bB]; done)) rfl
set_option maxRecDepth 4000 in
theorem c_X2_rest {l : Launch} {g : ag_G} {s : am_S} {n : am_N} {a b j : Nat} {x y : Int32} (ha : a < 5) (hb : b < 5) (hj : j < 7) : aw_F l g mi_X2_rest 2 [.ref (g_ad g 37), .int (nI a), .int (nI b), .int (nI j), .int x, .int y] (hp g s n) (.int (bB (rS s a b j x y))) (hp g s n) := by
  refine aw_F_of mo_X2_rest (by decide) (Nat.le_of_ble_eq_true rfl) ?_
  refine aw_aload_n rfl rfl ?_
  refine aw_iload_n rfl rfl ?_
  refine aw_iload_n rfl rfl ?_
  refine aw_iload rfl rfl ?_
  refine aw_iload rfl rfl ?_
  refine aw_iV (q0 := 37) (ci := 2) rfl cw_X2_43 rfl rfl rfl (c_X2_firstHas ha hj) rfl rfl (Nat.le_of_ble_eq_true rfl) (by decide) (by decide) (by decide) (by decide) ?_
  refine aw_aload_n rfl rfl ?_
  refine aw_iload_n rfl rfl ?_
  refine aw_iload_n rfl rfl ?_
  refine aw_iconst (v := 1) rfl (by decide) ?_
  refine aw_iload rfl rfl ?_
  refine aw_isub rfl ?_
  refine aw_iload rfl rfl ?_
  refine aw_iV (q0 := 37) (ci := 2) rfl cw_X2_43 rfl rfl rfl (c_X2_firstHas ha hj) rfl rfl (Nat.le_of_ble_eq_true rfl) (by decide) (by decide) (by decide) (by decide) ?_
  refine aw_icmp_lt (tgt := 56) rfl (by decide) (fun h22 => ?_) (fun h22 => ?_)
  · refine aw_iconst (v := 0) rfl (by decide) ?_
    exact aw_fz rfl rfl (by first | exact Or.inl rfl | exact Or.inr rfl | exact bB_01) (by first | (simp [rS, Int32.not_lt.mp h22, Int32.not_lt.mp h49, bB]; done) | (simp [rS, ← Int32.not_lt, h22, bB]; done) | (simp [rS, ← Int32.not_lt, h22, h49, bB]; done)) rfl
  · refine aw_aload_n rfl rfl ?_
    refine aw_iload_n rfl rfl ?_
    refine aw_iload_n rfl rfl ?_
    refine aw_iload_n rfl rfl ?_
    refine aw_iload rfl rfl ?_
    refine aw_iload rfl rfl ?_
    refine aw_iV (q0 := 37) (ci := 2) rfl cw_X2_47 rfl rfl rfl (c_X2_secondHas ha hb hj) rfl rfl (Nat.le_of_ble_eq_true rfl) (by decide) (by decide) (by decide) (by decide) ?_
    refine aw_aload_n rfl rfl ?_
    refine aw_iload_n rfl rfl ?_
    refine aw_iload_n rfl rfl ?_
    refine aw_iload_n rfl rfl ?_
    refine aw_iload rfl rfl ?_
    refine aw_iconst (v := 1) rfl (by decide) ?_
    refine aw_iload rfl rfl ?_
    refine aw_isub rfl ?_
    refine aw_iV (q0 := 37) (ci := 2) rfl cw_X2_47 rfl rfl rfl (c_X2_secondHas ha hb hj) rfl rfl (Nat.le_of_ble_eq_true rfl) (by decide) (by decide) (by decide) (by decide) ?_
    refine aw_icmp_lt (tgt := 56) rfl (by decide) (fun h49 => ?_) (fun h49 => ?_)
    · refine aw_iconst (v := 0) rfl (by decide) ?_
      exact aw_fz rfl rfl (by first | exact Or.inl rfl | exact Or.inr rfl | exact bB_01) (by first | (simp [rS, Int32.not_lt.mp h22, Int32.not_lt.mp h49, bB]; done) | (simp [rS, ← Int32.not_lt, h22, bB]; done) | (simp [rS, ← Int32.not_lt, h22, h49, bB]; done)) rfl
    · refine aw_iconst (v := 1) rfl (by decide) ?_
      refine aw_goto (tgt := 57) rfl (by decide) ?_
      exact aw_fz rfl rfl (by first | exact Or.inl rfl | exact Or.inr rfl | exact bB_01) (by first | (simp [rS, Int32.not_lt.mp h22, Int32.not_lt.mp h49, bB]; done) | (simp [rS, ← Int32.not_lt, h22, bB]; done) | (simp [rS, ← Int32.not_lt, h22, h49, bB]; done)) rfl
