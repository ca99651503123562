abbrev z0 (s : am_S) : am_S := up s 39 0 0
def hs (x k : Int32) : Bool := decide ((x >>> (k &&& 31)) &&& 1 = 1)
def kB (f : Nat → Int32) (c : Int32) (j : Nat) (r : Int32) : Bool := hs (f (3 * j + 2)) r || decide (c = 10 * nI j + r)
def m_law (s : am_S) (v : Int32) : Int32 × am_S := if v = -1 then (1, up (z0 s) 39 34 v) else if inn v.toInt64 0 (s 39 7 - 1).toInt64 = true then (1, up (z0 s) 39 34 v) else (0, z0 s)
def m_knives (s : am_S) (v : Int32) : Int32 × am_S := if inn v.toInt64 0 9 = true then (if v = s 39 35 then (0, z0 s) else (1, up (z0 s) 39 35 v)) else (0, z0 s)
def m_rule (s : am_S) (x : Int32) : Int32 := if s 39 26 = 0 then -1 else if inn x.toInt64 0 2 = true then (if x = 0 then s 52 31 else if x = 1 then s 52 32 else s 44 2) else -1
def m_ring (s : am_S) (r x : Int32) : Int32 := if isRm s r = true then (if inn x.toInt64 0 1 = true then s 52 (21 + 2 * cl r + cl x) else -1) else -1
def m_warmth (s : am_S) (k : Int32) : Int32 := if s 39 26 ≤ 0 then -1 else if inn k.toInt64 0 60 = true then warm (s 52 32) (s 52 35 + k) else -1
def m_end (s : am_S) (v : Int32) : Int32 × am_S := if v < 0 then (0, z0 s) else if v ≤ s 39 6 then (1, up (z0 s) 39 6 v) else (0, z0 s)
theorem inn_nI {x : Int32} {M : Nat} (hM : M < 2 ^ 31) {b : Int64} (hb : b.toInt = M) (h : inn x.toInt64 0 b = true) : ∃ j, j ≤ M ∧ x = nI j := by
  rw [inn_i (A := 0) (B := M) (by decide) hb] at h
  simp only [Bool.and_eq_true, decide_eq_true_eq] at h
  obtain ⟨j, hj, rfl⟩ := nI_of (x := x) (by rw [Int32.lt_iff_toInt_lt]; have e0 : (0 : Int32).toInt = 0 := (by decide); omega)
  rw [nI_toInt hj] at h
  exact ⟨j, by omega, rfl⟩
set_option maxRecDepth 4000 in
theorem c_m_has {l : Launch} {g : ag_G} {x r : Int32} {ws : va_W} : aw_F l g mi_X12_has 0 [.int x, .int r] (ws) (.int (bB (hs x r))) (ws) := by
  refine aw_F_of mo_X12_has (by decide) (Nat.le_of_ble_eq_true rfl) ?_
  refine aw_iload_n rfl rfl ?_
  refine aw_iload_n rfl rfl ?_
  refine aw_ishr rfl ?_
  refine aw_iconst (v := 1) rfl (by decide) ?_
  refine aw_iand rfl ?_
  refine aw_iconst (v := 1) rfl (by decide) ?_
  refine aw_icmp_ne (tgt := 13) rfl (by decide) (fun h6 => ?_) (fun h6 => ?_)
  · refine aw_iconst (v := 0) rfl (by decide) ?_
    exact aw_fz rfl rfl (by first | exact Or.inl rfl | exact Or.inr rfl | exact bB_01) (by first | (simp [hs, h6, bB]; done) | (simp [hs, (by simpa using h6 : (x >>> (r &&& 31)) &&& 1 = 1), bB]; done)) rfl
  · refine aw_iconst (v := 1) rfl (by decide) ?_
    refine aw_goto (tgt := 14) rfl (by decide) ?_
    exact aw_fz rfl rfl (by first | exact Or.inl rfl | exact Or.inr rfl | exact bB_01) (by first | (simp [hs, h6, bB]; done) | (simp [hs, (by simpa using h6 : (x >>> (r &&& 31)) &&& 1 = 1), bB]; done)) rfl
set_option maxRecDepth 4000 in
theorem c_m_knowsBy {l : Launch} {g : ag_G} {s : am_S} {n : am_N} {c r : Int32} {j : Nat} (hj : j < 7) : aw_F l g mi_X12_knowsBy 1 [.ref (g_ad g 39), .int c, .int (nI j), .int r] (hp g s n) (.int (bB (kB (s 52) c j r))) (hp g s n) := by
  refine aw_F_of mo_X12_knowsBy (by decide) (Nat.le_of_ble_eq_true rfl) ?_
  refine aw_aload_n rfl rfl ?_
  refine pg_39_32 rfl kl_X12_61 ?_
  refine aw_iconst (v := 3) rfl (by decide) ?_
  refine aw_iload_n rfl rfl ?_
  refine aw_imul rfl ?_
  refine aw_iconst (v := 2) rfl (by decide) ?_
  refine aw_iadd rfl ?_
  refine pl_52 rfl (i3 j 2) (by omega) ?_
  refine aw_iload_n rfl rfl ?_
  refine aw_iS rfl cw_X12_229 (c_m_has) rfl rfl (Nat.le_of_ble_eq_true rfl) (by decide) (by decide) (by decide) (by decide) ?_
  refine aw_if_ne (tgt := 27) rfl (by decide) (fun h14 => ?_) (fun h14 => ?_)
  · refine aw_iconst (v := 1) rfl (by decide) ?_
    refine aw_goto (tgt := 32) rfl (by decide) ?_
    exact aw_fz rfl rfl (by first | exact Or.inl rfl | exact Or.inr rfl | exact bB_01) (by first | (have z := bB_n0.mp h14; simp [kB, z, bB]; done) | (have z := bB_0.mp (by simpa using h14); simp [kB, z, h24, bB]; done) | (have z := bB_0.mp (by simpa using h14); simp [kB, z, (by simpa using h24 : c = 10 * nI j + r), bB]; done)) rfl
  · refine aw_iload_n rfl rfl ?_
    refine aw_bipush (v := 10) rfl (by decide) ?_
    refine aw_iload_n rfl rfl ?_
    refine aw_imul rfl ?_
    refine aw_iload_n rfl rfl ?_
    refine aw_iadd rfl ?_
    refine aw_icmp_ne (tgt := 31) rfl (by decide) (fun h24 => ?_) (fun h24 => ?_)
    · refine aw_iconst (v := 0) rfl (by decide) ?_
      exact aw_fz rfl rfl (by first | exact Or.inl rfl | exact Or.inr rfl | exact bB_01) (by first | (have z := bB_n0.mp h14; simp [kB, z, bB]; done) | (have z := bB_0.mp (by simpa using h14); simp [kB, z, h24, bB]; done) | (have z := bB_0.mp (by simpa using h14); simp [kB, z, (by simpa using h24 : c = 10 * nI j + r), bB]; done)) rfl
    · refine aw_iconst (v := 1) rfl (by decide) ?_
      refine aw_goto (tgt := 32) rfl (by decide) ?_
      exact aw_fz rfl rfl (by first | exact Or.inl rfl | exact Or.inr rfl | exact bB_01) (by first | (have z := bB_n0.mp h14; simp [kB, z, bB]; done) | (have z := bB_0.mp (by simpa using h14); simp [kB, z, h24, bB]; done) | (have z := bB_0.mp (by simpa using h14); simp [kB, z, (by simpa using h24 : c = 10 * nI j + r), bB]; done)) rfl
set_option maxRecDepth 4000 in
set_option maxHeartbeats 1000000 in
theorem c_m_pries_52 {l : Launch} {g : ag_G} {s : am_S} {n : am_N} {j r : Nat} (hj : j < 7) (hr : r < 5) : aw_F l g mi_X12_pries 1 [.ref (g_ad g 52), .int (nI j), .int (nI r)] (hp g s n) (.int (bB (mPry (s 52) j r).1)) (hp g (upR s 52 (mPry (s 52) j r).2) n) := by
  have n1 : ¬ (21 + 2 * r = 3 * j + 2) := by omega
  have n2 : ¬ (3 * j + 1 = 3 * j + 2) := by omega
  have n3 : ¬ (34 = 3 * j + 2) := by omega
  have n4 : ¬ (21 + 2 * r = 3 * j + 1) := by omega
  have n5 : ¬ (21 + 2 * r + 1 = 21 + 2 * r) := by omega
  have n6 : ¬ (21 + 2 * r + 1 = 3 * j + 1) := by omega
  have n7 : ¬ (21 + 2 * r + 1 = 3 * j + 2) := by omega
  refine aw_F_of mo_X12_pries (by decide) (Nat.le_of_ble_eq_true rfl) ?_
  refine aw_aload_n rfl rfl ?_
  refine aw_iconst (v := 3) rfl (by decide) ?_
  refine aw_iload_n rfl rfl ?_
  refine aw_imul rfl ?_
  refine aw_iconst (v := 2) rfl (by decide) ?_
  refine aw_iadd rfl ?_
  refine aw_dup2 rfl rfl rfl ?_
  refine pl_52 rfl (i3 j 2) (by omega) ?_
  refine aw_iconst (v := 1) rfl (by decide) ?_
  refine aw_iload_n rfl rfl ?_
  refine aw_ishl rfl ?_
  refine aw_ior rfl ?_
  refine ps_52 rfl (i3 j 2) (by omega) ?_
  refine aw_aload_n rfl rfl ?_
  refine aw_iload_n rfl rfl ?_
  refine aw_iload_n rfl rfl ?_
  refine aw_iS rfl cw_X12_386 (c_m_isSkilled_52 hj hr) rfl rfl (Nat.le_of_ble_eq_true rfl) (by decide) (by decide) (by decide) (by decide) ?_
  refine aw_if_eq (tgt := 32) rfl (by decide) (fun h19 => ?_) (fun h19 => ?_)
  · refine aw_aload_n rfl rfl ?_
    refine aw_iconst (v := 3) rfl (by decide) ?_
    refine aw_iload_n rfl rfl ?_
    refine aw_imul rfl ?_
    refine aw_iconst (v := 1) rfl (by decide) ?_
    refine aw_iadd rfl ?_
    refine aw_iconst (v := 0) rfl (by decide) ?_
    refine ps_52 rfl (i3 j 1) (by omega) ?_
    refine aw_aload_n rfl rfl ?_
    refine aw_bipush (v := 21) rfl (by decide) ?_
    refine aw_iconst (v := 2) rfl (by decide) ?_
    refine aw_iload_n rfl rfl ?_
    refine aw_imul rfl ?_
    refine aw_iadd rfl ?_
    refine aw_iconst (v := 0) rfl (by decide) ?_
    refine aw_aload_n rfl rfl ?_
    refine aw_bipush (v := 21) rfl (by decide) ?_
    refine aw_iconst (v := 2) rfl (by decide) ?_
    refine aw_iload_n rfl rfl ?_
    refine aw_imul rfl ?_
    refine aw_iadd rfl ?_
    refine pl_52 rfl (i21 r) (by omega) ?_
    refine aw_iconst (v := 1) rfl (by decide) ?_
    refine aw_isub rfl ?_
    refine aw_mmax rfl km_X12_326 (aw_t2 168 rfl rfl) (aw_t1 18 rfl rfl) (aw_t2 169 rfl rfl) (by decide) (Nat.le_of_ble_eq_true rfl) (by decide) (by decide) ?_
    refine ps_52 rfl (i21 r) (by omega) ?_
    refine aw_aload_n rfl rfl ?_
    refine aw_bipush (v := 21) rfl (by decide) ?_
    refine aw_iconst (v := 2) rfl (by decide) ?_
    refine aw_iload_n rfl rfl ?_
    refine aw_imul rfl ?_
    refine aw_iadd rfl ?_
    refine aw_iconst (v := 1) rfl (by decide) ?_
    refine aw_iadd rfl ?_
    refine aw_bipush (v := 9) rfl (by decide) ?_
    refine aw_aload_n rfl rfl ?_
    refine aw_bipush (v := 21) rfl (by decide) ?_
    refine aw_iconst (v := 2) rfl (by decide) ?_
    refine aw_iload_n rfl rfl ?_
    refine aw_imul rfl ?_
    refine aw_iadd rfl ?_
    refine aw_iconst (v := 1) rfl (by decide) ?_
    refine aw_iadd rfl ?_
    refine pl_52 rfl (i21c r 1) (by omega) ?_
    refine aw_iconst (v := 1) rfl (by decide) ?_
    refine aw_iadd rfl ?_
    refine aw_mmin rfl km_X12_309 (aw_t2 171 rfl rfl) (aw_t1 18 rfl rfl) (aw_t2 172 rfl rfl) (by decide) (Nat.le_of_ble_eq_true rfl) (by decide) (by decide) ?_
    refine ps_52 rfl (i21c r 1) (by omega) ?_
    refine aw_iconst (v := 0) rfl (by decide) ?_
    have q : skm (s 52) j r = false := by simpa [skm, up_s, n1, n2] using bB_0.mp h19
    exact aw_fz rfl rfl (Or.inl rfl) (by simp [mPry, q, bB]) (by simp only [mPry, q]; simp only [up_s, n1, n4, n5, n6, n7, if_false]; rfl)
  · refine aw_aload_n rfl rfl ?_
    refine aw_bipush (v := 34) rfl (by decide) ?_
    refine aw_dup2 rfl rfl rfl ?_
    refine pl_52 (j := 34) rfl rfl (by decide) ?_
    refine aw_iconst (v := 1) rfl (by decide) ?_
    refine aw_iadd rfl ?_
    refine ps_52 (j := 34) rfl rfl (by decide) ?_
    refine aw_iconst (v := 1) rfl (by decide) ?_
    have q : skm (s 52) j r = true := by simpa [skm, up_s, n1, n2] using bB_n0.mp h19
    exact aw_fz rfl rfl (Or.inr rfl) (by simp [mPry, q, bB]) (by simp only [mPry, q, if_true]; rw [show (up s 52 (3 * j + 2) (s 52 (3 * j + 2) ||| 1 <<< (nI r &&& 31))) 52 34 = s 52 34 from by (rw [up_s, if_neg n3])]; rfl)
set_option maxRecDepth 4000 in
set_option maxHeartbeats 1000000 in
theorem c_m_pries_53 {l : Launch} {g : ag_G} {s : am_S} {n : am_N} {j r : Nat} (hj : j < 7) (hr : r < 5) : aw_F l g mi_X12_pries 1 [.ref (g_ad g 53), .int (nI j), .int (nI r)] (hp g s n) (.int (bB (mPry (s 53) j r).1)) (hp g (upR s 53 (mPry (s 53) j r).2) n) := by
  have n1 : ¬ (21 + 2 * r = 3 * j + 2) := by omega
  have n2 : ¬ (3 * j + 1 = 3 * j + 2) := by omega
  have n3 : ¬ (34 = 3 * j + 2) := by omega
  have n4 : ¬ (21 + 2 * r = 3 * j + 1) := by omega
  have n5 : ¬ (21 + 2 * r + 1 = 21 + 2 * r) := by omega
  have n6 : ¬ (21 + 2 * r + 1 = 3 * j + 1) := by omega
  have n7 : ¬ (21 + 2 * r + 1 = 3 * j + 2) := by omega
  refine aw_F_of mo_X12_pries (by decide) (Nat.le_of_ble_eq_true rfl) ?_
  refine aw_aload_n rfl rfl ?_
  refine aw_iconst (v := 3) rfl (by decide) ?_
  refine aw_iload_n rfl rfl ?_
  refine aw_imul rfl ?_
  refine aw_iconst (v := 2) rfl (by decide) ?_
  refine aw_iadd rfl ?_
  refine aw_dup2 rfl rfl rfl ?_
  refine pl_53 rfl (i3 j 2) (by omega) ?_
  refine aw_iconst (v := 1) rfl (by decide) ?_
  refine aw_iload_n rfl rfl ?_
  refine aw_ishl rfl ?_
  refine aw_ior rfl ?_
  refine ps_53 rfl (i3 j 2) (by omega) ?_
  refine aw_aload_n rfl rfl ?_
  refine aw_iload_n rfl rfl ?_
  refine aw_iload_n rfl rfl ?_
  refine aw_iS rfl cw_X12_386 (c_m_isSkilled_53 hj hr) rfl rfl (Nat.le_of_ble_eq_true rfl) (by decide) (by decide) (by decide) (by decide) ?_
  refine aw_if_eq (tgt := 32) rfl (by decide) (fun h19 => ?_) (fun h19 => ?_)
  · refine aw_aload_n rfl rfl ?_
    refine aw_iconst (v := 3) rfl (by decide) ?_
    refine aw_iload_n rfl rfl ?_
    refine aw_imul rfl ?_
    refine aw_iconst (v := 1) rfl (by decide) ?_
    refine aw_iadd rfl ?_
    refine aw_iconst (v := 0) rfl (by decide) ?_
    refine ps_53 rfl (i3 j 1) (by omega) ?_
    refine aw_aload_n rfl rfl ?_
    refine aw_bipush (v := 21) rfl (by decide) ?_
    refine aw_iconst (v := 2) rfl (by decide) ?_
    refine aw_iload_n rfl rfl ?_
    refine aw_imul rfl ?_
    refine aw_iadd rfl ?_
    refine aw_iconst (v := 0) rfl (by decide) ?_
    refine aw_aload_n rfl rfl ?_
    refine aw_bipush (v := 21) rfl (by decide) ?_
    refine aw_iconst (v := 2) rfl (by decide) ?_
    refine aw_iload_n rfl rfl ?_
    refine aw_imul rfl ?_
    refine aw_iadd rfl ?_
    refine pl_53 rfl (i21 r) (by omega) ?_
    refine aw_iconst (v := 1) rfl (by decide) ?_
    refine aw_isub rfl ?_
    refine aw_mmax rfl km_X12_326 (aw_t2 168 rfl rfl) (aw_t1 18 rfl rfl) (aw_t2 169 rfl rfl) (by decide) (Nat.le_of_ble_eq_true rfl) (by decide) (by decide) ?_
    refine ps_53 rfl (i21 r) (by omega) ?_
    refine aw_aload_n rfl rfl ?_
    refine aw_bipush (v := 21) rfl (by decide) ?_
    refine aw_iconst (v := 2) rfl (by decide) ?_
    refine aw_iload_n rfl rfl ?_
    refine aw_imul rfl ?_
    refine aw_iadd rfl ?_
    refine aw_iconst (v := 1) rfl (by decide) ?_
    refine aw_iadd rfl ?_
    refine aw_bipush (v := 9) rfl (by decide) ?_
    refine aw_aload_n rfl rfl ?_
    refine aw_bipush (v := 21) rfl (by decide) ?_
    refine aw_iconst (v := 2) rfl (by decide) ?_
    refine aw_iload_n rfl rfl ?_
    refine aw_imul rfl ?_
    refine aw_iadd rfl ?_
    refine aw_iconst (v := 1) rfl (by decide) ?_
    refine aw_iadd rfl ?_
    refine pl_53 rfl (i21c r 1) (by omega) ?_
    refine aw_iconst (v := 1) rfl (by decide) ?_
    refine aw_iadd rfl ?_
    refine aw_mmin rfl km_X12_309 (aw_t2 171 rfl rfl) (aw_t1 18 rfl rfl) (aw_t2 172 rfl rfl) (by decide) (Nat.le_of_ble_eq_true rfl) (by decide) (by decide) ?_
    refine ps_53 rfl (i21c r 1) (by omega) ?_
    refine aw_iconst (v := 0) rfl (by decide) ?_
    have q : skm (s 53) j r = false := by simpa [skm, up_s, n1, n2] using bB_0.mp h19
    exact aw_fz rfl rfl (Or.inl rfl) (by simp [mPry, q, bB]) (by simp only [mPry, q]; simp only [up_s, n1, n4, n5, n6, n7, if_false]; rfl)
  · refine aw_aload_n rfl rfl ?_
    refine aw_bipush (v := 34) rfl (by decide) ?_
    refine aw_dup2 rfl rfl rfl ?_
    refine pl_53 (j := 34) rfl rfl (by decide) ?_
    refine aw_iconst (v := 1) rfl (by decide) ?_
    refine aw_iadd rfl ?_
    refine ps_53 (j := 34) rfl rfl (by decide) ?_
    refine aw_iconst (v := 1) rfl (by decide) ?_
    have q : skm (s 53) j r = true := by simpa [skm, up_s, n1, n2] using bB_n0.mp h19
    exact aw_fz rfl rfl (Or.inr rfl) (by simp [mPry, q, bB]) (by simp only [mPry, q, if_true]; rw [show (up s 53 (3 * j + 2) (s 53 (3 * j + 2) ||| 1 <<< (nI r &&& 31))) 53 34 = s 53 34 from by (rw [up_s, if_neg n3])]; rfl)
set_option maxRecDepth 4000 in
theorem c_m_law {l : Launch} {g : ag_G} {s : am_S} {n : am_N} {v : Int32} : aw_F l g mi_X12_law 1 [.ref (g_ad g 39), .int v] (hp g s n) (.int (m_law s v).1) (hp g (m_law s v).2 n) := by
  refine aw_F_of mo_X12_law (by decide) (Nat.le_of_ble_eq_true rfl) ?_
  refine aw_aload_n rfl rfl ?_
  refine aw_iconst (v := 0) rfl (by decide) ?_
  refine pp_39_0 rfl kl_X12_96 ?_
  refine aw_iload_n rfl rfl ?_
  refine aw_iconst (v := -1) rfl (by decide) ?_
  refine aw_icmp_eq (tgt := 28) rfl (by decide) (fun h7 => ?_) (fun h7 => ?_)
  · refine aw_aload_n rfl rfl ?_
    refine aw_iload_n rfl rfl ?_
    refine pp_39_34 rfl kl_X12_67 ?_
    refine aw_iconst (v := 1) rfl (by decide) ?_
    exact aw_fz rfl rfl (Or.inr rfl) (by first | (simp [m_law, (by simpa using h7 : v = -1)]; done) | (have z2 : inn v.toInt64 0 (s 39 7 - 1).toInt64 = true := bB_n0.mp h23; simp [m_law, h7, z2]; done)) (by first | (simp [m_law, (by simpa using h7 : v = -1)]; done) | (have z2 : inn v.toInt64 0 (s 39 7 - 1).toInt64 = true := bB_n0.mp h23; simp [m_law, h7, z2]; done))
  · refine aw_iload_n rfl rfl ?_
    refine aw_i2l rfl ?_
    refine aw_lconst (v := 0) rfl (by decide) ?_
    refine aw_aload_n rfl rfl ?_
    refine pg_39_7 rfl kl_X12_283 ?_
    refine aw_iconst (v := 1) rfl (by decide) ?_
    refine aw_isub rfl ?_
    refine aw_i2l rfl ?_
    refine aw_iS rfl cw_X12_217 (c_m_isIn) rfl rfl (Nat.le_of_ble_eq_true rfl) (by decide) (by decide) (by decide) (by decide) ?_
    refine aw_if_ne (tgt := 28) rfl (by decide) (fun h23 => ?_) (fun h23 => ?_)
    · refine aw_aload_n rfl rfl ?_
      refine aw_iload_n rfl rfl ?_
      refine pp_39_34 rfl kl_X12_67 ?_
      refine aw_iconst (v := 1) rfl (by decide) ?_
      exact aw_fz rfl rfl (Or.inr rfl) (by first | (simp [m_law, (by simpa using h7 : v = -1)]; done) | (have z2 : inn v.toInt64 0 (s 39 7 - 1).toInt64 = true := bB_n0.mp h23; simp [m_law, h7, z2]; done)) (by first | (simp [m_law, (by simpa using h7 : v = -1)]; done) | (have z2 : inn v.toInt64 0 (s 39 7 - 1).toInt64 = true := bB_n0.mp h23; simp [m_law, h7, z2]; done))
    · refine aw_iconst (v := 0) rfl (by decide) ?_
      exact aw_fz rfl rfl (Or.inl rfl) (by have z := bB_0.mp (by simpa using h23); have z2 : inn v.toInt64 0 (s 39 7 - 1).toInt64 = false := z; simp [m_law, h7, z2]) (by have z := bB_0.mp (by simpa using h23); have z2 : inn v.toInt64 0 (s 39 7 - 1).toInt64 = false := z; simp [m_law, h7, z2])
set_option maxRecDepth 4000 in
theorem c_m_knives {l : Launch} {g : ag_G} {s : am_S} {n : am_N} {v : Int32} : aw_F l g mi_X12_knives 1 [.ref (g_ad g 39), .int v] (hp g s n) (.int (m_knives s v).1) (hp g (m_knives s v).2 n) := by
  refine aw_F_of mo_X12_knives (by decide) (Nat.le_of_ble_eq_true rfl) ?_
  refine aw_aload_n rfl rfl ?_
  refine aw_iconst (v := 0) rfl (by decide) ?_
  refine pp_39_0 rfl kl_X12_96 ?_
  refine aw_iload_n rfl rfl ?_
  refine aw_i2l rfl ?_
  refine aw_lconst (v := 0) rfl (by decide) ?_
  refine aw_ldc2 (v := 9) rfl (aw_t7 135 rfl rfl) ?_
  refine aw_iS rfl cw_X12_217 (c_m_isIn) rfl rfl (Nat.le_of_ble_eq_true rfl) (by decide) (by decide) (by decide) (by decide) ?_
  refine aw_if_eq (tgt := 25) rfl (by decide) (fun h14 => ?_) (fun h14 => ?_)
  · refine aw_iconst (v := 0) rfl (by decide) ?_
    exact aw_fz rfl rfl (Or.inl rfl) (by first | (simp [m_knives, bB_0.mp h14]; done) | (simp [m_knives, bB_n0.mp h14, (show v = s 39 35 from h22)]; done)) (by first | (simp [m_knives, bB_0.mp h14]; done) | (simp [m_knives, bB_n0.mp h14, (show v = s 39 35 from h22)]; done))
  · refine aw_iload_n rfl rfl ?_
    refine aw_aload_n rfl rfl ?_
    refine pg_39_35 rfl kl_X12_356 ?_
    refine aw_icmp_ne (tgt := 27) rfl (by decide) (fun h22 => ?_) (fun h22 => ?_)
    · refine aw_aload_n rfl rfl ?_
      refine aw_iload_n rfl rfl ?_
      refine pp_39_35 rfl kl_X12_356 ?_
      refine aw_iconst (v := 1) rfl (by decide) ?_
      exact aw_fz rfl rfl (Or.inr rfl) (by simp [m_knives, bB_n0.mp h14, (show ¬ v = s 39 35 from h22)]) (by simp [m_knives, bB_n0.mp h14, (show ¬ v = s 39 35 from h22)])
    · refine aw_iconst (v := 0) rfl (by decide) ?_
      exact aw_fz rfl rfl (Or.inl rfl) (by first | (simp [m_knives, bB_0.mp h14]; done) | (simp [m_knives, bB_n0.mp h14, (show v = s 39 35 from h22)]; done)) (by first | (simp [m_knives, bB_0.mp h14]; done) | (simp [m_knives, bB_n0.mp h14, (show v = s 39 35 from h22)]; done))
set_option maxRecDepth 4000 in
theorem c_m_end {l : Launch} {g : ag_G} {s : am_S} {n : am_N} {v : Int32} : aw_F l g mi_X12_end 0 [.ref (g_ad g 39), .int v] (hp g s n) (.int (m_end s v).1) (hp g (m_end s v).2 n) := by
  refine aw_F_of mo_X12_end (by decide) (Nat.le_of_ble_eq_true rfl) ?_
  refine aw_aload_n rfl rfl ?_
  refine aw_iconst (v := 0) rfl (by decide) ?_
  refine pp_39_0 rfl kl_X12_96 ?_
  refine aw_iload_n rfl rfl ?_
  refine aw_if_lt (tgt := 17) rfl (by decide) (fun h6 => ?_) (fun h6 => ?_)
  · refine aw_iconst (v := 0) rfl (by decide) ?_
    exact aw_fz rfl rfl (Or.inl rfl) (by first | (simp [m_end, h6]; done) | (simp [m_end, h6, (show ¬ v ≤ s 39 6 from h14)]; done)) (by first | (simp [m_end, h6]; done) | (simp [m_end, h6, (show ¬ v ≤ s 39 6 from h14)]; done))
  · refine aw_iload_n rfl rfl ?_
    refine aw_aload_n rfl rfl ?_
    refine pg_39_6 rfl kl_X12_109 ?_
    refine aw_icmp_le (tgt := 19) rfl (by decide) (fun h14 => ?_) (fun h14 => ?_)
    · refine aw_aload_n rfl rfl ?_
      refine aw_iload_n rfl rfl ?_
      refine pp_39_6 rfl kl_X12_109 ?_
      refine aw_iconst (v := 1) rfl (by decide) ?_
      exact aw_fz rfl rfl (Or.inr rfl) (by simp [m_end, h6, (show v ≤ s 39 6 from h14)]) (by simp [m_end, h6, (show v ≤ s 39 6 from h14)])
    · refine aw_iconst (v := 0) rfl (by decide) ?_
      exact aw_fz rfl rfl (Or.inl rfl) (by first | (simp [m_end, h6]; done) | (simp [m_end, h6, (show ¬ v ≤ s 39 6 from h14)]; done)) (by first | (simp [m_end, h6]; done) | (simp [m_end, h6, (show ¬ v ≤ s 39 6 from h14)]; done))
