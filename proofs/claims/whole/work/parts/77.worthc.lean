/-! rows that came later; the worth of a law by its code -/
theorem hp_x {g : ag_G} {s : am_S} {n : am_N} {j : Nat} : (hp g s n)[j + 63]? = n.2.2.2[j]? := rfl
section AwXr
variable {l : Launch} {g : ag_G} {M : ag_M} {R : Room} {Z : ag_Z} {cells slots : Nat} {s : am_S} {n : am_N} {pc : Nat} {L : List (Option Value)} {st : List Value} {j a len q : Nat} {f : Nat → Int32} {i v : Int32}
theorem pl_X (hd : m_at M pc = some (.iaload, 1)) (ha : n.2.2.2[j]? = some (a, .inl (g_ca g 0, len, .inl f))) (hi : i = nI q) (hq : q < len) (hl : len < 2 ^ 31) (kk : aw_W l g M R Z cells slots (hp g s n) (pc + 1) L (.int (f q) :: st)) : aw_W l g M R Z cells slots (hp g s n) pc L (.int i :: .ref a :: st) := by
  subst hi
  exact aw_iald (q0 := j + 63) hd (hp_x.trans ha) (vp_in_nI hq hl) (by rw [nI_clamp (Nat.lt_trans hq hl)]; exact kk)
theorem pn_X (hd : m_at M pc = some (.arraylength, 1)) (ha : n.2.2.2[j]? = some (a, .inl (g_ca g 0, len, .inl f))) (hv : Int32.ofNat len = v) (kk : aw_W l g M R Z cells slots (hp g s n) (pc + 1) L (.int v :: st)) : aw_W l g M R Z cells slots (hp g s n) pc L (.ref a :: st) := aw_alen (q0 := j + 63) 0 hd (by decide) (hp_x.trans ha) hv kk
end AwXr
set_option maxRecDepth 4000 in
theorem c_X6_letterOf {l : Launch} {g : ag_G} {s : am_S} {n : am_N} {x : Int32} : aw_F l g mi_X6_letterOf 0 [.ref (g_ad g 10), .int x] (hp g s n) (.int (ltA (s 13) x)) (hp g s n) := by
  refine aw_F_of mo_X6_letterOf (by decide) (Nat.le_of_ble_eq_true rfl) ?_
  refine aw_iload_n rfl rfl ?_
  refine aw_sipush (v := 10000) rfl (by decide) ?_
  refine aw_isub rfl ?_
  refine aw_istore_n rfl (by decide) ?_
  refine aw_iload_n rfl rfl ?_
  refine aw_if_lt (tgt := 28) rfl (by decide) (fun h7 => ?_) (fun h7 => ?_)
  · refine aw_iconst (v := 0) rfl (by decide) ?_
    exact aw_fi rfl rfl (by unfold ltA; first | (rw [if_pos h7]; done) | (rw [if_neg h7, if_neg (Int32.not_lt.mpr h16)]; done) | (rw [if_neg h7, if_pos (Int32.not_le.mp h16), hje, cl_nI (by omega)])) rfl
  · refine aw_iload_n rfl rfl ?_
    refine aw_aload_n rfl rfl ?_
    refine pg_10_2 rfl kl_X6_22 ?_
    refine pn_13 (v := 6) rfl (by decide) ?_
    refine aw_icmp_ge (tgt := 28) rfl (by decide) (fun h16 => ?_) (fun h16 => ?_)
    · refine aw_iconst (v := 0) rfl (by decide) ?_
      exact aw_fi rfl rfl (by unfold ltA; first | (rw [if_pos h7]; done) | (rw [if_neg h7, if_neg (Int32.not_lt.mpr h16)]; done) | (rw [if_neg h7, if_pos (Int32.not_le.mp h16), hje, cl_nI (by omega)])) rfl
    · obtain ⟨j, hj, hje⟩ := nI_lt7 (T := 6) (by decide) (Int32.not_lt.mp h7) (Int32.not_le.mp h16)
      refine aw_aload_n rfl rfl ?_
      refine pg_10_2 rfl kl_X6_22 ?_
      refine aw_iload_n rfl rfl ?_
      refine pl_13 (j := j) rfl hje hj ?_
      refine aw_goto (tgt := 29) rfl (by decide) ?_
      exact aw_fi rfl rfl (by unfold ltA; first | (rw [if_pos h7]; done) | (rw [if_neg h7, if_neg (Int32.not_lt.mpr h16)]; done) | (rw [if_neg h7, if_pos (Int32.not_le.mp h16), hje, cl_nI (by omega)])) rfl
/-- the bounds, as joined takes them, are those of wi -/
theorem wi_mid {v : Int64} (h1 : lg_cmp v 1000000 ≤ 0) (h2 : 0 ≤ lg_cmp v (-1000000)) : v.toInt32 = wi v := by
  have a := (lg_cmp_le _ _).mp h1
  have b := (lg_cmp_ge _ _).mp h2
  unfold wi
  by_cases h : v < 1000000
  · rw [if_pos h, if_neg (Int64.not_lt.mpr b)]
  · obtain rfl : v = 1000000 := Int64.le_antisymm a (Int64.not_lt.mp h)
    rfl
theorem wi_low {v : Int64} (h1 : lg_cmp v 1000000 ≤ 0) (h2 : ¬ 0 ≤ lg_cmp v (-1000000)) : (-1000000 : Int32) = wi v := by
  have b : v < -1000000 := Int64.not_le.mp (fun z => h2 ((lg_cmp_ge _ _).mpr z))
  have h : v < 1000000 := Int64.lt_trans b (by decide)
  unfold wi
  rw [if_pos h, if_pos b]
  rfl
theorem wi_high {v : Int64} (h1 : ¬ lg_cmp v 1000000 ≤ 0) : (1000000 : Int32) = wi v := by
  have b : 1000000 < v := Int64.not_le.mp (fun z => h1 ((lg_cmp_le _ _).mpr z))
  have h : ¬ v < 1000000 := fun z => absurd (Int64.lt_trans z b) (Int64.lt_irrefl)
  unfold wi
  rw [if_neg h]
  rfl
theorem jn_mul {c a b : Int32} (h1 : ¬ c = 38) (h2 : ¬ c = 47) (h3 : ¬ c = 60) (h4 : ¬ c = 61) (h5 : ¬ c = 62) (h6 : ¬ c = 124) (h7 : ¬ c = 43) (h8 : ¬ c = 45) : jn c a b = wi (a.toInt64 * b.toInt64) := by
  unfold jn
  rw [if_neg h1, if_neg h2, if_neg h3, if_neg h4, if_neg h5, if_neg h6, if_neg h7, if_neg h8]
theorem jn_sub {c a b : Int32} (h1 : ¬ c = 38) (h2 : ¬ c = 47) (h3 : ¬ c = 60) (h4 : ¬ c = 61) (h5 : ¬ c = 62) (h6 : ¬ c = 124) (h7 : ¬ c = 43) (h8 : c = 45) : jn c a b = wi (a.toInt64 - b.toInt64) := by
  unfold jn
  rw [if_neg h1, if_neg h2, if_neg h3, if_neg h4, if_neg h5, if_neg h6, if_neg h7, if_pos h8]
theorem jn_add {c a b : Int32} (h1 : ¬ c = 38) (h2 : ¬ c = 47) (h3 : ¬ c = 60) (h4 : ¬ c = 61) (h5 : ¬ c = 62) (h6 : ¬ c = 124) (h7 : c = 43) : jn c a b = wi (a.toInt64 + b.toInt64) := by
  unfold jn
  rw [if_neg h1, if_neg h2, if_neg h3, if_neg h4, if_neg h5, if_neg h6, if_pos h7]
set_option maxRecDepth 4000 in
theorem c_X6_joined {l : Launch} {g : ag_G} {ws : va_W} {c a b : Int32} : aw_F l g mi_X6_joined 1 [.int c, .int a, .int b] ws (.int (jn c a b)) ws := by
  refine aw_F_of mo_X6_joined (by decide) (Nat.le_of_ble_eq_true rfl) ?_
  refine aw_iload_n rfl rfl ?_
  refine aw_sw 38 (fun h1_38 => ?_) (fun h1_38 => ?_)
  · refine aw_look (off := 92) (tgt := 93) rfl (by decide) (by decide) (by decide) ?_
    refine aw_iload_n rfl rfl ?_
    refine aw_iload_n rfl rfl ?_
    refine aw_iand rfl ?_
    exact aw_fi rfl rfl (by subst h1_38; rfl) rfl
  · skip
    refine aw_sw 47 (fun h1_47 => ?_) (fun h1_47 => ?_)
    · refine aw_look (off := 100) (tgt := 101) rfl (by decide) (by decide) (by decide) ?_
      refine aw_iload_n rfl rfl ?_
      refine aw_if_ne (tgt := 109) rfl (by decide) (fun h102 => ?_) (fun h102 => ?_)
      · refine aw_iload_n rfl rfl ?_
        refine aw_iload_n rfl rfl ?_
        refine aw_idiv rfl (by simpa using h102) ?_
        exact aw_fi rfl rfl (by subst h1_47; first | (show (0 : Int32) = jn 47 a b; unfold jn; rw [if_neg (by decide), if_pos rfl, if_pos (show b = 0 from by simpa using h102)]; done) | (show a / b = jn 47 a b; unfold jn; rw [if_neg (by decide), if_pos rfl, if_neg (show ¬ b = 0 from by simpa using h102)])) rfl
      · refine aw_iconst (v := 0) rfl (by decide) ?_
        refine aw_goto (tgt := 112) rfl (by decide) ?_
        exact aw_fi rfl rfl (by subst h1_47; first | (show (0 : Int32) = jn 47 a b; unfold jn; rw [if_neg (by decide), if_pos rfl, if_pos (show b = 0 from by simpa using h102)]; done) | (show a / b = jn 47 a b; unfold jn; rw [if_neg (by decide), if_pos rfl, if_neg (show ¬ b = 0 from by simpa using h102)])) rfl
    · skip
      refine aw_sw 60 (fun h1_60 => ?_) (fun h1_60 => ?_)
      · refine aw_look (off := 70) (tgt := 71) rfl (by decide) (by decide) (by decide) ?_
        refine aw_iload_n rfl rfl ?_
        refine aw_iload_n rfl rfl ?_
        refine aw_icmp_ge (tgt := 80) rfl (by decide) (fun h73 => ?_) (fun h73 => ?_)
        · refine aw_iconst (v := 0) rfl (by decide) ?_
          exact aw_fi rfl rfl (by subst h1_60; first | (show (0 : Int32) = jn 60 a b; unfold jn; rw [if_neg (by decide), if_neg (by decide), if_pos rfl, if_neg (Int32.not_lt.mpr h73)]; done) | (show (1 : Int32) = jn 60 a b; unfold jn; rw [if_neg (by decide), if_neg (by decide), if_pos rfl, if_pos (Int32.not_le.mp h73)])) rfl
        · refine aw_iconst (v := 1) rfl (by decide) ?_
          refine aw_goto (tgt := 81) rfl (by decide) ?_
          exact aw_fi rfl rfl (by subst h1_60; first | (show (0 : Int32) = jn 60 a b; unfold jn; rw [if_neg (by decide), if_neg (by decide), if_pos rfl, if_neg (Int32.not_lt.mpr h73)]; done) | (show (1 : Int32) = jn 60 a b; unfold jn; rw [if_neg (by decide), if_neg (by decide), if_pos rfl, if_pos (Int32.not_le.mp h73)])) rfl
      · skip
        refine aw_sw 61 (fun h1_61 => ?_) (fun h1_61 => ?_)
        · refine aw_look (off := 59) (tgt := 60) rfl (by decide) (by decide) (by decide) ?_
          refine aw_iload_n rfl rfl ?_
          refine aw_iload_n rfl rfl ?_
          refine aw_icmp_ne (tgt := 69) rfl (by decide) (fun h62 => ?_) (fun h62 => ?_)
          · refine aw_iconst (v := 0) rfl (by decide) ?_
            exact aw_fi rfl rfl (by subst h1_61; first | (show (0 : Int32) = jn 61 a b; unfold jn; rw [if_neg (by decide), if_neg (by decide), if_neg (by decide), if_pos rfl, if_neg h62]; done) | (show (1 : Int32) = jn 61 a b; unfold jn; rw [if_neg (by decide), if_neg (by decide), if_neg (by decide), if_pos rfl, if_pos (by simpa using h62)])) rfl
          · refine aw_iconst (v := 1) rfl (by decide) ?_
            refine aw_goto (tgt := 70) rfl (by decide) ?_
            exact aw_fi rfl rfl (by subst h1_61; first | (show (0 : Int32) = jn 61 a b; unfold jn; rw [if_neg (by decide), if_neg (by decide), if_neg (by decide), if_pos rfl, if_neg h62]; done) | (show (1 : Int32) = jn 61 a b; unfold jn; rw [if_neg (by decide), if_neg (by decide), if_neg (by decide), if_pos rfl, if_pos (by simpa using h62)])) rfl
        · skip
          refine aw_sw 62 (fun h1_62 => ?_) (fun h1_62 => ?_)
          · refine aw_look (off := 81) (tgt := 82) rfl (by decide) (by decide) (by decide) ?_
            refine aw_iload_n rfl rfl ?_
            refine aw_iload_n rfl rfl ?_
            refine aw_icmp_le (tgt := 91) rfl (by decide) (fun h84 => ?_) (fun h84 => ?_)
            · refine aw_iconst (v := 0) rfl (by decide) ?_
              exact aw_fi rfl rfl (by subst h1_62; first | (show (0 : Int32) = jn 62 a b; unfold jn; rw [if_neg (by decide), if_neg (by decide), if_neg (by decide), if_neg (by decide), if_pos rfl, if_neg (Int32.not_lt.mpr h84)]; done) | (show (1 : Int32) = jn 62 a b; unfold jn; rw [if_neg (by decide), if_neg (by decide), if_neg (by decide), if_neg (by decide), if_pos rfl, if_pos (Int32.not_le.mp h84)])) rfl
            · refine aw_iconst (v := 1) rfl (by decide) ?_
              refine aw_goto (tgt := 92) rfl (by decide) ?_
              exact aw_fi rfl rfl (by subst h1_62; first | (show (0 : Int32) = jn 62 a b; unfold jn; rw [if_neg (by decide), if_neg (by decide), if_neg (by decide), if_neg (by decide), if_pos rfl, if_neg (Int32.not_lt.mpr h84)]; done) | (show (1 : Int32) = jn 62 a b; unfold jn; rw [if_neg (by decide), if_neg (by decide), if_neg (by decide), if_neg (by decide), if_pos rfl, if_pos (Int32.not_le.mp h84)])) rfl
          · skip
            refine aw_sw 124 (fun h1_124 => ?_) (fun h1_124 => ?_)
            · refine aw_look (off := 96) (tgt := 97) rfl (by decide) (by decide) (by decide) ?_
              refine aw_iload_n rfl rfl ?_
              refine aw_iload_n rfl rfl ?_
              refine aw_ior rfl ?_
              exact aw_fi rfl rfl (by subst h1_124; rfl) rfl
            · skip
              refine aw_look (off := 112) (tgt := 113) rfl (by decide) (by rw [lv_osw h1_38 (by decide)]; rw [lv_osw h1_47 (by decide)]; rw [lv_osw h1_60 (by decide)]; rw [lv_osw h1_61 (by decide)]; rw [lv_osw h1_62 (by decide)]; rw [lv_osw h1_124 (by decide)]; rfl) (by decide) ?_
              refine aw_iload_n rfl rfl ?_
              refine aw_bipush (v := 43) rfl (by decide) ?_
              refine aw_icmp_ne (tgt := 127) rfl (by decide) (fun h116 => ?_) (fun h116 => ?_)
              · refine aw_iload_n rfl rfl ?_
                refine aw_bipush (v := 45) rfl (by decide) ?_
                refine aw_icmp_ne (tgt := 141) rfl (by decide) (fun h130 => ?_) (fun h130 => ?_)
                · refine aw_iload_n rfl rfl ?_
                  refine aw_i2l rfl ?_
                  refine aw_iload_n rfl rfl ?_
                  refine aw_i2l rfl ?_
                  refine aw_lmul rfl ?_
                  refine aw_lstore_n rfl (by decide) ?_
                  refine aw_lload_n rfl rfl ?_
                  refine aw_ldc2 (v := 1000000) rfl (aw_t3 205 rfl rfl) ?_
                  refine aw_lcmp rfl ?_
                  refine aw_if_le (tgt := 160) rfl (by decide) (fun h152 => ?_) (fun h152 => ?_)
                  · refine aw_lload_n rfl rfl ?_
                    refine aw_ldc2 (v := -1000000) rfl (aw_t3 207 rfl rfl) ?_
                    refine aw_lcmp rfl ?_
                    refine aw_if_ge (tgt := 173) rfl (by decide) (fun h165 => ?_) (fun h165 => ?_)
                    · refine aw_lload_n rfl rfl ?_
                      refine aw_l2i rfl ?_
                      exact aw_fi rfl rfl (by first | (have e := jn_mul (a := a) (b := b) h1_38 h1_47 h1_60 h1_61 h1_62 h1_124 h116 h130; first | exact (wi_mid h152 h165).trans e.symm | exact (wi_low h152 h165).trans e.symm | exact (wi_high h152).trans e.symm) | (have e := jn_sub (a := a) (b := b) h1_38 h1_47 h1_60 h1_61 h1_62 h1_124 h116 h130; first | exact (wi_mid h152 h165).trans e.symm | exact (wi_low h152 h165).trans e.symm | exact (wi_high h152).trans e.symm) | (have e := jn_add (a := a) (b := b) h1_38 h1_47 h1_60 h1_61 h1_62 h1_124 h116; first | exact (wi_mid h152 h165).trans e.symm | exact (wi_low h152 h165).trans e.symm | exact (wi_high h152).trans e.symm)) rfl
                    · refine aw_ldc (v := -1000000) rfl (aw_t3 208 rfl rfl) ?_
                      refine aw_goto (tgt := 175) rfl (by decide) ?_
                      exact aw_fi rfl rfl (by first | (have e := jn_mul (a := a) (b := b) h1_38 h1_47 h1_60 h1_61 h1_62 h1_124 h116 h130; first | exact (wi_mid h152 h165).trans e.symm | exact (wi_low h152 h165).trans e.symm | exact (wi_high h152).trans e.symm) | (have e := jn_sub (a := a) (b := b) h1_38 h1_47 h1_60 h1_61 h1_62 h1_124 h116 h130; first | exact (wi_mid h152 h165).trans e.symm | exact (wi_low h152 h165).trans e.symm | exact (wi_high h152).trans e.symm) | (have e := jn_add (a := a) (b := b) h1_38 h1_47 h1_60 h1_61 h1_62 h1_124 h116; first | exact (wi_mid h152 h165).trans e.symm | exact (wi_low h152 h165).trans e.symm | exact (wi_high h152).trans e.symm)) rfl
                  · refine aw_ldc (v := 1000000) rfl (aw_t3 206 rfl rfl) ?_
                    refine aw_goto (tgt := 175) rfl (by decide) ?_
                    exact aw_fi rfl rfl (by first | (have e := jn_mul (a := a) (b := b) h1_38 h1_47 h1_60 h1_61 h1_62 h1_124 h116 h130; first | exact (wi_mid h152 h165).trans e.symm | exact (wi_low h152 h165).trans e.symm | exact (wi_high h152).trans e.symm) | (have e := jn_sub (a := a) (b := b) h1_38 h1_47 h1_60 h1_61 h1_62 h1_124 h116 h130; first | exact (wi_mid h152 h165).trans e.symm | exact (wi_low h152 h165).trans e.symm | exact (wi_high h152).trans e.symm) | (have e := jn_add (a := a) (b := b) h1_38 h1_47 h1_60 h1_61 h1_62 h1_124 h116; first | exact (wi_mid h152 h165).trans e.symm | exact (wi_low h152 h165).trans e.symm | exact (wi_high h152).trans e.symm)) rfl
                · refine aw_iload_n rfl rfl ?_
                  refine aw_i2l rfl ?_
                  refine aw_iload_n rfl rfl ?_
                  refine aw_i2l rfl ?_
                  refine aw_lsub rfl ?_
                  refine aw_goto (tgt := 146) rfl (by decide) ?_
                  refine aw_lstore_n rfl (by decide) ?_
                  refine aw_lload_n rfl rfl ?_
                  refine aw_ldc2 (v := 1000000) rfl (aw_t3 205 rfl rfl) ?_
                  refine aw_lcmp rfl ?_
                  refine aw_if_le (tgt := 160) rfl (by decide) (fun h152 => ?_) (fun h152 => ?_)
                  · refine aw_lload_n rfl rfl ?_
                    refine aw_ldc2 (v := -1000000) rfl (aw_t3 207 rfl rfl) ?_
                    refine aw_lcmp rfl ?_
                    refine aw_if_ge (tgt := 173) rfl (by decide) (fun h165 => ?_) (fun h165 => ?_)
                    · refine aw_lload_n rfl rfl ?_
                      refine aw_l2i rfl ?_
                      exact aw_fi rfl rfl (by first | (have e := jn_mul (a := a) (b := b) h1_38 h1_47 h1_60 h1_61 h1_62 h1_124 h116 h130; first | exact (wi_mid h152 h165).trans e.symm | exact (wi_low h152 h165).trans e.symm | exact (wi_high h152).trans e.symm) | (have e := jn_sub (a := a) (b := b) h1_38 h1_47 h1_60 h1_61 h1_62 h1_124 h116 h130; first | exact (wi_mid h152 h165).trans e.symm | exact (wi_low h152 h165).trans e.symm | exact (wi_high h152).trans e.symm) | (have e := jn_add (a := a) (b := b) h1_38 h1_47 h1_60 h1_61 h1_62 h1_124 h116; first | exact (wi_mid h152 h165).trans e.symm | exact (wi_low h152 h165).trans e.symm | exact (wi_high h152).trans e.symm)) rfl
                    · refine aw_ldc (v := -1000000) rfl (aw_t3 208 rfl rfl) ?_
                      refine aw_goto (tgt := 175) rfl (by decide) ?_
                      exact aw_fi rfl rfl (by first | (have e := jn_mul (a := a) (b := b) h1_38 h1_47 h1_60 h1_61 h1_62 h1_124 h116 h130; first | exact (wi_mid h152 h165).trans e.symm | exact (wi_low h152 h165).trans e.symm | exact (wi_high h152).trans e.symm) | (have e := jn_sub (a := a) (b := b) h1_38 h1_47 h1_60 h1_61 h1_62 h1_124 h116 h130; first | exact (wi_mid h152 h165).trans e.symm | exact (wi_low h152 h165).trans e.symm | exact (wi_high h152).trans e.symm) | (have e := jn_add (a := a) (b := b) h1_38 h1_47 h1_60 h1_61 h1_62 h1_124 h116; first | exact (wi_mid h152 h165).trans e.symm | exact (wi_low h152 h165).trans e.symm | exact (wi_high h152).trans e.symm)) rfl
                  · refine aw_ldc (v := 1000000) rfl (aw_t3 206 rfl rfl) ?_
                    refine aw_goto (tgt := 175) rfl (by decide) ?_
                    exact aw_fi rfl rfl (by first | (have e := jn_mul (a := a) (b := b) h1_38 h1_47 h1_60 h1_61 h1_62 h1_124 h116 h130; first | exact (wi_mid h152 h165).trans e.symm | exact (wi_low h152 h165).trans e.symm | exact (wi_high h152).trans e.symm) | (have e := jn_sub (a := a) (b := b) h1_38 h1_47 h1_60 h1_61 h1_62 h1_124 h116 h130; first | exact (wi_mid h152 h165).trans e.symm | exact (wi_low h152 h165).trans e.symm | exact (wi_high h152).trans e.symm) | (have e := jn_add (a := a) (b := b) h1_38 h1_47 h1_60 h1_61 h1_62 h1_124 h116; first | exact (wi_mid h152 h165).trans e.symm | exact (wi_low h152 h165).trans e.symm | exact (wi_high h152).trans e.symm)) rfl
              · refine aw_iload_n rfl rfl ?_
                refine aw_i2l rfl ?_
                refine aw_iload_n rfl rfl ?_
                refine aw_i2l rfl ?_
                refine aw_ladd rfl ?_
                refine aw_goto (tgt := 146) rfl (by decide) ?_
                refine aw_lstore_n rfl (by decide) ?_
                refine aw_lload_n rfl rfl ?_
                refine aw_ldc2 (v := 1000000) rfl (aw_t3 205 rfl rfl) ?_
                refine aw_lcmp rfl ?_
                refine aw_if_le (tgt := 160) rfl (by decide) (fun h152 => ?_) (fun h152 => ?_)
                · refine aw_lload_n rfl rfl ?_
                  refine aw_ldc2 (v := -1000000) rfl (aw_t3 207 rfl rfl) ?_
                  refine aw_lcmp rfl ?_
                  refine aw_if_ge (tgt := 173) rfl (by decide) (fun h165 => ?_) (fun h165 => ?_)
                  · refine aw_lload_n rfl rfl ?_
                    refine aw_l2i rfl ?_
                    exact aw_fi rfl rfl (by first | (have e := jn_mul (a := a) (b := b) h1_38 h1_47 h1_60 h1_61 h1_62 h1_124 h116 h130; first | exact (wi_mid h152 h165).trans e.symm | exact (wi_low h152 h165).trans e.symm | exact (wi_high h152).trans e.symm) | (have e := jn_sub (a := a) (b := b) h1_38 h1_47 h1_60 h1_61 h1_62 h1_124 h116 h130; first | exact (wi_mid h152 h165).trans e.symm | exact (wi_low h152 h165).trans e.symm | exact (wi_high h152).trans e.symm) | (have e := jn_add (a := a) (b := b) h1_38 h1_47 h1_60 h1_61 h1_62 h1_124 h116; first | exact (wi_mid h152 h165).trans e.symm | exact (wi_low h152 h165).trans e.symm | exact (wi_high h152).trans e.symm)) rfl
                  · refine aw_ldc (v := -1000000) rfl (aw_t3 208 rfl rfl) ?_
                    refine aw_goto (tgt := 175) rfl (by decide) ?_
                    exact aw_fi rfl rfl (by first | (have e := jn_mul (a := a) (b := b) h1_38 h1_47 h1_60 h1_61 h1_62 h1_124 h116 h130; first | exact (wi_mid h152 h165).trans e.symm | exact (wi_low h152 h165).trans e.symm | exact (wi_high h152).trans e.symm) | (have e := jn_sub (a := a) (b := b) h1_38 h1_47 h1_60 h1_61 h1_62 h1_124 h116 h130; first | exact (wi_mid h152 h165).trans e.symm | exact (wi_low h152 h165).trans e.symm | exact (wi_high h152).trans e.symm) | (have e := jn_add (a := a) (b := b) h1_38 h1_47 h1_60 h1_61 h1_62 h1_124 h116; first | exact (wi_mid h152 h165).trans e.symm | exact (wi_low h152 h165).trans e.symm | exact (wi_high h152).trans e.symm)) rfl
                · refine aw_ldc (v := 1000000) rfl (aw_t3 206 rfl rfl) ?_
                  refine aw_goto (tgt := 175) rfl (by decide) ?_
                  exact aw_fi rfl rfl (by first | (have e := jn_mul (a := a) (b := b) h1_38 h1_47 h1_60 h1_61 h1_62 h1_124 h116 h130; first | exact (wi_mid h152 h165).trans e.symm | exact (wi_low h152 h165).trans e.symm | exact (wi_high h152).trans e.symm) | (have e := jn_sub (a := a) (b := b) h1_38 h1_47 h1_60 h1_61 h1_62 h1_124 h116 h130; first | exact (wi_mid h152 h165).trans e.symm | exact (wi_low h152 h165).trans e.symm | exact (wi_high h152).trans e.symm) | (have e := jn_add (a := a) (b := b) h1_38 h1_47 h1_60 h1_61 h1_62 h1_124 h116; first | exact (wi_mid h152 h165).trans e.symm | exact (wi_low h152 h165).trans e.symm | exact (wi_high h152).trans e.symm)) rfl
