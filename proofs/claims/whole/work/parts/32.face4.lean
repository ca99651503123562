theorem tpM_tpM {s : am_S} {f f2 : Nat → Int32} {m m2 : Nat} : tpM (tpM s f m) f2 m2 = tpM s f2 m2 := by
  funext k j
  unfold tpM up upR
  cases h1 : Nat.beq k 1 with
  | true =>
    rw [Nat.eq_of_beq_eq_true h1]
    show upd (upd (s 1) 1 (nI m)) 1 (nI m2) j = upd (s 1) 1 (nI m2) j
    by_cases e : j = 1
    · subst e; rw [pk_us, pk_us]
    · rw [pk_un e, pk_un e, pk_un e]
  | false =>
    cases h2 : Nat.beq k 2 with
    | true => rfl
    | false =>
      show (cond (Nat.beq k 1) (upd (s 1) 1 (nI m)) (cond (Nat.beq k 2) f (s k))) j = s k j
      rw [h1, h2]
      rfl
theorem adI_le {x : Int32} : ∀ (L : List Int32) (a : (Nat → Int32) × Nat), a.2 ≤ 240 → (adI x L a).2 ≤ 240
  | [], _, h => h
  | y :: L, a, h => by
    refine adI_le L _ ?_
    split
    · exact h
    · split
      · show a.2 + 1 ≤ 240; omega
      · exact h
def ad4 (x : Int32) (a : (Nat → Int32) × Nat) : (Nat → Int32) × Nat := adI x [24, 16, 8, 0] a
def sg4 (x : Int32) : Int32 := sgI x [24, 16, 8, 0] 0
def fdA (s : am_S) (m : Nat) (x1 x2 x3 x4 x5 : Int32) : (Nat → Int32) × Nat := ad4 x5 (ad4 x4 (ad4 x3 (ad4 x2 (ad4 x1 (s 2, m)))))
def q_feed (s : am_S) (m : Nat) (x1 x2 x3 x4 x5 : Int32) : Int32 × am_S := if s 1 1 + (sg4 x1 + sg4 x2 + sg4 x3 + sg4 x4 + sg4 x5) ≤ 240 then (nI (fdA s m x1 x2 x3 x4 x5).2, tpM s (fdA s m x1 x2 x3 x4 x5).1 (fdA s m x1 x2 x3 x4 x5).2) else (-1, s)
theorem c_X10_addsT {l : Launch} {g : ag_G} {s : am_S} {n : am_N} {x : Int32} {a : (Nat → Int32) × Nat} (h : a.2 ≤ 240) : aw_V l g mi_X10_adds 0 [.ref (g_ad g 1), .int x] (hp g (tpM s a.1 a.2) n) (hp g (tpM s (ad4 x a).1 (ad4 x a).2) n) := by
  have := c_X10_adds (l := l) (g := g) (s := tpM s a.1 a.2) (n := n) (x := x) (m := a.2) rfl h
  rw [tpM_tpM] at this
  exact this
def q_end (s : am_S) (v : Int32) : Int32 × am_S := if v < 0 then (0, s) else if v ≤ s 1 1 then (1, up s 1 1 v) else (0, s)
def q_count (s : am_S) (x : Int32) : Int32 := if x = 0 then s 15 6 else if x = 1 then s 15 7 else if x = 2 then s 10 3 else if x = 3 then s 0 6 else if x = 4 then s 1 1 else if x = 5 then s 10 4 else if x = 6 then s 16 4 else if x = 7 then s 16 2 else if x = 8 then s 0 7 else if x = 9 then s 32 4 else if x = 10 then mn 60 (s 16 4) else if x = 11 then s 21 4 else -1000000
def q_all (V : (Nat → Int32) → Int32) (s : am_S) (T Q : Nat) (x : Int32) : Int32 := if 0 < s 15 6 then (if x = 0 then aFore V s T 0 else if x = 1 then aFore V s T 1 else if x = 2 then aFore V s T 2 else if x = 3 then nI (fd (fun i a => if s 16 (26 + a) < s 16 (26 + i) then i else a) 1 (Q - 1) 0) else if x = 4 then nI (fd (fun i a => if s 16 (31 + a) < s 16 (31 + i) then i else a) 1 (Q - 1) 0) else if x = 5 then sO s T else if x = 6 then fd (fun i a => if bitc (s 16 (19 + i)) = 1 then a ||| bt i else a) 0 T 0 else if x = 7 then fd (fun i a => a + s 16 (12 + i)) 0 T 0 else if x = 8 then s 16 3 else if x = 9 then rm12 (12 - rm12 (s 16 4)) else -1) else -1
set_option maxRecDepth 4000 in
theorem c_X11_feed {l : Launch} {g : ag_G} {s : am_S} {n : am_N} {m : Nat} {x1 x2 x3 x4 x5 : Int32} (hm : s 1 1 = nI m) (hm4 : m ≤ 240) : aw_F l g mi_X11_feed 1 [.ref (g_ad g 0), .int x1, .int x2, .int x3, .int x4, .int x5] (hp g s n) (.int (q_feed s m x1 x2 x3 x4 x5).1) (hp g (q_feed s m x1 x2 x3 x4 x5).2 n) := by
  have b1 : (ad4 x1 (s 2, m)).2 ≤ 240 := adI_le _ _ hm4
  have b2 : (ad4 x2 (ad4 x1 (s 2, m))).2 ≤ 240 := adI_le _ _ b1
  have b3 : (ad4 x3 (ad4 x2 (ad4 x1 (s 2, m)))).2 ≤ 240 := adI_le _ _ b2
  have b4 : (ad4 x4 (ad4 x3 (ad4 x2 (ad4 x1 (s 2, m))))).2 ≤ 240 := adI_le _ _ b3
  refine aw_F_of mo_X11_feed (by decide) (Nat.le_of_ble_eq_true rfl) ?_
  refine aw_iload_n rfl rfl ?_
  refine aw_iS rfl cw_X11_98 (c_X10_signsIn) rfl rfl (Nat.le_of_ble_eq_true rfl) (by decide) (by decide) (by decide) (by decide) ?_
  refine aw_iload_n rfl rfl ?_
  refine aw_iS rfl cw_X11_98 (c_X10_signsIn) rfl rfl (Nat.le_of_ble_eq_true rfl) (by decide) (by decide) (by decide) (by decide) ?_
  refine aw_iadd rfl ?_
  refine aw_iload_n rfl rfl ?_
  refine aw_iS rfl cw_X11_98 (c_X10_signsIn) rfl rfl (Nat.le_of_ble_eq_true rfl) (by decide) (by decide) (by decide) (by decide) ?_
  refine aw_iadd rfl ?_
  refine aw_iload rfl rfl ?_
  refine aw_iS rfl cw_X11_98 (c_X10_signsIn) rfl rfl (Nat.le_of_ble_eq_true rfl) (by decide) (by decide) (by decide) (by decide) ?_
  refine aw_iadd rfl ?_
  refine aw_iload rfl rfl ?_
  refine aw_iS rfl cw_X11_98 (c_X10_signsIn) rfl rfl (Nat.le_of_ble_eq_true rfl) (by decide) (by decide) (by decide) (by decide) ?_
  refine aw_iadd rfl ?_
  refine aw_istore rfl (by decide) ?_
  refine aw_aload_n rfl rfl ?_
  refine pg_0_0 rfl kl_X11_10 ?_
  refine pg_1_1 rfl kl_X11_102 ?_
  refine aw_iload rfl rfl ?_
  refine aw_iadd rfl ?_
  refine aw_sipush (v := 240) rfl (by decide) ?_
  refine aw_icmp_le (tgt := 46) rfl (by decide) (fun h41 => ?_) (fun h41 => ?_)
  · have hs : s = tpM s ((s 2, m) : (Nat → Int32) × Nat).1 ((s 2, m) : (Nat → Int32) × Nat).2 := (tpM_rf hm).symm
    have q41 : s 1 1 + (sg4 x1 + sg4 x2 + sg4 x3 + sg4 x4 + sg4 x5) ≤ 240 := h41
    unfold q_feed
    rw [if_pos q41]
    refine aw_eqs (ws' := hp g (tpM s ((s 2, m) : (Nat → Int32) × Nat).1 ((s 2, m) : (Nat → Int32) × Nat).2) n) ?_ rfl rfl (congrArg (fun z => hp g z n) hs)
    refine aw_aload_n rfl rfl ?_
    refine pg_0_0 rfl kl_X11_10 ?_
    refine aw_iload_n rfl rfl ?_
    refine aw_vV (q0 := 1) (ci := 10) rfl cw_X11_106 rfl rfl rfl (c_X10_addsT (s := s) (a := (s 2, m)) hm4) rfl rfl (Nat.le_of_ble_eq_true rfl) (by decide) (by decide) (by decide) (by decide) ?_
    refine aw_aload_n rfl rfl ?_
    refine pg_0_0 rfl kl_X11_10 ?_
    refine aw_iload_n rfl rfl ?_
    refine aw_vV (q0 := 1) (ci := 10) rfl cw_X11_106 rfl rfl rfl (c_X10_addsT b1) rfl rfl (Nat.le_of_ble_eq_true rfl) (by decide) (by decide) (by decide) (by decide) ?_
    refine aw_aload_n rfl rfl ?_
    refine pg_0_0 rfl kl_X11_10 ?_
    refine aw_iload_n rfl rfl ?_
    refine aw_vV (q0 := 1) (ci := 10) rfl cw_X11_106 rfl rfl rfl (c_X10_addsT b2) rfl rfl (Nat.le_of_ble_eq_true rfl) (by decide) (by decide) (by decide) (by decide) ?_
    refine aw_aload_n rfl rfl ?_
    refine pg_0_0 rfl kl_X11_10 ?_
    refine aw_iload rfl rfl ?_
    refine aw_vV (q0 := 1) (ci := 10) rfl cw_X11_106 rfl rfl rfl (c_X10_addsT b3) rfl rfl (Nat.le_of_ble_eq_true rfl) (by decide) (by decide) (by decide) (by decide) ?_
    refine aw_aload_n rfl rfl ?_
    refine pg_0_0 rfl kl_X11_10 ?_
    refine aw_iload rfl rfl ?_
    refine aw_vV (q0 := 1) (ci := 10) rfl cw_X11_106 rfl rfl rfl (c_X10_addsT b4) rfl rfl (Nat.le_of_ble_eq_true rfl) (by decide) (by decide) (by decide) (by decide) ?_
    refine aw_aload_n rfl rfl ?_
    refine pg_0_0 rfl kl_X11_10 ?_
    refine pg_1_1 rfl kl_X11_102 ?_
    exact aw_fi rfl rfl rfl rfl
  · refine aw_iconst (v := -1) rfl (by decide) ?_
    exact aw_fi rfl rfl (by unfold q_feed; rw [if_neg (show ¬ s 1 1 + (sg4 x1 + sg4 x2 + sg4 x3 + sg4 x4 + sg4 x5) ≤ 240 from h41)]) (by unfold q_feed; rw [if_neg (show ¬ s 1 1 + (sg4 x1 + sg4 x2 + sg4 x3 + sg4 x4 + sg4 x5) ≤ 240 from h41)])
set_option maxRecDepth 4000 in
theorem c_X11_end {l : Launch} {g : ag_G} {s : am_S} {n : am_N} {v : Int32} : aw_F l g mi_X11_end 0 [.ref (g_ad g 0), .int v] (hp g s n) (.int (q_end s v).1) (hp g (q_end s v).2 n) := by
  refine aw_F_of mo_X11_end (by decide) (Nat.le_of_ble_eq_true rfl) ?_
  refine aw_iload_n rfl rfl ?_
  refine aw_if_lt (tgt := 15) rfl (by decide) (fun h1 => ?_) (fun h1 => ?_)
  · refine aw_iconst (v := 0) rfl (by decide) ?_
    exact aw_fz rfl rfl (Or.inl rfl) (by first | (simp [q_end, h1]; done) | (simp [q_end, h1, h12]; done)) (by first | (simp [q_end, h1]; done) | (simp [q_end, h1, h12]; done))
  · refine aw_iload_n rfl rfl ?_
    refine aw_aload_n rfl rfl ?_
    refine pg_0_0 rfl kl_X11_10 ?_
    refine pg_1_1 rfl kl_X11_102 ?_
    refine aw_icmp_le (tgt := 17) rfl (by decide) (fun h12 => ?_) (fun h12 => ?_)
    · refine aw_aload_n rfl rfl ?_
      refine pg_0_0 rfl kl_X11_10 ?_
      refine aw_iload_n rfl rfl ?_
      refine pp_1_1 rfl kl_X11_102 ?_
      refine aw_iconst (v := 1) rfl (by decide) ?_
      exact aw_fz rfl rfl (Or.inr rfl) (by simp [q_end, h1, (by simpa using h12 : v ≤ s 1 1)]) (by simp [q_end, h1, (by simpa using h12 : v ≤ s 1 1)])
    · refine aw_iconst (v := 0) rfl (by decide) ?_
      exact aw_fz rfl rfl (Or.inl rfl) (by first | (simp [q_end, h1]; done) | (simp [q_end, h1, h12]; done)) (by first | (simp [q_end, h1]; done) | (simp [q_end, h1, h12]; done))
set_option maxRecDepth 4000 in
theorem c_X11_count {l : Launch} {g : ag_G} {s : am_S} {n : am_N} {x : Int32} : aw_F l g mi_X11_count 2 [.ref (g_ad g 0), .int x] (hp g s n) (.int (q_count s x)) (hp g s n) := by
  refine aw_F_of mo_X11_count (by decide) (Nat.le_of_ble_eq_true rfl) ?_
  refine aw_iload_n rfl rfl ?_
  refine aw_sw 0 (fun h1_0 => ?_) (fun h1_0 => ?_)
  · refine aw_tabIn (off := 63) (tgt := 64) rfl (by decide) (by decide) (by decide) (by decide) ?_
    refine aw_aload_n rfl rfl ?_
    refine pg_0_8 rfl kl_X11_57 ?_
    refine pg_15_6 rfl kl_X11_122 ?_
    exact aw_fi rfl rfl (by simp [q_count, h1_0]) rfl
  · skip
    refine aw_sw 1 (fun h1_1 => ?_) (fun h1_1 => ?_)
    · refine aw_tabIn (off := 71) (tgt := 72) rfl (by decide) (by decide) (by decide) (by decide) ?_
      refine aw_aload_n rfl rfl ?_
      refine pg_0_8 rfl kl_X11_57 ?_
      refine pg_15_7 rfl kl_X11_234 ?_
      exact aw_fi rfl rfl (by simp [q_count, h1_0, h1_1]) rfl
    · skip
      refine aw_sw 2 (fun h1_2 => ?_) (fun h1_2 => ?_)
      · refine aw_tabIn (off := 79) (tgt := 80) rfl (by decide) (by decide) (by decide) (by decide) ?_
        refine aw_aload_n rfl rfl ?_
        refine pg_0_4 rfl kl_X11_42 ?_
        refine pg_10_3 rfl kl_X11_125 ?_
        exact aw_fi rfl rfl (by simp [q_count, h1_0, h1_1, h1_2]) rfl
      · skip
        refine aw_sw 3 (fun h1_3 => ?_) (fun h1_3 => ?_)
        · refine aw_tabIn (off := 87) (tgt := 88) rfl (by decide) (by decide) (by decide) (by decide) ?_
          refine aw_aload_n rfl rfl ?_
          refine pg_0_6 rfl kl_X11_131 ?_
          exact aw_fi rfl rfl (by simp [q_count, h1_0, h1_1, h1_2, h1_3]) rfl
        · skip
          refine aw_sw 4 (fun h1_4 => ?_) (fun h1_4 => ?_)
          · refine aw_tabIn (off := 92) (tgt := 93) rfl (by decide) (by decide) (by decide) (by decide) ?_
            refine aw_aload_n rfl rfl ?_
            refine pg_0_0 rfl kl_X11_10 ?_
            refine pg_1_1 rfl kl_X11_102 ?_
            exact aw_fi rfl rfl (by simp [q_count, h1_0, h1_1, h1_2, h1_3, h1_4]) rfl
          · skip
            refine aw_sw 5 (fun h1_5 => ?_) (fun h1_5 => ?_)
            · refine aw_tabIn (off := 100) (tgt := 101) rfl (by decide) (by decide) (by decide) (by decide) ?_
              refine aw_aload_n rfl rfl ?_
              refine pg_0_4 rfl kl_X11_42 ?_
              refine pg_10_4 rfl kl_X11_183 ?_
              exact aw_fi rfl rfl (by simp [q_count, h1_0, h1_1, h1_2, h1_3, h1_4, h1_5]) rfl
            · skip
              refine aw_sw 6 (fun h1_6 => ?_) (fun h1_6 => ?_)
              · refine aw_tabIn (off := 108) (tgt := 109) rfl (by decide) (by decide) (by decide) (by decide) ?_
                refine aw_aload_n rfl rfl ?_
                refine pg_0_8 rfl kl_X11_57 ?_
                refine pg_15_1 rfl kl_X11_149 ?_
                refine aw_iconst (v := 4) rfl (by decide) ?_
                refine pl_16 (j := 4) rfl rfl (by decide) ?_
                exact aw_fi rfl rfl (by simp [q_count, h1_0, h1_1, h1_2, h1_3, h1_4, h1_5, h1_6]) rfl
              · skip
                refine aw_sw 7 (fun h1_7 => ?_) (fun h1_7 => ?_)
                · refine aw_tabIn (off := 118) (tgt := 119) rfl (by decide) (by decide) (by decide) (by decide) ?_
                  refine aw_aload_n rfl rfl ?_
                  refine pg_0_8 rfl kl_X11_57 ?_
                  refine pg_15_1 rfl kl_X11_149 ?_
                  refine aw_iconst (v := 2) rfl (by decide) ?_
                  refine pl_16 (j := 2) rfl rfl (by decide) ?_
                  exact aw_fi rfl rfl (by simp [q_count, h1_0, h1_1, h1_2, h1_3, h1_4, h1_5, h1_6, h1_7]) rfl
                · skip
                  refine aw_sw 8 (fun h1_8 => ?_) (fun h1_8 => ?_)
                  · refine aw_tabIn (off := 128) (tgt := 129) rfl (by decide) (by decide) (by decide) (by decide) ?_
                    refine aw_aload_n rfl rfl ?_
                    refine pg_0_7 rfl kl_X11_186 ?_
                    exact aw_fi rfl rfl (by simp [q_count, h1_0, h1_1, h1_2, h1_3, h1_4, h1_5, h1_6, h1_7, h1_8]) rfl
                  · skip
                    refine aw_sw 9 (fun h1_9 => ?_) (fun h1_9 => ?_)
                    · refine aw_tabIn (off := 133) (tgt := 134) rfl (by decide) (by decide) (by decide) (by decide) ?_
                      refine aw_aload_n rfl rfl ?_
                      refine pg_0_11 rfl kl_X11_80 ?_
                      refine pg_32_4 rfl kl_X11_145 ?_
                      exact aw_fi rfl rfl (by simp [q_count, h1_0, h1_1, h1_2, h1_3, h1_4, h1_5, h1_6, h1_7, h1_8, h1_9]) rfl
                    · skip
                      refine aw_sw 10 (fun h1_10 => ?_) (fun h1_10 => ?_)
                      · refine aw_tabIn (off := 141) (tgt := 142) rfl (by decide) (by decide) (by decide) (by decide) ?_
                        refine aw_aload_n rfl rfl ?_
                        refine pg_0_9 rfl kl_X11_64 ?_
                        refine aw_aload_n rfl rfl ?_
                        refine pg_0_8 rfl kl_X11_57 ?_
                        refine aw_iV (q0 := 21) (ci := 0) rfl cw_X11_245 rfl rfl rfl (c_X0_lengthFor) rfl rfl (Nat.le_of_ble_eq_true rfl) (by decide) (by decide) (by decide) (by decide) ?_
                        exact aw_fi rfl rfl (by simp [q_count, h1_0, h1_1, h1_2, h1_3, h1_4, h1_5, h1_6, h1_7, h1_8, h1_9, h1_10]) rfl
                      · skip
                        refine aw_sw 11 (fun h1_11 => ?_) (fun h1_11 => ?_)
                        · refine aw_tabIn (off := 153) (tgt := 154) rfl (by decide) (by decide) (by decide) (by decide) ?_
                          refine aw_aload_n rfl rfl ?_
                          refine pg_0_9 rfl kl_X11_64 ?_
                          refine pg_21_4 rfl kl_X11_360 ?_
                          exact aw_fi rfl rfl (by simp [q_count, h1_0, h1_1, h1_2, h1_3, h1_4, h1_5, h1_6, h1_7, h1_8, h1_9, h1_10, h1_11]) rfl
                        · skip
                          refine aw_tabOut (tgt := 162) rfl (by have e0 := ne_toInt h1_0 (i := 0) (by decide); have e1 := ne_toInt h1_1 (i := 1) (by decide); have e2 := ne_toInt h1_2 (i := 2) (by decide); have e3 := ne_toInt h1_3 (i := 3) (by decide); have e4 := ne_toInt h1_4 (i := 4) (by decide); have e5 := ne_toInt h1_5 (i := 5) (by decide); have e6 := ne_toInt h1_6 (i := 6) (by decide); have e7 := ne_toInt h1_7 (i := 7) (by decide); have e8 := ne_toInt h1_8 (i := 8) (by decide); have e9 := ne_toInt h1_9 (i := 9) (by decide); have e10 := ne_toInt h1_10 (i := 10) (by decide); have e11 := ne_toInt h1_11 (i := 11) (by decide); omega) (by decide) ?_
                          refine aw_ldcw (v := -1000000) rfl (aw_t4 89 rfl rfl) ?_
                          exact aw_fi rfl rfl (by simp [q_count, h1_0, h1_1, h1_2, h1_3, h1_4, h1_5, h1_6, h1_7, h1_8, h1_9, h1_10, h1_11]) rfl
set_option maxRecDepth 4000 in
theorem c_X11_all {l : Launch} {g : ag_G} {s : am_S} {n : am_N} {x : Int32} {T Q : Nat} (hb : kb s T Q) (hQ : 0 < s 15 6 → 0 < Q) {V : (Nat → Int32) → Int32} (hV : LawIs l g s n V) : aw_E l g mi_X11_all 6 skF [.ref (g_ad g 0), .int x] s n (.int (q_all V s T Q x)) := by
  refine aw_E_of mo_X11_all (by decide) (Nat.le_of_ble_eq_true rfl) ?_
  refine aw_aload_n rfl rfl ?_
  refine pg_0_8 rfl kl_X11_57 ?_
  refine aw_iV (q0 := 15) (ci := 8) rfl cw_X11_146 rfl rfl rfl (c_X8_isTold) rfl rfl (Nat.le_of_ble_eq_true rfl) (by decide) (by decide) (by decide) (by decide) ?_
  refine aw_if_ne (tgt := 12) rfl (by decide) (fun h7 => ?_) (fun h7 => ?_)
  · have q7 := bB_n0.mp h7
    rw [decide_eq_true_eq] at q7
    have hQ0 := hQ q7
    refine aw_iload_n rfl rfl ?_
    refine aw_sw 0 (fun h13_0 => ?_) (fun h13_0 => ?_)
    · refine aw_tabIn (off := 55) (tgt := 68) rfl (by decide) (by decide) (by decide) (by decide) ?_
      refine aw_aload_n rfl rfl ?_
      refine pg_0_8 rfl kl_X11_57 ?_
      refine aw_iload_n rfl rfl ?_
      refine aw_eV (q0 := 15) (ci := 8) rfl cw_X11_322 rfl rfl rfl (c_X8_foremostThing hb hV) rfl rfl (Nat.le_of_ble_eq_true rfl) (by decide) (by decide) (by decide) (by decide) (fun s1 e1 => ?_)
      exact aw_ei rfl rfl (by first | (simp [q_all, q7, h13_0]; done) | (simp [q_all, q7, h13_0, h13_1]; done) | (simp [q_all, q7, h13_0, h13_1, h13_2]; done)) (eo_CF e1)
    · skip
      refine aw_sw 1 (fun h13_1 => ?_) (fun h13_1 => ?_)
      · refine aw_tabIn (off := 55) (tgt := 68) rfl (by decide) (by decide) (by decide) (by decide) ?_
        refine aw_aload_n rfl rfl ?_
        refine pg_0_8 rfl kl_X11_57 ?_
        refine aw_iload_n rfl rfl ?_
        refine aw_eV (q0 := 15) (ci := 8) rfl cw_X11_322 rfl rfl rfl (c_X8_foremostThing hb hV) rfl rfl (Nat.le_of_ble_eq_true rfl) (by decide) (by decide) (by decide) (by decide) (fun s1 e1 => ?_)
        exact aw_ei rfl rfl (by first | (simp [q_all, q7, h13_0]; done) | (simp [q_all, q7, h13_0, h13_1]; done) | (simp [q_all, q7, h13_0, h13_1, h13_2]; done)) (eo_CF e1)
      · skip
        refine aw_sw 2 (fun h13_2 => ?_) (fun h13_2 => ?_)
        · refine aw_tabIn (off := 55) (tgt := 68) rfl (by decide) (by decide) (by decide) (by decide) ?_
          refine aw_aload_n rfl rfl ?_
          refine pg_0_8 rfl kl_X11_57 ?_
          refine aw_iload_n rfl rfl ?_
          refine aw_eV (q0 := 15) (ci := 8) rfl cw_X11_322 rfl rfl rfl (c_X8_foremostThing hb hV) rfl rfl (Nat.le_of_ble_eq_true rfl) (by decide) (by decide) (by decide) (by decide) (fun s1 e1 => ?_)
          exact aw_ei rfl rfl (by first | (simp [q_all, q7, h13_0]; done) | (simp [q_all, q7, h13_0, h13_1]; done) | (simp [q_all, q7, h13_0, h13_1, h13_2]; done)) (eo_CF e1)
        · skip
          refine aw_sw 3 (fun h13_3 => ?_) (fun h13_3 => ?_)
          · refine aw_tabIn (off := 64) (tgt := 77) rfl (by decide) (by decide) (by decide) (by decide) ?_
            refine aw_aload_n rfl rfl ?_
            refine pg_0_8 rfl kl_X11_57 ?_
            refine aw_bipush (v := 26) rfl (by decide) ?_
            refine aw_iV (q0 := 15) (ci := 8) rfl cw_X11_325 rfl rfl rfl (c_X8_foremostRing (f := 26) (by decide) hb hQ0) rfl rfl (Nat.le_of_ble_eq_true rfl) (by decide) (by decide) (by decide) (by decide) ?_
            exact aw_ei rfl rfl (by simp [q_all, q7, h13_0, h13_1, h13_2, h13_3]) eo_rf
          · skip
            refine aw_sw 4 (fun h13_4 => ?_) (fun h13_4 => ?_)
            · refine aw_tabIn (off := 74) (tgt := 87) rfl (by decide) (by decide) (by decide) (by decide) ?_
              refine aw_aload_n rfl rfl ?_
              refine pg_0_8 rfl kl_X11_57 ?_
              refine aw_bipush (v := 31) rfl (by decide) ?_
              refine aw_iV (q0 := 15) (ci := 8) rfl cw_X11_325 rfl rfl rfl (c_X8_foremostRing (f := 31) (by decide) hb hQ0) rfl rfl (Nat.le_of_ble_eq_true rfl) (by decide) (by decide) (by decide) (by decide) ?_
              exact aw_ei rfl rfl (by simp [q_all, q7, h13_0, h13_1, h13_2, h13_3, h13_4]) eo_rf
            · skip
              refine aw_sw 5 (fun h13_5 => ?_) (fun h13_5 => ?_)
              · refine aw_tabIn (off := 84) (tgt := 97) rfl (by decide) (by decide) (by decide) (by decide) ?_
                refine aw_aload_n rfl rfl ?_
                refine pg_0_8 rfl kl_X11_57 ?_
                refine aw_iV (q0 := 15) (ci := 8) rfl cw_X11_328 rfl rfl rfl (c_X8_sealedOnes hb) rfl rfl (Nat.le_of_ble_eq_true rfl) (by decide) (by decide) (by decide) (by decide) ?_
                exact aw_ei rfl rfl (by simp [q_all, q7, h13_0, h13_1, h13_2, h13_3, h13_4, h13_5, sO]) eo_rf
              · skip
                refine aw_sw 6 (fun h13_6 => ?_) (fun h13_6 => ?_)
                · refine aw_tabIn (off := 92) (tgt := 105) rfl (by decide) (by decide) (by decide) (by decide) ?_
                  refine aw_aload_n rfl rfl ?_
                  refine pg_0_8 rfl kl_X11_57 ?_
                  refine aw_iV (q0 := 15) (ci := 8) rfl cw_X11_331 rfl rfl rfl (c_X8_secretOnes hb) rfl rfl (Nat.le_of_ble_eq_true rfl) (by decide) (by decide) (by decide) (by decide) ?_
                  exact aw_ei rfl rfl (by simp [q_all, q7, h13_0, h13_1, h13_2, h13_3, h13_4, h13_5, h13_6]) eo_rf
                · skip
                  refine aw_sw 7 (fun h13_7 => ?_) (fun h13_7 => ?_)
                  · refine aw_tabIn (off := 100) (tgt := 113) rfl (by decide) (by decide) (by decide) (by decide) ?_
                    refine aw_aload_n rfl rfl ?_
                    refine pg_0_8 rfl kl_X11_57 ?_
                    refine aw_iV (q0 := 15) (ci := 8) rfl cw_X11_334 rfl rfl rfl (c_X8_waxOnAll hb) rfl rfl (Nat.le_of_ble_eq_true rfl) (by decide) (by decide) (by decide) (by decide) ?_
                    exact aw_ei rfl rfl (by simp [q_all, q7, h13_0, h13_1, h13_2, h13_3, h13_4, h13_5, h13_6, h13_7]) eo_rf
                  · skip
                    refine aw_sw 8 (fun h13_8 => ?_) (fun h13_8 => ?_)
                    · refine aw_tabIn (off := 108) (tgt := 121) rfl (by decide) (by decide) (by decide) (by decide) ?_
                      refine aw_aload_n rfl rfl ?_
                      refine pg_0_8 rfl kl_X11_57 ?_
                      refine pg_15_1 rfl kl_X11_149 ?_
                      refine aw_iconst (v := 3) rfl (by decide) ?_
                      refine pl_16 (j := 3) rfl rfl (by decide) ?_
                      exact aw_ei rfl rfl (by simp [q_all, q7, h13_0, h13_1, h13_2, h13_3, h13_4, h13_5, h13_6, h13_7, h13_8]) eo_rf
                    · skip
                      refine aw_sw 9 (fun h13_9 => ?_) (fun h13_9 => ?_)
                      · refine aw_tabIn (off := 118) (tgt := 131) rfl (by decide) (by decide) (by decide) (by decide) ?_
                        refine aw_bipush (v := 12) rfl (by decide) ?_
                        refine aw_aload_n rfl rfl ?_
                        refine pg_0_8 rfl kl_X11_57 ?_
                        refine pg_15_1 rfl kl_X11_149 ?_
                        refine aw_iconst (v := 4) rfl (by decide) ?_
                        refine pl_16 (j := 4) rfl rfl (by decide) ?_
                        refine aw_bipush (v := 12) rfl (by decide) ?_
                        refine aw_irem rfl (by decide) ?_
                        refine aw_isub rfl ?_
                        refine aw_bipush (v := 12) rfl (by decide) ?_
                        refine aw_irem rfl (by decide) ?_
                        exact aw_ei rfl rfl (by simp [q_all, q7, h13_0, h13_1, h13_2, h13_3, h13_4, h13_5, h13_6, h13_7, h13_8, h13_9]; rfl) eo_rf
                      · skip
                        refine aw_tabOut (tgt := 150) rfl (by have e0 := ne_toInt h13_0 (i := 0) (by decide); have e1 := ne_toInt h13_1 (i := 1) (by decide); have e2 := ne_toInt h13_2 (i := 2) (by decide); have e3 := ne_toInt h13_3 (i := 3) (by decide); have e4 := ne_toInt h13_4 (i := 4) (by decide); have e5 := ne_toInt h13_5 (i := 5) (by decide); have e6 := ne_toInt h13_6 (i := 6) (by decide); have e7 := ne_toInt h13_7 (i := 7) (by decide); have e8 := ne_toInt h13_8 (i := 8) (by decide); have e9 := ne_toInt h13_9 (i := 9) (by decide); omega) (by decide) ?_
                        refine aw_iconst (v := -1) rfl (by decide) ?_
                        exact aw_ei rfl rfl (by simp [q_all, q7, h13_0, h13_1, h13_2, h13_3, h13_4, h13_5, h13_6, h13_7, h13_8, h13_9]) eo_rf
  · have q7 := bB_0.mp (by simpa using h7)
    rw [decide_eq_false_iff_not] at q7
    refine aw_iconst (v := -1) rfl (by decide) ?_
    exact aw_ei rfl rfl (by simp [q_all, q7]) eo_rf
