def nmE (mo v t : Int32) (a : Nat) : Int32 × Nat := if t = 0 then (-1, a) else if v ≤ mo then (v, a) else (-1, a - 1)
/-- a number: its value or -1, and where the tape then stands -/
def nmb (f : Nat → Int32) (dg mo : Int32) : Nat → Nat → Int32 → Int32 → Int32 × Nat
  | 0, a, v, t => nmE mo v t a
  | d + 1, a, v, t => if f a < 48 then nmE mo v t a else if 57 < f a then nmE mo v t a else if t = dg then (-1, a) else nmb f dg mo d (a + 1) (v * 10 + f a - 48) (t + 1)
theorem tA_tA {s : am_S} {a b : Nat} : tA (tA s a) b = tA s b := up_up
set_option maxRecDepth 4000 in
theorem c_X10_number {l : Launch} {g : ag_G} {s : am_S} {n : am_N} {dg mo : Int32} {m a : Nat} (hm : s 1 1 = nI m) (hm4 : m ≤ 240) (ha : s 1 2 = nI a) (ham : a ≤ m) : aw_F l g mi_X10_number 0 [.ref (g_ad g 1), .int dg, .int mo] (hp g s n) (.int (nmb (s 2) dg mo (m - a) a 0 0).1) (hp g (tA s (nmb (s 2) dg mo (m - a) a 0 0).2) n) := by
  generalize hXX : nmb (s 2) dg mo (m - a) a 0 0 = X
  have loop : ∀ (d i : Nat) (v t : Int32), i + d = m → (t = 0 ∨ 1 ≤ i) → nmb (s 2) dg mo d i v t = X → aw_W l g mi_X10_number (aw_rm 0 0 0) (aw_Z g (fun r w => r = some (.int X.1) ∧ w = hp g (tA s X.2) n) 0 0) 0 0 (hp g (tA s i) n) 5 [some (.ref (g_ad g 1)), some (.int dg), some (.int mo), some (.int v), some (.int t)] [] := by
    intro d
    induction d with
    | zero =>
      intro i v t hi ht hX
      refine aw_aload_n rfl rfl ?_
      refine pg_1_2 rfl kl_X10_19 ?_
      refine aw_aload_n rfl rfl ?_
      refine pg_1_1 rfl kl_X10_15 ?_
      refine aw_icmp_ge (tgt := 86) rfl (by decide) (fun h13 => ?_) (fun h13 => absurd (by rw [show tA s i 1 1 = s 1 1 from rfl, hm]; exact nI_le (by omega) (by omega)) h13)
      have hx : nmE mo v t i = X := hX
      refine aw_iload rfl rfl ?_
      refine aw_if_ne (tgt := 93) rfl (by decide) (fun h88 => ?_) (fun h88 => ?_)
      · refine aw_iload_n rfl rfl ?_
        refine aw_iload_n rfl rfl ?_
        refine aw_icmp_le (tgt := 110) rfl (by decide) (fun h95 => ?_) (fun h95 => ?_)
        · refine aw_iload_n rfl rfl ?_
          exact aw_fi rfl rfl (by rw [← hx]; unfold nmE; rw [if_neg h88, if_pos (by simpa using h95)]) (by rw [← hx]; unfold nmE; rw [if_neg h88, if_pos (by simpa using h95)])
        · refine aw_aload_n rfl rfl ?_
          refine aw_dup rfl rfl ?_
          refine pg_1_2 rfl kl_X10_19 ?_
          refine aw_iconst (v := 1) rfl (by decide) ?_
          refine aw_isub rfl ?_
          refine pp_1_2 rfl kl_X10_19 ?_
          refine aw_iconst (v := -1) rfl (by decide) ?_
          exact aw_fi rfl rfl (by rw [← hx]; unfold nmE; rw [if_neg h88, if_neg h95]) (by rw [← hx]; unfold nmE; rw [if_neg h88, if_neg h95]; refine congrArg (fun z => hp g z n) ?_; unfold tA; rw [up_up]; exact congrArg (up s 1 2) (nI_m1 (by rcases ht with z | z; (exact absurd z h88); omega)))
      · refine aw_iconst (v := -1) rfl (by decide) ?_
        exact aw_fi rfl rfl (by rw [← hx]; unfold nmE; rw [if_pos (by simpa using h88)]) (by rw [← hx]; unfold nmE; rw [if_pos (by simpa using h88)])
    | succ d ih =>
      intro i v t hi ht hX
      refine aw_aload_n rfl rfl ?_
      refine pg_1_2 rfl kl_X10_19 ?_
      refine aw_aload_n rfl rfl ?_
      refine pg_1_1 rfl kl_X10_15 ?_
      refine aw_icmp_ge (tgt := 86) rfl (by decide) (fun h13 => absurd h13 (by rw [show tA s i 1 1 = s 1 1 from rfl, hm]; exact nI_ge (by omega) (by omega))) (fun h13 => ?_)
      refine aw_aload_n rfl rfl ?_
      refine pg_1_0 rfl kl_X10_11 ?_
      refine aw_aload_n rfl rfl ?_
      refine pg_1_2 rfl kl_X10_19 ?_
      refine pl_2 rfl rfl (by omega) ?_
      refine aw_bipush (v := 48) rfl (by decide) ?_
      refine aw_icmp_lt (tgt := 86) rfl (by decide) (fun h27 => ?_) (fun h27 => ?_)
      · have hx : nmE mo v t i = X := by (rw [← hX]; simp only [nmb]; first | (rw [if_pos (show s 2 i < 48 from h27)]; done) | (rw [if_neg (show ¬ s 2 i < 48 from h27), if_pos (show 57 < s 2 i from h41)]; done))
        refine aw_iload rfl rfl ?_
        refine aw_if_ne (tgt := 93) rfl (by decide) (fun h88 => ?_) (fun h88 => ?_)
        · refine aw_iload_n rfl rfl ?_
          refine aw_iload_n rfl rfl ?_
          refine aw_icmp_le (tgt := 110) rfl (by decide) (fun h95 => ?_) (fun h95 => ?_)
          · refine aw_iload_n rfl rfl ?_
            exact aw_fi rfl rfl (by rw [← hx]; unfold nmE; rw [if_neg h88, if_pos (by simpa using h95)]) (by rw [← hx]; unfold nmE; rw [if_neg h88, if_pos (by simpa using h95)])
          · refine aw_aload_n rfl rfl ?_
            refine aw_dup rfl rfl ?_
            refine pg_1_2 rfl kl_X10_19 ?_
            refine aw_iconst (v := 1) rfl (by decide) ?_
            refine aw_isub rfl ?_
            refine pp_1_2 rfl kl_X10_19 ?_
            refine aw_iconst (v := -1) rfl (by decide) ?_
            exact aw_fi rfl rfl (by rw [← hx]; unfold nmE; rw [if_neg h88, if_neg h95]) (by rw [← hx]; unfold nmE; rw [if_neg h88, if_neg h95]; refine congrArg (fun z => hp g z n) ?_; unfold tA; rw [up_up]; exact congrArg (up s 1 2) (nI_m1 (by rcases ht with z | z; (exact absurd z h88); omega)))
        · refine aw_iconst (v := -1) rfl (by decide) ?_
          exact aw_fi rfl rfl (by rw [← hx]; unfold nmE; rw [if_pos (by simpa using h88)]) (by rw [← hx]; unfold nmE; rw [if_pos (by simpa using h88)])
      · refine aw_aload_n rfl rfl ?_
        refine pg_1_0 rfl kl_X10_11 ?_
        refine aw_aload_n rfl rfl ?_
        refine pg_1_2 rfl kl_X10_19 ?_
        refine pl_2 rfl rfl (by omega) ?_
        refine aw_bipush (v := 57) rfl (by decide) ?_
        refine aw_icmp_gt (tgt := 86) rfl (by decide) (fun h41 => ?_) (fun h41 => ?_)
        · have hx : nmE mo v t i = X := by (rw [← hX]; simp only [nmb]; first | (rw [if_pos (show s 2 i < 48 from h27)]; done) | (rw [if_neg (show ¬ s 2 i < 48 from h27), if_pos (show 57 < s 2 i from h41)]; done))
          refine aw_iload rfl rfl ?_
          refine aw_if_ne (tgt := 93) rfl (by decide) (fun h88 => ?_) (fun h88 => ?_)
          · refine aw_iload_n rfl rfl ?_
            refine aw_iload_n rfl rfl ?_
            refine aw_icmp_le (tgt := 110) rfl (by decide) (fun h95 => ?_) (fun h95 => ?_)
            · refine aw_iload_n rfl rfl ?_
              exact aw_fi rfl rfl (by rw [← hx]; unfold nmE; rw [if_neg h88, if_pos (by simpa using h95)]) (by rw [← hx]; unfold nmE; rw [if_neg h88, if_pos (by simpa using h95)])
            · refine aw_aload_n rfl rfl ?_
              refine aw_dup rfl rfl ?_
              refine pg_1_2 rfl kl_X10_19 ?_
              refine aw_iconst (v := 1) rfl (by decide) ?_
              refine aw_isub rfl ?_
              refine pp_1_2 rfl kl_X10_19 ?_
              refine aw_iconst (v := -1) rfl (by decide) ?_
              exact aw_fi rfl rfl (by rw [← hx]; unfold nmE; rw [if_neg h88, if_neg h95]) (by rw [← hx]; unfold nmE; rw [if_neg h88, if_neg h95]; refine congrArg (fun z => hp g z n) ?_; unfold tA; rw [up_up]; exact congrArg (up s 1 2) (nI_m1 (by rcases ht with z | z; (exact absurd z h88); omega)))
          · refine aw_iconst (v := -1) rfl (by decide) ?_
            exact aw_fi rfl rfl (by rw [← hx]; unfold nmE; rw [if_pos (by simpa using h88)]) (by rw [← hx]; unfold nmE; rw [if_pos (by simpa using h88)])
        · refine aw_iload rfl rfl ?_
          refine aw_iload_n rfl rfl ?_
          refine aw_icmp_ne (tgt := 52) rfl (by decide) (fun h47 => ?_) (fun h47 => ?_)
          · refine aw_iload_n rfl rfl ?_
            refine aw_bipush (v := 10) rfl (by decide) ?_
            refine aw_imul rfl ?_
            refine aw_aload_n rfl rfl ?_
            refine pg_1_0 rfl kl_X10_11 ?_
            refine aw_aload_n rfl rfl ?_
            refine pg_1_2 rfl kl_X10_19 ?_
            refine pl_2 rfl rfl (by omega) ?_
            refine aw_iadd rfl ?_
            refine aw_bipush (v := 48) rfl (by decide) ?_
            refine aw_isub rfl ?_
            refine aw_istore_n rfl (by decide) ?_
            refine aw_inc1 rfl rfl (by decide) ?_
            refine aw_aload_n rfl rfl ?_
            refine aw_dup rfl rfl ?_
            refine pg_1_2 rfl kl_X10_19 ?_
            refine aw_iconst (v := 1) rfl (by decide) ?_
            refine aw_iadd rfl ?_
            refine pp_1_2 rfl kl_X10_19 ?_
            refine aw_goto (tgt := 5) rfl (by decide) ?_
            refine aw_wk (aw_eqs (ih (i + 1) (v * 10 + s 2 i - 48) (t + 1) (by omega) (Or.inr (by omega)) (by rw [← hX]; simp only [nmb]; rw [if_neg (show ¬ s 2 i < 48 from h27), if_neg (show ¬ 57 < s 2 i from h41), if_neg h47])) rfl rfl (congrArg (fun z => hp g z n) ?_)) (And.intro rfl (And.intro rfl (And.intro rfl (And.intro rfl (And.intro rfl True.intro)))))
            unfold tA; rw [up_up]; exact congrArg (up s 1 2) (nI_1 i)
          · refine aw_iconst (v := -1) rfl (by decide) ?_
            exact aw_fi rfl rfl (by rw [← hX]; simp only [nmb]; rw [if_neg (show ¬ s 2 i < 48 from h27), if_neg (show ¬ 57 < s 2 i from h41), if_pos (by simpa using h47)]) (by rw [← hX]; simp only [nmb]; rw [if_neg (show ¬ s 2 i < 48 from h27), if_neg (show ¬ 57 < s 2 i from h41), if_pos (by simpa using h47)])
  refine aw_F_of mo_X10_number (by decide) (Nat.le_of_ble_eq_true rfl) ?_
  have lp := loop (m - a) a 0 0 (by omega) (Or.inl rfl) hXX
  rw [show tA s a = s from up_rf ha] at lp
  refine aw_iconst (v := 0) rfl (by decide) ?_
  refine aw_istore_n rfl (by decide) ?_
  refine aw_iconst (v := 0) rfl (by decide) ?_
  refine aw_istore rfl (by decide) ?_
  exact aw_wk lp (And.intro rfl (And.intro rfl (And.intro rfl (And.intro rfl (And.intro rfl True.intro)))))
/-- the bytes of the tape are bytes -/
def tb8 (f : Nat → Int32) (m : Nat) : Prop := ∀ i, i < m → ∃ q, 0 < q ∧ q < 256 ∧ f i = nI q
theorem i2c_nI {q : Nat} (h : q < 256) : ((nI q).toUInt32 % 65536).toInt32 = nI q := by rw [pk_char, pk_tn (by omega), Nat.mod_eq_of_lt (by omega)]
def pOne (f : Nat → Int32) (m i a : Nat) : Int32 × Nat := if sgn f m (sA f m a) = -1 then (-1, sA f m a) else if 0 ≤ xix i (sgn f m (sA f m a)) then (sgn f m (sA f m a), sA f m a + 1) else (-1, sA f m a)
theorem sgn_q {f : Nat → Int32} {m a : Nat} (h8 : tb8 f m) (h : ¬ sgn f m a = -1) : ∃ q, 0 < q ∧ q < 256 ∧ sgn f m a = nI q := by
  unfold sgn at h ⊢
  by_cases hm : a < m
  · rw [if_pos hm]; exact h8 a hm
  · rw [if_neg hm] at h; exact absurd rfl h
set_option maxRecDepth 4000 in
theorem c_X10_passesOneOf {l : Launch} {g : ag_G} {s : am_S} {n : am_N} {i : Nat} (hx : aw_hx g) (hi : i < 11) {m a : Nat} (hm : s 1 1 = nI m) (hm4 : m ≤ 240) (ha : s 1 2 = nI a) (ham : a ≤ m) (h8 : tb8 (s 2) m)  : aw_F l g mi_X10_passesOneOf 4 [.ref (g_ad g 1), .ref (g_ad g (100 + i))] (hp g s n) (.int (pOne (s 2) m i a).1) (hp g (tA s (pOne (s 2) m i a).2) n) := by
  refine aw_F_of mo_X10_passesOneOf (by decide) (Nat.le_of_ble_eq_true rfl) ?_
  refine aw_aload_n rfl rfl ?_
  refine aw_iV (q0 := 1) (ci := 10) rfl cw_X10_22 rfl rfl rfl (c_X10_sign hm hm4 ha ham) rfl rfl (Nat.le_of_ble_eq_true rfl) (by decide) (by decide) (by decide) (by decide) ?_
  refine aw_istore_n rfl (by decide) ?_
  refine aw_iload_n rfl rfl ?_
  refine aw_iconst (v := -1) rfl (by decide) ?_
  refine aw_icmp_eq (tgt := 19) rfl (by decide) (fun h7 => ?_) (fun h7 => ?_)
  · refine aw_iconst (v := -1) rfl (by decide) ?_
    exact aw_fi rfl rfl (by unfold pOne; first | (rw [if_pos (by simpa using h7)]; done) | (rw [if_neg h7, if_neg (by rw [eq]; exact h16)]; done)) (by unfold pOne; first | (rw [if_pos (by simpa using h7)]; done) | (rw [if_neg h7, if_neg (by rw [eq]; exact h16)]; done))
  · obtain ⟨q, hq0, hq, eq⟩ := sgn_q h8 h7
    refine aw_aload_n rfl rfl ?_
    refine aw_iload_n rfl rfl ?_
    refine aw_i2c rfl ?_
    rw [show ((sgn (s 2) m (sA (s 2) m a)).toUInt32 % 65536).toInt32 = nI q from by (rw [eq]; exact i2c_nI hq)]
    refine aw_iX rfl cw_X10_26 (xs_recv hx hi) (c_indexOf hx hi hq) rfl rfl (Nat.le_of_ble_eq_true rfl) (by decide) (by decide) (by decide) (by decide) ?_
    refine aw_if_ge (tgt := 21) rfl (by decide) (fun h16 => ?_) (fun h16 => ?_)
    · refine aw_aload_n rfl rfl ?_
      refine aw_dup rfl rfl ?_
      refine pg_1_2 rfl kl_X10_19 ?_
      refine aw_iconst (v := 1) rfl (by decide) ?_
      refine aw_iadd rfl ?_
      refine pp_1_2 rfl kl_X10_19 ?_
      refine aw_iload_n rfl rfl ?_
      exact aw_fi rfl rfl (by unfold pOne; rw [if_neg h7, if_pos (by rw [eq]; exact h16)]) (by unfold pOne; rw [if_neg h7, if_pos (by rw [eq]; exact h16)]; refine congrArg (fun z => hp g z n) ?_; unfold tA; rw [up_up]; exact congrArg (up s 1 2) (nI_1 _))
    · refine aw_iconst (v := -1) rfl (by decide) ?_
      exact aw_fi rfl rfl (by unfold pOne; first | (rw [if_pos (by simpa using h7)]; done) | (rw [if_neg h7, if_neg (by rw [eq]; exact h16)]; done)) (by unfold pOne; first | (rw [if_pos (by simpa using h7)]; done) | (rw [if_neg h7, if_neg (by rw [eq]; exact h16)]; done))
