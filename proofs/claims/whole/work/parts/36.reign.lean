/-- tape place, the steps, how many -/
def rM (s : am_S) (a : Nat) (P : Nat → Int32) (t : Int32) : am_S := up (up (upR s 9 P) 1 2 (nI a)) 8 2 t
theorem rM_9 {s : am_S} {a : Nat} {P : Nat → Int32} {t v : Int32} {j : Nat} : up (rM s a P t) 9 j v = rM s a (upd P j v) t := by
  funext k i
  unfold rM up upR
  cases h9 : Nat.beq k 9 with
  | true => rw [Nat.eq_of_beq_eq_true h9]; rfl
  | false => rfl
theorem up_comm {s : am_S} {k k' i j : Nat} {v x : Int32} (h : Nat.beq k k' = false) (h' : Nat.beq k' k = false) : up (up s k i v) k' j x = up (up s k' j x) k i v := by
  funext q
  cases h1 : Nat.beq q k with
  | true =>
    have e := Nat.eq_of_beq_eq_true h1
    subst e
    simp only [up, h, h', h1, cond_true, cond_false]
  | false =>
    cases h2 : Nat.beq q k' with
    | true =>
      have e := Nat.eq_of_beq_eq_true h2
      subst e
      simp only [up, h, h', h2, cond_true, cond_false]
    | false => simp only [up, h1, h2, cond_false]
theorem rM_1 {s : am_S} {a b : Nat} {P : Nat → Int32} {t : Int32} : up (rM s a P t) 1 2 (nI b) = rM s b P t := by
  unfold rM
  rw [up_comm rfl rfl, up_up]
theorem rM_8 {s : am_S} {a : Nat} {P : Nat → Int32} {t u : Int32} : up (rM s a P t) 8 2 u = rM s a P u := by unfold rM; rw [up_up]
theorem rM_tA {s : am_S} {a b : Nat} {P : Nat → Int32} {t : Int32} : tA (rM s a P t) b = rM s b P t := rM_1
def dgN (k : Nat) : Nat := ((xArr.getD 6 []).getD k 0).toNatClampNeg
theorem xk7 : ∀ q, q < 256 → xix 7 (nI q) = -1 ∨ ∃ k, k < 4 ∧ xix 7 (nI q) = nI k := by decide +kernel
theorem dgN_ok : ∀ k, k < 4 → (xArr.getD 6 []).getD k 0 = nI (dgN k) ∧ dgN k ≤ 2 := by decide +kernel
def rDg (f : Nat → Int32) (m row : Nat) : Nat → Nat → Nat → (Nat → Int32) → Bool × Nat × (Nat → Int32)
  | 0, _, a, P => (true, a, P)
  | d + 1, i, a, P => if sgn f m (sA f m a) < 48 then (false, sA f m a, P) else if 57 < sgn f m (sA f m a) then (false, sA f m a, P) else rDg f m row d (i + 1) (sA f m a + 1) (upd P (row + i) (sgn f m (sA f m a) - 48))
def rKd (f : Nat → Int32) (m a : Nat) : Int32 := if sgn f m a = -1 then -1 else xix 7 (sgn f m a)
def rStp (f : Nat → Int32) (m row a : Nat) (P : Nat → Int32) : Bool × Nat × (Nat → Int32) := if 0 ≤ rKd f m (sA f m a) then rDg f m row (dgN (cl (rKd f m (sA f m a)))) 1 (sA f m a + 1) (upd (upd (upd P row (rKd f m (sA f m a))) (row + 1) (-1)) (row + 2) (-1)) else (false, sA f m a, P)
theorem sA_lt {f : Nat → Int32} {m a : Nat} (h : ¬ sgn f m a = -1) : a < m := by
  unfold sgn at h
  by_cases hm : a < m
  · exact hm
  · rw [if_neg hm] at h; exact absurd rfl h
theorem c_signR {l : Launch} {g : ag_G} {s : am_S} {n : am_N} {m a : Nat} {P : Nat → Int32} {t : Int32} (hm : s 1 1 = nI m) (hm4 : m ≤ 240) (ham : a ≤ m) : aw_F l g mi_X10_sign 0 [.ref (g_ad g 1)] (hp g (rM s a P t) n) (.int (sgn (s 2) m (sA (s 2) m a))) (hp g (rM s (sA (s 2) m a) P t) n) := by
  have h := c_X10_sign (l := l) (g := g) (n := n) (s := rM s a P t) (m := m) (a := a) hm hm4 rfl ham
  rw [rM_tA] at h
  exact h
theorem c_passR {l : Launch} {g : ag_G} {s : am_S} {n : am_N} {m a : Nat} {P : Nat → Int32} {t x : Int32} (hm : s 1 1 = nI m) (hm4 : m ≤ 240) (ham : a ≤ m) : aw_F l g mi_X10_passes 1 [.ref (g_ad g 1), .int x] (hp g (rM s a P t) n) (.int (bB (decide (sgn (s 2) m (sA (s 2) m a) = x)))) (hp g (rM s (if sgn (s 2) m (sA (s 2) m a) = x then sA (s 2) m a + 1 else sA (s 2) m a) P t) n) := by
  have h := c_X10_passes (l := l) (g := g) (n := n) (s := rM s a P t) (m := m) (a := a) (x := x) hm hm4 rfl ham
  rw [rM_tA, rM_tA] at h
  have e : (if sgn (s 2) m (sA (s 2) m a) = x then rM s (sA (s 2) m a + 1) P t else rM s (sA (s 2) m a) P t) = rM s (if sgn (s 2) m (sA (s 2) m a) = x then sA (s 2) m a + 1 else sA (s 2) m a) P t := by split <;> rfl
  rw [← e]
  exact h
set_option maxRecDepth 4000 in
theorem c_X9_readsStep {l : Launch} {g : ag_G} {s : am_S} {n : am_N} {m : Nat} (hm : s 1 1 = nI m) (hm4 : m ≤ 240) (h8 : tb8 (s 2) m) {a row : Nat} {P : Nat → Int32} {t : Int32} (ham : a ≤ m) (hrow : row + 3 ≤ 48) (hx : aw_hx g) : aw_F l g mi_X9_readsStep 4 [.ref (g_ad g 8), .int (nI row)] (hp g (rM s a P t) n) (.int (bB (rStp (s 2) m row a P).1)) (hp g (rM s (rStp (s 2) m row a P).2.1 (rStp (s 2) m row a P).2.2 t) n) := by
  have hle := sA_le (f := s 2) ham
  generalize hXX : rStp (s 2) m row a P = X
  have loop : ∀ (k : Nat), k < 4 → ∀ (d i b : Nat) (P : Nat → Int32), 1 ≤ i → i + d = dgN k + 1 → b ≤ m → rDg (s 2) m row d i b P = X → aw_W l g mi_X9_readsStep (aw_rm 4 0 0) (aw_Z g (fun r w => r = some (.int (bB X.1)) ∧ w = hp g (rM s X.2.1 X.2.2 t) n) 0 0) 0 0 (hp g (rM s b P t) n) 72 [some (.ref (g_ad g 8)), some (.int (nI row)), none, some (.int (nI k)), some (.int (nI i))] [] := by
    intro k hk d
    have hdk := dgN_ok k hk
    induction d with
    | zero =>
      intro i b P h1 hi hb hX
      refine aw_iload rfl rfl ?_
      refine aw_xgets rfl (fun U hU => (xt_6 hx U hU).1) kl_X9_53 ?_
      refine aw_iload_n rfl rfl ?_
      refine aw_xti rfl (fun U hU => (xt_6 hx U hU).2) (j := k) rfl (by omega) (by decide) rfl ?_
      rw [hdk.1]
      refine aw_icmp_gt (tgt := 136) rfl (by decide) (fun h79 => ?_) (fun h79 => absurd (nI_lt (by omega) (by omega)) h79)
      refine aw_iconst (v := 1) rfl (by decide) ?_
      exact aw_fz rfl rfl (Or.inr rfl) (by rw [← hX]; rfl) (by rw [← hX]; rfl)
    | succ d ih =>
      intro i b P h1 hi hb hX
      have hle := sA_le (f := s 2) hb
      refine aw_iload rfl rfl ?_
      refine aw_xgets rfl (fun U hU => (xt_6 hx U hU).1) kl_X9_53 ?_
      refine aw_iload_n rfl rfl ?_
      refine aw_xti rfl (fun U hU => (xt_6 hx U hU).2) (j := k) rfl (by omega) (by decide) rfl ?_
      rw [hdk.1]
      refine aw_icmp_gt (tgt := 136) rfl (by decide) (fun h79 => absurd h79 (nI_nlt (by omega) (by omega))) (fun h79 => ?_)
      refine aw_aload_n rfl rfl ?_
      refine pg_8_0 rfl kl_X9_15 ?_
      refine aw_iV (q0 := 1) (ci := 10) rfl cw_X9_38 rfl rfl rfl (c_signR hm hm4 (hb)) rfl rfl (Nat.le_of_ble_eq_true rfl) (by decide) (by decide) (by decide) (by decide) ?_
      refine aw_istore_n rfl (by decide) ?_
      refine aw_iload_n rfl rfl ?_
      refine aw_bipush (v := 48) rfl (by decide) ?_
      refine aw_icmp_lt (tgt := 102) rfl (by decide) (fun h93 => ?_) (fun h93 => ?_)
      · refine aw_iconst (v := 0) rfl (by decide) ?_
        exact aw_fz rfl rfl (Or.inl rfl) (by have hx : (false, sA (s 2) m b, P) = X := (by rw [← hX]; simp only [rDg]; first | (rw [if_pos (show sgn (s 2) m (sA (s 2) m b) < 48 from h93)]; done) | (rw [if_neg (show ¬ sgn (s 2) m (sA (s 2) m b) < 48 from h93), if_pos (by rw [← Int32.not_le]; exact h99)]; done)); rw [← hx]; rfl) (by have hx : (false, sA (s 2) m b, P) = X := (by rw [← hX]; simp only [rDg]; first | (rw [if_pos (show sgn (s 2) m (sA (s 2) m b) < 48 from h93)]; done) | (rw [if_neg (show ¬ sgn (s 2) m (sA (s 2) m b) < 48 from h93), if_pos (by rw [← Int32.not_le]; exact h99)]; done)); rw [← hx])
      · refine aw_iload_n rfl rfl ?_
        refine aw_bipush (v := 57) rfl (by decide) ?_
        refine aw_icmp_le (tgt := 104) rfl (by decide) (fun h99 => ?_) (fun h99 => ?_)
        · refine aw_aload_n rfl rfl ?_
          refine pg_8_0 rfl kl_X9_15 ?_
          refine aw_dup rfl rfl ?_
          refine pg_1_2 rfl kl_X9_29 ?_
          refine aw_iconst (v := 1) rfl (by decide) ?_
          refine aw_iadd rfl ?_
          refine pp_1_2 rfl kl_X9_29 ?_
          rw [show rM s (sA (s 2) m b) P t 1 2 + 1 = nI (sA (s 2) m b + 1) from nI_1 _, rM_1]
          refine aw_aload_n rfl rfl ?_
          refine pg_8_1 rfl kl_X9_11 ?_
          refine aw_iload_n rfl rfl ?_
          refine aw_iload rfl rfl ?_
          refine aw_iadd rfl ?_
          refine aw_iload_n rfl rfl ?_
          refine aw_bipush (v := 48) rfl (by decide) ?_
          refine aw_isub rfl ?_
          refine ps_9 rfl (nI_add _ _) (by omega) ?_
          rw [rM_9]
          refine aw_inc1 rfl rfl (by decide) ?_
          refine aw_goto (tgt := 72) rfl (by decide) ?_
          have hlt : sA (s 2) m b < m := sA_lt (fun z => h93 (by show sgn (s 2) m (sA (s 2) m b) < 48; rw [z]; decide))
          refine aw_wk (ih (i + 1) _ _ (by omega) (by omega) (by omega) ?_) (And.intro rfl (And.intro rfl (And.intro rfl (And.intro (congrArg (fun x => some (Value.int x)) (nI_1 i)) True.intro))))
          rw [← hX]; simp only [rDg]; rw [if_neg (show ¬ sgn (s 2) m (sA (s 2) m b) < 48 from h93), if_neg (by rw [Int32.not_lt]; exact h99)]
        · refine aw_iconst (v := 0) rfl (by decide) ?_
          exact aw_fz rfl rfl (Or.inl rfl) (by have hx : (false, sA (s 2) m b, P) = X := (by rw [← hX]; simp only [rDg]; first | (rw [if_pos (show sgn (s 2) m (sA (s 2) m b) < 48 from h93)]; done) | (rw [if_neg (show ¬ sgn (s 2) m (sA (s 2) m b) < 48 from h93), if_pos (by rw [← Int32.not_le]; exact h99)]; done)); rw [← hx]; rfl) (by have hx : (false, sA (s 2) m b, P) = X := (by rw [← hX]; simp only [rDg]; first | (rw [if_pos (show sgn (s 2) m (sA (s 2) m b) < 48 from h93)]; done) | (rw [if_neg (show ¬ sgn (s 2) m (sA (s 2) m b) < 48 from h93), if_pos (by rw [← Int32.not_le]; exact h99)]; done)); rw [← hx])
  refine aw_F_of mo_X9_readsStep (by decide) (Nat.le_of_ble_eq_true rfl) ?_
  refine aw_aload_n rfl rfl ?_
  refine pg_8_0 rfl kl_X9_15 ?_
  refine aw_iV (q0 := 1) (ci := 10) rfl cw_X9_38 rfl rfl rfl (c_signR hm hm4 (ham)) rfl rfl (Nat.le_of_ble_eq_true rfl) (by decide) (by decide) (by decide) (by decide) ?_
  refine aw_istore_n rfl (by decide) ?_
  refine aw_iload_n rfl rfl ?_
  refine aw_iconst (v := -1) rfl (by decide) ?_
  refine aw_icmp_ne (tgt := 17) rfl (by decide) (fun h10 => ?_) (fun h10 => ?_)
  · obtain ⟨q, hq0, hq, eq⟩ := sgn_q h8 h10
    have hk : rKd (s 2) m (sA (s 2) m a) = xix 7 (nI q) := by (unfold rKd; rw [if_neg h10, eq])
    refine aw_ldcS rfl (xr_X9_45 hx) ?_
    refine aw_iload_n rfl rfl ?_
    refine aw_i2c rfl ?_
    rw [show ((sgn (s 2) m (sA (s 2) m a)).toUInt32 % 65536).toInt32 = nI q from by (rw [eq]; exact i2c_nI hq)]
    refine aw_iX rfl cw_X9_47 (xs_recv hx (i := 7) (by decide)) (c_indexOf (i := 7) hx (by decide) hq) rfl rfl (Nat.le_of_ble_eq_true rfl) (by decide) (by decide) (by decide) (by decide) ?_
    rw [← hk]
    refine aw_istore_n rfl (by decide) ?_
    refine aw_iload_n rfl rfl ?_
    refine aw_if_ge (tgt := 31) rfl (by decide) (fun h26 => ?_) (fun h26 => ?_)
    · have h0k : 0 ≤ rKd (s 2) m (sA (s 2) m a) := h26
      obtain ⟨kk, hkk, ek⟩ : ∃ kk, kk < 4 ∧ rKd (s 2) m (sA (s 2) m a) = nI kk := by
        first
          | (rw [hk] at h0k; exact absurd h0k (by decide))
          | (rcases xk7 q hq with z | ⟨kk, hkk, z⟩
             · rw [hk, z] at h0k; exact absurd h0k (by decide)
             · exact ⟨kk, hkk, by rw [hk]; exact z⟩)
      have hck : cl (nI kk) = kk := cl_nI (by omega)
      have hlt : sA (s 2) m a < m := sA_lt (fun z => absurd h0k (by unfold rKd; rw [if_pos z]; decide))
      refine aw_aload_n rfl rfl ?_
      refine pg_8_0 rfl kl_X9_15 ?_
      refine aw_dup rfl rfl ?_
      refine pg_1_2 rfl kl_X9_29 ?_
      refine aw_iconst (v := 1) rfl (by decide) ?_
      refine aw_iadd rfl ?_
      refine pp_1_2 rfl kl_X9_29 ?_
      rw [show rM s (sA (s 2) m a) P t 1 2 + 1 = nI (sA (s 2) m a + 1) from nI_1 _, rM_1]
      refine aw_aload_n rfl rfl ?_
      refine pg_8_1 rfl kl_X9_11 ?_
      refine aw_iload_n rfl rfl ?_
      refine aw_iload_n rfl rfl ?_
      refine ps_9 rfl rfl (by omega) ?_
      rw [rM_9]
      refine aw_aload_n rfl rfl ?_
      refine pg_8_1 rfl kl_X9_11 ?_
      refine aw_iload_n rfl rfl ?_
      refine aw_iconst (v := 1) rfl (by decide) ?_
      refine aw_iadd rfl ?_
      refine aw_iconst (v := -1) rfl (by decide) ?_
      refine ps_9 rfl (nI_add _ 1) (by omega) ?_
      rw [rM_9]
      refine aw_aload_n rfl rfl ?_
      refine pg_8_1 rfl kl_X9_11 ?_
      refine aw_iload_n rfl rfl ?_
      refine aw_iconst (v := 2) rfl (by decide) ?_
      refine aw_iadd rfl ?_
      refine aw_iconst (v := -1) rfl (by decide) ?_
      refine ps_9 rfl (nI_add _ 2) (by omega) ?_
      rw [rM_9]
      refine aw_iconst (v := 1) rfl (by decide) ?_
      refine aw_istore rfl (by decide) ?_
      refine aw_wk (loop kk hkk (dgN kk) 1 (sA (s 2) m a + 1) _ (by omega) (by omega) (by omega) ?_) (And.intro rfl (And.intro rfl (And.intro (congrArg (fun x => some (Value.int x)) ek) (And.intro rfl True.intro))))
      rw [← hXX]; unfold rStp; rw [if_pos h0k, ek, hck]
    · refine aw_iconst (v := 0) rfl (by decide) ?_
      exact aw_fz rfl rfl (Or.inl rfl) (by rw [← hXX]; unfold rStp; rw [if_neg (show ¬ 0 ≤ rKd (s 2) m (sA (s 2) m a) from h26)]; rfl) (by rw [← hXX]; unfold rStp; rw [if_neg (show ¬ 0 ≤ rKd (s 2) m (sA (s 2) m a) from h26)])
  · have hk : rKd (s 2) m (sA (s 2) m a) = -1 := by (unfold rKd; rw [if_pos (by simpa using h10)])
    refine aw_iconst (v := -1) rfl (by decide) ?_
    refine aw_goto (tgt := 24) rfl (by decide) ?_
    rw [← hk]
    refine aw_istore_n rfl (by decide) ?_
    refine aw_iload_n rfl rfl ?_
    refine aw_if_ge (tgt := 31) rfl (by decide) (fun h26 => ?_) (fun h26 => ?_)
    · have h0k : 0 ≤ rKd (s 2) m (sA (s 2) m a) := h26
      obtain ⟨kk, hkk, ek⟩ : ∃ kk, kk < 4 ∧ rKd (s 2) m (sA (s 2) m a) = nI kk := by
        first
          | (rw [hk] at h0k; exact absurd h0k (by decide))
          | (rcases xk7 q hq with z | ⟨kk, hkk, z⟩
             · rw [hk, z] at h0k; exact absurd h0k (by decide)
             · exact ⟨kk, hkk, by rw [hk]; exact z⟩)
      have hck : cl (nI kk) = kk := cl_nI (by omega)
      have hlt : sA (s 2) m a < m := sA_lt (fun z => absurd h0k (by unfold rKd; rw [if_pos z]; decide))
      refine aw_aload_n rfl rfl ?_
      refine pg_8_0 rfl kl_X9_15 ?_
      refine aw_dup rfl rfl ?_
      refine pg_1_2 rfl kl_X9_29 ?_
      refine aw_iconst (v := 1) rfl (by decide) ?_
      refine aw_iadd rfl ?_
      refine pp_1_2 rfl kl_X9_29 ?_
      rw [show rM s (sA (s 2) m a) P t 1 2 + 1 = nI (sA (s 2) m a + 1) from nI_1 _, rM_1]
      refine aw_aload_n rfl rfl ?_
      refine pg_8_1 rfl kl_X9_11 ?_
      refine aw_iload_n rfl rfl ?_
      refine aw_iload_n rfl rfl ?_
      refine ps_9 rfl rfl (by omega) ?_
      rw [rM_9]
      refine aw_aload_n rfl rfl ?_
      refine pg_8_1 rfl kl_X9_11 ?_
      refine aw_iload_n rfl rfl ?_
      refine aw_iconst (v := 1) rfl (by decide) ?_
      refine aw_iadd rfl ?_
      refine aw_iconst (v := -1) rfl (by decide) ?_
      refine ps_9 rfl (nI_add _ 1) (by omega) ?_
      rw [rM_9]
      refine aw_aload_n rfl rfl ?_
      refine pg_8_1 rfl kl_X9_11 ?_
      refine aw_iload_n rfl rfl ?_
      refine aw_iconst (v := 2) rfl (by decide) ?_
      refine aw_iadd rfl ?_
      refine aw_iconst (v := -1) rfl (by decide) ?_
      refine ps_9 rfl (nI_add _ 2) (by omega) ?_
      rw [rM_9]
      refine aw_iconst (v := 1) rfl (by decide) ?_
      refine aw_istore rfl (by decide) ?_
      refine aw_wk (loop kk hkk (dgN kk) 1 (sA (s 2) m a + 1) _ (by omega) (by omega) (by omega) ?_) (And.intro rfl (And.intro rfl (And.intro (congrArg (fun x => some (Value.int x)) ek) (And.intro rfl True.intro))))
      rw [← hXX]; unfold rStp; rw [if_pos h0k, ek, hck]
    · refine aw_iconst (v := 0) rfl (by decide) ?_
      exact aw_fz rfl rfl (Or.inl rfl) (by rw [← hXX]; unfold rStp; rw [if_neg (show ¬ 0 ≤ rKd (s 2) m (sA (s 2) m a) from h26)]; rfl) (by rw [← hXX]; unfold rStp; rw [if_neg (show ¬ 0 ≤ rKd (s 2) m (sA (s 2) m a) from h26)])
