/-- a reign: good or not, where the tape stands, the steps, how many -/
def rRd (f : Nat → Int32) (m : Nat) : Nat → Nat → Nat → (Nat → Int32) → Int32 → Bool × Nat × (Nat → Int32) × Int32
  | 0, _, a, P, t => (false, a, P, t)
  | d + 1, i, a, P, t => if (rStp f m (i * 3) a P).1 = false then (false, (rStp f m (i * 3) a P).2.1, (rStp f m (i * 3) a P).2.2, t) else
    if sgn f m (sA f m (rStp f m (i * 3) a P).2.1) = -1 then (true, sA f m (rStp f m (i * 3) a P).2.1, (rStp f m (i * 3) a P).2.2, nI (i + 1)) else
    if i + 1 = 16 then (false, sA f m (rStp f m (i * 3) a P).2.1, (rStp f m (i * 3) a P).2.2, nI (i + 1)) else
    if sgn f m (sA f m (sA f m (rStp f m (i * 3) a P).2.1)) = 59 then rRd f m d (i + 1) (sA f m (sA f m (rStp f m (i * 3) a P).2.1) + 1) (rStp f m (i * 3) a P).2.2 (nI (i + 1)) else
    (false, sA f m (sA f m (rStp f m (i * 3) a P).2.1), (rStp f m (i * 3) a P).2.2, nI (i + 1))
theorem rDg_le {f : Nat → Int32} {m row : Nat} : ∀ (d i a : Nat) (P : Nat → Int32), a ≤ m → (rDg f m row d i a P).2.1 ≤ m
  | 0, _, _, _, h => h
  | d + 1, i, a, P, h => by
    have hle := sA_le (f := f) h
    simp only [rDg]
    split
    · exact hle.2
    · rename_i h1
      split
      · exact hle.2
      · have hlt : sA f m a < m := sA_lt (fun z => h1 (by rw [z]; decide))
        exact rDg_le d (i + 1) _ _ (by omega)
theorem rStp_le {f : Nat → Int32} {m row a : Nat} {P : Nat → Int32} (h : a ≤ m) : (rStp f m row a P).2.1 ≤ m := by
  have hle := sA_le (f := f) h
  unfold rStp
  split
  · rename_i h1
    refine rDg_le _ _ _ _ ?_
    have hlt : sA f m a < m := sA_lt (fun z => absurd h1 (by unfold rKd; rw [if_pos z]; decide))
    omega
  · exact hle.2
set_option maxRecDepth 4000 in
theorem c_X9_reads {l : Launch} {g : ag_G} {s : am_S} {n : am_N} {m : Nat} (hm : s 1 1 = nI m) (hm4 : m ≤ 240) (h8 : tb8 (s 2) m) (hx : aw_hx g) : aw_F l g mi_X9_reads 5 [.ref (g_ad g 8)] (hp g s n) (.int (bB (rRd (s 2) m 16 0 0 (s 9) (s 8 2)).1)) (hp g (rM s (rRd (s 2) m 16 0 0 (s 9) (s 8 2)).2.1 (rRd (s 2) m 16 0 0 (s 9) (s 8 2)).2.2.1 (rRd (s 2) m 16 0 0 (s 9) (s 8 2)).2.2.2) n) := by
  generalize hXX : rRd (s 2) m 16 0 0 (s 9) (s 8 2) = X
  have loop : ∀ (d i : Nat) (a : Nat) (P : Nat → Int32) (t : Int32), a ≤ m → i + d = 16 → rRd (s 2) m d i a P t = X → aw_W l g mi_X9_reads (aw_rm 5 0 0) (aw_Z g (fun r w => r = some (.int (bB X.1)) ∧ w = hp g (rM s X.2.1 X.2.2.1 X.2.2.2) n) 0 0) 0 0 (hp g (rM s a P t) n) 10 [some (.ref (g_ad g 8)), some (.int (nI i))] [] := by
    intro d
    induction d with
    | zero =>
      intro i a P t ha hi hX
      refine aw_iload_n rfl rfl ?_
      refine aw_bipush (v := 16) rfl (by decide) ?_
      refine aw_icmp_ge (tgt := 77) rfl (by decide) (fun h13 => ?_) (fun h13 => absurd (nI_le (a := 16) (by omega) (by omega)) h13)
      refine aw_iconst (v := 0) rfl (by decide) ?_
      exact aw_fz rfl rfl (Or.inl rfl) (by rw [← hX]; rfl) (by rw [← hX]; rfl)
    | succ d ih =>
      intro i a P t ha hi hX
      have hst := rStp_le (f := s 2) (m := m) (row := i * 3) (P := P) ha
      have hle := sA_le (f := s 2) hst
      have hle2 := sA_le (f := s 2) hle.2
      refine aw_iload_n rfl rfl ?_
      refine aw_bipush (v := 16) rfl (by decide) ?_
      refine aw_icmp_ge (tgt := 77) rfl (by decide) (fun h13 => absurd h13 (nI_ge (b := 16) (by omega) (by omega))) (fun h13 => ?_)
      refine aw_aload_n rfl rfl ?_
      refine aw_iload_n rfl rfl ?_
      refine aw_iconst (v := 3) rfl (by decide) ?_
      refine aw_imul rfl ?_
      rw [show nI i * 3 = nI (i * 3) from pk_mul i 3]
      refine aw_iV (q0 := 8) (ci := 9) rfl cw_X9_34 rfl rfl rfl (c_X9_readsStep hm hm4 h8 ha (by omega) hx) rfl rfl (Nat.le_of_ble_eq_true rfl) (by decide) (by decide) (by decide) (by decide) ?_
      refine aw_if_ne (tgt := 28) rfl (by decide) (fun h23 => ?_) (fun h23 => ?_)
      · refine aw_aload_n rfl rfl ?_
        refine aw_iload_n rfl rfl ?_
        refine aw_iconst (v := 1) rfl (by decide) ?_
        refine aw_iadd rfl ?_
        refine pp_8_2 rfl kl_X9_19 ?_
        have q23 : (rStp (s 2) m (i * 3) a P).1 = true := bB_n0.mp h23
        rw [show up (rM s (rStp (s 2) m (i * 3) a P).2.1 (rStp (s 2) m (i * 3) a P).2.2 t) 8 2 (nI i + 1) = rM s (rStp (s 2) m (i * 3) a P).2.1 (rStp (s 2) m (i * 3) a P).2.2 (nI (i + 1)) from by (rw [rM_8, nI_1])]
        refine aw_aload_n rfl rfl ?_
        refine pg_8_0 rfl kl_X9_15 ?_
        refine aw_iV (q0 := 1) (ci := 10) rfl cw_X9_38 rfl rfl rfl (c_signR hm hm4 hst) rfl rfl (Nat.le_of_ble_eq_true rfl) (by decide) (by decide) (by decide) (by decide) ?_
        refine aw_iconst (v := -1) rfl (by decide) ?_
        refine aw_icmp_ne (tgt := 48) rfl (by decide) (fun h43 => ?_) (fun h43 => ?_)
        · refine aw_aload_n rfl rfl ?_
          refine pg_8_2 rfl kl_X9_19 ?_
          refine aw_bipush (v := 16) rfl (by decide) ?_
          refine aw_icmp_eq (tgt := 69) rfl (by decide) (fun h54 => ?_) (fun h54 => ?_)
          · refine aw_iconst (v := 0) rfl (by decide) ?_
            first
            | (have z16 : i + 1 = 16 := (nI_eq (b := 16) (by omega) (by decide)).mp (show nI (i + 1) = nI 16 from h54)
               exact aw_fz rfl rfl (Or.inl rfl) (by rw [← hX]; simp only [rRd]; rw [if_neg (by rw [q23]; decide), if_neg h43, if_pos z16]; rfl) (by rw [← hX]; simp only [rRd]; rw [if_neg (by rw [q23]; decide), if_neg h43, if_pos z16]))
            | (have z16 : ¬ i + 1 = 16 := fun z => h54 (show nI (i + 1) = nI 16 from by rw [z])
               have z59 : ¬ sgn (s 2) m (sA (s 2) m (sA (s 2) m (rStp (s 2) m (i * 3) a P).2.1)) = 59 := by (have z := bB_0.mp (by simpa using h66); exact of_decide_eq_false z)
               exact aw_fz rfl rfl (Or.inl rfl) (by rw [← hX]; simp only [rRd]; rw [if_neg (by rw [q23]; decide), if_neg h43, if_neg z16, if_neg z59]; rfl) (by rw [if_neg z59, ← hX]; simp only [rRd]; rw [if_neg (by rw [q23]; decide), if_neg h43, if_neg z16, if_neg z59]))
          · refine aw_aload_n rfl rfl ?_
            refine pg_8_0 rfl kl_X9_15 ?_
            refine aw_bipush (v := 59) rfl (by decide) ?_
            refine aw_iV (q0 := 1) (ci := 10) rfl cw_X9_42 rfl rfl rfl (c_passR (x := 59) hm hm4 hle.2) rfl rfl (Nat.le_of_ble_eq_true rfl) (by decide) (by decide) (by decide) (by decide) ?_
            refine aw_if_ne (tgt := 71) rfl (by decide) (fun h66 => ?_) (fun h66 => ?_)
            · refine aw_inc1 rfl rfl (by decide) ?_
              refine aw_goto (tgt := 10) rfl (by decide) ?_
              have z16 : ¬ i + 1 = 16 := fun z => h54 (show nI (i + 1) = nI 16 from by rw [z])
              have z59 : sgn (s 2) m (sA (s 2) m (sA (s 2) m (rStp (s 2) m (i * 3) a P).2.1)) = 59 := of_decide_eq_true (bB_n0.mp h66)
              have hlt := sA_lt (f := s 2) (m := m) (a := sA (s 2) m (sA (s 2) m (rStp (s 2) m (i * 3) a P).2.1)) (by rw [z59]; decide)
              rw [if_pos z59]
              refine aw_wk (ih (i + 1) _ _ _ (by omega) (by omega) ?_) (And.intro rfl (And.intro (congrArg (fun x => some (Value.int x)) (nI_1 i)) True.intro))
              rw [← hX]; simp only [rRd]; rw [if_neg (by rw [q23]; decide), if_neg h43, if_neg z16, if_pos z59]
            · refine aw_iconst (v := 0) rfl (by decide) ?_
              first
              | (have z16 : i + 1 = 16 := (nI_eq (b := 16) (by omega) (by decide)).mp (show nI (i + 1) = nI 16 from h54)
                 exact aw_fz rfl rfl (Or.inl rfl) (by rw [← hX]; simp only [rRd]; rw [if_neg (by rw [q23]; decide), if_neg h43, if_pos z16]; rfl) (by rw [← hX]; simp only [rRd]; rw [if_neg (by rw [q23]; decide), if_neg h43, if_pos z16]))
              | (have z16 : ¬ i + 1 = 16 := fun z => h54 (show nI (i + 1) = nI 16 from by rw [z])
                 have z59 : ¬ sgn (s 2) m (sA (s 2) m (sA (s 2) m (rStp (s 2) m (i * 3) a P).2.1)) = 59 := by (have z := bB_0.mp (by simpa using h66); exact of_decide_eq_false z)
                 exact aw_fz rfl rfl (Or.inl rfl) (by rw [← hX]; simp only [rRd]; rw [if_neg (by rw [q23]; decide), if_neg h43, if_neg z16, if_neg z59]; rfl) (by rw [if_neg z59, ← hX]; simp only [rRd]; rw [if_neg (by rw [q23]; decide), if_neg h43, if_neg z16, if_neg z59]))
        · refine aw_iconst (v := 1) rfl (by decide) ?_
          exact aw_fz rfl rfl (Or.inr rfl) (by rw [← hX]; simp only [rRd]; rw [if_neg (by rw [q23]; decide), if_pos (by simpa using h43)]; rfl) (by rw [← hX]; simp only [rRd]; rw [if_neg (by rw [q23]; decide), if_pos (by simpa using h43)])
      · refine aw_iconst (v := 0) rfl (by decide) ?_
        exact aw_fz rfl rfl (Or.inl rfl) (by rw [← hX]; simp only [rRd]; rw [if_pos (bB_0.mp (by simpa using h23))]; rfl) (by rw [← hX]; simp only [rRd]; rw [if_pos (bB_0.mp (by simpa using h23))])
  refine aw_F_of mo_X9_reads (by decide) (Nat.le_of_ble_eq_true rfl) ?_
  have lp := loop 16 0 0 (s 9) (s 8 2) (by omega) (by omega) hXX
  refine aw_aload_n rfl rfl ?_
  refine pg_8_0 rfl kl_X9_15 ?_
  refine aw_iconst (v := 0) rfl (by decide) ?_
  refine pp_1_2 rfl kl_X9_29 ?_
  refine aw_iconst (v := 0) rfl (by decide) ?_
  refine aw_istore_n rfl (by decide) ?_
  refine aw_wk (aw_eqs lp rfl rfl (congrArg (fun z => hp g z n) ?_)) (And.intro rfl (And.intro rfl True.intro))
  unfold rM; rw [upR_rf]; exact (up_rf (s := up s 1 2 (nI 0)) (k := 8) (i := 2) rfl).symm
