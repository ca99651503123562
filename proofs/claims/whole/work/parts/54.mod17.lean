/-! the reference: suns dealt anew -/
theorem eo_upI {K : Nat → Nat → Bool} {s s1 : am_S} {k i : Nat} {v : Int32} (hk : K k i = true) (h : eo K s s1) : eo K s (up s1 k i v) := by
  intro k' j e
  unfold up
  cases hb : Nat.beq k' k with
  | true =>
    have hk' := Nat.eq_of_beq_eq_true hb
    subst hk'
    show upd (s1 k') i v j = s k' j
    by_cases hj : j = i
    · rw [hj] at e; rw [hk] at e; cases e
    · rw [upd_n hj]; exact h k' j e
  | false => exact h k' j e
def dS (s : am_S) (z : Int32 × Int32) : am_S := up (up s 39 45 z.2) 39 44 z.1
theorem dS_dS {s : am_S} {z : Int32 × Int32} {c d : Int32} : up (up (dS s z) 39 45 c) 39 44 d = dS s (d, c) := by
  unfold dS
  funext k
  unfold up
  cases hb : Nat.beq k 39 with
  | false => rfl
  | true =>
    simp only [cond_true, show Nat.beq 39 39 = true from rfl]
    funext j
    unfold upd
    by_cases h1 : j = 44
    · simp [h1]
    · by_cases h2 : j = 45
      · simp [h2]
      · simp [h1, h2]
def gdP (dw lost : Int32) : Bool := !decide (dw = -1) && decide (dw ≤ lost)
def gd (T : Nat) (su : Nat → Nat) (me : Nat → Nat → Int32) : Nat → Int32 → Int32 → Int32 → Int32 × Int32 → Int32 × Int32
  | 0, _, lost, row, z => if gdP z.2 lost = true then z else (row, lost)
  | f + 1, met, lost, row, z => if gdP z.2 lost = true then z else fd (fun t z => if hs met (nI t) = true then z else gd T su me f (met ||| bt t) (lost + me t (su (T - (f + 1)))) (10 * row + nI t) z) 0 T z
set_option maxRecDepth 4000 in
theorem c_m_goDealt {l : Launch} {g : ag_G} {s : am_S} {n : am_N} {T : Nat} {su : Nat → Nat} {me : Nat → Nat → Int32} (hT : T ≤ 7) (hTe : s 39 26 = nI T) (hsu : ∀ q, q < T → su q ≤ 9 ∧ s 58 q = nI (su q)) (hme : ∀ t, t < T → ∀ u, u ≤ 9 → s 59 (10 * t + u) = me t u) : ∀ (f k : Nat), k + f = T → ∀ (met lost row : Int32) (z : Int32 × Int32), aw_V l g mi_X12_goDealt f [.ref (g_ad g 39), .int (nI k), .int met, .int lost, .int row] (hp g (dS s z) n) (hp g (dS s (gd T su me f met lost row z)) n) := by
  intro f
  induction f with
  | zero =>
    intro k hk met lost row z
    refine aw_V_of mo_X12_goDealt (by decide) (Nat.le_of_ble_eq_true rfl) ?_
    refine aw_aload_n rfl rfl ?_
    refine pg_39_45 rfl kl_X12_435 ?_
    refine aw_iconst (v := -1) rfl (by decide) ?_
    refine aw_icmp_eq (tgt := 17) rfl (by decide) (fun h5 => ?_) (fun h5 => ?_)
    · refine aw_iload_n rfl rfl ?_
      refine aw_aload_n rfl rfl ?_
      refine pg_39_26 rfl kl_X12_291 ?_
      refine aw_icmp_ne (tgt := 37) rfl (by decide) (fun h22 => absurd (show nI k = s 39 26 from by (rw [hTe]; exact congrArg nI (by omega))) h22) (fun h22 => ?_)
      refine aw_aload_n rfl rfl ?_
      refine aw_iload_n rfl rfl ?_
      refine pp_39_45 rfl kl_X12_435 ?_
      refine aw_aload_n rfl rfl ?_
      refine aw_iload rfl rfl ?_
      refine pp_39_44 rfl kl_X12_438 ?_
      exact aw_fv rfl rfl (by rw [show gd T su me 0 met lost row z = (row, lost) from by (simp only [gd]; rw [if_neg (by unfold gdP; first | (rw [decide_eq_true (show z.2 = -1 from h5)]; exact Bool.false_ne_true) | (rw [decide_eq_false (Int32.not_le.mpr (show lost < z.2 from h13)), Bool.and_false]; exact Bool.false_ne_true))]), dS_dS])
    · refine aw_iload_n rfl rfl ?_
      refine aw_aload_n rfl rfl ?_
      refine pg_39_45 rfl kl_X12_435 ?_
      refine aw_icmp_lt (tgt := 17) rfl (by decide) (fun h13 => ?_) (fun h13 => ?_)
      · refine aw_iload_n rfl rfl ?_
        refine aw_aload_n rfl rfl ?_
        refine pg_39_26 rfl kl_X12_291 ?_
        refine aw_icmp_ne (tgt := 37) rfl (by decide) (fun h22 => absurd (show nI k = s 39 26 from by (rw [hTe]; exact congrArg nI (by omega))) h22) (fun h22 => ?_)
        refine aw_aload_n rfl rfl ?_
        refine aw_iload_n rfl rfl ?_
        refine pp_39_45 rfl kl_X12_435 ?_
        refine aw_aload_n rfl rfl ?_
        refine aw_iload rfl rfl ?_
        refine pp_39_44 rfl kl_X12_438 ?_
        exact aw_fv rfl rfl (by rw [show gd T su me 0 met lost row z = (row, lost) from by (simp only [gd]; rw [if_neg (by unfold gdP; first | (rw [decide_eq_true (show z.2 = -1 from h5)]; exact Bool.false_ne_true) | (rw [decide_eq_false (Int32.not_le.mpr (show lost < z.2 from h13)), Bool.and_false]; exact Bool.false_ne_true))]), dS_dS])
      · exact aw_fv rfl rfl (by rw [show gd T su me 0 met lost row z = z from by (simp only [gd]; rw [if_pos (by unfold gdP; rw [decide_eq_false (show ¬ z.2 = -1 from h5), decide_eq_true (Int32.not_lt.mp (show ¬ lost < z.2 from h13))]; rfl)])])
  | succ f ih =>
    intro k hk met lost row z
    have loop : ∀ (ZZ : Int32 × Int32) (d t : Nat) (y : Int32 × Int32), t + d = T → fd (fun t z => if hs met (nI t) = true then z else gd T su me f (met ||| bt t) (lost + me t (su (T - (f + 1)))) (10 * row + nI t) z) t d y = ZZ → aw_W l g mi_X12_goDealt (aw_rm (f + 1) 0 0) (aw_Z g (fun r w => r = none ∧ w = hp g (dS s ZZ) n) 0 0) 0 0 (hp g (dS s y) n) 40 [some (.ref (g_ad g 39)), some (.int (nI k)), some (.int met), some (.int lost), some (.int row), some (.int (nI t))] [] := by
      intro ZZ d
      induction d with
      | zero =>
        intro t y ht hX
        simp only [fd] at hX
        subst hX
        refine aw_iload rfl rfl ?_
        refine aw_aload_n rfl rfl ?_
        refine pg_39_26 rfl kl_X12_291 ?_
        refine aw_icmp_ge (tgt := 104) rfl (by decide) (fun h46 => ?_) (fun h46 => absurd (by rw [show dS s y 39 26 = nI T from hTe]; exact nI_le (by omega) (by omega)) h46)
        exact aw_fv rfl rfl rfl
      | succ d ihd =>
        intro t y ht hX
        simp only [fd] at hX
        have hkT : T - (f + 1) = k := by omega
        obtain ⟨hs9, hse⟩ := hsu k (by omega)
        have hm := hme t (by omega) (su k) hs9
        refine aw_iload rfl rfl ?_
        refine aw_aload_n rfl rfl ?_
        refine pg_39_26 rfl kl_X12_291 ?_
        refine aw_icmp_ge (tgt := 104) rfl (by decide) (fun h46 => absurd h46 (by rw [show dS s y 39 26 = nI T from hTe]; exact nI_ge (by omega) (by omega))) (fun h46 => ?_)
        refine aw_iload_n rfl rfl ?_
        refine aw_iload rfl rfl ?_
        refine aw_iS rfl cw_X12_229 (c_m_has) rfl rfl (Nat.le_of_ble_eq_true rfl) (by show 0 + 1 ≤ f + 1; omega) (by show 8 + (2 + 11) + 100 * 0 ≤ 100 * (f + 1); omega) (Nat.le_refl _) (Nat.le_refl _) ?_
        refine aw_if_ne (tgt := 98) rfl (by decide) (fun h55 => ?_) (fun h55 => ?_)
        · refine aw_inc1 rfl rfl (by decide) ?_
          refine aw_goto (tgt := 40) rfl (by decide) ?_
          first
          | (have q := bB_n0.mp h55
             exact aw_wk (ihd (t + 1) y (by omega) (by rw [if_pos q] at hX; exact hX)) (And.intro rfl (And.intro rfl (And.intro rfl (And.intro rfl (And.intro rfl (And.intro (congrArg (fun x => some (Value.int x)) (nI_1 t)) True.intro)))))))
          | (have q := bB_0.mp h55
             exact aw_wk (ihd (t + 1) _ (by omega) (by rw [if_neg (by rw [q]; exact Bool.false_ne_true)] at hX; exact hX)) (And.intro rfl (And.intro rfl (And.intro rfl (And.intro rfl (And.intro rfl (And.intro (congrArg (fun x => some (Value.int x)) (nI_1 t)) True.intro)))))))
        · refine aw_aload_n rfl rfl ?_
          refine aw_iload_n rfl rfl ?_
          refine aw_iconst (v := 1) rfl (by decide) ?_
          refine aw_iadd rfl ?_
          refine aw_iload_n rfl rfl ?_
          refine aw_iconst (v := 1) rfl (by decide) ?_
          refine aw_iload rfl rfl ?_
          refine aw_ishl rfl ?_
          refine aw_ior rfl ?_
          refine aw_iload_n rfl rfl ?_
          refine aw_aload_n rfl rfl ?_
          refine pg_39_43 rfl kl_X12_87 ?_
          refine aw_bipush (v := 10) rfl (by decide) ?_
          refine aw_iload rfl rfl ?_
          refine aw_imul rfl ?_
          refine aw_aload_n rfl rfl ?_
          refine pg_39_42 rfl kl_X12_84 ?_
          refine aw_iload_n rfl rfl ?_
          refine pl_58 rfl rfl (by omega) ?_
          refine aw_iadd rfl ?_
          refine pl_59 rfl (show (10 : Int32) * nI t + dS s y 58 k = nI (10 * t + su k) from by (rw [show dS s y 58 k = nI (su k) from hse, show (10 : Int32) * nI t = nI (10 * t) from pk_mul 10 t]; exact nI_add _ _)) (by omega) ?_
          refine aw_iadd rfl ?_
          refine aw_bipush (v := 10) rfl (by decide) ?_
          refine aw_iload rfl rfl ?_
          refine aw_imul rfl ?_
          refine aw_iload rfl rfl ?_
          refine aw_iadd rfl ?_
          refine aw_vV (q0 := 39) (ci := 12) rfl cw_X12_441 rfl rfl rfl ((show aw_V l g mi_X12_goDealt f [.ref (g_ad g 39), .int (nI k + 1), .int (met ||| bt t), .int (lost + s 59 (10 * t + su k)), .int (10 * row + nI t)] (hp g (dS s y) n) (hp g (dS s (gd T su me f (met ||| bt t) (lost + me t (su (T - (f + 1)))) (10 * row + nI t) y)) n) from by (rw [hkT, ← hm, nI_1]; exact ih (k + 1) (by omega) _ _ _ _))) rfl rfl (Nat.le_of_ble_eq_true rfl) (Nat.le_refl _) (by show 8 + (6 + 11) + 100 * f ≤ 100 * (f + 1); omega) (Nat.le_refl _) (Nat.le_refl _) ?_
          refine aw_inc1 rfl rfl (by decide) ?_
          refine aw_goto (tgt := 40) rfl (by decide) ?_
          first
          | (have q := bB_n0.mp h55
             exact aw_wk (ihd (t + 1) y (by omega) (by rw [if_pos q] at hX; exact hX)) (And.intro rfl (And.intro rfl (And.intro rfl (And.intro rfl (And.intro rfl (And.intro (congrArg (fun x => some (Value.int x)) (nI_1 t)) True.intro)))))))
          | (have q := bB_0.mp h55
             exact aw_wk (ihd (t + 1) _ (by omega) (by rw [if_neg (by rw [q]; exact Bool.false_ne_true)] at hX; exact hX)) (And.intro rfl (And.intro rfl (And.intro rfl (And.intro rfl (And.intro rfl (And.intro (congrArg (fun x => some (Value.int x)) (nI_1 t)) True.intro)))))))
    refine aw_V_of mo_X12_goDealt (by decide) (Nat.le_of_ble_eq_true rfl) ?_
    refine aw_aload_n rfl rfl ?_
    refine pg_39_45 rfl kl_X12_435 ?_
    refine aw_iconst (v := -1) rfl (by decide) ?_
    refine aw_icmp_eq (tgt := 17) rfl (by decide) (fun h5 => ?_) (fun h5 => ?_)
    · refine aw_iload_n rfl rfl ?_
      refine aw_aload_n rfl rfl ?_
      refine pg_39_26 rfl kl_X12_291 ?_
      refine aw_icmp_ne (tgt := 37) rfl (by decide) (fun h22 => ?_) (fun h22 => absurd h22 (fun e => absurd ((nI_eq (by omega) (by omega)).mp (e.trans (show dS s z 39 26 = nI T from hTe))) (by omega)))
      refine aw_iconst (v := 0) rfl (by decide) ?_
      refine aw_istore rfl (by decide) ?_
      rw [show gd T su me (f + 1) met lost row z = fd (fun t z => if hs met (nI t) = true then z else gd T su me f (met ||| bt t) (lost + me t (su (T - (f + 1)))) (10 * row + nI t) z) 0 T z from by (simp only [gd]; rw [if_neg (by unfold gdP; first | (rw [decide_eq_true (show z.2 = -1 from h5)]; exact Bool.false_ne_true) | (rw [decide_eq_false (Int32.not_le.mpr (show lost < z.2 from h13)), Bool.and_false]; exact Bool.false_ne_true))])]
      exact aw_wk (loop _ T 0 z (by omega) rfl) (And.intro rfl (And.intro rfl (And.intro rfl (And.intro rfl (And.intro rfl (And.intro rfl True.intro))))))
    · refine aw_iload_n rfl rfl ?_
      refine aw_aload_n rfl rfl ?_
      refine pg_39_45 rfl kl_X12_435 ?_
      refine aw_icmp_lt (tgt := 17) rfl (by decide) (fun h13 => ?_) (fun h13 => ?_)
      · refine aw_iload_n rfl rfl ?_
        refine aw_aload_n rfl rfl ?_
        refine pg_39_26 rfl kl_X12_291 ?_
        refine aw_icmp_ne (tgt := 37) rfl (by decide) (fun h22 => ?_) (fun h22 => absurd h22 (fun e => absurd ((nI_eq (by omega) (by omega)).mp (e.trans (show dS s z 39 26 = nI T from hTe))) (by omega)))
        refine aw_iconst (v := 0) rfl (by decide) ?_
        refine aw_istore rfl (by decide) ?_
        rw [show gd T su me (f + 1) met lost row z = fd (fun t z => if hs met (nI t) = true then z else gd T su me f (met ||| bt t) (lost + me t (su (T - (f + 1)))) (10 * row + nI t) z) 0 T z from by (simp only [gd]; rw [if_neg (by unfold gdP; first | (rw [decide_eq_true (show z.2 = -1 from h5)]; exact Bool.false_ne_true) | (rw [decide_eq_false (Int32.not_le.mpr (show lost < z.2 from h13)), Bool.and_false]; exact Bool.false_ne_true))])]
        exact aw_wk (loop _ T 0 z (by omega) rfl) (And.intro rfl (And.intro rfl (And.intro rfl (And.intro rfl (And.intro rfl (And.intro rfl True.intro))))))
      · exact aw_fv rfl rfl (by rw [show gd T su me (f + 1) met lost row z = z from by (simp only [gd]; rw [if_pos (by unfold gdP; rw [decide_eq_false (show ¬ z.2 = -1 from h5), decide_eq_true (Int32.not_lt.mp (show ¬ lost < z.2 from h13))]; rfl)])])
