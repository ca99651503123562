/-! the reference: a whole kingdom -/
set_option maxRecDepth 4000 in
theorem c_m_isWhole {l : Launch} {g : ag_G} {s : am_S} {n : am_N} {p w : Nat} {K : Kd} (hK : KR s K) : aw_F l g mi_X12_isWhole 0 [.ref (g_ad g 39)] (hp g (pst s p w (-1)) n) (.int (bB (whK K))) (hp g (pst s p w (-1)) n) := by
  obtain ⟨k1, k2, k3, k4, k5, k6, k7, k8⟩ := hK
  unfold whK
  have loop : ∀ (d t : Nat) (X : Option Nat), t + d = K.2.1 → fs (fun t => !decide (K.2.2.2.2.1 t 0 < nI K.2.2.1)) t d = X → aw_W l g mi_X12_isWhole (aw_rm 0 0 0) (aw_Z g (fun r z => r = some (.int (bB (X.isNone && (decide (0 < K.2.1) && decide (0 < K.2.2.1))))) ∧ z = hp g (pst s p w (-1)) n) 0 0) 0 0 (hp g (pst s p w (-1)) n) 2 [some (.ref (g_ad g 39)), some (.int (nI t))] [] := by
    intro d
    induction d with
    | zero =>
      intro t X ht hX
      simp only [fs] at hX
      subst hX
      refine aw_iload_n rfl rfl ?_
      refine aw_aload_n rfl rfl ?_
      refine pg_39_28 rfl kl_X12_242 ?_
      refine aw_icmp_ge (tgt := 33) rfl (by decide) (fun h7 => ?_) (fun h7 => absurd (by show s 39 28 ≤ nI t; rw [k2]; exact nI_le (by omega) (by omega)) h7)
      refine aw_aload_n rfl rfl ?_
      refine pg_39_28 rfl kl_X12_242 ?_
      refine aw_if_le (tgt := 51) rfl (by decide) (fun h37 => ?_) (fun h37 => ?_)
      · refine aw_iconst (v := 0) rfl (by decide) ?_
        first
        | (have z : s 39 28 ≤ 0 := h37
           rw [k2] at z
           have z2 : ¬ 0 < K.2.1 := fun e => absurd (nI_lt (a := 0) (b := K.2.1) e (by omega)) (Int32.not_lt.mpr z)
           exact aw_fz rfl rfl (Or.inl rfl) (by rw [decide_eq_false z2]; rfl) rfl)
        | (have z : s 39 29 ≤ 0 := h44
           rw [k3] at z
           have z2 : ¬ 0 < K.2.2.1 := fun e => absurd (nI_lt (a := 0) (b := K.2.2.1) e (by omega)) (Int32.not_lt.mpr z)
           exact aw_fz rfl rfl (Or.inl rfl) (by rw [decide_eq_false z2, Bool.and_false]; rfl) rfl)
        | (have z : ¬ s 39 28 ≤ 0 := h37
           have y : ¬ s 39 29 ≤ 0 := h44
           rw [k2] at z
           rw [k3] at y
           have z2 : 0 < K.2.1 := by (by_cases e : 0 < K.2.1; exact e; exact absurd (nI_le (a := K.2.1) (b := 0) (by omega) (by decide)) z)
           have y2 : 0 < K.2.2.1 := by (by_cases e : 0 < K.2.2.1; exact e; exact absurd (nI_le (a := K.2.2.1) (b := 0) (by omega) (by decide)) y)
           exact aw_fz rfl rfl (Or.inr rfl) (by rw [decide_eq_true z2, decide_eq_true y2]; rfl) rfl)
      · refine aw_aload_n rfl rfl ?_
        refine pg_39_29 rfl kl_X12_245 ?_
        refine aw_if_le (tgt := 51) rfl (by decide) (fun h44 => ?_) (fun h44 => ?_)
        · refine aw_iconst (v := 0) rfl (by decide) ?_
          first
          | (have z : s 39 28 ≤ 0 := h37
             rw [k2] at z
             have z2 : ¬ 0 < K.2.1 := fun e => absurd (nI_lt (a := 0) (b := K.2.1) e (by omega)) (Int32.not_lt.mpr z)
             exact aw_fz rfl rfl (Or.inl rfl) (by rw [decide_eq_false z2]; rfl) rfl)
          | (have z : s 39 29 ≤ 0 := h44
             rw [k3] at z
             have z2 : ¬ 0 < K.2.2.1 := fun e => absurd (nI_lt (a := 0) (b := K.2.2.1) e (by omega)) (Int32.not_lt.mpr z)
             exact aw_fz rfl rfl (Or.inl rfl) (by rw [decide_eq_false z2, Bool.and_false]; rfl) rfl)
          | (have z : ¬ s 39 28 ≤ 0 := h37
             have y : ¬ s 39 29 ≤ 0 := h44
             rw [k2] at z
             rw [k3] at y
             have z2 : 0 < K.2.1 := by (by_cases e : 0 < K.2.1; exact e; exact absurd (nI_le (a := K.2.1) (b := 0) (by omega) (by decide)) z)
             have y2 : 0 < K.2.2.1 := by (by_cases e : 0 < K.2.2.1; exact e; exact absurd (nI_le (a := K.2.2.1) (b := 0) (by omega) (by decide)) y)
             exact aw_fz rfl rfl (Or.inr rfl) (by rw [decide_eq_true z2, decide_eq_true y2]; rfl) rfl)
        · refine aw_iconst (v := 1) rfl (by decide) ?_
          refine aw_goto (tgt := 52) rfl (by decide) ?_
          first
          | (have z : s 39 28 ≤ 0 := h37
             rw [k2] at z
             have z2 : ¬ 0 < K.2.1 := fun e => absurd (nI_lt (a := 0) (b := K.2.1) e (by omega)) (Int32.not_lt.mpr z)
             exact aw_fz rfl rfl (Or.inl rfl) (by rw [decide_eq_false z2]; rfl) rfl)
          | (have z : s 39 29 ≤ 0 := h44
             rw [k3] at z
             have z2 : ¬ 0 < K.2.2.1 := fun e => absurd (nI_lt (a := 0) (b := K.2.2.1) e (by omega)) (Int32.not_lt.mpr z)
             exact aw_fz rfl rfl (Or.inl rfl) (by rw [decide_eq_false z2, Bool.and_false]; rfl) rfl)
          | (have z : ¬ s 39 28 ≤ 0 := h37
             have y : ¬ s 39 29 ≤ 0 := h44
             rw [k2] at z
             rw [k3] at y
             have z2 : 0 < K.2.1 := by (by_cases e : 0 < K.2.1; exact e; exact absurd (nI_le (a := K.2.1) (b := 0) (by omega) (by decide)) z)
             have y2 : 0 < K.2.2.1 := by (by_cases e : 0 < K.2.2.1; exact e; exact absurd (nI_le (a := K.2.2.1) (b := 0) (by omega) (by decide)) y)
             exact aw_fz rfl rfl (Or.inr rfl) (by rw [decide_eq_true z2, decide_eq_true y2]; rfl) rfl)
    | succ d ih =>
      intro t X ht hX
      have ht7 : s 47 (5 * t) = K.2.2.2.2.1 t 0 := k7 t (by omega) 0 (by decide)
      simp only [fs] at hX
      refine aw_iload_n rfl rfl ?_
      refine aw_aload_n rfl rfl ?_
      refine pg_39_28 rfl kl_X12_242 ?_
      refine aw_icmp_ge (tgt := 33) rfl (by decide) (fun h7 => absurd h7 (by show ¬ s 39 28 ≤ nI t; rw [k2]; exact nI_ge (by omega) (by omega))) (fun h7 => ?_)
      refine aw_aload_n rfl rfl ?_
      refine pg_39_21 rfl kl_X12_46 ?_
      refine aw_iconst (v := 5) rfl (by decide) ?_
      refine aw_iload_n rfl rfl ?_
      refine aw_imul rfl ?_
      refine pl_47 rfl (show (5 : Int32) * nI t = nI (5 * t) from pk_mul 5 t) (by omega) ?_
      refine aw_aload_n rfl rfl ?_
      refine pg_39_29 rfl kl_X12_245 ?_
      refine aw_icmp_lt (tgt := 27) rfl (by decide) (fun h22 => ?_) (fun h22 => ?_)
      · refine aw_inc1 rfl rfl (by decide) ?_
        refine aw_goto (tgt := 2) rfl (by decide) ?_
        exact aw_wk (ih (t + 1) X (by omega) (by rw [if_neg (by rw [decide_eq_true (show K.2.2.2.2.1 t 0 < nI K.2.2.1 from by (rw [← ht7, ← k3]; exact h22))]; exact Bool.false_ne_true)] at hX; exact hX)) (And.intro rfl (And.intro (congrArg (fun x => some (Value.int x)) (nI_1 t)) True.intro))
      · refine aw_iconst (v := 0) rfl (by decide) ?_
        exact aw_fz rfl rfl (Or.inl rfl) (by rw [← hX, if_pos (by rw [decide_eq_false (show ¬ K.2.2.2.2.1 t 0 < nI K.2.2.1 from by (rw [← ht7, ← k3]; exact h22))]; rfl)]; rfl) rfl
  refine aw_F_of mo_X12_isWhole (by decide) (Nat.le_of_ble_eq_true rfl) ?_
  refine aw_iconst (v := 0) rfl (by decide) ?_
  refine aw_istore_n rfl (by decide) ?_
  exact aw_wk (loop K.2.1 0 _ (by omega) rfl) (And.intro rfl (And.intro rfl True.intro))
/-- what reading a text changes -/
def skT : Nat → Nat → Bool := fun k j => skG k j || skK k j
theorem eo_GT {s s' : am_S} (h : eo skG s s') : eo skT s s' := fun k j e => h k j (by unfold skT at e; exact (Bool.or_eq_false_iff.mp e).1)
theorem eo_KT {s s' : am_S} (h : eo skK s s') : eo skT s s' := fun k j e => h k j (by unfold skT at e; exact (Bool.or_eq_false_iff.mp e).2)
theorem eo_pstG {s s1 : am_S} {p w : Nat} {f : Int32} (h : eo skT s s1) : eo skT s (pst s1 p w f) := eo_upI rfl (eo_upI rfl (eo_upI rfl h))
theorem KR_pst {s : am_S} {p w : Nat} {f : Int32} {K : Kd} (h : KR s K) : KR (pst s p w f) K := h
def PQ (g : ag_G) (s : am_S) (n : am_N) (r : Except Nat Kd) : Option Value → va_W → Prop := fun o y => o = none ∧ ∃ s', y = hp g s' n ∧ eo skT s s' ∧ (match r with
  | .ok K => s' 39 11 = -1 ∧ KR s' K
  | .error f => s' 39 11 = nI f)
theorem aw_pR {l : Launch} {g : ag_G} {M N : ag_M} {R : Room} {Z : ag_Z} {pc index d k q0 ci b w : Nat} {L : List (Option Value)} {s : am_S} {n : am_N} {ws : va_W} {rr : Except Nat (Nat × Kd)} {C : vw_C} {fs As rest st0 : List Value}
    (hd : m_at M pc = some (.invokevirtual index, 3)) (hw : aw_cV (m_y M).cls index N k) (hc : aw_cl[ci]? = some C) (hcn : C.1 = (m_y N).cls) (he : ws[q0]? = some (b, .inr (ci, fs)))
    (hM : aw_M l g N d 0 0 (.ref b :: As) ws (PR g s n w rr)) (hk : As.length = k) (hst : st0 = As.reverse ++ .ref b :: rest) (hrest : (rest.map fun v => v.category).sum ≤ 8) (hf : d + 1 ≤ R.frames) (hlo : 8 + (m_n N + 11) + 100 * d ≤ R.locals) (h1 : 0 ≤ R.cells) (h2 : 0 ≤ R.slots)
    (kk : ∀ z s', rr = .ok z → KR s' z.2 → eo skK s s' → aw_W l g M R Z 0 0 (hp g (pst s' z.1 w (-1)) n) (pc + 3) L rest) (kn : ∀ e s' p, rr = .error e → eo skK s s' → aw_W l g M R Z 0 0 (hp g (pst s' p w (nI e)) n) (pc + 3) L rest) : aw_W l g M R Z 0 0 ws pc L st0 :=
  aw_callV hd hw hc hcn he hM hk hst hrest hf hlo h1 h2 (by
    cases rr with
    | ok z => rintro r y ⟨rfl, s', rfl, a1, a2⟩; exact kk z s' rfl a1 a2
    | error f => rintro r y ⟨rfl, s', p, rfl, a2⟩; exact kn f s' p rfl a2)
def kt0 (s : am_S) (E : Nat) : am_S := upR (up (up (up (up (up (up (up s 39 8 (nI 0)) 39 9 (nI E)) 39 10 0) 39 11 (-1)) 39 28 0) 39 29 0) 39 31 0) 45 (usF 115 0 3 (s 45))
theorem eo_kt0 {s : am_S} {E : Nat} : eo skT s (kt0 s E) := eo_upRK (fun _ => rfl) (eo_upI rfl (eo_upI rfl (eo_upI rfl (eo_upI rfl (eo_upI rfl (eo_upI rfl (eo_upI rfl eo_rf)))))))
theorem KR_kt0 {s : am_S} {E : Nat} : KR (kt0 s E) kg0 := by
  refine ⟨rfl, rfl, rfl, by decide, by decide, fun i hi => ?_, fun t ht => absurd ht (Nat.not_lt_zero _), fun t ht => absurd ht (Nat.not_lt_zero _)⟩
  show usF 115 0 3 (s 45) i = usV 115 i
  rw [usF_wr]
  unfold wrV
  rw [if_pos (by omega)]
  rfl
set_option maxRecDepth 4000 in
theorem c_m_readKingdom {l : Launch} {g : ag_G} {s : am_S} {n : am_N} {E : Nat} {tx : Nat → Nat} (hx : aw_hx g) (hE : E ≤ 240) (hEe : s 39 6 = nI E) (htx : ∀ i, i < E → tx i < 256 ∧ s 40 i = n8 (tx i)) : aw_M l g mi_X12_readKingdom 7 0 0 [.ref (g_ad g 39)] (hp g s n) (PQ g s (upT n 40) (kgR tx E)) := by
  obtain ⟨w, hw⟩ := nI_ex (s 39 12)
  have hT0 : TX (kt0 s E) (upT n 40) 40 0 E tx := ⟨rfl, rfl, rfl, hE, Or.inl ⟨rfl, by omega⟩, fun i hi => by rw [Nat.zero_add]; exact htx i hi⟩
  have hps : pst (kt0 s E) 0 w (-1) = kt0 s E := pst_rf rfl hw rfl
  have loop : ∀ (d p : Nat) (s1 : am_S) (K : Kd) (R : Except Nat Kd), E - p < d → p ≤ E → TX s1 (upT n 40) 40 0 E tx → KR s1 K → eo skT s s1 → kgL tx E d p K = R → aw_W l g mi_X12_readKingdom (aw_rm 7 0 0) (aw_Z g (PQ g s (upT n 40) R) 0 0) 0 0 (hp g (pst s1 p w (-1)) (upT n 40)) 55 [some (.ref (g_ad g 39)), some (.int 1)] [] := by
    intro d
    induction d with
    | zero => intro p s1 K R h; exact absurd h (Nat.not_lt_zero _)
    | succ d ih =>
      intro p s1 K R hd hpE hT hK he hR
      simp only [kgL] at hR
      have hb := kCl_b (tx := tx) (K := K) hpE ⟨hK.2.2.2.1, hK.2.2.2.2.1⟩
      refine aw_iload_n rfl rfl ?_
      refine aw_if_eq (tgt := 111) rfl (by decide) (fun h56 => absurd h56 (by decide)) (fun h56 => ?_)
      refine aw_aload_n rfl rfl ?_
      refine pg_39_11 rfl kl_X12_128 ?_
      refine aw_iconst (v := -1) rfl (by decide) ?_
      refine aw_icmp_ne (tgt := 111) rfl (by decide) (fun h64 => absurd (rfl) h64) (fun h64 => ?_)
      refine aw_aload_n rfl rfl ?_
      refine aw_pR (q0 := 39) (ci := 12) rfl cw_X12_258 rfl rfl rfl (c_m_readClause hx hT hpE hK) rfl rfl (Nat.le_of_ble_eq_true rfl) (by decide) (by decide) (by decide) (by decide) (fun z s2 hz hK2 e2 => ?_) (fun fe s2 p2 hz e2 => ?_)
      · rw [hz] at hb hR
        have hz1 : z.1 ≤ E := hb.2.1
        have hz0 : p < z.1 := hb.1
        have hT2 := TX_K hT e2
        have hk := skw_b (tx := tx) hz1
        have he2 := eo_tr he (eo_KT e2)
        by_cases h59 : cst tx E z.1 = 59
        · have hnx := q_lt h59 (by decide)
          simp only at hR
          rw [if_pos h59] at hR
          refine aw_aload_n rfl rfl ?_
          refine pg_39_11 rfl kl_X12_128 ?_
          refine aw_iconst (v := -1) rfl (by decide) ?_
          refine aw_icmp_ne (tgt := 92) rfl (by decide) (fun h76 => absurd (rfl) h76) (fun h76 => ?_)
          refine aw_aload_n rfl rfl ?_
          refine aw_iV (q0 := 39) (ci := 12) rfl cw_X12_138 rfl rfl rfl (c_m_lookC hT2 hz1) rfl rfl (Nat.le_of_ble_eq_true rfl) (by decide) (by decide) (by decide) (by decide) ?_
          refine aw_bipush (v := 59) rfl (by decide) ?_
          refine aw_icmp_ne (tgt := 92) rfl (by decide) (fun h85 => absurd (h59) h85) (fun h85 => ?_)
          refine aw_iconst (v := 1) rfl (by decide) ?_
          refine aw_goto (tgt := 93) rfl (by decide) ?_
          refine aw_istore_n rfl (by decide) ?_
          refine aw_iload_n rfl rfl ?_
          refine aw_if_eq (tgt := 55) rfl (by decide) (fun h95 => absurd h95 (by decide)) (fun h95 => ?_)
          refine aw_aload_n rfl rfl ?_
          refine aw_dup rfl rfl ?_
          refine pg_39_10 rfl kl_X12_119 ?_
          refine aw_iconst (v := 1) rfl (by decide) ?_
          refine aw_iadd rfl ?_
          refine pp_39_10 rfl kl_X12_119 ?_
          refine aw_eqs (ws' := hp g (pst s2 (skw tx E z.1 + 1) w (-1)) (upT n 40)) ?_ rfl rfl (congrArg (fun z => hp g z (upT n 40)) pst_in)
          refine aw_goto (tgt := 55) rfl (by decide) ?_
          exact aw_wk (ih (skw tx E z.1 + 1) s2 z.2 R (by omega) hnx hT2 hK2 he2 hR) (And.intro rfl (And.intro rfl True.intro))
        · simp only at hR
          rw [if_neg h59] at hR
          by_cases h1 : cst tx E z.1 = -1
          · cases hwh : whK z.2 with
            | true =>
              rw [if_pos ⟨h1, hwh⟩] at hR
              subst hR
              refine aw_aload_n rfl rfl ?_
              refine pg_39_11 rfl kl_X12_128 ?_
              refine aw_iconst (v := -1) rfl (by decide) ?_
              refine aw_icmp_ne (tgt := 92) rfl (by decide) (fun h76 => absurd (rfl) h76) (fun h76 => ?_)
              refine aw_aload_n rfl rfl ?_
              refine aw_iV (q0 := 39) (ci := 12) rfl cw_X12_138 rfl rfl rfl (c_m_lookC hT2 hz1) rfl rfl (Nat.le_of_ble_eq_true rfl) (by decide) (by decide) (by decide) (by decide) ?_
              refine aw_bipush (v := 59) rfl (by decide) ?_
              refine aw_icmp_ne (tgt := 92) rfl (by decide) (fun h85 => ?_) (fun h85 => absurd h85 (h59))
              refine aw_iconst (v := 0) rfl (by decide) ?_
              refine aw_istore_n rfl (by decide) ?_
              refine aw_iload_n rfl rfl ?_
              refine aw_if_eq (tgt := 55) rfl (by decide) (fun h95 => ?_) (fun h95 => absurd h95 (by decide))
              refine aw_iload_n rfl rfl ?_
              refine aw_if_eq (tgt := 111) rfl (by decide) (fun h56 => ?_) (fun h56 => absurd h56 (by decide))
              refine aw_aload_n rfl rfl ?_
              refine pg_39_11 rfl kl_X12_128 ?_
              refine aw_iconst (v := -1) rfl (by decide) ?_
              refine aw_icmp_ne (tgt := 139) rfl (by decide) (fun h116 => absurd (rfl) h116) (fun h116 => ?_)
              refine aw_aload_n rfl rfl ?_
              refine aw_iV (q0 := 39) (ci := 12) rfl cw_X12_138 rfl rfl rfl (c_m_lookI hT2 hz1) rfl rfl (Nat.le_of_ble_eq_true rfl) (by decide) (by decide) (by decide) (by decide) ?_
              refine aw_iconst (v := -1) rfl (by decide) ?_
              refine aw_icmp_ne (tgt := 134) rfl (by decide) (fun h124 => absurd (h1) h124) (fun h124 => ?_)
              refine aw_aload_n rfl rfl ?_
              refine aw_iV (q0 := 39) (ci := 12) rfl cw_X12_261 rfl rfl rfl (c_m_isWhole hK2) rfl rfl (Nat.le_of_ble_eq_true rfl) (by decide) (by decide) (by decide) (by decide) ?_
              refine aw_if_ne (tgt := 139) rfl (by decide) (fun h131 => ?_) (fun h131 => absurd h131 (by rw [hwh]; decide))
              exact aw_vret rfl rfl ⟨rfl, _, rfl, eo_pstG he2, rfl, KR_pst hK2⟩
            | false =>
              rw [if_neg (fun y => absurd (hwh.symm.trans y.2) (by decide))] at hR
              subst hR
              refine aw_aload_n rfl rfl ?_
              refine pg_39_11 rfl kl_X12_128 ?_
              refine aw_iconst (v := -1) rfl (by decide) ?_
              refine aw_icmp_ne (tgt := 92) rfl (by decide) (fun h76 => absurd (rfl) h76) (fun h76 => ?_)
              refine aw_aload_n rfl rfl ?_
              refine aw_iV (q0 := 39) (ci := 12) rfl cw_X12_138 rfl rfl rfl (c_m_lookC hT2 hz1) rfl rfl (Nat.le_of_ble_eq_true rfl) (by decide) (by decide) (by decide) (by decide) ?_
              refine aw_bipush (v := 59) rfl (by decide) ?_
              refine aw_icmp_ne (tgt := 92) rfl (by decide) (fun h85 => ?_) (fun h85 => absurd h85 (h59))
              refine aw_iconst (v := 0) rfl (by decide) ?_
              refine aw_istore_n rfl (by decide) ?_
              refine aw_iload_n rfl rfl ?_
              refine aw_if_eq (tgt := 55) rfl (by decide) (fun h95 => ?_) (fun h95 => absurd h95 (by decide))
              refine aw_iload_n rfl rfl ?_
              refine aw_if_eq (tgt := 111) rfl (by decide) (fun h56 => ?_) (fun h56 => absurd h56 (by decide))
              refine aw_aload_n rfl rfl ?_
              refine pg_39_11 rfl kl_X12_128 ?_
              refine aw_iconst (v := -1) rfl (by decide) ?_
              refine aw_icmp_ne (tgt := 139) rfl (by decide) (fun h116 => absurd (rfl) h116) (fun h116 => ?_)
              refine aw_aload_n rfl rfl ?_
              refine aw_iV (q0 := 39) (ci := 12) rfl cw_X12_138 rfl rfl rfl (c_m_lookI hT2 hz1) rfl rfl (Nat.le_of_ble_eq_true rfl) (by decide) (by decide) (by decide) (by decide) ?_
              refine aw_iconst (v := -1) rfl (by decide) ?_
              refine aw_icmp_ne (tgt := 134) rfl (by decide) (fun h124 => absurd (h1) h124) (fun h124 => ?_)
              refine aw_aload_n rfl rfl ?_
              refine aw_iV (q0 := 39) (ci := 12) rfl cw_X12_261 rfl rfl rfl (c_m_isWhole hK2) rfl rfl (Nat.le_of_ble_eq_true rfl) (by decide) (by decide) (by decide) (by decide) ?_
              refine aw_if_ne (tgt := 139) rfl (by decide) (fun h131 => absurd (by rw [hwh]; rfl) h131) (fun h131 => ?_)
              refine aw_aload_n rfl rfl ?_
              refine aw_iV (q0 := 39) (ci := 12) rfl cw_X12_134 rfl rfl rfl (c_m_fails) rfl rfl (Nat.le_of_ble_eq_true rfl) (by decide) (by decide) (by decide) (by decide) ?_
              refine aw_pop rfl rfl ?_
              exact aw_vret rfl rfl ⟨rfl, _, rfl, eo_pstG he2, rfl⟩
          · rw [if_neg (fun y => h1 y.1)] at hR
            subst hR
            refine aw_aload_n rfl rfl ?_
            refine pg_39_11 rfl kl_X12_128 ?_
            refine aw_iconst (v := -1) rfl (by decide) ?_
            refine aw_icmp_ne (tgt := 92) rfl (by decide) (fun h76 => absurd (rfl) h76) (fun h76 => ?_)
            refine aw_aload_n rfl rfl ?_
            refine aw_iV (q0 := 39) (ci := 12) rfl cw_X12_138 rfl rfl rfl (c_m_lookC hT2 hz1) rfl rfl (Nat.le_of_ble_eq_true rfl) (by decide) (by decide) (by decide) (by decide) ?_
            refine aw_bipush (v := 59) rfl (by decide) ?_
            refine aw_icmp_ne (tgt := 92) rfl (by decide) (fun h85 => ?_) (fun h85 => absurd h85 (h59))
            refine aw_iconst (v := 0) rfl (by decide) ?_
            refine aw_istore_n rfl (by decide) ?_
            refine aw_iload_n rfl rfl ?_
            refine aw_if_eq (tgt := 55) rfl (by decide) (fun h95 => ?_) (fun h95 => absurd h95 (by decide))
            refine aw_iload_n rfl rfl ?_
            refine aw_if_eq (tgt := 111) rfl (by decide) (fun h56 => ?_) (fun h56 => absurd h56 (by decide))
            refine aw_aload_n rfl rfl ?_
            refine pg_39_11 rfl kl_X12_128 ?_
            refine aw_iconst (v := -1) rfl (by decide) ?_
            refine aw_icmp_ne (tgt := 139) rfl (by decide) (fun h116 => absurd (rfl) h116) (fun h116 => ?_)
            refine aw_aload_n rfl rfl ?_
            refine aw_iV (q0 := 39) (ci := 12) rfl cw_X12_138 rfl rfl rfl (c_m_lookI hT2 hz1) rfl rfl (Nat.le_of_ble_eq_true rfl) (by decide) (by decide) (by decide) (by decide) ?_
            refine aw_iconst (v := -1) rfl (by decide) ?_
            refine aw_icmp_ne (tgt := 134) rfl (by decide) (fun h124 => ?_) (fun h124 => absurd h124 (h1))
            refine aw_aload_n rfl rfl ?_
            refine aw_iV (q0 := 39) (ci := 12) rfl cw_X12_134 rfl rfl rfl (c_m_fails) rfl rfl (Nat.le_of_ble_eq_true rfl) (by decide) (by decide) (by decide) (by decide) ?_
            refine aw_pop rfl rfl ?_
            exact aw_vret rfl rfl ⟨rfl, _, rfl, eo_pstG he2, rfl⟩
      · rw [hz] at hb hR
        have hfe : fe ≤ E := hb
        have hf24 : ¬ nI fe = (-1 : Int32) := nI_nm1 (by omega)
        have he2 := eo_tr he (eo_KT e2)
        subst hR
        refine aw_aload_n rfl rfl ?_
        refine pg_39_11 rfl kl_X12_128 ?_
        refine aw_iconst (v := -1) rfl (by decide) ?_
        refine aw_icmp_ne (tgt := 92) rfl (by decide) (fun h76 => ?_) (fun h76 => absurd h76 (hf24))
        refine aw_iconst (v := 0) rfl (by decide) ?_
        refine aw_istore_n rfl (by decide) ?_
        refine aw_iload_n rfl rfl ?_
        refine aw_if_eq (tgt := 55) rfl (by decide) (fun h95 => ?_) (fun h95 => absurd h95 (by decide))
        refine aw_iload_n rfl rfl ?_
        refine aw_if_eq (tgt := 111) rfl (by decide) (fun h56 => ?_) (fun h56 => absurd h56 (by decide))
        refine aw_aload_n rfl rfl ?_
        refine pg_39_11 rfl kl_X12_128 ?_
        refine aw_iconst (v := -1) rfl (by decide) ?_
        refine aw_icmp_ne (tgt := 139) rfl (by decide) (fun h116 => ?_) (fun h116 => absurd h116 (hf24))
        exact aw_vret rfl rfl ⟨rfl, _, rfl, eo_pstG he2, rfl⟩
  have z0 := loop (E + 1) 0 (kt0 s E) kg0 _ (by omega) (Nat.zero_le _) hT0 KR_kt0 eo_kt0 rfl
  rw [hps] at z0
  have pre : ∀ (d q : Nat), q + d = 3 → aw_W l g mi_X12_readKingdom (aw_rm 7 0 0) (aw_Z g (PQ g s (upT n 40) (kgR tx E)) 0 0) 0 0 (hp g (upR (up (up (up (up (up (up (up s 39 8 (nI 0)) 39 9 (nI E)) 39 10 0) 39 11 (-1)) 39 28 0) 39 29 0) 39 31 0) 45 (usF 115 0 q (s 45))) (upT n 40)) 30 [some (.ref (g_ad g 39)), some (.int (nI q))] [] := by
    intro d
    induction d with
    | zero =>
      intro q hq
      obtain rfl : q = 3 := by omega
      refine aw_iload_n rfl rfl ?_
      refine aw_iconst (v := 3) rfl (by decide) ?_
      refine aw_icmp_ge (tgt := 53) rfl (by decide) (fun h32 => ?_) (fun h32 => absurd (by decide) h32)
      refine aw_iconst (v := 1) rfl (by decide) ?_
      refine aw_istore_n rfl (by decide) ?_
      exact aw_wk z0 (And.intro rfl (And.intro rfl True.intro))
    | succ d ih =>
      intro q hq
      refine aw_iload_n rfl rfl ?_
      refine aw_iconst (v := 3) rfl (by decide) ?_
      refine aw_icmp_ge (tgt := 53) rfl (by decide) (fun h32 => absurd h32 (nI_ge (b := 3) (by omega) (by decide))) (fun h32 => ?_)
      refine aw_aload_n rfl rfl ?_
      refine pg_39_19 rfl kl_X12_40 ?_
      refine aw_iload_n rfl rfl ?_
      refine aw_bipush (v := 115) rfl (by decide) ?_
      refine aw_iload_n rfl rfl ?_
      refine aw_iS rfl cw_X12_221 (c_m_usual) rfl rfl (Nat.le_of_ble_eq_true rfl) (by decide) (by decide) (by decide) (by decide) ?_
      refine ps_45 rfl rfl (by omega) ?_
      refine aw_inc1 rfl rfl (by decide) ?_
      refine aw_goto (tgt := 30) rfl (by decide) ?_
      refine aw_wk (aw_eqs (ih (q + 1) (by omega)) rfl rfl (congrArg (fun z => hp g z (upT n 40)) ?_)) (And.intro rfl (And.intro (congrArg (fun x => some (Value.int x)) (nI_1 q)) True.intro))
      rw [upR_up, show usF 115 0 (q + 1) (s 45) = upd (usF 115 0 q (s 45)) q (usO 115 (nI q)) from by (unfold usF; rw [fd_snoc, Nat.zero_add, Nat.zero_add])]
  have p0 := pre 3 0 (by decide)
  rw [show usF 115 0 0 (s 45) = s 45 from rfl, show s 45 = (up (up (up (up (up (up (up s 39 8 (nI 0)) 39 9 (nI E)) 39 10 0) 39 11 (-1)) 39 28 0) 39 29 0) 39 31 0) 45 from rfl, upR_rf] at p0
  refine aw_M_of mo_X12_readKingdom (by decide) (Nat.le_of_ble_eq_true rfl) ?_
  refine aw_aload_n rfl rfl ?_
  refine aw_aload_n rfl rfl ?_
  refine pg_39_1 rfl kl_X12_9 ?_
  refine aw_iconst (v := 0) rfl (by decide) ?_
  refine aw_aload_n rfl rfl ?_
  refine pg_39_6 rfl kl_X12_109 ?_
  refine aw_vV (q0 := 39) (ci := 12) rfl cw_X12_207 rfl rfl rfl (show aw_V l g mi_X12_starts 0 [.ref (g_ad g 39), .ref (g_ad g 40), .int 0, .int (s 39 6)] (hp g s n) (hp g (up (up (up (up s 39 8 (nI 0)) 39 9 (nI E)) 39 10 0) 39 11 (-1)) (upT n 40)) from by (rw [hEe]; exact c_m_starts_40 (b := 0))) rfl rfl (Nat.le_of_ble_eq_true rfl) (by decide) (by decide) (by decide) (by decide) ?_
  refine aw_aload_n rfl rfl ?_
  refine aw_iconst (v := 0) rfl (by decide) ?_
  refine pp_39_28 rfl kl_X12_242 ?_
  refine aw_aload_n rfl rfl ?_
  refine aw_iconst (v := 0) rfl (by decide) ?_
  refine pp_39_29 rfl kl_X12_245 ?_
  refine aw_aload_n rfl rfl ?_
  refine aw_iconst (v := 0) rfl (by decide) ?_
  refine pp_39_31 rfl kl_X12_239 (Or.inl rfl) ?_
  refine aw_iconst (v := 0) rfl (by decide) ?_
  refine aw_istore_n rfl (by decide) ?_
  exact aw_wk p0 (And.intro rfl (And.intro rfl True.intro))
