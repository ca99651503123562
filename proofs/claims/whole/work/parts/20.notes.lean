/-- what is noted: N of them -/
def nb (s : am_S) (N : Nat) : Prop := s 32 4 = nI N ∧ N ≤ 10 ∧ ∀ i, i < N → ∃ j, j < 7 ∧ s 34 i = nI j
theorem nb_eo {s s' : am_S} {N : Nat} (h : nb s N) (e : eo skC s s') : nb s' N := by
  refine ⟨by rw [e 32 4 rfl]; exact h.1, h.2.1, fun i hi => ?_⟩
  obtain ⟨j, hj, q⟩ := h.2.2 i hi
  exact ⟨j, hj, by rw [e 34 i rfl]; exact q⟩
theorem nb_eF {s s' : am_S} {N : Nat} (h : nb s N) (e : eo skF s s') : nb s' N := by
  refine ⟨by rw [e 32 4 rfl]; exact h.1, h.2.1, fun i hi => ?_⟩
  obtain ⟨j, hj, q⟩ := h.2.2 i hi
  exact ⟨j, hj, by rw [e 34 i rfl]; exact q⟩
def wK (s : am_S) (gs r : Int32) (j : Nat) : Bool := decide (gs = 10 * nI j + r) || kn s r j
def aSi (s : am_S) (gs : Int32) (i : Nat) : Bool := !decide (bB (wK s gs (s 33 i) (cl (s 34 i))) = s 35 i)
def aS (s : am_S) (gs : Int32) (N : Nat) : Bool := (fs (aSi s gs) 0 N).isNone
theorem kn_eo {s s' : am_S} (e : eo skC s s') {r : Int32} {j : Nat} : kn s' r j = kn s r j := by unfold kn; rw [e 16 _ rfl]
theorem kn_eF {s s' : am_S} (e : eo skF s s') {r : Int32} {j : Nat} : kn s' r j = kn s r j := by unfold kn; rw [e 16 _ rfl]
theorem wK_eo {s s' : am_S} (e : eo skC s s') {gs r : Int32} {j : Nat} : wK s' gs r j = wK s gs r j := by unfold wK; rw [kn_eo e]
theorem wK_eF {s s' : am_S} (e : eo skF s s') {gs r : Int32} {j : Nat} : wK s' gs r j = wK s gs r j := by unfold wK; rw [kn_eF e]
theorem aSi_eo {s s' : am_S} (e : eo skC s s') {gs : Int32} : aSi s' gs = aSi s gs := by funext i; unfold aSi; rw [wK_eo e, e 33 i rfl, e 34 i rfl, e 35 i rfl]
theorem aSi_eF {s s' : am_S} (e : eo skF s s') {gs : Int32} : aSi s' gs = aSi s gs := by funext i; unfold aSi; rw [wK_eF e, e 33 i rfl, e 34 i rfl, e 35 i rfl]
theorem aS_eo {s s' : am_S} (e : eo skC s s') {gs : Int32} {N : Nat} : aS s' gs N = aS s gs N := by unfold aS; rw [aSi_eo e]
theorem aS_eF {s s' : am_S} (e : eo skF s s') {gs : Int32} {N : Nat} : aS s' gs N = aS s gs N := by unfold aS; rw [aSi_eF e]
def fI (s : am_S) (N t r : Nat) (L : List Int32) : List Int32 := if kn s (nI r) t = true then L else if aS s (10 * nI t + nI r) N = true then L ++ [10 * nI t + nI r] else L
def fO (s : am_S) (N Q t : Nat) (L : List Int32) : List Int32 := fd (fI s N t) 0 Q L
def fL (s : am_S) (N T Q : Nat) : List Int32 := if aS s 99 N = true then fd (fO s N Q) 0 T [] ++ [99] else fd (fO s N Q) 0 T []

set_option maxRecDepth 4000 in
theorem c_X7_wouldKnow {l : Launch} {g : ag_G} {s : am_S} {n : am_N} {gs r : Int32} {j : Nat} (hj : j < 7) : aw_F l g mi_X7_wouldKnow 1 [.ref (g_ad g 32), .int gs, .int r, .int (nI j)] (hp g s n) (.int (bB (wK s gs r j))) (hp g s n) := by
  refine aw_F_of mo_X7_wouldKnow (by decide) (Nat.le_of_ble_eq_true rfl) ?_
  refine aw_iload_n rfl rfl ?_
  refine aw_bipush (v := 10) rfl (by decide) ?_
  refine aw_iload_n rfl rfl ?_
  refine aw_imul rfl ?_
  refine aw_iload_n rfl rfl ?_
  refine aw_iadd rfl ?_
  refine aw_icmp_eq (tgt := 22) rfl (by decide) (fun h7 => ?_) (fun h7 => ?_)
  · refine aw_iconst (v := 1) rfl (by decide) ?_
    refine aw_goto (tgt := 27) rfl (by decide) ?_
    exact aw_fz rfl rfl (by first | exact Or.inl rfl | exact Or.inr rfl | exact bB_01) (by first | (simp [wK, h7, bB]; done) | (have z := bB_0.mp h19; simp [wK, h7, z, bB]; done) | (have z := bB_n0.mp h19; simp [wK, h7, z, bB]; done)) rfl
  · refine aw_aload_n rfl rfl ?_
    refine pg_32_0 rfl kl_X7_27 ?_
    refine aw_iload_n rfl rfl ?_
    refine aw_iload_n rfl rfl ?_
    refine aw_iV (q0 := 15) (ci := 8) rfl cw_X7_45 rfl rfl rfl (c_X8_knowsIt hj) rfl rfl (Nat.le_of_ble_eq_true rfl) (by decide) (by decide) (by decide) (by decide) ?_
    refine aw_if_eq (tgt := 26) rfl (by decide) (fun h19 => ?_) (fun h19 => ?_)
    · refine aw_iconst (v := 0) rfl (by decide) ?_
      exact aw_fz rfl rfl (by first | exact Or.inl rfl | exact Or.inr rfl | exact bB_01) (by first | (simp [wK, h7, bB]; done) | (have z := bB_0.mp h19; simp [wK, h7, z, bB]; done) | (have z := bB_n0.mp h19; simp [wK, h7, z, bB]; done)) rfl
    · refine aw_iconst (v := 1) rfl (by decide) ?_
      refine aw_goto (tgt := 27) rfl (by decide) ?_
      exact aw_fz rfl rfl (by first | exact Or.inl rfl | exact Or.inr rfl | exact bB_01) (by first | (simp [wK, h7, bB]; done) | (have z := bB_0.mp h19; simp [wK, h7, z, bB]; done) | (have z := bB_n0.mp h19; simp [wK, h7, z, bB]; done)) rfl
set_option maxRecDepth 4000 in
theorem c_X7_allIsSo {l : Launch} {g : ag_G} {s : am_S} {n : am_N} {gs : Int32} {N : Nat} (hn : nb s N) : aw_F l g mi_X7_allIsSo 2 [.ref (g_ad g 32), .int gs] (hp g s n) (.int (bB (aS s gs N))) (hp g s n) := by
  have hN := hn.2.1
  unfold aS
  generalize hXX : fs (aSi s gs) 0 N = X
  have loop : ∀ (d i : Nat) , i + d = N → fs (aSi s gs) i d = X → aw_W l g mi_X7_allIsSo (aw_rm 2 0 0) (aw_Z g (fun r w => r = some (.int (bB X.isNone)) ∧ w = hp g s n) 0 0) 0 0 (hp g s n) 2 [some (.ref (g_ad g 32)), some (.int gs), some (.int (nI i))] [] := by
    intro d
    induction d with
    | zero =>
      intro i hi hX
      refine aw_iload_n rfl rfl ?_
      refine aw_aload_n rfl rfl ?_
      refine pg_32_4 rfl kl_X7_31 ?_
      refine aw_icmp_ge (tgt := 44) rfl (by decide) (fun h7 => ?_) (fun h7 => absurd (by rw [hn.1]; exact nI_le (by omega) (by omega)) h7)
      refine aw_iconst (v := 1) rfl (by decide) ?_
      exact aw_fz rfl rfl (Or.inr rfl) (by rw [← hX]; rfl) rfl
    | succ d ih =>
      intro i hi hX
      refine aw_iload_n rfl rfl ?_
      refine aw_aload_n rfl rfl ?_
      refine pg_32_4 rfl kl_X7_31 ?_
      refine aw_icmp_ge (tgt := 44) rfl (by decide) (fun h7 => absurd h7 (by rw [hn.1]; exact nI_ge (by omega) (by omega))) (fun h7 => ?_)
      refine aw_aload_n rfl rfl ?_
      refine aw_iload_n rfl rfl ?_
      refine aw_aload_n rfl rfl ?_
      refine pg_32_1 rfl kl_X7_13 ?_
      refine aw_iload_n rfl rfl ?_
      refine pl_33 rfl rfl (by omega) ?_
      refine aw_aload_n rfl rfl ?_
      refine pg_32_2 rfl kl_X7_17 ?_
      refine aw_iload_n rfl rfl ?_
      refine pl_34 rfl rfl (by omega) ?_
      obtain ⟨j, hj, q⟩ := hn.2.2 i (by omega)
      have hc : cl (nI j) = j := cl_nI (by omega)
      rw [q]
      refine aw_iV (q0 := 32) (ci := 7) rfl cw_X7_53 rfl rfl rfl (c_X7_wouldKnow hj) rfl rfl (Nat.le_of_ble_eq_true rfl) (by decide) (by decide) (by decide) (by decide) ?_
      refine aw_aload_n rfl rfl ?_
      refine pg_32_3 rfl kl_X7_20 ?_
      refine aw_iload_n rfl rfl ?_
      refine pl_35 rfl rfl (by omega) ?_
      have hS : aSi s gs i = !decide (bB (wK s gs (s 33 i) j) = s 35 i) := by unfold aSi; rw [q, hc]
      refine aw_icmp_eq (tgt := 38) rfl (by decide) (fun h33 => ?_) (fun h33 => ?_)
      · refine aw_inc1 rfl rfl (by decide) ?_
        refine aw_goto (tgt := 2) rfl (by decide) ?_
        refine aw_wk (ih (i + 1) (by omega) ?_) (And.intro rfl (And.intro rfl (And.intro (congrArg (fun x => some (Value.int x)) (nI_1 i)) True.intro)))
        rw [← hX]; simp only [fs]; rw [hS, decide_eq_true h33]; rfl
      · refine aw_iconst (v := 0) rfl (by decide) ?_
        exact aw_fz rfl rfl (Or.inl rfl) (by rw [← hX]; simp only [fs]; rw [hS, decide_eq_false h33]; rfl) rfl
  refine aw_F_of mo_X7_allIsSo (by decide) (Nat.le_of_ble_eq_true rfl) ?_
  refine aw_iconst (v := 0) rfl (by decide) ?_
  refine aw_istore_n rfl (by decide) ?_
  refine aw_wk (loop N 0 (by omega) hXX) (And.intro rfl (And.intro rfl (And.intro rfl True.intro)))
theorem fI_len (s : am_S) (N t r : Nat) (L : List Int32) : (fI s N t r L).length ≤ L.length + 1 := by
  unfold fI
  split
  · omega
  · split
    · simp
    · omega
/-- the list stands in the row -/
def lsR (s : am_S) (L : List Int32) : Prop := ∀ q, q < L.length → s 36 q = L.getD q 0
theorem lsR_push {s1 : am_S} {L : List Int32} {v : Int32} (h : lsR s1 L) : lsR (up s1 36 L.length v) (L ++ [v]) := by
  intro q hq
  rw [up_s]
  rw [List.length_append] at hq
  by_cases e : q = L.length
  · subst e; rw [if_pos rfl]; simp
  · rw [if_neg e, h q (by simp at hq; omega)]
    simp only [List.getD_eq_getElem?_getD, List.getElem?_append_left (show q < L.length by simp at hq; omega)]

set_option maxRecDepth 4000 in
theorem c_X7_findsFitting {l : Launch} {g : ag_G} {s : am_S} {n : am_N} {N : Nat} {T Q : Nat} (hb : kb s T Q) (hn : nb s N) : aw_M l g mi_X7_findsFitting 3 0 0 [.ref (g_ad g 32)] (hp g s n) (fun r w => ∃ s', r = some (.int (nI (fL s N T Q).length)) ∧ w = hp g s' n ∧ eo skF s s' ∧ lsR s' (fL s N T Q) ∧ (fL s N T Q).length ≤ 36) := by
  have hT := hb.2.1
  have hQ := hb.2.2.2.1
  generalize hXX : fL s N T Q = X
  have row : ∀ (t : Nat) (Y : List Int32), t < T → (∀ (s1 : am_S), eo skF s s1 → lsR s1 Y → Y.length ≤ t * 5 + Q → aw_W l g mi_X7_findsFitting (aw_rm 3 0 0) (aw_Z g (fun r w => ∃ s', r = some (.int (nI X.length)) ∧ w = hp g s' n ∧ eo skF s s' ∧ lsR s' X ∧ X.length ≤ 36) 0 0) 0 0 (hp g s1 n) 80 [some (.ref (g_ad g 32)), some (.int (nI Y.length)), some (.int (nI t))] []) → ∀ (d i : Nat) (L : List Int32) (s1 : am_S), eo skF s s1 → lsR s1 L → L.length ≤ t * 5 + i → i + d = Q → fd (fI s N t) i d L = Y → aw_W l g mi_X7_findsFitting (aw_rm 3 0 0) (aw_Z g (fun r w => ∃ s', r = some (.int (nI X.length)) ∧ w = hp g s' n ∧ eo skF s s' ∧ lsR s' X ∧ X.length ≤ 36) 0 0) 0 0 (hp g s1 n) 17 [some (.ref (g_ad g 32)), some (.int (nI L.length)), some (.int (nI t)), some (.int (nI i))] [] := by
    intro t Y ht kont d
    induction d with
    | zero =>
      intro i L s1 e1 hl hlen hi hX
      refine aw_iload_n rfl rfl ?_
      refine aw_aload_n rfl rfl ?_
      refine pg_32_0 rfl kl_X7_27 ?_
      refine pg_15_7 rfl kl_X7_42 ?_
      refine aw_icmp_ge (tgt := 80) rfl (by decide) (fun h25 => ?_) (fun h25 => absurd (by rw [(kb_eF hb e1).2.2.1]; exact nI_le (by omega) (by omega)) h25)
      have hx : L = Y := hX
      subst hx
      exact aw_wk (kont s1 e1 hl (by omega)) (And.intro rfl (And.intro rfl (And.intro rfl True.intro)))
    | succ d ih =>
      intro i L s1 e1 hl hlen hi hX
      refine aw_iload_n rfl rfl ?_
      refine aw_aload_n rfl rfl ?_
      refine pg_32_0 rfl kl_X7_27 ?_
      refine pg_15_7 rfl kl_X7_42 ?_
      refine aw_icmp_ge (tgt := 80) rfl (by decide) (fun h25 => absurd h25 (by rw [(kb_eF hb e1).2.2.1]; exact nI_ge (by omega) (by omega))) (fun h25 => ?_)
      refine aw_bipush (v := 10) rfl (by decide) ?_
      refine aw_iload_n rfl rfl ?_
      refine aw_imul rfl ?_
      refine aw_iload_n rfl rfl ?_
      refine aw_iadd rfl ?_
      refine aw_istore rfl (by decide) ?_
      refine aw_aload_n rfl rfl ?_
      refine pg_32_0 rfl kl_X7_27 ?_
      refine aw_iload_n rfl rfl ?_
      refine aw_iload_n rfl rfl ?_
      refine aw_iV (q0 := 15) (ci := 8) rfl cw_X7_45 rfl rfl rfl (c_X8_knowsIt (by omega)) rfl rfl (Nat.le_of_ble_eq_true rfl) (by decide) (by decide) (by decide) (by decide) ?_
      refine aw_if_ne (tgt := 74) rfl (by decide) (fun h45 => ?_) (fun h45 => ?_)
      · refine aw_inc1 rfl rfl (by decide) ?_
        refine aw_goto (tgt := 17) rfl (by decide) ?_
        first
          | (refine aw_wk (ih (i + 1) L s1 e1 hl (by omega) (by omega) ?_) (And.intro rfl (And.intro rfl (And.intro rfl (And.intro (congrArg (fun x => some (Value.int x)) (nI_1 i)) True.intro)))); rw [← hX]; simp only [fd]; rw [show fI s N t i L = L from by (unfold fI; rw [← kn_eF e1, if_pos (bB_n0.mp h45)])])
          | (refine aw_wk (ih (i + 1) L s1 e1 hl (by omega) (by omega) ?_) (And.intro rfl (And.intro rfl (And.intro rfl (And.intro (congrArg (fun x => some (Value.int x)) (nI_1 i)) True.intro)))); rw [← hX]; simp only [fd]; rw [show fI s N t i L = L from by (unfold fI; rw [← kn_eF e1, if_neg (by rw [bB_0.mp h45]; decide), ← aS_eF e1, if_neg (by rw [bB_0.mp h54]; decide)])])
          | (refine aw_wk (ih (i + 1) (L ++ [10 * nI t + nI i]) _ (eo_up (fun _ => rfl) e1) (lsR_push hl) (by simp; omega) (by omega) ?_) (And.intro rfl (And.intro (congrArg (fun x => some (Value.int x)) (by rw [List.length_append]; exact nI_1 _)) (And.intro rfl (And.intro (congrArg (fun x => some (Value.int x)) (nI_1 i)) True.intro)))); rw [← hX]; simp only [fd]; rw [show fI s N t i L = L ++ [10 * nI t + nI i] from by (unfold fI; rw [← kn_eF e1, if_neg (by rw [bB_0.mp h45]; decide), ← aS_eF e1, if_pos (bB_n0.mp h54)])])
      · refine aw_aload_n rfl rfl ?_
        refine aw_iload rfl rfl ?_
        refine aw_iV (q0 := 32) (ci := 7) rfl cw_X7_49 rfl rfl rfl (c_X7_allIsSo (nb_eF hn e1)) rfl rfl (Nat.le_of_ble_eq_true rfl) (by decide) (by decide) (by decide) (by decide) ?_
        refine aw_if_eq (tgt := 74) rfl (by decide) (fun h54 => ?_) (fun h54 => ?_)
        · refine aw_inc1 rfl rfl (by decide) ?_
          refine aw_goto (tgt := 17) rfl (by decide) ?_
          first
            | (refine aw_wk (ih (i + 1) L s1 e1 hl (by omega) (by omega) ?_) (And.intro rfl (And.intro rfl (And.intro rfl (And.intro (congrArg (fun x => some (Value.int x)) (nI_1 i)) True.intro)))); rw [← hX]; simp only [fd]; rw [show fI s N t i L = L from by (unfold fI; rw [← kn_eF e1, if_pos (bB_n0.mp h45)])])
            | (refine aw_wk (ih (i + 1) L s1 e1 hl (by omega) (by omega) ?_) (And.intro rfl (And.intro rfl (And.intro rfl (And.intro (congrArg (fun x => some (Value.int x)) (nI_1 i)) True.intro)))); rw [← hX]; simp only [fd]; rw [show fI s N t i L = L from by (unfold fI; rw [← kn_eF e1, if_neg (by rw [bB_0.mp h45]; decide), ← aS_eF e1, if_neg (by rw [bB_0.mp h54]; decide)])])
            | (refine aw_wk (ih (i + 1) (L ++ [10 * nI t + nI i]) _ (eo_up (fun _ => rfl) e1) (lsR_push hl) (by simp; omega) (by omega) ?_) (And.intro rfl (And.intro (congrArg (fun x => some (Value.int x)) (by rw [List.length_append]; exact nI_1 _)) (And.intro rfl (And.intro (congrArg (fun x => some (Value.int x)) (nI_1 i)) True.intro)))); rw [← hX]; simp only [fd]; rw [show fI s N t i L = L ++ [10 * nI t + nI i] from by (unfold fI; rw [← kn_eF e1, if_neg (by rw [bB_0.mp h45]; decide), ← aS_eF e1, if_pos (bB_n0.mp h54)])])
        · refine aw_iload_n rfl rfl ?_
          refine aw_bipush (v := 36) rfl (by decide) ?_
          refine aw_icmp_ge (tgt := 74) rfl (by decide) (fun h60 => absurd h60 (by exact nI_ge (a := L.length) (b := 36) (by omega) (by omega))) (fun h60 => ?_)
          refine aw_aload_n rfl rfl ?_
          refine pg_32_5 rfl kl_X7_24 ?_
          refine aw_iload_n rfl rfl ?_
          refine aw_iload rfl rfl ?_
          refine ps_36 rfl rfl (by omega) ?_
          refine aw_inc1 rfl rfl (by decide) ?_
          refine aw_inc1 rfl rfl (by decide) ?_
          refine aw_goto (tgt := 17) rfl (by decide) ?_
          first
            | (refine aw_wk (ih (i + 1) L s1 e1 hl (by omega) (by omega) ?_) (And.intro rfl (And.intro rfl (And.intro rfl (And.intro (congrArg (fun x => some (Value.int x)) (nI_1 i)) True.intro)))); rw [← hX]; simp only [fd]; rw [show fI s N t i L = L from by (unfold fI; rw [← kn_eF e1, if_pos (bB_n0.mp h45)])])
            | (refine aw_wk (ih (i + 1) L s1 e1 hl (by omega) (by omega) ?_) (And.intro rfl (And.intro rfl (And.intro rfl (And.intro (congrArg (fun x => some (Value.int x)) (nI_1 i)) True.intro)))); rw [← hX]; simp only [fd]; rw [show fI s N t i L = L from by (unfold fI; rw [← kn_eF e1, if_neg (by rw [bB_0.mp h45]; decide), ← aS_eF e1, if_neg (by rw [bB_0.mp h54]; decide)])])
            | (refine aw_wk (ih (i + 1) (L ++ [10 * nI t + nI i]) _ (eo_up (fun _ => rfl) e1) (lsR_push hl) (by simp; omega) (by omega) ?_) (And.intro rfl (And.intro (congrArg (fun x => some (Value.int x)) (by rw [List.length_append]; exact nI_1 _)) (And.intro rfl (And.intro (congrArg (fun x => some (Value.int x)) (nI_1 i)) True.intro)))); rw [← hX]; simp only [fd]; rw [show fI s N t i L = L ++ [10 * nI t + nI i] from by (unfold fI; rw [← kn_eF e1, if_neg (by rw [bB_0.mp h45]; decide), ← aS_eF e1, if_pos (bB_n0.mp h54)])])
  have loop : ∀ (d i : Nat) (L : List Int32) (s1 : am_S), eo skF s s1 → lsR s1 L → L.length ≤ i * 5 → i + d = T → (if aS s 99 N = true then fd (fO s N Q) i d L ++ [99] else fd (fO s N Q) i d L) = X → aw_W l g mi_X7_findsFitting (aw_rm 3 0 0) (aw_Z g (fun r w => ∃ s', r = some (.int (nI X.length)) ∧ w = hp g s' n ∧ eo skF s s' ∧ lsR s' X ∧ X.length ≤ 36) 0 0) 0 0 (hp g s1 n) 4 [some (.ref (g_ad g 32)), some (.int (nI L.length)), some (.int (nI i))] [] := by
    intro d
    induction d with
    | zero =>
      intro i L s1 e1 hl hlen hi hX
      refine aw_iload_n rfl rfl ?_
      refine aw_aload_n rfl rfl ?_
      refine pg_32_0 rfl kl_X7_27 ?_
      refine pg_15_6 rfl kl_X7_39 ?_
      refine aw_icmp_ge (tgt := 86) rfl (by decide) (fun h12 => ?_) (fun h12 => absurd (by rw [(kb_eF hb e1).1]; exact nI_le (by omega) (by omega)) h12)
      refine aw_aload_n rfl rfl ?_
      refine aw_bipush (v := 99) rfl (by decide) ?_
      refine aw_iV (q0 := 32) (ci := 7) rfl cw_X7_49 rfl rfl rfl (c_X7_allIsSo (nb_eF hn e1)) rfl rfl (Nat.le_of_ble_eq_true rfl) (by decide) (by decide) (by decide) (by decide) ?_
      refine aw_if_eq (tgt := 112) rfl (by decide) (fun h92 => ?_) (fun h92 => ?_)
      · refine aw_iload_n rfl rfl ?_
        first
        | (have hx : L = X := by (rw [← hX, if_neg (by rw [← aS_eF e1, bB_0.mp h92]; decide)]; rfl)
           subst hx
           exact aw_iret rfl rfl ⟨s1, rfl, rfl, e1, hl, by omega⟩)
        | (have hx : L ++ [99] = X := by (rw [← hX, if_pos (by rw [← aS_eF e1, bB_n0.mp h92])]; rfl)
           subst hx
           exact aw_iret rfl rfl ⟨_, by rw [List.length_append]; exact congrArg (fun x => some (Value.int x)) (nI_1 _), rfl, eo_up (fun _ => rfl) e1, lsR_push hl, by simp; omega⟩)
      · refine aw_iload_n rfl rfl ?_
        refine aw_bipush (v := 36) rfl (by decide) ?_
        refine aw_icmp_ge (tgt := 112) rfl (by decide) (fun h98 => absurd h98 (by exact nI_ge (a := L.length) (b := 36) (by omega) (by omega))) (fun h98 => ?_)
        refine aw_aload_n rfl rfl ?_
        refine pg_32_5 rfl kl_X7_24 ?_
        refine aw_iload_n rfl rfl ?_
        refine aw_bipush (v := 99) rfl (by decide) ?_
        refine ps_36 rfl rfl (by omega) ?_
        refine aw_inc1 rfl rfl (by decide) ?_
        refine aw_iload_n rfl rfl ?_
        first
        | (have hx : L = X := by (rw [← hX, if_neg (by rw [← aS_eF e1, bB_0.mp h92]; decide)]; rfl)
           subst hx
           exact aw_iret rfl rfl ⟨s1, rfl, rfl, e1, hl, by omega⟩)
        | (have hx : L ++ [99] = X := by (rw [← hX, if_pos (by rw [← aS_eF e1, bB_n0.mp h92])]; rfl)
           subst hx
           exact aw_iret rfl rfl ⟨_, by rw [List.length_append]; exact congrArg (fun x => some (Value.int x)) (nI_1 _), rfl, eo_up (fun _ => rfl) e1, lsR_push hl, by simp; omega⟩)
    | succ d ih =>
      intro i L s1 e1 hl hlen hi hX
      refine aw_iload_n rfl rfl ?_
      refine aw_aload_n rfl rfl ?_
      refine pg_32_0 rfl kl_X7_27 ?_
      refine pg_15_6 rfl kl_X7_39 ?_
      refine aw_icmp_ge (tgt := 86) rfl (by decide) (fun h12 => absurd h12 (by rw [(kb_eF hb e1).1]; exact nI_ge (by omega) (by omega))) (fun h12 => ?_)
      refine aw_iconst (v := 0) rfl (by decide) ?_
      refine aw_istore_n rfl (by decide) ?_
      refine aw_wk (row i (fO s N Q i L) (by omega) (fun s2 e2 hl2 hlen2 => ?_) Q 0 L s1 e1 hl (by omega) (by omega) rfl) (And.intro rfl (And.intro rfl (And.intro rfl (And.intro rfl True.intro))))
      refine aw_inc1 rfl rfl (by decide) ?_
      refine aw_goto (tgt := 4) rfl (by decide) ?_
      exact aw_wk (ih (i + 1) _ s2 e2 hl2 (by omega) (by omega) hX) (And.intro rfl (And.intro rfl (And.intro (congrArg (fun x => some (Value.int x)) (nI_1 i)) True.intro)))
  refine aw_M_of mo_X7_findsFitting (by decide) (Nat.le_of_ble_eq_true rfl) ?_
  refine aw_iconst (v := 0) rfl (by decide) ?_
  refine aw_istore_n rfl (by decide) ?_
  refine aw_iconst (v := 0) rfl (by decide) ?_
  refine aw_istore_n rfl (by decide) ?_
  refine aw_wk (loop T 0 [] s eo_rf (fun q h => absurd h (by simp)) (by simp) (by omega) hXX) (And.intro rfl (And.intro rfl (And.intro rfl True.intro)))
