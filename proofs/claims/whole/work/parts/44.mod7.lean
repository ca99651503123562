theorem aw_eqs2 {l : Launch} {g : ag_G} {M : ag_M} {R : Room} {cells slots mc ms : Nat} {ws : va_W} {pc : Nat} {L : List (Option Value)} {st : List Value} {Q Q' : Option Value → va_W → Prop} (k : aw_W l g M R (aw_Z g Q mc ms) cells slots ws pc L st) (h : Q' = Q) : aw_W l g M R (aw_Z g Q' mc ms) cells slots ws pc L st := by subst h; exact k
def isC (s : am_S) (c : Int32) : Bool := if c = 99 then true else isTm s (c / 10) && (isRm s (c - c / 10 * 10) && !hs (s 52 (3 * cl (c / 10) + 2)) (c - c / 10 * 10))
def nbm (s : am_S) (N : Nat) : Prop := s 39 47 = nI N ∧ N ≤ 10 ∧ ∀ i, i < N → ∃ j, j < 7 ∧ s 60 (3 * i + 1) = nI j
def mmi (s : am_S) (c : Int32) (i : Nat) : Bool := !decide (kB (s 52) c (cl (s 60 (3 * i + 1))) (s 60 (3 * i)) = decide (s 60 (3 * i + 2) = 1))
def ftm (s : am_S) (N : Nat) (c : Int32) : Bool := isC s c && (fs (mmi s c) 0 N).isNone
def whoL (P : Nat → Bool) (i : Int32) : Nat → Nat → Int32 → Int32
  | _, 0, a => if i = -1 then a else -1
  | c, d + 1, a => if P c = true then (if a = i then nI c else whoL P i (c + 1) d (a + 1)) else whoL P i (c + 1) d a
def m_who (s : am_S) (N : Nat) (i : Int32) : Int32 := if s 39 26 = 0 then -1 else if i < -1 then -1 else whoL (fun c => ftm s N (nI c)) i 0 100 0
def lnF (s : am_S) (N t r c : Nat) (a : Int32 × Int32) : Int32 × Int32 := if ftm s N (nI c) = true then (1, a.2 + (if kB (s 52) (nI c) t (nI r) = true then 1 else -1)) else a
def akI (s : am_S) (N t r : Nat) (a : Int32 × Int32 × Int32) : Int32 × Int32 × Int32 := (fun z : Int32 × Int32 => if a.1 = -1 then (10 * nI t + nI r, ab z.2, z.1) else if ab z.2 < a.2.1 then (10 * nI t + nI r, ab z.2, z.1) else (a.1, a.2.1, z.1)) (fd (lnF s N t r) 0 100 (a.2.2, 0))
def akO (s : am_S) (N Q t : Nat) (a : Int32 × Int32 × Int32) : Int32 × Int32 × Int32 := fd (akI s N t) 0 Q a
def m_ask (s : am_S) (N T Q : Nat) : Int32 := if s 39 26 = 0 then -1 else (fun a : Int32 × Int32 × Int32 => if a.2.2 = 0 then -1 else a.1) (fd (akO s N Q) 0 T (-1, 0, 0))
def bsI (w : Int32) : List Int32 → Int32 → Int32
  | [], a => a
  | h :: t, a => bsI w t (if (w >>> (h &&& 31)) &&& 255 = 0 then a + 0 else a + 1)
def ptI (w : Int32) : List Int32 → (Nat → Int32) × Nat → (Nat → Int32) × Nat
  | [], a => a
  | h :: t, a => ptI w t (if (w >>> (h &&& 31)) &&& 255 = 0 then a else (upd a.1 a.2 (vp_nar .byte (w >>> (h &&& 31)).toInt8.toInt32), a.2 + 1))
theorem ptI_le (w : Int32) : ∀ (L : List Int32) (a : (Nat → Int32) × Nat), a.2 ≤ (ptI w L a).2
  | [], a => Nat.le_refl _
  | h :: t, a => by
    refine Nat.le_trans ?_ (ptI_le w t _)
    split
    · exact Nat.le_refl _
    · exact Nat.le_succ _
def tmM (s : am_S) (f : Nat → Int32) (m : Nat) : am_S := up (upR s 40 f) 39 6 (nI m)
theorem tmM_rf {s : am_S} {m : Nat} (h : s 39 6 = nI m) : tmM s (s 40) m = s := by unfold tmM; rw [upR_rf]; exact up_rf h
theorem tmM_w {s : am_S} {f : Nat → Int32} {m : Nat} {v : Int32} : up (up (tmM s f m) 40 m v) 39 6 (nI (m + 1)) = tmM s (upd f m v) (m + 1) := by
  funext k j
  unfold tmM up upR
  cases h1 : Nat.beq k 39 with
  | true =>
    rw [Nat.eq_of_beq_eq_true h1]
    show upd (upd (s 39) 6 (nI m)) 6 (nI (m + 1)) j = upd (s 39) 6 (nI (m + 1)) j
    by_cases e : j = 6
    · subst e; rw [pk_us, pk_us]
    · rw [pk_un e, pk_un e, pk_un e]
  | false =>
    cases h2 : Nat.beq k 40 with
    | true => rw [Nat.eq_of_beq_eq_true h2]; rfl
    | false => rfl
def bs4 (x : Int32) : Int32 := bsI x [24, 16, 8, 0] 0
def pt4 (x : Int32) (a : (Nat → Int32) × Nat) : (Nat → Int32) × Nat := ptI x [24, 16, 8, 0] a
theorem isC_t {s : am_S} {T Q : Nat} {c : Int32} (hb : mb s T Q) (h : ¬ c = 99) (h1 : isTm s (c / 10) = true) : ∃ j, j < T ∧ c / 10 = nI j := isTm_nI hb h1
set_option maxRecDepth 4000 in
theorem c_m_isCode {l : Launch} {g : ag_G} {s : am_S} {n : am_N} {c : Int32} {T Q : Nat} (hb : mb s T Q) : aw_F l g mi_X12_isCode 1 [.ref (g_ad g 39), .int c] (hp g s n) (.int (bB (isC s c))) (hp g s n) := by
  refine aw_F_of mo_X12_isCode (by decide) (Nat.le_of_ble_eq_true rfl) ?_
  refine aw_iload_n rfl rfl ?_
  refine aw_bipush (v := 99) rfl (by decide) ?_
  refine aw_icmp_ne (tgt := 8) rfl (by decide) (fun h3 => ?_) (fun h3 => ?_)
  · refine aw_iload_n rfl rfl ?_
    refine aw_bipush (v := 10) rfl (by decide) ?_
    refine aw_idiv rfl (by decide) ?_
    refine aw_istore_n rfl (by decide) ?_
    refine aw_iload_n rfl rfl ?_
    refine aw_bipush (v := 10) rfl (by decide) ?_
    refine aw_irem rfl (by decide) ?_
    refine aw_istore_n rfl (by decide) ?_
    refine aw_aload_n rfl rfl ?_
    refine aw_iload_n rfl rfl ?_
    refine aw_iV (q0 := 39) (ci := 12) rfl cw_X12_346 rfl rfl rfl (c_m_isThing) rfl rfl (Nat.le_of_ble_eq_true rfl) (by decide) (by decide) (by decide) (by decide) ?_
    refine aw_if_eq (tgt := 55) rfl (by decide) (fun h23 => ?_) (fun h23 => ?_)
    · refine aw_iconst (v := 0) rfl (by decide) ?_
      exact aw_fz rfl rfl (by first | exact Or.inl rfl | exact Or.inr rfl | exact bB_01) (by first | (simp [isC, h3, bB]; done) | (unfold isC; rw [if_neg h3, bB_0.mp h23]; rfl) | (unfold isC; rw [if_neg h3, q, bB_0.mp h31]; rfl) | (unfold isC; rw [if_neg h3, q, bB_n0.mp h31, hcj, bB_n0.mp h48]; rfl) | (unfold isC; rw [if_neg h3, q, bB_n0.mp h31, hcj, bB_0.mp h48]; rfl)) rfl
    · have q := bB_n0.mp h23
      obtain ⟨j, hj, hje⟩ := isTm_nI hb q
      have hT := hb.2.1
      have hcj : cl (c / 10) = j := by rw [hje]; exact cl_nI (by omega)
      refine aw_aload_n rfl rfl ?_
      refine aw_iload_n rfl rfl ?_
      refine aw_iV (q0 := 39) (ci := 12) rfl cw_X12_351 rfl rfl rfl (c_m_isRing) rfl rfl (Nat.le_of_ble_eq_true rfl) (by decide) (by decide) (by decide) (by decide) ?_
      refine aw_if_eq (tgt := 55) rfl (by decide) (fun h31 => ?_) (fun h31 => ?_)
      · refine aw_iconst (v := 0) rfl (by decide) ?_
        exact aw_fz rfl rfl (by first | exact Or.inl rfl | exact Or.inr rfl | exact bB_01) (by first | (simp [isC, h3, bB]; done) | (unfold isC; rw [if_neg h3, bB_0.mp h23]; rfl) | (unfold isC; rw [if_neg h3, q, bB_0.mp h31]; rfl) | (unfold isC; rw [if_neg h3, q, bB_n0.mp h31, hcj, bB_n0.mp h48]; rfl) | (unfold isC; rw [if_neg h3, q, bB_n0.mp h31, hcj, bB_0.mp h48]; rfl)) rfl
      · refine aw_aload_n rfl rfl ?_
        refine pg_39_32 rfl kl_X12_61 ?_
        refine aw_iconst (v := 3) rfl (by decide) ?_
        refine aw_iload_n rfl rfl ?_
        refine aw_imul rfl ?_
        refine aw_iconst (v := 2) rfl (by decide) ?_
        refine aw_iadd rfl ?_
        refine pl_52 rfl (show (3 : Int32) * (c / 10) + 2 = nI (3 * j + 2) from by (rw [hje]; exact i3 j 2)) (by omega) ?_
        refine aw_iload_n rfl rfl ?_
        refine aw_iS rfl cw_X12_229 (c_m_has) rfl rfl (Nat.le_of_ble_eq_true rfl) (by decide) (by decide) (by decide) (by decide) ?_
        refine aw_if_ne (tgt := 55) rfl (by decide) (fun h48 => ?_) (fun h48 => ?_)
        · refine aw_iconst (v := 0) rfl (by decide) ?_
          exact aw_fz rfl rfl (by first | exact Or.inl rfl | exact Or.inr rfl | exact bB_01) (by first | (simp [isC, h3, bB]; done) | (unfold isC; rw [if_neg h3, bB_0.mp h23]; rfl) | (unfold isC; rw [if_neg h3, q, bB_0.mp h31]; rfl) | (unfold isC; rw [if_neg h3, q, bB_n0.mp h31, hcj, bB_n0.mp h48]; rfl) | (unfold isC; rw [if_neg h3, q, bB_n0.mp h31, hcj, bB_0.mp h48]; rfl)) rfl
        · refine aw_iconst (v := 1) rfl (by decide) ?_
          refine aw_goto (tgt := 56) rfl (by decide) ?_
          exact aw_fz rfl rfl (by first | exact Or.inl rfl | exact Or.inr rfl | exact bB_01) (by first | (simp [isC, h3, bB]; done) | (unfold isC; rw [if_neg h3, bB_0.mp h23]; rfl) | (unfold isC; rw [if_neg h3, q, bB_0.mp h31]; rfl) | (unfold isC; rw [if_neg h3, q, bB_n0.mp h31, hcj, bB_n0.mp h48]; rfl) | (unfold isC; rw [if_neg h3, q, bB_n0.mp h31, hcj, bB_0.mp h48]; rfl)) rfl
  · refine aw_iconst (v := 1) rfl (by decide) ?_
    exact aw_fz rfl rfl (by first | exact Or.inl rfl | exact Or.inr rfl | exact bB_01) (by first | (simp [isC, h3, bB]; done) | (unfold isC; rw [if_neg h3, bB_0.mp h23]; rfl) | (unfold isC; rw [if_neg h3, q, bB_0.mp h31]; rfl) | (unfold isC; rw [if_neg h3, q, bB_n0.mp h31, hcj, bB_n0.mp h48]; rfl) | (unfold isC; rw [if_neg h3, q, bB_n0.mp h31, hcj, bB_0.mp h48]; rfl)) rfl
set_option maxRecDepth 4000 in
theorem c_m_fits {l : Launch} {g : ag_G} {s : am_S} {n : am_N} {c : Int32} {N T Q : Nat} (hb : mb s T Q) (hn : nbm s N) : aw_F l g mi_X12_fits 2 [.ref (g_ad g 39), .int c] (hp g s n) (.int (bB (ftm s N c))) (hp g s n) := by
  have hN := hn.2.1
  have loop : ∀ (d i : Nat), i + d = N → aw_W l g mi_X12_fits (aw_rm 2 0 0) (aw_Z g (fun r w => r = some (.int (bB (fs (mmi s c) i d).isNone)) ∧ w = hp g s n) 0 0) 0 0 (hp g s n) 12 [some (.ref (g_ad g 39)), some (.int c), some (.int (nI i))] [] := by
    intro d
    induction d with
    | zero =>
      intro i hi
      obtain rfl : i = N := by omega
      refine aw_iload_n rfl rfl ?_
      refine aw_aload_n rfl rfl ?_
      refine pg_39_47 rfl kl_X12_300 ?_
      refine aw_icmp_ge (tgt := 73) rfl (by decide) (fun h17 => ?_) (fun h17 => absurd (by rw [hn.1]; exact Int32.le_refl _) h17)
      refine aw_iconst (v := 1) rfl (by decide) ?_
      exact aw_fz rfl rfl (by first | exact Or.inl rfl | exact Or.inr rfl | exact bB_01) rfl rfl
    | succ d ih =>
      intro i hi
      obtain ⟨j, hj, hje⟩ := hn.2.2 i (by omega)
      have hcj : cl (s 60 (3 * i + 1)) = j := by rw [hje]; exact cl_nI (by omega)
      refine aw_iload_n rfl rfl ?_
      refine aw_aload_n rfl rfl ?_
      refine pg_39_47 rfl kl_X12_300 ?_
      refine aw_icmp_ge (tgt := 73) rfl (by decide) (fun h17 => absurd h17 (by rw [hn.1]; exact nI_ge (by omega) (by omega))) (fun h17 => ?_)
      refine aw_aload_n rfl rfl ?_
      refine aw_iload_n rfl rfl ?_
      refine aw_aload_n rfl rfl ?_
      refine pg_39_46 rfl kl_X12_90 ?_
      refine aw_iconst (v := 3) rfl (by decide) ?_
      refine aw_iload_n rfl rfl ?_
      refine aw_imul rfl ?_
      refine aw_iconst (v := 1) rfl (by decide) ?_
      refine aw_iadd rfl ?_
      refine pl_60 rfl (i3 i 1) (by omega) ?_
      refine aw_aload_n rfl rfl ?_
      refine pg_39_46 rfl kl_X12_90 ?_
      refine aw_iconst (v := 3) rfl (by decide) ?_
      refine aw_iload_n rfl rfl ?_
      refine aw_imul rfl ?_
      refine pl_60 rfl (i30 i) (by omega) ?_
      refine aw_iV (q0 := 39) (ci := 12) rfl cw_X12_448 rfl rfl rfl ((show aw_F l g mi_X12_knowsBy 1 [.ref (g_ad g 39), .int c, .int (s 60 (3 * i + 1)), .int (s 60 (3 * i))] (hp g s n) (.int (bB (kB (s 52) c j (s 60 (3 * i))))) (hp g s n) from by (rw [hje]; exact c_m_knowsBy (by omega)))) rfl rfl (Nat.le_of_ble_eq_true rfl) (by decide) (by decide) (by decide) (by decide) ?_
      refine aw_aload_n rfl rfl ?_
      refine pg_39_46 rfl kl_X12_90 ?_
      refine aw_iconst (v := 3) rfl (by decide) ?_
      refine aw_iload_n rfl rfl ?_
      refine aw_imul rfl ?_
      refine aw_iconst (v := 2) rfl (by decide) ?_
      refine aw_iadd rfl ?_
      refine pl_60 rfl (i3 i 2) (by omega) ?_
      refine aw_iconst (v := 1) rfl (by decide) ?_
      refine aw_icmp_ne (tgt := 61) rfl (by decide) (fun h54 => ?_) (fun h54 => ?_)
      · refine aw_iconst (v := 0) rfl (by decide) ?_
        refine aw_icmp_eq (tgt := 67) rfl (by decide) (fun h62 => ?_) (fun h62 => ?_)
        · refine aw_inc1 rfl rfl (by decide) ?_
          refine aw_goto (tgt := 12) rfl (by decide) ?_
          refine aw_eqs2 (aw_wk (ih (i + 1) (by omega)) (And.intro rfl (And.intro rfl (And.intro (congrArg (fun x => some (Value.int x)) (nI_1 i)) True.intro)))) ?_
          have hm : mmi s c i = false := by (unfold mmi; rw [hcj]; generalize kB (s 52) c j (s 60 (3 * i)) = b at *; first | (rw [decide_eq_true (show s 60 (3 * i + 2) = 1 from h54)]; cases b <;> simp_all [bB]; done) | (rw [decide_eq_false (show ¬ s 60 (3 * i + 2) = 1 from h54)]; cases b <;> simp_all [bB]; done))
          funext r w
          simp only [fs]
          rw [hm]
          rfl
        · refine aw_iconst (v := 0) rfl (by decide) ?_
          exact aw_fz rfl rfl (Or.inl rfl) (by have hm : mmi s c i = true := (by (unfold mmi; rw [hcj]; generalize kB (s 52) c j (s 60 (3 * i)) = b at *; first | (rw [decide_eq_true (show s 60 (3 * i + 2) = 1 from h54)]; cases b <;> simp_all [bB]; done) | (rw [decide_eq_false (show ¬ s 60 (3 * i + 2) = 1 from h54)]; cases b <;> simp_all [bB]; done))); simp only [fs]; rw [hm]; rfl) rfl
      · refine aw_iconst (v := 1) rfl (by decide) ?_
        refine aw_goto (tgt := 62) rfl (by decide) ?_
        refine aw_icmp_eq (tgt := 67) rfl (by decide) (fun h62 => ?_) (fun h62 => ?_)
        · refine aw_inc1 rfl rfl (by decide) ?_
          refine aw_goto (tgt := 12) rfl (by decide) ?_
          refine aw_eqs2 (aw_wk (ih (i + 1) (by omega)) (And.intro rfl (And.intro rfl (And.intro (congrArg (fun x => some (Value.int x)) (nI_1 i)) True.intro)))) ?_
          have hm : mmi s c i = false := by (unfold mmi; rw [hcj]; generalize kB (s 52) c j (s 60 (3 * i)) = b at *; first | (rw [decide_eq_true (show s 60 (3 * i + 2) = 1 from h54)]; cases b <;> simp_all [bB]; done) | (rw [decide_eq_false (show ¬ s 60 (3 * i + 2) = 1 from h54)]; cases b <;> simp_all [bB]; done))
          funext r w
          simp only [fs]
          rw [hm]
          rfl
        · refine aw_iconst (v := 0) rfl (by decide) ?_
          exact aw_fz rfl rfl (Or.inl rfl) (by have hm : mmi s c i = true := (by (unfold mmi; rw [hcj]; generalize kB (s 52) c j (s 60 (3 * i)) = b at *; first | (rw [decide_eq_true (show s 60 (3 * i + 2) = 1 from h54)]; cases b <;> simp_all [bB]; done) | (rw [decide_eq_false (show ¬ s 60 (3 * i + 2) = 1 from h54)]; cases b <;> simp_all [bB]; done))); simp only [fs]; rw [hm]; rfl) rfl
  refine aw_F_of mo_X12_fits (by decide) (Nat.le_of_ble_eq_true rfl) ?_
  refine aw_aload_n rfl rfl ?_
  refine aw_iload_n rfl rfl ?_
  refine aw_iV (q0 := 39) (ci := 12) rfl cw_X12_445 rfl rfl rfl (c_m_isCode hb) rfl rfl (Nat.le_of_ble_eq_true rfl) (by decide) (by decide) (by decide) (by decide) ?_
  refine aw_if_ne (tgt := 10) rfl (by decide) (fun h5 => ?_) (fun h5 => ?_)
  · refine aw_iconst (v := 0) rfl (by decide) ?_
    refine aw_istore_n rfl (by decide) ?_
    unfold ftm
    rw [bB_n0.mp h5, Bool.true_and]
    exact aw_wk (loop N 0 (by omega)) (And.intro rfl (And.intro rfl (And.intro rfl True.intro)))
  · refine aw_iconst (v := 0) rfl (by decide) ?_
    exact aw_fz rfl rfl (Or.inl rfl) (by unfold ftm; rw [bB_0.mp h5]; rfl) rfl
set_option maxRecDepth 4000 in
theorem c_m_who {l : Launch} {g : ag_G} {s : am_S} {n : am_N} {i : Int32} {N T Q : Nat} (hb : mb s T Q) (hn : nbm s N) : aw_F l g mi_X12_who 3 [.ref (g_ad g 39), .int i] (hp g s n) (.int (m_who (up s 39 0 0) N i)) (hp g ((up s 39 0 0)) n) := by
  refine aw_F_of mo_X12_who (by decide) (Nat.le_of_ble_eq_true rfl) ?_
  refine aw_aload_n rfl rfl ?_
  refine aw_iconst (v := 0) rfl (by decide) ?_
  refine pp_39_0 rfl kl_X12_96 ?_
  have hb : mb (up s 39 0 0) T Q := hb
  have hn : nbm (up s 39 0 0) N := hn
  skip
  generalize up s 39 0 0 = S at *
  have loop : ∀ (d c : Nat) (a : Int32), c + d = 100 → aw_W l g mi_X12_who (aw_rm 3 0 0) (aw_Z g (fun r w => r = some (.int (whoL (fun c => ftm S N (nI c)) i c d a)) ∧ w = hp g S n) 0 0) 0 0 (hp g S n) 23 [some (.ref (g_ad g 39)), some (.int i), some (.int a), some (.int (nI c))] [] := by
    intro d
    induction d with
    | zero =>
      intro c a hi
      obtain rfl : c = 100 := by omega
      refine aw_iload_n rfl rfl ?_
      refine aw_bipush (v := 100) rfl (by decide) ?_
      refine aw_icmp_ge (tgt := 56) rfl (by decide) (fun h26 => ?_) (fun h26 => absurd (by decide) h26)
      refine aw_iload_n rfl rfl ?_
      refine aw_iconst (v := -1) rfl (by decide) ?_
      refine aw_icmp_ne (tgt := 65) rfl (by decide) (fun h58 => ?_) (fun h58 => ?_)
      · refine aw_iconst (v := -1) rfl (by decide) ?_
        exact aw_fi rfl rfl (by simp only [whoL]; first | (rw [if_pos h58]; done) | (rw [if_neg h58]; done)) rfl
      · refine aw_iload_n rfl rfl ?_
        refine aw_goto (tgt := 66) rfl (by decide) ?_
        exact aw_fi rfl rfl (by simp only [whoL]; first | (rw [if_pos h58]; done) | (rw [if_neg h58]; done)) rfl
    | succ d ih =>
      intro c a hi
      refine aw_iload_n rfl rfl ?_
      refine aw_bipush (v := 100) rfl (by decide) ?_
      refine aw_icmp_ge (tgt := 56) rfl (by decide) (fun h26 => absurd h26 (nI_ge (b := 100) (by omega) (by decide))) (fun h26 => ?_)
      refine aw_aload_n rfl rfl ?_
      refine aw_iload_n rfl rfl ?_
      refine aw_iV (q0 := 39) (ci := 12) rfl cw_X12_452 rfl rfl rfl (c_m_fits hb hn) rfl rfl (Nat.le_of_ble_eq_true rfl) (by decide) (by decide) (by decide) (by decide) ?_
      refine aw_if_ne (tgt := 40) rfl (by decide) (fun h34 => ?_) (fun h34 => ?_)
      · refine aw_iload_n rfl rfl ?_
        refine aw_iload_n rfl rfl ?_
        refine aw_icmp_ne (tgt := 47) rfl (by decide) (fun h42 => ?_) (fun h42 => ?_)
        · refine aw_inc1 rfl rfl (by decide) ?_
          refine aw_inc1 rfl rfl (by decide) ?_
          refine aw_goto (tgt := 23) rfl (by decide) ?_
          refine aw_eqs2 (aw_wk (ih (c + 1) _ (by omega)) (And.intro rfl (And.intro rfl (And.intro rfl (And.intro (congrArg (fun x => some (Value.int x)) (nI_1 c)) True.intro))))) ?_
          funext r w
          simp only [whoL]
          first | (rw [if_pos (bB_n0.mp h34), if_neg h42]; done) | (rw [if_neg (show ¬ ftm S N (nI c) = true from by (rw [bB_0.mp h34]; decide))]; done)
        · refine aw_iload_n rfl rfl ?_
          exact aw_fi rfl rfl (by simp only [whoL]; rw [if_pos (bB_n0.mp h34), if_pos h42]) rfl
      · refine aw_goto (tgt := 50) rfl (by decide) ?_
        refine aw_inc1 rfl rfl (by decide) ?_
        refine aw_goto (tgt := 23) rfl (by decide) ?_
        refine aw_eqs2 (aw_wk (ih (c + 1) _ (by omega)) (And.intro rfl (And.intro rfl (And.intro rfl (And.intro (congrArg (fun x => some (Value.int x)) (nI_1 c)) True.intro))))) ?_
        funext r w
        simp only [whoL]
        first | (rw [if_pos (bB_n0.mp h34), if_neg h42]; done) | (rw [if_neg (show ¬ ftm S N (nI c) = true from by (rw [bB_0.mp h34]; decide))]; done)
  refine aw_aload_n rfl rfl ?_
  refine pg_39_26 rfl kl_X12_291 ?_
  refine aw_if_eq (tgt := 17) rfl (by decide) (fun h9 => ?_) (fun h9 => ?_)
  · refine aw_iconst (v := -1) rfl (by decide) ?_
    exact aw_fi rfl rfl (by unfold m_who; first | (rw [if_pos h9]; done) | (rw [if_neg h9, if_pos (by rw [← Int32.not_le]; exact h14)]; done)) rfl
  · refine aw_iload_n rfl rfl ?_
    refine aw_iconst (v := -1) rfl (by decide) ?_
    refine aw_icmp_ge (tgt := 19) rfl (by decide) (fun h14 => ?_) (fun h14 => ?_)
    · refine aw_iconst (v := 0) rfl (by decide) ?_
      refine aw_istore_n rfl (by decide) ?_
      refine aw_iconst (v := 0) rfl (by decide) ?_
      refine aw_istore_n rfl (by decide) ?_
      unfold m_who
      rw [if_neg h9, if_neg (by rw [Int32.not_lt]; exact h14)]
      exact aw_wk (loop 100 0 0 (by decide)) (And.intro rfl (And.intro rfl (And.intro rfl (And.intro rfl True.intro))))
    · refine aw_iconst (v := -1) rfl (by decide) ?_
      exact aw_fi rfl rfl (by unfold m_who; first | (rw [if_pos h9]; done) | (rw [if_neg h9, if_pos (by rw [← Int32.not_le]; exact h14)]; done)) rfl
set_option maxRecDepth 4000 in
set_option maxHeartbeats 1000000 in
theorem c_m_ask {l : Launch} {g : ag_G} {s : am_S} {n : am_N} {N T Q : Nat} (hb : mb s T Q) (hn : nbm s N) : aw_F l g mi_X12_ask 3 [.ref (g_ad g 39)] (hp g s n) (.int (m_ask (up s 39 0 0) N T Q)) (hp g ((up s 39 0 0)) n) := by
  refine aw_F_of mo_X12_ask (by decide) (Nat.le_of_ble_eq_true rfl) ?_
  refine aw_aload_n rfl rfl ?_
  refine aw_iconst (v := 0) rfl (by decide) ?_
  refine pp_39_0 rfl kl_X12_96 ?_
  have hb : mb (up s 39 0 0) T Q := hb
  have hn : nbm (up s 39 0 0) N := hn
  skip
  generalize up s 39 0 0 = S at *
  have hT := hb.2.1
  have hQ := hb.2.2.2.1
  have hN_loop1 : T < 2 ^ 31 := (by omega)
  have loop1 : ∀ (d1 i1 : Nat) (a1 : Int32 × Int32 × Int32), i1 + d1 = T → fd (akO S N Q) i1 d1 a1 = fd (akO S N Q) 0 T (-1, 0, 0) → aw_W l g mi_X12_ask (aw_rm 3 0 0) (aw_Z g (fun r w => r = some (.int ((fun a : Int32 × Int32 × Int32 => if a.2.2 = 0 then -1 else a.1) (fd (akO S N Q) 0 T (-1, 0, 0)))) ∧ w = hp g S n) 0 0) 0 0 (hp g S n) 23 [some (.ref (g_ad g 39)), some (.int a1.1), some (.int a1.2.1), some (.int a1.2.2), some (.int (nI i1))] [] := by
    intro d1
    induction d1 with
    | zero =>
      intro i1 a1 hi1 hX1
      simp only [fd] at hX1
      subst hX1
      have hiN1 : i1 = T := by omega
      refine aw_iload rfl rfl ?_
      refine aw_aload_n rfl rfl ?_
      refine pg_39_26 rfl kl_X12_291 ?_
      refine aw_icmp_ge (tgt := 145) rfl (by decide) (fun h29 => ?_) (fun h29 => absurd (by rw [hb.1]; exact nI_le (by omega) (by omega)) h29)
      refine aw_iload_n rfl rfl ?_
      refine aw_if_eq (tgt := 153) rfl (by decide) (fun h146 => ?_) (fun h146 => ?_)
      · refine aw_iconst (v := -1) rfl (by decide) ?_
        exact aw_fi rfl rfl (by first | (simp only [if_pos h146]; done) | (simp only [if_neg h146]; done)) rfl
      · refine aw_iload_n rfl rfl ?_
        refine aw_goto (tgt := 154) rfl (by decide) ?_
        exact aw_fi rfl rfl (by first | (simp only [if_pos h146]; done) | (simp only [if_neg h146]; done)) rfl
    | succ d1 ih1 =>
      intro i1 a1 hi1 hX1
      simp only [fd] at hX1
      refine aw_iload rfl rfl ?_
      refine aw_aload_n rfl rfl ?_
      refine pg_39_26 rfl kl_X12_291 ?_
      refine aw_icmp_ge (tgt := 145) rfl (by decide) (fun h29 => absurd h29 (by rw [hb.1]; exact nI_ge (by omega) (by omega))) (fun h29 => ?_)
      have hN_loop2 : Q < 2 ^ 31 := (by omega)
      have loop2 : ∀ (d2 i2 : Nat) (a2 : Int32 × Int32 × Int32), i2 + d2 = Q → fd (akI S N i1) i2 d2 a2 = akO S N Q i1 a1 → aw_W l g mi_X12_ask (aw_rm 3 0 0) (aw_Z g (fun r w => r = some (.int ((fun a : Int32 × Int32 × Int32 => if a.2.2 = 0 then -1 else a.1) (fd (akO S N Q) 0 T (-1, 0, 0)))) ∧ w = hp g S n) 0 0) 0 0 (hp g S n) 35 [some (.ref (g_ad g 39)), some (.int a2.1), some (.int a2.2.1), some (.int a2.2.2), some (.int (nI i1)), some (.int (nI i2))] [] := by
        intro d2
        induction d2 with
        | zero =>
          intro i2 a2 hi2 hX2
          simp only [fd] at hX2
          subst hX2
          have hiN2 : i2 = Q := by omega
          refine aw_iload rfl rfl ?_
          refine aw_aload_n rfl rfl ?_
          refine pg_39_27 rfl kl_X12_294 ?_
          refine aw_icmp_ge (tgt := 139) rfl (by decide) (fun h41 => ?_) (fun h41 => absurd (by rw [hb.2.2.1]; exact nI_le (by omega) (by omega)) h41)
          refine aw_inc1 rfl rfl (by decide) ?_
          refine aw_goto (tgt := 23) rfl (by decide) ?_
          refine aw_wk (ih1 (i1 + 1) (akO S N Q i1 a1) (by omega) hX1) (And.intro rfl (And.intro rfl (And.intro rfl (And.intro rfl (And.intro (congrArg (fun x => some (Value.int x)) (nI_1 i1)) True.intro)))))
        | succ d2 ih2 =>
          intro i2 a2 hi2 hX2
          simp only [fd] at hX2
          refine aw_iload rfl rfl ?_
          refine aw_aload_n rfl rfl ?_
          refine pg_39_27 rfl kl_X12_294 ?_
          refine aw_icmp_ge (tgt := 139) rfl (by decide) (fun h41 => absurd h41 (by rw [hb.2.2.1]; exact nI_ge (by omega) (by omega))) (fun h41 => ?_)
          obtain ⟨ZZ, hZ⟩ : ∃ Z, Z = fd (lnF S N i1 i2) 0 100 (a2.2.2, 0) := ⟨_, rfl⟩
          have hak : akI S N i1 i2 a2 = (if a2.1 = -1 then (10 * nI i1 + nI i2, ab ZZ.2, ZZ.1) else if ab ZZ.2 < a2.2.1 then (10 * nI i1 + nI i2, ab ZZ.2, ZZ.1) else (a2.1, a2.2.1, ZZ.1)) := by (unfold akI; rw [← hZ])
          have hN_loop3 : 100 < 2 ^ 31 := (by omega)
          have loop3 : ∀ (d3 i3 : Nat) (a3 : Int32 × Int32), i3 + d3 = 100 → fd (lnF S N i1 i2) i3 d3 a3 = ZZ → aw_W l g mi_X12_ask (aw_rm 3 0 0) (aw_Z g (fun r w => r = some (.int ((fun a : Int32 × Int32 × Int32 => if a.2.2 = 0 then -1 else a.1) (fd (akO S N Q) 0 T (-1, 0, 0)))) ∧ w = hp g S n) 0 0) 0 0 (hp g S n) 50 [some (.ref (g_ad g 39)), some (.int a2.1), some (.int a2.2.1), some (.int a3.1), some (.int (nI i1)), some (.int (nI i2)), some (.int a3.2), some (.int (nI i3))] [] := by
            intro d3
            induction d3 with
            | zero =>
              intro i3 a3 hi3 hX3
              simp only [fd] at hX3
              subst hX3
              obtain rfl : i3 = 100 := by omega
              refine aw_iload rfl rfl ?_
              refine aw_bipush (v := 100) rfl (by decide) ?_
              refine aw_icmp_ge (tgt := 100) rfl (by decide) (fun h54 => ?_) (fun h54 => absurd (by decide) h54)
              refine aw_iload rfl rfl ?_
              refine aw_mabs rfl km_X12_455 (aw_t5 13 rfl rfl) (aw_t1 18 rfl rfl) (aw_t5 14 rfl rfl) (by decide) (Nat.le_of_ble_eq_true rfl) (by decide) (by decide) ?_
              refine aw_istore rfl (by decide) ?_
              refine aw_iload_n rfl rfl ?_
              refine aw_iconst (v := -1) rfl (by decide) ?_
              refine aw_icmp_eq (tgt := 121) rfl (by decide) (fun h109 => ?_) (fun h109 => ?_)
              · refine aw_bipush (v := 10) rfl (by decide) ?_
                refine aw_iload rfl rfl ?_
                refine aw_imul rfl ?_
                refine aw_iload rfl rfl ?_
                refine aw_iadd rfl ?_
                refine aw_istore_n rfl (by decide) ?_
                refine aw_iload rfl rfl ?_
                refine aw_istore_n rfl (by decide) ?_
                refine aw_inc1 rfl rfl (by decide) ?_
                refine aw_goto (tgt := 35) rfl (by decide) ?_
                refine aw_wk (ih2 (i2 + 1) (akI S N i1 i2 a2) (by omega) hX2) (And.intro rfl (And.intro (congrArg (fun x => some (Value.int x)) (Eq.symm (by rw [hak]; unfold ab; first | (rw [if_pos h109]; done) | (rw [if_neg h109, if_pos h115]; done) | (rw [if_neg h109, if_neg h115]; done)))) (And.intro (congrArg (fun x => some (Value.int x)) (Eq.symm (by rw [hak]; unfold ab; first | (rw [if_pos h109]; done) | (rw [if_neg h109, if_pos h115]; done) | (rw [if_neg h109, if_neg h115]; done)))) (And.intro (congrArg (fun x => some (Value.int x)) (Eq.symm (by rw [hak]; unfold ab; first | (rw [if_pos h109]; done) | (rw [if_neg h109, if_pos h115]; done) | (rw [if_neg h109, if_neg h115]; done)))) (And.intro rfl (And.intro (congrArg (fun x => some (Value.int x)) (nI_1 i2)) True.intro))))))
              · refine aw_iload rfl rfl ?_
                refine aw_iload_n rfl rfl ?_
                refine aw_icmp_lt (tgt := 121) rfl (by decide) (fun h115 => ?_) (fun h115 => ?_)
                · refine aw_bipush (v := 10) rfl (by decide) ?_
                  refine aw_iload rfl rfl ?_
                  refine aw_imul rfl ?_
                  refine aw_iload rfl rfl ?_
                  refine aw_iadd rfl ?_
                  refine aw_istore_n rfl (by decide) ?_
                  refine aw_iload rfl rfl ?_
                  refine aw_istore_n rfl (by decide) ?_
                  refine aw_inc1 rfl rfl (by decide) ?_
                  refine aw_goto (tgt := 35) rfl (by decide) ?_
                  refine aw_wk (ih2 (i2 + 1) (akI S N i1 i2 a2) (by omega) hX2) (And.intro rfl (And.intro (congrArg (fun x => some (Value.int x)) (Eq.symm (by rw [hak]; unfold ab; first | (rw [if_pos h109]; done) | (rw [if_neg h109, if_pos h115]; done) | (rw [if_neg h109, if_neg h115]; done)))) (And.intro (congrArg (fun x => some (Value.int x)) (Eq.symm (by rw [hak]; unfold ab; first | (rw [if_pos h109]; done) | (rw [if_neg h109, if_pos h115]; done) | (rw [if_neg h109, if_neg h115]; done)))) (And.intro (congrArg (fun x => some (Value.int x)) (Eq.symm (by rw [hak]; unfold ab; first | (rw [if_pos h109]; done) | (rw [if_neg h109, if_pos h115]; done) | (rw [if_neg h109, if_neg h115]; done)))) (And.intro rfl (And.intro (congrArg (fun x => some (Value.int x)) (nI_1 i2)) True.intro))))))
                · refine aw_goto (tgt := 133) rfl (by decide) ?_
                  refine aw_inc1 rfl rfl (by decide) ?_
                  refine aw_goto (tgt := 35) rfl (by decide) ?_
                  refine aw_wk (ih2 (i2 + 1) (akI S N i1 i2 a2) (by omega) hX2) (And.intro rfl (And.intro (congrArg (fun x => some (Value.int x)) (Eq.symm (by rw [hak]; unfold ab; first | (rw [if_pos h109]; done) | (rw [if_neg h109, if_pos h115]; done) | (rw [if_neg h109, if_neg h115]; done)))) (And.intro (congrArg (fun x => some (Value.int x)) (Eq.symm (by rw [hak]; unfold ab; first | (rw [if_pos h109]; done) | (rw [if_neg h109, if_pos h115]; done) | (rw [if_neg h109, if_neg h115]; done)))) (And.intro (congrArg (fun x => some (Value.int x)) (Eq.symm (by rw [hak]; unfold ab; first | (rw [if_pos h109]; done) | (rw [if_neg h109, if_pos h115]; done) | (rw [if_neg h109, if_neg h115]; done)))) (And.intro rfl (And.intro (congrArg (fun x => some (Value.int x)) (nI_1 i2)) True.intro))))))
            | succ d3 ih3 =>
              intro i3 a3 hi3 hX3
              simp only [fd] at hX3
              refine aw_iload rfl rfl ?_
              refine aw_bipush (v := 100) rfl (by decide) ?_
              refine aw_icmp_ge (tgt := 100) rfl (by decide) (fun h54 => absurd h54 (nI_ge (b := 100) (by omega) (by decide))) (fun h54 => ?_)
              refine aw_aload_n rfl rfl ?_
              refine aw_iload rfl rfl ?_
              refine aw_iV (q0 := 39) (ci := 12) rfl cw_X12_452 rfl rfl rfl (c_m_fits hb hn) rfl rfl (Nat.le_of_ble_eq_true rfl) (by decide) (by decide) (by decide) (by decide) ?_
              refine aw_if_ne (tgt := 69) rfl (by decide) (fun h63 => ?_) (fun h63 => ?_)
              · refine aw_iconst (v := 1) rfl (by decide) ?_
                refine aw_istore_n rfl (by decide) ?_
                refine aw_iload rfl rfl ?_
                refine aw_aload_n rfl rfl ?_
                refine aw_iload rfl rfl ?_
                refine aw_iload rfl rfl ?_
                refine aw_iload rfl rfl ?_
                refine aw_iV (q0 := 39) (ci := 12) rfl cw_X12_448 rfl rfl rfl (c_m_knowsBy (by omega)) rfl rfl (Nat.le_of_ble_eq_true rfl) (by decide) (by decide) (by decide) (by decide) ?_
                refine aw_if_eq (tgt := 90) rfl (by decide) (fun h83 => ?_) (fun h83 => ?_)
                · refine aw_iconst (v := -1) rfl (by decide) ?_
                  refine aw_iadd rfl ?_
                  refine aw_istore rfl (by decide) ?_
                  refine aw_inc1 rfl rfl (by decide) ?_
                  refine aw_goto (tgt := 50) rfl (by decide) ?_
                  refine aw_wk (ih3 (i3 + 1) (lnF S N i1 i2 i3 a3) (by omega) hX3) (And.intro rfl (And.intro rfl (And.intro rfl (And.intro (congrArg (fun x => some (Value.int x)) (Eq.symm (by unfold lnF; first | (rw [if_pos (bB_n0.mp h63), if_pos (bB_n0.mp h83)]; done) | (rw [if_pos (bB_n0.mp h63), bB_0.mp h83] <;> rfl) | (rw [if_neg (show ¬ ftm S N (nI i3) = true from by (rw [bB_0.mp h63]; decide))]; done)))) (And.intro rfl (And.intro rfl (And.intro (congrArg (fun x => some (Value.int x)) (Eq.symm (by unfold lnF; first | (rw [if_pos (bB_n0.mp h63), if_pos (bB_n0.mp h83)]; done) | (rw [if_pos (bB_n0.mp h63), bB_0.mp h83] <;> rfl) | (rw [if_neg (show ¬ ftm S N (nI i3) = true from by (rw [bB_0.mp h63]; decide))]; done)))) (And.intro (congrArg (fun x => some (Value.int x)) (nI_1 i3)) True.intro))))))))
                · refine aw_iconst (v := 1) rfl (by decide) ?_
                  refine aw_goto (tgt := 91) rfl (by decide) ?_
                  refine aw_iadd rfl ?_
                  refine aw_istore rfl (by decide) ?_
                  refine aw_inc1 rfl rfl (by decide) ?_
                  refine aw_goto (tgt := 50) rfl (by decide) ?_
                  refine aw_wk (ih3 (i3 + 1) (lnF S N i1 i2 i3 a3) (by omega) hX3) (And.intro rfl (And.intro rfl (And.intro rfl (And.intro (congrArg (fun x => some (Value.int x)) (Eq.symm (by unfold lnF; first | (rw [if_pos (bB_n0.mp h63), if_pos (bB_n0.mp h83)]; done) | (rw [if_pos (bB_n0.mp h63), bB_0.mp h83] <;> rfl) | (rw [if_neg (show ¬ ftm S N (nI i3) = true from by (rw [bB_0.mp h63]; decide))]; done)))) (And.intro rfl (And.intro rfl (And.intro (congrArg (fun x => some (Value.int x)) (Eq.symm (by unfold lnF; first | (rw [if_pos (bB_n0.mp h63), if_pos (bB_n0.mp h83)]; done) | (rw [if_pos (bB_n0.mp h63), bB_0.mp h83] <;> rfl) | (rw [if_neg (show ¬ ftm S N (nI i3) = true from by (rw [bB_0.mp h63]; decide))]; done)))) (And.intro (congrArg (fun x => some (Value.int x)) (nI_1 i3)) True.intro))))))))
              · refine aw_goto (tgt := 94) rfl (by decide) ?_
                refine aw_inc1 rfl rfl (by decide) ?_
                refine aw_goto (tgt := 50) rfl (by decide) ?_
                refine aw_wk (ih3 (i3 + 1) (lnF S N i1 i2 i3 a3) (by omega) hX3) (And.intro rfl (And.intro rfl (And.intro rfl (And.intro (congrArg (fun x => some (Value.int x)) (Eq.symm (by unfold lnF; first | (rw [if_pos (bB_n0.mp h63), if_pos (bB_n0.mp h83)]; done) | (rw [if_pos (bB_n0.mp h63), bB_0.mp h83] <;> rfl) | (rw [if_neg (show ¬ ftm S N (nI i3) = true from by (rw [bB_0.mp h63]; decide))]; done)))) (And.intro rfl (And.intro rfl (And.intro (congrArg (fun x => some (Value.int x)) (Eq.symm (by unfold lnF; first | (rw [if_pos (bB_n0.mp h63), if_pos (bB_n0.mp h83)]; done) | (rw [if_pos (bB_n0.mp h63), bB_0.mp h83] <;> rfl) | (rw [if_neg (show ¬ ftm S N (nI i3) = true from by (rw [bB_0.mp h63]; decide))]; done)))) (And.intro (congrArg (fun x => some (Value.int x)) (nI_1 i3)) True.intro))))))))
          refine aw_iconst (v := 0) rfl (by decide) ?_
          refine aw_istore rfl (by decide) ?_
          refine aw_iconst (v := 0) rfl (by decide) ?_
          refine aw_istore rfl (by decide) ?_
          refine aw_wk (loop3 100 0 (a2.2.2, 0) (by decide) hZ.symm) (And.intro rfl (And.intro rfl (And.intro rfl (And.intro rfl (And.intro rfl (And.intro rfl (And.intro rfl (And.intro rfl True.intro))))))))
      refine aw_iconst (v := 0) rfl (by decide) ?_
      refine aw_istore rfl (by decide) ?_
      refine aw_wk (loop2 Q 0 a1 (by omega) rfl) (And.intro rfl (And.intro rfl (And.intro rfl (And.intro rfl (And.intro rfl (And.intro rfl True.intro))))))
  refine aw_aload_n rfl rfl ?_
  refine pg_39_26 rfl kl_X12_291 ?_
  refine aw_if_ne (tgt := 14) rfl (by decide) (fun h9 => ?_) (fun h9 => ?_)
  · refine aw_iconst (v := -1) rfl (by decide) ?_
    refine aw_istore_n rfl (by decide) ?_
    refine aw_iconst (v := 0) rfl (by decide) ?_
    refine aw_istore_n rfl (by decide) ?_
    refine aw_iconst (v := 0) rfl (by decide) ?_
    refine aw_istore_n rfl (by decide) ?_
    refine aw_iconst (v := 0) rfl (by decide) ?_
    refine aw_istore rfl (by decide) ?_
    unfold m_ask
    rw [if_neg (by simpa using h9)]
    refine aw_wk (loop1 T 0 (-1, 0, 0) (by omega) rfl) (And.intro rfl (And.intro rfl (And.intro rfl (And.intro rfl (And.intro rfl True.intro)))))
  · refine aw_iconst (v := -1) rfl (by decide) ?_
    exact aw_fi rfl rfl (by unfold m_ask; rw [if_pos (by simpa using h9)]) rfl
set_option maxRecDepth 4000 in
theorem c_m_bytesIn {l : Launch} {g : ag_G} {ws : va_W} {x : Int32} : aw_F l g mi_X12_bytesIn 0 [.int x] ws (.int (bs4 x)) ws := by
  unfold bs4
  generalize hXX : bsI x [24, 16, 8, 0] 0 = X
  have l4 : ∀ c : Int32, bsI x [] c = X → aw_W l g mi_X12_bytesIn (aw_rm 0 0 0) (aw_Z g (fun r w => r = some (.int X) ∧ w = ws) 0 0) 0 0 ws 5 [some (.int x), some (.int c), some (.int (-8))] [] := by
    intro c hX
    refine aw_iload_n rfl rfl ?_
    refine aw_if_lt (tgt := 33) rfl (by decide) (fun h6 => ?_) (fun h6 => absurd h6 (by decide))
    refine aw_iload_n rfl rfl ?_
    exact aw_fi rfl rfl hX rfl
  have l3 : ∀ c : Int32, bsI x [0] c = X → aw_W l g mi_X12_bytesIn (aw_rm 0 0 0) (aw_Z g (fun r w => r = some (.int X) ∧ w = ws) 0 0) 0 0 ws 5 [some (.int x), some (.int c), some (.int 0)] [] := by
    intro c hX
    refine aw_iload_n rfl rfl ?_
    refine aw_if_lt (tgt := 33) rfl (by decide) (fun h6 => absurd h6 (by decide)) (fun h6 => ?_)
    refine aw_iload_n rfl rfl ?_
    refine aw_iload_n rfl rfl ?_
    refine aw_iload_n rfl rfl ?_
    refine aw_ishr rfl ?_
    refine aw_sipush (v := 255) rfl (by decide) ?_
    refine aw_iand rfl ?_
    refine aw_if_eq (tgt := 24) rfl (by decide) (fun h17 => ?_) (fun h17 => ?_)
    · refine aw_iconst (v := 0) rfl (by decide) ?_
      refine aw_iadd rfl ?_
      refine aw_istore_n rfl (by decide) ?_
      refine aw_iinc rfl rfl rfl (by decide) ?_
      refine aw_goto (tgt := 5) rfl (by decide) ?_
      exact aw_wk (l4 _ (Eq.trans (congrArg (bsI x []) (by first | exact (if_pos (show (x >>> ((0 : Int32) &&& 31)) &&& 255 = 0 from h17)).symm | exact (if_neg (show ¬ (x >>> ((0 : Int32) &&& 31)) &&& 255 = 0 from h17)).symm | exact (if_pos (show (x >>> ((0 : Int32) &&& 31)) &&& 255 = 0 from h17)) | exact (if_neg (show ¬ (x >>> ((0 : Int32) &&& 31)) &&& 255 = 0 from h17)))) hX)) (And.intro rfl (And.intro rfl (And.intro (congrArg (fun x => some (Value.int x)) (by decide : (0 : Int32) + Int32.ofInt (-8) = (-8))) True.intro)))
    · refine aw_iconst (v := 1) rfl (by decide) ?_
      refine aw_goto (tgt := 25) rfl (by decide) ?_
      refine aw_iadd rfl ?_
      refine aw_istore_n rfl (by decide) ?_
      refine aw_iinc rfl rfl rfl (by decide) ?_
      refine aw_goto (tgt := 5) rfl (by decide) ?_
      exact aw_wk (l4 _ (Eq.trans (congrArg (bsI x []) (by first | exact (if_pos (show (x >>> ((0 : Int32) &&& 31)) &&& 255 = 0 from h17)).symm | exact (if_neg (show ¬ (x >>> ((0 : Int32) &&& 31)) &&& 255 = 0 from h17)).symm | exact (if_pos (show (x >>> ((0 : Int32) &&& 31)) &&& 255 = 0 from h17)) | exact (if_neg (show ¬ (x >>> ((0 : Int32) &&& 31)) &&& 255 = 0 from h17)))) hX)) (And.intro rfl (And.intro rfl (And.intro (congrArg (fun x => some (Value.int x)) (by decide : (0 : Int32) + Int32.ofInt (-8) = (-8))) True.intro)))
  have l2 : ∀ c : Int32, bsI x [8, 0] c = X → aw_W l g mi_X12_bytesIn (aw_rm 0 0 0) (aw_Z g (fun r w => r = some (.int X) ∧ w = ws) 0 0) 0 0 ws 5 [some (.int x), some (.int c), some (.int 8)] [] := by
    intro c hX
    refine aw_iload_n rfl rfl ?_
    refine aw_if_lt (tgt := 33) rfl (by decide) (fun h6 => absurd h6 (by decide)) (fun h6 => ?_)
    refine aw_iload_n rfl rfl ?_
    refine aw_iload_n rfl rfl ?_
    refine aw_iload_n rfl rfl ?_
    refine aw_ishr rfl ?_
    refine aw_sipush (v := 255) rfl (by decide) ?_
    refine aw_iand rfl ?_
    refine aw_if_eq (tgt := 24) rfl (by decide) (fun h17 => ?_) (fun h17 => ?_)
    · refine aw_iconst (v := 0) rfl (by decide) ?_
      refine aw_iadd rfl ?_
      refine aw_istore_n rfl (by decide) ?_
      refine aw_iinc rfl rfl rfl (by decide) ?_
      refine aw_goto (tgt := 5) rfl (by decide) ?_
      exact aw_wk (l3 _ (Eq.trans (congrArg (bsI x [0]) (by first | exact (if_pos (show (x >>> ((8 : Int32) &&& 31)) &&& 255 = 0 from h17)).symm | exact (if_neg (show ¬ (x >>> ((8 : Int32) &&& 31)) &&& 255 = 0 from h17)).symm | exact (if_pos (show (x >>> ((8 : Int32) &&& 31)) &&& 255 = 0 from h17)) | exact (if_neg (show ¬ (x >>> ((8 : Int32) &&& 31)) &&& 255 = 0 from h17)))) hX)) (And.intro rfl (And.intro rfl (And.intro (congrArg (fun x => some (Value.int x)) (by decide : (8 : Int32) + Int32.ofInt (-8) = 0)) True.intro)))
    · refine aw_iconst (v := 1) rfl (by decide) ?_
      refine aw_goto (tgt := 25) rfl (by decide) ?_
      refine aw_iadd rfl ?_
      refine aw_istore_n rfl (by decide) ?_
      refine aw_iinc rfl rfl rfl (by decide) ?_
      refine aw_goto (tgt := 5) rfl (by decide) ?_
      exact aw_wk (l3 _ (Eq.trans (congrArg (bsI x [0]) (by first | exact (if_pos (show (x >>> ((8 : Int32) &&& 31)) &&& 255 = 0 from h17)).symm | exact (if_neg (show ¬ (x >>> ((8 : Int32) &&& 31)) &&& 255 = 0 from h17)).symm | exact (if_pos (show (x >>> ((8 : Int32) &&& 31)) &&& 255 = 0 from h17)) | exact (if_neg (show ¬ (x >>> ((8 : Int32) &&& 31)) &&& 255 = 0 from h17)))) hX)) (And.intro rfl (And.intro rfl (And.intro (congrArg (fun x => some (Value.int x)) (by decide : (8 : Int32) + Int32.ofInt (-8) = 0)) True.intro)))
  have l1 : ∀ c : Int32, bsI x [16, 8, 0] c = X → aw_W l g mi_X12_bytesIn (aw_rm 0 0 0) (aw_Z g (fun r w => r = some (.int X) ∧ w = ws) 0 0) 0 0 ws 5 [some (.int x), some (.int c), some (.int 16)] [] := by
    intro c hX
    refine aw_iload_n rfl rfl ?_
    refine aw_if_lt (tgt := 33) rfl (by decide) (fun h6 => absurd h6 (by decide)) (fun h6 => ?_)
    refine aw_iload_n rfl rfl ?_
    refine aw_iload_n rfl rfl ?_
    refine aw_iload_n rfl rfl ?_
    refine aw_ishr rfl ?_
    refine aw_sipush (v := 255) rfl (by decide) ?_
    refine aw_iand rfl ?_
    refine aw_if_eq (tgt := 24) rfl (by decide) (fun h17 => ?_) (fun h17 => ?_)
    · refine aw_iconst (v := 0) rfl (by decide) ?_
      refine aw_iadd rfl ?_
      refine aw_istore_n rfl (by decide) ?_
      refine aw_iinc rfl rfl rfl (by decide) ?_
      refine aw_goto (tgt := 5) rfl (by decide) ?_
      exact aw_wk (l2 _ (Eq.trans (congrArg (bsI x [8, 0]) (by first | exact (if_pos (show (x >>> ((16 : Int32) &&& 31)) &&& 255 = 0 from h17)).symm | exact (if_neg (show ¬ (x >>> ((16 : Int32) &&& 31)) &&& 255 = 0 from h17)).symm | exact (if_pos (show (x >>> ((16 : Int32) &&& 31)) &&& 255 = 0 from h17)) | exact (if_neg (show ¬ (x >>> ((16 : Int32) &&& 31)) &&& 255 = 0 from h17)))) hX)) (And.intro rfl (And.intro rfl (And.intro (congrArg (fun x => some (Value.int x)) (by decide : (16 : Int32) + Int32.ofInt (-8) = 8)) True.intro)))
    · refine aw_iconst (v := 1) rfl (by decide) ?_
      refine aw_goto (tgt := 25) rfl (by decide) ?_
      refine aw_iadd rfl ?_
      refine aw_istore_n rfl (by decide) ?_
      refine aw_iinc rfl rfl rfl (by decide) ?_
      refine aw_goto (tgt := 5) rfl (by decide) ?_
      exact aw_wk (l2 _ (Eq.trans (congrArg (bsI x [8, 0]) (by first | exact (if_pos (show (x >>> ((16 : Int32) &&& 31)) &&& 255 = 0 from h17)).symm | exact (if_neg (show ¬ (x >>> ((16 : Int32) &&& 31)) &&& 255 = 0 from h17)).symm | exact (if_pos (show (x >>> ((16 : Int32) &&& 31)) &&& 255 = 0 from h17)) | exact (if_neg (show ¬ (x >>> ((16 : Int32) &&& 31)) &&& 255 = 0 from h17)))) hX)) (And.intro rfl (And.intro rfl (And.intro (congrArg (fun x => some (Value.int x)) (by decide : (16 : Int32) + Int32.ofInt (-8) = 8)) True.intro)))
  have l0 : ∀ c : Int32, bsI x [24, 16, 8, 0] c = X → aw_W l g mi_X12_bytesIn (aw_rm 0 0 0) (aw_Z g (fun r w => r = some (.int X) ∧ w = ws) 0 0) 0 0 ws 5 [some (.int x), some (.int c), some (.int 24)] [] := by
    intro c hX
    refine aw_iload_n rfl rfl ?_
    refine aw_if_lt (tgt := 33) rfl (by decide) (fun h6 => absurd h6 (by decide)) (fun h6 => ?_)
    refine aw_iload_n rfl rfl ?_
    refine aw_iload_n rfl rfl ?_
    refine aw_iload_n rfl rfl ?_
    refine aw_ishr rfl ?_
    refine aw_sipush (v := 255) rfl (by decide) ?_
    refine aw_iand rfl ?_
    refine aw_if_eq (tgt := 24) rfl (by decide) (fun h17 => ?_) (fun h17 => ?_)
    · refine aw_iconst (v := 0) rfl (by decide) ?_
      refine aw_iadd rfl ?_
      refine aw_istore_n rfl (by decide) ?_
      refine aw_iinc rfl rfl rfl (by decide) ?_
      refine aw_goto (tgt := 5) rfl (by decide) ?_
      exact aw_wk (l1 _ (Eq.trans (congrArg (bsI x [16, 8, 0]) (by first | exact (if_pos (show (x >>> ((24 : Int32) &&& 31)) &&& 255 = 0 from h17)).symm | exact (if_neg (show ¬ (x >>> ((24 : Int32) &&& 31)) &&& 255 = 0 from h17)).symm | exact (if_pos (show (x >>> ((24 : Int32) &&& 31)) &&& 255 = 0 from h17)) | exact (if_neg (show ¬ (x >>> ((24 : Int32) &&& 31)) &&& 255 = 0 from h17)))) hX)) (And.intro rfl (And.intro rfl (And.intro (congrArg (fun x => some (Value.int x)) (by decide : (24 : Int32) + Int32.ofInt (-8) = 16)) True.intro)))
    · refine aw_iconst (v := 1) rfl (by decide) ?_
      refine aw_goto (tgt := 25) rfl (by decide) ?_
      refine aw_iadd rfl ?_
      refine aw_istore_n rfl (by decide) ?_
      refine aw_iinc rfl rfl rfl (by decide) ?_
      refine aw_goto (tgt := 5) rfl (by decide) ?_
      exact aw_wk (l1 _ (Eq.trans (congrArg (bsI x [16, 8, 0]) (by first | exact (if_pos (show (x >>> ((24 : Int32) &&& 31)) &&& 255 = 0 from h17)).symm | exact (if_neg (show ¬ (x >>> ((24 : Int32) &&& 31)) &&& 255 = 0 from h17)).symm | exact (if_pos (show (x >>> ((24 : Int32) &&& 31)) &&& 255 = 0 from h17)) | exact (if_neg (show ¬ (x >>> ((24 : Int32) &&& 31)) &&& 255 = 0 from h17)))) hX)) (And.intro rfl (And.intro rfl (And.intro (congrArg (fun x => some (Value.int x)) (by decide : (24 : Int32) + Int32.ofInt (-8) = 16)) True.intro)))
  refine aw_F_of mo_X12_bytesIn (by decide) (Nat.le_of_ble_eq_true rfl) ?_
  refine aw_iconst (v := 0) rfl (by decide) ?_
  refine aw_istore_n rfl (by decide) ?_
  refine aw_bipush (v := 24) rfl (by decide) ?_
  refine aw_istore_n rfl (by decide) ?_
  exact aw_wk (l0 0 hXX) (And.intro rfl (And.intro rfl (And.intro rfl True.intro)))
set_option maxRecDepth 4000 in
theorem c_m_put {l : Launch} {g : ag_G} {s : am_S} {n : am_N} {x : Int32} {a : (Nat → Int32) × Nat} (h24 : (pt4 x a).2 ≤ 240) : aw_V l g mi_X12_put 0 [.ref (g_ad g 39), .int x] (hp g (tmM s a.1 a.2) n) (hp g (tmM s (pt4 x a).1 (pt4 x a).2) n) := by
  unfold pt4 at h24 ⊢
  generalize hXX : ptI x [24, 16, 8, 0] a = X at h24
  have l4 : ∀ a : (Nat → Int32) × Nat, ptI x [] a = X → aw_W l g mi_X12_put (aw_rm 0 0 0) (aw_Z g (fun r w => r = none ∧ w = hp g (tmM s X.1 X.2) n) 0 0) 0 0 (hp g (tmM s a.1 a.2) n) 3 [some (.ref (g_ad g 39)), some (.int x), some (.int (-8))] [] := by
    intro a hX
    refine aw_iload_n rfl rfl ?_
    refine aw_if_lt (tgt := 49) rfl (by decide) (fun h4 => ?_) (fun h4 => absurd h4 (by decide))
    exact aw_fv rfl rfl (by have hx : a = X := hX; rw [hx])
  have l3 : ∀ a : (Nat → Int32) × Nat, ptI x [0] a = X → aw_W l g mi_X12_put (aw_rm 0 0 0) (aw_Z g (fun r w => r = none ∧ w = hp g (tmM s X.1 X.2) n) 0 0) 0 0 (hp g (tmM s a.1 a.2) n) 3 [some (.ref (g_ad g 39)), some (.int x), some (.int 0)] [] := by
    intro a hX
    refine aw_iload_n rfl rfl ?_
    refine aw_if_lt (tgt := 49) rfl (by decide) (fun h4 => absurd h4 (by decide)) (fun h4 => ?_)
    refine aw_iload_n rfl rfl ?_
    refine aw_iload_n rfl rfl ?_
    refine aw_ishr rfl ?_
    refine aw_sipush (v := 255) rfl (by decide) ?_
    refine aw_iand rfl ?_
    refine aw_if_ne (tgt := 20) rfl (by decide) (fun h14 => ?_) (fun h14 => ?_)
    · refine aw_aload_n rfl rfl ?_
      refine pg_39_1 rfl kl_X12_9 ?_
      refine aw_aload_n rfl rfl ?_
      refine pg_39_6 rfl kl_X12_109 ?_
      refine aw_iload_n rfl rfl ?_
      refine aw_iload_n rfl rfl ?_
      refine aw_ishr rfl ?_
      refine aw_i2b rfl ?_
      refine ps_40 rfl rfl (by have hz : ptI x [] (upd a.1 a.2 (vp_nar .byte (x >>> ((0 : Int32) &&& 31)).toInt8.toInt32), a.2 + 1) = X := Eq.trans (congrArg (ptI x []) (Eq.symm (if_neg (show ¬ (x >>> ((0 : Int32) &&& 31)) &&& 255 = 0 from h14)))) hX; have hz2 := ptI_le x [] (upd a.1 a.2 (vp_nar .byte (x >>> ((0 : Int32) &&& 31)).toInt8.toInt32), a.2 + 1); rw [hz] at hz2; have hz3 : a.2 + 1 ≤ X.2 := hz2; omega) ?_
      refine aw_aload_n rfl rfl ?_
      refine aw_dup rfl rfl ?_
      refine pg_39_6 rfl kl_X12_109 ?_
      refine aw_iconst (v := 1) rfl (by decide) ?_
      refine aw_iadd rfl ?_
      refine pp_39_6 rfl kl_X12_109 ?_
      refine aw_iinc rfl rfl rfl (by decide) ?_
      refine aw_goto (tgt := 3) rfl (by decide) ?_
      first
        | exact aw_wk (l4 a (Eq.trans (congrArg (ptI x []) (if_pos (show (x >>> ((0 : Int32) &&& 31)) &&& 255 = 0 from h14)).symm) hX)) (And.intro rfl (And.intro rfl (And.intro (congrArg (fun x => some (Value.int x)) (by decide : (0 : Int32) + Int32.ofInt (-8) = (-8))) True.intro)))
        | (refine aw_wk (aw_eqs (l4 (upd a.1 a.2 (vp_nar .byte (x >>> ((0 : Int32) &&& 31)).toInt8.toInt32), a.2 + 1) (Eq.trans (congrArg (ptI x []) (if_neg (show ¬ (x >>> ((0 : Int32) &&& 31)) &&& 255 = 0 from h14)).symm) hX)) rfl rfl (congrArg (fun z => hp g z n) ?_)) (And.intro rfl (And.intro rfl (And.intro (congrArg (fun x => some (Value.int x)) (by decide : (0 : Int32) + Int32.ofInt (-8) = (-8))) True.intro)))
           refine Eq.trans ?_ (tmM_w (s := s) (f := a.1) (m := a.2) (v := (vp_nar .byte (x >>> ((0 : Int32) &&& 31)).toInt8.toInt32)))
           exact congrArg (up _ 39 6) (nI_1 a.2))
    · refine aw_goto (tgt := 43) rfl (by decide) ?_
      refine aw_iinc rfl rfl rfl (by decide) ?_
      refine aw_goto (tgt := 3) rfl (by decide) ?_
      first
        | exact aw_wk (l4 a (Eq.trans (congrArg (ptI x []) (if_pos (show (x >>> ((0 : Int32) &&& 31)) &&& 255 = 0 from h14)).symm) hX)) (And.intro rfl (And.intro rfl (And.intro (congrArg (fun x => some (Value.int x)) (by decide : (0 : Int32) + Int32.ofInt (-8) = (-8))) True.intro)))
        | (refine aw_wk (aw_eqs (l4 (upd a.1 a.2 (vp_nar .byte (x >>> ((0 : Int32) &&& 31)).toInt8.toInt32), a.2 + 1) (Eq.trans (congrArg (ptI x []) (if_neg (show ¬ (x >>> ((0 : Int32) &&& 31)) &&& 255 = 0 from h14)).symm) hX)) rfl rfl (congrArg (fun z => hp g z n) ?_)) (And.intro rfl (And.intro rfl (And.intro (congrArg (fun x => some (Value.int x)) (by decide : (0 : Int32) + Int32.ofInt (-8) = (-8))) True.intro)))
           refine Eq.trans ?_ (tmM_w (s := s) (f := a.1) (m := a.2) (v := (vp_nar .byte (x >>> ((0 : Int32) &&& 31)).toInt8.toInt32)))
           exact congrArg (up _ 39 6) (nI_1 a.2))
  have l2 : ∀ a : (Nat → Int32) × Nat, ptI x [8, 0] a = X → aw_W l g mi_X12_put (aw_rm 0 0 0) (aw_Z g (fun r w => r = none ∧ w = hp g (tmM s X.1 X.2) n) 0 0) 0 0 (hp g (tmM s a.1 a.2) n) 3 [some (.ref (g_ad g 39)), some (.int x), some (.int 8)] [] := by
    intro a hX
    refine aw_iload_n rfl rfl ?_
    refine aw_if_lt (tgt := 49) rfl (by decide) (fun h4 => absurd h4 (by decide)) (fun h4 => ?_)
    refine aw_iload_n rfl rfl ?_
    refine aw_iload_n rfl rfl ?_
    refine aw_ishr rfl ?_
    refine aw_sipush (v := 255) rfl (by decide) ?_
    refine aw_iand rfl ?_
    refine aw_if_ne (tgt := 20) rfl (by decide) (fun h14 => ?_) (fun h14 => ?_)
    · refine aw_aload_n rfl rfl ?_
      refine pg_39_1 rfl kl_X12_9 ?_
      refine aw_aload_n rfl rfl ?_
      refine pg_39_6 rfl kl_X12_109 ?_
      refine aw_iload_n rfl rfl ?_
      refine aw_iload_n rfl rfl ?_
      refine aw_ishr rfl ?_
      refine aw_i2b rfl ?_
      refine ps_40 rfl rfl (by have hz : ptI x [0] (upd a.1 a.2 (vp_nar .byte (x >>> ((8 : Int32) &&& 31)).toInt8.toInt32), a.2 + 1) = X := Eq.trans (congrArg (ptI x [0]) (Eq.symm (if_neg (show ¬ (x >>> ((8 : Int32) &&& 31)) &&& 255 = 0 from h14)))) hX; have hz2 := ptI_le x [0] (upd a.1 a.2 (vp_nar .byte (x >>> ((8 : Int32) &&& 31)).toInt8.toInt32), a.2 + 1); rw [hz] at hz2; have hz3 : a.2 + 1 ≤ X.2 := hz2; omega) ?_
      refine aw_aload_n rfl rfl ?_
      refine aw_dup rfl rfl ?_
      refine pg_39_6 rfl kl_X12_109 ?_
      refine aw_iconst (v := 1) rfl (by decide) ?_
      refine aw_iadd rfl ?_
      refine pp_39_6 rfl kl_X12_109 ?_
      refine aw_iinc rfl rfl rfl (by decide) ?_
      refine aw_goto (tgt := 3) rfl (by decide) ?_
      first
        | exact aw_wk (l3 a (Eq.trans (congrArg (ptI x [0]) (if_pos (show (x >>> ((8 : Int32) &&& 31)) &&& 255 = 0 from h14)).symm) hX)) (And.intro rfl (And.intro rfl (And.intro (congrArg (fun x => some (Value.int x)) (by decide : (8 : Int32) + Int32.ofInt (-8) = 0)) True.intro)))
        | (refine aw_wk (aw_eqs (l3 (upd a.1 a.2 (vp_nar .byte (x >>> ((8 : Int32) &&& 31)).toInt8.toInt32), a.2 + 1) (Eq.trans (congrArg (ptI x [0]) (if_neg (show ¬ (x >>> ((8 : Int32) &&& 31)) &&& 255 = 0 from h14)).symm) hX)) rfl rfl (congrArg (fun z => hp g z n) ?_)) (And.intro rfl (And.intro rfl (And.intro (congrArg (fun x => some (Value.int x)) (by decide : (8 : Int32) + Int32.ofInt (-8) = 0)) True.intro)))
           refine Eq.trans ?_ (tmM_w (s := s) (f := a.1) (m := a.2) (v := (vp_nar .byte (x >>> ((8 : Int32) &&& 31)).toInt8.toInt32)))
           exact congrArg (up _ 39 6) (nI_1 a.2))
    · refine aw_goto (tgt := 43) rfl (by decide) ?_
      refine aw_iinc rfl rfl rfl (by decide) ?_
      refine aw_goto (tgt := 3) rfl (by decide) ?_
      first
        | exact aw_wk (l3 a (Eq.trans (congrArg (ptI x [0]) (if_pos (show (x >>> ((8 : Int32) &&& 31)) &&& 255 = 0 from h14)).symm) hX)) (And.intro rfl (And.intro rfl (And.intro (congrArg (fun x => some (Value.int x)) (by decide : (8 : Int32) + Int32.ofInt (-8) = 0)) True.intro)))
        | (refine aw_wk (aw_eqs (l3 (upd a.1 a.2 (vp_nar .byte (x >>> ((8 : Int32) &&& 31)).toInt8.toInt32), a.2 + 1) (Eq.trans (congrArg (ptI x [0]) (if_neg (show ¬ (x >>> ((8 : Int32) &&& 31)) &&& 255 = 0 from h14)).symm) hX)) rfl rfl (congrArg (fun z => hp g z n) ?_)) (And.intro rfl (And.intro rfl (And.intro (congrArg (fun x => some (Value.int x)) (by decide : (8 : Int32) + Int32.ofInt (-8) = 0)) True.intro)))
           refine Eq.trans ?_ (tmM_w (s := s) (f := a.1) (m := a.2) (v := (vp_nar .byte (x >>> ((8 : Int32) &&& 31)).toInt8.toInt32)))
           exact congrArg (up _ 39 6) (nI_1 a.2))
  have l1 : ∀ a : (Nat → Int32) × Nat, ptI x [16, 8, 0] a = X → aw_W l g mi_X12_put (aw_rm 0 0 0) (aw_Z g (fun r w => r = none ∧ w = hp g (tmM s X.1 X.2) n) 0 0) 0 0 (hp g (tmM s a.1 a.2) n) 3 [some (.ref (g_ad g 39)), some (.int x), some (.int 16)] [] := by
    intro a hX
    refine aw_iload_n rfl rfl ?_
    refine aw_if_lt (tgt := 49) rfl (by decide) (fun h4 => absurd h4 (by decide)) (fun h4 => ?_)
    refine aw_iload_n rfl rfl ?_
    refine aw_iload_n rfl rfl ?_
    refine aw_ishr rfl ?_
    refine aw_sipush (v := 255) rfl (by decide) ?_
    refine aw_iand rfl ?_
    refine aw_if_ne (tgt := 20) rfl (by decide) (fun h14 => ?_) (fun h14 => ?_)
    · refine aw_aload_n rfl rfl ?_
      refine pg_39_1 rfl kl_X12_9 ?_
      refine aw_aload_n rfl rfl ?_
      refine pg_39_6 rfl kl_X12_109 ?_
      refine aw_iload_n rfl rfl ?_
      refine aw_iload_n rfl rfl ?_
      refine aw_ishr rfl ?_
      refine aw_i2b rfl ?_
      refine ps_40 rfl rfl (by have hz : ptI x [8, 0] (upd a.1 a.2 (vp_nar .byte (x >>> ((16 : Int32) &&& 31)).toInt8.toInt32), a.2 + 1) = X := Eq.trans (congrArg (ptI x [8, 0]) (Eq.symm (if_neg (show ¬ (x >>> ((16 : Int32) &&& 31)) &&& 255 = 0 from h14)))) hX; have hz2 := ptI_le x [8, 0] (upd a.1 a.2 (vp_nar .byte (x >>> ((16 : Int32) &&& 31)).toInt8.toInt32), a.2 + 1); rw [hz] at hz2; have hz3 : a.2 + 1 ≤ X.2 := hz2; omega) ?_
      refine aw_aload_n rfl rfl ?_
      refine aw_dup rfl rfl ?_
      refine pg_39_6 rfl kl_X12_109 ?_
      refine aw_iconst (v := 1) rfl (by decide) ?_
      refine aw_iadd rfl ?_
      refine pp_39_6 rfl kl_X12_109 ?_
      refine aw_iinc rfl rfl rfl (by decide) ?_
      refine aw_goto (tgt := 3) rfl (by decide) ?_
      first
        | exact aw_wk (l2 a (Eq.trans (congrArg (ptI x [8, 0]) (if_pos (show (x >>> ((16 : Int32) &&& 31)) &&& 255 = 0 from h14)).symm) hX)) (And.intro rfl (And.intro rfl (And.intro (congrArg (fun x => some (Value.int x)) (by decide : (16 : Int32) + Int32.ofInt (-8) = 8)) True.intro)))
        | (refine aw_wk (aw_eqs (l2 (upd a.1 a.2 (vp_nar .byte (x >>> ((16 : Int32) &&& 31)).toInt8.toInt32), a.2 + 1) (Eq.trans (congrArg (ptI x [8, 0]) (if_neg (show ¬ (x >>> ((16 : Int32) &&& 31)) &&& 255 = 0 from h14)).symm) hX)) rfl rfl (congrArg (fun z => hp g z n) ?_)) (And.intro rfl (And.intro rfl (And.intro (congrArg (fun x => some (Value.int x)) (by decide : (16 : Int32) + Int32.ofInt (-8) = 8)) True.intro)))
           refine Eq.trans ?_ (tmM_w (s := s) (f := a.1) (m := a.2) (v := (vp_nar .byte (x >>> ((16 : Int32) &&& 31)).toInt8.toInt32)))
           exact congrArg (up _ 39 6) (nI_1 a.2))
    · refine aw_goto (tgt := 43) rfl (by decide) ?_
      refine aw_iinc rfl rfl rfl (by decide) ?_
      refine aw_goto (tgt := 3) rfl (by decide) ?_
      first
        | exact aw_wk (l2 a (Eq.trans (congrArg (ptI x [8, 0]) (if_pos (show (x >>> ((16 : Int32) &&& 31)) &&& 255 = 0 from h14)).symm) hX)) (And.intro rfl (And.intro rfl (And.intro (congrArg (fun x => some (Value.int x)) (by decide : (16 : Int32) + Int32.ofInt (-8) = 8)) True.intro)))
        | (refine aw_wk (aw_eqs (l2 (upd a.1 a.2 (vp_nar .byte (x >>> ((16 : Int32) &&& 31)).toInt8.toInt32), a.2 + 1) (Eq.trans (congrArg (ptI x [8, 0]) (if_neg (show ¬ (x >>> ((16 : Int32) &&& 31)) &&& 255 = 0 from h14)).symm) hX)) rfl rfl (congrArg (fun z => hp g z n) ?_)) (And.intro rfl (And.intro rfl (And.intro (congrArg (fun x => some (Value.int x)) (by decide : (16 : Int32) + Int32.ofInt (-8) = 8)) True.intro)))
           refine Eq.trans ?_ (tmM_w (s := s) (f := a.1) (m := a.2) (v := (vp_nar .byte (x >>> ((16 : Int32) &&& 31)).toInt8.toInt32)))
           exact congrArg (up _ 39 6) (nI_1 a.2))
  have l0 : ∀ a : (Nat → Int32) × Nat, ptI x [24, 16, 8, 0] a = X → aw_W l g mi_X12_put (aw_rm 0 0 0) (aw_Z g (fun r w => r = none ∧ w = hp g (tmM s X.1 X.2) n) 0 0) 0 0 (hp g (tmM s a.1 a.2) n) 3 [some (.ref (g_ad g 39)), some (.int x), some (.int 24)] [] := by
    intro a hX
    refine aw_iload_n rfl rfl ?_
    refine aw_if_lt (tgt := 49) rfl (by decide) (fun h4 => absurd h4 (by decide)) (fun h4 => ?_)
    refine aw_iload_n rfl rfl ?_
    refine aw_iload_n rfl rfl ?_
    refine aw_ishr rfl ?_
    refine aw_sipush (v := 255) rfl (by decide) ?_
    refine aw_iand rfl ?_
    refine aw_if_ne (tgt := 20) rfl (by decide) (fun h14 => ?_) (fun h14 => ?_)
    · refine aw_aload_n rfl rfl ?_
      refine pg_39_1 rfl kl_X12_9 ?_
      refine aw_aload_n rfl rfl ?_
      refine pg_39_6 rfl kl_X12_109 ?_
      refine aw_iload_n rfl rfl ?_
      refine aw_iload_n rfl rfl ?_
      refine aw_ishr rfl ?_
      refine aw_i2b rfl ?_
      refine ps_40 rfl rfl (by have hz : ptI x [16, 8, 0] (upd a.1 a.2 (vp_nar .byte (x >>> ((24 : Int32) &&& 31)).toInt8.toInt32), a.2 + 1) = X := Eq.trans (congrArg (ptI x [16, 8, 0]) (Eq.symm (if_neg (show ¬ (x >>> ((24 : Int32) &&& 31)) &&& 255 = 0 from h14)))) hX; have hz2 := ptI_le x [16, 8, 0] (upd a.1 a.2 (vp_nar .byte (x >>> ((24 : Int32) &&& 31)).toInt8.toInt32), a.2 + 1); rw [hz] at hz2; have hz3 : a.2 + 1 ≤ X.2 := hz2; omega) ?_
      refine aw_aload_n rfl rfl ?_
      refine aw_dup rfl rfl ?_
      refine pg_39_6 rfl kl_X12_109 ?_
      refine aw_iconst (v := 1) rfl (by decide) ?_
      refine aw_iadd rfl ?_
      refine pp_39_6 rfl kl_X12_109 ?_
      refine aw_iinc rfl rfl rfl (by decide) ?_
      refine aw_goto (tgt := 3) rfl (by decide) ?_
      first
        | exact aw_wk (l1 a (Eq.trans (congrArg (ptI x [16, 8, 0]) (if_pos (show (x >>> ((24 : Int32) &&& 31)) &&& 255 = 0 from h14)).symm) hX)) (And.intro rfl (And.intro rfl (And.intro (congrArg (fun x => some (Value.int x)) (by decide : (24 : Int32) + Int32.ofInt (-8) = 16)) True.intro)))
        | (refine aw_wk (aw_eqs (l1 (upd a.1 a.2 (vp_nar .byte (x >>> ((24 : Int32) &&& 31)).toInt8.toInt32), a.2 + 1) (Eq.trans (congrArg (ptI x [16, 8, 0]) (if_neg (show ¬ (x >>> ((24 : Int32) &&& 31)) &&& 255 = 0 from h14)).symm) hX)) rfl rfl (congrArg (fun z => hp g z n) ?_)) (And.intro rfl (And.intro rfl (And.intro (congrArg (fun x => some (Value.int x)) (by decide : (24 : Int32) + Int32.ofInt (-8) = 16)) True.intro)))
           refine Eq.trans ?_ (tmM_w (s := s) (f := a.1) (m := a.2) (v := (vp_nar .byte (x >>> ((24 : Int32) &&& 31)).toInt8.toInt32)))
           exact congrArg (up _ 39 6) (nI_1 a.2))
    · refine aw_goto (tgt := 43) rfl (by decide) ?_
      refine aw_iinc rfl rfl rfl (by decide) ?_
      refine aw_goto (tgt := 3) rfl (by decide) ?_
      first
        | exact aw_wk (l1 a (Eq.trans (congrArg (ptI x [16, 8, 0]) (if_pos (show (x >>> ((24 : Int32) &&& 31)) &&& 255 = 0 from h14)).symm) hX)) (And.intro rfl (And.intro rfl (And.intro (congrArg (fun x => some (Value.int x)) (by decide : (24 : Int32) + Int32.ofInt (-8) = 16)) True.intro)))
        | (refine aw_wk (aw_eqs (l1 (upd a.1 a.2 (vp_nar .byte (x >>> ((24 : Int32) &&& 31)).toInt8.toInt32), a.2 + 1) (Eq.trans (congrArg (ptI x [16, 8, 0]) (if_neg (show ¬ (x >>> ((24 : Int32) &&& 31)) &&& 255 = 0 from h14)).symm) hX)) rfl rfl (congrArg (fun z => hp g z n) ?_)) (And.intro rfl (And.intro rfl (And.intro (congrArg (fun x => some (Value.int x)) (by decide : (24 : Int32) + Int32.ofInt (-8) = 16)) True.intro)))
           refine Eq.trans ?_ (tmM_w (s := s) (f := a.1) (m := a.2) (v := (vp_nar .byte (x >>> ((24 : Int32) &&& 31)).toInt8.toInt32)))
           exact congrArg (up _ 39 6) (nI_1 a.2))
  refine aw_V_of mo_X12_put (by decide) (Nat.le_of_ble_eq_true rfl) ?_
  refine aw_bipush (v := 24) rfl (by decide) ?_
  refine aw_istore_n rfl (by decide) ?_
  exact aw_wk (l0 a hXX) (And.intro rfl (And.intro rfl (And.intro rfl True.intro)))
def pfA (s : am_S) (m : Nat) (x1 x2 x3 x4 x5 : Int32) : (Nat → Int32) × Nat := pt4 x5 (pt4 x4 (pt4 x3 (pt4 x2 (pt4 x1 (s 40, m)))))
def m_feed (s : am_S) (m : Nat) (x1 x2 x3 x4 x5 : Int32) : Int32 × am_S := if s 39 6 + bs4 x1 + bs4 x2 + bs4 x3 + bs4 x4 + bs4 x5 ≤ 240 then (nI (pfA s m x1 x2 x3 x4 x5).2, tmM s (pfA s m x1 x2 x3 x4 x5).1 (pfA s m x1 x2 x3 x4 x5).2) else (-1, s)
theorem bs_pt (x : Int32) : ∀ (L : List Int32) (c : Nat) (a : (Nat → Int32) × Nat), ∃ e, e ≤ L.length ∧ bsI x L (nI c) = nI (c + e) ∧ (ptI x L a).2 = a.2 + e
  | [], c, a => ⟨0, Nat.le_refl _, rfl, rfl⟩
  | h :: t, c, a => by
    simp only [bsI, ptI]
    by_cases hz : (x >>> (h &&& 31)) &&& 255 = 0
    · rw [if_pos hz, if_pos hz]
      obtain ⟨e, he, h1, h2⟩ := bs_pt x t c a
      exact ⟨e, Nat.le_succ_of_le he, by rw [← h1]; congr 1; exact nI_add c 0, h2⟩
    · rw [if_neg hz, if_neg hz]
      obtain ⟨e, he, h1, h2⟩ := bs_pt x t (c + 1) (upd a.1 a.2 (vp_nar .byte (x >>> (h &&& 31)).toInt8.toInt32), a.2 + 1)
      exact ⟨e + 1, Nat.succ_le_succ he, by rw [show nI c + 1 = nI (c + 1) from nI_1 c, h1]; congr 1; omega, by rw [h2]; simp only; omega⟩
theorem bs_pt4 (x : Int32) (a : (Nat → Int32) × Nat) : ∃ e, e ≤ 4 ∧ bs4 x = nI e ∧ (pt4 x a).2 = a.2 + e := by
  obtain ⟨e, he, h1, h2⟩ := bs_pt x [24, 16, 8, 0] 0 a
  exact ⟨e, he, by rw [show e = 0 + e by omega, ← h1]; rfl, h2⟩
set_option maxRecDepth 4000 in
theorem c_m_feed {l : Launch} {g : ag_G} {s : am_S} {n : am_N} {m : Nat} {x1 x2 x3 x4 x5 : Int32} (hm : s 39 6 = nI m) (hm4 : m ≤ 240) : aw_F l g mi_X12_feed 1 [.ref (g_ad g 39), .int x1, .int x2, .int x3, .int x4, .int x5] (hp g s n) (.int (m_feed (up s 39 0 0) m x1 x2 x3 x4 x5).1) (hp g ((m_feed (up s 39 0 0) m x1 x2 x3 x4 x5).2) n) := by
  refine aw_F_of mo_X12_feed (by decide) (Nat.le_of_ble_eq_true rfl) ?_
  refine aw_aload_n rfl rfl ?_
  refine aw_iconst (v := 0) rfl (by decide) ?_
  refine pp_39_0 rfl kl_X12_96 ?_
  have hm : (up s 39 0 0) 39 6 = nI m := hm
  skip
  generalize up s 39 0 0 = S at *
  obtain ⟨e1, b1, f1, g1⟩ := bs_pt4 x1 (S 40, m)
  obtain ⟨e2, b2, f2, g2⟩ := bs_pt4 x2 (pt4 x1 (S 40, m))
  obtain ⟨e3, b3, f3, g3⟩ := bs_pt4 x3 (pt4 x2 (pt4 x1 (S 40, m)))
  obtain ⟨e4, b4, f4, g4⟩ := bs_pt4 x4 (pt4 x3 (pt4 x2 (pt4 x1 (S 40, m))))
  obtain ⟨e5, b5, f5, g5⟩ := bs_pt4 x5 (pt4 x4 (pt4 x3 (pt4 x2 (pt4 x1 (S 40, m)))))
  simp only at g1
  refine aw_aload_n rfl rfl ?_
  refine pg_39_6 rfl kl_X12_109 ?_
  refine aw_iload_n rfl rfl ?_
  refine aw_iS rfl cw_X12_111 (c_m_bytesIn) rfl rfl (Nat.le_of_ble_eq_true rfl) (by decide) (by decide) (by decide) (by decide) ?_
  refine aw_iadd rfl ?_
  refine aw_iload_n rfl rfl ?_
  refine aw_iS rfl cw_X12_111 (c_m_bytesIn) rfl rfl (Nat.le_of_ble_eq_true rfl) (by decide) (by decide) (by decide) (by decide) ?_
  refine aw_iadd rfl ?_
  refine aw_iload_n rfl rfl ?_
  refine aw_iS rfl cw_X12_111 (c_m_bytesIn) rfl rfl (Nat.le_of_ble_eq_true rfl) (by decide) (by decide) (by decide) (by decide) ?_
  refine aw_iadd rfl ?_
  refine aw_iload rfl rfl ?_
  refine aw_iS rfl cw_X12_111 (c_m_bytesIn) rfl rfl (Nat.le_of_ble_eq_true rfl) (by decide) (by decide) (by decide) (by decide) ?_
  refine aw_iadd rfl ?_
  refine aw_iload rfl rfl ?_
  refine aw_iS rfl cw_X12_111 (c_m_bytesIn) rfl rfl (Nat.le_of_ble_eq_true rfl) (by decide) (by decide) (by decide) (by decide) ?_
  refine aw_iadd rfl ?_
  refine aw_sipush (v := 240) rfl (by decide) ?_
  refine aw_icmp_le (tgt := 44) rfl (by decide) (fun h39 => ?_) (fun h39 => ?_)
  · have q : S 39 6 + bs4 x1 + bs4 x2 + bs4 x3 + bs4 x4 + bs4 x5 ≤ 240 := h39
    have q2 : m + e1 + e2 + e3 + e4 + e5 ≤ 240 := by (rw [hm, f1, f2, f3, f4, f5, nI_add, nI_add, nI_add, nI_add, nI_add] at q; exact (nI_leI (b := 240) (by omega) (by decide)).mp q)
    unfold m_feed
    rw [if_pos q]
    have hs : S = tmM S ((S 40, m) : (Nat → Int32) × Nat).1 ((S 40, m) : (Nat → Int32) × Nat).2 := (tmM_rf hm).symm
    refine aw_eqs (ws' := hp g (tmM S ((S 40, m) : (Nat → Int32) × Nat).1 ((S 40, m) : (Nat → Int32) × Nat).2) n) ?_ rfl rfl (congrArg (fun z => hp g z n) hs)
    refine aw_aload_n rfl rfl ?_
    refine aw_iload_n rfl rfl ?_
    refine aw_vV (q0 := 39) (ci := 12) rfl cw_X12_115 rfl rfl rfl (c_m_put (s := S) (a := (S 40, m)) (by omega)) rfl rfl (Nat.le_of_ble_eq_true rfl) (by decide) (by decide) (by decide) (by decide) ?_
    refine aw_aload_n rfl rfl ?_
    refine aw_iload_n rfl rfl ?_
    refine aw_vV (q0 := 39) (ci := 12) rfl cw_X12_115 rfl rfl rfl (c_m_put (s := S) (by omega)) rfl rfl (Nat.le_of_ble_eq_true rfl) (by decide) (by decide) (by decide) (by decide) ?_
    refine aw_aload_n rfl rfl ?_
    refine aw_iload_n rfl rfl ?_
    refine aw_vV (q0 := 39) (ci := 12) rfl cw_X12_115 rfl rfl rfl (c_m_put (s := S) (by omega)) rfl rfl (Nat.le_of_ble_eq_true rfl) (by decide) (by decide) (by decide) (by decide) ?_
    refine aw_aload_n rfl rfl ?_
    refine aw_iload rfl rfl ?_
    refine aw_vV (q0 := 39) (ci := 12) rfl cw_X12_115 rfl rfl rfl (c_m_put (s := S) (by omega)) rfl rfl (Nat.le_of_ble_eq_true rfl) (by decide) (by decide) (by decide) (by decide) ?_
    refine aw_aload_n rfl rfl ?_
    refine aw_iload rfl rfl ?_
    refine aw_vV (q0 := 39) (ci := 12) rfl cw_X12_115 rfl rfl rfl (c_m_put (s := S) (by omega)) rfl rfl (Nat.le_of_ble_eq_true rfl) (by decide) (by decide) (by decide) (by decide) ?_
    refine aw_aload_n rfl rfl ?_
    refine pg_39_6 rfl kl_X12_109 ?_
    exact aw_fi rfl rfl rfl rfl
  · refine aw_iconst (v := -1) rfl (by decide) ?_
    exact aw_fi rfl rfl (by unfold m_feed; rw [if_neg (show ¬ S 39 6 + bs4 x1 + bs4 x2 + bs4 x3 + bs4 x4 + bs4 x5 ≤ 240 from h39)]) (by unfold m_feed; rw [if_neg (show ¬ S 39 6 + bs4 x1 + bs4 x2 + bs4 x3 + bs4 x4 + bs4 x5 ≤ 240 from h39)])
