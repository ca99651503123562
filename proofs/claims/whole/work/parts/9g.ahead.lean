/-! what is told of months ahead: class and reference -/
theorem fs_no {P : Nat → Bool} : ∀ (d i : Nat), fs P i d = none ↔ ∀ q, i ≤ q → q < i + d → P q = false
  | 0, i => ⟨fun _ q h1 h2 => absurd h2 (by omega), fun _ => rfl⟩
  | d + 1, i => by
    simp only [fs]
    by_cases h : P i = true
    · rw [if_pos h]
      exact ⟨fun z => (nomatch z), fun z => absurd h (by rw [z i (Nat.le_refl _) (by omega)]; decide)⟩
    · rw [if_neg h, fs_no d (i + 1)]
      refine ⟨fun z q h1 h2 => ?_, fun z q h1 h2 => z q (by omega) (by omega)⟩
      by_cases e : q = i
      · rw [e]; exact Bool.eq_false_iff.mpr h
      · exact z q (by omega) (by omega)
theorem fs_more {P : Nat → Bool} {e : Nat} : ∀ (d i q : Nat), fs P i d = some q → fs P i (d + e) = some q
  | 0, _, _, h => nomatch h
  | d + 1, i, q, h => by
    rw [show d + 1 + e = d + e + 1 by omega]
    simp only [fs] at h ⊢
    by_cases hp : P i = true
    · rw [if_pos hp] at h ⊢; exact h
    · rw [if_neg hp] at h ⊢; exact fs_more d (i + 1) q h
theorem fs_per {P : Nat → Bool} {m : Nat} (h : ∀ i, i < 60 → P (i + 12) = P i) (hm : m ≤ 60) : fs P 0 (min m 12) = fs P 0 m := by
  by_cases h12 : m ≤ 12
  · rw [Nat.min_eq_left h12]
  · rw [Nat.min_eq_right (by omega)]
    cases hf : fs P 0 12 with
    | some q =>
      have := fs_more (e := m - 12) 12 0 q hf
      rw [show 12 + (m - 12) = m by omega] at this
      exact this.symm
    | none =>
      have h0 := (fs_no 12 0).mp hf
      refine ((fs_no m 0).mpr ?_).symm
      have key : ∀ n q, q < 12 * (n + 1) → q < 72 → P q = false := by
        intro n
        induction n with
        | zero => intro q hq _; exact h0 q (by omega) (by omega)
        | succ n ih =>
          intro q hq h7
          by_cases e : q < 12
          · exact h0 q (by omega) (by omega)
          · have := h (q - 12) (by omega)
            rw [show q - 12 + 12 = q by omega] at this
            rw [this]
            exact ih (q - 12) (by omega) (by omega)
      intro q _ h2
      exact key 5 q (by omega) (by omega)
theorem rm_nI {t : Nat} (h : t < 2 ^ 31) : rm12 (nI t) = nI (t % 12) := pk_rem (d := 12) h (by decide) (by decide)
theorem rl_hb {V : (Nat → Int32) → Int32} {sc sm : am_S} {T Q j : Nat} {a b c d : Int32} (hS : SR sc sm T Q) (hw : RW (sc 16) (sm 52) T Q) (hj : j < T) : hd V sc j a b c d = hbm V sm (sm 52) j a b c d := by
  unfold hd hbm
  obtain ⟨o, ho, hoe⟩ := hS.1.2.2.2.2 j hj
  have hQ := hS.1.2.2.2.1
  obtain ⟨h1, h2, h3⟩ := hS.2.2.1 j hj
  rw [← h1, ← h3, hoe, cl_nI (by omega), (hw.2.2 o ho).1]
theorem rl_mlt {V : (Nat → Int32) → Int32} {sc sm : am_S} {T Q j : Nat} {a b c : Int32} (hS : SR sc sm T Q) (hw : RW (sc 16) (sm 52) T Q) (hj : j < T) : mlt V sc j a b c = mtm V sm j a b c := by
  funext i
  unfold mlt mtm
  rw [rl_hb hS hw hj, hw.1.2.1, hw.1.2.2.2.2]
theorem mtm_per {V : (Nat → Int32) → Int32} {sm : am_S} {j tm i : Nat} {a b c : Int32} (ht : sm 52 35 = nI tm) (ht9 : tm ≤ 9999) (hi : i < 1000) : mtm V sm j a b c (i + 12) = mtm V sm j a b c i := by
  unfold mtm hbm warm
  rw [ht, nI_add, nI_add, rm_nI (by omega), rm_nI (by omega), show (tm + (i + 12)) % 12 = (tm + i) % 12 by omega]
/-- where a thing first melts -/
def mX (V : (Nat → Int32) → Int32) (sm : am_S) (j : Nat) (h w : Int32) (m : Nat) : Option Nat := fs (mtm V sm j (sm 46 (5 * j + 1) + h) (sm 52 (3 * j + 1) + w) (sm 52 (3 * j))) 0 m
theorem rl_mU {V : (Nat → Int32) → Int32} {sc sm : am_S} {T Q j m tm : Nat} {h w : Int32} (hS : SR sc sm T Q) (hw : RW (sc 16) (sm 52) T Q) (ht : sm 52 35 = nI tm) (ht9 : tm ≤ 9999) (hj : j < T) (hm : m ≤ 60) : mU V sc j h w m = o1 (mX V sm j h w m) ∧ mnm V sm j h w m = oN (mX V sm j h w m) := by
  refine ⟨?_, rfl⟩
  unfold mU mX
  rw [rl_mlt hS hw hj, (hS.2.2.1 j hj).2.1, (hw.2.1 j hj).1, (hw.2.1 j hj).2.1, fs_per (fun i hi => mtm_per ht ht9 (by omega)) hm]
theorem o1_0 {x : Option Nat} {m : Nat} (h : ∀ q, x = some q → q < 100) : (o1 x = 0 ↔ x = none) ∧ (oN x = -1 ↔ x = none) ∧ (if o1 x = 0 then -1 else o1 x) = oN x ∧ (o1 x ≤ 0 ↔ x = none) := by
  cases x with
  | none => exact ⟨⟨fun _ => rfl, fun _ => rfl⟩, ⟨fun _ => rfl, fun _ => rfl⟩, rfl, ⟨fun _ => rfl, fun _ => by decide⟩⟩
  | some q =>
    have hq := h q rfl
    have e : nI q + 1 = nI (q + 1) := nI_1 q
    have h0 : ¬ nI q + 1 = 0 := by rw [e]; exact nI_ne0 (by omega) (by omega)
    refine ⟨⟨fun z => absurd z h0, fun z => (nomatch z)⟩, ⟨fun z => absurd z (by show ¬ nI q + 1 = -1; rw [e]; exact nI_m1n (by omega)), fun z => (nomatch z)⟩, ?_, ⟨fun z => absurd z (by show ¬ nI q + 1 ≤ 0; rw [e]; exact nI_nle (by omega) (by omega)), fun z => (nomatch z)⟩⟩
    show (if nI q + 1 = 0 then -1 else nI q + 1) = nI q + 1
    rw [if_neg h0]
theorem mX_lt {V : (Nat → Int32) → Int32} {sm : am_S} {j m : Nat} {h w : Int32} (hm : m ≤ 60) : ∀ q, mX V sm j h w m = some q → q < 100 := fun q hq => by
  have := (fs_some m 0 q hq).1
  omega
theorem sl_F {s : am_S} {t : Int32} : sl s t = slF s (s 16) t := rfl
theorem rl_d0 {sc sm : am_S} {T Q j : Nat} (hS : SR sc sm T Q) (hw : RW (sc 16) (sm 52) T Q) (hb : RB (sm 52) T Q) (hj : j < T) : sl sc (nI j) = true ↔ ¬ sm 52 (3 * j + 1) = 0 := by
  rw [sl_F, ← rl_sl hS hw hb]
  have hT := hS.1.2.1
  unfold shm isTm
  rw [cl_nI (by omega), hS.2.1.1, decide_eq_true (nI_pos' (by omega)), decide_eq_true (nI_lt hj (by omega))]
  simp
theorem t_lasts {V : (Nat → Int32) → Int32} {sc S : am_S} {T Q q a : Nat} {tt : Nat → Nat} {t : Int32} (hS : SR sc S T Q) (hH : HR sc S T Q q a tt) : q_lasts V sc t = m_lasts V S t := by
  obtain ⟨hw, hb, ⟨ht, ht9, -⟩, -⟩ := hH.2.2.1
  unfold q_lasts m_lasts
  rw [rl_T hS]
  by_cases h1 : isT sc t = true
  · rw [if_pos h1, if_pos h1]
    obtain ⟨j, hj, rfl⟩ := isT_nI hS.1 h1
    have hT := hS.1.2.1
    rw [cl_nI (by omega)]
    unfold mTM
    have hU := rl_mU (V := V) (h := 0) (w := 0) (m := 60) hS hw ht ht9 hj (by decide)
    have ho := o1_0 (m := 60) (mX_lt (V := V) (sm := S) (j := j) (h := 0) (w := 0) (m := 60) (by decide))
    by_cases h2 : S 52 (3 * j + 1) = 0
    · rw [if_neg (fun z => (rl_d0 hS hw hb hj).mp z h2), if_pos h2]
    · rw [if_pos ((rl_d0 hS hw hb hj).mpr h2), if_neg h2, hU.1, hU.2]
      exact ho.2.2.1
  · rw [if_neg h1, if_neg h1]
theorem rl_wN {V : (Nat → Int32) → Int32} {sc sm : am_S} {T Q j m tm : Nat} (hS : SR sc sm T Q) (hw : RW (sc 16) (sm 52) T Q) (hb : RB (sm 52) T Q) (ht : sm 52 35 = nI tm) (ht9 : tm ≤ 9999) (hj : j < T) (hm : m ≤ 60) : wN V sc j m = if sm 52 (3 * j + 1) = 0 then 0 else ndm V sm j m := by
  unfold wN ndm
  have hp : (fun e => decide (mU V sc j 0 (nI e) m = 0)) = fun e => decide (mnm V sm j 0 (nI e) m = -1) := by
    funext e
    have hU := rl_mU (V := V) (h := 0) (w := nI e) (m := m) hS hw ht ht9 hj hm
    have ho := o1_0 (m := m) (mX_lt (V := V) (sm := sm) (j := j) (h := 0) (w := nI e) (m := m) hm)
    rw [hU.1, hU.2]
    exact decide_eq_decide.mpr (ho.1.trans ho.2.1.symm)
  rw [hp, (hw.2.1 j hj).2.1]
  by_cases h2 : sm 52 (3 * j + 1) = 0
  · rw [if_neg (fun z => (rl_d0 hS hw hb hj).mp z h2), if_pos h2]
  · rw [if_pos ((rl_d0 hS hw hb hj).mpr h2), if_neg h2]
    cases fs (fun e => decide (mnm V sm j 0 (nI e) m = -1)) 0 (10 - cl (sm 52 (3 * j + 1))) <;> rfl
theorem nA_of {k : Int32} (h : ¬ inn k.toInt64 1 24 = true) : nA k = true := by
  unfold nA
  by_cases h1 : k < 1
  · rw [decide_eq_true h1]; rfl
  · by_cases h2 : k ≤ 24
    · obtain ⟨m, hm, rfl⟩ := nI_of2 (M := 24) (n := 24) (by decide) (fun z => h1 (Int32.lt_of_lt_of_le z (by decide))) h2
      have m1 : 1 ≤ m := by
        by_cases e : 1 ≤ m
        · exact e
        · exact absurd (show nI m < 1 from nI_lt (b := 1) (by omega) (by decide)) h1
      exact absurd ((inn_1M (M := 24) (by decide) (by decide)).mpr ⟨m, m1, hm, rfl⟩) h
    · rw [decide_eq_false h2]; cases decide (k < 1) <;> rfl
theorem nA_no {k : Int32} (h : inn k.toInt64 1 24 = true) : nA k = false := by
  obtain ⟨m, m1, m2, rfl⟩ := (inn_1M (M := 24) (by decide) (by decide)).mp h
  unfold nA
  rw [decide_eq_false (show ¬ nI m < 1 from nI_nlt (b := 1) m1 (by omega)), decide_eq_true (show nI m ≤ 24 from nI_le (b := 24) m2 (by decide))]
  rfl
theorem t_harden {V : (Nat → Int32) → Int32} {sc S : am_S} {T Q q a : Nat} {tt : Nat → Nat} {t k : Int32} (hS : SR sc S T Q) (hH : HR sc S T Q q a tt) : q_harden V sc t k = m_harden V S t k := by
  obtain ⟨hw, hb, ⟨ht, ht9, -⟩, -⟩ := hH.2.2.1
  unfold q_harden m_harden
  rw [sl_F, rl_sl hS hw hb]
  by_cases h1 : slF sc (sc 16) t = true
  · rw [if_neg (by rw [h1]; decide), if_pos h1]
    have h1' := h1
    unfold slF at h1'
    obtain ⟨j, hj, rfl⟩ := isT_nI hS.1 (Bool.and_eq_true_iff.mp h1').1
    have hT := hS.1.2.1
    rw [cl_nI (by omega)]
    by_cases h2 : inn k.toInt64 1 24 = true
    · rw [if_pos h2]
      obtain ⟨m, m1, m2, rfl⟩ := (inn_1M (M := 24) (by decide) (by decide)).mp h2
      rw [if_neg (by unfold nA; rw [decide_eq_false (show ¬ nI m < 1 from nI_nlt (b := 1) m1 (by omega)), decide_eq_true (show nI m ≤ 24 from nI_le (b := 24) m2 (by decide))]; decide), cl_nI (by omega)]
      unfold hB
      have hp : (fun e => decide (mU V sc j (nI e) 0 m = 0)) = fun e => decide (mnm V S j (nI e) 0 m = -1) := by
        funext e
        have hU := rl_mU (V := V) (h := nI e) (w := 0) (m := m) hS hw ht ht9 hj (by omega)
        have ho := o1_0 (m := m) (mX_lt (V := V) (sm := S) (j := j) (h := nI e) (w := 0) (m := m) (by omega))
        rw [hU.1, hU.2]
        exact decide_eq_decide.mpr (ho.1.trans ho.2.1.symm)
      rw [hp]
      cases fs (fun e => decide (mnm V S j (nI e) 0 m = -1)) 0 41 <;> rfl
    · rw [if_neg h2, if_pos (nA_of h2)]
  · rw [if_pos (Bool.eq_false_iff.mpr h1), if_neg h1]
