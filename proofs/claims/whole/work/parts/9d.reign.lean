/-! reigns on both sides -/
theorem rl_stp {V : (Nat → Int32) → Int32} {sc sm : am_S} {f h : Nat → Int32} {T Q R tm G : Nat} (hS : SR sc sm T Q) (hw : RW f h T Q) (hb : RB h T Q) (h0 : 0 < sc 15 6) (ht : h 35 = nI tm) (ht9 : tm ≤ 9999) (hG : h 36 = nI G) (hG6 : G ≤ 60) (hk : ∃ c, c ≤ 3 ∧ sm 50 R = nI c) : (cStm sm h R = true → ¬ (kAct V sc T f (sm 50 R) (sm 50 (R + 1)) (sm 50 (R + 2))).1 = -1 ∧ RW (kAct V sc T f (sm 50 R) (sm 50 (R + 1)) (sm 50 (R + 2))).2 (gSt V sm T Q h R) T Q ∧ RB (gSt V sm T Q h R) T Q ∧ (∃ tm', tm' ≤ 9999 ∧ gSt V sm T Q h R 35 = nI tm') ∧ ∃ G', G' ≤ 60 ∧ gSt V sm T Q h R 36 = nI G') ∧ (cStm sm h R = false → kAct V sc T f (sm 50 R) (sm 50 (R + 1)) (sm 50 (R + 2)) = (-1, f)) := by
  obtain ⟨c, hc, hce⟩ := hk
  have hAR : ∀ (z : Int32 × (Nat → Int32)) (ok : Bool) (v : Int32) (h' : Nat → Int32), AR f h T Q z ok v h' → (ok = true → ¬ z.1 = -1 ∧ RW z.2 h' T Q ∧ RB h' T Q ∧ (∃ tm', tm' ≤ 9999 ∧ h' 35 = nI tm') ∧ ∃ G', G' ≤ 60 ∧ h' 36 = nI G') ∧ (ok = false → z = (-1, f)) := by
    intro z ok v h' hA
    refine ⟨fun hok => ?_, hA.2⟩
    obtain ⟨g1, g2, g3, g4, g5⟩ := hA.1 hok
    exact ⟨by rw [g1]; exact g2, g3, g4, ⟨tm, ht9, (g5 35 (by decide)).trans ht⟩, ⟨G, hG6, (g5 36 (by decide)).trans hG⟩⟩
  have hcs : c = 0 ∨ c = 1 ∨ c = 2 ∨ c = 3 := by omega
  rcases hcs with rfl | rfl | rfl | rfl
  · have e0 : sm 50 R = 0 := hce
    have ek : ∀ b d, kAct V sc T f (sm 50 R) b d = kMonth V sc T f := fun b d => by unfold kAct; rw [if_pos e0]
    rw [ek]
    unfold cStm gSt
    rw [if_pos e0, if_pos e0, hG, cl_nI (by omega)]
    constructor
    · intro hok
      have h9 : tm < 9999 := by
        have h1 := of_decide_eq_true hok
        rw [ht] at h1
        exact (nI_ltI (a := tm) (b := 9999) (by omega) (by decide)).mp h1
      obtain ⟨g1, ⟨m, hm, g2⟩, g3, g4, g5, g6, -⟩ := rl_month (V := V) hS hw hb h0 ht h9 hG6
      exact ⟨by rw [g2]; exact nI_nm hm, g3, g4, ⟨tm + 1, by omega, g5⟩, g6⟩
    · intro hok
      unfold kMonth
      rw [if_pos h0, if_neg (by rw [hw.1.2.2.2.2]; exact of_decide_eq_false hok)]
  · have e1 : sm 50 R = 1 := hce
    have ek : ∀ b d, kAct V sc T f (sm 50 R) b d = kSeal sc f b d := fun b d => by rw [e1]; unfold kAct; rw [if_neg (by decide), if_pos rfl]
    rw [ek]
    unfold cStm gSt
    rw [e1, if_neg (by decide), if_pos rfl, if_neg (by decide), if_pos rfl]
    exact hAR _ _ _ _ (rl_seal hS hw hb)
  · have e1 : sm 50 R = 2 := hce
    have ek : ∀ b d, kAct V sc T f (sm 50 R) b d = kPry sc f b d := fun b d => by rw [e1]; unfold kAct; rw [if_neg (by decide), if_neg (by decide), if_pos rfl]
    rw [ek]
    unfold cStm gSt
    rw [e1, if_neg (by decide), if_neg (by decide), if_pos rfl, if_neg (by decide), if_neg (by decide), if_pos rfl]
    exact hAR _ _ _ _ (rl_pry hS hw hb)
  · have e1 : sm 50 R = 3 := hce
    have ek : ∀ b d, kAct V sc T f (sm 50 R) b d = kOpen sc f b := fun b d => by rw [e1]; unfold kAct; rw [if_neg (by decide), if_neg (by decide), if_neg (by decide), if_pos rfl]
    rw [ek]
    unfold cStm gSt
    rw [e1, if_neg (by decide), if_neg (by decide), if_neg (by decide), if_neg (by decide), if_neg (by decide), if_neg (by decide)]
    exact hAR _ _ _ _ (rl_open hS hw hb)
/-- a reign, step by step, the same on both sides -/
def PRn (sm : am_S) (k : Nat) (L : Nat) (F : Nat → Int32) : Prop := ∀ i, i < L → (∀ x, x < 3 → sm 50 (3 * (16 * k + i) + x) = F (3 * i + x)) ∧ ∃ c, c ≤ 3 ∧ F (3 * i) = nI c
theorem PR_k {sm : am_S} {k L i : Nat} {F : Nat → Int32} (h : PRn sm k L F) (hi : i < L) : sm 50 (3 * (16 * k + i)) = F (3 * i) ∧ sm 50 (3 * (16 * k + i) + 1) = F (3 * i + 1) ∧ sm 50 (3 * (16 * k + i) + 2) = F (3 * i + 2) ∧ ∃ c, c ≤ 3 ∧ sm 50 (3 * (16 * k + i)) = nI c := by
  have h0 := (h i hi).1 0 (by decide)
  have h1 := (h i hi).1 1 (by decide)
  have h2 := (h i hi).1 2 (by decide)
  obtain ⟨c, hc, hce⟩ := (h i hi).2
  exact ⟨h0, h1, h2, c, hc, h0.trans hce⟩
theorem rl_rn {V : (Nat → Int32) → Int32} {sc sm : am_S} {T Q k L : Nat} {F : Nat → Int32} (hS : SR sc sm T Q) (h0 : 0 < sc 15 6) (hP : PRn sm k L F) : ∀ (d i : Nat) (f h : Nat → Int32), i + d = L → RW f h T Q → RB h T Q → (∃ tm, tm ≤ 9999 ∧ h 35 = nI tm) → (∃ G, G ≤ 60 ∧ h 36 = nI G) → (rcL V sc T F d i f).1 = (rnL V sm T Q k d i h).1 ∧ RW (rcL V sc T F d i f).2 (rnL V sm T Q k d i h).2 T Q
  | 0, i, f, h, _, hw, _, _, _ => ⟨rfl, hw⟩
  | d + 1, i, f, h, hi, hw, hb, ⟨tm, ht9, ht⟩, ⟨G, hG6, hG⟩ => by
    obtain ⟨p0, p1, p2, hk⟩ := PR_k hP (i := i) (by omega)
    have hst := rl_stp (V := V) hS hw hb h0 ht ht9 hG hG6 hk
    simp only [rcL, rnL]
    rw [← p0, ← p1, ← p2]
    by_cases hc : cStm sm h (3 * (16 * k + i)) = true
    · obtain ⟨g1, g2, g3, g4, g5⟩ := hst.1 hc
      rw [if_neg g1, if_pos hc]
      exact rl_rn hS h0 hP d (i + 1) _ _ (by omega) g2 g3 g4 g5
    · have hn := hst.2 (Bool.eq_false_iff.mpr hc)
      rw [if_neg hc, hn, if_pos rfl]
      exact ⟨rfl, hw⟩
theorem rnL_le {V : (Nat → Int32) → Int32} {s : am_S} {T Q k : Nat} : ∀ (d i : Nat) (f : Nat → Int32), (rnL V s T Q k d i f).1 ≤ i + d
  | 0, _, _ => Nat.le_refl _
  | d + 1, i, f => by
    simp only [rnL]
    split
    · have := rnL_le (V := V) (s := s) (T := T) (Q := Q) (k := k) d (i + 1) (gSt V s T Q f (3 * (16 * k + i)))
      omega
    · show i ≤ _; omega
theorem t_run {V : (Nat → Int32) → Int32} {sc S : am_S} {T Q P q a : Nat} {tt : Nat → Nat} {pL : Nat → Nat} {pF : Nat → Nat → Int32} {k x : Int32} (hS : SR sc S T Q) (hH : HR sc S T Q q a tt) (hP : sc 0 6 = nI P) (hP' : S 39 30 = nI P) (hP4 : P ≤ 4) (hR : ∀ q, q < P → pL q ≤ 16 ∧ S 51 q = nI (pL q) ∧ PRn S q (pL q) (pF q)) : q_run V sc T pL pF k x = m_run V S T Q k x := by
  unfold q_run m_run
  have hpc : isPm S k = isPc sc k := by unfold isPm isPc; rw [hP, hP']
  rw [hpc]
  by_cases hk : isPc sc k = true
  · rw [if_pos hk, if_pos hk]
    by_cases h0 : S 39 26 = 0
    · rw [if_neg (fun z => (rl_0 hS).mp z h0), if_pos h0]
    · have hp := (rl_0 hS).mpr h0
      rw [if_pos hp, if_neg h0]
      have hk' := hk
      unfold isPc at hk'
      simp only [Bool.and_eq_true, decide_eq_true_eq] at hk'
      rw [hP] at hk'
      obtain ⟨j, hj, rfl⟩ := nI_lt7 (by omega) hk'.1 hk'.2
      have hcj : cl (nI j) = j := cl_nI (by omega)
      rw [hcj]
      obtain ⟨hL, h51, hPR⟩ := hR j hj
      have hcl : cl (S 51 j) = pL j := by rw [h51]; exact cl_nI (by omega)
      rw [hcl, h51]
      by_cases hx : inn x.toInt64 0 1 = true
      · obtain ⟨x0, hx0, rfl⟩ := (inn_0 (M := 1) (by decide) (by decide)).mp hx
        rw [if_neg (nI_pos (by omega)), if_pos (show nI x0 ≤ 1 from nI_le (b := 1) hx0 (by decide)), if_pos hx]
        obtain ⟨hw, hb, ht, -⟩ := hH.2.2.1
        have hcp : ∀ j, j < 36 → upd (va_cpy (S 52) (S 53) 0 0 36) 36 0 j = S 52 j := by
          intro j hj
          rw [upd_n (by omega), pk_cpy_in (by omega) (by omega)]
          exact congrArg (S 52) (by omega)
        have hT := hS.1.2.1
        have hQ := hS.1.2.2.2.1
        have hrb : RB (upd (va_cpy (S 52) (S 53) 0 0 36) 36 0) T Q := by
          obtain ⟨⟨g1, g2, g3⟩, b2, b3⟩ := hb
          exact ⟨⟨fun j hj => by rw [hcp _ (by omega), hcp _ (by omega)]; exact g1 j hj, fun r hr => by rw [hcp _ (by omega)]; exact g2 r hr, by rw [hcp 35 (by decide)]; exact g3⟩, by rw [hcp 32 (by decide)]; exact b2, by rw [hcp 31 (by decide)]; exact b3⟩
        have hrn := rl_rn (V := V) hS hp hPR (pL j) 0 (sc 16) (upd (va_cpy (S 52) (S 53) 0 0 36) 36 0) (by omega) (RW_hi hT hQ hw hcp) hrb ⟨tt a, ht.2.1, by rw [hcp 35 (by decide)]; exact ht.1⟩ ⟨0, by decide, upd_s⟩
        have hle := rnL_le (V := V) (s := S) (T := T) (Q := Q) (k := j) (pL j) 0 (upd (va_cpy (S 52) (S 53) 0 0 36) 36 0)
        generalize rcL V sc T (pF j) (pL j) 0 (sc 16) = z at hrn ⊢
        generalize rnL V S T Q j (pL j) 0 (upd (va_cpy (S 52) (S 53) 0 0 36) 36 0) = z' at hrn hle ⊢
        dsimp only
        rw [hrn.1, hrn.2.1.2.2.1, hw.1.2.2.1]
        by_cases hx1 : nI x0 = 1
        · rw [if_pos hx1, if_pos hx1]
        · rw [if_neg hx1, if_neg hx1]
          by_cases e : z'.1 = pL j
          · rw [if_pos e, if_pos (by rw [e])]
          · rw [if_neg e, if_neg (fun z => e ((nI_eq (by omega) (by omega)).mp z))]
      · rw [if_neg hx]
        by_cases h1 : x < 0
        · rw [if_pos h1]
        · rw [if_neg h1]
          by_cases h2 : x ≤ 1
          · obtain ⟨x0, hx0, rfl⟩ := nI_of2 (M := 1) (n := 1) (by decide) h1 h2
            exact absurd ((inn_0 (M := 1) (by decide) (by decide)).mpr ⟨x0, hx0, rfl⟩) hx
          · rw [if_neg h2]
  · rw [if_neg hk, if_neg hk]
