/-! the reference: a clause of a law -/
abbrev Rc := Except Nat (Nat × Ex × Ex)
def kOk (p : Nat) (c v : Ex) : Rc := .ok (p, c, v)
def kNo (f : Nat) : Rc := .error f
def eOne : Ex := fun _ => 1
/-- where the clause's own part begins -/
def ks (tx : Nat → Nat) (E p : Nat) : Nat := skw tx E (skw tx E p + 1) + 1
def CY (tx : Nat → Nat) (E p : Nat) : Prop := cst tx E p = 121 ∧ cst tx E (skw tx E p + 1) = 58
def CQ (tx : Nat → Nat) (E p : Nat) : Prop := cst tx E (ks tx E p) = 33 ∨ cst tx E (ks tx E p) = 40
def CZ (tx : Nat → Nat) (E p : Nat) (r : Rc) : Prop :=
  (cst tx E p ≠ 121 ∧ r = kNo (skw tx E p)) ∨
  (cst tx E p = 121 ∧ cst tx E (skw tx E p + 1) ≠ 58 ∧ r = kNo (skw tx E (skw tx E p + 1))) ∨
  (CY tx E p ∧ CQ tx E p ∧ ∃ f, PZ tx E nCond 0 (skw tx E (ks tx E p)) (rNo f) ∧ r = kNo f) ∨
  (CY tx E p ∧ CQ tx E p ∧ ∃ p3 c, PZ tx E nCond 0 (skw tx E (ks tx E p)) (rOk p3 c) ∧ cst tx E p3 ≠ 63 ∧ r = kNo (skw tx E p3)) ∨
  (CY tx E p ∧ CQ tx E p ∧ ∃ p3 c f, PZ tx E nCond 0 (skw tx E (ks tx E p)) (rOk p3 c) ∧ cst tx E p3 = 63 ∧ PZ tx E nSum 0 (skw tx E p3 + 1) (rNo f) ∧ r = kNo f) ∨
  (CY tx E p ∧ CQ tx E p ∧ ∃ p3 c p4 v, PZ tx E nCond 0 (skw tx E (ks tx E p)) (rOk p3 c) ∧ cst tx E p3 = 63 ∧ PZ tx E nSum 0 (skw tx E p3 + 1) (rOk p4 v) ∧ r = kOk p4 c v) ∨
  (CY tx E p ∧ ¬ CQ tx E p ∧ ∃ f, PZ tx E nSum 0 (skw tx E (ks tx E p)) (rNo f) ∧ r = kNo f) ∨
  (CY tx E p ∧ ¬ CQ tx E p ∧ ∃ p3 v, PZ tx E nSum 0 (skw tx E (ks tx E p)) (rOk p3 v) ∧ sgC (cst tx E p3) = false ∧ r = kOk (skw tx E p3) eOne v) ∨
  (CY tx E p ∧ ¬ CQ tx E p ∧ ∃ p3 u f, PZ tx E nSum 0 (skw tx E (ks tx E p)) (rOk p3 u) ∧ sgC (cst tx E p3) = true ∧ PZ tx E (nCond1 u) 0 (skw tx E p3) (rNo f) ∧ r = kNo f) ∨
  (CY tx E p ∧ ¬ CQ tx E p ∧ ∃ p3 u p4 c, PZ tx E nSum 0 (skw tx E (ks tx E p)) (rOk p3 u) ∧ sgC (cst tx E p3) = true ∧ PZ tx E (nCond1 u) 0 (skw tx E p3) (rOk p4 c) ∧ cst tx E p4 ≠ 63 ∧ r = kNo (skw tx E p4)) ∨
  (CY tx E p ∧ ¬ CQ tx E p ∧ ∃ p3 u p4 c f, PZ tx E nSum 0 (skw tx E (ks tx E p)) (rOk p3 u) ∧ sgC (cst tx E p3) = true ∧ PZ tx E (nCond1 u) 0 (skw tx E p3) (rOk p4 c) ∧ cst tx E p4 = 63 ∧ PZ tx E nSum 0 (skw tx E p4 + 1) (rNo f) ∧ r = kNo f) ∨
  (CY tx E p ∧ ¬ CQ tx E p ∧ ∃ p3 u p4 c p5 v, PZ tx E nSum 0 (skw tx E (ks tx E p)) (rOk p3 u) ∧ sgC (cst tx E p3) = true ∧ PZ tx E (nCond1 u) 0 (skw tx E p3) (rOk p4 c) ∧ cst tx E p4 = 63 ∧ PZ tx E nSum 0 (skw tx E p4 + 1) (rOk p5 v) ∧ r = kOk p5 c v)
theorem ks_b {tx : Nat → Nat} {E p : Nat} (h : CY tx E p) (hp : p ≤ E) : p + 2 ≤ ks tx E p ∧ ks tx E p ≤ E := by
  have h1 := skw_b (tx := tx) hp
  have h2 := cst_lt (tx := tx) (E := E) (p := p) (by rw [h.1]; decide)
  have h3 := skw_b (tx := tx) (E := E) (p := skw tx E p + 1) (by omega)
  have h4 := cst_lt (tx := tx) (E := E) (p := skw tx E p + 1) (by rw [h.2]; decide)
  unfold ks
  omega
theorem q_lt {tx : Nat → Nat} {E p : Nat} {c : Int32} (h : cst tx E p = c) (hc : c ≠ -1) : skw tx E p + 1 ≤ E := by
  have := cst_lt (tx := tx) (E := E) (p := p) (by rw [h]; exact hc)
  omega
theorem CZ_ex {tx : Nat → Nat} {E p : Nat} (hp : p ≤ E) : ∃ r, CZ tx E p r := by
  have ex : ∀ q, q ≤ E → _ := fun q hq => PZ_ex tx E (E + 1) q 0 hq (by omega) (by decide)
  by_cases h1 : cst tx E p = 121
  · by_cases h2 : cst tx E (skw tx E p + 1) = 58
    · have hy : CY tx E p := ⟨h1, h2⟩
      have hb := ks_b hy hp
      have hq := skw_b (tx := tx) hb.2
      by_cases h3 : CQ tx E p
      · obtain ⟨r, hr⟩ := (ex _ hq.2.1).2.2.2.2.2.2.2.2.2.2.1
        cases r with
        | error f => exact ⟨_, Or.inr (Or.inr (Or.inl ⟨hy, h3, f, hr, rfl⟩))⟩
        | ok z =>
          have g := PZ_pr hr hq.2.1
          by_cases h4 : cst tx E z.1 = 63
          · obtain ⟨r2, hr2⟩ := (ex _ (q_lt h4 (by decide))).2.2.2.1
            cases r2 with
            | error f => exact ⟨_, Or.inr (Or.inr (Or.inr (Or.inr (Or.inl ⟨hy, h3, z.1, z.2, f, hr, h4, hr2, rfl⟩))))⟩
            | ok y => exact ⟨_, Or.inr (Or.inr (Or.inr (Or.inr (Or.inr (Or.inl ⟨hy, h3, z.1, z.2, y.1, y.2, hr, h4, hr2, rfl⟩)))))⟩
          · exact ⟨_, Or.inr (Or.inr (Or.inr (Or.inl ⟨hy, h3, z.1, z.2, hr, h4, rfl⟩)))⟩
      · obtain ⟨r, hr⟩ := (ex _ hq.2.1).2.2.2.1
        cases r with
        | error f => exact ⟨_, Or.inr (Or.inr (Or.inr (Or.inr (Or.inr (Or.inr (Or.inl ⟨hy, h3, f, hr, rfl⟩))))))⟩
        | ok z =>
          have g := PZ_pr hr hq.2.1
          have hq3 := skw_b (tx := tx) (E := E) (p := z.1) g.2.1
          cases h4 : sgC (cst tx E z.1) with
          | false => exact ⟨_, Or.inr (Or.inr (Or.inr (Or.inr (Or.inr (Or.inr (Or.inr (Or.inl ⟨hy, h3, z.1, z.2, hr, h4, rfl⟩)))))))⟩
          | true =>
            obtain ⟨r2, hr2⟩ := (ex _ hq3.2.1).2.2.2.2.2.2.2.2.2.2.2.1 z.2
            cases r2 with
            | error f => exact ⟨_, Or.inr (Or.inr (Or.inr (Or.inr (Or.inr (Or.inr (Or.inr (Or.inr (Or.inl ⟨hy, h3, z.1, z.2, f, hr, h4, hr2, rfl⟩))))))))⟩
            | ok y =>
              by_cases h5 : cst tx E y.1 = 63
              · obtain ⟨r3, hr3⟩ := (ex _ (q_lt h5 (by decide))).2.2.2.1
                cases r3 with
                | error f => exact ⟨_, Or.inr (Or.inr (Or.inr (Or.inr (Or.inr (Or.inr (Or.inr (Or.inr (Or.inr (Or.inr (Or.inl ⟨hy, h3, z.1, z.2, y.1, y.2, f, hr, h4, hr2, h5, hr3, rfl⟩))))))))))⟩
                | ok x => exact ⟨_, Or.inr (Or.inr (Or.inr (Or.inr (Or.inr (Or.inr (Or.inr (Or.inr (Or.inr (Or.inr (Or.inr ⟨hy, h3, z.1, z.2, y.1, y.2, x.1, x.2, hr, h4, hr2, h5, hr3, rfl⟩))))))))))⟩
              · exact ⟨_, Or.inr (Or.inr (Or.inr (Or.inr (Or.inr (Or.inr (Or.inr (Or.inr (Or.inr (Or.inl ⟨hy, h3, z.1, z.2, y.1, y.2, hr, h4, hr2, h5, rfl⟩)))))))))⟩
    · exact ⟨_, Or.inr (Or.inl ⟨h1, h2, rfl⟩)⟩
  · exact ⟨_, Or.inl ⟨h1, rfl⟩⟩
def gdC (E p : Nat) : Rc → Prop
  | .ok z => p + 3 ≤ z.1 ∧ z.1 ≤ E
  | .error f => f ≤ E
theorem CZ_pr {tx : Nat → Nat} {E p : Nat} {r : Rc} (h : CZ tx E p r) (hp : p ≤ E) : gdC E p r := by
  have hk := skw_b (tx := tx) hp
  rcases h with ⟨h1, rfl⟩ | ⟨h1, h2, rfl⟩ | ⟨hy, hq, f, h1, rfl⟩ | ⟨hy, hq, p3, c, h1, h2, rfl⟩ | ⟨hy, hq, p3, c, f, h1, h2, h3, rfl⟩ | ⟨hy, hq, p3, c, p4, v, h1, h2, h3, rfl⟩ | ⟨hy, hq, f, h1, rfl⟩ | ⟨hy, hq, p3, v, h1, h2, rfl⟩ | ⟨hy, hq, p3, u, f, h1, h2, h3, rfl⟩ | ⟨hy, hq, p3, u, p4, c, h1, h2, h3, h4, rfl⟩ | ⟨hy, hq, p3, u, p4, c, f, h1, h2, h3, h4, h5, rfl⟩ | ⟨hy, hq, p3, u, p4, c, p5, v, h1, h2, h3, h4, h5, rfl⟩
  · exact hk.2.1
  · exact (skw_b (tx := tx) (E := E) (p := skw tx E p + 1) (q_lt h1 (by decide))).2.1
  all_goals have hb := ks_b hy hp
  all_goals have hs := skw_b (tx := tx) hb.2
  all_goals have g1 := PZ_pr h1 hs.2.1
  · exact g1.2
  · exact (skw_b (tx := tx) (E := E) (p := p3) g1.2.1).2.1
  · exact (PZ_pr h3 (q_lt h2 (by decide))).2
  · have g2 := PZ_pr h3 (q_lt h2 (by decide))
    have a1 : skw tx E (ks tx E p) < p3 := g1.2.2 rfl
    have a2 : skw tx E p3 + 1 ≤ p4 := g2.1
    have a3 := skw_b (tx := tx) (E := E) (p := p3) g1.2.1
    exact ⟨by show p + 3 ≤ p4; omega, g2.2.1⟩
  · exact g1.2
  · have a1 : skw tx E (ks tx E p) < p3 := g1.2.2 rfl
    have a3 := skw_b (tx := tx) (E := E) (p := p3) g1.2.1
    exact ⟨by show p + 3 ≤ skw tx E p3; omega, a3.2.1⟩
  · exact (PZ_pr h3 (skw_b (tx := tx) (E := E) (p := p3) g1.2.1).2.1).2
  · have g2 := PZ_pr h3 (skw_b (tx := tx) (E := E) (p := p3) g1.2.1).2.1
    exact (skw_b (tx := tx) (E := E) (p := p4) g2.2.1).2.1
  · exact (PZ_pr h5 (q_lt h4 (by decide))).2
  · have g2 := PZ_pr h3 (skw_b (tx := tx) (E := E) (p := p3) g1.2.1).2.1
    have g3 := PZ_pr h5 (q_lt h4 (by decide))
    have a1 : skw tx E (ks tx E p) < p3 := g1.2.2 rfl
    have a3 := skw_b (tx := tx) (E := E) (p := p3) g1.2.1
    have a4 : skw tx E p3 ≤ p4 := g2.1
    have a5 := skw_b (tx := tx) (E := E) (p := p4) g2.2.1
    have a6 : skw tx E p4 + 1 ≤ p5 := g3.1
    exact ⟨by show p + 3 ≤ p5; omega, g3.2.1⟩
def fnd (s : am_S) (c v : Int32) : am_S := if s 39 17 = 0 then (if c = 0 then s else up (up s 39 17 1) 39 14 v) else s
def PC (g : ag_G) (s : am_S) (n : am_N) (A : Nat → Int32) : Rc → Option Value → va_W → Prop
  | .ok z => fun r y => r = none ∧ y = hp g (pst (fnd s (z.2.1 A) (z.2.2 A)) z.1 0 (-1)) n
  | .error f => fun r y => r = none ∧ ∃ p d, y = hp g (pfl s p d f) n
theorem pst_fn {s : am_S} {p w : Nat} {f v : Int32} : up (up (pst s p w f) 39 17 1) 39 14 v = pst (up (up s 39 17 1) 39 14 v) p w f := by
  unfold pst
  rw [up_cs (i := 11) (j := 17) (by decide), up_cs (i := 12) (j := 17) (by decide), up_cs (i := 10) (j := 17) (by decide), up_cs (i := 11) (j := 14) (by decide), up_cs (i := 12) (j := 14) (by decide), up_cs (i := 10) (j := 14) (by decide)]
theorem xsp8 {c : Int32} : (xsp 8 c).isSome = decide (c = 121) := by
  show (if decide (xch 8 0 = c) = true then some 0 else none).isSome = _
  rw [show xch 8 0 = 121 from rfl]
  by_cases h : c = 121
  · rw [h]; rfl
  · rw [if_neg (by rw [decide_eq_false (fun e => h e.symm)]; exact Bool.false_ne_true), decide_eq_false h]; rfl
set_option maxRecDepth 4000 in
theorem c_m_clause {l : Launch} {g : ag_G} {s : am_S} {n : am_N} {B b E : Nat} {tx : Nat → Nat} {A : Nat → Int32} (hx : aw_hx g) (hT : TX s n B b E tx) (hL : ∀ i, i < 6 → s 43 (asN i) = A i) (hA : ∀ i, i < 6 → bd (A i)) {p : Nat} {r : Rc} (h : CZ tx E p r) (hpE : p ≤ E) (hlb : s 39 13 = 121) (hfb : bb (s 39 17)) : aw_M l g mi_X12_clause 30 0 0 [.ref (g_ad g 39)] (hp g (pst s p 0 (-1)) n) (PC g s n A r) := by
  have hE := hT.2.2.2.1
  have hk := skw_b (tx := tx) hpE
  have hgC := CZ_pr h hpE
  have ra := fun (nt : Nt) (q : Nat) (r : Rs) (hq : q ≤ E) (hz : PZ tx E nt 0 q r) => rm_all (l := l) (nt := nt) (w := 0) hx hT hL hA hz hq (by decide)
  have fin : ∀ (q : Nat) (c v : Ex) (L4 : Option Value), r = kOk q c v → bb (c A) → aw_W l g mi_X12_clause (aw_rm 30 0 0) (aw_Z g (PC g s n A r) 0 0) 0 0 (hp g (pst s q 0 (-1)) n) 134 [some (.ref (g_ad g 39)), some (.int (cst tx E p)), some (.int (c A)), some (.int (v A)), none] [] := by
    intro q c v L4 hr hcb
    subst hr
    have h121 : cst tx E p = 121 := by
      rcases h with ⟨h1, e⟩ | ⟨h1, h2, e⟩ | ⟨hy, hq, f, h1, e⟩ | ⟨hy, hq, e⟩ | ⟨hy, hq, e⟩ | ⟨hy, hq, e⟩ | ⟨hy, hq, e⟩ | ⟨hy, hq, e⟩ | ⟨hy, hq, e⟩ | ⟨hy, hq, e⟩ | ⟨hy, hq, e⟩ | ⟨hy, hq, e⟩
      · cases e
      · cases e
      · cases e
      all_goals exact hy.1
    refine aw_aload_n rfl rfl ?_
    refine pg_39_11 rfl kl_X12_128 ?_
    refine aw_iconst (v := -1) rfl (by decide) ?_
    refine aw_icmp_ne (tgt := 161) rfl (by decide) (fun h139 => absurd (rfl) h139) (fun h139 => ?_)
    refine aw_aload_n rfl rfl ?_
    refine pg_39_17 rfl kl_X12_197 ?_
    refine aw_if_ne (tgt := 161) rfl (by decide) (fun h146 => ?_) (fun h146 => ?_)
    · first
      | (have z : ¬ s 39 17 = 0 := h146
         exact aw_vret rfl rfl ⟨rfl, by show _ = hp g (pst (fnd s (c A) (v A)) q 0 (-1)) n; unfold fnd; rw [if_neg z]⟩)
      | (have z : s 39 17 = 0 := h146
         exact aw_vret rfl rfl ⟨rfl, by show _ = hp g (pst (fnd s (c A) (v A)) q 0 (-1)) n; unfold fnd; rw [if_pos z, if_pos h158]⟩)
    · refine aw_iload_n rfl rfl ?_
      refine aw_aload_n rfl rfl ?_
      refine pg_39_13 rfl kl_X12_201 ?_
      refine aw_icmp_ne (tgt := 161) rfl (by decide) (fun h154 => absurd (h121.trans hlb.symm) h154) (fun h154 => ?_)
      refine aw_iload_n rfl rfl ?_
      refine aw_if_ne (tgt := 162) rfl (by decide) (fun h158 => ?_) (fun h158 => ?_)
      · refine aw_aload_n rfl rfl ?_
        refine aw_iconst (v := 1) rfl (by decide) ?_
        refine pp_39_17 rfl kl_X12_197 (Or.inr rfl) ?_
        refine aw_aload_n rfl rfl ?_
        refine aw_iload_n rfl rfl ?_
        refine pp_39_14 rfl kl_X12_204 ?_
        exact aw_vret rfl rfl ⟨rfl, by show _ = hp g (pst (fnd s (c A) (v A)) q 0 (-1)) n; unfold fnd; rw [if_pos (show s 39 17 = 0 from h146), if_neg h158, ← pst_fn]⟩
      · first
        | (have z : ¬ s 39 17 = 0 := h146
           exact aw_vret rfl rfl ⟨rfl, by show _ = hp g (pst (fnd s (c A) (v A)) q 0 (-1)) n; unfold fnd; rw [if_neg z]⟩)
        | (have z : s 39 17 = 0 := h146
           exact aw_vret rfl rfl ⟨rfl, by show _ = hp g (pst (fnd s (c A) (v A)) q 0 (-1)) n; unfold fnd; rw [if_pos z, if_pos h158]⟩)
  have fal : ∀ (f q : Nat) (d : Int32) (L1 L2 L3 : Value), r = kNo f → aw_W l g mi_X12_clause (aw_rm 30 0 0) (aw_Z g (PC g s n A r) 0 0) 0 0 (hp g (pfl s q d f) n) 134 [some (.ref (g_ad g 39)), none, none, none, none] [] := by
    intro f q d _ _ _ hr
    subst hr
    have hf24 : ¬ nI f = (-1 : Int32) := nI_nm1 (by have : f ≤ E := hgC; omega)
    refine aw_aload_n rfl rfl ?_
    refine pg_39_11 rfl kl_X12_128 ?_
    refine aw_iconst (v := -1) rfl (by decide) ?_
    refine aw_icmp_ne (tgt := 161) rfl (by decide) (fun h139 => ?_) (fun h139 => absurd h139 (hf24))
    exact aw_vret rfl rfl ⟨rfl, _, _, rfl⟩
  have fa2 : ∀ (f q : Nat) (d : Int32) (pc : Nat), r = kNo f → m_at mi_X12_clause pc = some (.return_, 1) → ∀ L, aw_W l g mi_X12_clause (aw_rm 30 0 0) (aw_Z g (PC g s n A r) 0 0) 0 0 (hp g (pfl s q d f) n) pc L [] := by
    intro f q d pc hr hpc L
    subst hr
    exact aw_vret hpc rfl ⟨rfl, q, d, rfl⟩
  refine aw_M_of mo_X12_clause (by decide) (Nat.le_of_ble_eq_true rfl) ?_
  by_cases hy1 : cst tx E p = 121
  · have hnx := q_lt hy1 (by decide)
    by_cases hy2 : cst tx E (skw tx E p + 1) = 58
    · have hy : CY tx E p := ⟨hy1, hy2⟩
      have hkb := (ks_b hy hpE).2
      have hks := skw_b (tx := tx) hkb
      by_cases hq : CQ tx E p
      · have hrest : ∃ rc, PZ tx E nCond 0 (skw tx E (ks tx E p)) rc ∧ ((∃ f, rc = rNo f ∧ r = kNo f) ∨ (∃ p3 c, rc = rOk p3 c ∧ cst tx E p3 ≠ 63 ∧ r = kNo (skw tx E p3)) ∨ (∃ p3 c rs, rc = rOk p3 c ∧ cst tx E p3 = 63 ∧ PZ tx E nSum 0 (skw tx E p3 + 1) rs ∧ ((∃ f, rs = rNo f ∧ r = kNo f) ∨ ∃ p4 v, rs = rOk p4 v ∧ r = kOk p4 c v))) := by
          rcases h with ⟨h1, e⟩ | ⟨h1, h2, e⟩ | ⟨_, _, f, h1, e⟩ | ⟨_, _, p3, c, h1, h2, e⟩ | ⟨_, _, p3, c, f, h1, h2, h3, e⟩ | ⟨_, _, p3, c, p4, v, h1, h2, h3, e⟩ | ⟨_, nq, _⟩ | ⟨_, nq, _⟩ | ⟨_, nq, _⟩ | ⟨_, nq, _⟩ | ⟨_, nq, _⟩ | ⟨_, nq, _⟩
          · exact absurd hy1 h1
          · exact absurd hy2 h2
          · exact ⟨_, h1, Or.inl ⟨f, rfl, e⟩⟩
          · exact ⟨_, h1, Or.inr (Or.inl ⟨p3, c, rfl, h2, e⟩)⟩
          · exact ⟨_, h1, Or.inr (Or.inr ⟨p3, c, _, rfl, h2, h3, Or.inl ⟨f, rfl, e⟩⟩)⟩
          · exact ⟨_, h1, Or.inr (Or.inr ⟨p3, c, _, rfl, h2, h3, Or.inr ⟨p4, v, rfl, e⟩⟩)⟩
          all_goals exact absurd hq nq
        obtain ⟨rc, hz, hcase⟩ := hrest
        have hgz := PZ_pr hz hks.2.1
        have hcc := ra _ _ _ hks.2.1 hz
        have start : aw_W l g mi_X12_clause (aw_rm 30 0 0) (aw_Z g (PC g s n A r) 0 0) 0 0 (hp g (pst s (skw tx E (ks tx E p)) 0 (-1)) n) 64 [some (.ref (g_ad g 39)), some (.int (cst tx E p)), none, none, none] [] := by
          rcases hcase with ⟨f, rfl, hr⟩ | ⟨p3, c, rfl, h63, hr⟩ | ⟨p3, c, rs, rfl, h63, hz2, hc2⟩
          · have hf24 : ¬ nI f = (-1 : Int32) := nI_nm1 (by have : f ≤ E := hgz.2; omega)
            refine aw_aload_n rfl rfl ?_
            refine aw_iconst (v := 0) rfl (by decide) ?_
            refine aw_iconst (v := 0) rfl (by decide) ?_
            refine aw_pN (q0 := 39) (ci := 12) rfl cw_X12_187 rfl rfl rfl (hcc) rfl rfl (Nat.le_of_ble_eq_true rfl) (by decide) (by decide) (by decide) (by decide) (fun x2 p2 d2 hbN => ?_)
            refine aw_istore_n rfl (by decide) ?_
            refine aw_aload_n rfl rfl ?_
            refine aw_bipush (v := 63) rfl (by decide) ?_
            refine aw_iV (q0 := 39) (ci := 12) rfl cw_X12_164 rfl rfl rfl (c_m_takesF hf24) rfl rfl (Nat.le_of_ble_eq_true rfl) (by decide) (by decide) (by decide) (by decide) ?_
            refine aw_if_ne (tgt := 81) rfl (by decide) (fun h77 => absurd (rfl) h77) (fun h77 => ?_)
            exact fa2 f p2 d2 _ hr rfl _
          · have hp3 : p3 ≤ E := hgz.2.1
            refine aw_aload_n rfl rfl ?_
            refine aw_iconst (v := 0) rfl (by decide) ?_
            refine aw_iconst (v := 0) rfl (by decide) ?_
            refine aw_pK (q0 := 39) (ci := 12) rfl cw_X12_187 rfl rfl rfl (hcc) rfl rfl (Nat.le_of_ble_eq_true rfl) (by decide) (by decide) (by decide) (by decide) (fun hbC => ?_)
            refine aw_istore_n rfl (by decide) ?_
            refine aw_aload_n rfl rfl ?_
            refine aw_bipush (v := 63) rfl (by decide) ?_
            refine aw_iV (q0 := 39) (ci := 12) rfl cw_X12_164 rfl rfl rfl (c_m_takesX hT hp3 h63) rfl rfl (Nat.le_of_ble_eq_true rfl) (by decide) (by decide) (by decide) (by decide) ?_
            refine aw_if_ne (tgt := 81) rfl (by decide) (fun h77 => absurd (rfl) h77) (fun h77 => ?_)
            exact fa2 _ (skw tx E p3) (nI 0) _ hr rfl _
          · have hp3 : p3 ≤ E := hgz.2.1
            have hn3 := q_lt h63 (by decide)
            have hss := ra _ _ _ hn3 hz2
            rcases hc2 with ⟨f, rfl, hr⟩ | ⟨p4, v, rfl, hr⟩
            · skip
              refine aw_aload_n rfl rfl ?_
              refine aw_iconst (v := 0) rfl (by decide) ?_
              refine aw_iconst (v := 0) rfl (by decide) ?_
              refine aw_pK (q0 := 39) (ci := 12) rfl cw_X12_187 rfl rfl rfl (hcc) rfl rfl (Nat.le_of_ble_eq_true rfl) (by decide) (by decide) (by decide) (by decide) (fun hbC => ?_)
              refine aw_istore_n rfl (by decide) ?_
              refine aw_aload_n rfl rfl ?_
              refine aw_bipush (v := 63) rfl (by decide) ?_
              refine aw_iV (q0 := 39) (ci := 12) rfl cw_X12_164 rfl rfl rfl (c_m_takesY hT hp3 h63) rfl rfl (Nat.le_of_ble_eq_true rfl) (by decide) (by decide) (by decide) (by decide) ?_
              refine aw_if_ne (tgt := 81) rfl (by decide) (fun h77 => ?_) (fun h77 => absurd h77 (by decide))
              refine aw_aload_n rfl rfl ?_
              refine aw_pN (q0 := 39) (ci := 12) rfl cw_X12_161 rfl rfl rfl (hss) rfl rfl (Nat.le_of_ble_eq_true rfl) (by decide) (by decide) (by decide) (by decide) (fun x2 p2 d2 hbN => ?_)
              refine aw_istore_n rfl (by decide) ?_
              refine aw_goto (tgt := 134) rfl (by decide) ?_
              exact aw_wk (fal f p2 d2 .null .null .null hr) (And.intro rfl True.intro)
            · skip
              refine aw_aload_n rfl rfl ?_
              refine aw_iconst (v := 0) rfl (by decide) ?_
              refine aw_iconst (v := 0) rfl (by decide) ?_
              refine aw_pK (q0 := 39) (ci := 12) rfl cw_X12_187 rfl rfl rfl (hcc) rfl rfl (Nat.le_of_ble_eq_true rfl) (by decide) (by decide) (by decide) (by decide) (fun hbC => ?_)
              refine aw_istore_n rfl (by decide) ?_
              refine aw_aload_n rfl rfl ?_
              refine aw_bipush (v := 63) rfl (by decide) ?_
              refine aw_iV (q0 := 39) (ci := 12) rfl cw_X12_164 rfl rfl rfl (c_m_takesY hT hp3 h63) rfl rfl (Nat.le_of_ble_eq_true rfl) (by decide) (by decide) (by decide) (by decide) ?_
              refine aw_if_ne (tgt := 81) rfl (by decide) (fun h77 => ?_) (fun h77 => absurd h77 (by decide))
              refine aw_aload_n rfl rfl ?_
              refine aw_pK (q0 := 39) (ci := 12) rfl cw_X12_161 rfl rfl rfl (hss) rfl rfl (Nat.le_of_ble_eq_true rfl) (by decide) (by decide) (by decide) (by decide) (fun hbS => ?_)
              refine aw_istore_n rfl (by decide) ?_
              refine aw_goto (tgt := 134) rfl (by decide) ?_
              exact aw_wk (fin p4 c v none hr hbC) (And.intro rfl (And.intro rfl (And.intro rfl (And.intro rfl True.intro))))
        rcases hq with hq | hq
        · skip
          refine aw_aload_n rfl rfl ?_
          refine aw_iV (q0 := 39) (ci := 12) rfl cw_X12_138 rfl rfl rfl (c_m_lookC hT hpE) rfl rfl (Nat.le_of_ble_eq_true rfl) (by decide) (by decide) (by decide) (by decide) ?_
          refine aw_istore_n rfl (by decide) ?_
          refine aw_ldcS rfl (xr_X12_26 hx) ?_
          refine aw_iload_n rfl rfl ?_
          refine aw_iS rfl cw_X12_154 (c_m_isAmong (i := 8) hx (by decide)) rfl rfl (Nat.le_of_ble_eq_true rfl) (by decide) (by decide) (by decide) (by decide) ?_
          refine aw_if_ne (tgt := 20) rfl (by decide) (fun h11 => ?_) (fun h11 => absurd h11 (by rw [xsp8, hy1]; decide))
          refine aw_aload_n rfl rfl ?_
          refine aw_dup rfl rfl ?_
          refine pg_39_10 rfl kl_X12_119 ?_
          refine aw_iconst (v := 1) rfl (by decide) ?_
          refine aw_iadd rfl ?_
          refine pp_39_10 rfl kl_X12_119 ?_
          refine aw_eqs (ws' := hp g (pst s (skw tx E p + 1) 0 (-1)) n) ?_ rfl rfl (congrArg (fun z => hp g z n) pst_in)
          refine aw_aload_n rfl rfl ?_
          refine aw_bipush (v := 58) rfl (by decide) ?_
          refine aw_iV (q0 := 39) (ci := 12) rfl cw_X12_164 rfl rfl rfl (c_m_takesY hT hnx hy2) rfl rfl (Nat.le_of_ble_eq_true rfl) (by decide) (by decide) (by decide) (by decide) ?_
          refine aw_if_ne (tgt := 40) rfl (by decide) (fun h36 => ?_) (fun h36 => absurd h36 (by decide))
          refine aw_iconst (v := 1) rfl (by decide) ?_
          refine aw_istore_n rfl (by decide) ?_
          refine aw_iconst (v := 0) rfl (by decide) ?_
          refine aw_istore_n rfl (by decide) ?_
          refine aw_aload_n rfl rfl ?_
          refine aw_iV (q0 := 39) (ci := 12) rfl cw_X12_138 rfl rfl rfl (c_m_lookC hT hkb) rfl rfl (Nat.le_of_ble_eq_true rfl) (by decide) (by decide) (by decide) (by decide) ?_
          refine aw_istore rfl (by decide) ?_
          refine aw_iload rfl rfl ?_
          refine aw_bipush (v := 33) rfl (by decide) ?_
          refine aw_icmp_eq (tgt := 64) rfl (by decide) (fun h54 => ?_) (fun h54 => absurd (hq) h54)
          exact aw_wk start (And.intro rfl (And.intro rfl True.intro))
        · skip
          refine aw_aload_n rfl rfl ?_
          refine aw_iV (q0 := 39) (ci := 12) rfl cw_X12_138 rfl rfl rfl (c_m_lookC hT hpE) rfl rfl (Nat.le_of_ble_eq_true rfl) (by decide) (by decide) (by decide) (by decide) ?_
          refine aw_istore_n rfl (by decide) ?_
          refine aw_ldcS rfl (xr_X12_26 hx) ?_
          refine aw_iload_n rfl rfl ?_
          refine aw_iS rfl cw_X12_154 (c_m_isAmong (i := 8) hx (by decide)) rfl rfl (Nat.le_of_ble_eq_true rfl) (by decide) (by decide) (by decide) (by decide) ?_
          refine aw_if_ne (tgt := 20) rfl (by decide) (fun h11 => ?_) (fun h11 => absurd h11 (by rw [xsp8, hy1]; decide))
          refine aw_aload_n rfl rfl ?_
          refine aw_dup rfl rfl ?_
          refine pg_39_10 rfl kl_X12_119 ?_
          refine aw_iconst (v := 1) rfl (by decide) ?_
          refine aw_iadd rfl ?_
          refine pp_39_10 rfl kl_X12_119 ?_
          refine aw_eqs (ws' := hp g (pst s (skw tx E p + 1) 0 (-1)) n) ?_ rfl rfl (congrArg (fun z => hp g z n) pst_in)
          refine aw_aload_n rfl rfl ?_
          refine aw_bipush (v := 58) rfl (by decide) ?_
          refine aw_iV (q0 := 39) (ci := 12) rfl cw_X12_164 rfl rfl rfl (c_m_takesY hT hnx hy2) rfl rfl (Nat.le_of_ble_eq_true rfl) (by decide) (by decide) (by decide) (by decide) ?_
          refine aw_if_ne (tgt := 40) rfl (by decide) (fun h36 => ?_) (fun h36 => absurd h36 (by decide))
          refine aw_iconst (v := 1) rfl (by decide) ?_
          refine aw_istore_n rfl (by decide) ?_
          refine aw_iconst (v := 0) rfl (by decide) ?_
          refine aw_istore_n rfl (by decide) ?_
          refine aw_aload_n rfl rfl ?_
          refine aw_iV (q0 := 39) (ci := 12) rfl cw_X12_138 rfl rfl rfl (c_m_lookC hT hkb) rfl rfl (Nat.le_of_ble_eq_true rfl) (by decide) (by decide) (by decide) (by decide) ?_
          refine aw_istore rfl (by decide) ?_
          refine aw_iload rfl rfl ?_
          refine aw_bipush (v := 33) rfl (by decide) ?_
          refine aw_icmp_eq (tgt := 64) rfl (by decide) (fun h54 => absurd h54 (fun z => absurd ((show cst tx E (ks tx E p) = 33 from z).symm.trans hq) (by decide))) (fun h54 => ?_)
          refine aw_iload rfl rfl ?_
          refine aw_bipush (v := 40) rfl (by decide) ?_
          refine aw_icmp_ne (tgt := 89) rfl (by decide) (fun h61 => absurd (hq) h61) (fun h61 => ?_)
          exact aw_wk start (And.intro rfl (And.intro rfl True.intro))
      · have hrest : ∃ rc, PZ tx E nSum 0 (skw tx E (ks tx E p)) rc ∧ ((∃ f, rc = rNo f ∧ r = kNo f) ∨ (∃ p3 v, rc = rOk p3 v ∧ sgC (cst tx E p3) = false ∧ r = kOk (skw tx E p3) eOne v) ∨ (∃ p3 u rq, rc = rOk p3 u ∧ sgC (cst tx E p3) = true ∧ PZ tx E (nCond1 u) 0 (skw tx E p3) rq ∧ ((∃ f, rq = rNo f ∧ r = kNo f) ∨ (∃ p4 c, rq = rOk p4 c ∧ cst tx E p4 ≠ 63 ∧ r = kNo (skw tx E p4)) ∨ (∃ p4 c rs, rq = rOk p4 c ∧ cst tx E p4 = 63 ∧ PZ tx E nSum 0 (skw tx E p4 + 1) rs ∧ ((∃ f, rs = rNo f ∧ r = kNo f) ∨ ∃ p5 v, rs = rOk p5 v ∧ r = kOk p5 c v))))) := by
          rcases h with ⟨h1, e⟩ | ⟨h1, h2, e⟩ | ⟨_, nq, _⟩ | ⟨_, nq, _⟩ | ⟨_, nq, _⟩ | ⟨_, nq, _⟩ | ⟨_, _, f, h1, e⟩ | ⟨_, _, p3, v, h1, h2, e⟩ | ⟨_, _, p3, u, f, h1, h2, h3, e⟩ | ⟨_, _, p3, u, p4, c, h1, h2, h3, h4, e⟩ | ⟨_, _, p3, u, p4, c, f, h1, h2, h3, h4, h5, e⟩ | ⟨_, _, p3, u, p4, c, p5, v, h1, h2, h3, h4, h5, e⟩
          · exact absurd hy1 h1
          · exact absurd hy2 h2
          · exact absurd nq hq
          · exact absurd nq hq
          · exact absurd nq hq
          · exact absurd nq hq
          · exact ⟨_, h1, Or.inl ⟨f, rfl, e⟩⟩
          · exact ⟨_, h1, Or.inr (Or.inl ⟨p3, v, rfl, h2, e⟩)⟩
          · exact ⟨_, h1, Or.inr (Or.inr ⟨p3, u, _, rfl, h2, h3, Or.inl ⟨f, rfl, e⟩⟩)⟩
          · exact ⟨_, h1, Or.inr (Or.inr ⟨p3, u, _, rfl, h2, h3, Or.inr (Or.inl ⟨p4, c, rfl, h4, e⟩)⟩)⟩
          · exact ⟨_, h1, Or.inr (Or.inr ⟨p3, u, _, rfl, h2, h3, Or.inr (Or.inr ⟨p4, c, _, rfl, h4, h5, Or.inl ⟨f, rfl, e⟩⟩)⟩)⟩
          · exact ⟨_, h1, Or.inr (Or.inr ⟨p3, u, _, rfl, h2, h3, Or.inr (Or.inr ⟨p4, c, _, rfl, h4, h5, Or.inr ⟨p5, v, rfl, e⟩⟩)⟩)⟩
        obtain ⟨rc, hz, hcase⟩ := hrest
        have hgz := PZ_pr hz hks.2.1
        have hcc := ra _ _ _ hks.2.1 hz
        have start : aw_W l g mi_X12_clause (aw_rm 30 0 0) (aw_Z g (PC g s n A r) 0 0) 0 0 (hp g (pst s (skw tx E (ks tx E p)) 0 (-1)) n) 89 [some (.ref (g_ad g 39)), some (.int (cst tx E p)), some (.int 1), none, none] [] := by
          rcases hcase with ⟨f, rfl, hr⟩ | ⟨p3, v, rfl, hsg, hr⟩ | ⟨p3, u, rq, rfl, hsg, hz2, hc2⟩
          · have hf24 : ¬ nI f = (-1 : Int32) := nI_nm1 (by have : f ≤ E := hgz.2; omega)
            refine aw_aload_n rfl rfl ?_
            refine aw_pN (q0 := 39) (ci := 12) rfl cw_X12_161 rfl rfl rfl (hcc) rfl rfl (Nat.le_of_ble_eq_true rfl) (by decide) (by decide) (by decide) (by decide) (fun x2 p2 d2 hbN => ?_)
            refine aw_istore_n rfl (by decide) ?_
            refine aw_aload_n rfl rfl ?_
            refine pg_39_11 rfl kl_X12_128 ?_
            refine aw_iconst (v := -1) rfl (by decide) ?_
            refine aw_icmp_ne (tgt := 134) rfl (by decide) (fun h99 => ?_) (fun h99 => absurd h99 (hf24))
            exact aw_wk (fal f p2 d2 .null .null .null hr) (And.intro rfl True.intro)
          · have hp3 : p3 ≤ E := hgz.2.1
            refine aw_aload_n rfl rfl ?_
            refine aw_pK (q0 := 39) (ci := 12) rfl cw_X12_161 rfl rfl rfl (hcc) rfl rfl (Nat.le_of_ble_eq_true rfl) (by decide) (by decide) (by decide) (by decide) (fun hbS => ?_)
            refine aw_istore_n rfl (by decide) ?_
            refine aw_aload_n rfl rfl ?_
            refine pg_39_11 rfl kl_X12_128 ?_
            refine aw_iconst (v := -1) rfl (by decide) ?_
            refine aw_icmp_ne (tgt := 134) rfl (by decide) (fun h99 => absurd (rfl) h99) (fun h99 => ?_)
            refine aw_aload_n rfl rfl ?_
            refine aw_iV (q0 := 39) (ci := 12) rfl cw_X12_138 rfl rfl rfl (c_m_lookC hT hp3) rfl rfl (Nat.le_of_ble_eq_true rfl) (by decide) (by decide) (by decide) (by decide) ?_
            refine aw_iS rfl cw_X12_181 (c_m_isSign) rfl rfl (Nat.le_of_ble_eq_true rfl) (by decide) (by decide) (by decide) (by decide) ?_
            refine aw_if_eq (tgt := 134) rfl (by decide) (fun h109 => ?_) (fun h109 => absurd (by rw [hsg]; rfl) h109)
            exact aw_wk (fin (skw tx E p3) eOne v none hr (Or.inr rfl)) (And.intro rfl (And.intro rfl (And.intro rfl (And.intro rfl True.intro))))
          · have hp3 : p3 ≤ E := hgz.2.1
            have hk3 := (skw_b (tx := tx) hp3).2.1
            have hgy := PZ_pr hz2 hk3
            have hqq := ra _ _ _ hk3 hz2
            rcases hc2 with ⟨f, rfl, hr⟩ | ⟨p4, c, rfl, h63, hr⟩ | ⟨p4, c, rs, rfl, h63, hz3, hc3⟩
            · have hf24 : ¬ nI f = (-1 : Int32) := nI_nm1 (by have : f ≤ E := hgy.2; omega)
              refine aw_aload_n rfl rfl ?_
              refine aw_pK (q0 := 39) (ci := 12) rfl cw_X12_161 rfl rfl rfl (hcc) rfl rfl (Nat.le_of_ble_eq_true rfl) (by decide) (by decide) (by decide) (by decide) (fun hbS => ?_)
              refine aw_istore_n rfl (by decide) ?_
              refine aw_aload_n rfl rfl ?_
              refine pg_39_11 rfl kl_X12_128 ?_
              refine aw_iconst (v := -1) rfl (by decide) ?_
              refine aw_icmp_ne (tgt := 134) rfl (by decide) (fun h99 => absurd (rfl) h99) (fun h99 => ?_)
              refine aw_aload_n rfl rfl ?_
              refine aw_iV (q0 := 39) (ci := 12) rfl cw_X12_138 rfl rfl rfl (c_m_lookC hT hp3) rfl rfl (Nat.le_of_ble_eq_true rfl) (by decide) (by decide) (by decide) (by decide) ?_
              refine aw_iS rfl cw_X12_181 (c_m_isSign) rfl rfl (Nat.le_of_ble_eq_true rfl) (by decide) (by decide) (by decide) (by decide) ?_
              refine aw_if_eq (tgt := 134) rfl (by decide) (fun h109 => absurd h109 (by rw [hsg]; decide)) (fun h109 => ?_)
              refine aw_aload_n rfl rfl ?_
              refine aw_iconst (v := 1) rfl (by decide) ?_
              refine aw_iload_n rfl rfl ?_
              refine aw_pN (q0 := 39) (ci := 12) rfl cw_X12_187 rfl rfl rfl (hqq hbS) rfl rfl (Nat.le_of_ble_eq_true rfl) (by decide) (by decide) (by decide) (by decide) (fun x2 p2 d2 hbN => ?_)
              refine aw_istore_n rfl (by decide) ?_
              refine aw_aload_n rfl rfl ?_
              refine aw_bipush (v := 63) rfl (by decide) ?_
              refine aw_iV (q0 := 39) (ci := 12) rfl cw_X12_164 rfl rfl rfl (c_m_takesF hf24) rfl rfl (Nat.le_of_ble_eq_true rfl) (by decide) (by decide) (by decide) (by decide) ?_
              refine aw_if_ne (tgt := 129) rfl (by decide) (fun h125 => absurd (rfl) h125) (fun h125 => ?_)
              exact fa2 f p2 d2 _ hr rfl _
            · have hp4 : p4 ≤ E := hgy.2.1
              refine aw_aload_n rfl rfl ?_
              refine aw_pK (q0 := 39) (ci := 12) rfl cw_X12_161 rfl rfl rfl (hcc) rfl rfl (Nat.le_of_ble_eq_true rfl) (by decide) (by decide) (by decide) (by decide) (fun hbS => ?_)
              refine aw_istore_n rfl (by decide) ?_
              refine aw_aload_n rfl rfl ?_
              refine pg_39_11 rfl kl_X12_128 ?_
              refine aw_iconst (v := -1) rfl (by decide) ?_
              refine aw_icmp_ne (tgt := 134) rfl (by decide) (fun h99 => absurd (rfl) h99) (fun h99 => ?_)
              refine aw_aload_n rfl rfl ?_
              refine aw_iV (q0 := 39) (ci := 12) rfl cw_X12_138 rfl rfl rfl (c_m_lookC hT hp3) rfl rfl (Nat.le_of_ble_eq_true rfl) (by decide) (by decide) (by decide) (by decide) ?_
              refine aw_iS rfl cw_X12_181 (c_m_isSign) rfl rfl (Nat.le_of_ble_eq_true rfl) (by decide) (by decide) (by decide) (by decide) ?_
              refine aw_if_eq (tgt := 134) rfl (by decide) (fun h109 => absurd h109 (by rw [hsg]; decide)) (fun h109 => ?_)
              refine aw_aload_n rfl rfl ?_
              refine aw_iconst (v := 1) rfl (by decide) ?_
              refine aw_iload_n rfl rfl ?_
              refine aw_pK (q0 := 39) (ci := 12) rfl cw_X12_187 rfl rfl rfl (hqq hbS) rfl rfl (Nat.le_of_ble_eq_true rfl) (by decide) (by decide) (by decide) (by decide) (fun hbC => ?_)
              refine aw_istore_n rfl (by decide) ?_
              refine aw_aload_n rfl rfl ?_
              refine aw_bipush (v := 63) rfl (by decide) ?_
              refine aw_iV (q0 := 39) (ci := 12) rfl cw_X12_164 rfl rfl rfl (c_m_takesX hT hp4 h63) rfl rfl (Nat.le_of_ble_eq_true rfl) (by decide) (by decide) (by decide) (by decide) ?_
              refine aw_if_ne (tgt := 129) rfl (by decide) (fun h125 => absurd (rfl) h125) (fun h125 => ?_)
              exact fa2 _ (skw tx E p4) (nI 0) _ hr rfl _
            · have hp4 : p4 ≤ E := hgy.2.1
              have hn4 := q_lt h63 (by decide)
              have hss := ra _ _ _ hn4 hz3
              rcases hc3 with ⟨f, rfl, hr⟩ | ⟨p5, v, rfl, hr⟩
              · skip
                refine aw_aload_n rfl rfl ?_
                refine aw_pK (q0 := 39) (ci := 12) rfl cw_X12_161 rfl rfl rfl (hcc) rfl rfl (Nat.le_of_ble_eq_true rfl) (by decide) (by decide) (by decide) (by decide) (fun hbS => ?_)
                refine aw_istore_n rfl (by decide) ?_
                refine aw_aload_n rfl rfl ?_
                refine pg_39_11 rfl kl_X12_128 ?_
                refine aw_iconst (v := -1) rfl (by decide) ?_
                refine aw_icmp_ne (tgt := 134) rfl (by decide) (fun h99 => absurd (rfl) h99) (fun h99 => ?_)
                refine aw_aload_n rfl rfl ?_
                refine aw_iV (q0 := 39) (ci := 12) rfl cw_X12_138 rfl rfl rfl (c_m_lookC hT hp3) rfl rfl (Nat.le_of_ble_eq_true rfl) (by decide) (by decide) (by decide) (by decide) ?_
                refine aw_iS rfl cw_X12_181 (c_m_isSign) rfl rfl (Nat.le_of_ble_eq_true rfl) (by decide) (by decide) (by decide) (by decide) ?_
                refine aw_if_eq (tgt := 134) rfl (by decide) (fun h109 => absurd h109 (by rw [hsg]; decide)) (fun h109 => ?_)
                refine aw_aload_n rfl rfl ?_
                refine aw_iconst (v := 1) rfl (by decide) ?_
                refine aw_iload_n rfl rfl ?_
                refine aw_pK (q0 := 39) (ci := 12) rfl cw_X12_187 rfl rfl rfl (hqq hbS) rfl rfl (Nat.le_of_ble_eq_true rfl) (by decide) (by decide) (by decide) (by decide) (fun hbC => ?_)
                refine aw_istore_n rfl (by decide) ?_
                refine aw_aload_n rfl rfl ?_
                refine aw_bipush (v := 63) rfl (by decide) ?_
                refine aw_iV (q0 := 39) (ci := 12) rfl cw_X12_164 rfl rfl rfl (c_m_takesY hT hp4 h63) rfl rfl (Nat.le_of_ble_eq_true rfl) (by decide) (by decide) (by decide) (by decide) ?_
                refine aw_if_ne (tgt := 129) rfl (by decide) (fun h125 => ?_) (fun h125 => absurd h125 (by decide))
                refine aw_aload_n rfl rfl ?_
                refine aw_pN (q0 := 39) (ci := 12) rfl cw_X12_161 rfl rfl rfl (hss) rfl rfl (Nat.le_of_ble_eq_true rfl) (by decide) (by decide) (by decide) (by decide) (fun x2 p2 d2 hbN => ?_)
                refine aw_istore_n rfl (by decide) ?_
                exact aw_wk (fal f p2 d2 .null .null .null hr) (And.intro rfl True.intro)
              · skip
                refine aw_aload_n rfl rfl ?_
                refine aw_pK (q0 := 39) (ci := 12) rfl cw_X12_161 rfl rfl rfl (hcc) rfl rfl (Nat.le_of_ble_eq_true rfl) (by decide) (by decide) (by decide) (by decide) (fun hbS => ?_)
                refine aw_istore_n rfl (by decide) ?_
                refine aw_aload_n rfl rfl ?_
                refine pg_39_11 rfl kl_X12_128 ?_
                refine aw_iconst (v := -1) rfl (by decide) ?_
                refine aw_icmp_ne (tgt := 134) rfl (by decide) (fun h99 => absurd (rfl) h99) (fun h99 => ?_)
                refine aw_aload_n rfl rfl ?_
                refine aw_iV (q0 := 39) (ci := 12) rfl cw_X12_138 rfl rfl rfl (c_m_lookC hT hp3) rfl rfl (Nat.le_of_ble_eq_true rfl) (by decide) (by decide) (by decide) (by decide) ?_
                refine aw_iS rfl cw_X12_181 (c_m_isSign) rfl rfl (Nat.le_of_ble_eq_true rfl) (by decide) (by decide) (by decide) (by decide) ?_
                refine aw_if_eq (tgt := 134) rfl (by decide) (fun h109 => absurd h109 (by rw [hsg]; decide)) (fun h109 => ?_)
                refine aw_aload_n rfl rfl ?_
                refine aw_iconst (v := 1) rfl (by decide) ?_
                refine aw_iload_n rfl rfl ?_
                refine aw_pK (q0 := 39) (ci := 12) rfl cw_X12_187 rfl rfl rfl (hqq hbS) rfl rfl (Nat.le_of_ble_eq_true rfl) (by decide) (by decide) (by decide) (by decide) (fun hbC => ?_)
                refine aw_istore_n rfl (by decide) ?_
                refine aw_aload_n rfl rfl ?_
                refine aw_bipush (v := 63) rfl (by decide) ?_
                refine aw_iV (q0 := 39) (ci := 12) rfl cw_X12_164 rfl rfl rfl (c_m_takesY hT hp4 h63) rfl rfl (Nat.le_of_ble_eq_true rfl) (by decide) (by decide) (by decide) (by decide) ?_
                refine aw_if_ne (tgt := 129) rfl (by decide) (fun h125 => ?_) (fun h125 => absurd h125 (by decide))
                refine aw_aload_n rfl rfl ?_
                refine aw_pK (q0 := 39) (ci := 12) rfl cw_X12_161 rfl rfl rfl (hss) rfl rfl (Nat.le_of_ble_eq_true rfl) (by decide) (by decide) (by decide) (by decide) (fun hbV => ?_)
                refine aw_istore_n rfl (by decide) ?_
                exact aw_wk (fin p5 c v none hr hbC) (And.intro rfl (And.intro rfl (And.intro rfl (And.intro rfl True.intro))))
        refine aw_aload_n rfl rfl ?_
        refine aw_iV (q0 := 39) (ci := 12) rfl cw_X12_138 rfl rfl rfl (c_m_lookC hT hpE) rfl rfl (Nat.le_of_ble_eq_true rfl) (by decide) (by decide) (by decide) (by decide) ?_
        refine aw_istore_n rfl (by decide) ?_
        refine aw_ldcS rfl (xr_X12_26 hx) ?_
        refine aw_iload_n rfl rfl ?_
        refine aw_iS rfl cw_X12_154 (c_m_isAmong (i := 8) hx (by decide)) rfl rfl (Nat.le_of_ble_eq_true rfl) (by decide) (by decide) (by decide) (by decide) ?_
        refine aw_if_ne (tgt := 20) rfl (by decide) (fun h11 => ?_) (fun h11 => absurd h11 (by rw [xsp8, hy1]; decide))
        refine aw_aload_n rfl rfl ?_
        refine aw_dup rfl rfl ?_
        refine pg_39_10 rfl kl_X12_119 ?_
        refine aw_iconst (v := 1) rfl (by decide) ?_
        refine aw_iadd rfl ?_
        refine pp_39_10 rfl kl_X12_119 ?_
        refine aw_eqs (ws' := hp g (pst s (skw tx E p + 1) 0 (-1)) n) ?_ rfl rfl (congrArg (fun z => hp g z n) pst_in)
        refine aw_aload_n rfl rfl ?_
        refine aw_bipush (v := 58) rfl (by decide) ?_
        refine aw_iV (q0 := 39) (ci := 12) rfl cw_X12_164 rfl rfl rfl (c_m_takesY hT hnx hy2) rfl rfl (Nat.le_of_ble_eq_true rfl) (by decide) (by decide) (by decide) (by decide) ?_
        refine aw_if_ne (tgt := 40) rfl (by decide) (fun h36 => ?_) (fun h36 => absurd h36 (by decide))
        refine aw_iconst (v := 1) rfl (by decide) ?_
        refine aw_istore_n rfl (by decide) ?_
        refine aw_iconst (v := 0) rfl (by decide) ?_
        refine aw_istore_n rfl (by decide) ?_
        refine aw_aload_n rfl rfl ?_
        refine aw_iV (q0 := 39) (ci := 12) rfl cw_X12_138 rfl rfl rfl (c_m_lookC hT hkb) rfl rfl (Nat.le_of_ble_eq_true rfl) (by decide) (by decide) (by decide) (by decide) ?_
        refine aw_istore rfl (by decide) ?_
        refine aw_iload rfl rfl ?_
        refine aw_bipush (v := 33) rfl (by decide) ?_
        refine aw_icmp_eq (tgt := 64) rfl (by decide) (fun h54 => absurd h54 (fun e => hq (Or.inl e))) (fun h54 => ?_)
        refine aw_iload rfl rfl ?_
        refine aw_bipush (v := 40) rfl (by decide) ?_
        refine aw_icmp_ne (tgt := 89) rfl (by decide) (fun h61 => ?_) (fun h61 => absurd h61 (fun e => hq (Or.inr e)))
        exact aw_wk start (And.intro rfl (And.intro rfl (And.intro rfl True.intro)))
    · have hr : r = kNo (skw tx E (skw tx E p + 1)) := by
        rcases h with ⟨h1, e⟩ | ⟨h1, h2, e⟩ | ⟨y, _⟩ | ⟨y, _⟩ | ⟨y, _⟩ | ⟨y, _⟩ | ⟨y, _⟩ | ⟨y, _⟩ | ⟨y, _⟩ | ⟨y, _⟩ | ⟨y, _⟩ | ⟨y, _⟩
        · exact absurd hy1 h1
        · exact e
        all_goals exact absurd y.2 hy2
      refine aw_aload_n rfl rfl ?_
      refine aw_iV (q0 := 39) (ci := 12) rfl cw_X12_138 rfl rfl rfl (c_m_lookC hT hpE) rfl rfl (Nat.le_of_ble_eq_true rfl) (by decide) (by decide) (by decide) (by decide) ?_
      refine aw_istore_n rfl (by decide) ?_
      refine aw_ldcS rfl (xr_X12_26 hx) ?_
      refine aw_iload_n rfl rfl ?_
      refine aw_iS rfl cw_X12_154 (c_m_isAmong (i := 8) hx (by decide)) rfl rfl (Nat.le_of_ble_eq_true rfl) (by decide) (by decide) (by decide) (by decide) ?_
      refine aw_if_ne (tgt := 20) rfl (by decide) (fun h11 => ?_) (fun h11 => absurd h11 (by rw [xsp8, hy1]; decide))
      refine aw_aload_n rfl rfl ?_
      refine aw_dup rfl rfl ?_
      refine pg_39_10 rfl kl_X12_119 ?_
      refine aw_iconst (v := 1) rfl (by decide) ?_
      refine aw_iadd rfl ?_
      refine pp_39_10 rfl kl_X12_119 ?_
      refine aw_eqs (ws' := hp g (pst s (skw tx E p + 1) 0 (-1)) n) ?_ rfl rfl (congrArg (fun z => hp g z n) pst_in)
      refine aw_aload_n rfl rfl ?_
      refine aw_bipush (v := 58) rfl (by decide) ?_
      refine aw_iV (q0 := 39) (ci := 12) rfl cw_X12_164 rfl rfl rfl (c_m_takesX hT hnx hy2) rfl rfl (Nat.le_of_ble_eq_true rfl) (by decide) (by decide) (by decide) (by decide) ?_
      refine aw_if_ne (tgt := 40) rfl (by decide) (fun h36 => absurd (rfl) h36) (fun h36 => ?_)
      exact fa2 _ (skw tx E (skw tx E p + 1)) (nI 0) _ hr rfl _
  · have hr : r = kNo (skw tx E p) := by
      rcases h with ⟨h1, e⟩ | ⟨h1, h2, e⟩ | ⟨y, _⟩ | ⟨y, _⟩ | ⟨y, _⟩ | ⟨y, _⟩ | ⟨y, _⟩ | ⟨y, _⟩ | ⟨y, _⟩ | ⟨y, _⟩ | ⟨y, _⟩ | ⟨y, _⟩
      · exact e
      · exact absurd h1 hy1
      all_goals exact absurd y.1 hy1
    refine aw_aload_n rfl rfl ?_
    refine aw_iV (q0 := 39) (ci := 12) rfl cw_X12_138 rfl rfl rfl (c_m_lookC hT hpE) rfl rfl (Nat.le_of_ble_eq_true rfl) (by decide) (by decide) (by decide) (by decide) ?_
    refine aw_istore_n rfl (by decide) ?_
    refine aw_ldcS rfl (xr_X12_26 hx) ?_
    refine aw_iload_n rfl rfl ?_
    refine aw_iS rfl cw_X12_154 (c_m_isAmong (i := 8) hx (by decide)) rfl rfl (Nat.le_of_ble_eq_true rfl) (by decide) (by decide) (by decide) (by decide) ?_
    refine aw_if_ne (tgt := 20) rfl (by decide) (fun h11 => absurd (by rw [xsp8, decide_eq_false hy1]; rfl) h11) (fun h11 => ?_)
    refine aw_aload_n rfl rfl ?_
    refine aw_iV (q0 := 39) (ci := 12) rfl cw_X12_134 rfl rfl rfl (c_m_fails) rfl rfl (Nat.le_of_ble_eq_true rfl) (by decide) (by decide) (by decide) (by decide) ?_
    refine aw_pop rfl rfl ?_
    exact fa2 _ (skw tx E p) (nI 0) _ hr rfl _
