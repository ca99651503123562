/-! the class's reader of a law: tape, code, what code does -/
def CT (s : am_S) (E : Nat) (tx : Nat → Nat) : Prop := s 1 1 = nI E ∧ E ≤ 240 ∧ ∀ i, i < E → 0 < tx i ∧ tx i < 256 ∧ s 2 i = nI (tx i)
theorem nI_32 {c : Nat} (h : c < 256) : nI c = 32 ↔ c = 32 := nI_eq (b := 32) (by omega) (by decide)
theorem sk_skw {f : Nat → Int32} {E : Nat} {tx : Nat → Nat} (h : ∀ i, i < E → 0 < tx i ∧ tx i < 256 ∧ f i = nI (tx i)) : ∀ (d a : Nat), a + d ≤ E → sk32 f a d = skwp tx d a
  | 0, _, _ => rfl
  | d + 1, a, hd => by
    have ha := h a (by omega)
    simp only [sk32, skwp]
    rw [ha.2.2]
    by_cases hc : tx a = 32
    · rw [if_pos hc, if_pos ((nI_32 ha.2.1).mpr hc)]
      exact sk_skw h d (a + 1) (by omega)
    · rw [if_neg hc, if_neg (fun e => hc ((nI_32 ha.2.1).mp e))]
theorem CT_sA {s : am_S} {E : Nat} {tx : Nat → Nat} (h : CT s E tx) {p : Nat} (hp : p ≤ E) : sA (s 2) E p = skw tx E p := sk_skw h.2.2 (E - p) p (by omega)
theorem CT_sgn {s : am_S} {E : Nat} {tx : Nat → Nat} (h : CT s E tx) (q : Nat) : sgn (s 2) E q = cv tx E q := by
  unfold sgn cv
  by_cases hq : q < E
  · rw [if_pos hq, if_pos hq]; exact (h.2.2 q hq).2.2
  · rw [if_neg hq, if_neg hq]
theorem CT_8 {s : am_S} {E : Nat} {tx : Nat → Nat} (h : CT s E tx) : tb8 (s 2) E := fun i hi => ⟨tx i, (h.2.2 i hi).1, (h.2.2 i hi).2.1, (h.2.2 i hi).2.2⟩
theorem CT_c {s : am_S} {E : Nat} {tx : Nat → Nat} (h : CT s E tx) {p : Nat} : cst tx E p = -1 ∨ ∃ q, 0 < q ∧ q < 256 ∧ cst tx E p = nI q := by
  unfold cst cv
  by_cases hq : skw tx E p < E
  · rw [if_pos hq]; exact Or.inr ⟨_, (h.2.2 _ hq).1, (h.2.2 _ hq).2.1, rfl⟩
  · rw [if_neg hq]; exact Or.inl rfl
def lm (s : am_S) (a : Nat) (f : Nat → Int32) (k : Nat) : am_S := up (up (upR s 7 f) 6 2 (nI k)) 1 2 (nI a)
theorem lm_1 {s : am_S} {a b k : Nat} {f : Nat → Int32} : up (lm s a f k) 1 2 (nI b) = lm s b f k := by unfold lm; rw [up_up]
theorem lm_in {s : am_S} {a k : Nat} {f : Nat → Int32} : up (lm s a f k) 1 2 (nI a + 1) = lm s (a + 1) f k := by rw [nI_1, lm_1]
theorem lm_7 {s : am_S} {a k j : Nat} {f : Nat → Int32} {v : Int32} : up (lm s a f k) 7 j v = lm s a (upd f j v) k := by
  unfold lm
  rw [up_comm (k := 1) (k' := 7) rfl rfl, up_comm (k := 6) (k' := 7) rfl rfl, upR_up]
theorem lm_6 {s : am_S} {a k j : Nat} {f : Nat → Int32} : up (lm s a f k) 6 2 (nI j) = lm s a f j := by
  unfold lm
  rw [up_comm (k := 1) (k' := 6) rfl rfl, up_up]
theorem lm_tA {s : am_S} {a b k : Nat} {f : Nat → Int32} : tA (lm s a f k) b = lm s b f k := lm_1
theorem CT_lm {s : am_S} {E a k : Nat} {tx : Nat → Nat} {f : Nat → Int32} (h : CT s E tx) : CT (lm s a f k) E tx := h
section AwLr
variable {l : Launch} {g : ag_G} {s : am_S} {n : am_N} {E p k : Nat} {tx : Nat → Nat} {f : Nat → Int32}
theorem c_signL (hT : CT s E tx) (hp1 : p ≤ E) : aw_F l g mi_X10_sign 0 [.ref (g_ad g 1)] (hp g (lm s p f k) n) (.int (cst tx E p)) (hp g (lm s (skw tx E p) f k) n) := by
  have h := c_X10_sign (l := l) (g := g) (n := n) (s := lm s p f k) (m := E) (a := p) hT.1 hT.2.1 rfl hp1
  rw [lm_tA, show (lm s p f k) 2 = s 2 from rfl, CT_sA hT hp1, CT_sgn hT] at h
  exact h
theorem c_passL {x : Int32} (hT : CT s E tx) (hp1 : p ≤ E) : aw_F l g mi_X10_passes 1 [.ref (g_ad g 1), .int x] (hp g (lm s p f k) n) (.int (bB (decide (cst tx E p = x)))) (hp g (if cst tx E p = x then lm s (skw tx E p + 1) f k else lm s (skw tx E p) f k) n) := by
  have h := c_X10_passes (l := l) (g := g) (n := n) (s := lm s p f k) (m := E) (a := p) (x := x) hT.1 hT.2.1 rfl hp1
  rw [lm_tA, lm_tA, show (lm s p f k) 2 = s 2 from rfl, CT_sA hT hp1, CT_sgn hT] at h
  exact h
theorem c_passY {x : Int32} (hT : CT s E tx) (hp1 : p ≤ E) (hc : cst tx E p = x) : aw_F l g mi_X10_passes 1 [.ref (g_ad g 1), .int x] (hp g (lm s p f k) n) (.int 1) (hp g (lm s (skw tx E p + 1) f k) n) := by
  have h := c_passL (l := l) (g := g) (n := n) (f := f) (k := k) (x := x) hT hp1
  rw [if_pos hc, decide_eq_true hc] at h
  exact h
theorem c_passX {x : Int32} (hT : CT s E tx) (hp1 : p ≤ E) (hc : cst tx E p ≠ x) : aw_F l g mi_X10_passes 1 [.ref (g_ad g 1), .int x] (hp g (lm s p f k) n) (.int 0) (hp g (lm s (skw tx E p) f k) n) := by
  have h := c_passL (l := l) (g := g) (n := n) (f := f) (k := k) (x := x) hT hp1
  rw [if_neg hc, decide_eq_false hc] at h
  exact h
theorem c_oneY {i : Nat} (hx : aw_hx g) (hi : i < 11) (hT : CT s E tx) (hp1 : p ≤ E) (hc : ¬ cst tx E p = -1) (h0 : 0 ≤ xix i (cst tx E p)) : aw_F l g mi_X10_passesOneOf 4 [.ref (g_ad g 1), .ref (g_ad g (100 + i))] (hp g (lm s p f k) n) (.int (cst tx E p)) (hp g (lm s (skw tx E p + 1) f k) n) := by
  have h := c_X10_passesOneOf (l := l) (g := g) (n := n) (s := lm s p f k) (m := E) (a := p) hx hi hT.1 hT.2.1 rfl hp1 (CT_8 hT)
  unfold pOne at h
  rw [lm_tA, show (lm s p f k) 2 = s 2 from rfl, CT_sA hT hp1, CT_sgn hT] at h
  rw [if_neg (show ¬ cv tx E (skw tx E p) = -1 from hc), if_pos (show 0 ≤ xix i (cv tx E (skw tx E p)) from h0)] at h
  exact h
theorem c_oneX {i : Nat} (hx : aw_hx g) (hi : i < 11) (hT : CT s E tx) (hp1 : p ≤ E) (h0 : cst tx E p = -1 ∨ ¬ 0 ≤ xix i (cst tx E p)) : aw_F l g mi_X10_passesOneOf 4 [.ref (g_ad g 1), .ref (g_ad g (100 + i))] (hp g (lm s p f k) n) (.int (-1)) (hp g (lm s (skw tx E p) f k) n) := by
  have h := c_X10_passesOneOf (l := l) (g := g) (n := n) (s := lm s p f k) (m := E) (a := p) hx hi hT.1 hT.2.1 rfl hp1 (CT_8 hT)
  unfold pOne at h
  rw [lm_tA, show (lm s p f k) 2 = s 2 from rfl, CT_sA hT hp1, CT_sgn hT] at h
  by_cases hc : cv tx E (skw tx E p) = -1
  · rw [if_pos hc] at h; exact h
  · rw [if_neg hc, if_neg (show ¬ 0 ≤ xix i (cv tx E (skw tx E p)) from h0.resolve_left hc)] at h; exact h
end AwLr
theorem x5_no : ∀ q, q < 256 → q ≠ 42 → q ≠ 47 → ¬ 0 ≤ xix 5 (nI q) := by decide +kernel
theorem x6_no : ∀ q, q < 256 → q ≠ 43 → q ≠ 45 → ¬ 0 ≤ xix 6 (nI q) := by decide +kernel
theorem x4_on : ∀ q, q < 256 → xix 4 (nI q) = on (xsp 4 (nI q)) := by decide +kernel
theorem c5_no {s : am_S} {E p : Nat} {tx : Nat → Nat} (hT : CT s E tx) (h1 : cst tx E p ≠ 42) (h2 : cst tx E p ≠ 47) : cst tx E p = -1 ∨ ¬ 0 ≤ xix 5 (cst tx E p) := by
  rcases CT_c hT (p := p) with h | ⟨q, -, hq, h⟩
  · exact Or.inl h
  · rw [h] at h1 h2 ⊢
    exact Or.inr (x5_no q hq (fun e => h1 (by rw [e]; rfl)) (fun e => h2 (by rw [e]; rfl)))
theorem c6_no {s : am_S} {E p : Nat} {tx : Nat → Nat} (hT : CT s E tx) (h1 : cst tx E p ≠ 43) (h2 : cst tx E p ≠ 45) : cst tx E p = -1 ∨ ¬ 0 ≤ xix 6 (cst tx E p) := by
  rcases CT_c hT (p := p) with h | ⟨q, -, hq, h⟩
  · exact Or.inl h
  · rw [h] at h1 h2 ⊢
    exact Or.inr (x6_no q hq (fun e => h1 (by rw [e]; rfl)) (fun e => h2 (by rw [e]; rfl)))
theorem dg_f {s : am_S} {E q : Nat} {tx : Nat → Nat} (hT : CT s E tx) (hq : q < E) : dg tx E q = true ↔ ¬ s 2 q < 48 ∧ ¬ 57 < s 2 q := by
  have h := hT.2.2 q hq
  rw [h.2.2, Int32.lt_iff_toInt_lt, Int32.lt_iff_toInt_lt, nI_toInt (by omega), show (48 : Int32).toInt = 48 from by decide, show (57 : Int32).toInt = 57 from by decide]
  unfold dg
  simp only [Bool.and_eq_true, decide_eq_true_eq]
  omega
theorem nm_ad2 {v c : Nat} (h : 48 ≤ c) : nI v * 10 + nI c - 48 = nI (10 * v + (c - 48)) := by
  rw [show nI v * (10 : Int32) = nI (v * 10) from pk_mul v 10, nI_add, show nI (v * 10 + c) - 48 = nI (v * 10 + c - 48) from nI_sb (b := 48) (by omega)]
  exact congrArg nI (by omega)
def nmX (z : Bool × Nat × Nat) : Int32 × Nat := match z.1 with
  | true => (nI z.2.2, z.2.1)
  | false => (-1, z.2.1)
theorem nmD_0t {tx : Nat → Nat} {E q v : Nat} (h : dg tx E q = true) : nmD tx E 0 q v = (false, q, v) := by simp only [nmD]; rw [h]; rfl
theorem nmD_0f {tx : Nat → Nat} {E q v : Nat} (h : dg tx E q = false) : nmD tx E 0 q v = (true, q, v) := by simp only [nmD]; rw [h]; rfl
theorem nmD_st {tx : Nat → Nat} {E d q v : Nat} (h : dg tx E q = true) : nmD tx E (d + 1) q v = nmD tx E d (q + 1) (10 * v + (tx q - 48)) := by simp only [nmD]; rw [if_pos h]
theorem nmD_sf {tx : Nat → Nat} {E d q v : Nat} (h : dg tx E q = false) : nmD tx E (d + 1) q v = (true, q, v) := by simp only [nmD]; rw [if_neg (by rw [h]; exact Bool.false_ne_true)]
theorem nmb_f {s : am_S} {E : Nat} {tx : Nat → Nat} (hT : CT s E tx) {a : Nat} (hg : dg tx E a = false) (v t : Int32) : nmb (s 2) 4 9999 (E - a) a v t = nmE 9999 v t a := by
  by_cases hq : a < E
  · obtain ⟨d, hd⟩ : ∃ d, E - a = d + 1 := ⟨E - a - 1, by omega⟩
    rw [hd]
    simp only [nmb]
    have hn : ¬ (¬ s 2 a < 48 ∧ ¬ 57 < s 2 a) := fun e => absurd ((dg_f hT hq).mpr e) (by rw [hg]; exact Bool.false_ne_true)
    by_cases h1 : s 2 a < 48
    · rw [if_pos h1]
    · rw [if_neg h1, if_pos (Decidable.of_not_not (fun e => hn ⟨h1, e⟩))]
  · rw [show E - a = 0 by omega]; rfl
theorem nmb_t {s : am_S} {E : Nat} {tx : Nat → Nat} (hT : CT s E tx) {a v : Nat} {t : Int32} (hg : dg tx E a = true) : nmb (s 2) 4 9999 (E - a) a (nI v) t = if t = 4 then (-1, a) else nmb (s 2) 4 9999 (E - (a + 1)) (a + 1) (nI (10 * v + (tx a - 48))) (t + 1) := by
  have hc := dg_c hg
  have h1 := (dg_f hT hc.1).mp hg
  obtain ⟨d, hd⟩ : ∃ d, E - a = d + 1 := ⟨E - a - 1, by omega⟩
  rw [hd, show E - (a + 1) = d by omega]
  simp only [nmb]
  rw [if_neg h1.1, if_neg h1.2, (hT.2.2 a hc.1).2.2, nm_ad2 hc.2.1]
theorem nmb_nmD {s : am_S} {E : Nat} {tx : Nat → Nat} (hT : CT s E tx) : ∀ (r t a v : Nat), t + r = 4 → 0 < t → v < 10 ^ t → nmb (s 2) 4 9999 (E - a) a (nI v) (nI t) = nmX (nmD tx E r a v)
  | 0, t, a, v, ht, h0, hv => by
    obtain rfl : t = 4 := by omega
    cases hg : dg tx E a with
    | true => rw [nmD_0t hg, nmb_t hT hg, if_pos (show nI 4 = 4 from rfl)]; rfl
    | false =>
      rw [nmD_0f hg, nmb_f hT hg]
      unfold nmE
      rw [if_neg (by decide), if_pos (show nI v ≤ 9999 from nI_le (b := 9999) (by omega) (by decide))]
      rfl
  | r + 1, t, a, v, ht, h0, hv => by
    cases hg : dg tx E a with
    | true =>
      rw [nmD_st hg, nmb_t hT hg, if_neg (show ¬ nI t = 4 from fun e => absurd ((nI_eq (a := t) (b := 4) (by omega) (by decide)).mp e) (by omega)), nI_1]
      have hc := dg_c hg
      exact nmb_nmD hT r (t + 1) (a + 1) _ (by omega) (by omega) (by rw [Nat.pow_succ]; omega)
    | false =>
      have : 10 ^ t ≤ 10 ^ 3 := Nat.pow_le_pow_right (by decide) (by omega)
      rw [nmD_sf hg, nmb_f hT hg]
      unfold nmE
      rw [if_neg (nI_ne0 h0 (by omega)), if_pos (show nI v ≤ 9999 from nI_le (b := 9999) (by omega) (by decide))]
      rfl
theorem nmb_0t {s : am_S} {E a : Nat} {tx : Nat → Nat} (hT : CT s E tx) (hg : dg tx E a = true) : nmb (s 2) 4 9999 (E - a) a 0 0 = nmX (nmD tx E 4 a 0) := by
  have hc := dg_c hg
  rw [show nmb (s 2) 4 9999 (E - a) a 0 0 = nmb (s 2) 4 9999 (E - a) a (nI 0) 0 from rfl, nmb_t hT hg, if_neg (by decide), nmD_st hg]
  exact nmb_nmD hT 3 1 (a + 1) _ (by omega) (by omega) (by omega)
theorem nmb_0f {s : am_S} {E a : Nat} {tx : Nat → Nat} (hT : CT s E tx) (hg : dg tx E a = false) : nmb (s 2) 4 9999 (E - a) a 0 0 = (-1, a) := by
  rw [nmb_f hT hg]; rfl
theorem c_numL {l : Launch} {g : ag_G} {s : am_S} {n : am_N} {E p k : Nat} {tx : Nat → Nat} {f : Nat → Int32} {R : Int32 × Nat} (hT : CT s E tx) (hp1 : p ≤ E) (hR : nmb (s 2) 4 9999 (E - p) p 0 0 = R) : aw_F l g mi_X10_number 0 [.ref (g_ad g 1), .int 4, .int 9999] (hp g (lm s p f k) n) (.int R.1) (hp g (lm s R.2 f k) n) := by
  have h := c_X10_number (l := l) (g := g) (n := n) (s := lm s p f k) (dg := 4) (mo := 9999) (m := E) (a := p) hT.1 hT.2.1 rfl hp1
  rw [lm_tA, show (lm s p f k) 2 = s 2 from rfl, hR] at h
  exact h
set_option maxRecDepth 4000 in
theorem c_emitL {l : Launch} {g : ag_G} {s : am_S} {n : am_N} {a k : Nat} {f : Nat → Int32} {x : Int32} (hk : k < 240) : aw_V l g mi_X5_emits 0 [.ref (g_ad g 6), .int x] (hp g (lm s a f k) n) (hp g (lm s a (upd f k x) (k + 1)) n) := by
  refine aw_V_of mo_X5_emits (by decide) (Nat.le_of_ble_eq_true rfl) ?_
  refine aw_aload_n rfl rfl ?_
  refine pg_6_2 rfl kl_X5_21 ?_
  refine aw_aload_n rfl rfl ?_
  refine pg_6_1 rfl kl_X5_11 ?_
  refine pn_7 (v := 240) rfl (by decide) ?_
  refine aw_icmp_ge (tgt := 32) rfl (by decide) (fun h9 => absurd h9 (nI_ge (a := k) (b := 240) hk (by decide))) (fun h9 => ?_)
  refine aw_aload_n rfl rfl ?_
  refine pg_6_1 rfl kl_X5_11 ?_
  refine aw_aload_n rfl rfl ?_
  refine pg_6_2 rfl kl_X5_21 ?_
  refine aw_iload_n rfl rfl ?_
  refine ps_7 (j := k) rfl rfl hk ?_
  refine aw_aload_n rfl rfl ?_
  refine aw_dup rfl rfl ?_
  refine pg_6_2 rfl kl_X5_21 ?_
  refine aw_iconst (v := 1) rfl (by decide) ?_
  refine aw_iadd rfl ?_
  refine pp_6_2 rfl kl_X5_21 ?_
  refine aw_fv rfl rfl (congrArg (fun z => hp g z n) ?_)
  show up (up (lm s a f k) 7 k x) 6 2 (nI k + 1) = lm s a (upd f k x) (k + 1)
  rw [lm_7, nI_1, lm_6]
theorem c_isCmp {l : Launch} {g : ag_G} {ws : va_W} {v : Int32} : aw_F l g mi_X5_isComparison 0 [.int v] ws (.int (bB (sgC v))) ws := by
  refine aw_F_of mo_X5_isComparison (by decide) (Nat.le_of_ble_eq_true rfl) ?_
  refine aw_iload_n rfl rfl ?_
  refine aw_bipush (v := 61) rfl (by decide) ?_
  refine aw_icmp_eq (tgt := 18) rfl (by decide) (fun h3 => ?_) (fun h3 => ?_)
  · refine aw_iconst (v := 1) rfl (by decide) ?_
    refine aw_goto (tgt := 23) rfl (by decide) ?_
    exact aw_fz rfl rfl (by first | exact Or.inl rfl | exact Or.inr rfl) (by unfold sgC; simp_all [bB]) rfl
  · refine aw_iload_n rfl rfl ?_
    refine aw_bipush (v := 60) rfl (by decide) ?_
    refine aw_icmp_eq (tgt := 18) rfl (by decide) (fun h9 => ?_) (fun h9 => ?_)
    · refine aw_iconst (v := 1) rfl (by decide) ?_
      refine aw_goto (tgt := 23) rfl (by decide) ?_
      exact aw_fz rfl rfl (by first | exact Or.inl rfl | exact Or.inr rfl) (by unfold sgC; simp_all [bB]) rfl
    · refine aw_iload_n rfl rfl ?_
      refine aw_bipush (v := 62) rfl (by decide) ?_
      refine aw_icmp_ne (tgt := 22) rfl (by decide) (fun h15 => ?_) (fun h15 => ?_)
      · refine aw_iconst (v := 0) rfl (by decide) ?_
        exact aw_fz rfl rfl (by first | exact Or.inl rfl | exact Or.inr rfl) (by unfold sgC; simp_all [bB]) rfl
      · refine aw_iconst (v := 1) rfl (by decide) ?_
        refine aw_goto (tgt := 23) rfl (by decide) ?_
        exact aw_fz rfl rfl (by first | exact Or.inl rfl | exact Or.inr rfl) (by unfold sgC; simp_all [bB]) rfl
/-- what one sign of the code does to the stack, by the letters A -/
def ltA (A : Nat → Int32) (x : Int32) : Int32 := if x - 10000 < 0 then 0 else if x - 10000 < 6 then A (cl (x - 10000)) else 0
def jn (c a b : Int32) : Int32 := if c = 38 then a &&& b else if c = 47 then (if b = 0 then 0 else a / b) else if c = 60 then (if a < b then 1 else 0) else if c = 61 then (if a = b then 1 else 0) else if c = 62 then (if b < a then 1 else 0) else if c = 124 then a ||| b else if c = 43 then wi (a.toInt64 + b.toInt64) else if c = 45 then wi (a.toInt64 - b.toInt64) else wi (a.toInt64 * b.toInt64)
def stp (A : Nat → Int32) (x : Int32) (st : List Int32) : Option (List Int32) :=
  if x < 20000 then some ((if x < 10000 then x else ltA A x) :: st)
  else if x < 30000 then (if x = 20059 then none else match st with
    | [] => none
    | b :: t => if x = 20033 then some ((1 - b) :: t) else match t with
      | [] => none
      | a :: t => some (jn (x - 20000) a b :: t))
  else none
def evC (A : Nat → Int32) (f : Nat → Int32) : Nat → Nat → List Int32 → Option (List Int32)
  | 0, _, st => some st
  | d + 1, i, st => (stp A (f i) st).bind (evC A f d (i + 1))
theorem evC_c {A f f' : Nat → Int32} : ∀ (d i : Nat) (st : List Int32), (∀ j, i ≤ j → j < i + d → f' j = f j) → evC A f' d i st = evC A f d i st
  | 0, _, _, _ => rfl
  | d + 1, i, st, h => by
    simp only [evC]
    rw [h i (by omega) (by omega)]
    congr 1
    funext z
    exact evC_c d (i + 1) z (fun j h1 h2 => h j (by omega) (by omega))
theorem evC_a {A f : Nat → Int32} : ∀ (d e i : Nat) (st : List Int32), evC A f (d + e) i st = (evC A f d i st).bind (evC A f e (i + d))
  | 0, e, i, st => by rw [Nat.zero_add]; rfl
  | d + 1, e, i, st => by
    rw [show d + 1 + e = d + e + 1 by omega]
    simp only [evC]
    cases stp A (f i) st with
    | none => rfl
    | some z =>
      show evC A f (d + e) (i + 1) z = (evC A f d (i + 1) z).bind (evC A f e (i + (d + 1)))
      rw [evC_a d e (i + 1) z, show i + 1 + d = i + (d + 1) by omega]
theorem evC_1 {A f : Nat → Int32} {i : Nat} {st : List Int32} : evC A f 1 i st = stp A (f i) st := by
  simp only [evC]
  cases stp A (f i) st <;> rfl
/-- what stands on the stack first -/
def prV (v : Option Ex) (A : Nat → Int32) (st : List Int32) : List Int32 := match v with
  | none => st
  | some e => e A :: st
/-- the code from k on, d signs, gives e; no longer than what was read -/
def SG (v : Option Ex) (f f' : Nat → Int32) (k d p p1 : Nat) (e : Ex) : Prop := d + p ≤ p1 ∧ (∀ j, j < k → f' j = f j) ∧ ∀ A st, evC A f' d k (prV v A st) = some (e A :: st)
theorem SG_tr {v : Option Ex} {f f1 f2 : Nat → Int32} {k d d1 p p1 p2 : Nat} {a e : Ex} (h : SG v f f1 k d p p1 a) (h2 : SG (some a) f1 f2 (k + d) d1 p1 p2 e) : SG v f f2 k (d + d1) p p2 e := by
  refine ⟨by have := h.1; have := h2.1; omega, fun j hj => (h2.2.1 j (by omega)).trans (h.2.1 j hj), fun A st => ?_⟩
  rw [evC_a, evC_c d k _ (fun j _ h3 => h2.2.1 j h3), h.2.2 A st]
  exact h2.2.2 A st
theorem SG_0 {v : Ex} {f : Nat → Int32} {k p p1 : Nat} (h : p ≤ p1) : SG (some v) f f k 0 p p1 v := ⟨by omega, fun _ _ => rfl, fun _ _ => rfl⟩
theorem SG_wk {v : Option Ex} {f f1 : Nat → Int32} {k d q p p1 p2 : Nat} {e : Ex} (h : SG v f f1 k d q p1 e) (h1 : p ≤ q) (h2 : p1 ≤ p2) : SG v f f1 k d p p2 e := ⟨by have := h.1; omega, h.2⟩
theorem SG_em {f : Nat → Int32} {k p p1 : Nat} {x : Int32} {e : Ex} (h : p + 1 ≤ p1) (hs : ∀ A st, stp A x st = some (e A :: st)) : SG none f (upd f k x) k 1 p p1 e := by
  refine ⟨by omega, fun j hj => upd_n (by omega), fun A st => ?_⟩
  rw [evC_1, upd_s]
  exact hs A st
theorem SG_bin {v a o : Ex} {f f1 : Nat → Int32} {k d p q p1 : Nat} {x : Int32} (h : SG none f f1 k d q p1 a) (hq : p + 1 ≤ q) (hs : ∀ A st, stp A x (a A :: v A :: st) = some (o A :: st)) : SG (some v) f (upd f1 (k + d) x) k (d + 1) p p1 o := by
  refine ⟨by have := h.1; omega, fun j hj => (upd_n (by omega)).trans (h.2.1 j hj), fun A st => ?_⟩
  rw [evC_a, evC_c d k _ (fun j _ h3 => upd_n (by omega)), show prV (some v) A st = prV none A (v A :: st) from rfl, h.2.2 A (v A :: st)]
  show evC A _ 1 (k + d) (a A :: v A :: st) = _
  rw [evC_1, upd_s]
  exact hs A st
theorem SG_un {a o : Ex} {f f1 : Nat → Int32} {k d p q p1 : Nat} {x : Int32} (h : SG none f f1 k d q p1 a) (hq : p + 1 ≤ q) (hs : ∀ A st, stp A x (a A :: st) = some (o A :: st)) : SG none f (upd f1 (k + d) x) k (d + 1) p p1 o := by
  refine ⟨by have := h.1; omega, fun j hj => (upd_n (by omega)).trans (h.2.1 j hj), fun A st => ?_⟩
  rw [evC_a, evC_c d k _ (fun j _ h3 => upd_n (by omega)), h.2.2 A st]
  show evC A _ 1 (k + d) (a A :: st) = _
  rw [evC_1, upd_s]
  exact hs A st
theorem stp_mul {v a : Ex} (A : Nat → Int32) (st : List Int32) : stp A (20000 + 42) (a A :: v A :: st) = some (eMul v a A :: st) := rfl
theorem stp_div {v a : Ex} (A : Nat → Int32) (st : List Int32) : stp A (20000 + 47) (a A :: v A :: st) = some (eDiv v a A :: st) := rfl
theorem stp_add {v a : Ex} (A : Nat → Int32) (st : List Int32) : stp A (20000 + 43) (a A :: v A :: st) = some (eAdd v a A :: st) := rfl
theorem stp_sub {v a : Ex} (A : Nat → Int32) (st : List Int32) : stp A (20000 + 45) (a A :: v A :: st) = some (eSub v a A :: st) := rfl
theorem stp_and {v a : Ex} (A : Nat → Int32) (st : List Int32) : stp A 20038 (a A :: v A :: st) = some (eAnd v a A :: st) := rfl
theorem stp_or {v a : Ex} (A : Nat → Int32) (st : List Int32) : stp A 20124 (a A :: v A :: st) = some (eOr v a A :: st) := rfl
theorem stp_not {a : Ex} (A : Nat → Int32) (st : List Int32) : stp A 20033 (a A :: st) = some (eNot a A :: st) := rfl
theorem stp_cmp {v a : Ex} {c : Int32} (hc : sgC c = true) (A : Nat → Int32) (st : List Int32) : stp A (20000 + c) (a A :: v A :: st) = some (eCmp c v a A :: st) := by
  unfold sgC at hc
  simp only [Bool.or_eq_true, decide_eq_true_eq] at hc
  have hj : ∀ c : Int32, 20000 + c - 20000 = c := fun c => by rw [Int32.add_comm, Int32.add_sub_cancel]
  rcases hc with rfl | rfl | rfl
  · unfold stp
    rw [if_neg (by decide), if_pos (by decide), if_neg (by decide)]
    dsimp only
    rw [if_neg (by decide)]
    rw [hj]
    unfold jn eCmp
    rw [if_neg (by decide), if_neg (by decide), if_neg (by decide), if_pos rfl, if_pos rfl]
  · unfold stp
    rw [if_neg (by decide), if_pos (by decide), if_neg (by decide)]
    dsimp only
    rw [if_neg (by decide)]
    rw [hj]
    unfold jn eCmp
    rw [if_neg (by decide), if_neg (by decide), if_pos rfl, if_neg (c := (60 : Int32) = 61) (by decide), if_pos rfl]
  · unfold stp
    rw [if_neg (by decide), if_pos (by decide), if_neg (by decide)]
    dsimp only
    rw [if_neg (by decide)]
    rw [hj]
    unfold jn eCmp
    rw [if_neg (by decide), if_neg (by decide), if_neg (by decide), if_neg (by decide), if_pos rfl, if_neg (c := (62 : Int32) = 61) (by decide), if_neg (c := (62 : Int32) = 60) (by decide)]
theorem stp_num {m : Nat} (h : m < 10000) (A : Nat → Int32) (st : List Int32) : stp A (nI m) st = some ((fun _ => nI m) A :: st) := by
  unfold stp
  rw [if_pos (show nI m < 20000 from nI_lt (b := 20000) (by omega) (by decide)), if_pos (show nI m < 10000 from nI_lt (b := 10000) h (by decide))]
theorem stp_let : ∀ i, i < 6 → ∀ (A : Nat → Int32) (st : List Int32), stp A (10000 + nI i) st = some ((fun A => A i) A :: st)
  | 0, _, _, _ => rfl
  | 1, _, _, _ => rfl
  | 2, _, _, _ => rfl
  | 3, _, _, _ => rfl
  | 4, _, _, _ => rfl
  | 5, _, _, _ => rfl
  | n + 6, h, _, _ => absurd h (by omega)
theorem nmD_v {tx : Nat → Nat} {E : Nat} : ∀ (r t a v : Nat), t + r ≤ 4 → v < 10 ^ t → (nmD tx E r a v).2.2 < 10000
  | 0, t, a, v, ht, hv => by
    have : 10 ^ t ≤ 10 ^ 4 := Nat.pow_le_pow_right (by decide) (by omega)
    exact Nat.lt_of_lt_of_le hv (Nat.le_trans this (by decide))
  | r + 1, t, a, v, ht, hv => by
    cases hg : dg tx E a with
    | true =>
      have hc := dg_c hg
      rw [nmD_st hg]
      exact nmD_v r (t + 1) (a + 1) _ (by omega) (by rw [Nat.pow_succ]; omega)
    | false =>
      rw [nmD_sf hg]
      have : 10 ^ t ≤ 10 ^ 4 := Nat.pow_le_pow_right (by decide) (by omega)
      exact Nat.lt_of_lt_of_le hv (Nat.le_trans this (by decide))
/-- the ends of the reader's methods -/
def LO (g : ag_G) (s : am_S) (n : am_N) (v : Option Ex) (f : Nat → Int32) (k p : Nat) : Rs → Option Value → va_W → Prop
  | .ok z => fun o y => o = some (.int 1) ∧ ∃ f' d, y = hp g (lm s z.1 f' (k + d)) n ∧ SG v f f' k d p z.1 z.2
  | .error q => fun o y => o = some (.int 0) ∧ ∃ f' k', y = hp g (lm s q f' k') n
/-- a place within a method: Q follows of what the rest reads -/
def QO (g : ag_G) (s : am_S) (n : am_N) (v : Option Ex) (f : Nat → Int32) (k p : Nat) (Q : Option Value → va_W → Prop) : Rs → Prop
  | .ok z => ∀ f' d, SG v f f' k d p z.1 z.2 → Q (some (.int 1)) (hp g (lm s z.1 f' (k + d)) n)
  | .error q => ∀ f' k', Q (some (.int 0)) (hp g (lm s q f' k') n)
section AwLk
variable {l : Launch} {g : ag_G} {M : ag_M} {R : Room} {Z : ag_Z} {pc : Nat} {L : List (Option Value)} {st : List Value} {s : am_S} {n : am_N} {ws : va_W}
theorem aw_lK {N : ag_M} {index d k q0 ci b p p' k0 : Nat} {e : Ex} {v : Option Ex} {f : Nat → Int32} {C : vw_C} {fs As rest st0 : List Value}
    (hd : m_at M pc = some (.invokevirtual index, 3)) (hw : aw_cV (m_y M).cls index N k) (hc : aw_cl[ci]? = some C) (hcn : C.1 = (m_y N).cls) (he : ws[q0]? = some (b, .inr (ci, fs)))
    (hM : aw_M l g N d 0 0 (.ref b :: As) ws (LO g s n v f k0 p (rOk p' e))) (hk : As.length = k) (hst : st0 = As.reverse ++ .ref b :: rest) (hrest : (rest.map fun v => v.category).sum ≤ 8) (hf : d + 1 ≤ R.frames) (hlo : 8 + (m_n N + 11) + 100 * d ≤ R.locals) (h1 : 0 ≤ R.cells) (h2 : 0 ≤ R.slots)
    (kk : ∀ f' d', SG v f f' k0 d' p p' e → aw_W l g M R Z 0 0 (hp g (lm s p' f' (k0 + d')) n) (pc + 3) L (.int 1 :: rest)) : aw_W l g M R Z 0 0 ws pc L st0 :=
  aw_callV hd hw hc hcn he hM hk hst hrest hf hlo h1 h2 (by rintro r z ⟨rfl, f', d', rfl, hS⟩; exact kk f' d' hS)
theorem aw_lN {N : ag_M} {index d k q0 ci b p q k0 : Nat} {v : Option Ex} {f : Nat → Int32} {C : vw_C} {fs As rest st0 : List Value}
    (hd : m_at M pc = some (.invokevirtual index, 3)) (hw : aw_cV (m_y M).cls index N k) (hc : aw_cl[ci]? = some C) (hcn : C.1 = (m_y N).cls) (he : ws[q0]? = some (b, .inr (ci, fs)))
    (hM : aw_M l g N d 0 0 (.ref b :: As) ws (LO g s n v f k0 p (rNo q))) (hk : As.length = k) (hst : st0 = As.reverse ++ .ref b :: rest) (hrest : (rest.map fun v => v.category).sum ≤ 8) (hf : d + 1 ≤ R.frames) (hlo : 8 + (m_n N + 11) + 100 * d ≤ R.locals) (h1 : 0 ≤ R.cells) (h2 : 0 ≤ R.slots)
    (kk : ∀ f' k', aw_W l g M R Z 0 0 (hp g (lm s q f' k') n) (pc + 3) L (.int 0 :: rest)) : aw_W l g M R Z 0 0 ws pc L st0 :=
  aw_callV hd hw hc hcn he hM hk hst hrest hf hlo h1 h2 (by rintro r z ⟨rfl, f', k', rfl⟩; exact kk f' k')
theorem aw_z1 {Q : Option Value → va_W → Prop} (hd : m_at M pc = some (.ireturn, 1)) (hr : m_r M = some .boolean) (hq : Q (some (.int 1)) ws) : aw_W l g M R (aw_Z g Q 0 0) 0 0 ws pc L [.int 1] := aw_zret hd hr (Or.inr rfl) hq
theorem aw_z0 {Q : Option Value → va_W → Prop} (hd : m_at M pc = some (.ireturn, 1)) (hr : m_r M = some .boolean) (hq : Q (some (.int 0)) ws) : aw_W l g M R (aw_Z g Q 0 0) 0 0 ws pc L [.int 0] := aw_zret hd hr (Or.inl rfl) hq
end AwLk
