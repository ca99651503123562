/-! dealing: suns in their row, prices -/
theorem ins_g {x : Int32} : ∀ (p : Nat) (f : Nat → Int32), (∀ a b, a ≤ b → b < p → f a ≤ f b) → ∀ q, (p < q → insL x p f q = f q) ∧ (q ≤ p → (q < p ∧ f q ≤ x ∧ insL x p f q = f q) ∨ ((q = p ∨ x < f q) ∧ (q = 0 ∨ f (q - 1) ≤ x) ∧ insL x p f q = x) ∨ (0 < q ∧ x < f (q - 1) ∧ insL x p f q = f (q - 1)))
  | 0, f, _, q => ⟨fun h => upd_n (by omega), fun h => by
      have e : q = 0 := by omega
      subst e
      exact Or.inr (Or.inl ⟨Or.inl rfl, Or.inl rfl, upd_s⟩)⟩
  | p + 1, f, hm, q => by
    simp only [insL]
    by_cases h : f p ≤ x
    · rw [if_pos h]
      refine ⟨fun hq => upd_n (by omega), fun hq => ?_⟩
      by_cases e : q = p + 1
      · subst e
        exact Or.inr (Or.inl ⟨Or.inl rfl, Or.inr h, upd_s⟩)
      · exact Or.inl ⟨by omega, Int32.le_trans (hm q p (by omega) (by omega)) h, upd_n e⟩
    · rw [if_neg h]
      have hf : ∀ j, j ≤ p → upd f (p + 1) (f p) j = f j := fun j hj => upd_n (by omega)
      have ih := ins_g (x := x) p (upd f (p + 1) (f p)) (fun a b hab hb => by rw [hf a (by omega), hf b (by omega)]; exact hm a b hab (by omega)) q
      refine ⟨fun hq => (ih.1 (by omega)).trans (upd_n (by omega)), fun hq => ?_⟩
      by_cases e : q = p + 1
      · subst e
        exact Or.inr (Or.inr ⟨by omega, Int32.not_le.mp h, (ih.1 (by omega)).trans upd_s⟩)
      · have ih2 := ih.2 (by omega)
        rw [hf q (by omega), hf (q - 1) (by omega)] at ih2
        rcases ih2 with ⟨a1, a2, a3⟩ | ⟨a1, a2, a3⟩ | ⟨a1, a2, a3⟩
        · exact Or.inl ⟨by omega, a2, a3⟩
        · refine Or.inr (Or.inl ⟨Or.inr ?_, a2, a3⟩)
          rcases a1 with a1 | a1
          · rw [a1]; exact Int32.not_le.mp h
          · exact a1
        · exact Or.inr (Or.inr ⟨a1, a2, a3⟩)
def SC (u f : Nat → Int32) (i : Nat) : Prop := ∀ (v : Int32) (q : Nat), q < i → (f q < v ↔ q < cN (fun t => decide (u t < v)) i)
theorem SC_s {u f : Nat → Int32} {i : Nat} (h : SC u f i) : ∀ a b, a ≤ b → b < i → f a ≤ f b := by
  intro a b hab hb
  refine Int32.not_lt.mp (fun z => ?_)
  have h1 := (h (f a) b hb).mp z
  exact Int32.lt_irrefl ((h (f a) a (by omega)).mpr (by omega))
theorem SC_i {u f : Nat → Int32} {i : Nat} (h : SC u f i) : SC u (insL (u i) i f) (i + 1) := by
  intro v q hq
  have hN := cN_le (P := fun t => decide (u t < v)) i
  have hc : cN (fun t => decide (u t < v)) (i + 1) = cN (fun t => decide (u t < v)) i + (if u i < v then 1 else 0) := by
    show cN _ i + _ = _
    simp only [decide_eq_true_eq]
  rw [hc]
  rcases (ins_g i f (SC_s h) q).2 (by omega) with ⟨h1, h2, e⟩ | ⟨h1, h2, e⟩ | ⟨h1, h2, e⟩
  · rw [e]
    have hi := h v q h1
    by_cases hx : u i < v
    · rw [if_pos hx]
      have := hi.mp (Int32.lt_of_le_of_lt h2 hx)
      exact ⟨fun _ => by omega, fun _ => Int32.lt_of_le_of_lt h2 hx⟩
    · rw [if_neg hx]; exact hi
  · rw [e]
    by_cases hx : u i < v
    · rw [if_pos hx]
      refine ⟨fun _ => ?_, fun _ => hx⟩
      rcases h2 with h2 | h2
      · omega
      · by_cases q0 : q = 0
        · omega
        · have := (h v (q - 1) (by omega)).mp (Int32.lt_of_le_of_lt h2 hx)
          omega
    · rw [if_neg hx]
      refine ⟨fun z => absurd z hx, fun z => ?_⟩
      exfalso
      have hqi : q < i := by omega
      have h3 := (h v q hqi).mpr z
      rcases h1 with h1 | h1
      · omega
      · exact hx (Int32.lt_trans h1 h3)
  · rw [e]
    have hi := h v (q - 1) (by omega)
    by_cases hx : u i < v
    · rw [if_pos hx, hi]
      exact ⟨fun z => by omega, fun z => by omega⟩
    · rw [if_neg hx]
      refine ⟨fun z => absurd (Int32.lt_trans h2 z) hx, fun z => hi.mpr (by omega)⟩
theorem SC_d {s : am_S} {f : Nat → Int32} : ∀ i, SC (fun t => s 16 (5 + t)) (fd (srtF s) 0 i f) i
  | 0 => fun _ q hq => absurd hq (by omega)
  | i + 1 => by rw [fd_snoc, Nat.zero_add]; exact SC_i (u := fun t => s 16 (5 + t)) (SC_d i)
theorem cN_m2 {P R : Nat → Bool} (h : ∀ q, P q = true → R q = true) : ∀ t, cN P t ≤ cN R t
  | 0 => Nat.le_refl _
  | t + 1 => by
    have := cN_m2 h t
    simp only [cN]
    by_cases e : P t = true
    · rw [if_pos e, if_pos (h t e)]; omega
    · rw [if_neg e]; omega
def SQ (u : Nat → Nat) (T v t : Nat) (a : (Nat → Nat) × Nat) : Prop := a.2 = cA u T v t ∧ ∀ q, q < a.2 → a.1 q ≤ v ∧ ∀ w, w ≤ v → (a.1 q < w ↔ q < cN (fun x => decide (u x < w)) T)
theorem SQ_n {u : Nat → Nat} {T v t : Nat} {a : (Nat → Nat) × Nat} (h : SQ u T v t a) : SQ u T v (t + 1) (sF u v t a) := by
  unfold sF
  by_cases e : u t = v
  · rw [if_pos e]
    refine ⟨by rw [cA_n, if_pos e, ← h.1], fun q hq => ?_⟩
    dsimp only at hq ⊢
    by_cases eq : q = a.2
    · rw [if_pos eq]
      refine ⟨Nat.le_refl _, fun w hw => ⟨fun z => absurd z (by omega), fun z => ?_⟩⟩
      exfalso
      have h1 := h.1
      unfold cA at h1
      have h2 := cN_m2 (P := fun x => decide (u x < w)) (R := fun x => decide (u x < v)) (fun x hx => decide_eq_true (Nat.lt_of_lt_of_le (of_decide_eq_true hx) hw)) T
      omega
    · rw [if_neg eq]
      exact h.2 q (by omega)
  · rw [if_neg e]
    refine ⟨by rw [cA_n, if_neg e, h.1, Nat.add_zero], h.2⟩
theorem SQ_t {u : Nat → Nat} {T v : Nat} : ∀ (d t : Nat) (a : (Nat → Nat) × Nat), SQ u T v t a → SQ u T v (t + d) (fd (sF u v) t d a)
  | 0, _, _, h => h
  | d + 1, t, a, h => by
    have := SQ_t d (t + 1) _ (SQ_n h)
    rw [show t + (d + 1) = t + 1 + d by omega]
    exact this
theorem SQ_v {u : Nat → Nat} {T v : Nat} {a : (Nat → Nat) × Nat} (h : SQ u T v T a) : SQ u T (v + 1) 0 a := by
  have h1 : a.2 = cA u T (v + 1) 0 := by rw [h.1]; exact cA_s
  refine ⟨h1, fun q hq => ⟨by have := (h.2 q hq).1; omega, fun w hw => ?_⟩⟩
  by_cases e : w = v + 1
  · subst e
    have := (h.2 q hq).1
    unfold cA at h1
    rw [show cN (fun q => decide (u q = v + 1)) 0 = 0 from rfl, Nat.add_zero] at h1
    rw [h1] at hq
    exact ⟨fun _ => hq, fun _ => by omega⟩
  · exact (h.2 q hq).2 w (by omega)
theorem SQ_d {u : Nat → Nat} {T : Nat} : ∀ v, SQ u T v 0 (fd (fun v a => fd (sF u v) 0 T a) 0 v (fun _ => 0, 0))
  | 0 => ⟨by unfold cA; rw [cN_no T (fun q _ => decide_eq_false (by omega))]; rfl, fun q hq => absurd hq (by show ¬ q < 0; omega)⟩
  | v + 1 => by
    rw [fd_snoc, Nat.zero_add]
    have := SQ_t T 0 _ (SQ_d (u := u) (T := T) v)
    rw [Nat.zero_add] at this
    exact SQ_v this
theorem sun_eq {s : am_S} {u : Nat → Nat} {T p : Nat} (hu : ∀ t, t < T → u t ≤ 9 ∧ s 16 (5 + t) = nI (u t)) (hp : p < T) : dA s T p = nI ((seqS u T).1 p) ∧ (seqS u T).1 p ≤ 9 := by
  have h1 := SQ_d (u := u) (T := T) 10
  change SQ u T 10 0 (seqS u T) at h1
  have hlen : (seqS u T).2 = T := by
    rw [h1.1]
    unfold cA
    rw [cN_all T (fun q hq => decide_eq_true (by have := (hu q hq).1; omega))]
    rfl
  obtain ⟨-, hB⟩ := h1.2 p (by omega)
  have h9 : (seqS u T).1 p < 10 := (hB 10 (Nat.le_refl _)).mpr (by rw [cN_all T (fun q hq => decide_eq_true (by have := (hu q hq).1; omega))]; exact hp)
  have hA := SC_d (s := s) (f := s 29) T
  change SC (fun t => s 16 (5 + t)) (dA s T) T at hA
  have hcn : ∀ w, w ≤ 10 → cN (fun t => decide (s 16 (5 + t) < nI w)) T = cN (fun x => decide (u x < w)) T := by
    intro w hw
    refine cN_ext T (fun q hq => ?_)
    obtain ⟨g1, g2⟩ := hu q hq
    rw [g2]
    exact decide_eq_decide.mpr (nI_ltI (by omega) (by omega))
  generalize (seqS u T).1 p = B at hB h9 ⊢
  have k1 : dA s T p < nI (B + 1) := (hA (nI (B + 1)) p hp).mpr (by
    show p < cN (fun t => decide (s 16 (5 + t) < nI (B + 1))) T
    rw [hcn (B + 1) (by omega)]; exact (hB (B + 1) (by omega)).mp (by omega))
  have k2 : ¬ dA s T p < nI B := fun z => by
    have := (hA (nI B) p hp).mp z
    change p < cN (fun t => decide (s 16 (5 + t) < nI B)) T at this
    rw [hcn B (by omega)] at this
    exact absurd ((hB B (by omega)).mpr this) (by omega)
  refine ⟨?_, by omega⟩
  have e1 := Int32.lt_iff_toInt_lt.mp k1
  have e2 := Int32.le_iff_toInt_le.mp (Int32.not_lt.mp k2)
  rw [nI_toInt (by omega)] at e1 e2
  exact Int32.toInt_inj.mp (by rw [nI_toInt (by omega)]; omega)
theorem fd_upd {F : Nat → Int32} {b : Nat} : ∀ (d : Nat) (f : Nat → Int32) (x : Nat), fd (fun p f => upd f (b + p) (F p)) 0 d f x = if b ≤ x ∧ x < b + d then F (x - b) else f x
  | 0, f, x => by rw [if_neg (show ¬ (b ≤ x ∧ x < b + 0) by omega)]; rfl
  | d + 1, f, x => by
    rw [fd_snoc, Nat.zero_add]
    by_cases e : x = b + d
    · subst e
      rw [upd_s, if_pos (show b ≤ b + d ∧ b + d < b + (d + 1) by omega), show b + d - b = d by omega]
    · rw [upd_n e, fd_upd d f x]
      by_cases h : b ≤ x ∧ x < b + d
      · rw [if_pos h, if_pos (show b ≤ x ∧ x < b + (d + 1) by omega)]
      · rw [if_neg h, if_neg (show ¬ (b ≤ x ∧ x < b + (d + 1)) by omega)]
theorem dP_at {V : (Nat → Int32) → Int32} {s : am_S} {T m : Nat} (hT : T ≤ 7) : ∀ d, ∀ t p, t < d → p < T → fd (dPt V s T m) 0 d (s 30) (t * 7 + p) = prc V s t m (dA s T p)
  | 0, t, _, h, _ => absurd h (by omega)
  | d + 1, t, p, h, hp => by
    rw [fd_snoc, Nat.zero_add]
    have e : ∀ f x, dPt V s T m d f x = if d * 7 ≤ x ∧ x < d * 7 + T then prc V s d m (dA s T (x - d * 7)) else f x := by
      intro f x
      unfold dPt
      have := fd_upd (F := fun p => prc V s d m (dA s T p)) (b := d * 7) T f x
      refine Eq.trans ?_ this
      refine congrFun (fd_congr T 0 f (fun q _ _ a => ?_)) x
      unfold prF
      rw [prc_of (s' := upR s 29 (dA s T)) (s := s) rfl (fun _ => rfl) (fun _ => rfl) (fun _ => rfl) (fun _ => rfl)]
      rfl
    rw [e]
    by_cases h1 : t = d
    · subst h1
      rw [if_pos (show t * 7 ≤ t * 7 + p ∧ t * 7 + p < t * 7 + T by omega), show t * 7 + p - t * 7 = p by omega]
    · rw [if_neg (show ¬ (d * 7 ≤ t * 7 + p ∧ t * 7 + p < d * 7 + T) by omega)]
      exact dP_at hT d t p (by omega) hp
theorem prc_eq {V : (Nat → Int32) → Int32} {sc S : am_S} {T Q tm j m u : Nat} (hS : SR sc S T Q) (hw : RW (sc 16) (S 52) T Q) (hb : RB (S 52) T Q) (ht : S 52 35 = nI tm) (ht9 : tm ≤ 9999) (hj : j < T) (hm : m ≤ 60) : prc V sc j m (nI u) = mlm V S m j u ∧ ∃ e, e ≤ 9 ∧ mlm V S m j u = nI e := by
  have hS' := hS
  obtain ⟨-, -, h3, h4, -⟩ := hS
  obtain ⟨-, dd, hdd, hde⟩ := h4 j hj
  unfold prc mlm
  obtain ⟨-, k19, k20⟩ := h3 j hj
  rw [k19, k20, (hw.2.1 j hj).2.1, rl_mlt hS' hw hj, fs_per (fun i hi => mtm_per ht ht9 (by omega)) hm]
  have ho := o1_0 (x := fs (mtm V S j (S 46 (5 * j + 1)) (S 52 (3 * j + 1)) (nI u)) 0 m) (m := 0) (fun q hq => by have := (fs_some m 0 q hq).1; omega)
  by_cases e : S 52 (3 * j + 1) = 0
  · rw [if_neg (fun z => (rl_d0 hS' hw hb hj).mp z e), if_pos e]
    exact ⟨rfl, 0, by decide, rfl⟩
  · rw [if_pos ((rl_d0 hS' hw hb hj).mpr e), if_neg e, hde]
    by_cases e2 : fs (mtm V S j (S 46 (5 * j + 1)) (S 52 (3 * j + 1)) (nI u)) 0 m = none
    · rw [if_pos (ho.2.1.mpr e2), if_pos (ho.2.2.2.mpr e2)]
      exact ⟨ite_self _, 0, by decide, rfl⟩
    · rw [if_neg (fun z => e2 (ho.2.1.mp z)), if_neg (fun z => e2 (ho.2.2.2.mp z))]
      refine ⟨?_, dd, hdd, rfl⟩
      by_cases e3 : nI dd ≤ 0
      · rw [if_pos e3]
        have := (nI_leI (a := dd) (b := 0) (by omega) (by decide)).mp e3
        rw [show dd = 0 by omega]
        rfl
      · rw [if_neg e3]

