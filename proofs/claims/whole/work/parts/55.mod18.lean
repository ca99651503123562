def cN (P : Nat → Bool) : Nat → Nat
  | 0 => 0
  | t + 1 => cN P t + (if P t = true then 1 else 0)
theorem cN_le {P : Nat → Bool} : ∀ t, cN P t ≤ t
  | 0 => Nat.le_refl _
  | t + 1 => by have := cN_le (P := P) t; simp only [cN]; split <;> omega
theorem cN_mono {P : Nat → Bool} {a b : Nat} (h : a ≤ b) : cN P a ≤ cN P b := by
  induction h with
  | refl => exact Nat.le_refl _
  | step _ ih => simp only [cN]; omega
theorem cN_add {P Q R : Nat → Bool} (h : ∀ t, (if P t = true then 1 else 0) + (if Q t = true then 1 else 0) = (if R t = true then 1 else 0)) : ∀ t, cN P t + cN Q t = cN R t
  | 0 => rfl
  | t + 1 => by have := cN_add h t; have := h t; simp only [cN]; omega
theorem cN_all {P : Nat → Bool} : ∀ t, (∀ q, q < t → P q = true) → cN P t = t
  | 0, _ => rfl
  | t + 1, h => by simp only [cN]; rw [cN_all t (fun q hq => h q (by omega)), if_pos (h t (by omega))]
theorem cN_no {P : Nat → Bool} : ∀ t, (∀ q, q < t → P q = false) → cN P t = 0
  | 0, _ => rfl
  | t + 1, h => by simp only [cN]; rw [cN_no t (fun q hq => h q (by omega)), if_neg (by rw [h t (by omega)]; exact Bool.false_ne_true)]
def sF (u : Nat → Nat) (v t : Nat) (a : (Nat → Nat) × Nat) : (Nat → Nat) × Nat := if u t = v then (fun q => if q = a.2 then v else a.1 q, a.2 + 1) else a
def seqS (u : Nat → Nat) (T : Nat) : (Nat → Nat) × Nat := fd (fun v a => fd (sF u v) 0 T a) 0 10 (fun _ => 0, 0)
def mlm (V : (Nat → Int32) → Int32) (s : am_S) (M t u : Nat) : Int32 := if s 52 (3 * t + 1) = 0 then 0 else if oN (fs (mtm V s t (s 46 (5 * t + 1)) (s 52 (3 * t + 1)) (nI u)) 0 M) = -1 then 0 else s 46 (5 * t + 2)
def dlR (V : (Nat → Int32) → Int32) (s : am_S) (T M : Nat) : Int32 × Int32 := gd T (seqS (fun t => cl (s 52 (3 * t))) T).1 (mlm V s M) T 0 0 0 (-1, -1)
def m_dealt (V : (Nat → Int32) → Int32) (s : am_S) (T : Nat) (m x : Int32) : Int32 := if s 39 26 = 0 then -1 else if inn m.toInt64 1 24 = true then (if inn x.toInt64 0 1 = true then (if x = 0 then (dlR V s T (cl m)).1 else (dlR V s T (cl m)).2) else -1) else -1
def cA (u : Nat → Nat) (T v t : Nat) : Nat := cN (fun q => decide (u q < v)) T + cN (fun q => decide (u q = v)) t
theorem cA_lt {u : Nat → Nat} {T v t : Nat} (ht : t < T) (h : u t = v) : cA u T v t < T := by
  unfold cA
  have h1 : cN (fun q => decide (u q = v)) (t + 1) = cN (fun q => decide (u q = v)) t + 1 := by
    show cN _ t + _ = _
    rw [if_pos (decide_eq_true h)]
  have h2 := cN_mono (P := fun q => decide (u q = v)) (a := t + 1) (b := T) (by omega)
  have h3 := cN_add (P := fun q => decide (u q < v)) (Q := fun q => decide (u q = v)) (R := fun q => decide (u q < v + 1)) (fun q => by
    by_cases a : u q < v
    · simp [a, show ¬ u q = v from by omega, show u q < v + 1 from by omega]
    · by_cases b : u q = v
      · simp [b]
      · simp [a, b, show ¬ u q < v + 1 from by omega]) T
  have h4 := cN_le (P := fun q => decide (u q < v + 1)) T
  omega
theorem cA_s {u : Nat → Nat} {T v : Nat} : cA u T v T = cA u T (v + 1) 0 := by
  unfold cA
  rw [show cN (fun q => decide (u q = v + 1)) 0 = 0 from rfl, Nat.add_zero]
  exact cN_add (fun q => by
    by_cases a : u q < v
    · simp [a, show ¬ u q = v from by omega, show u q < v + 1 from by omega]
    · by_cases b : u q = v
      · simp [b]
      · simp [a, b, show ¬ u q < v + 1 from by omega]) T
theorem cA_n {u : Nat → Nat} {T v t : Nat} : cA u T v (t + 1) = cA u T v t + (if u t = v then 1 else 0) := by
  unfold cA
  simp only [cN, decide_eq_true_eq]
  omega
theorem upMK {l : Launch} {g : ag_G} {MI : am_S → am_N → Prop} {V : (Nat → Int32) → Int32} {s s1 : am_S} {n n1 : am_N} {T Q : Nat} (h : MC l g MI V s n T Q) (m : MI s1 n1) {z : Int32 × Int32} : MI (dS s1 z) n1 := h.2.1.2.2.1 s1 _ n1 n1 m rfl rfl rfl rfl rfl rfl
