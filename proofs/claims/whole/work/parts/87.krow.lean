/-! the class's acts, on the row of what changes alone -/
def slF (s : am_S) (f : Nat → Int32) (t : Int32) : Bool := isT s t && decide (0 < f (12 + cl t))
def hdF (V : (Nat → Int32) → Int32) (s : am_S) (f : Nat → Int32) (j : Nat) : Int32 := mm (V (lets (s 19 j) (f (12 + j)) (f (5 + j)) (rm12 (f 4)) (s 20 j) (f (26 + cl (s 18 j)))))
def kSeal (s : am_S) (f : Nat → Int32) (t m : Int32) : Int32 × (Nat → Int32) := if isT s t = false then (-1, f) else if m < 1 then (-1, f) else if 9 - f (12 + cl t) < m then (-1, f) else if m ≤ f 0 then (f (12 + cl t) + m, upd (upd f 0 (f 0 - m)) (12 + cl t) (f (12 + cl t) + m)) else (-1, f)
def kOpen (s : am_S) (f : Nat → Int32) (t : Int32) : Int32 × (Nat → Int32) := if slF s f t = false then (-1, f) else (mn 999 (f 0 + f (12 + cl t)), upd (upd f 0 (mn 999 (f 0 + f (12 + cl t)))) (12 + cl t) 0)
def skF' (f : Nat → Int32) (r j : Nat) : Bool := decide (2 * f (12 + j) ≤ f (26 + r))
def kPry (s : am_S) (f : Nat → Int32) (t r : Int32) : Int32 × (Nat → Int32) := if slF s f t = false then (-1, f) else if isR s r = false then (-1, f) else if s 18 (cl t) = r then (-1, f) else
  if skF' f (cl r) (cl t) then (1, upd (upd f (19 + cl t) (f (19 + cl t) ||| (1 <<< (r &&& 31)))) 3 (f 3 + 1))
  else (0, upd (upd (upd (upd f (19 + cl t) (f (19 + cl t) ||| (1 <<< (r &&& 31)))) (12 + cl t) 0) (31 + cl r) (mn 9 (f (31 + cl r) + 1))) (26 + cl r) (mx 0 (f (26 + cl r) - 1)))
def kCarry (s : am_S) (f : Nat → Int32) (t v : Int32) : Int32 × (Nat → Int32) := if isT s t = false then (-1, f) else if v < 0 then (-1, f) else if 9 < v then (-1, f) else if v = f (5 + cl t) then (-1, f) else (f (5 + cl t), upd f (5 + cl t) v)
def kHeat (s : am_S) (f : Nat → Int32) (v : Int32) : Int32 × (Nat → Int32) := if 0 < s 15 6 then (if v < 0 then (-1, f) else if 40 < v then (-1, f) else if v = f 1 then (-1, f) else (f 1, upd f 1 v)) else (-1, f)
def kMelt (s : am_S) (f : Nat → Int32) (ev : Int32) (i : Nat) : Nat → Int32 := if f (19 + i) = ev then upd f (12 + i) 0 else upd (upd (upd f (12 + i) 0) (19 + i) ev) 2 (f 2 + s 20 i)
def kPF (V : (Nat → Int32) → Int32) (s : am_S) (wm ev : Int32) (i : Nat) (a : Int32 × (Nat → Int32)) : Int32 × (Nat → Int32) := if slF s a.2 (nI i) = true then (if wm ≤ hdF V s a.2 i then a else (a.1 ||| bt i, kMelt s a.2 ev i)) else a
def kPA (V : (Nat → Int32) → Int32) (s : am_S) (T : Nat) (f : Nat → Int32) : Int32 × (Nat → Int32) := fd (kPF V s (warm (f 1) (f 4)) ((1 <<< (s 15 7 &&& 31)) - 1)) 0 T (0, f)
def kPass (V : (Nat → Int32) → Int32) (s : am_S) (T : Nat) (f : Nat → Int32) : Int32 × (Nat → Int32) := ((kPA V s T f).1, upd (upd (kPA V s T f).2 0 (mn 999 ((kPA V s T f).2 0 + s 15 8))) 4 ((kPA V s T f).2 4 + 1))
def kMonth (V : (Nat → Int32) → Int32) (s : am_S) (T : Nat) (f : Nat → Int32) : Int32 × (Nat → Int32) := if 0 < s 15 6 then (if f 4 < 9999 then kPass V s T f else (-1, f)) else (-1, f)
def kAct (V : (Nat → Int32) → Int32) (s : am_S) (T : Nat) (f : Nat → Int32) (a b c : Int32) : Int32 × (Nat → Int32) := if a = 0 then kMonth V s T f else if a = 1 then kSeal s f b c else if a = 2 then kPry s f b c else if a = 3 then kOpen s f b else if a = 4 then kCarry s f b c else if a = 5 then kHeat s f b else (-1, f)
/-- an answer with the row put back -/
def r16 (s : am_S) (z : Int32 × (Nat → Int32)) : Int32 × am_S := (z.1, upR s 16 z.2)
theorem r16_rf {s : am_S} {v : Int32} : r16 s (v, s 16) = (v, s) := by unfold r16; rw [upR_rf]
theorem up16 {s : am_S} {f : Nat → Int32} {i : Nat} {v : Int32} : up (upR s 16 f) 16 i v = upR s 16 (upd f i v) := upR_up
theorem up16' {s : am_S} {i : Nat} {v : Int32} : up s 16 i v = upR s 16 (upd (s 16) i v) := rfl
theorem up16_2 {s : am_S} {i j : Nat} {a b : Int32} : up (up s 16 i a) 16 j b = upR s 16 (upd (upd (s 16) i a) j b) := by
  rw [show up s 16 i a = upR s 16 (upd (s 16) i a) from rfl, upR_up]
theorem up16_4 {s : am_S} {i j k m : Nat} {a b c d : Int32} : up (up (up (up s 16 i a) 16 j b) 16 k c) 16 m d = upR s 16 (upd (upd (upd (upd (s 16) i a) j b) k c) m d) := by
  rw [up16_2 (i := i), upR_up, upR_up]
theorem aSeal_r {s : am_S} {t m : Int32} : aSeal s t m = r16 s (kSeal s (s 16) t m) := by
  unfold aSeal kSeal
  by_cases h1 : isT s t = false
  · rw [if_pos h1, if_pos h1, r16_rf]
  · rw [if_neg h1, if_neg h1]
    by_cases h2 : m < 1
    · rw [if_pos h2, if_pos h2, r16_rf]
    · rw [if_neg h2, if_neg h2]
      by_cases h3 : 9 - s 16 (12 + cl t) < m
      · rw [if_pos h3, if_pos h3, r16_rf]
      · rw [if_neg h3, if_neg h3]
        by_cases h4 : m ≤ s 16 0
        · rw [if_pos h4, if_pos h4, up16_2]; rfl
        · rw [if_neg h4, if_neg h4, r16_rf]
theorem aOpen_r {s : am_S} {t : Int32} : aOpen s t = r16 s (kOpen s (s 16) t) := by
  unfold aOpen kOpen
  by_cases h1 : sl s t = false
  · rw [if_pos h1, if_pos (show slF s (s 16) t = false from h1), r16_rf]
  · rw [if_neg h1, if_neg (show ¬ slF s (s 16) t = false from h1), up16_2]; rfl
theorem aPry_r {s : am_S} {t r : Int32} : aPry s t r = r16 s (kPry s (s 16) t r) := by
  unfold aPry kPry
  by_cases h1 : sl s t = false
  · rw [if_pos h1, if_pos (show slF s (s 16) t = false from h1), r16_rf]
  · rw [if_neg h1, if_neg (show ¬ slF s (s 16) t = false from h1)]
    by_cases h2 : isR s r = false
    · rw [if_pos h2, if_pos h2, r16_rf]
    · rw [if_neg h2, if_neg h2]
      by_cases h3 : s 18 (cl t) = r
      · rw [if_pos h3, if_pos h3, r16_rf]
      · rw [if_neg h3, if_neg h3]
        by_cases h4 : sk s (cl r) (cl t) = true
        · rw [if_pos h4, if_pos (show skF' (s 16) (cl r) (cl t) = true from h4), up16_2]; rfl
        · rw [if_neg h4, if_neg (show ¬ skF' (s 16) (cl r) (cl t) = true from h4), up16_4]; rfl
theorem aCarry_r {s : am_S} {t v : Int32} : aCarry s t v = r16 s (kCarry s (s 16) t v) := by
  unfold aCarry kCarry
  by_cases h1 : isT s t = false
  · rw [if_pos h1, if_pos h1, r16_rf]
  · rw [if_neg h1, if_neg h1]
    by_cases h2 : v < 0
    · rw [if_pos h2, if_pos h2, r16_rf]
    · rw [if_neg h2, if_neg h2]
      by_cases h3 : 9 < v
      · rw [if_pos h3, if_pos h3, r16_rf]
      · rw [if_neg h3, if_neg h3]
        by_cases h4 : v = s 16 (5 + cl t)
        · rw [if_pos h4, if_pos h4, r16_rf]
        · rw [if_neg h4, if_neg h4, up16']; rfl
theorem aHeat_r {s : am_S} {v : Int32} : aHeat s v = r16 s (kHeat s (s 16) v) := by
  unfold aHeat kHeat
  by_cases h1 : 0 < s 15 6
  · rw [if_pos h1, if_pos h1]
    by_cases h2 : v < 0
    · rw [if_pos h2, if_pos h2, r16_rf]
    · rw [if_neg h2, if_neg h2]
      by_cases h3 : 40 < v
      · rw [if_pos h3, if_pos h3, r16_rf]
      · rw [if_neg h3, if_neg h3]
        by_cases h4 : v = s 16 1
        · rw [if_pos h4, if_pos h4, r16_rf]
        · rw [if_neg h4, if_neg h4, up16']; rfl
  · rw [if_neg h1, if_neg h1, r16_rf]
theorem passF_r {V : (Nat → Int32) → Int32} {s : am_S} {wm ev : Int32} {i : Nat} (a : Int32 × (Nat → Int32)) : passF V wm ev i (r16 s a) = r16 s (kPF V s wm ev i a) := by
  unfold passF kPF
  by_cases h1 : slF s a.2 (nI i) = true
  · rw [if_pos h1, if_pos (show sl (r16 s a).2 (nI i) = true from h1)]
    by_cases h2 : wm ≤ hdF V s a.2 i
    · rw [if_pos h2, if_pos (show wm ≤ hdN V (r16 s a).2 i from h2)]
    · rw [if_neg h2, if_neg (show ¬ wm ≤ hdN V (r16 s a).2 i from h2)]
      refine Prod.ext rfl ?_
      show meltAt (upR s 16 a.2) ev i = upR s 16 (kMelt s a.2 ev i)
      unfold meltAt kMelt
      by_cases h3 : a.2 (19 + i) = ev
      · rw [if_pos h3, if_pos (show upR s 16 a.2 16 (19 + i) = ev from h3), up16]
      · rw [if_neg h3, if_neg (show ¬ upR s 16 a.2 16 (19 + i) = ev from h3), up16, up16, up16]; rfl
  · rw [if_neg h1, if_neg (show ¬ sl (r16 s a).2 (nI i) = true from h1)]
theorem passL_r {V : (Nat → Int32) → Int32} {s : am_S} {wm ev : Int32} : ∀ (d i : Nat) (a : Int32 × (Nat → Int32)), fd (passF V wm ev) i d (r16 s a) = r16 s (fd (kPF V s wm ev) i d a)
  | 0, _, _ => rfl
  | d + 1, i, a => by simp only [fd]; rw [passF_r, passL_r d (i + 1)]
theorem aMonth_r {V : (Nat → Int32) → Int32} {s : am_S} {T : Nat} : aMonth V s T = r16 s (kMonth V s T (s 16)) := by
  unfold aMonth kMonth
  by_cases h1 : 0 < s 15 6
  · rw [if_pos h1, if_pos h1]
    by_cases h2 : s 16 4 < 9999
    · rw [if_pos h2, if_pos h2]
      unfold aPass
      have h := passL_r (V := V) (s := s) (wm := warm (s 16 1) (s 16 4)) (ev := (1 <<< (s 15 7 &&& 31)) - 1) T 0 (0, s 16)
      rw [r16_rf] at h
      rw [h]
      refine Prod.ext rfl ?_
      show up (up (upR s 16 (kPA V s T (s 16)).2) 16 0 _) 16 4 _ = upR s 16 (kPass V s T (s 16)).2
      rw [up16, up16]; rfl
    · rw [if_neg h2, if_neg h2, r16_rf]
  · rw [if_neg h1, if_neg h1, r16_rf]
theorem aAct_r {V : (Nat → Int32) → Int32} {s : am_S} {T : Nat} {a b c : Int32} : aAct V s T a b c = r16 s (kAct V s T (s 16) a b c) := by
  unfold aAct kAct
  rw [aMonth_r, aSeal_r, aPry_r, aOpen_r, aCarry_r, aHeat_r]
  (repeat' split) <;> first | rfl | exact r16_rf.symm
/-- what the acts read beside the row -/
def eqS (s s' : am_S) : Prop := (∀ j, s' 15 j = s 15 j) ∧ s' 18 = s 18 ∧ s' 19 = s 19 ∧ s' 20 = s 20
theorem eqS_C {s s' : am_S} (h : eo skC s s') : eqS s s' := ⟨fun j => h 15 j rfl, eo_cell h 18 (fun _ => rfl), eo_cell h 19 (fun _ => rfl), eo_cell h 20 (fun _ => rfl)⟩
theorem kMonth_c {V : (Nat → Int32) → Int32} {s s' : am_S} (h : eqS s s') : kMonth V s' = kMonth V s := by
  obtain ⟨h15, h18, h19, h20⟩ := h
  funext T f
  unfold kMonth kPass kPA
  have e : kPF V s' = kPF V s := by
    funext wm ev i a
    unfold kPF slF isT hdF kMelt
    rw [h15, h18, h19, h20]
  rw [h15 6, h15 7, h15 8, e]
theorem kAct_c {V : (Nat → Int32) → Int32} {s s' : am_S} (h : eqS s s') : kAct V s' = kAct V s := by
  have hm := kMonth_c (V := V) h
  obtain ⟨h15, h18, h19, h20⟩ := h
  funext T f a b c
  unfold kAct
  rw [hm]
  unfold kSeal kPry kOpen kCarry kHeat slF isT isR
  rw [h15 6, h15 7, h18]
theorem eo_16 {s s1 s2 : am_S} {f f1 : Nat → Int32} (h : eo skC (upR s 16 f) s1) (h2 : eo skC (upR s1 16 f1) s2) : eo skC (upR s 16 f1) s2 := by
  refine eo_tr ?_ h2
  have := eo_upR3 (k := 16) (f := f1) h
  rw [upR_upR] at this
  exact this
