/-! the grammar of a law: one relation for both readers (the least that keeps the rules) -/
abbrev Ex := (Nat → Int32) → Int32
abbrev Rs := Except Nat (Nat × Ex)
abbrev Nt := Nat × Ex
def e0 : Ex := fun _ => 0
def nAtom : Nt := (0, e0)
def nTerm : Nt := (1, e0)
def nTl (e : Ex) : Nt := (2, e)
def nSum : Nt := (3, e0)
def nSl (e : Ex) : Nt := (4, e)
def nCmp (e : Ex) : Nt := (5, e)
def nUnit : Nt := (6, e0)
def nPart : Nt := (7, e0)
def nPart1 (e : Ex) : Nt := (8, e)
def nPl (e : Ex) : Nt := (9, e)
def nCond : Nt := (10, e0)
def nCond1 (e : Ex) : Nt := (11, e)
def nQl (e : Ex) : Nt := (12, e)
def rOk (p : Nat) (e : Ex) : Rs := .ok (p, e)
def rNo (f : Nat) : Rs := .error f
def eMul (v a : Ex) : Ex := fun A => wi ((v A).toInt64 * (a A).toInt64)
def eDiv (v a : Ex) : Ex := fun A => if a A = 0 then 0 else v A / a A
def eAdd (v a : Ex) : Ex := fun A => wi ((v A).toInt64 + (a A).toInt64)
def eSub (v a : Ex) : Ex := fun A => wi ((v A).toInt64 - (a A).toInt64)
def eCmp (c : Int32) (v a : Ex) : Ex := fun A => if c = 61 then (if v A = a A then 1 else 0) else if c = 60 then (if v A < a A then 1 else 0) else (if a A < v A then 1 else 0)
def eNot (v : Ex) : Ex := fun A => 1 - v A
def eAnd (v a : Ex) : Ex := fun A => v A &&& a A
def eOr (v a : Ex) : Ex := fun A => v A ||| a A
/-- the number at q: up to d digits more -/
def nmD (tx : Nat → Nat) (E : Nat) : Nat → Nat → Nat → Bool × Nat × Nat
  | 0, q, v => (!dg tx E q, q, v)
  | d + 1, q, v => if dg tx E q = true then nmD tx E d (q + 1) (10 * v + (tx q - 48)) else (true, q, v)
def cst (tx : Nat → Nat) (E p : Nat) : Int32 := cv tx E (skw tx E p)
def ZC (tx : Nat → Nat) (E : Nat) (P : Nt → Nat → Nat → Rs → Prop) : Prop :=
  (∀ (w : Nat) (p : Nat) (i : Nat), xsp 4 (cst tx E p) = some i → P nAtom w p (rOk (skw tx E p + 1) (fun A => A i))) ∧
  (∀ (w : Nat) (p : Nat) (p1 : Nat) (e : Ex), xsp 4 (cst tx E p) = none → (cst tx E p) = 91 → w < 6 → P nSum (w + 1) (skw tx E p + 1) (rOk p1 e) → (cst tx E p1) = 93 → P nAtom w p (rOk (skw tx E p1 + 1) e)) ∧
  (∀ (w : Nat) (p : Nat) (p1 : Nat) (e : Ex), xsp 4 (cst tx E p) = none → (cst tx E p) = 91 → w < 6 → P nSum (w + 1) (skw tx E p + 1) (rOk p1 e) → (cst tx E p1) ≠ 93 → P nAtom w p (rNo (skw tx E p1))) ∧
  (∀ (w : Nat) (p : Nat) (f : Nat), xsp 4 (cst tx E p) = none → (cst tx E p) = 91 → w < 6 → P nSum (w + 1) (skw tx E p + 1) (rNo f) → P nAtom w p (rNo f)) ∧
  (∀ (p : Nat), xsp 4 (cst tx E p) = none → (cst tx E p) = 91 → P nAtom 6 p (rNo (skw tx E p))) ∧
  (∀ (w : Nat) (p : Nat) (q : Nat) (n : Nat), xsp 4 (cst tx E p) = none → (cst tx E p) ≠ 91 → dg tx E (skw tx E p) = true → nmD tx E 4 (skw tx E p) 0 = (true, q, n) → P nAtom w p (rOk q (fun _ => nI n))) ∧
  (∀ (w : Nat) (p : Nat) (q : Nat) (n : Nat), xsp 4 (cst tx E p) = none → (cst tx E p) ≠ 91 → dg tx E (skw tx E p) = true → nmD tx E 4 (skw tx E p) 0 = (false, q, n) → P nAtom w p (rNo q)) ∧
  (∀ (w : Nat) (p : Nat), xsp 4 (cst tx E p) = none → (cst tx E p) ≠ 91 → dg tx E (skw tx E p) = false → P nAtom w p (rNo (skw tx E p))) ∧
  (∀ (w : Nat) (p : Nat) (p1 : Nat) (a : Ex) (r : Rs), P nAtom w p (rOk p1 a) → P (nTl a) w p1 r → P nTerm w p r) ∧
  (∀ (w : Nat) (p : Nat) (f : Nat), P nAtom w p (rNo f) → P nTerm w p (rNo f)) ∧
  (∀ (w : Nat) (p : Nat) (v : Ex), (cst tx E p) ≠ 42 → (cst tx E p) ≠ 47 → P (nTl v) w p (rOk (skw tx E p) v)) ∧
  (∀ (w : Nat) (p : Nat) (p1 : Nat) (v : Ex) (a : Ex) (r : Rs), (cst tx E p) = 42 → P nAtom w (skw tx E p + 1) (rOk p1 a) → P (nTl (eMul v a)) w p1 r → P (nTl v) w p r) ∧
  (∀ (w : Nat) (p : Nat) (p1 : Nat) (v : Ex) (a : Ex) (r : Rs), (cst tx E p) = 47 → P nAtom w (skw tx E p + 1) (rOk p1 a) → P (nTl (eDiv v a)) w p1 r → P (nTl v) w p r) ∧
  (∀ (w : Nat) (p : Nat) (f : Nat) (v : Ex), ((cst tx E p) = 42 ∨ (cst tx E p) = 47) → P nAtom w (skw tx E p + 1) (rNo f) → P (nTl v) w p (rNo f)) ∧
  (∀ (w : Nat) (p : Nat) (p1 : Nat) (a : Ex) (r : Rs), P nTerm w p (rOk p1 a) → P (nSl a) w p1 r → P nSum w p r) ∧
  (∀ (w : Nat) (p : Nat) (f : Nat), P nTerm w p (rNo f) → P nSum w p (rNo f)) ∧
  (∀ (w : Nat) (p : Nat) (v : Ex), (cst tx E p) ≠ 43 → (cst tx E p) ≠ 45 → P (nSl v) w p (rOk (skw tx E p) v)) ∧
  (∀ (w : Nat) (p : Nat) (p1 : Nat) (v : Ex) (a : Ex) (r : Rs), (cst tx E p) = 43 → P nTerm w (skw tx E p + 1) (rOk p1 a) → P (nSl (eAdd v a)) w p1 r → P (nSl v) w p r) ∧
  (∀ (w : Nat) (p : Nat) (p1 : Nat) (v : Ex) (a : Ex) (r : Rs), (cst tx E p) = 45 → P nTerm w (skw tx E p + 1) (rOk p1 a) → P (nSl (eSub v a)) w p1 r → P (nSl v) w p r) ∧
  (∀ (w : Nat) (p : Nat) (f : Nat) (v : Ex), ((cst tx E p) = 43 ∨ (cst tx E p) = 45) → P nTerm w (skw tx E p + 1) (rNo f) → P (nSl v) w p (rNo f)) ∧
  (∀ (w : Nat) (p : Nat) (v : Ex), sgC (cst tx E p) = false → P (nCmp v) w p (rNo (skw tx E p))) ∧
  (∀ (w : Nat) (p : Nat) (p1 : Nat) (v : Ex) (a : Ex), sgC (cst tx E p) = true → P nSum w (skw tx E p + 1) (rOk p1 a) → P (nCmp v) w p (rOk p1 (eCmp (cst tx E p) v a))) ∧
  (∀ (w : Nat) (p : Nat) (f : Nat) (v : Ex), sgC (cst tx E p) = true → P nSum w (skw tx E p + 1) (rNo f) → P (nCmp v) w p (rNo f)) ∧
  (∀ (w : Nat) (p : Nat) (p1 : Nat) (a : Ex), (cst tx E p) = 33 → w < 6 → P nUnit (w + 1) (skw tx E p + 1) (rOk p1 a) → P nUnit w p (rOk p1 (eNot a))) ∧
  (∀ (w : Nat) (p : Nat) (f : Nat), (cst tx E p) = 33 → w < 6 → P nUnit (w + 1) (skw tx E p + 1) (rNo f) → P nUnit w p (rNo f)) ∧
  (∀ (p : Nat), (cst tx E p) = 33 → P nUnit 6 p (rNo (skw tx E p))) ∧
  (∀ (w : Nat) (p : Nat) (p1 : Nat) (a : Ex), (cst tx E p) = 40 → w < 6 → P nCond (w + 1) (skw tx E p + 1) (rOk p1 a) → (cst tx E p1) = 41 → P nUnit w p (rOk (skw tx E p1 + 1) a)) ∧
  (∀ (w : Nat) (p : Nat) (p1 : Nat) (a : Ex), (cst tx E p) = 40 → w < 6 → P nCond (w + 1) (skw tx E p + 1) (rOk p1 a) → (cst tx E p1) ≠ 41 → P nUnit w p (rNo (skw tx E p1))) ∧
  (∀ (w : Nat) (p : Nat) (f : Nat), (cst tx E p) = 40 → w < 6 → P nCond (w + 1) (skw tx E p + 1) (rNo f) → P nUnit w p (rNo f)) ∧
  (∀ (p : Nat), (cst tx E p) = 40 → P nUnit 6 p (rNo (skw tx E p))) ∧
  (∀ (w : Nat) (p : Nat) (p1 : Nat) (a : Ex) (r : Rs), (cst tx E p) ≠ 33 → (cst tx E p) ≠ 40 → P nSum w (skw tx E p) (rOk p1 a) → P (nCmp a) w p1 r → P nUnit w p r) ∧
  (∀ (w : Nat) (p : Nat) (f : Nat), (cst tx E p) ≠ 33 → (cst tx E p) ≠ 40 → P nSum w (skw tx E p) (rNo f) → P nUnit w p (rNo f)) ∧
  (∀ (w : Nat) (p : Nat) (p1 : Nat) (a : Ex) (r : Rs), P nUnit w p (rOk p1 a) → P (nPl a) w p1 r → P nPart w p r) ∧
  (∀ (w : Nat) (p : Nat) (f : Nat), P nUnit w p (rNo f) → P nPart w p (rNo f)) ∧
  (∀ (w : Nat) (p : Nat) (p1 : Nat) (v : Ex) (a : Ex) (r : Rs), P (nCmp v) w p (rOk p1 a) → P (nPl a) w p1 r → P (nPart1 v) w p r) ∧
  (∀ (w : Nat) (p : Nat) (f : Nat) (v : Ex), P (nCmp v) w p (rNo f) → P (nPart1 v) w p (rNo f)) ∧
  (∀ (w : Nat) (p : Nat) (v : Ex), (cst tx E p) ≠ 38 → P (nPl v) w p (rOk (skw tx E p) v)) ∧
  (∀ (w : Nat) (p : Nat) (p1 : Nat) (v : Ex) (a : Ex) (r : Rs), (cst tx E p) = 38 → P nUnit w (skw tx E p + 1) (rOk p1 a) → P (nPl (eAnd v a)) w p1 r → P (nPl v) w p r) ∧
  (∀ (w : Nat) (p : Nat) (f : Nat) (v : Ex), (cst tx E p) = 38 → P nUnit w (skw tx E p + 1) (rNo f) → P (nPl v) w p (rNo f)) ∧
  (∀ (w : Nat) (p : Nat) (p1 : Nat) (a : Ex) (r : Rs), P nPart w p (rOk p1 a) → P (nQl a) w p1 r → P nCond w p r) ∧
  (∀ (w : Nat) (p : Nat) (f : Nat), P nPart w p (rNo f) → P nCond w p (rNo f)) ∧
  (∀ (w : Nat) (p : Nat) (p1 : Nat) (v : Ex) (a : Ex) (r : Rs), P (nPart1 v) w p (rOk p1 a) → P (nQl a) w p1 r → P (nCond1 v) w p r) ∧
  (∀ (w : Nat) (p : Nat) (f : Nat) (v : Ex), P (nPart1 v) w p (rNo f) → P (nCond1 v) w p (rNo f)) ∧
  (∀ (w : Nat) (p : Nat) (v : Ex), (cst tx E p) ≠ 124 → P (nQl v) w p (rOk (skw tx E p) v)) ∧
  (∀ (w : Nat) (p : Nat) (p1 : Nat) (v : Ex) (a : Ex) (r : Rs), (cst tx E p) = 124 → P nPart w (skw tx E p + 1) (rOk p1 a) → P (nQl (eOr v a)) w p1 r → P (nQl v) w p r) ∧
  (∀ (w : Nat) (p : Nat) (f : Nat) (v : Ex), (cst tx E p) = 124 → P nPart w (skw tx E p + 1) (rNo f) → P (nQl v) w p (rNo f))
def PZ (tx : Nat → Nat) (E : Nat) (nt : Nt) (w p : Nat) (r : Rs) : Prop := ∀ P : Nt → Nat → Nat → Rs → Prop, ZC tx E P → P nt w p r
theorem z_atL {tx : Nat → Nat} {E : Nat} {w : Nat} {p : Nat} {i : Nat} (h0 : xsp 4 (cst tx E p) = some i) : PZ tx E nAtom w p (rOk (skw tx E p + 1) (fun A => A i)) := fun P hP => hP.1 w p i h0
theorem z_atB {tx : Nat → Nat} {E : Nat} {w : Nat} {p : Nat} {p1 : Nat} {e : Ex} (h0 : xsp 4 (cst tx E p) = none) (h1 : (cst tx E p) = 91) (h2 : w < 6) (h3 : PZ tx E nSum (w + 1) (skw tx E p + 1) (rOk p1 e)) (h4 : (cst tx E p1) = 93) : PZ tx E nAtom w p (rOk (skw tx E p1 + 1) e) := fun P hP => hP.2.1 w p p1 e h0 h1 h2 (h3 P hP) h4
theorem z_atBc {tx : Nat → Nat} {E : Nat} {w : Nat} {p : Nat} {p1 : Nat} {e : Ex} (h0 : xsp 4 (cst tx E p) = none) (h1 : (cst tx E p) = 91) (h2 : w < 6) (h3 : PZ tx E nSum (w + 1) (skw tx E p + 1) (rOk p1 e)) (h4 : (cst tx E p1) ≠ 93) : PZ tx E nAtom w p (rNo (skw tx E p1)) := fun P hP => hP.2.2.1 w p p1 e h0 h1 h2 (h3 P hP) h4
theorem z_atBf {tx : Nat → Nat} {E : Nat} {w : Nat} {p : Nat} {f : Nat} (h0 : xsp 4 (cst tx E p) = none) (h1 : (cst tx E p) = 91) (h2 : w < 6) (h3 : PZ tx E nSum (w + 1) (skw tx E p + 1) (rNo f)) : PZ tx E nAtom w p (rNo f) := fun P hP => hP.2.2.2.1 w p f h0 h1 h2 (h3 P hP)
theorem z_atB6 {tx : Nat → Nat} {E : Nat} {p : Nat} (h0 : xsp 4 (cst tx E p) = none) (h1 : (cst tx E p) = 91) : PZ tx E nAtom 6 p (rNo (skw tx E p)) := fun P hP => hP.2.2.2.2.1 p h0 h1
theorem z_atN {tx : Nat → Nat} {E : Nat} {w : Nat} {p : Nat} {q : Nat} {n : Nat} (h0 : xsp 4 (cst tx E p) = none) (h1 : (cst tx E p) ≠ 91) (h2 : dg tx E (skw tx E p) = true) (h3 : nmD tx E 4 (skw tx E p) 0 = (true, q, n)) : PZ tx E nAtom w p (rOk q (fun _ => nI n)) := fun P hP => hP.2.2.2.2.2.1 w p q n h0 h1 h2 h3
theorem z_atN5 {tx : Nat → Nat} {E : Nat} {w : Nat} {p : Nat} {q : Nat} {n : Nat} (h0 : xsp 4 (cst tx E p) = none) (h1 : (cst tx E p) ≠ 91) (h2 : dg tx E (skw tx E p) = true) (h3 : nmD tx E 4 (skw tx E p) 0 = (false, q, n)) : PZ tx E nAtom w p (rNo q) := fun P hP => hP.2.2.2.2.2.2.1 w p q n h0 h1 h2 h3
theorem z_atN0 {tx : Nat → Nat} {E : Nat} {w : Nat} {p : Nat} (h0 : xsp 4 (cst tx E p) = none) (h1 : (cst tx E p) ≠ 91) (h2 : dg tx E (skw tx E p) = false) : PZ tx E nAtom w p (rNo (skw tx E p)) := fun P hP => hP.2.2.2.2.2.2.2.1 w p h0 h1 h2
theorem z_te {tx : Nat → Nat} {E : Nat} {w : Nat} {p : Nat} {p1 : Nat} {a : Ex} {r : Rs} (h0 : PZ tx E nAtom w p (rOk p1 a)) (h1 : PZ tx E (nTl a) w p1 r) : PZ tx E nTerm w p r := fun P hP => hP.2.2.2.2.2.2.2.2.1 w p p1 a r (h0 P hP) (h1 P hP)
theorem z_tef {tx : Nat → Nat} {E : Nat} {w : Nat} {p : Nat} {f : Nat} (h0 : PZ tx E nAtom w p (rNo f)) : PZ tx E nTerm w p (rNo f) := fun P hP => hP.2.2.2.2.2.2.2.2.2.1 w p f (h0 P hP)
theorem z_tlS {tx : Nat → Nat} {E : Nat} {w : Nat} {p : Nat} {v : Ex} (h0 : (cst tx E p) ≠ 42) (h1 : (cst tx E p) ≠ 47) : PZ tx E (nTl v) w p (rOk (skw tx E p) v) := fun P hP => hP.2.2.2.2.2.2.2.2.2.2.1 w p v h0 h1
theorem z_tlM {tx : Nat → Nat} {E : Nat} {w : Nat} {p : Nat} {p1 : Nat} {v : Ex} {a : Ex} {r : Rs} (h0 : (cst tx E p) = 42) (h1 : PZ tx E nAtom w (skw tx E p + 1) (rOk p1 a)) (h2 : PZ tx E (nTl (eMul v a)) w p1 r) : PZ tx E (nTl v) w p r := fun P hP => hP.2.2.2.2.2.2.2.2.2.2.2.1 w p p1 v a r h0 (h1 P hP) (h2 P hP)
theorem z_tlD {tx : Nat → Nat} {E : Nat} {w : Nat} {p : Nat} {p1 : Nat} {v : Ex} {a : Ex} {r : Rs} (h0 : (cst tx E p) = 47) (h1 : PZ tx E nAtom w (skw tx E p + 1) (rOk p1 a)) (h2 : PZ tx E (nTl (eDiv v a)) w p1 r) : PZ tx E (nTl v) w p r := fun P hP => hP.2.2.2.2.2.2.2.2.2.2.2.2.1 w p p1 v a r h0 (h1 P hP) (h2 P hP)
theorem z_tlF {tx : Nat → Nat} {E : Nat} {w : Nat} {p : Nat} {f : Nat} {v : Ex} (h0 : ((cst tx E p) = 42 ∨ (cst tx E p) = 47)) (h1 : PZ tx E nAtom w (skw tx E p + 1) (rNo f)) : PZ tx E (nTl v) w p (rNo f) := fun P hP => hP.2.2.2.2.2.2.2.2.2.2.2.2.2.1 w p f v h0 (h1 P hP)
theorem z_su {tx : Nat → Nat} {E : Nat} {w : Nat} {p : Nat} {p1 : Nat} {a : Ex} {r : Rs} (h0 : PZ tx E nTerm w p (rOk p1 a)) (h1 : PZ tx E (nSl a) w p1 r) : PZ tx E nSum w p r := fun P hP => hP.2.2.2.2.2.2.2.2.2.2.2.2.2.2.1 w p p1 a r (h0 P hP) (h1 P hP)
theorem z_suf {tx : Nat → Nat} {E : Nat} {w : Nat} {p : Nat} {f : Nat} (h0 : PZ tx E nTerm w p (rNo f)) : PZ tx E nSum w p (rNo f) := fun P hP => hP.2.2.2.2.2.2.2.2.2.2.2.2.2.2.2.1 w p f (h0 P hP)
theorem z_slS {tx : Nat → Nat} {E : Nat} {w : Nat} {p : Nat} {v : Ex} (h0 : (cst tx E p) ≠ 43) (h1 : (cst tx E p) ≠ 45) : PZ tx E (nSl v) w p (rOk (skw tx E p) v) := fun P hP => hP.2.2.2.2.2.2.2.2.2.2.2.2.2.2.2.2.1 w p v h0 h1
theorem z_slM {tx : Nat → Nat} {E : Nat} {w : Nat} {p : Nat} {p1 : Nat} {v : Ex} {a : Ex} {r : Rs} (h0 : (cst tx E p) = 43) (h1 : PZ tx E nTerm w (skw tx E p + 1) (rOk p1 a)) (h2 : PZ tx E (nSl (eAdd v a)) w p1 r) : PZ tx E (nSl v) w p r := fun P hP => hP.2.2.2.2.2.2.2.2.2.2.2.2.2.2.2.2.2.1 w p p1 v a r h0 (h1 P hP) (h2 P hP)
theorem z_slD {tx : Nat → Nat} {E : Nat} {w : Nat} {p : Nat} {p1 : Nat} {v : Ex} {a : Ex} {r : Rs} (h0 : (cst tx E p) = 45) (h1 : PZ tx E nTerm w (skw tx E p + 1) (rOk p1 a)) (h2 : PZ tx E (nSl (eSub v a)) w p1 r) : PZ tx E (nSl v) w p r := fun P hP => hP.2.2.2.2.2.2.2.2.2.2.2.2.2.2.2.2.2.2.1 w p p1 v a r h0 (h1 P hP) (h2 P hP)
theorem z_slF {tx : Nat → Nat} {E : Nat} {w : Nat} {p : Nat} {f : Nat} {v : Ex} (h0 : ((cst tx E p) = 43 ∨ (cst tx E p) = 45)) (h1 : PZ tx E nTerm w (skw tx E p + 1) (rNo f)) : PZ tx E (nSl v) w p (rNo f) := fun P hP => hP.2.2.2.2.2.2.2.2.2.2.2.2.2.2.2.2.2.2.2.1 w p f v h0 (h1 P hP)
theorem z_cmN {tx : Nat → Nat} {E : Nat} {w : Nat} {p : Nat} {v : Ex} (h0 : sgC (cst tx E p) = false) : PZ tx E (nCmp v) w p (rNo (skw tx E p)) := fun P hP => hP.2.2.2.2.2.2.2.2.2.2.2.2.2.2.2.2.2.2.2.2.1 w p v h0
theorem z_cmO {tx : Nat → Nat} {E : Nat} {w : Nat} {p : Nat} {p1 : Nat} {v : Ex} {a : Ex} (h0 : sgC (cst tx E p) = true) (h1 : PZ tx E nSum w (skw tx E p + 1) (rOk p1 a)) : PZ tx E (nCmp v) w p (rOk p1 (eCmp (cst tx E p) v a)) := fun P hP => hP.2.2.2.2.2.2.2.2.2.2.2.2.2.2.2.2.2.2.2.2.2.1 w p p1 v a h0 (h1 P hP)
theorem z_cmF {tx : Nat → Nat} {E : Nat} {w : Nat} {p : Nat} {f : Nat} {v : Ex} (h0 : sgC (cst tx E p) = true) (h1 : PZ tx E nSum w (skw tx E p + 1) (rNo f)) : PZ tx E (nCmp v) w p (rNo f) := fun P hP => hP.2.2.2.2.2.2.2.2.2.2.2.2.2.2.2.2.2.2.2.2.2.2.1 w p f v h0 (h1 P hP)
theorem z_unN {tx : Nat → Nat} {E : Nat} {w : Nat} {p : Nat} {p1 : Nat} {a : Ex} (h0 : (cst tx E p) = 33) (h1 : w < 6) (h2 : PZ tx E nUnit (w + 1) (skw tx E p + 1) (rOk p1 a)) : PZ tx E nUnit w p (rOk p1 (eNot a)) := fun P hP => hP.2.2.2.2.2.2.2.2.2.2.2.2.2.2.2.2.2.2.2.2.2.2.2.1 w p p1 a h0 h1 (h2 P hP)
theorem z_unNf {tx : Nat → Nat} {E : Nat} {w : Nat} {p : Nat} {f : Nat} (h0 : (cst tx E p) = 33) (h1 : w < 6) (h2 : PZ tx E nUnit (w + 1) (skw tx E p + 1) (rNo f)) : PZ tx E nUnit w p (rNo f) := fun P hP => hP.2.2.2.2.2.2.2.2.2.2.2.2.2.2.2.2.2.2.2.2.2.2.2.2.1 w p f h0 h1 (h2 P hP)
theorem z_unN6 {tx : Nat → Nat} {E : Nat} {p : Nat} (h0 : (cst tx E p) = 33) : PZ tx E nUnit 6 p (rNo (skw tx E p)) := fun P hP => hP.2.2.2.2.2.2.2.2.2.2.2.2.2.2.2.2.2.2.2.2.2.2.2.2.2.1 p h0
theorem z_unP {tx : Nat → Nat} {E : Nat} {w : Nat} {p : Nat} {p1 : Nat} {a : Ex} (h0 : (cst tx E p) = 40) (h1 : w < 6) (h2 : PZ tx E nCond (w + 1) (skw tx E p + 1) (rOk p1 a)) (h3 : (cst tx E p1) = 41) : PZ tx E nUnit w p (rOk (skw tx E p1 + 1) a) := fun P hP => hP.2.2.2.2.2.2.2.2.2.2.2.2.2.2.2.2.2.2.2.2.2.2.2.2.2.2.1 w p p1 a h0 h1 (h2 P hP) h3
theorem z_unPc {tx : Nat → Nat} {E : Nat} {w : Nat} {p : Nat} {p1 : Nat} {a : Ex} (h0 : (cst tx E p) = 40) (h1 : w < 6) (h2 : PZ tx E nCond (w + 1) (skw tx E p + 1) (rOk p1 a)) (h3 : (cst tx E p1) ≠ 41) : PZ tx E nUnit w p (rNo (skw tx E p1)) := fun P hP => hP.2.2.2.2.2.2.2.2.2.2.2.2.2.2.2.2.2.2.2.2.2.2.2.2.2.2.2.1 w p p1 a h0 h1 (h2 P hP) h3
theorem z_unPf {tx : Nat → Nat} {E : Nat} {w : Nat} {p : Nat} {f : Nat} (h0 : (cst tx E p) = 40) (h1 : w < 6) (h2 : PZ tx E nCond (w + 1) (skw tx E p + 1) (rNo f)) : PZ tx E nUnit w p (rNo f) := fun P hP => hP.2.2.2.2.2.2.2.2.2.2.2.2.2.2.2.2.2.2.2.2.2.2.2.2.2.2.2.2.1 w p f h0 h1 (h2 P hP)
theorem z_unP6 {tx : Nat → Nat} {E : Nat} {p : Nat} (h0 : (cst tx E p) = 40) : PZ tx E nUnit 6 p (rNo (skw tx E p)) := fun P hP => hP.2.2.2.2.2.2.2.2.2.2.2.2.2.2.2.2.2.2.2.2.2.2.2.2.2.2.2.2.2.1 p h0
theorem z_unC {tx : Nat → Nat} {E : Nat} {w : Nat} {p : Nat} {p1 : Nat} {a : Ex} {r : Rs} (h0 : (cst tx E p) ≠ 33) (h1 : (cst tx E p) ≠ 40) (h2 : PZ tx E nSum w (skw tx E p) (rOk p1 a)) (h3 : PZ tx E (nCmp a) w p1 r) : PZ tx E nUnit w p r := fun P hP => hP.2.2.2.2.2.2.2.2.2.2.2.2.2.2.2.2.2.2.2.2.2.2.2.2.2.2.2.2.2.2.1 w p p1 a r h0 h1 (h2 P hP) (h3 P hP)
theorem z_unCf {tx : Nat → Nat} {E : Nat} {w : Nat} {p : Nat} {f : Nat} (h0 : (cst tx E p) ≠ 33) (h1 : (cst tx E p) ≠ 40) (h2 : PZ tx E nSum w (skw tx E p) (rNo f)) : PZ tx E nUnit w p (rNo f) := fun P hP => hP.2.2.2.2.2.2.2.2.2.2.2.2.2.2.2.2.2.2.2.2.2.2.2.2.2.2.2.2.2.2.2.1 w p f h0 h1 (h2 P hP)
theorem z_pa {tx : Nat → Nat} {E : Nat} {w : Nat} {p : Nat} {p1 : Nat} {a : Ex} {r : Rs} (h0 : PZ tx E nUnit w p (rOk p1 a)) (h1 : PZ tx E (nPl a) w p1 r) : PZ tx E nPart w p r := fun P hP => hP.2.2.2.2.2.2.2.2.2.2.2.2.2.2.2.2.2.2.2.2.2.2.2.2.2.2.2.2.2.2.2.2.1 w p p1 a r (h0 P hP) (h1 P hP)
theorem z_paf {tx : Nat → Nat} {E : Nat} {w : Nat} {p : Nat} {f : Nat} (h0 : PZ tx E nUnit w p (rNo f)) : PZ tx E nPart w p (rNo f) := fun P hP => hP.2.2.2.2.2.2.2.2.2.2.2.2.2.2.2.2.2.2.2.2.2.2.2.2.2.2.2.2.2.2.2.2.2.1 w p f (h0 P hP)
theorem z_pb {tx : Nat → Nat} {E : Nat} {w : Nat} {p : Nat} {p1 : Nat} {v : Ex} {a : Ex} {r : Rs} (h0 : PZ tx E (nCmp v) w p (rOk p1 a)) (h1 : PZ tx E (nPl a) w p1 r) : PZ tx E (nPart1 v) w p r := fun P hP => hP.2.2.2.2.2.2.2.2.2.2.2.2.2.2.2.2.2.2.2.2.2.2.2.2.2.2.2.2.2.2.2.2.2.2.1 w p p1 v a r (h0 P hP) (h1 P hP)
theorem z_pbf {tx : Nat → Nat} {E : Nat} {w : Nat} {p : Nat} {f : Nat} {v : Ex} (h0 : PZ tx E (nCmp v) w p (rNo f)) : PZ tx E (nPart1 v) w p (rNo f) := fun P hP => hP.2.2.2.2.2.2.2.2.2.2.2.2.2.2.2.2.2.2.2.2.2.2.2.2.2.2.2.2.2.2.2.2.2.2.2.1 w p f v (h0 P hP)
theorem z_plS {tx : Nat → Nat} {E : Nat} {w : Nat} {p : Nat} {v : Ex} (h0 : (cst tx E p) ≠ 38) : PZ tx E (nPl v) w p (rOk (skw tx E p) v) := fun P hP => hP.2.2.2.2.2.2.2.2.2.2.2.2.2.2.2.2.2.2.2.2.2.2.2.2.2.2.2.2.2.2.2.2.2.2.2.2.1 w p v h0
theorem z_plA {tx : Nat → Nat} {E : Nat} {w : Nat} {p : Nat} {p1 : Nat} {v : Ex} {a : Ex} {r : Rs} (h0 : (cst tx E p) = 38) (h1 : PZ tx E nUnit w (skw tx E p + 1) (rOk p1 a)) (h2 : PZ tx E (nPl (eAnd v a)) w p1 r) : PZ tx E (nPl v) w p r := fun P hP => hP.2.2.2.2.2.2.2.2.2.2.2.2.2.2.2.2.2.2.2.2.2.2.2.2.2.2.2.2.2.2.2.2.2.2.2.2.2.1 w p p1 v a r h0 (h1 P hP) (h2 P hP)
theorem z_plF {tx : Nat → Nat} {E : Nat} {w : Nat} {p : Nat} {f : Nat} {v : Ex} (h0 : (cst tx E p) = 38) (h1 : PZ tx E nUnit w (skw tx E p + 1) (rNo f)) : PZ tx E (nPl v) w p (rNo f) := fun P hP => hP.2.2.2.2.2.2.2.2.2.2.2.2.2.2.2.2.2.2.2.2.2.2.2.2.2.2.2.2.2.2.2.2.2.2.2.2.2.2.1 w p f v h0 (h1 P hP)
theorem z_co {tx : Nat → Nat} {E : Nat} {w : Nat} {p : Nat} {p1 : Nat} {a : Ex} {r : Rs} (h0 : PZ tx E nPart w p (rOk p1 a)) (h1 : PZ tx E (nQl a) w p1 r) : PZ tx E nCond w p r := fun P hP => hP.2.2.2.2.2.2.2.2.2.2.2.2.2.2.2.2.2.2.2.2.2.2.2.2.2.2.2.2.2.2.2.2.2.2.2.2.2.2.2.1 w p p1 a r (h0 P hP) (h1 P hP)
theorem z_cof {tx : Nat → Nat} {E : Nat} {w : Nat} {p : Nat} {f : Nat} (h0 : PZ tx E nPart w p (rNo f)) : PZ tx E nCond w p (rNo f) := fun P hP => hP.2.2.2.2.2.2.2.2.2.2.2.2.2.2.2.2.2.2.2.2.2.2.2.2.2.2.2.2.2.2.2.2.2.2.2.2.2.2.2.2.1 w p f (h0 P hP)
theorem z_cp {tx : Nat → Nat} {E : Nat} {w : Nat} {p : Nat} {p1 : Nat} {v : Ex} {a : Ex} {r : Rs} (h0 : PZ tx E (nPart1 v) w p (rOk p1 a)) (h1 : PZ tx E (nQl a) w p1 r) : PZ tx E (nCond1 v) w p r := fun P hP => hP.2.2.2.2.2.2.2.2.2.2.2.2.2.2.2.2.2.2.2.2.2.2.2.2.2.2.2.2.2.2.2.2.2.2.2.2.2.2.2.2.2.1 w p p1 v a r (h0 P hP) (h1 P hP)
theorem z_cpf {tx : Nat → Nat} {E : Nat} {w : Nat} {p : Nat} {f : Nat} {v : Ex} (h0 : PZ tx E (nPart1 v) w p (rNo f)) : PZ tx E (nCond1 v) w p (rNo f) := fun P hP => hP.2.2.2.2.2.2.2.2.2.2.2.2.2.2.2.2.2.2.2.2.2.2.2.2.2.2.2.2.2.2.2.2.2.2.2.2.2.2.2.2.2.2.1 w p f v (h0 P hP)
theorem z_qlS {tx : Nat → Nat} {E : Nat} {w : Nat} {p : Nat} {v : Ex} (h0 : (cst tx E p) ≠ 124) : PZ tx E (nQl v) w p (rOk (skw tx E p) v) := fun P hP => hP.2.2.2.2.2.2.2.2.2.2.2.2.2.2.2.2.2.2.2.2.2.2.2.2.2.2.2.2.2.2.2.2.2.2.2.2.2.2.2.2.2.2.2.1 w p v h0
theorem z_qlO {tx : Nat → Nat} {E : Nat} {w : Nat} {p : Nat} {p1 : Nat} {v : Ex} {a : Ex} {r : Rs} (h0 : (cst tx E p) = 124) (h1 : PZ tx E nPart w (skw tx E p + 1) (rOk p1 a)) (h2 : PZ tx E (nQl (eOr v a)) w p1 r) : PZ tx E (nQl v) w p r := fun P hP => hP.2.2.2.2.2.2.2.2.2.2.2.2.2.2.2.2.2.2.2.2.2.2.2.2.2.2.2.2.2.2.2.2.2.2.2.2.2.2.2.2.2.2.2.2.1 w p p1 v a r h0 (h1 P hP) (h2 P hP)
theorem z_qlF {tx : Nat → Nat} {E : Nat} {w : Nat} {p : Nat} {f : Nat} {v : Ex} (h0 : (cst tx E p) = 124) (h1 : PZ tx E nPart w (skw tx E p + 1) (rNo f)) : PZ tx E (nQl v) w p (rNo f) := fun P hP => hP.2.2.2.2.2.2.2.2.2.2.2.2.2.2.2.2.2.2.2.2.2.2.2.2.2.2.2.2.2.2.2.2.2.2.2.2.2.2.2.2.2.2.2.2.2 w p f v h0 (h1 P hP)
/-- where it may stop -/
def gdR (E p : Nat) (st : Bool) : Rs → Prop
  | .ok z => p ≤ z.1 ∧ z.1 ≤ E ∧ (st = true → p < z.1)
  | .error f => p ≤ f ∧ f ≤ E
def stN (nt : Nt) : Bool := match nt.1 with
  | 2 => false
  | 4 => false
  | 9 => false
  | 12 => false
  | _ => true
theorem cst_lt {tx : Nat → Nat} {E p : Nat} (h : cst tx E p ≠ -1) : skw tx E p < E := cv_ne h
theorem xsp_m1 : ∀ i, i < 11 → xsp i (-1) = none := by decide +kernel
theorem dg_lt {tx : Nat → Nat} {E q : Nat} (h : dg tx E q = true) : q < E := by
  unfold dg at h
  simp only [Bool.and_eq_true, decide_eq_true_eq] at h
  exact h.1
theorem nmD_b {tx : Nat → Nat} {E : Nat} : ∀ (d q v : Nat), q ≤ E → q ≤ (nmD tx E d q v).2.1 ∧ (nmD tx E d q v).2.1 ≤ E
  | 0, q, v, h => ⟨Nat.le_refl _, h⟩
  | d + 1, q, v, h => by
    simp only [nmD]
    split
    · rename_i hd
      have hq := dg_lt hd
      have := nmD_b (tx := tx) (E := E) d (q + 1) (10 * v + (tx q - 48)) (by omega)
      omega
    · exact ⟨Nat.le_refl _, h⟩
theorem PZ_pr {tx : Nat → Nat} {E w p : Nat} {nt : Nt} {r : Rs} (h : PZ tx E nt w p r) : p ≤ E → gdR E p (stN nt) r := by
  refine h (fun nt w p r => p ≤ E → gdR E p (stN nt) r) ⟨?_, ?_, ?_, ?_, ?_, ?_, ?_, ?_, ?_, ?_, ?_, ?_, ?_, ?_, ?_, ?_, ?_, ?_, ?_, ?_, ?_, ?_, ?_, ?_, ?_, ?_, ?_, ?_, ?_, ?_, ?_, ?_, ?_, ?_, ?_, ?_, ?_, ?_, ?_, ?_, ?_, ?_, ?_, ?_, ?_, ?_⟩
  · intro w p i c1
    intro hp
    have hk := skw_b (tx := tx) hp
    have := cst_lt (tx := tx) (E := E) (p := p) (by intro e; rw [e, xsp_m1 4 (by decide)] at c1; cases c1)
    exact ⟨by show p ≤ skw tx E p + 1; omega, by show skw tx E p + 1 ≤ E; omega, fun _ => by show p < skw tx E p + 1; omega⟩
  · intro w p p1 e c1 c2 c3 d1 c4
    intro hp
    have hk := skw_b (tx := tx) hp
    have := cst_lt (tx := tx) (E := E) (p := p) (by rw [c2]; decide)
    have i2 := d1 (by omega)
    have i1 : skw tx E p + 1 ≤ p1 := i2.1
    have i3 : p1 ≤ E := i2.2.1
    have hk1 := skw_b (tx := tx) (E := E) (p := p1) i3
    have := cst_lt (tx := tx) (E := E) (p := p1) (by rw [c4]; decide)
    exact ⟨by show p ≤ skw tx E p1 + 1; omega, by show skw tx E p1 + 1 ≤ E; omega, fun _ => by show p < skw tx E p1 + 1; omega⟩
  · intro w p p1 e c1 c2 c3 d1 c4
    intro hp
    have hk := skw_b (tx := tx) hp
    have := cst_lt (tx := tx) (E := E) (p := p) (by rw [c2]; decide)
    have i2 := d1 (by omega)
    have i1 : skw tx E p + 1 ≤ p1 := i2.1
    have i3 : p1 ≤ E := i2.2.1
    have hk1 := skw_b (tx := tx) (E := E) (p := p1) i3
    exact ⟨by show p ≤ skw tx E p1; omega, by show skw tx E p1 ≤ E; omega⟩
  · intro w p f c1 c2 c3 d1
    intro hp
    have hk := skw_b (tx := tx) hp
    have := cst_lt (tx := tx) (E := E) (p := p) (by rw [c2]; decide)
    have i2 := d1 (by omega)
    have i1 : skw tx E p + 1 ≤ f := i2.1
    exact ⟨by show p ≤ f; omega, i2.2⟩
  · intro p c1 c2
    intro hp
    have hk := skw_b (tx := tx) hp
    exact ⟨hk.1, hk.2.1⟩
  · intro w p q n c1 c2 c3 c4
    intro hp
    have hk := skw_b (tx := tx) hp
    have hq := dg_lt c3
    have z : nmD tx E 4 (skw tx E p) 0 = nmD tx E 3 (skw tx E p + 1) (10 * 0 + (tx (skw tx E p) - 48)) := by (show (if dg tx E (skw tx E p) = true then _ else _) = _; rw [if_pos c3])
    rw [z] at c4
    have b := nmD_b (tx := tx) (E := E) 3 (skw tx E p + 1) (10 * 0 + (tx (skw tx E p) - 48)) (by omega)
    rw [c4] at b
    have b1 : skw tx E p + 1 ≤ q := b.1
    exact ⟨by show p ≤ q; omega, b.2, fun _ => by show p < q; omega⟩
  · intro w p q n c1 c2 c3 c4
    intro hp
    have hk := skw_b (tx := tx) hp
    have b := nmD_b (tx := tx) (E := E) 4 (skw tx E p) 0 (by omega)
    rw [c4] at b
    have b1 : skw tx E p ≤ q := b.1
    exact ⟨by show p ≤ q; omega, b.2⟩
  · intro w p c1 c2 c3
    intro hp
    have hk := skw_b (tx := tx) hp
    exact ⟨hk.1, hk.2.1⟩
  · intro w p p1 a r d1 d2
    intro hp
    have a1 := d1 hp
    have b1 := d2 a1.2.1
    have a3 : p < p1 := a1.2.2 rfl
    have a2 : p ≤ p1 := a1.1
    cases r with
    | ok z => exact ⟨Nat.le_trans a2 b1.1, b1.2.1, fun _ => Nat.lt_of_lt_of_le a3 b1.1⟩
    | error f => exact ⟨Nat.le_trans a2 b1.1, b1.2⟩
  · intro w p f d1
    intro hp
    have b1 := d1 hp
    exact ⟨b1.1, b1.2⟩
  · intro w p v c1 c2
    intro hp
    have hk := skw_b (tx := tx) hp
    exact ⟨hk.1, hk.2.1, fun h => absurd (show false = true from h) Bool.false_ne_true⟩
  · intro w p p1 v a r c1 d1 d2
    intro hp
    have hk := skw_b (tx := tx) hp
    have := cst_lt (tx := tx) (E := E) (p := p) (by rw [c1]; decide)
    have a1 := d1 (by omega)
    have a2 : skw tx E p + 1 ≤ p1 := a1.1
    have b1 := d2 a1.2.1
    cases r with
    | ok z => exact ⟨by have : p1 ≤ z.1 := b1.1; show p ≤ z.1; omega, b1.2.1, fun h => absurd (show false = true from h) Bool.false_ne_true⟩
    | error f => exact ⟨by have : p1 ≤ f := b1.1; omega, b1.2⟩
  · intro w p p1 v a r c1 d1 d2
    intro hp
    have hk := skw_b (tx := tx) hp
    have := cst_lt (tx := tx) (E := E) (p := p) (by rw [c1]; decide)
    have a1 := d1 (by omega)
    have a2 : skw tx E p + 1 ≤ p1 := a1.1
    have b1 := d2 a1.2.1
    cases r with
    | ok z => exact ⟨by have : p1 ≤ z.1 := b1.1; show p ≤ z.1; omega, b1.2.1, fun h => absurd (show false = true from h) Bool.false_ne_true⟩
    | error f => exact ⟨by have : p1 ≤ f := b1.1; omega, b1.2⟩
  · intro w p f v c1 d1
    intro hp
    have hk := skw_b (tx := tx) hp
    have := cst_lt (tx := tx) (E := E) (p := p) (by rcases c1 with h | h <;> (rw [h]; decide))
    have a1 := d1 (by omega)
    have a2 : skw tx E p + 1 ≤ f := a1.1
    exact ⟨by show p ≤ f; omega, a1.2⟩
  · intro w p p1 a r d1 d2
    intro hp
    have a1 := d1 hp
    have b1 := d2 a1.2.1
    have a3 : p < p1 := a1.2.2 rfl
    have a2 : p ≤ p1 := a1.1
    cases r with
    | ok z => exact ⟨Nat.le_trans a2 b1.1, b1.2.1, fun _ => Nat.lt_of_lt_of_le a3 b1.1⟩
    | error f => exact ⟨Nat.le_trans a2 b1.1, b1.2⟩
  · intro w p f d1
    intro hp
    have b1 := d1 hp
    exact ⟨b1.1, b1.2⟩
  · intro w p v c1 c2
    intro hp
    have hk := skw_b (tx := tx) hp
    exact ⟨hk.1, hk.2.1, fun h => absurd (show false = true from h) Bool.false_ne_true⟩
  · intro w p p1 v a r c1 d1 d2
    intro hp
    have hk := skw_b (tx := tx) hp
    have := cst_lt (tx := tx) (E := E) (p := p) (by rw [c1]; decide)
    have a1 := d1 (by omega)
    have a2 : skw tx E p + 1 ≤ p1 := a1.1
    have b1 := d2 a1.2.1
    cases r with
    | ok z => exact ⟨by have : p1 ≤ z.1 := b1.1; show p ≤ z.1; omega, b1.2.1, fun h => absurd (show false = true from h) Bool.false_ne_true⟩
    | error f => exact ⟨by have : p1 ≤ f := b1.1; omega, b1.2⟩
  · intro w p p1 v a r c1 d1 d2
    intro hp
    have hk := skw_b (tx := tx) hp
    have := cst_lt (tx := tx) (E := E) (p := p) (by rw [c1]; decide)
    have a1 := d1 (by omega)
    have a2 : skw tx E p + 1 ≤ p1 := a1.1
    have b1 := d2 a1.2.1
    cases r with
    | ok z => exact ⟨by have : p1 ≤ z.1 := b1.1; show p ≤ z.1; omega, b1.2.1, fun h => absurd (show false = true from h) Bool.false_ne_true⟩
    | error f => exact ⟨by have : p1 ≤ f := b1.1; omega, b1.2⟩
  · intro w p f v c1 d1
    intro hp
    have hk := skw_b (tx := tx) hp
    have := cst_lt (tx := tx) (E := E) (p := p) (by rcases c1 with h | h <;> (rw [h]; decide))
    have a1 := d1 (by omega)
    have a2 : skw tx E p + 1 ≤ f := a1.1
    exact ⟨by show p ≤ f; omega, a1.2⟩
  · intro w p v c1
    intro hp
    have hk := skw_b (tx := tx) hp
    exact ⟨hk.1, hk.2.1⟩
  · intro w p p1 v a c1 d1
    intro hp
    have hk := skw_b (tx := tx) hp
    have := cst_lt (tx := tx) (E := E) (p := p) (by intro e; rw [e] at c1; exact absurd c1 (by decide))
    have a1 := d1 (by omega)
    have a2 : skw tx E p + 1 ≤ p1 := a1.1
    exact ⟨by show p ≤ p1; omega, a1.2.1, fun _ => by show p < p1; omega⟩
  · intro w p f v c1 d1
    intro hp
    have hk := skw_b (tx := tx) hp
    have := cst_lt (tx := tx) (E := E) (p := p) (by intro e; rw [e] at c1; exact absurd c1 (by decide))
    have a1 := d1 (by omega)
    have a2 : skw tx E p + 1 ≤ f := a1.1
    exact ⟨by show p ≤ f; omega, a1.2⟩
  · intro w p p1 a c1 c2 d1
    intro hp
    have hk := skw_b (tx := tx) hp
    have := cst_lt (tx := tx) (E := E) (p := p) (by rw [c1]; decide)
    have a1 := d1 (by omega)
    have a2 : skw tx E p + 1 ≤ p1 := a1.1
    exact ⟨by show p ≤ p1; omega, a1.2.1, fun _ => by show p < p1; omega⟩
  · intro w p f c1 c2 d1
    intro hp
    have hk := skw_b (tx := tx) hp
    have := cst_lt (tx := tx) (E := E) (p := p) (by rw [c1]; decide)
    have i2 := d1 (by omega)
    have i1 : skw tx E p + 1 ≤ f := i2.1
    exact ⟨by show p ≤ f; omega, i2.2⟩
  · intro p c1
    intro hp
    have hk := skw_b (tx := tx) hp
    exact ⟨hk.1, hk.2.1⟩
  · intro w p p1 a c1 c2 d1 c3
    intro hp
    have hk := skw_b (tx := tx) hp
    have := cst_lt (tx := tx) (E := E) (p := p) (by rw [c1]; decide)
    have i2 := d1 (by omega)
    have i1 : skw tx E p + 1 ≤ p1 := i2.1
    have i3 : p1 ≤ E := i2.2.1
    have hk1 := skw_b (tx := tx) (E := E) (p := p1) i3
    have := cst_lt (tx := tx) (E := E) (p := p1) (by rw [c3]; decide)
    exact ⟨by show p ≤ skw tx E p1 + 1; omega, by show skw tx E p1 + 1 ≤ E; omega, fun _ => by show p < skw tx E p1 + 1; omega⟩
  · intro w p p1 a c1 c2 d1 c3
    intro hp
    have hk := skw_b (tx := tx) hp
    have := cst_lt (tx := tx) (E := E) (p := p) (by rw [c1]; decide)
    have i2 := d1 (by omega)
    have i1 : skw tx E p + 1 ≤ p1 := i2.1
    have i3 : p1 ≤ E := i2.2.1
    have hk1 := skw_b (tx := tx) (E := E) (p := p1) i3
    exact ⟨by show p ≤ skw tx E p1; omega, by show skw tx E p1 ≤ E; omega⟩
  · intro w p f c1 c2 d1
    intro hp
    have hk := skw_b (tx := tx) hp
    have := cst_lt (tx := tx) (E := E) (p := p) (by rw [c1]; decide)
    have i2 := d1 (by omega)
    have i1 : skw tx E p + 1 ≤ f := i2.1
    exact ⟨by show p ≤ f; omega, i2.2⟩
  · intro p c1
    intro hp
    have hk := skw_b (tx := tx) hp
    exact ⟨hk.1, hk.2.1⟩
  · intro w p p1 a r c1 c2 d1 d2
    intro hp
    have hk := skw_b (tx := tx) hp
    have a1 := d1 hk.2.1
    have a2 : skw tx E p ≤ p1 := a1.1
    have b1 := d2 a1.2.1
    cases r with
    | ok z => exact ⟨by have : p1 ≤ z.1 := b1.1; show p ≤ z.1; omega, b1.2.1, fun _ => by have : p1 < z.1 := b1.2.2 rfl; show p < z.1; omega⟩
    | error f => exact ⟨by have : p1 ≤ f := b1.1; omega, b1.2⟩
  · intro w p f c1 c2 d1
    intro hp
    have hk := skw_b (tx := tx) hp
    have a1 := d1 hk.2.1
    have a2 : skw tx E p ≤ f := a1.1
    exact ⟨by show p ≤ f; omega, a1.2⟩
  · intro w p p1 a r d1 d2
    intro hp
    have a1 := d1 hp
    have b1 := d2 a1.2.1
    have a3 : p < p1 := a1.2.2 rfl
    have a2 : p ≤ p1 := a1.1
    cases r with
    | ok z => exact ⟨Nat.le_trans a2 b1.1, b1.2.1, fun _ => Nat.lt_of_lt_of_le a3 b1.1⟩
    | error f => exact ⟨Nat.le_trans a2 b1.1, b1.2⟩
  · intro w p f d1
    intro hp
    have b1 := d1 hp
    exact ⟨b1.1, b1.2⟩
  · intro w p p1 v a r d1 d2
    intro hp
    have a1 := d1 hp
    have b1 := d2 a1.2.1
    have a3 : p < p1 := a1.2.2 rfl
    have a2 : p ≤ p1 := a1.1
    cases r with
    | ok z => exact ⟨Nat.le_trans a2 b1.1, b1.2.1, fun _ => Nat.lt_of_lt_of_le a3 b1.1⟩
    | error f => exact ⟨Nat.le_trans a2 b1.1, b1.2⟩
  · intro w p f v d1
    intro hp
    have b1 := d1 hp
    exact ⟨b1.1, b1.2⟩
  · intro w p v c1
    intro hp
    have hk := skw_b (tx := tx) hp
    exact ⟨hk.1, hk.2.1, fun h => absurd (show false = true from h) Bool.false_ne_true⟩
  · intro w p p1 v a r c1 d1 d2
    intro hp
    have hk := skw_b (tx := tx) hp
    have := cst_lt (tx := tx) (E := E) (p := p) (by rw [c1]; decide)
    have a1 := d1 (by omega)
    have a2 : skw tx E p + 1 ≤ p1 := a1.1
    have b1 := d2 a1.2.1
    cases r with
    | ok z => exact ⟨by have : p1 ≤ z.1 := b1.1; show p ≤ z.1; omega, b1.2.1, fun h => absurd (show false = true from h) Bool.false_ne_true⟩
    | error f => exact ⟨by have : p1 ≤ f := b1.1; omega, b1.2⟩
  · intro w p f v c1 d1
    intro hp
    have hk := skw_b (tx := tx) hp
    have := cst_lt (tx := tx) (E := E) (p := p) (by rw [c1]; decide)
    have a1 := d1 (by omega)
    have a2 : skw tx E p + 1 ≤ f := a1.1
    exact ⟨by show p ≤ f; omega, a1.2⟩
  · intro w p p1 a r d1 d2
    intro hp
    have a1 := d1 hp
    have b1 := d2 a1.2.1
    have a3 : p < p1 := a1.2.2 rfl
    have a2 : p ≤ p1 := a1.1
    cases r with
    | ok z => exact ⟨Nat.le_trans a2 b1.1, b1.2.1, fun _ => Nat.lt_of_lt_of_le a3 b1.1⟩
    | error f => exact ⟨Nat.le_trans a2 b1.1, b1.2⟩
  · intro w p f d1
    intro hp
    have b1 := d1 hp
    exact ⟨b1.1, b1.2⟩
  · intro w p p1 v a r d1 d2
    intro hp
    have a1 := d1 hp
    have b1 := d2 a1.2.1
    have a3 : p < p1 := a1.2.2 rfl
    have a2 : p ≤ p1 := a1.1
    cases r with
    | ok z => exact ⟨Nat.le_trans a2 b1.1, b1.2.1, fun _ => Nat.lt_of_lt_of_le a3 b1.1⟩
    | error f => exact ⟨Nat.le_trans a2 b1.1, b1.2⟩
  · intro w p f v d1
    intro hp
    have b1 := d1 hp
    exact ⟨b1.1, b1.2⟩
  · intro w p v c1
    intro hp
    have hk := skw_b (tx := tx) hp
    exact ⟨hk.1, hk.2.1, fun h => absurd (show false = true from h) Bool.false_ne_true⟩
  · intro w p p1 v a r c1 d1 d2
    intro hp
    have hk := skw_b (tx := tx) hp
    have := cst_lt (tx := tx) (E := E) (p := p) (by rw [c1]; decide)
    have a1 := d1 (by omega)
    have a2 : skw tx E p + 1 ≤ p1 := a1.1
    have b1 := d2 a1.2.1
    cases r with
    | ok z => exact ⟨by have : p1 ≤ z.1 := b1.1; show p ≤ z.1; omega, b1.2.1, fun h => absurd (show false = true from h) Bool.false_ne_true⟩
    | error f => exact ⟨by have : p1 ≤ f := b1.1; omega, b1.2⟩
  · intro w p f v c1 d1
    intro hp
    have hk := skw_b (tx := tx) hp
    have := cst_lt (tx := tx) (E := E) (p := p) (by rw [c1]; decide)
    have a1 := d1 (by omega)
    have a2 : skw tx E p + 1 ≤ f := a1.1
    exact ⟨by show p ≤ f; omega, a1.2⟩
/-- every text is read one way or the other -/
theorem PZ_ex (tx : Nat → Nat) (E : Nat) : ∀ (m p w : Nat), p ≤ E → E - p < m → w ≤ 6 → (∃ r, PZ tx E nAtom w p r) ∧ (∃ r, PZ tx E nTerm w p r) ∧ (∀ e, ∃ r, PZ tx E (nTl e) w p r) ∧ (∃ r, PZ tx E nSum w p r) ∧ (∀ e, ∃ r, PZ tx E (nSl e) w p r) ∧ (∀ e, ∃ r, PZ tx E (nCmp e) w p r) ∧ (∃ r, PZ tx E nUnit w p r) ∧ (∃ r, PZ tx E nPart w p r) ∧ (∀ e, ∃ r, PZ tx E (nPart1 e) w p r) ∧ (∀ e, ∃ r, PZ tx E (nPl e) w p r) ∧ (∃ r, PZ tx E nCond w p r) ∧ (∀ e, ∃ r, PZ tx E (nCond1 e) w p r) ∧ (∀ e, ∃ r, PZ tx E (nQl e) w p r) := by
  intro m
  induction m with
  | zero => intro p w _ h; exact absurd h (Nat.not_lt_zero _)
  | succ m IH =>
    intro p w hp hm hw
    have hk := skw_b (tx := tx) hp
    have hnx : cst tx E p ≠ -1 → skw tx E p + 1 ≤ E := fun hc => by have := cst_lt hc; omega
    have next : cst tx E p ≠ -1 → ∀ w', w' ≤ 6 → _ := fun hc w' hw' => IH (skw tx E p + 1) w' (hnx hc) (by have := hnx hc; omega) hw'
    have after : ∀ (p1 : Nat), p < p1 → p1 ≤ E → _ := fun p1 h1 h2 => IH p1 w h2 (by omega) hw
    have atom : ∃ r, PZ tx E nAtom w p r := by
      cases h0 : xsp 4 (cst tx E p) with
      | some i => exact ⟨_, z_atL h0⟩
      | none =>
        by_cases h1 : cst tx E p = 91
        · by_cases h2 : w < 6
          · obtain ⟨r, hr⟩ := (next (by rw [h1]; decide) (w + 1) (by omega)).2.2.2.1
            cases r with
            | ok z =>
              by_cases h4 : cst tx E z.1 = 93
              · exact ⟨_, z_atB h0 h1 h2 hr h4⟩
              · exact ⟨_, z_atBc h0 h1 h2 hr h4⟩
            | error f => exact ⟨_, z_atBf h0 h1 h2 hr⟩
          · obtain rfl : w = 6 := by omega
            exact ⟨_, z_atB6 h0 h1⟩
        · cases h2 : dg tx E (skw tx E p) with
          | false => exact ⟨_, z_atN0 h0 h1 h2⟩
          | true =>
            cases h3 : nmD tx E 4 (skw tx E p) 0 with
            | mk b z =>
              cases z with
              | mk q v =>
                cases b with
                | true => exact ⟨_, z_atN h0 h1 h2 h3⟩
                | false => exact ⟨_, z_atN5 h0 h1 h2 h3⟩
    have tl : ∀ e, ∃ r, PZ tx E (nTl e) w p r := by
      intro e
      by_cases h1 : cst tx E p = 42
      · skip
        obtain ⟨r, hr⟩ := (next (by rw [h1]; decide) w hw).1
        cases r with
        | ok z =>
          have g := PZ_pr hr (hnx (by rw [h1]; decide))
          obtain ⟨r2, hr2⟩ := (after z.1 (by have : skw tx E p + 1 ≤ z.1 := g.1; omega) g.2.1).2.2.1 (eMul e z.2)
          exact ⟨_, z_tlM h1 hr hr2⟩
        | error f => exact ⟨_, z_tlF (Or.inl h1) hr⟩
      · by_cases h2 : cst tx E p = 47
        · skip
          obtain ⟨r, hr⟩ := (next (by rw [h2]; decide) w hw).1
          cases r with
          | ok z =>
            have g := PZ_pr hr (hnx (by rw [h2]; decide))
            obtain ⟨r2, hr2⟩ := (after z.1 (by have : skw tx E p + 1 ≤ z.1 := g.1; omega) g.2.1).2.2.1 (eDiv e z.2)
            exact ⟨_, z_tlD h2 hr hr2⟩
          | error f => exact ⟨_, z_tlF (Or.inr h2) hr⟩
        · exact ⟨_, z_tlS h1 h2⟩
    have term : ∃ r, PZ tx E nTerm w p r := by
      obtain ⟨r, hr⟩ := atom
      cases r with
      | ok z =>
        have g := PZ_pr hr hp
        obtain ⟨r2, hr2⟩ := (after z.1 (g.2.2 rfl) g.2.1).2.2.1 z.2
        exact ⟨_, z_te hr hr2⟩
      | error f => exact ⟨_, z_tef hr⟩
    have sl : ∀ e, ∃ r, PZ tx E (nSl e) w p r := by
      intro e
      by_cases h1 : cst tx E p = 43
      · skip
        obtain ⟨r, hr⟩ := (next (by rw [h1]; decide) w hw).2.1
        cases r with
        | ok z =>
          have g := PZ_pr hr (hnx (by rw [h1]; decide))
          obtain ⟨r2, hr2⟩ := (after z.1 (by have : skw tx E p + 1 ≤ z.1 := g.1; omega) g.2.1).2.2.2.2.1 (eAdd e z.2)
          exact ⟨_, z_slM h1 hr hr2⟩
        | error f => exact ⟨_, z_slF (Or.inl h1) hr⟩
      · by_cases h2 : cst tx E p = 45
        · skip
          obtain ⟨r, hr⟩ := (next (by rw [h2]; decide) w hw).2.1
          cases r with
          | ok z =>
            have g := PZ_pr hr (hnx (by rw [h2]; decide))
            obtain ⟨r2, hr2⟩ := (after z.1 (by have : skw tx E p + 1 ≤ z.1 := g.1; omega) g.2.1).2.2.2.2.1 (eSub e z.2)
            exact ⟨_, z_slD h2 hr hr2⟩
          | error f => exact ⟨_, z_slF (Or.inr h2) hr⟩
        · exact ⟨_, z_slS h1 h2⟩
    have sum : ∃ r, PZ tx E nSum w p r := by
      obtain ⟨r, hr⟩ := term
      cases r with
      | ok z =>
        have g := PZ_pr hr hp
        obtain ⟨r2, hr2⟩ := (after z.1 (g.2.2 rfl) g.2.1).2.2.2.2.1 z.2
        exact ⟨_, z_su hr hr2⟩
      | error f => exact ⟨_, z_suf hr⟩
    have cmp : ∀ e, ∃ r, PZ tx E (nCmp e) w p r := by
      intro e
      cases h : sgC (cst tx E p) with
      | false => exact ⟨_, z_cmN h⟩
      | true =>
        obtain ⟨r, hr⟩ := (next (by intro z; rw [z] at h; exact absurd h (by decide)) w hw).2.2.2.1
        cases r with
        | ok z => exact ⟨_, z_cmO h hr⟩
        | error f => exact ⟨_, z_cmF h hr⟩
    have unit : ∃ r, PZ tx E nUnit w p r := by
      by_cases h1 : cst tx E p = 33
      · by_cases h2 : w < 6
        · obtain ⟨r, hr⟩ := (next (by rw [h1]; decide) (w + 1) (by omega)).2.2.2.2.2.2.1
          cases r with
          | ok z => exact ⟨_, z_unN h1 h2 hr⟩
          | error f => exact ⟨_, z_unNf h1 h2 hr⟩
        · obtain rfl : w = 6 := by omega
          exact ⟨_, z_unN6 h1⟩
      · by_cases h3 : cst tx E p = 40
        · by_cases h2 : w < 6
          · obtain ⟨r, hr⟩ := (next (by rw [h3]; decide) (w + 1) (by omega)).2.2.2.2.2.2.2.2.2.2.1
            cases r with
            | ok z =>
              by_cases h4 : cst tx E z.1 = 41
              · exact ⟨_, z_unP h3 h2 hr h4⟩
              · exact ⟨_, z_unPc h3 h2 hr h4⟩
            | error f => exact ⟨_, z_unPf h3 h2 hr⟩
          · obtain rfl : w = 6 := by omega
            exact ⟨_, z_unP6 h3⟩
        · have hsum : ∃ r, PZ tx E nSum w (skw tx E p) r := by
            by_cases e : skw tx E p = p
            · rw [e]; exact sum
            · exact (after _ (by omega) hk.2.1).2.2.2.1
          obtain ⟨r, hr⟩ := hsum
          cases r with
          | ok z =>
            have g := PZ_pr hr hk.2.1
            obtain ⟨r2, hr2⟩ := (after z.1 (by have : skw tx E p < z.1 := g.2.2 rfl; omega) g.2.1).2.2.2.2.2.1 z.2
            exact ⟨_, z_unC h1 h3 hr hr2⟩
          | error f => exact ⟨_, z_unCf h1 h3 hr⟩
    have pl : ∀ e, ∃ r, PZ tx E (nPl e) w p r := by
      intro e
      by_cases h1 : cst tx E p = 38
      · skip
        obtain ⟨r, hr⟩ := (next (by rw [h1]; decide) w hw).2.2.2.2.2.2.1
        cases r with
        | ok z =>
          have g := PZ_pr hr (hnx (by rw [h1]; decide))
          obtain ⟨r2, hr2⟩ := (after z.1 (by have : skw tx E p + 1 ≤ z.1 := g.1; omega) g.2.1).2.2.2.2.2.2.2.2.2.1 (eAnd e z.2)
          exact ⟨_, z_plA h1 hr hr2⟩
        | error f => exact ⟨_, z_plF h1 hr⟩
      · exact ⟨_, z_plS h1⟩
    have part : ∃ r, PZ tx E nPart w p r := by
      obtain ⟨r, hr⟩ := unit
      cases r with
      | ok z =>
        have g := PZ_pr hr hp
        obtain ⟨r2, hr2⟩ := (after z.1 (g.2.2 rfl) g.2.1).2.2.2.2.2.2.2.2.2.1 z.2
        exact ⟨_, z_pa hr hr2⟩
      | error f => exact ⟨_, z_paf hr⟩
    have part1 : ∀ e, ∃ r, PZ tx E (nPart1 e) w p r := by
      intro e
      obtain ⟨r, hr⟩ := cmp e
      cases r with
      | ok z =>
        have g := PZ_pr hr hp
        obtain ⟨r2, hr2⟩ := (after z.1 (g.2.2 rfl) g.2.1).2.2.2.2.2.2.2.2.2.1 z.2
        exact ⟨_, z_pb hr hr2⟩
      | error f => exact ⟨_, z_pbf hr⟩
    have ql : ∀ e, ∃ r, PZ tx E (nQl e) w p r := by
      intro e
      by_cases h1 : cst tx E p = 124
      · skip
        obtain ⟨r, hr⟩ := (next (by rw [h1]; decide) w hw).2.2.2.2.2.2.2.1
        cases r with
        | ok z =>
          have g := PZ_pr hr (hnx (by rw [h1]; decide))
          obtain ⟨r2, hr2⟩ := (after z.1 (by have : skw tx E p + 1 ≤ z.1 := g.1; omega) g.2.1).2.2.2.2.2.2.2.2.2.2.2.2 (eOr e z.2)
          exact ⟨_, z_qlO h1 hr hr2⟩
        | error f => exact ⟨_, z_qlF h1 hr⟩
      · exact ⟨_, z_qlS h1⟩
    have cond : ∃ r, PZ tx E nCond w p r := by
      obtain ⟨r, hr⟩ := part
      cases r with
      | ok z =>
        have g := PZ_pr hr hp
        obtain ⟨r2, hr2⟩ := (after z.1 (g.2.2 rfl) g.2.1).2.2.2.2.2.2.2.2.2.2.2.2 z.2
        exact ⟨_, z_co hr hr2⟩
      | error f => exact ⟨_, z_cof hr⟩
    have cond1 : ∀ e, ∃ r, PZ tx E (nCond1 e) w p r := by
      intro e
      obtain ⟨r, hr⟩ := part1 e
      cases r with
      | ok z =>
        have g := PZ_pr hr hp
        obtain ⟨r2, hr2⟩ := (after z.1 (g.2.2 rfl) g.2.1).2.2.2.2.2.2.2.2.2.2.2.2 z.2
        exact ⟨_, z_cp hr hr2⟩
      | error f => exact ⟨_, z_cpf hr⟩
    exact ⟨atom, term, tl, sum, sl, cmp, unit, part, part1, pl, cond, cond1, ql⟩
