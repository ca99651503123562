/-! one relation of class and reference; what leaves it as it is -/
def skE : Nat → Nat → Bool := fun k j => [16, 22, 23, 24].contains k || (Nat.beq k 21 && (Nat.beq j 3 || Nat.beq j 4))
def skV : Nat → Nat → Bool := fun k j => Nat.beq k 52 || (Nat.beq k 56 || (Nat.beq k 39 && Nat.beq j 39))
def IR (sc sm : am_S) (T Q : Nat) : Prop := sc 21 7 = sm 39 49 ∧ (sm 39 49 = 0 ∨ (sm 39 49 = 1 ∧ ∃ t, RX (sc 26) (sc 25) (sm 61) T Q t))
def RR (g : ag_G) (sc sm : am_S) (n : am_N) (P : Nat) (pL : Nat → Nat) (pF : Nat → Nat → Int32) : Prop := RGs g sc n P pL pF ∧ sm 39 30 = nI P ∧ ∀ q, q < P → sm 51 q = nI (pL q) ∧ PRn sm q (pL q) (pF q)
def TR (sc sm : am_S) (E : Nat) (tx : Nat → Nat) : Prop := CT sc E tx ∧ sm 39 6 = nI E ∧ ∀ i, i < E → sm 40 i = n8 (tx i)
def LWs (g : ag_G) (sc : am_S) (n : am_N) (K : Nat) (Ls : Nat → List (Ex × Ex)) : Prop := sc 10 3 = nI K ∧ K ≤ 4 ∧ ∀ k, k < K → agr (vL (Ls k)) ∧ ∃ (j a len : Nat) (f : Nat → Int32), n.2.2.2[j]? = some (a, Sum.inl (g_ca g 0, len, Sum.inl f)) ∧ len ≤ 240 ∧ CL f 0 (Ls k) len ∧ n.2.1 11 k = some a
def WR (g : ag_G) (sc sm : am_S) (n : am_N) : Prop := ∃ K Ls, LWs g sc n K Ls ∧ MIx (fun k => vL (Ls k)) K sm n ∧ sm 39 7 = nI K ∧ sm 39 34 = sc 10 4 ∧ (sc 10 4 = -1 ∨ ∃ k, k < K ∧ sc 10 4 = nI k)
def RS (g : ag_G) (sc sm : am_S) (n : am_N) (T Q : Nat) : Prop := SR sc sm T Q ∧ (∃ N, NR sc sm T Q N) ∧ IR sc sm T Q ∧ sc 0 7 = sm 39 35 ∧ (∃ P pL pF, RR g sc sm n P pL pF) ∧ ∃ E tx, TR sc sm E tx
def REL (g : ag_G) (sc sm : am_S) (n : am_N) : Prop := ∃ T Q, RS g sc sm n T Q ∧ HE sc sm T Q ∧ WR g sc sm n
def a1 (s s' : am_S) : Prop := s' 0 6 = s 0 6 ∧ s' 0 7 = s 0 7 ∧ s' 1 1 = s 1 1 ∧ s' 2 = s 2 ∧ s' 10 3 = s 10 3 ∧ s' 10 4 = s 10 4 ∧ (∀ j, s' 15 j = s 15 j) ∧ s' 18 = s 18 ∧ s' 19 = s 19 ∧ s' 20 = s 20 ∧ s' 21 7 = s 21 7 ∧ s' 25 = s 25 ∧ s' 26 = s 26 ∧ s' 32 4 = s 32 4 ∧ s' 33 = s 33 ∧ s' 34 = s 34 ∧ s' 35 = s 35
def a2 (s s' : am_S) : Prop := s' 16 = s 16 ∧ s' 22 = s 22 ∧ s' 24 = s 24 ∧ s' 21 3 = s 21 3 ∧ s' 21 4 = s 21 4
def b1 (s s' : am_S) : Prop := s' 39 6 = s 39 6 ∧ s' 39 7 = s 39 7 ∧ s' 39 26 = s 39 26 ∧ s' 39 27 = s 39 27 ∧ s' 39 30 = s 39 30 ∧ s' 39 34 = s 39 34 ∧ s' 39 35 = s 39 35 ∧ s' 39 47 = s 39 47 ∧ s' 39 49 = s 39 49 ∧ s' 40 = s 40 ∧ s' 44 2 = s 44 2 ∧ s' 46 = s 46 ∧ (∀ j, j < 192 → s' 50 j = s 50 j) ∧ (∀ j, j < 4 → s' 51 j = s 51 j) ∧ s' 60 = s 60 ∧ s' 61 = s 61
def b2 (s s' : am_S) : Prop := s' 52 = s 52 ∧ s' 56 = s 56 ∧ s' 39 39 = s 39 39
def m3 (s s' : am_S) : Prop := s' 41 = s 41 ∧ s' 42 = s 42 ∧ s' 55 = s 55 ∧ s' 39 7 = s 39 7 ∧ s' 43 = s 43
theorem a1_r {s : am_S} : a1 s s := ⟨rfl, rfl, rfl, rfl, rfl, rfl, fun _ => rfl, rfl, rfl, rfl, rfl, rfl, rfl, rfl, rfl, rfl, rfl⟩
theorem a2_r {s : am_S} : a2 s s := ⟨rfl, rfl, rfl, rfl, rfl⟩
theorem b1_r {s : am_S} : b1 s s := ⟨rfl, rfl, rfl, rfl, rfl, rfl, rfl, rfl, rfl, rfl, rfl, rfl, fun _ _ => rfl, fun _ _ => rfl, rfl, rfl⟩
theorem b2_r {s : am_S} : b2 s s := ⟨rfl, rfl, rfl⟩
theorem m3_r {s : am_S} : m3 s s := ⟨rfl, rfl, rfl, rfl, rfl⟩

theorem nble {a b : Nat} (h : b < a) : Nat.ble a b = false := by
  cases e : Nat.ble a b with
  | true => exact absurd (Nat.le_of_ble_eq_true e) (by omega)
  | false => rfl
theorem a1_skF {s s' : am_S} (e : eo skF s s') : a1 s s' := ⟨e 0 6 rfl, e 0 7 rfl, e 1 1 rfl, eo_cell e 2 (fun _ => rfl), e 10 3 rfl, e 10 4 rfl, fun j => e 15 j rfl, eo_cell e 18 (fun _ => rfl), eo_cell e 19 (fun _ => rfl), eo_cell e 20 (fun _ => rfl), e 21 7 rfl, eo_cell e 25 (fun _ => rfl), eo_cell e 26 (fun _ => rfl), e 32 4 rfl, eo_cell e 33 (fun _ => rfl), eo_cell e 34 (fun _ => rfl), eo_cell e 35 (fun _ => rfl)⟩
theorem a2_skF {s s' : am_S} (e : eo skF s s') : a2 s s' := ⟨eo_cell e 16 (fun _ => rfl), eo_cell e 22 (fun _ => rfl), eo_cell e 24 (fun _ => rfl), e 21 3 rfl, e 21 4 rfl⟩
theorem b1_skF {s s' : am_S} (e : eo skF s s') : b1 s s' := ⟨e 39 6 rfl, e 39 7 rfl, e 39 26 rfl, e 39 27 rfl, e 39 30 rfl, e 39 34 rfl, e 39 35 rfl, e 39 47 rfl, e 39 49 rfl, eo_cell e 40 (fun _ => rfl), e 44 2 rfl, eo_cell e 46 (fun _ => rfl), fun j _ => e 50 j rfl, fun j _ => e 51 j rfl, eo_cell e 60 (fun _ => rfl), eo_cell e 61 (fun _ => rfl)⟩
theorem b2_skF {s s' : am_S} (e : eo skF s s') : b2 s s' := ⟨eo_cell e 52 (fun _ => rfl), eo_cell e 56 (fun _ => rfl), e 39 39 rfl⟩
theorem m3_skF {s s' : am_S} (e : eo skF s s') : m3 s s' := ⟨eo_cell e 41 (fun _ => rfl), eo_cell e 42 (fun _ => rfl), eo_cell e 55 (fun _ => rfl), e 39 7 rfl, eo_cell e 43 (fun _ => rfl)⟩
theorem a1_skC {s s' : am_S} (e : eo skC s s') : a1 s s' := ⟨e 0 6 rfl, e 0 7 rfl, e 1 1 rfl, eo_cell e 2 (fun _ => rfl), e 10 3 rfl, e 10 4 rfl, fun j => e 15 j rfl, eo_cell e 18 (fun _ => rfl), eo_cell e 19 (fun _ => rfl), eo_cell e 20 (fun _ => rfl), e 21 7 rfl, eo_cell e 25 (fun _ => rfl), eo_cell e 26 (fun _ => rfl), e 32 4 rfl, eo_cell e 33 (fun _ => rfl), eo_cell e 34 (fun _ => rfl), eo_cell e 35 (fun _ => rfl)⟩
theorem a2_skC {s s' : am_S} (e : eo skC s s') : a2 s s' := ⟨eo_cell e 16 (fun _ => rfl), eo_cell e 22 (fun _ => rfl), eo_cell e 24 (fun _ => rfl), e 21 3 rfl, e 21 4 rfl⟩
theorem b1_skC {s s' : am_S} (e : eo skC s s') : b1 s s' := ⟨e 39 6 rfl, e 39 7 rfl, e 39 26 rfl, e 39 27 rfl, e 39 30 rfl, e 39 34 rfl, e 39 35 rfl, e 39 47 rfl, e 39 49 rfl, eo_cell e 40 (fun _ => rfl), e 44 2 rfl, eo_cell e 46 (fun _ => rfl), fun j _ => e 50 j rfl, fun j _ => e 51 j rfl, eo_cell e 60 (fun _ => rfl), eo_cell e 61 (fun _ => rfl)⟩
theorem b2_skC {s s' : am_S} (e : eo skC s s') : b2 s s' := ⟨eo_cell e 52 (fun _ => rfl), eo_cell e 56 (fun _ => rfl), e 39 39 rfl⟩
theorem m3_skC {s s' : am_S} (e : eo skC s s') : m3 s s' := ⟨eo_cell e 41 (fun _ => rfl), eo_cell e 42 (fun _ => rfl), eo_cell e 55 (fun _ => rfl), e 39 7 rfl, eo_cell e 43 (fun _ => rfl)⟩
theorem a1_skL {s s' : am_S} (e : eo skL s s') : a1 s s' := ⟨e 0 6 rfl, e 0 7 rfl, e 1 1 rfl, eo_cell e 2 (fun _ => rfl), e 10 3 rfl, e 10 4 rfl, fun j => e 15 j rfl, eo_cell e 18 (fun _ => rfl), eo_cell e 19 (fun _ => rfl), eo_cell e 20 (fun _ => rfl), e 21 7 rfl, eo_cell e 25 (fun _ => rfl), eo_cell e 26 (fun _ => rfl), e 32 4 rfl, eo_cell e 33 (fun _ => rfl), eo_cell e 34 (fun _ => rfl), eo_cell e 35 (fun _ => rfl)⟩
theorem a2_skL {s s' : am_S} (e : eo skL s s') : a2 s s' := ⟨eo_cell e 16 (fun _ => rfl), eo_cell e 22 (fun _ => rfl), eo_cell e 24 (fun _ => rfl), e 21 3 rfl, e 21 4 rfl⟩
theorem b1_skL {s s' : am_S} (e : eo skL s s') : b1 s s' := ⟨e 39 6 rfl, e 39 7 rfl, e 39 26 rfl, e 39 27 rfl, e 39 30 rfl, e 39 34 rfl, e 39 35 rfl, e 39 47 rfl, e 39 49 rfl, eo_cell e 40 (fun _ => rfl), e 44 2 rfl, eo_cell e 46 (fun _ => rfl), fun j _ => e 50 j rfl, fun j _ => e 51 j rfl, eo_cell e 60 (fun _ => rfl), eo_cell e 61 (fun _ => rfl)⟩
theorem b2_skL {s s' : am_S} (e : eo skL s s') : b2 s s' := ⟨eo_cell e 52 (fun _ => rfl), eo_cell e 56 (fun _ => rfl), e 39 39 rfl⟩
theorem m3_skL {s s' : am_S} (e : eo skL s s') : m3 s s' := ⟨eo_cell e 41 (fun _ => rfl), eo_cell e 42 (fun _ => rfl), eo_cell e 55 (fun _ => rfl), e 39 7 rfl, eo_cell e 43 (fun _ => rfl)⟩
theorem a1_skH {s s' : am_S} (e : eo skH s s') : a1 s s' := ⟨e 0 6 rfl, e 0 7 rfl, e 1 1 rfl, eo_cell e 2 (fun _ => rfl), e 10 3 rfl, e 10 4 rfl, fun j => e 15 j rfl, eo_cell e 18 (fun _ => rfl), eo_cell e 19 (fun _ => rfl), eo_cell e 20 (fun _ => rfl), e 21 7 rfl, eo_cell e 25 (fun _ => rfl), eo_cell e 26 (fun _ => rfl), e 32 4 rfl, eo_cell e 33 (fun _ => rfl), eo_cell e 34 (fun _ => rfl), eo_cell e 35 (fun _ => rfl)⟩
theorem a2_skH {s s' : am_S} (e : eo skH s s') : a2 s s' := ⟨eo_cell e 16 (fun _ => rfl), eo_cell e 22 (fun _ => rfl), eo_cell e 24 (fun _ => rfl), e 21 3 rfl, e 21 4 rfl⟩
theorem b1_skH {s s' : am_S} (e : eo skH s s') : b1 s s' := ⟨e 39 6 rfl, e 39 7 rfl, e 39 26 rfl, e 39 27 rfl, e 39 30 rfl, e 39 34 rfl, e 39 35 rfl, e 39 47 rfl, e 39 49 rfl, eo_cell e 40 (fun _ => rfl), e 44 2 rfl, eo_cell e 46 (fun _ => rfl), fun j _ => e 50 j rfl, fun j _ => e 51 j rfl, eo_cell e 60 (fun _ => rfl), eo_cell e 61 (fun _ => rfl)⟩
theorem b2_skH {s s' : am_S} (e : eo skH s s') : b2 s s' := ⟨eo_cell e 52 (fun _ => rfl), eo_cell e 56 (fun _ => rfl), e 39 39 rfl⟩
theorem m3_skH {s s' : am_S} (e : eo skH s s') : m3 s s' := ⟨eo_cell e 41 (fun _ => rfl), eo_cell e 42 (fun _ => rfl), eo_cell e 55 (fun _ => rfl), e 39 7 rfl, eo_cell e 43 (fun _ => rfl)⟩
theorem a1_skE {s s' : am_S} (e : eo skE s s') : a1 s s' := ⟨e 0 6 rfl, e 0 7 rfl, e 1 1 rfl, eo_cell e 2 (fun _ => rfl), e 10 3 rfl, e 10 4 rfl, fun j => e 15 j rfl, eo_cell e 18 (fun _ => rfl), eo_cell e 19 (fun _ => rfl), eo_cell e 20 (fun _ => rfl), e 21 7 rfl, eo_cell e 25 (fun _ => rfl), eo_cell e 26 (fun _ => rfl), e 32 4 rfl, eo_cell e 33 (fun _ => rfl), eo_cell e 34 (fun _ => rfl), eo_cell e 35 (fun _ => rfl)⟩
theorem b1_skE {s s' : am_S} (e : eo skE s s') : b1 s s' := ⟨e 39 6 rfl, e 39 7 rfl, e 39 26 rfl, e 39 27 rfl, e 39 30 rfl, e 39 34 rfl, e 39 35 rfl, e 39 47 rfl, e 39 49 rfl, eo_cell e 40 (fun _ => rfl), e 44 2 rfl, eo_cell e 46 (fun _ => rfl), fun j _ => e 50 j rfl, fun j _ => e 51 j rfl, eo_cell e 60 (fun _ => rfl), eo_cell e 61 (fun _ => rfl)⟩
theorem b2_skE {s s' : am_S} (e : eo skE s s') : b2 s s' := ⟨eo_cell e 52 (fun _ => rfl), eo_cell e 56 (fun _ => rfl), e 39 39 rfl⟩
theorem m3_skE {s s' : am_S} (e : eo skE s s') : m3 s s' := ⟨eo_cell e 41 (fun _ => rfl), eo_cell e 42 (fun _ => rfl), eo_cell e 55 (fun _ => rfl), e 39 7 rfl, eo_cell e 43 (fun _ => rfl)⟩
theorem a1_skM {s s' : am_S} (e : eo skM s s') : a1 s s' := ⟨e 0 6 rfl, e 0 7 rfl, e 1 1 rfl, eo_cell e 2 (fun _ => rfl), e 10 3 rfl, e 10 4 rfl, fun j => e 15 j rfl, eo_cell e 18 (fun _ => rfl), eo_cell e 19 (fun _ => rfl), eo_cell e 20 (fun _ => rfl), e 21 7 rfl, eo_cell e 25 (fun _ => rfl), eo_cell e 26 (fun _ => rfl), e 32 4 rfl, eo_cell e 33 (fun _ => rfl), eo_cell e 34 (fun _ => rfl), eo_cell e 35 (fun _ => rfl)⟩
theorem a2_skM {s s' : am_S} (e : eo skM s s') : a2 s s' := ⟨eo_cell e 16 (fun _ => rfl), eo_cell e 22 (fun _ => rfl), eo_cell e 24 (fun _ => rfl), e 21 3 rfl, e 21 4 rfl⟩
theorem b1_skM {s s' : am_S} (e : eo skM s s') : b1 s s' := ⟨e 39 6 rfl, e 39 7 rfl, e 39 26 rfl, e 39 27 rfl, e 39 30 rfl, e 39 34 rfl, e 39 35 rfl, e 39 47 rfl, e 39 49 rfl, eo_cell e 40 (fun _ => rfl), e 44 2 rfl, eo_cell e 46 (fun _ => rfl), fun j _ => e 50 j rfl, fun j _ => e 51 j rfl, eo_cell e 60 (fun _ => rfl), eo_cell e 61 (fun _ => rfl)⟩
theorem b2_skM {s s' : am_S} (e : eo skM s s') : b2 s s' := ⟨eo_cell e 52 (fun _ => rfl), eo_cell e 56 (fun _ => rfl), e 39 39 rfl⟩
theorem a1_skN {s s' : am_S} (e : eo skN s s') : a1 s s' := ⟨e 0 6 rfl, e 0 7 rfl, e 1 1 rfl, eo_cell e 2 (fun _ => rfl), e 10 3 rfl, e 10 4 rfl, fun j => e 15 j rfl, eo_cell e 18 (fun _ => rfl), eo_cell e 19 (fun _ => rfl), eo_cell e 20 (fun _ => rfl), e 21 7 rfl, eo_cell e 25 (fun _ => rfl), eo_cell e 26 (fun _ => rfl), e 32 4 rfl, eo_cell e 33 (fun _ => rfl), eo_cell e 34 (fun _ => rfl), eo_cell e 35 (fun _ => rfl)⟩
theorem a2_skN {s s' : am_S} (e : eo skN s s') : a2 s s' := ⟨eo_cell e 16 (fun _ => rfl), eo_cell e 22 (fun _ => rfl), eo_cell e 24 (fun _ => rfl), e 21 3 rfl, e 21 4 rfl⟩
theorem b1_skN {s s' : am_S} (e : eo skN s s') : b1 s s' := ⟨e 39 6 rfl, e 39 7 rfl, e 39 26 rfl, e 39 27 rfl, e 39 30 rfl, e 39 34 rfl, e 39 35 rfl, e 39 47 rfl, e 39 49 rfl, eo_cell e 40 (fun _ => rfl), e 44 2 rfl, eo_cell e 46 (fun _ => rfl), fun j _ => e 50 j rfl, fun j _ => e 51 j rfl, eo_cell e 60 (fun _ => rfl), eo_cell e 61 (fun _ => rfl)⟩
theorem b2_skN {s s' : am_S} (e : eo skN s s') : b2 s s' := ⟨eo_cell e 52 (fun _ => rfl), eo_cell e 56 (fun _ => rfl), e 39 39 rfl⟩
theorem a1_skU {s s' : am_S} (e : eo skU s s') : a1 s s' := ⟨e 0 6 rfl, e 0 7 rfl, e 1 1 rfl, eo_cell e 2 (fun _ => rfl), e 10 3 rfl, e 10 4 rfl, fun j => e 15 j rfl, eo_cell e 18 (fun _ => rfl), eo_cell e 19 (fun _ => rfl), eo_cell e 20 (fun _ => rfl), e 21 7 rfl, eo_cell e 25 (fun _ => rfl), eo_cell e 26 (fun _ => rfl), e 32 4 rfl, eo_cell e 33 (fun _ => rfl), eo_cell e 34 (fun _ => rfl), eo_cell e 35 (fun _ => rfl)⟩
theorem a2_skU {s s' : am_S} (e : eo skU s s') : a2 s s' := ⟨eo_cell e 16 (fun _ => rfl), eo_cell e 22 (fun _ => rfl), eo_cell e 24 (fun _ => rfl), e 21 3 rfl, e 21 4 rfl⟩
theorem b1_skU {s s' : am_S} (e : eo skU s s') : b1 s s' := ⟨e 39 6 rfl, e 39 7 rfl, e 39 26 rfl, e 39 27 rfl, e 39 30 rfl, e 39 34 rfl, e 39 35 rfl, e 39 47 rfl, e 39 49 rfl, eo_cell e 40 (fun _ => rfl), e 44 2 rfl, eo_cell e 46 (fun _ => rfl), fun j hj => e 50 j (by show (false || (Nat.ble 192 j || false)) = false; rw [show Nat.ble 192 j = false from nble (by omega)]; rfl), fun j hj => e 51 j (by show (false || (false || (Nat.beq j 4 || false))) = false; rw [nbeq (show ¬ j = 4 by omega)]; rfl), eo_cell e 60 (fun _ => rfl), eo_cell e 61 (fun _ => rfl)⟩
theorem b2_skU {s s' : am_S} (e : eo skU s s') : b2 s s' := ⟨eo_cell e 52 (fun _ => rfl), eo_cell e 56 (fun _ => rfl), e 39 39 rfl⟩
theorem m3_skU {s s' : am_S} (e : eo skU s s') : m3 s s' := ⟨eo_cell e 41 (fun _ => rfl), eo_cell e 42 (fun _ => rfl), eo_cell e 55 (fun _ => rfl), e 39 7 rfl, eo_cell e 43 (fun _ => rfl)⟩
theorem a1_skV {s s' : am_S} (e : eo skV s s') : a1 s s' := ⟨e 0 6 rfl, e 0 7 rfl, e 1 1 rfl, eo_cell e 2 (fun _ => rfl), e 10 3 rfl, e 10 4 rfl, fun j => e 15 j rfl, eo_cell e 18 (fun _ => rfl), eo_cell e 19 (fun _ => rfl), eo_cell e 20 (fun _ => rfl), e 21 7 rfl, eo_cell e 25 (fun _ => rfl), eo_cell e 26 (fun _ => rfl), e 32 4 rfl, eo_cell e 33 (fun _ => rfl), eo_cell e 34 (fun _ => rfl), eo_cell e 35 (fun _ => rfl)⟩
theorem a2_skV {s s' : am_S} (e : eo skV s s') : a2 s s' := ⟨eo_cell e 16 (fun _ => rfl), eo_cell e 22 (fun _ => rfl), eo_cell e 24 (fun _ => rfl), e 21 3 rfl, e 21 4 rfl⟩
theorem b1_skV {s s' : am_S} (e : eo skV s s') : b1 s s' := ⟨e 39 6 rfl, e 39 7 rfl, e 39 26 rfl, e 39 27 rfl, e 39 30 rfl, e 39 34 rfl, e 39 35 rfl, e 39 47 rfl, e 39 49 rfl, eo_cell e 40 (fun _ => rfl), e 44 2 rfl, eo_cell e 46 (fun _ => rfl), fun j _ => e 50 j rfl, fun j _ => e 51 j rfl, eo_cell e 60 (fun _ => rfl), eo_cell e 61 (fun _ => rfl)⟩
theorem m3_skV {s s' : am_S} (e : eo skV s s') : m3 s s' := ⟨eo_cell e 41 (fun _ => rfl), eo_cell e 42 (fun _ => rfl), eo_cell e 55 (fun _ => rfl), e 39 7 rfl, eo_cell e 43 (fun _ => rfl)⟩
theorem a1_0 {s : am_S} : a1 s (up s 39 0 0) := a1_r (s := s)
theorem a2_0 {s : am_S} : a2 s (up s 39 0 0) := a2_r (s := s)
theorem b1_0 {s : am_S} : b1 s (up s 39 0 0) := b1_r (s := s)
theorem b2_0 {s : am_S} : b2 s (up s 39 0 0) := b2_r (s := s)
theorem m3_0 {s : am_S} : m3 s (up s 39 0 0) := m3_r (s := s)
theorem a1_t {s s1 s2 : am_S} (h : a1 s s1) (h2 : a1 s1 s2) : a1 s s2 := by
  obtain ⟨p1, p2, p3, p4, p5, p6, p7, p8, p9, p10, p11, p12, p13, p14, p15, p16, p17⟩ := h
  obtain ⟨q1, q2, q3, q4, q5, q6, q7, q8, q9, q10, q11, q12, q13, q14, q15, q16, q17⟩ := h2
  exact ⟨q1.trans p1, q2.trans p2, q3.trans p3, q4.trans p4, q5.trans p5, q6.trans p6, fun j => (q7 j).trans (p7 j), q8.trans p8, q9.trans p9, q10.trans p10, q11.trans p11, q12.trans p12, q13.trans p13, q14.trans p14, q15.trans p15, q16.trans p16, q17.trans p17⟩
theorem a2_t {s s1 s2 : am_S} (h : a2 s s1) (h2 : a2 s1 s2) : a2 s s2 := ⟨h2.1.trans h.1, h2.2.1.trans h.2.1, h2.2.2.1.trans h.2.2.1, h2.2.2.2.1.trans h.2.2.2.1, h2.2.2.2.2.trans h.2.2.2.2⟩
theorem b1_t {s s1 s2 : am_S} (h : b1 s s1) (h2 : b1 s1 s2) : b1 s s2 := by
  obtain ⟨p1, p2, p3, p4, p5, p6, p7, p8, p9, p10, p11, p12, p13, p14, p15, p16⟩ := h
  obtain ⟨q1, q2, q3, q4, q5, q6, q7, q8, q9, q10, q11, q12, q13, q14, q15, q16⟩ := h2
  exact ⟨q1.trans p1, q2.trans p2, q3.trans p3, q4.trans p4, q5.trans p5, q6.trans p6, q7.trans p7, q8.trans p8, q9.trans p9, q10.trans p10, q11.trans p11, q12.trans p12, fun j hj => (q13 j hj).trans (p13 j hj), fun j hj => (q14 j hj).trans (p14 j hj), q15.trans p15, q16.trans p16⟩
theorem b2_t {s s1 s2 : am_S} (h : b2 s s1) (h2 : b2 s1 s2) : b2 s s2 := ⟨h2.1.trans h.1, h2.2.1.trans h.2.1, h2.2.2.trans h.2.2⟩
theorem m3_t {s s1 s2 : am_S} (h : m3 s s1) (h2 : m3 s1 s2) : m3 s s2 := ⟨h2.1.trans h.1, h2.2.1.trans h.2.1, h2.2.2.1.trans h.2.2.1, h2.2.2.2.1.trans h.2.2.2.1, h2.2.2.2.2.trans h.2.2.2.2⟩
theorem NR_mv {sc sm sc' sm' : am_S} {T Q N : Nat} (h : NR sc sm T Q N) (h1 : a1 sc sc') (h2 : b1 sm sm') : NR sc' sm' T Q N := by
  obtain ⟨-, -, -, -, -, -, -, -, -, -, -, -, -, p14, p15, p16, p17⟩ := h1
  obtain ⟨-, -, -, -, -, -, -, q8, -, -, -, -, -, -, q15, -⟩ := h2
  unfold NR at h ⊢
  rw [p14, p15, p16, p17, q8, q15]
  exact h
theorem IR_mv {sc sm sc' sm' : am_S} {T Q : Nat} (h : IR sc sm T Q) (h1 : a1 sc sc') (h2 : b1 sm sm') : IR sc' sm' T Q := by
  obtain ⟨-, -, -, -, -, -, -, -, -, -, p11, p12, p13, -⟩ := h1
  obtain ⟨-, -, -, -, -, -, -, -, q9, -, -, -, -, -, -, q16⟩ := h2
  unfold IR at h ⊢
  rw [p11, p12, p13, q9, q16]
  exact h
theorem RR_mv {g : ag_G} {sc sm sc' sm' : am_S} {n n' : am_N} {P : Nat} {pL : Nat → Nat} {pF : Nat → Nat → Int32} (h : RR g sc sm n P pL pF) (h1 : a1 sc sc') (h2 : b1 sm sm') (n1 : n'.2.1 = n.2.1) (n2 : n'.2.2.2 = n.2.2.2) : RR g sc' sm' n' P pL pF := by
  obtain ⟨⟨g1, g2, g3⟩, g4, g5⟩ := h
  obtain ⟨-, -, -, -, q5, -, -, -, -, -, -, -, q13, q14, -⟩ := h2
  refine ⟨⟨h1.1.trans g1, g2, ?_⟩, q5.trans g4, fun q hq => ⟨(q14 q (by omega)).trans (g5 q hq).1, fun i hi => ?_⟩⟩
  · rw [n1, n2]; exact g3
  · obtain ⟨k1, k2⟩ := (g5 q hq).2 i hi
    have h16 := (g3 q hq).1
    exact ⟨fun x hx => (q13 _ (by omega)).trans (k1 x hx), k2⟩
theorem TR_mv {sc sm sc' sm' : am_S} {E : Nat} {tx : Nat → Nat} (h : TR sc sm E tx) (h1 : a1 sc sc') (h2 : b1 sm sm') : TR sc' sm' E tx := by
  obtain ⟨-, -, p3, p4, -⟩ := h1
  obtain ⟨q1, -, -, -, -, -, -, -, -, q10, -⟩ := h2
  unfold TR CT at h ⊢
  rw [p3, p4, q1, q10]
  exact h
theorem SR_mv2 {sc sm sc' sm' : am_S} {T Q : Nat} (h : SR sc sm T Q) (h1 : a1 sc sc') (h2 : b1 sm sm') : SR sc' sm' T Q := by
  obtain ⟨-, -, -, -, -, -, p7, p8, p9, p10, -⟩ := h1
  obtain ⟨-, -, q3, q4, -, -, -, -, -, -, q11, q12, -⟩ := h2
  exact SR_mv h p7 p8 p9 p10 q3 q4 q11 q12
theorem RS_mv {g : ag_G} {sc sm sc' sm' : am_S} {n n' : am_N} {T Q : Nat} (h : RS g sc sm n T Q) (h1 : a1 sc sc') (h2 : b1 sm sm') (n1 : n'.2.1 = n.2.1) (n2 : n'.2.2.2 = n.2.2.2) : RS g sc' sm' n' T Q := by
  obtain ⟨hS, ⟨N, hN⟩, hI, hk, ⟨P, pL, pF, hR⟩, E, tx, hT⟩ := h
  refine ⟨SR_mv2 hS h1 h2, ⟨N, NR_mv hN h1 h2⟩, IR_mv hI h1 h2, ?_, ⟨P, pL, pF, RR_mv hR h1 h2 n1 n2⟩, E, tx, TR_mv hT h1 h2⟩
  rw [h1.2.1, h2.2.2.2.2.2.2.1]
  exact hk
theorem HE_mv {sc sm sc' sm' : am_S} {T Q : Nat} (hT : T ≤ 7) (hQ : Q ≤ 5) (h : HE sc sm T Q) (h1 : a2 sc sc') (h2 : b2 sm sm') : HE sc' sm' T Q := by
  obtain ⟨q, a, tt, h⟩ := h
  exact ⟨q, a, tt, HR_mv hT hQ h (fun j _ => congrFun h1.1 j) h1.2.1 h1.2.2.1 h1.2.2.2.1 h1.2.2.2.2 h2.1 h2.2.1 h2.2.2⟩
theorem WR_use {l : Launch} {g : ag_G} (hx : aw_hx g) {sc sm : am_S} {n : am_N} (h : WR g sc sm n) : ∃ (V : (Nat → Int32) → Int32) (MI : am_S → am_N → Prop), (∀ n' : am_N, n'.2.1 = n.2.1 → n'.2.2.2 = n.2.2.2 → LawIs l g sc n' V) ∧ LM l g MI V (sm 39 34) ∧ MI sm n ∧ ∀ (sc' sm' : am_S) (n' : am_N), sc' 10 3 = sc 10 3 → sc' 10 4 = sc 10 4 → n'.2.1 = n.2.1 → n'.2.2.2 = n.2.2.2 → sm' 39 7 = sm 39 7 → sm' 39 34 = sm 39 34 → MI sm' n' → WR g sc' sm' n' := by
  obtain ⟨K, Ls, ⟨h3, hK, hLs⟩, ⟨K', m1, m2, m3', m4⟩, h7, h34, hc⟩ := h
  have hKK : K' = K := (nI_eq (by omega) (by omega)).mp (m3'.symm.trans h7)
  subst hKK
  have back : ∀ m, m ≤ K' → ∀ (sc' sm' : am_S) (n' : am_N), sc' 10 3 = sc 10 3 → sc' 10 4 = sc 10 4 → n'.2.1 = n.2.1 → n'.2.2.2 = n.2.2.2 → sm' 39 7 = sm 39 7 → sm' 39 34 = sm 39 34 → MIx (fun k => vL (Ls k)) m sm' n' → WR g sc' sm' n' := by
    intro m hm sc' sm' n' e3 e4 n1 n2 e7 e34 ⟨K2, r1, r2, r3, r4⟩
    have hK2 : K2 = K' := (nI_eq (by omega) (by omega)).mp (r3.symm.trans (e7.trans h7))
    subst hK2
    refine ⟨K2, Ls, ⟨e3.trans h3, hK, ?_⟩, ⟨K2, r1, Nat.le_refl _, r3, r4⟩, e7.trans h7, by rw [e34, e4]; exact h34, by rw [e4]; exact hc⟩
    rw [n1, n2]; exact hLs
  rcases hc with hc | ⟨k, hk, hc⟩
  · refine ⟨fun A => A 0 + 2 * A 1 - A 2, MIx (fun k => vL (Ls k)) 0, fun n' _ _ => lawIs_no hc, ?_, ⟨K', m1, Nat.zero_le _, m3', m4⟩, back 0 (Nat.zero_le _)⟩
    rw [h34, hc]
    exact LM_no
  · obtain ⟨hag, j, a, len, f, c1, c2, c3, c4⟩ := hLs k hk
    refine ⟨vL (Ls k), MIx (fun k => vL (Ls k)) (k + 1), fun n' e1 e2 => lawIs_law (j := j) (a := a) (by rw [e2]; exact c1) c2 c3 hag hc h3 hk hK (by rw [e1]; exact c4), ?_, ⟨K', m1, hk, m3', m4⟩, back (k + 1) hk⟩
    rw [h34, hc]
    exact LM_law (Vs := fun k => vL (Ls k)) hx (by omega) hag
theorem aw_Mm {l : Launch} {g : ag_G} {M : ag_M} {d mc ms : Nat} {vs : List Value} {ws : va_W} {Q Q' : Option Value → va_W → Prop} (h : aw_M l g M d mc ms vs ws Q) (hq : ∀ r w, Q r w → Q' r w) : aw_M l g M d mc ms vs ws Q' := by
  intro p e ha hc hk s m args below hf happ hP hK
  obtain ⟨n, o, h1, h2, h3, hQ, hL⟩ := h p e ha hc hk s m args below hf happ hP hK
  obtain ⟨⟨r, ws', e1, e2, e3⟩, hF⟩ := hQ
  exact ⟨n, o, h1, h2, h3, ⟨⟨r, ws', e1, hq _ _ e2, e3⟩, hF⟩, hL⟩
/-- a call on both sides: the same answer, and the relation again -/
def BO (l : Launch) (g : ag_G) (Nx : ag_M) (dx cx sx : Nat) (Nm : ag_M) (dm : Nat) (as : List Value) : Prop := ∀ (s : am_S) (n : am_N), REL g s s n → ∃ v : Int32, aw_M l g Nx dx cx sx (.ref (g_ad g 0) :: as) (hp g s n) (fun r w => r = some (.int v) ∧ ∃ s1 n1, w = hp g s1 n1 ∧ aw_M l g Nm dm 0 0 (.ref (g_ad g 39) :: as) (hp g s1 n1) (fun r w => r = some (.int v) ∧ ∃ s2 n2, w = hp g s2 n2 ∧ REL g s2 s2 n2))

