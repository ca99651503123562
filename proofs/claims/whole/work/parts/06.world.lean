abbrev am_S : Type := Nat → Nat → Int32
abbrev am_N : Type := (Nat → Nat → Int64) × (Nat → Nat → Option Nat) × Nat × va_W
def up (s : am_S) (k i : Nat) (v : Int32) : am_S := fun k' => cond (Nat.beq k' k) (upd (s k) i v) (s k')
/-- a whole row -/
def upR (s : am_S) (k : Nat) (f : Nat → Int32) : am_S := fun k' => cond (Nat.beq k' k) f (s k')
def upL (n : am_N) (k i : Nat) (v : Int64) : am_N := (fun k' => cond (Nat.beq k' k) (vp_updL (n.1 k) i v) (n.1 k'), n.2)
def upQ (n : am_N) (k i : Nat) (v : Option Nat) : am_N := (n.1, fun k' => cond (Nat.beq k' k) (va_up (n.2.1 k) i v) (n.2.1 k'), n.2.2)
def upT (n : am_N) (k : Nat) : am_N := (n.1, n.2.1, k, n.2.2.2)
def upW (n : am_N) (q : va_W) : am_N := (n.1, n.2.1, n.2.2.1, q)
/-- the world: class, reference, the row of the law, what came later -/
def hp (g : ag_G) (s : am_S) (n : am_N) : va_W :=
  (g_ad g 0, .inr (11, [.ref (g_ad g 1), .ref (g_ad g 3), .ref (g_ad g 6), .ref (g_ad g 8), .ref (g_ad g 10), .ref (g_ad g 14), .int (s 0 6), .int (s 0 7), .ref (g_ad g 15), .ref (g_ad g 21), .ref (g_ad g 27), .ref (g_ad g 32), .ref (g_ad g 37), .ref (g_ad g 38)])) ::
  (g_ad g 1, .inr (10, [.ref (g_ad g 2), .int (s 1 1), .int (s 1 2)])) ::
  (g_ad g 2, .inl (g_ca g 0, 240, .inl (s 2))) ::
  (g_ad g 3, .inr (4, [.ref (g_ad g 1), .ref (g_ad g 4), .ref (g_ad g 5)])) ::
  (g_ad g 4, .inl (g_ca g 0, 43, .inl (s 4))) ::
  (g_ad g 5, .inl (g_ca g 0, 3, .inl (s 5))) ::
  (g_ad g 6, .inr (5, [.ref (g_ad g 1), .ref (g_ad g 7), .int (s 6 2)])) ::
  (g_ad g 7, .inl (g_ca g 0, 240, .inl (s 7))) ::
  (g_ad g 8, .inr (9, [.ref (g_ad g 1), .ref (g_ad g 9), .int (s 8 2)])) ::
  (g_ad g 9, .inl (g_ca g 0, 48, .inl (s 9))) ::
  (g_ad g 10, .inr (6, [.ref (g_ad g 11), .ref (g_ad g 12), .ref (g_ad g 13), .int (s 10 3), .int (s 10 4)])) ::
  (g_ad g 11, .inl (g_ca g 4, 4, .inr (.inr (.inr (.inr (n.2.1 11)))))) ::
  (g_ad g 12, .inl (g_ca g 0, 240, .inl (s 12))) ::
  (g_ad g 13, .inl (g_ca g 0, 6, .inl (s 13))) ::
  (g_ad g 14, .inl (g_ca g 4, 4, .inr (.inr (.inr (.inr (n.2.1 14)))))) ::
  (g_ad g 15, .inr (8, [.ref (g_ad g 10), .ref (g_ad g 16), .ref (g_ad g 17), .ref (g_ad g 18), .ref (g_ad g 19), .ref (g_ad g 20), .int (s 15 6), .int (s 15 7), .int (s 15 8)])) ::
  (g_ad g 16, .inl (g_ca g 0, 36, .inl (s 16))) ::
  (g_ad g 17, .inl (g_ca g 0, 36, .inl (s 17))) ::
  (g_ad g 18, .inl (g_ca g 0, 7, .inl (s 18))) ::
  (g_ad g 19, .inl (g_ca g 0, 7, .inl (s 19))) ::
  (g_ad g 20, .inl (g_ca g 0, 7, .inl (s 20))) ::
  (g_ad g 21, .inr (0, [.ref (g_ad g 22), .ref (g_ad g 23), .ref (g_ad g 24), .int (s 21 3), .int (s 21 4), .ref (g_ad g 25), .ref (g_ad g 26), .int (s 21 7)])) ::
  (g_ad g 22, .inl (g_ca g 0, 384, .inl (s 22))) ::
  (g_ad g 23, .inl (g_ca g 0, 36, .inl (s 23))) ::
  (g_ad g 24, .inl (g_ca g 0, 1440, .inl (s 24))) ::
  (g_ad g 25, .inl (g_ca g 0, 36, .inl (s 25))) ::
  (g_ad g 26, .inl (g_ca g 0, 384, .inl (s 26))) ::
  (g_ad g 27, .inr (3, [.ref (g_ad g 15), .ref (g_ad g 28), .ref (g_ad g 29), .ref (g_ad g 30), .ref (g_ad g 31)])) ::
  (g_ad g 28, .inl (g_ca g 0, 7, .inl (s 28))) ::
  (g_ad g 29, .inl (g_ca g 0, 7, .inl (s 29))) ::
  (g_ad g 30, .inl (g_ca g 0, 49, .inl (s 30))) ::
  (g_ad g 31, .inl (g_ca g 0, 128, .inl (s 31))) ::
  (g_ad g 32, .inr (7, [.ref (g_ad g 15), .ref (g_ad g 33), .ref (g_ad g 34), .ref (g_ad g 35), .int (s 32 4), .ref (g_ad g 36)])) ::
  (g_ad g 33, .inl (g_ca g 0, 10, .inl (s 33))) ::
  (g_ad g 34, .inl (g_ca g 0, 10, .inl (s 34))) ::
  (g_ad g 35, .inl (g_ca g 3, 10, .inl (s 35))) ::
  (g_ad g 36, .inl (g_ca g 0, 36, .inl (s 36))) ::
  (g_ad g 37, .inr (2, [.ref (g_ad g 15)])) ::
  (g_ad g 38, .inr (1, [.long (n.1 38 0)])) ::
  (g_ad g 39, .inr (12, [.int (s 39 0), .ref (g_ad g 40), .ref (g_ad g 41), .ref (g_ad g 42), .ref (g_ad g 43), .ref (g_ad g n.2.2.1), .int (s 39 6), .int (s 39 7), .int (s 39 8), .int (s 39 9), .int (s 39 10), .int (s 39 11), .int (s 39 12), .int (s 39 13), .int (s 39 14), .ref (g_ad g 108), .ref (g_ad g 104), .int (s 39 17), .ref (g_ad g 44), .ref (g_ad g 45), .ref (g_ad g 46), .ref (g_ad g 47), .ref (g_ad g 48), .ref (g_ad g 49), .ref (g_ad g 50), .ref (g_ad g 51), .int (s 39 26), .int (s 39 27), .int (s 39 28), .int (s 39 29), .int (s 39 30), .int (s 39 31), .ref (g_ad g 52), .ref (g_ad g 53), .int (s 39 34), .int (s 39 35), .ref (g_ad g 54), .ref (g_ad g 55), .ref (g_ad g 56), .int (s 39 39), .long (n.1 39 40), .ref (g_ad g 57), .ref (g_ad g 58), .ref (g_ad g 59), .int (s 39 44), .int (s 39 45), .ref (g_ad g 60), .int (s 39 47), .ref (g_ad g 61), .int (s 39 49)])) ::
  (g_ad g 40, .inl (g_ca g 2, 240, .inl (s 40))) ::
  (g_ad g 41, .inl (g_ca g 2, 960, .inl (s 41))) ::
  (g_ad g 42, .inl (g_ca g 0, 4, .inl (s 42))) ::
  (g_ad g 43, .inl (g_ca g 0, 128, .inl (s 43))) ::
  (g_ad g 44, .inl (g_ca g 0, 3, .inl (s 44))) ::
  (g_ad g 45, .inl (g_ca g 0, 3, .inl (s 45))) ::
  (g_ad g 46, .inl (g_ca g 0, 35, .inl (s 46))) ::
  (g_ad g 47, .inl (g_ca g 0, 35, .inl (s 47))) ::
  (g_ad g 48, .inl (g_ca g 0, 5, .inl (s 48))) ::
  (g_ad g 49, .inl (g_ca g 0, 5, .inl (s 49))) ::
  (g_ad g 50, .inl (g_ca g 0, 240, .inl (s 50))) ::
  (g_ad g 51, .inl (g_ca g 0, 5, .inl (s 51))) ::
  (g_ad g 52, .inl (g_ca g 0, 217, .inl (s 52))) ::
  (g_ad g 53, .inl (g_ca g 0, 217, .inl (s 53))) ::
  (g_ad g 54, .inl (g_ca g 1, 8191, .inr (.inl (n.1 54)))) ::
  (g_ad g 55, .inl (g_ca g 0, 8191, .inl (s 55))) ::
  (g_ad g 56, .inl (g_ca g 0, 8680, .inl (s 56))) ::
  (g_ad g 57, .inl (g_ca g 0, 7, .inl (s 57))) ::
  (g_ad g 58, .inl (g_ca g 0, 7, .inl (s 58))) ::
  (g_ad g 59, .inl (g_ca g 0, 70, .inl (s 59))) ::
  (g_ad g 60, .inl (g_ca g 0, 30, .inl (s 60))) ::
  (g_ad g 61, .inl (g_ca g 0, 217, .inl (s 61))) ::
  (g_ad g 62, .inl (g_ca g 1, 1, .inr (.inl (n.1 62)))) :: n.2.2.2
section AwWorld
variable {l : Launch} {g : ag_G} {M : ag_M} {R : Room} {Z : ag_Z} {cells slots : Nat} {s : am_S} {n : am_N} {pc : Nat} {L : List (Option Value)} {st : List Value}
/-- WaxReign.tape -/
theorem pg_0_0 {index : Nat} (hd : m_at M pc = some (.getfield index, 3)) (hl : Cond.fieldLink (m_y M).cls index (kT11 0).1 (kT11 0).2.1 (kT11 0).2.2.1 ∈ aw_tbl) (kk : aw_W l g M R Z cells slots (hp g s n) (pc + 3) L (.ref (g_ad g 1) :: st)) : aw_W l g M R Z cells slots (hp g s n) pc L (.ref (g_ad g 0) :: st) := aw_get (q0 := 0) (ci := 11) 0 hd rfl rfl kI11 (by decide) hl rfl kk
/-- WaxReign.kingdomReader -/
theorem pg_0_1 {index : Nat} (hd : m_at M pc = some (.getfield index, 3)) (hl : Cond.fieldLink (m_y M).cls index (kT11 1).1 (kT11 1).2.1 (kT11 1).2.2.1 ∈ aw_tbl) (kk : aw_W l g M R Z cells slots (hp g s n) (pc + 3) L (.ref (g_ad g 3) :: st)) : aw_W l g M R Z cells slots (hp g s n) pc L (.ref (g_ad g 0) :: st) := aw_get (q0 := 0) (ci := 11) 1 hd rfl rfl kI11 (by decide) hl rfl kk
/-- WaxReign.lawReader -/
theorem pg_0_2 {index : Nat} (hd : m_at M pc = some (.getfield index, 3)) (hl : Cond.fieldLink (m_y M).cls index (kT11 2).1 (kT11 2).2.1 (kT11 2).2.2.1 ∈ aw_tbl) (kk : aw_W l g M R Z cells slots (hp g s n) (pc + 3) L (.ref (g_ad g 6) :: st)) : aw_W l g M R Z cells slots (hp g s n) pc L (.ref (g_ad g 0) :: st) := aw_get (q0 := 0) (ci := 11) 2 hd rfl rfl kI11 (by decide) hl rfl kk
/-- WaxReign.reignReader -/
theorem pg_0_3 {index : Nat} (hd : m_at M pc = some (.getfield index, 3)) (hl : Cond.fieldLink (m_y M).cls index (kT11 3).1 (kT11 3).2.1 (kT11 3).2.2.1 ∈ aw_tbl) (kk : aw_W l g M R Z cells slots (hp g s n) (pc + 3) L (.ref (g_ad g 8) :: st)) : aw_W l g M R Z cells slots (hp g s n) pc L (.ref (g_ad g 0) :: st) := aw_get (q0 := 0) (ci := 11) 3 hd rfl rfl kI11 (by decide) hl rfl kk
/-- WaxReign.laws -/
theorem pg_0_4 {index : Nat} (hd : m_at M pc = some (.getfield index, 3)) (hl : Cond.fieldLink (m_y M).cls index (kT11 4).1 (kT11 4).2.1 (kT11 4).2.2.1 ∈ aw_tbl) (kk : aw_W l g M R Z cells slots (hp g s n) (pc + 3) L (.ref (g_ad g 10) :: st)) : aw_W l g M R Z cells slots (hp g s n) pc L (.ref (g_ad g 0) :: st) := aw_get (q0 := 0) (ci := 11) 4 hd rfl rfl kI11 (by decide) hl rfl kk
/-- WaxReign.reigns -/
theorem pg_0_5 {index : Nat} (hd : m_at M pc = some (.getfield index, 3)) (hl : Cond.fieldLink (m_y M).cls index (kT11 5).1 (kT11 5).2.1 (kT11 5).2.2.1 ∈ aw_tbl) (kk : aw_W l g M R Z cells slots (hp g s n) (pc + 3) L (.ref (g_ad g 14) :: st)) : aw_W l g M R Z cells slots (hp g s n) pc L (.ref (g_ad g 0) :: st) := aw_get (q0 := 0) (ci := 11) 5 hd rfl rfl kI11 (by decide) hl rfl kk
/-- WaxReign.reignsTold -/
theorem pg_0_6 {index : Nat} (hd : m_at M pc = some (.getfield index, 3)) (hl : Cond.fieldLink (m_y M).cls index (kT11 6).1 (kT11 6).2.1 (kT11 6).2.2.1 ∈ aw_tbl) (kk : aw_W l g M R Z cells slots (hp g s n) (pc + 3) L (.int (s 0 6) :: st)) : aw_W l g M R Z cells slots (hp g s n) pc L (.ref (g_ad g 0) :: st) := aw_get (q0 := 0) (ci := 11) 6 hd rfl rfl kI11 (by decide) hl rfl kk
theorem pp_0_6 {index : Nat} {v : Int32} (hd : m_at M pc = some (.putfield index, 3)) (hl : Cond.fieldLink (m_y M).cls index (kT11 6).1 (kT11 6).2.1 (kT11 6).2.2.1 ∈ aw_tbl) (kk : aw_W l g M R Z cells slots (hp g (up s 0 6 v) n) (pc + 3) L st) : aw_W l g M R Z cells slots (hp g s n) pc L (.int v :: .ref (g_ad g 0) :: st) := aw_put (q0 := 0) (ci := 11) 6 (ty := .int) kY11 hd rfl rfl kI11 kO11 kN11 (by decide) hl rfl rfl rfl rfl (Nat.le_of_ble_eq_true rfl) rfl kk
/-- WaxReign.knivesNow -/
theorem pg_0_7 {index : Nat} (hd : m_at M pc = some (.getfield index, 3)) (hl : Cond.fieldLink (m_y M).cls index (kT11 7).1 (kT11 7).2.1 (kT11 7).2.2.1 ∈ aw_tbl) (kk : aw_W l g M R Z cells slots (hp g s n) (pc + 3) L (.int (s 0 7) :: st)) : aw_W l g M R Z cells slots (hp g s n) pc L (.ref (g_ad g 0) :: st) := aw_get (q0 := 0) (ci := 11) 7 hd rfl rfl kI11 (by decide) hl rfl kk
theorem pp_0_7 {index : Nat} {v : Int32} (hd : m_at M pc = some (.putfield index, 3)) (hl : Cond.fieldLink (m_y M).cls index (kT11 7).1 (kT11 7).2.1 (kT11 7).2.2.1 ∈ aw_tbl) (kk : aw_W l g M R Z cells slots (hp g (up s 0 7 v) n) (pc + 3) L st) : aw_W l g M R Z cells slots (hp g s n) pc L (.int v :: .ref (g_ad g 0) :: st) := aw_put (q0 := 0) (ci := 11) 7 (ty := .int) kY11 hd rfl rfl kI11 kO11 kN11 (by decide) hl rfl rfl rfl rfl (Nat.le_of_ble_eq_true rfl) rfl kk
/-- WaxReign.realm -/
theorem pg_0_8 {index : Nat} (hd : m_at M pc = some (.getfield index, 3)) (hl : Cond.fieldLink (m_y M).cls index (kT11 8).1 (kT11 8).2.1 (kT11 8).2.2.1 ∈ aw_tbl) (kk : aw_W l g M R Z cells slots (hp g s n) (pc + 3) L (.ref (g_ad g 15) :: st)) : aw_W l g M R Z cells slots (hp g s n) pc L (.ref (g_ad g 0) :: st) := aw_get (q0 := 0) (ci := 11) 8 hd rfl rfl kI11 (by decide) hl rfl kk
/-- WaxReign.chronicle -/
theorem pg_0_9 {index : Nat} (hd : m_at M pc = some (.getfield index, 3)) (hl : Cond.fieldLink (m_y M).cls index (kT11 9).1 (kT11 9).2.1 (kT11 9).2.2.1 ∈ aw_tbl) (kk : aw_W l g M R Z cells slots (hp g s n) (pc + 3) L (.ref (g_ad g 21) :: st)) : aw_W l g M R Z cells slots (hp g s n) pc L (.ref (g_ad g 0) :: st) := aw_get (q0 := 0) (ci := 11) 9 hd rfl rfl kI11 (by decide) hl rfl kk
/-- WaxReign.forecast -/
theorem pg_0_10 {index : Nat} (hd : m_at M pc = some (.getfield index, 3)) (hl : Cond.fieldLink (m_y M).cls index (kT11 10).1 (kT11 10).2.1 (kT11 10).2.2.1 ∈ aw_tbl) (kk : aw_W l g M R Z cells slots (hp g s n) (pc + 3) L (.ref (g_ad g 27) :: st)) : aw_W l g M R Z cells slots (hp g s n) pc L (.ref (g_ad g 0) :: st) := aw_get (q0 := 0) (ci := 11) 10 hd rfl rfl kI11 (by decide) hl rfl kk
/-- WaxReign.notes -/
theorem pg_0_11 {index : Nat} (hd : m_at M pc = some (.getfield index, 3)) (hl : Cond.fieldLink (m_y M).cls index (kT11 11).1 (kT11 11).2.1 (kT11 11).2.2.1 ∈ aw_tbl) (kk : aw_W l g M R Z cells slots (hp g s n) (pc + 3) L (.ref (g_ad g 32) :: st)) : aw_W l g M R Z cells slots (hp g s n) pc L (.ref (g_ad g 0) :: st) := aw_get (q0 := 0) (ci := 11) 11 hd rfl rfl kI11 (by decide) hl rfl kk
/-- WaxReign.duel -/
theorem pg_0_12 {index : Nat} (hd : m_at M pc = some (.getfield index, 3)) (hl : Cond.fieldLink (m_y M).cls index (kT11 12).1 (kT11 12).2.1 (kT11 12).2.2.1 ∈ aw_tbl) (kk : aw_W l g M R Z cells slots (hp g s n) (pc + 3) L (.ref (g_ad g 37) :: st)) : aw_W l g M R Z cells slots (hp g s n) pc L (.ref (g_ad g 0) :: st) := aw_get (q0 := 0) (ci := 11) 12 hd rfl rfl kI11 (by decide) hl rfl kk
/-- WaxReign.draws -/
theorem pg_0_13 {index : Nat} (hd : m_at M pc = some (.getfield index, 3)) (hl : Cond.fieldLink (m_y M).cls index (kT11 13).1 (kT11 13).2.1 (kT11 13).2.2.1 ∈ aw_tbl) (kk : aw_W l g M R Z cells slots (hp g s n) (pc + 3) L (.ref (g_ad g 38) :: st)) : aw_W l g M R Z cells slots (hp g s n) pc L (.ref (g_ad g 0) :: st) := aw_get (q0 := 0) (ci := 11) 13 hd rfl rfl kI11 (by decide) hl rfl kk
/-- Tape.bytes -/
theorem pg_1_0 {index : Nat} (hd : m_at M pc = some (.getfield index, 3)) (hl : Cond.fieldLink (m_y M).cls index (kT10 0).1 (kT10 0).2.1 (kT10 0).2.2.1 ∈ aw_tbl) (kk : aw_W l g M R Z cells slots (hp g s n) (pc + 3) L (.ref (g_ad g 2) :: st)) : aw_W l g M R Z cells slots (hp g s n) pc L (.ref (g_ad g 1) :: st) := aw_get (q0 := 1) (ci := 10) 0 hd rfl rfl kI10 (by decide) hl rfl kk
/-- Tape.length -/
theorem pg_1_1 {index : Nat} (hd : m_at M pc = some (.getfield index, 3)) (hl : Cond.fieldLink (m_y M).cls index (kT10 1).1 (kT10 1).2.1 (kT10 1).2.2.1 ∈ aw_tbl) (kk : aw_W l g M R Z cells slots (hp g s n) (pc + 3) L (.int (s 1 1) :: st)) : aw_W l g M R Z cells slots (hp g s n) pc L (.ref (g_ad g 1) :: st) := aw_get (q0 := 1) (ci := 10) 1 hd rfl rfl kI10 (by decide) hl rfl kk
theorem pp_1_1 {index : Nat} {v : Int32} (hd : m_at M pc = some (.putfield index, 3)) (hl : Cond.fieldLink (m_y M).cls index (kT10 1).1 (kT10 1).2.1 (kT10 1).2.2.1 ∈ aw_tbl) (kk : aw_W l g M R Z cells slots (hp g (up s 1 1 v) n) (pc + 3) L st) : aw_W l g M R Z cells slots (hp g s n) pc L (.int v :: .ref (g_ad g 1) :: st) := aw_put (q0 := 1) (ci := 10) 1 (ty := .int) kY10 hd rfl rfl kI10 kO10 kN10 (by decide) hl rfl rfl rfl rfl (Nat.le_of_ble_eq_true rfl) rfl kk
/-- Tape.at -/
theorem pg_1_2 {index : Nat} (hd : m_at M pc = some (.getfield index, 3)) (hl : Cond.fieldLink (m_y M).cls index (kT10 2).1 (kT10 2).2.1 (kT10 2).2.2.1 ∈ aw_tbl) (kk : aw_W l g M R Z cells slots (hp g s n) (pc + 3) L (.int (s 1 2) :: st)) : aw_W l g M R Z cells slots (hp g s n) pc L (.ref (g_ad g 1) :: st) := aw_get (q0 := 1) (ci := 10) 2 hd rfl rfl kI10 (by decide) hl rfl kk
theorem pp_1_2 {index : Nat} {v : Int32} (hd : m_at M pc = some (.putfield index, 3)) (hl : Cond.fieldLink (m_y M).cls index (kT10 2).1 (kT10 2).2.1 (kT10 2).2.2.1 ∈ aw_tbl) (kk : aw_W l g M R Z cells slots (hp g (up s 1 2 v) n) (pc + 3) L st) : aw_W l g M R Z cells slots (hp g s n) pc L (.int v :: .ref (g_ad g 1) :: st) := aw_put (q0 := 1) (ci := 10) 2 (ty := .int) kY10 hd rfl rfl kI10 kO10 kN10 (by decide) hl rfl rfl rfl rfl (Nat.le_of_ble_eq_true rfl) rfl kk
/-- Tape.bytes -/
theorem pl_2 {i : Int32} {j : Nat} (hd : m_at M pc = some (.iaload, 1)) (hi : i = nI j) (hj : j < 240) (kk : aw_W l g M R Z cells slots (hp g s n) (pc + 1) L (.int (s 2 j) :: st)) : aw_W l g M R Z cells slots (hp g s n) pc L (.int i :: .ref (g_ad g 2) :: st) := by
  subst hi
  exact aw_iald (q0 := 2) hd rfl (vp_in_nI hj (by decide)) (by rw [nI_clamp (Nat.lt_trans hj (by decide))]; exact kk)
theorem pn_2 {v : Int32} (hd : m_at M pc = some (.arraylength, 1)) (hv : Int32.ofNat 240 = v) (kk : aw_W l g M R Z cells slots (hp g s n) (pc + 1) L (.int v :: st)) : aw_W l g M R Z cells slots (hp g s n) pc L (.ref (g_ad g 2) :: st) := aw_alen (q0 := 2) 0 hd (by decide) rfl hv kk
theorem ps_2 {i : Int32} {j : Nat} {x : Int32} (hd : m_at M pc = some (.iastore, 1)) (hi : i = nI j) (hj : j < 240) (kk : aw_W l g M R Z cells slots (hp g (up s 2 j x) n) (pc + 1) L st) : aw_W l g M R Z cells slots (hp g s n) pc L (.int x :: .int i :: .ref (g_ad g 2) :: st) := by
  subst hi
  exact aw_iast (q0 := 2) hd rfl (vp_in_nI hj (by decide)) rfl (by rw [nI_clamp (Nat.lt_trans hj (by decide))]; exact kk)
/-- KingdomReader.tape -/
theorem pg_3_0 {index : Nat} (hd : m_at M pc = some (.getfield index, 3)) (hl : Cond.fieldLink (m_y M).cls index (kT4 0).1 (kT4 0).2.1 (kT4 0).2.2.1 ∈ aw_tbl) (kk : aw_W l g M R Z cells slots (hp g s n) (pc + 3) L (.ref (g_ad g 1) :: st)) : aw_W l g M R Z cells slots (hp g s n) pc L (.ref (g_ad g 3) :: st) := aw_get (q0 := 3) (ci := 4) 0 hd rfl rfl kI4 (by decide) hl rfl kk
/-- KingdomReader.rows -/
theorem pg_3_1 {index : Nat} (hd : m_at M pc = some (.getfield index, 3)) (hl : Cond.fieldLink (m_y M).cls index (kT4 1).1 (kT4 1).2.1 (kT4 1).2.2.1 ∈ aw_tbl) (kk : aw_W l g M R Z cells slots (hp g s n) (pc + 3) L (.ref (g_ad g 4) :: st)) : aw_W l g M R Z cells slots (hp g s n) pc L (.ref (g_ad g 3) :: st) := aw_get (q0 := 3) (ci := 4) 1 hd rfl rfl kI4 (by decide) hl rfl kk
/-- KingdomReader.clauses -/
theorem pg_3_2 {index : Nat} (hd : m_at M pc = some (.getfield index, 3)) (hl : Cond.fieldLink (m_y M).cls index (kT4 2).1 (kT4 2).2.1 (kT4 2).2.2.1 ∈ aw_tbl) (kk : aw_W l g M R Z cells slots (hp g s n) (pc + 3) L (.ref (g_ad g 5) :: st)) : aw_W l g M R Z cells slots (hp g s n) pc L (.ref (g_ad g 3) :: st) := aw_get (q0 := 3) (ci := 4) 2 hd rfl rfl kI4 (by decide) hl rfl kk
/-- KingdomReader.rows -/
theorem pl_4 {i : Int32} {j : Nat} (hd : m_at M pc = some (.iaload, 1)) (hi : i = nI j) (hj : j < 43) (kk : aw_W l g M R Z cells slots (hp g s n) (pc + 1) L (.int (s 4 j) :: st)) : aw_W l g M R Z cells slots (hp g s n) pc L (.int i :: .ref (g_ad g 4) :: st) := by
  subst hi
  exact aw_iald (q0 := 4) hd rfl (vp_in_nI hj (by decide)) (by rw [nI_clamp (Nat.lt_trans hj (by decide))]; exact kk)
theorem pn_4 {v : Int32} (hd : m_at M pc = some (.arraylength, 1)) (hv : Int32.ofNat 43 = v) (kk : aw_W l g M R Z cells slots (hp g s n) (pc + 1) L (.int v :: st)) : aw_W l g M R Z cells slots (hp g s n) pc L (.ref (g_ad g 4) :: st) := aw_alen (q0 := 4) 0 hd (by decide) rfl hv kk
theorem ps_4 {i : Int32} {j : Nat} {x : Int32} (hd : m_at M pc = some (.iastore, 1)) (hi : i = nI j) (hj : j < 43) (kk : aw_W l g M R Z cells slots (hp g (up s 4 j x) n) (pc + 1) L st) : aw_W l g M R Z cells slots (hp g s n) pc L (.int x :: .int i :: .ref (g_ad g 4) :: st) := by
  subst hi
  exact aw_iast (q0 := 4) hd rfl (vp_in_nI hj (by decide)) rfl (by rw [nI_clamp (Nat.lt_trans hj (by decide))]; exact kk)
/-- KingdomReader.clauses -/
theorem pl_5 {i : Int32} {j : Nat} (hd : m_at M pc = some (.iaload, 1)) (hi : i = nI j) (hj : j < 3) (kk : aw_W l g M R Z cells slots (hp g s n) (pc + 1) L (.int (s 5 j) :: st)) : aw_W l g M R Z cells slots (hp g s n) pc L (.int i :: .ref (g_ad g 5) :: st) := by
  subst hi
  exact aw_iald (q0 := 5) hd rfl (vp_in_nI hj (by decide)) (by rw [nI_clamp (Nat.lt_trans hj (by decide))]; exact kk)
theorem pn_5 {v : Int32} (hd : m_at M pc = some (.arraylength, 1)) (hv : Int32.ofNat 3 = v) (kk : aw_W l g M R Z cells slots (hp g s n) (pc + 1) L (.int v :: st)) : aw_W l g M R Z cells slots (hp g s n) pc L (.ref (g_ad g 5) :: st) := aw_alen (q0 := 5) 0 hd (by decide) rfl hv kk
theorem ps_5 {i : Int32} {j : Nat} {x : Int32} (hd : m_at M pc = some (.iastore, 1)) (hi : i = nI j) (hj : j < 3) (kk : aw_W l g M R Z cells slots (hp g (up s 5 j x) n) (pc + 1) L st) : aw_W l g M R Z cells slots (hp g s n) pc L (.int x :: .int i :: .ref (g_ad g 5) :: st) := by
  subst hi
  exact aw_iast (q0 := 5) hd rfl (vp_in_nI hj (by decide)) rfl (by rw [nI_clamp (Nat.lt_trans hj (by decide))]; exact kk)
/-- LawReader.tape -/
theorem pg_6_0 {index : Nat} (hd : m_at M pc = some (.getfield index, 3)) (hl : Cond.fieldLink (m_y M).cls index (kT5 0).1 (kT5 0).2.1 (kT5 0).2.2.1 ∈ aw_tbl) (kk : aw_W l g M R Z cells slots (hp g s n) (pc + 3) L (.ref (g_ad g 1) :: st)) : aw_W l g M R Z cells slots (hp g s n) pc L (.ref (g_ad g 6) :: st) := aw_get (q0 := 6) (ci := 5) 0 hd rfl rfl kI5 (by decide) hl rfl kk
/-- LawReader.code -/
theorem pg_6_1 {index : Nat} (hd : m_at M pc = some (.getfield index, 3)) (hl : Cond.fieldLink (m_y M).cls index (kT5 1).1 (kT5 1).2.1 (kT5 1).2.2.1 ∈ aw_tbl) (kk : aw_W l g M R Z cells slots (hp g s n) (pc + 3) L (.ref (g_ad g 7) :: st)) : aw_W l g M R Z cells slots (hp g s n) pc L (.ref (g_ad g 6) :: st) := aw_get (q0 := 6) (ci := 5) 1 hd rfl rfl kI5 (by decide) hl rfl kk
/-- LawReader.length -/
theorem pg_6_2 {index : Nat} (hd : m_at M pc = some (.getfield index, 3)) (hl : Cond.fieldLink (m_y M).cls index (kT5 2).1 (kT5 2).2.1 (kT5 2).2.2.1 ∈ aw_tbl) (kk : aw_W l g M R Z cells slots (hp g s n) (pc + 3) L (.int (s 6 2) :: st)) : aw_W l g M R Z cells slots (hp g s n) pc L (.ref (g_ad g 6) :: st) := aw_get (q0 := 6) (ci := 5) 2 hd rfl rfl kI5 (by decide) hl rfl kk
theorem pp_6_2 {index : Nat} {v : Int32} (hd : m_at M pc = some (.putfield index, 3)) (hl : Cond.fieldLink (m_y M).cls index (kT5 2).1 (kT5 2).2.1 (kT5 2).2.2.1 ∈ aw_tbl) (kk : aw_W l g M R Z cells slots (hp g (up s 6 2 v) n) (pc + 3) L st) : aw_W l g M R Z cells slots (hp g s n) pc L (.int v :: .ref (g_ad g 6) :: st) := aw_put (q0 := 6) (ci := 5) 2 (ty := .int) kY5 hd rfl rfl kI5 kO5 kN5 (by decide) hl rfl rfl rfl rfl (Nat.le_of_ble_eq_true rfl) rfl kk
/-- LawReader.code -/
theorem pl_7 {i : Int32} {j : Nat} (hd : m_at M pc = some (.iaload, 1)) (hi : i = nI j) (hj : j < 240) (kk : aw_W l g M R Z cells slots (hp g s n) (pc + 1) L (.int (s 7 j) :: st)) : aw_W l g M R Z cells slots (hp g s n) pc L (.int i :: .ref (g_ad g 7) :: st) := by
  subst hi
  exact aw_iald (q0 := 7) hd rfl (vp_in_nI hj (by decide)) (by rw [nI_clamp (Nat.lt_trans hj (by decide))]; exact kk)
theorem pn_7 {v : Int32} (hd : m_at M pc = some (.arraylength, 1)) (hv : Int32.ofNat 240 = v) (kk : aw_W l g M R Z cells slots (hp g s n) (pc + 1) L (.int v :: st)) : aw_W l g M R Z cells slots (hp g s n) pc L (.ref (g_ad g 7) :: st) := aw_alen (q0 := 7) 0 hd (by decide) rfl hv kk
theorem ps_7 {i : Int32} {j : Nat} {x : Int32} (hd : m_at M pc = some (.iastore, 1)) (hi : i = nI j) (hj : j < 240) (kk : aw_W l g M R Z cells slots (hp g (up s 7 j x) n) (pc + 1) L st) : aw_W l g M R Z cells slots (hp g s n) pc L (.int x :: .int i :: .ref (g_ad g 7) :: st) := by
  subst hi
  exact aw_iast (q0 := 7) hd rfl (vp_in_nI hj (by decide)) rfl (by rw [nI_clamp (Nat.lt_trans hj (by decide))]; exact kk)
/-- ReignReader.tape -/
theorem pg_8_0 {index : Nat} (hd : m_at M pc = some (.getfield index, 3)) (hl : Cond.fieldLink (m_y M).cls index (kT9 0).1 (kT9 0).2.1 (kT9 0).2.2.1 ∈ aw_tbl) (kk : aw_W l g M R Z cells slots (hp g s n) (pc + 3) L (.ref (g_ad g 1) :: st)) : aw_W l g M R Z cells slots (hp g s n) pc L (.ref (g_ad g 8) :: st) := aw_get (q0 := 8) (ci := 9) 0 hd rfl rfl kI9 (by decide) hl rfl kk
/-- ReignReader.steps -/
theorem pg_8_1 {index : Nat} (hd : m_at M pc = some (.getfield index, 3)) (hl : Cond.fieldLink (m_y M).cls index (kT9 1).1 (kT9 1).2.1 (kT9 1).2.2.1 ∈ aw_tbl) (kk : aw_W l g M R Z cells slots (hp g s n) (pc + 3) L (.ref (g_ad g 9) :: st)) : aw_W l g M R Z cells slots (hp g s n) pc L (.ref (g_ad g 8) :: st) := aw_get (q0 := 8) (ci := 9) 1 hd rfl rfl kI9 (by decide) hl rfl kk
/-- ReignReader.told -/
theorem pg_8_2 {index : Nat} (hd : m_at M pc = some (.getfield index, 3)) (hl : Cond.fieldLink (m_y M).cls index (kT9 2).1 (kT9 2).2.1 (kT9 2).2.2.1 ∈ aw_tbl) (kk : aw_W l g M R Z cells slots (hp g s n) (pc + 3) L (.int (s 8 2) :: st)) : aw_W l g M R Z cells slots (hp g s n) pc L (.ref (g_ad g 8) :: st) := aw_get (q0 := 8) (ci := 9) 2 hd rfl rfl kI9 (by decide) hl rfl kk
theorem pp_8_2 {index : Nat} {v : Int32} (hd : m_at M pc = some (.putfield index, 3)) (hl : Cond.fieldLink (m_y M).cls index (kT9 2).1 (kT9 2).2.1 (kT9 2).2.2.1 ∈ aw_tbl) (kk : aw_W l g M R Z cells slots (hp g (up s 8 2 v) n) (pc + 3) L st) : aw_W l g M R Z cells slots (hp g s n) pc L (.int v :: .ref (g_ad g 8) :: st) := aw_put (q0 := 8) (ci := 9) 2 (ty := .int) kY9 hd rfl rfl kI9 kO9 kN9 (by decide) hl rfl rfl rfl rfl (Nat.le_of_ble_eq_true rfl) rfl kk
/-- ReignReader.steps -/
theorem pl_9 {i : Int32} {j : Nat} (hd : m_at M pc = some (.iaload, 1)) (hi : i = nI j) (hj : j < 48) (kk : aw_W l g M R Z cells slots (hp g s n) (pc + 1) L (.int (s 9 j) :: st)) : aw_W l g M R Z cells slots (hp g s n) pc L (.int i :: .ref (g_ad g 9) :: st) := by
  subst hi
  exact aw_iald (q0 := 9) hd rfl (vp_in_nI hj (by decide)) (by rw [nI_clamp (Nat.lt_trans hj (by decide))]; exact kk)
theorem pn_9 {v : Int32} (hd : m_at M pc = some (.arraylength, 1)) (hv : Int32.ofNat 48 = v) (kk : aw_W l g M R Z cells slots (hp g s n) (pc + 1) L (.int v :: st)) : aw_W l g M R Z cells slots (hp g s n) pc L (.ref (g_ad g 9) :: st) := aw_alen (q0 := 9) 0 hd (by decide) rfl hv kk
theorem ps_9 {i : Int32} {j : Nat} {x : Int32} (hd : m_at M pc = some (.iastore, 1)) (hi : i = nI j) (hj : j < 48) (kk : aw_W l g M R Z cells slots (hp g (up s 9 j x) n) (pc + 1) L st) : aw_W l g M R Z cells slots (hp g s n) pc L (.int x :: .int i :: .ref (g_ad g 9) :: st) := by
  subst hi
  exact aw_iast (q0 := 9) hd rfl (vp_in_nI hj (by decide)) rfl (by rw [nI_clamp (Nat.lt_trans hj (by decide))]; exact kk)
/-- Laws.codes -/
theorem pg_10_0 {index : Nat} (hd : m_at M pc = some (.getfield index, 3)) (hl : Cond.fieldLink (m_y M).cls index (kT6 0).1 (kT6 0).2.1 (kT6 0).2.2.1 ∈ aw_tbl) (kk : aw_W l g M R Z cells slots (hp g s n) (pc + 3) L (.ref (g_ad g 11) :: st)) : aw_W l g M R Z cells slots (hp g s n) pc L (.ref (g_ad g 10) :: st) := aw_get (q0 := 10) (ci := 6) 0 hd rfl rfl kI6 (by decide) hl rfl kk
/-- Laws.stack -/
theorem pg_10_1 {index : Nat} (hd : m_at M pc = some (.getfield index, 3)) (hl : Cond.fieldLink (m_y M).cls index (kT6 1).1 (kT6 1).2.1 (kT6 1).2.2.1 ∈ aw_tbl) (kk : aw_W l g M R Z cells slots (hp g s n) (pc + 3) L (.ref (g_ad g 12) :: st)) : aw_W l g M R Z cells slots (hp g s n) pc L (.ref (g_ad g 10) :: st) := aw_get (q0 := 10) (ci := 6) 1 hd rfl rfl kI6 (by decide) hl rfl kk
/-- Laws.letters -/
theorem pg_10_2 {index : Nat} (hd : m_at M pc = some (.getfield index, 3)) (hl : Cond.fieldLink (m_y M).cls index (kT6 2).1 (kT6 2).2.1 (kT6 2).2.2.1 ∈ aw_tbl) (kk : aw_W l g M R Z cells slots (hp g s n) (pc + 3) L (.ref (g_ad g 13) :: st)) : aw_W l g M R Z cells slots (hp g s n) pc L (.ref (g_ad g 10) :: st) := aw_get (q0 := 10) (ci := 6) 2 hd rfl rfl kI6 (by decide) hl rfl kk
/-- Laws.told -/
theorem pg_10_3 {index : Nat} (hd : m_at M pc = some (.getfield index, 3)) (hl : Cond.fieldLink (m_y M).cls index (kT6 3).1 (kT6 3).2.1 (kT6 3).2.2.1 ∈ aw_tbl) (kk : aw_W l g M R Z cells slots (hp g s n) (pc + 3) L (.int (s 10 3) :: st)) : aw_W l g M R Z cells slots (hp g s n) pc L (.ref (g_ad g 10) :: st) := aw_get (q0 := 10) (ci := 6) 3 hd rfl rfl kI6 (by decide) hl rfl kk
theorem pp_10_3 {index : Nat} {v : Int32} (hd : m_at M pc = some (.putfield index, 3)) (hl : Cond.fieldLink (m_y M).cls index (kT6 3).1 (kT6 3).2.1 (kT6 3).2.2.1 ∈ aw_tbl) (kk : aw_W l g M R Z cells slots (hp g (up s 10 3 v) n) (pc + 3) L st) : aw_W l g M R Z cells slots (hp g s n) pc L (.int v :: .ref (g_ad g 10) :: st) := aw_put (q0 := 10) (ci := 6) 3 (ty := .int) kY6 hd rfl rfl kI6 kO6 kN6 (by decide) hl rfl rfl rfl rfl (Nat.le_of_ble_eq_true rfl) rfl kk
/-- Laws.inForce -/
theorem pg_10_4 {index : Nat} (hd : m_at M pc = some (.getfield index, 3)) (hl : Cond.fieldLink (m_y M).cls index (kT6 4).1 (kT6 4).2.1 (kT6 4).2.2.1 ∈ aw_tbl) (kk : aw_W l g M R Z cells slots (hp g s n) (pc + 3) L (.int (s 10 4) :: st)) : aw_W l g M R Z cells slots (hp g s n) pc L (.ref (g_ad g 10) :: st) := aw_get (q0 := 10) (ci := 6) 4 hd rfl rfl kI6 (by decide) hl rfl kk
theorem pp_10_4 {index : Nat} {v : Int32} (hd : m_at M pc = some (.putfield index, 3)) (hl : Cond.fieldLink (m_y M).cls index (kT6 4).1 (kT6 4).2.1 (kT6 4).2.2.1 ∈ aw_tbl) (kk : aw_W l g M R Z cells slots (hp g (up s 10 4 v) n) (pc + 3) L st) : aw_W l g M R Z cells slots (hp g s n) pc L (.int v :: .ref (g_ad g 10) :: st) := aw_put (q0 := 10) (ci := 6) 4 (ty := .int) kY6 hd rfl rfl kI6 kO6 kN6 (by decide) hl rfl rfl rfl rfl (Nat.le_of_ble_eq_true rfl) rfl kk
/-- Laws.codes -/
theorem pl_11 {i : Int32} {j : Nat} (hd : m_at M pc = some (.aaload, 1)) (hi : i = nI j) (hj : j < 4) (kk : aw_W l g M R Z cells slots (hp g s n) (pc + 1) L (va_rf (n.2.1 11 j) :: st)) : aw_W l g M R Z cells slots (hp g s n) pc L (.int i :: .ref (g_ad g 11) :: st) := by
  subst hi
  exact aw_aald (q0 := 11) hd rfl (vp_in_nI hj (by decide)) (by rw [nI_clamp (Nat.lt_trans hj (by decide))]; exact kk)
theorem pn_11 {v : Int32} (hd : m_at M pc = some (.arraylength, 1)) (hv : Int32.ofNat 4 = v) (kk : aw_W l g M R Z cells slots (hp g s n) (pc + 1) L (.int v :: st)) : aw_W l g M R Z cells slots (hp g s n) pc L (.ref (g_ad g 11) :: st) := aw_alen (q0 := 11) 4 hd (by decide) rfl hv kk
/-- Laws.stack -/
theorem pl_12 {i : Int32} {j : Nat} (hd : m_at M pc = some (.iaload, 1)) (hi : i = nI j) (hj : j < 240) (kk : aw_W l g M R Z cells slots (hp g s n) (pc + 1) L (.int (s 12 j) :: st)) : aw_W l g M R Z cells slots (hp g s n) pc L (.int i :: .ref (g_ad g 12) :: st) := by
  subst hi
  exact aw_iald (q0 := 12) hd rfl (vp_in_nI hj (by decide)) (by rw [nI_clamp (Nat.lt_trans hj (by decide))]; exact kk)
theorem pn_12 {v : Int32} (hd : m_at M pc = some (.arraylength, 1)) (hv : Int32.ofNat 240 = v) (kk : aw_W l g M R Z cells slots (hp g s n) (pc + 1) L (.int v :: st)) : aw_W l g M R Z cells slots (hp g s n) pc L (.ref (g_ad g 12) :: st) := aw_alen (q0 := 12) 0 hd (by decide) rfl hv kk
theorem ps_12 {i : Int32} {j : Nat} {x : Int32} (hd : m_at M pc = some (.iastore, 1)) (hi : i = nI j) (hj : j < 240) (kk : aw_W l g M R Z cells slots (hp g (up s 12 j x) n) (pc + 1) L st) : aw_W l g M R Z cells slots (hp g s n) pc L (.int x :: .int i :: .ref (g_ad g 12) :: st) := by
  subst hi
  exact aw_iast (q0 := 12) hd rfl (vp_in_nI hj (by decide)) rfl (by rw [nI_clamp (Nat.lt_trans hj (by decide))]; exact kk)
/-- Laws.letters -/
theorem pl_13 {i : Int32} {j : Nat} (hd : m_at M pc = some (.iaload, 1)) (hi : i = nI j) (hj : j < 6) (kk : aw_W l g M R Z cells slots (hp g s n) (pc + 1) L (.int (s 13 j) :: st)) : aw_W l g M R Z cells slots (hp g s n) pc L (.int i :: .ref (g_ad g 13) :: st) := by
  subst hi
  exact aw_iald (q0 := 13) hd rfl (vp_in_nI hj (by decide)) (by rw [nI_clamp (Nat.lt_trans hj (by decide))]; exact kk)
theorem pn_13 {v : Int32} (hd : m_at M pc = some (.arraylength, 1)) (hv : Int32.ofNat 6 = v) (kk : aw_W l g M R Z cells slots (hp g s n) (pc + 1) L (.int v :: st)) : aw_W l g M R Z cells slots (hp g s n) pc L (.ref (g_ad g 13) :: st) := aw_alen (q0 := 13) 0 hd (by decide) rfl hv kk
theorem ps_13 {i : Int32} {j : Nat} {x : Int32} (hd : m_at M pc = some (.iastore, 1)) (hi : i = nI j) (hj : j < 6) (kk : aw_W l g M R Z cells slots (hp g (up s 13 j x) n) (pc + 1) L st) : aw_W l g M R Z cells slots (hp g s n) pc L (.int x :: .int i :: .ref (g_ad g 13) :: st) := by
  subst hi
  exact aw_iast (q0 := 13) hd rfl (vp_in_nI hj (by decide)) rfl (by rw [nI_clamp (Nat.lt_trans hj (by decide))]; exact kk)
/-- WaxReign.reigns -/
theorem pl_14 {i : Int32} {j : Nat} (hd : m_at M pc = some (.aaload, 1)) (hi : i = nI j) (hj : j < 4) (kk : aw_W l g M R Z cells slots (hp g s n) (pc + 1) L (va_rf (n.2.1 14 j) :: st)) : aw_W l g M R Z cells slots (hp g s n) pc L (.int i :: .ref (g_ad g 14) :: st) := by
  subst hi
  exact aw_aald (q0 := 14) hd rfl (vp_in_nI hj (by decide)) (by rw [nI_clamp (Nat.lt_trans hj (by decide))]; exact kk)
theorem pn_14 {v : Int32} (hd : m_at M pc = some (.arraylength, 1)) (hv : Int32.ofNat 4 = v) (kk : aw_W l g M R Z cells slots (hp g s n) (pc + 1) L (.int v :: st)) : aw_W l g M R Z cells slots (hp g s n) pc L (.ref (g_ad g 14) :: st) := aw_alen (q0 := 14) 4 hd (by decide) rfl hv kk
/-- Realm.laws -/
theorem pg_15_0 {index : Nat} (hd : m_at M pc = some (.getfield index, 3)) (hl : Cond.fieldLink (m_y M).cls index (kT8 0).1 (kT8 0).2.1 (kT8 0).2.2.1 ∈ aw_tbl) (kk : aw_W l g M R Z cells slots (hp g s n) (pc + 3) L (.ref (g_ad g 10) :: st)) : aw_W l g M R Z cells slots (hp g s n) pc L (.ref (g_ad g 15) :: st) := aw_get (q0 := 15) (ci := 8) 0 hd rfl rfl kI8 (by decide) hl rfl kk
/-- Realm.now -/
theorem pg_15_1 {index : Nat} (hd : m_at M pc = some (.getfield index, 3)) (hl : Cond.fieldLink (m_y M).cls index (kT8 1).1 (kT8 1).2.1 (kT8 1).2.2.1 ∈ aw_tbl) (kk : aw_W l g M R Z cells slots (hp g s n) (pc + 3) L (.ref (g_ad g 16) :: st)) : aw_W l g M R Z cells slots (hp g s n) pc L (.ref (g_ad g 15) :: st) := aw_get (q0 := 15) (ci := 8) 1 hd rfl rfl kI8 (by decide) hl rfl kk
/-- Realm.aside -/
theorem pg_15_2 {index : Nat} (hd : m_at M pc = some (.getfield index, 3)) (hl : Cond.fieldLink (m_y M).cls index (kT8 2).1 (kT8 2).2.1 (kT8 2).2.2.1 ∈ aw_tbl) (kk : aw_W l g M R Z cells slots (hp g s n) (pc + 3) L (.ref (g_ad g 17) :: st)) : aw_W l g M R Z cells slots (hp g s n) pc L (.ref (g_ad g 15) :: st) := aw_get (q0 := 15) (ci := 8) 2 hd rfl rfl kI8 (by decide) hl rfl kk
/-- Realm.owner -/
theorem pg_15_3 {index : Nat} (hd : m_at M pc = some (.getfield index, 3)) (hl : Cond.fieldLink (m_y M).cls index (kT8 3).1 (kT8 3).2.1 (kT8 3).2.2.1 ∈ aw_tbl) (kk : aw_W l g M R Z cells slots (hp g s n) (pc + 3) L (.ref (g_ad g 18) :: st)) : aw_W l g M R Z cells slots (hp g s n) pc L (.ref (g_ad g 15) :: st) := aw_get (q0 := 15) (ci := 8) 3 hd rfl rfl kI8 (by decide) hl rfl kk
/-- Realm.hard -/
theorem pg_15_4 {index : Nat} (hd : m_at M pc = some (.getfield index, 3)) (hl : Cond.fieldLink (m_y M).cls index (kT8 4).1 (kT8 4).2.1 (kT8 4).2.2.1 ∈ aw_tbl) (kk : aw_W l g M R Z cells slots (hp g s n) (pc + 3) L (.ref (g_ad g 19) :: st)) : aw_W l g M R Z cells slots (hp g s n) pc L (.ref (g_ad g 15) :: st) := aw_get (q0 := 15) (ci := 8) 4 hd rfl rfl kI8 (by decide) hl rfl kk
/-- Realm.deep -/
theorem pg_15_5 {index : Nat} (hd : m_at M pc = some (.getfield index, 3)) (hl : Cond.fieldLink (m_y M).cls index (kT8 5).1 (kT8 5).2.1 (kT8 5).2.2.1 ∈ aw_tbl) (kk : aw_W l g M R Z cells slots (hp g s n) (pc + 3) L (.ref (g_ad g 20) :: st)) : aw_W l g M R Z cells slots (hp g s n) pc L (.ref (g_ad g 15) :: st) := aw_get (q0 := 15) (ci := 8) 5 hd rfl rfl kI8 (by decide) hl rfl kk
/-- Realm.things -/
theorem pg_15_6 {index : Nat} (hd : m_at M pc = some (.getfield index, 3)) (hl : Cond.fieldLink (m_y M).cls index (kT8 6).1 (kT8 6).2.1 (kT8 6).2.2.1 ∈ aw_tbl) (kk : aw_W l g M R Z cells slots (hp g s n) (pc + 3) L (.int (s 15 6) :: st)) : aw_W l g M R Z cells slots (hp g s n) pc L (.ref (g_ad g 15) :: st) := aw_get (q0 := 15) (ci := 8) 6 hd rfl rfl kI8 (by decide) hl rfl kk
theorem pp_15_6 {index : Nat} {v : Int32} (hd : m_at M pc = some (.putfield index, 3)) (hl : Cond.fieldLink (m_y M).cls index (kT8 6).1 (kT8 6).2.1 (kT8 6).2.2.1 ∈ aw_tbl) (kk : aw_W l g M R Z cells slots (hp g (up s 15 6 v) n) (pc + 3) L st) : aw_W l g M R Z cells slots (hp g s n) pc L (.int v :: .ref (g_ad g 15) :: st) := aw_put (q0 := 15) (ci := 8) 6 (ty := .int) kY8 hd rfl rfl kI8 kO8 kN8 (by decide) hl rfl rfl rfl rfl (Nat.le_of_ble_eq_true rfl) rfl kk
/-- Realm.rings -/
theorem pg_15_7 {index : Nat} (hd : m_at M pc = some (.getfield index, 3)) (hl : Cond.fieldLink (m_y M).cls index (kT8 7).1 (kT8 7).2.1 (kT8 7).2.2.1 ∈ aw_tbl) (kk : aw_W l g M R Z cells slots (hp g s n) (pc + 3) L (.int (s 15 7) :: st)) : aw_W l g M R Z cells slots (hp g s n) pc L (.ref (g_ad g 15) :: st) := aw_get (q0 := 15) (ci := 8) 7 hd rfl rfl kI8 (by decide) hl rfl kk
theorem pp_15_7 {index : Nat} {v : Int32} (hd : m_at M pc = some (.putfield index, 3)) (hl : Cond.fieldLink (m_y M).cls index (kT8 7).1 (kT8 7).2.1 (kT8 7).2.2.1 ∈ aw_tbl) (kk : aw_W l g M R Z cells slots (hp g (up s 15 7 v) n) (pc + 3) L st) : aw_W l g M R Z cells slots (hp g s n) pc L (.int v :: .ref (g_ad g 15) :: st) := aw_put (q0 := 15) (ci := 8) 7 (ty := .int) kY8 hd rfl rfl kI8 kO8 kN8 (by decide) hl rfl rfl rfl rfl (Nat.le_of_ble_eq_true rfl) rfl kk
/-- Realm.bees -/
theorem pg_15_8 {index : Nat} (hd : m_at M pc = some (.getfield index, 3)) (hl : Cond.fieldLink (m_y M).cls index (kT8 8).1 (kT8 8).2.1 (kT8 8).2.2.1 ∈ aw_tbl) (kk : aw_W l g M R Z cells slots (hp g s n) (pc + 3) L (.int (s 15 8) :: st)) : aw_W l g M R Z cells slots (hp g s n) pc L (.ref (g_ad g 15) :: st) := aw_get (q0 := 15) (ci := 8) 8 hd rfl rfl kI8 (by decide) hl rfl kk
theorem pp_15_8 {index : Nat} {v : Int32} (hd : m_at M pc = some (.putfield index, 3)) (hl : Cond.fieldLink (m_y M).cls index (kT8 8).1 (kT8 8).2.1 (kT8 8).2.2.1 ∈ aw_tbl) (kk : aw_W l g M R Z cells slots (hp g (up s 15 8 v) n) (pc + 3) L st) : aw_W l g M R Z cells slots (hp g s n) pc L (.int v :: .ref (g_ad g 15) :: st) := aw_put (q0 := 15) (ci := 8) 8 (ty := .int) kY8 hd rfl rfl kI8 kO8 kN8 (by decide) hl rfl rfl rfl rfl (Nat.le_of_ble_eq_true rfl) rfl kk
/-- Realm.now -/
theorem pl_16 {i : Int32} {j : Nat} (hd : m_at M pc = some (.iaload, 1)) (hi : i = nI j) (hj : j < 36) (kk : aw_W l g M R Z cells slots (hp g s n) (pc + 1) L (.int (s 16 j) :: st)) : aw_W l g M R Z cells slots (hp g s n) pc L (.int i :: .ref (g_ad g 16) :: st) := by
  subst hi
  exact aw_iald (q0 := 16) hd rfl (vp_in_nI hj (by decide)) (by rw [nI_clamp (Nat.lt_trans hj (by decide))]; exact kk)
theorem pn_16 {v : Int32} (hd : m_at M pc = some (.arraylength, 1)) (hv : Int32.ofNat 36 = v) (kk : aw_W l g M R Z cells slots (hp g s n) (pc + 1) L (.int v :: st)) : aw_W l g M R Z cells slots (hp g s n) pc L (.ref (g_ad g 16) :: st) := aw_alen (q0 := 16) 0 hd (by decide) rfl hv kk
theorem ps_16 {i : Int32} {j : Nat} {x : Int32} (hd : m_at M pc = some (.iastore, 1)) (hi : i = nI j) (hj : j < 36) (kk : aw_W l g M R Z cells slots (hp g (up s 16 j x) n) (pc + 1) L st) : aw_W l g M R Z cells slots (hp g s n) pc L (.int x :: .int i :: .ref (g_ad g 16) :: st) := by
  subst hi
  exact aw_iast (q0 := 16) hd rfl (vp_in_nI hj (by decide)) rfl (by rw [nI_clamp (Nat.lt_trans hj (by decide))]; exact kk)
/-- Realm.aside -/
theorem pl_17 {i : Int32} {j : Nat} (hd : m_at M pc = some (.iaload, 1)) (hi : i = nI j) (hj : j < 36) (kk : aw_W l g M R Z cells slots (hp g s n) (pc + 1) L (.int (s 17 j) :: st)) : aw_W l g M R Z cells slots (hp g s n) pc L (.int i :: .ref (g_ad g 17) :: st) := by
  subst hi
  exact aw_iald (q0 := 17) hd rfl (vp_in_nI hj (by decide)) (by rw [nI_clamp (Nat.lt_trans hj (by decide))]; exact kk)
theorem pn_17 {v : Int32} (hd : m_at M pc = some (.arraylength, 1)) (hv : Int32.ofNat 36 = v) (kk : aw_W l g M R Z cells slots (hp g s n) (pc + 1) L (.int v :: st)) : aw_W l g M R Z cells slots (hp g s n) pc L (.ref (g_ad g 17) :: st) := aw_alen (q0 := 17) 0 hd (by decide) rfl hv kk
theorem ps_17 {i : Int32} {j : Nat} {x : Int32} (hd : m_at M pc = some (.iastore, 1)) (hi : i = nI j) (hj : j < 36) (kk : aw_W l g M R Z cells slots (hp g (up s 17 j x) n) (pc + 1) L st) : aw_W l g M R Z cells slots (hp g s n) pc L (.int x :: .int i :: .ref (g_ad g 17) :: st) := by
  subst hi
  exact aw_iast (q0 := 17) hd rfl (vp_in_nI hj (by decide)) rfl (by rw [nI_clamp (Nat.lt_trans hj (by decide))]; exact kk)
/-- Realm.owner -/
theorem pl_18 {i : Int32} {j : Nat} (hd : m_at M pc = some (.iaload, 1)) (hi : i = nI j) (hj : j < 7) (kk : aw_W l g M R Z cells slots (hp g s n) (pc + 1) L (.int (s 18 j) :: st)) : aw_W l g M R Z cells slots (hp g s n) pc L (.int i :: .ref (g_ad g 18) :: st) := by
  subst hi
  exact aw_iald (q0 := 18) hd rfl (vp_in_nI hj (by decide)) (by rw [nI_clamp (Nat.lt_trans hj (by decide))]; exact kk)
theorem pn_18 {v : Int32} (hd : m_at M pc = some (.arraylength, 1)) (hv : Int32.ofNat 7 = v) (kk : aw_W l g M R Z cells slots (hp g s n) (pc + 1) L (.int v :: st)) : aw_W l g M R Z cells slots (hp g s n) pc L (.ref (g_ad g 18) :: st) := aw_alen (q0 := 18) 0 hd (by decide) rfl hv kk
theorem ps_18 {i : Int32} {j : Nat} {x : Int32} (hd : m_at M pc = some (.iastore, 1)) (hi : i = nI j) (hj : j < 7) (kk : aw_W l g M R Z cells slots (hp g (up s 18 j x) n) (pc + 1) L st) : aw_W l g M R Z cells slots (hp g s n) pc L (.int x :: .int i :: .ref (g_ad g 18) :: st) := by
  subst hi
  exact aw_iast (q0 := 18) hd rfl (vp_in_nI hj (by decide)) rfl (by rw [nI_clamp (Nat.lt_trans hj (by decide))]; exact kk)
/-- Realm.hard -/
theorem pl_19 {i : Int32} {j : Nat} (hd : m_at M pc = some (.iaload, 1)) (hi : i = nI j) (hj : j < 7) (kk : aw_W l g M R Z cells slots (hp g s n) (pc + 1) L (.int (s 19 j) :: st)) : aw_W l g M R Z cells slots (hp g s n) pc L (.int i :: .ref (g_ad g 19) :: st) := by
  subst hi
  exact aw_iald (q0 := 19) hd rfl (vp_in_nI hj (by decide)) (by rw [nI_clamp (Nat.lt_trans hj (by decide))]; exact kk)
theorem pn_19 {v : Int32} (hd : m_at M pc = some (.arraylength, 1)) (hv : Int32.ofNat 7 = v) (kk : aw_W l g M R Z cells slots (hp g s n) (pc + 1) L (.int v :: st)) : aw_W l g M R Z cells slots (hp g s n) pc L (.ref (g_ad g 19) :: st) := aw_alen (q0 := 19) 0 hd (by decide) rfl hv kk
theorem ps_19 {i : Int32} {j : Nat} {x : Int32} (hd : m_at M pc = some (.iastore, 1)) (hi : i = nI j) (hj : j < 7) (kk : aw_W l g M R Z cells slots (hp g (up s 19 j x) n) (pc + 1) L st) : aw_W l g M R Z cells slots (hp g s n) pc L (.int x :: .int i :: .ref (g_ad g 19) :: st) := by
  subst hi
  exact aw_iast (q0 := 19) hd rfl (vp_in_nI hj (by decide)) rfl (by rw [nI_clamp (Nat.lt_trans hj (by decide))]; exact kk)
/-- Realm.deep -/
theorem pl_20 {i : Int32} {j : Nat} (hd : m_at M pc = some (.iaload, 1)) (hi : i = nI j) (hj : j < 7) (kk : aw_W l g M R Z cells slots (hp g s n) (pc + 1) L (.int (s 20 j) :: st)) : aw_W l g M R Z cells slots (hp g s n) pc L (.int i :: .ref (g_ad g 20) :: st) := by
  subst hi
  exact aw_iald (q0 := 20) hd rfl (vp_in_nI hj (by decide)) (by rw [nI_clamp (Nat.lt_trans hj (by decide))]; exact kk)
theorem pn_20 {v : Int32} (hd : m_at M pc = some (.arraylength, 1)) (hv : Int32.ofNat 7 = v) (kk : aw_W l g M R Z cells slots (hp g s n) (pc + 1) L (.int v :: st)) : aw_W l g M R Z cells slots (hp g s n) pc L (.ref (g_ad g 20) :: st) := aw_alen (q0 := 20) 0 hd (by decide) rfl hv kk
theorem ps_20 {i : Int32} {j : Nat} {x : Int32} (hd : m_at M pc = some (.iastore, 1)) (hi : i = nI j) (hj : j < 7) (kk : aw_W l g M R Z cells slots (hp g (up s 20 j x) n) (pc + 1) L st) : aw_W l g M R Z cells slots (hp g s n) pc L (.int x :: .int i :: .ref (g_ad g 20) :: st) := by
  subst hi
  exact aw_iast (q0 := 20) hd rfl (vp_in_nI hj (by decide)) rfl (by rw [nI_clamp (Nat.lt_trans hj (by decide))]; exact kk)
/-- Chronicle.entries -/
theorem pg_21_0 {index : Nat} (hd : m_at M pc = some (.getfield index, 3)) (hl : Cond.fieldLink (m_y M).cls index (kT0 0).1 (kT0 0).2.1 (kT0 0).2.2.1 ∈ aw_tbl) (kk : aw_W l g M R Z cells slots (hp g s n) (pc + 3) L (.ref (g_ad g 22) :: st)) : aw_W l g M R Z cells slots (hp g s n) pc L (.ref (g_ad g 21) :: st) := aw_get (q0 := 21) (ci := 0) 0 hd rfl rfl kI0 (by decide) hl rfl kk
/-- Chronicle.before -/
theorem pg_21_1 {index : Nat} (hd : m_at M pc = some (.getfield index, 3)) (hl : Cond.fieldLink (m_y M).cls index (kT0 1).1 (kT0 1).2.1 (kT0 1).2.2.1 ∈ aw_tbl) (kk : aw_W l g M R Z cells slots (hp g s n) (pc + 3) L (.ref (g_ad g 23) :: st)) : aw_W l g M R Z cells slots (hp g s n) pc L (.ref (g_ad g 21) :: st) := aw_get (q0 := 21) (ci := 0) 1 hd rfl rfl kI0 (by decide) hl rfl kk
/-- Chronicle.undoable -/
theorem pg_21_2 {index : Nat} (hd : m_at M pc = some (.getfield index, 3)) (hl : Cond.fieldLink (m_y M).cls index (kT0 2).1 (kT0 2).2.1 (kT0 2).2.2.1 ∈ aw_tbl) (kk : aw_W l g M R Z cells slots (hp g s n) (pc + 3) L (.ref (g_ad g 24) :: st)) : aw_W l g M R Z cells slots (hp g s n) pc L (.ref (g_ad g 21) :: st) := aw_get (q0 := 21) (ci := 0) 2 hd rfl rfl kI0 (by decide) hl rfl kk
/-- Chronicle.next -/
theorem pg_21_3 {index : Nat} (hd : m_at M pc = some (.getfield index, 3)) (hl : Cond.fieldLink (m_y M).cls index (kT0 3).1 (kT0 3).2.1 (kT0 3).2.2.1 ∈ aw_tbl) (kk : aw_W l g M R Z cells slots (hp g s n) (pc + 3) L (.int (s 21 3) :: st)) : aw_W l g M R Z cells slots (hp g s n) pc L (.ref (g_ad g 21) :: st) := aw_get (q0 := 21) (ci := 0) 3 hd rfl rfl kI0 (by decide) hl rfl kk
theorem pp_21_3 {index : Nat} {v : Int32} (hd : m_at M pc = some (.putfield index, 3)) (hl : Cond.fieldLink (m_y M).cls index (kT0 3).1 (kT0 3).2.1 (kT0 3).2.2.1 ∈ aw_tbl) (kk : aw_W l g M R Z cells slots (hp g (up s 21 3 v) n) (pc + 3) L st) : aw_W l g M R Z cells slots (hp g s n) pc L (.int v :: .ref (g_ad g 21) :: st) := aw_put (q0 := 21) (ci := 0) 3 (ty := .int) kY0 hd rfl rfl kI0 kO0 kN0 (by decide) hl rfl rfl rfl rfl (Nat.le_of_ble_eq_true rfl) rfl kk
/-- Chronicle.acts -/
theorem pg_21_4 {index : Nat} (hd : m_at M pc = some (.getfield index, 3)) (hl : Cond.fieldLink (m_y M).cls index (kT0 4).1 (kT0 4).2.1 (kT0 4).2.2.1 ∈ aw_tbl) (kk : aw_W l g M R Z cells slots (hp g s n) (pc + 3) L (.int (s 21 4) :: st)) : aw_W l g M R Z cells slots (hp g s n) pc L (.ref (g_ad g 21) :: st) := aw_get (q0 := 21) (ci := 0) 4 hd rfl rfl kI0 (by decide) hl rfl kk
theorem pp_21_4 {index : Nat} {v : Int32} (hd : m_at M pc = some (.putfield index, 3)) (hl : Cond.fieldLink (m_y M).cls index (kT0 4).1 (kT0 4).2.1 (kT0 4).2.2.1 ∈ aw_tbl) (kk : aw_W l g M R Z cells slots (hp g (up s 21 4 v) n) (pc + 3) L st) : aw_W l g M R Z cells slots (hp g s n) pc L (.int v :: .ref (g_ad g 21) :: st) := aw_put (q0 := 21) (ci := 0) 4 (ty := .int) kY0 hd rfl rfl kI0 kO0 kN0 (by decide) hl rfl rfl rfl rfl (Nat.le_of_ble_eq_true rfl) rfl kk
/-- Chronicle.imaged -/
theorem pg_21_5 {index : Nat} (hd : m_at M pc = some (.getfield index, 3)) (hl : Cond.fieldLink (m_y M).cls index (kT0 5).1 (kT0 5).2.1 (kT0 5).2.2.1 ∈ aw_tbl) (kk : aw_W l g M R Z cells slots (hp g s n) (pc + 3) L (.ref (g_ad g 25) :: st)) : aw_W l g M R Z cells slots (hp g s n) pc L (.ref (g_ad g 21) :: st) := aw_get (q0 := 21) (ci := 0) 5 hd rfl rfl kI0 (by decide) hl rfl kk
/-- Chronicle.imagedEntries -/
theorem pg_21_6 {index : Nat} (hd : m_at M pc = some (.getfield index, 3)) (hl : Cond.fieldLink (m_y M).cls index (kT0 6).1 (kT0 6).2.1 (kT0 6).2.2.1 ∈ aw_tbl) (kk : aw_W l g M R Z cells slots (hp g s n) (pc + 3) L (.ref (g_ad g 26) :: st)) : aw_W l g M R Z cells slots (hp g s n) pc L (.ref (g_ad g 21) :: st) := aw_get (q0 := 21) (ci := 0) 6 hd rfl rfl kI0 (by decide) hl rfl kk
/-- Chronicle.drawn -/
theorem pg_21_7 {index : Nat} (hd : m_at M pc = some (.getfield index, 3)) (hl : Cond.fieldLink (m_y M).cls index (kT0 7).1 (kT0 7).2.1 (kT0 7).2.2.1 ∈ aw_tbl) (kk : aw_W l g M R Z cells slots (hp g s n) (pc + 3) L (.int (s 21 7) :: st)) : aw_W l g M R Z cells slots (hp g s n) pc L (.ref (g_ad g 21) :: st) := aw_get (q0 := 21) (ci := 0) 7 hd rfl rfl kI0 (by decide) hl rfl kk
theorem pp_21_7 {index : Nat} {v : Int32} (hd : m_at M pc = some (.putfield index, 3)) (hl : Cond.fieldLink (m_y M).cls index (kT0 7).1 (kT0 7).2.1 (kT0 7).2.2.1 ∈ aw_tbl) (hv : v = 0 ∨ v = 1) (kk : aw_W l g M R Z cells slots (hp g (up s 21 7 v) n) (pc + 3) L st) : aw_W l g M R Z cells slots (hp g s n) pc L (.int v :: .ref (g_ad g 21) :: st) := aw_put (q0 := 21) (ci := 0) 7 (ty := .boolean) kY0 hd rfl rfl kI0 kO0 kN0 (by decide) hl rfl rfl (by rcases hv with rfl | rfl <;> rfl) (by rcases hv with rfl | rfl <;> rfl) (Nat.le_of_ble_eq_true rfl) rfl kk
/-- Chronicle.entries -/
theorem pl_22 {i : Int32} {j : Nat} (hd : m_at M pc = some (.iaload, 1)) (hi : i = nI j) (hj : j < 384) (kk : aw_W l g M R Z cells slots (hp g s n) (pc + 1) L (.int (s 22 j) :: st)) : aw_W l g M R Z cells slots (hp g s n) pc L (.int i :: .ref (g_ad g 22) :: st) := by
  subst hi
  exact aw_iald (q0 := 22) hd rfl (vp_in_nI hj (by decide)) (by rw [nI_clamp (Nat.lt_trans hj (by decide))]; exact kk)
theorem pn_22 {v : Int32} (hd : m_at M pc = some (.arraylength, 1)) (hv : Int32.ofNat 384 = v) (kk : aw_W l g M R Z cells slots (hp g s n) (pc + 1) L (.int v :: st)) : aw_W l g M R Z cells slots (hp g s n) pc L (.ref (g_ad g 22) :: st) := aw_alen (q0 := 22) 0 hd (by decide) rfl hv kk
theorem ps_22 {i : Int32} {j : Nat} {x : Int32} (hd : m_at M pc = some (.iastore, 1)) (hi : i = nI j) (hj : j < 384) (kk : aw_W l g M R Z cells slots (hp g (up s 22 j x) n) (pc + 1) L st) : aw_W l g M R Z cells slots (hp g s n) pc L (.int x :: .int i :: .ref (g_ad g 22) :: st) := by
  subst hi
  exact aw_iast (q0 := 22) hd rfl (vp_in_nI hj (by decide)) rfl (by rw [nI_clamp (Nat.lt_trans hj (by decide))]; exact kk)
/-- Chronicle.before -/
theorem pl_23 {i : Int32} {j : Nat} (hd : m_at M pc = some (.iaload, 1)) (hi : i = nI j) (hj : j < 36) (kk : aw_W l g M R Z cells slots (hp g s n) (pc + 1) L (.int (s 23 j) :: st)) : aw_W l g M R Z cells slots (hp g s n) pc L (.int i :: .ref (g_ad g 23) :: st) := by
  subst hi
  exact aw_iald (q0 := 23) hd rfl (vp_in_nI hj (by decide)) (by rw [nI_clamp (Nat.lt_trans hj (by decide))]; exact kk)
theorem pn_23 {v : Int32} (hd : m_at M pc = some (.arraylength, 1)) (hv : Int32.ofNat 36 = v) (kk : aw_W l g M R Z cells slots (hp g s n) (pc + 1) L (.int v :: st)) : aw_W l g M R Z cells slots (hp g s n) pc L (.ref (g_ad g 23) :: st) := aw_alen (q0 := 23) 0 hd (by decide) rfl hv kk
theorem ps_23 {i : Int32} {j : Nat} {x : Int32} (hd : m_at M pc = some (.iastore, 1)) (hi : i = nI j) (hj : j < 36) (kk : aw_W l g M R Z cells slots (hp g (up s 23 j x) n) (pc + 1) L st) : aw_W l g M R Z cells slots (hp g s n) pc L (.int x :: .int i :: .ref (g_ad g 23) :: st) := by
  subst hi
  exact aw_iast (q0 := 23) hd rfl (vp_in_nI hj (by decide)) rfl (by rw [nI_clamp (Nat.lt_trans hj (by decide))]; exact kk)
/-- Chronicle.undoable -/
theorem pl_24 {i : Int32} {j : Nat} (hd : m_at M pc = some (.iaload, 1)) (hi : i = nI j) (hj : j < 1440) (kk : aw_W l g M R Z cells slots (hp g s n) (pc + 1) L (.int (s 24 j) :: st)) : aw_W l g M R Z cells slots (hp g s n) pc L (.int i :: .ref (g_ad g 24) :: st) := by
  subst hi
  exact aw_iald (q0 := 24) hd rfl (vp_in_nI hj (by decide)) (by rw [nI_clamp (Nat.lt_trans hj (by decide))]; exact kk)
theorem pn_24 {v : Int32} (hd : m_at M pc = some (.arraylength, 1)) (hv : Int32.ofNat 1440 = v) (kk : aw_W l g M R Z cells slots (hp g s n) (pc + 1) L (.int v :: st)) : aw_W l g M R Z cells slots (hp g s n) pc L (.ref (g_ad g 24) :: st) := aw_alen (q0 := 24) 0 hd (by decide) rfl hv kk
theorem ps_24 {i : Int32} {j : Nat} {x : Int32} (hd : m_at M pc = some (.iastore, 1)) (hi : i = nI j) (hj : j < 1440) (kk : aw_W l g M R Z cells slots (hp g (up s 24 j x) n) (pc + 1) L st) : aw_W l g M R Z cells slots (hp g s n) pc L (.int x :: .int i :: .ref (g_ad g 24) :: st) := by
  subst hi
  exact aw_iast (q0 := 24) hd rfl (vp_in_nI hj (by decide)) rfl (by rw [nI_clamp (Nat.lt_trans hj (by decide))]; exact kk)
/-- Chronicle.imaged -/
theorem pl_25 {i : Int32} {j : Nat} (hd : m_at M pc = some (.iaload, 1)) (hi : i = nI j) (hj : j < 36) (kk : aw_W l g M R Z cells slots (hp g s n) (pc + 1) L (.int (s 25 j) :: st)) : aw_W l g M R Z cells slots (hp g s n) pc L (.int i :: .ref (g_ad g 25) :: st) := by
  subst hi
  exact aw_iald (q0 := 25) hd rfl (vp_in_nI hj (by decide)) (by rw [nI_clamp (Nat.lt_trans hj (by decide))]; exact kk)
theorem pn_25 {v : Int32} (hd : m_at M pc = some (.arraylength, 1)) (hv : Int32.ofNat 36 = v) (kk : aw_W l g M R Z cells slots (hp g s n) (pc + 1) L (.int v :: st)) : aw_W l g M R Z cells slots (hp g s n) pc L (.ref (g_ad g 25) :: st) := aw_alen (q0 := 25) 0 hd (by decide) rfl hv kk
theorem ps_25 {i : Int32} {j : Nat} {x : Int32} (hd : m_at M pc = some (.iastore, 1)) (hi : i = nI j) (hj : j < 36) (kk : aw_W l g M R Z cells slots (hp g (up s 25 j x) n) (pc + 1) L st) : aw_W l g M R Z cells slots (hp g s n) pc L (.int x :: .int i :: .ref (g_ad g 25) :: st) := by
  subst hi
  exact aw_iast (q0 := 25) hd rfl (vp_in_nI hj (by decide)) rfl (by rw [nI_clamp (Nat.lt_trans hj (by decide))]; exact kk)
/-- Chronicle.imagedEntries -/
theorem pl_26 {i : Int32} {j : Nat} (hd : m_at M pc = some (.iaload, 1)) (hi : i = nI j) (hj : j < 384) (kk : aw_W l g M R Z cells slots (hp g s n) (pc + 1) L (.int (s 26 j) :: st)) : aw_W l g M R Z cells slots (hp g s n) pc L (.int i :: .ref (g_ad g 26) :: st) := by
  subst hi
  exact aw_iald (q0 := 26) hd rfl (vp_in_nI hj (by decide)) (by rw [nI_clamp (Nat.lt_trans hj (by decide))]; exact kk)
theorem pn_26 {v : Int32} (hd : m_at M pc = some (.arraylength, 1)) (hv : Int32.ofNat 384 = v) (kk : aw_W l g M R Z cells slots (hp g s n) (pc + 1) L (.int v :: st)) : aw_W l g M R Z cells slots (hp g s n) pc L (.ref (g_ad g 26) :: st) := aw_alen (q0 := 26) 0 hd (by decide) rfl hv kk
theorem ps_26 {i : Int32} {j : Nat} {x : Int32} (hd : m_at M pc = some (.iastore, 1)) (hi : i = nI j) (hj : j < 384) (kk : aw_W l g M R Z cells slots (hp g (up s 26 j x) n) (pc + 1) L st) : aw_W l g M R Z cells slots (hp g s n) pc L (.int x :: .int i :: .ref (g_ad g 26) :: st) := by
  subst hi
  exact aw_iast (q0 := 26) hd rfl (vp_in_nI hj (by decide)) rfl (by rw [nI_clamp (Nat.lt_trans hj (by decide))]; exact kk)
/-- Forecast.realm -/
theorem pg_27_0 {index : Nat} (hd : m_at M pc = some (.getfield index, 3)) (hl : Cond.fieldLink (m_y M).cls index (kT3 0).1 (kT3 0).2.1 (kT3 0).2.2.1 ∈ aw_tbl) (kk : aw_W l g M R Z cells slots (hp g s n) (pc + 3) L (.ref (g_ad g 15) :: st)) : aw_W l g M R Z cells slots (hp g s n) pc L (.ref (g_ad g 27) :: st) := aw_get (q0 := 27) (ci := 3) 0 hd rfl rfl kI3 (by decide) hl rfl kk
/-- Forecast.needs -/
theorem pg_27_1 {index : Nat} (hd : m_at M pc = some (.getfield index, 3)) (hl : Cond.fieldLink (m_y M).cls index (kT3 1).1 (kT3 1).2.1 (kT3 1).2.2.1 ∈ aw_tbl) (kk : aw_W l g M R Z cells slots (hp g s n) (pc + 3) L (.ref (g_ad g 28) :: st)) : aw_W l g M R Z cells slots (hp g s n) pc L (.ref (g_ad g 27) :: st) := aw_get (q0 := 27) (ci := 3) 1 hd rfl rfl kI3 (by decide) hl rfl kk
/-- Forecast.suns -/
theorem pg_27_2 {index : Nat} (hd : m_at M pc = some (.getfield index, 3)) (hl : Cond.fieldLink (m_y M).cls index (kT3 2).1 (kT3 2).2.1 (kT3 2).2.2.1 ∈ aw_tbl) (kk : aw_W l g M R Z cells slots (hp g s n) (pc + 3) L (.ref (g_ad g 29) :: st)) : aw_W l g M R Z cells slots (hp g s n) pc L (.ref (g_ad g 27) :: st) := aw_get (q0 := 27) (ci := 3) 2 hd rfl rfl kI3 (by decide) hl rfl kk
/-- Forecast.prices -/
theorem pg_27_3 {index : Nat} (hd : m_at M pc = some (.getfield index, 3)) (hl : Cond.fieldLink (m_y M).cls index (kT3 3).1 (kT3 3).2.1 (kT3 3).2.2.1 ∈ aw_tbl) (kk : aw_W l g M R Z cells slots (hp g s n) (pc + 3) L (.ref (g_ad g 30) :: st)) : aw_W l g M R Z cells slots (hp g s n) pc L (.ref (g_ad g 27) :: st) := aw_get (q0 := 27) (ci := 3) 3 hd rfl rfl kI3 (by decide) hl rfl kk
/-- Forecast.leastPrice -/
theorem pg_27_4 {index : Nat} (hd : m_at M pc = some (.getfield index, 3)) (hl : Cond.fieldLink (m_y M).cls index (kT3 4).1 (kT3 4).2.1 (kT3 4).2.2.1 ∈ aw_tbl) (kk : aw_W l g M R Z cells slots (hp g s n) (pc + 3) L (.ref (g_ad g 31) :: st)) : aw_W l g M R Z cells slots (hp g s n) pc L (.ref (g_ad g 27) :: st) := aw_get (q0 := 27) (ci := 3) 4 hd rfl rfl kI3 (by decide) hl rfl kk
/-- Forecast.needs -/
theorem pl_28 {i : Int32} {j : Nat} (hd : m_at M pc = some (.iaload, 1)) (hi : i = nI j) (hj : j < 7) (kk : aw_W l g M R Z cells slots (hp g s n) (pc + 1) L (.int (s 28 j) :: st)) : aw_W l g M R Z cells slots (hp g s n) pc L (.int i :: .ref (g_ad g 28) :: st) := by
  subst hi
  exact aw_iald (q0 := 28) hd rfl (vp_in_nI hj (by decide)) (by rw [nI_clamp (Nat.lt_trans hj (by decide))]; exact kk)
theorem pn_28 {v : Int32} (hd : m_at M pc = some (.arraylength, 1)) (hv : Int32.ofNat 7 = v) (kk : aw_W l g M R Z cells slots (hp g s n) (pc + 1) L (.int v :: st)) : aw_W l g M R Z cells slots (hp g s n) pc L (.ref (g_ad g 28) :: st) := aw_alen (q0 := 28) 0 hd (by decide) rfl hv kk
theorem ps_28 {i : Int32} {j : Nat} {x : Int32} (hd : m_at M pc = some (.iastore, 1)) (hi : i = nI j) (hj : j < 7) (kk : aw_W l g M R Z cells slots (hp g (up s 28 j x) n) (pc + 1) L st) : aw_W l g M R Z cells slots (hp g s n) pc L (.int x :: .int i :: .ref (g_ad g 28) :: st) := by
  subst hi
  exact aw_iast (q0 := 28) hd rfl (vp_in_nI hj (by decide)) rfl (by rw [nI_clamp (Nat.lt_trans hj (by decide))]; exact kk)
/-- Forecast.suns -/
theorem pl_29 {i : Int32} {j : Nat} (hd : m_at M pc = some (.iaload, 1)) (hi : i = nI j) (hj : j < 7) (kk : aw_W l g M R Z cells slots (hp g s n) (pc + 1) L (.int (s 29 j) :: st)) : aw_W l g M R Z cells slots (hp g s n) pc L (.int i :: .ref (g_ad g 29) :: st) := by
  subst hi
  exact aw_iald (q0 := 29) hd rfl (vp_in_nI hj (by decide)) (by rw [nI_clamp (Nat.lt_trans hj (by decide))]; exact kk)
theorem pn_29 {v : Int32} (hd : m_at M pc = some (.arraylength, 1)) (hv : Int32.ofNat 7 = v) (kk : aw_W l g M R Z cells slots (hp g s n) (pc + 1) L (.int v :: st)) : aw_W l g M R Z cells slots (hp g s n) pc L (.ref (g_ad g 29) :: st) := aw_alen (q0 := 29) 0 hd (by decide) rfl hv kk
theorem ps_29 {i : Int32} {j : Nat} {x : Int32} (hd : m_at M pc = some (.iastore, 1)) (hi : i = nI j) (hj : j < 7) (kk : aw_W l g M R Z cells slots (hp g (up s 29 j x) n) (pc + 1) L st) : aw_W l g M R Z cells slots (hp g s n) pc L (.int x :: .int i :: .ref (g_ad g 29) :: st) := by
  subst hi
  exact aw_iast (q0 := 29) hd rfl (vp_in_nI hj (by decide)) rfl (by rw [nI_clamp (Nat.lt_trans hj (by decide))]; exact kk)
/-- Forecast.prices -/
theorem pl_30 {i : Int32} {j : Nat} (hd : m_at M pc = some (.iaload, 1)) (hi : i = nI j) (hj : j < 49) (kk : aw_W l g M R Z cells slots (hp g s n) (pc + 1) L (.int (s 30 j) :: st)) : aw_W l g M R Z cells slots (hp g s n) pc L (.int i :: .ref (g_ad g 30) :: st) := by
  subst hi
  exact aw_iald (q0 := 30) hd rfl (vp_in_nI hj (by decide)) (by rw [nI_clamp (Nat.lt_trans hj (by decide))]; exact kk)
theorem pn_30 {v : Int32} (hd : m_at M pc = some (.arraylength, 1)) (hv : Int32.ofNat 49 = v) (kk : aw_W l g M R Z cells slots (hp g s n) (pc + 1) L (.int v :: st)) : aw_W l g M R Z cells slots (hp g s n) pc L (.ref (g_ad g 30) :: st) := aw_alen (q0 := 30) 0 hd (by decide) rfl hv kk
theorem ps_30 {i : Int32} {j : Nat} {x : Int32} (hd : m_at M pc = some (.iastore, 1)) (hi : i = nI j) (hj : j < 49) (kk : aw_W l g M R Z cells slots (hp g (up s 30 j x) n) (pc + 1) L st) : aw_W l g M R Z cells slots (hp g s n) pc L (.int x :: .int i :: .ref (g_ad g 30) :: st) := by
  subst hi
  exact aw_iast (q0 := 30) hd rfl (vp_in_nI hj (by decide)) rfl (by rw [nI_clamp (Nat.lt_trans hj (by decide))]; exact kk)
/-- Forecast.leastPrice -/
theorem pl_31 {i : Int32} {j : Nat} (hd : m_at M pc = some (.iaload, 1)) (hi : i = nI j) (hj : j < 128) (kk : aw_W l g M R Z cells slots (hp g s n) (pc + 1) L (.int (s 31 j) :: st)) : aw_W l g M R Z cells slots (hp g s n) pc L (.int i :: .ref (g_ad g 31) :: st) := by
  subst hi
  exact aw_iald (q0 := 31) hd rfl (vp_in_nI hj (by decide)) (by rw [nI_clamp (Nat.lt_trans hj (by decide))]; exact kk)
theorem pn_31 {v : Int32} (hd : m_at M pc = some (.arraylength, 1)) (hv : Int32.ofNat 128 = v) (kk : aw_W l g M R Z cells slots (hp g s n) (pc + 1) L (.int v :: st)) : aw_W l g M R Z cells slots (hp g s n) pc L (.ref (g_ad g 31) :: st) := aw_alen (q0 := 31) 0 hd (by decide) rfl hv kk
theorem ps_31 {i : Int32} {j : Nat} {x : Int32} (hd : m_at M pc = some (.iastore, 1)) (hi : i = nI j) (hj : j < 128) (kk : aw_W l g M R Z cells slots (hp g (up s 31 j x) n) (pc + 1) L st) : aw_W l g M R Z cells slots (hp g s n) pc L (.int x :: .int i :: .ref (g_ad g 31) :: st) := by
  subst hi
  exact aw_iast (q0 := 31) hd rfl (vp_in_nI hj (by decide)) rfl (by rw [nI_clamp (Nat.lt_trans hj (by decide))]; exact kk)
/-- Notes.realm -/
theorem pg_32_0 {index : Nat} (hd : m_at M pc = some (.getfield index, 3)) (hl : Cond.fieldLink (m_y M).cls index (kT7 0).1 (kT7 0).2.1 (kT7 0).2.2.1 ∈ aw_tbl) (kk : aw_W l g M R Z cells slots (hp g s n) (pc + 3) L (.ref (g_ad g 15) :: st)) : aw_W l g M R Z cells slots (hp g s n) pc L (.ref (g_ad g 32) :: st) := aw_get (q0 := 32) (ci := 7) 0 hd rfl rfl kI7 (by decide) hl rfl kk
/-- Notes.ringOf -/
theorem pg_32_1 {index : Nat} (hd : m_at M pc = some (.getfield index, 3)) (hl : Cond.fieldLink (m_y M).cls index (kT7 1).1 (kT7 1).2.1 (kT7 1).2.2.1 ∈ aw_tbl) (kk : aw_W l g M R Z cells slots (hp g s n) (pc + 3) L (.ref (g_ad g 33) :: st)) : aw_W l g M R Z cells slots (hp g s n) pc L (.ref (g_ad g 32) :: st) := aw_get (q0 := 32) (ci := 7) 1 hd rfl rfl kI7 (by decide) hl rfl kk
/-- Notes.thingOf -/
theorem pg_32_2 {index : Nat} (hd : m_at M pc = some (.getfield index, 3)) (hl : Cond.fieldLink (m_y M).cls index (kT7 2).1 (kT7 2).2.1 (kT7 2).2.2.1 ∈ aw_tbl) (kk : aw_W l g M R Z cells slots (hp g s n) (pc + 3) L (.ref (g_ad g 34) :: st)) : aw_W l g M R Z cells slots (hp g s n) pc L (.ref (g_ad g 32) :: st) := aw_get (q0 := 32) (ci := 7) 2 hd rfl rfl kI7 (by decide) hl rfl kk
/-- Notes.knownBy -/
theorem pg_32_3 {index : Nat} (hd : m_at M pc = some (.getfield index, 3)) (hl : Cond.fieldLink (m_y M).cls index (kT7 3).1 (kT7 3).2.1 (kT7 3).2.2.1 ∈ aw_tbl) (kk : aw_W l g M R Z cells slots (hp g s n) (pc + 3) L (.ref (g_ad g 35) :: st)) : aw_W l g M R Z cells slots (hp g s n) pc L (.ref (g_ad g 32) :: st) := aw_get (q0 := 32) (ci := 7) 3 hd rfl rfl kI7 (by decide) hl rfl kk
/-- Notes.told -/
theorem pg_32_4 {index : Nat} (hd : m_at M pc = some (.getfield index, 3)) (hl : Cond.fieldLink (m_y M).cls index (kT7 4).1 (kT7 4).2.1 (kT7 4).2.2.1 ∈ aw_tbl) (kk : aw_W l g M R Z cells slots (hp g s n) (pc + 3) L (.int (s 32 4) :: st)) : aw_W l g M R Z cells slots (hp g s n) pc L (.ref (g_ad g 32) :: st) := aw_get (q0 := 32) (ci := 7) 4 hd rfl rfl kI7 (by decide) hl rfl kk
theorem pp_32_4 {index : Nat} {v : Int32} (hd : m_at M pc = some (.putfield index, 3)) (hl : Cond.fieldLink (m_y M).cls index (kT7 4).1 (kT7 4).2.1 (kT7 4).2.2.1 ∈ aw_tbl) (kk : aw_W l g M R Z cells slots (hp g (up s 32 4 v) n) (pc + 3) L st) : aw_W l g M R Z cells slots (hp g s n) pc L (.int v :: .ref (g_ad g 32) :: st) := aw_put (q0 := 32) (ci := 7) 4 (ty := .int) kY7 hd rfl rfl kI7 kO7 kN7 (by decide) hl rfl rfl rfl rfl (Nat.le_of_ble_eq_true rfl) rfl kk
/-- Notes.fits -/
theorem pg_32_5 {index : Nat} (hd : m_at M pc = some (.getfield index, 3)) (hl : Cond.fieldLink (m_y M).cls index (kT7 5).1 (kT7 5).2.1 (kT7 5).2.2.1 ∈ aw_tbl) (kk : aw_W l g M R Z cells slots (hp g s n) (pc + 3) L (.ref (g_ad g 36) :: st)) : aw_W l g M R Z cells slots (hp g s n) pc L (.ref (g_ad g 32) :: st) := aw_get (q0 := 32) (ci := 7) 5 hd rfl rfl kI7 (by decide) hl rfl kk
/-- Notes.ringOf -/
theorem pl_33 {i : Int32} {j : Nat} (hd : m_at M pc = some (.iaload, 1)) (hi : i = nI j) (hj : j < 10) (kk : aw_W l g M R Z cells slots (hp g s n) (pc + 1) L (.int (s 33 j) :: st)) : aw_W l g M R Z cells slots (hp g s n) pc L (.int i :: .ref (g_ad g 33) :: st) := by
  subst hi
  exact aw_iald (q0 := 33) hd rfl (vp_in_nI hj (by decide)) (by rw [nI_clamp (Nat.lt_trans hj (by decide))]; exact kk)
theorem pn_33 {v : Int32} (hd : m_at M pc = some (.arraylength, 1)) (hv : Int32.ofNat 10 = v) (kk : aw_W l g M R Z cells slots (hp g s n) (pc + 1) L (.int v :: st)) : aw_W l g M R Z cells slots (hp g s n) pc L (.ref (g_ad g 33) :: st) := aw_alen (q0 := 33) 0 hd (by decide) rfl hv kk
theorem ps_33 {i : Int32} {j : Nat} {x : Int32} (hd : m_at M pc = some (.iastore, 1)) (hi : i = nI j) (hj : j < 10) (kk : aw_W l g M R Z cells slots (hp g (up s 33 j x) n) (pc + 1) L st) : aw_W l g M R Z cells slots (hp g s n) pc L (.int x :: .int i :: .ref (g_ad g 33) :: st) := by
  subst hi
  exact aw_iast (q0 := 33) hd rfl (vp_in_nI hj (by decide)) rfl (by rw [nI_clamp (Nat.lt_trans hj (by decide))]; exact kk)
/-- Notes.thingOf -/
theorem pl_34 {i : Int32} {j : Nat} (hd : m_at M pc = some (.iaload, 1)) (hi : i = nI j) (hj : j < 10) (kk : aw_W l g M R Z cells slots (hp g s n) (pc + 1) L (.int (s 34 j) :: st)) : aw_W l g M R Z cells slots (hp g s n) pc L (.int i :: .ref (g_ad g 34) :: st) := by
  subst hi
  exact aw_iald (q0 := 34) hd rfl (vp_in_nI hj (by decide)) (by rw [nI_clamp (Nat.lt_trans hj (by decide))]; exact kk)
theorem pn_34 {v : Int32} (hd : m_at M pc = some (.arraylength, 1)) (hv : Int32.ofNat 10 = v) (kk : aw_W l g M R Z cells slots (hp g s n) (pc + 1) L (.int v :: st)) : aw_W l g M R Z cells slots (hp g s n) pc L (.ref (g_ad g 34) :: st) := aw_alen (q0 := 34) 0 hd (by decide) rfl hv kk
theorem ps_34 {i : Int32} {j : Nat} {x : Int32} (hd : m_at M pc = some (.iastore, 1)) (hi : i = nI j) (hj : j < 10) (kk : aw_W l g M R Z cells slots (hp g (up s 34 j x) n) (pc + 1) L st) : aw_W l g M R Z cells slots (hp g s n) pc L (.int x :: .int i :: .ref (g_ad g 34) :: st) := by
  subst hi
  exact aw_iast (q0 := 34) hd rfl (vp_in_nI hj (by decide)) rfl (by rw [nI_clamp (Nat.lt_trans hj (by decide))]; exact kk)
/-- Notes.knownBy -/
theorem pl_35 {i : Int32} {j : Nat} (hd : m_at M pc = some (.baload, 1)) (hi : i = nI j) (hj : j < 10) (kk : aw_W l g M R Z cells slots (hp g s n) (pc + 1) L (.int (s 35 j) :: st)) : aw_W l g M R Z cells slots (hp g s n) pc L (.int i :: .ref (g_ad g 35) :: st) := by
  subst hi
  exact aw_zald (q0 := 35) hd rfl (vp_in_nI hj (by decide)) (by rw [nI_clamp (Nat.lt_trans hj (by decide))]; exact kk)
theorem pn_35 {v : Int32} (hd : m_at M pc = some (.arraylength, 1)) (hv : Int32.ofNat 10 = v) (kk : aw_W l g M R Z cells slots (hp g s n) (pc + 1) L (.int v :: st)) : aw_W l g M R Z cells slots (hp g s n) pc L (.ref (g_ad g 35) :: st) := aw_alen (q0 := 35) 3 hd (by decide) rfl hv kk
theorem ps_35 {i : Int32} {j : Nat} {x : Int32} (hd : m_at M pc = some (.bastore, 1)) (hi : i = nI j) (hj : j < 10) (kk : aw_W l g M R Z cells slots (hp g (up s 35 j (vp_nar .boolean x)) n) (pc + 1) L st) : aw_W l g M R Z cells slots (hp g s n) pc L (.int x :: .int i :: .ref (g_ad g 35) :: st) := by
  subst hi
  exact aw_zast (q0 := 35) hd rfl (vp_in_nI hj (by decide)) rfl (by rw [nI_clamp (Nat.lt_trans hj (by decide))]; exact kk)
/-- Notes.fits -/
theorem pl_36 {i : Int32} {j : Nat} (hd : m_at M pc = some (.iaload, 1)) (hi : i = nI j) (hj : j < 36) (kk : aw_W l g M R Z cells slots (hp g s n) (pc + 1) L (.int (s 36 j) :: st)) : aw_W l g M R Z cells slots (hp g s n) pc L (.int i :: .ref (g_ad g 36) :: st) := by
  subst hi
  exact aw_iald (q0 := 36) hd rfl (vp_in_nI hj (by decide)) (by rw [nI_clamp (Nat.lt_trans hj (by decide))]; exact kk)
theorem pn_36 {v : Int32} (hd : m_at M pc = some (.arraylength, 1)) (hv : Int32.ofNat 36 = v) (kk : aw_W l g M R Z cells slots (hp g s n) (pc + 1) L (.int v :: st)) : aw_W l g M R Z cells slots (hp g s n) pc L (.ref (g_ad g 36) :: st) := aw_alen (q0 := 36) 0 hd (by decide) rfl hv kk
theorem ps_36 {i : Int32} {j : Nat} {x : Int32} (hd : m_at M pc = some (.iastore, 1)) (hi : i = nI j) (hj : j < 36) (kk : aw_W l g M R Z cells slots (hp g (up s 36 j x) n) (pc + 1) L st) : aw_W l g M R Z cells slots (hp g s n) pc L (.int x :: .int i :: .ref (g_ad g 36) :: st) := by
  subst hi
  exact aw_iast (q0 := 36) hd rfl (vp_in_nI hj (by decide)) rfl (by rw [nI_clamp (Nat.lt_trans hj (by decide))]; exact kk)
/-- Duel.realm -/
theorem pg_37_0 {index : Nat} (hd : m_at M pc = some (.getfield index, 3)) (hl : Cond.fieldLink (m_y M).cls index (kT2 0).1 (kT2 0).2.1 (kT2 0).2.2.1 ∈ aw_tbl) (kk : aw_W l g M R Z cells slots (hp g s n) (pc + 3) L (.ref (g_ad g 15) :: st)) : aw_W l g M R Z cells slots (hp g s n) pc L (.ref (g_ad g 37) :: st) := aw_get (q0 := 37) (ci := 2) 0 hd rfl rfl kI2 (by decide) hl rfl kk
/-- Draws.drawn -/
theorem pg_38_0 {index : Nat} (hd : m_at M pc = some (.getfield index, 3)) (hl : Cond.fieldLink (m_y M).cls index (kT1 0).1 (kT1 0).2.1 (kT1 0).2.2.1 ∈ aw_tbl) (kk : aw_W l g M R Z cells slots (hp g s n) (pc + 3) L (.long (n.1 38 0) :: st)) : aw_W l g M R Z cells slots (hp g s n) pc L (.ref (g_ad g 38) :: st) := aw_get (q0 := 38) (ci := 1) 0 hd rfl rfl kI1 (by decide) hl rfl kk
theorem pp_38_0 {index : Nat} {v : Int64} (hd : m_at M pc = some (.putfield index, 3)) (hl : Cond.fieldLink (m_y M).cls index (kT1 0).1 (kT1 0).2.1 (kT1 0).2.2.1 ∈ aw_tbl) (kk : aw_W l g M R Z cells slots (hp g s (upL n 38 0 v)) (pc + 3) L st) : aw_W l g M R Z cells slots (hp g s n) pc L (.long v :: .ref (g_ad g 38) :: st) := aw_put (q0 := 38) (ci := 1) 0 (ty := .long) kY1 hd rfl rfl kI1 kO1 kN1 (by decide) hl rfl rfl rfl rfl (Nat.le_of_ble_eq_true rfl) rfl kk
/-- WaxReignModel.thrown -/
theorem pg_39_0 {index : Nat} (hd : m_at M pc = some (.getfield index, 3)) (hl : Cond.fieldLink (m_y M).cls index (kT12 0).1 (kT12 0).2.1 (kT12 0).2.2.1 ∈ aw_tbl) (kk : aw_W l g M R Z cells slots (hp g s n) (pc + 3) L (.int (s 39 0) :: st)) : aw_W l g M R Z cells slots (hp g s n) pc L (.ref (g_ad g 39) :: st) := aw_get (q0 := 39) (ci := 12) 0 hd rfl rfl kI12 (by decide) hl rfl kk
theorem pp_39_0 {index : Nat} {v : Int32} (hd : m_at M pc = some (.putfield index, 3)) (hl : Cond.fieldLink (m_y M).cls index (kT12 0).1 (kT12 0).2.1 (kT12 0).2.2.1 ∈ aw_tbl) (kk : aw_W l g M R Z cells slots (hp g (up s 39 0 v) n) (pc + 3) L st) : aw_W l g M R Z cells slots (hp g s n) pc L (.int v :: .ref (g_ad g 39) :: st) := aw_put (q0 := 39) (ci := 12) 0 (ty := .int) kY12 hd rfl rfl kI12 kO12 kN12 (by decide) hl rfl rfl rfl rfl (Nat.le_of_ble_eq_true rfl) rfl kk
/-- WaxReignModel.tape -/
theorem pg_39_1 {index : Nat} (hd : m_at M pc = some (.getfield index, 3)) (hl : Cond.fieldLink (m_y M).cls index (kT12 1).1 (kT12 1).2.1 (kT12 1).2.2.1 ∈ aw_tbl) (kk : aw_W l g M R Z cells slots (hp g s n) (pc + 3) L (.ref (g_ad g 40) :: st)) : aw_W l g M R Z cells slots (hp g s n) pc L (.ref (g_ad g 39) :: st) := aw_get (q0 := 39) (ci := 12) 1 hd rfl rfl kI12 (by decide) hl rfl kk
/-- WaxReignModel.texts -/
theorem pg_39_2 {index : Nat} (hd : m_at M pc = some (.getfield index, 3)) (hl : Cond.fieldLink (m_y M).cls index (kT12 2).1 (kT12 2).2.1 (kT12 2).2.2.1 ∈ aw_tbl) (kk : aw_W l g M R Z cells slots (hp g s n) (pc + 3) L (.ref (g_ad g 41) :: st)) : aw_W l g M R Z cells slots (hp g s n) pc L (.ref (g_ad g 39) :: st) := aw_get (q0 := 39) (ci := 12) 2 hd rfl rfl kI12 (by decide) hl rfl kk
/-- WaxReignModel.textLong -/
theorem pg_39_3 {index : Nat} (hd : m_at M pc = some (.getfield index, 3)) (hl : Cond.fieldLink (m_y M).cls index (kT12 3).1 (kT12 3).2.1 (kT12 3).2.2.1 ∈ aw_tbl) (kk : aw_W l g M R Z cells slots (hp g s n) (pc + 3) L (.ref (g_ad g 42) :: st)) : aw_W l g M R Z cells slots (hp g s n) pc L (.ref (g_ad g 39) :: st) := aw_get (q0 := 39) (ci := 12) 3 hd rfl rfl kI12 (by decide) hl rfl kk
/-- WaxReignModel.letters -/
theorem pg_39_4 {index : Nat} (hd : m_at M pc = some (.getfield index, 3)) (hl : Cond.fieldLink (m_y M).cls index (kT12 4).1 (kT12 4).2.1 (kT12 4).2.2.1 ∈ aw_tbl) (kk : aw_W l g M R Z cells slots (hp g s n) (pc + 3) L (.ref (g_ad g 43) :: st)) : aw_W l g M R Z cells slots (hp g s n) pc L (.ref (g_ad g 39) :: st) := aw_get (q0 := 39) (ci := 12) 4 hd rfl rfl kI12 (by decide) hl rfl kk
/-- WaxReignModel.text -/
theorem pg_39_5 {index : Nat} (hd : m_at M pc = some (.getfield index, 3)) (hl : Cond.fieldLink (m_y M).cls index (kT12 5).1 (kT12 5).2.1 (kT12 5).2.2.1 ∈ aw_tbl) (kk : aw_W l g M R Z cells slots (hp g s n) (pc + 3) L (.ref (g_ad g n.2.2.1) :: st)) : aw_W l g M R Z cells slots (hp g s n) pc L (.ref (g_ad g 39) :: st) := aw_get (q0 := 39) (ci := 12) 5 hd rfl rfl kI12 (by decide) hl rfl kk
theorem pp_39_5 {index v : Nat} (hd : m_at M pc = some (.putfield index, 3)) (hl : Cond.fieldLink (m_y M).cls index (kT12 5).1 (kT12 5).2.1 (kT12 5).2.2.1 ∈ aw_tbl) (kk : aw_W l g M R Z cells slots (hp g s (upT n v)) (pc + 3) L st) : aw_W l g M R Z cells slots (hp g s n) pc L (.ref (g_ad g v) :: .ref (g_ad g 39) :: st) := aw_put (q0 := 39) (ci := 12) 5 (ty := .array .byte) kY12 hd rfl rfl kI12 kO12 kN12 (by decide) hl rfl rfl rfl rfl (Nat.le_of_ble_eq_true rfl) rfl kk
/-- WaxReignModel.length -/
theorem pg_39_6 {index : Nat} (hd : m_at M pc = some (.getfield index, 3)) (hl : Cond.fieldLink (m_y M).cls index (kT12 6).1 (kT12 6).2.1 (kT12 6).2.2.1 ∈ aw_tbl) (kk : aw_W l g M R Z cells slots (hp g s n) (pc + 3) L (.int (s 39 6) :: st)) : aw_W l g M R Z cells slots (hp g s n) pc L (.ref (g_ad g 39) :: st) := aw_get (q0 := 39) (ci := 12) 6 hd rfl rfl kI12 (by decide) hl rfl kk
theorem pp_39_6 {index : Nat} {v : Int32} (hd : m_at M pc = some (.putfield index, 3)) (hl : Cond.fieldLink (m_y M).cls index (kT12 6).1 (kT12 6).2.1 (kT12 6).2.2.1 ∈ aw_tbl) (kk : aw_W l g M R Z cells slots (hp g (up s 39 6 v) n) (pc + 3) L st) : aw_W l g M R Z cells slots (hp g s n) pc L (.int v :: .ref (g_ad g 39) :: st) := aw_put (q0 := 39) (ci := 12) 6 (ty := .int) kY12 hd rfl rfl kI12 kO12 kN12 (by decide) hl rfl rfl rfl rfl (Nat.le_of_ble_eq_true rfl) rfl kk
/-- WaxReignModel.lawMany -/
theorem pg_39_7 {index : Nat} (hd : m_at M pc = some (.getfield index, 3)) (hl : Cond.fieldLink (m_y M).cls index (kT12 7).1 (kT12 7).2.1 (kT12 7).2.2.1 ∈ aw_tbl) (kk : aw_W l g M R Z cells slots (hp g s n) (pc + 3) L (.int (s 39 7) :: st)) : aw_W l g M R Z cells slots (hp g s n) pc L (.ref (g_ad g 39) :: st) := aw_get (q0 := 39) (ci := 12) 7 hd rfl rfl kI12 (by decide) hl rfl kk
theorem pp_39_7 {index : Nat} {v : Int32} (hd : m_at M pc = some (.putfield index, 3)) (hl : Cond.fieldLink (m_y M).cls index (kT12 7).1 (kT12 7).2.1 (kT12 7).2.2.1 ∈ aw_tbl) (kk : aw_W l g M R Z cells slots (hp g (up s 39 7 v) n) (pc + 3) L st) : aw_W l g M R Z cells slots (hp g s n) pc L (.int v :: .ref (g_ad g 39) :: st) := aw_put (q0 := 39) (ci := 12) 7 (ty := .int) kY12 hd rfl rfl kI12 kO12 kN12 (by decide) hl rfl rfl rfl rfl (Nat.le_of_ble_eq_true rfl) rfl kk
/-- WaxReignModel.begins -/
theorem pg_39_8 {index : Nat} (hd : m_at M pc = some (.getfield index, 3)) (hl : Cond.fieldLink (m_y M).cls index (kT12 8).1 (kT12 8).2.1 (kT12 8).2.2.1 ∈ aw_tbl) (kk : aw_W l g M R Z cells slots (hp g s n) (pc + 3) L (.int (s 39 8) :: st)) : aw_W l g M R Z cells slots (hp g s n) pc L (.ref (g_ad g 39) :: st) := aw_get (q0 := 39) (ci := 12) 8 hd rfl rfl kI12 (by decide) hl rfl kk
theorem pp_39_8 {index : Nat} {v : Int32} (hd : m_at M pc = some (.putfield index, 3)) (hl : Cond.fieldLink (m_y M).cls index (kT12 8).1 (kT12 8).2.1 (kT12 8).2.2.1 ∈ aw_tbl) (kk : aw_W l g M R Z cells slots (hp g (up s 39 8 v) n) (pc + 3) L st) : aw_W l g M R Z cells slots (hp g s n) pc L (.int v :: .ref (g_ad g 39) :: st) := aw_put (q0 := 39) (ci := 12) 8 (ty := .int) kY12 hd rfl rfl kI12 kO12 kN12 (by decide) hl rfl rfl rfl rfl (Nat.le_of_ble_eq_true rfl) rfl kk
/-- WaxReignModel.ends -/
theorem pg_39_9 {index : Nat} (hd : m_at M pc = some (.getfield index, 3)) (hl : Cond.fieldLink (m_y M).cls index (kT12 9).1 (kT12 9).2.1 (kT12 9).2.2.1 ∈ aw_tbl) (kk : aw_W l g M R Z cells slots (hp g s n) (pc + 3) L (.int (s 39 9) :: st)) : aw_W l g M R Z cells slots (hp g s n) pc L (.ref (g_ad g 39) :: st) := aw_get (q0 := 39) (ci := 12) 9 hd rfl rfl kI12 (by decide) hl rfl kk
theorem pp_39_9 {index : Nat} {v : Int32} (hd : m_at M pc = some (.putfield index, 3)) (hl : Cond.fieldLink (m_y M).cls index (kT12 9).1 (kT12 9).2.1 (kT12 9).2.2.1 ∈ aw_tbl) (kk : aw_W l g M R Z cells slots (hp g (up s 39 9 v) n) (pc + 3) L st) : aw_W l g M R Z cells slots (hp g s n) pc L (.int v :: .ref (g_ad g 39) :: st) := aw_put (q0 := 39) (ci := 12) 9 (ty := .int) kY12 hd rfl rfl kI12 kO12 kN12 (by decide) hl rfl rfl rfl rfl (Nat.le_of_ble_eq_true rfl) rfl kk
/-- WaxReignModel.at -/
theorem pg_39_10 {index : Nat} (hd : m_at M pc = some (.getfield index, 3)) (hl : Cond.fieldLink (m_y M).cls index (kT12 10).1 (kT12 10).2.1 (kT12 10).2.2.1 ∈ aw_tbl) (kk : aw_W l g M R Z cells slots (hp g s n) (pc + 3) L (.int (s 39 10) :: st)) : aw_W l g M R Z cells slots (hp g s n) pc L (.ref (g_ad g 39) :: st) := aw_get (q0 := 39) (ci := 12) 10 hd rfl rfl kI12 (by decide) hl rfl kk
theorem pp_39_10 {index : Nat} {v : Int32} (hd : m_at M pc = some (.putfield index, 3)) (hl : Cond.fieldLink (m_y M).cls index (kT12 10).1 (kT12 10).2.1 (kT12 10).2.2.1 ∈ aw_tbl) (kk : aw_W l g M R Z cells slots (hp g (up s 39 10 v) n) (pc + 3) L st) : aw_W l g M R Z cells slots (hp g s n) pc L (.int v :: .ref (g_ad g 39) :: st) := aw_put (q0 := 39) (ci := 12) 10 (ty := .int) kY12 hd rfl rfl kI12 kO12 kN12 (by decide) hl rfl rfl rfl rfl (Nat.le_of_ble_eq_true rfl) rfl kk
/-- WaxReignModel.fault -/
theorem pg_39_11 {index : Nat} (hd : m_at M pc = some (.getfield index, 3)) (hl : Cond.fieldLink (m_y M).cls index (kT12 11).1 (kT12 11).2.1 (kT12 11).2.2.1 ∈ aw_tbl) (kk : aw_W l g M R Z cells slots (hp g s n) (pc + 3) L (.int (s 39 11) :: st)) : aw_W l g M R Z cells slots (hp g s n) pc L (.ref (g_ad g 39) :: st) := aw_get (q0 := 39) (ci := 12) 11 hd rfl rfl kI12 (by decide) hl rfl kk
theorem pp_39_11 {index : Nat} {v : Int32} (hd : m_at M pc = some (.putfield index, 3)) (hl : Cond.fieldLink (m_y M).cls index (kT12 11).1 (kT12 11).2.1 (kT12 11).2.2.1 ∈ aw_tbl) (kk : aw_W l g M R Z cells slots (hp g (up s 39 11 v) n) (pc + 3) L st) : aw_W l g M R Z cells slots (hp g s n) pc L (.int v :: .ref (g_ad g 39) :: st) := aw_put (q0 := 39) (ci := 12) 11 (ty := .int) kY12 hd rfl rfl kI12 kO12 kN12 (by decide) hl rfl rfl rfl rfl (Nat.le_of_ble_eq_true rfl) rfl kk
/-- WaxReignModel.deep -/
theorem pg_39_12 {index : Nat} (hd : m_at M pc = some (.getfield index, 3)) (hl : Cond.fieldLink (m_y M).cls index (kT12 12).1 (kT12 12).2.1 (kT12 12).2.2.1 ∈ aw_tbl) (kk : aw_W l g M R Z cells slots (hp g s n) (pc + 3) L (.int (s 39 12) :: st)) : aw_W l g M R Z cells slots (hp g s n) pc L (.ref (g_ad g 39) :: st) := aw_get (q0 := 39) (ci := 12) 12 hd rfl rfl kI12 (by decide) hl rfl kk
theorem pp_39_12 {index : Nat} {v : Int32} (hd : m_at M pc = some (.putfield index, 3)) (hl : Cond.fieldLink (m_y M).cls index (kT12 12).1 (kT12 12).2.1 (kT12 12).2.2.1 ∈ aw_tbl) (kk : aw_W l g M R Z cells slots (hp g (up s 39 12 v) n) (pc + 3) L st) : aw_W l g M R Z cells slots (hp g s n) pc L (.int v :: .ref (g_ad g 39) :: st) := aw_put (q0 := 39) (ci := 12) 12 (ty := .int) kY12 hd rfl rfl kI12 kO12 kN12 (by decide) hl rfl rfl rfl rfl (Nat.le_of_ble_eq_true rfl) rfl kk
/-- WaxReignModel.label -/
theorem pg_39_13 {index : Nat} (hd : m_at M pc = some (.getfield index, 3)) (hl : Cond.fieldLink (m_y M).cls index (kT12 13).1 (kT12 13).2.1 (kT12 13).2.2.1 ∈ aw_tbl) (kk : aw_W l g M R Z cells slots (hp g s n) (pc + 3) L (.int (s 39 13) :: st)) : aw_W l g M R Z cells slots (hp g s n) pc L (.ref (g_ad g 39) :: st) := aw_get (q0 := 39) (ci := 12) 13 hd rfl rfl kI12 (by decide) hl rfl kk
theorem pp_39_13 {index : Nat} {v : Int32} (hd : m_at M pc = some (.putfield index, 3)) (hl : Cond.fieldLink (m_y M).cls index (kT12 13).1 (kT12 13).2.1 (kT12 13).2.2.1 ∈ aw_tbl) (kk : aw_W l g M R Z cells slots (hp g (up s 39 13 v) n) (pc + 3) L st) : aw_W l g M R Z cells slots (hp g s n) pc L (.int v :: .ref (g_ad g 39) :: st) := aw_put (q0 := 39) (ci := 12) 13 (ty := .int) kY12 hd rfl rfl kI12 kO12 kN12 (by decide) hl rfl rfl rfl rfl (Nat.le_of_ble_eq_true rfl) rfl kk
/-- WaxReignModel.found -/
theorem pg_39_14 {index : Nat} (hd : m_at M pc = some (.getfield index, 3)) (hl : Cond.fieldLink (m_y M).cls index (kT12 14).1 (kT12 14).2.1 (kT12 14).2.2.1 ∈ aw_tbl) (kk : aw_W l g M R Z cells slots (hp g s n) (pc + 3) L (.int (s 39 14) :: st)) : aw_W l g M R Z cells slots (hp g s n) pc L (.ref (g_ad g 39) :: st) := aw_get (q0 := 39) (ci := 12) 14 hd rfl rfl kI12 (by decide) hl rfl kk
theorem pp_39_14 {index : Nat} {v : Int32} (hd : m_at M pc = some (.putfield index, 3)) (hl : Cond.fieldLink (m_y M).cls index (kT12 14).1 (kT12 14).2.1 (kT12 14).2.2.1 ∈ aw_tbl) (kk : aw_W l g M R Z cells slots (hp g (up s 39 14 v) n) (pc + 3) L st) : aw_W l g M R Z cells slots (hp g s n) pc L (.int v :: .ref (g_ad g 39) :: st) := aw_put (q0 := 39) (ci := 12) 14 (ty := .int) kY12 hd rfl rfl kI12 kO12 kN12 (by decide) hl rfl rfl rfl rfl (Nat.le_of_ble_eq_true rfl) rfl kk
/-- WaxReignModel.labels -/
theorem pg_39_15 {index : Nat} (hd : m_at M pc = some (.getfield index, 3)) (hl : Cond.fieldLink (m_y M).cls index (kT12 15).1 (kT12 15).2.1 (kT12 15).2.2.1 ∈ aw_tbl) (kk : aw_W l g M R Z cells slots (hp g s n) (pc + 3) L (.ref (g_ad g 108) :: st)) : aw_W l g M R Z cells slots (hp g s n) pc L (.ref (g_ad g 39) :: st) := aw_get (q0 := 39) (ci := 12) 15 hd rfl rfl kI12 (by decide) hl rfl kk
/-- WaxReignModel.allowed -/
theorem pg_39_16 {index : Nat} (hd : m_at M pc = some (.getfield index, 3)) (hl : Cond.fieldLink (m_y M).cls index (kT12 16).1 (kT12 16).2.1 (kT12 16).2.2.1 ∈ aw_tbl) (kk : aw_W l g M R Z cells slots (hp g s n) (pc + 3) L (.ref (g_ad g 104) :: st)) : aw_W l g M R Z cells slots (hp g s n) pc L (.ref (g_ad g 39) :: st) := aw_get (q0 := 39) (ci := 12) 16 hd rfl rfl kI12 (by decide) hl rfl kk
/-- WaxReignModel.hasFound -/
theorem pg_39_17 {index : Nat} (hd : m_at M pc = some (.getfield index, 3)) (hl : Cond.fieldLink (m_y M).cls index (kT12 17).1 (kT12 17).2.1 (kT12 17).2.2.1 ∈ aw_tbl) (kk : aw_W l g M R Z cells slots (hp g s n) (pc + 3) L (.int (s 39 17) :: st)) : aw_W l g M R Z cells slots (hp g s n) pc L (.ref (g_ad g 39) :: st) := aw_get (q0 := 39) (ci := 12) 17 hd rfl rfl kI12 (by decide) hl rfl kk
theorem pp_39_17 {index : Nat} {v : Int32} (hd : m_at M pc = some (.putfield index, 3)) (hl : Cond.fieldLink (m_y M).cls index (kT12 17).1 (kT12 17).2.1 (kT12 17).2.2.1 ∈ aw_tbl) (hv : v = 0 ∨ v = 1) (kk : aw_W l g M R Z cells slots (hp g (up s 39 17 v) n) (pc + 3) L st) : aw_W l g M R Z cells slots (hp g s n) pc L (.int v :: .ref (g_ad g 39) :: st) := aw_put (q0 := 39) (ci := 12) 17 (ty := .boolean) kY12 hd rfl rfl kI12 kO12 kN12 (by decide) hl rfl rfl (by rcases hv with rfl | rfl <;> rfl) (by rcases hv with rfl | rfl <;> rfl) (Nat.le_of_ble_eq_true rfl) rfl kk
/-- WaxReignModel.rule -/
theorem pg_39_18 {index : Nat} (hd : m_at M pc = some (.getfield index, 3)) (hl : Cond.fieldLink (m_y M).cls index (kT12 18).1 (kT12 18).2.1 (kT12 18).2.2.1 ∈ aw_tbl) (kk : aw_W l g M R Z cells slots (hp g s n) (pc + 3) L (.ref (g_ad g 44) :: st)) : aw_W l g M R Z cells slots (hp g s n) pc L (.ref (g_ad g 39) :: st) := aw_get (q0 := 39) (ci := 12) 18 hd rfl rfl kI12 (by decide) hl rfl kk
/-- WaxReignModel.ruleRead -/
theorem pg_39_19 {index : Nat} (hd : m_at M pc = some (.getfield index, 3)) (hl : Cond.fieldLink (m_y M).cls index (kT12 19).1 (kT12 19).2.1 (kT12 19).2.2.1 ∈ aw_tbl) (kk : aw_W l g M R Z cells slots (hp g s n) (pc + 3) L (.ref (g_ad g 45) :: st)) : aw_W l g M R Z cells slots (hp g s n) pc L (.ref (g_ad g 39) :: st) := aw_get (q0 := 39) (ci := 12) 19 hd rfl rfl kI12 (by decide) hl rfl kk
/-- WaxReignModel.told -/
theorem pg_39_20 {index : Nat} (hd : m_at M pc = some (.getfield index, 3)) (hl : Cond.fieldLink (m_y M).cls index (kT12 20).1 (kT12 20).2.1 (kT12 20).2.2.1 ∈ aw_tbl) (kk : aw_W l g M R Z cells slots (hp g s n) (pc + 3) L (.ref (g_ad g 46) :: st)) : aw_W l g M R Z cells slots (hp g s n) pc L (.ref (g_ad g 39) :: st) := aw_get (q0 := 39) (ci := 12) 20 hd rfl rfl kI12 (by decide) hl rfl kk
/-- WaxReignModel.toldRead -/
theorem pg_39_21 {index : Nat} (hd : m_at M pc = some (.getfield index, 3)) (hl : Cond.fieldLink (m_y M).cls index (kT12 21).1 (kT12 21).2.1 (kT12 21).2.2.1 ∈ aw_tbl) (kk : aw_W l g M R Z cells slots (hp g s n) (pc + 3) L (.ref (g_ad g 47) :: st)) : aw_W l g M R Z cells slots (hp g s n) pc L (.ref (g_ad g 39) :: st) := aw_get (q0 := 39) (ci := 12) 21 hd rfl rfl kI12 (by decide) hl rfl kk
/-- WaxReignModel.skill -/
theorem pg_39_22 {index : Nat} (hd : m_at M pc = some (.getfield index, 3)) (hl : Cond.fieldLink (m_y M).cls index (kT12 22).1 (kT12 22).2.1 (kT12 22).2.2.1 ∈ aw_tbl) (kk : aw_W l g M R Z cells slots (hp g s n) (pc + 3) L (.ref (g_ad g 48) :: st)) : aw_W l g M R Z cells slots (hp g s n) pc L (.ref (g_ad g 39) :: st) := aw_get (q0 := 39) (ci := 12) 22 hd rfl rfl kI12 (by decide) hl rfl kk
/-- WaxReignModel.skillRead -/
theorem pg_39_23 {index : Nat} (hd : m_at M pc = some (.getfield index, 3)) (hl : Cond.fieldLink (m_y M).cls index (kT12 23).1 (kT12 23).2.1 (kT12 23).2.2.1 ∈ aw_tbl) (kk : aw_W l g M R Z cells slots (hp g s n) (pc + 3) L (.ref (g_ad g 49) :: st)) : aw_W l g M R Z cells slots (hp g s n) pc L (.ref (g_ad g 39) :: st) := aw_get (q0 := 39) (ci := 12) 23 hd rfl rfl kI12 (by decide) hl rfl kk
/-- WaxReignModel.plan -/
theorem pg_39_24 {index : Nat} (hd : m_at M pc = some (.getfield index, 3)) (hl : Cond.fieldLink (m_y M).cls index (kT12 24).1 (kT12 24).2.1 (kT12 24).2.2.1 ∈ aw_tbl) (kk : aw_W l g M R Z cells slots (hp g s n) (pc + 3) L (.ref (g_ad g 50) :: st)) : aw_W l g M R Z cells slots (hp g s n) pc L (.ref (g_ad g 39) :: st) := aw_get (q0 := 39) (ci := 12) 24 hd rfl rfl kI12 (by decide) hl rfl kk
/-- WaxReignModel.planLong -/
theorem pg_39_25 {index : Nat} (hd : m_at M pc = some (.getfield index, 3)) (hl : Cond.fieldLink (m_y M).cls index (kT12 25).1 (kT12 25).2.1 (kT12 25).2.2.1 ∈ aw_tbl) (kk : aw_W l g M R Z cells slots (hp g s n) (pc + 3) L (.ref (g_ad g 51) :: st)) : aw_W l g M R Z cells slots (hp g s n) pc L (.ref (g_ad g 39) :: st) := aw_get (q0 := 39) (ci := 12) 25 hd rfl rfl kI12 (by decide) hl rfl kk
/-- WaxReignModel.things -/
theorem pg_39_26 {index : Nat} (hd : m_at M pc = some (.getfield index, 3)) (hl : Cond.fieldLink (m_y M).cls index (kT12 26).1 (kT12 26).2.1 (kT12 26).2.2.1 ∈ aw_tbl) (kk : aw_W l g M R Z cells slots (hp g s n) (pc + 3) L (.int (s 39 26) :: st)) : aw_W l g M R Z cells slots (hp g s n) pc L (.ref (g_ad g 39) :: st) := aw_get (q0 := 39) (ci := 12) 26 hd rfl rfl kI12 (by decide) hl rfl kk
theorem pp_39_26 {index : Nat} {v : Int32} (hd : m_at M pc = some (.putfield index, 3)) (hl : Cond.fieldLink (m_y M).cls index (kT12 26).1 (kT12 26).2.1 (kT12 26).2.2.1 ∈ aw_tbl) (kk : aw_W l g M R Z cells slots (hp g (up s 39 26 v) n) (pc + 3) L st) : aw_W l g M R Z cells slots (hp g s n) pc L (.int v :: .ref (g_ad g 39) :: st) := aw_put (q0 := 39) (ci := 12) 26 (ty := .int) kY12 hd rfl rfl kI12 kO12 kN12 (by decide) hl rfl rfl rfl rfl (Nat.le_of_ble_eq_true rfl) rfl kk
/-- WaxReignModel.rings -/
theorem pg_39_27 {index : Nat} (hd : m_at M pc = some (.getfield index, 3)) (hl : Cond.fieldLink (m_y M).cls index (kT12 27).1 (kT12 27).2.1 (kT12 27).2.2.1 ∈ aw_tbl) (kk : aw_W l g M R Z cells slots (hp g s n) (pc + 3) L (.int (s 39 27) :: st)) : aw_W l g M R Z cells slots (hp g s n) pc L (.ref (g_ad g 39) :: st) := aw_get (q0 := 39) (ci := 12) 27 hd rfl rfl kI12 (by decide) hl rfl kk
theorem pp_39_27 {index : Nat} {v : Int32} (hd : m_at M pc = some (.putfield index, 3)) (hl : Cond.fieldLink (m_y M).cls index (kT12 27).1 (kT12 27).2.1 (kT12 27).2.2.1 ∈ aw_tbl) (kk : aw_W l g M R Z cells slots (hp g (up s 39 27 v) n) (pc + 3) L st) : aw_W l g M R Z cells slots (hp g s n) pc L (.int v :: .ref (g_ad g 39) :: st) := aw_put (q0 := 39) (ci := 12) 27 (ty := .int) kY12 hd rfl rfl kI12 kO12 kN12 (by decide) hl rfl rfl rfl rfl (Nat.le_of_ble_eq_true rfl) rfl kk
/-- WaxReignModel.thingsRead -/
theorem pg_39_28 {index : Nat} (hd : m_at M pc = some (.getfield index, 3)) (hl : Cond.fieldLink (m_y M).cls index (kT12 28).1 (kT12 28).2.1 (kT12 28).2.2.1 ∈ aw_tbl) (kk : aw_W l g M R Z cells slots (hp g s n) (pc + 3) L (.int (s 39 28) :: st)) : aw_W l g M R Z cells slots (hp g s n) pc L (.ref (g_ad g 39) :: st) := aw_get (q0 := 39) (ci := 12) 28 hd rfl rfl kI12 (by decide) hl rfl kk
theorem pp_39_28 {index : Nat} {v : Int32} (hd : m_at M pc = some (.putfield index, 3)) (hl : Cond.fieldLink (m_y M).cls index (kT12 28).1 (kT12 28).2.1 (kT12 28).2.2.1 ∈ aw_tbl) (kk : aw_W l g M R Z cells slots (hp g (up s 39 28 v) n) (pc + 3) L st) : aw_W l g M R Z cells slots (hp g s n) pc L (.int v :: .ref (g_ad g 39) :: st) := aw_put (q0 := 39) (ci := 12) 28 (ty := .int) kY12 hd rfl rfl kI12 kO12 kN12 (by decide) hl rfl rfl rfl rfl (Nat.le_of_ble_eq_true rfl) rfl kk
/-- WaxReignModel.ringsRead -/
theorem pg_39_29 {index : Nat} (hd : m_at M pc = some (.getfield index, 3)) (hl : Cond.fieldLink (m_y M).cls index (kT12 29).1 (kT12 29).2.1 (kT12 29).2.2.1 ∈ aw_tbl) (kk : aw_W l g M R Z cells slots (hp g s n) (pc + 3) L (.int (s 39 29) :: st)) : aw_W l g M R Z cells slots (hp g s n) pc L (.ref (g_ad g 39) :: st) := aw_get (q0 := 39) (ci := 12) 29 hd rfl rfl kI12 (by decide) hl rfl kk
theorem pp_39_29 {index : Nat} {v : Int32} (hd : m_at M pc = some (.putfield index, 3)) (hl : Cond.fieldLink (m_y M).cls index (kT12 29).1 (kT12 29).2.1 (kT12 29).2.2.1 ∈ aw_tbl) (kk : aw_W l g M R Z cells slots (hp g (up s 39 29 v) n) (pc + 3) L st) : aw_W l g M R Z cells slots (hp g s n) pc L (.int v :: .ref (g_ad g 39) :: st) := aw_put (q0 := 39) (ci := 12) 29 (ty := .int) kY12 hd rfl rfl kI12 kO12 kN12 (by decide) hl rfl rfl rfl rfl (Nat.le_of_ble_eq_true rfl) rfl kk
/-- WaxReignModel.plans -/
theorem pg_39_30 {index : Nat} (hd : m_at M pc = some (.getfield index, 3)) (hl : Cond.fieldLink (m_y M).cls index (kT12 30).1 (kT12 30).2.1 (kT12 30).2.2.1 ∈ aw_tbl) (kk : aw_W l g M R Z cells slots (hp g s n) (pc + 3) L (.int (s 39 30) :: st)) : aw_W l g M R Z cells slots (hp g s n) pc L (.ref (g_ad g 39) :: st) := aw_get (q0 := 39) (ci := 12) 30 hd rfl rfl kI12 (by decide) hl rfl kk
theorem pp_39_30 {index : Nat} {v : Int32} (hd : m_at M pc = some (.putfield index, 3)) (hl : Cond.fieldLink (m_y M).cls index (kT12 30).1 (kT12 30).2.1 (kT12 30).2.2.1 ∈ aw_tbl) (kk : aw_W l g M R Z cells slots (hp g (up s 39 30 v) n) (pc + 3) L st) : aw_W l g M R Z cells slots (hp g s n) pc L (.int v :: .ref (g_ad g 39) :: st) := aw_put (q0 := 39) (ci := 12) 30 (ty := .int) kY12 hd rfl rfl kI12 kO12 kN12 (by decide) hl rfl rfl rfl rfl (Nat.le_of_ble_eq_true rfl) rfl kk
/-- WaxReignModel.hasRules -/
theorem pg_39_31 {index : Nat} (hd : m_at M pc = some (.getfield index, 3)) (hl : Cond.fieldLink (m_y M).cls index (kT12 31).1 (kT12 31).2.1 (kT12 31).2.2.1 ∈ aw_tbl) (kk : aw_W l g M R Z cells slots (hp g s n) (pc + 3) L (.int (s 39 31) :: st)) : aw_W l g M R Z cells slots (hp g s n) pc L (.ref (g_ad g 39) :: st) := aw_get (q0 := 39) (ci := 12) 31 hd rfl rfl kI12 (by decide) hl rfl kk
theorem pp_39_31 {index : Nat} {v : Int32} (hd : m_at M pc = some (.putfield index, 3)) (hl : Cond.fieldLink (m_y M).cls index (kT12 31).1 (kT12 31).2.1 (kT12 31).2.2.1 ∈ aw_tbl) (hv : v = 0 ∨ v = 1) (kk : aw_W l g M R Z cells slots (hp g (up s 39 31 v) n) (pc + 3) L st) : aw_W l g M R Z cells slots (hp g s n) pc L (.int v :: .ref (g_ad g 39) :: st) := aw_put (q0 := 39) (ci := 12) 31 (ty := .boolean) kY12 hd rfl rfl kI12 kO12 kN12 (by decide) hl rfl rfl (by rcases hv with rfl | rfl <;> rfl) (by rcases hv with rfl | rfl <;> rfl) (Nat.le_of_ble_eq_true rfl) rfl kk
/-- WaxReignModel.now -/
theorem pg_39_32 {index : Nat} (hd : m_at M pc = some (.getfield index, 3)) (hl : Cond.fieldLink (m_y M).cls index (kT12 32).1 (kT12 32).2.1 (kT12 32).2.2.1 ∈ aw_tbl) (kk : aw_W l g M R Z cells slots (hp g s n) (pc + 3) L (.ref (g_ad g 52) :: st)) : aw_W l g M R Z cells slots (hp g s n) pc L (.ref (g_ad g 39) :: st) := aw_get (q0 := 39) (ci := 12) 32 hd rfl rfl kI12 (by decide) hl rfl kk
/-- WaxReignModel.trial -/
theorem pg_39_33 {index : Nat} (hd : m_at M pc = some (.getfield index, 3)) (hl : Cond.fieldLink (m_y M).cls index (kT12 33).1 (kT12 33).2.1 (kT12 33).2.2.1 ∈ aw_tbl) (kk : aw_W l g M R Z cells slots (hp g s n) (pc + 3) L (.ref (g_ad g 53) :: st)) : aw_W l g M R Z cells slots (hp g s n) pc L (.ref (g_ad g 39) :: st) := aw_get (q0 := 39) (ci := 12) 33 hd rfl rfl kI12 (by decide) hl rfl kk
/-- WaxReignModel.law -/
theorem pg_39_34 {index : Nat} (hd : m_at M pc = some (.getfield index, 3)) (hl : Cond.fieldLink (m_y M).cls index (kT12 34).1 (kT12 34).2.1 (kT12 34).2.2.1 ∈ aw_tbl) (kk : aw_W l g M R Z cells slots (hp g s n) (pc + 3) L (.int (s 39 34) :: st)) : aw_W l g M R Z cells slots (hp g s n) pc L (.ref (g_ad g 39) :: st) := aw_get (q0 := 39) (ci := 12) 34 hd rfl rfl kI12 (by decide) hl rfl kk
theorem pp_39_34 {index : Nat} {v : Int32} (hd : m_at M pc = some (.putfield index, 3)) (hl : Cond.fieldLink (m_y M).cls index (kT12 34).1 (kT12 34).2.1 (kT12 34).2.2.1 ∈ aw_tbl) (kk : aw_W l g M R Z cells slots (hp g (up s 39 34 v) n) (pc + 3) L st) : aw_W l g M R Z cells slots (hp g s n) pc L (.int v :: .ref (g_ad g 39) :: st) := aw_put (q0 := 39) (ci := 12) 34 (ty := .int) kY12 hd rfl rfl kI12 kO12 kN12 (by decide) hl rfl rfl rfl rfl (Nat.le_of_ble_eq_true rfl) rfl kk
/-- WaxReignModel.knifed -/
theorem pg_39_35 {index : Nat} (hd : m_at M pc = some (.getfield index, 3)) (hl : Cond.fieldLink (m_y M).cls index (kT12 35).1 (kT12 35).2.1 (kT12 35).2.2.1 ∈ aw_tbl) (kk : aw_W l g M R Z cells slots (hp g s n) (pc + 3) L (.int (s 39 35) :: st)) : aw_W l g M R Z cells slots (hp g s n) pc L (.ref (g_ad g 39) :: st) := aw_get (q0 := 39) (ci := 12) 35 hd rfl rfl kI12 (by decide) hl rfl kk
theorem pp_39_35 {index : Nat} {v : Int32} (hd : m_at M pc = some (.putfield index, 3)) (hl : Cond.fieldLink (m_y M).cls index (kT12 35).1 (kT12 35).2.1 (kT12 35).2.2.1 ∈ aw_tbl) (kk : aw_W l g M R Z cells slots (hp g (up s 39 35 v) n) (pc + 3) L st) : aw_W l g M R Z cells slots (hp g s n) pc L (.int v :: .ref (g_ad g 39) :: st) := aw_put (q0 := 39) (ci := 12) 35 (ty := .int) kY12 hd rfl rfl kI12 kO12 kN12 (by decide) hl rfl rfl rfl rfl (Nat.le_of_ble_eq_true rfl) rfl kk
/-- WaxReignModel.memoKey -/
theorem pg_39_36 {index : Nat} (hd : m_at M pc = some (.getfield index, 3)) (hl : Cond.fieldLink (m_y M).cls index (kT12 36).1 (kT12 36).2.1 (kT12 36).2.2.1 ∈ aw_tbl) (kk : aw_W l g M R Z cells slots (hp g s n) (pc + 3) L (.ref (g_ad g 54) :: st)) : aw_W l g M R Z cells slots (hp g s n) pc L (.ref (g_ad g 39) :: st) := aw_get (q0 := 39) (ci := 12) 36 hd rfl rfl kI12 (by decide) hl rfl kk
/-- WaxReignModel.memoWorth -/
theorem pg_39_37 {index : Nat} (hd : m_at M pc = some (.getfield index, 3)) (hl : Cond.fieldLink (m_y M).cls index (kT12 37).1 (kT12 37).2.1 (kT12 37).2.2.1 ∈ aw_tbl) (kk : aw_W l g M R Z cells slots (hp g s n) (pc + 3) L (.ref (g_ad g 55) :: st)) : aw_W l g M R Z cells slots (hp g s n) pc L (.ref (g_ad g 39) :: st) := aw_get (q0 := 39) (ci := 12) 37 hd rfl rfl kI12 (by decide) hl rfl kk
/-- WaxReignModel.undoRow -/
theorem pg_39_38 {index : Nat} (hd : m_at M pc = some (.getfield index, 3)) (hl : Cond.fieldLink (m_y M).cls index (kT12 38).1 (kT12 38).2.1 (kT12 38).2.2.1 ∈ aw_tbl) (kk : aw_W l g M R Z cells slots (hp g s n) (pc + 3) L (.ref (g_ad g 56) :: st)) : aw_W l g M R Z cells slots (hp g s n) pc L (.ref (g_ad g 39) :: st) := aw_get (q0 := 39) (ci := 12) 38 hd rfl rfl kI12 (by decide) hl rfl kk
/-- WaxReignModel.acts -/
theorem pg_39_39 {index : Nat} (hd : m_at M pc = some (.getfield index, 3)) (hl : Cond.fieldLink (m_y M).cls index (kT12 39).1 (kT12 39).2.1 (kT12 39).2.2.1 ∈ aw_tbl) (kk : aw_W l g M R Z cells slots (hp g s n) (pc + 3) L (.int (s 39 39) :: st)) : aw_W l g M R Z cells slots (hp g s n) pc L (.ref (g_ad g 39) :: st) := aw_get (q0 := 39) (ci := 12) 39 hd rfl rfl kI12 (by decide) hl rfl kk
theorem pp_39_39 {index : Nat} {v : Int32} (hd : m_at M pc = some (.putfield index, 3)) (hl : Cond.fieldLink (m_y M).cls index (kT12 39).1 (kT12 39).2.1 (kT12 39).2.2.1 ∈ aw_tbl) (kk : aw_W l g M R Z cells slots (hp g (up s 39 39 v) n) (pc + 3) L st) : aw_W l g M R Z cells slots (hp g s n) pc L (.int v :: .ref (g_ad g 39) :: st) := aw_put (q0 := 39) (ci := 12) 39 (ty := .int) kY12 hd rfl rfl kI12 kO12 kN12 (by decide) hl rfl rfl rfl rfl (Nat.le_of_ble_eq_true rfl) rfl kk
/-- WaxReignModel.x -/
theorem pg_39_40 {index : Nat} (hd : m_at M pc = some (.getfield index, 3)) (hl : Cond.fieldLink (m_y M).cls index (kT12 40).1 (kT12 40).2.1 (kT12 40).2.2.1 ∈ aw_tbl) (kk : aw_W l g M R Z cells slots (hp g s n) (pc + 3) L (.long (n.1 39 40) :: st)) : aw_W l g M R Z cells slots (hp g s n) pc L (.ref (g_ad g 39) :: st) := aw_get (q0 := 39) (ci := 12) 40 hd rfl rfl kI12 (by decide) hl rfl kk
theorem pp_39_40 {index : Nat} {v : Int64} (hd : m_at M pc = some (.putfield index, 3)) (hl : Cond.fieldLink (m_y M).cls index (kT12 40).1 (kT12 40).2.1 (kT12 40).2.2.1 ∈ aw_tbl) (kk : aw_W l g M R Z cells slots (hp g s (upL n 39 40 v)) (pc + 3) L st) : aw_W l g M R Z cells slots (hp g s n) pc L (.long v :: .ref (g_ad g 39) :: st) := aw_put (q0 := 39) (ci := 12) 40 (ty := .long) kY12 hd rfl rfl kI12 kO12 kN12 (by decide) hl rfl rfl rfl rfl (Nat.le_of_ble_eq_true rfl) rfl kk
/-- WaxReignModel.costs -/
theorem pg_39_41 {index : Nat} (hd : m_at M pc = some (.getfield index, 3)) (hl : Cond.fieldLink (m_y M).cls index (kT12 41).1 (kT12 41).2.1 (kT12 41).2.2.1 ∈ aw_tbl) (kk : aw_W l g M R Z cells slots (hp g s n) (pc + 3) L (.ref (g_ad g 57) :: st)) : aw_W l g M R Z cells slots (hp g s n) pc L (.ref (g_ad g 39) :: st) := aw_get (q0 := 39) (ci := 12) 41 hd rfl rfl kI12 (by decide) hl rfl kk
/-- WaxReignModel.suns -/
theorem pg_39_42 {index : Nat} (hd : m_at M pc = some (.getfield index, 3)) (hl : Cond.fieldLink (m_y M).cls index (kT12 42).1 (kT12 42).2.1 (kT12 42).2.2.1 ∈ aw_tbl) (kk : aw_W l g M R Z cells slots (hp g s n) (pc + 3) L (.ref (g_ad g 58) :: st)) : aw_W l g M R Z cells slots (hp g s n) pc L (.ref (g_ad g 39) :: st) := aw_get (q0 := 39) (ci := 12) 42 hd rfl rfl kI12 (by decide) hl rfl kk
/-- WaxReignModel.melts -/
theorem pg_39_43 {index : Nat} (hd : m_at M pc = some (.getfield index, 3)) (hl : Cond.fieldLink (m_y M).cls index (kT12 43).1 (kT12 43).2.1 (kT12 43).2.2.1 ∈ aw_tbl) (kk : aw_W l g M R Z cells slots (hp g s n) (pc + 3) L (.ref (g_ad g 59) :: st)) : aw_W l g M R Z cells slots (hp g s n) pc L (.ref (g_ad g 39) :: st) := aw_get (q0 := 39) (ci := 12) 43 hd rfl rfl kI12 (by decide) hl rfl kk
/-- WaxReignModel.dealtRow -/
theorem pg_39_44 {index : Nat} (hd : m_at M pc = some (.getfield index, 3)) (hl : Cond.fieldLink (m_y M).cls index (kT12 44).1 (kT12 44).2.1 (kT12 44).2.2.1 ∈ aw_tbl) (kk : aw_W l g M R Z cells slots (hp g s n) (pc + 3) L (.int (s 39 44) :: st)) : aw_W l g M R Z cells slots (hp g s n) pc L (.ref (g_ad g 39) :: st) := aw_get (q0 := 39) (ci := 12) 44 hd rfl rfl kI12 (by decide) hl rfl kk
theorem pp_39_44 {index : Nat} {v : Int32} (hd : m_at M pc = some (.putfield index, 3)) (hl : Cond.fieldLink (m_y M).cls index (kT12 44).1 (kT12 44).2.1 (kT12 44).2.2.1 ∈ aw_tbl) (kk : aw_W l g M R Z cells slots (hp g (up s 39 44 v) n) (pc + 3) L st) : aw_W l g M R Z cells slots (hp g s n) pc L (.int v :: .ref (g_ad g 39) :: st) := aw_put (q0 := 39) (ci := 12) 44 (ty := .int) kY12 hd rfl rfl kI12 kO12 kN12 (by decide) hl rfl rfl rfl rfl (Nat.le_of_ble_eq_true rfl) rfl kk
/-- WaxReignModel.dealtWorth -/
theorem pg_39_45 {index : Nat} (hd : m_at M pc = some (.getfield index, 3)) (hl : Cond.fieldLink (m_y M).cls index (kT12 45).1 (kT12 45).2.1 (kT12 45).2.2.1 ∈ aw_tbl) (kk : aw_W l g M R Z cells slots (hp g s n) (pc + 3) L (.int (s 39 45) :: st)) : aw_W l g M R Z cells slots (hp g s n) pc L (.ref (g_ad g 39) :: st) := aw_get (q0 := 39) (ci := 12) 45 hd rfl rfl kI12 (by decide) hl rfl kk
theorem pp_39_45 {index : Nat} {v : Int32} (hd : m_at M pc = some (.putfield index, 3)) (hl : Cond.fieldLink (m_y M).cls index (kT12 45).1 (kT12 45).2.1 (kT12 45).2.2.1 ∈ aw_tbl) (kk : aw_W l g M R Z cells slots (hp g (up s 39 45 v) n) (pc + 3) L st) : aw_W l g M R Z cells slots (hp g s n) pc L (.int v :: .ref (g_ad g 39) :: st) := aw_put (q0 := 39) (ci := 12) 45 (ty := .int) kY12 hd rfl rfl kI12 kO12 kN12 (by decide) hl rfl rfl rfl rfl (Nat.le_of_ble_eq_true rfl) rfl kk
/-- WaxReignModel.note -/
theorem pg_39_46 {index : Nat} (hd : m_at M pc = some (.getfield index, 3)) (hl : Cond.fieldLink (m_y M).cls index (kT12 46).1 (kT12 46).2.1 (kT12 46).2.2.1 ∈ aw_tbl) (kk : aw_W l g M R Z cells slots (hp g s n) (pc + 3) L (.ref (g_ad g 60) :: st)) : aw_W l g M R Z cells slots (hp g s n) pc L (.ref (g_ad g 39) :: st) := aw_get (q0 := 39) (ci := 12) 46 hd rfl rfl kI12 (by decide) hl rfl kk
/-- WaxReignModel.notes -/
theorem pg_39_47 {index : Nat} (hd : m_at M pc = some (.getfield index, 3)) (hl : Cond.fieldLink (m_y M).cls index (kT12 47).1 (kT12 47).2.1 (kT12 47).2.2.1 ∈ aw_tbl) (kk : aw_W l g M R Z cells slots (hp g s n) (pc + 3) L (.int (s 39 47) :: st)) : aw_W l g M R Z cells slots (hp g s n) pc L (.ref (g_ad g 39) :: st) := aw_get (q0 := 39) (ci := 12) 47 hd rfl rfl kI12 (by decide) hl rfl kk
theorem pp_39_47 {index : Nat} {v : Int32} (hd : m_at M pc = some (.putfield index, 3)) (hl : Cond.fieldLink (m_y M).cls index (kT12 47).1 (kT12 47).2.1 (kT12 47).2.2.1 ∈ aw_tbl) (kk : aw_W l g M R Z cells slots (hp g (up s 39 47 v) n) (pc + 3) L st) : aw_W l g M R Z cells slots (hp g s n) pc L (.int v :: .ref (g_ad g 39) :: st) := aw_put (q0 := 39) (ci := 12) 47 (ty := .int) kY12 hd rfl rfl kI12 kO12 kN12 (by decide) hl rfl rfl rfl rfl (Nat.le_of_ble_eq_true rfl) rfl kk
/-- WaxReignModel.imageRow -/
theorem pg_39_48 {index : Nat} (hd : m_at M pc = some (.getfield index, 3)) (hl : Cond.fieldLink (m_y M).cls index (kT12 48).1 (kT12 48).2.1 (kT12 48).2.2.1 ∈ aw_tbl) (kk : aw_W l g M R Z cells slots (hp g s n) (pc + 3) L (.ref (g_ad g 61) :: st)) : aw_W l g M R Z cells slots (hp g s n) pc L (.ref (g_ad g 39) :: st) := aw_get (q0 := 39) (ci := 12) 48 hd rfl rfl kI12 (by decide) hl rfl kk
/-- WaxReignModel.hasImage -/
theorem pg_39_49 {index : Nat} (hd : m_at M pc = some (.getfield index, 3)) (hl : Cond.fieldLink (m_y M).cls index (kT12 49).1 (kT12 49).2.1 (kT12 49).2.2.1 ∈ aw_tbl) (kk : aw_W l g M R Z cells slots (hp g s n) (pc + 3) L (.int (s 39 49) :: st)) : aw_W l g M R Z cells slots (hp g s n) pc L (.ref (g_ad g 39) :: st) := aw_get (q0 := 39) (ci := 12) 49 hd rfl rfl kI12 (by decide) hl rfl kk
theorem pp_39_49 {index : Nat} {v : Int32} (hd : m_at M pc = some (.putfield index, 3)) (hl : Cond.fieldLink (m_y M).cls index (kT12 49).1 (kT12 49).2.1 (kT12 49).2.2.1 ∈ aw_tbl) (hv : v = 0 ∨ v = 1) (kk : aw_W l g M R Z cells slots (hp g (up s 39 49 v) n) (pc + 3) L st) : aw_W l g M R Z cells slots (hp g s n) pc L (.int v :: .ref (g_ad g 39) :: st) := aw_put (q0 := 39) (ci := 12) 49 (ty := .boolean) kY12 hd rfl rfl kI12 kO12 kN12 (by decide) hl rfl rfl (by rcases hv with rfl | rfl <;> rfl) (by rcases hv with rfl | rfl <;> rfl) (Nat.le_of_ble_eq_true rfl) rfl kk
/-- WaxReignModel.tape -/
theorem pl_40 {i : Int32} {j : Nat} (hd : m_at M pc = some (.baload, 1)) (hi : i = nI j) (hj : j < 240) (kk : aw_W l g M R Z cells slots (hp g s n) (pc + 1) L (.int (s 40 j) :: st)) : aw_W l g M R Z cells slots (hp g s n) pc L (.int i :: .ref (g_ad g 40) :: st) := by
  subst hi
  exact aw_bald (q0 := 40) hd rfl (vp_in_nI hj (by decide)) (by rw [nI_clamp (Nat.lt_trans hj (by decide))]; exact kk)
theorem pn_40 {v : Int32} (hd : m_at M pc = some (.arraylength, 1)) (hv : Int32.ofNat 240 = v) (kk : aw_W l g M R Z cells slots (hp g s n) (pc + 1) L (.int v :: st)) : aw_W l g M R Z cells slots (hp g s n) pc L (.ref (g_ad g 40) :: st) := aw_alen (q0 := 40) 2 hd (by decide) rfl hv kk
theorem ps_40 {i : Int32} {j : Nat} {x : Int32} (hd : m_at M pc = some (.bastore, 1)) (hi : i = nI j) (hj : j < 240) (kk : aw_W l g M R Z cells slots (hp g (up s 40 j (vp_nar .byte x)) n) (pc + 1) L st) : aw_W l g M R Z cells slots (hp g s n) pc L (.int x :: .int i :: .ref (g_ad g 40) :: st) := by
  subst hi
  exact aw_bast (q0 := 40) hd rfl (vp_in_nI hj (by decide)) rfl (by rw [nI_clamp (Nat.lt_trans hj (by decide))]; exact kk)
/-- WaxReignModel.texts -/
theorem pl_41 {i : Int32} {j : Nat} (hd : m_at M pc = some (.baload, 1)) (hi : i = nI j) (hj : j < 960) (kk : aw_W l g M R Z cells slots (hp g s n) (pc + 1) L (.int (s 41 j) :: st)) : aw_W l g M R Z cells slots (hp g s n) pc L (.int i :: .ref (g_ad g 41) :: st) := by
  subst hi
  exact aw_bald (q0 := 41) hd rfl (vp_in_nI hj (by decide)) (by rw [nI_clamp (Nat.lt_trans hj (by decide))]; exact kk)
theorem pn_41 {v : Int32} (hd : m_at M pc = some (.arraylength, 1)) (hv : Int32.ofNat 960 = v) (kk : aw_W l g M R Z cells slots (hp g s n) (pc + 1) L (.int v :: st)) : aw_W l g M R Z cells slots (hp g s n) pc L (.ref (g_ad g 41) :: st) := aw_alen (q0 := 41) 2 hd (by decide) rfl hv kk
theorem ps_41 {i : Int32} {j : Nat} {x : Int32} (hd : m_at M pc = some (.bastore, 1)) (hi : i = nI j) (hj : j < 960) (kk : aw_W l g M R Z cells slots (hp g (up s 41 j (vp_nar .byte x)) n) (pc + 1) L st) : aw_W l g M R Z cells slots (hp g s n) pc L (.int x :: .int i :: .ref (g_ad g 41) :: st) := by
  subst hi
  exact aw_bast (q0 := 41) hd rfl (vp_in_nI hj (by decide)) rfl (by rw [nI_clamp (Nat.lt_trans hj (by decide))]; exact kk)
/-- WaxReignModel.textLong -/
theorem pl_42 {i : Int32} {j : Nat} (hd : m_at M pc = some (.iaload, 1)) (hi : i = nI j) (hj : j < 4) (kk : aw_W l g M R Z cells slots (hp g s n) (pc + 1) L (.int (s 42 j) :: st)) : aw_W l g M R Z cells slots (hp g s n) pc L (.int i :: .ref (g_ad g 42) :: st) := by
  subst hi
  exact aw_iald (q0 := 42) hd rfl (vp_in_nI hj (by decide)) (by rw [nI_clamp (Nat.lt_trans hj (by decide))]; exact kk)
theorem pn_42 {v : Int32} (hd : m_at M pc = some (.arraylength, 1)) (hv : Int32.ofNat 4 = v) (kk : aw_W l g M R Z cells slots (hp g s n) (pc + 1) L (.int v :: st)) : aw_W l g M R Z cells slots (hp g s n) pc L (.ref (g_ad g 42) :: st) := aw_alen (q0 := 42) 0 hd (by decide) rfl hv kk
theorem ps_42 {i : Int32} {j : Nat} {x : Int32} (hd : m_at M pc = some (.iastore, 1)) (hi : i = nI j) (hj : j < 4) (kk : aw_W l g M R Z cells slots (hp g (up s 42 j x) n) (pc + 1) L st) : aw_W l g M R Z cells slots (hp g s n) pc L (.int x :: .int i :: .ref (g_ad g 42) :: st) := by
  subst hi
  exact aw_iast (q0 := 42) hd rfl (vp_in_nI hj (by decide)) rfl (by rw [nI_clamp (Nat.lt_trans hj (by decide))]; exact kk)
/-- WaxReignModel.letters -/
theorem pl_43 {i : Int32} {j : Nat} (hd : m_at M pc = some (.iaload, 1)) (hi : i = nI j) (hj : j < 128) (kk : aw_W l g M R Z cells slots (hp g s n) (pc + 1) L (.int (s 43 j) :: st)) : aw_W l g M R Z cells slots (hp g s n) pc L (.int i :: .ref (g_ad g 43) :: st) := by
  subst hi
  exact aw_iald (q0 := 43) hd rfl (vp_in_nI hj (by decide)) (by rw [nI_clamp (Nat.lt_trans hj (by decide))]; exact kk)
theorem pn_43 {v : Int32} (hd : m_at M pc = some (.arraylength, 1)) (hv : Int32.ofNat 128 = v) (kk : aw_W l g M R Z cells slots (hp g s n) (pc + 1) L (.int v :: st)) : aw_W l g M R Z cells slots (hp g s n) pc L (.ref (g_ad g 43) :: st) := aw_alen (q0 := 43) 0 hd (by decide) rfl hv kk
theorem ps_43 {i : Int32} {j : Nat} {x : Int32} (hd : m_at M pc = some (.iastore, 1)) (hi : i = nI j) (hj : j < 128) (kk : aw_W l g M R Z cells slots (hp g (up s 43 j x) n) (pc + 1) L st) : aw_W l g M R Z cells slots (hp g s n) pc L (.int x :: .int i :: .ref (g_ad g 43) :: st) := by
  subst hi
  exact aw_iast (q0 := 43) hd rfl (vp_in_nI hj (by decide)) rfl (by rw [nI_clamp (Nat.lt_trans hj (by decide))]; exact kk)
/-- WaxReignModel.rule -/
theorem pl_44 {i : Int32} {j : Nat} (hd : m_at M pc = some (.iaload, 1)) (hi : i = nI j) (hj : j < 3) (kk : aw_W l g M R Z cells slots (hp g s n) (pc + 1) L (.int (s 44 j) :: st)) : aw_W l g M R Z cells slots (hp g s n) pc L (.int i :: .ref (g_ad g 44) :: st) := by
  subst hi
  exact aw_iald (q0 := 44) hd rfl (vp_in_nI hj (by decide)) (by rw [nI_clamp (Nat.lt_trans hj (by decide))]; exact kk)
theorem pn_44 {v : Int32} (hd : m_at M pc = some (.arraylength, 1)) (hv : Int32.ofNat 3 = v) (kk : aw_W l g M R Z cells slots (hp g s n) (pc + 1) L (.int v :: st)) : aw_W l g M R Z cells slots (hp g s n) pc L (.ref (g_ad g 44) :: st) := aw_alen (q0 := 44) 0 hd (by decide) rfl hv kk
theorem ps_44 {i : Int32} {j : Nat} {x : Int32} (hd : m_at M pc = some (.iastore, 1)) (hi : i = nI j) (hj : j < 3) (kk : aw_W l g M R Z cells slots (hp g (up s 44 j x) n) (pc + 1) L st) : aw_W l g M R Z cells slots (hp g s n) pc L (.int x :: .int i :: .ref (g_ad g 44) :: st) := by
  subst hi
  exact aw_iast (q0 := 44) hd rfl (vp_in_nI hj (by decide)) rfl (by rw [nI_clamp (Nat.lt_trans hj (by decide))]; exact kk)
/-- WaxReignModel.ruleRead -/
theorem pl_45 {i : Int32} {j : Nat} (hd : m_at M pc = some (.iaload, 1)) (hi : i = nI j) (hj : j < 3) (kk : aw_W l g M R Z cells slots (hp g s n) (pc + 1) L (.int (s 45 j) :: st)) : aw_W l g M R Z cells slots (hp g s n) pc L (.int i :: .ref (g_ad g 45) :: st) := by
  subst hi
  exact aw_iald (q0 := 45) hd rfl (vp_in_nI hj (by decide)) (by rw [nI_clamp (Nat.lt_trans hj (by decide))]; exact kk)
theorem pn_45 {v : Int32} (hd : m_at M pc = some (.arraylength, 1)) (hv : Int32.ofNat 3 = v) (kk : aw_W l g M R Z cells slots (hp g s n) (pc + 1) L (.int v :: st)) : aw_W l g M R Z cells slots (hp g s n) pc L (.ref (g_ad g 45) :: st) := aw_alen (q0 := 45) 0 hd (by decide) rfl hv kk
theorem ps_45 {i : Int32} {j : Nat} {x : Int32} (hd : m_at M pc = some (.iastore, 1)) (hi : i = nI j) (hj : j < 3) (kk : aw_W l g M R Z cells slots (hp g (up s 45 j x) n) (pc + 1) L st) : aw_W l g M R Z cells slots (hp g s n) pc L (.int x :: .int i :: .ref (g_ad g 45) :: st) := by
  subst hi
  exact aw_iast (q0 := 45) hd rfl (vp_in_nI hj (by decide)) rfl (by rw [nI_clamp (Nat.lt_trans hj (by decide))]; exact kk)
/-- WaxReignModel.told -/
theorem pl_46 {i : Int32} {j : Nat} (hd : m_at M pc = some (.iaload, 1)) (hi : i = nI j) (hj : j < 35) (kk : aw_W l g M R Z cells slots (hp g s n) (pc + 1) L (.int (s 46 j) :: st)) : aw_W l g M R Z cells slots (hp g s n) pc L (.int i :: .ref (g_ad g 46) :: st) := by
  subst hi
  exact aw_iald (q0 := 46) hd rfl (vp_in_nI hj (by decide)) (by rw [nI_clamp (Nat.lt_trans hj (by decide))]; exact kk)
theorem pn_46 {v : Int32} (hd : m_at M pc = some (.arraylength, 1)) (hv : Int32.ofNat 35 = v) (kk : aw_W l g M R Z cells slots (hp g s n) (pc + 1) L (.int v :: st)) : aw_W l g M R Z cells slots (hp g s n) pc L (.ref (g_ad g 46) :: st) := aw_alen (q0 := 46) 0 hd (by decide) rfl hv kk
theorem ps_46 {i : Int32} {j : Nat} {x : Int32} (hd : m_at M pc = some (.iastore, 1)) (hi : i = nI j) (hj : j < 35) (kk : aw_W l g M R Z cells slots (hp g (up s 46 j x) n) (pc + 1) L st) : aw_W l g M R Z cells slots (hp g s n) pc L (.int x :: .int i :: .ref (g_ad g 46) :: st) := by
  subst hi
  exact aw_iast (q0 := 46) hd rfl (vp_in_nI hj (by decide)) rfl (by rw [nI_clamp (Nat.lt_trans hj (by decide))]; exact kk)
/-- WaxReignModel.toldRead -/
theorem pl_47 {i : Int32} {j : Nat} (hd : m_at M pc = some (.iaload, 1)) (hi : i = nI j) (hj : j < 35) (kk : aw_W l g M R Z cells slots (hp g s n) (pc + 1) L (.int (s 47 j) :: st)) : aw_W l g M R Z cells slots (hp g s n) pc L (.int i :: .ref (g_ad g 47) :: st) := by
  subst hi
  exact aw_iald (q0 := 47) hd rfl (vp_in_nI hj (by decide)) (by rw [nI_clamp (Nat.lt_trans hj (by decide))]; exact kk)
theorem pn_47 {v : Int32} (hd : m_at M pc = some (.arraylength, 1)) (hv : Int32.ofNat 35 = v) (kk : aw_W l g M R Z cells slots (hp g s n) (pc + 1) L (.int v :: st)) : aw_W l g M R Z cells slots (hp g s n) pc L (.ref (g_ad g 47) :: st) := aw_alen (q0 := 47) 0 hd (by decide) rfl hv kk
theorem ps_47 {i : Int32} {j : Nat} {x : Int32} (hd : m_at M pc = some (.iastore, 1)) (hi : i = nI j) (hj : j < 35) (kk : aw_W l g M R Z cells slots (hp g (up s 47 j x) n) (pc + 1) L st) : aw_W l g M R Z cells slots (hp g s n) pc L (.int x :: .int i :: .ref (g_ad g 47) :: st) := by
  subst hi
  exact aw_iast (q0 := 47) hd rfl (vp_in_nI hj (by decide)) rfl (by rw [nI_clamp (Nat.lt_trans hj (by decide))]; exact kk)
/-- WaxReignModel.skill -/
theorem pl_48 {i : Int32} {j : Nat} (hd : m_at M pc = some (.iaload, 1)) (hi : i = nI j) (hj : j < 5) (kk : aw_W l g M R Z cells slots (hp g s n) (pc + 1) L (.int (s 48 j) :: st)) : aw_W l g M R Z cells slots (hp g s n) pc L (.int i :: .ref (g_ad g 48) :: st) := by
  subst hi
  exact aw_iald (q0 := 48) hd rfl (vp_in_nI hj (by decide)) (by rw [nI_clamp (Nat.lt_trans hj (by decide))]; exact kk)
theorem pn_48 {v : Int32} (hd : m_at M pc = some (.arraylength, 1)) (hv : Int32.ofNat 5 = v) (kk : aw_W l g M R Z cells slots (hp g s n) (pc + 1) L (.int v :: st)) : aw_W l g M R Z cells slots (hp g s n) pc L (.ref (g_ad g 48) :: st) := aw_alen (q0 := 48) 0 hd (by decide) rfl hv kk
theorem ps_48 {i : Int32} {j : Nat} {x : Int32} (hd : m_at M pc = some (.iastore, 1)) (hi : i = nI j) (hj : j < 5) (kk : aw_W l g M R Z cells slots (hp g (up s 48 j x) n) (pc + 1) L st) : aw_W l g M R Z cells slots (hp g s n) pc L (.int x :: .int i :: .ref (g_ad g 48) :: st) := by
  subst hi
  exact aw_iast (q0 := 48) hd rfl (vp_in_nI hj (by decide)) rfl (by rw [nI_clamp (Nat.lt_trans hj (by decide))]; exact kk)
/-- WaxReignModel.skillRead -/
theorem pl_49 {i : Int32} {j : Nat} (hd : m_at M pc = some (.iaload, 1)) (hi : i = nI j) (hj : j < 5) (kk : aw_W l g M R Z cells slots (hp g s n) (pc + 1) L (.int (s 49 j) :: st)) : aw_W l g M R Z cells slots (hp g s n) pc L (.int i :: .ref (g_ad g 49) :: st) := by
  subst hi
  exact aw_iald (q0 := 49) hd rfl (vp_in_nI hj (by decide)) (by rw [nI_clamp (Nat.lt_trans hj (by decide))]; exact kk)
theorem pn_49 {v : Int32} (hd : m_at M pc = some (.arraylength, 1)) (hv : Int32.ofNat 5 = v) (kk : aw_W l g M R Z cells slots (hp g s n) (pc + 1) L (.int v :: st)) : aw_W l g M R Z cells slots (hp g s n) pc L (.ref (g_ad g 49) :: st) := aw_alen (q0 := 49) 0 hd (by decide) rfl hv kk
theorem ps_49 {i : Int32} {j : Nat} {x : Int32} (hd : m_at M pc = some (.iastore, 1)) (hi : i = nI j) (hj : j < 5) (kk : aw_W l g M R Z cells slots (hp g (up s 49 j x) n) (pc + 1) L st) : aw_W l g M R Z cells slots (hp g s n) pc L (.int x :: .int i :: .ref (g_ad g 49) :: st) := by
  subst hi
  exact aw_iast (q0 := 49) hd rfl (vp_in_nI hj (by decide)) rfl (by rw [nI_clamp (Nat.lt_trans hj (by decide))]; exact kk)
/-- WaxReignModel.plan -/
theorem pl_50 {i : Int32} {j : Nat} (hd : m_at M pc = some (.iaload, 1)) (hi : i = nI j) (hj : j < 240) (kk : aw_W l g M R Z cells slots (hp g s n) (pc + 1) L (.int (s 50 j) :: st)) : aw_W l g M R Z cells slots (hp g s n) pc L (.int i :: .ref (g_ad g 50) :: st) := by
  subst hi
  exact aw_iald (q0 := 50) hd rfl (vp_in_nI hj (by decide)) (by rw [nI_clamp (Nat.lt_trans hj (by decide))]; exact kk)
theorem pn_50 {v : Int32} (hd : m_at M pc = some (.arraylength, 1)) (hv : Int32.ofNat 240 = v) (kk : aw_W l g M R Z cells slots (hp g s n) (pc + 1) L (.int v :: st)) : aw_W l g M R Z cells slots (hp g s n) pc L (.ref (g_ad g 50) :: st) := aw_alen (q0 := 50) 0 hd (by decide) rfl hv kk
theorem ps_50 {i : Int32} {j : Nat} {x : Int32} (hd : m_at M pc = some (.iastore, 1)) (hi : i = nI j) (hj : j < 240) (kk : aw_W l g M R Z cells slots (hp g (up s 50 j x) n) (pc + 1) L st) : aw_W l g M R Z cells slots (hp g s n) pc L (.int x :: .int i :: .ref (g_ad g 50) :: st) := by
  subst hi
  exact aw_iast (q0 := 50) hd rfl (vp_in_nI hj (by decide)) rfl (by rw [nI_clamp (Nat.lt_trans hj (by decide))]; exact kk)
/-- WaxReignModel.planLong -/
theorem pl_51 {i : Int32} {j : Nat} (hd : m_at M pc = some (.iaload, 1)) (hi : i = nI j) (hj : j < 5) (kk : aw_W l g M R Z cells slots (hp g s n) (pc + 1) L (.int (s 51 j) :: st)) : aw_W l g M R Z cells slots (hp g s n) pc L (.int i :: .ref (g_ad g 51) :: st) := by
  subst hi
  exact aw_iald (q0 := 51) hd rfl (vp_in_nI hj (by decide)) (by rw [nI_clamp (Nat.lt_trans hj (by decide))]; exact kk)
theorem pn_51 {v : Int32} (hd : m_at M pc = some (.arraylength, 1)) (hv : Int32.ofNat 5 = v) (kk : aw_W l g M R Z cells slots (hp g s n) (pc + 1) L (.int v :: st)) : aw_W l g M R Z cells slots (hp g s n) pc L (.ref (g_ad g 51) :: st) := aw_alen (q0 := 51) 0 hd (by decide) rfl hv kk
theorem ps_51 {i : Int32} {j : Nat} {x : Int32} (hd : m_at M pc = some (.iastore, 1)) (hi : i = nI j) (hj : j < 5) (kk : aw_W l g M R Z cells slots (hp g (up s 51 j x) n) (pc + 1) L st) : aw_W l g M R Z cells slots (hp g s n) pc L (.int x :: .int i :: .ref (g_ad g 51) :: st) := by
  subst hi
  exact aw_iast (q0 := 51) hd rfl (vp_in_nI hj (by decide)) rfl (by rw [nI_clamp (Nat.lt_trans hj (by decide))]; exact kk)
/-- WaxReignModel.now -/
theorem pl_52 {i : Int32} {j : Nat} (hd : m_at M pc = some (.iaload, 1)) (hi : i = nI j) (hj : j < 217) (kk : aw_W l g M R Z cells slots (hp g s n) (pc + 1) L (.int (s 52 j) :: st)) : aw_W l g M R Z cells slots (hp g s n) pc L (.int i :: .ref (g_ad g 52) :: st) := by
  subst hi
  exact aw_iald (q0 := 52) hd rfl (vp_in_nI hj (by decide)) (by rw [nI_clamp (Nat.lt_trans hj (by decide))]; exact kk)
theorem pn_52 {v : Int32} (hd : m_at M pc = some (.arraylength, 1)) (hv : Int32.ofNat 217 = v) (kk : aw_W l g M R Z cells slots (hp g s n) (pc + 1) L (.int v :: st)) : aw_W l g M R Z cells slots (hp g s n) pc L (.ref (g_ad g 52) :: st) := aw_alen (q0 := 52) 0 hd (by decide) rfl hv kk
theorem ps_52 {i : Int32} {j : Nat} {x : Int32} (hd : m_at M pc = some (.iastore, 1)) (hi : i = nI j) (hj : j < 217) (kk : aw_W l g M R Z cells slots (hp g (up s 52 j x) n) (pc + 1) L st) : aw_W l g M R Z cells slots (hp g s n) pc L (.int x :: .int i :: .ref (g_ad g 52) :: st) := by
  subst hi
  exact aw_iast (q0 := 52) hd rfl (vp_in_nI hj (by decide)) rfl (by rw [nI_clamp (Nat.lt_trans hj (by decide))]; exact kk)
/-- WaxReignModel.trial -/
theorem pl_53 {i : Int32} {j : Nat} (hd : m_at M pc = some (.iaload, 1)) (hi : i = nI j) (hj : j < 217) (kk : aw_W l g M R Z cells slots (hp g s n) (pc + 1) L (.int (s 53 j) :: st)) : aw_W l g M R Z cells slots (hp g s n) pc L (.int i :: .ref (g_ad g 53) :: st) := by
  subst hi
  exact aw_iald (q0 := 53) hd rfl (vp_in_nI hj (by decide)) (by rw [nI_clamp (Nat.lt_trans hj (by decide))]; exact kk)
theorem pn_53 {v : Int32} (hd : m_at M pc = some (.arraylength, 1)) (hv : Int32.ofNat 217 = v) (kk : aw_W l g M R Z cells slots (hp g s n) (pc + 1) L (.int v :: st)) : aw_W l g M R Z cells slots (hp g s n) pc L (.ref (g_ad g 53) :: st) := aw_alen (q0 := 53) 0 hd (by decide) rfl hv kk
theorem ps_53 {i : Int32} {j : Nat} {x : Int32} (hd : m_at M pc = some (.iastore, 1)) (hi : i = nI j) (hj : j < 217) (kk : aw_W l g M R Z cells slots (hp g (up s 53 j x) n) (pc + 1) L st) : aw_W l g M R Z cells slots (hp g s n) pc L (.int x :: .int i :: .ref (g_ad g 53) :: st) := by
  subst hi
  exact aw_iast (q0 := 53) hd rfl (vp_in_nI hj (by decide)) rfl (by rw [nI_clamp (Nat.lt_trans hj (by decide))]; exact kk)
/-- WaxReignModel.memoKey -/
theorem pl_54 {i : Int32} {j : Nat} (hd : m_at M pc = some (.laload, 1)) (hi : i = nI j) (hj : j < 8191) (kk : aw_W l g M R Z cells slots (hp g s n) (pc + 1) L (.long (n.1 54 j) :: st)) : aw_W l g M R Z cells slots (hp g s n) pc L (.int i :: .ref (g_ad g 54) :: st) := by
  subst hi
  exact aw_lald (q0 := 54) hd rfl (vp_in_nI hj (by decide)) (by rw [nI_clamp (Nat.lt_trans hj (by decide))]; exact kk)
theorem pn_54 {v : Int32} (hd : m_at M pc = some (.arraylength, 1)) (hv : Int32.ofNat 8191 = v) (kk : aw_W l g M R Z cells slots (hp g s n) (pc + 1) L (.int v :: st)) : aw_W l g M R Z cells slots (hp g s n) pc L (.ref (g_ad g 54) :: st) := aw_alen (q0 := 54) 1 hd (by decide) rfl hv kk
theorem ps_54 {i : Int32} {j : Nat} {x : Int64} (hd : m_at M pc = some (.lastore, 1)) (hi : i = nI j) (hj : j < 8191) (kk : aw_W l g M R Z cells slots (hp g s (upL n 54 j x)) (pc + 1) L st) : aw_W l g M R Z cells slots (hp g s n) pc L (.long x :: .int i :: .ref (g_ad g 54) :: st) := by
  subst hi
  exact aw_last (q0 := 54) hd rfl (vp_in_nI hj (by decide)) rfl (by rw [nI_clamp (Nat.lt_trans hj (by decide))]; exact kk)
/-- WaxReignModel.memoWorth -/
theorem pl_55 {i : Int32} {j : Nat} (hd : m_at M pc = some (.iaload, 1)) (hi : i = nI j) (hj : j < 8191) (kk : aw_W l g M R Z cells slots (hp g s n) (pc + 1) L (.int (s 55 j) :: st)) : aw_W l g M R Z cells slots (hp g s n) pc L (.int i :: .ref (g_ad g 55) :: st) := by
  subst hi
  exact aw_iald (q0 := 55) hd rfl (vp_in_nI hj (by decide)) (by rw [nI_clamp (Nat.lt_trans hj (by decide))]; exact kk)
theorem pn_55 {v : Int32} (hd : m_at M pc = some (.arraylength, 1)) (hv : Int32.ofNat 8191 = v) (kk : aw_W l g M R Z cells slots (hp g s n) (pc + 1) L (.int v :: st)) : aw_W l g M R Z cells slots (hp g s n) pc L (.ref (g_ad g 55) :: st) := aw_alen (q0 := 55) 0 hd (by decide) rfl hv kk
theorem ps_55 {i : Int32} {j : Nat} {x : Int32} (hd : m_at M pc = some (.iastore, 1)) (hi : i = nI j) (hj : j < 8191) (kk : aw_W l g M R Z cells slots (hp g (up s 55 j x) n) (pc + 1) L st) : aw_W l g M R Z cells slots (hp g s n) pc L (.int x :: .int i :: .ref (g_ad g 55) :: st) := by
  subst hi
  exact aw_iast (q0 := 55) hd rfl (vp_in_nI hj (by decide)) rfl (by rw [nI_clamp (Nat.lt_trans hj (by decide))]; exact kk)
/-- WaxReignModel.undoRow -/
theorem pl_56 {i : Int32} {j : Nat} (hd : m_at M pc = some (.iaload, 1)) (hi : i = nI j) (hj : j < 8680) (kk : aw_W l g M R Z cells slots (hp g s n) (pc + 1) L (.int (s 56 j) :: st)) : aw_W l g M R Z cells slots (hp g s n) pc L (.int i :: .ref (g_ad g 56) :: st) := by
  subst hi
  exact aw_iald (q0 := 56) hd rfl (vp_in_nI hj (by decide)) (by rw [nI_clamp (Nat.lt_trans hj (by decide))]; exact kk)
theorem pn_56 {v : Int32} (hd : m_at M pc = some (.arraylength, 1)) (hv : Int32.ofNat 8680 = v) (kk : aw_W l g M R Z cells slots (hp g s n) (pc + 1) L (.int v :: st)) : aw_W l g M R Z cells slots (hp g s n) pc L (.ref (g_ad g 56) :: st) := aw_alen (q0 := 56) 0 hd (by decide) rfl hv kk
theorem ps_56 {i : Int32} {j : Nat} {x : Int32} (hd : m_at M pc = some (.iastore, 1)) (hi : i = nI j) (hj : j < 8680) (kk : aw_W l g M R Z cells slots (hp g (up s 56 j x) n) (pc + 1) L st) : aw_W l g M R Z cells slots (hp g s n) pc L (.int x :: .int i :: .ref (g_ad g 56) :: st) := by
  subst hi
  exact aw_iast (q0 := 56) hd rfl (vp_in_nI hj (by decide)) rfl (by rw [nI_clamp (Nat.lt_trans hj (by decide))]; exact kk)
/-- WaxReignModel.costs -/
theorem pl_57 {i : Int32} {j : Nat} (hd : m_at M pc = some (.iaload, 1)) (hi : i = nI j) (hj : j < 7) (kk : aw_W l g M R Z cells slots (hp g s n) (pc + 1) L (.int (s 57 j) :: st)) : aw_W l g M R Z cells slots (hp g s n) pc L (.int i :: .ref (g_ad g 57) :: st) := by
  subst hi
  exact aw_iald (q0 := 57) hd rfl (vp_in_nI hj (by decide)) (by rw [nI_clamp (Nat.lt_trans hj (by decide))]; exact kk)
theorem pn_57 {v : Int32} (hd : m_at M pc = some (.arraylength, 1)) (hv : Int32.ofNat 7 = v) (kk : aw_W l g M R Z cells slots (hp g s n) (pc + 1) L (.int v :: st)) : aw_W l g M R Z cells slots (hp g s n) pc L (.ref (g_ad g 57) :: st) := aw_alen (q0 := 57) 0 hd (by decide) rfl hv kk
theorem ps_57 {i : Int32} {j : Nat} {x : Int32} (hd : m_at M pc = some (.iastore, 1)) (hi : i = nI j) (hj : j < 7) (kk : aw_W l g M R Z cells slots (hp g (up s 57 j x) n) (pc + 1) L st) : aw_W l g M R Z cells slots (hp g s n) pc L (.int x :: .int i :: .ref (g_ad g 57) :: st) := by
  subst hi
  exact aw_iast (q0 := 57) hd rfl (vp_in_nI hj (by decide)) rfl (by rw [nI_clamp (Nat.lt_trans hj (by decide))]; exact kk)
/-- WaxReignModel.suns -/
theorem pl_58 {i : Int32} {j : Nat} (hd : m_at M pc = some (.iaload, 1)) (hi : i = nI j) (hj : j < 7) (kk : aw_W l g M R Z cells slots (hp g s n) (pc + 1) L (.int (s 58 j) :: st)) : aw_W l g M R Z cells slots (hp g s n) pc L (.int i :: .ref (g_ad g 58) :: st) := by
  subst hi
  exact aw_iald (q0 := 58) hd rfl (vp_in_nI hj (by decide)) (by rw [nI_clamp (Nat.lt_trans hj (by decide))]; exact kk)
theorem pn_58 {v : Int32} (hd : m_at M pc = some (.arraylength, 1)) (hv : Int32.ofNat 7 = v) (kk : aw_W l g M R Z cells slots (hp g s n) (pc + 1) L (.int v :: st)) : aw_W l g M R Z cells slots (hp g s n) pc L (.ref (g_ad g 58) :: st) := aw_alen (q0 := 58) 0 hd (by decide) rfl hv kk
theorem ps_58 {i : Int32} {j : Nat} {x : Int32} (hd : m_at M pc = some (.iastore, 1)) (hi : i = nI j) (hj : j < 7) (kk : aw_W l g M R Z cells slots (hp g (up s 58 j x) n) (pc + 1) L st) : aw_W l g M R Z cells slots (hp g s n) pc L (.int x :: .int i :: .ref (g_ad g 58) :: st) := by
  subst hi
  exact aw_iast (q0 := 58) hd rfl (vp_in_nI hj (by decide)) rfl (by rw [nI_clamp (Nat.lt_trans hj (by decide))]; exact kk)
/-- WaxReignModel.melts -/
theorem pl_59 {i : Int32} {j : Nat} (hd : m_at M pc = some (.iaload, 1)) (hi : i = nI j) (hj : j < 70) (kk : aw_W l g M R Z cells slots (hp g s n) (pc + 1) L (.int (s 59 j) :: st)) : aw_W l g M R Z cells slots (hp g s n) pc L (.int i :: .ref (g_ad g 59) :: st) := by
  subst hi
  exact aw_iald (q0 := 59) hd rfl (vp_in_nI hj (by decide)) (by rw [nI_clamp (Nat.lt_trans hj (by decide))]; exact kk)
theorem pn_59 {v : Int32} (hd : m_at M pc = some (.arraylength, 1)) (hv : Int32.ofNat 70 = v) (kk : aw_W l g M R Z cells slots (hp g s n) (pc + 1) L (.int v :: st)) : aw_W l g M R Z cells slots (hp g s n) pc L (.ref (g_ad g 59) :: st) := aw_alen (q0 := 59) 0 hd (by decide) rfl hv kk
theorem ps_59 {i : Int32} {j : Nat} {x : Int32} (hd : m_at M pc = some (.iastore, 1)) (hi : i = nI j) (hj : j < 70) (kk : aw_W l g M R Z cells slots (hp g (up s 59 j x) n) (pc + 1) L st) : aw_W l g M R Z cells slots (hp g s n) pc L (.int x :: .int i :: .ref (g_ad g 59) :: st) := by
  subst hi
  exact aw_iast (q0 := 59) hd rfl (vp_in_nI hj (by decide)) rfl (by rw [nI_clamp (Nat.lt_trans hj (by decide))]; exact kk)
/-- WaxReignModel.note -/
theorem pl_60 {i : Int32} {j : Nat} (hd : m_at M pc = some (.iaload, 1)) (hi : i = nI j) (hj : j < 30) (kk : aw_W l g M R Z cells slots (hp g s n) (pc + 1) L (.int (s 60 j) :: st)) : aw_W l g M R Z cells slots (hp g s n) pc L (.int i :: .ref (g_ad g 60) :: st) := by
  subst hi
  exact aw_iald (q0 := 60) hd rfl (vp_in_nI hj (by decide)) (by rw [nI_clamp (Nat.lt_trans hj (by decide))]; exact kk)
theorem pn_60 {v : Int32} (hd : m_at M pc = some (.arraylength, 1)) (hv : Int32.ofNat 30 = v) (kk : aw_W l g M R Z cells slots (hp g s n) (pc + 1) L (.int v :: st)) : aw_W l g M R Z cells slots (hp g s n) pc L (.ref (g_ad g 60) :: st) := aw_alen (q0 := 60) 0 hd (by decide) rfl hv kk
theorem ps_60 {i : Int32} {j : Nat} {x : Int32} (hd : m_at M pc = some (.iastore, 1)) (hi : i = nI j) (hj : j < 30) (kk : aw_W l g M R Z cells slots (hp g (up s 60 j x) n) (pc + 1) L st) : aw_W l g M R Z cells slots (hp g s n) pc L (.int x :: .int i :: .ref (g_ad g 60) :: st) := by
  subst hi
  exact aw_iast (q0 := 60) hd rfl (vp_in_nI hj (by decide)) rfl (by rw [nI_clamp (Nat.lt_trans hj (by decide))]; exact kk)
/-- WaxReignModel.imageRow -/
theorem pl_61 {i : Int32} {j : Nat} (hd : m_at M pc = some (.iaload, 1)) (hi : i = nI j) (hj : j < 217) (kk : aw_W l g M R Z cells slots (hp g s n) (pc + 1) L (.int (s 61 j) :: st)) : aw_W l g M R Z cells slots (hp g s n) pc L (.int i :: .ref (g_ad g 61) :: st) := by
  subst hi
  exact aw_iald (q0 := 61) hd rfl (vp_in_nI hj (by decide)) (by rw [nI_clamp (Nat.lt_trans hj (by decide))]; exact kk)
theorem pn_61 {v : Int32} (hd : m_at M pc = some (.arraylength, 1)) (hv : Int32.ofNat 217 = v) (kk : aw_W l g M R Z cells slots (hp g s n) (pc + 1) L (.int v :: st)) : aw_W l g M R Z cells slots (hp g s n) pc L (.ref (g_ad g 61) :: st) := aw_alen (q0 := 61) 0 hd (by decide) rfl hv kk
theorem ps_61 {i : Int32} {j : Nat} {x : Int32} (hd : m_at M pc = some (.iastore, 1)) (hi : i = nI j) (hj : j < 217) (kk : aw_W l g M R Z cells slots (hp g (up s 61 j x) n) (pc + 1) L st) : aw_W l g M R Z cells slots (hp g s n) pc L (.int x :: .int i :: .ref (g_ad g 61) :: st) := by
  subst hi
  exact aw_iast (q0 := 61) hd rfl (vp_in_nI hj (by decide)) rfl (by rw [nI_clamp (Nat.lt_trans hj (by decide))]; exact kk)
/-- out -/
theorem pl_62 {i : Int32} {j : Nat} (hd : m_at M pc = some (.laload, 1)) (hi : i = nI j) (hj : j < 1) (kk : aw_W l g M R Z cells slots (hp g s n) (pc + 1) L (.long (n.1 62 j) :: st)) : aw_W l g M R Z cells slots (hp g s n) pc L (.int i :: .ref (g_ad g 62) :: st) := by
  subst hi
  exact aw_lald (q0 := 62) hd rfl (vp_in_nI hj (by decide)) (by rw [nI_clamp (Nat.lt_trans hj (by decide))]; exact kk)
theorem pn_62 {v : Int32} (hd : m_at M pc = some (.arraylength, 1)) (hv : Int32.ofNat 1 = v) (kk : aw_W l g M R Z cells slots (hp g s n) (pc + 1) L (.int v :: st)) : aw_W l g M R Z cells slots (hp g s n) pc L (.ref (g_ad g 62) :: st) := aw_alen (q0 := 62) 1 hd (by decide) rfl hv kk
theorem ps_62 {i : Int32} {j : Nat} {x : Int64} (hd : m_at M pc = some (.lastore, 1)) (hi : i = nI j) (hj : j < 1) (kk : aw_W l g M R Z cells slots (hp g s (upL n 62 j x)) (pc + 1) L st) : aw_W l g M R Z cells slots (hp g s n) pc L (.long x :: .int i :: .ref (g_ad g 62) :: st) := by
  subst hi
  exact aw_last (q0 := 62) hd rfl (vp_in_nI hj (by decide)) rfl (by rw [nI_clamp (Nat.lt_trans hj (by decide))]; exact kk)
end AwWorld
