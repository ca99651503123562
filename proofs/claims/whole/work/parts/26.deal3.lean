def pcn (D : Nat) : Nat := cl (bitc (nI D))
theorem bd_bit : ∀ D, D < 128 → bitc (nI D) = nI (pcn D) ∧ pcn D ≤ 7 := by decide +kernel
theorem bd_bit6 : ∀ D, D < 127 → pcn D ≤ 6 := by decide +kernel
theorem bd_or : ∀ D, D < 128 → ∀ t, t < 7 → nI D ||| (1 <<< (nI t &&& 31)) = nI (D ||| 2 ^ t) ∧ D ||| 2 ^ t < 128 := by decide +kernel
theorem bd_tb : ∀ D, D < 128 → ∀ t, t < 7 → tb (nI D) t = D.testBit t := by decide +kernel
theorem bd_free : ∀ T, T ≤ 7 → ∀ D, D < 2 ^ T → pcn D < T → ∃ t, t < T ∧ D.testBit t = false := by decide +kernel
theorem bd_inc : ∀ D, D < 128 → ∀ t, t < 7 → D.testBit t = false → pcn (D ||| 2 ^ t) = pcn D + 1 := by decide +kernel
theorem bd_lt : ∀ T, T ≤ 7 → ∀ D, D < 2 ^ T → ∀ t, t < T → D ||| 2 ^ t < 2 ^ T := by decide +kernel
theorem bd_127 : ∀ T, T ≤ 7 → ∀ D, D < 2 ^ T → pcn D < T → D < 127 := by decide +kernel
theorem mx_on {a : Option Nat} (h : ∀ b, a = some b → b < 7) : (if (0 : Int32) < on a then on a else 0) = nI (a.getD 0) := by
  cases a with
  | none => rfl
  | some b =>
    have hb := h b rfl
    show (if (0 : Int32) < nI b then nI b else 0) = nI b
    by_cases hb0 : b = 0
    · subst hb0; rfl
    · exact if_pos (nI_lt (a := 0) (by omega) (by omega))
theorem on_none {a : Option Nat} (h : ∀ b, a = some b → b < 7) (e : on a = -1) : a = none := by
  cases a with
  | none => rfl
  | some b =>
    have hb := h b rfl
    have h38 : nI b = -1 := e
    have hp : 0 ≤ nI b := nI_pos' (by omega)
    rw [h38] at hp
    exact absurd hp (by decide)
theorem on_some {a : Option Nat} (e : ¬ on a = -1) : ∃ b, a = some b := by
  cases a with
  | none => exact absurd rfl e
  | some b => exact ⟨b, rfl⟩
def pB (P lp : Nat → Int32) (D t : Nat) : Int32 := P (t * 7 + pcn D) + lp (D ||| 2 ^ t)
def nxF (P lp : Nat → Int32) (D t : Nat) (a : Option Nat) : Option Nat := if D.testBit t = true then a else match a with
  | none => some t
  | some b => if pB P lp D b ≤ pB P lp D t then some b else some t
def nx (P lp : Nat → Int32) (T D : Nat) : Nat := (fd (nxF P lp D) 0 T none).getD 0
theorem nx_inv (P lp : Nat → Int32) (D : Nat) : ∀ (d i : Nat) (a : Option Nat), (∀ b, a = some b → b < i ∧ D.testBit b = false) → ∀ b, fd (nxF P lp D) i d a = some b → b < i + d ∧ D.testBit b = false
  | 0, i, a, h, b, e => h b e
  | d + 1, i, a, h, b, e => by
    have := nx_inv P lp D d (i + 1) (nxF P lp D i a) (fun b hb => by
      unfold nxF at hb
      split at hb
      · obtain ⟨h1, h2⟩ := h b hb; exact ⟨by omega, h2⟩
      · rename_i hn
        have hf : D.testBit i = false := by simpa using hn
        split at hb
        · obtain rfl : i = b := Option.some.inj hb; exact ⟨by omega, hf⟩
        · rename_i c
          split at hb
          · obtain rfl : c = b := Option.some.inj hb; obtain ⟨h1, h2⟩ := h c rfl; exact ⟨by omega, h2⟩
          · obtain rfl : i = b := Option.some.inj hb; exact ⟨by omega, hf⟩) b e
    exact ⟨by omega, this.2⟩
theorem nx_lt {P lp : Nat → Int32} {T D : Nat} (hT : 0 < T) : nx P lp T D < T := by
  unfold nx
  cases h : fd (nxF P lp D) 0 T none with
  | none => exact hT
  | some b => have := (nx_inv P lp D T 0 none (fun b hb => by cases hb) b h).1; simpa using this
theorem nx_some (P lp : Nat → Int32) (D : Nat) : ∀ (d i : Nat) (a : Option Nat), (a.isSome = true ∨ ∃ t, i ≤ t ∧ t < i + d ∧ D.testBit t = false) → (fd (nxF P lp D) i d a).isSome = true
  | 0, i, a, h => by
    rcases h with h | ⟨t, h1, h2, -⟩
    · exact h
    · omega
  | d + 1, i, a, h => by
    refine nx_some P lp D d (i + 1) _ ?_
    rcases h with h | ⟨t, h1, h2, h3⟩
    · left
      unfold nxF
      split
      · exact h
      · split
        · rfl
        · split <;> rfl
    · by_cases e : t = i
      · subst e
        left
        unfold nxF
        rw [if_neg (by rw [h3]; decide)]
        split
        · rfl
        · split <;> rfl
      · exact Or.inr ⟨t, by omega, by omega, h3⟩
theorem nx_free {P lp : Nat → Int32} {T D : Nat} (h : ∃ t, t < T ∧ D.testBit t = false) : D.testBit (nx P lp T D) = false := by
  obtain ⟨t, h1, h2⟩ := h
  have hs := nx_some P lp D T 0 none (Or.inr ⟨t, by omega, by omega, h2⟩)
  unfold nx
  cases e : fd (nxF P lp D) 0 T none with
  | none => rw [e] at hs; cases hs
  | some b => exact (nx_inv P lp D T 0 none (fun b hb => by cases hb) b e).2

set_option maxRecDepth 4000 in
theorem c_X3_priceBehind {l : Launch} {g : ag_G} {s : am_S} {n : am_N} {D t : Nat} (hD : D < 127) (ht : t < 7) : aw_F l g mi_X3_priceBehind 1 [.ref (g_ad g 27), .int (nI D), .int (nI t)] (hp g s n) (.int (pB (s 30) (s 31) D t)) (hp g s n) := by
  refine aw_F_of mo_X3_priceBehind (by decide) (Nat.le_of_ble_eq_true rfl) ?_
  refine aw_aload_n rfl rfl ?_
  refine pg_27_3 rfl kl_X3_20 ?_
  refine aw_iload_n rfl rfl ?_
  refine aw_bipush (v := 7) rfl (by decide) ?_
  refine aw_imul rfl ?_
  refine aw_iload_n rfl rfl ?_
  refine aw_iS rfl cw_X3_86 (c_bitCount) rfl rfl (Nat.le_of_ble_eq_true rfl) (by decide) (by decide) (by decide) (by decide) ?_
  refine aw_iadd rfl ?_
  refine pl_30 rfl (by rw [(bd_bit D (by omega)).1, show nI t * 7 = nI (t * 7) from pk_mul t 7]; exact nI_add _ _) (by have := bd_bit6 D hD; omega) ?_
  refine aw_aload_n rfl rfl ?_
  refine pg_27_4 rfl kl_X3_23 ?_
  refine aw_iload_n rfl rfl ?_
  refine aw_iconst (v := 1) rfl (by decide) ?_
  refine aw_iload_n rfl rfl ?_
  refine aw_ishl rfl ?_
  refine aw_ior rfl ?_
  refine pl_31 rfl (bd_or D (by omega) t ht).1 (bd_or D (by omega) t ht).2 ?_
  refine aw_iadd rfl ?_
  exact aw_fi rfl rfl rfl rfl
set_option maxRecDepth 4000 in
theorem c_X3_nextInRow {l : Launch} {g : ag_G} {s : am_S} {n : am_N} {D : Nat} (hD : D < 127) {T Q : Nat} (hb : kb s T Q) : aw_F l g mi_X3_nextInRow 2 [.ref (g_ad g 27), .int (nI D)] (hp g s n) (.int (nI (nx (s 30) (s 31) T D))) (hp g s n) := by
  have hT := hb.2.1
  unfold nx
  generalize hXX : fd (nxF (s 30) (s 31) D) 0 T none = X
  have loop : ∀ (d i : Nat) (a : Option Nat), i + d = T → (∀ b, a = some b → b < 7) → fd (nxF (s 30) (s 31) D) i d a = X → aw_W l g mi_X3_nextInRow (aw_rm 2 0 0) (aw_Z g (fun r w => r = some (.int (nI (X.getD 0))) ∧ w = hp g s n) 0 0) 0 0 (hp g s n) 4 [some (.ref (g_ad g 27)), some (.int (nI D)), some (.int (on a)), some (.int (nI i))] [] := by
    intro d
    induction d with
    | zero =>
      intro i a hi ha hX
      refine aw_iload_n rfl rfl ?_
      refine aw_aload_n rfl rfl ?_
      refine pg_27_0 rfl kl_X3_26 ?_
      refine pg_15_6 rfl kl_X3_48 ?_
      refine aw_icmp_ge (tgt := 63) rfl (by decide) (fun h12 => ?_) (fun h12 => absurd (by rw [hb.1]; exact nI_le (by omega) (by omega)) h12)
      refine aw_iconst (v := 0) rfl (by decide) ?_
      refine aw_iload_n rfl rfl ?_
      refine aw_mmax rfl km_X3_91 (aw_t2 168 rfl rfl) (aw_t1 18 rfl rfl) (aw_t2 169 rfl rfl) (by decide) (Nat.le_of_ble_eq_true rfl) (by decide) (by decide) ?_
      exact aw_fi rfl rfl (by have hx : a = X := hX; rw [← hx]; exact mx_on ha) rfl
    | succ d ih =>
      intro i a hi ha hX
      refine aw_iload_n rfl rfl ?_
      refine aw_aload_n rfl rfl ?_
      refine pg_27_0 rfl kl_X3_26 ?_
      refine pg_15_6 rfl kl_X3_48 ?_
      refine aw_icmp_ge (tgt := 63) rfl (by decide) (fun h12 => absurd h12 (by rw [hb.1]; exact nI_ge (by omega) (by omega))) (fun h12 => ?_)
      refine aw_iload_n rfl rfl ?_
      refine aw_iload_n rfl rfl ?_
      refine aw_ishr rfl ?_
      refine aw_iconst (v := 1) rfl (by decide) ?_
      refine aw_iand rfl ?_
      refine aw_if_ne (tgt := 27) rfl (by decide) (fun h20 => ?_) (fun h20 => ?_)
      · have htb : D.testBit i = true := by (rw [← bd_tb D (by omega) i (by omega)]; exact tb_t h20)
        refine aw_iconst (v := 0) rfl (by decide) ?_
        refine aw_istore rfl (by decide) ?_
        refine aw_iload rfl rfl ?_
        refine aw_if_eq (tgt := 57) rfl (by decide) (fun h32 => ?_) (fun h32 => absurd h32 (by decide))
        refine aw_inc1 rfl rfl (by decide) ?_
        refine aw_goto (tgt := 4) rfl (by decide) ?_
        first
          | (refine aw_wk (ih (i + 1) a (by omega) ha ?_) (And.intro rfl (And.intro rfl (And.intro rfl (And.intro (congrArg (fun x => some (Value.int x)) (nI_1 i)) True.intro)))); exact Eq.trans (congrArg (fd _ (i + 1) d) (by unfold nxF; rw [if_pos htb])) hX)
          | (refine aw_wk (ih (i + 1) (some b) (by omega) ha ?_) (And.intro rfl (And.intro rfl (And.intro rfl (And.intro (congrArg (fun x => some (Value.int x)) (nI_1 i)) True.intro)))); exact Eq.trans (congrArg (fd _ (i + 1) d) (by unfold nxF; rw [if_neg (by rw [htb]; decide)]; exact (if_pos h52).symm)) hX)
          | (refine aw_wk (ih (i + 1) (some i) (by omega) (fun b hb => by cases hb; omega) ?_) (And.intro rfl (And.intro rfl (And.intro rfl (And.intro (congrArg (fun x => some (Value.int x)) (nI_1 i)) True.intro)))); exact Eq.trans (congrArg (fd _ (i + 1) d) (by unfold nxF; rw [if_neg (by rw [htb]; decide)]; first | exact (if_neg h52).symm | (rw [on_none ha h37]))) hX)
      · have htb : D.testBit i = false := by (rw [← bd_tb D (by omega) i (by omega)]; exact tb_f (by simpa using h20))
        refine aw_iconst (v := 1) rfl (by decide) ?_
        refine aw_goto (tgt := 28) rfl (by decide) ?_
        refine aw_istore rfl (by decide) ?_
        refine aw_iload rfl rfl ?_
        refine aw_if_eq (tgt := 57) rfl (by decide) (fun h32 => absurd h32 (by decide)) (fun h32 => ?_)
        refine aw_iload_n rfl rfl ?_
        refine aw_iconst (v := -1) rfl (by decide) ?_
        refine aw_icmp_eq (tgt := 55) rfl (by decide) (fun h37 => ?_) (fun h37 => ?_)
        · skip
          refine aw_iload_n rfl rfl ?_
          refine aw_istore_n rfl (by decide) ?_
          refine aw_inc1 rfl rfl (by decide) ?_
          refine aw_goto (tgt := 4) rfl (by decide) ?_
          first
            | (refine aw_wk (ih (i + 1) a (by omega) ha ?_) (And.intro rfl (And.intro rfl (And.intro rfl (And.intro (congrArg (fun x => some (Value.int x)) (nI_1 i)) True.intro)))); exact Eq.trans (congrArg (fd _ (i + 1) d) (by unfold nxF; rw [if_pos htb])) hX)
            | (refine aw_wk (ih (i + 1) (some b) (by omega) ha ?_) (And.intro rfl (And.intro rfl (And.intro rfl (And.intro (congrArg (fun x => some (Value.int x)) (nI_1 i)) True.intro)))); exact Eq.trans (congrArg (fd _ (i + 1) d) (by unfold nxF; rw [if_neg (by rw [htb]; decide)]; exact (if_pos h52).symm)) hX)
            | (refine aw_wk (ih (i + 1) (some i) (by omega) (fun b hb => by cases hb; omega) ?_) (And.intro rfl (And.intro rfl (And.intro rfl (And.intro (congrArg (fun x => some (Value.int x)) (nI_1 i)) True.intro)))); exact Eq.trans (congrArg (fd _ (i + 1) d) (by unfold nxF; rw [if_neg (by rw [htb]; decide)]; first | exact (if_neg h52).symm | (rw [on_none ha h37]))) hX)
        · obtain ⟨b, rfl⟩ := on_some h37
          refine aw_aload_n rfl rfl ?_
          refine aw_iload_n rfl rfl ?_
          refine aw_iload_n rfl rfl ?_
          refine aw_iV (q0 := 27) (ci := 3) rfl cw_X3_80 rfl rfl rfl (c_X3_priceBehind hD (by omega)) rfl rfl (Nat.le_of_ble_eq_true rfl) (by decide) (by decide) (by decide) (by decide) ?_
          refine aw_aload_n rfl rfl ?_
          refine aw_iload_n rfl rfl ?_
          refine aw_iload_n rfl rfl ?_
          refine aw_iV (q0 := 27) (ci := 3) rfl cw_X3_80 rfl rfl rfl (c_X3_priceBehind hD (ha b rfl)) rfl rfl (Nat.le_of_ble_eq_true rfl) (by decide) (by decide) (by decide) (by decide) ?_
          refine aw_icmp_ge (tgt := 57) rfl (by decide) (fun h52 => ?_) (fun h52 => ?_)
          · refine aw_inc1 rfl rfl (by decide) ?_
            refine aw_goto (tgt := 4) rfl (by decide) ?_
            first
              | (refine aw_wk (ih (i + 1) a (by omega) ha ?_) (And.intro rfl (And.intro rfl (And.intro rfl (And.intro (congrArg (fun x => some (Value.int x)) (nI_1 i)) True.intro)))); exact Eq.trans (congrArg (fd _ (i + 1) d) (by unfold nxF; rw [if_pos htb])) hX)
              | (refine aw_wk (ih (i + 1) (some b) (by omega) ha ?_) (And.intro rfl (And.intro rfl (And.intro rfl (And.intro (congrArg (fun x => some (Value.int x)) (nI_1 i)) True.intro)))); exact Eq.trans (congrArg (fd _ (i + 1) d) (by unfold nxF; rw [if_neg (by rw [htb]; decide)]; exact (if_pos h52).symm)) hX)
              | (refine aw_wk (ih (i + 1) (some i) (by omega) (fun b hb => by cases hb; omega) ?_) (And.intro rfl (And.intro rfl (And.intro rfl (And.intro (congrArg (fun x => some (Value.int x)) (nI_1 i)) True.intro)))); exact Eq.trans (congrArg (fd _ (i + 1) d) (by unfold nxF; rw [if_neg (by rw [htb]; decide)]; first | exact (if_neg h52).symm | (rw [on_none ha h37]))) hX)
          · skip
            refine aw_iload_n rfl rfl ?_
            refine aw_istore_n rfl (by decide) ?_
            refine aw_inc1 rfl rfl (by decide) ?_
            refine aw_goto (tgt := 4) rfl (by decide) ?_
            first
              | (refine aw_wk (ih (i + 1) a (by omega) ha ?_) (And.intro rfl (And.intro rfl (And.intro rfl (And.intro (congrArg (fun x => some (Value.int x)) (nI_1 i)) True.intro)))); exact Eq.trans (congrArg (fd _ (i + 1) d) (by unfold nxF; rw [if_pos htb])) hX)
              | (refine aw_wk (ih (i + 1) (some b) (by omega) ha ?_) (And.intro rfl (And.intro rfl (And.intro rfl (And.intro (congrArg (fun x => some (Value.int x)) (nI_1 i)) True.intro)))); exact Eq.trans (congrArg (fd _ (i + 1) d) (by unfold nxF; rw [if_neg (by rw [htb]; decide)]; exact (if_pos h52).symm)) hX)
              | (refine aw_wk (ih (i + 1) (some i) (by omega) (fun b hb => by cases hb; omega) ?_) (And.intro rfl (And.intro rfl (And.intro rfl (And.intro (congrArg (fun x => some (Value.int x)) (nI_1 i)) True.intro)))); exact Eq.trans (congrArg (fd _ (i + 1) d) (by unfold nxF; rw [if_neg (by rw [htb]; decide)]; first | exact (if_neg h52).symm | (rw [on_none ha h37]))) hX)
  refine aw_F_of mo_X3_nextInRow (by decide) (Nat.le_of_ble_eq_true rfl) ?_
  refine aw_iconst (v := -1) rfl (by decide) ?_
  refine aw_istore_n rfl (by decide) ?_
  refine aw_iconst (v := 0) rfl (by decide) ?_
  refine aw_istore_n rfl (by decide) ?_
  refine aw_wk (loop T 0 none (by omega) (fun b hb => by cases hb) hXX) (And.intro rfl (And.intro rfl (And.intro rfl (And.intro rfl True.intro))))
def lrF (P lp : Nat → Int32) (T : Nat) (a : Int32 × Nat) : Int32 × Nat := (a.1 * 10 + nI (nx P lp T a.2), a.2 ||| 2 ^ nx P lp T a.2)
def lr (P lp : Nat → Int32) (T : Nat) : Int32 := (fd (fun _ a => lrF P lp T a) 0 T (0, 0)).1
set_option maxRecDepth 4000 in
theorem c_X3_leastRow {l : Launch} {g : ag_G} {s : am_S} {n : am_N} {T Q : Nat} (hb : kb s T Q) : aw_F l g mi_X3_leastRow 3 [.ref (g_ad g 27)] (hp g s n) (.int (lr (s 30) (s 31) T)) (hp g s n) := by
  have hT := hb.2.1
  unfold lr
  generalize hXX : fd (fun _ a => lrF (s 30) (s 31) T a) 0 T (0, 0) = X
  have loop : ∀ (d i : Nat) (a : Int32 × Nat), i + d = T → a.2 < 2 ^ T → pcn a.2 = i → fd (fun _ a => lrF (s 30) (s 31) T a) i d a = X → aw_W l g mi_X3_leastRow (aw_rm 3 0 0) (aw_Z g (fun r w => r = some (.int X.1) ∧ w = hp g s n) 0 0) 0 0 (hp g s n) 6 [some (.ref (g_ad g 27)), some (.int a.1), some (.int (nI a.2)), some (.int (nI i))] [] := by
    intro d
    induction d with
    | zero =>
      intro i a hi ha hpc hX
      refine aw_iload_n rfl rfl ?_
      refine aw_aload_n rfl rfl ?_
      refine pg_27_0 rfl kl_X3_26 ?_
      refine pg_15_6 rfl kl_X3_48 ?_
      refine aw_icmp_ge (tgt := 45) rfl (by decide) (fun h14 => ?_) (fun h14 => absurd (by rw [hb.1]; exact nI_le (by omega) (by omega)) h14)
      refine aw_iload_n rfl rfl ?_
      exact aw_fi rfl rfl (by have hx : a = X := hX; rw [hx]) rfl
    | succ d ih =>
      intro i a hi ha hpc hX
      have h2T : 2 ^ T ≤ 128 := Nat.le_trans (Nat.pow_le_pow_right (by decide) hT) (by decide)
      have hfr := bd_free T hT a.2 ha (by omega)
      have h127 : a.2 < 127 := bd_127 T hT a.2 ha (by omega)
      have hnl := nx_lt (P := s 30) (lp := s 31) (T := T) (D := a.2) (by omega)
      have hnf := nx_free (P := s 30) (lp := s 31) hfr
      refine aw_iload_n rfl rfl ?_
      refine aw_aload_n rfl rfl ?_
      refine pg_27_0 rfl kl_X3_26 ?_
      refine pg_15_6 rfl kl_X3_48 ?_
      refine aw_icmp_ge (tgt := 45) rfl (by decide) (fun h14 => absurd h14 (by rw [hb.1]; exact nI_ge (by omega) (by omega))) (fun h14 => ?_)
      refine aw_aload_n rfl rfl ?_
      refine aw_iload_n rfl rfl ?_
      refine aw_iV (q0 := 27) (ci := 3) rfl cw_X3_77 rfl rfl rfl (c_X3_nextInRow h127 hb) rfl rfl (Nat.le_of_ble_eq_true rfl) (by decide) (by decide) (by decide) (by decide) ?_
      refine aw_istore rfl (by decide) ?_
      refine aw_iload_n rfl rfl ?_
      refine aw_bipush (v := 10) rfl (by decide) ?_
      refine aw_imul rfl ?_
      refine aw_iload rfl rfl ?_
      refine aw_iadd rfl ?_
      refine aw_istore_n rfl (by decide) ?_
      refine aw_iload_n rfl rfl ?_
      refine aw_iconst (v := 1) rfl (by decide) ?_
      refine aw_iload rfl rfl ?_
      refine aw_ishl rfl ?_
      refine aw_ior rfl ?_
      refine aw_istore_n rfl (by decide) ?_
      refine aw_inc1 rfl rfl (by decide) ?_
      refine aw_goto (tgt := 6) rfl (by decide) ?_
      refine aw_wk (ih (i + 1) (lrF (s 30) (s 31) T a) (by omega) (bd_lt T hT a.2 ha _ hnl) ?_ hX) (And.intro rfl (And.intro rfl (And.intro (congrArg (fun x => some (Value.int x)) (bd_or a.2 (by omega) _ (by omega)).1) (And.intro (congrArg (fun x => some (Value.int x)) (nI_1 i)) True.intro))))
      show pcn (a.2 ||| 2 ^ nx (s 30) (s 31) T a.2) = i + 1
      rw [bd_inc a.2 (by omega) _ (by omega) hnf, hpc]
  refine aw_F_of mo_X3_leastRow (by decide) (Nat.le_of_ble_eq_true rfl) ?_
  refine aw_iconst (v := 0) rfl (by decide) ?_
  refine aw_istore_n rfl (by decide) ?_
  refine aw_iconst (v := 0) rfl (by decide) ?_
  refine aw_istore_n rfl (by decide) ?_
  refine aw_iconst (v := 0) rfl (by decide) ?_
  refine aw_istore_n rfl (by decide) ?_
  refine aw_wk (loop T 0 (0, 0) (by omega) Nat.one_le_two_pow (by decide +kernel) hXX) (And.intro rfl (And.intro rfl (And.intro rfl (And.intro rfl True.intro))))
