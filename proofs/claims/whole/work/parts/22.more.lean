def rsG : List (Bool × Int32) → Int32 → Int32 → Int32
  | [], i, c => if i = -1 then c else -1
  | (b, v) :: r, i, c => if b = true then (if c = i then v else rsG r i (c + 1)) else rsG r i c
theorem rsG_t {b : Bool} {v i c : Int32} {r : List (Bool × Int32)} (hb : b = true) (h : ¬ c = i) : rsG ((b, v) :: r) i c = rsG r i (c + 1) := by simp only [rsG]; rw [if_pos hb, if_neg h]
theorem rsG_f {b : Bool} {v i c : Int32} {r : List (Bool × Int32)} (hb : b = false) : rsG ((b, v) :: r) i c = rsG r i c := by simp only [rsG]; rw [if_neg (by rw [hb]; decide)]
theorem rsG_e {b : Bool} {v i c : Int32} {r : List (Bool × Int32)} (hb : b = true) (h : c = i) : rsG ((b, v) :: r) i c = v := by simp only [rsG]; rw [if_pos hb, if_pos h]
def aRest (s : am_S) (a b j : Nat) (i : Int32) : Int32 := rsG [(rS s a b j 0 0, 0), (rS s a b j 0 1, 1), (rS s a b j 1 0, 10), (rS s a b j 1 1, 11)] i 0
set_option maxRecDepth 4000 in
theorem c_X2_resting {l : Launch} {g : ag_G} {s : am_S} {n : am_N} {a b j : Nat} {i : Int32} (ha : a < 5) (hb : b < 5) (hj : j < 7) : aw_F l g mi_X2_resting 3 [.ref (g_ad g 37), .int (nI a), .int (nI b), .int (nI j), .int i] (hp g s n) (.int (aRest s a b j i)) (hp g s n) := by
  unfold aRest
  generalize hXX : rsG [(rS s a b j 0 0, 0), (rS s a b j 0 1, 1), (rS s a b j 1 0, 10), (rS s a b j 1 1, 11)] i 0 = X
  have ex : ∀ c : Int32, rsG [] i c = X → aw_W l g mi_X2_resting (aw_rm 3 0 0) (aw_Z g (fun r w => r = some (.int X) ∧ w = hp g s n) 0 0) 0 0 (hp g s n) 66 [some (.ref (g_ad g 37)), some (.int (nI a)), some (.int (nI b)), some (.int (nI j)), some (.int i), some (.int c)] [] := by
    intro c hX
    refine aw_iload rfl rfl ?_
    refine aw_iconst (v := -1) rfl (by decide) ?_
    refine aw_icmp_ne (tgt := 77) rfl (by decide) (fun h69 => ?_) (fun h69 => ?_)
    · refine aw_iconst (v := -1) rfl (by decide) ?_
      exact aw_fi rfl rfl (by rw [← hX]; simp only [rsG]; first | rw [if_neg h69] | rw [if_pos (by simpa using h69)]) rfl
    · refine aw_iload rfl rfl ?_
      refine aw_goto (tgt := 78) rfl (by decide) ?_
      exact aw_fi rfl rfl (by rw [← hX]; simp only [rsG]; first | rw [if_neg h69] | rw [if_pos (by simpa using h69)]) rfl
  have l3 : ∀ c : Int32, rsG [(rS s a b j 1 1, 11)] i c = X → aw_W l g mi_X2_resting (aw_rm 3 0 0) (aw_Z g (fun r w => r = some (.int X) ∧ w = hp g s n) 0 0) 0 0 (hp g s n) 15 [some (.ref (g_ad g 37)), some (.int (nI a)), some (.int (nI b)), some (.int (nI j)), some (.int i), some (.int c), some (.int 1), some (.int 1)] [] := by
    intro c hX
    refine aw_iload rfl rfl ?_
    refine aw_iconst (v := 1) rfl (by decide) ?_
    refine aw_icmp_gt (tgt := 60) rfl (by decide) (fun h18 => absurd h18 (by decide)) (fun h18 => ?_)
    refine aw_aload_n rfl rfl ?_
    refine aw_iload_n rfl rfl ?_
    refine aw_iload_n rfl rfl ?_
    refine aw_iload_n rfl rfl ?_
    refine aw_iload rfl rfl ?_
    refine aw_iload rfl rfl ?_
    refine aw_iV (q0 := 37) (ci := 2) rfl cw_X2_39 rfl rfl rfl (c_X2_rest ha hb hj) rfl rfl (Nat.le_of_ble_eq_true rfl) (by decide) (by decide) (by decide) (by decide) ?_
    refine aw_if_eq (tgt := 54) rfl (by decide) (fun h32 => ?_) (fun h32 => ?_)
    · refine aw_inc1 rfl rfl (by decide) ?_
      refine aw_goto (tgt := 15) rfl (by decide) ?_
      refine aw_iload rfl rfl ?_
      refine aw_iconst (v := 1) rfl (by decide) ?_
      refine aw_icmp_gt (tgt := 60) rfl (by decide) (fun h18 => ?_) (fun h18 => absurd h18 (by decide))
      refine aw_inc1 rfl rfl (by decide) ?_
      refine aw_goto (tgt := 6) rfl (by decide) ?_
      refine aw_iload rfl rfl ?_
      refine aw_iconst (v := 1) rfl (by decide) ?_
      refine aw_icmp_gt (tgt := 66) rfl (by decide) (fun h9 => ?_) (fun h9 => absurd h9 (by decide))
      first | (exact aw_wk (ex (c + 1) (Eq.trans (rsG_t (bB_n0.mp h32) h39).symm hX)) (And.intro rfl (And.intro rfl (And.intro rfl (And.intro rfl (And.intro rfl (And.intro rfl True.intro))))))) | (exact aw_wk (ex c (Eq.trans (rsG_f (bB_0.mp h32)).symm hX)) (And.intro rfl (And.intro rfl (And.intro rfl (And.intro rfl (And.intro rfl (And.intro rfl True.intro)))))))
    · refine aw_iload rfl rfl ?_
      refine aw_iload rfl rfl ?_
      refine aw_icmp_ne (tgt := 51) rfl (by decide) (fun h39 => ?_) (fun h39 => ?_)
      · refine aw_inc1 rfl rfl (by decide) ?_
        refine aw_inc1 rfl rfl (by decide) ?_
        refine aw_goto (tgt := 15) rfl (by decide) ?_
        refine aw_iload rfl rfl ?_
        refine aw_iconst (v := 1) rfl (by decide) ?_
        refine aw_icmp_gt (tgt := 60) rfl (by decide) (fun h18 => ?_) (fun h18 => absurd h18 (by decide))
        refine aw_inc1 rfl rfl (by decide) ?_
        refine aw_goto (tgt := 6) rfl (by decide) ?_
        refine aw_iload rfl rfl ?_
        refine aw_iconst (v := 1) rfl (by decide) ?_
        refine aw_icmp_gt (tgt := 66) rfl (by decide) (fun h9 => ?_) (fun h9 => absurd h9 (by decide))
        first | (exact aw_wk (ex (c + 1) (Eq.trans (rsG_t (bB_n0.mp h32) h39).symm hX)) (And.intro rfl (And.intro rfl (And.intro rfl (And.intro rfl (And.intro rfl (And.intro rfl True.intro))))))) | (exact aw_wk (ex c (Eq.trans (rsG_f (bB_0.mp h32)).symm hX)) (And.intro rfl (And.intro rfl (And.intro rfl (And.intro rfl (And.intro rfl (And.intro rfl True.intro)))))))
      · refine aw_bipush (v := 10) rfl (by decide) ?_
        refine aw_iload rfl rfl ?_
        refine aw_imul rfl ?_
        refine aw_iload rfl rfl ?_
        refine aw_iadd rfl ?_
        exact aw_fi rfl rfl (Eq.trans (rsG_e (bB_n0.mp h32) (by simpa using h39)).symm hX) rfl
  have l2 : ∀ c : Int32, rsG [(rS s a b j 1 0, 10), (rS s a b j 1 1, 11)] i c = X → aw_W l g mi_X2_resting (aw_rm 3 0 0) (aw_Z g (fun r w => r = some (.int X) ∧ w = hp g s n) 0 0) 0 0 (hp g s n) 15 [some (.ref (g_ad g 37)), some (.int (nI a)), some (.int (nI b)), some (.int (nI j)), some (.int i), some (.int c), some (.int 1), some (.int 0)] [] := by
    intro c hX
    refine aw_iload rfl rfl ?_
    refine aw_iconst (v := 1) rfl (by decide) ?_
    refine aw_icmp_gt (tgt := 60) rfl (by decide) (fun h18 => absurd h18 (by decide)) (fun h18 => ?_)
    refine aw_aload_n rfl rfl ?_
    refine aw_iload_n rfl rfl ?_
    refine aw_iload_n rfl rfl ?_
    refine aw_iload_n rfl rfl ?_
    refine aw_iload rfl rfl ?_
    refine aw_iload rfl rfl ?_
    refine aw_iV (q0 := 37) (ci := 2) rfl cw_X2_39 rfl rfl rfl (c_X2_rest ha hb hj) rfl rfl (Nat.le_of_ble_eq_true rfl) (by decide) (by decide) (by decide) (by decide) ?_
    refine aw_if_eq (tgt := 54) rfl (by decide) (fun h32 => ?_) (fun h32 => ?_)
    · refine aw_inc1 rfl rfl (by decide) ?_
      refine aw_goto (tgt := 15) rfl (by decide) ?_
      first | (exact aw_wk (l3 (c + 1) (Eq.trans (rsG_t (bB_n0.mp h32) h39).symm hX)) (And.intro rfl (And.intro rfl (And.intro rfl (And.intro rfl (And.intro rfl (And.intro rfl (And.intro rfl (And.intro rfl True.intro))))))))) | (exact aw_wk (l3 c (Eq.trans (rsG_f (bB_0.mp h32)).symm hX)) (And.intro rfl (And.intro rfl (And.intro rfl (And.intro rfl (And.intro rfl (And.intro rfl (And.intro rfl (And.intro rfl True.intro)))))))))
    · refine aw_iload rfl rfl ?_
      refine aw_iload rfl rfl ?_
      refine aw_icmp_ne (tgt := 51) rfl (by decide) (fun h39 => ?_) (fun h39 => ?_)
      · refine aw_inc1 rfl rfl (by decide) ?_
        refine aw_inc1 rfl rfl (by decide) ?_
        refine aw_goto (tgt := 15) rfl (by decide) ?_
        first | (exact aw_wk (l3 (c + 1) (Eq.trans (rsG_t (bB_n0.mp h32) h39).symm hX)) (And.intro rfl (And.intro rfl (And.intro rfl (And.intro rfl (And.intro rfl (And.intro rfl (And.intro rfl (And.intro rfl True.intro))))))))) | (exact aw_wk (l3 c (Eq.trans (rsG_f (bB_0.mp h32)).symm hX)) (And.intro rfl (And.intro rfl (And.intro rfl (And.intro rfl (And.intro rfl (And.intro rfl (And.intro rfl (And.intro rfl True.intro)))))))))
      · refine aw_bipush (v := 10) rfl (by decide) ?_
        refine aw_iload rfl rfl ?_
        refine aw_imul rfl ?_
        refine aw_iload rfl rfl ?_
        refine aw_iadd rfl ?_
        exact aw_fi rfl rfl (Eq.trans (rsG_e (bB_n0.mp h32) (by simpa using h39)).symm hX) rfl
  have l1 : ∀ c : Int32, rsG [(rS s a b j 0 1, 1), (rS s a b j 1 0, 10), (rS s a b j 1 1, 11)] i c = X → aw_W l g mi_X2_resting (aw_rm 3 0 0) (aw_Z g (fun r w => r = some (.int X) ∧ w = hp g s n) 0 0) 0 0 (hp g s n) 15 [some (.ref (g_ad g 37)), some (.int (nI a)), some (.int (nI b)), some (.int (nI j)), some (.int i), some (.int c), some (.int 0), some (.int 1)] [] := by
    intro c hX
    refine aw_iload rfl rfl ?_
    refine aw_iconst (v := 1) rfl (by decide) ?_
    refine aw_icmp_gt (tgt := 60) rfl (by decide) (fun h18 => absurd h18 (by decide)) (fun h18 => ?_)
    refine aw_aload_n rfl rfl ?_
    refine aw_iload_n rfl rfl ?_
    refine aw_iload_n rfl rfl ?_
    refine aw_iload_n rfl rfl ?_
    refine aw_iload rfl rfl ?_
    refine aw_iload rfl rfl ?_
    refine aw_iV (q0 := 37) (ci := 2) rfl cw_X2_39 rfl rfl rfl (c_X2_rest ha hb hj) rfl rfl (Nat.le_of_ble_eq_true rfl) (by decide) (by decide) (by decide) (by decide) ?_
    refine aw_if_eq (tgt := 54) rfl (by decide) (fun h32 => ?_) (fun h32 => ?_)
    · refine aw_inc1 rfl rfl (by decide) ?_
      refine aw_goto (tgt := 15) rfl (by decide) ?_
      refine aw_iload rfl rfl ?_
      refine aw_iconst (v := 1) rfl (by decide) ?_
      refine aw_icmp_gt (tgt := 60) rfl (by decide) (fun h18 => ?_) (fun h18 => absurd h18 (by decide))
      refine aw_inc1 rfl rfl (by decide) ?_
      refine aw_goto (tgt := 6) rfl (by decide) ?_
      refine aw_iload rfl rfl ?_
      refine aw_iconst (v := 1) rfl (by decide) ?_
      refine aw_icmp_gt (tgt := 66) rfl (by decide) (fun h9 => absurd h9 (by decide)) (fun h9 => ?_)
      refine aw_iconst (v := 0) rfl (by decide) ?_
      refine aw_istore rfl (by decide) ?_
      first | (exact aw_wk (l2 (c + 1) (Eq.trans (rsG_t (bB_n0.mp h32) h39).symm hX)) (And.intro rfl (And.intro rfl (And.intro rfl (And.intro rfl (And.intro rfl (And.intro rfl (And.intro rfl (And.intro rfl True.intro))))))))) | (exact aw_wk (l2 c (Eq.trans (rsG_f (bB_0.mp h32)).symm hX)) (And.intro rfl (And.intro rfl (And.intro rfl (And.intro rfl (And.intro rfl (And.intro rfl (And.intro rfl (And.intro rfl True.intro)))))))))
    · refine aw_iload rfl rfl ?_
      refine aw_iload rfl rfl ?_
      refine aw_icmp_ne (tgt := 51) rfl (by decide) (fun h39 => ?_) (fun h39 => ?_)
      · refine aw_inc1 rfl rfl (by decide) ?_
        refine aw_inc1 rfl rfl (by decide) ?_
        refine aw_goto (tgt := 15) rfl (by decide) ?_
        refine aw_iload rfl rfl ?_
        refine aw_iconst (v := 1) rfl (by decide) ?_
        refine aw_icmp_gt (tgt := 60) rfl (by decide) (fun h18 => ?_) (fun h18 => absurd h18 (by decide))
        refine aw_inc1 rfl rfl (by decide) ?_
        refine aw_goto (tgt := 6) rfl (by decide) ?_
        refine aw_iload rfl rfl ?_
        refine aw_iconst (v := 1) rfl (by decide) ?_
        refine aw_icmp_gt (tgt := 66) rfl (by decide) (fun h9 => absurd h9 (by decide)) (fun h9 => ?_)
        refine aw_iconst (v := 0) rfl (by decide) ?_
        refine aw_istore rfl (by decide) ?_
        first | (exact aw_wk (l2 (c + 1) (Eq.trans (rsG_t (bB_n0.mp h32) h39).symm hX)) (And.intro rfl (And.intro rfl (And.intro rfl (And.intro rfl (And.intro rfl (And.intro rfl (And.intro rfl (And.intro rfl True.intro))))))))) | (exact aw_wk (l2 c (Eq.trans (rsG_f (bB_0.mp h32)).symm hX)) (And.intro rfl (And.intro rfl (And.intro rfl (And.intro rfl (And.intro rfl (And.intro rfl (And.intro rfl (And.intro rfl True.intro)))))))))
      · refine aw_bipush (v := 10) rfl (by decide) ?_
        refine aw_iload rfl rfl ?_
        refine aw_imul rfl ?_
        refine aw_iload rfl rfl ?_
        refine aw_iadd rfl ?_
        exact aw_fi rfl rfl (Eq.trans (rsG_e (bB_n0.mp h32) (by simpa using h39)).symm hX) rfl
  have l0 : ∀ c : Int32, rsG [(rS s a b j 0 0, 0), (rS s a b j 0 1, 1), (rS s a b j 1 0, 10), (rS s a b j 1 1, 11)] i c = X → aw_W l g mi_X2_resting (aw_rm 3 0 0) (aw_Z g (fun r w => r = some (.int X) ∧ w = hp g s n) 0 0) 0 0 (hp g s n) 15 [some (.ref (g_ad g 37)), some (.int (nI a)), some (.int (nI b)), some (.int (nI j)), some (.int i), some (.int c), some (.int 0), some (.int 0)] [] := by
    intro c hX
    refine aw_iload rfl rfl ?_
    refine aw_iconst (v := 1) rfl (by decide) ?_
    refine aw_icmp_gt (tgt := 60) rfl (by decide) (fun h18 => absurd h18 (by decide)) (fun h18 => ?_)
    refine aw_aload_n rfl rfl ?_
    refine aw_iload_n rfl rfl ?_
    refine aw_iload_n rfl rfl ?_
    refine aw_iload_n rfl rfl ?_
    refine aw_iload rfl rfl ?_
    refine aw_iload rfl rfl ?_
    refine aw_iV (q0 := 37) (ci := 2) rfl cw_X2_39 rfl rfl rfl (c_X2_rest ha hb hj) rfl rfl (Nat.le_of_ble_eq_true rfl) (by decide) (by decide) (by decide) (by decide) ?_
    refine aw_if_eq (tgt := 54) rfl (by decide) (fun h32 => ?_) (fun h32 => ?_)
    · refine aw_inc1 rfl rfl (by decide) ?_
      refine aw_goto (tgt := 15) rfl (by decide) ?_
      first | (exact aw_wk (l1 (c + 1) (Eq.trans (rsG_t (bB_n0.mp h32) h39).symm hX)) (And.intro rfl (And.intro rfl (And.intro rfl (And.intro rfl (And.intro rfl (And.intro rfl (And.intro rfl (And.intro rfl True.intro))))))))) | (exact aw_wk (l1 c (Eq.trans (rsG_f (bB_0.mp h32)).symm hX)) (And.intro rfl (And.intro rfl (And.intro rfl (And.intro rfl (And.intro rfl (And.intro rfl (And.intro rfl (And.intro rfl True.intro)))))))))
    · refine aw_iload rfl rfl ?_
      refine aw_iload rfl rfl ?_
      refine aw_icmp_ne (tgt := 51) rfl (by decide) (fun h39 => ?_) (fun h39 => ?_)
      · refine aw_inc1 rfl rfl (by decide) ?_
        refine aw_inc1 rfl rfl (by decide) ?_
        refine aw_goto (tgt := 15) rfl (by decide) ?_
        first | (exact aw_wk (l1 (c + 1) (Eq.trans (rsG_t (bB_n0.mp h32) h39).symm hX)) (And.intro rfl (And.intro rfl (And.intro rfl (And.intro rfl (And.intro rfl (And.intro rfl (And.intro rfl (And.intro rfl True.intro))))))))) | (exact aw_wk (l1 c (Eq.trans (rsG_f (bB_0.mp h32)).symm hX)) (And.intro rfl (And.intro rfl (And.intro rfl (And.intro rfl (And.intro rfl (And.intro rfl (And.intro rfl (And.intro rfl True.intro)))))))))
      · refine aw_bipush (v := 10) rfl (by decide) ?_
        refine aw_iload rfl rfl ?_
        refine aw_imul rfl ?_
        refine aw_iload rfl rfl ?_
        refine aw_iadd rfl ?_
        exact aw_fi rfl rfl (Eq.trans (rsG_e (bB_n0.mp h32) (by simpa using h39)).symm hX) rfl
  refine aw_F_of mo_X2_resting (by decide) (Nat.le_of_ble_eq_true rfl) ?_
  refine aw_iconst (v := 0) rfl (by decide) ?_
  refine aw_istore rfl (by decide) ?_
  refine aw_iconst (v := 0) rfl (by decide) ?_
  refine aw_istore rfl (by decide) ?_
  refine aw_iload rfl rfl ?_
  refine aw_iconst (v := 1) rfl (by decide) ?_
  refine aw_icmp_gt (tgt := 66) rfl (by decide) (fun h9 => absurd h9 (by decide)) (fun h9 => ?_)
  refine aw_iconst (v := 0) rfl (by decide) ?_
  refine aw_istore rfl (by decide) ?_
  exact aw_wk (l0 0 hXX) (And.intro rfl (And.intro rfl (And.intro rfl (And.intro rfl (And.intro rfl (And.intro rfl (And.intro rfl (And.intro rfl True.intro))))))))
def rk (V : (Nat → Int32) → Int32) (s : am_S) (by' : Int32) (i : Nat) : Int32 := if by' = 0 then -hdN V s i else if by' = 1 then s 20 i else s 16 (5 + i)
def fTF (V : (Nat → Int32) → Int32) (s : am_S) (by' : Int32) (i : Nat) (a : Int32 × Int32) : Int32 × Int32 := if sl s (nI i) = true then (if a.1 = -1 then (nI i, rk V s by' i) else if rk V s by' i ≤ a.2 then a else (nI i, rk V s by' i)) else a
def aFore (V : (Nat → Int32) → Int32) (s : am_S) (T : Nat) (by' : Int32) : Int32 := (fd (fTF V s by') 0 T (-1, 0)).1
set_option maxRecDepth 4000 in
theorem c_X8_foremostThing {l : Launch} {g : ag_G} {s : am_S} {n : am_N} {b : Int32} {T Q : Nat} (hb : kb s T Q) {V : (Nat → Int32) → Int32} (hV : LawIs l g s n V) : aw_E l g mi_X8_foremostThing 5 skC [.ref (g_ad g 15), .int b] s n (.int (aFore V s T b)) := by
  have hT := hb.2.1
  unfold aFore
  generalize hXX : fd (fTF V s b) 0 T (-1, 0) = X
  have loop : ∀ (d i : Nat) (a : Int32 × Int32) (s1 : am_S), eo skC s s1 → i + d = T → fd (fTF V s b) i d a = X → aw_W l g mi_X8_foremostThing (aw_rm 5 0 0) (aw_Z g (fun r w => ∃ s', r = some (.int X.1) ∧ w = hp g s' n ∧ eo skC s s') 0 0) 0 0 (hp g s1 n) 7 [some (.ref (g_ad g 15)), some (.int b), some (.int a.1), some (.int a.2), some (.int (nI i))] [] := by
    intro d
    induction d with
    | zero =>
      intro i a s1 e1 hi hX
      refine aw_iload rfl rfl ?_
      refine aw_aload_n rfl rfl ?_
      refine pg_15_6 rfl kl_X8_43 ?_
      refine aw_icmp_ge (tgt := 88) rfl (by decide) (fun h13 => ?_) (fun h13 => absurd (by rw [(kb_eo hb e1).1]; exact nI_le (by omega) (by omega)) h13)
      refine aw_iload_n rfl rfl ?_
      exact aw_ei rfl rfl (by have hx : a = X := hX; rw [← hx]) e1
    | succ d ih =>
      intro i a s1 e1 hi hX
      refine aw_iload rfl rfl ?_
      refine aw_aload_n rfl rfl ?_
      refine pg_15_6 rfl kl_X8_43 ?_
      refine aw_icmp_ge (tgt := 88) rfl (by decide) (fun h13 => absurd h13 (by rw [(kb_eo hb e1).1]; exact nI_ge (by omega) (by omega))) (fun h13 => ?_)
      refine aw_aload_n rfl rfl ?_
      refine aw_iload rfl rfl ?_
      refine aw_iV (q0 := 15) (ci := 8) rfl cw_X8_117 rfl rfl rfl (c_X8_isSealed (kb_eo hb e1)) rfl rfl (Nat.le_of_ble_eq_true rfl) (by decide) (by decide) (by decide) (by decide) ?_
      refine aw_if_eq (tgt := 82) rfl (by decide) (fun h22 => ?_) (fun h22 => ?_)
      · refine aw_inc1 rfl rfl (by decide) ?_
        refine aw_goto (tgt := 7) rfl (by decide) ?_
        first
          | (refine aw_wk (ih (i + 1) a s1 e1 (by omega) ?_) (And.intro rfl (And.intro rfl (And.intro rfl (And.intro rfl (And.intro (congrArg (fun x => some (Value.int x)) (nI_1 i)) True.intro))))); exact Eq.trans (congrArg (fd _ (i + 1) d) (by unfold fTF; rw [if_neg (by rw [← sl_eo e1, bB_0.mp h22]; decide)])) hX)
          | (refine aw_wk (ih (i + 1) a s2 (eo_tr e1 e2) (by omega) ?_) (And.intro rfl (And.intro rfl (And.intro rfl (And.intro rfl (And.intro (congrArg (fun x => some (Value.int x)) (nI_1 i)) True.intro))))); exact Eq.trans (congrArg (fd _ (i + 1) d) (by unfold fTF; rw [if_pos (by rw [← sl_eo e1, bB_n0.mp h22]), if_neg h67, if_pos (by rw [hr]; exact h73)])) hX)
          | (refine aw_wk (ih (i + 1) (nI i, rk V s b i) s2 (eo_tr e1 e2) (by omega) ?_) (And.intro rfl (And.intro rfl (And.intro rfl (And.intro (congrArg (fun x => some (Value.int x)) hr.symm) (And.intro (congrArg (fun x => some (Value.int x)) (nI_1 i)) True.intro))))); exact Eq.trans (congrArg (fd _ (i + 1) d) (by unfold fTF; rw [if_pos (by rw [← sl_eo e1, bB_n0.mp h22])]; first | rw [if_pos h67] | rw [if_neg h67, if_neg (by rw [hr]; exact h73)])) hX)
          | (refine aw_wk (ih (i + 1) a s1 e1 (by omega) ?_) (And.intro rfl (And.intro rfl (And.intro rfl (And.intro rfl (And.intro (congrArg (fun x => some (Value.int x)) (nI_1 i)) True.intro))))); exact Eq.trans (congrArg (fd _ (i + 1) d) (by unfold fTF; rw [if_pos (by rw [← sl_eo e1, bB_n0.mp h22]), if_neg h67, if_pos (by rw [hr]; exact h73)])) hX)
          | (refine aw_wk (ih (i + 1) (nI i, rk V s b i) s1 e1 (by omega) ?_) (And.intro rfl (And.intro rfl (And.intro rfl (And.intro (congrArg (fun x => some (Value.int x)) hr.symm) (And.intro (congrArg (fun x => some (Value.int x)) (nI_1 i)) True.intro))))); exact Eq.trans (congrArg (fd _ (i + 1) d) (by unfold fTF; rw [if_pos (by rw [← sl_eo e1, bB_n0.mp h22])]; first | rw [if_pos h67] | rw [if_neg h67, if_neg (by rw [hr]; exact h73)])) hX)
      · refine aw_iload_n rfl rfl ?_
        refine aw_if_ne (tgt := 39) rfl (by decide) (fun h26 => ?_) (fun h26 => ?_)
        · refine aw_iload_n rfl rfl ?_
          refine aw_iconst (v := 1) rfl (by decide) ?_
          refine aw_icmp_ne (tgt := 54) rfl (by decide) (fun h41 => ?_) (fun h41 => ?_)
          · refine aw_aload_n rfl rfl ?_
            refine pg_15_1 rfl kl_X8_11 ?_
            refine aw_iconst (v := 5) rfl (by decide) ?_
            refine aw_iload rfl rfl ?_
            refine aw_iadd rfl ?_
            refine pl_16 rfl (iL 5 i rfl) (by omega) ?_
            first | (have hr : rk V s b i = s1 16 (5 + i) := by (unfold rk; rw [if_neg h26, if_neg h41, e1 16 _ rfl])) | skip
            refine aw_istore rfl (by decide) ?_
            refine aw_iload_n rfl rfl ?_
            refine aw_iconst (v := -1) rfl (by decide) ?_
            refine aw_icmp_eq (tgt := 76) rfl (by decide) (fun h67 => ?_) (fun h67 => ?_)
            · refine aw_iload rfl rfl ?_
              refine aw_istore_n rfl (by decide) ?_
              refine aw_iload rfl rfl ?_
              refine aw_istore_n rfl (by decide) ?_
              refine aw_inc1 rfl rfl (by decide) ?_
              refine aw_goto (tgt := 7) rfl (by decide) ?_
              first
                | (refine aw_wk (ih (i + 1) a s1 e1 (by omega) ?_) (And.intro rfl (And.intro rfl (And.intro rfl (And.intro rfl (And.intro (congrArg (fun x => some (Value.int x)) (nI_1 i)) True.intro))))); exact Eq.trans (congrArg (fd _ (i + 1) d) (by unfold fTF; rw [if_neg (by rw [← sl_eo e1, bB_0.mp h22]; decide)])) hX)
                | (refine aw_wk (ih (i + 1) a s2 (eo_tr e1 e2) (by omega) ?_) (And.intro rfl (And.intro rfl (And.intro rfl (And.intro rfl (And.intro (congrArg (fun x => some (Value.int x)) (nI_1 i)) True.intro))))); exact Eq.trans (congrArg (fd _ (i + 1) d) (by unfold fTF; rw [if_pos (by rw [← sl_eo e1, bB_n0.mp h22]), if_neg h67, if_pos (by rw [hr]; exact h73)])) hX)
                | (refine aw_wk (ih (i + 1) (nI i, rk V s b i) s2 (eo_tr e1 e2) (by omega) ?_) (And.intro rfl (And.intro rfl (And.intro rfl (And.intro (congrArg (fun x => some (Value.int x)) hr.symm) (And.intro (congrArg (fun x => some (Value.int x)) (nI_1 i)) True.intro))))); exact Eq.trans (congrArg (fd _ (i + 1) d) (by unfold fTF; rw [if_pos (by rw [← sl_eo e1, bB_n0.mp h22])]; first | rw [if_pos h67] | rw [if_neg h67, if_neg (by rw [hr]; exact h73)])) hX)
                | (refine aw_wk (ih (i + 1) a s1 e1 (by omega) ?_) (And.intro rfl (And.intro rfl (And.intro rfl (And.intro rfl (And.intro (congrArg (fun x => some (Value.int x)) (nI_1 i)) True.intro))))); exact Eq.trans (congrArg (fd _ (i + 1) d) (by unfold fTF; rw [if_pos (by rw [← sl_eo e1, bB_n0.mp h22]), if_neg h67, if_pos (by rw [hr]; exact h73)])) hX)
                | (refine aw_wk (ih (i + 1) (nI i, rk V s b i) s1 e1 (by omega) ?_) (And.intro rfl (And.intro rfl (And.intro rfl (And.intro (congrArg (fun x => some (Value.int x)) hr.symm) (And.intro (congrArg (fun x => some (Value.int x)) (nI_1 i)) True.intro))))); exact Eq.trans (congrArg (fd _ (i + 1) d) (by unfold fTF; rw [if_pos (by rw [← sl_eo e1, bB_n0.mp h22])]; first | rw [if_pos h67] | rw [if_neg h67, if_neg (by rw [hr]; exact h73)])) hX)
            · refine aw_iload rfl rfl ?_
              refine aw_iload_n rfl rfl ?_
              refine aw_icmp_le (tgt := 82) rfl (by decide) (fun h73 => ?_) (fun h73 => ?_)
              · refine aw_inc1 rfl rfl (by decide) ?_
                refine aw_goto (tgt := 7) rfl (by decide) ?_
                first
                  | (refine aw_wk (ih (i + 1) a s1 e1 (by omega) ?_) (And.intro rfl (And.intro rfl (And.intro rfl (And.intro rfl (And.intro (congrArg (fun x => some (Value.int x)) (nI_1 i)) True.intro))))); exact Eq.trans (congrArg (fd _ (i + 1) d) (by unfold fTF; rw [if_neg (by rw [← sl_eo e1, bB_0.mp h22]; decide)])) hX)
                  | (refine aw_wk (ih (i + 1) a s2 (eo_tr e1 e2) (by omega) ?_) (And.intro rfl (And.intro rfl (And.intro rfl (And.intro rfl (And.intro (congrArg (fun x => some (Value.int x)) (nI_1 i)) True.intro))))); exact Eq.trans (congrArg (fd _ (i + 1) d) (by unfold fTF; rw [if_pos (by rw [← sl_eo e1, bB_n0.mp h22]), if_neg h67, if_pos (by rw [hr]; exact h73)])) hX)
                  | (refine aw_wk (ih (i + 1) (nI i, rk V s b i) s2 (eo_tr e1 e2) (by omega) ?_) (And.intro rfl (And.intro rfl (And.intro rfl (And.intro (congrArg (fun x => some (Value.int x)) hr.symm) (And.intro (congrArg (fun x => some (Value.int x)) (nI_1 i)) True.intro))))); exact Eq.trans (congrArg (fd _ (i + 1) d) (by unfold fTF; rw [if_pos (by rw [← sl_eo e1, bB_n0.mp h22])]; first | rw [if_pos h67] | rw [if_neg h67, if_neg (by rw [hr]; exact h73)])) hX)
                  | (refine aw_wk (ih (i + 1) a s1 e1 (by omega) ?_) (And.intro rfl (And.intro rfl (And.intro rfl (And.intro rfl (And.intro (congrArg (fun x => some (Value.int x)) (nI_1 i)) True.intro))))); exact Eq.trans (congrArg (fd _ (i + 1) d) (by unfold fTF; rw [if_pos (by rw [← sl_eo e1, bB_n0.mp h22]), if_neg h67, if_pos (by rw [hr]; exact h73)])) hX)
                  | (refine aw_wk (ih (i + 1) (nI i, rk V s b i) s1 e1 (by omega) ?_) (And.intro rfl (And.intro rfl (And.intro rfl (And.intro (congrArg (fun x => some (Value.int x)) hr.symm) (And.intro (congrArg (fun x => some (Value.int x)) (nI_1 i)) True.intro))))); exact Eq.trans (congrArg (fd _ (i + 1) d) (by unfold fTF; rw [if_pos (by rw [← sl_eo e1, bB_n0.mp h22])]; first | rw [if_pos h67] | rw [if_neg h67, if_neg (by rw [hr]; exact h73)])) hX)
              · refine aw_iload rfl rfl ?_
                refine aw_istore_n rfl (by decide) ?_
                refine aw_iload rfl rfl ?_
                refine aw_istore_n rfl (by decide) ?_
                refine aw_inc1 rfl rfl (by decide) ?_
                refine aw_goto (tgt := 7) rfl (by decide) ?_
                first
                  | (refine aw_wk (ih (i + 1) a s1 e1 (by omega) ?_) (And.intro rfl (And.intro rfl (And.intro rfl (And.intro rfl (And.intro (congrArg (fun x => some (Value.int x)) (nI_1 i)) True.intro))))); exact Eq.trans (congrArg (fd _ (i + 1) d) (by unfold fTF; rw [if_neg (by rw [← sl_eo e1, bB_0.mp h22]; decide)])) hX)
                  | (refine aw_wk (ih (i + 1) a s2 (eo_tr e1 e2) (by omega) ?_) (And.intro rfl (And.intro rfl (And.intro rfl (And.intro rfl (And.intro (congrArg (fun x => some (Value.int x)) (nI_1 i)) True.intro))))); exact Eq.trans (congrArg (fd _ (i + 1) d) (by unfold fTF; rw [if_pos (by rw [← sl_eo e1, bB_n0.mp h22]), if_neg h67, if_pos (by rw [hr]; exact h73)])) hX)
                  | (refine aw_wk (ih (i + 1) (nI i, rk V s b i) s2 (eo_tr e1 e2) (by omega) ?_) (And.intro rfl (And.intro rfl (And.intro rfl (And.intro (congrArg (fun x => some (Value.int x)) hr.symm) (And.intro (congrArg (fun x => some (Value.int x)) (nI_1 i)) True.intro))))); exact Eq.trans (congrArg (fd _ (i + 1) d) (by unfold fTF; rw [if_pos (by rw [← sl_eo e1, bB_n0.mp h22])]; first | rw [if_pos h67] | rw [if_neg h67, if_neg (by rw [hr]; exact h73)])) hX)
                  | (refine aw_wk (ih (i + 1) a s1 e1 (by omega) ?_) (And.intro rfl (And.intro rfl (And.intro rfl (And.intro rfl (And.intro (congrArg (fun x => some (Value.int x)) (nI_1 i)) True.intro))))); exact Eq.trans (congrArg (fd _ (i + 1) d) (by unfold fTF; rw [if_pos (by rw [← sl_eo e1, bB_n0.mp h22]), if_neg h67, if_pos (by rw [hr]; exact h73)])) hX)
                  | (refine aw_wk (ih (i + 1) (nI i, rk V s b i) s1 e1 (by omega) ?_) (And.intro rfl (And.intro rfl (And.intro rfl (And.intro (congrArg (fun x => some (Value.int x)) hr.symm) (And.intro (congrArg (fun x => some (Value.int x)) (nI_1 i)) True.intro))))); exact Eq.trans (congrArg (fd _ (i + 1) d) (by unfold fTF; rw [if_pos (by rw [← sl_eo e1, bB_n0.mp h22])]; first | rw [if_pos h67] | rw [if_neg h67, if_neg (by rw [hr]; exact h73)])) hX)
          · refine aw_aload_n rfl rfl ?_
            refine pg_15_5 rfl kl_X8_24 ?_
            refine aw_iload rfl rfl ?_
            refine pl_20 rfl rfl (by omega) ?_
            have hr : rk V s b i = s1 20 i := by (unfold rk; rw [if_neg h26, if_pos (by simpa using h41), e1 20 i rfl])
            refine aw_goto (tgt := 63) rfl (by decide) ?_
            first | (have hr : rk V s b i = s1 16 (5 + i) := by (unfold rk; rw [if_neg h26, if_neg h41, e1 16 _ rfl])) | skip
            refine aw_istore rfl (by decide) ?_
            refine aw_iload_n rfl rfl ?_
            refine aw_iconst (v := -1) rfl (by decide) ?_
            refine aw_icmp_eq (tgt := 76) rfl (by decide) (fun h67 => ?_) (fun h67 => ?_)
            · refine aw_iload rfl rfl ?_
              refine aw_istore_n rfl (by decide) ?_
              refine aw_iload rfl rfl ?_
              refine aw_istore_n rfl (by decide) ?_
              refine aw_inc1 rfl rfl (by decide) ?_
              refine aw_goto (tgt := 7) rfl (by decide) ?_
              first
                | (refine aw_wk (ih (i + 1) a s1 e1 (by omega) ?_) (And.intro rfl (And.intro rfl (And.intro rfl (And.intro rfl (And.intro (congrArg (fun x => some (Value.int x)) (nI_1 i)) True.intro))))); exact Eq.trans (congrArg (fd _ (i + 1) d) (by unfold fTF; rw [if_neg (by rw [← sl_eo e1, bB_0.mp h22]; decide)])) hX)
                | (refine aw_wk (ih (i + 1) a s2 (eo_tr e1 e2) (by omega) ?_) (And.intro rfl (And.intro rfl (And.intro rfl (And.intro rfl (And.intro (congrArg (fun x => some (Value.int x)) (nI_1 i)) True.intro))))); exact Eq.trans (congrArg (fd _ (i + 1) d) (by unfold fTF; rw [if_pos (by rw [← sl_eo e1, bB_n0.mp h22]), if_neg h67, if_pos (by rw [hr]; exact h73)])) hX)
                | (refine aw_wk (ih (i + 1) (nI i, rk V s b i) s2 (eo_tr e1 e2) (by omega) ?_) (And.intro rfl (And.intro rfl (And.intro rfl (And.intro (congrArg (fun x => some (Value.int x)) hr.symm) (And.intro (congrArg (fun x => some (Value.int x)) (nI_1 i)) True.intro))))); exact Eq.trans (congrArg (fd _ (i + 1) d) (by unfold fTF; rw [if_pos (by rw [← sl_eo e1, bB_n0.mp h22])]; first | rw [if_pos h67] | rw [if_neg h67, if_neg (by rw [hr]; exact h73)])) hX)
                | (refine aw_wk (ih (i + 1) a s1 e1 (by omega) ?_) (And.intro rfl (And.intro rfl (And.intro rfl (And.intro rfl (And.intro (congrArg (fun x => some (Value.int x)) (nI_1 i)) True.intro))))); exact Eq.trans (congrArg (fd _ (i + 1) d) (by unfold fTF; rw [if_pos (by rw [← sl_eo e1, bB_n0.mp h22]), if_neg h67, if_pos (by rw [hr]; exact h73)])) hX)
                | (refine aw_wk (ih (i + 1) (nI i, rk V s b i) s1 e1 (by omega) ?_) (And.intro rfl (And.intro rfl (And.intro rfl (And.intro (congrArg (fun x => some (Value.int x)) hr.symm) (And.intro (congrArg (fun x => some (Value.int x)) (nI_1 i)) True.intro))))); exact Eq.trans (congrArg (fd _ (i + 1) d) (by unfold fTF; rw [if_pos (by rw [← sl_eo e1, bB_n0.mp h22])]; first | rw [if_pos h67] | rw [if_neg h67, if_neg (by rw [hr]; exact h73)])) hX)
            · refine aw_iload rfl rfl ?_
              refine aw_iload_n rfl rfl ?_
              refine aw_icmp_le (tgt := 82) rfl (by decide) (fun h73 => ?_) (fun h73 => ?_)
              · refine aw_inc1 rfl rfl (by decide) ?_
                refine aw_goto (tgt := 7) rfl (by decide) ?_
                first
                  | (refine aw_wk (ih (i + 1) a s1 e1 (by omega) ?_) (And.intro rfl (And.intro rfl (And.intro rfl (And.intro rfl (And.intro (congrArg (fun x => some (Value.int x)) (nI_1 i)) True.intro))))); exact Eq.trans (congrArg (fd _ (i + 1) d) (by unfold fTF; rw [if_neg (by rw [← sl_eo e1, bB_0.mp h22]; decide)])) hX)
                  | (refine aw_wk (ih (i + 1) a s2 (eo_tr e1 e2) (by omega) ?_) (And.intro rfl (And.intro rfl (And.intro rfl (And.intro rfl (And.intro (congrArg (fun x => some (Value.int x)) (nI_1 i)) True.intro))))); exact Eq.trans (congrArg (fd _ (i + 1) d) (by unfold fTF; rw [if_pos (by rw [← sl_eo e1, bB_n0.mp h22]), if_neg h67, if_pos (by rw [hr]; exact h73)])) hX)
                  | (refine aw_wk (ih (i + 1) (nI i, rk V s b i) s2 (eo_tr e1 e2) (by omega) ?_) (And.intro rfl (And.intro rfl (And.intro rfl (And.intro (congrArg (fun x => some (Value.int x)) hr.symm) (And.intro (congrArg (fun x => some (Value.int x)) (nI_1 i)) True.intro))))); exact Eq.trans (congrArg (fd _ (i + 1) d) (by unfold fTF; rw [if_pos (by rw [← sl_eo e1, bB_n0.mp h22])]; first | rw [if_pos h67] | rw [if_neg h67, if_neg (by rw [hr]; exact h73)])) hX)
                  | (refine aw_wk (ih (i + 1) a s1 e1 (by omega) ?_) (And.intro rfl (And.intro rfl (And.intro rfl (And.intro rfl (And.intro (congrArg (fun x => some (Value.int x)) (nI_1 i)) True.intro))))); exact Eq.trans (congrArg (fd _ (i + 1) d) (by unfold fTF; rw [if_pos (by rw [← sl_eo e1, bB_n0.mp h22]), if_neg h67, if_pos (by rw [hr]; exact h73)])) hX)
                  | (refine aw_wk (ih (i + 1) (nI i, rk V s b i) s1 e1 (by omega) ?_) (And.intro rfl (And.intro rfl (And.intro rfl (And.intro (congrArg (fun x => some (Value.int x)) hr.symm) (And.intro (congrArg (fun x => some (Value.int x)) (nI_1 i)) True.intro))))); exact Eq.trans (congrArg (fd _ (i + 1) d) (by unfold fTF; rw [if_pos (by rw [← sl_eo e1, bB_n0.mp h22])]; first | rw [if_pos h67] | rw [if_neg h67, if_neg (by rw [hr]; exact h73)])) hX)
              · refine aw_iload rfl rfl ?_
                refine aw_istore_n rfl (by decide) ?_
                refine aw_iload rfl rfl ?_
                refine aw_istore_n rfl (by decide) ?_
                refine aw_inc1 rfl rfl (by decide) ?_
                refine aw_goto (tgt := 7) rfl (by decide) ?_
                first
                  | (refine aw_wk (ih (i + 1) a s1 e1 (by omega) ?_) (And.intro rfl (And.intro rfl (And.intro rfl (And.intro rfl (And.intro (congrArg (fun x => some (Value.int x)) (nI_1 i)) True.intro))))); exact Eq.trans (congrArg (fd _ (i + 1) d) (by unfold fTF; rw [if_neg (by rw [← sl_eo e1, bB_0.mp h22]; decide)])) hX)
                  | (refine aw_wk (ih (i + 1) a s2 (eo_tr e1 e2) (by omega) ?_) (And.intro rfl (And.intro rfl (And.intro rfl (And.intro rfl (And.intro (congrArg (fun x => some (Value.int x)) (nI_1 i)) True.intro))))); exact Eq.trans (congrArg (fd _ (i + 1) d) (by unfold fTF; rw [if_pos (by rw [← sl_eo e1, bB_n0.mp h22]), if_neg h67, if_pos (by rw [hr]; exact h73)])) hX)
                  | (refine aw_wk (ih (i + 1) (nI i, rk V s b i) s2 (eo_tr e1 e2) (by omega) ?_) (And.intro rfl (And.intro rfl (And.intro rfl (And.intro (congrArg (fun x => some (Value.int x)) hr.symm) (And.intro (congrArg (fun x => some (Value.int x)) (nI_1 i)) True.intro))))); exact Eq.trans (congrArg (fd _ (i + 1) d) (by unfold fTF; rw [if_pos (by rw [← sl_eo e1, bB_n0.mp h22])]; first | rw [if_pos h67] | rw [if_neg h67, if_neg (by rw [hr]; exact h73)])) hX)
                  | (refine aw_wk (ih (i + 1) a s1 e1 (by omega) ?_) (And.intro rfl (And.intro rfl (And.intro rfl (And.intro rfl (And.intro (congrArg (fun x => some (Value.int x)) (nI_1 i)) True.intro))))); exact Eq.trans (congrArg (fd _ (i + 1) d) (by unfold fTF; rw [if_pos (by rw [← sl_eo e1, bB_n0.mp h22]), if_neg h67, if_pos (by rw [hr]; exact h73)])) hX)
                  | (refine aw_wk (ih (i + 1) (nI i, rk V s b i) s1 e1 (by omega) ?_) (And.intro rfl (And.intro rfl (And.intro rfl (And.intro (congrArg (fun x => some (Value.int x)) hr.symm) (And.intro (congrArg (fun x => some (Value.int x)) (nI_1 i)) True.intro))))); exact Eq.trans (congrArg (fd _ (i + 1) d) (by unfold fTF; rw [if_pos (by rw [← sl_eo e1, bB_n0.mp h22])]; first | rw [if_pos h67] | rw [if_neg h67, if_neg (by rw [hr]; exact h73)])) hX)
        · refine aw_aload_n rfl rfl ?_
          refine aw_iload rfl rfl ?_
          refine aw_eV (q0 := 15) (ci := 8) rfl cw_X8_120 rfl rfl rfl (c_X8_holdsNow (kb_eo hb e1) (by omega) (hV.eC e1)) rfl rfl (Nat.le_of_ble_eq_true rfl) (by decide) (by decide) (by decide) (by decide) (fun s2 e2 => ?_)
          have hr : rk V s b i = -hdN V s1 i := by (unfold rk; rw [if_pos (by simpa using h26), hdN_eo e1])
          refine aw_ineg rfl ?_
          refine aw_goto (tgt := 63) rfl (by decide) ?_
          first | (have hr : rk V s b i = s1 16 (5 + i) := by (unfold rk; rw [if_neg h26, if_neg h41, e1 16 _ rfl])) | skip
          refine aw_istore rfl (by decide) ?_
          refine aw_iload_n rfl rfl ?_
          refine aw_iconst (v := -1) rfl (by decide) ?_
          refine aw_icmp_eq (tgt := 76) rfl (by decide) (fun h67 => ?_) (fun h67 => ?_)
          · refine aw_iload rfl rfl ?_
            refine aw_istore_n rfl (by decide) ?_
            refine aw_iload rfl rfl ?_
            refine aw_istore_n rfl (by decide) ?_
            refine aw_inc1 rfl rfl (by decide) ?_
            refine aw_goto (tgt := 7) rfl (by decide) ?_
            first
              | (refine aw_wk (ih (i + 1) a s1 e1 (by omega) ?_) (And.intro rfl (And.intro rfl (And.intro rfl (And.intro rfl (And.intro (congrArg (fun x => some (Value.int x)) (nI_1 i)) True.intro))))); exact Eq.trans (congrArg (fd _ (i + 1) d) (by unfold fTF; rw [if_neg (by rw [← sl_eo e1, bB_0.mp h22]; decide)])) hX)
              | (refine aw_wk (ih (i + 1) a s2 (eo_tr e1 e2) (by omega) ?_) (And.intro rfl (And.intro rfl (And.intro rfl (And.intro rfl (And.intro (congrArg (fun x => some (Value.int x)) (nI_1 i)) True.intro))))); exact Eq.trans (congrArg (fd _ (i + 1) d) (by unfold fTF; rw [if_pos (by rw [← sl_eo e1, bB_n0.mp h22]), if_neg h67, if_pos (by rw [hr]; exact h73)])) hX)
              | (refine aw_wk (ih (i + 1) (nI i, rk V s b i) s2 (eo_tr e1 e2) (by omega) ?_) (And.intro rfl (And.intro rfl (And.intro rfl (And.intro (congrArg (fun x => some (Value.int x)) hr.symm) (And.intro (congrArg (fun x => some (Value.int x)) (nI_1 i)) True.intro))))); exact Eq.trans (congrArg (fd _ (i + 1) d) (by unfold fTF; rw [if_pos (by rw [← sl_eo e1, bB_n0.mp h22])]; first | rw [if_pos h67] | rw [if_neg h67, if_neg (by rw [hr]; exact h73)])) hX)
              | (refine aw_wk (ih (i + 1) a s1 e1 (by omega) ?_) (And.intro rfl (And.intro rfl (And.intro rfl (And.intro rfl (And.intro (congrArg (fun x => some (Value.int x)) (nI_1 i)) True.intro))))); exact Eq.trans (congrArg (fd _ (i + 1) d) (by unfold fTF; rw [if_pos (by rw [← sl_eo e1, bB_n0.mp h22]), if_neg h67, if_pos (by rw [hr]; exact h73)])) hX)
              | (refine aw_wk (ih (i + 1) (nI i, rk V s b i) s1 e1 (by omega) ?_) (And.intro rfl (And.intro rfl (And.intro rfl (And.intro (congrArg (fun x => some (Value.int x)) hr.symm) (And.intro (congrArg (fun x => some (Value.int x)) (nI_1 i)) True.intro))))); exact Eq.trans (congrArg (fd _ (i + 1) d) (by unfold fTF; rw [if_pos (by rw [← sl_eo e1, bB_n0.mp h22])]; first | rw [if_pos h67] | rw [if_neg h67, if_neg (by rw [hr]; exact h73)])) hX)
          · refine aw_iload rfl rfl ?_
            refine aw_iload_n rfl rfl ?_
            refine aw_icmp_le (tgt := 82) rfl (by decide) (fun h73 => ?_) (fun h73 => ?_)
            · refine aw_inc1 rfl rfl (by decide) ?_
              refine aw_goto (tgt := 7) rfl (by decide) ?_
              first
                | (refine aw_wk (ih (i + 1) a s1 e1 (by omega) ?_) (And.intro rfl (And.intro rfl (And.intro rfl (And.intro rfl (And.intro (congrArg (fun x => some (Value.int x)) (nI_1 i)) True.intro))))); exact Eq.trans (congrArg (fd _ (i + 1) d) (by unfold fTF; rw [if_neg (by rw [← sl_eo e1, bB_0.mp h22]; decide)])) hX)
                | (refine aw_wk (ih (i + 1) a s2 (eo_tr e1 e2) (by omega) ?_) (And.intro rfl (And.intro rfl (And.intro rfl (And.intro rfl (And.intro (congrArg (fun x => some (Value.int x)) (nI_1 i)) True.intro))))); exact Eq.trans (congrArg (fd _ (i + 1) d) (by unfold fTF; rw [if_pos (by rw [← sl_eo e1, bB_n0.mp h22]), if_neg h67, if_pos (by rw [hr]; exact h73)])) hX)
                | (refine aw_wk (ih (i + 1) (nI i, rk V s b i) s2 (eo_tr e1 e2) (by omega) ?_) (And.intro rfl (And.intro rfl (And.intro rfl (And.intro (congrArg (fun x => some (Value.int x)) hr.symm) (And.intro (congrArg (fun x => some (Value.int x)) (nI_1 i)) True.intro))))); exact Eq.trans (congrArg (fd _ (i + 1) d) (by unfold fTF; rw [if_pos (by rw [← sl_eo e1, bB_n0.mp h22])]; first | rw [if_pos h67] | rw [if_neg h67, if_neg (by rw [hr]; exact h73)])) hX)
                | (refine aw_wk (ih (i + 1) a s1 e1 (by omega) ?_) (And.intro rfl (And.intro rfl (And.intro rfl (And.intro rfl (And.intro (congrArg (fun x => some (Value.int x)) (nI_1 i)) True.intro))))); exact Eq.trans (congrArg (fd _ (i + 1) d) (by unfold fTF; rw [if_pos (by rw [← sl_eo e1, bB_n0.mp h22]), if_neg h67, if_pos (by rw [hr]; exact h73)])) hX)
                | (refine aw_wk (ih (i + 1) (nI i, rk V s b i) s1 e1 (by omega) ?_) (And.intro rfl (And.intro rfl (And.intro rfl (And.intro (congrArg (fun x => some (Value.int x)) hr.symm) (And.intro (congrArg (fun x => some (Value.int x)) (nI_1 i)) True.intro))))); exact Eq.trans (congrArg (fd _ (i + 1) d) (by unfold fTF; rw [if_pos (by rw [← sl_eo e1, bB_n0.mp h22])]; first | rw [if_pos h67] | rw [if_neg h67, if_neg (by rw [hr]; exact h73)])) hX)
            · refine aw_iload rfl rfl ?_
              refine aw_istore_n rfl (by decide) ?_
              refine aw_iload rfl rfl ?_
              refine aw_istore_n rfl (by decide) ?_
              refine aw_inc1 rfl rfl (by decide) ?_
              refine aw_goto (tgt := 7) rfl (by decide) ?_
              first
                | (refine aw_wk (ih (i + 1) a s1 e1 (by omega) ?_) (And.intro rfl (And.intro rfl (And.intro rfl (And.intro rfl (And.intro (congrArg (fun x => some (Value.int x)) (nI_1 i)) True.intro))))); exact Eq.trans (congrArg (fd _ (i + 1) d) (by unfold fTF; rw [if_neg (by rw [← sl_eo e1, bB_0.mp h22]; decide)])) hX)
                | (refine aw_wk (ih (i + 1) a s2 (eo_tr e1 e2) (by omega) ?_) (And.intro rfl (And.intro rfl (And.intro rfl (And.intro rfl (And.intro (congrArg (fun x => some (Value.int x)) (nI_1 i)) True.intro))))); exact Eq.trans (congrArg (fd _ (i + 1) d) (by unfold fTF; rw [if_pos (by rw [← sl_eo e1, bB_n0.mp h22]), if_neg h67, if_pos (by rw [hr]; exact h73)])) hX)
                | (refine aw_wk (ih (i + 1) (nI i, rk V s b i) s2 (eo_tr e1 e2) (by omega) ?_) (And.intro rfl (And.intro rfl (And.intro rfl (And.intro (congrArg (fun x => some (Value.int x)) hr.symm) (And.intro (congrArg (fun x => some (Value.int x)) (nI_1 i)) True.intro))))); exact Eq.trans (congrArg (fd _ (i + 1) d) (by unfold fTF; rw [if_pos (by rw [← sl_eo e1, bB_n0.mp h22])]; first | rw [if_pos h67] | rw [if_neg h67, if_neg (by rw [hr]; exact h73)])) hX)
                | (refine aw_wk (ih (i + 1) a s1 e1 (by omega) ?_) (And.intro rfl (And.intro rfl (And.intro rfl (And.intro rfl (And.intro (congrArg (fun x => some (Value.int x)) (nI_1 i)) True.intro))))); exact Eq.trans (congrArg (fd _ (i + 1) d) (by unfold fTF; rw [if_pos (by rw [← sl_eo e1, bB_n0.mp h22]), if_neg h67, if_pos (by rw [hr]; exact h73)])) hX)
                | (refine aw_wk (ih (i + 1) (nI i, rk V s b i) s1 e1 (by omega) ?_) (And.intro rfl (And.intro rfl (And.intro rfl (And.intro (congrArg (fun x => some (Value.int x)) hr.symm) (And.intro (congrArg (fun x => some (Value.int x)) (nI_1 i)) True.intro))))); exact Eq.trans (congrArg (fd _ (i + 1) d) (by unfold fTF; rw [if_pos (by rw [← sl_eo e1, bB_n0.mp h22])]; first | rw [if_pos h67] | rw [if_neg h67, if_neg (by rw [hr]; exact h73)])) hX)
  refine aw_E_of mo_X8_foremostThing (by decide) (Nat.le_of_ble_eq_true rfl) ?_
  refine aw_iconst (v := -1) rfl (by decide) ?_
  refine aw_istore_n rfl (by decide) ?_
  refine aw_iconst (v := 0) rfl (by decide) ?_
  refine aw_istore_n rfl (by decide) ?_
  refine aw_iconst (v := 0) rfl (by decide) ?_
  refine aw_istore rfl (by decide) ?_
  refine aw_wk (loop T 0 (-1, 0) s eo_rf (by omega) hXX) (And.intro rfl (And.intro rfl (And.intro rfl (And.intro rfl (And.intro rfl True.intro)))))
