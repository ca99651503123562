def nA (k : Int32) : Bool := decide (k < 1) || !decide (k ≤ 24)
theorem nA_nI {k : Int32} (h : nA k = false) : ∃ m, m ≤ 24 ∧ k = nI m := by
  unfold nA at h
  simp only [Bool.or_eq_false_iff, decide_eq_false_iff_not, Bool.not_eq_false', decide_eq_true_eq] at h
  obtain ⟨j, hj, e⟩ := nI_of2 (x := k) (M := 24) (n := 24) (by decide) (fun z => h.1 (by rw [Int32.lt_iff_toInt_lt] at z ⊢; have e0 : (0 : Int32).toInt = 0 := (by decide); have e1 : (1 : Int32).toInt = 1 := (by decide); omega)) h.2
  exact ⟨j, hj, e⟩
def nC (v : Int32) : Bool := decide (v < 0) || !decide (v ≤ 1)
def aA (s : am_S) (k w : Int32) : Bool := decide (0 < s 15 6) && (!nA k && (!decide (w < 0) && !decide (1 < w)))
def q_rule (s : am_S) (x : Int32) : Int32 := if 0 < s 15 6 then (if x = 0 then s 16 0 else if x = 1 then s 16 1 else if x = 2 then s 15 8 else -1) else -1
def q_ring (s : am_S) (r x : Int32) : Int32 := if isR s r = true then (if x = 0 then s 16 (26 + cl r) else if x = 1 then s 16 (31 + cl r) else -1) else -1
def q_warmth (s : am_S) (k : Int32) : Int32 := if 0 < s 15 6 then (if k < 0 then -1 else if k ≤ 60 then warm (s 16 1) (s 16 4 + k) else -1) else -1
def q_lasts (V : (Nat → Int32) → Int32) (s : am_S) (t : Int32) : Int32 := if isT s t = true then mTM V s (cl t) else -1
def q_least (V : (Nat → Int32) → Int32) (s : am_S) (T : Nat) (S k t : Int32) : Int32 := if S < 1 then -1 else if 1 <<< (s 15 6 &&& 31) ≤ S then -1 else if nA k = true then -1 else if t = -1 then wF V s T S (cl k) t else if isT s t = false then -1 else if (S >>> (t &&& 31)) &&& 1 = 0 then -1 else wF V s T S (cl k) t
def q_pack (V : (Nat → Int32) → Int32) (s : am_S) (T : Nat) (k w : Int32) : Int32 := if aA s k w = true then (if w = 0 then (bK V s T (cl k)).1 else (bK V s T (cl k)).2) else -1
def q_order (V : (Nat → Int32) → Int32) (s : am_S) (T : Nat) (w : Int32) : Int32 := if aA s 1 w = true then mAll V s 24 T w else -1
def q_dealt (V : (Nat → Int32) → Int32) (s : am_S) (T : Nat) (k w : Int32) : Int32 := if aA s k w = true then aDeal V s T (cl k) w else -1
def q_who (s : am_S) (N T Q : Nat) (i : Int32) : Int32 := if 0 < s 15 6 then aFit s N T Q i else -1
def q_ask (s : am_S) (N T Q : Nat) : Int32 := if 0 < s 15 6 then aAsk s N T Q else -1
def q_game (s : am_S) (a b t x y w : Int32) : Int32 := if cB s a b t = false then -1000000 else if nC x = true then -1000000 else if nC y = true then -1000000 else if nC w = true then -1000000 else if w = 0 then fH s (cl a) (cl t) x y else sH s (cl a) (cl b) (cl t) x y
def q_rests (s : am_S) (a b t i : Int32) : Int32 := if cB s a b t = true then aRest s (cl a) (cl b) (cl t) i else -1
def q_odds (V : (Nat → Int32) → Int32) (s : am_S) (t k ch : Int32) : Int32 := if isT s t = false then -1 else if k < 0 then -1 else if 12 < k then -1 else if ch < 0 then -1 else if ch ≤ 100 then pT V s (cl t) (cl k) ch else -1
def q_known (s : am_S) (T : Nat) (r : Int32) : Int32 := if isR s r = true then fd (fun i a => if kn s r i then a ||| bt i else a) 0 T 0 else -1
def q_spare (V : (Nat → Int32) → Int32) (s : am_S) (t : Int32) : Int32 := if sl s t = true then hdN V s (cl t) - warm (s 16 1) (s 16 4) else -1000000
def q_openers (s : am_S) (Q : Nat) (t : Int32) : Int32 := if sl s t = true then fd (fun i a => if nI i = s 18 (cl t) then a else if sk s i (cl t) then a ||| bt i else a) 0 Q 0 else -1
def q_tells (s : am_S) (T : Nat) (r : Int32) : Int32 := if isR s r = true then fd (fun i a => if s 18 i = r then a else if kn s r i then a + s 20 i else a) 0 T 0 else -1
def q_harden (V : (Nat → Int32) → Int32) (s : am_S) (t k : Int32) : Int32 := if sl s t = false then -1 else if nA k = true then -1 else hB V s (cl t) (cl k)
theorem nI_le12 {k : Int32} (h0 : ¬ k < 0) (h : ¬ 12 < k) : ∃ m, m ≤ 12 ∧ k = nI m := nI_of2 (M := 12) (n := 12) (by decide) h0 (Int32.not_lt.mp h)

set_option maxRecDepth 4000 in
theorem c_X11_rule {l : Launch} {g : ag_G} {s : am_S} {n : am_N} {x : Int32} : aw_E l g mi_X11_rule 1 skF [.ref (g_ad g 0), .int x] s n (.int (q_rule s x)) := by
  refine aw_E_of mo_X11_rule (by decide) (Nat.le_of_ble_eq_true rfl) ?_
  refine aw_aload_n rfl rfl ?_
  refine pg_0_8 rfl kl_X11_57 ?_
  refine aw_iV (q0 := 15) (ci := 8) rfl cw_X11_146 rfl rfl rfl (c_X8_isTold) rfl rfl (Nat.le_of_ble_eq_true rfl) (by decide) (by decide) (by decide) (by decide) ?_
  refine aw_if_ne (tgt := 12) rfl (by decide) (fun h7 => ?_) (fun h7 => ?_)
  · have q7 := bB_n0.mp h7
    rw [decide_eq_true_eq] at q7
    refine aw_iload_n rfl rfl ?_
    refine aw_sw 0 (fun h13_0 => ?_) (fun h13_0 => ?_)
    · refine aw_tabIn (off := 27) (tgt := 40) rfl (by decide) (by decide) (by decide) (by decide) ?_
      refine aw_aload_n rfl rfl ?_
      refine pg_0_8 rfl kl_X11_57 ?_
      refine pg_15_1 rfl kl_X11_149 ?_
      refine aw_iconst (v := 0) rfl (by decide) ?_
      refine pl_16 (j := 0) rfl rfl (by decide) ?_
      exact aw_ei rfl rfl (by simp [q_rule, q7, h13_0]) eo_rf
    · skip
      refine aw_sw 1 (fun h13_1 => ?_) (fun h13_1 => ?_)
      · refine aw_tabIn (off := 37) (tgt := 50) rfl (by decide) (by decide) (by decide) (by decide) ?_
        refine aw_aload_n rfl rfl ?_
        refine pg_0_8 rfl kl_X11_57 ?_
        refine pg_15_1 rfl kl_X11_149 ?_
        refine aw_iconst (v := 1) rfl (by decide) ?_
        refine pl_16 (j := 1) rfl rfl (by decide) ?_
        exact aw_ei rfl rfl (by simp [q_rule, q7, h13_0, h13_1]) eo_rf
      · skip
        refine aw_sw 2 (fun h13_2 => ?_) (fun h13_2 => ?_)
        · refine aw_tabIn (off := 47) (tgt := 60) rfl (by decide) (by decide) (by decide) (by decide) ?_
          refine aw_aload_n rfl rfl ?_
          refine pg_0_8 rfl kl_X11_57 ?_
          refine pg_15_8 rfl kl_X11_152 ?_
          exact aw_ei rfl rfl (by simp [q_rule, q7, h13_0, h13_1, h13_2]) eo_rf
        · skip
          refine aw_tabOut (tgt := 68) rfl (by have e0 := ne_toInt h13_0 (i := 0) (by decide); have e1 := ne_toInt h13_1 (i := 1) (by decide); have e2 := ne_toInt h13_2 (i := 2) (by decide); omega) (by decide) ?_
          refine aw_iconst (v := -1) rfl (by decide) ?_
          exact aw_ei rfl rfl (by simp [q_rule, q7, h13_0, h13_1, h13_2]) eo_rf
  · have q7 := bB_0.mp (by simpa using h7)
    rw [decide_eq_false_iff_not] at q7
    refine aw_iconst (v := -1) rfl (by decide) ?_
    exact aw_ei rfl rfl (by simp [q_rule, q7]) eo_rf
set_option maxRecDepth 4000 in
theorem c_X11_ring {l : Launch} {g : ag_G} {s : am_S} {n : am_N} {r x : Int32} {T Q : Nat} (hb : kb s T Q) : aw_E l g mi_X11_ring 1 skF [.ref (g_ad g 0), .int r, .int x] s n (.int (q_ring s r x)) := by
  refine aw_E_of mo_X11_ring (by decide) (Nat.le_of_ble_eq_true rfl) ?_
  refine aw_aload_n rfl rfl ?_
  refine pg_0_8 rfl kl_X11_57 ?_
  refine aw_iload_n rfl rfl ?_
  refine aw_iV (q0 := 15) (ci := 8) rfl cw_X11_180 rfl rfl rfl (c_X8_isRing) rfl rfl (Nat.le_of_ble_eq_true rfl) (by decide) (by decide) (by decide) (by decide) ?_
  refine aw_if_ne (tgt := 13) rfl (by decide) (fun h8 => ?_) (fun h8 => ?_)
  · have q8 := bB_n0.mp h8
    obtain ⟨j, hj, rfl⟩ := isR_nI hb q8
    have hQ := hb.2.2.2.1
    have hcj : cl (nI j) = j := cl_nI (by omega)
    refine aw_iload_n rfl rfl ?_
    refine aw_sw 0 (fun h14_0 => ?_) (fun h14_0 => ?_)
    · refine aw_look (off := 26) (tgt := 40) rfl (by decide) (by decide) (by decide) ?_
      refine aw_aload_n rfl rfl ?_
      refine pg_0_8 rfl kl_X11_57 ?_
      refine pg_15_1 rfl kl_X11_149 ?_
      refine aw_bipush (v := 26) rfl (by decide) ?_
      refine aw_iload_n rfl rfl ?_
      refine aw_iadd rfl ?_
      refine pl_16 rfl (iL 26 j rfl) (by omega) ?_
      exact aw_ei rfl rfl (by simp [q_ring, q8, h14_0, hcj]) eo_rf
    · skip
      refine aw_sw 1 (fun h14_1 => ?_) (fun h14_1 => ?_)
      · refine aw_look (off := 39) (tgt := 53) rfl (by decide) (by decide) (by decide) ?_
        refine aw_aload_n rfl rfl ?_
        refine pg_0_8 rfl kl_X11_57 ?_
        refine pg_15_1 rfl kl_X11_149 ?_
        refine aw_bipush (v := 31) rfl (by decide) ?_
        refine aw_iload_n rfl rfl ?_
        refine aw_iadd rfl ?_
        refine pl_16 rfl (iL 31 j rfl) (by omega) ?_
        exact aw_ei rfl rfl (by simp [q_ring, q8, h14_0, h14_1, hcj]) eo_rf
      · skip
        refine aw_look (off := 52) (tgt := 66) rfl (by decide) (by rw [lv_osw h14_0 (by decide)]; rw [lv_osw h14_1 (by decide)]; rfl) (by decide) ?_
        refine aw_iconst (v := -1) rfl (by decide) ?_
        exact aw_ei rfl rfl (by simp [q_ring, q8, h14_0, h14_1]) eo_rf
  · have q8 := bB_0.mp (by simpa using h8)
    refine aw_iconst (v := -1) rfl (by decide) ?_
    exact aw_ei rfl rfl (by simp [q_ring, q8]) eo_rf
set_option maxRecDepth 4000 in
theorem c_X11_warmth {l : Launch} {g : ag_G} {s : am_S} {n : am_N} {k : Int32} : aw_E l g mi_X11_warmth 2 skF [.ref (g_ad g 0), .int k] s n (.int (q_warmth s k)) := by
  refine aw_E_of mo_X11_warmth (by decide) (Nat.le_of_ble_eq_true rfl) ?_
  refine aw_aload_n rfl rfl ?_
  refine pg_0_8 rfl kl_X11_57 ?_
  refine aw_iV (q0 := 15) (ci := 8) rfl cw_X11_146 rfl rfl rfl (c_X8_isTold) rfl rfl (Nat.le_of_ble_eq_true rfl) (by decide) (by decide) (by decide) (by decide) ?_
  refine aw_if_eq (tgt := 20) rfl (by decide) (fun h7 => ?_) (fun h7 => ?_)
  · first | (have q7 := bB_0.mp h7; rw [decide_eq_false_iff_not] at q7) | skip
    refine aw_iconst (v := -1) rfl (by decide) ?_
    exact aw_ei rfl rfl (by first | (have q7 := bB_0.mp h7; rw [decide_eq_false_iff_not] at q7; simp [q_warmth, q7]; done) | (simp [q_warmth, q7, h11]; done) | (simp [q_warmth, q7, h11, h17]; done)) eo_rf
  · have q7 := bB_n0.mp h7
    rw [decide_eq_true_eq] at q7
    refine aw_iload_n rfl rfl ?_
    refine aw_if_lt (tgt := 20) rfl (by decide) (fun h11 => ?_) (fun h11 => ?_)
    · first | (have q7 := bB_0.mp h7; rw [decide_eq_false_iff_not] at q7) | skip
      refine aw_iconst (v := -1) rfl (by decide) ?_
      exact aw_ei rfl rfl (by first | (have q7 := bB_0.mp h7; rw [decide_eq_false_iff_not] at q7; simp [q_warmth, q7]; done) | (simp [q_warmth, q7, h11]; done) | (simp [q_warmth, q7, h11, h17]; done)) eo_rf
    · refine aw_iload_n rfl rfl ?_
      refine aw_bipush (v := 60) rfl (by decide) ?_
      refine aw_icmp_le (tgt := 22) rfl (by decide) (fun h17 => ?_) (fun h17 => ?_)
      · refine aw_aload_n rfl rfl ?_
        refine pg_0_8 rfl kl_X11_57 ?_
        refine aw_aload_n rfl rfl ?_
        refine pg_0_8 rfl kl_X11_57 ?_
        refine pg_15_1 rfl kl_X11_149 ?_
        refine aw_iconst (v := 4) rfl (by decide) ?_
        refine pl_16 (j := 4) rfl rfl (by decide) ?_
        refine aw_iload_n rfl rfl ?_
        refine aw_iadd rfl ?_
        refine aw_iV (q0 := 15) (ci := 8) rfl cw_X11_267 rfl rfl rfl (c_X8_warmthAt) rfl rfl (Nat.le_of_ble_eq_true rfl) (by decide) (by decide) (by decide) (by decide) ?_
        exact aw_ei rfl rfl (by simp [q_warmth, q7, h11, (by simpa using h17 : k ≤ 60)]) eo_rf
      · first | (have q7 := bB_0.mp h7; rw [decide_eq_false_iff_not] at q7) | skip
        refine aw_iconst (v := -1) rfl (by decide) ?_
        exact aw_ei rfl rfl (by first | (have q7 := bB_0.mp h7; rw [decide_eq_false_iff_not] at q7; simp [q_warmth, q7]; done) | (simp [q_warmth, q7, h11]; done) | (simp [q_warmth, q7, h11, h17]; done)) eo_rf
set_option maxRecDepth 4000 in
theorem c_X11_lasts {l : Launch} {g : ag_G} {s : am_S} {n : am_N} {t : Int32} {T Q : Nat} (hb : kb s T Q) {V : (Nat → Int32) → Int32} (hV : LawIs l g s n V) : aw_E l g mi_X11_lasts 7 skF [.ref (g_ad g 0), .int t] s n (.int (q_lasts V s t)) := by
  refine aw_E_of mo_X11_lasts (by decide) (Nat.le_of_ble_eq_true rfl) ?_
  refine aw_aload_n rfl rfl ?_
  refine pg_0_8 rfl kl_X11_57 ?_
  refine aw_iload_n rfl rfl ?_
  refine aw_iV (q0 := 15) (ci := 8) rfl cw_X11_155 rfl rfl rfl (c_X8_isThing) rfl rfl (Nat.le_of_ble_eq_true rfl) (by decide) (by decide) (by decide) (by decide) ?_
  refine aw_if_eq (tgt := 22) rfl (by decide) (fun h8 => ?_) (fun h8 => ?_)
  · refine aw_iconst (v := -1) rfl (by decide) ?_
    exact aw_ei rfl rfl (by first | (simp [q_lasts, q8, hcj]; done) | (simp [q_lasts, bB_0.mp h8]; done)) (by first | exact (eo_CF e1) | exact eo_rf)
  · have q8 := bB_n0.mp h8
    obtain ⟨j, hj, rfl⟩ := isT_nI hb q8
    have hT := hb.2.1
    have hcj : cl (nI j) = j := cl_nI (by omega)
    refine aw_aload_n rfl rfl ?_
    refine pg_0_10 rfl kl_X11_73 ?_
    refine aw_iload_n rfl rfl ?_
    refine aw_eV (q0 := 27) (ci := 3) rfl cw_X11_270 rfl rfl rfl (c_X3_monthsTillMelt hb hj hV) rfl rfl (Nat.le_of_ble_eq_true rfl) (by decide) (by decide) (by decide) (by decide) (fun s1 e1 => ?_)
    refine aw_goto (tgt := 23) rfl (by decide) ?_
    exact aw_ei rfl rfl (by first | (simp [q_lasts, q8, hcj]; done) | (simp [q_lasts, bB_0.mp h8]; done)) (by first | exact (eo_CF e1) | exact eo_rf)
set_option maxRecDepth 4000 in
theorem c_X11_isNotAhead {l : Launch} {g : ag_G} {s : am_S} {n : am_N} {k : Int32} : aw_F l g mi_X11_isNotAhead 0 [.int k] (hp g s n) (.int (bB (nA k))) (hp g s n) := by
  refine aw_F_of mo_X11_isNotAhead (by decide) (Nat.le_of_ble_eq_true rfl) ?_
  refine aw_iload_n rfl rfl ?_
  refine aw_iconst (v := 1) rfl (by decide) ?_
  refine aw_icmp_lt (tgt := 11) rfl (by decide) (fun h2 => ?_) (fun h2 => ?_)
  · refine aw_iconst (v := 1) rfl (by decide) ?_
    refine aw_goto (tgt := 16) rfl (by decide) ?_
    exact aw_fz rfl rfl (by first | exact Or.inl rfl | exact Or.inr rfl | exact bB_01) (by first | (simp [nA, h2, bB]; done) | (simp [nA, h2, (by simpa using h8 : k ≤ 24), bB]; done) | (simp [nA, h2, h8, bB]; done)) rfl
  · refine aw_iload_n rfl rfl ?_
    refine aw_bipush (v := 24) rfl (by decide) ?_
    refine aw_icmp_le (tgt := 15) rfl (by decide) (fun h8 => ?_) (fun h8 => ?_)
    · refine aw_iconst (v := 0) rfl (by decide) ?_
      exact aw_fz rfl rfl (by first | exact Or.inl rfl | exact Or.inr rfl | exact bB_01) (by first | (simp [nA, h2, bB]; done) | (simp [nA, h2, (by simpa using h8 : k ≤ 24), bB]; done) | (simp [nA, h2, h8, bB]; done)) rfl
    · refine aw_iconst (v := 1) rfl (by decide) ?_
      refine aw_goto (tgt := 16) rfl (by decide) ?_
      exact aw_fz rfl rfl (by first | exact Or.inl rfl | exact Or.inr rfl | exact bB_01) (by first | (simp [nA, h2, bB]; done) | (simp [nA, h2, (by simpa using h8 : k ≤ 24), bB]; done) | (simp [nA, h2, h8, bB]; done)) rfl
set_option maxRecDepth 4000 in
theorem c_X11_isNoChoice {l : Launch} {g : ag_G} {s : am_S} {n : am_N} {k : Int32} : aw_F l g mi_X11_isNoChoice 0 [.int k] (hp g s n) (.int (bB (nC k))) (hp g s n) := by
  refine aw_F_of mo_X11_isNoChoice (by decide) (Nat.le_of_ble_eq_true rfl) ?_
  refine aw_iload_n rfl rfl ?_
  refine aw_if_lt (tgt := 9) rfl (by decide) (fun h1 => ?_) (fun h1 => ?_)
  · refine aw_iconst (v := 1) rfl (by decide) ?_
    refine aw_goto (tgt := 14) rfl (by decide) ?_
    exact aw_fz rfl rfl (by first | exact Or.inl rfl | exact Or.inr rfl | exact bB_01) (by first | (simp [nC, h1, bB]; done) | (simp [nC, h1, (by simpa using h6 : k ≤ 1), bB]; done) | (simp [nC, h1, h6, bB]; done)) rfl
  · refine aw_iload_n rfl rfl ?_
    refine aw_iconst (v := 1) rfl (by decide) ?_
    refine aw_icmp_le (tgt := 13) rfl (by decide) (fun h6 => ?_) (fun h6 => ?_)
    · refine aw_iconst (v := 0) rfl (by decide) ?_
      exact aw_fz rfl rfl (by first | exact Or.inl rfl | exact Or.inr rfl | exact bB_01) (by first | (simp [nC, h1, bB]; done) | (simp [nC, h1, (by simpa using h6 : k ≤ 1), bB]; done) | (simp [nC, h1, h6, bB]; done)) rfl
    · refine aw_iconst (v := 1) rfl (by decide) ?_
      refine aw_goto (tgt := 14) rfl (by decide) ?_
      exact aw_fz rfl rfl (by first | exact Or.inl rfl | exact Or.inr rfl | exact bB_01) (by first | (simp [nC, h1, bB]; done) | (simp [nC, h1, (by simpa using h6 : k ≤ 1), bB]; done) | (simp [nC, h1, h6, bB]; done)) rfl
set_option maxRecDepth 4000 in
theorem c_X11_isAskedAhead {l : Launch} {g : ag_G} {s : am_S} {n : am_N} {k x : Int32} : aw_F l g mi_X11_isAskedAhead 1 [.ref (g_ad g 0), .int k, .int x] (hp g s n) (.int (bB (aA s k x))) (hp g s n) := by
  refine aw_F_of mo_X11_isAskedAhead (by decide) (Nat.le_of_ble_eq_true rfl) ?_
  refine aw_aload_n rfl rfl ?_
  refine pg_0_8 rfl kl_X11_57 ?_
  refine aw_iV (q0 := 15) (ci := 8) rfl cw_X11_146 rfl rfl rfl (c_X8_isTold) rfl rfl (Nat.le_of_ble_eq_true rfl) (by decide) (by decide) (by decide) (by decide) ?_
  refine aw_if_eq (tgt := 30) rfl (by decide) (fun h7 => ?_) (fun h7 => ?_)
  · refine aw_iconst (v := 0) rfl (by decide) ?_
    exact aw_fz rfl rfl (by first | exact Or.inl rfl | exact Or.inr rfl | exact bB_01) (by first | (have z := bB_0.mp h7; simp only [aA, z]; rfl) | (have z := bB_n0.mp h14; simp [aA, z, bB]; done) | (have z1 := bB_n0.mp h7; have z2 := bB_0.mp (by simpa using h14); rw [decide_eq_true_eq] at z1; first | (simp [aA, z1, z2, h18, bB]; done) | (simp [aA, z1, z2, h18, h23, bB]; done))) rfl
  · refine aw_iload_n rfl rfl ?_
    refine aw_iS rfl cw_X11_273 (c_X11_isNotAhead) rfl rfl (Nat.le_of_ble_eq_true rfl) (by decide) (by decide) (by decide) (by decide) ?_
    refine aw_if_ne (tgt := 30) rfl (by decide) (fun h14 => ?_) (fun h14 => ?_)
    · refine aw_iconst (v := 0) rfl (by decide) ?_
      exact aw_fz rfl rfl (by first | exact Or.inl rfl | exact Or.inr rfl | exact bB_01) (by first | (have z := bB_0.mp h7; simp only [aA, z]; rfl) | (have z := bB_n0.mp h14; simp [aA, z, bB]; done) | (have z1 := bB_n0.mp h7; have z2 := bB_0.mp (by simpa using h14); rw [decide_eq_true_eq] at z1; first | (simp [aA, z1, z2, h18, bB]; done) | (simp [aA, z1, z2, h18, h23, bB]; done))) rfl
    · refine aw_iload_n rfl rfl ?_
      refine aw_if_lt (tgt := 30) rfl (by decide) (fun h18 => ?_) (fun h18 => ?_)
      · refine aw_iconst (v := 0) rfl (by decide) ?_
        exact aw_fz rfl rfl (by first | exact Or.inl rfl | exact Or.inr rfl | exact bB_01) (by first | (have z := bB_0.mp h7; simp only [aA, z]; rfl) | (have z := bB_n0.mp h14; simp [aA, z, bB]; done) | (have z1 := bB_n0.mp h7; have z2 := bB_0.mp (by simpa using h14); rw [decide_eq_true_eq] at z1; first | (simp [aA, z1, z2, h18, bB]; done) | (simp [aA, z1, z2, h18, h23, bB]; done))) rfl
      · refine aw_iload_n rfl rfl ?_
        refine aw_iconst (v := 1) rfl (by decide) ?_
        refine aw_icmp_gt (tgt := 30) rfl (by decide) (fun h23 => ?_) (fun h23 => ?_)
        · refine aw_iconst (v := 0) rfl (by decide) ?_
          exact aw_fz rfl rfl (by first | exact Or.inl rfl | exact Or.inr rfl | exact bB_01) (by first | (have z := bB_0.mp h7; simp only [aA, z]; rfl) | (have z := bB_n0.mp h14; simp [aA, z, bB]; done) | (have z1 := bB_n0.mp h7; have z2 := bB_0.mp (by simpa using h14); rw [decide_eq_true_eq] at z1; first | (simp [aA, z1, z2, h18, bB]; done) | (simp [aA, z1, z2, h18, h23, bB]; done))) rfl
        · refine aw_iconst (v := 1) rfl (by decide) ?_
          refine aw_goto (tgt := 31) rfl (by decide) ?_
          exact aw_fz rfl rfl (by first | exact Or.inl rfl | exact Or.inr rfl | exact bB_01) (by first | (have z := bB_0.mp h7; simp only [aA, z]; rfl) | (have z := bB_n0.mp h14; simp [aA, z, bB]; done) | (have z1 := bB_n0.mp h7; have z2 := bB_0.mp (by simpa using h14); rw [decide_eq_true_eq] at z1; first | (simp [aA, z1, z2, h18, bB]; done) | (simp [aA, z1, z2, h18, h23, bB]; done))) rfl
set_option maxRecDepth 4000 in
theorem c_X11_pack {l : Launch} {g : ag_G} {s : am_S} {n : am_N} {k x : Int32} {T Q : Nat} (hb : kb s T Q) (hvb : vb s T) {V : (Nat → Int32) → Int32} (hV : LawIs l g s n V) : aw_E l g mi_X11_pack 8 skF [.ref (g_ad g 0), .int k, .int x] s n (.int (q_pack V s T k x)) := by
  refine aw_E_of mo_X11_pack (by decide) (Nat.le_of_ble_eq_true rfl) ?_
  refine aw_aload_n rfl rfl ?_
  refine aw_iload_n rfl rfl ?_
  refine aw_iload_n rfl rfl ?_
  refine aw_iV (q0 := 0) (ci := 11) rfl cw_X11_279 rfl rfl rfl (c_X11_isAskedAhead) rfl rfl (Nat.le_of_ble_eq_true rfl) (by decide) (by decide) (by decide) (by decide) ?_
  refine aw_if_eq (tgt := 21) rfl (by decide) (fun h6 => ?_) (fun h6 => ?_)
  · refine aw_iconst (v := -1) rfl (by decide) ?_
    exact aw_ei rfl rfl (by first | (simp [q_pack, q6, hcm]; done) | (simp [q_pack, bB_0.mp h6]; done)) (by first | exact e1 | exact eo_rf)
  · have q6 := bB_n0.mp h6
    have q6b : nA k = false := by (unfold aA at q6; simp only [Bool.and_eq_true, Bool.not_eq_true'] at q6; exact q6.2.1)
    obtain ⟨m, hm, rfl⟩ := nA_nI q6b
    have hcm : cl (nI m) = m := cl_nI (by omega)
    refine aw_aload_n rfl rfl ?_
    refine pg_0_10 rfl kl_X11_73 ?_
    refine aw_iload_n rfl rfl ?_
    refine aw_iload_n rfl rfl ?_
    refine aw_eV (q0 := 27) (ci := 3) rfl cw_X11_283 rfl rfl rfl (c_X3_bestKept hb hvb (by omega) hV) rfl rfl (Nat.le_of_ble_eq_true rfl) (by decide) (by decide) (by decide) (by decide) (fun s1 e1 => ?_)
    refine aw_goto (tgt := 22) rfl (by decide) ?_
    exact aw_ei rfl rfl (by first | (simp [q_pack, q6, hcm]; done) | (simp [q_pack, bB_0.mp h6]; done)) (by first | exact e1 | exact eo_rf)
set_option maxRecDepth 4000 in
theorem c_X11_order {l : Launch} {g : ag_G} {s : am_S} {n : am_N} {x : Int32} {T Q : Nat} (hb : kb s T Q) {V : (Nat → Int32) → Int32} (hV : LawIs l g s n V) : aw_E l g mi_X11_order 7 skF [.ref (g_ad g 0), .int x] s n (.int (q_order V s T x)) := by
  refine aw_E_of mo_X11_order (by decide) (Nat.le_of_ble_eq_true rfl) ?_
  refine aw_aload_n rfl rfl ?_
  refine aw_iconst (v := 1) rfl (by decide) ?_
  refine aw_iload_n rfl rfl ?_
  refine aw_iV (q0 := 0) (ci := 11) rfl cw_X11_279 rfl rfl rfl (c_X11_isAskedAhead) rfl rfl (Nat.le_of_ble_eq_true rfl) (by decide) (by decide) (by decide) (by decide) ?_
  refine aw_if_eq (tgt := 22) rfl (by decide) (fun h6 => ?_) (fun h6 => ?_)
  · refine aw_iconst (v := -1) rfl (by decide) ?_
    exact aw_ei rfl rfl (by first | (simp [q_order, bB_n0.mp h6]; done) | (simp [q_order, bB_0.mp h6]; done)) (by first | exact e1 | exact eo_rf)
  · refine aw_aload_n rfl rfl ?_
    refine pg_0_10 rfl kl_X11_73 ?_
    refine aw_bipush (v := 24) rfl (by decide) ?_
    refine aw_iload_n rfl rfl ?_
    refine aw_eV (q0 := 27) (ci := 3) rfl cw_X11_286 rfl rfl rfl (c_X3_melting (m := 24) hb (by decide) hV) rfl rfl (Nat.le_of_ble_eq_true rfl) (by decide) (by decide) (by decide) (by decide) (fun s1 e1 => ?_)
    refine aw_goto (tgt := 23) rfl (by decide) ?_
    exact aw_ei rfl rfl (by first | (simp [q_order, bB_n0.mp h6]; done) | (simp [q_order, bB_0.mp h6]; done)) (by first | exact e1 | exact eo_rf)
set_option maxRecDepth 4000 in
theorem c_X11_dealt {l : Launch} {g : ag_G} {s : am_S} {n : am_N} {k x : Int32} {T Q : Nat} (hb : kb s T Q) {V : (Nat → Int32) → Int32} (hV : LawIs l g s n V) : aw_E l g mi_X11_dealt 7 skF [.ref (g_ad g 0), .int k, .int x] s n (.int (q_dealt V s T k x)) := by
  refine aw_E_of mo_X11_dealt (by decide) (Nat.le_of_ble_eq_true rfl) ?_
  refine aw_aload_n rfl rfl ?_
  refine aw_iload_n rfl rfl ?_
  refine aw_iload_n rfl rfl ?_
  refine aw_iV (q0 := 0) (ci := 11) rfl cw_X11_279 rfl rfl rfl (c_X11_isAskedAhead) rfl rfl (Nat.le_of_ble_eq_true rfl) (by decide) (by decide) (by decide) (by decide) ?_
  refine aw_if_eq (tgt := 21) rfl (by decide) (fun h6 => ?_) (fun h6 => ?_)
  · refine aw_iconst (v := -1) rfl (by decide) ?_
    exact aw_ei rfl rfl (by first | (simp [q_dealt, q6, hcm]; done) | (simp [q_dealt, bB_0.mp h6]; done)) (by first | exact e1 | exact eo_rf)
  · have q6 := bB_n0.mp h6
    have q6b : nA k = false := by (unfold aA at q6; simp only [Bool.and_eq_true, Bool.not_eq_true'] at q6; exact q6.2.1)
    obtain ⟨m, hm, rfl⟩ := nA_nI q6b
    have hcm : cl (nI m) = m := cl_nI (by omega)
    have hT0 : 0 < T := by (unfold aA at q6; simp only [Bool.and_eq_true, decide_eq_true_eq] at q6; have q7 := q6.1; rw [hb.1] at q7; exact (nI_ltI (a := 0) (by decide) (by have := hb.2.1; omega)).mp q7)
    refine aw_aload_n rfl rfl ?_
    refine pg_0_10 rfl kl_X11_73 ?_
    refine aw_iload_n rfl rfl ?_
    refine aw_iload_n rfl rfl ?_
    refine aw_eV (q0 := 27) (ci := 3) rfl cw_X11_289 rfl rfl rfl (c_X3_dealing hb hT0 (by omega) hV) rfl rfl (Nat.le_of_ble_eq_true rfl) (by decide) (by decide) (by decide) (by decide) (fun s1 e1 => ?_)
    refine aw_goto (tgt := 22) rfl (by decide) ?_
    exact aw_ei rfl rfl (by first | (simp [q_dealt, q6, hcm]; done) | (simp [q_dealt, bB_0.mp h6]; done)) (by first | exact e1 | exact eo_rf)
set_option maxRecDepth 4000 in
theorem c_X11_who {l : Launch} {g : ag_G} {s : am_S} {n : am_N} {N : Nat} {i : Int32} {T Q : Nat} (hb : kb s T Q) (hn : nb s N) : aw_E l g mi_X11_who 5 skF [.ref (g_ad g 0), .int i] s n (.int (q_who s N T Q i)) := by
  refine aw_E_of mo_X11_who (by decide) (Nat.le_of_ble_eq_true rfl) ?_
  refine aw_aload_n rfl rfl ?_
  refine pg_0_8 rfl kl_X11_57 ?_
  refine aw_iV (q0 := 15) (ci := 8) rfl cw_X11_146 rfl rfl rfl (c_X8_isTold) rfl rfl (Nat.le_of_ble_eq_true rfl) (by decide) (by decide) (by decide) (by decide) ?_
  refine aw_if_eq (tgt := 21) rfl (by decide) (fun h7 => ?_) (fun h7 => ?_)
  · refine aw_iconst (v := -1) rfl (by decide) ?_
    exact aw_ei rfl rfl (by first | (have z := bB_n0.mp h7; rw [decide_eq_true_eq] at z; simp [q_who, z]; done) | (have z := bB_0.mp h7; rw [decide_eq_false_iff_not] at z; simp [q_who, z]; done)) (by first | exact e1 | exact eo_rf)
  · refine aw_aload_n rfl rfl ?_
    refine pg_0_11 rfl kl_X11_80 ?_
    refine aw_iload_n rfl rfl ?_
    refine aw_eV (q0 := 32) (ci := 7) rfl cw_X11_295 rfl rfl rfl (c_X7_fitting hb hn) rfl rfl (Nat.le_of_ble_eq_true rfl) (by decide) (by decide) (by decide) (by decide) (fun s1 e1 => ?_)
    refine aw_goto (tgt := 22) rfl (by decide) ?_
    exact aw_ei rfl rfl (by first | (have z := bB_n0.mp h7; rw [decide_eq_true_eq] at z; simp [q_who, z]; done) | (have z := bB_0.mp h7; rw [decide_eq_false_iff_not] at z; simp [q_who, z]; done)) (by first | exact e1 | exact eo_rf)
set_option maxRecDepth 4000 in
theorem c_X11_ask {l : Launch} {g : ag_G} {s : am_S} {n : am_N} {N : Nat} {T Q : Nat} (hb : kb s T Q) (hn : nb s N) : aw_E l g mi_X11_ask 5 skF [.ref (g_ad g 0)] s n (.int (q_ask s N T Q)) := by
  refine aw_E_of mo_X11_ask (by decide) (Nat.le_of_ble_eq_true rfl) ?_
  refine aw_aload_n rfl rfl ?_
  refine pg_0_8 rfl kl_X11_57 ?_
  refine aw_iV (q0 := 15) (ci := 8) rfl cw_X11_146 rfl rfl rfl (c_X8_isTold) rfl rfl (Nat.le_of_ble_eq_true rfl) (by decide) (by decide) (by decide) (by decide) ?_
  refine aw_if_eq (tgt := 20) rfl (by decide) (fun h7 => ?_) (fun h7 => ?_)
  · refine aw_iconst (v := -1) rfl (by decide) ?_
    exact aw_ei rfl rfl (by first | (have z := bB_n0.mp h7; rw [decide_eq_true_eq] at z; simp [q_ask, z]; done) | (have z := bB_0.mp h7; rw [decide_eq_false_iff_not] at z; simp [q_ask, z]; done)) (by first | exact e1 | exact eo_rf)
  · refine aw_aload_n rfl rfl ?_
    refine pg_0_11 rfl kl_X11_80 ?_
    refine aw_eV (q0 := 32) (ci := 7) rfl cw_X11_298 rfl rfl rfl (c_X7_bestQuestion hb hn) rfl rfl (Nat.le_of_ble_eq_true rfl) (by decide) (by decide) (by decide) (by decide) (fun s1 e1 => ?_)
    refine aw_goto (tgt := 21) rfl (by decide) ?_
    exact aw_ei rfl rfl (by first | (have z := bB_n0.mp h7; rw [decide_eq_true_eq] at z; simp [q_ask, z]; done) | (have z := bB_0.mp h7; rw [decide_eq_false_iff_not] at z; simp [q_ask, z]; done)) (by first | exact e1 | exact eo_rf)
set_option maxRecDepth 4000 in
theorem c_X11_known {l : Launch} {g : ag_G} {s : am_S} {n : am_N} {r : Int32} {T Q : Nat} (hb : kb s T Q) : aw_E l g mi_X11_known 3 skF [.ref (g_ad g 0), .int r] s n (.int (q_known s T r)) := by
  refine aw_E_of mo_X11_known (by decide) (Nat.le_of_ble_eq_true rfl) ?_
  refine aw_aload_n rfl rfl ?_
  refine pg_0_8 rfl kl_X11_57 ?_
  refine aw_iload_n rfl rfl ?_
  refine aw_iV (q0 := 15) (ci := 8) rfl cw_X11_180 rfl rfl rfl (c_X8_isRing) rfl rfl (Nat.le_of_ble_eq_true rfl) (by decide) (by decide) (by decide) (by decide) ?_
  refine aw_if_eq (tgt := 22) rfl (by decide) (fun h8 => ?_) (fun h8 => ?_)
  · refine aw_iconst (v := -1) rfl (by decide) ?_
    exact aw_ei rfl rfl (by first | (simp [q_known, bB_n0.mp h8]; done) | (simp [q_known, bB_0.mp h8]; done)) (by first | exact eo_rf)
  · refine aw_aload_n rfl rfl ?_
    refine pg_0_8 rfl kl_X11_57 ?_
    refine aw_iload_n rfl rfl ?_
    refine aw_iV (q0 := 15) (ci := 8) rfl cw_X11_337 rfl rfl rfl (c_X8_knownTo hb) rfl rfl (Nat.le_of_ble_eq_true rfl) (by decide) (by decide) (by decide) (by decide) ?_
    refine aw_goto (tgt := 23) rfl (by decide) ?_
    exact aw_ei rfl rfl (by first | (simp [q_known, bB_n0.mp h8]; done) | (simp [q_known, bB_0.mp h8]; done)) (by first | exact eo_rf)
set_option maxRecDepth 4000 in
theorem c_X11_tells {l : Launch} {g : ag_G} {s : am_S} {n : am_N} {r : Int32} {T Q : Nat} (hb : kb s T Q) : aw_E l g mi_X11_tells 3 skF [.ref (g_ad g 0), .int r] s n (.int (q_tells s T r)) := by
  refine aw_E_of mo_X11_tells (by decide) (Nat.le_of_ble_eq_true rfl) ?_
  refine aw_aload_n rfl rfl ?_
  refine pg_0_8 rfl kl_X11_57 ?_
  refine aw_iload_n rfl rfl ?_
  refine aw_iV (q0 := 15) (ci := 8) rfl cw_X11_180 rfl rfl rfl (c_X8_isRing) rfl rfl (Nat.le_of_ble_eq_true rfl) (by decide) (by decide) (by decide) (by decide) ?_
  refine aw_if_eq (tgt := 22) rfl (by decide) (fun h8 => ?_) (fun h8 => ?_)
  · refine aw_iconst (v := -1) rfl (by decide) ?_
    exact aw_ei rfl rfl (by first | (simp [q_tells, bB_n0.mp h8]; done) | (simp [q_tells, bB_0.mp h8]; done)) (by first | exact eo_rf)
  · refine aw_aload_n rfl rfl ?_
    refine pg_0_8 rfl kl_X11_57 ?_
    refine aw_iload_n rfl rfl ?_
    refine aw_iV (q0 := 15) (ci := 8) rfl cw_X11_346 rfl rfl rfl (c_X8_depthKnownOfOthers hb) rfl rfl (Nat.le_of_ble_eq_true rfl) (by decide) (by decide) (by decide) (by decide) ?_
    refine aw_goto (tgt := 23) rfl (by decide) ?_
    exact aw_ei rfl rfl (by first | (simp [q_tells, bB_n0.mp h8]; done) | (simp [q_tells, bB_0.mp h8]; done)) (by first | exact eo_rf)
set_option maxRecDepth 4000 in
theorem c_X11_openers {l : Launch} {g : ag_G} {s : am_S} {n : am_N} {t : Int32} {T Q : Nat} (hb : kb s T Q) : aw_E l g mi_X11_openers 3 skF [.ref (g_ad g 0), .int t] s n (.int (q_openers s Q t)) := by
  refine aw_E_of mo_X11_openers (by decide) (Nat.le_of_ble_eq_true rfl) ?_
  refine aw_aload_n rfl rfl ?_
  refine pg_0_8 rfl kl_X11_57 ?_
  refine aw_iload_n rfl rfl ?_
  refine aw_iV (q0 := 15) (ci := 8) rfl cw_X11_340 rfl rfl rfl (c_X8_isSealed hb) rfl rfl (Nat.le_of_ble_eq_true rfl) (by decide) (by decide) (by decide) (by decide) ?_
  refine aw_if_eq (tgt := 22) rfl (by decide) (fun h8 => ?_) (fun h8 => ?_)
  · refine aw_iconst (v := -1) rfl (by decide) ?_
    exact aw_ei rfl rfl (by first | (simp [q_openers, q8, hcj]; done) | (simp [q_openers, bB_0.mp h8]; done)) (by first | exact eo_rf)
  · have q8 := bB_n0.mp h8
    obtain ⟨j, hj, rfl⟩ := isT_nI hb (Bool.and_eq_true_iff.mp q8).1
    have hT := hb.2.1
    have hcj : cl (nI j) = j := cl_nI (by omega)
    refine aw_aload_n rfl rfl ?_
    refine pg_0_8 rfl kl_X11_57 ?_
    refine aw_iload_n rfl rfl ?_
    refine aw_iV (q0 := 15) (ci := 8) rfl cw_X11_343 rfl rfl rfl (c_X8_skilledFor (by omega) hb) rfl rfl (Nat.le_of_ble_eq_true rfl) (by decide) (by decide) (by decide) (by decide) ?_
    refine aw_goto (tgt := 23) rfl (by decide) ?_
    exact aw_ei rfl rfl (by first | (simp [q_openers, q8, hcj]; done) | (simp [q_openers, bB_0.mp h8]; done)) (by first | exact eo_rf)
set_option maxRecDepth 4000 in
theorem c_X11_spare {l : Launch} {g : ag_G} {s : am_S} {n : am_N} {t : Int32} {T Q : Nat} (hb : kb s T Q) {V : (Nat → Int32) → Int32} (hV : LawIs l g s n V) : aw_E l g mi_X11_spare 5 skF [.ref (g_ad g 0), .int t] s n (.int (q_spare V s t)) := by
  refine aw_E_of mo_X11_spare (by decide) (Nat.le_of_ble_eq_true rfl) ?_
  refine aw_aload_n rfl rfl ?_
  refine pg_0_8 rfl kl_X11_57 ?_
  refine aw_iload_n rfl rfl ?_
  refine aw_iV (q0 := 15) (ci := 8) rfl cw_X11_340 rfl rfl rfl (c_X8_isSealed hb) rfl rfl (Nat.le_of_ble_eq_true rfl) (by decide) (by decide) (by decide) (by decide) ?_
  refine aw_if_ne (tgt := 15) rfl (by decide) (fun h8 => ?_) (fun h8 => ?_)
  · have q8 := bB_n0.mp h8
    obtain ⟨j, hj, rfl⟩ := isT_nI hb (Bool.and_eq_true_iff.mp q8).1
    have hT := hb.2.1
    have hcj : cl (nI j) = j := cl_nI (by omega)
    refine aw_aload_n rfl rfl ?_
    refine pg_0_8 rfl kl_X11_57 ?_
    refine aw_iload_n rfl rfl ?_
    refine aw_eV (q0 := 15) (ci := 8) rfl cw_X11_175 rfl rfl rfl (c_X8_holdsNow hb hj hV) rfl rfl (Nat.le_of_ble_eq_true rfl) (by decide) (by decide) (by decide) (by decide) (fun s1 e1 => ?_)
    refine aw_aload_n rfl rfl ?_
    refine pg_0_8 rfl kl_X11_57 ?_
    refine aw_iV (q0 := 15) (ci := 8) rfl cw_X11_211 rfl rfl rfl (c_X8_warmthNow) rfl rfl (Nat.le_of_ble_eq_true rfl) (by decide) (by decide) (by decide) (by decide) ?_
    refine aw_isub rfl ?_
    exact aw_ei rfl rfl (by rw [e1 16 1 rfl, e1 16 4 rfl]; simp [q_spare, q8, hcj]) (eo_CF e1)
  · refine aw_ldcw (v := -1000000) rfl (aw_t4 89 rfl rfl) ?_
    exact aw_ei rfl rfl (by simp [q_spare, bB_0.mp (by simpa using h8)]) eo_rf
set_option maxRecDepth 4000 in
theorem c_X11_harden {l : Launch} {g : ag_G} {s : am_S} {n : am_N} {t k : Int32} {T Q : Nat} (hb : kb s T Q) {V : (Nat → Int32) → Int32} (hV : LawIs l g s n V) : aw_E l g mi_X11_harden 7 skF [.ref (g_ad g 0), .int t, .int k] s n (.int (q_harden V s t k)) := by
  refine aw_E_of mo_X11_harden (by decide) (Nat.le_of_ble_eq_true rfl) ?_
  refine aw_aload_n rfl rfl ?_
  refine pg_0_8 rfl kl_X11_57 ?_
  refine aw_iload_n rfl rfl ?_
  refine aw_iV (q0 := 15) (ci := 8) rfl cw_X11_340 rfl rfl rfl (c_X8_isSealed hb) rfl rfl (Nat.le_of_ble_eq_true rfl) (by decide) (by decide) (by decide) (by decide) ?_
  refine aw_if_eq (tgt := 18) rfl (by decide) (fun h8 => ?_) (fun h8 => ?_)
  · refine aw_iconst (v := -1) rfl (by decide) ?_
    refine aw_goto (tgt := 31) rfl (by decide) ?_
    exact aw_ei rfl rfl (by first | (simp [q_harden, q8, q15, hcj, hcm]; done) | (simp [q_harden, bB_0.mp h8]; done) | (simp [q_harden, q8, bB_n0.mp h15]; done)) (by first | exact (eo_CF e1) | exact eo_rf)
  · have q8 := bB_n0.mp h8
    obtain ⟨j, hj, rfl⟩ := isT_nI hb (Bool.and_eq_true_iff.mp q8).1
    have hT := hb.2.1
    have hcj : cl (nI j) = j := cl_nI (by omega)
    refine aw_iload_n rfl rfl ?_
    refine aw_iS rfl cw_X11_273 (c_X11_isNotAhead) rfl rfl (Nat.le_of_ble_eq_true rfl) (by decide) (by decide) (by decide) (by decide) ?_
    refine aw_if_eq (tgt := 22) rfl (by decide) (fun h15 => ?_) (fun h15 => ?_)
    · have q15 := bB_0.mp h15
      obtain ⟨m, hm, rfl⟩ := nA_nI q15
      have hcm : cl (nI m) = m := cl_nI (by omega)
      refine aw_aload_n rfl rfl ?_
      refine pg_0_10 rfl kl_X11_73 ?_
      refine aw_iload_n rfl rfl ?_
      refine aw_iload_n rfl rfl ?_
      refine aw_eV (q0 := 27) (ci := 3) rfl cw_X11_349 rfl rfl rfl (c_X3_harderBy hb hj (by omega) hV) rfl rfl (Nat.le_of_ble_eq_true rfl) (by decide) (by decide) (by decide) (by decide) (fun s1 e1 => ?_)
      exact aw_ei rfl rfl (by first | (simp [q_harden, q8, q15, hcj, hcm]; done) | (simp [q_harden, bB_0.mp h8]; done) | (simp [q_harden, q8, bB_n0.mp h15]; done)) (by first | exact (eo_CF e1) | exact eo_rf)
    · refine aw_iconst (v := -1) rfl (by decide) ?_
      refine aw_goto (tgt := 31) rfl (by decide) ?_
      exact aw_ei rfl rfl (by first | (simp [q_harden, q8, q15, hcj, hcm]; done) | (simp [q_harden, bB_0.mp h8]; done) | (simp [q_harden, q8, bB_n0.mp h15]; done)) (by first | exact (eo_CF e1) | exact eo_rf)
set_option maxRecDepth 4000 in
theorem c_X11_odds {l : Launch} {g : ag_G} {s : am_S} {n : am_N} {t k ch : Int32} {T Q : Nat} (hb : kb s T Q) {V : (Nat → Int32) → Int32} (hV : LawIs l g s n V) : aw_E l g mi_X11_odds 5 skF [.ref (g_ad g 0), .int t, .int k, .int ch] s n (.int (q_odds V s t k ch)) := by
  refine aw_E_of mo_X11_odds (by decide) (Nat.le_of_ble_eq_true rfl) ?_
  refine aw_aload_n rfl rfl ?_
  refine pg_0_8 rfl kl_X11_57 ?_
  refine aw_iload_n rfl rfl ?_
  refine aw_iV (q0 := 15) (ci := 8) rfl cw_X11_155 rfl rfl rfl (c_X8_isThing) rfl rfl (Nat.le_of_ble_eq_true rfl) (by decide) (by decide) (by decide) (by decide) ?_
  refine aw_if_eq (tgt := 31) rfl (by decide) (fun h8 => ?_) (fun h8 => ?_)
  · refine aw_iconst (v := -1) rfl (by decide) ?_
    exact aw_ei rfl rfl (by first | (simp [q_odds, bB_0.mp h8]; done) | (simp [q_odds, q8, h12]; done) | (simp [q_odds, q8, h12, h18]; done) | (simp [q_odds, q8, h12, h18, h22]; done) | (simp [q_odds, q8, h12, h18, h22, h28]; done)) eo_rf
  · have q8 := bB_n0.mp h8
    obtain ⟨j, hj, rfl⟩ := isT_nI hb q8
    have hT := hb.2.1
    have hcj : cl (nI j) = j := cl_nI (by omega)
    refine aw_iload_n rfl rfl ?_
    refine aw_if_lt (tgt := 31) rfl (by decide) (fun h12 => ?_) (fun h12 => ?_)
    · refine aw_iconst (v := -1) rfl (by decide) ?_
      exact aw_ei rfl rfl (by first | (simp [q_odds, bB_0.mp h8]; done) | (simp [q_odds, q8, h12]; done) | (simp [q_odds, q8, h12, h18]; done) | (simp [q_odds, q8, h12, h18, h22]; done) | (simp [q_odds, q8, h12, h18, h22, h28]; done)) eo_rf
    · refine aw_iload_n rfl rfl ?_
      refine aw_bipush (v := 12) rfl (by decide) ?_
      refine aw_icmp_gt (tgt := 31) rfl (by decide) (fun h18 => ?_) (fun h18 => ?_)
      · refine aw_iconst (v := -1) rfl (by decide) ?_
        exact aw_ei rfl rfl (by first | (simp [q_odds, bB_0.mp h8]; done) | (simp [q_odds, q8, h12]; done) | (simp [q_odds, q8, h12, h18]; done) | (simp [q_odds, q8, h12, h18, h22]; done) | (simp [q_odds, q8, h12, h18, h22, h28]; done)) eo_rf
      · refine aw_iload_n rfl rfl ?_
        refine aw_if_lt (tgt := 31) rfl (by decide) (fun h22 => ?_) (fun h22 => ?_)
        · refine aw_iconst (v := -1) rfl (by decide) ?_
          exact aw_ei rfl rfl (by first | (simp [q_odds, bB_0.mp h8]; done) | (simp [q_odds, q8, h12]; done) | (simp [q_odds, q8, h12, h18]; done) | (simp [q_odds, q8, h12, h18, h22]; done) | (simp [q_odds, q8, h12, h18, h22, h28]; done)) eo_rf
        · refine aw_iload_n rfl rfl ?_
          refine aw_bipush (v := 100) rfl (by decide) ?_
          refine aw_icmp_le (tgt := 33) rfl (by decide) (fun h28 => ?_) (fun h28 => ?_)
          · obtain ⟨m, hm, rfl⟩ := nI_le12 h12 h18
            have hcm : cl (nI m) = m := cl_nI (by omega)
            refine aw_aload_n rfl rfl ?_
            refine pg_0_10 rfl kl_X11_73 ?_
            refine aw_iload_n rfl rfl ?_
            refine aw_iload_n rfl rfl ?_
            refine aw_iload_n rfl rfl ?_
            refine aw_eV (q0 := 27) (ci := 3) rfl cw_X11_319 rfl rfl rfl (c_X3_partsThatHold hb hj (by omega) hV) rfl rfl (Nat.le_of_ble_eq_true rfl) (by decide) (by decide) (by decide) (by decide) (fun s1 e1 => ?_)
            exact aw_ei rfl rfl (by simp [q_odds, q8, h12, h18, h22, (by simpa using h28 : ch ≤ 100), hcj, hcm]) (eo_CF e1)
          · refine aw_iconst (v := -1) rfl (by decide) ?_
            exact aw_ei rfl rfl (by first | (simp [q_odds, bB_0.mp h8]; done) | (simp [q_odds, q8, h12]; done) | (simp [q_odds, q8, h12, h18]; done) | (simp [q_odds, q8, h12, h18, h22]; done) | (simp [q_odds, q8, h12, h18, h22, h28]; done)) eo_rf
set_option maxRecDepth 4000 in
theorem c_X11_rests {l : Launch} {g : ag_G} {s : am_S} {n : am_N} {x y t i : Int32} {T Q : Nat} (hb : kb s T Q) : aw_E l g mi_X11_rests 4 skF [.ref (g_ad g 0), .int x, .int y, .int t, .int i] s n (.int (q_rests s x y t i)) := by
  refine aw_E_of mo_X11_rests (by decide) (Nat.le_of_ble_eq_true rfl) ?_
  refine aw_aload_n rfl rfl ?_
  refine pg_0_12 rfl kl_X11_87 ?_
  refine aw_iload_n rfl rfl ?_
  refine aw_iload_n rfl rfl ?_
  refine aw_iload_n rfl rfl ?_
  refine aw_iV (q0 := 37) (ci := 2) rfl cw_X11_301 rfl rfl rfl (c_X2_canBe hb) rfl rfl (Nat.le_of_ble_eq_true rfl) (by decide) (by decide) (by decide) (by decide) ?_
  refine aw_if_eq (tgt := 28) rfl (by decide) (fun h10 => ?_) (fun h10 => ?_)
  · refine aw_iconst (v := -1) rfl (by decide) ?_
    exact aw_ei rfl rfl (by first | (simp [q_rests, q10, hca, hcb, hcj]; done) | (simp [q_rests, bB_0.mp h10]; done)) (by first | exact eo_rf)
  · have q10 := bB_n0.mp h10
    have q11 := q10
    unfold cB at q11
    simp only [Bool.and_eq_true] at q11
    obtain ⟨a, ha, rfl⟩ := isR_nI hb q11.1
    obtain ⟨b, hbb, rfl⟩ := isR_nI hb q11.2.1
    obtain ⟨j, hj, rfl⟩ := isT_nI hb (Bool.and_eq_true_iff.mp q11.2.2.2.1).1
    have hT := hb.2.1
    have hQ := hb.2.2.2.1
    have hca : cl (nI a) = a := cl_nI (by omega)
    have hcb : cl (nI b) = b := cl_nI (by omega)
    have hcj : cl (nI j) = j := cl_nI (by omega)
    refine aw_aload_n rfl rfl ?_
    refine pg_0_12 rfl kl_X11_87 ?_
    refine aw_iload_n rfl rfl ?_
    refine aw_iload_n rfl rfl ?_
    refine aw_iload_n rfl rfl ?_
    refine aw_iload rfl rfl ?_
    refine aw_iV (q0 := 37) (ci := 2) rfl cw_X11_316 rfl rfl rfl (c_X2_resting (by omega) (by omega) (by omega)) rfl rfl (Nat.le_of_ble_eq_true rfl) (by decide) (by decide) (by decide) (by decide) ?_
    refine aw_goto (tgt := 29) rfl (by decide) ?_
    exact aw_ei rfl rfl (by first | (simp [q_rests, q10, hca, hcb, hcj]; done) | (simp [q_rests, bB_0.mp h10]; done)) (by first | exact eo_rf)
set_option maxRecDepth 4000 in
theorem c_X11_game {l : Launch} {g : ag_G} {s : am_S} {n : am_N} {p1 p2 t x y v : Int32} {T Q : Nat} (hb : kb s T Q) : aw_E l g mi_X11_game 3 skF [.ref (g_ad g 0), .int p1, .int p2, .int t, .int x, .int y, .int v] s n (.int (q_game s p1 p2 t x y v)) := by
  refine aw_E_of mo_X11_game (by decide) (Nat.le_of_ble_eq_true rfl) ?_
  refine aw_aload_n rfl rfl ?_
  refine pg_0_12 rfl kl_X11_87 ?_
  refine aw_iload_n rfl rfl ?_
  refine aw_iload_n rfl rfl ?_
  refine aw_iload_n rfl rfl ?_
  refine aw_iV (q0 := 37) (ci := 2) rfl cw_X11_301 rfl rfl rfl (c_X2_canBe hb) rfl rfl (Nat.le_of_ble_eq_true rfl) (by decide) (by decide) (by decide) (by decide) ?_
  refine aw_if_eq (tgt := 37) rfl (by decide) (fun h10 => ?_) (fun h10 => ?_)
  · refine aw_ldcw (v := -1000000) rfl (aw_t4 89 rfl rfl) ?_
    exact aw_ei rfl rfl (by first | (simp [q_game, bB_0.mp h10]; done) | (simp [q_game, q10, bB_n0.mp h18]; done) | (simp [q_game, q10, bB_0.mp (by simpa using h18), bB_n0.mp h26]; done) | (simp [q_game, q10, bB_0.mp (by simpa using h18), bB_0.mp (by simpa using h26), bB_n0.mp h34]; done)) eo_rf
  · have q10 := bB_n0.mp h10
    have q11 := q10
    unfold cB at q11
    simp only [Bool.and_eq_true] at q11
    obtain ⟨a, ha, rfl⟩ := isR_nI hb q11.1
    obtain ⟨b, hbb, rfl⟩ := isR_nI hb q11.2.1
    obtain ⟨j, hj, rfl⟩ := isT_nI hb (Bool.and_eq_true_iff.mp q11.2.2.2.1).1
    have hT := hb.2.1
    have hQ := hb.2.2.2.1
    have hca : cl (nI a) = a := cl_nI (by omega)
    have hcb : cl (nI b) = b := cl_nI (by omega)
    have hcj : cl (nI j) = j := cl_nI (by omega)
    refine aw_iload rfl rfl ?_
    refine aw_iS rfl cw_X11_305 (c_X11_isNoChoice) rfl rfl (Nat.le_of_ble_eq_true rfl) (by decide) (by decide) (by decide) (by decide) ?_
    refine aw_if_ne (tgt := 37) rfl (by decide) (fun h18 => ?_) (fun h18 => ?_)
    · refine aw_ldcw (v := -1000000) rfl (aw_t4 89 rfl rfl) ?_
      exact aw_ei rfl rfl (by first | (simp [q_game, bB_0.mp h10]; done) | (simp [q_game, q10, bB_n0.mp h18]; done) | (simp [q_game, q10, bB_0.mp (by simpa using h18), bB_n0.mp h26]; done) | (simp [q_game, q10, bB_0.mp (by simpa using h18), bB_0.mp (by simpa using h26), bB_n0.mp h34]; done)) eo_rf
    · refine aw_iload rfl rfl ?_
      refine aw_iS rfl cw_X11_305 (c_X11_isNoChoice) rfl rfl (Nat.le_of_ble_eq_true rfl) (by decide) (by decide) (by decide) (by decide) ?_
      refine aw_if_ne (tgt := 37) rfl (by decide) (fun h26 => ?_) (fun h26 => ?_)
      · refine aw_ldcw (v := -1000000) rfl (aw_t4 89 rfl rfl) ?_
        exact aw_ei rfl rfl (by first | (simp [q_game, bB_0.mp h10]; done) | (simp [q_game, q10, bB_n0.mp h18]; done) | (simp [q_game, q10, bB_0.mp (by simpa using h18), bB_n0.mp h26]; done) | (simp [q_game, q10, bB_0.mp (by simpa using h18), bB_0.mp (by simpa using h26), bB_n0.mp h34]; done)) eo_rf
      · refine aw_iload rfl rfl ?_
        refine aw_iS rfl cw_X11_305 (c_X11_isNoChoice) rfl rfl (Nat.le_of_ble_eq_true rfl) (by decide) (by decide) (by decide) (by decide) ?_
        refine aw_if_eq (tgt := 41) rfl (by decide) (fun h34 => ?_) (fun h34 => ?_)
        · refine aw_iload rfl rfl ?_
          refine aw_if_ne (tgt := 62) rfl (by decide) (fun h43 => ?_) (fun h43 => ?_)
          · refine aw_aload_n rfl rfl ?_
            refine pg_0_12 rfl kl_X11_87 ?_
            refine aw_iload_n rfl rfl ?_
            refine aw_iload_n rfl rfl ?_
            refine aw_iload_n rfl rfl ?_
            refine aw_iload rfl rfl ?_
            refine aw_iload rfl rfl ?_
            refine aw_iV (q0 := 37) (ci := 2) rfl cw_X11_312 rfl rfl rfl (c_X2_secondHas (by omega) (by omega) (by omega)) rfl rfl (Nat.le_of_ble_eq_true rfl) (by decide) (by decide) (by decide) (by decide) ?_
            exact aw_ei rfl rfl (by first | (simp [q_game, q10, bB_0.mp (by simpa using h18), bB_0.mp (by simpa using h26), bB_0.mp h34, h43, hca, hcb, hcj]; done) | (simp [q_game, q10, bB_0.mp (by simpa using h18), bB_0.mp (by simpa using h26), bB_0.mp h34, (by simpa using h43 : v = 0), (by decide : nC 0 = false), hca, hcb, hcj]; done)) eo_rf
          · refine aw_aload_n rfl rfl ?_
            refine pg_0_12 rfl kl_X11_87 ?_
            refine aw_iload_n rfl rfl ?_
            refine aw_iload_n rfl rfl ?_
            refine aw_iload rfl rfl ?_
            refine aw_iload rfl rfl ?_
            refine aw_iV (q0 := 37) (ci := 2) rfl cw_X11_308 rfl rfl rfl (c_X2_firstHas (by omega) (by omega)) rfl rfl (Nat.le_of_ble_eq_true rfl) (by decide) (by decide) (by decide) (by decide) ?_
            refine aw_goto (tgt := 76) rfl (by decide) ?_
            exact aw_ei rfl rfl (by first | (simp [q_game, q10, bB_0.mp (by simpa using h18), bB_0.mp (by simpa using h26), bB_0.mp h34, h43, hca, hcb, hcj]; done) | (simp [q_game, q10, bB_0.mp (by simpa using h18), bB_0.mp (by simpa using h26), bB_0.mp h34, (by simpa using h43 : v = 0), (by decide : nC 0 = false), hca, hcb, hcj]; done)) eo_rf
        · refine aw_ldcw (v := -1000000) rfl (aw_t4 89 rfl rfl) ?_
          exact aw_ei rfl rfl (by first | (simp [q_game, bB_0.mp h10]; done) | (simp [q_game, q10, bB_n0.mp h18]; done) | (simp [q_game, q10, bB_0.mp (by simpa using h18), bB_n0.mp h26]; done) | (simp [q_game, q10, bB_0.mp (by simpa using h18), bB_0.mp (by simpa using h26), bB_n0.mp h34]; done)) eo_rf
set_option maxRecDepth 4000 in
theorem c_X11_least {l : Launch} {g : ag_G} {s : am_S} {n : am_N} {S k t : Int32} {T Q : Nat} (hb : kb s T Q) (hvb : vb s T) {V : (Nat → Int32) → Int32} (hV : LawIs l g s n V) : aw_E l g mi_X11_least 8 skF [.ref (g_ad g 0), .int S, .int k, .int t] s n (.int (q_least V s T S k t)) := by
  refine aw_E_of mo_X11_least (by decide) (Nat.le_of_ble_eq_true rfl) ?_
  refine aw_iload_n rfl rfl ?_
  refine aw_iconst (v := 1) rfl (by decide) ?_
  refine aw_icmp_lt (tgt := 25) rfl (by decide) (fun h2 => ?_) (fun h2 => ?_)
  · skip
    refine aw_iconst (v := -1) rfl (by decide) ?_
    exact aw_ei rfl rfl (by first | (simp [q_least, h2]; done) | (simp [q_least, h2, h15]; done) | (simp [q_least, h2, h15, bB_n0.mp (by simpa using h22)]; done)) eo_rf
  · refine aw_iload_n rfl rfl ?_
    refine aw_iconst (v := 1) rfl (by decide) ?_
    refine aw_aload_n rfl rfl ?_
    refine pg_0_8 rfl kl_X11_57 ?_
    refine pg_15_6 rfl kl_X11_122 ?_
    refine aw_ishl rfl ?_
    refine aw_icmp_ge (tgt := 25) rfl (by decide) (fun h15 => ?_) (fun h15 => ?_)
    · skip
      refine aw_iconst (v := -1) rfl (by decide) ?_
      exact aw_ei rfl rfl (by first | (simp [q_least, h2]; done) | (simp [q_least, h2, h15]; done) | (simp [q_least, h2, h15, bB_n0.mp (by simpa using h22)]; done)) eo_rf
    · refine aw_iload_n rfl rfl ?_
      refine aw_iS rfl cw_X11_273 (c_X11_isNotAhead) rfl rfl (Nat.le_of_ble_eq_true rfl) (by decide) (by decide) (by decide) (by decide) ?_
      refine aw_if_eq (tgt := 27) rfl (by decide) (fun h22 => ?_) (fun h22 => ?_)
      · have q22 := bB_0.mp h22
        obtain ⟨m, hm, rfl⟩ := nA_nI q22
        have hcm : cl (nI m) = m := cl_nI (by omega)
        refine aw_iload_n rfl rfl ?_
        refine aw_iconst (v := -1) rfl (by decide) ?_
        refine aw_icmp_eq (tgt := 53) rfl (by decide) (fun h29 => ?_) (fun h29 => ?_)
        · have ht : isT s t = true → tb S (cl t) = true := by
            intro z
            first
              | (have e : t = -1 := by simpa using h29
                 rw [e] at z; unfold isT at z; simp only [Bool.and_eq_true, decide_eq_true_eq] at z; exact absurd z.1 (by decide))
              | (obtain ⟨j, hj, e⟩ := isT_nI hb z
                 rw [e] at h48 ⊢; rw [cl_nI (by have := hb.2.1; omega)]; exact tb_t h48)
          refine aw_aload_n rfl rfl ?_
          refine pg_0_10 rfl kl_X11_73 ?_
          refine aw_iload_n rfl rfl ?_
          refine aw_iload_n rfl rfl ?_
          refine aw_iload_n rfl rfl ?_
          refine aw_eV (q0 := 27) (ci := 3) rfl cw_X11_276 rfl rfl rfl (c_X3_waxFor hb hvb (by omega) ht hV) rfl rfl (Nat.le_of_ble_eq_true rfl) (by decide) (by decide) (by decide) (by decide) (fun s1 e1 => ?_)
          exact aw_ei rfl rfl (by first | (simp [q_least, h2, h15, q22, hcm, h29, q40, h48]; done) | (simp [q_least, h2, h15, q22, hcm, (by simpa using h29 : t = -1)]; done)) e1
        · skip
          refine aw_aload_n rfl rfl ?_
          refine pg_0_8 rfl kl_X11_57 ?_
          refine aw_iload_n rfl rfl ?_
          refine aw_iV (q0 := 15) (ci := 8) rfl cw_X11_155 rfl rfl rfl (c_X8_isThing) rfl rfl (Nat.le_of_ble_eq_true rfl) (by decide) (by decide) (by decide) (by decide) ?_
          refine aw_if_eq (tgt := 51) rfl (by decide) (fun h40 => ?_) (fun h40 => ?_)
          · refine aw_iconst (v := -1) rfl (by decide) ?_
            exact aw_ei rfl rfl (by first | (simp [q_least, h2, h15, q22, h29, bB_0.mp h40]; done) | (simp [q_least, h2, h15, q22, h29, q40, (by simpa using h48 : (S >>> (t &&& 31)) &&& 1 = 0)]; done)) eo_rf
          · have q40 := bB_n0.mp h40
            refine aw_iload_n rfl rfl ?_
            refine aw_iload_n rfl rfl ?_
            refine aw_ishr rfl ?_
            refine aw_iconst (v := 1) rfl (by decide) ?_
            refine aw_iand rfl ?_
            refine aw_if_ne (tgt := 53) rfl (by decide) (fun h48 => ?_) (fun h48 => ?_)
            · have ht : isT s t = true → tb S (cl t) = true := by
                intro z
                first
                  | (have e : t = -1 := by simpa using h29
                     rw [e] at z; unfold isT at z; simp only [Bool.and_eq_true, decide_eq_true_eq] at z; exact absurd z.1 (by decide))
                  | (obtain ⟨j, hj, e⟩ := isT_nI hb z
                     rw [e] at h48 ⊢; rw [cl_nI (by have := hb.2.1; omega)]; exact tb_t h48)
              refine aw_aload_n rfl rfl ?_
              refine pg_0_10 rfl kl_X11_73 ?_
              refine aw_iload_n rfl rfl ?_
              refine aw_iload_n rfl rfl ?_
              refine aw_iload_n rfl rfl ?_
              refine aw_eV (q0 := 27) (ci := 3) rfl cw_X11_276 rfl rfl rfl (c_X3_waxFor hb hvb (by omega) ht hV) rfl rfl (Nat.le_of_ble_eq_true rfl) (by decide) (by decide) (by decide) (by decide) (fun s1 e1 => ?_)
              exact aw_ei rfl rfl (by first | (simp [q_least, h2, h15, q22, hcm, h29, q40, h48]; done) | (simp [q_least, h2, h15, q22, hcm, (by simpa using h29 : t = -1)]; done)) e1
            · refine aw_iconst (v := -1) rfl (by decide) ?_
              exact aw_ei rfl rfl (by first | (simp [q_least, h2, h15, q22, h29, bB_0.mp h40]; done) | (simp [q_least, h2, h15, q22, h29, q40, (by simpa using h48 : (S >>> (t &&& 31)) &&& 1 = 0)]; done)) eo_rf
      · skip
        refine aw_iconst (v := -1) rfl (by decide) ?_
        exact aw_ei rfl rfl (by first | (simp [q_least, h2]; done) | (simp [q_least, h2, h15]; done) | (simp [q_least, h2, h15, bB_n0.mp (by simpa using h22)]; done)) eo_rf
