/-! the law: its cases -/
theorem lg_cmp_self {x : Int64} : lg_cmp x x = 0 := by
  unfold lg_cmp
  first | (simp; done) | (rw [if_neg Int64.lt_irrefl, if_neg Int64.lt_irrefl]; done) | (split <;> first | rfl | (exfalso; simp_all))
set_option maxRecDepth 20000 in
theorem lw_c0 {l : Launch} {g : ag_G} {b L0 i cells slots : Nat} {xs : Nat → Int32} {s : am_S} {n : am_N} (hk : LK l g b L0 xs) (hi : i + 7 ≤ L0) (hc : cells ≤ 600000) (hs : slots ≤ 7000000) (hR : REL g s s n) (kont : KN l g b i cells slots) : aw_W l g mi_L_law room_1 (lz g) cells slots (hp g s n) 224 (LLc g b i) [] := by
  refine aw_aload_n (k := 1) rfl rfl ?_
  refine lw_rd 1 hk (by decide) (by omega) rfl rfl rfl rfl rfl ?_
  refine lw_rd 2 hk (by decide) (by omega) rfl rfl rfl rfl rfl ?_
  refine lw_rd 3 hk (by decide) (by omega) rfl rfl rfl rfl rfl ?_
  refine lw_rd 4 hk (by decide) (by omega) rfl rfl rfl rfl rfl ?_
  refine lw_rd 5 hk (by decide) (by omega) rfl rfl rfl rfl rfl ?_
  obtain ⟨v, hM⟩ := BO_feed (l := l) hk.1 (x1 := (xs (i + 1))) (x2 := (xs (i + 2))) (x3 := (xs (i + 3))) (x4 := (xs (i + 4))) (x5 := (xs (i + 5))) s n hR
  refine aw_callV (q0 := 0) (ci := 11) rfl cw_L_19 rfl rfl rfl hM rfl rfl (Nat.le_of_ble_eq_true rfl) (Nat.le_of_ble_eq_true rfl) (Nat.le_of_ble_eq_true rfl) (by show cells + 0 ≤ 601024; omega) (by show slots + 0 ≤ 7293034; omega) ?_
  rintro _ _ ⟨rfl, s1, n1, rfl, hM2⟩
  refine aw_aload_n (k := 2) rfl rfl ?_
  refine lw_rd 1 hk (by decide) (by omega) rfl rfl rfl rfl rfl ?_
  refine lw_rd 2 hk (by decide) (by omega) rfl rfl rfl rfl rfl ?_
  refine lw_rd 3 hk (by decide) (by omega) rfl rfl rfl rfl rfl ?_
  refine lw_rd 4 hk (by decide) (by omega) rfl rfl rfl rfl rfl ?_
  refine lw_rd 5 hk (by decide) (by omega) rfl rfl rfl rfl rfl ?_
  refine aw_callV (q0 := 39) (ci := 12) rfl cw_L_23 rfl rfl rfl hM2 rfl rfl (Nat.le_of_ble_eq_true rfl) (Nat.le_of_ble_eq_true rfl) (Nat.le_of_ble_eq_true rfl) (by show (cells + 0) + 0 ≤ 601024; omega) (by show (slots + 0) + 0 ≤ 7293034; omega) ?_
  rintro _ _ ⟨rfl, s2, n2, rfl, hR2⟩
  refine aw_icmp_eq (tgt := 1667) rfl (by decide) (fun _ => ?_) (fun h => absurd rfl h)
  exact kont _ _ s2 n2 (by omega) (by omega) hR2
set_option maxRecDepth 20000 in
theorem lw_c1 {l : Launch} {g : ag_G} {b L0 i cells slots : Nat} {xs : Nat → Int32} {s : am_S} {n : am_N} (hk : LK l g b L0 xs) (hi : i + 7 ≤ L0) (hc : cells ≤ 600000) (hs : slots ≤ 7000000) (hR : REL g s s n) (kont : KN l g b i cells slots) : aw_W l g mi_L_law room_1 (lz g) cells slots (hp g s n) 297 (LLc g b i) [] := by
  refine aw_aload_n (k := 1) rfl rfl ?_
  refine lw_rd 1 hk (by decide) (by omega) rfl rfl rfl rfl rfl ?_
  obtain ⟨v, hM⟩ := BO_end (l := l) hk.1 (v := (xs (i + 1))) s n hR
  refine aw_callV (q0 := 0) (ci := 11) rfl cw_L_24 rfl rfl rfl hM rfl rfl (Nat.le_of_ble_eq_true rfl) (Nat.le_of_ble_eq_true rfl) (Nat.le_of_ble_eq_true rfl) (by show cells + 0 ≤ 601024; omega) (by show slots + 0 ≤ 7293034; omega) ?_
  rintro _ _ ⟨rfl, s1, n1, rfl, hM2⟩
  refine aw_aload_n (k := 2) rfl rfl ?_
  refine lw_rd 1 hk (by decide) (by omega) rfl rfl rfl rfl rfl ?_
  refine aw_callV (q0 := 39) (ci := 12) rfl cw_L_28 rfl rfl rfl hM2 rfl rfl (Nat.le_of_ble_eq_true rfl) (Nat.le_of_ble_eq_true rfl) (Nat.le_of_ble_eq_true rfl) (by show (cells + 0) + 0 ≤ 601024; omega) (by show (slots + 0) + 0 ≤ 7293034; omega) ?_
  rintro _ _ ⟨rfl, s2, n2, rfl, hR2⟩
  refine aw_icmp_eq (tgt := 1667) rfl (by decide) (fun _ => ?_) (fun h => absurd rfl h)
  exact kont _ _ s2 n2 (by omega) (by omega) hR2
set_option maxRecDepth 20000 in
theorem lw_c2 {l : Launch} {g : ag_G} {b L0 i cells slots : Nat} {xs : Nat → Int32} {s : am_S} {n : am_N} (hk : LK l g b L0 xs) (hi : i + 7 ≤ L0) (hc : cells ≤ 600000) (hs : slots ≤ 7000000) (hR : REL g s s n) (kont : KN l g b i cells slots) : aw_W l g mi_L_law room_1 (lz g) cells slots (hp g s n) 322 (LLc g b i) [] := by
  refine aw_aload_n (k := 1) rfl rfl ?_
  refine lw_rd 1 hk (by decide) (by omega) rfl rfl rfl rfl rfl ?_
  obtain ⟨v, hM⟩ := BO_fault (l := l) hk.1 (x := (xs (i + 1))) s n hR
  refine aw_callV (q0 := 0) (ci := 11) rfl cw_L_29 rfl rfl rfl hM rfl rfl (Nat.le_of_ble_eq_true rfl) (Nat.le_of_ble_eq_true rfl) (Nat.le_of_ble_eq_true rfl) (by show cells + 0 ≤ 601024; omega) (by show slots + 0 ≤ 7293034; omega) ?_
  rintro _ _ ⟨rfl, s1, n1, rfl, hM2⟩
  refine aw_aload_n (k := 2) rfl rfl ?_
  refine lw_rd 1 hk (by decide) (by omega) rfl rfl rfl rfl rfl ?_
  refine aw_callV (q0 := 39) (ci := 12) rfl cw_L_33 rfl rfl rfl hM2 rfl rfl (Nat.le_of_ble_eq_true rfl) (Nat.le_of_ble_eq_true rfl) (Nat.le_of_ble_eq_true rfl) (by show (cells + 0) + 0 ≤ 601024; omega) (by show (slots + 0) + 0 ≤ 7293034; omega) ?_
  rintro _ _ ⟨rfl, s2, n2, rfl, hR2⟩
  refine aw_icmp_eq (tgt := 1667) rfl (by decide) (fun _ => ?_) (fun h => absurd rfl h)
  exact kont _ _ s2 n2 (by omega) (by omega) hR2
set_option maxRecDepth 20000 in
theorem lw_c3 {l : Launch} {g : ag_G} {b L0 i cells slots : Nat} {xs : Nat → Int32} {s : am_S} {n : am_N} (hk : LK l g b L0 xs) (hi : i + 7 ≤ L0) (hc : cells ≤ 600000) (hs : slots ≤ 7000000) (hR : REL g s s n) (kont : KN l g b i cells slots) : aw_W l g mi_L_law room_1 (lz g) cells slots (hp g s n) 347 (LLc g b i) [] := by
  refine aw_aload_n (k := 1) rfl rfl ?_
  refine lw_rd 1 hk (by decide) (by omega) rfl rfl rfl rfl rfl ?_
  obtain ⟨v, hM⟩ := BO_text (l := l) hk.1 hk.2.1 (x := (xs (i + 1))) s n hR
  refine aw_callV (q0 := 0) (ci := 11) rfl cw_L_34 rfl rfl rfl hM rfl rfl (Nat.le_of_ble_eq_true rfl) (Nat.le_of_ble_eq_true rfl) (Nat.le_of_ble_eq_true rfl) (by show cells + 1 ≤ 601024; omega) (by show slots + 240 ≤ 7293034; omega) ?_
  rintro _ _ ⟨rfl, s1, n1, rfl, hM2⟩
  refine aw_aload_n (k := 2) rfl rfl ?_
  refine lw_rd 1 hk (by decide) (by omega) rfl rfl rfl rfl rfl ?_
  refine aw_callV (q0 := 39) (ci := 12) rfl cw_L_37 rfl rfl rfl hM2 rfl rfl (Nat.le_of_ble_eq_true rfl) (Nat.le_of_ble_eq_true rfl) (Nat.le_of_ble_eq_true rfl) (by show (cells + 1) + 0 ≤ 601024; omega) (by show (slots + 240) + 0 ≤ 7293034; omega) ?_
  rintro _ _ ⟨rfl, s2, n2, rfl, hR2⟩
  refine aw_icmp_eq (tgt := 1667) rfl (by decide) (fun _ => ?_) (fun h => absurd rfl h)
  exact kont _ _ s2 n2 (by omega) (by omega) hR2
set_option maxRecDepth 20000 in
theorem lw_c4 {l : Launch} {g : ag_G} {b L0 i cells slots : Nat} {xs : Nat → Int32} {s : am_S} {n : am_N} (hk : LK l g b L0 xs) (hi : i + 7 ≤ L0) (hc : cells ≤ 600000) (hs : slots ≤ 7000000) (hR : REL g s s n) (kont : KN l g b i cells slots) : aw_W l g mi_L_law room_1 (lz g) cells slots (hp g s n) 372 (LLc g b i) [] := by
  refine aw_aload_n (k := 1) rfl rfl ?_
  refine lw_rd 1 hk (by decide) (by omega) rfl rfl rfl rfl rfl ?_
  obtain ⟨v, hM⟩ := BO_rule (l := l) hk.1 (x := (xs (i + 1))) s n hR
  refine aw_callV (q0 := 0) (ci := 11) rfl cw_L_38 rfl rfl rfl hM rfl rfl (Nat.le_of_ble_eq_true rfl) (Nat.le_of_ble_eq_true rfl) (Nat.le_of_ble_eq_true rfl) (by show cells + 0 ≤ 601024; omega) (by show slots + 0 ≤ 7293034; omega) ?_
  rintro _ _ ⟨rfl, s1, n1, rfl, hM2⟩
  refine aw_aload_n (k := 2) rfl rfl ?_
  refine lw_rd 1 hk (by decide) (by omega) rfl rfl rfl rfl rfl ?_
  refine aw_callV (q0 := 39) (ci := 12) rfl cw_L_41 rfl rfl rfl hM2 rfl rfl (Nat.le_of_ble_eq_true rfl) (Nat.le_of_ble_eq_true rfl) (Nat.le_of_ble_eq_true rfl) (by show (cells + 0) + 0 ≤ 601024; omega) (by show (slots + 0) + 0 ≤ 7293034; omega) ?_
  rintro _ _ ⟨rfl, s2, n2, rfl, hR2⟩
  refine aw_icmp_eq (tgt := 1667) rfl (by decide) (fun _ => ?_) (fun h => absurd rfl h)
  exact kont _ _ s2 n2 (by omega) (by omega) hR2
set_option maxRecDepth 20000 in
theorem lw_c5 {l : Launch} {g : ag_G} {b L0 i cells slots : Nat} {xs : Nat → Int32} {s : am_S} {n : am_N} (hk : LK l g b L0 xs) (hi : i + 7 ≤ L0) (hc : cells ≤ 600000) (hs : slots ≤ 7000000) (hR : REL g s s n) (kont : KN l g b i cells slots) : aw_W l g mi_L_law room_1 (lz g) cells slots (hp g s n) 397 (LLc g b i) [] := by
  refine aw_aload_n (k := 1) rfl rfl ?_
  refine lw_rd 1 hk (by decide) (by omega) rfl rfl rfl rfl rfl ?_
  refine lw_rd 2 hk (by decide) (by omega) rfl rfl rfl rfl rfl ?_
  refine aw_aload_n (k := 3) rfl rfl ?_
  obtain ⟨k, v, hk01, hM⟩ := BT_thing (t := xs (i + 1)) (x := xs (i + 2)) hk.2.2.2.1 hk.2.2.1 hk.1 hR
  refine aw_callW rfl rfl hM rfl rfl (by decide) (Nat.le_of_ble_eq_true rfl) (Nat.le_of_ble_eq_true rfl) (by show cells + 1 ≤ 601024; omega) (by show slots + 6 ≤ 7293034; omega) ?_
  rintro _ _ ⟨rfl, s1, n1, rfl, hM2⟩
  refine aw_istore rfl (by decide) ?_
  refine aw_aload_n (k := 2) rfl rfl ?_
  refine lw_rd (X := [some (.int k)]) 1 hk (by decide) (by omega) rfl rfl rfl rfl rfl ?_
  refine lw_rd (X := [some (.int k)]) 2 hk (by decide) (by omega) rfl rfl rfl rfl rfl ?_
  refine aw_callV (q0 := 39) (ci := 12) rfl cw_L_47 rfl rfl rfl hM2 rfl rfl (Nat.le_of_ble_eq_true rfl) (Nat.le_of_ble_eq_true rfl) (Nat.le_of_ble_eq_true rfl) (by show (cells + 1) + 0 ≤ 601024; omega) (by show (slots + 6) + 0 ≤ 7293034; omega) ?_
  rintro _ _ ⟨rfl, s2, n2, rfl, hR2, h390, h62⟩
  refine aw_istore rfl (by decide) ?_
  refine aw_aload_n (k := 2) rfl rfl ?_
  refine aw_callV (q0 := 39) (ci := 12) rfl cw_L_48 rfl rfl rfl c_m_thrown rfl rfl (Nat.le_of_ble_eq_true rfl) (Nat.le_of_ble_eq_true rfl) (Nat.le_of_ble_eq_true rfl) (by show (cells + 1 + 0) + 0 ≤ 601024; omega) (by show (slots + 6 + 0) + 0 ≤ 7293034; omega) ?_
  rintro _ _ ⟨rfl, rfl⟩
  refine aw_iload rfl rfl ?_
  refine aw_icmp_eq (tgt := 445) rfl (by decide) (fun _ => ?_) (fun h => absurd h390 h)
  refine aw_iload rfl rfl ?_
  refine aw_if_ne (tgt := 462) rfl (by decide) (fun _ => ?_) (fun h0 => ?_)
  · refine aw_goto (tgt := 1667) rfl (by decide) ?_
    exact aw_wk (kont _ _ s2 n2 (by omega) (by omega) hR2) (And.intro rfl (And.intro rfl (And.intro rfl (And.intro rfl (And.intro rfl True.intro)))))
  · refine aw_aload_n (k := 3) rfl rfl ?_
    refine aw_iconst (v := 0) rfl (by decide) ?_
    refine pl_62 (j := 0) rfl rfl (by decide) ?_
    refine aw_iload rfl rfl ?_
    refine aw_i2l rfl ?_
    refine aw_lcmp rfl ?_
    refine aw_if_eq (tgt := 462) rfl (by decide) (fun _ => ?_) (fun h => absurd (by rw [h62 h0]; exact lg_cmp_self) h)
    refine aw_goto (tgt := 1667) rfl (by decide) ?_
    exact aw_wk (kont _ _ s2 n2 (by omega) (by omega) hR2) (And.intro rfl (And.intro rfl (And.intro rfl (And.intro rfl (And.intro rfl True.intro)))))
set_option maxRecDepth 20000 in
theorem lw_c6 {l : Launch} {g : ag_G} {b L0 i cells slots : Nat} {xs : Nat → Int32} {s : am_S} {n : am_N} (hk : LK l g b L0 xs) (hi : i + 7 ≤ L0) (hc : cells ≤ 600000) (hs : slots ≤ 7000000) (hR : REL g s s n) (kont : KN l g b i cells slots) : aw_W l g mi_L_law room_1 (lz g) cells slots (hp g s n) 465 (LLc g b i) [] := by
  refine aw_aload_n (k := 1) rfl rfl ?_
  refine lw_rd 1 hk (by decide) (by omega) rfl rfl rfl rfl rfl ?_
  refine lw_rd 2 hk (by decide) (by omega) rfl rfl rfl rfl rfl ?_
  obtain ⟨v, hM⟩ := BO_ring (l := l) hk.1 (r := (xs (i + 1))) (x := (xs (i + 2))) s n hR
  refine aw_callV (q0 := 0) (ci := 11) rfl cw_L_52 rfl rfl rfl hM rfl rfl (Nat.le_of_ble_eq_true rfl) (Nat.le_of_ble_eq_true rfl) (Nat.le_of_ble_eq_true rfl) (by show cells + 0 ≤ 601024; omega) (by show slots + 0 ≤ 7293034; omega) ?_
  rintro _ _ ⟨rfl, s1, n1, rfl, hM2⟩
  refine aw_aload_n (k := 2) rfl rfl ?_
  refine lw_rd 1 hk (by decide) (by omega) rfl rfl rfl rfl rfl ?_
  refine lw_rd 2 hk (by decide) (by omega) rfl rfl rfl rfl rfl ?_
  refine aw_callV (q0 := 39) (ci := 12) rfl cw_L_55 rfl rfl rfl hM2 rfl rfl (Nat.le_of_ble_eq_true rfl) (Nat.le_of_ble_eq_true rfl) (Nat.le_of_ble_eq_true rfl) (by show (cells + 0) + 0 ≤ 601024; omega) (by show (slots + 0) + 0 ≤ 7293034; omega) ?_
  rintro _ _ ⟨rfl, s2, n2, rfl, hR2⟩
  refine aw_icmp_eq (tgt := 1667) rfl (by decide) (fun _ => ?_) (fun h => absurd rfl h)
  exact kont _ _ s2 n2 (by omega) (by omega) hR2
set_option maxRecDepth 20000 in
theorem lw_c7 {l : Launch} {g : ag_G} {b L0 i cells slots : Nat} {xs : Nat → Int32} {s : am_S} {n : am_N} (hk : LK l g b L0 xs) (hi : i + 7 ≤ L0) (hc : cells ≤ 600000) (hs : slots ≤ 7000000) (hR : REL g s s n) (kont : KN l g b i cells slots) : aw_W l g mi_L_law room_1 (lz g) cells slots (hp g s n) 502 (LLc g b i) [] := by
  refine aw_aload_n (k := 1) rfl rfl ?_
  refine lw_rd 1 hk (by decide) (by omega) rfl rfl rfl rfl rfl ?_
  obtain ⟨v, hM⟩ := BO_law (l := l) hk.1 (v := (xs (i + 1))) s n hR
  refine aw_callV (q0 := 0) (ci := 11) rfl cw_L_56 rfl rfl rfl hM rfl rfl (Nat.le_of_ble_eq_true rfl) (Nat.le_of_ble_eq_true rfl) (Nat.le_of_ble_eq_true rfl) (by show cells + 0 ≤ 601024; omega) (by show slots + 0 ≤ 7293034; omega) ?_
  rintro _ _ ⟨rfl, s1, n1, rfl, hM2⟩
  refine aw_aload_n (k := 2) rfl rfl ?_
  refine lw_rd 1 hk (by decide) (by omega) rfl rfl rfl rfl rfl ?_
  refine aw_callV (q0 := 39) (ci := 12) rfl cw_L_59 rfl rfl rfl hM2 rfl rfl (Nat.le_of_ble_eq_true rfl) (Nat.le_of_ble_eq_true rfl) (Nat.le_of_ble_eq_true rfl) (by show (cells + 0) + 0 ≤ 601024; omega) (by show (slots + 0) + 0 ≤ 7293034; omega) ?_
  rintro _ _ ⟨rfl, s2, n2, rfl, hR2⟩
  refine aw_icmp_eq (tgt := 1667) rfl (by decide) (fun _ => ?_) (fun h => absurd rfl h)
  exact kont _ _ s2 n2 (by omega) (by omega) hR2
set_option maxRecDepth 20000 in
theorem lw_c8 {l : Launch} {g : ag_G} {b L0 i cells slots : Nat} {xs : Nat → Int32} {s : am_S} {n : am_N} (hk : LK l g b L0 xs) (hi : i + 7 ≤ L0) (hc : cells ≤ 600000) (hs : slots ≤ 7000000) (hR : REL g s s n) (kont : KN l g b i cells slots) : aw_W l g mi_L_law room_1 (lz g) cells slots (hp g s n) 527 (LLc g b i) [] := by
  refine aw_aload_n (k := 1) rfl rfl ?_
  refine lw_rd 1 hk (by decide) (by omega) rfl rfl rfl rfl rfl ?_
  obtain ⟨v, hM⟩ := BO_knives (l := l) hk.1 (v := (xs (i + 1))) s n hR
  refine aw_callV (q0 := 0) (ci := 11) rfl cw_L_60 rfl rfl rfl hM rfl rfl (Nat.le_of_ble_eq_true rfl) (Nat.le_of_ble_eq_true rfl) (Nat.le_of_ble_eq_true rfl) (by show cells + 0 ≤ 601024; omega) (by show slots + 0 ≤ 7293034; omega) ?_
  rintro _ _ ⟨rfl, s1, n1, rfl, hM2⟩
  refine aw_aload_n (k := 2) rfl rfl ?_
  refine lw_rd 1 hk (by decide) (by omega) rfl rfl rfl rfl rfl ?_
  refine aw_callV (q0 := 39) (ci := 12) rfl cw_L_63 rfl rfl rfl hM2 rfl rfl (Nat.le_of_ble_eq_true rfl) (Nat.le_of_ble_eq_true rfl) (Nat.le_of_ble_eq_true rfl) (by show (cells + 0) + 0 ≤ 601024; omega) (by show (slots + 0) + 0 ≤ 7293034; omega) ?_
  rintro _ _ ⟨rfl, s2, n2, rfl, hR2⟩
  refine aw_icmp_eq (tgt := 1667) rfl (by decide) (fun _ => ?_) (fun h => absurd rfl h)
  exact kont _ _ s2 n2 (by omega) (by omega) hR2
set_option maxRecDepth 20000 in
theorem lw_c9 {l : Launch} {g : ag_G} {b L0 i cells slots : Nat} {xs : Nat → Int32} {s : am_S} {n : am_N} (hk : LK l g b L0 xs) (hi : i + 7 ≤ L0) (hc : cells ≤ 600000) (hs : slots ≤ 7000000) (hR : REL g s s n) (kont : KN l g b i cells slots) : aw_W l g mi_L_law room_1 (lz g) cells slots (hp g s n) 552 (LLc g b i) [] := by
  refine aw_aload_n (k := 1) rfl rfl ?_
  obtain ⟨v, hM⟩ := BO_month (l := l) hk.1  s n hR
  refine aw_callV (q0 := 0) (ci := 11) rfl cw_L_64 rfl rfl rfl hM rfl rfl (Nat.le_of_ble_eq_true rfl) (Nat.le_of_ble_eq_true rfl) (Nat.le_of_ble_eq_true rfl) (by show cells + 0 ≤ 601024; omega) (by show slots + 0 ≤ 7293034; omega) ?_
  rintro _ _ ⟨rfl, s1, n1, rfl, hM2⟩
  refine aw_aload_n (k := 2) rfl rfl ?_
  refine aw_callV (q0 := 39) (ci := 12) rfl cw_L_67 rfl rfl rfl hM2 rfl rfl (Nat.le_of_ble_eq_true rfl) (Nat.le_of_ble_eq_true rfl) (Nat.le_of_ble_eq_true rfl) (by show (cells + 0) + 0 ≤ 601024; omega) (by show (slots + 0) + 0 ≤ 7293034; omega) ?_
  rintro _ _ ⟨rfl, s2, n2, rfl, hR2⟩
  refine aw_icmp_eq (tgt := 1667) rfl (by decide) (fun _ => ?_) (fun h => absurd rfl h)
  exact kont _ _ s2 n2 (by omega) (by omega) hR2
set_option maxRecDepth 20000 in
theorem lw_c10 {l : Launch} {g : ag_G} {b L0 i cells slots : Nat} {xs : Nat → Int32} {s : am_S} {n : am_N} (hk : LK l g b L0 xs) (hi : i + 7 ≤ L0) (hc : cells ≤ 600000) (hs : slots ≤ 7000000) (hR : REL g s s n) (kont : KN l g b i cells slots) : aw_W l g mi_L_law room_1 (lz g) cells slots (hp g s n) 565 (LLc g b i) [] := by
  refine aw_aload_n (k := 1) rfl rfl ?_
  refine lw_rd 1 hk (by decide) (by omega) rfl rfl rfl rfl rfl ?_
  refine lw_rd 2 hk (by decide) (by omega) rfl rfl rfl rfl rfl ?_
  obtain ⟨v, hM⟩ := BO_seal (l := l) hk.1 (t := (xs (i + 1))) (v := (xs (i + 2))) s n hR
  refine aw_callV (q0 := 0) (ci := 11) rfl cw_L_68 rfl rfl rfl hM rfl rfl (Nat.le_of_ble_eq_true rfl) (Nat.le_of_ble_eq_true rfl) (Nat.le_of_ble_eq_true rfl) (by show cells + 0 ≤ 601024; omega) (by show slots + 0 ≤ 7293034; omega) ?_
  rintro _ _ ⟨rfl, s1, n1, rfl, hM2⟩
  refine aw_aload_n (k := 2) rfl rfl ?_
  refine lw_rd 1 hk (by decide) (by omega) rfl rfl rfl rfl rfl ?_
  refine lw_rd 2 hk (by decide) (by omega) rfl rfl rfl rfl rfl ?_
  refine aw_callV (q0 := 39) (ci := 12) rfl cw_L_71 rfl rfl rfl hM2 rfl rfl (Nat.le_of_ble_eq_true rfl) (Nat.le_of_ble_eq_true rfl) (Nat.le_of_ble_eq_true rfl) (by show (cells + 0) + 0 ≤ 601024; omega) (by show (slots + 0) + 0 ≤ 7293034; omega) ?_
  rintro _ _ ⟨rfl, s2, n2, rfl, hR2⟩
  refine aw_icmp_eq (tgt := 1667) rfl (by decide) (fun _ => ?_) (fun h => absurd rfl h)
  exact kont _ _ s2 n2 (by omega) (by omega) hR2
set_option maxRecDepth 20000 in
theorem lw_c11 {l : Launch} {g : ag_G} {b L0 i cells slots : Nat} {xs : Nat → Int32} {s : am_S} {n : am_N} (hk : LK l g b L0 xs) (hi : i + 7 ≤ L0) (hc : cells ≤ 600000) (hs : slots ≤ 7000000) (hR : REL g s s n) (kont : KN l g b i cells slots) : aw_W l g mi_L_law room_1 (lz g) cells slots (hp g s n) 602 (LLc g b i) [] := by
  refine aw_aload_n (k := 1) rfl rfl ?_
  refine lw_rd 1 hk (by decide) (by omega) rfl rfl rfl rfl rfl ?_
  obtain ⟨v, hM⟩ := BO_open (l := l) hk.1 (t := (xs (i + 1))) s n hR
  refine aw_callV (q0 := 0) (ci := 11) rfl cw_L_72 rfl rfl rfl hM rfl rfl (Nat.le_of_ble_eq_true rfl) (Nat.le_of_ble_eq_true rfl) (Nat.le_of_ble_eq_true rfl) (by show cells + 0 ≤ 601024; omega) (by show slots + 0 ≤ 7293034; omega) ?_
  rintro _ _ ⟨rfl, s1, n1, rfl, hM2⟩
  refine aw_aload_n (k := 2) rfl rfl ?_
  refine lw_rd 1 hk (by decide) (by omega) rfl rfl rfl rfl rfl ?_
  refine aw_callV (q0 := 39) (ci := 12) rfl cw_L_75 rfl rfl rfl hM2 rfl rfl (Nat.le_of_ble_eq_true rfl) (Nat.le_of_ble_eq_true rfl) (Nat.le_of_ble_eq_true rfl) (by show (cells + 0) + 0 ≤ 601024; omega) (by show (slots + 0) + 0 ≤ 7293034; omega) ?_
  rintro _ _ ⟨rfl, s2, n2, rfl, hR2⟩
  refine aw_icmp_eq (tgt := 1667) rfl (by decide) (fun _ => ?_) (fun h => absurd rfl h)
  exact kont _ _ s2 n2 (by omega) (by omega) hR2
set_option maxRecDepth 20000 in
theorem lw_c12 {l : Launch} {g : ag_G} {b L0 i cells slots : Nat} {xs : Nat → Int32} {s : am_S} {n : am_N} (hk : LK l g b L0 xs) (hi : i + 7 ≤ L0) (hc : cells ≤ 600000) (hs : slots ≤ 7000000) (hR : REL g s s n) (kont : KN l g b i cells slots) : aw_W l g mi_L_law room_1 (lz g) cells slots (hp g s n) 627 (LLc g b i) [] := by
  refine aw_aload_n (k := 1) rfl rfl ?_
  refine lw_rd 1 hk (by decide) (by omega) rfl rfl rfl rfl rfl ?_
  refine lw_rd 2 hk (by decide) (by omega) rfl rfl rfl rfl rfl ?_
  obtain ⟨v, hM⟩ := BO_pry (l := l) hk.1 (t := (xs (i + 1))) (r := (xs (i + 2))) s n hR
  refine aw_callV (q0 := 0) (ci := 11) rfl cw_L_76 rfl rfl rfl hM rfl rfl (Nat.le_of_ble_eq_true rfl) (Nat.le_of_ble_eq_true rfl) (Nat.le_of_ble_eq_true rfl) (by show cells + 0 ≤ 601024; omega) (by show slots + 0 ≤ 7293034; omega) ?_
  rintro _ _ ⟨rfl, s1, n1, rfl, hM2⟩
  refine aw_aload_n (k := 2) rfl rfl ?_
  refine lw_rd 1 hk (by decide) (by omega) rfl rfl rfl rfl rfl ?_
  refine lw_rd 2 hk (by decide) (by omega) rfl rfl rfl rfl rfl ?_
  refine aw_callV (q0 := 39) (ci := 12) rfl cw_L_79 rfl rfl rfl hM2 rfl rfl (Nat.le_of_ble_eq_true rfl) (Nat.le_of_ble_eq_true rfl) (Nat.le_of_ble_eq_true rfl) (by show (cells + 0) + 0 ≤ 601024; omega) (by show (slots + 0) + 0 ≤ 7293034; omega) ?_
  rintro _ _ ⟨rfl, s2, n2, rfl, hR2⟩
  refine aw_icmp_eq (tgt := 1667) rfl (by decide) (fun _ => ?_) (fun h => absurd rfl h)
  exact kont _ _ s2 n2 (by omega) (by omega) hR2
set_option maxRecDepth 20000 in
theorem lw_c13 {l : Launch} {g : ag_G} {b L0 i cells slots : Nat} {xs : Nat → Int32} {s : am_S} {n : am_N} (hk : LK l g b L0 xs) (hi : i + 7 ≤ L0) (hc : cells ≤ 600000) (hs : slots ≤ 7000000) (hR : REL g s s n) (kont : KN l g b i cells slots) : aw_W l g mi_L_law room_1 (lz g) cells slots (hp g s n) 664 (LLc g b i) [] := by
  refine aw_aload_n (k := 1) rfl rfl ?_
  refine lw_rd 1 hk (by decide) (by omega) rfl rfl rfl rfl rfl ?_
  refine lw_rd 2 hk (by decide) (by omega) rfl rfl rfl rfl rfl ?_
  obtain ⟨v, hM⟩ := BO_carry (l := l) hk.1 (t := (xs (i + 1))) (v := (xs (i + 2))) s n hR
  refine aw_callV (q0 := 0) (ci := 11) rfl cw_L_80 rfl rfl rfl hM rfl rfl (Nat.le_of_ble_eq_true rfl) (Nat.le_of_ble_eq_true rfl) (Nat.le_of_ble_eq_true rfl) (by show cells + 0 ≤ 601024; omega) (by show slots + 0 ≤ 7293034; omega) ?_
  rintro _ _ ⟨rfl, s1, n1, rfl, hM2⟩
  refine aw_aload_n (k := 2) rfl rfl ?_
  refine lw_rd 1 hk (by decide) (by omega) rfl rfl rfl rfl rfl ?_
  refine lw_rd 2 hk (by decide) (by omega) rfl rfl rfl rfl rfl ?_
  refine aw_callV (q0 := 39) (ci := 12) rfl cw_L_83 rfl rfl rfl hM2 rfl rfl (Nat.le_of_ble_eq_true rfl) (Nat.le_of_ble_eq_true rfl) (Nat.le_of_ble_eq_true rfl) (by show (cells + 0) + 0 ≤ 601024; omega) (by show (slots + 0) + 0 ≤ 7293034; omega) ?_
  rintro _ _ ⟨rfl, s2, n2, rfl, hR2⟩
  refine aw_icmp_eq (tgt := 1667) rfl (by decide) (fun _ => ?_) (fun h => absurd rfl h)
  exact kont _ _ s2 n2 (by omega) (by omega) hR2
set_option maxRecDepth 20000 in
theorem lw_c14 {l : Launch} {g : ag_G} {b L0 i cells slots : Nat} {xs : Nat → Int32} {s : am_S} {n : am_N} (hk : LK l g b L0 xs) (hi : i + 7 ≤ L0) (hc : cells ≤ 600000) (hs : slots ≤ 7000000) (hR : REL g s s n) (kont : KN l g b i cells slots) : aw_W l g mi_L_law room_1 (lz g) cells slots (hp g s n) 701 (LLc g b i) [] := by
  refine aw_aload_n (k := 1) rfl rfl ?_
  refine lw_rd 1 hk (by decide) (by omega) rfl rfl rfl rfl rfl ?_
  obtain ⟨v, hM⟩ := BO_heat (l := l) hk.1 (v := (xs (i + 1))) s n hR
  refine aw_callV (q0 := 0) (ci := 11) rfl cw_L_84 rfl rfl rfl hM rfl rfl (Nat.le_of_ble_eq_true rfl) (Nat.le_of_ble_eq_true rfl) (Nat.le_of_ble_eq_true rfl) (by show cells + 0 ≤ 601024; omega) (by show slots + 0 ≤ 7293034; omega) ?_
  rintro _ _ ⟨rfl, s1, n1, rfl, hM2⟩
  refine aw_aload_n (k := 2) rfl rfl ?_
  refine lw_rd 1 hk (by decide) (by omega) rfl rfl rfl rfl rfl ?_
  refine aw_callV (q0 := 39) (ci := 12) rfl cw_L_87 rfl rfl rfl hM2 rfl rfl (Nat.le_of_ble_eq_true rfl) (Nat.le_of_ble_eq_true rfl) (Nat.le_of_ble_eq_true rfl) (by show (cells + 0) + 0 ≤ 601024; omega) (by show (slots + 0) + 0 ≤ 7293034; omega) ?_
  rintro _ _ ⟨rfl, s2, n2, rfl, hR2⟩
  refine aw_icmp_eq (tgt := 1667) rfl (by decide) (fun _ => ?_) (fun h => absurd rfl h)
  exact kont _ _ s2 n2 (by omega) (by omega) hR2
set_option maxRecDepth 20000 in
theorem lw_c15 {l : Launch} {g : ag_G} {b L0 i cells slots : Nat} {xs : Nat → Int32} {s : am_S} {n : am_N} (hk : LK l g b L0 xs) (hi : i + 7 ≤ L0) (hc : cells ≤ 600000) (hs : slots ≤ 7000000) (hR : REL g s s n) (kont : KN l g b i cells slots) : aw_W l g mi_L_law room_1 (lz g) cells slots (hp g s n) 726 (LLc g b i) [] := by
  refine aw_aload_n (k := 1) rfl rfl ?_
  refine lw_rd 1 hk (by decide) (by omega) rfl rfl rfl rfl rfl ?_
  refine lw_rd 2 hk (by decide) (by omega) rfl rfl rfl rfl rfl ?_
  refine aw_i2l rfl ?_
  refine aw_bipush (v := 32) rfl (by decide) ?_
  refine aw_lshl rfl rfl ?_
  refine lw_rd 3 hk (by decide) (by omega) rfl rfl rfl rfl rfl ?_
  refine aw_i2l rfl ?_
  refine aw_ldc2 (v := 4294967295) rfl (aw_t8 149 rfl rfl) ?_
  refine aw_land rfl ?_
  refine aw_lor rfl ?_
  obtain ⟨v, hM⟩ := BO_years (l := l) hk.1 (m := xs (i + 1)) (x := (xs (i + 2)).toInt64 <<< ((32 : Int32).toInt64 &&& 63) ||| (xs (i + 3)).toInt64 &&& 4294967295) s n hR
  refine aw_callV (q0 := 0) (ci := 11) rfl cw_L_90 rfl rfl rfl hM rfl rfl (Nat.le_of_ble_eq_true rfl) (Nat.le_of_ble_eq_true rfl) (Nat.le_of_ble_eq_true rfl) (by show cells + 0 ≤ 601024; omega) (by show slots + 0 ≤ 7293034; omega) ?_
  rintro _ _ ⟨rfl, s1, n1, rfl, hM2⟩
  refine aw_aload_n (k := 2) rfl rfl ?_
  refine lw_rd 1 hk (by decide) (by omega) rfl rfl rfl rfl rfl ?_
  refine lw_rd 2 hk (by decide) (by omega) rfl rfl rfl rfl rfl ?_
  refine aw_i2l rfl ?_
  refine aw_bipush (v := 32) rfl (by decide) ?_
  refine aw_lshl rfl rfl ?_
  refine lw_rd 3 hk (by decide) (by omega) rfl rfl rfl rfl rfl ?_
  refine aw_i2l rfl ?_
  refine aw_ldc2 (v := 4294967295) rfl (aw_t8 149 rfl rfl) ?_
  refine aw_land rfl ?_
  refine aw_lor rfl ?_
  refine aw_callV (q0 := 39) (ci := 12) rfl cw_L_94 rfl rfl rfl hM2 rfl rfl (Nat.le_of_ble_eq_true rfl) (Nat.le_of_ble_eq_true rfl) (Nat.le_of_ble_eq_true rfl) (by show (cells + 0) + 0 ≤ 601024; omega) (by show (slots + 0) + 0 ≤ 7293034; omega) ?_
  rintro _ _ ⟨rfl, s2, n2, rfl, hR2⟩
  refine aw_icmp_eq (tgt := 1667) rfl (by decide) (fun _ => ?_) (fun h => absurd rfl h)
  exact kont _ _ s2 n2 (by omega) (by omega) hR2
set_option maxRecDepth 20000 in
theorem lw_c16 {l : Launch} {g : ag_G} {b L0 i cells slots : Nat} {xs : Nat → Int32} {s : am_S} {n : am_N} (hk : LK l g b L0 xs) (hi : i + 7 ≤ L0) (hc : cells ≤ 600000) (hs : slots ≤ 7000000) (hR : REL g s s n) (kont : KN l g b i cells slots) : aw_W l g mi_L_law room_1 (lz g) cells slots (hp g s n) 795 (LLc g b i) [] := by
  refine aw_aload_n (k := 1) rfl rfl ?_
  obtain ⟨v, hM⟩ := BO_undo (l := l) hk.1  s n hR
  refine aw_callV (q0 := 0) (ci := 11) rfl cw_L_95 rfl rfl rfl hM rfl rfl (Nat.le_of_ble_eq_true rfl) (Nat.le_of_ble_eq_true rfl) (Nat.le_of_ble_eq_true rfl) (by show cells + 0 ≤ 601024; omega) (by show slots + 0 ≤ 7293034; omega) ?_
  rintro _ _ ⟨rfl, s1, n1, rfl, hM2⟩
  refine aw_aload_n (k := 2) rfl rfl ?_
  refine aw_callV (q0 := 39) (ci := 12) rfl cw_L_98 rfl rfl rfl hM2 rfl rfl (Nat.le_of_ble_eq_true rfl) (Nat.le_of_ble_eq_true rfl) (Nat.le_of_ble_eq_true rfl) (by show (cells + 0) + 0 ≤ 601024; omega) (by show (slots + 0) + 0 ≤ 7293034; omega) ?_
  rintro _ _ ⟨rfl, s2, n2, rfl, hR2⟩
  refine aw_icmp_eq (tgt := 1667) rfl (by decide) (fun _ => ?_) (fun h => absurd rfl h)
  exact kont _ _ s2 n2 (by omega) (by omega) hR2
set_option maxRecDepth 20000 in
theorem lw_c17 {l : Launch} {g : ag_G} {b L0 i cells slots : Nat} {xs : Nat → Int32} {s : am_S} {n : am_N} (hk : LK l g b L0 xs) (hi : i + 7 ≤ L0) (hc : cells ≤ 600000) (hs : slots ≤ 7000000) (hR : REL g s s n) (kont : KN l g b i cells slots) : aw_W l g mi_L_law room_1 (lz g) cells slots (hp g s n) 808 (LLc g b i) [] := by
  refine aw_aload_n (k := 1) rfl rfl ?_
  refine lw_rd 1 hk (by decide) (by omega) rfl rfl rfl rfl rfl ?_
  refine lw_rd 2 hk (by decide) (by omega) rfl rfl rfl rfl rfl ?_
  obtain ⟨v, hM⟩ := BO_log (l := l) hk.1 (i := (xs (i + 1))) (x := (xs (i + 2))) s n hR
  refine aw_callV (q0 := 0) (ci := 11) rfl cw_L_99 rfl rfl rfl hM rfl rfl (Nat.le_of_ble_eq_true rfl) (Nat.le_of_ble_eq_true rfl) (Nat.le_of_ble_eq_true rfl) (by show cells + 0 ≤ 601024; omega) (by show slots + 0 ≤ 7293034; omega) ?_
  rintro _ _ ⟨rfl, s1, n1, rfl, hM2⟩
  refine aw_aload_n (k := 2) rfl rfl ?_
  refine lw_rd 1 hk (by decide) (by omega) rfl rfl rfl rfl rfl ?_
  refine lw_rd 2 hk (by decide) (by omega) rfl rfl rfl rfl rfl ?_
  refine aw_callV (q0 := 39) (ci := 12) rfl cw_L_102 rfl rfl rfl hM2 rfl rfl (Nat.le_of_ble_eq_true rfl) (Nat.le_of_ble_eq_true rfl) (Nat.le_of_ble_eq_true rfl) (by show (cells + 0) + 0 ≤ 601024; omega) (by show (slots + 0) + 0 ≤ 7293034; omega) ?_
  rintro _ _ ⟨rfl, s2, n2, rfl, hR2⟩
  refine aw_icmp_eq (tgt := 1667) rfl (by decide) (fun _ => ?_) (fun h => absurd rfl h)
  exact kont _ _ s2 n2 (by omega) (by omega) hR2
set_option maxRecDepth 20000 in
theorem lw_c18 {l : Launch} {g : ag_G} {b L0 i cells slots : Nat} {xs : Nat → Int32} {s : am_S} {n : am_N} (hk : LK l g b L0 xs) (hi : i + 7 ≤ L0) (hc : cells ≤ 600000) (hs : slots ≤ 7000000) (hR : REL g s s n) (kont : KN l g b i cells slots) : aw_W l g mi_L_law room_1 (lz g) cells slots (hp g s n) 845 (LLc g b i) [] := by
  refine aw_aload_n (k := 1) rfl rfl ?_
  refine lw_rd 1 hk (by decide) (by omega) rfl rfl rfl rfl rfl ?_
  refine lw_rd 2 hk (by decide) (by omega) rfl rfl rfl rfl rfl ?_
  refine lw_rd 3 hk (by decide) (by omega) rfl rfl rfl rfl rfl ?_
  obtain ⟨v, hM⟩ := BO_step (l := l) hk.1 (k := (xs (i + 1))) (i := (xs (i + 2))) (x := (xs (i + 3))) s n hR
  refine aw_callV (q0 := 0) (ci := 11) rfl cw_L_103 rfl rfl rfl hM rfl rfl (Nat.le_of_ble_eq_true rfl) (Nat.le_of_ble_eq_true rfl) (Nat.le_of_ble_eq_true rfl) (by show cells + 0 ≤ 601024; omega) (by show slots + 0 ≤ 7293034; omega) ?_
  rintro _ _ ⟨rfl, s1, n1, rfl, hM2⟩
  refine aw_aload_n (k := 2) rfl rfl ?_
  refine lw_rd 1 hk (by decide) (by omega) rfl rfl rfl rfl rfl ?_
  refine lw_rd 2 hk (by decide) (by omega) rfl rfl rfl rfl rfl ?_
  refine lw_rd 3 hk (by decide) (by omega) rfl rfl rfl rfl rfl ?_
  refine aw_callV (q0 := 39) (ci := 12) rfl cw_L_107 rfl rfl rfl hM2 rfl rfl (Nat.le_of_ble_eq_true rfl) (Nat.le_of_ble_eq_true rfl) (Nat.le_of_ble_eq_true rfl) (by show (cells + 0) + 0 ≤ 601024; omega) (by show (slots + 0) + 0 ≤ 7293034; omega) ?_
  rintro _ _ ⟨rfl, s2, n2, rfl, hR2⟩
  refine aw_icmp_eq (tgt := 1667) rfl (by decide) (fun _ => ?_) (fun h => absurd rfl h)
  exact kont _ _ s2 n2 (by omega) (by omega) hR2
set_option maxRecDepth 20000 in
theorem lw_c19 {l : Launch} {g : ag_G} {b L0 i cells slots : Nat} {xs : Nat → Int32} {s : am_S} {n : am_N} (hk : LK l g b L0 xs) (hi : i + 7 ≤ L0) (hc : cells ≤ 600000) (hs : slots ≤ 7000000) (hR : REL g s s n) (kont : KN l g b i cells slots) : aw_W l g mi_L_law room_1 (lz g) cells slots (hp g s n) 894 (LLc g b i) [] := by
  refine aw_aload_n (k := 1) rfl rfl ?_
  refine lw_rd 1 hk (by decide) (by omega) rfl rfl rfl rfl rfl ?_
  refine lw_rd 2 hk (by decide) (by omega) rfl rfl rfl rfl rfl ?_
  obtain ⟨v, hM⟩ := BO_run (l := l) hk.1 (k := (xs (i + 1))) (x := (xs (i + 2))) s n hR
  refine aw_callV (q0 := 0) (ci := 11) rfl cw_L_108 rfl rfl rfl hM rfl rfl (Nat.le_of_ble_eq_true rfl) (Nat.le_of_ble_eq_true rfl) (Nat.le_of_ble_eq_true rfl) (by show cells + 0 ≤ 601024; omega) (by show slots + 0 ≤ 7293034; omega) ?_
  rintro _ _ ⟨rfl, s1, n1, rfl, hM2⟩
  refine aw_aload_n (k := 2) rfl rfl ?_
  refine lw_rd 1 hk (by decide) (by omega) rfl rfl rfl rfl rfl ?_
  refine lw_rd 2 hk (by decide) (by omega) rfl rfl rfl rfl rfl ?_
  refine aw_callV (q0 := 39) (ci := 12) rfl cw_L_111 rfl rfl rfl hM2 rfl rfl (Nat.le_of_ble_eq_true rfl) (Nat.le_of_ble_eq_true rfl) (Nat.le_of_ble_eq_true rfl) (by show (cells + 0) + 0 ≤ 601024; omega) (by show (slots + 0) + 0 ≤ 7293034; omega) ?_
  rintro _ _ ⟨rfl, s2, n2, rfl, hR2⟩
  refine aw_icmp_eq (tgt := 1667) rfl (by decide) (fun _ => ?_) (fun h => absurd rfl h)
  exact kont _ _ s2 n2 (by omega) (by omega) hR2
set_option maxRecDepth 20000 in
theorem lw_c20 {l : Launch} {g : ag_G} {b L0 i cells slots : Nat} {xs : Nat → Int32} {s : am_S} {n : am_N} (hk : LK l g b L0 xs) (hi : i + 7 ≤ L0) (hc : cells ≤ 600000) (hs : slots ≤ 7000000) (hR : REL g s s n) (kont : KN l g b i cells slots) : aw_W l g mi_L_law room_1 (lz g) cells slots (hp g s n) 931 (LLc g b i) [] := by
  refine aw_aload_n (k := 1) rfl rfl ?_
  refine lw_rd 1 hk (by decide) (by omega) rfl rfl rfl rfl rfl ?_
  obtain ⟨v, hM⟩ := BO_perform (l := l) hk.1 (k := (xs (i + 1))) s n hR
  refine aw_callV (q0 := 0) (ci := 11) rfl cw_L_112 rfl rfl rfl hM rfl rfl (Nat.le_of_ble_eq_true rfl) (Nat.le_of_ble_eq_true rfl) (Nat.le_of_ble_eq_true rfl) (by show cells + 0 ≤ 601024; omega) (by show slots + 0 ≤ 7293034; omega) ?_
  rintro _ _ ⟨rfl, s1, n1, rfl, hM2⟩
  refine aw_aload_n (k := 2) rfl rfl ?_
  refine lw_rd 1 hk (by decide) (by omega) rfl rfl rfl rfl rfl ?_
  refine aw_callV (q0 := 39) (ci := 12) rfl cw_L_115 rfl rfl rfl hM2 rfl rfl (Nat.le_of_ble_eq_true rfl) (Nat.le_of_ble_eq_true rfl) (Nat.le_of_ble_eq_true rfl) (by show (cells + 0) + 0 ≤ 601024; omega) (by show (slots + 0) + 0 ≤ 7293034; omega) ?_
  rintro _ _ ⟨rfl, s2, n2, rfl, hR2⟩
  refine aw_icmp_eq (tgt := 1667) rfl (by decide) (fun _ => ?_) (fun h => absurd rfl h)
  exact kont _ _ s2 n2 (by omega) (by omega) hR2
set_option maxRecDepth 20000 in
theorem lw_c21 {l : Launch} {g : ag_G} {b L0 i cells slots : Nat} {xs : Nat → Int32} {s : am_S} {n : am_N} (hk : LK l g b L0 xs) (hi : i + 7 ≤ L0) (hc : cells ≤ 600000) (hs : slots ≤ 7000000) (hR : REL g s s n) (kont : KN l g b i cells slots) : aw_W l g mi_L_law room_1 (lz g) cells slots (hp g s n) 956 (LLc g b i) [] := by
  refine aw_aload_n (k := 1) rfl rfl ?_
  refine lw_rd 1 hk (by decide) (by omega) rfl rfl rfl rfl rfl ?_
  obtain ⟨v, hM⟩ := BO_warmth (l := l) hk.1 (k := (xs (i + 1))) s n hR
  refine aw_callV (q0 := 0) (ci := 11) rfl cw_L_116 rfl rfl rfl hM rfl rfl (Nat.le_of_ble_eq_true rfl) (Nat.le_of_ble_eq_true rfl) (Nat.le_of_ble_eq_true rfl) (by show cells + 0 ≤ 601024; omega) (by show slots + 0 ≤ 7293034; omega) ?_
  rintro _ _ ⟨rfl, s1, n1, rfl, hM2⟩
  refine aw_aload_n (k := 2) rfl rfl ?_
  refine lw_rd 1 hk (by decide) (by omega) rfl rfl rfl rfl rfl ?_
  refine aw_callV (q0 := 39) (ci := 12) rfl cw_L_119 rfl rfl rfl hM2 rfl rfl (Nat.le_of_ble_eq_true rfl) (Nat.le_of_ble_eq_true rfl) (Nat.le_of_ble_eq_true rfl) (by show (cells + 0) + 0 ≤ 601024; omega) (by show (slots + 0) + 0 ≤ 7293034; omega) ?_
  rintro _ _ ⟨rfl, s2, n2, rfl, hR2⟩
  refine aw_icmp_eq (tgt := 1667) rfl (by decide) (fun _ => ?_) (fun h => absurd rfl h)
  exact kont _ _ s2 n2 (by omega) (by omega) hR2
set_option maxRecDepth 20000 in
theorem lw_c22 {l : Launch} {g : ag_G} {b L0 i cells slots : Nat} {xs : Nat → Int32} {s : am_S} {n : am_N} (hk : LK l g b L0 xs) (hi : i + 7 ≤ L0) (hc : cells ≤ 600000) (hs : slots ≤ 7000000) (hR : REL g s s n) (kont : KN l g b i cells slots) : aw_W l g mi_L_law room_1 (lz g) cells slots (hp g s n) 981 (LLc g b i) [] := by
  refine aw_aload_n (k := 1) rfl rfl ?_
  refine lw_rd 1 hk (by decide) (by omega) rfl rfl rfl rfl rfl ?_
  obtain ⟨v, hM⟩ := BO_lasts (l := l) hk.1 (t := (xs (i + 1))) s n hR
  refine aw_callV (q0 := 0) (ci := 11) rfl cw_L_120 rfl rfl rfl hM rfl rfl (Nat.le_of_ble_eq_true rfl) (Nat.le_of_ble_eq_true rfl) (Nat.le_of_ble_eq_true rfl) (by show cells + 0 ≤ 601024; omega) (by show slots + 0 ≤ 7293034; omega) ?_
  rintro _ _ ⟨rfl, s1, n1, rfl, hM2⟩
  refine aw_aload_n (k := 2) rfl rfl ?_
  refine lw_rd 1 hk (by decide) (by omega) rfl rfl rfl rfl rfl ?_
  refine aw_callV (q0 := 39) (ci := 12) rfl cw_L_123 rfl rfl rfl hM2 rfl rfl (Nat.le_of_ble_eq_true rfl) (Nat.le_of_ble_eq_true rfl) (Nat.le_of_ble_eq_true rfl) (by show (cells + 0) + 0 ≤ 601024; omega) (by show (slots + 0) + 0 ≤ 7293034; omega) ?_
  rintro _ _ ⟨rfl, s2, n2, rfl, hR2⟩
  refine aw_icmp_eq (tgt := 1667) rfl (by decide) (fun _ => ?_) (fun h => absurd rfl h)
  exact kont _ _ s2 n2 (by omega) (by omega) hR2
set_option maxRecDepth 20000 in
theorem lw_c23 {l : Launch} {g : ag_G} {b L0 i cells slots : Nat} {xs : Nat → Int32} {s : am_S} {n : am_N} (hk : LK l g b L0 xs) (hi : i + 7 ≤ L0) (hc : cells ≤ 600000) (hs : slots ≤ 7000000) (hR : REL g s s n) (kont : KN l g b i cells slots) : aw_W l g mi_L_law room_1 (lz g) cells slots (hp g s n) 1006 (LLc g b i) [] := by
  refine aw_aload_n (k := 1) rfl rfl ?_
  refine lw_rd 1 hk (by decide) (by omega) rfl rfl rfl rfl rfl ?_
  refine lw_rd 2 hk (by decide) (by omega) rfl rfl rfl rfl rfl ?_
  refine lw_rd 3 hk (by decide) (by omega) rfl rfl rfl rfl rfl ?_
  obtain ⟨v, hM⟩ := BO_least (l := l) hk.1 (x := (xs (i + 1))) (k := (xs (i + 2))) (t := (xs (i + 3))) s n hR
  refine aw_callV (q0 := 0) (ci := 11) rfl cw_L_124 rfl rfl rfl hM rfl rfl (Nat.le_of_ble_eq_true rfl) (Nat.le_of_ble_eq_true rfl) (Nat.le_of_ble_eq_true rfl) (by show cells + 0 ≤ 601024; omega) (by show slots + 0 ≤ 7293034; omega) ?_
  rintro _ _ ⟨rfl, s1, n1, rfl, hM2⟩
  refine aw_aload_n (k := 2) rfl rfl ?_
  refine lw_rd 1 hk (by decide) (by omega) rfl rfl rfl rfl rfl ?_
  refine lw_rd 2 hk (by decide) (by omega) rfl rfl rfl rfl rfl ?_
  refine lw_rd 3 hk (by decide) (by omega) rfl rfl rfl rfl rfl ?_
  refine aw_callV (q0 := 39) (ci := 12) rfl cw_L_127 rfl rfl rfl hM2 rfl rfl (Nat.le_of_ble_eq_true rfl) (Nat.le_of_ble_eq_true rfl) (Nat.le_of_ble_eq_true rfl) (by show (cells + 0) + 0 ≤ 601024; omega) (by show (slots + 0) + 0 ≤ 7293034; omega) ?_
  rintro _ _ ⟨rfl, s2, n2, rfl, hR2⟩
  refine aw_icmp_eq (tgt := 1667) rfl (by decide) (fun _ => ?_) (fun h => absurd rfl h)
  exact kont _ _ s2 n2 (by omega) (by omega) hR2
set_option maxRecDepth 20000 in
theorem lw_c24 {l : Launch} {g : ag_G} {b L0 i cells slots : Nat} {xs : Nat → Int32} {s : am_S} {n : am_N} (hk : LK l g b L0 xs) (hi : i + 7 ≤ L0) (hc : cells ≤ 600000) (hs : slots ≤ 7000000) (hR : REL g s s n) (kont : KN l g b i cells slots) : aw_W l g mi_L_law room_1 (lz g) cells slots (hp g s n) 1055 (LLc g b i) [] := by
  refine aw_aload_n (k := 1) rfl rfl ?_
  refine lw_rd 1 hk (by decide) (by omega) rfl rfl rfl rfl rfl ?_
  refine lw_rd 2 hk (by decide) (by omega) rfl rfl rfl rfl rfl ?_
  obtain ⟨v, hM⟩ := BO_pack (l := l) hk.1 (k := (xs (i + 1))) (x := (xs (i + 2))) s n hR
  refine aw_callV (q0 := 0) (ci := 11) rfl cw_L_128 rfl rfl rfl hM rfl rfl (Nat.le_of_ble_eq_true rfl) (Nat.le_of_ble_eq_true rfl) (Nat.le_of_ble_eq_true rfl) (by show cells + 0 ≤ 601024; omega) (by show slots + 0 ≤ 7293034; omega) ?_
  rintro _ _ ⟨rfl, s1, n1, rfl, hM2⟩
  refine aw_aload_n (k := 2) rfl rfl ?_
  refine lw_rd 1 hk (by decide) (by omega) rfl rfl rfl rfl rfl ?_
  refine lw_rd 2 hk (by decide) (by omega) rfl rfl rfl rfl rfl ?_
  refine aw_callV (q0 := 39) (ci := 12) rfl cw_L_131 rfl rfl rfl hM2 rfl rfl (Nat.le_of_ble_eq_true rfl) (Nat.le_of_ble_eq_true rfl) (Nat.le_of_ble_eq_true rfl) (by show (cells + 0) + 0 ≤ 601024; omega) (by show (slots + 0) + 0 ≤ 7293034; omega) ?_
  rintro _ _ ⟨rfl, s2, n2, rfl, hR2⟩
  refine aw_icmp_eq (tgt := 1667) rfl (by decide) (fun _ => ?_) (fun h => absurd rfl h)
  exact kont _ _ s2 n2 (by omega) (by omega) hR2
set_option maxRecDepth 20000 in
theorem lw_c25 {l : Launch} {g : ag_G} {b L0 i cells slots : Nat} {xs : Nat → Int32} {s : am_S} {n : am_N} (hk : LK l g b L0 xs) (hi : i + 7 ≤ L0) (hc : cells ≤ 600000) (hs : slots ≤ 7000000) (hR : REL g s s n) (kont : KN l g b i cells slots) : aw_W l g mi_L_law room_1 (lz g) cells slots (hp g s n) 1092 (LLc g b i) [] := by
  refine aw_aload_n (k := 1) rfl rfl ?_
  refine lw_rd 1 hk (by decide) (by omega) rfl rfl rfl rfl rfl ?_
  obtain ⟨v, hM⟩ := BO_order (l := l) hk.1 (x := (xs (i + 1))) s n hR
  refine aw_callV (q0 := 0) (ci := 11) rfl cw_L_132 rfl rfl rfl hM rfl rfl (Nat.le_of_ble_eq_true rfl) (Nat.le_of_ble_eq_true rfl) (Nat.le_of_ble_eq_true rfl) (by show cells + 0 ≤ 601024; omega) (by show slots + 0 ≤ 7293034; omega) ?_
  rintro _ _ ⟨rfl, s1, n1, rfl, hM2⟩
  refine aw_aload_n (k := 2) rfl rfl ?_
  refine lw_rd 1 hk (by decide) (by omega) rfl rfl rfl rfl rfl ?_
  refine aw_callV (q0 := 39) (ci := 12) rfl cw_L_135 rfl rfl rfl hM2 rfl rfl (Nat.le_of_ble_eq_true rfl) (Nat.le_of_ble_eq_true rfl) (Nat.le_of_ble_eq_true rfl) (by show (cells + 0) + 0 ≤ 601024; omega) (by show (slots + 0) + 0 ≤ 7293034; omega) ?_
  rintro _ _ ⟨rfl, s2, n2, rfl, hR2⟩
  refine aw_icmp_eq (tgt := 1667) rfl (by decide) (fun _ => ?_) (fun h => absurd rfl h)
  exact kont _ _ s2 n2 (by omega) (by omega) hR2
set_option maxRecDepth 20000 in
theorem lw_c26 {l : Launch} {g : ag_G} {b L0 i cells slots : Nat} {xs : Nat → Int32} {s : am_S} {n : am_N} (hk : LK l g b L0 xs) (hi : i + 7 ≤ L0) (hc : cells ≤ 600000) (hs : slots ≤ 7000000) (hR : REL g s s n) (kont : KN l g b i cells slots) : aw_W l g mi_L_law room_1 (lz g) cells slots (hp g s n) 1117 (LLc g b i) [] := by
  refine aw_aload_n (k := 1) rfl rfl ?_
  refine lw_rd 1 hk (by decide) (by omega) rfl rfl rfl rfl rfl ?_
  refine lw_rd 2 hk (by decide) (by omega) rfl rfl rfl rfl rfl ?_
  obtain ⟨v, hM⟩ := BO_dealt (l := l) hk.1 (k := (xs (i + 1))) (x := (xs (i + 2))) s n hR
  refine aw_callV (q0 := 0) (ci := 11) rfl cw_L_136 rfl rfl rfl hM rfl rfl (Nat.le_of_ble_eq_true rfl) (Nat.le_of_ble_eq_true rfl) (Nat.le_of_ble_eq_true rfl) (by show cells + 0 ≤ 601024; omega) (by show slots + 0 ≤ 7293034; omega) ?_
  rintro _ _ ⟨rfl, s1, n1, rfl, hM2⟩
  refine aw_aload_n (k := 2) rfl rfl ?_
  refine lw_rd 1 hk (by decide) (by omega) rfl rfl rfl rfl rfl ?_
  refine lw_rd 2 hk (by decide) (by omega) rfl rfl rfl rfl rfl ?_
  refine aw_callV (q0 := 39) (ci := 12) rfl cw_L_139 rfl rfl rfl hM2 rfl rfl (Nat.le_of_ble_eq_true rfl) (Nat.le_of_ble_eq_true rfl) (Nat.le_of_ble_eq_true rfl) (by show (cells + 0) + 0 ≤ 601024; omega) (by show (slots + 0) + 0 ≤ 7293034; omega) ?_
  rintro _ _ ⟨rfl, s2, n2, rfl, hR2⟩
  refine aw_icmp_eq (tgt := 1667) rfl (by decide) (fun _ => ?_) (fun h => absurd rfl h)
  exact kont _ _ s2 n2 (by omega) (by omega) hR2
set_option maxRecDepth 20000 in
theorem lw_c27 {l : Launch} {g : ag_G} {b L0 i cells slots : Nat} {xs : Nat → Int32} {s : am_S} {n : am_N} (hk : LK l g b L0 xs) (hi : i + 7 ≤ L0) (hc : cells ≤ 600000) (hs : slots ≤ 7000000) (hR : REL g s s n) (kont : KN l g b i cells slots) : aw_W l g mi_L_law room_1 (lz g) cells slots (hp g s n) 1154 (LLc g b i) [] := by
  refine aw_aload_n (k := 1) rfl rfl ?_
  refine lw_rd 1 hk (by decide) (by omega) rfl rfl rfl rfl rfl ?_
  refine lw_rd 2 hk (by decide) (by omega) rfl rfl rfl rfl rfl ?_
  refine lw_rd 3 hk (by decide) (by omega) rfl rfl rfl rfl rfl ?_
  refine aw_if_eq (tgt := 1180) rfl (by decide) (fun hb => ?_) (fun hb => ?_)
  · refine aw_iconst (v := 0) rfl (by decide) ?_
    obtain ⟨v, hM⟩ := BO_noted (l := l) hk.1 (r := xs (i + 1)) (t := xs (i + 2)) (b := 0) (by decide) s n hR
    refine aw_callV (q0 := 0) (ci := 11) rfl cw_L_140 rfl rfl rfl hM rfl rfl (Nat.le_of_ble_eq_true rfl) (Nat.le_of_ble_eq_true rfl) (Nat.le_of_ble_eq_true rfl) (by show cells + 0 ≤ 601024; omega) (by show slots + 0 ≤ 7293034; omega) ?_
    rintro _ _ ⟨rfl, s1, n1, rfl, hM2⟩
    refine aw_aload_n (k := 2) rfl rfl ?_
    refine lw_rd 1 hk (by decide) (by omega) rfl rfl rfl rfl rfl ?_
    refine lw_rd 2 hk (by decide) (by omega) rfl rfl rfl rfl rfl ?_
    refine lw_rd 3 hk (by decide) (by omega) rfl rfl rfl rfl rfl ?_
    refine aw_if_eq (tgt := 1210) rfl (by decide) (fun _ => ?_) (fun h => absurd hb h)
    refine aw_iconst (v := 0) rfl (by decide) ?_
    refine aw_callV (q0 := 39) (ci := 12) rfl cw_L_144 rfl rfl rfl hM2 rfl rfl (Nat.le_of_ble_eq_true rfl) (Nat.le_of_ble_eq_true rfl) (Nat.le_of_ble_eq_true rfl) (by show (cells + 0) + 0 ≤ 601024; omega) (by show (slots + 0) + 0 ≤ 7293034; omega) ?_
    rintro _ _ ⟨rfl, s2, n2, rfl, hR2⟩
    refine aw_icmp_eq (tgt := 1667) rfl (by decide) (fun _ => ?_) (fun h => absurd rfl h)
    exact kont _ _ s2 n2 (by omega) (by omega) hR2
  · refine aw_iconst (v := 1) rfl (by decide) ?_
    refine aw_goto (tgt := 1181) rfl (by decide) ?_
    obtain ⟨v, hM⟩ := BO_noted (l := l) hk.1 (r := xs (i + 1)) (t := xs (i + 2)) (b := 1) (by decide) s n hR
    refine aw_callV (q0 := 0) (ci := 11) rfl cw_L_140 rfl rfl rfl hM rfl rfl (Nat.le_of_ble_eq_true rfl) (Nat.le_of_ble_eq_true rfl) (Nat.le_of_ble_eq_true rfl) (by show cells + 0 ≤ 601024; omega) (by show slots + 0 ≤ 7293034; omega) ?_
    rintro _ _ ⟨rfl, s1, n1, rfl, hM2⟩
    refine aw_aload_n (k := 2) rfl rfl ?_
    refine lw_rd 1 hk (by decide) (by omega) rfl rfl rfl rfl rfl ?_
    refine lw_rd 2 hk (by decide) (by omega) rfl rfl rfl rfl rfl ?_
    refine lw_rd 3 hk (by decide) (by omega) rfl rfl rfl rfl rfl ?_
    refine aw_if_eq (tgt := 1210) rfl (by decide) (fun h => absurd h hb) (fun _ => ?_)
    refine aw_iconst (v := 1) rfl (by decide) ?_
    refine aw_goto (tgt := 1211) rfl (by decide) ?_
    refine aw_callV (q0 := 39) (ci := 12) rfl cw_L_144 rfl rfl rfl hM2 rfl rfl (Nat.le_of_ble_eq_true rfl) (Nat.le_of_ble_eq_true rfl) (Nat.le_of_ble_eq_true rfl) (by show (cells + 0) + 0 ≤ 601024; omega) (by show (slots + 0) + 0 ≤ 7293034; omega) ?_
    rintro _ _ ⟨rfl, s2, n2, rfl, hR2⟩
    refine aw_icmp_eq (tgt := 1667) rfl (by decide) (fun _ => ?_) (fun h => absurd rfl h)
    exact kont _ _ s2 n2 (by omega) (by omega) hR2
set_option maxRecDepth 20000 in
theorem lw_c28 {l : Launch} {g : ag_G} {b L0 i cells slots : Nat} {xs : Nat → Int32} {s : am_S} {n : am_N} (hk : LK l g b L0 xs) (hi : i + 7 ≤ L0) (hc : cells ≤ 600000) (hs : slots ≤ 7000000) (hR : REL g s s n) (kont : KN l g b i cells slots) : aw_W l g mi_L_law room_1 (lz g) cells slots (hp g s n) 1219 (LLc g b i) [] := by
  refine aw_aload_n (k := 1) rfl rfl ?_
  refine lw_rd 1 hk (by decide) (by omega) rfl rfl rfl rfl rfl ?_
  obtain ⟨v, hM⟩ := BO_who (l := l) hk.1 (i := (xs (i + 1))) s n hR
  refine aw_callV (q0 := 0) (ci := 11) rfl cw_L_145 rfl rfl rfl hM rfl rfl (Nat.le_of_ble_eq_true rfl) (Nat.le_of_ble_eq_true rfl) (Nat.le_of_ble_eq_true rfl) (by show cells + 0 ≤ 601024; omega) (by show slots + 0 ≤ 7293034; omega) ?_
  rintro _ _ ⟨rfl, s1, n1, rfl, hM2⟩
  refine aw_aload_n (k := 2) rfl rfl ?_
  refine lw_rd 1 hk (by decide) (by omega) rfl rfl rfl rfl rfl ?_
  refine aw_callV (q0 := 39) (ci := 12) rfl cw_L_148 rfl rfl rfl hM2 rfl rfl (Nat.le_of_ble_eq_true rfl) (Nat.le_of_ble_eq_true rfl) (Nat.le_of_ble_eq_true rfl) (by show (cells + 0) + 0 ≤ 601024; omega) (by show (slots + 0) + 0 ≤ 7293034; omega) ?_
  rintro _ _ ⟨rfl, s2, n2, rfl, hR2⟩
  refine aw_icmp_eq (tgt := 1667) rfl (by decide) (fun _ => ?_) (fun h => absurd rfl h)
  exact kont _ _ s2 n2 (by omega) (by omega) hR2
set_option maxRecDepth 20000 in
theorem lw_c29 {l : Launch} {g : ag_G} {b L0 i cells slots : Nat} {xs : Nat → Int32} {s : am_S} {n : am_N} (hk : LK l g b L0 xs) (hi : i + 7 ≤ L0) (hc : cells ≤ 600000) (hs : slots ≤ 7000000) (hR : REL g s s n) (kont : KN l g b i cells slots) : aw_W l g mi_L_law room_1 (lz g) cells slots (hp g s n) 1244 (LLc g b i) [] := by
  refine aw_aload_n (k := 1) rfl rfl ?_
  obtain ⟨v, hM⟩ := BO_ask (l := l) hk.1  s n hR
  refine aw_callV (q0 := 0) (ci := 11) rfl cw_L_149 rfl rfl rfl hM rfl rfl (Nat.le_of_ble_eq_true rfl) (Nat.le_of_ble_eq_true rfl) (Nat.le_of_ble_eq_true rfl) (by show cells + 0 ≤ 601024; omega) (by show slots + 0 ≤ 7293034; omega) ?_
  rintro _ _ ⟨rfl, s1, n1, rfl, hM2⟩
  refine aw_aload_n (k := 2) rfl rfl ?_
  refine aw_callV (q0 := 39) (ci := 12) rfl cw_L_152 rfl rfl rfl hM2 rfl rfl (Nat.le_of_ble_eq_true rfl) (Nat.le_of_ble_eq_true rfl) (Nat.le_of_ble_eq_true rfl) (by show (cells + 0) + 0 ≤ 601024; omega) (by show (slots + 0) + 0 ≤ 7293034; omega) ?_
  rintro _ _ ⟨rfl, s2, n2, rfl, hR2⟩
  refine aw_icmp_eq (tgt := 1667) rfl (by decide) (fun _ => ?_) (fun h => absurd rfl h)
  exact kont _ _ s2 n2 (by omega) (by omega) hR2
set_option maxRecDepth 20000 in
theorem lw_c30 {l : Launch} {g : ag_G} {b L0 i cells slots : Nat} {xs : Nat → Int32} {s : am_S} {n : am_N} (hk : LK l g b L0 xs) (hi : i + 7 ≤ L0) (hc : cells ≤ 600000) (hs : slots ≤ 7000000) (hR : REL g s s n) (kont : KN l g b i cells slots) : aw_W l g mi_L_law room_1 (lz g) cells slots (hp g s n) 1257 (LLc g b i) [] := by
  refine aw_aload_n (k := 1) rfl rfl ?_
  refine lw_rd 1 hk (by decide) (by omega) rfl rfl rfl rfl rfl ?_
  refine lw_rd 2 hk (by decide) (by omega) rfl rfl rfl rfl rfl ?_
  refine lw_rd 3 hk (by decide) (by omega) rfl rfl rfl rfl rfl ?_
  refine lw_rd 4 hk (by decide) (by omega) rfl rfl rfl rfl rfl ?_
  refine lw_rd 5 hk (by decide) (by omega) rfl rfl rfl rfl rfl ?_
  refine lw_rd6 6 hk (by decide) (by omega) rfl rfl rfl rfl rfl ?_
  obtain ⟨v, hM⟩ := BO_game (l := l) hk.1 (p1 := (xs (i + 1))) (p2 := (xs (i + 2))) (t := (xs (i + 3))) (x := (xs (i + 4))) (y := (xs (i + 5))) (v := (xs (i + 6))) s n hR
  refine aw_callV (q0 := 0) (ci := 11) rfl cw_L_153 rfl rfl rfl hM rfl rfl (Nat.le_of_ble_eq_true rfl) (Nat.le_of_ble_eq_true rfl) (Nat.le_of_ble_eq_true rfl) (by show cells + 0 ≤ 601024; omega) (by show slots + 0 ≤ 7293034; omega) ?_
  rintro _ _ ⟨rfl, s1, n1, rfl, hM2⟩
  refine aw_aload_n (k := 2) rfl rfl ?_
  refine lw_rd 1 hk (by decide) (by omega) rfl rfl rfl rfl rfl ?_
  refine lw_rd 2 hk (by decide) (by omega) rfl rfl rfl rfl rfl ?_
  refine lw_rd 3 hk (by decide) (by omega) rfl rfl rfl rfl rfl ?_
  refine lw_rd 4 hk (by decide) (by omega) rfl rfl rfl rfl rfl ?_
  refine lw_rd 5 hk (by decide) (by omega) rfl rfl rfl rfl rfl ?_
  refine lw_rd6 6 hk (by decide) (by omega) rfl rfl rfl rfl rfl ?_
  refine aw_callV (q0 := 39) (ci := 12) rfl cw_L_157 rfl rfl rfl hM2 rfl rfl (Nat.le_of_ble_eq_true rfl) (Nat.le_of_ble_eq_true rfl) (Nat.le_of_ble_eq_true rfl) (by show (cells + 0) + 0 ≤ 601024; omega) (by show (slots + 0) + 0 ≤ 7293034; omega) ?_
  rintro _ _ ⟨rfl, s2, n2, rfl, hR2⟩
  refine aw_icmp_eq (tgt := 1667) rfl (by decide) (fun _ => ?_) (fun h => absurd rfl h)
  exact kont _ _ s2 n2 (by omega) (by omega) hR2
set_option maxRecDepth 20000 in
theorem lw_c31 {l : Launch} {g : ag_G} {b L0 i cells slots : Nat} {xs : Nat → Int32} {s : am_S} {n : am_N} (hk : LK l g b L0 xs) (hi : i + 7 ≤ L0) (hc : cells ≤ 600000) (hs : slots ≤ 7000000) (hR : REL g s s n) (kont : KN l g b i cells slots) : aw_W l g mi_L_law room_1 (lz g) cells slots (hp g s n) 1344 (LLc g b i) [] := by
  refine aw_aload_n (k := 1) rfl rfl ?_
  refine lw_rd 1 hk (by decide) (by omega) rfl rfl rfl rfl rfl ?_
  refine lw_rd 2 hk (by decide) (by omega) rfl rfl rfl rfl rfl ?_
  refine lw_rd 3 hk (by decide) (by omega) rfl rfl rfl rfl rfl ?_
  refine lw_rd 4 hk (by decide) (by omega) rfl rfl rfl rfl rfl ?_
  obtain ⟨v, hM⟩ := BO_rests (l := l) hk.1 (p1 := (xs (i + 1))) (p2 := (xs (i + 2))) (t := (xs (i + 3))) (i := (xs (i + 4))) s n hR
  refine aw_callV (q0 := 0) (ci := 11) rfl cw_L_158 rfl rfl rfl hM rfl rfl (Nat.le_of_ble_eq_true rfl) (Nat.le_of_ble_eq_true rfl) (Nat.le_of_ble_eq_true rfl) (by show cells + 0 ≤ 601024; omega) (by show slots + 0 ≤ 7293034; omega) ?_
  rintro _ _ ⟨rfl, s1, n1, rfl, hM2⟩
  refine aw_aload_n (k := 2) rfl rfl ?_
  refine lw_rd 1 hk (by decide) (by omega) rfl rfl rfl rfl rfl ?_
  refine lw_rd 2 hk (by decide) (by omega) rfl rfl rfl rfl rfl ?_
  refine lw_rd 3 hk (by decide) (by omega) rfl rfl rfl rfl rfl ?_
  refine lw_rd 4 hk (by decide) (by omega) rfl rfl rfl rfl rfl ?_
  refine aw_callV (q0 := 39) (ci := 12) rfl cw_L_162 rfl rfl rfl hM2 rfl rfl (Nat.le_of_ble_eq_true rfl) (Nat.le_of_ble_eq_true rfl) (Nat.le_of_ble_eq_true rfl) (by show (cells + 0) + 0 ≤ 601024; omega) (by show (slots + 0) + 0 ≤ 7293034; omega) ?_
  rintro _ _ ⟨rfl, s2, n2, rfl, hR2⟩
  refine aw_icmp_eq (tgt := 1667) rfl (by decide) (fun _ => ?_) (fun h => absurd rfl h)
  exact kont _ _ s2 n2 (by omega) (by omega) hR2
set_option maxRecDepth 20000 in
theorem lw_c32 {l : Launch} {g : ag_G} {b L0 i cells slots : Nat} {xs : Nat → Int32} {s : am_S} {n : am_N} (hk : LK l g b L0 xs) (hi : i + 7 ≤ L0) (hc : cells ≤ 600000) (hs : slots ≤ 7000000) (hR : REL g s s n) (kont : KN l g b i cells slots) : aw_W l g mi_L_law room_1 (lz g) cells slots (hp g s n) 1405 (LLc g b i) [] := by
  refine aw_aload_n (k := 1) rfl rfl ?_
  refine lw_rd 1 hk (by decide) (by omega) rfl rfl rfl rfl rfl ?_
  refine lw_rd 2 hk (by decide) (by omega) rfl rfl rfl rfl rfl ?_
  refine lw_rd 3 hk (by decide) (by omega) rfl rfl rfl rfl rfl ?_
  obtain ⟨v, hM⟩ := BO_odds (l := l) hk.1 (t := (xs (i + 1))) (k := (xs (i + 2))) (ch := (xs (i + 3))) s n hR
  refine aw_callV (q0 := 0) (ci := 11) rfl cw_L_163 rfl rfl rfl hM rfl rfl (Nat.le_of_ble_eq_true rfl) (Nat.le_of_ble_eq_true rfl) (Nat.le_of_ble_eq_true rfl) (by show cells + 0 ≤ 601024; omega) (by show slots + 0 ≤ 7293034; omega) ?_
  rintro _ _ ⟨rfl, s1, n1, rfl, hM2⟩
  refine aw_aload_n (k := 2) rfl rfl ?_
  refine lw_rd 1 hk (by decide) (by omega) rfl rfl rfl rfl rfl ?_
  refine lw_rd 2 hk (by decide) (by omega) rfl rfl rfl rfl rfl ?_
  refine lw_rd 3 hk (by decide) (by omega) rfl rfl rfl rfl rfl ?_
  refine aw_callV (q0 := 39) (ci := 12) rfl cw_L_166 rfl rfl rfl hM2 rfl rfl (Nat.le_of_ble_eq_true rfl) (Nat.le_of_ble_eq_true rfl) (Nat.le_of_ble_eq_true rfl) (by show (cells + 0) + 0 ≤ 601024; omega) (by show (slots + 0) + 0 ≤ 7293034; omega) ?_
  rintro _ _ ⟨rfl, s2, n2, rfl, hR2⟩
  refine aw_icmp_eq (tgt := 1667) rfl (by decide) (fun _ => ?_) (fun h => absurd rfl h)
  exact kont _ _ s2 n2 (by omega) (by omega) hR2
set_option maxRecDepth 20000 in
theorem lw_c33 {l : Launch} {g : ag_G} {b L0 i cells slots : Nat} {xs : Nat → Int32} {s : am_S} {n : am_N} (hk : LK l g b L0 xs) (hi : i + 7 ≤ L0) (hc : cells ≤ 600000) (hs : slots ≤ 7000000) (hR : REL g s s n) (kont : KN l g b i cells slots) : aw_W l g mi_L_law room_1 (lz g) cells slots (hp g s n) 1454 (LLc g b i) [] := by
  refine aw_aload_n (k := 1) rfl rfl ?_
  refine lw_rd 1 hk (by decide) (by omega) rfl rfl rfl rfl rfl ?_
  obtain ⟨v, hM⟩ := BO_all (l := l) hk.1 (x := (xs (i + 1))) s n hR
  refine aw_callV (q0 := 0) (ci := 11) rfl cw_L_167 rfl rfl rfl hM rfl rfl (Nat.le_of_ble_eq_true rfl) (Nat.le_of_ble_eq_true rfl) (Nat.le_of_ble_eq_true rfl) (by show cells + 0 ≤ 601024; omega) (by show slots + 0 ≤ 7293034; omega) ?_
  rintro _ _ ⟨rfl, s1, n1, rfl, hM2⟩
  refine aw_aload_n (k := 2) rfl rfl ?_
  refine lw_rd 1 hk (by decide) (by omega) rfl rfl rfl rfl rfl ?_
  refine aw_callV (q0 := 39) (ci := 12) rfl cw_L_170 rfl rfl rfl hM2 rfl rfl (Nat.le_of_ble_eq_true rfl) (Nat.le_of_ble_eq_true rfl) (Nat.le_of_ble_eq_true rfl) (by show (cells + 0) + 0 ≤ 601024; omega) (by show (slots + 0) + 0 ≤ 7293034; omega) ?_
  rintro _ _ ⟨rfl, s2, n2, rfl, hR2⟩
  refine aw_icmp_eq (tgt := 1667) rfl (by decide) (fun _ => ?_) (fun h => absurd rfl h)
  exact kont _ _ s2 n2 (by omega) (by omega) hR2
set_option maxRecDepth 20000 in
theorem lw_c34 {l : Launch} {g : ag_G} {b L0 i cells slots : Nat} {xs : Nat → Int32} {s : am_S} {n : am_N} (hk : LK l g b L0 xs) (hi : i + 7 ≤ L0) (hc : cells ≤ 600000) (hs : slots ≤ 7000000) (hR : REL g s s n) (kont : KN l g b i cells slots) : aw_W l g mi_L_law room_1 (lz g) cells slots (hp g s n) 1479 (LLc g b i) [] := by
  refine aw_aload_n (k := 1) rfl rfl ?_
  refine lw_rd 1 hk (by decide) (by omega) rfl rfl rfl rfl rfl ?_
  obtain ⟨v, hM⟩ := BO_known (l := l) hk.1 (r := (xs (i + 1))) s n hR
  refine aw_callV (q0 := 0) (ci := 11) rfl cw_L_171 rfl rfl rfl hM rfl rfl (Nat.le_of_ble_eq_true rfl) (Nat.le_of_ble_eq_true rfl) (Nat.le_of_ble_eq_true rfl) (by show cells + 0 ≤ 601024; omega) (by show slots + 0 ≤ 7293034; omega) ?_
  rintro _ _ ⟨rfl, s1, n1, rfl, hM2⟩
  refine aw_aload_n (k := 2) rfl rfl ?_
  refine lw_rd 1 hk (by decide) (by omega) rfl rfl rfl rfl rfl ?_
  refine aw_callV (q0 := 39) (ci := 12) rfl cw_L_174 rfl rfl rfl hM2 rfl rfl (Nat.le_of_ble_eq_true rfl) (Nat.le_of_ble_eq_true rfl) (Nat.le_of_ble_eq_true rfl) (by show (cells + 0) + 0 ≤ 601024; omega) (by show (slots + 0) + 0 ≤ 7293034; omega) ?_
  rintro _ _ ⟨rfl, s2, n2, rfl, hR2⟩
  refine aw_icmp_eq (tgt := 1667) rfl (by decide) (fun _ => ?_) (fun h => absurd rfl h)
  exact kont _ _ s2 n2 (by omega) (by omega) hR2
set_option maxRecDepth 20000 in
theorem lw_c35 {l : Launch} {g : ag_G} {b L0 i cells slots : Nat} {xs : Nat → Int32} {s : am_S} {n : am_N} (hk : LK l g b L0 xs) (hi : i + 7 ≤ L0) (hc : cells ≤ 600000) (hs : slots ≤ 7000000) (hR : REL g s s n) (kont : KN l g b i cells slots) : aw_W l g mi_L_law room_1 (lz g) cells slots (hp g s n) 1504 (LLc g b i) [] := by
  refine aw_aload_n (k := 1) rfl rfl ?_
  refine lw_rd 1 hk (by decide) (by omega) rfl rfl rfl rfl rfl ?_
  obtain ⟨v, hM⟩ := BO_spare (l := l) hk.1 (t := (xs (i + 1))) s n hR
  refine aw_callV (q0 := 0) (ci := 11) rfl cw_L_175 rfl rfl rfl hM rfl rfl (Nat.le_of_ble_eq_true rfl) (Nat.le_of_ble_eq_true rfl) (Nat.le_of_ble_eq_true rfl) (by show cells + 0 ≤ 601024; omega) (by show slots + 0 ≤ 7293034; omega) ?_
  rintro _ _ ⟨rfl, s1, n1, rfl, hM2⟩
  refine aw_aload_n (k := 2) rfl rfl ?_
  refine lw_rd 1 hk (by decide) (by omega) rfl rfl rfl rfl rfl ?_
  refine aw_callV (q0 := 39) (ci := 12) rfl cw_L_178 rfl rfl rfl hM2 rfl rfl (Nat.le_of_ble_eq_true rfl) (Nat.le_of_ble_eq_true rfl) (Nat.le_of_ble_eq_true rfl) (by show (cells + 0) + 0 ≤ 601024; omega) (by show (slots + 0) + 0 ≤ 7293034; omega) ?_
  rintro _ _ ⟨rfl, s2, n2, rfl, hR2⟩
  refine aw_icmp_eq (tgt := 1667) rfl (by decide) (fun _ => ?_) (fun h => absurd rfl h)
  exact kont _ _ s2 n2 (by omega) (by omega) hR2
set_option maxRecDepth 20000 in
theorem lw_c36 {l : Launch} {g : ag_G} {b L0 i cells slots : Nat} {xs : Nat → Int32} {s : am_S} {n : am_N} (hk : LK l g b L0 xs) (hi : i + 7 ≤ L0) (hc : cells ≤ 600000) (hs : slots ≤ 7000000) (hR : REL g s s n) (kont : KN l g b i cells slots) : aw_W l g mi_L_law room_1 (lz g) cells slots (hp g s n) 1529 (LLc g b i) [] := by
  refine aw_aload_n (k := 1) rfl rfl ?_
  refine lw_rd 1 hk (by decide) (by omega) rfl rfl rfl rfl rfl ?_
  obtain ⟨v, hM⟩ := BO_openers (l := l) hk.1 (t := (xs (i + 1))) s n hR
  refine aw_callV (q0 := 0) (ci := 11) rfl cw_L_179 rfl rfl rfl hM rfl rfl (Nat.le_of_ble_eq_true rfl) (Nat.le_of_ble_eq_true rfl) (Nat.le_of_ble_eq_true rfl) (by show cells + 0 ≤ 601024; omega) (by show slots + 0 ≤ 7293034; omega) ?_
  rintro _ _ ⟨rfl, s1, n1, rfl, hM2⟩
  refine aw_aload_n (k := 2) rfl rfl ?_
  refine lw_rd 1 hk (by decide) (by omega) rfl rfl rfl rfl rfl ?_
  refine aw_callV (q0 := 39) (ci := 12) rfl cw_L_182 rfl rfl rfl hM2 rfl rfl (Nat.le_of_ble_eq_true rfl) (Nat.le_of_ble_eq_true rfl) (Nat.le_of_ble_eq_true rfl) (by show (cells + 0) + 0 ≤ 601024; omega) (by show (slots + 0) + 0 ≤ 7293034; omega) ?_
  rintro _ _ ⟨rfl, s2, n2, rfl, hR2⟩
  refine aw_icmp_eq (tgt := 1667) rfl (by decide) (fun _ => ?_) (fun h => absurd rfl h)
  exact kont _ _ s2 n2 (by omega) (by omega) hR2
set_option maxRecDepth 20000 in
theorem lw_c37 {l : Launch} {g : ag_G} {b L0 i cells slots : Nat} {xs : Nat → Int32} {s : am_S} {n : am_N} (hk : LK l g b L0 xs) (hi : i + 7 ≤ L0) (hc : cells ≤ 600000) (hs : slots ≤ 7000000) (hR : REL g s s n) (kont : KN l g b i cells slots) : aw_W l g mi_L_law room_1 (lz g) cells slots (hp g s n) 1554 (LLc g b i) [] := by
  refine aw_aload_n (k := 1) rfl rfl ?_
  refine lw_rd 1 hk (by decide) (by omega) rfl rfl rfl rfl rfl ?_
  obtain ⟨v, hM⟩ := BO_tells (l := l) hk.1 (r := (xs (i + 1))) s n hR
  refine aw_callV (q0 := 0) (ci := 11) rfl cw_L_183 rfl rfl rfl hM rfl rfl (Nat.le_of_ble_eq_true rfl) (Nat.le_of_ble_eq_true rfl) (Nat.le_of_ble_eq_true rfl) (by show cells + 0 ≤ 601024; omega) (by show slots + 0 ≤ 7293034; omega) ?_
  rintro _ _ ⟨rfl, s1, n1, rfl, hM2⟩
  refine aw_aload_n (k := 2) rfl rfl ?_
  refine lw_rd 1 hk (by decide) (by omega) rfl rfl rfl rfl rfl ?_
  refine aw_callV (q0 := 39) (ci := 12) rfl cw_L_186 rfl rfl rfl hM2 rfl rfl (Nat.le_of_ble_eq_true rfl) (Nat.le_of_ble_eq_true rfl) (Nat.le_of_ble_eq_true rfl) (by show (cells + 0) + 0 ≤ 601024; omega) (by show (slots + 0) + 0 ≤ 7293034; omega) ?_
  rintro _ _ ⟨rfl, s2, n2, rfl, hR2⟩
  refine aw_icmp_eq (tgt := 1667) rfl (by decide) (fun _ => ?_) (fun h => absurd rfl h)
  exact kont _ _ s2 n2 (by omega) (by omega) hR2
set_option maxRecDepth 20000 in
theorem lw_c38 {l : Launch} {g : ag_G} {b L0 i cells slots : Nat} {xs : Nat → Int32} {s : am_S} {n : am_N} (hk : LK l g b L0 xs) (hi : i + 7 ≤ L0) (hc : cells ≤ 600000) (hs : slots ≤ 7000000) (hR : REL g s s n) (kont : KN l g b i cells slots) : aw_W l g mi_L_law room_1 (lz g) cells slots (hp g s n) 1579 (LLc g b i) [] := by
  refine aw_aload_n (k := 1) rfl rfl ?_
  refine lw_rd 1 hk (by decide) (by omega) rfl rfl rfl rfl rfl ?_
  refine lw_rd 2 hk (by decide) (by omega) rfl rfl rfl rfl rfl ?_
  obtain ⟨v, hM⟩ := BO_harden (l := l) hk.1 (t := (xs (i + 1))) (k := (xs (i + 2))) s n hR
  refine aw_callV (q0 := 0) (ci := 11) rfl cw_L_187 rfl rfl rfl hM rfl rfl (Nat.le_of_ble_eq_true rfl) (Nat.le_of_ble_eq_true rfl) (Nat.le_of_ble_eq_true rfl) (by show cells + 0 ≤ 601024; omega) (by show slots + 0 ≤ 7293034; omega) ?_
  rintro _ _ ⟨rfl, s1, n1, rfl, hM2⟩
  refine aw_aload_n (k := 2) rfl rfl ?_
  refine lw_rd 1 hk (by decide) (by omega) rfl rfl rfl rfl rfl ?_
  refine lw_rd 2 hk (by decide) (by omega) rfl rfl rfl rfl rfl ?_
  refine aw_callV (q0 := 39) (ci := 12) rfl cw_L_190 rfl rfl rfl hM2 rfl rfl (Nat.le_of_ble_eq_true rfl) (Nat.le_of_ble_eq_true rfl) (Nat.le_of_ble_eq_true rfl) (by show (cells + 0) + 0 ≤ 601024; omega) (by show (slots + 0) + 0 ≤ 7293034; omega) ?_
  rintro _ _ ⟨rfl, s2, n2, rfl, hR2⟩
  refine aw_icmp_eq (tgt := 1667) rfl (by decide) (fun _ => ?_) (fun h => absurd rfl h)
  exact kont _ _ s2 n2 (by omega) (by omega) hR2
set_option maxRecDepth 20000 in
theorem lw_c39 {l : Launch} {g : ag_G} {b L0 i cells slots : Nat} {xs : Nat → Int32} {s : am_S} {n : am_N} (hk : LK l g b L0 xs) (hi : i + 7 ≤ L0) (hc : cells ≤ 600000) (hs : slots ≤ 7000000) (hR : REL g s s n) (kont : KN l g b i cells slots) : aw_W l g mi_L_law room_1 (lz g) cells slots (hp g s n) 1616 (LLc g b i) [] := by
  refine aw_aload_n (k := 1) rfl rfl ?_
  obtain ⟨v, hM⟩ := BO_image (l := l) hk.1  s n hR
  refine aw_callV (q0 := 0) (ci := 11) rfl cw_L_191 rfl rfl rfl hM rfl rfl (Nat.le_of_ble_eq_true rfl) (Nat.le_of_ble_eq_true rfl) (Nat.le_of_ble_eq_true rfl) (by show cells + 0 ≤ 601024; omega) (by show slots + 0 ≤ 7293034; omega) ?_
  rintro _ _ ⟨rfl, s1, n1, rfl, hM2⟩
  refine aw_aload_n (k := 2) rfl rfl ?_
  refine aw_callV (q0 := 39) (ci := 12) rfl cw_L_194 rfl rfl rfl hM2 rfl rfl (Nat.le_of_ble_eq_true rfl) (Nat.le_of_ble_eq_true rfl) (Nat.le_of_ble_eq_true rfl) (by show (cells + 0) + 0 ≤ 601024; omega) (by show (slots + 0) + 0 ≤ 7293034; omega) ?_
  rintro _ _ ⟨rfl, s2, n2, rfl, hR2⟩
  refine aw_icmp_eq (tgt := 1667) rfl (by decide) (fun _ => ?_) (fun h => absurd rfl h)
  exact kont _ _ s2 n2 (by omega) (by omega) hR2
set_option maxRecDepth 20000 in
theorem lw_c40 {l : Launch} {g : ag_G} {b L0 i cells slots : Nat} {xs : Nat → Int32} {s : am_S} {n : am_N} (hk : LK l g b L0 xs) (hi : i + 7 ≤ L0) (hc : cells ≤ 600000) (hs : slots ≤ 7000000) (hR : REL g s s n) (kont : KN l g b i cells slots) : aw_W l g mi_L_law room_1 (lz g) cells slots (hp g s n) 1629 (LLc g b i) [] := by
  refine aw_aload_n (k := 1) rfl rfl ?_
  obtain ⟨v, hM⟩ := BO_back (l := l) hk.1  s n hR
  refine aw_callV (q0 := 0) (ci := 11) rfl cw_L_195 rfl rfl rfl hM rfl rfl (Nat.le_of_ble_eq_true rfl) (Nat.le_of_ble_eq_true rfl) (Nat.le_of_ble_eq_true rfl) (by show cells + 0 ≤ 601024; omega) (by show slots + 0 ≤ 7293034; omega) ?_
  rintro _ _ ⟨rfl, s1, n1, rfl, hM2⟩
  refine aw_aload_n (k := 2) rfl rfl ?_
  refine aw_callV (q0 := 39) (ci := 12) rfl cw_L_198 rfl rfl rfl hM2 rfl rfl (Nat.le_of_ble_eq_true rfl) (Nat.le_of_ble_eq_true rfl) (Nat.le_of_ble_eq_true rfl) (by show (cells + 0) + 0 ≤ 601024; omega) (by show (slots + 0) + 0 ≤ 7293034; omega) ?_
  rintro _ _ ⟨rfl, s2, n2, rfl, hR2⟩
  refine aw_icmp_eq (tgt := 1667) rfl (by decide) (fun _ => ?_) (fun h => absurd rfl h)
  exact kont _ _ s2 n2 (by omega) (by omega) hR2
set_option maxRecDepth 20000 in
theorem lw_c41 {l : Launch} {g : ag_G} {b L0 i cells slots : Nat} {xs : Nat → Int32} {s : am_S} {n : am_N} (hk : LK l g b L0 xs) (hi : i + 7 ≤ L0) (hc : cells ≤ 600000) (hs : slots ≤ 7000000) (hR : REL g s s n) (kont : KN l g b i cells slots) : aw_W l g mi_L_law room_1 (lz g) cells slots (hp g s n) 1642 (LLc g b i) [] := by
  refine aw_aload_n (k := 1) rfl rfl ?_
  refine lw_rd 1 hk (by decide) (by omega) rfl rfl rfl rfl rfl ?_
  obtain ⟨v, hM⟩ := BO_count (l := l) hk.1 (x := (xs (i + 1))) s n hR
  refine aw_callV (q0 := 0) (ci := 11) rfl cw_L_199 rfl rfl rfl hM rfl rfl (Nat.le_of_ble_eq_true rfl) (Nat.le_of_ble_eq_true rfl) (Nat.le_of_ble_eq_true rfl) (by show cells + 0 ≤ 601024; omega) (by show slots + 0 ≤ 7293034; omega) ?_
  rintro _ _ ⟨rfl, s1, n1, rfl, hM2⟩
  refine aw_aload_n (k := 2) rfl rfl ?_
  refine lw_rd 1 hk (by decide) (by omega) rfl rfl rfl rfl rfl ?_
  refine aw_callV (q0 := 39) (ci := 12) rfl cw_L_202 rfl rfl rfl hM2 rfl rfl (Nat.le_of_ble_eq_true rfl) (Nat.le_of_ble_eq_true rfl) (Nat.le_of_ble_eq_true rfl) (by show (cells + 0) + 0 ≤ 601024; omega) (by show (slots + 0) + 0 ≤ 7293034; omega) ?_
  rintro _ _ ⟨rfl, s2, n2, rfl, hR2⟩
  refine aw_icmp_eq (tgt := 1667) rfl (by decide) (fun _ => ?_) (fun h => absurd rfl h)
  exact kont _ _ s2 n2 (by omega) (by omega) hR2
