set_option maxHeartbeats 4000000 in
set_option maxRecDepth 100000 in
theorem law_body {p : Program} {l : Launch} {e : Env} {s : State} {m : MethodId} {below : List Frame} {meth : Method} {c : Code} {D : va_G} {cy : Nat → ClassId} {a b kt vt : Nat → Nat} {bb L : Nat} {xs : Nat → Int32} {N k : Nat} {x3 : Int32} {Inv : Nat → nS → nS → Prop} (hL : L ≤ 4096) (C0 : lw_At p s m meth c bb L xs) (hC : lwC s D cy a b kt vt) (ex3 : x3 = nI (8 * k)) (hkB : k < 2 ^ 20) (hmono : ∀ n σ τ, Inv n σ τ → Inv (n + 1) σ τ) (h0 : nOp0 N Inv) (h1 : nOp1 N Inv) (h2 : nOp2 N Inv) (h3 : nOp3 N Inv) (h4 : nOp4 N Inv) (h5 : nOp5 N Inv) (h6 : nOp6 N Inv) (h7 : nOp7 N Inv) (h8 : nOp8 N Inv) (h9 : nOp9 N Inv) (h10 : nOp10 N Inv) (h11 : nOp11 N Inv) (h12 : nOp12 N Inv) (h13 : nOp13 N Inv) (h14 : nOp14 N Inv) (h15 : nOp15 N Inv) (h16 : nOp16 N Inv) (h17 : nOp17 N Inv) (h18 : nOp18 N Inv) (h19 : nOp19 N Inv) (h20 : nOp20 N Inv) (h21 : nOp21 N Inv) (h22 : nOp22 N Inv) (h23 : nOp23 N Inv) (h24 : nOp24 N Inv) (h25 : nOp25 N Inv) (h26 : nOp26 N Inv) (h27 : nOp27 N Inv) (h28 : nOp28 N Inv) (K : 8 * k + 8 ≤ L → lwA p l e s m below meth c D cy a b bb x3 (Inv (k + 1)) 1059) : lwA p l e s m below meth c D cy a b bb x3 (Inv k) 18 := by
  have C1 := C0
  obtain ⟨hx, hb, hr, hml, hown, htl, hX, hbl, hlocks, hgv⟩ := C0
  have hb0 := hb
  have hb : c.code = cL_law := hb
  have hbA : ¬ (fun q : Nat => s.heap.size ≤ q) bb := Nat.not_le.mpr hbl
  intro σ τ H locs ls hI hP1 hP2 hS hl
  refine lv_iload_n hx hb dL_law_18 rfl (lv_at hl 3 rfl) ?_
  refine lv_aload_n hx hb dL_law_19 rfl (lv_at hl 0 rfl) ?_
  refine va_slen hx hb hX hbl hbA hS dL_law_20 ?_
  refine lv_bipush (v := 8) hx hb dL_law_21 (by decide) ?_
  refine lv_isub hx hb dL_law_23 ?_
  refine lv_icmp_gt (tgt := 1065) hx hb dL_law_24 (by decide) (fun hc => ?_) (fun hc => ?_)
  · refine lv_iconst (v := 1) hx hb dL_law_1065 (by decide) ?_
    refine va_forget (fun q hq => hS.2.2 q hq) ?_
    refine W.widen (k := 1089) (n := 31741) (Nat.le_of_ble_eq_true rfl) (Nat.le_of_ble_eq_true rfl) ?_
    exact lw_ret hx hb0 hr hlocks dL_law_1066
  · have hk : 8 * k + 8 ≤ L := by
      rcases Nat.lt_or_ge L (8 * k + 8) with q | q
      · refine absurd ?_ hc
        rw [ex3]
        refine Int32.lt_iff_toInt_lt.mpr ?_
        by_cases hkb : k < 2 ^ 20
        · have e1 : (nI L - 8).toInt = (L : Int) - 8 := pk_sub_toInt (a := L) (b := 8) (by omega) (by omega)
          have e2 : (nI (8 * k)).toInt = ((8 * k : Nat) : Int) := nI_toInt (by omega)
          rw [show (Int32.ofNat L - 8 : Int32).toInt = (L : Int) - 8 from e1, e2]
          omega
        · exact absurd hkB hkb
      · exact q
    refine lv_aload_n hx hb dL_law_27 rfl (lv_at hl 0 rfl) ?_
    refine lv_iload_n hx hb dL_law_28 rfl (lv_at hl 3 rfl) ?_
    refine lw_sld hx hb hX hbl hbA hS (k := 8 * k) ex3 (by omega) (by omega) dL_law_29 ?_
    refine lv_bipush (v := 31) hx hb dL_law_30 (by decide) ?_
    refine lv_iand hx hb dL_law_32 ?_
    refine lv_topi (fun v ev => ?_)
    by_cases hs0 : v = 0
    · refine lv_tableIn (tgt := 164) (off := 131) hx hb dL_law_33 (by rw [hs0]; decide) (by rw [hs0]; decide) (by rw [hs0]; rfl) (by decide) ?_
      exact law_case_0 hL C1 hC hk ex3 h0 (K hk) σ τ H locs ls hI hP1 hP2 hS hl
    by_cases hs1 : v = 1
    · refine lv_tableIn (tgt := 177) (off := 144) hx hb dL_law_33 (by rw [hs1]; decide) (by rw [hs1]; decide) (by rw [hs1]; rfl) (by decide) ?_
      exact law_case_1 hL C1 hC hk ex3 h1 (K hk) σ τ H locs ls hI hP1 hP2 hS hl
    by_cases hs2 : v = 2
    · refine lv_tableIn (tgt := 200) (off := 167) hx hb dL_law_33 (by rw [hs2]; decide) (by rw [hs2]; decide) (by rw [hs2]; rfl) (by decide) ?_
      exact law_case_2 hL C1 hC hk ex3 h2 (K hk) σ τ H locs ls hI hP1 hP2 hS hl
    by_cases hs3 : v = 3
    · refine lv_tableIn (tgt := 223) (off := 190) hx hb dL_law_33 (by rw [hs3]; decide) (by rw [hs3]; decide) (by rw [hs3]; rfl) (by decide) ?_
      exact law_case_3 hL C1 hC hk ex3 h3 (K hk) σ τ H locs ls hI hP1 hP2 hS hl
    by_cases hs4 : v = 4
    · refine lv_tableIn (tgt := 246) (off := 213) hx hb dL_law_33 (by rw [hs4]; decide) (by rw [hs4]; decide) (by rw [hs4]; rfl) (by decide) ?_
      exact law_case_4 hL C1 hC hk ex3 h4 (K hk) σ τ H locs ls hI hP1 hP2 hS hl
    by_cases hs5 : v = 5
    · refine lv_tableIn (tgt := 309) (off := 276) hx hb dL_law_33 (by rw [hs5]; decide) (by rw [hs5]; decide) (by rw [hs5]; rfl) (by decide) ?_
      exact law_case_5 hL C1 hC hk ex3 h5 (K hk) σ τ H locs ls hI hP1 hP2 hS hl
    by_cases hs6 : v = 6
    · refine lv_tableIn (tgt := 332) (off := 299) hx hb dL_law_33 (by rw [hs6]; decide) (by rw [hs6]; decide) (by rw [hs6]; rfl) (by decide) ?_
      exact law_case_6 hL C1 hC hk ex3 h6 (K hk) σ τ H locs ls hI hP1 hP2 hS hl
    by_cases hs7 : v = 7
    · refine lv_tableIn (tgt := 345) (off := 312) hx hb dL_law_33 (by rw [hs7]; decide) (by rw [hs7]; decide) (by rw [hs7]; rfl) (by decide) ?_
      exact law_case_7 hL C1 hC hk ex3 h7 (K hk) σ τ H locs ls hI hP1 hP2 hS hl
    by_cases hs8 : v = 8
    · refine lv_tableIn (tgt := 358) (off := 325) hx hb dL_law_33 (by rw [hs8]; decide) (by rw [hs8]; decide) (by rw [hs8]; rfl) (by decide) ?_
      exact law_case_8 hL C1 hC hk ex3 h8 (K hk) σ τ H locs ls hI hP1 hP2 hS hl
    by_cases hs9 : v = 9
    · refine lv_tableIn (tgt := 381) (off := 348) hx hb dL_law_33 (by rw [hs9]; decide) (by rw [hs9]; decide) (by rw [hs9]; rfl) (by decide) ?_
      exact law_case_9 hL C1 hC hk ex3 h9 (K hk) σ τ H locs ls hI hP1 hP2 hS hl
    by_cases hs10 : v = 10
    · refine lv_tableIn (tgt := 424) (off := 391) hx hb dL_law_33 (by rw [hs10]; decide) (by rw [hs10]; decide) (by rw [hs10]; rfl) (by decide) ?_
      exact law_case_10 hL C1 hC hk ex3 h10 (K hk) σ τ H locs ls hI hP1 hP2 hS hl
    by_cases hs11 : v = 11
    · refine lv_tableIn (tgt := 477) (off := 444) hx hb dL_law_33 (by rw [hs11]; decide) (by rw [hs11]; decide) (by rw [hs11]; rfl) (by decide) ?_
      exact law_case_11 hL C1 hC hk ex3 h11 (K hk) σ τ H locs ls hI hP1 hP2 hS hl
    by_cases hs12 : v = 12
    · refine lv_tableIn (tgt := 500) (off := 467) hx hb dL_law_33 (by rw [hs12]; decide) (by rw [hs12]; decide) (by rw [hs12]; rfl) (by decide) ?_
      exact law_case_12 hL C1 hC hk ex3 h12 (K hk) σ τ H locs ls hI hP1 hP2 hS hl
    by_cases hs13 : v = 13
    · refine lv_tableIn (tgt := 523) (off := 490) hx hb dL_law_33 (by rw [hs13]; decide) (by rw [hs13]; decide) (by rw [hs13]; rfl) (by decide) ?_
      exact law_case_13 hL C1 hC hk ex3 h13 (K hk) σ τ H locs ls hI hP1 hP2 hS hl
    by_cases hs14 : v = 14
    · refine lv_tableIn (tgt := 586) (off := 553) hx hb dL_law_33 (by rw [hs14]; decide) (by rw [hs14]; decide) (by rw [hs14]; rfl) (by decide) ?_
      exact law_case_14 hL C1 hC hk ex3 h14 (K hk) σ τ H locs ls hI hP1 hP2 hS hl
    by_cases hs15 : v = 15
    · refine lv_tableIn (tgt := 609) (off := 576) hx hb dL_law_33 (by rw [hs15]; decide) (by rw [hs15]; decide) (by rw [hs15]; rfl) (by decide) ?_
      exact law_case_15 hL C1 hC hk ex3 h15 (K hk) σ τ H locs ls hI hP1 hP2 hS hl
    by_cases hs16 : v = 16
    · refine lv_tableIn (tgt := 632) (off := 599) hx hb dL_law_33 (by rw [hs16]; decide) (by rw [hs16]; decide) (by rw [hs16]; rfl) (by decide) ?_
      exact law_case_16 hL C1 hC hk ex3 h16 (K hk) σ τ H locs ls hI hP1 hP2 hS hl
    by_cases hs17 : v = 17
    · refine lv_tableIn (tgt := 655) (off := 622) hx hb dL_law_33 (by rw [hs17]; decide) (by rw [hs17]; decide) (by rw [hs17]; rfl) (by decide) ?_
      exact law_case_17 hL C1 hC hk ex3 h17 (K hk) σ τ H locs ls hI hP1 hP2 hS hl
    by_cases hs18 : v = 18
    · refine lv_tableIn (tgt := 688) (off := 655) hx hb dL_law_33 (by rw [hs18]; decide) (by rw [hs18]; decide) (by rw [hs18]; rfl) (by decide) ?_
      exact law_case_18 hL C1 hC hk ex3 h18 (K hk) σ τ H locs ls hI hP1 hP2 hS hl
    by_cases hs19 : v = 19
    · refine lv_tableIn (tgt := 701) (off := 668) hx hb dL_law_33 (by rw [hs19]; decide) (by rw [hs19]; decide) (by rw [hs19]; rfl) (by decide) ?_
      exact law_case_19 hL C1 hC hk ex3 h19 (K hk) σ τ H locs ls hI hP1 hP2 hS hl
    by_cases hs20 : v = 20
    · refine lv_tableIn (tgt := 724) (off := 691) hx hb dL_law_33 (by rw [hs20]; decide) (by rw [hs20]; decide) (by rw [hs20]; rfl) (by decide) ?_
      exact law_case_20 hL C1 hC hk ex3 h20 (K hk) σ τ H locs ls hI hP1 hP2 hS hl
    by_cases hs21 : v = 21
    · refine lv_tableIn (tgt := 811) (off := 778) hx hb dL_law_33 (by rw [hs21]; decide) (by rw [hs21]; decide) (by rw [hs21]; rfl) (by decide) ?_
      exact law_case_21 hL C1 hC hk ex3 h21 (K hk) σ τ H locs ls hI hP1 hP2 hS hl
    by_cases hs22 : v = 22
    · refine lv_tableIn (tgt := 860) (off := 827) hx hb dL_law_33 (by rw [hs22]; decide) (by rw [hs22]; decide) (by rw [hs22]; rfl) (by decide) ?_
      exact law_case_22 hL C1 hC hk ex3 h22 (K hk) σ τ H locs ls hI hP1 hP2 hS hl
    by_cases hs23 : v = 23
    · refine lv_tableIn (tgt := 883) (off := 850) hx hb dL_law_33 (by rw [hs23]; decide) (by rw [hs23]; decide) (by rw [hs23]; rfl) (by decide) ?_
      exact law_case_23 hL C1 hC hk ex3 h23 (K hk) σ τ H locs ls hI hP1 hP2 hS hl
    by_cases hs24 : v = 24
    · refine lv_tableIn (tgt := 896) (off := 863) hx hb dL_law_33 (by rw [hs24]; decide) (by rw [hs24]; decide) (by rw [hs24]; rfl) (by decide) ?_
      exact law_case_24 hL C1 hC hk ex3 h24 (K hk) σ τ H locs ls hI hP1 hP2 hS hl
    by_cases hs25 : v = 25
    · refine lv_tableIn (tgt := 909) (off := 876) hx hb dL_law_33 (by rw [hs25]; decide) (by rw [hs25]; decide) (by rw [hs25]; rfl) (by decide) ?_
      exact law_case_25 hL C1 hC hk ex3 h25 (K hk) σ τ H locs ls hI hP1 hP2 hS hl
    by_cases hs26 : v = 26
    · refine lv_tableIn (tgt := 948) (off := 915) hx hb dL_law_33 (by rw [hs26]; decide) (by rw [hs26]; decide) (by rw [hs26]; rfl) (by decide) ?_
      exact law_case_26 hL C1 hC hk ex3 h26 (K hk) σ τ H locs ls hI hP1 hP2 hS hl
    by_cases hs27 : v = 27
    · refine lv_tableIn (tgt := 1023) (off := 990) hx hb dL_law_33 (by rw [hs27]; decide) (by rw [hs27]; decide) (by rw [hs27]; rfl) (by decide) ?_
      exact law_case_27 hL C1 hC hk ex3 h27 (K hk) σ τ H locs ls hI hP1 hP2 hS hl
    by_cases hs28 : v = 28
    · refine lv_tableIn (tgt := 1046) (off := 1013) hx hb dL_law_33 (by rw [hs28]; decide) (by rw [hs28]; decide) (by rw [hs28]; rfl) (by decide) ?_
      exact law_case_28 hL C1 hC hk ex3 h28 (K hk) σ τ H locs ls hI hP1 hP2 hS hl
    have gs0 := nI_ne (z := 0) hs0 (by decide)
    have gs1 := nI_ne (z := 1) hs1 (by decide)
    have gs2 := nI_ne (z := 2) hs2 (by decide)
    have gs3 := nI_ne (z := 3) hs3 (by decide)
    have gs4 := nI_ne (z := 4) hs4 (by decide)
    have gs5 := nI_ne (z := 5) hs5 (by decide)
    have gs6 := nI_ne (z := 6) hs6 (by decide)
    have gs7 := nI_ne (z := 7) hs7 (by decide)
    have gs8 := nI_ne (z := 8) hs8 (by decide)
    have gs9 := nI_ne (z := 9) hs9 (by decide)
    have gs10 := nI_ne (z := 10) hs10 (by decide)
    have gs11 := nI_ne (z := 11) hs11 (by decide)
    have gs12 := nI_ne (z := 12) hs12 (by decide)
    have gs13 := nI_ne (z := 13) hs13 (by decide)
    have gs14 := nI_ne (z := 14) hs14 (by decide)
    have gs15 := nI_ne (z := 15) hs15 (by decide)
    have gs16 := nI_ne (z := 16) hs16 (by decide)
    have gs17 := nI_ne (z := 17) hs17 (by decide)
    have gs18 := nI_ne (z := 18) hs18 (by decide)
    have gs19 := nI_ne (z := 19) hs19 (by decide)
    have gs20 := nI_ne (z := 20) hs20 (by decide)
    have gs21 := nI_ne (z := 21) hs21 (by decide)
    have gs22 := nI_ne (z := 22) hs22 (by decide)
    have gs23 := nI_ne (z := 23) hs23 (by decide)
    have gs24 := nI_ne (z := 24) hs24 (by decide)
    have gs25 := nI_ne (z := 25) hs25 (by decide)
    have gs26 := nI_ne (z := 26) hs26 (by decide)
    have gs27 := nI_ne (z := 27) hs27 (by decide)
    have gs28 := nI_ne (z := 28) hs28 (by decide)
    refine lv_tableOut (tgt := 1059) hx hb dL_law_33 (by omega) (by decide) ?_
    exact K hk σ τ H locs ls (hmono k σ τ hI) hP1 hP2 hS hl
set_option maxHeartbeats 4000000 in
set_option maxRecDepth 100000 in
theorem law_loop {p : Program} {l : Launch} {e : Env} {s : State} {m : MethodId} {below : List Frame} {meth : Method} {c : Code} {D : va_G} {cy : Nat → ClassId} {a b kt vt : Nat → Nat} {bb L : Nat} {xs : Nat → Int32} {N : Nat} {Inv : Nat → nS → nS → Prop} (hL : L ≤ 4096) (C0 : lw_At p s m meth c bb L xs) (hC : lwC s D cy a b kt vt) (hmono : ∀ n σ τ, Inv n σ τ → Inv (n + 1) σ τ) (h0 : nOp0 N Inv) (h1 : nOp1 N Inv) (h2 : nOp2 N Inv) (h3 : nOp3 N Inv) (h4 : nOp4 N Inv) (h5 : nOp5 N Inv) (h6 : nOp6 N Inv) (h7 : nOp7 N Inv) (h8 : nOp8 N Inv) (h9 : nOp9 N Inv) (h10 : nOp10 N Inv) (h11 : nOp11 N Inv) (h12 : nOp12 N Inv) (h13 : nOp13 N Inv) (h14 : nOp14 N Inv) (h15 : nOp15 N Inv) (h16 : nOp16 N Inv) (h17 : nOp17 N Inv) (h18 : nOp18 N Inv) (h19 : nOp19 N Inv) (h20 : nOp20 N Inv) (h21 : nOp21 N Inv) (h22 : nOp22 N Inv) (h23 : nOp23 N Inv) (h24 : nOp24 N Inv) (h25 : nOp25 N Inv) (h26 : nOp26 N Inv) (h27 : nOp27 N Inv) (h28 : nOp28 N Inv) : ∀ (f k : Nat) (x3 : Int32), k ≤ 513 → 513 ≤ k + f → x3 = nI (8 * k) → lwA p l e s m below meth c D cy a b bb x3 (Inv k) 18 := by
  intro f
  induction f with
  | zero =>
    intro k x3 hk1 hk2 ex3
    exact law_body hL C0 hC ex3 (by omega) hmono h0 h1 h2 h3 h4 h5 h6 h7 h8 h9 h10 h11 h12 h13 h14 h15 h16 h17 h18 h19 h20 h21 h22 h23 h24 h25 h26 h27 h28 (fun hk => absurd hk (by omega))
  | succ f ih =>
    intro k x3 hk1 hk2 ex3
    refine law_body hL C0 hC ex3 (by omega) hmono h0 h1 h2 h3 h4 h5 h6 h7 h8 h9 h10 h11 h12 h13 h14 h15 h16 h17 h18 h19 h20 h21 h22 h23 h24 h25 h26 h27 h28 (fun hk => ?_)
    obtain ⟨hx, hb, hr, hml, hown, htl, hX, hbl, hlocks, hgv⟩ := C0
    have hb : c.code = cL_law := hb
    intro σ τ H locs ls hI hP1 hP2 hS hl
    obtain ⟨v, ev⟩ : ∃ y : Int32, y = x3 + 8 := ⟨_, rfl⟩
    refine lv_iinc (v := v) (lv' := [(3, .int v), (0, .ref bb), (1, .ref (a 0)), (2, .ref (b 0))]) hx hb dL_law_1059 hl (k := 3) rfl (by rw [ev]; rfl) (by decide) rfl (fun ls hl => ?_)
    refine lv_goto (tgt := 18) hx hb dL_law_1062 (by decide) ?_
    exact ih (k + 1) v (by omega) (by omega) (by rw [ev, ex3]; exact nI_add (8 * k) 8) σ τ H locs ls hI hP1 hP2 hS (lv_sub hl [1, 2, 3, 0] rfl)
