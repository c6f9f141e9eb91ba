/-! FEED -/
theorem m255 (i : Nat) : (255 : Int32).toBitVec.getLsbD i = decide (i < 8) := by
  have h255 : (255 : Int32).toBitVec = BitVec.ofNat 32 255 := rfl
  rw [h255, BitVec.getLsbD_ofNat]
  by_cases h : i < 8
  · have hi : i = 0 ∨ i = 1 ∨ i = 2 ∨ i = 3 ∨ i = 4 ∨ i = 5 ∨ i = 6 ∨ i = 7 := by omega
    rcases hi with rfl | rfl | rfl | rfl | rfl | rfl | rfl | rfl <;> rfl
  · have : Nat.testBit 255 i = false := Nat.testBit_lt_two_pow (by have := Nat.pow_le_pow_right (show 2 > 0 by decide) (show 8 ≤ i by omega); omega)
    rw [this]; simp [h]
theorem f8 (v : Int32) : v.toInt8.toInt32 &&& 255 = v &&& 255 := by
  apply Int32.toBitVec_inj.mp
  rw [Int32.toBitVec_and, Int32.toBitVec_and, Int8.toBitVec_toInt32, Int32.toBitVec_toInt8]
  apply BitVec.eq_of_getLsbD_eq
  intro i hi
  rw [BitVec.getLsbD_and, BitVec.getLsbD_and, m255, BitVec.getLsbD_signExtend, BitVec.getLsbD_signExtend]
  by_cases h : i < 8
  · simp [h, hi]
  · simp [h]
theorem ush (y : Int32) (s : Nat) (hs : s ≤ 24) (a : Int32) (b : UInt32) (ha : a.toBitVec.smod 32 = BitVec.ofNat 32 s) (hb : b.toBitVec % 32 = BitVec.ofNat 32 s) : (y >>> a) &&& 255 = (y.toUInt32 >>> b).toInt32 &&& 255 := by
  apply Int32.toBitVec_inj.mp
  rw [Int32.toBitVec_and, Int32.toBitVec_and, Int32.toBitVec_shiftRight, UInt32.toBitVec_toInt32, UInt32.toBitVec_shiftRight, Int32.toBitVec_toUInt32, ha, hb]
  apply BitVec.eq_of_getLsbD_eq
  intro i hi
  rw [BitVec.getLsbD_and, BitVec.getLsbD_and, m255]
  by_cases h : i < 8
  · have h1 : (BitVec.ofNat 32 s).toNat = s := by rw [BitVec.toNat_ofNat]; omega
    rw [BitVec.sshiftRight_eq', BitVec.ushiftRight_eq', h1, BitVec.getLsbD_sshiftRight, BitVec.getLsbD_ushiftRight]
    simp [h, show ¬ 32 ≤ i by omega, show s + i < 32 by omega]
  · simp [h]
theorem low8 (v : Int32) : ∃ x, x < 256 ∧ v &&& 255 = nI x := by
  refine ⟨(v &&& 255).toBitVec.toNat, ?_, ?_⟩
  · have h255 : (255 : Int32).toBitVec = BitVec.ofNat 32 255 := rfl
    rw [Int32.toBitVec_and, BitVec.toNat_and, h255]
    exact Nat.lt_of_le_of_lt Nat.and_le_right (by decide)
  · apply Int32.toBitVec_inj.mp
    show _ = (nI _).toBitVec
    show _ = BitVec.ofNat 32 _
    rw [BitVec.ofNat_toNat, BitVec.setWidth_eq]

theorem fbs : ∀ r, r < 4 → (nI (24 - 8 * r) &&& nI 31).toBitVec.smod 32 = BitVec.ofNat 32 (24 - 8 * r) ∧ ((nI (24 - 8 * r)).toUInt32 &&& Int32.toUInt32 (nI 31)).toBitVec % 32 = BitVec.ofNat 32 (24 - 8 * r) := by decide
def bN (y : Int32) (r : Nat) : Int32 := ((y).toUInt32 >>> ((nI (24 - 8 * r)).toUInt32 &&& Int32.toUInt32 (nI 31))).toInt32 &&& nI 255
def bM (y : Int32) (r : Nat) : Int32 := vp_nar .byte ((y >>> (nI (24 - 8 * r) &&& nI 31)).toInt8.toInt32)
theorem bMN (y : Int32) (r : Nat) (h : r < 4) : bM y r &&& 255 = bN y r := by
  unfold bM bN
  rw [vp_nar_byte, f8, f8]
  exact ush y (24 - 8 * r) (by omega) _ _ (fbs r h).1 (fbs r h).2
theorem iTape.put {T : Nat} {held mT v w : Int32} {tp mt : Nat → Int32} (h : iTape T held tp mT mt) (hT : T < 600) (hv : ∃ x, x < 256 ∧ v = nI x) (hw : w &&& 255 = v) : iTape (T + 1) (nI (T + 1)) (upd tp T v) (nI (T + 1)) (upd mt T w) := by
  refine ⟨by omega, rfl, rfl, fun k hk => ?_⟩
  by_cases e : k = T
  · subst e
    rw [pk_us, pk_us]
    exact ⟨hv, hw⟩
  · rw [pk_un e, pk_un e]
    exact h.2.2.2 k (by omega)
theorem put1 {N m r T : Nat} (y : Int32) {σ : nS} (hm : 0 < m) (hr : r < 4) (hT : T < 600) (h1 : σ.1 6 1 = nI T) : nLp (fun _ _ _ => none) (fun again => b_X4_put_3 N (l_X4_put_52 N again)) m σ y (nI (24 - 8 * r)) = nLp (fun _ _ _ => none) (fun again => b_X4_put_3 N (l_X4_put_52 N again)) (m - 1) (wr (wr σ 7 T (bN y r)) 6 1 (nI (T + 1))) y (nI (24 - 8 * r) + (-8)) := by
  rw [nLpP _ _ hm]
  simp (disch := first | omega | exact nM1_n | exact nM2_n | assumption) only [b_X4_put_3, l_X4_put_52, b_X4_put_52, h1, ↓nLetR, ↓reduceIte, ↓e_m1, ↓e_m2, e_0, e_1, e_2, e_3, e_4, e_5, e_6, e_7, e_8, e_9, e_10, e_11, e_12, e_13, e_14, e_15, e_16, e_17, e_18, e_19, e_20, e_21, e_22, e_23, e_24, e_25, e_26, e_27, e_28, e_29, e_30, e_31, e_32, e_33, e_48, e_57, e_59, e_60, e_63, e_64, e_96, e_97, e_99, e_120, e_122, e_192, e_200, e_255, e_256, e_300, e_500, e_600, e_2000, e_5000, e_5240, e_6146, e_20000, e_65536, nIo, nI_clamp, nIxt, nI_1, nI_add, nI_mul, nI_eqF, nI_ltT, nI_ltF, nI_leT, nI_leF, nN_lt0, nN_le, nN_lt, nN_eq, nN_eq', eq_self, nBdS, wrs, wrk, wrc, wr2, wl1, wls, wlk, wlc]
  rfl
theorem dj20 : ∀ j, j < 20 → nI j - nI j / nI 4 * nI 4 = nI (j % 4) := by decide +kernel
theorem dr4 : ∀ r, r < 4 → nI 24 - nI (8 * r) = nI (24 - 8 * r) := by decide
theorem dnz (b : Option (Int32 × nS)) : nNz (nI 4) b = b := rfl
theorem mfeed1 {N m j T : Nat} (x1 x2 x3 x4 x5 y : Int32) {τ : nS} (hm : 0 < m) (hj : j < 20) (hy : (j < 4 ∧ y = x1) ∨ (4 ≤ j ∧ j < 8 ∧ y = x2) ∨ (8 ≤ j ∧ j < 12 ∧ y = x3) ∨ (12 ≤ j ∧ j < 16 ∧ y = x4) ∨ (16 ≤ j ∧ y = x5)) (hT : T < 600) (h1 : τ.1 0 19 = nI T) : nLp (fun _ _ _ _ _ _ _ => none) (fun again => b_X11_feed_23 N (l_X11_feed_76 N again)) m τ x1 x2 x3 x4 x5 (nI j) = nLp (fun _ _ _ _ _ _ _ => none) (fun again => b_X11_feed_23 N (l_X11_feed_76 N again)) (m - 1) (wr (wr τ 10 T (bM y (j % 4))) 0 19 (nI (T + 1))) x1 x2 x3 x4 x5 (nI (j + 1)) := by
  rw [nLpP _ _ hm]
  have e1 := dj20 j hj
  have e2 := dr4 (j % 4) (by omega)
  rcases hy with ⟨a, rfl⟩ | ⟨a, b, rfl⟩ | ⟨a, b, rfl⟩ | ⟨a, b, rfl⟩ | ⟨a, rfl⟩
  · simp (disch := first | omega | exact nM1_n | exact nM2_n | assumption) only [b_X11_feed_23, l_X11_feed_76, b_X11_feed_76, h1, e1, e2, dnz, ↓nLetR, ↓reduceIte, ↓e_m1, ↓e_m2, e_0, e_1, e_2, e_3, e_4, e_5, e_6, e_7, e_8, e_9, e_10, e_11, e_12, e_13, e_14, e_15, e_16, e_17, e_18, e_19, e_20, e_21, e_22, e_23, e_24, e_25, e_26, e_27, e_28, e_29, e_30, e_31, e_32, e_33, e_48, e_57, e_59, e_60, e_63, e_64, e_96, e_97, e_99, e_120, e_122, e_192, e_200, e_255, e_256, e_300, e_500, e_600, e_2000, e_5000, e_5240, e_6146, e_20000, e_65536, nIo, nI_clamp, nIxt, nI_1, nI_add, nI_mul, nI_eqF, nI_ltT, nI_ltF, nI_leT, nI_leF, nN_lt0, nN_le, nN_lt, nN_eq, nN_eq', eq_self, nBdS, wrs, wrk, wrc, wr2, wl1, wls, wlk, wlc]
    rfl
  · simp (disch := first | omega | exact nM1_n | exact nM2_n | assumption) only [b_X11_feed_23, l_X11_feed_76, b_X11_feed_76, h1, e1, e2, dnz, ↓nLetR, ↓reduceIte, ↓e_m1, ↓e_m2, e_0, e_1, e_2, e_3, e_4, e_5, e_6, e_7, e_8, e_9, e_10, e_11, e_12, e_13, e_14, e_15, e_16, e_17, e_18, e_19, e_20, e_21, e_22, e_23, e_24, e_25, e_26, e_27, e_28, e_29, e_30, e_31, e_32, e_33, e_48, e_57, e_59, e_60, e_63, e_64, e_96, e_97, e_99, e_120, e_122, e_192, e_200, e_255, e_256, e_300, e_500, e_600, e_2000, e_5000, e_5240, e_6146, e_20000, e_65536, nIo, nI_clamp, nIxt, nI_1, nI_add, nI_mul, nI_eqF, nI_ltT, nI_ltF, nI_leT, nI_leF, nN_lt0, nN_le, nN_lt, nN_eq, nN_eq', eq_self, nBdS, wrs, wrk, wrc, wr2, wl1, wls, wlk, wlc]
    rfl
  · simp (disch := first | omega | exact nM1_n | exact nM2_n | assumption) only [b_X11_feed_23, l_X11_feed_76, b_X11_feed_76, h1, e1, e2, dnz, ↓nLetR, ↓reduceIte, ↓e_m1, ↓e_m2, e_0, e_1, e_2, e_3, e_4, e_5, e_6, e_7, e_8, e_9, e_10, e_11, e_12, e_13, e_14, e_15, e_16, e_17, e_18, e_19, e_20, e_21, e_22, e_23, e_24, e_25, e_26, e_27, e_28, e_29, e_30, e_31, e_32, e_33, e_48, e_57, e_59, e_60, e_63, e_64, e_96, e_97, e_99, e_120, e_122, e_192, e_200, e_255, e_256, e_300, e_500, e_600, e_2000, e_5000, e_5240, e_6146, e_20000, e_65536, nIo, nI_clamp, nIxt, nI_1, nI_add, nI_mul, nI_eqF, nI_ltT, nI_ltF, nI_leT, nI_leF, nN_lt0, nN_le, nN_lt, nN_eq, nN_eq', eq_self, nBdS, wrs, wrk, wrc, wr2, wl1, wls, wlk, wlc]
    rfl
  · simp (disch := first | omega | exact nM1_n | exact nM2_n | assumption) only [b_X11_feed_23, l_X11_feed_76, b_X11_feed_76, h1, e1, e2, dnz, ↓nLetR, ↓reduceIte, ↓e_m1, ↓e_m2, e_0, e_1, e_2, e_3, e_4, e_5, e_6, e_7, e_8, e_9, e_10, e_11, e_12, e_13, e_14, e_15, e_16, e_17, e_18, e_19, e_20, e_21, e_22, e_23, e_24, e_25, e_26, e_27, e_28, e_29, e_30, e_31, e_32, e_33, e_48, e_57, e_59, e_60, e_63, e_64, e_96, e_97, e_99, e_120, e_122, e_192, e_200, e_255, e_256, e_300, e_500, e_600, e_2000, e_5000, e_5240, e_6146, e_20000, e_65536, nIo, nI_clamp, nIxt, nI_1, nI_add, nI_mul, nI_eqF, nI_ltT, nI_ltF, nI_leT, nI_leF, nN_lt0, nN_le, nN_lt, nN_eq, nN_eq', eq_self, nBdS, wrs, wrk, wrc, wr2, wl1, wls, wlk, wlc]
    rfl
  · simp (disch := first | omega | exact nM1_n | exact nM2_n | assumption) only [b_X11_feed_23, l_X11_feed_76, b_X11_feed_76, h1, e1, e2, dnz, ↓nLetR, ↓reduceIte, ↓e_m1, ↓e_m2, e_0, e_1, e_2, e_3, e_4, e_5, e_6, e_7, e_8, e_9, e_10, e_11, e_12, e_13, e_14, e_15, e_16, e_17, e_18, e_19, e_20, e_21, e_22, e_23, e_24, e_25, e_26, e_27, e_28, e_29, e_30, e_31, e_32, e_33, e_48, e_57, e_59, e_60, e_63, e_64, e_96, e_97, e_99, e_120, e_122, e_192, e_200, e_255, e_256, e_300, e_500, e_600, e_2000, e_5000, e_5240, e_6146, e_20000, e_65536, nIo, nI_clamp, nIxt, nI_1, nI_add, nI_mul, nI_eqF, nI_ltT, nI_ltF, nI_leT, nI_leF, nN_lt0, nN_le, nN_lt, nN_eq, nN_eq', eq_self, nBdS, wrs, wrk, wrc, wr2, wl1, wls, wlk, wlc]
    rfl
def fR (T : Nat) (σ τ : nS) : Prop := iTape T (σ.1 6 1) (σ.1 7) (τ.1 0 19) (τ.1 10)
theorem fR.put {T r : Nat} {σ τ : nS} (h : fR T σ τ) (hT : T < 600) (y : Int32) (hr : r < 4) : fR (T + 1) (wr (wr σ 7 T (bN y r)) 6 1 (nI (T + 1))) (wr (wr τ 10 T (bM y r)) 0 19 (nI (T + 1))) := by
  unfold fR
  rw [wrs, wrc _ _ _ (show 7 ≠ 6 by decide), wrf, wrs, wrc _ _ _ (show 10 ≠ 0 by decide), wrf]
  exact iTape.put h hT (low8 _) (bMN y r hr)
theorem put4 {N T q m : Nat} (x1 x2 x3 x4 x5 y : Int32) {σ τ : nS} (hN : 10 ≤ N) (hm : 10 ≤ m) (h : fR T σ τ) (hT : T + 4 ≤ 600) (hq : q < 5) (hy : (q = 0 ∧ y = x1) ∨ (q = 1 ∧ y = x2) ∨ (q = 2 ∧ y = x3) ∨ (q = 3 ∧ y = x4) ∨ (q = 4 ∧ y = x5)) :
    ∃ σ' τ', f_X4_put N y σ = some (nI 0, σ') ∧ nLp (fun _ _ _ _ _ _ _ => none) (fun again => b_X11_feed_23 N (l_X11_feed_76 N again)) m τ x1 x2 x3 x4 x5 (nI (4 * q)) = nLp (fun _ _ _ _ _ _ _ => none) (fun again => b_X11_feed_23 N (l_X11_feed_76 N again)) (m - 4) τ' x1 x2 x3 x4 x5 (nI (4 * q + 4)) ∧ fR (T + 4) σ' τ' ∧
      (∀ d, d ≠ 6 → d ≠ 7 → σ'.1 d = σ.1 d) ∧ (∀ f, f ≠ 1 → σ'.1 6 f = σ.1 6 f) ∧ σ'.2 = σ.2 ∧ (∀ d, d ≠ 0 → d ≠ 10 → τ'.1 d = τ.1 d) ∧ ∀ f, f ≠ 19 → τ'.1 0 f = τ.1 0 f := by
  have hq4 : ∀ i, i < 4 → ((4 * q + i < 4 ∧ y = x1) ∨ (4 ≤ 4 * q + i ∧ 4 * q + i < 8 ∧ y = x2) ∨ (8 ≤ 4 * q + i ∧ 4 * q + i < 12 ∧ y = x3) ∨ (12 ≤ 4 * q + i ∧ 4 * q + i < 16 ∧ y = x4) ∨ (16 ≤ 4 * q + i ∧ y = x5)) := by
    intro i hi
    rcases hy with ⟨e, rfl⟩ | ⟨e, rfl⟩ | ⟨e, rfl⟩ | ⟨e, rfl⟩ | ⟨e, rfl⟩
    · exact Or.inl ⟨by omega, rfl⟩
    · exact Or.inr (Or.inl ⟨by omega, by omega, rfl⟩)
    · exact Or.inr (Or.inr (Or.inl ⟨by omega, by omega, rfl⟩))
    · exact Or.inr (Or.inr (Or.inr (Or.inl ⟨by omega, by omega, rfl⟩)))
    · exact Or.inr (Or.inr (Or.inr (Or.inr ⟨by omega, rfl⟩)))
  have h1 := h.put (by omega) y (show 0 < 4 by decide)
  have h2 := h1.put (by omega) y (show 1 < 4 by decide)
  have h3 := h2.put (by omega) y (show 2 < 4 by decide)
  have h4 := h3.put (by omega) y (show 3 < 4 by decide)
  refine ⟨_, _, ?_, ?_, h4, ?_, ?_, rfl, ?_, ?_⟩
  · have e0 : f_X4_put N y σ = nLp (fun _ _ _ => none) (fun again => b_X4_put_3 N (l_X4_put_52 N again)) N σ y (nI (24 - 8 * 0)) := rfl
    rw [e0, put1 y (by omega) (by omega) (by omega) h.2.1, show nI (24 - 8 * 0) + (-8) = nI (24 - 8 * 1) from by decide, put1 y (by omega) (by omega) (by omega) h1.2.1, show nI (24 - 8 * 1) + (-8) = nI (24 - 8 * 2) from by decide, put1 y (by omega) (by omega) (by omega) h2.2.1, show nI (24 - 8 * 2) + (-8) = nI (24 - 8 * 3) from by decide, put1 y (by omega) (by omega) (by omega) h3.2.1, nLpP _ _ (by omega)]
    rfl
  · rw [mfeed1 (j := 4 * q) x1 x2 x3 x4 x5 y (by omega) (by omega) (hq4 0 (by decide)) (by omega) h.2.2.1, show 4 * q % 4 = 0 by omega, mfeed1 (j := 4 * q + 1) x1 x2 x3 x4 x5 y (by omega) (by omega) (hq4 1 (by decide)) (by omega) h1.2.2.1, show (4 * q + 1) % 4 = 1 by omega, mfeed1 (j := 4 * q + 1 + 1) x1 x2 x3 x4 x5 y (by omega) (by omega) (hq4 2 (by decide)) (by omega) h2.2.2.1, show (4 * q + 1 + 1) % 4 = 2 by omega, mfeed1 (j := 4 * q + 1 + 1 + 1) x1 x2 x3 x4 x5 y (by omega) (by omega) (hq4 3 (by decide)) (by omega) h3.2.2.1, show (4 * q + 1 + 1 + 1) % 4 = 3 by omega]
    rfl
  · intro d e1 e2; simp (disch := omega) only [wrs, wrk, wrc, wr2, wl1, wls, wlk, wlc]
  · intro f e1; simp (disch := omega) only [wrs, wrk, wrc, wr2, wl1, wls, wlk, wlc]
  · intro d e1 e2; simp (disch := omega) only [wrs, wrk, wrc, wr2, wl1, wls, wlk, wlc]
  · intro f e1; simp (disch := omega) only [wrs, wrk, wrc, wr2, wl1, wls, wlk, wlc]
theorem pOp4 (N : Nat) (hN : 10000 ≤ N) : nOp4 N nInv := by
  intro n σ τ x1 x2 x3 x4 x5 hn hI
  obtain ⟨F, S, P, B, sz, T, h1, h2, h3, h4, h5, h6, h7, h8, h9, h10⟩ := hI
  obtain ⟨t1, t2, t3, t4⟩ := id h3
  by_cases hT : T + 20 ≤ 600
  · have R0 : fR T σ (wr τ 0 0 (nI 0)) := by unfold fR; simp (disch := decide) only [wrs, wrk, wrc, wr2, wl1, wls, wlk, wlc]; exact h3
    obtain ⟨s1, u1, p1, q1, R1, a1, b1, c1, d1, g1⟩ := put4 (N := N) (q := 0) (m := N) x1 x2 x3 x4 x5 x1 (by omega) (by omega) R0 (by omega) (by decide) (Or.inl ⟨rfl, rfl⟩)
    obtain ⟨s2, u2, p2, q2, R2, a2, b2, c2, d2, g2⟩ := put4 (N := N) (q := 1) (m := N - 4) x1 x2 x3 x4 x5 x2 (by omega) (by omega) R1 (by omega) (by decide) (Or.inr (Or.inl ⟨rfl, rfl⟩))
    obtain ⟨s3, u3, p3, q3, R3, a3, b3, c3, d3, g3⟩ := put4 (N := N) (q := 2) (m := N - 4 - 4) x1 x2 x3 x4 x5 x3 (by omega) (by omega) R2 (by omega) (by decide) (Or.inr (Or.inr (Or.inl ⟨rfl, rfl⟩)))
    obtain ⟨s4, u4, p4, q4, R4, a4, b4, c4, d4, g4⟩ := put4 (N := N) (q := 3) (m := N - 4 - 4 - 4) x1 x2 x3 x4 x5 x4 (by omega) (by omega) R3 (by omega) (by decide) (Or.inr (Or.inr (Or.inr (Or.inl ⟨rfl, rfl⟩))))
    obtain ⟨s5, u5, p5, q5, R5, a5, b5, c5, d5, g5⟩ := put4 (N := N) (q := 4) (m := N - 4 - 4 - 4 - 4) x1 x2 x3 x4 x5 x5 (by omega) (by omega) R4 (by omega) (by decide) (Or.inr (Or.inr (Or.inr (Or.inr ⟨rfl, rfl⟩))))
    have e2 : f_X11_feed N x1 x2 x3 x4 x5 τ = some (nI (T + 20), u5) := by
      have e3 : l_X11_feed_23 N (wr τ 0 0 (nI 0)) x1 x2 x3 x4 x5 (nI 0) = some (nI (T + 20), u5) := by
        refine Eq.trans q1 (Eq.trans q2 (Eq.trans q3 (Eq.trans q4 (Eq.trans q5 ?_))))
        rw [nLpP _ _ (by omega)]
        simp (disch := first | omega | exact nM1_n | exact nM2_n | assumption) only [b_X11_feed_23, R5.2.2.1, ↓nLetR, ↓reduceIte, ↓e_m1, ↓e_m2, e_0, e_1, e_2, e_3, e_4, e_5, e_6, e_7, e_8, e_9, e_10, e_11, e_12, e_13, e_14, e_15, e_16, e_17, e_18, e_19, e_20, e_21, e_22, e_23, e_24, e_25, e_26, e_27, e_28, e_29, e_30, e_31, e_32, e_33, e_48, e_57, e_59, e_60, e_63, e_64, e_96, e_97, e_99, e_120, e_122, e_192, e_200, e_255, e_256, e_300, e_500, e_600, e_2000, e_5000, e_5240, e_6146, e_20000, e_65536, nIo, nI_clamp, nIxt, nI_1, nI_add, nI_mul, nI_eqF, nI_ltT, nI_ltF, nI_leT, nI_leF, nN_lt0, nN_le, nN_lt, nN_eq, nN_eq', eq_self, nBdS]
      simp (disch := first | omega | exact nM1_n | exact nM2_n | assumption) only [f_X11_feed, l_X11_feed_0, b_X11_feed_0, t3, e3, ↓nLetR, ↓reduceIte, ↓e_m1, ↓e_m2, e_0, e_1, e_2, e_3, e_4, e_5, e_6, e_7, e_8, e_9, e_10, e_11, e_12, e_13, e_14, e_15, e_16, e_17, e_18, e_19, e_20, e_21, e_22, e_23, e_24, e_25, e_26, e_27, e_28, e_29, e_30, e_31, e_32, e_33, e_48, e_57, e_59, e_60, e_63, e_64, e_96, e_97, e_99, e_120, e_122, e_192, e_200, e_255, e_256, e_300, e_500, e_600, e_2000, e_5000, e_5240, e_6146, e_20000, e_65536, nIo, nI_clamp, nIxt, nI_1, nI_add, nI_mul, nI_eqF, nI_ltT, nI_ltF, nI_leT, nI_leF, nN_lt0, nN_le, nN_lt, nN_eq, nN_eq', eq_self, nBdS, wrs, wrk, wrc, wr2, wl1, wls, wlk, wlc]
    have e1 : f_X8_feed N x1 x2 x3 x4 x5 σ = some (nI (T + 20), s5) := by
      simp (disch := first | omega | exact nM1_n | exact nM2_n | assumption) only [b_X8_feed_0, l_X8_feed_0, f_X8_feed, b_X4_hasRoomFor_0, l_X4_hasRoomFor_0, f_X4_hasRoomFor, t2, p1, p2, p3, p4, p5, R5.2.1, ↓nLetR, ↓reduceIte, ↓e_m1, ↓e_m2, e_0, e_1, e_2, e_3, e_4, e_5, e_6, e_7, e_8, e_9, e_10, e_11, e_12, e_13, e_14, e_15, e_16, e_17, e_18, e_19, e_20, e_21, e_22, e_23, e_24, e_25, e_26, e_27, e_28, e_29, e_30, e_31, e_32, e_33, e_48, e_57, e_59, e_60, e_63, e_64, e_96, e_97, e_99, e_120, e_122, e_192, e_200, e_255, e_256, e_300, e_500, e_600, e_2000, e_5000, e_5240, e_6146, e_20000, e_65536, nIo, nI_clamp, nIxt, nI_1, nI_add, nI_mul, nI_eqF, nI_ltT, nI_ltF, nI_leT, nI_leF, nN_lt0, nN_le, nN_lt, nN_eq, nN_eq', eq_self, nBdS, wrs, wrk, wrc, wr2, wl1, wls, wlk, wlc]
    rw [e1, e2]
    refine pK rfl ⟨F, S, P, B, sz, T + 20, ?_⟩
    have F1 : ∀ d, d ≠ 6 → d ≠ 7 → s5.1 d = σ.1 d := fun d e1 e2 => by rw [a5 d e1 e2, a4 d e1 e2, a3 d e1 e2, a2 d e1 e2, a1 d e1 e2]
    have F6 : ∀ f, f ≠ 1 → s5.1 6 f = σ.1 6 f := fun f e1 => by rw [b5 f e1, b4 f e1, b3 f e1, b2 f e1, b1 f e1]
    have T1 : ∀ d, d ≠ 0 → d ≠ 10 → u5.1 d = τ.1 d := fun d e1 e2 => by
      rw [d5 d e1 e2, d4 d e1 e2, d3 d e1 e2, d2 d e1 e2, d1 d e1 e2]; simp (disch := omega) only [wrs, wrk, wrc, wr2, wl1, wls, wlk, wlc]
    have T0 : ∀ f, f ≠ 0 → f ≠ 19 → u5.1 0 f = τ.1 0 f := fun f e1 e2 => by
      rw [g5 f e2, g4 f e2, g3 f e2, g2 f e2, g1 f e2]; simp (disch := omega) only [wrs, wrk, wrc, wr2, wl1, wls, wlk, wlc]
    have R6 : iTape (T + 20) (s5.1 6 1) (s5.1 7) (u5.1 0 19) (u5.1 10) := R5
    unfold iI
    refine ⟨?_, ?_, R6, ?_, ?_, ?_, ?_, ?_, ?_, ?_⟩
    · rw [F1 1 (by decide) (by decide), F1 2 (by decide) (by decide), F1 3 (by decide) (by decide), T1 1 (by decide) (by decide), T1 2 (by decide) (by decide), T0 4 (by decide) (by decide), T0 5 (by decide) (by decide), T0 6 (by decide) (by decide), T0 7 (by decide) (by decide), T0 8 (by decide) (by decide)]
      exact h1
    · rw [F1 4 (by decide) (by decide), F1 5 (by decide) (by decide), T1 3 (by decide) (by decide), T1 4 (by decide) (by decide), T1 5 (by decide) (by decide), T1 6 (by decide) (by decide), T1 7 (by decide) (by decide), T1 8 (by decide) (by decide)]
      exact h2
    · rw [F1 0 (by decide) (by decide), F6 9 (by decide), F6 10 (by decide), T0 1 (by decide) (by decide), T0 2 (by decide) (by decide), T0 3 (by decide) (by decide)]
      exact h4
    · rw [F1 24 (by decide) (by decide), F1 26 (by decide) (by decide), T1 15 (by decide) (by decide), T0 37 (by decide) (by decide), T0 38 (by decide) (by decide), T0 39 (by decide) (by decide), T0 40 (by decide) (by decide), T0 41 (by decide) (by decide), T0 42 (by decide) (by decide)]
      exact h5
    · rw [F1 16 (by decide) (by decide), F1 17 (by decide) (by decide), F1 18 (by decide) (by decide), T1 18 (by decide) (by decide), T1 19 (by decide) (by decide), T1 20 (by decide) (by decide), T0 47 (by decide) (by decide), T0 48 (by decide) (by decide), T0 49 (by decide) (by decide), T0 50 (by decide) (by decide)]
      exact h6
    · rw [F1 19 (by decide) (by decide), T1 22 (by decide) (by decide), T0 56 (by decide) (by decide)]
      exact h7
    · rw [F1 30 (by decide) (by decide), F1 33 (by decide) (by decide), T1 23 (by decide) (by decide), T1 24 (by decide) (by decide), T0 61 (by decide) (by decide)]
      exact h8
    · rw [F1 20 (by decide) (by decide), F1 21 (by decide) (by decide), T1 26 (by decide) (by decide), T0 65 (by decide) (by decide), T0 66 (by decide) (by decide), T0 67 (by decide) (by decide)]
      exact h9
    · rw [T1 12 (by decide) (by decide), T1 13 (by decide) (by decide), T0 31 (by decide) (by decide)]
      exact h10.up
  · simp (disch := first | omega | exact nM1_n | exact nM2_n | assumption) only [b_X8_feed_0, l_X8_feed_0, f_X8_feed, b_X4_hasRoomFor_0, l_X4_hasRoomFor_0, f_X4_hasRoomFor, b_X11_feed_76, b_X11_feed_23, b_X11_feed_0, l_X11_feed_76, l_X11_feed_23, l_X11_feed_0, f_X11_feed, t2, t3, ↓nLetR, ↓reduceIte, ↓e_m1, ↓e_m2, e_0, e_1, e_2, e_3, e_4, e_5, e_6, e_7, e_8, e_9, e_10, e_11, e_12, e_13, e_14, e_15, e_16, e_17, e_18, e_19, e_20, e_21, e_22, e_23, e_24, e_25, e_26, e_27, e_28, e_29, e_30, e_31, e_32, e_33, e_48, e_57, e_59, e_60, e_63, e_64, e_96, e_97, e_99, e_120, e_122, e_192, e_200, e_255, e_256, e_300, e_500, e_600, e_2000, e_5000, e_5240, e_6146, e_20000, e_65536, nIo, nI_clamp, nIxt, nI_1, nI_add, nI_mul, nI_eqF, nI_ltT, nI_ltF, nI_leT, nI_leF, nN_lt0, nN_le, nN_lt, nN_eq, nN_eq', eq_self, nBdS, wrs, wrk, wrc, wr2, wl1, wls, wlk, wlc]
    refine pK rfl ⟨F, S, P, B, sz, T, ?_⟩
    simp (disch := decide) only [iI, wrs, wrk, wrc, wr2, wl1, wls, wlk, wlc]
    exact ⟨h1, h2, h3, h4, h5, h6, h7, h8, h9, h10.up⟩
