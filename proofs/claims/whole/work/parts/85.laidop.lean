/-! LAID, the call -/
theorem laid_go {N m c L : Nat} {σ0 τ0 : nS} (hN : 1000 ≤ N) (hm : m ≤ 200) (hL : L ≤ 300) (hLc : L ≤ c) (hc : c ≤ 7000) (p10 : σ0.1 24 10 = nI c) (hlog : ∀ i, i < m → τ0.1 26 i = σ0.1 21 i) (hpath : ∀ i, i < L → τ0.1 15 i = σ0.1 26 i) (s2 : σ0.1 20 2 = nI m) (t65 : τ0.1 0 65 = nI m) :
    ∀ d k1 k2 i σ τ, i + d = L → d < k1 → d < k2 → (∀ j, j ≤ m → τ.1 27 j = σ.1 22 j) → σ.1 22 0 = nI 0 → (∀ d, d ≠ 22 → σ.1 d = σ0.1 d) → (∀ d, d ≠ 27 → d ≠ 28 → τ.1 d = τ0.1 d) →
      ∃ v σ' τ', nLp (fun _ _ _ => none) (fun again => b_X2_layBeside_21 N again (l_X2_layBeside_72 N (l_X2_layBeside_73 N)) (l_X2_layBeside_73 N)) k1 σ (nI L) (nI i) = some (v, wr (wr σ' 20 3 (nI L - v)) 20 4 (nI m - v)) ∧
        nLp (fun _ _ _ => none) (fun again => b_X11_laid_54 N (l_X11_laid_68 N again)) k2 τ (nI L) (nI i) = f_X11_done N v (wr (wr τ' 0 66 (nI L - v)) 0 67 (nI m - v)) ∧ (∀ d, d ≠ 22 → σ'.1 d = σ0.1 d) ∧ ∀ d, d ≠ 27 → d ≠ 28 → τ'.1 d = τ0.1 d := by
  intro d
  induction d with
  | zero =>
    intro k1 k2 i σ τ hi hk1 hk2 hr h0 hf hg
    have a2 : σ.1 20 2 = nI m := by rw [hf 20 (by decide)]; exact s2
    have a65 : τ.1 0 65 = nI m := by rw [hg 0 (by decide) (by decide)]; exact t65
    refine ⟨σ.1 22 m, σ, τ, ?_, ?_, hf, hg⟩
    · rw [nLpP _ _ hk1]
      simp (disch := first | omega | exact nM1_n | exact nM2_n | assumption) only [b_X2_layBeside_21, l_X2_layBeside_73, b_X2_layBeside_73, a2, ↓nLetR, ↓reduceIte, ↓e_m1, ↓e_m2, e_0, e_1, e_2, e_3, e_4, e_5, e_6, e_7, e_8, e_9, e_10, e_11, e_12, e_13, e_14, e_15, e_16, e_17, e_18, e_19, e_20, e_21, e_22, e_23, e_24, e_25, e_26, e_27, e_28, e_29, e_30, e_31, e_32, e_33, e_48, e_57, e_59, e_60, e_63, e_64, e_96, e_97, e_99, e_120, e_122, e_192, e_200, e_255, e_256, e_300, e_500, e_600, e_2000, e_5000, e_5240, e_6146, e_20000, e_65536, nIo, nI_clamp, nIxt, nI_1, nI_add, nI_mul, nI_eqF, nI_ltT, nI_ltF, nI_leT, nI_leF, nN_lt0, nN_le, nN_lt, nN_eq, nN_eq', eq_self, nBdS, e_201, wrs, wrk, wrc, wr2, wl1, wls, wlk, wlc]
    · rw [nLpP _ _ hk2]
      simp (disch := first | omega | exact nM1_n | exact nM2_n | assumption) only [b_X11_laid_54, a65, hr m (Nat.le_refl m), nBdE, ↓nLetR, ↓reduceIte, ↓e_m1, ↓e_m2, e_0, e_1, e_2, e_3, e_4, e_5, e_6, e_7, e_8, e_9, e_10, e_11, e_12, e_13, e_14, e_15, e_16, e_17, e_18, e_19, e_20, e_21, e_22, e_23, e_24, e_25, e_26, e_27, e_28, e_29, e_30, e_31, e_32, e_33, e_48, e_57, e_59, e_60, e_63, e_64, e_96, e_97, e_99, e_120, e_122, e_192, e_200, e_255, e_256, e_300, e_500, e_600, e_2000, e_5000, e_5240, e_6146, e_20000, e_65536, nIo, nI_clamp, nIxt, nI_1, nI_add, nI_mul, nI_eqF, nI_ltT, nI_ltF, nI_leT, nI_leF, nN_lt0, nN_le, nN_lt, nN_eq, nN_eq', eq_self, nBdS, e_201, wrs, wrk, wrc, wr2, wl1, wls, wlk, wlc]
  | succ d ih =>
    intro k1 k2 i σ τ hi hk1 hk2 hr h0 hf hg
    have a2 : σ.1 20 2 = nI m := by rw [hf 20 (by decide)]; exact s2
    have a10 : σ.1 24 10 = nI c := by rw [hf 24 (by decide)]; exact p10
    obtain ⟨σ', e1, e2, e3, e4⟩ := ext_is (N := N) (by omega) hm (σ.1 26 i) a2 h0
    have f65 : (wr τ 28 0 (nI 0)).1 0 65 = nI m := by rw [wrc _ _ _ (by decide), hg 0 (by decide) (by decide)]; exact t65
    obtain ⟨τ1, g1, g2, g3, g4⟩ := mrow_go N m hm (nLp (fun _ _ _ => none) (fun again => b_X11_laid_54 N (l_X11_laid_68 N again)) (k2 - 1)) (nI L) i (by omega) m N 0 (wr τ 28 0 (nI 0)) f65 (by omega) (by omega) (fun j hj => by
      have : j = 0 := by omega
      subst this
      rw [wrs]; rfl)
    obtain ⟨τ2, j1, j2, j3, j4, j5⟩ := mcopy_go N m hm (nLp (fun _ _ _ => none) (fun again => b_X11_laid_54 N (l_X11_laid_68 N again)) (k2 - 1)) (nI L) (nI i) (m + 1) N 0 τ1 (by rw [g4 0 (by decide)]; exact f65) (by omega) (by omega)
    have f27 : (wr τ 28 0 (nI 0)).1 27 = τ.1 27 := wrc _ _ _ (by decide)
    have f26 : (wr τ 28 0 (nI 0)).1 26 = τ0.1 26 := by rw [wrc _ _ _ (by decide)]; exact hg 26 (by decide) (by decide)
    have f15 : (wr τ 28 0 (nI 0)).1 15 = τ0.1 15 := by rw [wrc _ _ _ (by decide)]; exact hg 15 (by decide) (by decide)
    have hrow : ∀ j, j ≤ m → τ2.1 27 j = σ'.1 22 j := fun j hj => by
      rw [j3 j (Nat.zero_le j) hj, g3 j hj, e3 j hj, f27, f26, f15, hpath i (by omega), hf 26 (by decide), hf 21 (by decide)]
      exact rowS_eq j (fun q hq => hr q (by omega)) (fun q hq => hlog q (by omega))
    obtain ⟨v, σ2, τ3, i1, i2, i3, i4⟩ := ih (k1 - 1) (k2 - 1) (i + 1) σ' τ2 (by omega) (by omega) (by omega) hrow (by rw [e3 0 (Nat.zero_le m)]; rfl) (fun d h => (e4 d h).trans (hf d h)) (fun d h1 h2 => by
      rw [j5 d h1, g4 d h2, wrc _ _ _ h2]
      exact hg d h1 h2)
    refine ⟨v, σ2, τ3, ?_, ?_, i3, i4⟩
    · rw [nLpP _ _ (by omega)]
      simp (disch := first | omega | exact nM1_n | exact nM2_n | assumption) only [b_X2_layBeside_21, b_X6_pathAt_0, l_X6_pathAt_0, f_X6_pathAt, nPl24, a10, e1, ↓nLetR, ↓reduceIte, ↓e_m1, ↓e_m2, e_0, e_1, e_2, e_3, e_4, e_5, e_6, e_7, e_8, e_9, e_10, e_11, e_12, e_13, e_14, e_15, e_16, e_17, e_18, e_19, e_20, e_21, e_22, e_23, e_24, e_25, e_26, e_27, e_28, e_29, e_30, e_31, e_32, e_33, e_48, e_57, e_59, e_60, e_63, e_64, e_96, e_97, e_99, e_120, e_122, e_192, e_200, e_255, e_256, e_300, e_500, e_600, e_2000, e_5000, e_5240, e_6146, e_20000, e_65536, nIo, nI_clamp, nIxt, nI_1, nI_add, nI_mul, nI_eqF, nI_ltT, nI_ltF, nI_leT, nI_leF, nN_lt0, nN_le, nN_lt, nN_eq, nN_eq', eq_self, nBdS]
      exact i1
    · rw [nLpP _ _ (by omega)]
      simp (disch := first | omega | exact nM1_n | exact nM2_n | assumption) only [b_X11_laid_54, ↓nLetR, ↓reduceIte, ↓e_m1, ↓e_m2, e_0, e_1, e_2, e_3, e_4, e_5, e_6, e_7, e_8, e_9, e_10, e_11, e_12, e_13, e_14, e_15, e_16, e_17, e_18, e_19, e_20, e_21, e_22, e_23, e_24, e_25, e_26, e_27, e_28, e_29, e_30, e_31, e_32, e_33, e_48, e_57, e_59, e_60, e_63, e_64, e_96, e_97, e_99, e_120, e_122, e_192, e_200, e_255, e_256, e_300, e_500, e_600, e_2000, e_5000, e_5240, e_6146, e_20000, e_65536, nIo, nI_clamp, nIxt, nI_1, nI_add, nI_mul, nI_eqF, nI_ltT, nI_ltF, nI_leT, nI_leF, nN_lt0, nN_le, nN_lt, nN_eq, nN_eq', eq_self, nBdS]
      refine Eq.trans g1 (Eq.trans j1 ?_)
      rw [nI_add]
      exact i2
theorem mzero_go (N m : Nat) (hm : m ≤ 200) (x1 : Int32) (K : nS → Int32 → Int32 → Option (Int32 × nS)) : ∀ d k j τ, τ.1 0 65 = nI m → j + d = m + 1 → d < k →
    ∃ τ', nLp (fun _ _ _ => none) (fun again => b_X11_laid_31 N again K) k τ x1 (nI j) = K τ' x1 (nI 0) ∧ (∀ i, j ≤ i → i ≤ m → τ'.1 27 i = nI 0) ∧ (∀ i, i < j → τ'.1 27 i = τ.1 27 i) ∧ ∀ d, d ≠ 27 → τ'.1 d = τ.1 d := by
  intro d
  induction d with
  | zero =>
    intro k j τ h2 hj hk
    refine ⟨τ, ?_, fun i h h2 => absurd h (by omega), fun i h => rfl, fun d h => rfl⟩
    rw [nLpP _ _ hk]
    simp (disch := first | omega | exact nM1_n | exact nM2_n | assumption) only [b_X11_laid_31, h2, ↓nLetR, ↓reduceIte, ↓e_m1, ↓e_m2, e_0, e_1, e_2, e_3, e_4, e_5, e_6, e_7, e_8, e_9, e_10, e_11, e_12, e_13, e_14, e_15, e_16, e_17, e_18, e_19, e_20, e_21, e_22, e_23, e_24, e_25, e_26, e_27, e_28, e_29, e_30, e_31, e_32, e_33, e_48, e_57, e_59, e_60, e_63, e_64, e_96, e_97, e_99, e_120, e_122, e_192, e_200, e_255, e_256, e_300, e_500, e_600, e_2000, e_5000, e_5240, e_6146, e_20000, e_65536, nIo, nI_clamp, nIxt, nI_1, nI_add, nI_mul, nI_eqF, nI_ltT, nI_ltF, nI_leT, nI_leF, nN_lt0, nN_le, nN_lt, nN_eq, nN_eq', eq_self, nBdS]
  | succ d ih =>
    intro k j τ h2 hj hk
    obtain ⟨τ', e1, e3, e4, e5⟩ := ih (k - 1) (j + 1) (wr τ 27 j (nI 0)) (by rw [wrc _ _ _ (by decide)]; exact h2) (by omega) (by omega)
    refine ⟨τ', ?_, fun i h1 h2 => ?_, fun i h => ?_, fun d h => ?_⟩
    · rw [nLpP _ _ (by omega)]
      simp (disch := first | omega | exact nM1_n | exact nM2_n | assumption) only [b_X11_laid_31, h2, ↓nLetR, ↓reduceIte, ↓e_m1, ↓e_m2, e_0, e_1, e_2, e_3, e_4, e_5, e_6, e_7, e_8, e_9, e_10, e_11, e_12, e_13, e_14, e_15, e_16, e_17, e_18, e_19, e_20, e_21, e_22, e_23, e_24, e_25, e_26, e_27, e_28, e_29, e_30, e_31, e_32, e_33, e_48, e_57, e_59, e_60, e_63, e_64, e_96, e_97, e_99, e_120, e_122, e_192, e_200, e_255, e_256, e_300, e_500, e_600, e_2000, e_5000, e_5240, e_6146, e_20000, e_65536, nIo, nI_clamp, nIxt, nI_1, nI_add, nI_mul, nI_eqF, nI_ltT, nI_ltF, nI_leT, nI_leF, nN_lt0, nN_le, nN_lt, nN_eq, nN_eq', eq_self, nBdS]
      exact e1
    · by_cases hij : i = j
      · rw [e4 i (by omega), hij, wrs]
      · exact e3 i (by omega) h2
    · rw [e4 i (by omega), wrk _ _ _ (by omega)]
    · rw [e5 d h, wrc _ _ _ h]
theorem pOp24 (N : Nat) (hN : 10000 ≤ N) : nOp24 N nInv := by
  intro n σ τ hn hI
  obtain ⟨F, S, P, B, sz, T, h1, h2, h3, h4, h5, h6, h7, h8, h9, h10⟩ := hI
  obtain ⟨m, hm, p1, p2, p3, p4, p5⟩ := id h9
  rcases id h5 with ⟨z1, z2, z3⟩ | ⟨⟨e, he, z1⟩, z2, -, -, z40, -, -, c, hc, z10, zp⟩
  · have z1' : σ.1 24 11 = nM1 := z1
    simp (disch := first | omega | exact nM1_n | exact nM2_n | assumption) only [b_X8_laid_0, l_X8_laid_0, f_X8_laid, b_X8_nothingPlayed_0, l_X8_nothingPlayed_0, f_X8_nothingPlayed, b_X8_refuse_0, l_X8_refuse_0, f_X8_refuse, b_X11_laid_128, b_X11_laid_137, b_X11_laid_68, b_X11_laid_54, b_X11_laid_31, b_X11_laid_0, l_X11_laid_128, l_X11_laid_137, l_X11_laid_68, l_X11_laid_54, l_X11_laid_31, l_X11_laid_0, f_X11_laid, b_X11_refused_0, l_X11_refused_0, f_X11_refused, z1', z2, ↓nLetR, ↓reduceIte, ↓e_m1, ↓e_m2, e_0, e_1, e_2, e_3, e_4, e_5, e_6, e_7, e_8, e_9, e_10, e_11, e_12, e_13, e_14, e_15, e_16, e_17, e_18, e_19, e_20, e_21, e_22, e_23, e_24, e_25, e_26, e_27, e_28, e_29, e_30, e_31, e_32, e_33, e_48, e_57, e_59, e_60, e_63, e_64, e_96, e_97, e_99, e_120, e_122, e_192, e_200, e_255, e_256, e_300, e_500, e_600, e_2000, e_5000, e_5240, e_6146, e_20000, e_65536, nIo, nI_clamp, nIxt, nI_1, nI_add, nI_mul, nI_eqF, nI_ltT, nI_ltF, nI_leT, nI_leF, nN_lt0, nN_le, nN_lt, nN_eq, nN_eq', eq_self, nBdS, wrs, wrk, wrc, wr2, wl1, wls, wlk, wlc]
    refine pK rfl ⟨F, S, P, B, sz, T, ?_⟩
    simp (disch := decide) only [iI, wrs, wrk, wrc, wr2, wl1, wls, wlk, wlc]
    exact ⟨h1, h2, h3, h4.no 5 (by decide), h5, h6, h7, h8, h9, h10.up⟩
  · have z2' : τ.1 0 37 = nI 1 := z2
    have z40' : τ.1 0 40 = nI c := z40.trans z10
    obtain ⟨L, hL, hLc, e1⟩ : ∃ L, L ≤ 300 ∧ L ≤ c ∧ (if nI 300 < nI c then nI 300 else nI c) = nI L := by
      by_cases h : 300 < c
      · exact ⟨300, by omega, by omega, by rw [if_pos (nI_lt h (by omega))]⟩
      · exact ⟨c, by omega, by omega, by rw [if_neg (nI_nlt (by omega) (by omega))]⟩
    obtain ⟨σ1, f1, f2, f3, f4⟩ := fillI_is (N := N) (q := 22) (qn := 201) (by omega) (by decide) (nI 0) σ
    have k65 : (wr τ 0 0 (nI 0)).1 0 65 = nI m := by rw [wrk _ _ _ (by decide)]; exact p2
    obtain ⟨τ1, g1, g2, g3, g4⟩ := mzero_go N m hm (nI L) (l_X11_laid_54 N) (m + 1) N 0 (wr τ 0 0 (nI 0)) k65 (by omega) (by omega)
    obtain ⟨v, σ', τ', i1, i2, i3, i4⟩ := laid_go (N := N) (m := m) (c := c) (L := L) (σ0 := σ1) (τ0 := τ1) (by omega) hm hL hLc hc (by rw [f4 24 (by decide)]; exact z10)
      (fun i hi => by rw [g4 26 (by decide), wrc _ _ _ (by decide), f4 21 (by decide)]; exact p5 i hi)
      (fun i hi => by rw [g4 15 (by decide), wrc _ _ _ (by decide), f4 26 (by decide)]; exact zp i (by omega) (by omega))
      (by rw [f4 20 (by decide)]; exact p1) (by rw [g4 0 (by decide)]; exact k65) L N N 0 σ1 τ1 (by omega) (by omega) (by omega)
      (fun j hj => by rw [g2 j (Nat.zero_le j) hj, f3 j (by omega)]) (f3 0 (by decide)) (fun d h => rfl) (fun d h _ => rfl)
    have l1 : f_X2_layBeside N σ = some (v, wr (wr σ' 20 3 (nI L - v)) 20 4 (nI m - v)) := by
      simp (disch := first | omega | exact nM1_n | exact nM2_n | assumption) only [f_X2_layBeside, l_X2_layBeside_0, b_X2_layBeside_0, ↓nLetR, e_0, e_1, e_2, e_3, e_4, e_5, e_6, e_7, e_8, e_9, e_10, e_11, e_12, e_13, e_14, e_15, e_16, e_17, e_18, e_19, e_20, e_21, e_22, e_23, e_24, e_25, e_26, e_27, e_28, e_29, e_30, e_31, e_32, e_33, e_48, e_57, e_59, e_60, e_63, e_64, e_96, e_97, e_99, e_120, e_122, e_192, e_200, e_255, e_256, e_300, e_500, e_600, e_2000, e_5000, e_5240, e_6146, e_20000, e_65536, z10, e1, f1, nBdS]
      exact i1
    have l2 : f_X11_laid N τ = f_X11_done N v (wr (wr τ' 0 66 (nI L - v)) 0 67 (nI m - v)) := by
      have q40 : (wr τ 0 0 (nI 0)).1 0 40 = nI c := by rw [wrk _ _ _ (by decide)]; exact z40'
      have q37 : (wr τ 0 0 (nI 0)).1 0 37 = nI 1 := by rw [wrk _ _ _ (by decide)]; exact z2'
      simp (disch := first | omega | exact nM1_n | exact nM2_n | assumption) only [f_X11_laid, l_X11_laid_0, b_X11_laid_0, ↓nLetR, e_0, e_1, e_2, e_3, e_4, e_5, e_6, e_7, e_8, e_9, e_10, e_11, e_12, e_13, e_14, e_15, e_16, e_17, e_18, e_19, e_20, e_21, e_22, e_23, e_24, e_25, e_26, e_27, e_28, e_29, e_30, e_31, e_32, e_33, e_48, e_57, e_59, e_60, e_63, e_64, e_96, e_97, e_99, e_120, e_122, e_192, e_200, e_255, e_256, e_300, e_500, e_600, e_2000, e_5000, e_5240, e_6146, e_20000, e_65536, q37, q40, e1, nI_eqF, ↓reduceIte]
      exact g1.trans i2
    have z1' : ¬ σ.1 24 11 = nM1 := by rw [z1]; exact nI_m1 e (by omega)
    rw [l2]
    simp (disch := first | omega | exact nM1_n | exact nM2_n | assumption) only [b_X8_laid_0, l_X8_laid_0, f_X8_laid, b_X8_nothingPlayed_0, l_X8_nothingPlayed_0, f_X8_nothingPlayed, b_X8_accept_0, l_X8_accept_0, f_X8_accept, b_X11_done_0, l_X11_done_0, f_X11_done, z1', l1, ↓nLetR, ↓reduceIte, ↓e_m1, ↓e_m2, e_0, e_1, e_2, e_3, e_4, e_5, e_6, e_7, e_8, e_9, e_10, e_11, e_12, e_13, e_14, e_15, e_16, e_17, e_18, e_19, e_20, e_21, e_22, e_23, e_24, e_25, e_26, e_27, e_28, e_29, e_30, e_31, e_32, e_33, e_48, e_57, e_59, e_60, e_63, e_64, e_96, e_97, e_99, e_120, e_122, e_192, e_200, e_255, e_256, e_300, e_500, e_600, e_2000, e_5000, e_5240, e_6146, e_20000, e_65536, nIo, nI_clamp, nIxt, nI_1, nI_add, nI_mul, nI_eqF, nI_ltT, nI_ltF, nI_leT, nI_leF, nN_lt0, nN_le, nN_lt, nN_eq, nN_eq', eq_self, nBdS, wrs, wrk, wrc, wr2, wl1, wls, wlk, wlc]
    have F1 : ∀ d, d ≠ 22 → σ'.1 d = σ.1 d := fun d h => (i3 d h).trans (f4 d h)
    have T1 : ∀ d, d ≠ 0 → d ≠ 27 → d ≠ 28 → τ'.1 d = τ.1 d := fun d h0 h1 h2 => by rw [i4 d h1 h2, g4 d h1, wrc _ _ _ h0]
    have T0 : ∀ f, f ≠ 0 → τ'.1 0 f = τ.1 0 f := fun f h => by rw [i4 0 (by decide) (by decide), g4 0 (by decide), wrk _ _ _ h]
    refine pK rfl ⟨F, S, P, B, sz, T, ?_⟩
    simp (disch := decide) only [iI, wrs, wrk, wrc, wr2, wl1, wls, wlk, wlc, F1, T1, T0]
    refine ⟨h1, h2, h3, h4.done, h5, h6, h7, h8, ⟨m, hm, ?_⟩, h10.up⟩
    simp (disch := decide) only [wrs, wrk, wrc, wr2, wl1, wls, wlk, wlc, F1, T1, T0]
    exact ⟨p1, p2, trivial, trivial, p5⟩
