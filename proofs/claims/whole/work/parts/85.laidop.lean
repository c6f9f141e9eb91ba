/-! LAID, the call -/
theorem laid_go {N m c L : Nat} {σ0 τ0 : nS} (hN : 1000 ≤ N) (hm : m ≤ 200) (hL : L ≤ 300) (hLc : L ≤ c) (hc : c ≤ 7000) (p10 : σ0.1 24 10 = nI c) (hlog : ∀ i, i < m → τ0.1 26 i = σ0.1 21 i) (hpath : ∀ i, i < L → τ0.1 15 i = σ0.1 26 i) (s2 : σ0.1 20 2 = nI m) (t65 : τ0.1 0 65 = nI m) :
    ∀ d k1 k2 i σ τ, i + d = L → d < k1 → d < k2 → (∀ j, j ≤ m → τ.1 27 j = σ.1 22 j) → σ.1 22 0 = nI 0 → (∀ d, d ≠ 22 → σ.1 d = σ0.1 d) → (∀ d, d ≠ 27 → d ≠ 28 → τ.1 d = τ0.1 d) →
      ∃ v σ' τ', nLp (fun _ _ _ => none) (fun again => b_X2_layBeside_21 N again (l_X2_layBeside_72 N (l_X2_layBeside_73 N)) (l_X2_layBeside_73 N)) k1 σ (nI L) (nI i) = some (v, wr (wr σ' 20 3 (nI L - v)) 20 4 (nI m - v)) ∧
        nLp (fun _ _ _ => none) (fun again => b_X11_laid_54 N (l_X11_laid_68 N again)) k2 τ (nI L) (nI i) = f_X11_done N v (wr (wr τ' 0 66 (nI L - v)) 0 67 (nI m - v)) ∧ (∀ d, d ≠ 22 → σ'.1 d = σ0.1 d) ∧ ∀ d, d ≠ 27 → d ≠ 28 → τ'.1 d = τ0.1 d := by
  intro d
  induction d with
  | zero =>
    intro k1 k2 i σ τ hi hk1 hk2 hr h0 hf hg
    have a2 : σ.1 20 2 = nI m := by rw [hf 20 (by decide)]; exact s2
    have a65 : τ.1 0 65 = nI m := by rw [hg 0 (by decide) (by decide)]; exact t65
    refine ⟨σ.1 22 m, σ, τ, ?_, ?_, hf, hg⟩
    · rw [nLpP _ _ hk1]
      simp (disch := first | omega | exact nM1_n | exact nM2_n | assumption) only [b_X2_layBeside_21, l_X2_layBeside_73, b_X2_layBeside_73, a2, ↓nLetR, ↓reduceIte, ↓e_m1, ↓e_m2, e_0, e_1, e_2, e_3, e_4, e_5, e_6, e_7, e_8, e_9, e_10, e_11, e_12, e_13, e_14, e_15, e_16, e_17, e_18, e_19, e_20, e_21, e_22, e_23, e_24, e_25, e_26, e_27, e_28, e_29, e_30, e_31, e_32, e_33, e_48, e_57, e_59, e_60, e_63, e_64, e_96, e_97, e_99, e_120, e_122, e_192, e_200, e_255, e_256, e_300, e_500, e_600, e_2000, e_5000, e_5240, e_6146, e_20000, e_65536, nIo, nI_clamp, nIxt, nI_1, nI_add, nI_mul, nI_eqF, nI_ltT, nI_ltF, nI_leT, nI_leF, nN_lt0, nN_le, nN_lt, nN_eq, nN_eq', eq_self, nBdS, e_201, wrs, wrk, wrc, wr2, wl1, wls, wlk, wlc]
    · rw [nLpP _ _ hk2]
      simp (disch := first | omega | exact nM1_n | exact nM2_n | assumption) only [b_X11_laid_54, a65, hr m (Nat.le_refl m), nBdE, ↓nLetR, ↓reduceIte, ↓e_m1, ↓e_m2, e_0, e_1, e_2, e_3, e_4, e_5, e_6, e_7, e_8, e_9, e_10, e_11, e_12, e_13, e_14, e_15, e_16, e_17, e_18, e_19, e_20, e_21, e_22, e_23, e_24, e_25, e_26, e_27, e_28, e_29, e_30, e_31, e_32, e_33, e_48, e_57, e_59, e_60, e_63, e_64, e_96, e_97, e_99, e_120, e_122, e_192, e_200, e_255, e_256, e_300, e_500, e_600, e_2000, e_5000, e_5240, e_6146, e_20000, e_65536, nIo, nI_clamp, nIxt, nI_1, nI_add, nI_mul, nI_eqF, nI_ltT, nI_ltF, nI_leT, nI_leF, nN_lt0, nN_le, nN_lt, nN_eq, nN_eq', eq_self, nBdS, e_201, wrs, wrk, wrc, wr2, wl1, wls, wlk, wlc]
  | succ d ih =>
    intro k1 k2 i σ τ hi hk1 hk2 hr h0 hf hg
    have a2 : σ.1 20 2 = nI m := by rw [hf 20 (by decide)]; exact s2
    have a10 : σ.1 24 10 = nI c := by rw [hf 24 (by decide)]; exact p10
    obtain ⟨σ', e1, e2, e3, e4⟩ := ext_is (N := N) (by omega) hm (σ.1 26 i) a2 h0
    have f65 : (wr τ 28 0 (nI 0)).1 0 65 = nI m := by rw [wrc _ _ _ (by decide), hg 0 (by decide) (by decide)]; exact t65
    obtain ⟨τ1, g1, g2, g3, g4⟩ := mrow_go N m hm (nLp (fun _ _ _ => none) (fun again => b_X11_laid_54 N (l_X11_laid_68 N again)) (k2 - 1)) (nI L) i (by omega) m N 0 (wr τ 28 0 (nI 0)) f65 (by omega) (by omega) (fun j hj => by
      have : j = 0 := by omega
      subst this
      rw [wrs]; rfl)
    obtain ⟨τ2, j1, j2, j3, j4, j5⟩ := mcopy_go N m hm (nLp (fun _ _ _ => none) (fun again => b_X11_laid_54 N (l_X11_laid_68 N again)) (k2 - 1)) (nI L) (nI i) (m + 1) N 0 τ1 (by rw [g4 0 (by decide)]; exact f65) (by omega) (by omega)
    have f27 : (wr τ 28 0 (nI 0)).1 27 = τ.1 27 := wrc _ _ _ (by decide)
    have f26 : (wr τ 28 0 (nI 0)).1 26 = τ0.1 26 := by rw [wrc _ _ _ (by decide)]; exact hg 26 (by decide) (by decide)
    have f15 : (wr τ 28 0 (nI 0)).1 15 = τ0.1 15 := by rw [wrc _ _ _ (by decide)]; exact hg 15 (by decide) (by decide)
    have hrow : ∀ j, j ≤ m → τ2.1 27 j = σ'.1 22 j := fun j hj => by
      rw [j3 j (Nat.zero_le j) hj, g3 j hj, e3 j hj, f27, f26, f15, hpath i (by omega), hf 26 (by decide), hf 21 (by decide)]
      exact rowS_eq j (fun q hq => hr q (by omega)) (fun q hq => hlog q (by omega))
    obtain ⟨v, σ2, τ3, i1, i2, i3, i4⟩ := ih (k1 - 1) (k2 - 1) (i + 1) σ' τ2 (by omega) (by omega) (by omega) hrow (by rw [e3 0 (Nat.zero_le m)]; rfl) (fun d h => (e4 d h).trans (hf d h)) (fun d h1 h2 => by
      rw [j5 d h1, g4 d h2, wrc _ _ _ h2]
      exact hg d h1 h2)
    refine ⟨v, σ2, τ3, ?_, ?_, i3, i4⟩
    · rw [nLpP _ _ (by omega)]
      simp (disch := first | omega | exact nM1_n | exact nM2_n | assumption) only [b_X2_layBeside_21, b_X6_pathAt_0, l_X6_pathAt_0, f_X6_pathAt, nPl24, a10, e1, ↓nLetR, ↓reduceIte, ↓e_m1, ↓e_m2, e_0, e_1, e_2, e_3, e_4, e_5, e_6, e_7, e_8, e_9, e_10, e_11, e_12, e_13, e_14, e_15, e_16, e_17, e_18, e_19, e_20, e_21, e_22, e_23, e_24, e_25, e_26, e_27, e_28, e_29, e_30, e_31, e_32, e_33, e_48, e_57, e_59, e_60, e_63, e_64, e_96, e_97, e_99, e_120, e_122, e_192, e_200, e_255, e_256, e_300, e_500, e_600, e_2000, e_5000, e_5240, e_6146, e_20000, e_65536, nIo, nI_clamp, nIxt, nI_1, nI_add, nI_mul, nI_eqF, nI_ltT, nI_ltF, nI_leT, nI_leF, nN_lt0, nN_le, nN_lt, nN_eq, nN_eq', eq_self, nBdS]
      exact i1
    · rw [nLpP _ _ (by omega)]
      simp (disch := first | omega | exact nM1_n | exact nM2_n | assumption) only [b_X11_laid_54, ↓nLetR, ↓reduceIte, ↓e_m1, ↓e_m2, e_0, e_1, e_2, e_3, e_4, e_5, e_6, e_7, e_8, e_9, e_10, e_11, e_12, e_13, e_14, e_15, e_16, e_17, e_18, e_19, e_20, e_21, e_22, e_23, e_24, e_25, e_26, e_27, e_28, e_29, e_30, e_31, e_32, e_33, e_48, e_57, e_59, e_60, e_63, e_64, e_96, e_97, e_99, e_120, e_122, e_192, e_200, e_255, e_256, e_300, e_500, e_600, e_2000, e_5000, e_5240, e_6146, e_20000, e_65536, nIo, nI_clamp, nIxt, nI_1, nI_add, nI_mul, nI_eqF, nI_ltT, nI_ltF, nI_leT, nI_leF, nN_lt0, nN_le, nN_lt, nN_eq, nN_eq', eq_self, nBdS]
      refine Eq.trans g1 (Eq.trans j1 ?_)
      rw [nI_add]
      exact i2
