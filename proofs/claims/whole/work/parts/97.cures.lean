/-! MENDS: whether all plays end in calm -/
def qA (b pl : Nat) (σ τ : nS) : Prop := σ.1 16 3 = nI b ∧ σ.1 16 4 = nI pl ∧ τ.1 0 48 = nI b ∧ τ.1 0 49 = nI pl ∧ pl ≤ 500 ∧ ∀ i, i < pl → τ.1 18 i = σ.1 17 i ∧ ∃ r, r < 2 ^ 20 ∧ σ.1 17 i = nI r
theorem hFr.qa27 {b pl : Nat} {σ0 τ0 σ τ : nS} (h : hFr 27 σ0 τ0 σ τ) (g : qA b pl σ0 τ0) : qA b pl σ τ := by
  unfold qA
  rw [h.1 16 (by decide) (by decide) (by decide), h.1 17 (by decide) (by decide) (by decide), h.2.1 18 (by decide) (by decide) (by decide), h.2.2 48 (by decide), h.2.2 49 (by decide)]
  exact g
theorem nZa (b : Option (Int32 × nS)) : nZ (nI 0) b = b := rfl
theorem nZb (b : Option (Int32 × nS)) : nZ (nI 1) b = b := rfl
theorem cures_go {N F S P B b n pl : Nat} {σ0 τ0 : nS} (hN : 7000 ≤ N) (hH : hHs F S P B σ0 τ0) (hB : hBk F S b n σ0 τ0) (hq : qA b pl σ0 τ0) : ∀ d i m m' M σ τ, i + d = pl → d < m → d + 1 < m' → M + d + 1 < 2 ^ 31 → hFr 27 σ0 τ0 σ τ → hMk M τ →
    ∃ r M' σ' τ', r < 2 ∧ nLp (fun _ _ => none) (fun again => b_X8_allCalm_2 N again) m σ (nI i) = some (nI r, σ') ∧ nLp (fun _ _ _ => none) (fun again => b_X11_cures_4 N (l_X11_cures_38 N again)) m' τ (nI 1) (nI i) = some (nI r, τ') ∧ hFr 27 σ0 τ0 σ' τ' ∧ hMk M' τ' ∧ M ≤ M' ∧ M' ≤ M + d := by
  intro d
  induction d with
  | zero =>
    intro i m m' M σ τ hi hm hm' hM hf hk
    obtain ⟨a1, a2, a3, a4, a5, a6⟩ := hf.qa27 hq
    refine ⟨1, M, σ, τ, by decide, ?_, ?_, hf, hk, by omega⟩
    · rw [nLpP _ _ hm]
      simp (disch := first | omega | exact nM1_n | exact nM2_n | assumption) only [b_X8_allCalm_2, a2, ↓nLetR, ↓reduceIte, ↓e_m1, ↓e_m2, e_0, e_1, e_2, e_3, e_4, e_5, e_6, e_7, e_8, e_9, e_10, e_11, e_12, e_13, e_14, e_15, e_16, e_17, e_18, e_19, e_20, e_21, e_22, e_23, e_24, e_25, e_26, e_27, e_28, e_29, e_30, e_31, e_32, e_33, e_48, e_57, e_59, e_60, e_63, e_64, e_96, e_97, e_99, e_120, e_122, e_192, e_200, e_255, e_256, e_300, e_500, e_600, e_2000, e_5000, e_5240, e_6146, e_20000, e_65536, nIo, nI_clamp, nIxt, nI_1, nI_add, nI_mul, nI_eqF, nI_ltT, nI_ltF, nI_leT, nI_leF, nN_lt0, nN_le, nN_lt, nN_eq, nN_eq', eq_self, nBdS]
    · rw [nLpP _ _ (by omega)]
      simp (disch := first | omega | exact nM1_n | exact nM2_n | assumption) only [b_X11_cures_4, a4, nZb, ↓nLetR, ↓reduceIte, ↓e_m1, ↓e_m2, e_0, e_1, e_2, e_3, e_4, e_5, e_6, e_7, e_8, e_9, e_10, e_11, e_12, e_13, e_14, e_15, e_16, e_17, e_18, e_19, e_20, e_21, e_22, e_23, e_24, e_25, e_26, e_27, e_28, e_29, e_30, e_31, e_32, e_33, e_48, e_57, e_59, e_60, e_63, e_64, e_96, e_97, e_99, e_120, e_122, e_192, e_200, e_255, e_256, e_300, e_500, e_600, e_2000, e_5000, e_5240, e_6146, e_20000, e_65536, nIo, nI_clamp, nIxt, nI_1, nI_add, nI_mul, nI_eqF, nI_ltT, nI_ltF, nI_leT, nI_leF, nN_lt0, nN_le, nN_lt, nN_eq, nN_eq', eq_self, nBdS]
  | succ d ih =>
    intro i m m' M σ τ hi hm hm' hM hf hk
    obtain ⟨a1, a2, a3, a4, a5, a6⟩ := hf.qa27 hq
    obtain ⟨c1, x, hx, c2⟩ := a6 i (by omega)
    rw [c2] at c1
    obtain ⟨e, σ1, τ1, p1, p2, he, _, _, _, _, _, _, zm, zf⟩ := try_is (N := N) hN (by omega) (hf.hs27 hH) (hf.bk27 hB) hx hk
    have hrow : f_X5_rowAt N (nI i) σ = some (nI x, σ) := by simp (disch := first | omega | exact nM1_n | exact nM2_n | assumption) only [b_X5_rowAt_0, l_X5_rowAt_0, f_X5_rowAt, c2, ↓nLetR, ↓reduceIte, ↓e_m1, ↓e_m2, e_0, e_1, e_2, e_3, e_4, e_5, e_6, e_7, e_8, e_9, e_10, e_11, e_12, e_13, e_14, e_15, e_16, e_17, e_18, e_19, e_20, e_21, e_22, e_23, e_24, e_25, e_26, e_27, e_28, e_29, e_30, e_31, e_32, e_33, e_48, e_57, e_59, e_60, e_63, e_64, e_96, e_97, e_99, e_120, e_122, e_192, e_200, e_255, e_256, e_300, e_500, e_600, e_2000, e_5000, e_5240, e_6146, e_20000, e_65536, nIo, nI_clamp, nIxt, nI_1, nI_add, nI_mul, nI_eqF, nI_ltT, nI_ltF, nI_leT, nI_leF, nN_lt0, nN_le, nN_lt, nN_eq, nN_eq', eq_self, nBdS]
    have zf' := hf.trans27 zf
    by_cases h0 : e = 0
    · subst h0
      obtain ⟨r, M', σ', τ', g1, g2, g3, g4, g5, g6⟩ := ih (i + 1) (m - 1) (m' - 1) (M + 1) σ1 τ1 (by omega) (by omega) (by omega) (by omega) zf' zm
      refine ⟨r, M', σ', τ', g1, ?_, ?_, g4, g5, by omega⟩
      · rw [nLpP _ _ (by omega)]
        simp (disch := first | omega | exact nM1_n | exact nM2_n | assumption) only [b_X8_allCalm_2, a1, a2, hrow, p1, ↓nLetR, ↓reduceIte, ↓e_m1, ↓e_m2, e_0, e_1, e_2, e_3, e_4, e_5, e_6, e_7, e_8, e_9, e_10, e_11, e_12, e_13, e_14, e_15, e_16, e_17, e_18, e_19, e_20, e_21, e_22, e_23, e_24, e_25, e_26, e_27, e_28, e_29, e_30, e_31, e_32, e_33, e_48, e_57, e_59, e_60, e_63, e_64, e_96, e_97, e_99, e_120, e_122, e_192, e_200, e_255, e_256, e_300, e_500, e_600, e_2000, e_5000, e_5240, e_6146, e_20000, e_65536, nIo, nI_clamp, nIxt, nI_1, nI_add, nI_mul, nI_eqF, nI_ltT, nI_ltF, nI_leT, nI_leF, nN_lt0, nN_le, nN_lt, nN_eq, nN_eq', eq_self, nBdS]
        exact g2
      · rw [nLpP _ _ (by omega)]
        simp (disch := first | omega | exact nM1_n | exact nM2_n | assumption) only [b_X11_cures_4, l_X11_cures_38, b_X11_cures_38, a3, a4, c1, p2, ↓nLetR, ↓reduceIte, ↓e_m1, ↓e_m2, e_0, e_1, e_2, e_3, e_4, e_5, e_6, e_7, e_8, e_9, e_10, e_11, e_12, e_13, e_14, e_15, e_16, e_17, e_18, e_19, e_20, e_21, e_22, e_23, e_24, e_25, e_26, e_27, e_28, e_29, e_30, e_31, e_32, e_33, e_48, e_57, e_59, e_60, e_63, e_64, e_96, e_97, e_99, e_120, e_122, e_192, e_200, e_255, e_256, e_300, e_500, e_600, e_2000, e_5000, e_5240, e_6146, e_20000, e_65536, nIo, nI_clamp, nIxt, nI_1, nI_add, nI_mul, nI_eqF, nI_ltT, nI_ltF, nI_leT, nI_leF, nN_lt0, nN_le, nN_lt, nN_eq, nN_eq', eq_self, nBdS]
        exact g3
    · refine ⟨0, M + 1, σ1, τ1, by decide, ?_, ?_, zf', zm, by omega⟩
      · rw [nLpP _ _ (by omega)]
        simp (disch := first | omega | exact nM1_n | exact nM2_n | assumption) only [b_X8_allCalm_2, a1, a2, hrow, p1, ↓nLetR, ↓reduceIte, ↓e_m1, ↓e_m2, e_0, e_1, e_2, e_3, e_4, e_5, e_6, e_7, e_8, e_9, e_10, e_11, e_12, e_13, e_14, e_15, e_16, e_17, e_18, e_19, e_20, e_21, e_22, e_23, e_24, e_25, e_26, e_27, e_28, e_29, e_30, e_31, e_32, e_33, e_48, e_57, e_59, e_60, e_63, e_64, e_96, e_97, e_99, e_120, e_122, e_192, e_200, e_255, e_256, e_300, e_500, e_600, e_2000, e_5000, e_5240, e_6146, e_20000, e_65536, nIo, nI_clamp, nIxt, nI_1, nI_add, nI_mul, nI_eqF, nI_ltT, nI_ltF, nI_leT, nI_leF, nN_lt0, nN_le, nN_lt, nN_eq, nN_eq', eq_self, nBdS]
      · obtain ⟨_, _, _, b4, _, _⟩ := zf'.qa27 hq
        rw [nLpP _ _ (by omega)]
        simp (disch := first | omega | exact nM1_n | exact nM2_n | assumption) only [b_X11_cures_4, l_X11_cures_38, b_X11_cures_38, a3, a4, c1, p2, ↓nLetR, ↓reduceIte, ↓e_m1, ↓e_m2, e_0, e_1, e_2, e_3, e_4, e_5, e_6, e_7, e_8, e_9, e_10, e_11, e_12, e_13, e_14, e_15, e_16, e_17, e_18, e_19, e_20, e_21, e_22, e_23, e_24, e_25, e_26, e_27, e_28, e_29, e_30, e_31, e_32, e_33, e_48, e_57, e_59, e_60, e_63, e_64, e_96, e_97, e_99, e_120, e_122, e_192, e_200, e_255, e_256, e_300, e_500, e_600, e_2000, e_5000, e_5240, e_6146, e_20000, e_65536, nIo, nI_clamp, nIxt, nI_1, nI_add, nI_mul, nI_eqF, nI_ltT, nI_ltF, nI_leT, nI_leF, nN_lt0, nN_le, nN_lt, nN_eq, nN_eq', eq_self, nBdS]
        rw [nLpP _ _ (by omega)]
        by_cases hl : i + 1 < pl
        · simp (disch := first | omega | exact nM1_n | exact nM2_n | assumption) only [b_X11_cures_4, b4, nZa, ↓nLetR, ↓reduceIte, ↓e_m1, ↓e_m2, e_0, e_1, e_2, e_3, e_4, e_5, e_6, e_7, e_8, e_9, e_10, e_11, e_12, e_13, e_14, e_15, e_16, e_17, e_18, e_19, e_20, e_21, e_22, e_23, e_24, e_25, e_26, e_27, e_28, e_29, e_30, e_31, e_32, e_33, e_48, e_57, e_59, e_60, e_63, e_64, e_96, e_97, e_99, e_120, e_122, e_192, e_200, e_255, e_256, e_300, e_500, e_600, e_2000, e_5000, e_5240, e_6146, e_20000, e_65536, nIo, nI_clamp, nIxt, nI_1, nI_add, nI_mul, nI_eqF, nI_ltT, nI_ltF, nI_leT, nI_leF, nN_lt0, nN_le, nN_lt, nN_eq, nN_eq', eq_self, nBdS]
        · simp (disch := first | omega | exact nM1_n | exact nM2_n | assumption) only [b_X11_cures_4, b4, nZa, ↓nLetR, ↓reduceIte, ↓e_m1, ↓e_m2, e_0, e_1, e_2, e_3, e_4, e_5, e_6, e_7, e_8, e_9, e_10, e_11, e_12, e_13, e_14, e_15, e_16, e_17, e_18, e_19, e_20, e_21, e_22, e_23, e_24, e_25, e_26, e_27, e_28, e_29, e_30, e_31, e_32, e_33, e_48, e_57, e_59, e_60, e_63, e_64, e_96, e_97, e_99, e_120, e_122, e_192, e_200, e_255, e_256, e_300, e_500, e_600, e_2000, e_5000, e_5240, e_6146, e_20000, e_65536, nIo, nI_clamp, nIxt, nI_1, nI_add, nI_mul, nI_eqF, nI_ltT, nI_ltF, nI_leT, nI_leF, nN_lt0, nN_le, nN_lt, nN_eq, nN_eq', eq_self, nBdS]
theorem cures_is {N F S P B b n pl M : Nat} {σ τ : nS} (hN : 7000 ≤ N) (hM : M + 600 < 2 ^ 31) (hH : hHs F S P B σ τ) (hB : hBk F S b n σ τ) (hq : qA b pl σ τ) (hk : hMk M τ) :
    ∃ r M' σ' τ', r < 2 ∧ f_X8_allCalm N σ = some (nI r, σ') ∧ f_X11_cures N τ = some (nI r, τ') ∧ hFr 27 σ τ σ' τ' ∧ hMk M' τ' ∧ M ≤ M' ∧ M' ≤ M + 500 := by
  have hpl := hq.2.2.2.2.1
  obtain ⟨r, M', σ', τ', g1, g2, g3, g4, g5, g6⟩ := cures_go (N := N) hN hH hB hq pl 0 N N M σ τ (by omega) (by omega) (by omega) (by omega) hFr.rfl27 hk
  exact ⟨r, M', σ', τ', g1, g2, g3, g4, g5, by omega⟩
/-- what cured so far -/
def cR (C : Nat) (σ τ : nS) : Prop := ∃ c, c ≤ C ∧ σ.1 19 0 = nI c ∧ τ.1 0 57 = nI c ∧ (c = 0 → σ.1 19 1 = nM1 ∧ σ.1 19 2 = nM1 ∧ σ.1 19 3 = nM1) ∧ (¬ c = 0 → τ.1 22 0 = σ.1 19 1 ∧ τ.1 22 1 = σ.1 19 2 ∧ τ.1 22 2 = σ.1 19 3)
theorem cR.up {C D : Nat} {σ τ : nS} (h : cR C σ τ) (hd : C ≤ D) : cR D σ τ := by
  obtain ⟨c, h1, h2⟩ := h
  exact ⟨c, by omega, h2⟩
theorem cR.fr {C : Nat} {σ τ σ' τ' : nS} (h : cR C σ τ) (h1 : σ'.1 19 = σ.1 19) (h2 : τ'.1 22 = τ.1 22) (h3 : τ'.1 0 57 = τ.1 0 57) : cR C σ' τ' := by
  unfold cR
  rw [h1, h2, h3]
  exact h
theorem add_is {N C : Nat} {σ τ : nS} (hC : C < 5000) (w k t : Int32) (h : cR C σ τ) : ∃ σ' τ', f_X1_add N w k t σ = some (nI 0, σ') ∧ f_X11_cured N w k t τ = some (nI 0, τ') ∧ cR (C + 1) σ' τ' ∧ (∀ d, d ≠ 19 → σ'.1 d = σ.1 d) ∧ (∀ d, d ≠ 0 → d ≠ 22 → τ'.1 d = τ.1 d) ∧ ∀ f, f ≠ 57 → τ'.1 0 f = τ.1 0 f := by
  obtain ⟨c, h1, h2, h3, h4, h5⟩ := h
  by_cases h0 : c = 0
  · subst h0
    refine ⟨wr (wr (wr (wr σ 19 1 w) 19 2 k) 19 3 t) 19 0 (nI 1), wr (wr (wr (wr τ 22 0 w) 22 1 k) 22 2 t) 0 57 (nI 1), ?_, ?_, ⟨1, by omega, ?_, ?_, fun h => absurd h (by decide), fun _ => ⟨?_, ?_, ?_⟩⟩, fun d q => ?_, fun d q1 q2 => ?_, fun f q => ?_⟩
    · simp (disch := first | omega | exact nM1_n | exact nM2_n | assumption) only [b_X1_add_0, l_X1_add_0, f_X1_add, h2, ↓nLetR, ↓reduceIte, ↓e_m1, ↓e_m2, e_0, e_1, e_2, e_3, e_4, e_5, e_6, e_7, e_8, e_9, e_10, e_11, e_12, e_13, e_14, e_15, e_16, e_17, e_18, e_19, e_20, e_21, e_22, e_23, e_24, e_25, e_26, e_27, e_28, e_29, e_30, e_31, e_32, e_33, e_48, e_57, e_59, e_60, e_63, e_64, e_96, e_97, e_99, e_120, e_122, e_192, e_200, e_255, e_256, e_300, e_500, e_600, e_2000, e_5000, e_5240, e_6146, e_20000, e_65536, nIo, nI_clamp, nIxt, nI_1, nI_add, nI_mul, nI_eqF, nI_ltT, nI_ltF, nI_leT, nI_leF, nN_lt0, nN_le, nN_lt, nN_eq, nN_eq', eq_self, nBdS, wrs, wrk, wrc, wr2, wl1, wls, wlk, wlc]
    · simp (disch := first | omega | exact nM1_n | exact nM2_n | assumption) only [b_X11_cured_0, l_X11_cured_0, f_X11_cured, h3, ↓nLetR, ↓reduceIte, ↓e_m1, ↓e_m2, e_0, e_1, e_2, e_3, e_4, e_5, e_6, e_7, e_8, e_9, e_10, e_11, e_12, e_13, e_14, e_15, e_16, e_17, e_18, e_19, e_20, e_21, e_22, e_23, e_24, e_25, e_26, e_27, e_28, e_29, e_30, e_31, e_32, e_33, e_48, e_57, e_59, e_60, e_63, e_64, e_96, e_97, e_99, e_120, e_122, e_192, e_200, e_255, e_256, e_300, e_500, e_600, e_2000, e_5000, e_5240, e_6146, e_20000, e_65536, nIo, nI_clamp, nIxt, nI_1, nI_add, nI_mul, nI_eqF, nI_ltT, nI_ltF, nI_leT, nI_leF, nN_lt0, nN_le, nN_lt, nN_eq, nN_eq', eq_self, nBdS, wrs, wrk, wrc, wr2, wl1, wls, wlk, wlc]
    · simp (disch := decide) only [wrs, wrk, wrc, wr2, wl1, wls, wlk, wlc]
    · simp (disch := decide) only [wrs, wrk, wrc, wr2, wl1, wls, wlk, wlc]
    · simp (disch := decide) only [wrs, wrk, wrc, wr2, wl1, wls, wlk, wlc]
    · simp (disch := decide) only [wrs, wrk, wrc, wr2, wl1, wls, wlk, wlc]
    · simp (disch := decide) only [wrs, wrk, wrc, wr2, wl1, wls, wlk, wlc]
    · simp (disch := omega) only [wrs, wrk, wrc, wr2, wl1, wls, wlk, wlc]
    · simp (disch := omega) only [wrs, wrk, wrc, wr2, wl1, wls, wlk, wlc]
    · simp (disch := omega) only [wrs, wrk, wrc, wr2, wl1, wls, wlk, wlc]
  · refine ⟨wr σ 19 0 (nI (c + 1)), wr τ 0 57 (nI (c + 1)), ?_, ?_, ⟨c + 1, by omega, ?_, ?_, fun h => absurd h (by omega), fun _ => ?_⟩, fun d q => ?_, fun d q1 q2 => ?_, fun f q => ?_⟩
    · simp (disch := first | omega | exact nM1_n | exact nM2_n | assumption) only [b_X1_add_0, l_X1_add_0, f_X1_add, h2, ↓nLetR, ↓reduceIte, ↓e_m1, ↓e_m2, e_0, e_1, e_2, e_3, e_4, e_5, e_6, e_7, e_8, e_9, e_10, e_11, e_12, e_13, e_14, e_15, e_16, e_17, e_18, e_19, e_20, e_21, e_22, e_23, e_24, e_25, e_26, e_27, e_28, e_29, e_30, e_31, e_32, e_33, e_48, e_57, e_59, e_60, e_63, e_64, e_96, e_97, e_99, e_120, e_122, e_192, e_200, e_255, e_256, e_300, e_500, e_600, e_2000, e_5000, e_5240, e_6146, e_20000, e_65536, nIo, nI_clamp, nIxt, nI_1, nI_add, nI_mul, nI_eqF, nI_ltT, nI_ltF, nI_leT, nI_leF, nN_lt0, nN_le, nN_lt, nN_eq, nN_eq', eq_self, nBdS, wrs, wrk, wrc, wr2, wl1, wls, wlk, wlc]
    · simp (disch := first | omega | exact nM1_n | exact nM2_n | assumption) only [b_X11_cured_0, l_X11_cured_0, f_X11_cured, h3, ↓nLetR, ↓reduceIte, ↓e_m1, ↓e_m2, e_0, e_1, e_2, e_3, e_4, e_5, e_6, e_7, e_8, e_9, e_10, e_11, e_12, e_13, e_14, e_15, e_16, e_17, e_18, e_19, e_20, e_21, e_22, e_23, e_24, e_25, e_26, e_27, e_28, e_29, e_30, e_31, e_32, e_33, e_48, e_57, e_59, e_60, e_63, e_64, e_96, e_97, e_99, e_120, e_122, e_192, e_200, e_255, e_256, e_300, e_500, e_600, e_2000, e_5000, e_5240, e_6146, e_20000, e_65536, nIo, nI_clamp, nIxt, nI_1, nI_add, nI_mul, nI_eqF, nI_ltT, nI_ltF, nI_leT, nI_leF, nN_lt0, nN_le, nN_lt, nN_eq, nN_eq', eq_self, nBdS, wrs, wrk, wrc, wr2, wl1, wls, wlk, wlc]
    · simp (disch := decide) only [wrs, wrk, wrc, wr2, wl1, wls, wlk, wlc]
    · simp (disch := decide) only [wrs, wrk, wrc, wr2, wl1, wls, wlk, wlc]
    · simp (disch := decide) only [wrs, wrk, wrc, wr2, wl1, wls, wlk, wlc]; exact h5 h0
    · simp (disch := omega) only [wrs, wrk, wrc, wr2, wl1, wls, wlk, wlc]
    · simp (disch := omega) only [wrs, wrk, wrc, wr2, wl1, wls, wlk, wlc]
    · simp (disch := omega) only [wrs, wrk, wrc, wr2, wl1, wls, wlk, wlc]
theorem set_is {N b k j : Nat} {v : Int32} {σ : nS} (hb : b < 5) (hk : k < 24) (hj : j < 5) : f_X7_setCell N (nI b) (nI k) (nI j) v σ = some (nI 0, wr σ 5 ((b * 24 + k) * 5 + j) v) := by
  simp (disch := first | omega | exact nM1_n | exact nM2_n | assumption) only [b_X7_setCell_0, l_X7_setCell_0, f_X7_setCell, ↓nLetR, ↓reduceIte, ↓e_m1, ↓e_m2, e_0, e_1, e_2, e_3, e_4, e_5, e_6, e_7, e_8, e_9, e_10, e_11, e_12, e_13, e_14, e_15, e_16, e_17, e_18, e_19, e_20, e_21, e_22, e_23, e_24, e_25, e_26, e_27, e_28, e_29, e_30, e_31, e_32, e_33, e_48, e_57, e_59, e_60, e_63, e_64, e_96, e_97, e_99, e_120, e_122, e_192, e_200, e_255, e_256, e_300, e_500, e_600, e_2000, e_5000, e_5240, e_6146, e_20000, e_65536, nIo, nI_clamp, nIxt, nI_1, nI_add, nI_mul, nI_eqF, nI_ltT, nI_ltF, nI_leT, nI_leF, nN_lt0, nN_le, nN_lt, nN_eq, nN_eq', eq_self, nBdS]
/-- a step's target that is changed on both sides -/
def tgC (b k j q : Nat) (τ : nS) : Prop := (τ.1 4 (24 * b + k) = nI 2 ∧ (j = 2 ∧ q = 6 ∨ j = 3 ∧ q = 7)) ∨ (τ.1 4 (24 * b + k) = nI 4 ∧ j = 1 ∧ q = 5)
theorem hBk.set {F S b n k j q t : Nat} {σ τ : nS} (h : hBk F S b n σ τ) (hk : k < n) (hc : tgC b k j q τ) (ht : t < n) : hBk F S b n (wr σ 5 ((b * 24 + k) * 5 + j) (nI t)) (wr τ q (24 * b + k) (nI t)) := by
  obtain ⟨hb, hn, z1, z2, hst⟩ := h
  have hj : j < 4 ∧ 1 ≤ j ∧ 5 ≤ q ∧ q ≤ 7 := by rcases hc with ⟨_, ⟨rfl, rfl⟩ | ⟨rfl, rfl⟩⟩ | ⟨_, rfl, rfl⟩ <;> decide
  have e3 : (wr τ q (24 * b + k) (nI t)).1 3 = τ.1 3 := wrc _ _ _ (by omega)
  have e4 : (wr τ q (24 * b + k) (nI t)).1 4 = τ.1 4 := wrc _ _ _ (by omega)
  have e8 : (wr τ q (24 * b + k) (nI t)).1 8 = τ.1 8 := wrc _ _ _ (by omega)
  refine ⟨hb, hn, ?_, ?_, fun k' hk' => ?_⟩
  · rw [wrc _ _ _ (by decide)]; exact z1
  · rw [e3]; exact z2
  · obtain ⟨⟨c0, c1, c2, c3, c4⟩, hs⟩ := hst k' hk'
    unfold iStep
    rw [e4, e8, wrf]
    by_cases e : k' = k
    · subst e
      rcases hc with ⟨hkd, ⟨rfl, rfl⟩ | ⟨rfl, rfl⟩⟩ | ⟨hkd, rfl, rfl⟩
      · simp (disch := omega) only [wrs, wrk, wrc, wr2, wl1, wls, wlk, wlc, pk_us, pk_un]
        refine ⟨⟨c0, c1, trivial, c3, c4⟩, ?_⟩
        rw [hkd] at hs ⊢
        rcases hs with ⟨hx, _⟩ | ⟨_, h1, h2, h3⟩ | ⟨hx, _⟩ | ⟨hx, _⟩ | hx
        · rcases hx with hx | hx <;> exact absurd hx (by decide)
        · exact Or.inr (Or.inl ⟨rfl, h1, ⟨t, ht, rfl⟩, h3⟩)
        · exact absurd hx (by decide)
        · exact absurd hx (by decide)
        · exact absurd hx (by decide)
      · simp (disch := omega) only [wrs, wrk, wrc, wr2, wl1, wls, wlk, wlc, pk_us, pk_un]
        refine ⟨⟨c0, c1, c2, trivial, c4⟩, ?_⟩
        rw [hkd] at hs ⊢
        rcases hs with ⟨hx, _⟩ | ⟨_, h1, h2, h3⟩ | ⟨hx, _⟩ | ⟨hx, _⟩ | hx
        · rcases hx with hx | hx <;> exact absurd hx (by decide)
        · exact Or.inr (Or.inl ⟨rfl, h1, h2, ⟨t, ht, rfl⟩⟩)
        · exact absurd hx (by decide)
        · exact absurd hx (by decide)
        · exact absurd hx (by decide)
      · simp (disch := omega) only [wrs, wrk, wrc, wr2, wl1, wls, wlk, wlc, pk_us, pk_un]
        refine ⟨⟨c0, trivial, c2, c3, c4⟩, ?_⟩
        rw [hkd] at hs ⊢
        exact Or.inr (Or.inr (Or.inr (Or.inl ⟨rfl, t, ht, rfl⟩)))
    · rw [pk_un (by omega), pk_un (by omega), pk_un (by omega), pk_un (by omega), pk_un (by omega)]
      have o5 : (wr τ q (24 * b + k) (nI t)).1 5 (24 * b + k') = τ.1 5 (24 * b + k') := by
        by_cases hq : q = 5
        · subst hq; rw [wrk _ _ _ (by omega)]
        · rw [wrc _ _ _ (fun h => hq h.symm)]
      have o6 : (wr τ q (24 * b + k) (nI t)).1 6 (24 * b + k') = τ.1 6 (24 * b + k') := by
        by_cases hq : q = 6
        · subst hq; rw [wrk _ _ _ (by omega)]
        · rw [wrc _ _ _ (fun h => hq h.symm)]
      have o7 : (wr τ q (24 * b + k) (nI t)).1 7 (24 * b + k') = τ.1 7 (24 * b + k') := by
        by_cases hq : q = 7
        · subst hq; rw [wrk _ _ _ (by omega)]
        · rw [wrc _ _ _ (fun h => hq h.symm)]
      rw [o5, o6, o7]
      exact ⟨⟨c0, c1, c2, c3, c4⟩, hs⟩
