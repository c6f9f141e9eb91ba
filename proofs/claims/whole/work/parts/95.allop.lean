/-! ALL: the call -/
theorem mo_n {N : Nat} {x y z : Int32} {σ : nS} (h : (x < nI 0 ∨ ∃ j, 9 ≤ j ∧ j < 2 ^ 31 ∧ x = nI j) ∨ (∃ j, j < 9 ∧ x = nI j) ∧ ((y < nI 0 ∨ ∃ j, 9 ≤ j ∧ j < 2 ^ 31 ∧ y = nI j) ∨ (∃ j, j < 9 ∧ y = nI j) ∧ (z < nI 0 ∨ ∃ j, 9 ≤ j ∧ j < 2 ^ 31 ∧ z = nI j))) : f_X8_areMosts N x y z σ = some (nI 0, σ) := by
  rcases h with (h | ⟨j, h, h2, rfl⟩) | ⟨⟨a, ha, rfl⟩, (h | ⟨j, h, h2, rfl⟩) | ⟨⟨c, hc, rfl⟩, h | ⟨j, h, h2, rfl⟩⟩⟩
  · simp (disch := first | omega | exact nM1_n | exact nM2_n | assumption) only [b_X8_areMosts_0, l_X8_areMosts_0, f_X8_areMosts, ↓nLetR, ↓reduceIte, ↓e_m1, ↓e_m2, e_0, e_1, e_2, e_3, e_4, e_5, e_6, e_7, e_8, e_9, e_10, e_11, e_12, e_13, e_14, e_15, e_16, e_17, e_18, e_19, e_20, e_21, e_22, e_23, e_24, e_25, e_26, e_27, e_28, e_29, e_30, e_31, e_32, e_33, e_48, e_57, e_59, e_60, e_63, e_64, e_96, e_97, e_99, e_120, e_122, e_192, e_200, e_255, e_256, e_300, e_500, e_600, e_2000, e_5000, e_5240, e_6146, e_20000, e_65536, nIo, nI_clamp, nIxt, nI_1, nI_add, nI_mul, nI_eqF, nI_ltT, nI_ltF, nI_leT, nI_leF, nN_lt0, nN_le, nN_lt, nN_eq, nN_eq', eq_self, nBdS]
  · simp (disch := first | omega | exact nM1_n | exact nM2_n | assumption) only [b_X8_areMosts_0, l_X8_areMosts_0, f_X8_areMosts, ↓nLetR, ↓reduceIte, ↓e_m1, ↓e_m2, e_0, e_1, e_2, e_3, e_4, e_5, e_6, e_7, e_8, e_9, e_10, e_11, e_12, e_13, e_14, e_15, e_16, e_17, e_18, e_19, e_20, e_21, e_22, e_23, e_24, e_25, e_26, e_27, e_28, e_29, e_30, e_31, e_32, e_33, e_48, e_57, e_59, e_60, e_63, e_64, e_96, e_97, e_99, e_120, e_122, e_192, e_200, e_255, e_256, e_300, e_500, e_600, e_2000, e_5000, e_5240, e_6146, e_20000, e_65536, nIo, nI_clamp, nIxt, nI_1, nI_add, nI_mul, nI_eqF, nI_ltT, nI_ltF, nI_leT, nI_leF, nN_lt0, nN_le, nN_lt, nN_eq, nN_eq', eq_self, nBdS]
  · simp (disch := first | omega | exact nM1_n | exact nM2_n | assumption) only [b_X8_areMosts_0, l_X8_areMosts_0, f_X8_areMosts, ↓nLetR, ↓reduceIte, ↓e_m1, ↓e_m2, e_0, e_1, e_2, e_3, e_4, e_5, e_6, e_7, e_8, e_9, e_10, e_11, e_12, e_13, e_14, e_15, e_16, e_17, e_18, e_19, e_20, e_21, e_22, e_23, e_24, e_25, e_26, e_27, e_28, e_29, e_30, e_31, e_32, e_33, e_48, e_57, e_59, e_60, e_63, e_64, e_96, e_97, e_99, e_120, e_122, e_192, e_200, e_255, e_256, e_300, e_500, e_600, e_2000, e_5000, e_5240, e_6146, e_20000, e_65536, nIo, nI_clamp, nIxt, nI_1, nI_add, nI_mul, nI_eqF, nI_ltT, nI_ltF, nI_leT, nI_leF, nN_lt0, nN_le, nN_lt, nN_eq, nN_eq', eq_self, nBdS]
  · simp (disch := first | omega | exact nM1_n | exact nM2_n | assumption) only [b_X8_areMosts_0, l_X8_areMosts_0, f_X8_areMosts, ↓nLetR, ↓reduceIte, ↓e_m1, ↓e_m2, e_0, e_1, e_2, e_3, e_4, e_5, e_6, e_7, e_8, e_9, e_10, e_11, e_12, e_13, e_14, e_15, e_16, e_17, e_18, e_19, e_20, e_21, e_22, e_23, e_24, e_25, e_26, e_27, e_28, e_29, e_30, e_31, e_32, e_33, e_48, e_57, e_59, e_60, e_63, e_64, e_96, e_97, e_99, e_120, e_122, e_192, e_200, e_255, e_256, e_300, e_500, e_600, e_2000, e_5000, e_5240, e_6146, e_20000, e_65536, nIo, nI_clamp, nIxt, nI_1, nI_add, nI_mul, nI_eqF, nI_ltT, nI_ltF, nI_leT, nI_leF, nN_lt0, nN_le, nN_lt, nN_eq, nN_eq', eq_self, nBdS]
  · simp (disch := first | omega | exact nM1_n | exact nM2_n | assumption) only [b_X8_areMosts_0, l_X8_areMosts_0, f_X8_areMosts, ↓nLetR, ↓reduceIte, ↓e_m1, ↓e_m2, e_0, e_1, e_2, e_3, e_4, e_5, e_6, e_7, e_8, e_9, e_10, e_11, e_12, e_13, e_14, e_15, e_16, e_17, e_18, e_19, e_20, e_21, e_22, e_23, e_24, e_25, e_26, e_27, e_28, e_29, e_30, e_31, e_32, e_33, e_48, e_57, e_59, e_60, e_63, e_64, e_96, e_97, e_99, e_120, e_122, e_192, e_200, e_255, e_256, e_300, e_500, e_600, e_2000, e_5000, e_5240, e_6146, e_20000, e_65536, nIo, nI_clamp, nIxt, nI_1, nI_add, nI_mul, nI_eqF, nI_ltT, nI_ltF, nI_leT, nI_leF, nN_lt0, nN_le, nN_lt, nN_eq, nN_eq', eq_self, nBdS]
  · simp (disch := first | omega | exact nM1_n | exact nM2_n | assumption) only [b_X8_areMosts_0, l_X8_areMosts_0, f_X8_areMosts, ↓nLetR, ↓reduceIte, ↓e_m1, ↓e_m2, e_0, e_1, e_2, e_3, e_4, e_5, e_6, e_7, e_8, e_9, e_10, e_11, e_12, e_13, e_14, e_15, e_16, e_17, e_18, e_19, e_20, e_21, e_22, e_23, e_24, e_25, e_26, e_27, e_28, e_29, e_30, e_31, e_32, e_33, e_48, e_57, e_59, e_60, e_63, e_64, e_96, e_97, e_99, e_120, e_122, e_192, e_200, e_255, e_256, e_300, e_500, e_600, e_2000, e_5000, e_5240, e_6146, e_20000, e_65536, nIo, nI_clamp, nIxt, nI_1, nI_add, nI_mul, nI_eqF, nI_ltT, nI_ltF, nI_leT, nI_leF, nN_lt0, nN_le, nN_lt, nN_eq, nN_eq', eq_self, nBdS]
theorem mo_y {N a b c : Nat} {σ : nS} (ha : a < 9) (hb : b < 9) (hc : c < 9) : f_X8_areMosts N (nI a) (nI b) (nI c) σ = some (nI 1, σ) := by
  simp (disch := first | omega | exact nM1_n | exact nM2_n | assumption) only [b_X8_areMosts_0, l_X8_areMosts_0, f_X8_areMosts, ↓nLetR, ↓reduceIte, ↓e_m1, ↓e_m2, e_0, e_1, e_2, e_3, e_4, e_5, e_6, e_7, e_8, e_9, e_10, e_11, e_12, e_13, e_14, e_15, e_16, e_17, e_18, e_19, e_20, e_21, e_22, e_23, e_24, e_25, e_26, e_27, e_28, e_29, e_30, e_31, e_32, e_33, e_48, e_57, e_59, e_60, e_63, e_64, e_96, e_97, e_99, e_120, e_122, e_192, e_200, e_255, e_256, e_300, e_500, e_600, e_2000, e_5000, e_5240, e_6146, e_20000, e_65536, nIo, nI_clamp, nIxt, nI_1, nI_add, nI_mul, nI_eqF, nI_ltT, nI_ltF, nI_leT, nI_leF, nN_lt0, nN_le, nN_lt, nN_eq, nN_eq', eq_self, nBdS]
theorem in8_n {N : Nat} {x : Int32} {σ : nS} (h : x < nI 0 ∨ ∃ j, 9 ≤ j ∧ j < 2 ^ 31 ∧ x = nI j) : f_X11_in N x (nI 0) (nI 8) σ = some (nI 0, σ) := by
  rcases h with h | ⟨j, h, h2, rfl⟩
  · simp (disch := first | omega | exact nM1_n | exact nM2_n | assumption) only [b_X11_in_0, l_X11_in_0, f_X11_in, ↓nLetR, ↓reduceIte, ↓e_m1, ↓e_m2, e_0, e_1, e_2, e_3, e_4, e_5, e_6, e_7, e_8, e_9, e_10, e_11, e_12, e_13, e_14, e_15, e_16, e_17, e_18, e_19, e_20, e_21, e_22, e_23, e_24, e_25, e_26, e_27, e_28, e_29, e_30, e_31, e_32, e_33, e_48, e_57, e_59, e_60, e_63, e_64, e_96, e_97, e_99, e_120, e_122, e_192, e_200, e_255, e_256, e_300, e_500, e_600, e_2000, e_5000, e_5240, e_6146, e_20000, e_65536, nIo, nI_clamp, nIxt, nI_1, nI_add, nI_mul, nI_eqF, nI_ltT, nI_ltF, nI_leT, nI_leF, nN_lt0, nN_le, nN_lt, nN_eq, nN_eq', eq_self, nBdS]
  · simp (disch := first | omega | exact nM1_n | exact nM2_n | assumption) only [b_X11_in_0, l_X11_in_0, f_X11_in, ↓nLetR, ↓reduceIte, ↓e_m1, ↓e_m2, e_0, e_1, e_2, e_3, e_4, e_5, e_6, e_7, e_8, e_9, e_10, e_11, e_12, e_13, e_14, e_15, e_16, e_17, e_18, e_19, e_20, e_21, e_22, e_23, e_24, e_25, e_26, e_27, e_28, e_29, e_30, e_31, e_32, e_33, e_48, e_57, e_59, e_60, e_63, e_64, e_96, e_97, e_99, e_120, e_122, e_192, e_200, e_255, e_256, e_300, e_500, e_600, e_2000, e_5000, e_5240, e_6146, e_20000, e_65536, nIo, nI_clamp, nIxt, nI_1, nI_add, nI_mul, nI_eqF, nI_ltT, nI_ltF, nI_leT, nI_leF, nN_lt0, nN_le, nN_lt, nN_eq, nN_eq', eq_self, nBdS]
theorem in8_y {N j : Nat} {σ : nS} (h : j < 9) : f_X11_in N (nI j) (nI 0) (nI 8) σ = some (nI 1, σ) := by
  simp (disch := first | omega | exact nM1_n | exact nM2_n | assumption) only [b_X11_in_0, l_X11_in_0, f_X11_in, ↓nLetR, ↓reduceIte, ↓e_m1, ↓e_m2, e_0, e_1, e_2, e_3, e_4, e_5, e_6, e_7, e_8, e_9, e_10, e_11, e_12, e_13, e_14, e_15, e_16, e_17, e_18, e_19, e_20, e_21, e_22, e_23, e_24, e_25, e_26, e_27, e_28, e_29, e_30, e_31, e_32, e_33, e_48, e_57, e_59, e_60, e_63, e_64, e_96, e_97, e_99, e_120, e_122, e_192, e_200, e_255, e_256, e_300, e_500, e_600, e_2000, e_5000, e_5240, e_6146, e_20000, e_65536, nIo, nI_clamp, nIxt, nI_1, nI_add, nI_mul, nI_eqF, nI_ltT, nI_ltF, nI_leT, nI_leF, nN_lt0, nN_le, nN_lt, nN_eq, nN_eq', eq_self, nBdS]
theorem a113_go (N : Nat) (b : Int32) : ∀ d i m τ, i + d = 7 → d < m → ∃ τ', nLp (fun _ _ _ => none) (fun again => b_X11_all_113 N again (l_X11_all_137 N)) m τ b (nI i) = l_X11_all_137 N τ' b (nI 0) ∧ (∀ j, i ≤ j → j < 7 → τ'.1 19 j = nI 0) ∧ (∀ j, j < i → τ'.1 19 j = τ.1 19 j) ∧ ∀ d, d ≠ 19 → τ'.1 d = τ.1 d := by
  intro d
  induction d with
  | zero =>
    intro i m τ hi hm
    refine ⟨τ, ?_, fun j h1 h2 => absurd h2 (by omega), fun j h => rfl, fun d h => rfl⟩
    rw [nLpP _ _ hm]
    simp (disch := first | omega | exact nM1_n | exact nM2_n | assumption) only [b_X11_all_113, ↓nLetR, ↓reduceIte, ↓e_m1, ↓e_m2, e_0, e_1, e_2, e_3, e_4, e_5, e_6, e_7, e_8, e_9, e_10, e_11, e_12, e_13, e_14, e_15, e_16, e_17, e_18, e_19, e_20, e_21, e_22, e_23, e_24, e_25, e_26, e_27, e_28, e_29, e_30, e_31, e_32, e_33, e_48, e_57, e_59, e_60, e_63, e_64, e_96, e_97, e_99, e_120, e_122, e_192, e_200, e_255, e_256, e_300, e_500, e_600, e_2000, e_5000, e_5240, e_6146, e_20000, e_65536, nIo, nI_clamp, nIxt, nI_1, nI_add, nI_mul, nI_eqF, nI_ltT, nI_ltF, nI_leT, nI_leF, nN_lt0, nN_le, nN_lt, nN_eq, nN_eq', eq_self, nBdS]
  | succ d ih =>
    intro i m τ hi hm
    obtain ⟨τ', e1, e2, e3, e4⟩ := ih (i + 1) (m - 1) (wr τ 19 i (nI 0)) (by omega) (by omega)
    refine ⟨τ', ?_, fun j h1 h2 => ?_, fun j h => ?_, fun d h => ?_⟩
    · rw [nLpP _ _ (by omega)]
      simp (disch := first | omega | exact nM1_n | exact nM2_n | assumption) only [b_X11_all_113, ↓nLetR, ↓reduceIte, ↓e_m1, ↓e_m2, e_0, e_1, e_2, e_3, e_4, e_5, e_6, e_7, e_8, e_9, e_10, e_11, e_12, e_13, e_14, e_15, e_16, e_17, e_18, e_19, e_20, e_21, e_22, e_23, e_24, e_25, e_26, e_27, e_28, e_29, e_30, e_31, e_32, e_33, e_48, e_57, e_59, e_60, e_63, e_64, e_96, e_97, e_99, e_120, e_122, e_192, e_200, e_255, e_256, e_300, e_500, e_600, e_2000, e_5000, e_5240, e_6146, e_20000, e_65536, nIo, nI_clamp, nIxt, nI_1, nI_add, nI_mul, nI_eqF, nI_ltT, nI_ltF, nI_leT, nI_leF, nN_lt0, nN_le, nN_lt, nN_eq, nN_eq', eq_self, nBdS]
      exact e1
    · by_cases hj : j = i
      · subst hj
        rw [e3 j (by omega), wrs]
      · exact e2 j (by omega) h2
    · rw [e3 j (by omega), wrk _ _ _ (by omega)]
    · rw [e4 d h, wrc _ _ _ h]
theorem a137_go (N : Nat) (b v : Int32) : ∀ d i m τ, i + d = 8 → d < m → τ.1 0 46 = v → ∃ τ', nLp (fun _ _ _ => none) (fun again => b_X11_all_137 N again (l_X11_all_171 N)) m τ b (nI i) = l_X11_all_171 N τ' b (nI 0) ∧ τ'.1 20 0 = v ∧ (∀ j, 0 < j → i ≤ j → j < 8 → τ'.1 20 j = nM1) ∧ (∀ j, 0 < j → j < i → τ'.1 20 j = τ.1 20 j) ∧ ∀ d, d ≠ 20 → τ'.1 d = τ.1 d := by
  intro d
  induction d with
  | zero =>
    intro i m τ hi hm h46
    refine ⟨wr τ 20 0 v, ?_, wrs _ _ _ _, fun j h0 h1 h2 => absurd h2 (by omega), fun j h0 h => wrk _ _ _ (by omega), fun d h => wrc _ _ _ h⟩
    rw [nLpP _ _ hm]
    simp (disch := first | omega | exact nM1_n | exact nM2_n | assumption) only [b_X11_all_137, h46, ↓nLetR, ↓reduceIte, ↓e_m1, ↓e_m2, e_0, e_1, e_2, e_3, e_4, e_5, e_6, e_7, e_8, e_9, e_10, e_11, e_12, e_13, e_14, e_15, e_16, e_17, e_18, e_19, e_20, e_21, e_22, e_23, e_24, e_25, e_26, e_27, e_28, e_29, e_30, e_31, e_32, e_33, e_48, e_57, e_59, e_60, e_63, e_64, e_96, e_97, e_99, e_120, e_122, e_192, e_200, e_255, e_256, e_300, e_500, e_600, e_2000, e_5000, e_5240, e_6146, e_20000, e_65536, nIo, nI_clamp, nIxt, nI_1, nI_add, nI_mul, nI_eqF, nI_ltT, nI_ltF, nI_leT, nI_leF, nN_lt0, nN_le, nN_lt, nN_eq, nN_eq', eq_self, nBdS]
  | succ d ih =>
    intro i m τ hi hm h46
    obtain ⟨τ', e1, e2, e3, e4, e5⟩ := ih (i + 1) (m - 1) (wr τ 20 i nM1) (by omega) (by omega) (by rw [wrc _ _ _ (by decide)]; exact h46)
    refine ⟨τ', ?_, e2, fun j h0 h1 h2 => ?_, fun j h0 h => ?_, fun d h => ?_⟩
    · rw [nLpP _ _ (by omega)]
      simp (disch := first | omega | exact nM1_n | exact nM2_n | assumption) only [b_X11_all_137, ↓nLetR, ↓reduceIte, ↓e_m1, ↓e_m2, e_0, e_1, e_2, e_3, e_4, e_5, e_6, e_7, e_8, e_9, e_10, e_11, e_12, e_13, e_14, e_15, e_16, e_17, e_18, e_19, e_20, e_21, e_22, e_23, e_24, e_25, e_26, e_27, e_28, e_29, e_30, e_31, e_32, e_33, e_48, e_57, e_59, e_60, e_63, e_64, e_96, e_97, e_99, e_120, e_122, e_192, e_200, e_255, e_256, e_300, e_500, e_600, e_2000, e_5000, e_5240, e_6146, e_20000, e_65536, nIo, nI_clamp, nIxt, nI_1, nI_add, nI_mul, nI_eqF, nI_ltT, nI_ltF, nI_leT, nI_leF, nN_lt0, nN_le, nN_lt, nN_eq, nN_eq', eq_self, nBdS]
      exact e1
    · by_cases hj : j = i
      · subst hj
        rw [e4 j h0 (by omega), wrs]
      · exact e3 j h0 (by omega) h2
    · rw [e4 j h0 (by omega), wrk _ _ _ (by omega)]
    · rw [e5 d h, wrc _ _ _ h]
theorem tstart_is {N : Nat} (hN : 10 ≤ N) (b v : Int32) (σ : nS) : ∃ σ', f_X5_start N b v σ = some (nI 0, σ') ∧ (σ'.1 16 2 = nI 1 ∧ σ'.1 16 3 = b ∧ σ'.1 16 4 = v ∧ σ'.1 16 5 = nI 0 ∧ σ'.1 16 6 = nM1 ∧ σ'.1 16 7 = nM1 ∧ σ'.1 16 8 = nM1 ∧ σ'.1 16 9 = nI 0 ∧ σ'.1 16 10 = nM1) ∧ (∀ j, j < 7 → σ'.1 18 j = nI 0) ∧ ∀ d, d ≠ 16 → d ≠ 18 → σ'.1 d = σ.1 d := by
  obtain ⟨σ1, e1, e2, e3, e4⟩ := fillI_is (N := N) (q := 18) (qn := 7) (by omega) (by decide) (nI 0) σ
  refine ⟨wr (wr (wr (wr (wr (wr (wr (wr (wr σ1 16 2 (nI 1)) 16 3 b) 16 4 v) 16 5 (nI 0)) 16 6 nM1) 16 7 nM1) 16 8 nM1) 16 9 (nI 0)) 16 10 nM1, ?_, ⟨?_, ?_, ?_, ?_, ?_, ?_, ?_, ?_, ?_⟩, fun j hj => ?_, fun d h1 h2 => ?_⟩
  · simp (disch := first | omega | exact nM1_n | exact nM2_n | assumption) only [b_X5_start_0, l_X5_start_0, f_X5_start, e1, ↓nLetR, ↓reduceIte, ↓e_m1, ↓e_m2, e_0, e_1, e_2, e_3, e_4, e_5, e_6, e_7, e_8, e_9, e_10, e_11, e_12, e_13, e_14, e_15, e_16, e_17, e_18, e_19, e_20, e_21, e_22, e_23, e_24, e_25, e_26, e_27, e_28, e_29, e_30, e_31, e_32, e_33, e_48, e_57, e_59, e_60, e_63, e_64, e_96, e_97, e_99, e_120, e_122, e_192, e_200, e_255, e_256, e_300, e_500, e_600, e_2000, e_5000, e_5240, e_6146, e_20000, e_65536, nIo, nI_clamp, nIxt, nI_1, nI_add, nI_mul, nI_eqF, nI_ltT, nI_ltF, nI_leT, nI_leF, nN_lt0, nN_le, nN_lt, nN_eq, nN_eq', eq_self, nBdS]
  · simp (disch := decide) only [wrs, wrk, wrc, wr2, wl1, wls, wlk, wlc]
  · simp (disch := decide) only [wrs, wrk, wrc, wr2, wl1, wls, wlk, wlc]
  · simp (disch := decide) only [wrs, wrk, wrc, wr2, wl1, wls, wlk, wlc]
  · simp (disch := decide) only [wrs, wrk, wrc, wr2, wl1, wls, wlk, wlc]
  · simp (disch := decide) only [wrs, wrk, wrc, wr2, wl1, wls, wlk, wlc]
  · simp (disch := decide) only [wrs, wrk, wrc, wr2, wl1, wls, wlk, wlc]
  · simp (disch := decide) only [wrs, wrk, wrc, wr2, wl1, wls, wlk, wlc]
  · simp (disch := decide) only [wrs, wrk, wrc, wr2, wl1, wls, wlk, wlc]
  · simp (disch := decide) only [wrs, wrk, wrc, wr2, wl1, wls, wlk, wlc]
  · simp (disch := decide) only [wrs, wrk, wrc, wr2, wl1, wls, wlk, wlc]; exact e3 j hj
  · simp (disch := omega) only [wrs, wrk, wrc, wr2, wl1, wls, wlk, wlc]; exact e4 d h2
theorem aT.all {W : List Nat} {b B : Nat} {σ τ : nS} (h : aT W b W.length σ τ) (hb : b < B) (hW : W.length ≤ 500) (hx : ∀ x, x ∈ W → x < 2 ^ 20) : iAll B (σ.1 16) (σ.1 17) (σ.1 18) (τ.1 0 47) (τ.1 0 48) (τ.1 0 49) (τ.1 0 50) (τ.1 18) (τ.1 19) (τ.1 20) := by
  obtain ⟨⟨a1, a2, a3, a4, a5, a6⟩, ⟨b1, b2, b3⟩, c1, d1, ⟨y, hy, e1, e2, e3, e4⟩, g0, g1, g2, g6, g7⟩ := h
  refine Or.inr ⟨a1, a4, ⟨b, hb, a2, a5⟩, ⟨W.length, hW, a3, a6, ⟨y, hy, e1⟩, fun i hi => ⟨c1 i hi, W[i], hx _ (List.getElem_mem hi), b2.at hi⟩⟩, e2.trans e1.symm, d1, g0.trans a3.symm, g1, g2, g6, g7, fun h => ?_, fun h => ?_⟩
  · rw [e1] at h
    exact e3 ((nI_eq (by omega) (by decide)).mp h)
  · rw [e1] at h
    exact e4 (fun h2 => h (by rw [h2]; rfl))
theorem pOp13 (N : Nat) (hN : 10000 ≤ N) : nOp13 N nInv := by
  intro n σ τ x1 x2 x3 x4 x5 hn hI
  obtain ⟨F, S, P, B, sz, T, h1, h2, h3, h4, h5, h6, h7, h8, h9, h10⟩ := hI
  obtain ⟨⟨b1, b2, b3, b4⟩, ⟨w0, w1, w2, w3⟩, ⟨m0, m1, m2, m3⟩, hg, hs, hk⟩ := id h1
  have m3' : (wr τ 0 0 (nI 0)).1 0 7 = nI B := by simp (disch := decide) only [wrs, wrk, wrc, wr2, wl1, wls, wlk, wlc]; exact m3
  rcases book_cs x1 B with hb | ⟨b, hb, rfl⟩
  · simp (disch := first | omega | exact nM1_n | exact nM2_n | assumption) only [f_X8_all, l_X8_all_0, b_X8_all_0, b_X8_refuse_0, l_X8_refuse_0, f_X8_refuse, b_X11_refused_0, l_X11_refused_0, f_X11_refused, f_X11_all, l_X11_all_0, b_X11_all_0, hasB_n b4 w3 hb, ↓nLetR, ↓reduceIte, ↓e_m1, ↓e_m2, e_0, e_1, e_2, e_3, e_4, e_5, e_6, e_7, e_8, e_9, e_10, e_11, e_12, e_13, e_14, e_15, e_16, e_17, e_18, e_19, e_20, e_21, e_22, e_23, e_24, e_25, e_26, e_27, e_28, e_29, e_30, e_31, e_32, e_33, e_48, e_57, e_59, e_60, e_63, e_64, e_96, e_97, e_99, e_120, e_122, e_192, e_200, e_255, e_256, e_300, e_500, e_600, e_2000, e_5000, e_5240, e_6146, e_20000, e_65536, nIo, nI_clamp, nIxt, nI_1, nI_add, nI_mul, nI_eqF, nI_ltT, nI_ltF, nI_leT, nI_leF, nN_lt0, nN_le, nN_lt, nN_eq, nN_eq', eq_self, nBdS, isB_n b4 m3' hb, wrs, wrk, wrc, wr2, wl1, wls, wlk, wlc]
    refine pK rfl ⟨F, S, P, B, sz, T, ?_⟩
    simp (disch := decide) only [iI, wrs, wrk, wrc, wr2, wl1, wls, wlk, wlc]
    exact ⟨h1, h2, h3, h4.no 1 (by decide), h5, h6, h7, h8, h9, h10.up⟩
  rcases bits_cs x2 with hx2 | ⟨x, hx, rfl⟩
  · simp (disch := first | omega | exact nM1_n | exact nM2_n | assumption) only [f_X8_all, l_X8_all_0, b_X8_all_0, b_X8_refuse_0, l_X8_refuse_0, f_X8_refuse, b_X11_refused_0, l_X11_refused_0, f_X11_refused, f_X11_all, l_X11_all_0, b_X11_all_0, hasB_y b4 w3 hb, ↓nLetR, ↓reduceIte, ↓e_m1, ↓e_m2, e_0, e_1, e_2, e_3, e_4, e_5, e_6, e_7, e_8, e_9, e_10, e_11, e_12, e_13, e_14, e_15, e_16, e_17, e_18, e_19, e_20, e_21, e_22, e_23, e_24, e_25, e_26, e_27, e_28, e_29, e_30, e_31, e_32, e_33, e_48, e_57, e_59, e_60, e_63, e_64, e_96, e_97, e_99, e_120, e_122, e_192, e_200, e_255, e_256, e_300, e_500, e_600, e_2000, e_5000, e_5240, e_6146, e_20000, e_65536, nIo, nI_clamp, nIxt, nI_1, nI_add, nI_mul, nI_eqF, nI_ltT, nI_ltF, nI_leT, nI_leF, nN_lt0, nN_le, nN_lt, nN_eq, nN_eq', eq_self, nBdS, isB_y b4 m3' hb, areB_n hx2, in_n hx2, wrs, wrk, wrc, wr2, wl1, wls, wlk, wlc]
    refine pK rfl ⟨F, S, P, B, sz, T, ?_⟩
    simp (disch := decide) only [iI, wrs, wrk, wrc, wr2, wl1, wls, wlk, wlc]
    exact ⟨h1, h2, h3, h4.no 2 (by decide), h5, h6, h7, h8, h9, h10.up⟩
  rcases book_cs x3 9 with hx3 | ⟨wm, hwm, rfl⟩
  · simp (disch := first | omega | exact nM1_n | exact nM2_n | assumption) only [f_X8_all, l_X8_all_0, b_X8_all_0, b_X8_refuse_0, l_X8_refuse_0, f_X8_refuse, b_X11_refused_0, l_X11_refused_0, f_X11_refused, f_X11_all, l_X11_all_0, b_X11_all_0, hasB_y b4 w3 hb, ↓nLetR, ↓reduceIte, ↓e_m1, ↓e_m2, e_0, e_1, e_2, e_3, e_4, e_5, e_6, e_7, e_8, e_9, e_10, e_11, e_12, e_13, e_14, e_15, e_16, e_17, e_18, e_19, e_20, e_21, e_22, e_23, e_24, e_25, e_26, e_27, e_28, e_29, e_30, e_31, e_32, e_33, e_48, e_57, e_59, e_60, e_63, e_64, e_96, e_97, e_99, e_120, e_122, e_192, e_200, e_255, e_256, e_300, e_500, e_600, e_2000, e_5000, e_5240, e_6146, e_20000, e_65536, nIo, nI_clamp, nIxt, nI_1, nI_add, nI_mul, nI_eqF, nI_ltT, nI_ltF, nI_leT, nI_leF, nN_lt0, nN_le, nN_lt, nN_eq, nN_eq', eq_self, nBdS, isB_y b4 m3' hb, areB_y hx, in_y hx, mo_n (Or.inl hx3), in8_n hx3, wrs, wrk, wrc, wr2, wl1, wls, wlk, wlc]
    refine pK rfl ⟨F, S, P, B, sz, T, ?_⟩
    simp (disch := decide) only [iI, wrs, wrk, wrc, wr2, wl1, wls, wlk, wlc]
    exact ⟨h1, h2, h3, h4.no 2 (by decide), h5, h6, h7, h8, h9, h10.up⟩
  rcases book_cs x4 9 with hx4 | ⟨lm, hlm, rfl⟩
  · simp (disch := first | omega | exact nM1_n | exact nM2_n | assumption) only [f_X8_all, l_X8_all_0, b_X8_all_0, b_X8_refuse_0, l_X8_refuse_0, f_X8_refuse, b_X11_refused_0, l_X11_refused_0, f_X11_refused, f_X11_all, l_X11_all_0, b_X11_all_0, hasB_y b4 w3 hb, ↓nLetR, ↓reduceIte, ↓e_m1, ↓e_m2, e_0, e_1, e_2, e_3, e_4, e_5, e_6, e_7, e_8, e_9, e_10, e_11, e_12, e_13, e_14, e_15, e_16, e_17, e_18, e_19, e_20, e_21, e_22, e_23, e_24, e_25, e_26, e_27, e_28, e_29, e_30, e_31, e_32, e_33, e_48, e_57, e_59, e_60, e_63, e_64, e_96, e_97, e_99, e_120, e_122, e_192, e_200, e_255, e_256, e_300, e_500, e_600, e_2000, e_5000, e_5240, e_6146, e_20000, e_65536, nIo, nI_clamp, nIxt, nI_1, nI_add, nI_mul, nI_eqF, nI_ltT, nI_ltF, nI_leT, nI_leF, nN_lt0, nN_le, nN_lt, nN_eq, nN_eq', eq_self, nBdS, isB_y b4 m3' hb, areB_y hx, in_y hx, mo_n (Or.inr ⟨⟨wm, hwm, rfl⟩, Or.inl hx4⟩), in8_y hwm, in8_n hx4, wrs, wrk, wrc, wr2, wl1, wls, wlk, wlc]
    refine pK rfl ⟨F, S, P, B, sz, T, ?_⟩
    simp (disch := decide) only [iI, wrs, wrk, wrc, wr2, wl1, wls, wlk, wlc]
    exact ⟨h1, h2, h3, h4.no 2 (by decide), h5, h6, h7, h8, h9, h10.up⟩
  rcases book_cs x5 9 with hx5 | ⟨am, ham, rfl⟩
  · simp (disch := first | omega | exact nM1_n | exact nM2_n | assumption) only [f_X8_all, l_X8_all_0, b_X8_all_0, b_X8_refuse_0, l_X8_refuse_0, f_X8_refuse, b_X11_refused_0, l_X11_refused_0, f_X11_refused, f_X11_all, l_X11_all_0, b_X11_all_0, hasB_y b4 w3 hb, ↓nLetR, ↓reduceIte, ↓e_m1, ↓e_m2, e_0, e_1, e_2, e_3, e_4, e_5, e_6, e_7, e_8, e_9, e_10, e_11, e_12, e_13, e_14, e_15, e_16, e_17, e_18, e_19, e_20, e_21, e_22, e_23, e_24, e_25, e_26, e_27, e_28, e_29, e_30, e_31, e_32, e_33, e_48, e_57, e_59, e_60, e_63, e_64, e_96, e_97, e_99, e_120, e_122, e_192, e_200, e_255, e_256, e_300, e_500, e_600, e_2000, e_5000, e_5240, e_6146, e_20000, e_65536, nIo, nI_clamp, nIxt, nI_1, nI_add, nI_mul, nI_eqF, nI_ltT, nI_ltF, nI_leT, nI_leF, nN_lt0, nN_le, nN_lt, nN_eq, nN_eq', eq_self, nBdS, isB_y b4 m3' hb, areB_y hx, in_y hx, mo_n (Or.inr ⟨⟨wm, hwm, rfl⟩, Or.inr ⟨⟨lm, hlm, rfl⟩, hx5⟩⟩), in8_y hwm, in8_y hlm, in8_n hx5, wrs, wrk, wrc, wr2, wl1, wls, wlk, wlc]
    refine pK rfl ⟨F, S, P, B, sz, T, ?_⟩
    simp (disch := decide) only [iI, wrs, wrk, wrc, wr2, wl1, wls, wlk, wlc]
    exact ⟨h1, h2, h3, h4.no 2 (by decide), h5, h6, h7, h8, h9, h10.up⟩
  obtain ⟨σ1, p1, p2, p3⟩ := prep_is (N := N) (F := F) (S := S) (P := P) (x := x) (wm := wm) (lm := lm) (am := am) (σ := σ) (by omega) b1 b2 b3 w0 w1 w2 hx hwm hlm ham
  have hlen : (flR (okS (x % 2 ^ F) wm) 0 256).length * (flR (okS (2 ^ S - 1) lm) 0 256).length * (flR (okS (2 ^ P - 1) am) 0 16).length = (allL F S P x wm lm am).length := by
    unfold allL
    rw [lP_len]
    rfl
  rw [hlen] at p1
  have hbig : (allL F S P x wm lm am).length ≤ 256 * 256 * 16 := by
    unfold allL
    rw [lP_len]
    obtain ⟨⟨q1, q2, q3⟩, _⟩ := wB_is F S P x wm lm am
    exact Nat.mul_le_mul (Nat.mul_le_mul q1 q2) q3
  obtain ⟨τ1, c1, c2⟩ := choose_is (N := N) (F := F) (S := S) (P := P) (x := x) (wm := wm) (lm := lm) (am := am) (τ := wr τ 0 0 (nI 0)) (by omega) b1 b2 b3 (by simp (disch := decide) only [wrs, wrk, wrc, wr2, wl1, wls, wlk, wlc]; exact m0) (by simp (disch := decide) only [wrs, wrk, wrc, wr2, wl1, wls, wlk, wlc]; exact m1) (by simp (disch := decide) only [wrs, wrk, wrc, wr2, wl1, wls, wlk, wlc]; exact m2) hx hwm hlm ham
  have U1 : ∀ d, d ≠ 0 → d ≠ 16 → d ≠ 17 → τ1.1 d = τ.1 d := fun d z1 z2 z3 => by rw [c1.1 d z1 z2 z3, wrc _ _ _ z1]
  have U0 : ∀ f, f ≠ 0 → f ≠ 46 → τ1.1 0 f = τ.1 0 f := fun f z1 z2 => by rw [c1.2 f z2, wrk _ _ _ z1]
  rcases c2 with ⟨g1, g2, g3, g4⟩ | ⟨g1, g2⟩
  · have hrl := row_len F S P x wm lm am
    obtain ⟨σ2, s1, s2, s3⟩ := wt_is (N := N) (q := 17) (qn := 500) (fs := fsL F x wm) (ss := ssL S lm) (ps := psL P am) (σ := σ1) (by omega) (by decide) (by decide) (wB_is F S P x wm lm am) p2 g1
    obtain ⟨σ3, t1, ⟨t2, t3, t4, t5, t6, t7, t8, t9, t10⟩, t11, t12⟩ := tstart_is (N := N) (by omega) (nI b) (nI (allL F S P x wm lm am).length) σ2
    obtain ⟨τ2, u1, u2, u3, u4⟩ := a113_go N (nI b) 7 0 N (wr (wr (wr (wr τ1 0 47 (nI 1)) 0 48 (nI b)) 0 49 (nI (rowL F S P x wm lm am).length)) 0 50 (nI 0)) (by omega) (by omega)
    have v46 : τ2.1 0 46 = nI (rowL F S P x wm lm am).length := by rw [u4 0 (by decide)]; simp (disch := decide) only [wrs, wrk, wrc, wr2, wl1, wls, wlk, wlc]; exact g3
    obtain ⟨τ3, v1, v2, v3, v4, v5⟩ := a137_go N (nI b) (nI (rowL F S P x wm lm am).length) 8 0 N τ2 (by omega) (by omega) v46
    have V1 : ∀ d, d ≠ 0 → d ≠ 16 → d ≠ 17 → d ≠ 19 → d ≠ 20 → τ3.1 d = τ.1 d := fun d z1 z2 z3 z4 z5 => by rw [v5 d z5, u4 d z4]; simp (disch := omega) only [wrs, wrk, wrc, wr2, wl1, wls, wlk, wlc]; exact U1 d z1 z2 z3
    have V0 : ∀ f, f ≠ 0 → (f < 46 ∨ 50 < f) → τ3.1 0 f = τ.1 0 f := fun f z1 z2 => by rw [v5 0 (by decide), u4 0 (by decide)]; simp (disch := omega) only [wrs, wrk, wrc, wr2, wl1, wls, wlk, wlc]; exact U0 f z1 (by omega)
    have S1 : ∀ d, (d < 12 ∨ 18 < d) → σ3.1 d = σ.1 d := fun d z => by rw [t12 d (by omega) (by omega), s3 d (by omega), p3 d (by omega) (by omega) (by omega) (by omega)]
    have hH : hHs F S P B σ3 τ3 := by
      unfold hHs
      rw [S1 1 (by decide), S1 2 (by decide), S1 3 (by decide), V1 1 (by decide) (by decide) (by decide) (by decide) (by decide), V1 2 (by decide) (by decide) (by decide) (by decide) (by decide), V0 4 (by decide) (by decide), V0 5 (by decide) (by decide), V0 6 (by decide) (by decide), V0 7 (by decide) (by decide), V0 8 (by decide) (by decide)]
      exact h1
    have hB' : hBk F S b (sz b) σ3 τ3 := by
      obtain ⟨q1, q2, q3, q4⟩ := h2 b hb
      unfold hBk
      rw [S1 4 (by decide), S1 5 (by decide), V1 3 (by decide) (by decide) (by decide) (by decide) (by decide), V1 4 (by decide) (by decide) (by decide) (by decide) (by decide), V1 5 (by decide) (by decide) (by decide) (by decide) (by decide), V1 6 (by decide) (by decide) (by decide) (by decide) (by decide), V1 7 (by decide) (by decide) (by decide) (by decide) (by decide), V1 8 (by decide) (by decide) (by decide) (by decide) (by decide)]
      exact ⟨by omega, q1, q2, q3, q4⟩
    obtain ⟨M, hM, k1, k2, k3⟩ := id h10
    have hk' : hMk M τ3 := by
      unfold hMk
      rw [V0 31 (by decide) (by decide), V1 12 (by decide) (by decide) (by decide) (by decide) (by decide)]
      exact ⟨k1, k2⟩
    have hT : aT (rowL F S P x wm lm am) b 0 σ3 τ3 := by
      unfold aT
      refine ⟨⟨t2, t3, by rw [t4, hrl], ?_, ?_, ?_⟩, ⟨by rw [v5 0 (by decide)]; exact v46, ?_, ?_⟩, fun j hj => absurd hj (Nat.not_lt_zero j), fun e he => ?_, ⟨0, Nat.le_refl 0, t5, ?_, fun _ => ⟨v3 3 (by decide) (by decide) (by decide), v3 4 (by decide) (by decide) (by decide), v3 5 (by decide) (by decide) (by decide)⟩, fun h => absurd rfl h⟩, v2, ?_, ?_, ?_, ?_⟩
      · rw [v5 0 (by decide), u4 0 (by decide)]; simp (disch := decide) only [wrs, wrk, wrc, wr2, wl1, wls, wlk, wlc]
      · rw [v5 0 (by decide), u4 0 (by decide)]; simp (disch := decide) only [wrs, wrk, wrc, wr2, wl1, wls, wlk, wlc]
      · rw [v5 0 (by decide), u4 0 (by decide)]; simp (disch := decide) only [wrs, wrk, wrc, wr2, wl1, wls, wlk, wlc]
      · rw [t12 17 (by decide) (by decide)]; exact s2
      · rw [v5 16 (by decide), u4 16 (by decide)]; simp (disch := decide) only [wrs, wrk, wrc, wr2, wl1, wls, wlk, wlc]; exact g4
      · rw [v5 19 (by decide), u2 e (Nat.zero_le e) he, t11 e he]
      · rw [v5 0 (by decide), u4 0 (by decide)]; simp (disch := decide) only [wrs, wrk, wrc, wr2, wl1, wls, wlk, wlc]
      · rw [v3 1 (by decide) (by decide) (by decide), t6]
      · rw [v3 2 (by decide) (by decide) (by decide), t7]
      · rw [v3 6 (by decide) (by decide) (by decide), t10]
      · rw [v3 7 (by decide) (by decide) (by decide), t8]
    obtain ⟨σ4, τ4, r1, r2, r3, r4, r5⟩ := all_go (N := N) (by omega) hH hB' (by omega) (fun y h => row_mem h) (rowL F S P x wm lm am).length 0 N N M σ3 τ3 (by omega) (by omega) (by omega) (by omega) hT ⟨fun _ _ _ _ _ _ => rfl, fun _ _ _ _ _ _ _ => rfl, fun _ _ _ => rfl⟩ hk'
    obtain ⟨y, hy, e1, e2, -⟩ := id r3.2.2.2.2.1
    rw [e1] at r1
    rw [e2] at r2
    have q1 : l_X8_all_101 N σ3 (nI b) (nI (allL F S P x wm lm am).length) (nI 0) = some (nI y, wr σ4 0 12 (nI 0)) := by rw [← hrl]; exact r1
    have q2 : l_X11_all_113 N (wr (wr (wr (wr τ1 0 47 (nI 1)) 0 48 (nI b)) 0 49 (nI (rowL F S P x wm lm am).length)) 0 50 (nI 0)) (nI b) (nI 0) = some (nI y, wr (wr τ4 0 1 (nI 0)) 0 2 nM1) := u1.trans (v1.trans r2)
    simp (disch := first | omega | exact nM1_n | exact nM2_n | assumption) only [f_X8_all, l_X8_all_0, b_X8_all_0, f_X11_all, l_X11_all_0, b_X11_all_0, hasB_y b4 w3 hb, ↓nLetR, ↓reduceIte, ↓e_m1, ↓e_m2, e_0, e_1, e_2, e_3, e_4, e_5, e_6, e_7, e_8, e_9, e_10, e_11, e_12, e_13, e_14, e_15, e_16, e_17, e_18, e_19, e_20, e_21, e_22, e_23, e_24, e_25, e_26, e_27, e_28, e_29, e_30, e_31, e_32, e_33, e_48, e_57, e_59, e_60, e_63, e_64, e_96, e_97, e_99, e_120, e_122, e_192, e_200, e_255, e_256, e_300, e_500, e_600, e_2000, e_5000, e_5240, e_6146, e_20000, e_65536, nIo, nI_clamp, nIxt, nI_1, nI_add, nI_mul, nI_eqF, nI_ltT, nI_ltF, nI_leT, nI_leF, nN_lt0, nN_le, nN_lt, nN_eq, nN_eq', eq_self, nBdS, isB_y b4 m3' hb, areB_y hx, in_y hx, mo_y hwm hlm ham, in8_y hwm, in8_y hlm, in8_y ham, p1, s1, t1, q1, g2, g3, q2, wrs, wrk, wrc, wr2, wl1, wls, wlk, wlc]
    refine pK rfl ⟨F, S, P, B, sz, T, ?_⟩
    have F1 : ∀ d, d ≠ 11 → (d < 12 ∨ 18 < d) → d ≠ 27 → d ≠ 29 → σ4.1 d = σ.1 d := fun d z1 z2 z3 z4 => by rw [r4.1 d (by omega) (by omega) z3 z4 z1, S1 d z2]
    have T1 : ∀ d, d ≠ 0 → d ≠ 12 → d ≠ 14 → (d < 16 ∨ 20 < d) → τ4.1 d = τ.1 d := fun d z1 z2 z3 z4 => by rw [r4.2.1 d z1 z2 z3 (by omega) (by omega) (by omega), V1 d z1 (by omega) (by omega) (by omega) (by omega)]
    have T0 : ∀ f, f ≠ 0 → (f < 31 ∨ 36 < f) → (f < 46 ∨ 50 < f) → τ4.1 0 f = τ.1 0 f := fun f z1 z2 z3 => by rw [r4.2.2 f z2 (by omega), V0 f z1 z3]
    have hall := r3.all (B := B) hb (by omega) (fun y h => row_mem h)
    unfold iI
    refine ⟨?_, ?_, ?_, ?_, ?_, ?_, ?_, ?_, ?_, ?_⟩
    · simp (disch := decide) only [wrs, wrk, wrc, wr2, wl1, wls, wlk, wlc]
      rw [F1 1 (by decide) (by decide) (by decide) (by decide), F1 2 (by decide) (by decide) (by decide) (by decide), F1 3 (by decide) (by decide) (by decide) (by decide), T1 1 (by decide) (by decide) (by decide) (by decide), T1 2 (by decide) (by decide) (by decide) (by decide), T0 4 (by decide) (by decide) (by decide), T0 5 (by decide) (by decide) (by decide), T0 6 (by decide) (by decide) (by decide), T0 7 (by decide) (by decide) (by decide), T0 8 (by decide) (by decide) (by decide)]
      exact h1
    · simp (disch := decide) only [wrs, wrk, wrc, wr2, wl1, wls, wlk, wlc]
      rw [F1 4 (by decide) (by decide) (by decide) (by decide), F1 5 (by decide) (by decide) (by decide) (by decide), T1 3 (by decide) (by decide) (by decide) (by decide), T1 4 (by decide) (by decide) (by decide) (by decide), T1 5 (by decide) (by decide) (by decide) (by decide), T1 6 (by decide) (by decide) (by decide) (by decide), T1 7 (by decide) (by decide) (by decide) (by decide), T1 8 (by decide) (by decide) (by decide) (by decide)]
      exact h2
    · simp (disch := decide) only [wrs, wrk, wrc, wr2, wl1, wls, wlk, wlc]
      rw [F1 6 (by decide) (by decide) (by decide) (by decide), F1 7 (by decide) (by decide) (by decide) (by decide), T1 10 (by decide) (by decide) (by decide) (by decide), T0 19 (by decide) (by decide) (by decide)]
      exact h3
    · simp (disch := decide) only [wrs, wrk, wrc, wr2, wl1, wls, wlk, wlc]
      rw [F1 6 (by decide) (by decide) (by decide) (by decide), T0 3 (by decide) (by decide) (by decide)]
      exact h4.done
    · simp (disch := decide) only [wrs, wrk, wrc, wr2, wl1, wls, wlk, wlc]
      rw [F1 24 (by decide) (by decide) (by decide) (by decide), F1 26 (by decide) (by decide) (by decide) (by decide), T1 15 (by decide) (by decide) (by decide) (by decide), T0 37 (by decide) (by decide) (by decide), T0 38 (by decide) (by decide) (by decide), T0 39 (by decide) (by decide) (by decide), T0 40 (by decide) (by decide) (by decide), T0 41 (by decide) (by decide) (by decide), T0 42 (by decide) (by decide) (by decide)]
      exact h5
    · simp (disch := decide) only [wrs, wrk, wrc, wr2, wl1, wls, wlk, wlc]
      exact hall
    · simp (disch := decide) only [wrs, wrk, wrc, wr2, wl1, wls, wlk, wlc]
      rw [F1 19 (by decide) (by decide) (by decide) (by decide), T1 22 (by decide) (by decide) (by decide) (by decide), T0 56 (by decide) (by decide) (by decide)]
      exact h7
    · simp (disch := decide) only [wrs, wrk, wrc, wr2, wl1, wls, wlk, wlc]
      rw [F1 30 (by decide) (by decide) (by decide) (by decide), F1 33 (by decide) (by decide) (by decide) (by decide), T1 23 (by decide) (by decide) (by decide) (by decide), T1 24 (by decide) (by decide) (by decide) (by decide), T0 61 (by decide) (by decide) (by decide)]
      exact h8
    · simp (disch := decide) only [wrs, wrk, wrc, wr2, wl1, wls, wlk, wlc]
      rw [F1 20 (by decide) (by decide) (by decide) (by decide), F1 21 (by decide) (by decide) (by decide) (by decide), T1 26 (by decide) (by decide) (by decide) (by decide), T0 65 (by decide) (by decide) (by decide), T0 66 (by decide) (by decide) (by decide), T0 67 (by decide) (by decide) (by decide)]
      exact h9
    · simp (disch := decide) only [wrs, wrk, wrc, wr2, wl1, wls, wlk, wlc]
      rw [T1 13 (by decide) (by decide) (by decide) (by decide)]
      refine ⟨M + (rowL F S P x wm lm am).length, by omega, r5.1, r5.2, fun k hk => ?_⟩
      obtain ⟨z, hz, ez⟩ := k3 k hk
      exact ⟨z, by omega, ez⟩
  · simp (disch := first | omega | exact nM1_n | exact nM2_n | assumption) only [f_X8_all, l_X8_all_0, b_X8_all_0, b_X8_refuse_0, l_X8_refuse_0, f_X8_refuse, b_X11_refused_0, l_X11_refused_0, f_X11_refused, f_X11_all, l_X11_all_0, b_X11_all_0, hasB_y b4 w3 hb, ↓nLetR, ↓reduceIte, ↓e_m1, ↓e_m2, e_0, e_1, e_2, e_3, e_4, e_5, e_6, e_7, e_8, e_9, e_10, e_11, e_12, e_13, e_14, e_15, e_16, e_17, e_18, e_19, e_20, e_21, e_22, e_23, e_24, e_25, e_26, e_27, e_28, e_29, e_30, e_31, e_32, e_33, e_48, e_57, e_59, e_60, e_63, e_64, e_96, e_97, e_99, e_120, e_122, e_192, e_200, e_255, e_256, e_300, e_500, e_600, e_2000, e_5000, e_5240, e_6146, e_20000, e_65536, nIo, nI_clamp, nIxt, nI_1, nI_add, nI_mul, nI_eqF, nI_ltT, nI_ltF, nI_leT, nI_leF, nN_lt0, nN_le, nN_lt, nN_eq, nN_eq', eq_self, nBdS, isB_y b4 m3' hb, areB_y hx, in_y hx, mo_y hwm hlm ham, in8_y hwm, in8_y hlm, in8_y ham, p1, g2, wrs, wrk, wrc, wr2, wl1, wls, wlk, wlc]
    refine pK rfl ⟨F, S, P, B, sz, T, ?_⟩
    have F1 : ∀ d, d ≠ 12 → d ≠ 13 → d ≠ 14 → d ≠ 15 → σ1.1 d = σ.1 d := p3
    simp (disch := decide) only [iI, wrs, wrk, wrc, wr2, wl1, wls, wlk, wlc, F1, U1, U0]
    exact ⟨h1, h2, h3, h4.no 3 (by decide), h5, h6, h7, h8, h9, h10.up⟩
