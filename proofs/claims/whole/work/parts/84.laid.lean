/-! LAID: rows of the longest that is in both -/
def rowS (A lg : Nat → Int32) (e : Int32) : Nat → Int32
  | 0 => nI 0
  | j + 1 => if lg j = e then A j + nI 1 else (if A (j + 1) < rowS A lg e j then rowS A lg e j else A (j + 1))
theorem rowS_eq {A A' lg lg' : Nat → Int32} {e : Int32} : ∀ j, (∀ i, i ≤ j → A i = A' i) → (∀ i, i < j → lg i = lg' i) → rowS A lg e j = rowS A' lg' e j := by
  intro j
  induction j with
  | zero => intro _ _; rfl
  | succ j ih =>
    intro hA hl
    unfold rowS
    rw [ih (fun i h => hA i (by omega)) (fun i h => hl i (by omega)), hA j (by omega), hA (j + 1) (by omega), hl j (by omega)]
theorem e_201 : (201 : Int32) = nI 201 := rfl
theorem ext_go (N m : Nat) (hm : m ≤ 200) (e : Int32) (A : Nat → Int32) : ∀ d k j σ, σ.1 20 2 = nI m → j + d = m → d < k → (∀ i, i ≤ j → σ.1 22 i = rowS A (σ.1 21) e i) → (∀ i, j < i → σ.1 22 i = A i) →
    ∃ σ', nLp (fun _ _ _ _ => none) (fun again => b_X2_extend_4 N (l_X2_extend_76 N again)) k σ e (A j) (nI j) = some (nI 0, σ') ∧ σ'.2 = σ.2 ∧ (∀ i, i ≤ m → σ'.1 22 i = rowS A (σ.1 21) e i) ∧ ∀ d, d ≠ 22 → σ'.1 d = σ.1 d := by
  intro d
  induction d with
  | zero =>
    intro k j σ h2 hj hk h3 h4
    refine ⟨σ, ?_, rfl, fun i h => h3 i (by omega), fun d h => rfl⟩
    rw [nLpP _ _ hk]
    simp (disch := first | omega | exact nM1_n | exact nM2_n | assumption) only [b_X2_extend_4, h2, ↓nLetR, ↓reduceIte, ↓e_m1, ↓e_m2, e_0, e_1, e_2, e_3, e_4, e_5, e_6, e_7, e_8, e_9, e_10, e_11, e_12, e_13, e_14, e_15, e_16, e_17, e_18, e_19, e_20, e_21, e_22, e_23, e_24, e_25, e_26, e_27, e_28, e_29, e_30, e_31, e_32, e_33, e_48, e_57, e_59, e_60, e_63, e_64, e_96, e_97, e_99, e_120, e_122, e_192, e_200, e_255, e_256, e_300, e_500, e_600, e_2000, e_5000, e_5240, e_6146, e_20000, e_65536, nIo, nI_clamp, nIxt, nI_1, nI_add, nI_mul, nI_eqF, nI_ltT, nI_ltF, nI_leT, nI_leF, nN_lt0, nN_le, nN_lt, nN_eq, nN_eq', eq_self, nBdS]
  | succ d ih =>
    intro k j σ h2 hj hk h3 h4
    have hv : ∃ v, v = rowS A (σ.1 21) e (j + 1) ∧ nLp (fun _ _ _ _ => none) (fun again => b_X2_extend_4 N (l_X2_extend_76 N again)) k σ e (A j) (nI j) = nLp (fun _ _ _ _ => none) (fun again => b_X2_extend_4 N (l_X2_extend_76 N again)) (k - 1) (wr σ 22 (j + 1) v) e (A (j + 1)) (nI (j + 1)) := by
      refine ⟨_, rfl, ?_⟩
      rw [nLpP _ _ (by omega)]
      by_cases hc : σ.1 21 j = e
      · simp (disch := first | omega | exact nM1_n | exact nM2_n | assumption) only [b_X2_extend_4, l_X2_extend_76, b_X2_extend_76, h2, hc, h3 j (Nat.le_refl j), h4 (j + 1) (by omega), rowS, ↓nLetR, ↓reduceIte, ↓e_m1, ↓e_m2, e_0, e_1, e_2, e_3, e_4, e_5, e_6, e_7, e_8, e_9, e_10, e_11, e_12, e_13, e_14, e_15, e_16, e_17, e_18, e_19, e_20, e_21, e_22, e_23, e_24, e_25, e_26, e_27, e_28, e_29, e_30, e_31, e_32, e_33, e_48, e_57, e_59, e_60, e_63, e_64, e_96, e_97, e_99, e_120, e_122, e_192, e_200, e_255, e_256, e_300, e_500, e_600, e_2000, e_5000, e_5240, e_6146, e_20000, e_65536, nIo, nI_clamp, nIxt, nI_1, nI_add, nI_mul, nI_eqF, nI_ltT, nI_ltF, nI_leT, nI_leF, nN_lt0, nN_le, nN_lt, nN_eq, nN_eq', eq_self, nBdS]
      · by_cases hd : A (j + 1) < rowS A (σ.1 21) e j
        · simp (disch := first | omega | exact nM1_n | exact nM2_n | assumption) only [b_X2_extend_4, l_X2_extend_76, b_X2_extend_76, h2, hc, hd, h3 j (Nat.le_refl j), h4 (j + 1) (by omega), rowS, ↓nLetR, ↓reduceIte, ↓e_m1, ↓e_m2, e_0, e_1, e_2, e_3, e_4, e_5, e_6, e_7, e_8, e_9, e_10, e_11, e_12, e_13, e_14, e_15, e_16, e_17, e_18, e_19, e_20, e_21, e_22, e_23, e_24, e_25, e_26, e_27, e_28, e_29, e_30, e_31, e_32, e_33, e_48, e_57, e_59, e_60, e_63, e_64, e_96, e_97, e_99, e_120, e_122, e_192, e_200, e_255, e_256, e_300, e_500, e_600, e_2000, e_5000, e_5240, e_6146, e_20000, e_65536, nIo, nI_clamp, nIxt, nI_1, nI_add, nI_mul, nI_eqF, nI_ltT, nI_ltF, nI_leT, nI_leF, nN_lt0, nN_le, nN_lt, nN_eq, nN_eq', eq_self, nBdS]
        · simp (disch := first | omega | exact nM1_n | exact nM2_n | assumption) only [b_X2_extend_4, l_X2_extend_76, b_X2_extend_76, h2, hc, hd, h3 j (Nat.le_refl j), h4 (j + 1) (by omega), rowS, ↓nLetR, ↓reduceIte, ↓e_m1, ↓e_m2, e_0, e_1, e_2, e_3, e_4, e_5, e_6, e_7, e_8, e_9, e_10, e_11, e_12, e_13, e_14, e_15, e_16, e_17, e_18, e_19, e_20, e_21, e_22, e_23, e_24, e_25, e_26, e_27, e_28, e_29, e_30, e_31, e_32, e_33, e_48, e_57, e_59, e_60, e_63, e_64, e_96, e_97, e_99, e_120, e_122, e_192, e_200, e_255, e_256, e_300, e_500, e_600, e_2000, e_5000, e_5240, e_6146, e_20000, e_65536, nIo, nI_clamp, nIxt, nI_1, nI_add, nI_mul, nI_eqF, nI_ltT, nI_ltF, nI_leT, nI_leF, nN_lt0, nN_le, nN_lt, nN_eq, nN_eq', eq_self, nBdS]
    obtain ⟨v, ev, ee⟩ := hv
    obtain ⟨σ', e1, e2, e3, e4⟩ := ih (k - 1) (j + 1) (wr σ 22 (j + 1) v) (by rw [wrc _ _ _ (by decide)]; exact h2) (by omega) (by omega) (fun i hi => by
      rw [wrc (d := 21) _ _ _ (by decide)]
      by_cases hij : i = j + 1
      · rw [hij, wrs]; exact ev
      · rw [wrk _ _ _ hij]; exact h3 i (by omega)) (fun i hi => by rw [wrk _ _ _ (by omega)]; exact h4 i (by omega))
    refine ⟨σ', ee.trans e1, e2, fun i hi => ?_, fun d h => ?_⟩
    · rw [e3 i hi, wrc (d := 21) _ _ _ (by decide)]
    · rw [e4 d h, wrc _ _ _ h]
theorem ext_is {N m : Nat} (hN : 300 ≤ N) (hm : m ≤ 200) (e : Int32) {σ : nS} (h2 : σ.1 20 2 = nI m) (h0 : σ.1 22 0 = nI 0) :
    ∃ σ', f_X2_extend N e σ = some (nI 0, σ') ∧ σ'.2 = σ.2 ∧ (∀ i, i ≤ m → σ'.1 22 i = rowS (σ.1 22) (σ.1 21) e i) ∧ ∀ d, d ≠ 22 → σ'.1 d = σ.1 d := by
  obtain ⟨σ', e1, e2, e3, e4⟩ := ext_go N m hm e (σ.1 22) m N 0 σ h2 (by omega) (by omega) (fun i hi => by
    have : i = 0 := by omega
    subst this
    exact h0) (fun i hi => rfl)
  refine ⟨σ', ?_, e2, e3, e4⟩
  rw [h0] at e1
  exact e1
/-- the reference: one row -/
theorem mrow_go (N m : Nat) (hm : m ≤ 200) (K : nS → Int32 → Int32 → Option (Int32 × nS)) (x1 : Int32) (p : Nat) (hp : p < 2000) : ∀ d k j τ, τ.1 0 65 = nI m → j + d = m → d < k → (∀ i, i ≤ j → τ.1 28 i = rowS (τ.1 27) (τ.1 26) (τ.1 15 p) i) →
    ∃ τ', nLp (fun _ _ _ _ => none) (fun again => b_X11_laid_68 N (l_X11_laid_128 N again) (l_X11_laid_137 N K)) k τ x1 (nI p) (nI (j + 1)) = l_X11_laid_137 N K τ' x1 (nI p) (nI 0) ∧ τ'.2 = τ.2 ∧ (∀ i, i ≤ m → τ'.1 28 i = rowS (τ.1 27) (τ.1 26) (τ.1 15 p) i) ∧ ∀ d, d ≠ 28 → τ'.1 d = τ.1 d := by
  intro d
  induction d with
  | zero =>
    intro k j τ h2 hj hk h3
    refine ⟨τ, ?_, rfl, fun i h => h3 i (by omega), fun d h => rfl⟩
    rw [nLpP _ _ hk]
    simp (disch := first | omega | exact nM1_n | exact nM2_n | assumption) only [b_X11_laid_68, h2, ↓nLetR, ↓reduceIte, ↓e_m1, ↓e_m2, e_0, e_1, e_2, e_3, e_4, e_5, e_6, e_7, e_8, e_9, e_10, e_11, e_12, e_13, e_14, e_15, e_16, e_17, e_18, e_19, e_20, e_21, e_22, e_23, e_24, e_25, e_26, e_27, e_28, e_29, e_30, e_31, e_32, e_33, e_48, e_57, e_59, e_60, e_63, e_64, e_96, e_97, e_99, e_120, e_122, e_192, e_200, e_255, e_256, e_300, e_500, e_600, e_2000, e_5000, e_5240, e_6146, e_20000, e_65536, nIo, nI_clamp, nIxt, nI_1, nI_add, nI_mul, nI_eqF, nI_ltT, nI_ltF, nI_leT, nI_leF, nN_lt0, nN_le, nN_lt, nN_eq, nN_eq', eq_self, nBdS]
  | succ d ih =>
    intro k j τ h2 hj hk h3
    have hv : ∃ v, v = rowS (τ.1 27) (τ.1 26) (τ.1 15 p) (j + 1) ∧ nLp (fun _ _ _ _ => none) (fun again => b_X11_laid_68 N (l_X11_laid_128 N again) (l_X11_laid_137 N K)) k τ x1 (nI p) (nI (j + 1)) = nLp (fun _ _ _ _ => none) (fun again => b_X11_laid_68 N (l_X11_laid_128 N again) (l_X11_laid_137 N K)) (k - 1) (wr τ 28 (j + 1) v) x1 (nI p) (nI (j + 1 + 1)) := by
      refine ⟨_, rfl, ?_⟩
      rw [nLpP _ _ (by omega)]
      have hpr : nI (j + 1) - nI 1 = nI j := nI_pred j
      by_cases hc : τ.1 26 j = τ.1 15 p
      · simp (disch := first | omega | exact nM1_n | exact nM2_n | assumption) only [b_X11_laid_68, l_X11_laid_128, b_X11_laid_128, h2, hpr, hc, h3 j (Nat.le_refl j), rowS, ↓nLetR, ↓reduceIte, ↓e_m1, ↓e_m2, e_0, e_1, e_2, e_3, e_4, e_5, e_6, e_7, e_8, e_9, e_10, e_11, e_12, e_13, e_14, e_15, e_16, e_17, e_18, e_19, e_20, e_21, e_22, e_23, e_24, e_25, e_26, e_27, e_28, e_29, e_30, e_31, e_32, e_33, e_48, e_57, e_59, e_60, e_63, e_64, e_96, e_97, e_99, e_120, e_122, e_192, e_200, e_255, e_256, e_300, e_500, e_600, e_2000, e_5000, e_5240, e_6146, e_20000, e_65536, nIo, nI_clamp, nIxt, nI_1, nI_add, nI_mul, nI_eqF, nI_ltT, nI_ltF, nI_leT, nI_leF, nN_lt0, nN_le, nN_lt, nN_eq, nN_eq', eq_self, nBdS]
      · by_cases hd : τ.1 27 (j + 1) < rowS (τ.1 27) (τ.1 26) (τ.1 15 p) j
        · simp (disch := first | omega | exact nM1_n | exact nM2_n | assumption) only [b_X11_laid_68, l_X11_laid_128, b_X11_laid_128, h2, hpr, hc, hd, h3 j (Nat.le_refl j), rowS, ↓nLetR, ↓reduceIte, ↓e_m1, ↓e_m2, e_0, e_1, e_2, e_3, e_4, e_5, e_6, e_7, e_8, e_9, e_10, e_11, e_12, e_13, e_14, e_15, e_16, e_17, e_18, e_19, e_20, e_21, e_22, e_23, e_24, e_25, e_26, e_27, e_28, e_29, e_30, e_31, e_32, e_33, e_48, e_57, e_59, e_60, e_63, e_64, e_96, e_97, e_99, e_120, e_122, e_192, e_200, e_255, e_256, e_300, e_500, e_600, e_2000, e_5000, e_5240, e_6146, e_20000, e_65536, nIo, nI_clamp, nIxt, nI_1, nI_add, nI_mul, nI_eqF, nI_ltT, nI_ltF, nI_leT, nI_leF, nN_lt0, nN_le, nN_lt, nN_eq, nN_eq', eq_self, nBdS]
        · simp (disch := first | omega | exact nM1_n | exact nM2_n | assumption) only [b_X11_laid_68, l_X11_laid_128, b_X11_laid_128, h2, hpr, hc, hd, h3 j (Nat.le_refl j), rowS, ↓nLetR, ↓reduceIte, ↓e_m1, ↓e_m2, e_0, e_1, e_2, e_3, e_4, e_5, e_6, e_7, e_8, e_9, e_10, e_11, e_12, e_13, e_14, e_15, e_16, e_17, e_18, e_19, e_20, e_21, e_22, e_23, e_24, e_25, e_26, e_27, e_28, e_29, e_30, e_31, e_32, e_33, e_48, e_57, e_59, e_60, e_63, e_64, e_96, e_97, e_99, e_120, e_122, e_192, e_200, e_255, e_256, e_300, e_500, e_600, e_2000, e_5000, e_5240, e_6146, e_20000, e_65536, nIo, nI_clamp, nIxt, nI_1, nI_add, nI_mul, nI_eqF, nI_ltT, nI_ltF, nI_leT, nI_leF, nN_lt0, nN_le, nN_lt, nN_eq, nN_eq', eq_self, nBdS]
    obtain ⟨v, ev, ee⟩ := hv
    have f27 : (wr τ 28 (j + 1) v).1 27 = τ.1 27 := wrc _ _ _ (by decide)
    have f26 : (wr τ 28 (j + 1) v).1 26 = τ.1 26 := wrc _ _ _ (by decide)
    have f15 : (wr τ 28 (j + 1) v).1 15 = τ.1 15 := wrc _ _ _ (by decide)
    obtain ⟨τ', e1, e2, e3, e4⟩ := ih (k - 1) (j + 1) (wr τ 28 (j + 1) v) (by rw [wrc _ _ _ (by decide)]; exact h2) (by omega) (by omega) (fun i hi => by
      rw [f27, f26, f15]
      by_cases hij : i = j + 1
      · rw [hij, wrs]; exact ev
      · rw [wrk _ _ _ hij]; exact h3 i (by omega))
    refine ⟨τ', ee.trans e1, e2, fun i hi => ?_, fun d h => ?_⟩
    · rw [e3 i hi, f27, f26, f15]
    · rw [e4 d h, wrc _ _ _ h]
theorem mcopy_go (N m : Nat) (hm : m ≤ 200) (K : nS → Int32 → Int32 → Option (Int32 × nS)) (x1 x2 : Int32) : ∀ d k j τ, τ.1 0 65 = nI m → j + d = m + 1 → d < k →
    ∃ τ', nLp (fun _ _ _ _ => none) (fun again => b_X11_laid_137 N K again) k τ x1 x2 (nI j) = K τ' x1 (x2 + nI 1) ∧ τ'.2 = τ.2 ∧ (∀ i, j ≤ i → i ≤ m → τ'.1 27 i = τ.1 28 i) ∧ (∀ i, i < j → τ'.1 27 i = τ.1 27 i) ∧ ∀ d, d ≠ 27 → τ'.1 d = τ.1 d := by
  intro d
  induction d with
  | zero =>
    intro k j τ h2 hj hk
    refine ⟨τ, ?_, rfl, fun i h h2 => absurd h (by omega), fun i h => rfl, fun d h => rfl⟩
    rw [nLpP _ _ hk]
    simp (disch := first | omega | exact nM1_n | exact nM2_n | assumption) only [b_X11_laid_137, h2, ↓nLetR, ↓reduceIte, ↓e_m1, ↓e_m2, e_0, e_1, e_2, e_3, e_4, e_5, e_6, e_7, e_8, e_9, e_10, e_11, e_12, e_13, e_14, e_15, e_16, e_17, e_18, e_19, e_20, e_21, e_22, e_23, e_24, e_25, e_26, e_27, e_28, e_29, e_30, e_31, e_32, e_33, e_48, e_57, e_59, e_60, e_63, e_64, e_96, e_97, e_99, e_120, e_122, e_192, e_200, e_255, e_256, e_300, e_500, e_600, e_2000, e_5000, e_5240, e_6146, e_20000, e_65536, nIo, nI_clamp, nIxt, nI_1, nI_add, nI_mul, nI_eqF, nI_ltT, nI_ltF, nI_leT, nI_leF, nN_lt0, nN_le, nN_lt, nN_eq, nN_eq', eq_self, nBdS]
  | succ d ih =>
    intro k j τ h2 hj hk
    obtain ⟨τ', e1, e2, e3, e4, e5⟩ := ih (k - 1) (j + 1) (wr τ 27 j (τ.1 28 j)) (by rw [wrc _ _ _ (by decide)]; exact h2) (by omega) (by omega)
    refine ⟨τ', ?_, e2, fun i h1 h2 => ?_, fun i h => ?_, fun d h => ?_⟩
    · rw [nLpP _ _ (by omega)]
      simp (disch := first | omega | exact nM1_n | exact nM2_n | assumption) only [b_X11_laid_137, h2, ↓nLetR, ↓reduceIte, ↓e_m1, ↓e_m2, e_0, e_1, e_2, e_3, e_4, e_5, e_6, e_7, e_8, e_9, e_10, e_11, e_12, e_13, e_14, e_15, e_16, e_17, e_18, e_19, e_20, e_21, e_22, e_23, e_24, e_25, e_26, e_27, e_28, e_29, e_30, e_31, e_32, e_33, e_48, e_57, e_59, e_60, e_63, e_64, e_96, e_97, e_99, e_120, e_122, e_192, e_200, e_255, e_256, e_300, e_500, e_600, e_2000, e_5000, e_5240, e_6146, e_20000, e_65536, nIo, nI_clamp, nIxt, nI_1, nI_add, nI_mul, nI_eqF, nI_ltT, nI_ltF, nI_leT, nI_leF, nN_lt0, nN_le, nN_lt, nN_eq, nN_eq', eq_self, nBdS]
      exact e1
    · by_cases hij : i = j
      · rw [e4 i (by omega), hij, wrs]
      · rw [e3 i (by omega) h2, wrc _ _ _ (by decide)]
    · rw [e4 i (by omega), wrk _ _ _ (by omega)]
    · rw [e5 d h, wrc _ _ _ h]
