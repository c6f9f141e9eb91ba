/-! STEPS THAT ARE REACHED -/
theorem pcf_mono {n : Nat} : ∀ {x y : Nat}, (∀ i, x.testBit i = true → y.testBit i = true) → pcf n x ≤ pcf n y ∧ (pcf n x = pcf n y → x % 2 ^ n = y % 2 ^ n) := by
  induction n with
  | zero =>
    intro x y h
    refine ⟨Nat.le_refl 0, fun _ => ?_⟩
    omega
  | succ n ih =>
    intro x y h
    have h2 := ih (x := x / 2) (y := y / 2) (fun i hi => by
      rw [← Nat.testBit_succ] at hi ⊢
      exact h (i + 1) hi)
    have h3 : x % 2 ≤ y % 2 := by
      have h4 := h 0
      rw [Nat.testBit_zero, Nat.testBit_zero] at h4
      by_cases e : x % 2 = 1
      · have := h4 (decide_eq_true e)
        have := of_decide_eq_true this
        omega
      · omega
    show x % 2 + pcf n (x / 2) ≤ y % 2 + pcf n (y / 2) ∧ (x % 2 + pcf n (x / 2) = y % 2 + pcf n (y / 2) → _)
    refine ⟨by omega, fun e => ?_⟩
    have e1 : x % 2 = y % 2 := by omega
    have e2 := h2.2 (by omega)
    have hp : 2 ^ (n + 1) = 2 * 2 ^ n := by rw [Nat.pow_succ]; omega
    rw [hp, Nat.mod_mul, Nat.mod_mul, e1, e2]
theorem or_bit {f a : Nat} (h : f.testBit a = true) : f ||| 2 ^ a = f := by
  apply Nat.eq_of_testBit_eq
  intro i
  rw [Nat.testBit_or, Nat.testBit_two_pow]
  by_cases e : a = i
  · subst e; rw [h]; rfl
  · rw [decide_eq_false e, Bool.or_false]
theorem or_tb {f a i : Nat} : (f ||| 2 ^ a).testBit i = (f.testBit i || decide (a = i)) := by
  rw [Nat.testBit_or, Nat.testBit_two_pow]
theorem or_lt {f a : Nat} (hf : f < 2 ^ 25) (ha : a ≤ 24) : f ||| 2 ^ a < 2 ^ 25 := Nat.or_lt_two_pow hf (Nat.pow_lt_pow_right (by decide) (by omega))
/-- the reference's row of steps reached, as bits -/
def rB (f n : Nat) (τ : nS) : Prop := ∀ k, k < n → τ.1 21 k = nI (if f.testBit k = true then 1 else 0)
def mS (τ : nS) (n a : Nat) : nS := if a < n then wr τ 21 a (nI 1) else τ
theorem rB.set {f n a : Nat} {τ : nS} (h : rB f n τ) : rB (f ||| 2 ^ a) n (mS τ n a) := by
  intro k hk
  unfold mS
  rw [or_tb]
  by_cases ha : a < n
  · rw [if_pos ha]
    by_cases e : a = k
    · subst e
      rw [wrs, decide_eq_true rfl, Bool.or_true]
      rfl
    · rw [wrk _ _ _ (show k ≠ a from fun h => e h.symm), decide_eq_false e, Bool.or_false]
      exact h k hk
  · rw [if_neg ha, decide_eq_false (show ¬ a = k by omega), Bool.or_false]
    exact h k hk
theorem mS_1 {τ : nS} {n a d : Nat} (h : d ≠ 21) : (mS τ n a).1 d = τ.1 d := by
  unfold mS
  by_cases ha : a < n
  · rw [if_pos ha, wrc _ _ _ h]
  · rw [if_neg ha]
theorem hvb : vp_nar .boolean (nI 1) = nI 1 := by decide
theorem hvb0 : vp_nar .boolean (nI 0) = nI 0 := by decide
theorem s207 {N a c n b k y : Nat} {τ : nS} (again : nS → Int32 → Int32 → Int32 → Option (Int32 × nS)) (hb : b < 5) (hn : n ≤ 24) (ha : a ≤ n) (hc : c ≤ n) (hk : k < 24) (h3 : τ.1 3 b = nI n) :
    l_X11_reaches_207 N (l_X11_reaches_246 N again) τ (nI b) (nI k) (nI a) (nI c) (nI y) = again (mS (mS τ n a) n c) (nI b) (nI y) (nI (k + 1)) := by
  unfold mS
  by_cases h1 : a < n
  · by_cases h2 : c < n
    · rw [if_pos h1, if_pos h2]
      simp (disch := first | omega | exact nM1_n | exact nM2_n | assumption) only [l_X11_reaches_207, l_X11_reaches_246, l_X11_reaches_227, b_X11_reaches_207, b_X11_reaches_227, b_X11_reaches_246, h3, hvb, ↓nLetR, ↓reduceIte, ↓e_m1, ↓e_m2, e_0, e_1, e_2, e_3, e_4, e_5, e_6, e_7, e_8, e_9, e_10, e_11, e_12, e_13, e_14, e_15, e_16, e_17, e_18, e_19, e_20, e_21, e_22, e_23, e_24, e_25, e_26, e_27, e_28, e_29, e_30, e_31, e_32, e_33, e_48, e_57, e_59, e_60, e_63, e_64, e_96, e_97, e_99, e_120, e_122, e_192, e_200, e_255, e_256, e_300, e_500, e_600, e_2000, e_5000, e_5240, e_6146, e_20000, e_65536, nIo, nI_clamp, nIxt, nI_1, nI_add, nI_mul, nI_eqF, nI_ltT, nI_ltF, nI_leT, nI_leF, nN_lt0, nN_le, nN_lt, nN_eq, nN_eq', eq_self, nBdS, wrs, wrk, wrc, wr2, wl1, wls, wlk, wlc]
    · rw [if_pos h1, if_neg h2]
      simp (disch := first | omega | exact nM1_n | exact nM2_n | assumption) only [l_X11_reaches_207, l_X11_reaches_246, l_X11_reaches_227, b_X11_reaches_207, b_X11_reaches_227, b_X11_reaches_246, h3, hvb, ↓nLetR, ↓reduceIte, ↓e_m1, ↓e_m2, e_0, e_1, e_2, e_3, e_4, e_5, e_6, e_7, e_8, e_9, e_10, e_11, e_12, e_13, e_14, e_15, e_16, e_17, e_18, e_19, e_20, e_21, e_22, e_23, e_24, e_25, e_26, e_27, e_28, e_29, e_30, e_31, e_32, e_33, e_48, e_57, e_59, e_60, e_63, e_64, e_96, e_97, e_99, e_120, e_122, e_192, e_200, e_255, e_256, e_300, e_500, e_600, e_2000, e_5000, e_5240, e_6146, e_20000, e_65536, nIo, nI_clamp, nIxt, nI_1, nI_add, nI_mul, nI_eqF, nI_ltT, nI_ltF, nI_leT, nI_leF, nN_lt0, nN_le, nN_lt, nN_eq, nN_eq', eq_self, nBdS, wrs, wrk, wrc, wr2, wl1, wls, wlk, wlc]
  · by_cases h2 : c < n
    · rw [if_neg h1, if_pos h2]
      simp (disch := first | omega | exact nM1_n | exact nM2_n | assumption) only [l_X11_reaches_207, l_X11_reaches_246, l_X11_reaches_227, b_X11_reaches_207, b_X11_reaches_227, b_X11_reaches_246, h3, hvb, ↓nLetR, ↓reduceIte, ↓e_m1, ↓e_m2, e_0, e_1, e_2, e_3, e_4, e_5, e_6, e_7, e_8, e_9, e_10, e_11, e_12, e_13, e_14, e_15, e_16, e_17, e_18, e_19, e_20, e_21, e_22, e_23, e_24, e_25, e_26, e_27, e_28, e_29, e_30, e_31, e_32, e_33, e_48, e_57, e_59, e_60, e_63, e_64, e_96, e_97, e_99, e_120, e_122, e_192, e_200, e_255, e_256, e_300, e_500, e_600, e_2000, e_5000, e_5240, e_6146, e_20000, e_65536, nIo, nI_clamp, nIxt, nI_1, nI_add, nI_mul, nI_eqF, nI_ltT, nI_ltF, nI_leT, nI_leF, nN_lt0, nN_le, nN_lt, nN_eq, nN_eq', eq_self, nBdS, wrs, wrk, wrc, wr2, wl1, wls, wlk, wlc]
    · rw [if_neg h1, if_neg h2]
      simp (disch := first | omega | exact nM1_n | exact nM2_n | assumption) only [l_X11_reaches_207, l_X11_reaches_246, l_X11_reaches_227, b_X11_reaches_207, b_X11_reaches_227, b_X11_reaches_246, h3, hvb, ↓nLetR, ↓reduceIte, ↓e_m1, ↓e_m2, e_0, e_1, e_2, e_3, e_4, e_5, e_6, e_7, e_8, e_9, e_10, e_11, e_12, e_13, e_14, e_15, e_16, e_17, e_18, e_19, e_20, e_21, e_22, e_23, e_24, e_25, e_26, e_27, e_28, e_29, e_30, e_31, e_32, e_33, e_48, e_57, e_59, e_60, e_63, e_64, e_96, e_97, e_99, e_120, e_122, e_192, e_200, e_255, e_256, e_300, e_500, e_600, e_2000, e_5000, e_5240, e_6146, e_20000, e_65536, nIo, nI_clamp, nIxt, nI_1, nI_add, nI_mul, nI_eqF, nI_ltT, nI_ltF, nI_leT, nI_leF, nN_lt0, nN_le, nN_lt, nN_eq, nN_eq', eq_self, nBdS, wrs, wrk, wrc, wr2, wl1, wls, wlk, wlc]
theorem s181 {N a c n b k f : Nat} {τ : nS} (again : nS → Int32 → Int32 → Int32 → Option (Int32 × nS)) (hb : b < 5) (hn : n ≤ 24) (ha : a ≤ n) (hc : c ≤ n) (hk : k < 24) (h3 : τ.1 3 b = nI n) (hr : rB f n τ) :
    ∃ y, y < 2 ∧ l_X11_reaches_181 N (l_X11_reaches_202 N (l_X11_reaches_207 N (l_X11_reaches_246 N again))) (l_X11_reaches_207 N (l_X11_reaches_246 N again)) τ (nI b) (nI k) (nI a) (nI c) = again (mS (mS τ n a) n c) (nI b) (nI y) (nI (k + 1)) ∧ (y = 0 → c < n → f.testBit c = true) ∧ (y = 1 → c < n ∧ f.testBit c = false) := by
  have q0 := s207 (N := N) (y := 0) again hb hn ha hc hk h3
  have q1 := s207 (N := N) (y := 1) again hb hn ha hc hk h3
  by_cases h2 : c < n
  · have hv := hr c h2
    cases ht : f.testBit c with
    | true =>
      rw [ht, if_pos rfl] at hv
      refine ⟨0, by decide, ?_, fun _ _ => rfl, fun h => absurd h (by decide)⟩
      simp (disch := first | omega | exact nM1_n | exact nM2_n | assumption) only [l_X11_reaches_181, l_X11_reaches_202, l_X11_reaches_206, b_X11_reaches_181, b_X11_reaches_202, b_X11_reaches_206, h3, hv, ↓nLetR, ↓reduceIte, ↓e_m1, ↓e_m2, e_0, e_1, e_2, e_3, e_4, e_5, e_6, e_7, e_8, e_9, e_10, e_11, e_12, e_13, e_14, e_15, e_16, e_17, e_18, e_19, e_20, e_21, e_22, e_23, e_24, e_25, e_26, e_27, e_28, e_29, e_30, e_31, e_32, e_33, e_48, e_57, e_59, e_60, e_63, e_64, e_96, e_97, e_99, e_120, e_122, e_192, e_200, e_255, e_256, e_300, e_500, e_600, e_2000, e_5000, e_5240, e_6146, e_20000, e_65536, nIo, nI_clamp, nIxt, nI_1, nI_add, nI_mul, nI_eqF, nI_ltT, nI_ltF, nI_leT, nI_leF, nN_lt0, nN_le, nN_lt, nN_eq, nN_eq', eq_self, nBdS]
      exact q0
    | false =>
      rw [ht, if_neg (by decide)] at hv
      refine ⟨1, by decide, ?_, fun h => absurd h (by decide), fun _ => ⟨h2, rfl⟩⟩
      simp (disch := first | omega | exact nM1_n | exact nM2_n | assumption) only [l_X11_reaches_181, l_X11_reaches_202, l_X11_reaches_206, b_X11_reaches_181, b_X11_reaches_202, b_X11_reaches_206, h3, hv, ↓nLetR, ↓reduceIte, ↓e_m1, ↓e_m2, e_0, e_1, e_2, e_3, e_4, e_5, e_6, e_7, e_8, e_9, e_10, e_11, e_12, e_13, e_14, e_15, e_16, e_17, e_18, e_19, e_20, e_21, e_22, e_23, e_24, e_25, e_26, e_27, e_28, e_29, e_30, e_31, e_32, e_33, e_48, e_57, e_59, e_60, e_63, e_64, e_96, e_97, e_99, e_120, e_122, e_192, e_200, e_255, e_256, e_300, e_500, e_600, e_2000, e_5000, e_5240, e_6146, e_20000, e_65536, nIo, nI_clamp, nIxt, nI_1, nI_add, nI_mul, nI_eqF, nI_ltT, nI_ltF, nI_leT, nI_leF, nN_lt0, nN_le, nN_lt, nN_eq, nN_eq', eq_self, nBdS]
      exact q1
  · refine ⟨0, by decide, ?_, fun _ h => absurd h h2, fun h => absurd h (by decide)⟩
    simp (disch := first | omega | exact nM1_n | exact nM2_n | assumption) only [l_X11_reaches_181, l_X11_reaches_202, l_X11_reaches_206, b_X11_reaches_181, b_X11_reaches_202, b_X11_reaches_206, h3, ↓nLetR, ↓reduceIte, ↓e_m1, ↓e_m2, e_0, e_1, e_2, e_3, e_4, e_5, e_6, e_7, e_8, e_9, e_10, e_11, e_12, e_13, e_14, e_15, e_16, e_17, e_18, e_19, e_20, e_21, e_22, e_23, e_24, e_25, e_26, e_27, e_28, e_29, e_30, e_31, e_32, e_33, e_48, e_57, e_59, e_60, e_63, e_64, e_96, e_97, e_99, e_120, e_122, e_192, e_200, e_255, e_256, e_300, e_500, e_600, e_2000, e_5000, e_5240, e_6146, e_20000, e_65536, nIo, nI_clamp, nIxt, nI_1, nI_add, nI_mul, nI_eqF, nI_ltT, nI_ltF, nI_leT, nI_leF, nN_lt0, nN_le, nN_lt, nN_eq, nN_eq', eq_self, nBdS]
    exact q0
theorem s154 {N a c n b k f mo : Nat} {τ : nS} (again : nS → Int32 → Int32 → Int32 → Option (Int32 × nS)) (hb : b < 5) (hn : n ≤ 24) (ha : a ≤ n) (hc : c ≤ n) (hk : k < 24) (h3 : τ.1 3 b = nI n) (hr : rB f n τ) (hmo : mo < 2) :
    ∃ y, y < 2 ∧ l_X11_reaches_154 N (l_X11_reaches_246 N again) τ (nI b) (nI mo) (nI k) (nI a) (nI c) = again (mS (mS τ n a) n c) (nI b) (nI y) (nI (k + 1)) ∧ (y = 0 → mo = 0 ∧ (a < n → f.testBit a = true) ∧ (c < n → f.testBit c = true)) ∧ (y = 1 → mo = 1 ∨ (a < n ∧ f.testBit a = false) ∨ (c < n ∧ f.testBit c = false)) := by
  have q1 := s207 (N := N) (y := 1) again hb hn ha hc hk h3
  obtain ⟨y, hy, e, y0, y1⟩ := s181 (N := N) again hb hn ha hc hk h3 hr
  have hm : mo = 0 ∨ mo = 1 := by omega
  rcases hm with rfl | rfl
  · by_cases h2 : a < n
    · have hv := hr a h2
      cases ht : f.testBit a with
      | true =>
        rw [ht, if_pos rfl] at hv
        refine ⟨y, hy, ?_, fun h => ⟨rfl, fun _ => rfl, y0 h⟩, fun h => Or.inr (Or.inr (y1 h))⟩
        simp (disch := first | omega | exact nM1_n | exact nM2_n | assumption) only [l_X11_reaches_154, b_X11_reaches_154, h3, hv, ↓nLetR, ↓reduceIte, ↓e_m1, ↓e_m2, e_0, e_1, e_2, e_3, e_4, e_5, e_6, e_7, e_8, e_9, e_10, e_11, e_12, e_13, e_14, e_15, e_16, e_17, e_18, e_19, e_20, e_21, e_22, e_23, e_24, e_25, e_26, e_27, e_28, e_29, e_30, e_31, e_32, e_33, e_48, e_57, e_59, e_60, e_63, e_64, e_96, e_97, e_99, e_120, e_122, e_192, e_200, e_255, e_256, e_300, e_500, e_600, e_2000, e_5000, e_5240, e_6146, e_20000, e_65536, nIo, nI_clamp, nIxt, nI_1, nI_add, nI_mul, nI_eqF, nI_ltT, nI_ltF, nI_leT, nI_leF, nN_lt0, nN_le, nN_lt, nN_eq, nN_eq', eq_self, nBdS]
        exact e
      | false =>
        rw [ht, if_neg (by decide)] at hv
        refine ⟨1, by decide, ?_, fun h => absurd h (by decide), fun _ => Or.inr (Or.inl ⟨h2, rfl⟩)⟩
        simp (disch := first | omega | exact nM1_n | exact nM2_n | assumption) only [l_X11_reaches_154, l_X11_reaches_202, b_X11_reaches_202, b_X11_reaches_154, h3, hv, ↓nLetR, ↓reduceIte, ↓e_m1, ↓e_m2, e_0, e_1, e_2, e_3, e_4, e_5, e_6, e_7, e_8, e_9, e_10, e_11, e_12, e_13, e_14, e_15, e_16, e_17, e_18, e_19, e_20, e_21, e_22, e_23, e_24, e_25, e_26, e_27, e_28, e_29, e_30, e_31, e_32, e_33, e_48, e_57, e_59, e_60, e_63, e_64, e_96, e_97, e_99, e_120, e_122, e_192, e_200, e_255, e_256, e_300, e_500, e_600, e_2000, e_5000, e_5240, e_6146, e_20000, e_65536, nIo, nI_clamp, nIxt, nI_1, nI_add, nI_mul, nI_eqF, nI_ltT, nI_ltF, nI_leT, nI_leF, nN_lt0, nN_le, nN_lt, nN_eq, nN_eq', eq_self, nBdS]
        exact q1
    · refine ⟨y, hy, ?_, fun h => ⟨rfl, fun h3 => absurd h3 h2, y0 h⟩, fun h => Or.inr (Or.inr (y1 h))⟩
      simp (disch := first | omega | exact nM1_n | exact nM2_n | assumption) only [l_X11_reaches_154, b_X11_reaches_154, h3, ↓nLetR, ↓reduceIte, ↓e_m1, ↓e_m2, e_0, e_1, e_2, e_3, e_4, e_5, e_6, e_7, e_8, e_9, e_10, e_11, e_12, e_13, e_14, e_15, e_16, e_17, e_18, e_19, e_20, e_21, e_22, e_23, e_24, e_25, e_26, e_27, e_28, e_29, e_30, e_31, e_32, e_33, e_48, e_57, e_59, e_60, e_63, e_64, e_96, e_97, e_99, e_120, e_122, e_192, e_200, e_255, e_256, e_300, e_500, e_600, e_2000, e_5000, e_5240, e_6146, e_20000, e_65536, nIo, nI_clamp, nIxt, nI_1, nI_add, nI_mul, nI_eqF, nI_ltT, nI_ltF, nI_leT, nI_leF, nN_lt0, nN_le, nN_lt, nN_eq, nN_eq', eq_self, nBdS]
      exact e
  · refine ⟨1, by decide, ?_, fun h => absurd h (by decide), fun _ => Or.inl rfl⟩
    simp (disch := first | omega | exact nM1_n | exact nM2_n | assumption) only [l_X11_reaches_154, l_X11_reaches_202, b_X11_reaches_202, b_X11_reaches_154, h3, ↓nLetR, ↓reduceIte, ↓e_m1, ↓e_m2, e_0, e_1, e_2, e_3, e_4, e_5, e_6, e_7, e_8, e_9, e_10, e_11, e_12, e_13, e_14, e_15, e_16, e_17, e_18, e_19, e_20, e_21, e_22, e_23, e_24, e_25, e_26, e_27, e_28, e_29, e_30, e_31, e_32, e_33, e_48, e_57, e_59, e_60, e_63, e_64, e_96, e_97, e_99, e_120, e_122, e_192, e_200, e_255, e_256, e_300, e_500, e_600, e_2000, e_5000, e_5240, e_6146, e_20000, e_65536, nIo, nI_clamp, nIxt, nI_1, nI_add, nI_mul, nI_eqF, nI_ltT, nI_ltF, nI_leT, nI_leF, nN_lt0, nN_le, nN_lt, nN_eq, nN_eq', eq_self, nBdS]
    exact q1
/-- a step: where it leads -/
def sL (N F S b n k : Nat) (σ τ : nS) (a c : Nat) : Prop :=
  a ≤ n ∧ c ≤ n ∧ (∀ f, f < 2 ^ 25 → f.testBit k = true → ∃ x, f_X7_nextOf N (nI b) (nI k) σ = some (nI x, σ) ∧ f ||| x = f ||| 2 ^ a ||| 2 ^ c) ∧
  ∀ (k31 : nS → Int32 → Int32 → Option (Int32 × nS)) (again : nS → Int32 → Int32 → Int32 → Option (Int32 × nS)) (mo : Int32) (τ1 : nS), (∀ d, d ≠ 21 → τ1.1 d = τ.1 d) → τ1.1 21 k = nI 1 →
    b_X11_reaches_39 N k31 (l_X11_reaches_129 N (l_X11_reaches_246 N again)) (l_X11_reaches_246 N again) τ1 (nI b) mo (nI k) = l_X11_reaches_154 N (l_X11_reaches_246 N again) τ1 (nI b) mo (nI k) (nI a) (nI c)
theorem sL_is {N F S b n k : Nat} {σ τ : nS} (hB : hBk F S b n σ τ) (hk : k < n) : ∃ a c, sL N F S b n k σ τ a c := by
  obtain ⟨hb, ⟨hn1, hn2⟩, z1, z2, hst⟩ := hB
  obtain ⟨⟨c0, c1, c2, c3, c4⟩, hs⟩ := hst k hk
  have e0 := cell_is0 (N := N) (σ := σ) (b := b) (k := k) hb (by omega)
  have e1 := cell_is (N := N) (σ := σ) (b := b) (k := k) (j := 1) hb (by omega) (by decide)
  have e2 := cell_is (N := N) (σ := σ) (b := b) (k := k) (j := 2) hb (by omega) (by decide)
  have e3 := cell_is (N := N) (σ := σ) (b := b) (k := k) (j := 3) hb (by omega) (by decide)
  rw [c0] at e0
  rw [c1] at e1
  rw [c2] at e2
  rw [c3] at e3
  rcases hs with ⟨hkd, _⟩ | ⟨hkd, _, ⟨t, ht, et⟩, ⟨h, hh, eh⟩⟩ | ⟨hkd, _⟩ | ⟨hkd, o, ho, eo⟩ | hkd
  · refine ⟨k + 1, k + 1, by omega, by omega, fun f hf hbit => ⟨2 ^ (k + 1), ?_, ?_⟩, fun k31 again mo τ1 hτ h21 => ?_⟩
    · rcases hkd with hkd | hkd
      · simp (disch := first | omega | exact nM1_n | exact nM2_n | assumption) only [b_X7_nextOf_0, l_X7_nextOf_0, f_X7_nextOf, e0, hkd, shl_is, ↓nLetR, ↓reduceIte, ↓e_m1, ↓e_m2, e_0, e_1, e_2, e_3, e_4, e_5, e_6, e_7, e_8, e_9, e_10, e_11, e_12, e_13, e_14, e_15, e_16, e_17, e_18, e_19, e_20, e_21, e_22, e_23, e_24, e_25, e_26, e_27, e_28, e_29, e_30, e_31, e_32, e_33, e_48, e_57, e_59, e_60, e_63, e_64, e_96, e_97, e_99, e_120, e_122, e_192, e_200, e_255, e_256, e_300, e_500, e_600, e_2000, e_5000, e_5240, e_6146, e_20000, e_65536, nIo, nI_clamp, nIxt, nI_1, nI_add, nI_mul, nI_eqF, nI_ltT, nI_ltF, nI_leT, nI_leF, nN_lt0, nN_le, nN_lt, nN_eq, nN_eq', eq_self, nBdS]
      · simp (disch := first | omega | exact nM1_n | exact nM2_n | assumption) only [b_X7_nextOf_0, l_X7_nextOf_0, f_X7_nextOf, e0, hkd, shl_is, ↓nLetR, ↓reduceIte, ↓e_m1, ↓e_m2, e_0, e_1, e_2, e_3, e_4, e_5, e_6, e_7, e_8, e_9, e_10, e_11, e_12, e_13, e_14, e_15, e_16, e_17, e_18, e_19, e_20, e_21, e_22, e_23, e_24, e_25, e_26, e_27, e_28, e_29, e_30, e_31, e_32, e_33, e_48, e_57, e_59, e_60, e_63, e_64, e_96, e_97, e_99, e_120, e_122, e_192, e_200, e_255, e_256, e_300, e_500, e_600, e_2000, e_5000, e_5240, e_6146, e_20000, e_65536, nIo, nI_clamp, nIxt, nI_1, nI_add, nI_mul, nI_eqF, nI_ltT, nI_ltF, nI_leT, nI_leF, nN_lt0, nN_le, nN_lt, nN_eq, nN_eq', eq_self, nBdS]
    · exact (or_bit (by rw [or_tb, decide_eq_true rfl, Bool.or_true])).symm
    · rcases hkd with hkd | hkd
      · simp (disch := first | omega | exact nM1_n | exact nM2_n | assumption) only [b_X11_reaches_39, l_X11_reaches_129, b_X11_reaches_129, h21, hτ 3 (by decide), hτ 4 (by decide), hτ 5 (by decide), hτ 6 (by decide), hτ 7 (by decide), z2, hkd, ↓nLetR, ↓reduceIte, ↓e_m1, ↓e_m2, e_0, e_1, e_2, e_3, e_4, e_5, e_6, e_7, e_8, e_9, e_10, e_11, e_12, e_13, e_14, e_15, e_16, e_17, e_18, e_19, e_20, e_21, e_22, e_23, e_24, e_25, e_26, e_27, e_28, e_29, e_30, e_31, e_32, e_33, e_48, e_57, e_59, e_60, e_63, e_64, e_96, e_97, e_99, e_120, e_122, e_192, e_200, e_255, e_256, e_300, e_500, e_600, e_2000, e_5000, e_5240, e_6146, e_20000, e_65536, nIo, nI_clamp, nIxt, nI_1, nI_add, nI_mul, nI_eqF, nI_ltT, nI_ltF, nI_leT, nI_leF, nN_lt0, nN_le, nN_lt, nN_eq, nN_eq', eq_self, nBdS]
      · simp (disch := first | omega | exact nM1_n | exact nM2_n | assumption) only [b_X11_reaches_39, l_X11_reaches_129, b_X11_reaches_129, h21, hτ 3 (by decide), hτ 4 (by decide), hτ 5 (by decide), hτ 6 (by decide), hτ 7 (by decide), z2, hkd, ↓nLetR, ↓reduceIte, ↓e_m1, ↓e_m2, e_0, e_1, e_2, e_3, e_4, e_5, e_6, e_7, e_8, e_9, e_10, e_11, e_12, e_13, e_14, e_15, e_16, e_17, e_18, e_19, e_20, e_21, e_22, e_23, e_24, e_25, e_26, e_27, e_28, e_29, e_30, e_31, e_32, e_33, e_48, e_57, e_59, e_60, e_63, e_64, e_96, e_97, e_99, e_120, e_122, e_192, e_200, e_255, e_256, e_300, e_500, e_600, e_2000, e_5000, e_5240, e_6146, e_20000, e_65536, nIo, nI_clamp, nIxt, nI_1, nI_add, nI_mul, nI_eqF, nI_ltT, nI_ltF, nI_leT, nI_leF, nN_lt0, nN_le, nN_lt, nN_eq, nN_eq', eq_self, nBdS]
  · refine ⟨t, h, by omega, by omega, fun f hf hbit => ⟨2 ^ t ||| 2 ^ h, ?_, ?_⟩, fun k31 again mo τ1 hτ h21 => ?_⟩
    · simp (disch := first | omega | exact nM1_n | exact nM2_n | assumption) only [b_X7_nextOf_0, l_X7_nextOf_0, f_X7_nextOf, e0, e2, e3, et, eh, hkd, shl_is, nI_or, ↓nLetR, ↓reduceIte, ↓e_m1, ↓e_m2, e_0, e_1, e_2, e_3, e_4, e_5, e_6, e_7, e_8, e_9, e_10, e_11, e_12, e_13, e_14, e_15, e_16, e_17, e_18, e_19, e_20, e_21, e_22, e_23, e_24, e_25, e_26, e_27, e_28, e_29, e_30, e_31, e_32, e_33, e_48, e_57, e_59, e_60, e_63, e_64, e_96, e_97, e_99, e_120, e_122, e_192, e_200, e_255, e_256, e_300, e_500, e_600, e_2000, e_5000, e_5240, e_6146, e_20000, e_65536, nIo, nI_clamp, nIxt, nI_1, nI_add, nI_mul, nI_eqF, nI_ltT, nI_ltF, nI_leT, nI_leF, nN_lt0, nN_le, nN_lt, nN_eq, nN_eq', eq_self, nBdS]
    · exact (Nat.or_assoc f (2 ^ t) (2 ^ h)).symm
    · simp (disch := first | omega | exact nM1_n | exact nM2_n | assumption) only [b_X11_reaches_39, l_X11_reaches_129, b_X11_reaches_129, h21, hτ 3 (by decide), hτ 4 (by decide), hτ 5 (by decide), hτ 6 (by decide), hτ 7 (by decide), z2, hkd, et, eh, ↓nLetR, ↓reduceIte, ↓e_m1, ↓e_m2, e_0, e_1, e_2, e_3, e_4, e_5, e_6, e_7, e_8, e_9, e_10, e_11, e_12, e_13, e_14, e_15, e_16, e_17, e_18, e_19, e_20, e_21, e_22, e_23, e_24, e_25, e_26, e_27, e_28, e_29, e_30, e_31, e_32, e_33, e_48, e_57, e_59, e_60, e_63, e_64, e_96, e_97, e_99, e_120, e_122, e_192, e_200, e_255, e_256, e_300, e_500, e_600, e_2000, e_5000, e_5240, e_6146, e_20000, e_65536, nIo, nI_clamp, nIxt, nI_1, nI_add, nI_mul, nI_eqF, nI_ltT, nI_ltF, nI_leT, nI_leF, nN_lt0, nN_le, nN_lt, nN_eq, nN_eq', eq_self, nBdS]
  · refine ⟨k + 1, k + 1, by omega, by omega, fun f hf hbit => ⟨2 ^ (k + 1), ?_, ?_⟩, fun k31 again mo τ1 hτ h21 => ?_⟩
    · simp (disch := first | omega | exact nM1_n | exact nM2_n | assumption) only [b_X7_nextOf_0, l_X7_nextOf_0, f_X7_nextOf, e0, hkd, shl_is, ↓nLetR, ↓reduceIte, ↓e_m1, ↓e_m2, e_0, e_1, e_2, e_3, e_4, e_5, e_6, e_7, e_8, e_9, e_10, e_11, e_12, e_13, e_14, e_15, e_16, e_17, e_18, e_19, e_20, e_21, e_22, e_23, e_24, e_25, e_26, e_27, e_28, e_29, e_30, e_31, e_32, e_33, e_48, e_57, e_59, e_60, e_63, e_64, e_96, e_97, e_99, e_120, e_122, e_192, e_200, e_255, e_256, e_300, e_500, e_600, e_2000, e_5000, e_5240, e_6146, e_20000, e_65536, nIo, nI_clamp, nIxt, nI_1, nI_add, nI_mul, nI_eqF, nI_ltT, nI_ltF, nI_leT, nI_leF, nN_lt0, nN_le, nN_lt, nN_eq, nN_eq', eq_self, nBdS]
    · exact (or_bit (by rw [or_tb, decide_eq_true rfl, Bool.or_true])).symm
    · simp (disch := first | omega | exact nM1_n | exact nM2_n | assumption) only [b_X11_reaches_39, l_X11_reaches_129, b_X11_reaches_129, h21, hτ 3 (by decide), hτ 4 (by decide), hτ 5 (by decide), hτ 6 (by decide), hτ 7 (by decide), z2, hkd, ↓nLetR, ↓reduceIte, ↓e_m1, ↓e_m2, e_0, e_1, e_2, e_3, e_4, e_5, e_6, e_7, e_8, e_9, e_10, e_11, e_12, e_13, e_14, e_15, e_16, e_17, e_18, e_19, e_20, e_21, e_22, e_23, e_24, e_25, e_26, e_27, e_28, e_29, e_30, e_31, e_32, e_33, e_48, e_57, e_59, e_60, e_63, e_64, e_96, e_97, e_99, e_120, e_122, e_192, e_200, e_255, e_256, e_300, e_500, e_600, e_2000, e_5000, e_5240, e_6146, e_20000, e_65536, nIo, nI_clamp, nIxt, nI_1, nI_add, nI_mul, nI_eqF, nI_ltT, nI_ltF, nI_leT, nI_leF, nN_lt0, nN_le, nN_lt, nN_eq, nN_eq', eq_self, nBdS]
  · refine ⟨o, o, by omega, by omega, fun f hf hbit => ⟨2 ^ o, ?_, ?_⟩, fun k31 again mo τ1 hτ h21 => ?_⟩
    · simp (disch := first | omega | exact nM1_n | exact nM2_n | assumption) only [b_X7_nextOf_0, l_X7_nextOf_0, f_X7_nextOf, e0, e1, eo, hkd, shl_is, ↓nLetR, ↓reduceIte, ↓e_m1, ↓e_m2, e_0, e_1, e_2, e_3, e_4, e_5, e_6, e_7, e_8, e_9, e_10, e_11, e_12, e_13, e_14, e_15, e_16, e_17, e_18, e_19, e_20, e_21, e_22, e_23, e_24, e_25, e_26, e_27, e_28, e_29, e_30, e_31, e_32, e_33, e_48, e_57, e_59, e_60, e_63, e_64, e_96, e_97, e_99, e_120, e_122, e_192, e_200, e_255, e_256, e_300, e_500, e_600, e_2000, e_5000, e_5240, e_6146, e_20000, e_65536, nIo, nI_clamp, nIxt, nI_1, nI_add, nI_mul, nI_eqF, nI_ltT, nI_ltF, nI_leT, nI_leF, nN_lt0, nN_le, nN_lt, nN_eq, nN_eq', eq_self, nBdS]
    · exact (or_bit (by rw [or_tb, decide_eq_true rfl, Bool.or_true])).symm
    · simp (disch := first | omega | exact nM1_n | exact nM2_n | assumption) only [b_X11_reaches_39, l_X11_reaches_129, b_X11_reaches_129, h21, hτ 3 (by decide), hτ 4 (by decide), hτ 5 (by decide), hτ 6 (by decide), hτ 7 (by decide), z2, hkd, eo, ↓nLetR, ↓reduceIte, ↓e_m1, ↓e_m2, e_0, e_1, e_2, e_3, e_4, e_5, e_6, e_7, e_8, e_9, e_10, e_11, e_12, e_13, e_14, e_15, e_16, e_17, e_18, e_19, e_20, e_21, e_22, e_23, e_24, e_25, e_26, e_27, e_28, e_29, e_30, e_31, e_32, e_33, e_48, e_57, e_59, e_60, e_63, e_64, e_96, e_97, e_99, e_120, e_122, e_192, e_200, e_255, e_256, e_300, e_500, e_600, e_2000, e_5000, e_5240, e_6146, e_20000, e_65536, nIo, nI_clamp, nIxt, nI_1, nI_add, nI_mul, nI_eqF, nI_ltT, nI_ltF, nI_leT, nI_leF, nN_lt0, nN_le, nN_lt, nN_eq, nN_eq', eq_self, nBdS]
  · refine ⟨k, k, by omega, by omega, fun f hf hbit => ⟨0, ?_, ?_⟩, fun k31 again mo τ1 hτ h21 => ?_⟩
    · simp (disch := first | omega | exact nM1_n | exact nM2_n | assumption) only [b_X7_nextOf_0, l_X7_nextOf_0, f_X7_nextOf, e0, hkd, ↓nLetR, ↓reduceIte, ↓e_m1, ↓e_m2, e_0, e_1, e_2, e_3, e_4, e_5, e_6, e_7, e_8, e_9, e_10, e_11, e_12, e_13, e_14, e_15, e_16, e_17, e_18, e_19, e_20, e_21, e_22, e_23, e_24, e_25, e_26, e_27, e_28, e_29, e_30, e_31, e_32, e_33, e_48, e_57, e_59, e_60, e_63, e_64, e_96, e_97, e_99, e_120, e_122, e_192, e_200, e_255, e_256, e_300, e_500, e_600, e_2000, e_5000, e_5240, e_6146, e_20000, e_65536, nIo, nI_clamp, nIxt, nI_1, nI_add, nI_mul, nI_eqF, nI_ltT, nI_ltF, nI_leT, nI_leF, nN_lt0, nN_le, nN_lt, nN_eq, nN_eq', eq_self, nBdS]
    · rw [or_bit hbit, or_bit hbit, Nat.or_zero]
    · simp (disch := first | omega | exact nM1_n | exact nM2_n | assumption) only [b_X11_reaches_39, l_X11_reaches_129, b_X11_reaches_129, h21, hτ 3 (by decide), hτ 4 (by decide), hτ 5 (by decide), hτ 6 (by decide), hτ 7 (by decide), z2, hkd, ↓nLetR, ↓reduceIte, ↓e_m1, ↓e_m2, e_0, e_1, e_2, e_3, e_4, e_5, e_6, e_7, e_8, e_9, e_10, e_11, e_12, e_13, e_14, e_15, e_16, e_17, e_18, e_19, e_20, e_21, e_22, e_23, e_24, e_25, e_26, e_27, e_28, e_29, e_30, e_31, e_32, e_33, e_48, e_57, e_59, e_60, e_63, e_64, e_96, e_97, e_99, e_120, e_122, e_192, e_200, e_255, e_256, e_300, e_500, e_600, e_2000, e_5000, e_5240, e_6146, e_20000, e_65536, nIo, nI_clamp, nIxt, nI_1, nI_add, nI_mul, nI_eqF, nI_ltT, nI_ltF, nI_leT, nI_leF, nN_lt0, nN_le, nN_lt, nN_eq, nN_eq', eq_self, nBdS]
def pI (F S b n : Nat) (σ τ0 : nS) (f0 f k : Nat) (τ : nS) (mo : Nat) : Prop :=
  f < 2 ^ 25 ∧ rB f n τ ∧ (∀ d, d ≠ 21 → τ.1 d = τ0.1 d) ∧ mo < 2 ∧ (∀ i, f0.testBit i = true → f.testBit i = true) ∧
  (mo = 0 → (∀ i, i < n → f.testBit i = f0.testBit i) ∧ ∀ j, j < k → f.testBit j = true → ∀ N a c, sL N F S b n j σ τ0 a c → f.testBit a = true ∧ f.testBit c = true) ∧
  (mo = 1 → ∃ i, i < n ∧ f0.testBit i = false ∧ f.testBit i = true)
theorem fin_n {N n f f0 r : Nat} {σ : nS} {b : Int32} (k11 : nS → Int32 → Int32 → Int32 → Int32 → Option (Int32 × nS)) (hn : n ≤ 24) (hf : f < 2 ^ 25) (hf0 : f0 < 2 ^ 25) (hr : r ≤ 24) (k50 : nS → Int32 → Int32 → Int32 → Int32 → Int32 → Int32 → Option (Int32 × nS)) :
    b_X7_reached_24 N k11 k50 σ b (nI n) (nI f) (nI r) (nI f0) (nI n) = if f = f0 then some (nI (f % 2 ^ n), σ) else k11 σ b (nI n) (nI f) (nI (r + 1)) := by
  have hp : 1 ≤ 2 ^ n := Nat.one_le_two_pow
  have hs : nI (2 ^ n) - nI 1 = nI (2 ^ n - 1) := nI_subn _ _ hp
  by_cases e : f = f0
  · subst e
    rw [if_pos rfl]
    have hm : nI f &&& ((nI 1 <<< (nI n &&& nI 31)) - nI 1) = nI (f % 2 ^ n) := by rw [shl_is n (by omega), hs, nI_and, Nat.and_two_pow_sub_one_eq_mod]
    simp (disch := first | omega | exact nM1_n | exact nM2_n | assumption) only [b_X7_reached_24, hm, ↓nLetR, ↓reduceIte, ↓e_m1, ↓e_m2, e_0, e_1, e_2, e_3, e_4, e_5, e_6, e_7, e_8, e_9, e_10, e_11, e_12, e_13, e_14, e_15, e_16, e_17, e_18, e_19, e_20, e_21, e_22, e_23, e_24, e_25, e_26, e_27, e_28, e_29, e_30, e_31, e_32, e_33, e_48, e_57, e_59, e_60, e_63, e_64, e_96, e_97, e_99, e_120, e_122, e_192, e_200, e_255, e_256, e_300, e_500, e_600, e_2000, e_5000, e_5240, e_6146, e_20000, e_65536, nIo, nI_clamp, nIxt, nI_1, nI_add, nI_mul, nI_eqF, nI_ltT, nI_ltF, nI_leT, nI_leF, nN_lt0, nN_le, nN_lt, nN_eq, nN_eq', eq_self, nBdS]
  · rw [if_neg e]
    simp (disch := first | omega | exact nM1_n | exact nM2_n | assumption) only [b_X7_reached_24, ↓nLetR, ↓reduceIte, ↓e_m1, ↓e_m2, e_0, e_1, e_2, e_3, e_4, e_5, e_6, e_7, e_8, e_9, e_10, e_11, e_12, e_13, e_14, e_15, e_16, e_17, e_18, e_19, e_20, e_21, e_22, e_23, e_24, e_25, e_26, e_27, e_28, e_29, e_30, e_31, e_32, e_33, e_48, e_57, e_59, e_60, e_63, e_64, e_96, e_97, e_99, e_120, e_122, e_192, e_200, e_255, e_256, e_300, e_500, e_600, e_2000, e_5000, e_5240, e_6146, e_20000, e_65536, nIo, nI_clamp, nIxt, nI_1, nI_add, nI_mul, nI_eqF, nI_ltT, nI_ltF, nI_leT, nI_leF, nN_lt0, nN_le, nN_lt, nN_eq, nN_eq', eq_self, nBdS]
theorem in_go (N F S b n : Nat) (σ τ0 : nS) (hB : hBk F S b n σ τ0) (k11 : nS → Int32 → Int32 → Int32 → Int32 → Option (Int32 × nS)) (k31 : nS → Int32 → Int32 → Option (Int32 × nS)) (f0 r : Nat) (hf0 : f0 < 2 ^ 25) (hr : r ≤ 24) : ∀ d k m m' f mo τ, k + d = n → d < m → d < m' → pI F S b n σ τ0 f0 f k τ mo →
    ∃ f' mo' τ', nLp (fun _ _ _ _ _ _ _ => none) (fun again => b_X7_reached_24 N k11 (l_X7_reached_50 N again)) m σ (nI b) (nI n) (nI f) (nI r) (nI f0) (nI k) = (if f' = f0 then some (nI (f' % 2 ^ n), σ) else k11 σ (nI b) (nI n) (nI f') (nI (r + 1))) ∧
      nLp (fun _ _ _ _ => none) (fun again => b_X11_reaches_39 N k31 (l_X11_reaches_129 N (l_X11_reaches_246 N again)) (l_X11_reaches_246 N again)) m' τ (nI b) (nI mo) (nI k) = k31 τ' (nI b) (nI mo') ∧ pI F S b n σ τ0 f0 f' n τ' mo' := by
  obtain ⟨hb, ⟨hn1, hn2⟩, z1, z2, hst⟩ := id hB
  intro d
  induction d with
  | zero =>
    intro k m m' f mo τ hk hm hm' hI
    have hkn : k = n := by omega
    subst hkn
    refine ⟨f, mo, τ, ?_, ?_, hI⟩
    · rw [nLpP _ _ hm]
      exact fin_n k11 hn2 hI.1 hf0 hr _
    · rw [nLpP _ _ hm']
      have h3 : τ.1 3 b = nI k := by rw [hI.2.2.1 3 (by decide)]; exact z2
      simp (disch := first | omega | exact nM1_n | exact nM2_n | assumption) only [b_X11_reaches_39, h3, ↓nLetR, ↓reduceIte, ↓e_m1, ↓e_m2, e_0, e_1, e_2, e_3, e_4, e_5, e_6, e_7, e_8, e_9, e_10, e_11, e_12, e_13, e_14, e_15, e_16, e_17, e_18, e_19, e_20, e_21, e_22, e_23, e_24, e_25, e_26, e_27, e_28, e_29, e_30, e_31, e_32, e_33, e_48, e_57, e_59, e_60, e_63, e_64, e_96, e_97, e_99, e_120, e_122, e_192, e_200, e_255, e_256, e_300, e_500, e_600, e_2000, e_5000, e_5240, e_6146, e_20000, e_65536, nIo, nI_clamp, nIxt, nI_1, nI_add, nI_mul, nI_eqF, nI_ltT, nI_ltF, nI_leT, nI_leF, nN_lt0, nN_le, nN_lt, nN_eq, nN_eq', eq_self, nBdS]
  | succ d ih =>
    intro k m m' f mo τ hk hm hm' hI
    obtain ⟨i1, i2, i3, i4, i5, i6, i7⟩ := id hI
    have h3 : τ.1 3 b = nI n := by rw [i3 3 (by decide)]; exact z2
    have h21 := i2 k (by omega)
    have hsh := shr_is f k (by omega)
    cases ht : f.testBit k with
    | false =>
      rw [ht, if_neg (by decide)] at h21 hsh
      have hI' : pI F S b n σ τ0 f0 f (k + 1) τ mo := by
        refine ⟨i1, i2, i3, i4, i5, fun h => ⟨(i6 h).1, fun j hj hb2 => ?_⟩, i7⟩
        by_cases e : j = k
        · subst e; rw [ht] at hb2; cases hb2
        · exact (i6 h).2 j (by omega) hb2
      obtain ⟨f', mo', τ', g1, g2, g3⟩ := ih (k + 1) (m - 1) (m' - 1) f mo τ (by omega) (by omega) (by omega) hI'
      refine ⟨f', mo', τ', ?_, ?_, g3⟩
      · rw [nLpP _ _ (by omega)]
        simp (disch := first | omega | exact nM1_n | exact nM2_n | assumption) only [b_X7_reached_24, l_X7_reached_50, b_X7_reached_50, hsh, ↓nLetR, ↓reduceIte, ↓e_m1, ↓e_m2, e_0, e_1, e_2, e_3, e_4, e_5, e_6, e_7, e_8, e_9, e_10, e_11, e_12, e_13, e_14, e_15, e_16, e_17, e_18, e_19, e_20, e_21, e_22, e_23, e_24, e_25, e_26, e_27, e_28, e_29, e_30, e_31, e_32, e_33, e_48, e_57, e_59, e_60, e_63, e_64, e_96, e_97, e_99, e_120, e_122, e_192, e_200, e_255, e_256, e_300, e_500, e_600, e_2000, e_5000, e_5240, e_6146, e_20000, e_65536, nIo, nI_clamp, nIxt, nI_1, nI_add, nI_mul, nI_eqF, nI_ltT, nI_ltF, nI_leT, nI_leF, nN_lt0, nN_le, nN_lt, nN_eq, nN_eq', eq_self, nBdS]
        exact g1
      · rw [nLpP _ _ (by omega)]
        simp (disch := first | omega | exact nM1_n | exact nM2_n | assumption) only [b_X11_reaches_39, l_X11_reaches_246, b_X11_reaches_246, h3, h21, ↓nLetR, ↓reduceIte, ↓e_m1, ↓e_m2, e_0, e_1, e_2, e_3, e_4, e_5, e_6, e_7, e_8, e_9, e_10, e_11, e_12, e_13, e_14, e_15, e_16, e_17, e_18, e_19, e_20, e_21, e_22, e_23, e_24, e_25, e_26, e_27, e_28, e_29, e_30, e_31, e_32, e_33, e_48, e_57, e_59, e_60, e_63, e_64, e_96, e_97, e_99, e_120, e_122, e_192, e_200, e_255, e_256, e_300, e_500, e_600, e_2000, e_5000, e_5240, e_6146, e_20000, e_65536, nIo, nI_clamp, nIxt, nI_1, nI_add, nI_mul, nI_eqF, nI_ltT, nI_ltF, nI_leT, nI_leF, nN_lt0, nN_le, nN_lt, nN_eq, nN_eq', eq_self, nBdS]
        exact g2
    | true =>
      rw [ht, if_pos rfl] at h21 hsh
      obtain ⟨a, c, hs⟩ := sL_is (N := N) hB (show k < n by omega)
      obtain ⟨ha, hc, hx, hy⟩ := id hs
      obtain ⟨x, ex, ex2⟩ := hx f i1 ht
      obtain ⟨y, hy2, ey, y0, y1⟩ := s154 (N := N) (nLp (fun _ _ _ _ => none) (fun again => b_X11_reaches_39 N k31 (l_X11_reaches_129 N (l_X11_reaches_246 N again)) (l_X11_reaches_246 N again)) (m' - 1)) hb hn2 ha hc (show k < 24 by omega) h3 i2 i4
      have hI' : pI F S b n σ τ0 f0 (f ||| 2 ^ a ||| 2 ^ c) (k + 1) (mS (mS τ n a) n c) y := by
        refine ⟨or_lt (or_lt i1 (by omega)) (by omega), i2.set.set, fun d hd => ?_, hy2, fun i hi => ?_, fun h => ?_, fun h => ?_⟩
        · rw [mS_1 hd, mS_1 hd]; exact i3 d hd
        · rw [or_tb, or_tb, i5 i hi]; rfl
        · obtain ⟨m0, qa, qc⟩ := y0 h
          obtain ⟨j1, j2⟩ := i6 m0
          have hsame : ∀ i, i < n → (f ||| 2 ^ a ||| 2 ^ c).testBit i = f.testBit i := by
            intro i hi
            rw [or_tb, or_tb]
            by_cases e1 : a = i
            · rw [← e1, qa (by omega)]; simp
            · by_cases e2 : c = i
              · rw [← e2, qc (by omega)]; simp
              · rw [decide_eq_false e1, decide_eq_false e2, Bool.or_false, Bool.or_false]
          have hup : ∀ i, f.testBit i = true → (f ||| 2 ^ a ||| 2 ^ c).testBit i = true := fun i hi => by rw [or_tb, or_tb, hi]; rfl
          refine ⟨fun i hi => (hsame i hi).trans (j1 i hi), fun j hj hb2 N' a' c' hs' => ?_⟩
          rw [hsame j (by omega)] at hb2
          by_cases e : j = k
          · subst e
            obtain ⟨x', ex', ex2'⟩ := hs'.2.2.1 f i1 ht
            have hkey : f ||| 2 ^ a ||| 2 ^ c = f ||| 2 ^ a' ||| 2 ^ c' := by
              have hx0 : f_X7_nextOf N (nI b) (nI j) σ = f_X7_nextOf N' (nI b) (nI j) σ := rfl
              rw [ex, ex'] at hx0
              have hx1 : nI x = nI x' := by injection hx0 with hx0; injection hx0
              have hx2 : nI (f ||| x) = nI (f ||| x') := by rw [← nI_or, ← nI_or, hx1]
              rw [ex2, ex2'] at hx2
              have l1 : f ||| 2 ^ a ||| 2 ^ c < 2 ^ 25 := or_lt (or_lt i1 (by omega)) (by omega)
              have l2 : f ||| 2 ^ a' ||| 2 ^ c' < 2 ^ 25 := or_lt (or_lt i1 (by have := hs'.1; omega)) (by have := hs'.2.1; omega)
              exact (nI_eq (by omega) (by omega)).mp hx2
            rw [hkey]
            rw [or_tb, or_tb, or_tb, or_tb, decide_eq_true (rfl : a' = a'), decide_eq_true (rfl : c' = c')]
            simp
          · obtain ⟨u1, u2⟩ := j2 j (by omega) hb2 N' a' c' hs'
            exact ⟨hup _ u1, hup _ u2⟩
        · rcases y1 h with h | ⟨h1, h2⟩ | ⟨h1, h2⟩
          · obtain ⟨i, w1, w2, w3⟩ := i7 h
            exact ⟨i, w1, w2, by rw [or_tb, or_tb, w3]; rfl⟩
          · refine ⟨a, h1, ?_, by rw [or_tb, or_tb]; simp⟩
            cases h5 : f0.testBit a with
            | false => rfl
            | true => rw [i5 a h5] at h2; cases h2
          · refine ⟨c, h1, ?_, by rw [or_tb, or_tb]; simp⟩
            cases h5 : f0.testBit c with
            | false => rfl
            | true => rw [i5 c h5] at h2; cases h2
      obtain ⟨f', mo', τ', g1, g2, g3⟩ := ih (k + 1) (m - 1) (m' - 1) _ y _ (by omega) (by omega) (by omega) hI'
      refine ⟨f', mo', τ', ?_, ?_, g3⟩
      · rw [nLpP _ _ (by omega)]
        simp (disch := first | omega | exact nM1_n | exact nM2_n | assumption) only [b_X7_reached_24, l_X7_reached_50, b_X7_reached_50, hsh, ex, nI_or, ex2, ↓nLetR, ↓reduceIte, ↓e_m1, ↓e_m2, e_0, e_1, e_2, e_3, e_4, e_5, e_6, e_7, e_8, e_9, e_10, e_11, e_12, e_13, e_14, e_15, e_16, e_17, e_18, e_19, e_20, e_21, e_22, e_23, e_24, e_25, e_26, e_27, e_28, e_29, e_30, e_31, e_32, e_33, e_48, e_57, e_59, e_60, e_63, e_64, e_96, e_97, e_99, e_120, e_122, e_192, e_200, e_255, e_256, e_300, e_500, e_600, e_2000, e_5000, e_5240, e_6146, e_20000, e_65536, nIo, nI_clamp, nIxt, nI_1, nI_add, nI_mul, nI_eqF, nI_ltT, nI_ltF, nI_leT, nI_leF, nN_lt0, nN_le, nN_lt, nN_eq, nN_eq', eq_self, nBdS]
        exact g1
      · rw [nLpP _ _ (by omega), hy k31 _ (nI mo) τ i3 h21]
        exact ey.trans g2
/-- a row that leads nowhere else -/
theorem cl_go (N F S b n : Nat) (σ τ0 : nS) (hB : hBk F S b n σ τ0) (k11 : nS → Int32 → Int32 → Int32 → Int32 → Option (Int32 × nS)) (f r : Nat) (hf : f < 2 ^ 25) (hr : r ≤ 24) (hcl : ∀ j, j < n → f.testBit j = true → ∀ N a c, sL N F S b n j σ τ0 a c → f.testBit a = true ∧ f.testBit c = true) : ∀ d k m, k + d = n → d < m →
    nLp (fun _ _ _ _ _ _ _ => none) (fun again => b_X7_reached_24 N k11 (l_X7_reached_50 N again)) m σ (nI b) (nI n) (nI f) (nI r) (nI f) (nI k) = some (nI (f % 2 ^ n), σ) := by
  obtain ⟨hb, ⟨hn1, hn2⟩, z1, z2, hst⟩ := id hB
  intro d
  induction d with
  | zero =>
    intro k m hk hm
    have hkn : k = n := by omega
    subst hkn
    rw [nLpP _ _ hm, fin_n k11 hn2 hf hf hr _, if_pos rfl]
  | succ d ih =>
    intro k m hk hm
    have hsh := shr_is f k (by omega)
    have g := ih (k + 1) (m - 1) (by omega) (by omega)
    rw [nLpP _ _ (by omega)]
    cases ht : f.testBit k with
    | false =>
      rw [ht, if_neg (by decide)] at hsh
      simp (disch := first | omega | exact nM1_n | exact nM2_n | assumption) only [b_X7_reached_24, l_X7_reached_50, b_X7_reached_50, hsh, ↓nLetR, ↓reduceIte, ↓e_m1, ↓e_m2, e_0, e_1, e_2, e_3, e_4, e_5, e_6, e_7, e_8, e_9, e_10, e_11, e_12, e_13, e_14, e_15, e_16, e_17, e_18, e_19, e_20, e_21, e_22, e_23, e_24, e_25, e_26, e_27, e_28, e_29, e_30, e_31, e_32, e_33, e_48, e_57, e_59, e_60, e_63, e_64, e_96, e_97, e_99, e_120, e_122, e_192, e_200, e_255, e_256, e_300, e_500, e_600, e_2000, e_5000, e_5240, e_6146, e_20000, e_65536, nIo, nI_clamp, nIxt, nI_1, nI_add, nI_mul, nI_eqF, nI_ltT, nI_ltF, nI_leT, nI_leF, nN_lt0, nN_le, nN_lt, nN_eq, nN_eq', eq_self, nBdS]
      exact g
    | true =>
      rw [ht, if_pos rfl] at hsh
      obtain ⟨a, c, hs⟩ := sL_is (N := N) hB (show k < n by omega)
      obtain ⟨x, ex, ex2⟩ := hs.2.2.1 f hf ht
      obtain ⟨u1, u2⟩ := hcl k (by omega) ht N a c hs
      rw [or_bit u1, or_bit u2] at ex2
      simp (disch := first | omega | exact nM1_n | exact nM2_n | assumption) only [b_X7_reached_24, l_X7_reached_50, b_X7_reached_50, hsh, ex, nI_or, ex2, ↓nLetR, ↓reduceIte, ↓e_m1, ↓e_m2, e_0, e_1, e_2, e_3, e_4, e_5, e_6, e_7, e_8, e_9, e_10, e_11, e_12, e_13, e_14, e_15, e_16, e_17, e_18, e_19, e_20, e_21, e_22, e_23, e_24, e_25, e_26, e_27, e_28, e_29, e_30, e_31, e_32, e_33, e_48, e_57, e_59, e_60, e_63, e_64, e_96, e_97, e_99, e_120, e_122, e_192, e_200, e_255, e_256, e_300, e_500, e_600, e_2000, e_5000, e_5240, e_6146, e_20000, e_65536, nIo, nI_clamp, nIxt, nI_1, nI_add, nI_mul, nI_eqF, nI_ltT, nI_ltF, nI_leT, nI_leF, nN_lt0, nN_le, nN_lt, nN_eq, nN_eq', eq_self, nBdS]
      exact g
theorem out_go (N F S b n : Nat) (hN : 30 ≤ N) (σ τ0 : nS) (hB : hBk F S b n σ τ0) : ∀ D f τ r m m', pcf 25 f + D = 25 → r + 1 ≤ pcf 25 f → f < 2 ^ 25 → rB f n τ → (∀ d, d ≠ 21 → τ.1 d = τ0.1 d) → D + 1 < m → D + 1 < m' →
    ∃ g τ', nLp (fun _ _ _ _ _ => none) (fun again => b_X7_reached_11 N (l_X7_reached_24 N again)) m σ (nI b) (nI n) (nI f) (nI r) = some (nI (g % 2 ^ n), σ) ∧ nLp (fun _ _ _ => none) (fun again => b_X11_reaches_31 N (l_X11_reaches_39 N again)) m' τ (nI b) (nI 1) = some (nI 0, τ') ∧ rB g n τ' ∧ (∀ d, d ≠ 21 → τ'.1 d = τ0.1 d) := by
  obtain ⟨hb, ⟨hn1, hn2⟩, z1, z2, hst⟩ := id hB
  intro D
  induction D using Nat.strongRecOn with
  | _ D ih =>
    intro f τ r m m' hD hr hf hrB hfr hm hm'
    have h25 := pcf_le 25 f
    have hI : pI F S b n σ τ0 f f 0 τ 0 := ⟨hf, hrB, hfr, by decide, fun i h => h, fun _ => ⟨fun i _ => rfl, fun j hj => absurd hj (Nat.not_lt_zero j)⟩, fun h => absurd h (by decide)⟩
    obtain ⟨f', mo', τ', g1, g2, g3⟩ := in_go N F S b n σ τ0 hB (nLp (fun _ _ _ _ _ => none) (fun again => b_X7_reached_11 N (l_X7_reached_24 N again)) (m - 1)) (nLp (fun _ _ _ => none) (fun again => b_X11_reaches_31 N (l_X11_reaches_39 N again)) (m' - 1)) f r hf (by omega) n 0 N N f 0 τ (by omega) (by omega) (by omega) hI
    obtain ⟨i1, i2, i3, i4, i5, i6, i7⟩ := id g3
    have q1 : nLp (fun _ _ _ _ _ => none) (fun again => b_X7_reached_11 N (l_X7_reached_24 N again)) m σ (nI b) (nI n) (nI f) (nI r) = if f' = f then some (nI (f' % 2 ^ n), σ) else nLp (fun _ _ _ _ _ => none) (fun again => b_X7_reached_11 N (l_X7_reached_24 N again)) (m - 1) σ (nI b) (nI n) (nI f') (nI (r + 1)) := by
      rw [← g1, nLpP _ _ (by omega)]
      simp (disch := first | omega | exact nM1_n | exact nM2_n | assumption) only [b_X7_reached_11, ↓nLetR, ↓reduceIte, ↓e_m1, ↓e_m2, e_0, e_1, e_2, e_3, e_4, e_5, e_6, e_7, e_8, e_9, e_10, e_11, e_12, e_13, e_14, e_15, e_16, e_17, e_18, e_19, e_20, e_21, e_22, e_23, e_24, e_25, e_26, e_27, e_28, e_29, e_30, e_31, e_32, e_33, e_48, e_57, e_59, e_60, e_63, e_64, e_96, e_97, e_99, e_120, e_122, e_192, e_200, e_255, e_256, e_300, e_500, e_600, e_2000, e_5000, e_5240, e_6146, e_20000, e_65536, nIo, nI_clamp, nIxt, nI_1, nI_add, nI_mul, nI_eqF, nI_ltT, nI_ltF, nI_leT, nI_leF, nN_lt0, nN_le, nN_lt, nN_eq, nN_eq', eq_self, nBdS]
      rfl
    have q2 : nLp (fun _ _ _ => none) (fun again => b_X11_reaches_31 N (l_X11_reaches_39 N again)) m' τ (nI b) (nI 1) = nLp (fun _ _ _ => none) (fun again => b_X11_reaches_31 N (l_X11_reaches_39 N again)) (m' - 1) τ' (nI b) (nI mo') := by
      rw [← g2, nLpP _ _ (by omega)]
      simp (disch := first | omega | exact nM1_n | exact nM2_n | assumption) only [b_X11_reaches_31, ↓nLetR, ↓reduceIte, ↓e_m1, ↓e_m2, e_0, e_1, e_2, e_3, e_4, e_5, e_6, e_7, e_8, e_9, e_10, e_11, e_12, e_13, e_14, e_15, e_16, e_17, e_18, e_19, e_20, e_21, e_22, e_23, e_24, e_25, e_26, e_27, e_28, e_29, e_30, e_31, e_32, e_33, e_48, e_57, e_59, e_60, e_63, e_64, e_96, e_97, e_99, e_120, e_122, e_192, e_200, e_255, e_256, e_300, e_500, e_600, e_2000, e_5000, e_5240, e_6146, e_20000, e_65536, nIo, nI_clamp, nIxt, nI_1, nI_add, nI_mul, nI_eqF, nI_ltT, nI_ltF, nI_leT, nI_leF, nN_lt0, nN_le, nN_lt, nN_eq, nN_eq', eq_self, nBdS]
      rfl
    have q3 : nLp (fun _ _ _ => none) (fun again => b_X11_reaches_31 N (l_X11_reaches_39 N again)) (m' - 1) τ' (nI b) (nI 0) = some (nI 0, τ') := by
      rw [nLpP _ _ (by omega)]
      simp (disch := first | omega | exact nM1_n | exact nM2_n | assumption) only [b_X11_reaches_31, ↓nLetR, ↓reduceIte, ↓e_m1, ↓e_m2, e_0, e_1, e_2, e_3, e_4, e_5, e_6, e_7, e_8, e_9, e_10, e_11, e_12, e_13, e_14, e_15, e_16, e_17, e_18, e_19, e_20, e_21, e_22, e_23, e_24, e_25, e_26, e_27, e_28, e_29, e_30, e_31, e_32, e_33, e_48, e_57, e_59, e_60, e_63, e_64, e_96, e_97, e_99, e_120, e_122, e_192, e_200, e_255, e_256, e_300, e_500, e_600, e_2000, e_5000, e_5240, e_6146, e_20000, e_65536, nIo, nI_clamp, nIxt, nI_1, nI_add, nI_mul, nI_eqF, nI_ltT, nI_ltF, nI_leT, nI_leF, nN_lt0, nN_le, nN_lt, nN_eq, nN_eq', eq_self, nBdS]
    have hmo : mo' = 0 ∨ mo' = 1 := by omega
    by_cases e : f' = f
    · have hm0 : mo' = 0 := by
        rcases hmo with h | h
        · exact h
        · obtain ⟨i, w1, w2, w3⟩ := i7 h
          rw [e, w2] at w3
          cases w3
      subst hm0
      rw [if_pos e] at q1
      exact ⟨f', τ', q1, q2.trans q3, i2, i3⟩
    · rw [if_neg e] at q1
      obtain ⟨p1, p2⟩ := pcf_mono (n := 25) i5
      have hlt : pcf 25 f < pcf 25 f' := by
        by_cases h : pcf 25 f = pcf 25 f'
        · have := p2 h
          rw [Nat.mod_eq_of_lt hf, Nat.mod_eq_of_lt i1] at this
          exact absurd this.symm e
        · omega
      have h25' := pcf_le 25 f'
      rcases hmo with h | h
      · subst h
        have hcl := cl_go N F S b n σ τ0 hB (nLp (fun _ _ _ _ _ => none) (fun again => b_X7_reached_11 N (l_X7_reached_24 N again)) (m - 1 - 1)) f' (r + 1) i1 (by omega) (i6 rfl).2 n 0 N (by omega) (by omega)
        refine ⟨f', τ', q1.trans ?_, q2.trans q3, i2, i3⟩
        rw [nLpP _ _ (by omega), ← hcl]
        simp (disch := first | omega | exact nM1_n | exact nM2_n | assumption) only [b_X7_reached_11, ↓nLetR, ↓reduceIte, ↓e_m1, ↓e_m2, e_0, e_1, e_2, e_3, e_4, e_5, e_6, e_7, e_8, e_9, e_10, e_11, e_12, e_13, e_14, e_15, e_16, e_17, e_18, e_19, e_20, e_21, e_22, e_23, e_24, e_25, e_26, e_27, e_28, e_29, e_30, e_31, e_32, e_33, e_48, e_57, e_59, e_60, e_63, e_64, e_96, e_97, e_99, e_120, e_122, e_192, e_200, e_255, e_256, e_300, e_500, e_600, e_2000, e_5000, e_5240, e_6146, e_20000, e_65536, nIo, nI_clamp, nIxt, nI_1, nI_add, nI_mul, nI_eqF, nI_ltT, nI_ltF, nI_leT, nI_leF, nN_lt0, nN_le, nN_lt, nN_eq, nN_eq', eq_self, nBdS]
        rfl
      · subst h
        obtain ⟨g, τ2, w1, w2, w3, w4⟩ := ih (25 - pcf 25 f') (by omega) f' τ' (r + 1) (m - 1) (m' - 1) (by omega) (by omega) i1 i2 i3 (by omega) (by omega)
        exact ⟨g, τ2, q1.trans w1, q2.trans w2, w3, w4⟩
theorem init_go (N : Nat) (b : Int32) : ∀ d k m τ, k + d = 24 → d < m → ∃ τ', nLp (fun _ _ _ => none) (fun again => b_X11_reaches_2 N (l_X11_reaches_22 N again) (l_X11_reaches_31 N)) m τ b (nI k) = l_X11_reaches_31 N τ' b (nI 1) ∧ (∀ j, k ≤ j → j < 24 → τ'.1 21 j = nI (if j = 0 then 1 else 0)) ∧ (∀ j, j < k → τ'.1 21 j = τ.1 21 j) ∧ ∀ d, d ≠ 21 → τ'.1 d = τ.1 d := by
  intro d
  induction d with
  | zero =>
    intro k m τ hk hm
    refine ⟨τ, ?_, fun j h1 h2 => absurd h2 (by omega), fun j h => rfl, fun d h => rfl⟩
    rw [nLpP _ _ hm]
    simp (disch := first | omega | exact nM1_n | exact nM2_n | assumption) only [b_X11_reaches_2, ↓nLetR, ↓reduceIte, ↓e_m1, ↓e_m2, e_0, e_1, e_2, e_3, e_4, e_5, e_6, e_7, e_8, e_9, e_10, e_11, e_12, e_13, e_14, e_15, e_16, e_17, e_18, e_19, e_20, e_21, e_22, e_23, e_24, e_25, e_26, e_27, e_28, e_29, e_30, e_31, e_32, e_33, e_48, e_57, e_59, e_60, e_63, e_64, e_96, e_97, e_99, e_120, e_122, e_192, e_200, e_255, e_256, e_300, e_500, e_600, e_2000, e_5000, e_5240, e_6146, e_20000, e_65536, nIo, nI_clamp, nIxt, nI_1, nI_add, nI_mul, nI_eqF, nI_ltT, nI_ltF, nI_leT, nI_leF, nN_lt0, nN_le, nN_lt, nN_eq, nN_eq', eq_self, nBdS]
  | succ d ih =>
    intro k m τ hk hm
    obtain ⟨τ', e1, e2, e3, e4⟩ := ih (k + 1) (m - 1) (wr τ 21 k (nI (if k = 0 then 1 else 0))) (by omega) (by omega)
    refine ⟨τ', ?_, fun j h1 h2 => ?_, fun j h => ?_, fun d h => ?_⟩
    · rw [nLpP _ _ (by omega)]
      by_cases h0 : k = 0
      · subst h0
        simp (disch := first | omega | exact nM1_n | exact nM2_n | assumption) only [b_X11_reaches_2, l_X11_reaches_22, b_X11_reaches_22, hvb, hvb0, ↓nLetR, ↓reduceIte, ↓e_m1, ↓e_m2, e_0, e_1, e_2, e_3, e_4, e_5, e_6, e_7, e_8, e_9, e_10, e_11, e_12, e_13, e_14, e_15, e_16, e_17, e_18, e_19, e_20, e_21, e_22, e_23, e_24, e_25, e_26, e_27, e_28, e_29, e_30, e_31, e_32, e_33, e_48, e_57, e_59, e_60, e_63, e_64, e_96, e_97, e_99, e_120, e_122, e_192, e_200, e_255, e_256, e_300, e_500, e_600, e_2000, e_5000, e_5240, e_6146, e_20000, e_65536, nIo, nI_clamp, nIxt, nI_1, nI_add, nI_mul, nI_eqF, nI_ltT, nI_ltF, nI_leT, nI_leF, nN_lt0, nN_le, nN_lt, nN_eq, nN_eq', eq_self, nBdS]
        exact e1
      · rw [if_neg h0] at e1
        simp (disch := first | omega | exact nM1_n | exact nM2_n | assumption) only [b_X11_reaches_2, l_X11_reaches_22, b_X11_reaches_22, hvb, hvb0, ↓nLetR, ↓reduceIte, ↓e_m1, ↓e_m2, e_0, e_1, e_2, e_3, e_4, e_5, e_6, e_7, e_8, e_9, e_10, e_11, e_12, e_13, e_14, e_15, e_16, e_17, e_18, e_19, e_20, e_21, e_22, e_23, e_24, e_25, e_26, e_27, e_28, e_29, e_30, e_31, e_32, e_33, e_48, e_57, e_59, e_60, e_63, e_64, e_96, e_97, e_99, e_120, e_122, e_192, e_200, e_255, e_256, e_300, e_500, e_600, e_2000, e_5000, e_5240, e_6146, e_20000, e_65536, nIo, nI_clamp, nIxt, nI_1, nI_add, nI_mul, nI_eqF, nI_ltT, nI_ltF, nI_leT, nI_leF, nN_lt0, nN_le, nN_lt, nN_eq, nN_eq', eq_self, nBdS]
        exact e1
    · by_cases hj : j = k
      · subst hj
        rw [e3 j (by omega), wrs]
      · exact e2 j (by omega) h2
    · rw [e3 j (by omega), wrk _ _ _ (by omega)]
    · rw [e4 d h, wrc _ _ _ h]
theorem reach_is {N F S b n : Nat} {σ τ : nS} (hN : 50 ≤ N) (hB : hBk F S b n σ τ) : ∃ g τ', f_X7_reached N (nI b) σ = some (nI (g % 2 ^ n), σ) ∧ f_X11_reaches N (nI b) τ = some (nI 0, τ') ∧ rB g n τ' ∧ ∀ d, d ≠ 21 → τ'.1 d = τ.1 d := by
  obtain ⟨hb, ⟨hn1, hn2⟩, z1, z2, hst⟩ := id hB
  obtain ⟨τ1, e1, e2, e3, e4⟩ := init_go N (nI b) 24 0 N τ (by omega) (by omega)
  have hp : pcf 25 1 = 1 := by decide
  have hr1 : rB 1 n τ1 := by
    intro k hk
    rw [e2 k (Nat.zero_le k) (by omega)]
    by_cases h : k = 0
    · subst h; rfl
    · have : Nat.testBit 1 k = false := Nat.testBit_lt_two_pow (Nat.one_lt_two_pow h)
      rw [if_neg h, this]; rfl
  obtain ⟨g, τ', g1, g2, g3, g4⟩ := out_go N F S b n (by omega) σ τ hB 24 1 τ1 0 N N (by omega) (by omega) (by decide) hr1 e4 (by omega) (by omega)
  refine ⟨g, τ', ?_, ?_, g3, g4⟩
  · have h := size_is (N := N) (σ := σ) hb
    rw [z1] at h
    simp (disch := first | omega | exact nM1_n | exact nM2_n | assumption) only [f_X7_reached, l_X7_reached_0, b_X7_reached_0, h, ↓nLetR, ↓reduceIte, ↓e_m1, ↓e_m2, e_0, e_1, e_2, e_3, e_4, e_5, e_6, e_7, e_8, e_9, e_10, e_11, e_12, e_13, e_14, e_15, e_16, e_17, e_18, e_19, e_20, e_21, e_22, e_23, e_24, e_25, e_26, e_27, e_28, e_29, e_30, e_31, e_32, e_33, e_48, e_57, e_59, e_60, e_63, e_64, e_96, e_97, e_99, e_120, e_122, e_192, e_200, e_255, e_256, e_300, e_500, e_600, e_2000, e_5000, e_5240, e_6146, e_20000, e_65536, nIo, nI_clamp, nIxt, nI_1, nI_add, nI_mul, nI_eqF, nI_ltT, nI_ltF, nI_leT, nI_leF, nN_lt0, nN_le, nN_lt, nN_eq, nN_eq', eq_self, nBdS]
    exact g1
  · exact e1.trans g2
