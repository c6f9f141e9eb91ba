/-! STEPS THAT ARE REACHED -/
theorem pcf_mono {n : Nat} : ∀ {x y : Nat}, (∀ i, x.testBit i = true → y.testBit i = true) → pcf n x ≤ pcf n y ∧ (pcf n x = pcf n y → x % 2 ^ n = y % 2 ^ n) := by
  induction n with
  | zero =>
    intro x y h
    refine ⟨Nat.le_refl 0, fun _ => ?_⟩
    omega
  | succ n ih =>
    intro x y h
    have h2 := ih (x := x / 2) (y := y / 2) (fun i hi => by
      rw [← Nat.testBit_succ] at hi ⊢
      exact h (i + 1) hi)
    have h3 : x % 2 ≤ y % 2 := by
      have h4 := h 0
      rw [Nat.testBit_zero, Nat.testBit_zero] at h4
      by_cases e : x % 2 = 1
      · have := h4 (decide_eq_true e)
        have := of_decide_eq_true this
        omega
      · omega
    show x % 2 + pcf n (x / 2) ≤ y % 2 + pcf n (y / 2) ∧ (x % 2 + pcf n (x / 2) = y % 2 + pcf n (y / 2) → _)
    refine ⟨by omega, fun e => ?_⟩
    have e1 : x % 2 = y % 2 := by omega
    have e2 := h2.2 (by omega)
    have hp : 2 ^ (n + 1) = 2 * 2 ^ n := by rw [Nat.pow_succ]; omega
    rw [hp, Nat.mod_mul, Nat.mod_mul, e1, e2]
theorem or_bit {f a : Nat} (h : f.testBit a = true) : f ||| 2 ^ a = f := by
  apply Nat.eq_of_testBit_eq
  intro i
  rw [Nat.testBit_or, Nat.testBit_two_pow]
  by_cases e : a = i
  · subst e; rw [h]; rfl
  · rw [decide_eq_false e, Bool.or_false]
theorem or_tb {f a i : Nat} : (f ||| 2 ^ a).testBit i = (f.testBit i || decide (a = i)) := by
  rw [Nat.testBit_or, Nat.testBit_two_pow]
theorem or_lt {f a : Nat} (hf : f < 2 ^ 25) (ha : a ≤ 24) : f ||| 2 ^ a < 2 ^ 25 := Nat.or_lt_two_pow hf (Nat.pow_lt_pow_right (by decide) (by omega))
/-- the reference's row of steps reached, as bits -/
def rB (f n : Nat) (τ : nS) : Prop := ∀ k, k < n → τ.1 21 k = nI (if f.testBit k = true then 1 else 0)
def mS (τ : nS) (n a : Nat) : nS := if a < n then wr τ 21 a (nI 1) else τ
theorem rB.set {f n a : Nat} {τ : nS} (h : rB f n τ) : rB (f ||| 2 ^ a) n (mS τ n a) := by
  intro k hk
  unfold mS
  rw [or_tb]
  by_cases ha : a < n
  · rw [if_pos ha]
    by_cases e : a = k
    · subst e
      rw [wrs, decide_eq_true rfl, Bool.or_true]
      rfl
    · rw [wrk _ _ _ (show k ≠ a from fun h => e h.symm), decide_eq_false e, Bool.or_false]
      exact h k hk
  · rw [if_neg ha, decide_eq_false (show ¬ a = k by omega), Bool.or_false]
    exact h k hk
theorem mS_1 {τ : nS} {n a d : Nat} (h : d ≠ 21) : (mS τ n a).1 d = τ.1 d := by
  unfold mS
  by_cases ha : a < n
  · rw [if_pos ha, wrc _ _ _ h]
  · rw [if_neg ha]
theorem hvb : vp_nar .boolean (nI 1) = nI 1 := by decide
theorem hvb0 : vp_nar .boolean (nI 0) = nI 0 := by decide
theorem s207 {N a c n b k y : Nat} {τ : nS} (again : nS → Int32 → Int32 → Int32 → Option (Int32 × nS)) (hb : b < 5) (hn : n ≤ 24) (ha : a ≤ n) (hc : c ≤ n) (hk : k < 24) (h3 : τ.1 3 b = nI n) :
    l_X11_reaches_207 N (l_X11_reaches_246 N again) τ (nI b) (nI k) (nI a) (nI c) (nI y) = again (mS (mS τ n a) n c) (nI b) (nI y) (nI (k + 1)) := by
  unfold mS
  by_cases h1 : a < n
  · by_cases h2 : c < n
    · rw [if_pos h1, if_pos h2]
      simp (disch := first | omega | exact nM1_n | exact nM2_n | assumption) only [l_X11_reaches_207, l_X11_reaches_246, l_X11_reaches_227, b_X11_reaches_207, b_X11_reaches_227, b_X11_reaches_246, h3, hvb, ↓nLetR, ↓reduceIte, ↓e_m1, ↓e_m2, e_0, e_1, e_2, e_3, e_4, e_5, e_6, e_7, e_8, e_9, e_10, e_11, e_12, e_13, e_14, e_15, e_16, e_17, e_18, e_19, e_20, e_21, e_22, e_23, e_24, e_25, e_26, e_27, e_28, e_29, e_30, e_31, e_32, e_33, e_48, e_57, e_59, e_60, e_63, e_64, e_96, e_97, e_99, e_120, e_122, e_192, e_200, e_255, e_256, e_300, e_500, e_600, e_2000, e_5000, e_5240, e_6146, e_20000, e_65536, nIo, nI_clamp, nIxt, nI_1, nI_add, nI_mul, nI_eqF, nI_ltT, nI_ltF, nI_leT, nI_leF, nN_lt0, nN_le, nN_lt, nN_eq, nN_eq', eq_self, nBdS, wrs, wrk, wrc, wr2, wl1, wls, wlk, wlc]
    · rw [if_pos h1, if_neg h2]
      simp (disch := first | omega | exact nM1_n | exact nM2_n | assumption) only [l_X11_reaches_207, l_X11_reaches_246, l_X11_reaches_227, b_X11_reaches_207, b_X11_reaches_227, b_X11_reaches_246, h3, hvb, ↓nLetR, ↓reduceIte, ↓e_m1, ↓e_m2, e_0, e_1, e_2, e_3, e_4, e_5, e_6, e_7, e_8, e_9, e_10, e_11, e_12, e_13, e_14, e_15, e_16, e_17, e_18, e_19, e_20, e_21, e_22, e_23, e_24, e_25, e_26, e_27, e_28, e_29, e_30, e_31, e_32, e_33, e_48, e_57, e_59, e_60, e_63, e_64, e_96, e_97, e_99, e_120, e_122, e_192, e_200, e_255, e_256, e_300, e_500, e_600, e_2000, e_5000, e_5240, e_6146, e_20000, e_65536, nIo, nI_clamp, nIxt, nI_1, nI_add, nI_mul, nI_eqF, nI_ltT, nI_ltF, nI_leT, nI_leF, nN_lt0, nN_le, nN_lt, nN_eq, nN_eq', eq_self, nBdS, wrs, wrk, wrc, wr2, wl1, wls, wlk, wlc]
  · by_cases h2 : c < n
    · rw [if_neg h1, if_pos h2]
      simp (disch := first | omega | exact nM1_n | exact nM2_n | assumption) only [l_X11_reaches_207, l_X11_reaches_246, l_X11_reaches_227, b_X11_reaches_207, b_X11_reaches_227, b_X11_reaches_246, h3, hvb, ↓nLetR, ↓reduceIte, ↓e_m1, ↓e_m2, e_0, e_1, e_2, e_3, e_4, e_5, e_6, e_7, e_8, e_9, e_10, e_11, e_12, e_13, e_14, e_15, e_16, e_17, e_18, e_19, e_20, e_21, e_22, e_23, e_24, e_25, e_26, e_27, e_28, e_29, e_30, e_31, e_32, e_33, e_48, e_57, e_59, e_60, e_63, e_64, e_96, e_97, e_99, e_120, e_122, e_192, e_200, e_255, e_256, e_300, e_500, e_600, e_2000, e_5000, e_5240, e_6146, e_20000, e_65536, nIo, nI_clamp, nIxt, nI_1, nI_add, nI_mul, nI_eqF, nI_ltT, nI_ltF, nI_leT, nI_leF, nN_lt0, nN_le, nN_lt, nN_eq, nN_eq', eq_self, nBdS, wrs, wrk, wrc, wr2, wl1, wls, wlk, wlc]
    · rw [if_neg h1, if_neg h2]
      simp (disch := first | omega | exact nM1_n | exact nM2_n | assumption) only [l_X11_reaches_207, l_X11_reaches_246, l_X11_reaches_227, b_X11_reaches_207, b_X11_reaches_227, b_X11_reaches_246, h3, hvb, ↓nLetR, ↓reduceIte, ↓e_m1, ↓e_m2, e_0, e_1, e_2, e_3, e_4, e_5, e_6, e_7, e_8, e_9, e_10, e_11, e_12, e_13, e_14, e_15, e_16, e_17, e_18, e_19, e_20, e_21, e_22, e_23, e_24, e_25, e_26, e_27, e_28, e_29, e_30, e_31, e_32, e_33, e_48, e_57, e_59, e_60, e_63, e_64, e_96, e_97, e_99, e_120, e_122, e_192, e_200, e_255, e_256, e_300, e_500, e_600, e_2000, e_5000, e_5240, e_6146, e_20000, e_65536, nIo, nI_clamp, nIxt, nI_1, nI_add, nI_mul, nI_eqF, nI_ltT, nI_ltF, nI_leT, nI_leF, nN_lt0, nN_le, nN_lt, nN_eq, nN_eq', eq_self, nBdS, wrs, wrk, wrc, wr2, wl1, wls, wlk, wlc]
theorem s181 {N a c n b k f : Nat} {τ : nS} (again : nS → Int32 → Int32 → Int32 → Option (Int32 × nS)) (hb : b < 5) (hn : n ≤ 24) (ha : a ≤ n) (hc : c ≤ n) (hk : k < 24) (h3 : τ.1 3 b = nI n) (hr : rB f n τ) :
    ∃ y, y < 2 ∧ l_X11_reaches_181 N (l_X11_reaches_202 N (l_X11_reaches_207 N (l_X11_reaches_246 N again))) (l_X11_reaches_207 N (l_X11_reaches_246 N again)) τ (nI b) (nI k) (nI a) (nI c) = again (mS (mS τ n a) n c) (nI b) (nI y) (nI (k + 1)) ∧ (y = 0 → c < n → f.testBit c = true) ∧ (y = 1 → c < n ∧ f.testBit c = false) := by
  have q0 := s207 (N := N) (y := 0) again hb hn ha hc hk h3
  have q1 := s207 (N := N) (y := 1) again hb hn ha hc hk h3
  by_cases h2 : c < n
  · have hv := hr c h2
    cases ht : f.testBit c with
    | true =>
      rw [ht, if_pos rfl] at hv
      refine ⟨0, by decide, ?_, fun _ _ => rfl, fun h => absurd h (by decide)⟩
      simp (disch := first | omega | exact nM1_n | exact nM2_n | assumption) only [l_X11_reaches_181, l_X11_reaches_202, l_X11_reaches_206, b_X11_reaches_181, b_X11_reaches_202, b_X11_reaches_206, h3, hv, ↓nLetR, ↓reduceIte, ↓e_m1, ↓e_m2, e_0, e_1, e_2, e_3, e_4, e_5, e_6, e_7, e_8, e_9, e_10, e_11, e_12, e_13, e_14, e_15, e_16, e_17, e_18, e_19, e_20, e_21, e_22, e_23, e_24, e_25, e_26, e_27, e_28, e_29, e_30, e_31, e_32, e_33, e_48, e_57, e_59, e_60, e_63, e_64, e_96, e_97, e_99, e_120, e_122, e_192, e_200, e_255, e_256, e_300, e_500, e_600, e_2000, e_5000, e_5240, e_6146, e_20000, e_65536, nIo, nI_clamp, nIxt, nI_1, nI_add, nI_mul, nI_eqF, nI_ltT, nI_ltF, nI_leT, nI_leF, nN_lt0, nN_le, nN_lt, nN_eq, nN_eq', eq_self, nBdS]
      exact q0
    | false =>
      rw [ht, if_neg (by decide)] at hv
      refine ⟨1, by decide, ?_, fun h => absurd h (by decide), fun _ => ⟨h2, rfl⟩⟩
      simp (disch := first | omega | exact nM1_n | exact nM2_n | assumption) only [l_X11_reaches_181, l_X11_reaches_202, l_X11_reaches_206, b_X11_reaches_181, b_X11_reaches_202, b_X11_reaches_206, h3, hv, ↓nLetR, ↓reduceIte, ↓e_m1, ↓e_m2, e_0, e_1, e_2, e_3, e_4, e_5, e_6, e_7, e_8, e_9, e_10, e_11, e_12, e_13, e_14, e_15, e_16, e_17, e_18, e_19, e_20, e_21, e_22, e_23, e_24, e_25, e_26, e_27, e_28, e_29, e_30, e_31, e_32, e_33, e_48, e_57, e_59, e_60, e_63, e_64, e_96, e_97, e_99, e_120, e_122, e_192, e_200, e_255, e_256, e_300, e_500, e_600, e_2000, e_5000, e_5240, e_6146, e_20000, e_65536, nIo, nI_clamp, nIxt, nI_1, nI_add, nI_mul, nI_eqF, nI_ltT, nI_ltF, nI_leT, nI_leF, nN_lt0, nN_le, nN_lt, nN_eq, nN_eq', eq_self, nBdS]
      exact q1
  · refine ⟨0, by decide, ?_, fun _ h => absurd h h2, fun h => absurd h (by decide)⟩
    simp (disch := first | omega | exact nM1_n | exact nM2_n | assumption) only [l_X11_reaches_181, l_X11_reaches_202, l_X11_reaches_206, b_X11_reaches_181, b_X11_reaches_202, b_X11_reaches_206, h3, ↓nLetR, ↓reduceIte, ↓e_m1, ↓e_m2, e_0, e_1, e_2, e_3, e_4, e_5, e_6, e_7, e_8, e_9, e_10, e_11, e_12, e_13, e_14, e_15, e_16, e_17, e_18, e_19, e_20, e_21, e_22, e_23, e_24, e_25, e_26, e_27, e_28, e_29, e_30, e_31, e_32, e_33, e_48, e_57, e_59, e_60, e_63, e_64, e_96, e_97, e_99, e_120, e_122, e_192, e_200, e_255, e_256, e_300, e_500, e_600, e_2000, e_5000, e_5240, e_6146, e_20000, e_65536, nIo, nI_clamp, nIxt, nI_1, nI_add, nI_mul, nI_eqF, nI_ltT, nI_ltF, nI_leT, nI_leF, nN_lt0, nN_le, nN_lt, nN_eq, nN_eq', eq_self, nBdS]
    exact q0
theorem s154 {N a c n b k f mo : Nat} {τ : nS} (again : nS → Int32 → Int32 → Int32 → Option (Int32 × nS)) (hb : b < 5) (hn : n ≤ 24) (ha : a ≤ n) (hc : c ≤ n) (hk : k < 24) (h3 : τ.1 3 b = nI n) (hr : rB f n τ) (hmo : mo < 2) :
    ∃ y, y < 2 ∧ l_X11_reaches_154 N (l_X11_reaches_246 N again) τ (nI b) (nI mo) (nI k) (nI a) (nI c) = again (mS (mS τ n a) n c) (nI b) (nI y) (nI (k + 1)) ∧ (y = 0 → mo = 0 ∧ (a < n → f.testBit a = true) ∧ (c < n → f.testBit c = true)) ∧ (y = 1 → mo = 1 ∨ (a < n ∧ f.testBit a = false) ∨ (c < n ∧ f.testBit c = false)) := by
  have q1 := s207 (N := N) (y := 1) again hb hn ha hc hk h3
  obtain ⟨y, hy, e, y0, y1⟩ := s181 (N := N) again hb hn ha hc hk h3 hr
  have hm : mo = 0 ∨ mo = 1 := by omega
  rcases hm with rfl | rfl
  · by_cases h2 : a < n
    · have hv := hr a h2
      cases ht : f.testBit a with
      | true =>
        rw [ht, if_pos rfl] at hv
        refine ⟨y, hy, ?_, fun h => ⟨rfl, fun _ => rfl, y0 h⟩, fun h => Or.inr (Or.inr (y1 h))⟩
        simp (disch := first | omega | exact nM1_n | exact nM2_n | assumption) only [l_X11_reaches_154, b_X11_reaches_154, h3, hv, ↓nLetR, ↓reduceIte, ↓e_m1, ↓e_m2, e_0, e_1, e_2, e_3, e_4, e_5, e_6, e_7, e_8, e_9, e_10, e_11, e_12, e_13, e_14, e_15, e_16, e_17, e_18, e_19, e_20, e_21, e_22, e_23, e_24, e_25, e_26, e_27, e_28, e_29, e_30, e_31, e_32, e_33, e_48, e_57, e_59, e_60, e_63, e_64, e_96, e_97, e_99, e_120, e_122, e_192, e_200, e_255, e_256, e_300, e_500, e_600, e_2000, e_5000, e_5240, e_6146, e_20000, e_65536, nIo, nI_clamp, nIxt, nI_1, nI_add, nI_mul, nI_eqF, nI_ltT, nI_ltF, nI_leT, nI_leF, nN_lt0, nN_le, nN_lt, nN_eq, nN_eq', eq_self, nBdS]
        exact e
      | false =>
        rw [ht, if_neg (by decide)] at hv
        refine ⟨1, by decide, ?_, fun h => absurd h (by decide), fun _ => Or.inr (Or.inl ⟨h2, rfl⟩)⟩
        simp (disch := first | omega | exact nM1_n | exact nM2_n | assumption) only [l_X11_reaches_154, l_X11_reaches_202, b_X11_reaches_202, b_X11_reaches_154, h3, hv, ↓nLetR, ↓reduceIte, ↓e_m1, ↓e_m2, e_0, e_1, e_2, e_3, e_4, e_5, e_6, e_7, e_8, e_9, e_10, e_11, e_12, e_13, e_14, e_15, e_16, e_17, e_18, e_19, e_20, e_21, e_22, e_23, e_24, e_25, e_26, e_27, e_28, e_29, e_30, e_31, e_32, e_33, e_48, e_57, e_59, e_60, e_63, e_64, e_96, e_97, e_99, e_120, e_122, e_192, e_200, e_255, e_256, e_300, e_500, e_600, e_2000, e_5000, e_5240, e_6146, e_20000, e_65536, nIo, nI_clamp, nIxt, nI_1, nI_add, nI_mul, nI_eqF, nI_ltT, nI_ltF, nI_leT, nI_leF, nN_lt0, nN_le, nN_lt, nN_eq, nN_eq', eq_self, nBdS]
        exact q1
    · refine ⟨y, hy, ?_, fun h => ⟨rfl, fun h3 => absurd h3 h2, y0 h⟩, fun h => Or.inr (Or.inr (y1 h))⟩
      simp (disch := first | omega | exact nM1_n | exact nM2_n | assumption) only [l_X11_reaches_154, b_X11_reaches_154, h3, ↓nLetR, ↓reduceIte, ↓e_m1, ↓e_m2, e_0, e_1, e_2, e_3, e_4, e_5, e_6, e_7, e_8, e_9, e_10, e_11, e_12, e_13, e_14, e_15, e_16, e_17, e_18, e_19, e_20, e_21, e_22, e_23, e_24, e_25, e_26, e_27, e_28, e_29, e_30, e_31, e_32, e_33, e_48, e_57, e_59, e_60, e_63, e_64, e_96, e_97, e_99, e_120, e_122, e_192, e_200, e_255, e_256, e_300, e_500, e_600, e_2000, e_5000, e_5240, e_6146, e_20000, e_65536, nIo, nI_clamp, nIxt, nI_1, nI_add, nI_mul, nI_eqF, nI_ltT, nI_ltF, nI_leT, nI_leF, nN_lt0, nN_le, nN_lt, nN_eq, nN_eq', eq_self, nBdS]
      exact e
  · refine ⟨1, by decide, ?_, fun h => absurd h (by decide), fun _ => Or.inl rfl⟩
    simp (disch := first | omega | exact nM1_n | exact nM2_n | assumption) only [l_X11_reaches_154, l_X11_reaches_202, b_X11_reaches_202, b_X11_reaches_154, h3, ↓nLetR, ↓reduceIte, ↓e_m1, ↓e_m2, e_0, e_1, e_2, e_3, e_4, e_5, e_6, e_7, e_8, e_9, e_10, e_11, e_12, e_13, e_14, e_15, e_16, e_17, e_18, e_19, e_20, e_21, e_22, e_23, e_24, e_25, e_26, e_27, e_28, e_29, e_30, e_31, e_32, e_33, e_48, e_57, e_59, e_60, e_63, e_64, e_96, e_97, e_99, e_120, e_122, e_192, e_200, e_255, e_256, e_300, e_500, e_600, e_2000, e_5000, e_5240, e_6146, e_20000, e_65536, nIo, nI_clamp, nIxt, nI_1, nI_add, nI_mul, nI_eqF, nI_ltT, nI_ltF, nI_leT, nI_leF, nN_lt0, nN_le, nN_lt, nN_eq, nN_eq', eq_self, nBdS]
    exact q1
/-- a step: where it leads -/
def sL (N F S b n k : Nat) (σ τ : nS) (a c : Nat) : Prop :=
  a ≤ n ∧ c ≤ n ∧ (∀ f, f < 2 ^ 25 → f.testBit k = true → ∃ x, f_X7_nextOf N (nI b) (nI k) σ = some (nI x, σ) ∧ f ||| x = f ||| 2 ^ a ||| 2 ^ c) ∧
  ∀ (k31 : nS → Int32 → Int32 → Option (Int32 × nS)) (again : nS → Int32 → Int32 → Int32 → Option (Int32 × nS)) (mo : Int32) (τ1 : nS), (∀ d, d ≠ 21 → τ1.1 d = τ.1 d) → τ1.1 21 k = nI 1 →
    b_X11_reaches_39 N k31 (l_X11_reaches_129 N (l_X11_reaches_246 N again)) (l_X11_reaches_246 N again) τ1 (nI b) mo (nI k) = l_X11_reaches_154 N (l_X11_reaches_246 N again) τ1 (nI b) mo (nI k) (nI a) (nI c)
theorem sL_is {N F S b n k : Nat} {σ τ : nS} (hB : hBk F S b n σ τ) (hk : k < n) : ∃ a c, sL N F S b n k σ τ a c := by
  obtain ⟨hb, ⟨hn1, hn2⟩, z1, z2, hst⟩ := hB
  obtain ⟨⟨c0, c1, c2, c3, c4⟩, hs⟩ := hst k hk
  have e0 := cell_is0 (N := N) (σ := σ) (b := b) (k := k) hb (by omega)
  have e1 := cell_is (N := N) (σ := σ) (b := b) (k := k) (j := 1) hb (by omega) (by decide)
  have e2 := cell_is (N := N) (σ := σ) (b := b) (k := k) (j := 2) hb (by omega) (by decide)
  have e3 := cell_is (N := N) (σ := σ) (b := b) (k := k) (j := 3) hb (by omega) (by decide)
  rw [c0] at e0
  rw [c1] at e1
  rw [c2] at e2
  rw [c3] at e3
  rcases hs with ⟨hkd, _⟩ | ⟨hkd, _, ⟨t, ht, et⟩, ⟨h, hh, eh⟩⟩ | ⟨hkd, _⟩ | ⟨hkd, o, ho, eo⟩ | hkd
  · refine ⟨k + 1, k + 1, by omega, by omega, fun f hf hbit => ⟨2 ^ (k + 1), ?_, ?_⟩, fun k31 again mo τ1 hτ h21 => ?_⟩
    · rcases hkd with hkd | hkd
      · simp (disch := first | omega | exact nM1_n | exact nM2_n | assumption) only [b_X7_nextOf_0, l_X7_nextOf_0, f_X7_nextOf, e0, hkd, shl_is, ↓nLetR, ↓reduceIte, ↓e_m1, ↓e_m2, e_0, e_1, e_2, e_3, e_4, e_5, e_6, e_7, e_8, e_9, e_10, e_11, e_12, e_13, e_14, e_15, e_16, e_17, e_18, e_19, e_20, e_21, e_22, e_23, e_24, e_25, e_26, e_27, e_28, e_29, e_30, e_31, e_32, e_33, e_48, e_57, e_59, e_60, e_63, e_64, e_96, e_97, e_99, e_120, e_122, e_192, e_200, e_255, e_256, e_300, e_500, e_600, e_2000, e_5000, e_5240, e_6146, e_20000, e_65536, nIo, nI_clamp, nIxt, nI_1, nI_add, nI_mul, nI_eqF, nI_ltT, nI_ltF, nI_leT, nI_leF, nN_lt0, nN_le, nN_lt, nN_eq, nN_eq', eq_self, nBdS]
      · simp (disch := first | omega | exact nM1_n | exact nM2_n | assumption) only [b_X7_nextOf_0, l_X7_nextOf_0, f_X7_nextOf, e0, hkd, shl_is, ↓nLetR, ↓reduceIte, ↓e_m1, ↓e_m2, e_0, e_1, e_2, e_3, e_4, e_5, e_6, e_7, e_8, e_9, e_10, e_11, e_12, e_13, e_14, e_15, e_16, e_17, e_18, e_19, e_20, e_21, e_22, e_23, e_24, e_25, e_26, e_27, e_28, e_29, e_30, e_31, e_32, e_33, e_48, e_57, e_59, e_60, e_63, e_64, e_96, e_97, e_99, e_120, e_122, e_192, e_200, e_255, e_256, e_300, e_500, e_600, e_2000, e_5000, e_5240, e_6146, e_20000, e_65536, nIo, nI_clamp, nIxt, nI_1, nI_add, nI_mul, nI_eqF, nI_ltT, nI_ltF, nI_leT, nI_leF, nN_lt0, nN_le, nN_lt, nN_eq, nN_eq', eq_self, nBdS]
    · exact (or_bit (by rw [or_tb, decide_eq_true rfl, Bool.or_true])).symm
    · rcases hkd with hkd | hkd
      · simp (disch := first | omega | exact nM1_n | exact nM2_n | assumption) only [b_X11_reaches_39, l_X11_reaches_129, b_X11_reaches_129, h21, hτ 3 (by decide), hτ 4 (by decide), hτ 5 (by decide), hτ 6 (by decide), hτ 7 (by decide), z2, hkd, ↓nLetR, ↓reduceIte, ↓e_m1, ↓e_m2, e_0, e_1, e_2, e_3, e_4, e_5, e_6, e_7, e_8, e_9, e_10, e_11, e_12, e_13, e_14, e_15, e_16, e_17, e_18, e_19, e_20, e_21, e_22, e_23, e_24, e_25, e_26, e_27, e_28, e_29, e_30, e_31, e_32, e_33, e_48, e_57, e_59, e_60, e_63, e_64, e_96, e_97, e_99, e_120, e_122, e_192, e_200, e_255, e_256, e_300, e_500, e_600, e_2000, e_5000, e_5240, e_6146, e_20000, e_65536, nIo, nI_clamp, nIxt, nI_1, nI_add, nI_mul, nI_eqF, nI_ltT, nI_ltF, nI_leT, nI_leF, nN_lt0, nN_le, nN_lt, nN_eq, nN_eq', eq_self, nBdS]
      · simp (disch := first | omega | exact nM1_n | exact nM2_n | assumption) only [b_X11_reaches_39, l_X11_reaches_129, b_X11_reaches_129, h21, hτ 3 (by decide), hτ 4 (by decide), hτ 5 (by decide), hτ 6 (by decide), hτ 7 (by decide), z2, hkd, ↓nLetR, ↓reduceIte, ↓e_m1, ↓e_m2, e_0, e_1, e_2, e_3, e_4, e_5, e_6, e_7, e_8, e_9, e_10, e_11, e_12, e_13, e_14, e_15, e_16, e_17, e_18, e_19, e_20, e_21, e_22, e_23, e_24, e_25, e_26, e_27, e_28, e_29, e_30, e_31, e_32, e_33, e_48, e_57, e_59, e_60, e_63, e_64, e_96, e_97, e_99, e_120, e_122, e_192, e_200, e_255, e_256, e_300, e_500, e_600, e_2000, e_5000, e_5240, e_6146, e_20000, e_65536, nIo, nI_clamp, nIxt, nI_1, nI_add, nI_mul, nI_eqF, nI_ltT, nI_ltF, nI_leT, nI_leF, nN_lt0, nN_le, nN_lt, nN_eq, nN_eq', eq_self, nBdS]
  · refine ⟨t, h, by omega, by omega, fun f hf hbit => ⟨2 ^ t ||| 2 ^ h, ?_, ?_⟩, fun k31 again mo τ1 hτ h21 => ?_⟩
    · simp (disch := first | omega | exact nM1_n | exact nM2_n | assumption) only [b_X7_nextOf_0, l_X7_nextOf_0, f_X7_nextOf, e0, e2, e3, et, eh, hkd, shl_is, nI_or, ↓nLetR, ↓reduceIte, ↓e_m1, ↓e_m2, e_0, e_1, e_2, e_3, e_4, e_5, e_6, e_7, e_8, e_9, e_10, e_11, e_12, e_13, e_14, e_15, e_16, e_17, e_18, e_19, e_20, e_21, e_22, e_23, e_24, e_25, e_26, e_27, e_28, e_29, e_30, e_31, e_32, e_33, e_48, e_57, e_59, e_60, e_63, e_64, e_96, e_97, e_99, e_120, e_122, e_192, e_200, e_255, e_256, e_300, e_500, e_600, e_2000, e_5000, e_5240, e_6146, e_20000, e_65536, nIo, nI_clamp, nIxt, nI_1, nI_add, nI_mul, nI_eqF, nI_ltT, nI_ltF, nI_leT, nI_leF, nN_lt0, nN_le, nN_lt, nN_eq, nN_eq', eq_self, nBdS]
    · exact (Nat.or_assoc f (2 ^ t) (2 ^ h)).symm
    · simp (disch := first | omega | exact nM1_n | exact nM2_n | assumption) only [b_X11_reaches_39, l_X11_reaches_129, b_X11_reaches_129, h21, hτ 3 (by decide), hτ 4 (by decide), hτ 5 (by decide), hτ 6 (by decide), hτ 7 (by decide), z2, hkd, et, eh, ↓nLetR, ↓reduceIte, ↓e_m1, ↓e_m2, e_0, e_1, e_2, e_3, e_4, e_5, e_6, e_7, e_8, e_9, e_10, e_11, e_12, e_13, e_14, e_15, e_16, e_17, e_18, e_19, e_20, e_21, e_22, e_23, e_24, e_25, e_26, e_27, e_28, e_29, e_30, e_31, e_32, e_33, e_48, e_57, e_59, e_60, e_63, e_64, e_96, e_97, e_99, e_120, e_122, e_192, e_200, e_255, e_256, e_300, e_500, e_600, e_2000, e_5000, e_5240, e_6146, e_20000, e_65536, nIo, nI_clamp, nIxt, nI_1, nI_add, nI_mul, nI_eqF, nI_ltT, nI_ltF, nI_leT, nI_leF, nN_lt0, nN_le, nN_lt, nN_eq, nN_eq', eq_self, nBdS]
  · refine ⟨k + 1, k + 1, by omega, by omega, fun f hf hbit => ⟨2 ^ (k + 1), ?_, ?_⟩, fun k31 again mo τ1 hτ h21 => ?_⟩
    · simp (disch := first | omega | exact nM1_n | exact nM2_n | assumption) only [b_X7_nextOf_0, l_X7_nextOf_0, f_X7_nextOf, e0, hkd, shl_is, ↓nLetR, ↓reduceIte, ↓e_m1, ↓e_m2, e_0, e_1, e_2, e_3, e_4, e_5, e_6, e_7, e_8, e_9, e_10, e_11, e_12, e_13, e_14, e_15, e_16, e_17, e_18, e_19, e_20, e_21, e_22, e_23, e_24, e_25, e_26, e_27, e_28, e_29, e_30, e_31, e_32, e_33, e_48, e_57, e_59, e_60, e_63, e_64, e_96, e_97, e_99, e_120, e_122, e_192, e_200, e_255, e_256, e_300, e_500, e_600, e_2000, e_5000, e_5240, e_6146, e_20000, e_65536, nIo, nI_clamp, nIxt, nI_1, nI_add, nI_mul, nI_eqF, nI_ltT, nI_ltF, nI_leT, nI_leF, nN_lt0, nN_le, nN_lt, nN_eq, nN_eq', eq_self, nBdS]
    · exact (or_bit (by rw [or_tb, decide_eq_true rfl, Bool.or_true])).symm
    · simp (disch := first | omega | exact nM1_n | exact nM2_n | assumption) only [b_X11_reaches_39, l_X11_reaches_129, b_X11_reaches_129, h21, hτ 3 (by decide), hτ 4 (by decide), hτ 5 (by decide), hτ 6 (by decide), hτ 7 (by decide), z2, hkd, ↓nLetR, ↓reduceIte, ↓e_m1, ↓e_m2, e_0, e_1, e_2, e_3, e_4, e_5, e_6, e_7, e_8, e_9, e_10, e_11, e_12, e_13, e_14, e_15, e_16, e_17, e_18, e_19, e_20, e_21, e_22, e_23, e_24, e_25, e_26, e_27, e_28, e_29, e_30, e_31, e_32, e_33, e_48, e_57, e_59, e_60, e_63, e_64, e_96, e_97, e_99, e_120, e_122, e_192, e_200, e_255, e_256, e_300, e_500, e_600, e_2000, e_5000, e_5240, e_6146, e_20000, e_65536, nIo, nI_clamp, nIxt, nI_1, nI_add, nI_mul, nI_eqF, nI_ltT, nI_ltF, nI_leT, nI_leF, nN_lt0, nN_le, nN_lt, nN_eq, nN_eq', eq_self, nBdS]
  · refine ⟨o, o, by omega, by omega, fun f hf hbit => ⟨2 ^ o, ?_, ?_⟩, fun k31 again mo τ1 hτ h21 => ?_⟩
    · simp (disch := first | omega | exact nM1_n | exact nM2_n | assumption) only [b_X7_nextOf_0, l_X7_nextOf_0, f_X7_nextOf, e0, e1, eo, hkd, shl_is, ↓nLetR, ↓reduceIte, ↓e_m1, ↓e_m2, e_0, e_1, e_2, e_3, e_4, e_5, e_6, e_7, e_8, e_9, e_10, e_11, e_12, e_13, e_14, e_15, e_16, e_17, e_18, e_19, e_20, e_21, e_22, e_23, e_24, e_25, e_26, e_27, e_28, e_29, e_30, e_31, e_32, e_33, e_48, e_57, e_59, e_60, e_63, e_64, e_96, e_97, e_99, e_120, e_122, e_192, e_200, e_255, e_256, e_300, e_500, e_600, e_2000, e_5000, e_5240, e_6146, e_20000, e_65536, nIo, nI_clamp, nIxt, nI_1, nI_add, nI_mul, nI_eqF, nI_ltT, nI_ltF, nI_leT, nI_leF, nN_lt0, nN_le, nN_lt, nN_eq, nN_eq', eq_self, nBdS]
    · exact (or_bit (by rw [or_tb, decide_eq_true rfl, Bool.or_true])).symm
    · simp (disch := first | omega | exact nM1_n | exact nM2_n | assumption) only [b_X11_reaches_39, l_X11_reaches_129, b_X11_reaches_129, h21, hτ 3 (by decide), hτ 4 (by decide), hτ 5 (by decide), hτ 6 (by decide), hτ 7 (by decide), z2, hkd, eo, ↓nLetR, ↓reduceIte, ↓e_m1, ↓e_m2, e_0, e_1, e_2, e_3, e_4, e_5, e_6, e_7, e_8, e_9, e_10, e_11, e_12, e_13, e_14, e_15, e_16, e_17, e_18, e_19, e_20, e_21, e_22, e_23, e_24, e_25, e_26, e_27, e_28, e_29, e_30, e_31, e_32, e_33, e_48, e_57, e_59, e_60, e_63, e_64, e_96, e_97, e_99, e_120, e_122, e_192, e_200, e_255, e_256, e_300, e_500, e_600, e_2000, e_5000, e_5240, e_6146, e_20000, e_65536, nIo, nI_clamp, nIxt, nI_1, nI_add, nI_mul, nI_eqF, nI_ltT, nI_ltF, nI_leT, nI_leF, nN_lt0, nN_le, nN_lt, nN_eq, nN_eq', eq_self, nBdS]
  · refine ⟨k, k, by omega, by omega, fun f hf hbit => ⟨0, ?_, ?_⟩, fun k31 again mo τ1 hτ h21 => ?_⟩
    · simp (disch := first | omega | exact nM1_n | exact nM2_n | assumption) only [b_X7_nextOf_0, l_X7_nextOf_0, f_X7_nextOf, e0, hkd, ↓nLetR, ↓reduceIte, ↓e_m1, ↓e_m2, e_0, e_1, e_2, e_3, e_4, e_5, e_6, e_7, e_8, e_9, e_10, e_11, e_12, e_13, e_14, e_15, e_16, e_17, e_18, e_19, e_20, e_21, e_22, e_23, e_24, e_25, e_26, e_27, e_28, e_29, e_30, e_31, e_32, e_33, e_48, e_57, e_59, e_60, e_63, e_64, e_96, e_97, e_99, e_120, e_122, e_192, e_200, e_255, e_256, e_300, e_500, e_600, e_2000, e_5000, e_5240, e_6146, e_20000, e_65536, nIo, nI_clamp, nIxt, nI_1, nI_add, nI_mul, nI_eqF, nI_ltT, nI_ltF, nI_leT, nI_leF, nN_lt0, nN_le, nN_lt, nN_eq, nN_eq', eq_self, nBdS]
    · rw [or_bit hbit, or_bit hbit, Nat.or_zero]
    · simp (disch := first | omega | exact nM1_n | exact nM2_n | assumption) only [b_X11_reaches_39, l_X11_reaches_129, b_X11_reaches_129, h21, hτ 3 (by decide), hτ 4 (by decide), hτ 5 (by decide), hτ 6 (by decide), hτ 7 (by decide), z2, hkd, ↓nLetR, ↓reduceIte, ↓e_m1, ↓e_m2, e_0, e_1, e_2, e_3, e_4, e_5, e_6, e_7, e_8, e_9, e_10, e_11, e_12, e_13, e_14, e_15, e_16, e_17, e_18, e_19, e_20, e_21, e_22, e_23, e_24, e_25, e_26, e_27, e_28, e_29, e_30, e_31, e_32, e_33, e_48, e_57, e_59, e_60, e_63, e_64, e_96, e_97, e_99, e_120, e_122, e_192, e_200, e_255, e_256, e_300, e_500, e_600, e_2000, e_5000, e_5240, e_6146, e_20000, e_65536, nIo, nI_clamp, nIxt, nI_1, nI_add, nI_mul, nI_eqF, nI_ltT, nI_ltF, nI_leT, nI_leF, nN_lt0, nN_le, nN_lt, nN_eq, nN_eq', eq_self, nBdS]
