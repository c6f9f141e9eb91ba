/-! ALL -/
theorem row_0 (x : Nat) : nI x &&& nI 255 = nI (x % 256) := by
  rw [nI_and, show 255 = 2 ^ 8 - 1 from rfl, Nat.and_two_pow_sub_one_eq_mod]
theorem row_8 {x : Nat} (h : x < 2 ^ 20) : nI x >>> (nI 8 &&& nI 31) = nI (x / 256) := shrn x 8 (by omega) (by decide)
theorem row_16 {x : Nat} (h : x < 2 ^ 20) : nI x >>> (nI 16 &&& nI 31) = nI (x / 65536) := shrn x 16 (by omega) (by decide)
theorem try_is {N b F S P B n x M : Nat} {σ τ : nS} (hN : 7000 ≤ N) (hM : M + 1 < 2 ^ 31) (hH : hHs F S P B σ τ) (hB : hBk F S b n σ τ) (hx : x < 2 ^ 20) (hk : hMk M τ) :
    ∃ e σ1 τ1, f_X8_tryRow N (nI b) (nI x) σ = some (nI e, σ1) ∧ f_X11_playsChoice N (nI b) (nI x) τ = some (nI e, τ1) ∧ hF 27 (M + 1) σ τ e σ1 τ1 := by
  obtain ⟨e, σa, σb, σ1, τ1, q1, q2, q3, q4, hf⟩ := play_is (N := N) (w := 27) (ly := x / 256 % 256) (aw := x / 65536) (x := x % 256) hN (by decide) hM hH hB (by omega) hk
  have h3 : x / 65536 % 256 = x / 65536 := by omega
  refine ⟨e, σ1, τ1, ?_, ?_, hf⟩
  · have z11 := hf.2.1
    simp (disch := first | omega | exact nM1_n | exact nM2_n | assumption) only [b_X8_tryRow_0, l_X8_tryRow_0, f_X8_tryRow, row_8 hx, row_16 hx, row_0, h3, q1, q2, q3, z11, ↓nLetR, ↓reduceIte, ↓e_m1, ↓e_m2, e_0, e_1, e_2, e_3, e_4, e_5, e_6, e_7, e_8, e_9, e_10, e_11, e_12, e_13, e_14, e_15, e_16, e_17, e_18, e_19, e_20, e_21, e_22, e_23, e_24, e_25, e_26, e_27, e_28, e_29, e_30, e_31, e_32, e_33, e_48, e_57, e_59, e_60, e_63, e_64, e_96, e_97, e_99, e_120, e_122, e_192, e_200, e_255, e_256, e_300, e_500, e_600, e_2000, e_5000, e_5240, e_6146, e_20000, e_65536, nIo, nI_clamp, nIxt, nI_1, nI_add, nI_mul, nI_eqF, nI_ltT, nI_ltF, nI_leT, nI_leF, nN_lt0, nN_le, nN_lt, nN_eq, nN_eq', eq_self, nBdS]
  · simp (disch := first | omega | exact nM1_n | exact nM2_n | assumption) only [b_X11_playsChoice_0, l_X11_playsChoice_0, f_X11_playsChoice, row_8 hx, row_16 hx, row_0, q4, ↓nLetR, ↓reduceIte, ↓e_m1, ↓e_m2, e_0, e_1, e_2, e_3, e_4, e_5, e_6, e_7, e_8, e_9, e_10, e_11, e_12, e_13, e_14, e_15, e_16, e_17, e_18, e_19, e_20, e_21, e_22, e_23, e_24, e_25, e_26, e_27, e_28, e_29, e_30, e_31, e_32, e_33, e_48, e_57, e_59, e_60, e_63, e_64, e_96, e_97, e_99, e_120, e_122, e_192, e_200, e_255, e_256, e_300, e_500, e_600, e_2000, e_5000, e_5240, e_6146, e_20000, e_65536, nIo, nI_clamp, nIxt, nI_1, nI_add, nI_mul, nI_eqF, nI_ltT, nI_ltF, nI_leT, nI_leF, nN_lt0, nN_le, nN_lt, nN_eq, nN_eq', eq_self, nBdS]
def lst (a t : Int32) : Int32 := if a = nM1 then t else if a ≤ t then a else t
def mst (a t : Int32) : Int32 := if t ≤ a then a else t
def lng (a l t i : Int32) : Int32 := if t ≤ a then l else i
def cA (q j : Nat) (σ : nS) (t : Int32) : nS := if σ.1 q j = nM1 then wr σ q j t else if σ.1 q j ≤ t then σ else wr σ q j t
def cB (q j l : Nat) (σ : nS) (t i : Int32) : nS := if t ≤ σ.1 q j then σ else wr (wr σ q j t) q l i
theorem cA_d {q j : Nat} {σ : nS} {t : Int32} {d : Nat} (h : d ≠ q) : (cA q j σ t).1 d = σ.1 d := by
  unfold cA
  split
  · rw [wrc _ _ _ h]
  · split
    · rfl
    · rw [wrc _ _ _ h]
theorem cA_f {q j : Nat} {σ : nS} {t : Int32} {f : Nat} (h : f ≠ j) : (cA q j σ t).1 q f = σ.1 q f := by
  unfold cA
  split
  · rw [wrk _ _ _ h]
  · split
    · rfl
    · rw [wrk _ _ _ h]
theorem cA_j {q j : Nat} {σ : nS} {t : Int32} : (cA q j σ t).1 q j = lst (σ.1 q j) t := by
  unfold cA lst
  split
  · rw [wrs]
  · split
    · rfl
    · rw [wrs]
theorem cB_d {q j l : Nat} {σ : nS} {t i : Int32} {d : Nat} (h : d ≠ q) : (cB q j l σ t i).1 d = σ.1 d := by
  unfold cB
  split
  · rfl
  · rw [wrc _ _ _ h, wrc _ _ _ h]
theorem cB_f {q j l : Nat} {σ : nS} {t i : Int32} {f : Nat} (h : f ≠ j) (h2 : f ≠ l) : (cB q j l σ t i).1 q f = σ.1 q f := by
  unfold cB
  split
  · rfl
  · rw [wrk _ _ _ h2, wrk _ _ _ h]
theorem cB_j {q j l : Nat} {σ : nS} {t i : Int32} (h : j ≠ l) : (cB q j l σ t i).1 q j = mst (σ.1 q j) t := by
  unfold cB mst
  split
  · rfl
  · rw [wrk _ _ _ h, wrs]
theorem cB_l {q j l : Nat} {σ : nS} {t i : Int32} : (cB q j l σ t i).1 q l = lng (σ.1 q j) (σ.1 q l) t i := by
  unfold cB lng
  split
  · rfl
  · rw [wrs]
theorem calm_c {N : Nat} {σ : nS} (i t : Int32) : f_X5_addCalm N i t σ = some (nI 0, cB 16 7 8 (cA 16 6 σ t) t i) := by
  have e7 : (cA 16 6 σ t).1 16 7 = σ.1 16 7 := cA_f (by decide)
  unfold cB
  rw [e7]
  unfold cA
  by_cases h1 : σ.1 16 6 = nM1
  · by_cases h3 : t ≤ σ.1 16 7
    · rw [if_pos h1, if_pos h3]
      simp (disch := first | omega | exact nM1_n | exact nM2_n | assumption) only [b_X5_addCalm_21, b_X5_addCalm_16, b_X5_addCalm_0, l_X5_addCalm_21, l_X5_addCalm_16, l_X5_addCalm_0, f_X5_addCalm, eq_true h1, eq_true h3, ↓nLetR, ↓reduceIte, ↓e_m1, ↓e_m2, e_0, e_1, e_2, e_3, e_4, e_5, e_6, e_7, e_8, e_9, e_10, e_11, e_12, e_13, e_14, e_15, e_16, e_17, e_18, e_19, e_20, e_21, e_22, e_23, e_24, e_25, e_26, e_27, e_28, e_29, e_30, e_31, e_32, e_33, e_48, e_57, e_59, e_60, e_63, e_64, e_96, e_97, e_99, e_120, e_122, e_192, e_200, e_255, e_256, e_300, e_500, e_600, e_2000, e_5000, e_5240, e_6146, e_20000, e_65536, nIo, nI_clamp, nIxt, nI_1, nI_add, nI_mul, nI_eqF, nI_ltT, nI_ltF, nI_leT, nI_leF, nN_lt0, nN_le, nN_lt, nN_eq, nN_eq', eq_self, nBdS, wrs, wrk, wrc, wr2, wl1, wls, wlk, wlc]
    · rw [if_pos h1, if_neg h3]
      simp (disch := first | omega | exact nM1_n | exact nM2_n | assumption) only [b_X5_addCalm_21, b_X5_addCalm_16, b_X5_addCalm_0, l_X5_addCalm_21, l_X5_addCalm_16, l_X5_addCalm_0, f_X5_addCalm, eq_true h1, eq_false h3, ↓nLetR, ↓reduceIte, ↓e_m1, ↓e_m2, e_0, e_1, e_2, e_3, e_4, e_5, e_6, e_7, e_8, e_9, e_10, e_11, e_12, e_13, e_14, e_15, e_16, e_17, e_18, e_19, e_20, e_21, e_22, e_23, e_24, e_25, e_26, e_27, e_28, e_29, e_30, e_31, e_32, e_33, e_48, e_57, e_59, e_60, e_63, e_64, e_96, e_97, e_99, e_120, e_122, e_192, e_200, e_255, e_256, e_300, e_500, e_600, e_2000, e_5000, e_5240, e_6146, e_20000, e_65536, nIo, nI_clamp, nIxt, nI_1, nI_add, nI_mul, nI_eqF, nI_ltT, nI_ltF, nI_leT, nI_leF, nN_lt0, nN_le, nN_lt, nN_eq, nN_eq', eq_self, nBdS, wrs, wrk, wrc, wr2, wl1, wls, wlk, wlc]
  · rw [if_neg h1]
    by_cases h2 : σ.1 16 6 ≤ t
    · rw [if_pos h2]
      by_cases h3 : t ≤ σ.1 16 7
      · rw [if_pos h3]
        simp (disch := first | omega | exact nM1_n | exact nM2_n | assumption) only [b_X5_addCalm_21, b_X5_addCalm_16, b_X5_addCalm_0, l_X5_addCalm_21, l_X5_addCalm_16, l_X5_addCalm_0, f_X5_addCalm, eq_false h1, eq_true h2, eq_true h3, ↓nLetR, ↓reduceIte, ↓e_m1, ↓e_m2, e_0, e_1, e_2, e_3, e_4, e_5, e_6, e_7, e_8, e_9, e_10, e_11, e_12, e_13, e_14, e_15, e_16, e_17, e_18, e_19, e_20, e_21, e_22, e_23, e_24, e_25, e_26, e_27, e_28, e_29, e_30, e_31, e_32, e_33, e_48, e_57, e_59, e_60, e_63, e_64, e_96, e_97, e_99, e_120, e_122, e_192, e_200, e_255, e_256, e_300, e_500, e_600, e_2000, e_5000, e_5240, e_6146, e_20000, e_65536, nIo, nI_clamp, nIxt, nI_1, nI_add, nI_mul, nI_eqF, nI_ltT, nI_ltF, nI_leT, nI_leF, nN_lt0, nN_le, nN_lt, nN_eq, nN_eq', eq_self, nBdS, wrs, wrk, wrc, wr2, wl1, wls, wlk, wlc]
      · rw [if_neg h3]
        simp (disch := first | omega | exact nM1_n | exact nM2_n | assumption) only [b_X5_addCalm_21, b_X5_addCalm_16, b_X5_addCalm_0, l_X5_addCalm_21, l_X5_addCalm_16, l_X5_addCalm_0, f_X5_addCalm, eq_false h1, eq_true h2, eq_false h3, ↓nLetR, ↓reduceIte, ↓e_m1, ↓e_m2, e_0, e_1, e_2, e_3, e_4, e_5, e_6, e_7, e_8, e_9, e_10, e_11, e_12, e_13, e_14, e_15, e_16, e_17, e_18, e_19, e_20, e_21, e_22, e_23, e_24, e_25, e_26, e_27, e_28, e_29, e_30, e_31, e_32, e_33, e_48, e_57, e_59, e_60, e_63, e_64, e_96, e_97, e_99, e_120, e_122, e_192, e_200, e_255, e_256, e_300, e_500, e_600, e_2000, e_5000, e_5240, e_6146, e_20000, e_65536, nIo, nI_clamp, nIxt, nI_1, nI_add, nI_mul, nI_eqF, nI_ltT, nI_ltF, nI_leT, nI_leF, nN_lt0, nN_le, nN_lt, nN_eq, nN_eq', eq_self, nBdS, wrs, wrk, wrc, wr2, wl1, wls, wlk, wlc]
    · rw [if_neg h2]
      by_cases h3 : t ≤ σ.1 16 7
      · rw [if_pos h3]
        simp (disch := first | omega | exact nM1_n | exact nM2_n | assumption) only [b_X5_addCalm_21, b_X5_addCalm_16, b_X5_addCalm_0, l_X5_addCalm_21, l_X5_addCalm_16, l_X5_addCalm_0, f_X5_addCalm, eq_false h1, eq_false h2, eq_true h3, ↓nLetR, ↓reduceIte, ↓e_m1, ↓e_m2, e_0, e_1, e_2, e_3, e_4, e_5, e_6, e_7, e_8, e_9, e_10, e_11, e_12, e_13, e_14, e_15, e_16, e_17, e_18, e_19, e_20, e_21, e_22, e_23, e_24, e_25, e_26, e_27, e_28, e_29, e_30, e_31, e_32, e_33, e_48, e_57, e_59, e_60, e_63, e_64, e_96, e_97, e_99, e_120, e_122, e_192, e_200, e_255, e_256, e_300, e_500, e_600, e_2000, e_5000, e_5240, e_6146, e_20000, e_65536, nIo, nI_clamp, nIxt, nI_1, nI_add, nI_mul, nI_eqF, nI_ltT, nI_ltF, nI_leT, nI_leF, nN_lt0, nN_le, nN_lt, nN_eq, nN_eq', eq_self, nBdS, wrs, wrk, wrc, wr2, wl1, wls, wlk, wlc]
      · rw [if_neg h3]
        simp (disch := first | omega | exact nM1_n | exact nM2_n | assumption) only [b_X5_addCalm_21, b_X5_addCalm_16, b_X5_addCalm_0, l_X5_addCalm_21, l_X5_addCalm_16, l_X5_addCalm_0, f_X5_addCalm, eq_false h1, eq_false h2, eq_false h3, ↓nLetR, ↓reduceIte, ↓e_m1, ↓e_m2, e_0, e_1, e_2, e_3, e_4, e_5, e_6, e_7, e_8, e_9, e_10, e_11, e_12, e_13, e_14, e_15, e_16, e_17, e_18, e_19, e_20, e_21, e_22, e_23, e_24, e_25, e_26, e_27, e_28, e_29, e_30, e_31, e_32, e_33, e_48, e_57, e_59, e_60, e_63, e_64, e_96, e_97, e_99, e_120, e_122, e_192, e_200, e_255, e_256, e_300, e_500, e_600, e_2000, e_5000, e_5240, e_6146, e_20000, e_65536, nIo, nI_clamp, nIxt, nI_1, nI_add, nI_mul, nI_eqF, nI_ltT, nI_ltF, nI_leT, nI_leF, nN_lt0, nN_le, nN_lt, nN_eq, nN_eq', eq_self, nBdS, wrs, wrk, wrc, wr2, wl1, wls, wlk, wlc]
theorem calm_m {N i : Nat} {τ τ1 : nS} {v b : Int32} (again : nS → Int32 → Int32 → Option (Int32 × nS)) (hi : i < 500) {n : Nat} (hn : n ≤ 500) (h46 : τ.1 0 46 = nI n) (hin : i < n) (h16 : τ.1 16 i = v) (hp : f_X11_playsChoice N b v (wr τ 18 i v) = some (nI 0, τ1)) :
    b_X11_all_171 N (l_X11_all_247 N (l_X11_all_257 N (l_X11_all_371 N again))) (l_X11_all_257 N (l_X11_all_371 N again)) (l_X11_all_361 N (l_X11_all_371 N again)) τ b (nI i) = again (cB 20 2 7 (cA 20 1 (wr τ1 19 0 (τ1.1 19 0 + nI 1)) (τ1.1 0 33)) (τ1.1 0 33) (nI i)) b (nI (i + 1)) := by
  have e7 : (cA 20 1 (wr τ1 19 0 (τ1.1 19 0 + nI 1)) (τ1.1 0 33)).1 20 2 = τ1.1 20 2 := by rw [cA_f (by decide), wrc _ _ _ (by decide)]
  have e1 : (wr τ1 19 0 (τ1.1 19 0 + nI 1)).1 20 1 = τ1.1 20 1 := by rw [wrc _ _ _ (by decide)]
  unfold cB
  rw [e7]
  unfold cA
  rw [e1]
  by_cases h1 : τ1.1 20 1 = nM1
  · by_cases h3 : τ1.1 0 33 ≤ τ1.1 20 2
    · rw [if_pos h1, if_pos h3]
      simp (disch := first | omega | exact nM1_n | exact nM2_n | assumption) only [b_X11_all_171, l_X11_all_247, l_X11_all_257, l_X11_all_371, b_X11_all_247, b_X11_all_257, b_X11_all_371, h46, h16, hp, eq_true h1, eq_true h3, ↓nLetR, ↓reduceIte, ↓e_m1, ↓e_m2, e_0, e_1, e_2, e_3, e_4, e_5, e_6, e_7, e_8, e_9, e_10, e_11, e_12, e_13, e_14, e_15, e_16, e_17, e_18, e_19, e_20, e_21, e_22, e_23, e_24, e_25, e_26, e_27, e_28, e_29, e_30, e_31, e_32, e_33, e_48, e_57, e_59, e_60, e_63, e_64, e_96, e_97, e_99, e_120, e_122, e_192, e_200, e_255, e_256, e_300, e_500, e_600, e_2000, e_5000, e_5240, e_6146, e_20000, e_65536, nIo, nI_clamp, nIxt, nI_1, nI_add, nI_mul, nI_eqF, nI_ltT, nI_ltF, nI_leT, nI_leF, nN_lt0, nN_le, nN_lt, nN_eq, nN_eq', eq_self, nBdS, wrs, wrk, wrc, wr2, wl1, wls, wlk, wlc]
    · rw [if_pos h1, if_neg h3]
      simp (disch := first | omega | exact nM1_n | exact nM2_n | assumption) only [b_X11_all_171, l_X11_all_247, l_X11_all_257, l_X11_all_371, b_X11_all_247, b_X11_all_257, b_X11_all_371, h46, h16, hp, eq_true h1, eq_false h3, ↓nLetR, ↓reduceIte, ↓e_m1, ↓e_m2, e_0, e_1, e_2, e_3, e_4, e_5, e_6, e_7, e_8, e_9, e_10, e_11, e_12, e_13, e_14, e_15, e_16, e_17, e_18, e_19, e_20, e_21, e_22, e_23, e_24, e_25, e_26, e_27, e_28, e_29, e_30, e_31, e_32, e_33, e_48, e_57, e_59, e_60, e_63, e_64, e_96, e_97, e_99, e_120, e_122, e_192, e_200, e_255, e_256, e_300, e_500, e_600, e_2000, e_5000, e_5240, e_6146, e_20000, e_65536, nIo, nI_clamp, nIxt, nI_1, nI_add, nI_mul, nI_eqF, nI_ltT, nI_ltF, nI_leT, nI_leF, nN_lt0, nN_le, nN_lt, nN_eq, nN_eq', eq_self, nBdS, wrs, wrk, wrc, wr2, wl1, wls, wlk, wlc]
  · rw [if_neg h1]
    by_cases h2 : τ1.1 20 1 ≤ τ1.1 0 33
    · rw [if_pos h2]
      by_cases h3 : τ1.1 0 33 ≤ τ1.1 20 2
      · rw [if_pos h3]
        simp (disch := first | omega | exact nM1_n | exact nM2_n | assumption) only [b_X11_all_171, l_X11_all_247, l_X11_all_257, l_X11_all_371, b_X11_all_247, b_X11_all_257, b_X11_all_371, h46, h16, hp, eq_false h1, eq_true h2, eq_true h3, ↓nLetR, ↓reduceIte, ↓e_m1, ↓e_m2, e_0, e_1, e_2, e_3, e_4, e_5, e_6, e_7, e_8, e_9, e_10, e_11, e_12, e_13, e_14, e_15, e_16, e_17, e_18, e_19, e_20, e_21, e_22, e_23, e_24, e_25, e_26, e_27, e_28, e_29, e_30, e_31, e_32, e_33, e_48, e_57, e_59, e_60, e_63, e_64, e_96, e_97, e_99, e_120, e_122, e_192, e_200, e_255, e_256, e_300, e_500, e_600, e_2000, e_5000, e_5240, e_6146, e_20000, e_65536, nIo, nI_clamp, nIxt, nI_1, nI_add, nI_mul, nI_eqF, nI_ltT, nI_ltF, nI_leT, nI_leF, nN_lt0, nN_le, nN_lt, nN_eq, nN_eq', eq_self, nBdS, wrs, wrk, wrc, wr2, wl1, wls, wlk, wlc]
      · rw [if_neg h3]
        simp (disch := first | omega | exact nM1_n | exact nM2_n | assumption) only [b_X11_all_171, l_X11_all_247, l_X11_all_257, l_X11_all_371, b_X11_all_247, b_X11_all_257, b_X11_all_371, h46, h16, hp, eq_false h1, eq_true h2, eq_false h3, ↓nLetR, ↓reduceIte, ↓e_m1, ↓e_m2, e_0, e_1, e_2, e_3, e_4, e_5, e_6, e_7, e_8, e_9, e_10, e_11, e_12, e_13, e_14, e_15, e_16, e_17, e_18, e_19, e_20, e_21, e_22, e_23, e_24, e_25, e_26, e_27, e_28, e_29, e_30, e_31, e_32, e_33, e_48, e_57, e_59, e_60, e_63, e_64, e_96, e_97, e_99, e_120, e_122, e_192, e_200, e_255, e_256, e_300, e_500, e_600, e_2000, e_5000, e_5240, e_6146, e_20000, e_65536, nIo, nI_clamp, nIxt, nI_1, nI_add, nI_mul, nI_eqF, nI_ltT, nI_ltF, nI_leT, nI_leF, nN_lt0, nN_le, nN_lt, nN_eq, nN_eq', eq_self, nBdS, wrs, wrk, wrc, wr2, wl1, wls, wlk, wlc]
    · rw [if_neg h2]
      by_cases h3 : τ1.1 0 33 ≤ τ1.1 20 2
      · rw [if_pos h3]
        simp (disch := first | omega | exact nM1_n | exact nM2_n | assumption) only [b_X11_all_171, l_X11_all_247, l_X11_all_257, l_X11_all_371, b_X11_all_247, b_X11_all_257, b_X11_all_371, h46, h16, hp, eq_false h1, eq_false h2, eq_true h3, ↓nLetR, ↓reduceIte, ↓e_m1, ↓e_m2, e_0, e_1, e_2, e_3, e_4, e_5, e_6, e_7, e_8, e_9, e_10, e_11, e_12, e_13, e_14, e_15, e_16, e_17, e_18, e_19, e_20, e_21, e_22, e_23, e_24, e_25, e_26, e_27, e_28, e_29, e_30, e_31, e_32, e_33, e_48, e_57, e_59, e_60, e_63, e_64, e_96, e_97, e_99, e_120, e_122, e_192, e_200, e_255, e_256, e_300, e_500, e_600, e_2000, e_5000, e_5240, e_6146, e_20000, e_65536, nIo, nI_clamp, nIxt, nI_1, nI_add, nI_mul, nI_eqF, nI_ltT, nI_ltF, nI_leT, nI_leF, nN_lt0, nN_le, nN_lt, nN_eq, nN_eq', eq_self, nBdS, wrs, wrk, wrc, wr2, wl1, wls, wlk, wlc]
      · rw [if_neg h3]
        simp (disch := first | omega | exact nM1_n | exact nM2_n | assumption) only [b_X11_all_171, l_X11_all_247, l_X11_all_257, l_X11_all_371, b_X11_all_247, b_X11_all_257, b_X11_all_371, h46, h16, hp, eq_false h1, eq_false h2, eq_false h3, ↓nLetR, ↓reduceIte, ↓e_m1, ↓e_m2, e_0, e_1, e_2, e_3, e_4, e_5, e_6, e_7, e_8, e_9, e_10, e_11, e_12, e_13, e_14, e_15, e_16, e_17, e_18, e_19, e_20, e_21, e_22, e_23, e_24, e_25, e_26, e_27, e_28, e_29, e_30, e_31, e_32, e_33, e_48, e_57, e_59, e_60, e_63, e_64, e_96, e_97, e_99, e_120, e_122, e_192, e_200, e_255, e_256, e_300, e_500, e_600, e_2000, e_5000, e_5240, e_6146, e_20000, e_65536, nIo, nI_clamp, nIxt, nI_1, nI_add, nI_mul, nI_eqF, nI_ltT, nI_ltF, nI_leT, nI_leF, nN_lt0, nN_le, nN_lt, nN_eq, nN_eq', eq_self, nBdS, wrs, wrk, wrc, wr2, wl1, wls, wlk, wlc]
def aT (W : List Nat) (b i : Nat) (σ τ : nS) : Prop :=
  (σ.1 16 2 = nI 1 ∧ σ.1 16 3 = nI b ∧ σ.1 16 4 = nI W.length ∧ τ.1 0 47 = nI 1 ∧ τ.1 0 48 = nI b ∧ τ.1 0 49 = nI W.length) ∧ (τ.1 0 46 = nI W.length ∧ lsR (σ.1 17) W ∧ lsR (τ.1 16) W) ∧ (∀ j, j < i → τ.1 18 j = σ.1 17 j) ∧ (∀ e, e < 7 → τ.1 19 e = σ.1 18 e) ∧
  (∃ x, x ≤ i ∧ σ.1 16 5 = nI x ∧ τ.1 0 50 = nI x ∧ (x = 0 → τ.1 20 3 = nM1 ∧ τ.1 20 4 = nM1 ∧ τ.1 20 5 = nM1) ∧ (¬ x = 0 → τ.1 20 3 = σ.1 16 9 &&& nI 255 ∧ τ.1 20 4 = (σ.1 16 9 >>> (nI 8 &&& nI 31)) &&& nI 255 ∧ τ.1 20 5 = (σ.1 16 9 >>> (nI 16 &&& nI 31)) &&& nI 255)) ∧
  (τ.1 20 0 = nI W.length ∧ τ.1 20 1 = σ.1 16 6 ∧ τ.1 20 2 = σ.1 16 7 ∧ τ.1 20 6 = σ.1 16 10 ∧ τ.1 20 7 = σ.1 16 8)
def aF (σ0 τ0 σ τ : nS) : Prop := (∀ d, d ≠ 16 → d ≠ 18 → d ≠ 27 → d ≠ 29 → d ≠ 11 → σ.1 d = σ0.1 d) ∧ (∀ d, d ≠ 0 → d ≠ 12 → d ≠ 14 → d ≠ 18 → d ≠ 19 → d ≠ 20 → τ.1 d = τ0.1 d) ∧ ∀ f, (f < 31 ∨ 36 < f) → f ≠ 50 → τ.1 0 f = τ0.1 0 f
theorem aF.hs {F S P B : Nat} {σ0 τ0 σ τ : nS} (h : aF σ0 τ0 σ τ) (g : hHs F S P B σ0 τ0) : hHs F S P B σ τ := by
  unfold hHs
  rw [h.1 1 (by decide) (by decide) (by decide) (by decide) (by decide), h.1 2 (by decide) (by decide) (by decide) (by decide) (by decide), h.1 3 (by decide) (by decide) (by decide) (by decide) (by decide), h.2.1 1 (by decide) (by decide) (by decide) (by decide) (by decide) (by decide), h.2.1 2 (by decide) (by decide) (by decide) (by decide) (by decide) (by decide), h.2.2 4 (by decide) (by decide), h.2.2 5 (by decide) (by decide), h.2.2 6 (by decide) (by decide), h.2.2 7 (by decide) (by decide), h.2.2 8 (by decide) (by decide)]
  exact g
theorem aF.bk {F S b n : Nat} {σ0 τ0 σ τ : nS} (h : aF σ0 τ0 σ τ) (g : hBk F S b n σ0 τ0) : hBk F S b n σ τ := by
  unfold hBk
  rw [h.1 4 (by decide) (by decide) (by decide) (by decide) (by decide), h.1 5 (by decide) (by decide) (by decide) (by decide) (by decide), h.2.1 3 (by decide) (by decide) (by decide) (by decide) (by decide) (by decide), h.2.1 4 (by decide) (by decide) (by decide) (by decide) (by decide) (by decide), h.2.1 5 (by decide) (by decide) (by decide) (by decide) (by decide) (by decide), h.2.1 6 (by decide) (by decide) (by decide) (by decide) (by decide) (by decide), h.2.1 7 (by decide) (by decide) (by decide) (by decide) (by decide) (by decide), h.2.1 8 (by decide) (by decide) (by decide) (by decide) (by decide) (by decide)]
  exact g
