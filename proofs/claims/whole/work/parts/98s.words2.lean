/-! BOOK: the text, from its words -/
def wR (N : Nat) (σ τ : nS) (j r : Nat) : Prop := f_X4_isWord N j σ = some (nI r, σ) ∧ f_X11_isWord N j τ = some (nI r, τ)
theorem bs_0 {N : Nat} {σ τ : nS} (w0 : wR N σ τ 0 1) : f_X4_beginsStep N σ = some (nI 1, σ) := by
  simp (disch := first | omega | exact nM1_n | exact nM2_n | assumption) only [b_X4_beginsStep_0, l_X4_beginsStep_0, f_X4_beginsStep, w0.1, ↓nLetR, ↓reduceIte, ↓e_m1, ↓e_m2, e_0, e_1, e_2, e_3, e_4, e_5, e_6, e_7, e_8, e_9, e_10, e_11, e_12, e_13, e_14, e_15, e_16, e_17, e_18, e_19, e_20, e_21, e_22, e_23, e_24, e_25, e_26, e_27, e_28, e_29, e_30, e_31, e_32, e_33, e_48, e_57, e_59, e_60, e_63, e_64, e_96, e_97, e_99, e_120, e_122, e_192, e_200, e_255, e_256, e_300, e_500, e_600, e_2000, e_5000, e_5240, e_6146, e_20000, e_65536, nIo, nI_clamp, nIxt, nI_1, nI_add, nI_mul, nI_eqF, nI_ltT, nI_ltF, nI_leT, nI_leF, nN_lt0, nN_le, nN_lt, nN_eq, nN_eq', eq_self, nBdS]
theorem bs_1 {N : Nat} {σ τ : nS} (w0 : wR N σ τ 0 0) (w1 : wR N σ τ 1 1) : f_X4_beginsStep N σ = some (nI 1, σ) := by
  simp (disch := first | omega | exact nM1_n | exact nM2_n | assumption) only [b_X4_beginsStep_0, l_X4_beginsStep_0, f_X4_beginsStep, w0.1, w1.1, ↓nLetR, ↓reduceIte, ↓e_m1, ↓e_m2, e_0, e_1, e_2, e_3, e_4, e_5, e_6, e_7, e_8, e_9, e_10, e_11, e_12, e_13, e_14, e_15, e_16, e_17, e_18, e_19, e_20, e_21, e_22, e_23, e_24, e_25, e_26, e_27, e_28, e_29, e_30, e_31, e_32, e_33, e_48, e_57, e_59, e_60, e_63, e_64, e_96, e_97, e_99, e_120, e_122, e_192, e_200, e_255, e_256, e_300, e_500, e_600, e_2000, e_5000, e_5240, e_6146, e_20000, e_65536, nIo, nI_clamp, nIxt, nI_1, nI_add, nI_mul, nI_eqF, nI_ltT, nI_ltF, nI_leT, nI_leF, nN_lt0, nN_le, nN_lt, nN_eq, nN_eq', eq_self, nBdS]
theorem bs_2 {N : Nat} {σ τ : nS} (w0 : wR N σ τ 0 0) (w1 : wR N σ τ 1 0) (w2 : wR N σ τ 2 1) : f_X4_beginsStep N σ = some (nI 1, σ) := by
  simp (disch := first | omega | exact nM1_n | exact nM2_n | assumption) only [b_X4_beginsStep_0, l_X4_beginsStep_0, f_X4_beginsStep, w0.1, w1.1, w2.1, ↓nLetR, ↓reduceIte, ↓e_m1, ↓e_m2, e_0, e_1, e_2, e_3, e_4, e_5, e_6, e_7, e_8, e_9, e_10, e_11, e_12, e_13, e_14, e_15, e_16, e_17, e_18, e_19, e_20, e_21, e_22, e_23, e_24, e_25, e_26, e_27, e_28, e_29, e_30, e_31, e_32, e_33, e_48, e_57, e_59, e_60, e_63, e_64, e_96, e_97, e_99, e_120, e_122, e_192, e_200, e_255, e_256, e_300, e_500, e_600, e_2000, e_5000, e_5240, e_6146, e_20000, e_65536, nIo, nI_clamp, nIxt, nI_1, nI_add, nI_mul, nI_eqF, nI_ltT, nI_ltF, nI_leT, nI_leF, nN_lt0, nN_le, nN_lt, nN_eq, nN_eq', eq_self, nBdS]
theorem bs_3 {N : Nat} {σ τ : nS} (w0 : wR N σ τ 0 0) (w1 : wR N σ τ 1 0) (w2 : wR N σ τ 2 0) (w3 : wR N σ τ 3 1) : f_X4_beginsStep N σ = some (nI 1, σ) := by
  simp (disch := first | omega | exact nM1_n | exact nM2_n | assumption) only [b_X4_beginsStep_0, l_X4_beginsStep_0, f_X4_beginsStep, w0.1, w1.1, w2.1, w3.1, ↓nLetR, ↓reduceIte, ↓e_m1, ↓e_m2, e_0, e_1, e_2, e_3, e_4, e_5, e_6, e_7, e_8, e_9, e_10, e_11, e_12, e_13, e_14, e_15, e_16, e_17, e_18, e_19, e_20, e_21, e_22, e_23, e_24, e_25, e_26, e_27, e_28, e_29, e_30, e_31, e_32, e_33, e_48, e_57, e_59, e_60, e_63, e_64, e_96, e_97, e_99, e_120, e_122, e_192, e_200, e_255, e_256, e_300, e_500, e_600, e_2000, e_5000, e_5240, e_6146, e_20000, e_65536, nIo, nI_clamp, nIxt, nI_1, nI_add, nI_mul, nI_eqF, nI_ltT, nI_ltF, nI_leT, nI_leF, nN_lt0, nN_le, nN_lt, nN_eq, nN_eq', eq_self, nBdS]
theorem bs_4 {N : Nat} {σ τ : nS} (w0 : wR N σ τ 0 0) (w1 : wR N σ τ 1 0) (w2 : wR N σ τ 2 0) (w3 : wR N σ τ 3 0) (w4 : wR N σ τ 4 1) : f_X4_beginsStep N σ = some (nI 1, σ) := by
  simp (disch := first | omega | exact nM1_n | exact nM2_n | assumption) only [b_X4_beginsStep_0, l_X4_beginsStep_0, f_X4_beginsStep, w0.1, w1.1, w2.1, w3.1, w4.1, ↓nLetR, ↓reduceIte, ↓e_m1, ↓e_m2, e_0, e_1, e_2, e_3, e_4, e_5, e_6, e_7, e_8, e_9, e_10, e_11, e_12, e_13, e_14, e_15, e_16, e_17, e_18, e_19, e_20, e_21, e_22, e_23, e_24, e_25, e_26, e_27, e_28, e_29, e_30, e_31, e_32, e_33, e_48, e_57, e_59, e_60, e_63, e_64, e_96, e_97, e_99, e_120, e_122, e_192, e_200, e_255, e_256, e_300, e_500, e_600, e_2000, e_5000, e_5240, e_6146, e_20000, e_65536, nIo, nI_clamp, nIxt, nI_1, nI_add, nI_mul, nI_eqF, nI_ltT, nI_ltF, nI_leT, nI_leF, nN_lt0, nN_le, nN_lt, nN_eq, nN_eq', eq_self, nBdS]
theorem bs_n {N : Nat} {σ τ : nS} (w0 : wR N σ τ 0 0) (w1 : wR N σ τ 1 0) (w2 : wR N σ τ 2 0) (w3 : wR N σ τ 3 0) (w4 : wR N σ τ 4 0) : f_X4_beginsStep N σ = some (nI 0, σ) := by
  simp (disch := first | omega | exact nM1_n | exact nM2_n | assumption) only [b_X4_beginsStep_0, l_X4_beginsStep_0, f_X4_beginsStep, w0.1, w1.1, w2.1, w3.1, w4.1, ↓nLetR, ↓reduceIte, ↓e_m1, ↓e_m2, e_0, e_1, e_2, e_3, e_4, e_5, e_6, e_7, e_8, e_9, e_10, e_11, e_12, e_13, e_14, e_15, e_16, e_17, e_18, e_19, e_20, e_21, e_22, e_23, e_24, e_25, e_26, e_27, e_28, e_29, e_30, e_31, e_32, e_33, e_48, e_57, e_59, e_60, e_63, e_64, e_96, e_97, e_99, e_120, e_122, e_192, e_200, e_255, e_256, e_300, e_500, e_600, e_2000, e_5000, e_5240, e_6146, e_20000, e_65536, nIo, nI_clamp, nIxt, nI_1, nI_add, nI_mul, nI_eqF, nI_ltT, nI_ltF, nI_leT, nI_leF, nN_lt0, nN_le, nN_lt, nN_eq, nN_eq', eq_self, nBdS]
theorem rm_0 {N : Nat} {σ τ : nS} {B : Int32} (w0 : wR N σ τ 0 1) (k88 : nS → Int32 → Int32 → Option (Option Int32 × nS)) (k209 : nS → Int32 → Int32 → Int32 → Option (Option Int32 × nS)) : b_X11_reads_18 N k88 k209 τ B (nI 1) = k88 τ B (nI 0) := by
  simp (disch := first | omega | exact nM1_n | exact nM2_n | assumption) only [b_X11_reads_18, w0.2, ↓nLetR, ↓reduceIte, ↓e_m1, ↓e_m2, e_0, e_1, e_2, e_3, e_4, e_5, e_6, e_7, e_8, e_9, e_10, e_11, e_12, e_13, e_14, e_15, e_16, e_17, e_18, e_19, e_20, e_21, e_22, e_23, e_24, e_25, e_26, e_27, e_28, e_29, e_30, e_31, e_32, e_33, e_48, e_57, e_59, e_60, e_63, e_64, e_96, e_97, e_99, e_120, e_122, e_192, e_200, e_255, e_256, e_300, e_500, e_600, e_2000, e_5000, e_5240, e_6146, e_20000, e_65536, nIo, nI_clamp, nIxt, nI_1, nI_add, nI_mul, nI_eqF, nI_ltT, nI_ltF, nI_leT, nI_leF, nN_lt0, nN_le, nN_lt, nN_eq, nN_eq', eq_self, nBdS]
theorem rm_1 {N : Nat} {σ τ : nS} {B : Int32} (w0 : wR N σ τ 0 0) (w1 : wR N σ τ 1 1) (k88 : nS → Int32 → Int32 → Option (Option Int32 × nS)) (k209 : nS → Int32 → Int32 → Int32 → Option (Option Int32 × nS)) : b_X11_reads_18 N k88 k209 τ B (nI 1) = k88 τ B (nI 2) := by
  simp (disch := first | omega | exact nM1_n | exact nM2_n | assumption) only [b_X11_reads_18, w0.2, w1.2, ↓nLetR, ↓reduceIte, ↓e_m1, ↓e_m2, e_0, e_1, e_2, e_3, e_4, e_5, e_6, e_7, e_8, e_9, e_10, e_11, e_12, e_13, e_14, e_15, e_16, e_17, e_18, e_19, e_20, e_21, e_22, e_23, e_24, e_25, e_26, e_27, e_28, e_29, e_30, e_31, e_32, e_33, e_48, e_57, e_59, e_60, e_63, e_64, e_96, e_97, e_99, e_120, e_122, e_192, e_200, e_255, e_256, e_300, e_500, e_600, e_2000, e_5000, e_5240, e_6146, e_20000, e_65536, nIo, nI_clamp, nIxt, nI_1, nI_add, nI_mul, nI_eqF, nI_ltT, nI_ltF, nI_leT, nI_leF, nN_lt0, nN_le, nN_lt, nN_eq, nN_eq', eq_self, nBdS]
theorem rm_2 {N : Nat} {σ τ : nS} {B : Int32} (w0 : wR N σ τ 0 0) (w1 : wR N σ τ 1 0) (w2 : wR N σ τ 2 1) (k88 : nS → Int32 → Int32 → Option (Option Int32 × nS)) (k209 : nS → Int32 → Int32 → Int32 → Option (Option Int32 × nS)) : b_X11_reads_18 N k88 k209 τ B (nI 1) = k88 τ B (nI 3) := by
  simp (disch := first | omega | exact nM1_n | exact nM2_n | assumption) only [b_X11_reads_18, w0.2, w1.2, w2.2, ↓nLetR, ↓reduceIte, ↓e_m1, ↓e_m2, e_0, e_1, e_2, e_3, e_4, e_5, e_6, e_7, e_8, e_9, e_10, e_11, e_12, e_13, e_14, e_15, e_16, e_17, e_18, e_19, e_20, e_21, e_22, e_23, e_24, e_25, e_26, e_27, e_28, e_29, e_30, e_31, e_32, e_33, e_48, e_57, e_59, e_60, e_63, e_64, e_96, e_97, e_99, e_120, e_122, e_192, e_200, e_255, e_256, e_300, e_500, e_600, e_2000, e_5000, e_5240, e_6146, e_20000, e_65536, nIo, nI_clamp, nIxt, nI_1, nI_add, nI_mul, nI_eqF, nI_ltT, nI_ltF, nI_leT, nI_leF, nN_lt0, nN_le, nN_lt, nN_eq, nN_eq', eq_self, nBdS]
theorem rm_3 {N : Nat} {σ τ : nS} {B : Int32} (w0 : wR N σ τ 0 0) (w1 : wR N σ τ 1 0) (w2 : wR N σ τ 2 0) (w3 : wR N σ τ 3 1) (k88 : nS → Int32 → Int32 → Option (Option Int32 × nS)) (k209 : nS → Int32 → Int32 → Int32 → Option (Option Int32 × nS)) : b_X11_reads_18 N k88 k209 τ B (nI 1) = k88 τ B (nI 4) := by
  simp (disch := first | omega | exact nM1_n | exact nM2_n | assumption) only [b_X11_reads_18, w0.2, w1.2, w2.2, w3.2, ↓nLetR, ↓reduceIte, ↓e_m1, ↓e_m2, e_0, e_1, e_2, e_3, e_4, e_5, e_6, e_7, e_8, e_9, e_10, e_11, e_12, e_13, e_14, e_15, e_16, e_17, e_18, e_19, e_20, e_21, e_22, e_23, e_24, e_25, e_26, e_27, e_28, e_29, e_30, e_31, e_32, e_33, e_48, e_57, e_59, e_60, e_63, e_64, e_96, e_97, e_99, e_120, e_122, e_192, e_200, e_255, e_256, e_300, e_500, e_600, e_2000, e_5000, e_5240, e_6146, e_20000, e_65536, nIo, nI_clamp, nIxt, nI_1, nI_add, nI_mul, nI_eqF, nI_ltT, nI_ltF, nI_leT, nI_leF, nN_lt0, nN_le, nN_lt, nN_eq, nN_eq', eq_self, nBdS]
theorem rm_4 {N : Nat} {σ τ : nS} {B : Int32} (w0 : wR N σ τ 0 0) (w1 : wR N σ τ 1 0) (w2 : wR N σ τ 2 0) (w3 : wR N σ τ 3 0) (w4 : wR N σ τ 4 1) (k88 : nS → Int32 → Int32 → Option (Option Int32 × nS)) (k209 : nS → Int32 → Int32 → Int32 → Option (Option Int32 × nS)) : b_X11_reads_18 N k88 k209 τ B (nI 1) = k88 τ B (nI 5) := by
  simp (disch := first | omega | exact nM1_n | exact nM2_n | assumption) only [b_X11_reads_18, w0.2, w1.2, w2.2, w3.2, w4.2, ↓nLetR, ↓reduceIte, ↓e_m1, ↓e_m2, e_0, e_1, e_2, e_3, e_4, e_5, e_6, e_7, e_8, e_9, e_10, e_11, e_12, e_13, e_14, e_15, e_16, e_17, e_18, e_19, e_20, e_21, e_22, e_23, e_24, e_25, e_26, e_27, e_28, e_29, e_30, e_31, e_32, e_33, e_48, e_57, e_59, e_60, e_63, e_64, e_96, e_97, e_99, e_120, e_122, e_192, e_200, e_255, e_256, e_300, e_500, e_600, e_2000, e_5000, e_5240, e_6146, e_20000, e_65536, nIo, nI_clamp, nIxt, nI_1, nI_add, nI_mul, nI_eqF, nI_ltT, nI_ltF, nI_leT, nI_leF, nN_lt0, nN_le, nN_lt, nN_eq, nN_eq', eq_self, nBdS]
theorem rm_n {N : Nat} {σ τ : nS} {B : Int32} (w0 : wR N σ τ 0 0) (w1 : wR N σ τ 1 0) (w2 : wR N σ τ 2 0) (w3 : wR N σ τ 3 0) (w4 : wR N σ τ 4 0) (k88 : nS → Int32 → Int32 → Option (Option Int32 × nS)) (k209 : nS → Int32 → Int32 → Int32 → Option (Option Int32 × nS)) : b_X11_reads_18 N k88 k209 τ B (nI 1) = k88 τ B nM1 := by
  simp (disch := first | omega | exact nM1_n | exact nM2_n | assumption) only [b_X11_reads_18, w0.2, w1.2, w2.2, w3.2, w4.2, ↓nLetR, ↓reduceIte, ↓e_m1, ↓e_m2, e_0, e_1, e_2, e_3, e_4, e_5, e_6, e_7, e_8, e_9, e_10, e_11, e_12, e_13, e_14, e_15, e_16, e_17, e_18, e_19, e_20, e_21, e_22, e_23, e_24, e_25, e_26, e_27, e_28, e_29, e_30, e_31, e_32, e_33, e_48, e_57, e_59, e_60, e_63, e_64, e_96, e_97, e_99, e_120, e_122, e_192, e_200, e_255, e_256, e_300, e_500, e_600, e_2000, e_5000, e_5240, e_6146, e_20000, e_65536, nIo, nI_clamp, nIxt, nI_1, nI_add, nI_mul, nI_eqF, nI_ltT, nI_ltF, nI_leT, nI_leF, nN_lt0, nN_le, nN_lt, nN_eq, nN_eq', eq_self, nBdS]
theorem pT_s {N m : Nat} {σ : nS} {k : Int32} (hm : 0 < m) : pT N m σ k = b_X4_readText_31 N (pT N (m - 1)) σ k := by
  unfold pT
  rw [nLpP _ _ hm]
theorem qT_s {N m : Nat} {τ : nS} {b x : Int32} (hm : 0 < m) : qT N m τ b x = b_X11_reads_18 N (l_X11_reads_88 N (qT N (m - 1))) (l_X11_reads_209 N) τ b x := by
  unfold qT
  rw [nLpP _ _ hm]
theorem t_none {N B F S n k p m m' : Nat} {c : Nat → Nat} {TL : List (Nat × Nat)} {σ0 τ0 σ τ : nS} (hk : k ≤ 24) (hm : 0 < m) (hm' : 0 < m') (hx : tX B F S n c k p TL σ0 τ0 σ τ) (hb : f_X4_beginsStep N σ = some (nI 0, σ)) (hw : b_X11_reads_18 N (l_X11_reads_88 N (qT N (m' - 1))) (l_X11_reads_209 N) τ (nI B) (nI 1) = l_X11_reads_88 N (qT N (m' - 1)) τ (nI B) nM1) : tRes B F S σ0 τ0 (pT N m σ (nI k)) (qT N m' τ (nI B) (nI 1)) := by
  have ht := hx.2.1
  have hf1 := fail_is (N := N) (f := 1) ht.2.1
  have hs1 := stop_is (N := N) (f := 1) (p := p) (τ := τ)
  have h23 := ht.2.2.1
  rw [pT_s hm, qT_s hm', hw]
  refine failT (f := 1) (q := p) hx.1 ?_ ?_
  · simp (disch := first | omega | exact nM1_n | exact nM2_n | assumption) only [b_X4_readText_31, hb, hf1, nZa, ↓nLetR, ↓reduceIte, ↓e_m1, ↓e_m2, e_0, e_1, e_2, e_3, e_4, e_5, e_6, e_7, e_8, e_9, e_10, e_11, e_12, e_13, e_14, e_15, e_16, e_17, e_18, e_19, e_20, e_21, e_22, e_23, e_24, e_25, e_26, e_27, e_28, e_29, e_30, e_31, e_32, e_33, e_48, e_57, e_59, e_60, e_63, e_64, e_96, e_97, e_99, e_120, e_122, e_192, e_200, e_255, e_256, e_300, e_500, e_600, e_2000, e_5000, e_5240, e_6146, e_20000, e_65536, nIo, nI_clamp, nIxt, nI_1, nI_add, nI_mul, nI_eqF, nI_ltT, nI_ltF, nI_leT, nI_leF, nN_lt0, nN_le, nN_lt, nN_eq, nN_eq', eq_self, nBdS]
  · simp (disch := first | omega | exact nM1_n | exact nM2_n | assumption) only [l_X11_reads_88, b_X11_reads_88, h23, hs1, ↓nLetR, ↓reduceIte, ↓e_m1, ↓e_m2, e_0, e_1, e_2, e_3, e_4, e_5, e_6, e_7, e_8, e_9, e_10, e_11, e_12, e_13, e_14, e_15, e_16, e_17, e_18, e_19, e_20, e_21, e_22, e_23, e_24, e_25, e_26, e_27, e_28, e_29, e_30, e_31, e_32, e_33, e_48, e_57, e_59, e_60, e_63, e_64, e_96, e_97, e_99, e_120, e_122, e_192, e_200, e_255, e_256, e_300, e_500, e_600, e_2000, e_5000, e_5240, e_6146, e_20000, e_65536, nIo, nI_clamp, nIxt, nI_1, nI_add, nI_mul, nI_eqF, nI_ltT, nI_ltF, nI_leT, nI_leF, nN_lt0, nN_le, nN_lt, nN_eq, nN_eq', eq_self, nBdS]
theorem t_full {N B F S n p m m' wh k : Nat} {c : Nat → Nat} {TL : List (Nat × Nat)} {σ0 τ0 σ τ : nS} (hB : B < 5) (hk : k = 24) (hm : 0 < m) (hm' : 0 < m') (hwh : wh < 6) (hx : tX B F S n c k p TL σ0 τ0 σ τ) (hb : f_X4_beginsStep N σ = some (nI 1, σ)) (hw : b_X11_reads_18 N (l_X11_reads_88 N (qT N (m' - 1))) (l_X11_reads_209 N) τ (nI B) (nI 1) = l_X11_reads_88 N (qT N (m' - 1)) τ (nI B) (nI wh)) : tRes B F S σ0 τ0 (pT N m σ (nI k)) (qT N m' τ (nI B) (nI 1)) := by
  have ht := hx.2.1
  have x3 := hx.2.2.1
  have hf3 := fail_is (N := N) (f := 3) ht.2.1
  have hs3 := stop_is (N := N) (f := 3) (p := p) (τ := τ)
  have h23 := ht.2.2.1
  have hne : (nI wh = nM1) = False := eq_false (nM1ne wh (by omega))
  rw [pT_s hm, qT_s hm', hw]
  refine failT (f := 3) (q := p) hx.1 ?_ ?_
  · rw [hk]
    simp (disch := first | omega | exact nM1_n | exact nM2_n | assumption) only [b_X4_readText_31, hb, hf3, nZa, ↓nLetR, ↓reduceIte, ↓e_m1, ↓e_m2, e_0, e_1, e_2, e_3, e_4, e_5, e_6, e_7, e_8, e_9, e_10, e_11, e_12, e_13, e_14, e_15, e_16, e_17, e_18, e_19, e_20, e_21, e_22, e_23, e_24, e_25, e_26, e_27, e_28, e_29, e_30, e_31, e_32, e_33, e_48, e_57, e_59, e_60, e_63, e_64, e_96, e_97, e_99, e_120, e_122, e_192, e_200, e_255, e_256, e_300, e_500, e_600, e_2000, e_5000, e_5240, e_6146, e_20000, e_65536, nIo, nI_clamp, nIxt, nI_1, nI_add, nI_mul, nI_eqF, nI_ltT, nI_ltF, nI_leT, nI_leF, nN_lt0, nN_le, nN_lt, nN_eq, nN_eq', eq_self, nBdS]
  · rw [hk] at x3
    simp (disch := first | omega | exact nM1_n | exact nM2_n | assumption) only [l_X11_reads_88, b_X11_reads_88, hne, x3, h23, hs3, ↓nLetR, ↓reduceIte, ↓e_m1, ↓e_m2, e_0, e_1, e_2, e_3, e_4, e_5, e_6, e_7, e_8, e_9, e_10, e_11, e_12, e_13, e_14, e_15, e_16, e_17, e_18, e_19, e_20, e_21, e_22, e_23, e_24, e_25, e_26, e_27, e_28, e_29, e_30, e_31, e_32, e_33, e_48, e_57, e_59, e_60, e_63, e_64, e_96, e_97, e_99, e_120, e_122, e_192, e_200, e_255, e_256, e_300, e_500, e_600, e_2000, e_5000, e_5240, e_6146, e_20000, e_65536, nIo, nI_clamp, nIxt, nI_1, nI_add, nI_mul, nI_eqF, nI_ltT, nI_ltF, nI_leT, nI_leF, nN_lt0, nN_le, nN_lt, nN_eq, nN_eq', eq_self, nBdS]
theorem wR_is {N n p j : Nat} {c : Nat → Nat} {σ τ : nS} (hN : 10 ≤ N) (hr : rdR n c σ τ) (ht : tR n c p σ τ) (hj : j < 12) : wR N σ τ j 0 ∨ (wR N σ τ j 1 ∧ ∃ a, p < a ∧ a ≤ n ∧ σ.1 6 3 = nI a ∧ τ.1 0 21 = nI a) := by
  obtain ⟨r, u, c, w, v⟩ := word_is (N := N) (j := j) hN hr ht hj
  have o : r = 0 ∨ r = 1 := by omega
  rcases o with rfl | rfl
  · exact Or.inl ⟨c, w⟩
  · exact Or.inr ⟨⟨c, w⟩, (v rfl).2⟩
theorem wR.cl {N n p j r B k : Nat} {c : Nat → Nat} {σ τ : nS} (hN : 10 ≤ N) (hr : rdR n c σ τ) (ht : tR n c p σ τ) (hj : j < 12) (hr2 : r < 2) (h : wR N σ τ j r) : f_X4_isWord N j (clC B k σ) = some (nI r, clC B k σ) :=
  wsame hN (hr.g (clC_g (B := B) (k := k) (t := 0)) gM.rf) (ht.fr (fun f _ => by rw [clC_6]) (fun _ _ => rfl) rfl) hj hr2 h.2
theorem text_0 {N B F S n : Nat} {c : Nat → Nat} {σ0 τ0 : nS} (hN : 700 ≤ N) (hB : B < 5) (hF : F ≤ 8) (hS : S ≤ 8) (hr0 : rdR n c σ0 τ0) (h13 : σ0.1 1 3 = nI B) (h10 : σ0.1 1 0 = nI F) (h11 : σ0.1 1 1 = nI S) (m4 : τ0.1 0 4 = nI F) (m5 : τ0.1 0 5 = nI S) (k m m' p : Nat) (TL : List (Nat × Nat)) (σ τ : nS) (hk : k = 24) (hm : 0 < m) (hm' : 0 < m') (hx : tX B F S n c k p TL σ0 τ0 σ τ) : tRes B F S σ0 τ0 (pT N m σ (nI k)) (qT N m' τ (nI B) (nI 1)) := by
  have hr := hr0.b hx.1
  have ht := hx.2.1
  rcases wR_is (N := N) (j := 0) (by omega) hr ht (by decide) with w0 | ⟨w0, _⟩
  · rcases wR_is (N := N) (j := 1) (by omega) hr ht (by decide) with w1 | ⟨w1, _⟩
    · rcases wR_is (N := N) (j := 2) (by omega) hr ht (by decide) with w2 | ⟨w2, _⟩
      · rcases wR_is (N := N) (j := 3) (by omega) hr ht (by decide) with w3 | ⟨w3, _⟩
        · rcases wR_is (N := N) (j := 4) (by omega) hr ht (by decide) with w4 | ⟨w4, _⟩
          · exact t_none (by omega) hm hm' hx (bs_n w0 w1 w2 w3 w4) (rm_n w0 w1 w2 w3 w4 _ _)
          · exact t_full hB hk hm hm' (by decide) hx (bs_4 w0 w1 w2 w3 w4) (rm_4 w0 w1 w2 w3 w4 _ _)
        · exact t_full hB hk hm hm' (by decide) hx (bs_3 w0 w1 w2 w3) (rm_3 w0 w1 w2 w3 _ _)
      · exact t_full hB hk hm hm' (by decide) hx (bs_2 w0 w1 w2) (rm_2 w0 w1 w2 _ _)
    · exact t_full hB hk hm hm' (by decide) hx (bs_1 w0 w1) (rm_1 w0 w1 _ _)
  · exact t_full hB hk hm hm' (by decide) hx (bs_0 w0) (rm_0 w0 _ _)
theorem text_s {N B F S n : Nat} {c : Nat → Nat} {σ0 τ0 : nS} (hN : 700 ≤ N) (hB : B < 5) (hF : F ≤ 8) (hS : S ≤ 8) (hr0 : rdR n c σ0 τ0) (h13 : σ0.1 1 3 = nI B) (h10 : σ0.1 1 0 = nI F) (h11 : σ0.1 1 1 = nI S) (m4 : τ0.1 0 4 = nI F) (m5 : τ0.1 0 5 = nI S) (k m m' p : Nat) (TL : List (Nat × Nat)) (σ τ : nS) (hk24 : k < 24) (hm : 2 < m) (hm' : 3 < m') (hx : tX B F S n c k p TL σ0 τ0 σ τ) (ih' : ∀ p TL σ τ, tX B F S n c (k + 1) p TL σ0 τ0 σ τ → tRes B F S σ0 τ0 (pT N (m - 1) σ (nI (k + 1))) (qT N (m' - 1) τ (nI B) (nI 1))) : tRes B F S σ0 τ0 (pT N m σ (nI k)) (qT N m' τ (nI B) (nI 1)) := by
  have hr := hr0.b hx.1
  have ht := hx.2.1
  have x8 := hx.2.2.2.2.2.2.2.1
  have x10 := hx.2.2.2.2.2.2.2.2.2.1
  have s1 : σ.1 1 = σ0.1 1 := hx.1.1.1 1 (by decide) (by decide) (by decide) (by decide) (by decide)
  have f13 : σ.1 1 3 = nI B := by rw [s1]; exact h13
  have f10 : σ.1 1 0 = nI F := by rw [s1]; exact h10
  have f11 : σ.1 1 1 = nI S := by rw [s1]; exact h11
  have g4 : τ.1 0 4 = nI F := by rw [hx.1.2.2.1 4 (by decide)]; exact m4
  have g5 : τ.1 0 5 = nI S := by rw [hx.1.2.2.1 5 (by decide)]; exact m5
  have hN10 : 10 ≤ N := by omega
  have ht47 : TL.length < 47 := by omega
  rcases wR_is (N := N) (j := 0) hN10 hr ht (by decide) with w0 | ⟨w0, a, a1, a2, a3, a4⟩
  · rcases wR_is (N := N) (j := 1) hN10 hr ht (by decide) with w1 | ⟨w1, a, a1, a2, a3, a4⟩
    · rcases wR_is (N := N) (j := 2) hN10 hr ht (by decide) with w2 | ⟨w2, a, a1, a2, a3, a4⟩
      · rcases wR_is (N := N) (j := 3) hN10 hr ht (by decide) with w3 | ⟨w3, a, a1, a2, a3, a4⟩
        · rcases wR_is (N := N) (j := 4) hN10 hr ht (by decide) with w4 | ⟨w4, a, a1, a2, a3, a4⟩
          · exact t_none (by omega) (by omega) (by omega) hx (bs_n w0 w1 w2 w3 w4) (rm_n w0 w1 w2 w3 w4 _ _)
          · obtain ⟨τ1, z1, z2, z3⟩ := calm_is (N := N) (F := F) (S := S) hN hB hk24 hr f13 x8 a1 a2 a3 a4 ht w4.2 (w0.cl hN10 hr ht (by decide) (by decide)) (w1.cl hN10 hr ht (by decide) (by decide)) (w2.cl hN10 hr ht (by decide) (by decide)) (w3.cl hN10 hr ht (by decide) (by decide))
            exact cont hN hB hk24 (wh := 5) (by decide) hm hm' hr0 h13 hx (bs_4 w0 w1 w2 w3 w4) (fun again => rm_4 w0 w1 w2 w3 w4 _ _) z1 z2 z3 ih'
        · obtain ⟨τ1, z1, z2, z3⟩ := go_is (N := N) (F := F) (S := S) hN hB hk24 ht47 hr f13 x8 a1 a2 a3 a4 (w0.cl hN10 hr ht (by decide) (by decide)) (w1.cl hN10 hr ht (by decide) (by decide)) (w2.cl hN10 hr ht (by decide) (by decide)) (w3.cl hN10 hr ht (by decide) (by decide))
          exact cont hN hB hk24 (wh := 4) (by decide) hm hm' hr0 h13 hx (bs_3 w0 w1 w2 w3) (fun again => rm_3 w0 w1 w2 w3 _ _) z1 z2 z3 ih'
      · obtain ⟨τ1, z1, z2, z3⟩ := wait_is (N := N) (F := F) (S := S) hN hB hk24 hr f13 x8 a1 a2 a3 a4 (w0.cl hN10 hr ht (by decide) (by decide)) (w1.cl hN10 hr ht (by decide) (by decide)) (w2.cl hN10 hr ht (by decide) (by decide))
        exact cont hN hB hk24 (wh := 3) (by decide) hm hm' hr0 h13 hx (bs_2 w0 w1 w2) (fun again => rm_2 w0 w1 w2 _ _) z1 z2 z3 ih'
    · obtain ⟨τ1, z1, z2, z3⟩ := ask_is (N := N) (F := F) (S := S) hN hB hk24 hS ht47 hr f13 f11 g5 x8 a1 a2 a3 a4 (w0.cl hN10 hr ht (by decide) (by decide)) (w1.cl hN10 hr ht (by decide) (by decide))
      exact cont hN hB hk24 (wh := 2) (by decide) hm hm' hr0 h13 hx (bs_1 w0 w1) (fun again => rm_1 w0 w1 _ _) z1 z2 z3 ih'
  · obtain ⟨τ1, z1, z2, z3⟩ := do_is (N := N) (F := F) (S := S) hN hB hk24 hF hr f13 f10 g4 x8 a1 a2 a3 a4 (w0.cl hN10 hr ht (by decide) (by decide))
    exact cont hN hB hk24 (wh := 0) (by decide) hm hm' hr0 h13 hx (bs_0 w0) (fun again => rm_0 w0 _ _) z1 z2 z3 ih'
theorem text_go {N B F S n : Nat} {c : Nat → Nat} {σ0 τ0 : nS} (hN : 700 ≤ N) (hB : B < 5) (hF : F ≤ 8) (hS : S ≤ 8) (hr0 : rdR n c σ0 τ0) (h13 : σ0.1 1 3 = nI B) (h10 : σ0.1 1 0 = nI F) (h11 : σ0.1 1 1 = nI S) (m4 : τ0.1 0 4 = nI F) (m5 : τ0.1 0 5 = nI S) : ∀ d k m m' p TL σ τ, k + d = 24 → d + 3 < m → d + 4 < m' → tX B F S n c k p TL σ0 τ0 σ τ → tRes B F S σ0 τ0 (pT N m σ (nI k)) (qT N m' τ (nI B) (nI 1)) := by
  intro d
  induction d with
  | zero =>
    intro k m m' p TL σ τ hk hm hm' hx
    exact text_0 hN hB hF hS hr0 h13 h10 h11 m4 m5 k m m' p TL σ τ (by omega) (by omega) (by omega) hx
  | succ d ih =>
    intro k m m' p TL σ τ hk hm hm' hx
    exact text_s hN hB hF hS hr0 h13 h10 h11 m4 m5 k m m' p TL σ τ (by omega) (by omega) (by omega) hx (fun p TL σ τ h => ih (k + 1) (m - 1) (m' - 1) p TL σ τ (by omega) (by omega) (by omega) h)
