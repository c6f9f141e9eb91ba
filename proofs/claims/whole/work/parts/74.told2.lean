/-! THE CALLS THAT SHOW WHAT WAS FOUND, ON -/
theorem pOp19 (N : Nat) : nOp19 N nInv := by
  intro n σ τ x _ hI
  obtain ⟨F, S, P, B, sz, T, h1, h2, h3, h4, h5, h6, h7, h8, h9, h10⟩ := hI
  simp (disch := decide) only [b_X1_about_0, l_X1_about_0, f_X1_about, b_X8_mend_0, l_X8_mend_0, f_X8_mend, b_X11_in_0, l_X11_in_0, f_X11_in, b_X11_mend_0, l_X11_mend_0, f_X11_mend, nLet, nBdS, nBdI, wrs, wrk, wrc, wr2, wl1, wls, wlk, wlc]
  rcases nI_cs x with hx | ⟨j, hj, rfl⟩
  · rcases id h7 with ⟨p1, q0, q1, q2⟩ | ⟨p1, q0, q1, q2⟩
    · simp (disch := first | omega | exact nM1_n | exact nM2_n | assumption) only [p1, ↓e_m1, ↓e_m2, e_0, e_1, e_2, e_3, e_4, e_5, e_6, e_7, e_8, e_9, e_10, e_11, e_12, e_13, e_14, e_15, e_16, e_17, e_18, e_19, e_20, e_21, e_22, e_23, e_24, e_25, e_26, e_27, e_28, e_29, e_30, e_31, e_32, e_33, e_48, e_57, e_59, e_60, e_63, e_64, e_96, e_97, e_99, e_120, e_122, e_192, e_200, e_255, e_256, e_300, e_500, e_600, e_2000, e_5000, e_5240, e_6146, e_20000, e_65536, nIo, nI_leI, nI_ltI, nI_eq, nI_clamp, nIxt, nI_1, nI_add, nI_mul, nN_lt0, nN_le, nN_lt, nN_eq, nN_eq', eq_self, if_true, if_false, if_pos, if_neg]
      refine pK rfl ⟨F, S, P, B, sz, T, ?_⟩
      simp (disch := decide) only [iI, wrs, wrk, wrc, wr2, wl1, wls, wlk, wlc]
      exact ⟨h1, h2, h3, h4, h5, h6, h7, h8, h9, h10.up⟩
    · simp (disch := first | omega | exact nM1_n | exact nM2_n | assumption) only [p1, ↓e_m1, ↓e_m2, e_0, e_1, e_2, e_3, e_4, e_5, e_6, e_7, e_8, e_9, e_10, e_11, e_12, e_13, e_14, e_15, e_16, e_17, e_18, e_19, e_20, e_21, e_22, e_23, e_24, e_25, e_26, e_27, e_28, e_29, e_30, e_31, e_32, e_33, e_48, e_57, e_59, e_60, e_63, e_64, e_96, e_97, e_99, e_120, e_122, e_192, e_200, e_255, e_256, e_300, e_500, e_600, e_2000, e_5000, e_5240, e_6146, e_20000, e_65536, nIo, nI_leI, nI_ltI, nI_eq, nI_clamp, nIxt, nI_1, nI_add, nI_mul, nN_lt0, nN_le, nN_lt, nN_eq, nN_eq', eq_self, if_true, if_false, if_pos, if_neg]
      refine pK rfl ⟨F, S, P, B, sz, T, ?_⟩
      simp (disch := decide) only [iI, wrs, wrk, wrc, wr2, wl1, wls, wlk, wlc]
      exact ⟨h1, h2, h3, h4, h5, h6, h7, h8, h9, h10.up⟩
  by_cases h : j < 3
  · have hi : j = 0 ∨ j = 1 ∨ j = 2 := by omega
    rcases id h7 with ⟨p1, q0, q1, q2⟩ | ⟨p1, q0, q1, q2⟩
    · rcases hi with rfl | rfl | rfl
      · simp (disch := first | omega | exact nM1_n | exact nM2_n | assumption) only [p1, nPl24, nBdS, nBdI, ↓e_m1, ↓e_m2, e_0, e_1, e_2, e_3, e_4, e_5, e_6, e_7, e_8, e_9, e_10, e_11, e_12, e_13, e_14, e_15, e_16, e_17, e_18, e_19, e_20, e_21, e_22, e_23, e_24, e_25, e_26, e_27, e_28, e_29, e_30, e_31, e_32, e_33, e_48, e_57, e_59, e_60, e_63, e_64, e_96, e_97, e_99, e_120, e_122, e_192, e_200, e_255, e_256, e_300, e_500, e_600, e_2000, e_5000, e_5240, e_6146, e_20000, e_65536, nIo, nI_leI, nI_ltI, nI_eq, nI_clamp, nIxt, nI_1, nI_add, nI_mul, nN_lt0, nN_le, nN_lt, nN_eq, nN_eq', eq_self, if_true, if_false, if_pos, if_neg]
        refine pK q0.symm ⟨F, S, P, B, sz, T, ?_⟩
        simp (disch := decide) only [iI, wrs, wrk, wrc, wr2, wl1, wls, wlk, wlc]
        exact ⟨h1, h2, h3, h4, h5, h6, h7, h8, h9, h10.up⟩
      · simp (disch := first | omega | exact nM1_n | exact nM2_n | assumption) only [p1, nPl24, nBdS, nBdI, ↓e_m1, ↓e_m2, e_0, e_1, e_2, e_3, e_4, e_5, e_6, e_7, e_8, e_9, e_10, e_11, e_12, e_13, e_14, e_15, e_16, e_17, e_18, e_19, e_20, e_21, e_22, e_23, e_24, e_25, e_26, e_27, e_28, e_29, e_30, e_31, e_32, e_33, e_48, e_57, e_59, e_60, e_63, e_64, e_96, e_97, e_99, e_120, e_122, e_192, e_200, e_255, e_256, e_300, e_500, e_600, e_2000, e_5000, e_5240, e_6146, e_20000, e_65536, nIo, nI_leI, nI_ltI, nI_eq, nI_clamp, nIxt, nI_1, nI_add, nI_mul, nN_lt0, nN_le, nN_lt, nN_eq, nN_eq', eq_self, if_true, if_false, if_pos, if_neg]
        refine pK q1.symm ⟨F, S, P, B, sz, T, ?_⟩
        simp (disch := decide) only [iI, wrs, wrk, wrc, wr2, wl1, wls, wlk, wlc]
        exact ⟨h1, h2, h3, h4, h5, h6, h7, h8, h9, h10.up⟩
      · simp (disch := first | omega | exact nM1_n | exact nM2_n | assumption) only [p1, nPl24, nBdS, nBdI, ↓e_m1, ↓e_m2, e_0, e_1, e_2, e_3, e_4, e_5, e_6, e_7, e_8, e_9, e_10, e_11, e_12, e_13, e_14, e_15, e_16, e_17, e_18, e_19, e_20, e_21, e_22, e_23, e_24, e_25, e_26, e_27, e_28, e_29, e_30, e_31, e_32, e_33, e_48, e_57, e_59, e_60, e_63, e_64, e_96, e_97, e_99, e_120, e_122, e_192, e_200, e_255, e_256, e_300, e_500, e_600, e_2000, e_5000, e_5240, e_6146, e_20000, e_65536, nIo, nI_leI, nI_ltI, nI_eq, nI_clamp, nIxt, nI_1, nI_add, nI_mul, nN_lt0, nN_le, nN_lt, nN_eq, nN_eq', eq_self, if_true, if_false, if_pos, if_neg]
        refine pK q2.symm ⟨F, S, P, B, sz, T, ?_⟩
        simp (disch := decide) only [iI, wrs, wrk, wrc, wr2, wl1, wls, wlk, wlc]
        exact ⟨h1, h2, h3, h4, h5, h6, h7, h8, h9, h10.up⟩
    · rcases hi with rfl | rfl | rfl
      · simp (disch := first | omega | exact nM1_n | exact nM2_n | assumption) only [p1, nPl24, nBdS, nBdI, ↓e_m1, ↓e_m2, e_0, e_1, e_2, e_3, e_4, e_5, e_6, e_7, e_8, e_9, e_10, e_11, e_12, e_13, e_14, e_15, e_16, e_17, e_18, e_19, e_20, e_21, e_22, e_23, e_24, e_25, e_26, e_27, e_28, e_29, e_30, e_31, e_32, e_33, e_48, e_57, e_59, e_60, e_63, e_64, e_96, e_97, e_99, e_120, e_122, e_192, e_200, e_255, e_256, e_300, e_500, e_600, e_2000, e_5000, e_5240, e_6146, e_20000, e_65536, nIo, nI_leI, nI_ltI, nI_eq, nI_clamp, nIxt, nI_1, nI_add, nI_mul, nN_lt0, nN_le, nN_lt, nN_eq, nN_eq', eq_self, if_true, if_false, if_pos, if_neg]
        refine pK q0 ⟨F, S, P, B, sz, T, ?_⟩
        simp (disch := decide) only [iI, wrs, wrk, wrc, wr2, wl1, wls, wlk, wlc]
        exact ⟨h1, h2, h3, h4, h5, h6, h7, h8, h9, h10.up⟩
      · simp (disch := first | omega | exact nM1_n | exact nM2_n | assumption) only [p1, nPl24, nBdS, nBdI, ↓e_m1, ↓e_m2, e_0, e_1, e_2, e_3, e_4, e_5, e_6, e_7, e_8, e_9, e_10, e_11, e_12, e_13, e_14, e_15, e_16, e_17, e_18, e_19, e_20, e_21, e_22, e_23, e_24, e_25, e_26, e_27, e_28, e_29, e_30, e_31, e_32, e_33, e_48, e_57, e_59, e_60, e_63, e_64, e_96, e_97, e_99, e_120, e_122, e_192, e_200, e_255, e_256, e_300, e_500, e_600, e_2000, e_5000, e_5240, e_6146, e_20000, e_65536, nIo, nI_leI, nI_ltI, nI_eq, nI_clamp, nIxt, nI_1, nI_add, nI_mul, nN_lt0, nN_le, nN_lt, nN_eq, nN_eq', eq_self, if_true, if_false, if_pos, if_neg]
        refine pK q1 ⟨F, S, P, B, sz, T, ?_⟩
        simp (disch := decide) only [iI, wrs, wrk, wrc, wr2, wl1, wls, wlk, wlc]
        exact ⟨h1, h2, h3, h4, h5, h6, h7, h8, h9, h10.up⟩
      · simp (disch := first | omega | exact nM1_n | exact nM2_n | assumption) only [p1, nPl24, nBdS, nBdI, ↓e_m1, ↓e_m2, e_0, e_1, e_2, e_3, e_4, e_5, e_6, e_7, e_8, e_9, e_10, e_11, e_12, e_13, e_14, e_15, e_16, e_17, e_18, e_19, e_20, e_21, e_22, e_23, e_24, e_25, e_26, e_27, e_28, e_29, e_30, e_31, e_32, e_33, e_48, e_57, e_59, e_60, e_63, e_64, e_96, e_97, e_99, e_120, e_122, e_192, e_200, e_255, e_256, e_300, e_500, e_600, e_2000, e_5000, e_5240, e_6146, e_20000, e_65536, nIo, nI_leI, nI_ltI, nI_eq, nI_clamp, nIxt, nI_1, nI_add, nI_mul, nN_lt0, nN_le, nN_lt, nN_eq, nN_eq', eq_self, if_true, if_false, if_pos, if_neg]
        refine pK q2 ⟨F, S, P, B, sz, T, ?_⟩
        simp (disch := decide) only [iI, wrs, wrk, wrc, wr2, wl1, wls, wlk, wlc]
        exact ⟨h1, h2, h3, h4, h5, h6, h7, h8, h9, h10.up⟩
  · rcases id h7 with ⟨p1, q0, q1, q2⟩ | ⟨p1, q0, q1, q2⟩
    · simp (disch := first | omega | exact nM1_n | exact nM2_n | assumption) only [p1, ↓e_m1, ↓e_m2, e_0, e_1, e_2, e_3, e_4, e_5, e_6, e_7, e_8, e_9, e_10, e_11, e_12, e_13, e_14, e_15, e_16, e_17, e_18, e_19, e_20, e_21, e_22, e_23, e_24, e_25, e_26, e_27, e_28, e_29, e_30, e_31, e_32, e_33, e_48, e_57, e_59, e_60, e_63, e_64, e_96, e_97, e_99, e_120, e_122, e_192, e_200, e_255, e_256, e_300, e_500, e_600, e_2000, e_5000, e_5240, e_6146, e_20000, e_65536, nIo, nI_leI, nI_ltI, nI_eq, nI_clamp, nIxt, nI_1, nI_add, nI_mul, nN_lt0, nN_le, nN_lt, nN_eq, nN_eq', eq_self, if_true, if_false, if_pos, if_neg]
      refine pK rfl ⟨F, S, P, B, sz, T, ?_⟩
      simp (disch := decide) only [iI, wrs, wrk, wrc, wr2, wl1, wls, wlk, wlc]
      exact ⟨h1, h2, h3, h4, h5, h6, h7, h8, h9, h10.up⟩
    · simp (disch := first | omega | exact nM1_n | exact nM2_n | assumption) only [p1, ↓e_m1, ↓e_m2, e_0, e_1, e_2, e_3, e_4, e_5, e_6, e_7, e_8, e_9, e_10, e_11, e_12, e_13, e_14, e_15, e_16, e_17, e_18, e_19, e_20, e_21, e_22, e_23, e_24, e_25, e_26, e_27, e_28, e_29, e_30, e_31, e_32, e_33, e_48, e_57, e_59, e_60, e_63, e_64, e_96, e_97, e_99, e_120, e_122, e_192, e_200, e_255, e_256, e_300, e_500, e_600, e_2000, e_5000, e_5240, e_6146, e_20000, e_65536, nIo, nI_leI, nI_ltI, nI_eq, nI_clamp, nIxt, nI_1, nI_add, nI_mul, nN_lt0, nN_le, nN_lt, nN_eq, nN_eq', eq_self, if_true, if_false, if_pos, if_neg]
      refine pK rfl ⟨F, S, P, B, sz, T, ?_⟩
      simp (disch := decide) only [iI, wrs, wrk, wrc, wr2, wl1, wls, wlk, wlc]
      exact ⟨h1, h2, h3, h4, h5, h6, h7, h8, h9, h10.up⟩
theorem pOp21 (N : Nat) : nOp21 N nInv := by
  intro n σ τ x y hx _ hI
  obtain ⟨F, S, P, B, sz, T, h1, h2, h3, h4, h5, h6, h7, h8, h9, h10⟩ := hI
  simp (disch := decide) only [b_X8_night_0, l_X8_night_0, f_X8_night, b_X11_night_0, l_X11_night_0, f_X11_night, nLet, nBdS, nBdI, wrs, wrk, wrc, wr2, wl1, wls, wlk, wlc]
  rcases hx with rfl | rfl
  · simp (disch := first | omega | exact nM1_n | exact nM2_n | assumption) only [↓e_m1, ↓e_m2, e_0, e_1, e_2, e_3, e_4, e_5, e_6, e_7, e_8, e_9, e_10, e_11, e_12, e_13, e_14, e_15, e_16, e_17, e_18, e_19, e_20, e_21, e_22, e_23, e_24, e_25, e_26, e_27, e_28, e_29, e_30, e_31, e_32, e_33, e_48, e_57, e_59, e_60, e_63, e_64, e_96, e_97, e_99, e_120, e_122, e_192, e_200, e_255, e_256, e_300, e_500, e_600, e_2000, e_5000, e_5240, e_6146, e_20000, e_65536, nIo, nI_leI, nI_ltI, nI_eq, nI_clamp, nIxt, nI_1, nI_add, nI_mul, nN_lt0, nN_le, nN_lt, nN_eq, nN_eq', eq_self, if_true, if_false, if_pos, if_neg]
    rcases id h8 with ⟨p0, p1, -⟩ | ⟨p0, ⟨p1, q0, q1, q2⟩, -⟩
    · simp (disch := first | omega | exact nM1_n | exact nM2_n | assumption) only [p0, p1, ↓e_m1, ↓e_m2, e_0, e_1, e_2, e_3, e_4, e_5, e_6, e_7, e_8, e_9, e_10, e_11, e_12, e_13, e_14, e_15, e_16, e_17, e_18, e_19, e_20, e_21, e_22, e_23, e_24, e_25, e_26, e_27, e_28, e_29, e_30, e_31, e_32, e_33, e_48, e_57, e_59, e_60, e_63, e_64, e_96, e_97, e_99, e_120, e_122, e_192, e_200, e_255, e_256, e_300, e_500, e_600, e_2000, e_5000, e_5240, e_6146, e_20000, e_65536, nIo, nI_leI, nI_ltI, nI_eq, nI_clamp, nIxt, nI_1, nI_add, nI_mul, nN_lt0, nN_le, nN_lt, nN_eq, nN_eq', eq_self, if_true, if_false, if_pos, if_neg]
      refine pK rfl ⟨F, S, P, B, sz, T, ?_⟩
      simp (disch := decide) only [iI, wrs, wrk, wrc, wr2, wl1, wls, wlk, wlc]
      exact ⟨h1, h2, h3, h4, h5, h6, h7, h8, h9, h10.up⟩
    have p1' : ¬ σ.1 30 11 = nM1 := p1
    simp (disch := first | omega | exact nM1_n | exact nM2_n | assumption) only [p0, p1', ↓e_m1, ↓e_m2, e_0, e_1, e_2, e_3, e_4, e_5, e_6, e_7, e_8, e_9, e_10, e_11, e_12, e_13, e_14, e_15, e_16, e_17, e_18, e_19, e_20, e_21, e_22, e_23, e_24, e_25, e_26, e_27, e_28, e_29, e_30, e_31, e_32, e_33, e_48, e_57, e_59, e_60, e_63, e_64, e_96, e_97, e_99, e_120, e_122, e_192, e_200, e_255, e_256, e_300, e_500, e_600, e_2000, e_5000, e_5240, e_6146, e_20000, e_65536, nIo, nI_leI, nI_ltI, nI_eq, nI_clamp, nIxt, nI_1, nI_add, nI_mul, nN_lt0, nN_le, nN_lt, nN_eq, nN_eq', eq_self, if_true, if_false, if_pos, if_neg]
    rcases nI_cs y with hy | ⟨j, hj, rfl⟩
    · simp (disch := first | omega | exact nM1_n | exact nM2_n | assumption) only [↓e_m1, ↓e_m2, e_0, e_1, e_2, e_3, e_4, e_5, e_6, e_7, e_8, e_9, e_10, e_11, e_12, e_13, e_14, e_15, e_16, e_17, e_18, e_19, e_20, e_21, e_22, e_23, e_24, e_25, e_26, e_27, e_28, e_29, e_30, e_31, e_32, e_33, e_48, e_57, e_59, e_60, e_63, e_64, e_96, e_97, e_99, e_120, e_122, e_192, e_200, e_255, e_256, e_300, e_500, e_600, e_2000, e_5000, e_5240, e_6146, e_20000, e_65536, nIo, nI_leI, nI_ltI, nI_eq, nI_clamp, nIxt, nI_1, nI_add, nI_mul, nN_lt0, nN_le, nN_lt, nN_eq, nN_eq', eq_self, if_true, if_false, if_pos, if_neg]
      refine pK rfl ⟨F, S, P, B, sz, T, ?_⟩
      simp (disch := decide) only [iI, wrs, wrk, wrc, wr2, wl1, wls, wlk, wlc]
      exact ⟨h1, h2, h3, h4, h5, h6, h7, h8, h9, h10.up⟩
    by_cases h : j < 3
    · have hi : j = 0 ∨ j = 1 ∨ j = 2 := by omega
      rcases hi with rfl | rfl | rfl
      · simp (disch := first | omega | exact nM1_n | exact nM2_n | assumption) only [nPl24, nBdS, nBdI, ↓e_m1, ↓e_m2, e_0, e_1, e_2, e_3, e_4, e_5, e_6, e_7, e_8, e_9, e_10, e_11, e_12, e_13, e_14, e_15, e_16, e_17, e_18, e_19, e_20, e_21, e_22, e_23, e_24, e_25, e_26, e_27, e_28, e_29, e_30, e_31, e_32, e_33, e_48, e_57, e_59, e_60, e_63, e_64, e_96, e_97, e_99, e_120, e_122, e_192, e_200, e_255, e_256, e_300, e_500, e_600, e_2000, e_5000, e_5240, e_6146, e_20000, e_65536, nIo, nI_leI, nI_ltI, nI_eq, nI_clamp, nIxt, nI_1, nI_add, nI_mul, nN_lt0, nN_le, nN_lt, nN_eq, nN_eq', eq_self, if_true, if_false, if_pos, if_neg]
        refine pK q0 ⟨F, S, P, B, sz, T, ?_⟩
        simp (disch := decide) only [iI, wrs, wrk, wrc, wr2, wl1, wls, wlk, wlc]
        exact ⟨h1, h2, h3, h4, h5, h6, h7, h8, h9, h10.up⟩
      · simp (disch := first | omega | exact nM1_n | exact nM2_n | assumption) only [nPl24, nBdS, nBdI, ↓e_m1, ↓e_m2, e_0, e_1, e_2, e_3, e_4, e_5, e_6, e_7, e_8, e_9, e_10, e_11, e_12, e_13, e_14, e_15, e_16, e_17, e_18, e_19, e_20, e_21, e_22, e_23, e_24, e_25, e_26, e_27, e_28, e_29, e_30, e_31, e_32, e_33, e_48, e_57, e_59, e_60, e_63, e_64, e_96, e_97, e_99, e_120, e_122, e_192, e_200, e_255, e_256, e_300, e_500, e_600, e_2000, e_5000, e_5240, e_6146, e_20000, e_65536, nIo, nI_leI, nI_ltI, nI_eq, nI_clamp, nIxt, nI_1, nI_add, nI_mul, nN_lt0, nN_le, nN_lt, nN_eq, nN_eq', eq_self, if_true, if_false, if_pos, if_neg]
        refine pK q1 ⟨F, S, P, B, sz, T, ?_⟩
        simp (disch := decide) only [iI, wrs, wrk, wrc, wr2, wl1, wls, wlk, wlc]
        exact ⟨h1, h2, h3, h4, h5, h6, h7, h8, h9, h10.up⟩
      · simp (disch := first | omega | exact nM1_n | exact nM2_n | assumption) only [nPl24, nBdS, nBdI, ↓e_m1, ↓e_m2, e_0, e_1, e_2, e_3, e_4, e_5, e_6, e_7, e_8, e_9, e_10, e_11, e_12, e_13, e_14, e_15, e_16, e_17, e_18, e_19, e_20, e_21, e_22, e_23, e_24, e_25, e_26, e_27, e_28, e_29, e_30, e_31, e_32, e_33, e_48, e_57, e_59, e_60, e_63, e_64, e_96, e_97, e_99, e_120, e_122, e_192, e_200, e_255, e_256, e_300, e_500, e_600, e_2000, e_5000, e_5240, e_6146, e_20000, e_65536, nIo, nI_leI, nI_ltI, nI_eq, nI_clamp, nIxt, nI_1, nI_add, nI_mul, nN_lt0, nN_le, nN_lt, nN_eq, nN_eq', eq_self, if_true, if_false, if_pos, if_neg]
        refine pK q2 ⟨F, S, P, B, sz, T, ?_⟩
        simp (disch := decide) only [iI, wrs, wrk, wrc, wr2, wl1, wls, wlk, wlc]
        exact ⟨h1, h2, h3, h4, h5, h6, h7, h8, h9, h10.up⟩
    · simp (disch := first | omega | exact nM1_n | exact nM2_n | assumption) only [↓e_m1, ↓e_m2, e_0, e_1, e_2, e_3, e_4, e_5, e_6, e_7, e_8, e_9, e_10, e_11, e_12, e_13, e_14, e_15, e_16, e_17, e_18, e_19, e_20, e_21, e_22, e_23, e_24, e_25, e_26, e_27, e_28, e_29, e_30, e_31, e_32, e_33, e_48, e_57, e_59, e_60, e_63, e_64, e_96, e_97, e_99, e_120, e_122, e_192, e_200, e_255, e_256, e_300, e_500, e_600, e_2000, e_5000, e_5240, e_6146, e_20000, e_65536, nIo, nI_leI, nI_ltI, nI_eq, nI_clamp, nIxt, nI_1, nI_add, nI_mul, nN_lt0, nN_le, nN_lt, nN_eq, nN_eq', eq_self, if_true, if_false, if_pos, if_neg]
      refine pK rfl ⟨F, S, P, B, sz, T, ?_⟩
      simp (disch := decide) only [iI, wrs, wrk, wrc, wr2, wl1, wls, wlk, wlc]
      exact ⟨h1, h2, h3, h4, h5, h6, h7, h8, h9, h10.up⟩
  · simp (disch := first | omega | exact nM1_n | exact nM2_n | assumption) only [↓e_m1, ↓e_m2, e_0, e_1, e_2, e_3, e_4, e_5, e_6, e_7, e_8, e_9, e_10, e_11, e_12, e_13, e_14, e_15, e_16, e_17, e_18, e_19, e_20, e_21, e_22, e_23, e_24, e_25, e_26, e_27, e_28, e_29, e_30, e_31, e_32, e_33, e_48, e_57, e_59, e_60, e_63, e_64, e_96, e_97, e_99, e_120, e_122, e_192, e_200, e_255, e_256, e_300, e_500, e_600, e_2000, e_5000, e_5240, e_6146, e_20000, e_65536, nIo, nI_leI, nI_ltI, nI_eq, nI_clamp, nIxt, nI_1, nI_add, nI_mul, nN_lt0, nN_le, nN_lt, nN_eq, nN_eq', eq_self, if_true, if_false, if_pos, if_neg]
    rcases id h8 with ⟨p0, -, p1⟩ | ⟨p0, -, p1, q0, q1, q2⟩
    · simp (disch := first | omega | exact nM1_n | exact nM2_n | assumption) only [p0, p1, ↓e_m1, ↓e_m2, e_0, e_1, e_2, e_3, e_4, e_5, e_6, e_7, e_8, e_9, e_10, e_11, e_12, e_13, e_14, e_15, e_16, e_17, e_18, e_19, e_20, e_21, e_22, e_23, e_24, e_25, e_26, e_27, e_28, e_29, e_30, e_31, e_32, e_33, e_48, e_57, e_59, e_60, e_63, e_64, e_96, e_97, e_99, e_120, e_122, e_192, e_200, e_255, e_256, e_300, e_500, e_600, e_2000, e_5000, e_5240, e_6146, e_20000, e_65536, nIo, nI_leI, nI_ltI, nI_eq, nI_clamp, nIxt, nI_1, nI_add, nI_mul, nN_lt0, nN_le, nN_lt, nN_eq, nN_eq', eq_self, if_true, if_false, if_pos, if_neg]
      refine pK rfl ⟨F, S, P, B, sz, T, ?_⟩
      simp (disch := decide) only [iI, wrs, wrk, wrc, wr2, wl1, wls, wlk, wlc]
      exact ⟨h1, h2, h3, h4, h5, h6, h7, h8, h9, h10.up⟩
    have p1' : ¬ σ.1 33 11 = nM1 := p1
    simp (disch := first | omega | exact nM1_n | exact nM2_n | assumption) only [p0, p1', ↓e_m1, ↓e_m2, e_0, e_1, e_2, e_3, e_4, e_5, e_6, e_7, e_8, e_9, e_10, e_11, e_12, e_13, e_14, e_15, e_16, e_17, e_18, e_19, e_20, e_21, e_22, e_23, e_24, e_25, e_26, e_27, e_28, e_29, e_30, e_31, e_32, e_33, e_48, e_57, e_59, e_60, e_63, e_64, e_96, e_97, e_99, e_120, e_122, e_192, e_200, e_255, e_256, e_300, e_500, e_600, e_2000, e_5000, e_5240, e_6146, e_20000, e_65536, nIo, nI_leI, nI_ltI, nI_eq, nI_clamp, nIxt, nI_1, nI_add, nI_mul, nN_lt0, nN_le, nN_lt, nN_eq, nN_eq', eq_self, if_true, if_false, if_pos, if_neg]
    rcases nI_cs y with hy | ⟨j, hj, rfl⟩
    · simp (disch := first | omega | exact nM1_n | exact nM2_n | assumption) only [↓e_m1, ↓e_m2, e_0, e_1, e_2, e_3, e_4, e_5, e_6, e_7, e_8, e_9, e_10, e_11, e_12, e_13, e_14, e_15, e_16, e_17, e_18, e_19, e_20, e_21, e_22, e_23, e_24, e_25, e_26, e_27, e_28, e_29, e_30, e_31, e_32, e_33, e_48, e_57, e_59, e_60, e_63, e_64, e_96, e_97, e_99, e_120, e_122, e_192, e_200, e_255, e_256, e_300, e_500, e_600, e_2000, e_5000, e_5240, e_6146, e_20000, e_65536, nIo, nI_leI, nI_ltI, nI_eq, nI_clamp, nIxt, nI_1, nI_add, nI_mul, nN_lt0, nN_le, nN_lt, nN_eq, nN_eq', eq_self, if_true, if_false, if_pos, if_neg]
      refine pK rfl ⟨F, S, P, B, sz, T, ?_⟩
      simp (disch := decide) only [iI, wrs, wrk, wrc, wr2, wl1, wls, wlk, wlc]
      exact ⟨h1, h2, h3, h4, h5, h6, h7, h8, h9, h10.up⟩
    by_cases h : j < 3
    · have hi : j = 0 ∨ j = 1 ∨ j = 2 := by omega
      rcases hi with rfl | rfl | rfl
      · simp (disch := first | omega | exact nM1_n | exact nM2_n | assumption) only [nPl24, nBdS, nBdI, ↓e_m1, ↓e_m2, e_0, e_1, e_2, e_3, e_4, e_5, e_6, e_7, e_8, e_9, e_10, e_11, e_12, e_13, e_14, e_15, e_16, e_17, e_18, e_19, e_20, e_21, e_22, e_23, e_24, e_25, e_26, e_27, e_28, e_29, e_30, e_31, e_32, e_33, e_48, e_57, e_59, e_60, e_63, e_64, e_96, e_97, e_99, e_120, e_122, e_192, e_200, e_255, e_256, e_300, e_500, e_600, e_2000, e_5000, e_5240, e_6146, e_20000, e_65536, nIo, nI_leI, nI_ltI, nI_eq, nI_clamp, nIxt, nI_1, nI_add, nI_mul, nN_lt0, nN_le, nN_lt, nN_eq, nN_eq', eq_self, if_true, if_false, if_pos, if_neg]
        refine pK q0 ⟨F, S, P, B, sz, T, ?_⟩
        simp (disch := decide) only [iI, wrs, wrk, wrc, wr2, wl1, wls, wlk, wlc]
        exact ⟨h1, h2, h3, h4, h5, h6, h7, h8, h9, h10.up⟩
      · simp (disch := first | omega | exact nM1_n | exact nM2_n | assumption) only [nPl24, nBdS, nBdI, ↓e_m1, ↓e_m2, e_0, e_1, e_2, e_3, e_4, e_5, e_6, e_7, e_8, e_9, e_10, e_11, e_12, e_13, e_14, e_15, e_16, e_17, e_18, e_19, e_20, e_21, e_22, e_23, e_24, e_25, e_26, e_27, e_28, e_29, e_30, e_31, e_32, e_33, e_48, e_57, e_59, e_60, e_63, e_64, e_96, e_97, e_99, e_120, e_122, e_192, e_200, e_255, e_256, e_300, e_500, e_600, e_2000, e_5000, e_5240, e_6146, e_20000, e_65536, nIo, nI_leI, nI_ltI, nI_eq, nI_clamp, nIxt, nI_1, nI_add, nI_mul, nN_lt0, nN_le, nN_lt, nN_eq, nN_eq', eq_self, if_true, if_false, if_pos, if_neg]
        refine pK q1 ⟨F, S, P, B, sz, T, ?_⟩
        simp (disch := decide) only [iI, wrs, wrk, wrc, wr2, wl1, wls, wlk, wlc]
        exact ⟨h1, h2, h3, h4, h5, h6, h7, h8, h9, h10.up⟩
      · simp (disch := first | omega | exact nM1_n | exact nM2_n | assumption) only [nPl24, nBdS, nBdI, ↓e_m1, ↓e_m2, e_0, e_1, e_2, e_3, e_4, e_5, e_6, e_7, e_8, e_9, e_10, e_11, e_12, e_13, e_14, e_15, e_16, e_17, e_18, e_19, e_20, e_21, e_22, e_23, e_24, e_25, e_26, e_27, e_28, e_29, e_30, e_31, e_32, e_33, e_48, e_57, e_59, e_60, e_63, e_64, e_96, e_97, e_99, e_120, e_122, e_192, e_200, e_255, e_256, e_300, e_500, e_600, e_2000, e_5000, e_5240, e_6146, e_20000, e_65536, nIo, nI_leI, nI_ltI, nI_eq, nI_clamp, nIxt, nI_1, nI_add, nI_mul, nN_lt0, nN_le, nN_lt, nN_eq, nN_eq', eq_self, if_true, if_false, if_pos, if_neg]
        refine pK q2 ⟨F, S, P, B, sz, T, ?_⟩
        simp (disch := decide) only [iI, wrs, wrk, wrc, wr2, wl1, wls, wlk, wlc]
        exact ⟨h1, h2, h3, h4, h5, h6, h7, h8, h9, h10.up⟩
    · simp (disch := first | omega | exact nM1_n | exact nM2_n | assumption) only [↓e_m1, ↓e_m2, e_0, e_1, e_2, e_3, e_4, e_5, e_6, e_7, e_8, e_9, e_10, e_11, e_12, e_13, e_14, e_15, e_16, e_17, e_18, e_19, e_20, e_21, e_22, e_23, e_24, e_25, e_26, e_27, e_28, e_29, e_30, e_31, e_32, e_33, e_48, e_57, e_59, e_60, e_63, e_64, e_96, e_97, e_99, e_120, e_122, e_192, e_200, e_255, e_256, e_300, e_500, e_600, e_2000, e_5000, e_5240, e_6146, e_20000, e_65536, nIo, nI_leI, nI_ltI, nI_eq, nI_clamp, nIxt, nI_1, nI_add, nI_mul, nN_lt0, nN_le, nN_lt, nN_eq, nN_eq', eq_self, if_true, if_false, if_pos, if_neg]
      refine pK rfl ⟨F, S, P, B, sz, T, ?_⟩
      simp (disch := decide) only [iI, wrs, wrk, wrc, wr2, wl1, wls, wlk, wlc]
      exact ⟨h1, h2, h3, h4, h5, h6, h7, h8, h9, h10.up⟩
theorem pOp22 (N : Nat) : nOp22 N nInv := by
  intro n σ τ x _ hI
  obtain ⟨F, S, P, B, sz, T, h1, h2, h3, h4, h5, h6, h7, h8, h9, h10⟩ := hI
  simp (disch := decide) only [b_X8_refuse_0, l_X8_refuse_0, f_X8_refuse, b_X2_isFull_0, l_X2_isFull_0, f_X2_isFull, b_X2_write_0, l_X2_write_0, f_X2_write, b_X8_accept_0, l_X8_accept_0, f_X8_accept, b_X8_log_0, l_X8_log_0, f_X8_log, b_X11_in_0, l_X11_in_0, f_X11_in, b_X11_refused_0, l_X11_refused_0, f_X11_refused, b_X11_done_0, l_X11_done_0, f_X11_done, b_X11_log_0, l_X11_log_0, f_X11_log, nLet, nBdS, nBdI, wrs, wrk, wrc, wr2, wl1, wls, wlk, wlc]
  obtain ⟨m, hm, p1, p2, p3, p4, p5⟩ := id h9
  rcases nI_cs x with hx | ⟨j, hj, rfl⟩
  · simp (disch := first | omega | exact nM1_n | exact nM2_n | assumption) only [p1, p2, ↓e_m1, ↓e_m2, e_0, e_1, e_2, e_3, e_4, e_5, e_6, e_7, e_8, e_9, e_10, e_11, e_12, e_13, e_14, e_15, e_16, e_17, e_18, e_19, e_20, e_21, e_22, e_23, e_24, e_25, e_26, e_27, e_28, e_29, e_30, e_31, e_32, e_33, e_48, e_57, e_59, e_60, e_63, e_64, e_96, e_97, e_99, e_120, e_122, e_192, e_200, e_255, e_256, e_300, e_500, e_600, e_2000, e_5000, e_5240, e_6146, e_20000, e_65536, nIo, nI_leI, nI_ltI, nI_eq, nI_clamp, nIxt, nI_1, nI_add, nI_mul, nN_lt0, nN_le, nN_lt, nN_eq, nN_eq', eq_self, if_true, if_false, if_pos, if_neg]
    refine pK rfl ⟨F, S, P, B, sz, T, ?_⟩
    simp (disch := decide) only [iI, wrs, wrk, wrc, wr2, wl1, wls, wlk, wlc]
    exact ⟨h1, h2, h3, h4.no 2 (by decide), h5, h6, h7, h8, h9, h10.up⟩
  by_cases h : j < 24
  · by_cases h0 : m < 200
    · simp (disch := first | omega | exact nM1_n | exact nM2_n | assumption) only [p1, p2, ↓e_m1, ↓e_m2, e_0, e_1, e_2, e_3, e_4, e_5, e_6, e_7, e_8, e_9, e_10, e_11, e_12, e_13, e_14, e_15, e_16, e_17, e_18, e_19, e_20, e_21, e_22, e_23, e_24, e_25, e_26, e_27, e_28, e_29, e_30, e_31, e_32, e_33, e_48, e_57, e_59, e_60, e_63, e_64, e_96, e_97, e_99, e_120, e_122, e_192, e_200, e_255, e_256, e_300, e_500, e_600, e_2000, e_5000, e_5240, e_6146, e_20000, e_65536, nIo, nI_leI, nI_ltI, nI_eq, nI_clamp, nIxt, nI_1, nI_add, nI_mul, nN_lt0, nN_le, nN_lt, nN_eq, nN_eq', eq_self, if_true, if_false, if_pos, if_neg]
      refine pK rfl ⟨F, S, P, B, sz, T, ?_⟩
      simp (disch := decide) only [iI, wrs, wrk, wrc, wr2, wl1, wls, wlk, wlc]
      refine ⟨h1, h2, h3, h4.done, h5, h6, h7, h8, ⟨m + 1, by omega, ?_⟩, h10.up⟩
      simp (disch := decide) only [wrs, wrk, wrc, wr2, wl1, wls, wlk, wlc]
      refine ⟨trivial, trivial, p3, p4, fun i hi => ?_⟩
      by_cases hj : i = m
      · subst hj
        simp (disch := decide) only [wrs, wrk, wrc, wr2, wl1, wls, wlk, wlc]
      · simp (disch := first | decide | assumption) only [wrs, wrk, wrc, wr2, wl1, wls, wlk, wlc]
        exact p5 i (by omega)
    · simp (disch := first | omega | exact nM1_n | exact nM2_n | assumption) only [p1, p2, ↓e_m1, ↓e_m2, e_0, e_1, e_2, e_3, e_4, e_5, e_6, e_7, e_8, e_9, e_10, e_11, e_12, e_13, e_14, e_15, e_16, e_17, e_18, e_19, e_20, e_21, e_22, e_23, e_24, e_25, e_26, e_27, e_28, e_29, e_30, e_31, e_32, e_33, e_48, e_57, e_59, e_60, e_63, e_64, e_96, e_97, e_99, e_120, e_122, e_192, e_200, e_255, e_256, e_300, e_500, e_600, e_2000, e_5000, e_5240, e_6146, e_20000, e_65536, nIo, nI_leI, nI_ltI, nI_eq, nI_clamp, nIxt, nI_1, nI_add, nI_mul, nN_lt0, nN_le, nN_lt, nN_eq, nN_eq', eq_self, if_true, if_false, if_pos, if_neg]
      refine pK rfl ⟨F, S, P, B, sz, T, ?_⟩
      simp (disch := decide) only [iI, wrs, wrk, wrc, wr2, wl1, wls, wlk, wlc]
      exact ⟨h1, h2, h3, h4.no 3 (by decide), h5, h6, h7, h8, h9, h10.up⟩
  · simp (disch := first | omega | exact nM1_n | exact nM2_n | assumption) only [p1, p2, ↓e_m1, ↓e_m2, e_0, e_1, e_2, e_3, e_4, e_5, e_6, e_7, e_8, e_9, e_10, e_11, e_12, e_13, e_14, e_15, e_16, e_17, e_18, e_19, e_20, e_21, e_22, e_23, e_24, e_25, e_26, e_27, e_28, e_29, e_30, e_31, e_32, e_33, e_48, e_57, e_59, e_60, e_63, e_64, e_96, e_97, e_99, e_120, e_122, e_192, e_200, e_255, e_256, e_300, e_500, e_600, e_2000, e_5000, e_5240, e_6146, e_20000, e_65536, nIo, nI_leI, nI_ltI, nI_eq, nI_clamp, nIxt, nI_1, nI_add, nI_mul, nN_lt0, nN_le, nN_lt, nN_eq, nN_eq', eq_self, if_true, if_false, if_pos, if_neg]
    refine pK rfl ⟨F, S, P, B, sz, T, ?_⟩
    simp (disch := decide) only [iI, wrs, wrk, wrc, wr2, wl1, wls, wlk, wlc]
    exact ⟨h1, h2, h3, h4.no 2 (by decide), h5, h6, h7, h8, h9, h10.up⟩
theorem pOp23 (N : Nat) : nOp23 N nInv := by
  intro n σ τ  _ hI
  obtain ⟨F, S, P, B, sz, T, h1, h2, h3, h4, h5, h6, h7, h8, h9, h10⟩ := hI
  obtain ⟨m, hm, p1, p2, p3, p4, p5⟩ := id h9
  simp (disch := decide) only [b_X8_clear_0, l_X8_clear_0, f_X8_clear, b_X11_clear_0, l_X11_clear_0, f_X11_clear, nLet, nBdS, nBdI, wrs, wrk, wrc, wr2, wl1, wls, wlk, wlc]
  rw [p1, p2]
  refine pK rfl ⟨F, S, P, B, sz, T, ?_⟩
  simp (disch := decide) only [iI, wrs, wrk, wrc, wr2, wl1, wls, wlk, wlc]
  refine ⟨h1, h2, h3, h4, h5, h6, h7, h8, ⟨0, by omega, ?_⟩, h10.up⟩
  simp (disch := decide) only [wrs, wrk, wrc, wr2, wl1, wls, wlk, wlc]
  exact ⟨rfl, rfl, p3, p4, fun i hi => absurd hi (Nat.not_lt_zero i)⟩
theorem pOp25 (N : Nat) : nOp25 N nInv := by
  intro n σ τ x hx _ hI
  obtain ⟨F, S, P, B, sz, T, h1, h2, h3, h4, h5, h6, h7, h8, h9, h10⟩ := hI
  obtain ⟨m, hm, p1, p2, p3, p4, p5⟩ := id h9
  simp (disch := decide) only [b_X8_apart_0, l_X8_apart_0, f_X8_apart, b_X11_apart_0, l_X11_apart_0, f_X11_apart, nLet, nBdS, nBdI, wrs, wrk, wrc, wr2, wl1, wls, wlk, wlc]
  rcases hx with rfl | rfl
  · simp (disch := first | omega | exact nM1_n | exact nM2_n | assumption) only [↓e_m1, ↓e_m2, e_0, e_1, e_2, e_3, e_4, e_5, e_6, e_7, e_8, e_9, e_10, e_11, e_12, e_13, e_14, e_15, e_16, e_17, e_18, e_19, e_20, e_21, e_22, e_23, e_24, e_25, e_26, e_27, e_28, e_29, e_30, e_31, e_32, e_33, e_48, e_57, e_59, e_60, e_63, e_64, e_96, e_97, e_99, e_120, e_122, e_192, e_200, e_255, e_256, e_300, e_500, e_600, e_2000, e_5000, e_5240, e_6146, e_20000, e_65536, nIo, nI_leI, nI_ltI, nI_eq, nI_clamp, nIxt, nI_1, nI_add, nI_mul, nN_lt0, nN_le, nN_lt, nN_eq, nN_eq', eq_self, if_true, if_false, if_pos, if_neg]
    refine pK p3.symm ⟨F, S, P, B, sz, T, ?_⟩
    simp (disch := decide) only [iI, wrs, wrk, wrc, wr2, wl1, wls, wlk, wlc]
    exact ⟨h1, h2, h3, h4, h5, h6, h7, h8, h9, h10.up⟩
  · simp (disch := first | omega | exact nM1_n | exact nM2_n | assumption) only [↓e_m1, ↓e_m2, e_0, e_1, e_2, e_3, e_4, e_5, e_6, e_7, e_8, e_9, e_10, e_11, e_12, e_13, e_14, e_15, e_16, e_17, e_18, e_19, e_20, e_21, e_22, e_23, e_24, e_25, e_26, e_27, e_28, e_29, e_30, e_31, e_32, e_33, e_48, e_57, e_59, e_60, e_63, e_64, e_96, e_97, e_99, e_120, e_122, e_192, e_200, e_255, e_256, e_300, e_500, e_600, e_2000, e_5000, e_5240, e_6146, e_20000, e_65536, nIo, nI_leI, nI_ltI, nI_eq, nI_clamp, nIxt, nI_1, nI_add, nI_mul, nN_lt0, nN_le, nN_lt, nN_eq, nN_eq', eq_self, if_true, if_false, if_pos, if_neg]
    refine pK p4.symm ⟨F, S, P, B, sz, T, ?_⟩
    simp (disch := decide) only [iI, wrs, wrk, wrc, wr2, wl1, wls, wlk, wlc]
    exact ⟨h1, h2, h3, h4, h5, h6, h7, h8, h9, h10.up⟩
theorem pOp27 (N : Nat) : nOp27 N nInv := by
  intro n σ τ x _ hI
  obtain ⟨F, S, P, B, sz, T, h1, h2, h3, h4, h5, h6, h7, h8, h9, h10⟩ := hI
  obtain ⟨⟨b1, b2, b3, b4⟩, ⟨w0, w1, w2, w3⟩, ⟨m0, m1, m2, m3⟩, hg, hs, hk⟩ := id h1
  simp (disch := decide) only [b_X8_count_0, l_X8_count_0, f_X8_count, b_X11_count_0, l_X11_count_0, f_X11_count, nLet, nBdS, nBdI, wrs, wrk, wrc, wr2, wl1, wls, wlk, wlc]
  obtain ⟨m, hm, p1, p2, p3, p4, p5⟩ := id h9
  rcases nI_cs x with hx | ⟨j, hj, rfl⟩
  · simp (disch := first | omega | exact nM1_n | exact nM2_n | assumption) only [↓e_m1, ↓e_m2, e_0, e_1, e_2, e_3, e_4, e_5, e_6, e_7, e_8, e_9, e_10, e_11, e_12, e_13, e_14, e_15, e_16, e_17, e_18, e_19, e_20, e_21, e_22, e_23, e_24, e_25, e_26, e_27, e_28, e_29, e_30, e_31, e_32, e_33, e_48, e_57, e_59, e_60, e_63, e_64, e_96, e_97, e_99, e_120, e_122, e_192, e_200, e_255, e_256, e_300, e_500, e_600, e_2000, e_5000, e_5240, e_6146, e_20000, e_65536, nIo, nI_leI, nI_ltI, nI_eq, nI_clamp, nIxt, nI_1, nI_add, nI_mul, nN_lt0, nN_le, nN_lt, nN_eq, nN_eq', eq_self, if_true, if_false, if_pos, if_neg]
    refine pK rfl ⟨F, S, P, B, sz, T, ?_⟩
    simp (disch := decide) only [iI, wrs, wrk, wrc, wr2, wl1, wls, wlk, wlc]
    exact ⟨h1, h2, h3, h4, h5, h6, h7, h8, h9, h10.up⟩
  by_cases h : j < 6
  · have hi : j = 0 ∨ j = 1 ∨ j = 2 ∨ j = 3 ∨ j = 4 ∨ j = 5 := by omega
    rcases hi with rfl | rfl | rfl | rfl | rfl | rfl
    · simp (disch := first | omega | exact nM1_n | exact nM2_n | assumption) only [nPl24, nBdS, nBdI, ↓e_m1, ↓e_m2, e_0, e_1, e_2, e_3, e_4, e_5, e_6, e_7, e_8, e_9, e_10, e_11, e_12, e_13, e_14, e_15, e_16, e_17, e_18, e_19, e_20, e_21, e_22, e_23, e_24, e_25, e_26, e_27, e_28, e_29, e_30, e_31, e_32, e_33, e_48, e_57, e_59, e_60, e_63, e_64, e_96, e_97, e_99, e_120, e_122, e_192, e_200, e_255, e_256, e_300, e_500, e_600, e_2000, e_5000, e_5240, e_6146, e_20000, e_65536, nIo, nI_leI, nI_ltI, nI_eq, nI_clamp, nIxt, nI_1, nI_add, nI_mul, nN_lt0, nN_le, nN_lt, nN_eq, nN_eq', eq_self, if_true, if_false, if_pos, if_neg]
      refine pK (m0.trans w0.symm) ⟨F, S, P, B, sz, T, ?_⟩
      simp (disch := decide) only [iI, wrs, wrk, wrc, wr2, wl1, wls, wlk, wlc]
      exact ⟨h1, h2, h3, h4, h5, h6, h7, h8, h9, h10.up⟩
    · simp (disch := first | omega | exact nM1_n | exact nM2_n | assumption) only [nPl24, nBdS, nBdI, ↓e_m1, ↓e_m2, e_0, e_1, e_2, e_3, e_4, e_5, e_6, e_7, e_8, e_9, e_10, e_11, e_12, e_13, e_14, e_15, e_16, e_17, e_18, e_19, e_20, e_21, e_22, e_23, e_24, e_25, e_26, e_27, e_28, e_29, e_30, e_31, e_32, e_33, e_48, e_57, e_59, e_60, e_63, e_64, e_96, e_97, e_99, e_120, e_122, e_192, e_200, e_255, e_256, e_300, e_500, e_600, e_2000, e_5000, e_5240, e_6146, e_20000, e_65536, nIo, nI_leI, nI_ltI, nI_eq, nI_clamp, nIxt, nI_1, nI_add, nI_mul, nN_lt0, nN_le, nN_lt, nN_eq, nN_eq', eq_self, if_true, if_false, if_pos, if_neg]
      refine pK (m1.trans w1.symm) ⟨F, S, P, B, sz, T, ?_⟩
      simp (disch := decide) only [iI, wrs, wrk, wrc, wr2, wl1, wls, wlk, wlc]
      exact ⟨h1, h2, h3, h4, h5, h6, h7, h8, h9, h10.up⟩
    · simp (disch := first | omega | exact nM1_n | exact nM2_n | assumption) only [nPl24, nBdS, nBdI, ↓e_m1, ↓e_m2, e_0, e_1, e_2, e_3, e_4, e_5, e_6, e_7, e_8, e_9, e_10, e_11, e_12, e_13, e_14, e_15, e_16, e_17, e_18, e_19, e_20, e_21, e_22, e_23, e_24, e_25, e_26, e_27, e_28, e_29, e_30, e_31, e_32, e_33, e_48, e_57, e_59, e_60, e_63, e_64, e_96, e_97, e_99, e_120, e_122, e_192, e_200, e_255, e_256, e_300, e_500, e_600, e_2000, e_5000, e_5240, e_6146, e_20000, e_65536, nIo, nI_leI, nI_ltI, nI_eq, nI_clamp, nIxt, nI_1, nI_add, nI_mul, nN_lt0, nN_le, nN_lt, nN_eq, nN_eq', eq_self, if_true, if_false, if_pos, if_neg]
      refine pK (m2.trans w2.symm) ⟨F, S, P, B, sz, T, ?_⟩
      simp (disch := decide) only [iI, wrs, wrk, wrc, wr2, wl1, wls, wlk, wlc]
      exact ⟨h1, h2, h3, h4, h5, h6, h7, h8, h9, h10.up⟩
    · simp (disch := first | omega | exact nM1_n | exact nM2_n | assumption) only [nPl24, nBdS, nBdI, ↓e_m1, ↓e_m2, e_0, e_1, e_2, e_3, e_4, e_5, e_6, e_7, e_8, e_9, e_10, e_11, e_12, e_13, e_14, e_15, e_16, e_17, e_18, e_19, e_20, e_21, e_22, e_23, e_24, e_25, e_26, e_27, e_28, e_29, e_30, e_31, e_32, e_33, e_48, e_57, e_59, e_60, e_63, e_64, e_96, e_97, e_99, e_120, e_122, e_192, e_200, e_255, e_256, e_300, e_500, e_600, e_2000, e_5000, e_5240, e_6146, e_20000, e_65536, nIo, nI_leI, nI_ltI, nI_eq, nI_clamp, nIxt, nI_1, nI_add, nI_mul, nN_lt0, nN_le, nN_lt, nN_eq, nN_eq', eq_self, if_true, if_false, if_pos, if_neg]
      refine pK (m3.trans w3.symm) ⟨F, S, P, B, sz, T, ?_⟩
      simp (disch := decide) only [iI, wrs, wrk, wrc, wr2, wl1, wls, wlk, wlc]
      exact ⟨h1, h2, h3, h4, h5, h6, h7, h8, h9, h10.up⟩
    · simp (disch := first | omega | exact nM1_n | exact nM2_n | assumption) only [nPl24, nBdS, nBdI, ↓e_m1, ↓e_m2, e_0, e_1, e_2, e_3, e_4, e_5, e_6, e_7, e_8, e_9, e_10, e_11, e_12, e_13, e_14, e_15, e_16, e_17, e_18, e_19, e_20, e_21, e_22, e_23, e_24, e_25, e_26, e_27, e_28, e_29, e_30, e_31, e_32, e_33, e_48, e_57, e_59, e_60, e_63, e_64, e_96, e_97, e_99, e_120, e_122, e_192, e_200, e_255, e_256, e_300, e_500, e_600, e_2000, e_5000, e_5240, e_6146, e_20000, e_65536, nIo, nI_leI, nI_ltI, nI_eq, nI_clamp, nIxt, nI_1, nI_add, nI_mul, nN_lt0, nN_le, nN_lt, nN_eq, nN_eq', eq_self, if_true, if_false, if_pos, if_neg]
      refine pK (p2.trans p1.symm) ⟨F, S, P, B, sz, T, ?_⟩
      simp (disch := decide) only [iI, wrs, wrk, wrc, wr2, wl1, wls, wlk, wlc]
      exact ⟨h1, h2, h3, h4, h5, h6, h7, h8, h9, h10.up⟩
    · simp (disch := first | omega | exact nM1_n | exact nM2_n | assumption) only [nPl24, nBdS, nBdI, ↓e_m1, ↓e_m2, e_0, e_1, e_2, e_3, e_4, e_5, e_6, e_7, e_8, e_9, e_10, e_11, e_12, e_13, e_14, e_15, e_16, e_17, e_18, e_19, e_20, e_21, e_22, e_23, e_24, e_25, e_26, e_27, e_28, e_29, e_30, e_31, e_32, e_33, e_48, e_57, e_59, e_60, e_63, e_64, e_96, e_97, e_99, e_120, e_122, e_192, e_200, e_255, e_256, e_300, e_500, e_600, e_2000, e_5000, e_5240, e_6146, e_20000, e_65536, nIo, nI_leI, nI_ltI, nI_eq, nI_clamp, nIxt, nI_1, nI_add, nI_mul, nN_lt0, nN_le, nN_lt, nN_eq, nN_eq', eq_self, if_true, if_false, if_pos, if_neg]
      refine pK (h3.2.2.1.trans h3.2.1.symm) ⟨F, S, P, B, sz, T, ?_⟩
      simp (disch := decide) only [iI, wrs, wrk, wrc, wr2, wl1, wls, wlk, wlc]
      exact ⟨h1, h2, h3, h4, h5, h6, h7, h8, h9, h10.up⟩
  · simp (disch := first | omega | exact nM1_n | exact nM2_n | assumption) only [↓e_m1, ↓e_m2, e_0, e_1, e_2, e_3, e_4, e_5, e_6, e_7, e_8, e_9, e_10, e_11, e_12, e_13, e_14, e_15, e_16, e_17, e_18, e_19, e_20, e_21, e_22, e_23, e_24, e_25, e_26, e_27, e_28, e_29, e_30, e_31, e_32, e_33, e_48, e_57, e_59, e_60, e_63, e_64, e_96, e_97, e_99, e_120, e_122, e_192, e_200, e_255, e_256, e_300, e_500, e_600, e_2000, e_5000, e_5240, e_6146, e_20000, e_65536, nIo, nI_leI, nI_ltI, nI_eq, nI_clamp, nIxt, nI_1, nI_add, nI_mul, nN_lt0, nN_le, nN_lt, nN_eq, nN_eq', eq_self, if_true, if_false, if_pos, if_neg]
    refine pK rfl ⟨F, S, P, B, sz, T, ?_⟩
    simp (disch := decide) only [iI, wrs, wrk, wrc, wr2, wl1, wls, wlk, wlc]
    exact ⟨h1, h2, h3, h4, h5, h6, h7, h8, h9, h10.up⟩
