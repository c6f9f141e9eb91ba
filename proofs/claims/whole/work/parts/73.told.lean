/-! THE CALLS THAT SHOW WHAT WAS FOUND -/
theorem pOp11 (N : Nat) : nOp11 N nInv := by
  intro n σ τ x _ hI
  obtain ⟨F, S, P, B, sz, T, h1, h2, h3, h4, h5, h6, h7, h8, h9, h10⟩ := hI
  simp (disch := decide) only [b_X8_nothingPlayed_0, l_X8_nothingPlayed_0, f_X8_nothingPlayed, b_X8_refuse_0, l_X8_refuse_0, f_X8_refuse, b_X6_about_0, l_X6_about_0, f_X6_about, b_X8_accept_0, l_X8_accept_0, f_X8_accept, b_X8_played_0, l_X8_played_0, f_X8_played, b_X11_refused_0, l_X11_refused_0, f_X11_refused, b_X11_played_0, l_X11_played_0, f_X11_played, nLet, nBdS, nBdI, wrs, wrk, wrc, wr2, wl1, wls, wlk, wlc]
  rcases id h5 with ⟨p1, p2, p3⟩ | ⟨⟨e, he, p1⟩, p2, q1, q2, q3, q4, q5, -⟩
  · simp (disch := first | omega | exact nM1_n | exact nM2_n | assumption) only [p1, p2, ↓e_m1, ↓e_m2, e_0, e_1, e_2, e_3, e_4, e_5, e_6, e_7, e_8, e_9, e_10, e_11, e_12, e_13, e_14, e_15, e_16, e_17, e_18, e_19, e_20, e_21, e_22, e_23, e_24, e_25, e_26, e_27, e_28, e_29, e_30, e_31, e_32, e_33, e_48, e_57, e_59, e_60, e_63, e_64, e_96, e_97, e_99, e_120, e_122, e_192, e_200, e_255, e_256, e_300, e_500, e_600, e_2000, e_5000, e_5240, e_6146, e_20000, e_65536, nIo, nI_leI, nI_ltI, nI_eq, nI_clamp, nIxt, nI_1, nI_add, nI_mul, nN_lt0, nN_le, nN_lt, nN_eq, nN_eq', eq_self, if_true, if_false, if_pos, if_neg]
    refine pK rfl ⟨F, S, P, B, sz, T, ?_⟩
    simp (disch := decide) only [iI, wrs, wrk, wrc, wr2, wl1, wls, wlk, wlc]
    exact ⟨h1, h2, h3, h4.no 5 (by decide), h5, h6, h7, h8, h9, h10.up⟩
  rw [p1, p2, if_neg (nI_m1 e (by omega))]
  rcases nI_cs x with hx | ⟨j, hj, rfl⟩
  · simp (disch := first | omega | exact nM1_n | exact nM2_n | assumption) only [↓e_m1, ↓e_m2, e_0, e_1, e_2, e_3, e_4, e_5, e_6, e_7, e_8, e_9, e_10, e_11, e_12, e_13, e_14, e_15, e_16, e_17, e_18, e_19, e_20, e_21, e_22, e_23, e_24, e_25, e_26, e_27, e_28, e_29, e_30, e_31, e_32, e_33, e_48, e_57, e_59, e_60, e_63, e_64, e_96, e_97, e_99, e_120, e_122, e_192, e_200, e_255, e_256, e_300, e_500, e_600, e_2000, e_5000, e_5240, e_6146, e_20000, e_65536, nIo, nI_leI, nI_ltI, nI_eq, nI_clamp, nIxt, nI_1, nI_add, nI_mul, nN_lt0, nN_le, nN_lt, nN_eq, nN_eq', eq_self, if_true, if_false, if_pos, if_neg]
    refine pK rfl ⟨F, S, P, B, sz, T, ?_⟩
    simp (disch := decide) only [iI, wrs, wrk, wrc, wr2, wl1, wls, wlk, wlc]
    exact ⟨h1, h2, h3, h4.done, h5, h6, h7, h8, h9, h10.up⟩
  by_cases h : j < 4
  · have hi : j = 0 ∨ j = 1 ∨ j = 2 ∨ j = 3 := by omega
    rcases hi with rfl | rfl | rfl | rfl
    · simp (disch := first | omega | exact nM1_n | exact nM2_n | assumption) only [nPl24, nBdS, nBdI, ↓e_m1, ↓e_m2, e_0, e_1, e_2, e_3, e_4, e_5, e_6, e_7, e_8, e_9, e_10, e_11, e_12, e_13, e_14, e_15, e_16, e_17, e_18, e_19, e_20, e_21, e_22, e_23, e_24, e_25, e_26, e_27, e_28, e_29, e_30, e_31, e_32, e_33, e_48, e_57, e_59, e_60, e_63, e_64, e_96, e_97, e_99, e_120, e_122, e_192, e_200, e_255, e_256, e_300, e_500, e_600, e_2000, e_5000, e_5240, e_6146, e_20000, e_65536, nIo, nI_leI, nI_ltI, nI_eq, nI_clamp, nIxt, nI_1, nI_add, nI_mul, nN_lt0, nN_le, nN_lt, nN_eq, nN_eq', eq_self, if_true, if_false, if_pos, if_neg]
      refine pK q2 ⟨F, S, P, B, sz, T, ?_⟩
      simp (disch := decide) only [iI, wrs, wrk, wrc, wr2, wl1, wls, wlk, wlc]
      exact ⟨h1, h2, h3, h4.done, h5, h6, h7, h8, h9, h10.up⟩
    · simp (disch := first | omega | exact nM1_n | exact nM2_n | assumption) only [nPl24, nBdS, nBdI, ↓e_m1, ↓e_m2, e_0, e_1, e_2, e_3, e_4, e_5, e_6, e_7, e_8, e_9, e_10, e_11, e_12, e_13, e_14, e_15, e_16, e_17, e_18, e_19, e_20, e_21, e_22, e_23, e_24, e_25, e_26, e_27, e_28, e_29, e_30, e_31, e_32, e_33, e_48, e_57, e_59, e_60, e_63, e_64, e_96, e_97, e_99, e_120, e_122, e_192, e_200, e_255, e_256, e_300, e_500, e_600, e_2000, e_5000, e_5240, e_6146, e_20000, e_65536, nIo, nI_leI, nI_ltI, nI_eq, nI_clamp, nIxt, nI_1, nI_add, nI_mul, nN_lt0, nN_le, nN_lt, nN_eq, nN_eq', eq_self, if_true, if_false, if_pos, if_neg]
      refine pK q3 ⟨F, S, P, B, sz, T, ?_⟩
      simp (disch := decide) only [iI, wrs, wrk, wrc, wr2, wl1, wls, wlk, wlc]
      exact ⟨h1, h2, h3, h4.done, h5, h6, h7, h8, h9, h10.up⟩
    · simp (disch := first | omega | exact nM1_n | exact nM2_n | assumption) only [nPl24, nBdS, nBdI, ↓e_m1, ↓e_m2, e_0, e_1, e_2, e_3, e_4, e_5, e_6, e_7, e_8, e_9, e_10, e_11, e_12, e_13, e_14, e_15, e_16, e_17, e_18, e_19, e_20, e_21, e_22, e_23, e_24, e_25, e_26, e_27, e_28, e_29, e_30, e_31, e_32, e_33, e_48, e_57, e_59, e_60, e_63, e_64, e_96, e_97, e_99, e_120, e_122, e_192, e_200, e_255, e_256, e_300, e_500, e_600, e_2000, e_5000, e_5240, e_6146, e_20000, e_65536, nIo, nI_leI, nI_ltI, nI_eq, nI_clamp, nIxt, nI_1, nI_add, nI_mul, nN_lt0, nN_le, nN_lt, nN_eq, nN_eq', eq_self, if_true, if_false, if_pos, if_neg]
      refine pK q4 ⟨F, S, P, B, sz, T, ?_⟩
      simp (disch := decide) only [iI, wrs, wrk, wrc, wr2, wl1, wls, wlk, wlc]
      exact ⟨h1, h2, h3, h4.done, h5, h6, h7, h8, h9, h10.up⟩
    · simp (disch := first | omega | exact nM1_n | exact nM2_n | assumption) only [nPl24, nBdS, nBdI, ↓e_m1, ↓e_m2, e_0, e_1, e_2, e_3, e_4, e_5, e_6, e_7, e_8, e_9, e_10, e_11, e_12, e_13, e_14, e_15, e_16, e_17, e_18, e_19, e_20, e_21, e_22, e_23, e_24, e_25, e_26, e_27, e_28, e_29, e_30, e_31, e_32, e_33, e_48, e_57, e_59, e_60, e_63, e_64, e_96, e_97, e_99, e_120, e_122, e_192, e_200, e_255, e_256, e_300, e_500, e_600, e_2000, e_5000, e_5240, e_6146, e_20000, e_65536, nIo, nI_leI, nI_ltI, nI_eq, nI_clamp, nIxt, nI_1, nI_add, nI_mul, nN_lt0, nN_le, nN_lt, nN_eq, nN_eq', eq_self, if_true, if_false, if_pos, if_neg]
      refine pK q5 ⟨F, S, P, B, sz, T, ?_⟩
      simp (disch := decide) only [iI, wrs, wrk, wrc, wr2, wl1, wls, wlk, wlc]
      exact ⟨h1, h2, h3, h4.done, h5, h6, h7, h8, h9, h10.up⟩
  · simp (disch := first | omega | exact nM1_n | exact nM2_n | assumption) only [↓e_m1, ↓e_m2, e_0, e_1, e_2, e_3, e_4, e_5, e_6, e_7, e_8, e_9, e_10, e_11, e_12, e_13, e_14, e_15, e_16, e_17, e_18, e_19, e_20, e_21, e_22, e_23, e_24, e_25, e_26, e_27, e_28, e_29, e_30, e_31, e_32, e_33, e_48, e_57, e_59, e_60, e_63, e_64, e_96, e_97, e_99, e_120, e_122, e_192, e_200, e_255, e_256, e_300, e_500, e_600, e_2000, e_5000, e_5240, e_6146, e_20000, e_65536, nIo, nI_leI, nI_ltI, nI_eq, nI_clamp, nIxt, nI_1, nI_add, nI_mul, nN_lt0, nN_le, nN_lt, nN_eq, nN_eq', eq_self, if_true, if_false, if_pos, if_neg]
    refine pK rfl ⟨F, S, P, B, sz, T, ?_⟩
    simp (disch := decide) only [iI, wrs, wrk, wrc, wr2, wl1, wls, wlk, wlc]
    exact ⟨h1, h2, h3, h4.done, h5, h6, h7, h8, h9, h10.up⟩
theorem pOp12 (N : Nat) : nOp12 N nInv := by
  intro n σ τ x _ hI
  obtain ⟨F, S, P, B, sz, T, h1, h2, h3, h4, h5, h6, h7, h8, h9, h10⟩ := hI
  simp (disch := decide) only [b_X6_pathAt_0, l_X6_pathAt_0, f_X6_pathAt, b_X8_path_0, l_X8_path_0, f_X8_path, b_X11_path_0, l_X11_path_0, f_X11_path, nLet, nBdS, nBdI, wrs, wrk, wrc, wr2, wl1, wls, wlk, wlc]
  rcases id h5 with ⟨p1, p2, p3⟩ | ⟨-, p2, q1, q2, q3, q4, q5, c, hc, p3, q6⟩
  · rcases nI_cs x with hx | ⟨j, hj, rfl⟩
    · simp (disch := first | omega | exact nM1_n | exact nM2_n | assumption) only [p1, p2, p3, nPl24, nBdS, nBdI, ↓e_m1, ↓e_m2, e_0, e_1, e_2, e_3, e_4, e_5, e_6, e_7, e_8, e_9, e_10, e_11, e_12, e_13, e_14, e_15, e_16, e_17, e_18, e_19, e_20, e_21, e_22, e_23, e_24, e_25, e_26, e_27, e_28, e_29, e_30, e_31, e_32, e_33, e_48, e_57, e_59, e_60, e_63, e_64, e_96, e_97, e_99, e_120, e_122, e_192, e_200, e_255, e_256, e_300, e_500, e_600, e_2000, e_5000, e_5240, e_6146, e_20000, e_65536, nIo, nI_leI, nI_ltI, nI_eq, nI_clamp, nIxt, nI_1, nI_add, nI_mul, nN_lt0, nN_le, nN_lt, nN_eq, nN_eq', eq_self, if_true, if_false, if_pos, if_neg]
      refine pK rfl ⟨F, S, P, B, sz, T, ?_⟩
      simp (disch := decide) only [iI, wrs, wrk, wrc, wr2, wl1, wls, wlk, wlc]
      exact ⟨h1, h2, h3, h4, h5, h6, h7, h8, h9, h10.up⟩
    · simp (disch := first | omega | exact nM1_n | exact nM2_n | assumption) only [p1, p2, p3, nPl24, nBdS, nBdI, ↓e_m1, ↓e_m2, e_0, e_1, e_2, e_3, e_4, e_5, e_6, e_7, e_8, e_9, e_10, e_11, e_12, e_13, e_14, e_15, e_16, e_17, e_18, e_19, e_20, e_21, e_22, e_23, e_24, e_25, e_26, e_27, e_28, e_29, e_30, e_31, e_32, e_33, e_48, e_57, e_59, e_60, e_63, e_64, e_96, e_97, e_99, e_120, e_122, e_192, e_200, e_255, e_256, e_300, e_500, e_600, e_2000, e_5000, e_5240, e_6146, e_20000, e_65536, nIo, nI_leI, nI_ltI, nI_eq, nI_clamp, nIxt, nI_1, nI_add, nI_mul, nN_lt0, nN_le, nN_lt, nN_eq, nN_eq', eq_self, if_true, if_false, if_pos, if_neg]
      refine pK rfl ⟨F, S, P, B, sz, T, ?_⟩
      simp (disch := decide) only [iI, wrs, wrk, wrc, wr2, wl1, wls, wlk, wlc]
      exact ⟨h1, h2, h3, h4, h5, h6, h7, h8, h9, h10.up⟩
  rcases nI_cs x with hx | ⟨j, hj, rfl⟩
  · simp (disch := first | omega | exact nM1_n | exact nM2_n | assumption) only [p2, ↓e_m1, ↓e_m2, e_0, e_1, e_2, e_3, e_4, e_5, e_6, e_7, e_8, e_9, e_10, e_11, e_12, e_13, e_14, e_15, e_16, e_17, e_18, e_19, e_20, e_21, e_22, e_23, e_24, e_25, e_26, e_27, e_28, e_29, e_30, e_31, e_32, e_33, e_48, e_57, e_59, e_60, e_63, e_64, e_96, e_97, e_99, e_120, e_122, e_192, e_200, e_255, e_256, e_300, e_500, e_600, e_2000, e_5000, e_5240, e_6146, e_20000, e_65536, nIo, nI_leI, nI_ltI, nI_eq, nI_clamp, nIxt, nI_1, nI_add, nI_mul, nN_lt0, nN_le, nN_lt, nN_eq, nN_eq', eq_self, if_true, if_false, if_pos, if_neg]
    refine pK rfl ⟨F, S, P, B, sz, T, ?_⟩
    simp (disch := decide) only [iI, wrs, wrk, wrc, wr2, wl1, wls, wlk, wlc]
    exact ⟨h1, h2, h3, h4, h5, h6, h7, h8, h9, h10.up⟩
  by_cases h : j < c ∧ j < 2000
  · simp (disch := first | omega | exact nM1_n | exact nM2_n | assumption) only [p2, q3, p3, nPl24, nBdS, nBdI, ↓e_m1, ↓e_m2, e_0, e_1, e_2, e_3, e_4, e_5, e_6, e_7, e_8, e_9, e_10, e_11, e_12, e_13, e_14, e_15, e_16, e_17, e_18, e_19, e_20, e_21, e_22, e_23, e_24, e_25, e_26, e_27, e_28, e_29, e_30, e_31, e_32, e_33, e_48, e_57, e_59, e_60, e_63, e_64, e_96, e_97, e_99, e_120, e_122, e_192, e_200, e_255, e_256, e_300, e_500, e_600, e_2000, e_5000, e_5240, e_6146, e_20000, e_65536, nIo, nI_leI, nI_ltI, nI_eq, nI_clamp, nIxt, nI_1, nI_add, nI_mul, nN_lt0, nN_le, nN_lt, nN_eq, nN_eq', eq_self, if_true, if_false, if_pos, if_neg]
    refine pK (q6 j h.1 h.2) ⟨F, S, P, B, sz, T, ?_⟩
    simp (disch := decide) only [iI, wrs, wrk, wrc, wr2, wl1, wls, wlk, wlc]
    exact ⟨h1, h2, h3, h4, h5, h6, h7, h8, h9, h10.up⟩
  · by_cases hjc : j < c
    · simp (disch := first | omega | exact nM1_n | exact nM2_n | assumption) only [p2, q3, p3, nPl24, nBdS, nBdI, ↓e_m1, ↓e_m2, e_0, e_1, e_2, e_3, e_4, e_5, e_6, e_7, e_8, e_9, e_10, e_11, e_12, e_13, e_14, e_15, e_16, e_17, e_18, e_19, e_20, e_21, e_22, e_23, e_24, e_25, e_26, e_27, e_28, e_29, e_30, e_31, e_32, e_33, e_48, e_57, e_59, e_60, e_63, e_64, e_96, e_97, e_99, e_120, e_122, e_192, e_200, e_255, e_256, e_300, e_500, e_600, e_2000, e_5000, e_5240, e_6146, e_20000, e_65536, nIo, nI_leI, nI_ltI, nI_eq, nI_clamp, nIxt, nI_1, nI_add, nI_mul, nN_lt0, nN_le, nN_lt, nN_eq, nN_eq', eq_self, if_true, if_false, if_pos, if_neg]
      refine pK rfl ⟨F, S, P, B, sz, T, ?_⟩
      simp (disch := decide) only [iI, wrs, wrk, wrc, wr2, wl1, wls, wlk, wlc]
      exact ⟨h1, h2, h3, h4, h5, h6, h7, h8, h9, h10.up⟩
    · simp (disch := first | omega | exact nM1_n | exact nM2_n | assumption) only [p2, q3, p3, nPl24, nBdS, nBdI, ↓e_m1, ↓e_m2, e_0, e_1, e_2, e_3, e_4, e_5, e_6, e_7, e_8, e_9, e_10, e_11, e_12, e_13, e_14, e_15, e_16, e_17, e_18, e_19, e_20, e_21, e_22, e_23, e_24, e_25, e_26, e_27, e_28, e_29, e_30, e_31, e_32, e_33, e_48, e_57, e_59, e_60, e_63, e_64, e_96, e_97, e_99, e_120, e_122, e_192, e_200, e_255, e_256, e_300, e_500, e_600, e_2000, e_5000, e_5240, e_6146, e_20000, e_65536, nIo, nI_leI, nI_ltI, nI_eq, nI_clamp, nIxt, nI_1, nI_add, nI_mul, nN_lt0, nN_le, nN_lt, nN_eq, nN_eq', eq_self, if_true, if_false, if_pos, if_neg]
      refine pK rfl ⟨F, S, P, B, sz, T, ?_⟩
      simp (disch := decide) only [iI, wrs, wrk, wrc, wr2, wl1, wls, wlk, wlc]
      exact ⟨h1, h2, h3, h4, h5, h6, h7, h8, h9, h10.up⟩
theorem pOp14 (N : Nat) : nOp14 N nInv := by
  intro n σ τ x _ hI
  obtain ⟨F, S, P, B, sz, T, h1, h2, h3, h4, h5, h6, h7, h8, h9, h10⟩ := hI
  simp (disch := decide) only [b_X5_endedBy_0, l_X5_endedBy_0, f_X5_endedBy, b_X8_ended_0, l_X8_ended_0, f_X8_ended, b_X11_in_0, l_X11_in_0, f_X11_in, b_X11_ended_0, l_X11_ended_0, f_X11_ended, nLet, nBdS, nBdI, wrs, wrk, wrc, wr2, wl1, wls, wlk, wlc]
  rcases id h6 with ⟨p1, p2⟩ | ⟨p1, p2, -, -, -, q, -⟩
  · simp (disch := first | omega | exact nM1_n | exact nM2_n | assumption) only [p1, p2, ↓e_m1, ↓e_m2, e_0, e_1, e_2, e_3, e_4, e_5, e_6, e_7, e_8, e_9, e_10, e_11, e_12, e_13, e_14, e_15, e_16, e_17, e_18, e_19, e_20, e_21, e_22, e_23, e_24, e_25, e_26, e_27, e_28, e_29, e_30, e_31, e_32, e_33, e_48, e_57, e_59, e_60, e_63, e_64, e_96, e_97, e_99, e_120, e_122, e_192, e_200, e_255, e_256, e_300, e_500, e_600, e_2000, e_5000, e_5240, e_6146, e_20000, e_65536, nIo, nI_leI, nI_ltI, nI_eq, nI_clamp, nIxt, nI_1, nI_add, nI_mul, nN_lt0, nN_le, nN_lt, nN_eq, nN_eq', eq_self, if_true, if_false, if_pos, if_neg]
    refine pK rfl ⟨F, S, P, B, sz, T, ?_⟩
    simp (disch := decide) only [iI, wrs, wrk, wrc, wr2, wl1, wls, wlk, wlc]
    exact ⟨h1, h2, h3, h4, h5, h6, h7, h8, h9, h10.up⟩
  rcases nI_cs x with hx | ⟨j, hj, rfl⟩
  · simp (disch := first | omega | exact nM1_n | exact nM2_n | assumption) only [p1, p2, ↓e_m1, ↓e_m2, e_0, e_1, e_2, e_3, e_4, e_5, e_6, e_7, e_8, e_9, e_10, e_11, e_12, e_13, e_14, e_15, e_16, e_17, e_18, e_19, e_20, e_21, e_22, e_23, e_24, e_25, e_26, e_27, e_28, e_29, e_30, e_31, e_32, e_33, e_48, e_57, e_59, e_60, e_63, e_64, e_96, e_97, e_99, e_120, e_122, e_192, e_200, e_255, e_256, e_300, e_500, e_600, e_2000, e_5000, e_5240, e_6146, e_20000, e_65536, nIo, nI_leI, nI_ltI, nI_eq, nI_clamp, nIxt, nI_1, nI_add, nI_mul, nN_lt0, nN_le, nN_lt, nN_eq, nN_eq', eq_self, if_true, if_false, if_pos, if_neg]
    refine pK rfl ⟨F, S, P, B, sz, T, ?_⟩
    simp (disch := decide) only [iI, wrs, wrk, wrc, wr2, wl1, wls, wlk, wlc]
    exact ⟨h1, h2, h3, h4, h5, h6, h7, h8, h9, h10.up⟩
  by_cases h : j < 7
  · simp (disch := first | omega | exact nM1_n | exact nM2_n | assumption) only [p1, p2, ↓e_m1, ↓e_m2, e_0, e_1, e_2, e_3, e_4, e_5, e_6, e_7, e_8, e_9, e_10, e_11, e_12, e_13, e_14, e_15, e_16, e_17, e_18, e_19, e_20, e_21, e_22, e_23, e_24, e_25, e_26, e_27, e_28, e_29, e_30, e_31, e_32, e_33, e_48, e_57, e_59, e_60, e_63, e_64, e_96, e_97, e_99, e_120, e_122, e_192, e_200, e_255, e_256, e_300, e_500, e_600, e_2000, e_5000, e_5240, e_6146, e_20000, e_65536, nIo, nI_leI, nI_ltI, nI_eq, nI_clamp, nIxt, nI_1, nI_add, nI_mul, nN_lt0, nN_le, nN_lt, nN_eq, nN_eq', eq_self, if_true, if_false, if_pos, if_neg]
    refine pK (q j h) ⟨F, S, P, B, sz, T, ?_⟩
    simp (disch := decide) only [iI, wrs, wrk, wrc, wr2, wl1, wls, wlk, wlc]
    exact ⟨h1, h2, h3, h4, h5, h6, h7, h8, h9, h10.up⟩
  · simp (disch := first | omega | exact nM1_n | exact nM2_n | assumption) only [p1, p2, ↓e_m1, ↓e_m2, e_0, e_1, e_2, e_3, e_4, e_5, e_6, e_7, e_8, e_9, e_10, e_11, e_12, e_13, e_14, e_15, e_16, e_17, e_18, e_19, e_20, e_21, e_22, e_23, e_24, e_25, e_26, e_27, e_28, e_29, e_30, e_31, e_32, e_33, e_48, e_57, e_59, e_60, e_63, e_64, e_96, e_97, e_99, e_120, e_122, e_192, e_200, e_255, e_256, e_300, e_500, e_600, e_2000, e_5000, e_5240, e_6146, e_20000, e_65536, nIo, nI_leI, nI_ltI, nI_eq, nI_clamp, nIxt, nI_1, nI_add, nI_mul, nN_lt0, nN_le, nN_lt, nN_eq, nN_eq', eq_self, if_true, if_false, if_pos, if_neg]
    refine pK rfl ⟨F, S, P, B, sz, T, ?_⟩
    simp (disch := decide) only [iI, wrs, wrk, wrc, wr2, wl1, wls, wlk, wlc]
    exact ⟨h1, h2, h3, h4, h5, h6, h7, h8, h9, h10.up⟩
theorem pOp15 (N : Nat) : nOp15 N nInv := by
  intro n σ τ x _ hI
  obtain ⟨F, S, P, B, sz, T, h1, h2, h3, h4, h5, h6, h7, h8, h9, h10⟩ := hI
  simp (maxSteps := 2000000) (disch := decide) only [b_X5_about_0, l_X5_about_0, f_X5_about, b_X8_allOf_0, l_X8_allOf_0, f_X8_allOf, b_X11_in_0, l_X11_in_0, f_X11_in, b_X11_allOf_0, l_X11_allOf_0, f_X11_allOf, nLet, nBdE, wrs, wrk, wrc, wr2, wl1, wls, wlk, wlc]
  rcases id h6 with ⟨p1, p2⟩ | ⟨p1, p2, -, -, -, -, q0, q1, q2, q6, q7, qa, qb⟩
  · simp (disch := first | omega | exact nM1_n | exact nM2_n | assumption) only [p1, p2, nBdS, nBdI, ↓e_m1, ↓e_m2, e_0, e_1, e_2, e_3, e_4, e_5, e_6, e_7, e_8, e_9, e_10, e_11, e_12, e_13, e_14, e_15, e_16, e_17, e_18, e_19, e_20, e_21, e_22, e_23, e_24, e_25, e_26, e_27, e_28, e_29, e_30, e_31, e_32, e_33, e_48, e_57, e_59, e_60, e_63, e_64, e_96, e_97, e_99, e_120, e_122, e_192, e_200, e_255, e_256, e_300, e_500, e_600, e_2000, e_5000, e_5240, e_6146, e_20000, e_65536, nIo, nI_leI, nI_ltI, nI_eq, nI_clamp, nIxt, nI_1, nI_add, nI_mul, nN_lt0, nN_le, nN_lt, nN_eq, nN_eq', eq_self, if_true, if_false, if_pos, if_neg]
    refine pK rfl ⟨F, S, P, B, sz, T, ?_⟩
    simp (disch := decide) only [iI, wrs, wrk, wrc, wr2, wl1, wls, wlk, wlc]
    exact ⟨h1, h2, h3, h4, h5, h6, h7, h8, h9, h10.up⟩
  simp (disch := first | omega | exact nM1_n | exact nM2_n | assumption) only [p1, p2, ↓e_m1, ↓e_m2, e_0, e_1, e_2, e_3, e_4, e_5, e_6, e_7, e_8, e_9, e_10, e_11, e_12, e_13, e_14, e_15, e_16, e_17, e_18, e_19, e_20, e_21, e_22, e_23, e_24, e_25, e_26, e_27, e_28, e_29, e_30, e_31, e_32, e_33, e_48, e_57, e_59, e_60, e_63, e_64, e_96, e_97, e_99, e_120, e_122, e_192, e_200, e_255, e_256, e_300, e_500, e_600, e_2000, e_5000, e_5240, e_6146, e_20000, e_65536, nIo, nI_leI, nI_ltI, nI_eq, nI_clamp, nIxt, nI_1, nI_add, nI_mul, nN_lt0, nN_le, nN_lt, nN_eq, nN_eq', eq_self, if_true, if_false, if_pos, if_neg]
  rcases nI_cs x with hx | ⟨j, hj, rfl⟩
  · simp (disch := first | omega | exact nM1_n | exact nM2_n | assumption) only [nBdS, nBdI, ↓e_m1, ↓e_m2, e_0, e_1, e_2, e_3, e_4, e_5, e_6, e_7, e_8, e_9, e_10, e_11, e_12, e_13, e_14, e_15, e_16, e_17, e_18, e_19, e_20, e_21, e_22, e_23, e_24, e_25, e_26, e_27, e_28, e_29, e_30, e_31, e_32, e_33, e_48, e_57, e_59, e_60, e_63, e_64, e_96, e_97, e_99, e_120, e_122, e_192, e_200, e_255, e_256, e_300, e_500, e_600, e_2000, e_5000, e_5240, e_6146, e_20000, e_65536, nIo, nI_leI, nI_ltI, nI_eq, nI_clamp, nIxt, nI_1, nI_add, nI_mul, nN_lt0, nN_le, nN_lt, nN_eq, nN_eq', eq_self, if_true, if_false, if_pos, if_neg]
    refine pK rfl ⟨F, S, P, B, sz, T, ?_⟩
    simp (disch := decide) only [iI, wrs, wrk, wrc, wr2, wl1, wls, wlk, wlc]
    exact ⟨h1, h2, h3, h4, h5, h6, h7, h8, h9, h10.up⟩
  by_cases h : j < 8
  · have hi : j = 0 ∨ j = 1 ∨ j = 2 ∨ j = 3 ∨ j = 4 ∨ j = 5 ∨ j = 6 ∨ j = 7 := by omega
    rcases hi with rfl | rfl | rfl | rfl | rfl | rfl | rfl | rfl
    · simp (disch := first | omega | exact nM1_n | exact nM2_n | assumption) only [nPl24, nBdS, nBdI, ↓e_m1, ↓e_m2, e_0, e_1, e_2, e_3, e_4, e_5, e_6, e_7, e_8, e_9, e_10, e_11, e_12, e_13, e_14, e_15, e_16, e_17, e_18, e_19, e_20, e_21, e_22, e_23, e_24, e_25, e_26, e_27, e_28, e_29, e_30, e_31, e_32, e_33, e_48, e_57, e_59, e_60, e_63, e_64, e_96, e_97, e_99, e_120, e_122, e_192, e_200, e_255, e_256, e_300, e_500, e_600, e_2000, e_5000, e_5240, e_6146, e_20000, e_65536, nIo, nI_leI, nI_ltI, nI_eq, nI_clamp, nIxt, nI_1, nI_add, nI_mul, nN_lt0, nN_le, nN_lt, nN_eq, nN_eq', eq_self, if_true, if_false, if_pos, if_neg]
      refine pK q0 ⟨F, S, P, B, sz, T, ?_⟩
      simp (disch := decide) only [iI, wrs, wrk, wrc, wr2, wl1, wls, wlk, wlc]
      exact ⟨h1, h2, h3, h4, h5, h6, h7, h8, h9, h10.up⟩
    · simp (disch := first | omega | exact nM1_n | exact nM2_n | assumption) only [nPl24, nBdS, nBdI, ↓e_m1, ↓e_m2, e_0, e_1, e_2, e_3, e_4, e_5, e_6, e_7, e_8, e_9, e_10, e_11, e_12, e_13, e_14, e_15, e_16, e_17, e_18, e_19, e_20, e_21, e_22, e_23, e_24, e_25, e_26, e_27, e_28, e_29, e_30, e_31, e_32, e_33, e_48, e_57, e_59, e_60, e_63, e_64, e_96, e_97, e_99, e_120, e_122, e_192, e_200, e_255, e_256, e_300, e_500, e_600, e_2000, e_5000, e_5240, e_6146, e_20000, e_65536, nIo, nI_leI, nI_ltI, nI_eq, nI_clamp, nIxt, nI_1, nI_add, nI_mul, nN_lt0, nN_le, nN_lt, nN_eq, nN_eq', eq_self, if_true, if_false, if_pos, if_neg]
      refine pK q1 ⟨F, S, P, B, sz, T, ?_⟩
      simp (disch := decide) only [iI, wrs, wrk, wrc, wr2, wl1, wls, wlk, wlc]
      exact ⟨h1, h2, h3, h4, h5, h6, h7, h8, h9, h10.up⟩
    · simp (disch := first | omega | exact nM1_n | exact nM2_n | assumption) only [nPl24, nBdS, nBdI, ↓e_m1, ↓e_m2, e_0, e_1, e_2, e_3, e_4, e_5, e_6, e_7, e_8, e_9, e_10, e_11, e_12, e_13, e_14, e_15, e_16, e_17, e_18, e_19, e_20, e_21, e_22, e_23, e_24, e_25, e_26, e_27, e_28, e_29, e_30, e_31, e_32, e_33, e_48, e_57, e_59, e_60, e_63, e_64, e_96, e_97, e_99, e_120, e_122, e_192, e_200, e_255, e_256, e_300, e_500, e_600, e_2000, e_5000, e_5240, e_6146, e_20000, e_65536, nIo, nI_leI, nI_ltI, nI_eq, nI_clamp, nIxt, nI_1, nI_add, nI_mul, nN_lt0, nN_le, nN_lt, nN_eq, nN_eq', eq_self, if_true, if_false, if_pos, if_neg]
      refine pK q2 ⟨F, S, P, B, sz, T, ?_⟩
      simp (disch := decide) only [iI, wrs, wrk, wrc, wr2, wl1, wls, wlk, wlc]
      exact ⟨h1, h2, h3, h4, h5, h6, h7, h8, h9, h10.up⟩
    · by_cases hb : σ.1 16 5 = nI 0
      · simp (disch := first | omega | exact nM1_n | exact nM2_n | assumption) only [hb, nPl24, nBdS, nBdI, ↓e_m1, ↓e_m2, e_0, e_1, e_2, e_3, e_4, e_5, e_6, e_7, e_8, e_9, e_10, e_11, e_12, e_13, e_14, e_15, e_16, e_17, e_18, e_19, e_20, e_21, e_22, e_23, e_24, e_25, e_26, e_27, e_28, e_29, e_30, e_31, e_32, e_33, e_48, e_57, e_59, e_60, e_63, e_64, e_96, e_97, e_99, e_120, e_122, e_192, e_200, e_255, e_256, e_300, e_500, e_600, e_2000, e_5000, e_5240, e_6146, e_20000, e_65536, nIo, nI_leI, nI_ltI, nI_eq, nI_clamp, nIxt, nI_1, nI_add, nI_mul, nN_lt0, nN_le, nN_lt, nN_eq, nN_eq', eq_self, if_true, if_false, if_pos, if_neg]
        refine pK ((qa hb).1) ⟨F, S, P, B, sz, T, ?_⟩
        simp (disch := decide) only [iI, wrs, wrk, wrc, wr2, wl1, wls, wlk, wlc]
        exact ⟨h1, h2, h3, h4, h5, h6, h7, h8, h9, h10.up⟩
      · simp (disch := first | omega | exact nM1_n | exact nM2_n | assumption) only [hb, nPl24, nBdS, nBdI, ↓e_m1, ↓e_m2, e_0, e_1, e_2, e_3, e_4, e_5, e_6, e_7, e_8, e_9, e_10, e_11, e_12, e_13, e_14, e_15, e_16, e_17, e_18, e_19, e_20, e_21, e_22, e_23, e_24, e_25, e_26, e_27, e_28, e_29, e_30, e_31, e_32, e_33, e_48, e_57, e_59, e_60, e_63, e_64, e_96, e_97, e_99, e_120, e_122, e_192, e_200, e_255, e_256, e_300, e_500, e_600, e_2000, e_5000, e_5240, e_6146, e_20000, e_65536, nIo, nI_leI, nI_ltI, nI_eq, nI_clamp, nIxt, nI_1, nI_add, nI_mul, nN_lt0, nN_le, nN_lt, nN_eq, nN_eq', eq_self, if_true, if_false, if_pos, if_neg]
        refine pK ((qb hb).1) ⟨F, S, P, B, sz, T, ?_⟩
        simp (disch := decide) only [iI, wrs, wrk, wrc, wr2, wl1, wls, wlk, wlc]
        exact ⟨h1, h2, h3, h4, h5, h6, h7, h8, h9, h10.up⟩
    · by_cases hb : σ.1 16 5 = nI 0
      · simp (disch := first | omega | exact nM1_n | exact nM2_n | assumption) only [hb, nPl24, nBdS, nBdI, ↓e_m1, ↓e_m2, e_0, e_1, e_2, e_3, e_4, e_5, e_6, e_7, e_8, e_9, e_10, e_11, e_12, e_13, e_14, e_15, e_16, e_17, e_18, e_19, e_20, e_21, e_22, e_23, e_24, e_25, e_26, e_27, e_28, e_29, e_30, e_31, e_32, e_33, e_48, e_57, e_59, e_60, e_63, e_64, e_96, e_97, e_99, e_120, e_122, e_192, e_200, e_255, e_256, e_300, e_500, e_600, e_2000, e_5000, e_5240, e_6146, e_20000, e_65536, nIo, nI_leI, nI_ltI, nI_eq, nI_clamp, nIxt, nI_1, nI_add, nI_mul, nN_lt0, nN_le, nN_lt, nN_eq, nN_eq', eq_self, if_true, if_false, if_pos, if_neg]
        refine pK ((qa hb).2.1) ⟨F, S, P, B, sz, T, ?_⟩
        simp (disch := decide) only [iI, wrs, wrk, wrc, wr2, wl1, wls, wlk, wlc]
        exact ⟨h1, h2, h3, h4, h5, h6, h7, h8, h9, h10.up⟩
      · simp (disch := first | omega | exact nM1_n | exact nM2_n | assumption) only [hb, nPl24, nBdS, nBdI, ↓e_m1, ↓e_m2, e_0, e_1, e_2, e_3, e_4, e_5, e_6, e_7, e_8, e_9, e_10, e_11, e_12, e_13, e_14, e_15, e_16, e_17, e_18, e_19, e_20, e_21, e_22, e_23, e_24, e_25, e_26, e_27, e_28, e_29, e_30, e_31, e_32, e_33, e_48, e_57, e_59, e_60, e_63, e_64, e_96, e_97, e_99, e_120, e_122, e_192, e_200, e_255, e_256, e_300, e_500, e_600, e_2000, e_5000, e_5240, e_6146, e_20000, e_65536, nIo, nI_leI, nI_ltI, nI_eq, nI_clamp, nIxt, nI_1, nI_add, nI_mul, nN_lt0, nN_le, nN_lt, nN_eq, nN_eq', eq_self, if_true, if_false, if_pos, if_neg]
        refine pK ((qb hb).2.1) ⟨F, S, P, B, sz, T, ?_⟩
        simp (disch := decide) only [iI, wrs, wrk, wrc, wr2, wl1, wls, wlk, wlc]
        exact ⟨h1, h2, h3, h4, h5, h6, h7, h8, h9, h10.up⟩
    · by_cases hb : σ.1 16 5 = nI 0
      · simp (disch := first | omega | exact nM1_n | exact nM2_n | assumption) only [hb, nPl24, nBdS, nBdI, ↓e_m1, ↓e_m2, e_0, e_1, e_2, e_3, e_4, e_5, e_6, e_7, e_8, e_9, e_10, e_11, e_12, e_13, e_14, e_15, e_16, e_17, e_18, e_19, e_20, e_21, e_22, e_23, e_24, e_25, e_26, e_27, e_28, e_29, e_30, e_31, e_32, e_33, e_48, e_57, e_59, e_60, e_63, e_64, e_96, e_97, e_99, e_120, e_122, e_192, e_200, e_255, e_256, e_300, e_500, e_600, e_2000, e_5000, e_5240, e_6146, e_20000, e_65536, nIo, nI_leI, nI_ltI, nI_eq, nI_clamp, nIxt, nI_1, nI_add, nI_mul, nN_lt0, nN_le, nN_lt, nN_eq, nN_eq', eq_self, if_true, if_false, if_pos, if_neg]
        refine pK ((qa hb).2.2) ⟨F, S, P, B, sz, T, ?_⟩
        simp (disch := decide) only [iI, wrs, wrk, wrc, wr2, wl1, wls, wlk, wlc]
        exact ⟨h1, h2, h3, h4, h5, h6, h7, h8, h9, h10.up⟩
      · simp (disch := first | omega | exact nM1_n | exact nM2_n | assumption) only [hb, nPl24, nBdS, nBdI, ↓e_m1, ↓e_m2, e_0, e_1, e_2, e_3, e_4, e_5, e_6, e_7, e_8, e_9, e_10, e_11, e_12, e_13, e_14, e_15, e_16, e_17, e_18, e_19, e_20, e_21, e_22, e_23, e_24, e_25, e_26, e_27, e_28, e_29, e_30, e_31, e_32, e_33, e_48, e_57, e_59, e_60, e_63, e_64, e_96, e_97, e_99, e_120, e_122, e_192, e_200, e_255, e_256, e_300, e_500, e_600, e_2000, e_5000, e_5240, e_6146, e_20000, e_65536, nIo, nI_leI, nI_ltI, nI_eq, nI_clamp, nIxt, nI_1, nI_add, nI_mul, nN_lt0, nN_le, nN_lt, nN_eq, nN_eq', eq_self, if_true, if_false, if_pos, if_neg]
        refine pK ((qb hb).2.2) ⟨F, S, P, B, sz, T, ?_⟩
        simp (disch := decide) only [iI, wrs, wrk, wrc, wr2, wl1, wls, wlk, wlc]
        exact ⟨h1, h2, h3, h4, h5, h6, h7, h8, h9, h10.up⟩
    · simp (disch := first | omega | exact nM1_n | exact nM2_n | assumption) only [nPl24, nBdS, nBdI, ↓e_m1, ↓e_m2, e_0, e_1, e_2, e_3, e_4, e_5, e_6, e_7, e_8, e_9, e_10, e_11, e_12, e_13, e_14, e_15, e_16, e_17, e_18, e_19, e_20, e_21, e_22, e_23, e_24, e_25, e_26, e_27, e_28, e_29, e_30, e_31, e_32, e_33, e_48, e_57, e_59, e_60, e_63, e_64, e_96, e_97, e_99, e_120, e_122, e_192, e_200, e_255, e_256, e_300, e_500, e_600, e_2000, e_5000, e_5240, e_6146, e_20000, e_65536, nIo, nI_leI, nI_ltI, nI_eq, nI_clamp, nIxt, nI_1, nI_add, nI_mul, nN_lt0, nN_le, nN_lt, nN_eq, nN_eq', eq_self, if_true, if_false, if_pos, if_neg]
      refine pK q6 ⟨F, S, P, B, sz, T, ?_⟩
      simp (disch := decide) only [iI, wrs, wrk, wrc, wr2, wl1, wls, wlk, wlc]
      exact ⟨h1, h2, h3, h4, h5, h6, h7, h8, h9, h10.up⟩
    · simp (disch := first | omega | exact nM1_n | exact nM2_n | assumption) only [nPl24, nBdS, nBdI, ↓e_m1, ↓e_m2, e_0, e_1, e_2, e_3, e_4, e_5, e_6, e_7, e_8, e_9, e_10, e_11, e_12, e_13, e_14, e_15, e_16, e_17, e_18, e_19, e_20, e_21, e_22, e_23, e_24, e_25, e_26, e_27, e_28, e_29, e_30, e_31, e_32, e_33, e_48, e_57, e_59, e_60, e_63, e_64, e_96, e_97, e_99, e_120, e_122, e_192, e_200, e_255, e_256, e_300, e_500, e_600, e_2000, e_5000, e_5240, e_6146, e_20000, e_65536, nIo, nI_leI, nI_ltI, nI_eq, nI_clamp, nIxt, nI_1, nI_add, nI_mul, nN_lt0, nN_le, nN_lt, nN_eq, nN_eq', eq_self, if_true, if_false, if_pos, if_neg]
      refine pK q7 ⟨F, S, P, B, sz, T, ?_⟩
      simp (disch := decide) only [iI, wrs, wrk, wrc, wr2, wl1, wls, wlk, wlc]
      exact ⟨h1, h2, h3, h4, h5, h6, h7, h8, h9, h10.up⟩
  · simp (disch := first | omega | exact nM1_n | exact nM2_n | assumption) only [nBdS, nBdI, ↓e_m1, ↓e_m2, e_0, e_1, e_2, e_3, e_4, e_5, e_6, e_7, e_8, e_9, e_10, e_11, e_12, e_13, e_14, e_15, e_16, e_17, e_18, e_19, e_20, e_21, e_22, e_23, e_24, e_25, e_26, e_27, e_28, e_29, e_30, e_31, e_32, e_33, e_48, e_57, e_59, e_60, e_63, e_64, e_96, e_97, e_99, e_120, e_122, e_192, e_200, e_255, e_256, e_300, e_500, e_600, e_2000, e_5000, e_5240, e_6146, e_20000, e_65536, nIo, nI_leI, nI_ltI, nI_eq, nI_clamp, nIxt, nI_1, nI_add, nI_mul, nN_lt0, nN_le, nN_lt, nN_eq, nN_eq', eq_self, if_true, if_false, if_pos, if_neg]
    refine pK rfl ⟨F, S, P, B, sz, T, ?_⟩
    simp (disch := decide) only [iI, wrs, wrk, wrc, wr2, wl1, wls, wlk, wlc]
    exact ⟨h1, h2, h3, h4, h5, h6, h7, h8, h9, h10.up⟩
