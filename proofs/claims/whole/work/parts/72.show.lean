/-! THE CALLS THAT TELL THE HOUSE AND SHOW -/
theorem pOp28 (N : Nat) : nOp28 N nInv := by
  intro n σ τ _ hI
  obtain ⟨F, S, P, B, sz, T, h1, h2, h3, h4, h5, h6, h7, h8, h9, h10⟩ := hI
  simp (disch := decide) only [b_X8_trouble_0, l_X8_trouble_0, f_X8_trouble, b_X11_trouble_0, l_X11_trouble_0, f_X11_trouble, nLet, wrs, wrk, wrc, wr2, wl1, wls, wlk, wlc]
  refine pK h4.1 ⟨F, S, P, B, sz, T, ?_⟩
  simp (disch := decide) only [iI, wrs, wrk, wrc, wr2, wl1, wls, wlk, wlc]
  exact ⟨h1, h2, h3, h4, h5, h6, h7, h8, h9, h10.up⟩
theorem pOp6 (N : Nat) : nOp6 N nInv := by
  intro n σ τ _ hI
  obtain ⟨F, S, P, B, sz, T, h1, h2, h3, h4, h5, h6, h7, h8, h9, h10⟩ := hI
  simp (disch := decide) only [b_X8_fault_0, l_X8_fault_0, f_X8_fault, b_X11_fault_0, l_X11_fault_0, f_X11_fault, nLet, wrs, wrk, wrc, wr2, wl1, wls, wlk, wlc]
  refine pK h4.2.1 ⟨F, S, P, B, sz, T, ?_⟩
  simp (disch := decide) only [iI, wrs, wrk, wrc, wr2, wl1, wls, wlk, wlc]
  exact ⟨h1, h2, h3, h4, h5, h6, h7, h8, h9, h10.up⟩
theorem pOp7 (N : Nat) : nOp7 N nInv := by
  intro n σ τ _ hI
  obtain ⟨F, S, P, B, sz, T, h1, h2, h3, h4, h5, h6, h7, h8, h9, h10⟩ := hI
  have e := h4.2.2
  simp (disch := decide) only [b_X8_where_0, l_X8_where_0, f_X8_where, b_X11_where_0, l_X11_where_0, f_X11_where, nLet, wrs, wrk, wrc, wr2, wl1, wls, wlk, wlc]
  by_cases hc : σ.1 0 12 = 4
  · rw [if_pos hc] at e ⊢
    refine pK e ⟨F, S, P, B, sz, T, ?_⟩
    simp (disch := decide) only [iI, wrs, wrk, wrc, wr2, wl1, wls, wlk, wlc]
    exact ⟨h1, h2, h3, h4, h5, h6, h7, h8, h9, h10.up⟩
  · rw [if_neg hc] at e ⊢
    refine pK e ⟨F, S, P, B, sz, T, ?_⟩
    simp (disch := decide) only [iI, wrs, wrk, wrc, wr2, wl1, wls, wlk, wlc]
    exact ⟨h1, h2, h3, h4, h5, h6, h7, h8, h9, h10.up⟩
theorem pOp0 (N : Nat) : nOp0 N nInv := by
  intro n σ τ  _ hI
  obtain ⟨F, S, P, B, sz, T, h1, h2, h3, h4, h5, h6, h7, h8, h9, h10⟩ := hI
  obtain ⟨⟨b1, b2, b3, b4⟩, ⟨w0, w1, w2, w3⟩, ⟨m0, m1, m2, m3⟩, hg, hs, hk⟩ := id h1
  simp (disch := decide) only [b_X8_refuse_0, l_X8_refuse_0, f_X8_refuse, b_X8_accept_0, l_X8_accept_0, f_X8_accept, b_X8_fact_0, l_X8_fact_0, f_X8_fact, b_X11_refused_0, l_X11_refused_0, f_X11_refused, b_X11_done_0, l_X11_done_0, f_X11_done, b_X11_fact_0, l_X11_fact_0, f_X11_fact, nLet, nBdS, wrs, wrk, wrc, wr2, wl1, wls, wlk, wlc]
  simp (disch := first | omega | exact nM1_n | exact nM2_n | assumption) only [w0, m0, ↓e_m1, ↓e_m2, e_0, e_1, e_2, e_3, e_4, e_5, e_6, e_7, e_8, e_9, e_10, e_11, e_12, e_13, e_14, e_15, e_16, e_17, e_18, e_19, e_20, e_21, e_22, e_23, e_24, e_25, e_26, e_27, e_28, e_29, e_30, e_31, e_32, e_33, e_48, e_57, e_59, e_60, e_63, e_64, e_96, e_97, e_99, e_120, e_122, e_192, e_200, e_255, e_256, e_300, e_500, e_600, e_2000, e_5000, e_5240, e_6146, e_20000, e_65536, nIo, nI_leI, nI_ltI, nI_eq, nI_clamp, nIxt, nI_1, nI_add, nI_mul, nN_lt0, nN_le, nN_lt, nN_eq, nN_eq', eq_self, if_true, if_false]
  by_cases hc : F = 8
  · simp (disch := first | omega | exact nM1_n | exact nM2_n | assumption) only [if_pos, if_neg]
    refine pK rfl ⟨F, S, P, B, sz, T, ?_⟩
    simp (disch := decide) only [iI, wrs, wrk, wrc, wr2, wl1, wls, wlk, wlc]
    exact ⟨h1, h2, h3, h4.no 3 (by decide), h5, h6, h7, h8, h9, h10.up⟩
  · simp (disch := first | omega | exact nM1_n | exact nM2_n | assumption) only [if_pos, if_neg]
    refine pK rfl ⟨F + 1, S, P, B, sz, T, ?_⟩
    simp (disch := decide) only [iI, iHouse, wrs, wrk, wrc, wr2, wl1, wls, wlk, wlc]
    exact ⟨⟨⟨by omega, b2, b3, b4⟩, ⟨trivial, w1, w2, w3⟩, ⟨trivial, m1, m2, m3⟩, hg, fun k h => ⟨(hs k h).1, (hs k h).2.elim fun f hf => ⟨f, by omega, hf.2⟩⟩, hk⟩, h2.mono (by omega) (by omega), h3, h4.done, h5, h6, h7, h8, h9, h10.up⟩
theorem pOp1 (N : Nat) : nOp1 N nInv := by
  intro n σ τ x _ hI
  obtain ⟨F, S, P, B, sz, T, h1, h2, h3, h4, h5, h6, h7, h8, h9, h10⟩ := hI
  obtain ⟨⟨b1, b2, b3, b4⟩, ⟨w0, w1, w2, w3⟩, ⟨m0, m1, m2, m3⟩, hg, hs, hk⟩ := id h1
  simp (disch := decide) only [b_X8_refuse_0, l_X8_refuse_0, f_X8_refuse, b_X8_accept_0, l_X8_accept_0, f_X8_accept, b_X8_sign_0, l_X8_sign_0, f_X8_sign, b_X11_refused_0, l_X11_refused_0, f_X11_refused, b_X11_done_0, l_X11_done_0, f_X11_done, b_X11_sign_0, l_X11_sign_0, f_X11_sign, nLet, nBdS, wrs, wrk, wrc, wr2, wl1, wls, wlk, wlc]
  simp (disch := first | omega | exact nM1_n | exact nM2_n | assumption) only [w0, w1, m0, m1, ↓e_m1, ↓e_m2, e_0, e_1, e_2, e_3, e_4, e_5, e_6, e_7, e_8, e_9, e_10, e_11, e_12, e_13, e_14, e_15, e_16, e_17, e_18, e_19, e_20, e_21, e_22, e_23, e_24, e_25, e_26, e_27, e_28, e_29, e_30, e_31, e_32, e_33, e_48, e_57, e_59, e_60, e_63, e_64, e_96, e_97, e_99, e_120, e_122, e_192, e_200, e_255, e_256, e_300, e_500, e_600, e_2000, e_5000, e_5240, e_6146, e_20000, e_65536, nIo, nI_leI, nI_ltI, nI_eq, nI_clamp, nIxt, nI_1, nI_add, nI_mul, nN_lt0, nN_le, nN_lt, nN_eq, nN_eq', eq_self, if_true, if_false]
  rcases nI_cs x with hx | ⟨j, hj, rfl⟩
  · simp (disch := first | omega | exact nM1_n | exact nM2_n | assumption) only [↓e_m1, ↓e_m2, e_0, e_1, e_2, e_3, e_4, e_5, e_6, e_7, e_8, e_9, e_10, e_11, e_12, e_13, e_14, e_15, e_16, e_17, e_18, e_19, e_20, e_21, e_22, e_23, e_24, e_25, e_26, e_27, e_28, e_29, e_30, e_31, e_32, e_33, e_48, e_57, e_59, e_60, e_63, e_64, e_96, e_97, e_99, e_120, e_122, e_192, e_200, e_255, e_256, e_300, e_500, e_600, e_2000, e_5000, e_5240, e_6146, e_20000, e_65536, nIo, nI_leI, nI_ltI, nI_eq, nI_clamp, nIxt, nI_1, nI_add, nI_mul, nN_lt0, nN_le, nN_lt, nN_eq, nN_eq', eq_self, if_true, if_false]
    refine pK rfl ⟨F, S, P, B, sz, T, ?_⟩
    simp (disch := decide) only [iI, wrs, wrk, wrc, wr2, wl1, wls, wlk, wlc]
    exact ⟨h1, h2, h3, h4.no 1 (by decide), h5, h6, h7, h8, h9, h10.up⟩
  · simp (disch := first | omega | exact nM1_n | exact nM2_n | assumption) only [↓e_m1, ↓e_m2, e_0, e_1, e_2, e_3, e_4, e_5, e_6, e_7, e_8, e_9, e_10, e_11, e_12, e_13, e_14, e_15, e_16, e_17, e_18, e_19, e_20, e_21, e_22, e_23, e_24, e_25, e_26, e_27, e_28, e_29, e_30, e_31, e_32, e_33, e_48, e_57, e_59, e_60, e_63, e_64, e_96, e_97, e_99, e_120, e_122, e_192, e_200, e_255, e_256, e_300, e_500, e_600, e_2000, e_5000, e_5240, e_6146, e_20000, e_65536, nIo, nI_leI, nI_ltI, nI_eq, nI_clamp, nIxt, nI_1, nI_add, nI_mul, nN_lt0, nN_le, nN_lt, nN_eq, nN_eq', eq_self, if_true, if_false]
    by_cases hc : j < F
    · by_cases hS : S = 8
      · simp (disch := first | omega | exact nM1_n | exact nM2_n | assumption) only [if_pos, if_neg]
        refine pK rfl ⟨F, S, P, B, sz, T, ?_⟩
        simp (disch := decide) only [iI, wrs, wrk, wrc, wr2, wl1, wls, wlk, wlc]
        exact ⟨h1, h2, h3, h4.no 3 (by decide), h5, h6, h7, h8, h9, h10.up⟩
      · simp (disch := first | omega | exact nM1_n | exact nM2_n | assumption) only [if_pos, if_neg]
        refine pK (nI_pred S) ⟨F, S + 1, P, B, sz, T, ?_⟩
        simp (disch := decide) only [iI, iHouse, wrs, wrk, wrc, wr2, wl1, wls, wlk, wlc]
        refine ⟨⟨⟨b1, by omega, b3, b4⟩, ⟨w0, trivial, w2, w3⟩, ⟨m0, trivial, m2, m3⟩, hg, fun k h => ?_, hk⟩, h2.mono (by omega) (by omega), h3, h4.done, h5, h6, h7, h8, h9, h10.up⟩
        by_cases hk2 : k = S
        · subst hk2
          simp (disch := decide) only [wrs, wrk, wrc, wr2, wl1, wls, wlk, wlc]
          exact ⟨trivial, j, hc, rfl⟩
        · simp (disch := first | decide | assumption) only [wrs, wrk, wrc, wr2, wl1, wls, wlk, wlc]
          exact hs k (by omega)
    · simp (disch := first | omega | exact nM1_n | exact nM2_n | assumption) only [if_pos, if_neg]
      refine pK rfl ⟨F, S, P, B, sz, T, ?_⟩
      simp (disch := decide) only [iI, wrs, wrk, wrc, wr2, wl1, wls, wlk, wlc]
      exact ⟨h1, h2, h3, h4.no 1 (by decide), h5, h6, h7, h8, h9, h10.up⟩
theorem pOp2 (N : Nat) : nOp2 N nInv := by
  intro n σ τ x _ hI
  obtain ⟨F, S, P, B, sz, T, h1, h2, h3, h4, h5, h6, h7, h8, h9, h10⟩ := hI
  obtain ⟨⟨b1, b2, b3, b4⟩, ⟨w0, w1, w2, w3⟩, ⟨m0, m1, m2, m3⟩, hg, hs, hk⟩ := id h1
  simp (disch := decide) only [b_X8_areBits_0, l_X8_areBits_0, f_X8_areBits, b_X8_refuse_0, l_X8_refuse_0, f_X8_refuse, b_X7_setSkills_0, l_X7_setSkills_0, f_X7_setSkills, b_X8_accept_0, l_X8_accept_0, f_X8_accept, b_X8_person_0, l_X8_person_0, f_X8_person, b_X11_in_0, l_X11_in_0, f_X11_in, b_X11_refused_0, l_X11_refused_0, f_X11_refused, b_X11_done_0, l_X11_done_0, f_X11_done, b_X11_person_0, l_X11_person_0, f_X11_person, nLet, nBdS, nBdI, wrs, wrk, wrc, wr2, wl1, wls, wlk, wlc]
  simp (disch := first | omega | exact nM1_n | exact nM2_n | assumption) only [w2, m2, ↓e_m1, ↓e_m2, e_0, e_1, e_2, e_3, e_4, e_5, e_6, e_7, e_8, e_9, e_10, e_11, e_12, e_13, e_14, e_15, e_16, e_17, e_18, e_19, e_20, e_21, e_22, e_23, e_24, e_25, e_26, e_27, e_28, e_29, e_30, e_31, e_32, e_33, e_48, e_57, e_59, e_60, e_63, e_64, e_96, e_97, e_99, e_120, e_122, e_192, e_200, e_255, e_256, e_300, e_500, e_600, e_2000, e_5000, e_5240, e_6146, e_20000, e_65536, nIo, nI_leI, nI_ltI, nI_eq, nI_clamp, nIxt, nI_1, nI_add, nI_mul, nN_lt0, nN_le, nN_lt, nN_eq, nN_eq', eq_self, if_true, if_false]
  rcases nI_cs x with hx | ⟨j, hj, rfl⟩
  · simp (disch := first | omega | exact nM1_n | exact nM2_n | assumption) only [↓e_m1, ↓e_m2, e_0, e_1, e_2, e_3, e_4, e_5, e_6, e_7, e_8, e_9, e_10, e_11, e_12, e_13, e_14, e_15, e_16, e_17, e_18, e_19, e_20, e_21, e_22, e_23, e_24, e_25, e_26, e_27, e_28, e_29, e_30, e_31, e_32, e_33, e_48, e_57, e_59, e_60, e_63, e_64, e_96, e_97, e_99, e_120, e_122, e_192, e_200, e_255, e_256, e_300, e_500, e_600, e_2000, e_5000, e_5240, e_6146, e_20000, e_65536, nIo, nI_leI, nI_ltI, nI_eq, nI_clamp, nIxt, nI_1, nI_add, nI_mul, nN_lt0, nN_le, nN_lt, nN_eq, nN_eq', eq_self, if_true, if_false]
    refine pK rfl ⟨F, S, P, B, sz, T, ?_⟩
    simp (disch := decide) only [iI, wrs, wrk, wrc, wr2, wl1, wls, wlk, wlc]
    exact ⟨h1, h2, h3, h4.no 2 (by decide), h5, h6, h7, h8, h9, h10.up⟩
  · simp (disch := first | omega | exact nM1_n | exact nM2_n | assumption) only [↓e_m1, ↓e_m2, e_0, e_1, e_2, e_3, e_4, e_5, e_6, e_7, e_8, e_9, e_10, e_11, e_12, e_13, e_14, e_15, e_16, e_17, e_18, e_19, e_20, e_21, e_22, e_23, e_24, e_25, e_26, e_27, e_28, e_29, e_30, e_31, e_32, e_33, e_48, e_57, e_59, e_60, e_63, e_64, e_96, e_97, e_99, e_120, e_122, e_192, e_200, e_255, e_256, e_300, e_500, e_600, e_2000, e_5000, e_5240, e_6146, e_20000, e_65536, nIo, nI_leI, nI_ltI, nI_eq, nI_clamp, nIxt, nI_1, nI_add, nI_mul, nN_lt0, nN_le, nN_lt, nN_eq, nN_eq', eq_self, if_true, if_false]
    by_cases hc : j < 256
    · by_cases hS : P = 4
      · simp (disch := first | omega | exact nM1_n | exact nM2_n | assumption) only [if_pos, if_neg]
        refine pK rfl ⟨F, S, P, B, sz, T, ?_⟩
        simp (disch := decide) only [iI, wrs, wrk, wrc, wr2, wl1, wls, wlk, wlc]
        exact ⟨h1, h2, h3, h4.no 3 (by decide), h5, h6, h7, h8, h9, h10.up⟩
      · simp (disch := first | omega | exact nM1_n | exact nM2_n | assumption) only [if_pos, if_neg]
        refine pK (nI_pred P) ⟨F, S, P + 1, B, sz, T, ?_⟩
        simp (disch := decide) only [iI, iHouse, wrs, wrk, wrc, wr2, wl1, wls, wlk, wlc]
        refine ⟨⟨⟨b1, b2, by omega, b4⟩, ⟨w0, w1, by rw [w2]; exact nI_1 P, w3⟩, ⟨m0, m1, trivial, m3⟩, hg, hs, fun k h => ?_⟩, h2, h3, h4.done, h5, h6, h7, h8, h9, h10.up⟩
        by_cases hk2 : k = P
        · subst hk2
          simp (disch := decide) only [wrs, wrk, wrc, wr2, wl1, wls, wlk, wlc]
          exact ⟨trivial, j, hc, rfl⟩
        · simp (disch := first | decide | assumption) only [wrs, wrk, wrc, wr2, wl1, wls, wlk, wlc]
          exact hk k (by omega)
    · simp (disch := first | omega | exact nM1_n | exact nM2_n | assumption) only [if_pos, if_neg]
      refine pK rfl ⟨F, S, P, B, sz, T, ?_⟩
      simp (disch := decide) only [iI, wrs, wrk, wrc, wr2, wl1, wls, wlk, wlc]
      exact ⟨h1, h2, h3, h4.no 2 (by decide), h5, h6, h7, h8, h9, h10.up⟩
theorem pOp3 (N : Nat) : nOp3 N nInv := by
  intro n σ τ x _ hI
  obtain ⟨F, S, P, B, sz, T, h1, h2, h3, h4, h5, h6, h7, h8, h9, h10⟩ := hI
  obtain ⟨⟨b1, b2, b3, b4⟩, ⟨w0, w1, w2, w3⟩, ⟨m0, m1, m2, m3⟩, hg, hs, hk⟩ := id h1
  simp (disch := decide) only [b_X8_areBits_0, l_X8_areBits_0, f_X8_areBits, b_X8_goal_0, l_X8_goal_0, f_X8_goal, b_X11_in_0, l_X11_in_0, f_X11_in, b_X11_goal_22, b_X11_goal_0, l_X11_goal_22, l_X11_goal_0, f_X11_goal, nLet, nBdS, nBdI, wrs, wrk, wrc, wr2, wl1, wls, wlk, wlc]
  rcases nI_cs x with hx | ⟨j, hj, rfl⟩
  · simp (disch := first | omega | exact nM1_n | exact nM2_n | assumption) only [↓e_m1, ↓e_m2, e_0, e_1, e_2, e_3, e_4, e_5, e_6, e_7, e_8, e_9, e_10, e_11, e_12, e_13, e_14, e_15, e_16, e_17, e_18, e_19, e_20, e_21, e_22, e_23, e_24, e_25, e_26, e_27, e_28, e_29, e_30, e_31, e_32, e_33, e_48, e_57, e_59, e_60, e_63, e_64, e_96, e_97, e_99, e_120, e_122, e_192, e_200, e_255, e_256, e_300, e_500, e_600, e_2000, e_5000, e_5240, e_6146, e_20000, e_65536, nIo, nI_leI, nI_ltI, nI_eq, nI_clamp, nIxt, nI_1, nI_add, nI_mul, nN_lt0, nN_le, nN_lt, nN_eq, nN_eq', eq_self, if_true, if_false]
    refine pK rfl ⟨F, S, P, B, sz, T, ?_⟩
    simp (disch := decide) only [iI, wrs, wrk, wrc, wr2, wl1, wls, wlk, wlc]
    exact ⟨h1, h2, h3, h4.no 2 (by decide), h5, h6, h7, h8, h9, h10.up⟩
  · simp (disch := first | omega | exact nM1_n | exact nM2_n | assumption) only [↓e_m1, ↓e_m2, e_0, e_1, e_2, e_3, e_4, e_5, e_6, e_7, e_8, e_9, e_10, e_11, e_12, e_13, e_14, e_15, e_16, e_17, e_18, e_19, e_20, e_21, e_22, e_23, e_24, e_25, e_26, e_27, e_28, e_29, e_30, e_31, e_32, e_33, e_48, e_57, e_59, e_60, e_63, e_64, e_96, e_97, e_99, e_120, e_122, e_192, e_200, e_255, e_256, e_300, e_500, e_600, e_2000, e_5000, e_5240, e_6146, e_20000, e_65536, nIo, nI_leI, nI_ltI, nI_eq, nI_clamp, nIxt, nI_1, nI_add, nI_mul, nN_lt0, nN_le, nN_lt, nN_eq, nN_eq', eq_self, if_true, if_false]
    by_cases hc : j < 256
    · simp (disch := first | omega | exact nM1_n | exact nM2_n | assumption) only [if_pos, if_neg]
      refine pK rfl ⟨F, S, P, B, sz, T, ?_⟩
      simp (disch := decide) only [iI, iHouse, wrs, wrk, wrc, wr2, wl1, wls, wlk, wlc]
      exact ⟨⟨⟨b1, b2, b3, b4⟩, ⟨w0, w1, w2, w3⟩, ⟨m0, m1, m2, m3⟩, ⟨trivial, j, hc, rfl⟩, hs, hk⟩, h2, h3, h4.done, h5, h6, h7, h8, h9, h10.up⟩
    · simp (disch := first | omega | exact nM1_n | exact nM2_n | assumption) only [if_pos, if_neg]
      refine pK rfl ⟨F, S, P, B, sz, T, ?_⟩
      simp (disch := decide) only [iI, wrs, wrk, wrc, wr2, wl1, wls, wlk, wlc]
      exact ⟨h1, h2, h3, h4.no 2 (by decide), h5, h6, h7, h8, h9, h10.up⟩
theorem pOp8 (N : Nat) : nOp8 N nInv := by
  intro n σ τ x _ hI
  obtain ⟨F, S, P, B, sz, T, h1, h2, h3, h4, h5, h6, h7, h8, h9, h10⟩ := hI
  obtain ⟨⟨b1, b2, b3, b4⟩, ⟨w0, w1, w2, w3⟩, ⟨m0, m1, m2, m3⟩, hg, hs, hk⟩ := id h1
  simp (disch := decide) only [b_X7_hasBook_0, l_X7_hasBook_0, f_X7_hasBook, b_X7_sizeOf_0, l_X7_sizeOf_0, f_X7_sizeOf, b_X8_steps_0, l_X8_steps_0, f_X8_steps, b_X11_isBook_0, l_X11_isBook_0, f_X11_isBook, b_X11_steps_0, l_X11_steps_0, f_X11_steps, nLet, nBdS, nBdI, wrs, wrk, wrc, wr2, wl1, wls, wlk, wlc]
  simp (disch := first | omega | exact nM1_n | exact nM2_n | assumption) only [w3, m3, ↓e_m1, ↓e_m2, e_0, e_1, e_2, e_3, e_4, e_5, e_6, e_7, e_8, e_9, e_10, e_11, e_12, e_13, e_14, e_15, e_16, e_17, e_18, e_19, e_20, e_21, e_22, e_23, e_24, e_25, e_26, e_27, e_28, e_29, e_30, e_31, e_32, e_33, e_48, e_57, e_59, e_60, e_63, e_64, e_96, e_97, e_99, e_120, e_122, e_192, e_200, e_255, e_256, e_300, e_500, e_600, e_2000, e_5000, e_5240, e_6146, e_20000, e_65536, nIo, nI_leI, nI_ltI, nI_eq, nI_clamp, nIxt, nI_1, nI_add, nI_mul, nN_lt0, nN_le, nN_lt, nN_eq, nN_eq', eq_self, if_true, if_false]
  rcases nI_cs x with hx | ⟨j, hj, rfl⟩
  · simp (disch := first | omega | exact nM1_n | exact nM2_n | assumption) only [↓e_m1, ↓e_m2, e_0, e_1, e_2, e_3, e_4, e_5, e_6, e_7, e_8, e_9, e_10, e_11, e_12, e_13, e_14, e_15, e_16, e_17, e_18, e_19, e_20, e_21, e_22, e_23, e_24, e_25, e_26, e_27, e_28, e_29, e_30, e_31, e_32, e_33, e_48, e_57, e_59, e_60, e_63, e_64, e_96, e_97, e_99, e_120, e_122, e_192, e_200, e_255, e_256, e_300, e_500, e_600, e_2000, e_5000, e_5240, e_6146, e_20000, e_65536, nIo, nI_leI, nI_ltI, nI_eq, nI_clamp, nIxt, nI_1, nI_add, nI_mul, nN_lt0, nN_le, nN_lt, nN_eq, nN_eq', eq_self, if_true, if_false]
    refine pK rfl ⟨F, S, P, B, sz, T, ?_⟩
    simp (disch := decide) only [iI, wrs, wrk, wrc, wr2, wl1, wls, wlk, wlc]
    exact ⟨h1, h2, h3, h4, h5, h6, h7, h8, h9, h10.up⟩
  · simp (disch := first | omega | exact nM1_n | exact nM2_n | assumption) only [↓e_m1, ↓e_m2, e_0, e_1, e_2, e_3, e_4, e_5, e_6, e_7, e_8, e_9, e_10, e_11, e_12, e_13, e_14, e_15, e_16, e_17, e_18, e_19, e_20, e_21, e_22, e_23, e_24, e_25, e_26, e_27, e_28, e_29, e_30, e_31, e_32, e_33, e_48, e_57, e_59, e_60, e_63, e_64, e_96, e_97, e_99, e_120, e_122, e_192, e_200, e_255, e_256, e_300, e_500, e_600, e_2000, e_5000, e_5240, e_6146, e_20000, e_65536, nIo, nI_leI, nI_ltI, nI_eq, nI_clamp, nIxt, nI_1, nI_add, nI_mul, nN_lt0, nN_le, nN_lt, nN_eq, nN_eq', eq_self, if_true, if_false]
    by_cases hc : j < B
    · simp (disch := first | omega | exact nM1_n | exact nM2_n | assumption) only [if_pos, if_neg, ↓e_m1, ↓e_m2, e_0, e_1, e_2, e_3, e_4, e_5, e_6, e_7, e_8, e_9, e_10, e_11, e_12, e_13, e_14, e_15, e_16, e_17, e_18, e_19, e_20, e_21, e_22, e_23, e_24, e_25, e_26, e_27, e_28, e_29, e_30, e_31, e_32, e_33, e_48, e_57, e_59, e_60, e_63, e_64, e_96, e_97, e_99, e_120, e_122, e_192, e_200, e_255, e_256, e_300, e_500, e_600, e_2000, e_5000, e_5240, e_6146, e_20000, e_65536, nIo, nI_leI, nI_ltI, nI_eq, nI_clamp, nIxt, nI_1, nI_add, nI_mul, nN_lt0, nN_le, nN_lt, nN_eq, nN_eq', eq_self, if_true, if_false]
      refine pK ((h2 j hc).2.2.1.trans (h2 j hc).2.1.symm) ⟨F, S, P, B, sz, T, ?_⟩
      simp (disch := decide) only [iI, wrs, wrk, wrc, wr2, wl1, wls, wlk, wlc]
      exact ⟨h1, h2, h3, h4, h5, h6, h7, h8, h9, h10.up⟩
    · simp (disch := first | omega | exact nM1_n | exact nM2_n | assumption) only [if_pos, if_neg]
      refine pK rfl ⟨F, S, P, B, sz, T, ?_⟩
      simp (disch := decide) only [iI, wrs, wrk, wrc, wr2, wl1, wls, wlk, wlc]
      exact ⟨h1, h2, h3, h4, h5, h6, h7, h8, h9, h10.up⟩
theorem pOp9 (N : Nat) : nOp9 N nInv := by
  intro n σ τ x y z _ hI
  obtain ⟨F, S, P, B, sz, T, h1, h2, h3, h4, h5, h6, h7, h8, h9, h10⟩ := hI
  obtain ⟨⟨b1, b2, b3, b4⟩, ⟨w0, w1, w2, w3⟩, ⟨m0, m1, m2, m3⟩, hg, hs, hk⟩ := id h1
  rcases nI_cs x with hx | ⟨j, hj, rfl⟩
  · simp (disch := first | omega | exact nM1_n | exact nM2_n | assumption) only [b_X7_hasBook_0, l_X7_hasBook_0, f_X7_hasBook, b_X7_sizeOf_0, l_X7_sizeOf_0, f_X7_sizeOf, b_X8_hasStep_0, l_X8_hasStep_0, f_X8_hasStep, b_X7_cell_0, l_X7_cell_0, f_X7_cell, b_X8_step_0, l_X8_step_0, f_X8_step, b_X11_isBook_0, l_X11_isBook_0, f_X11_isBook, b_X11_step_0, l_X11_step_0, f_X11_step, nLet, nBdS, w3, m3, if_pos, if_neg, ↓e_m1, ↓e_m2, e_0, e_1, e_2, e_3, e_4, e_5, e_6, e_7, e_8, e_9, e_10, e_11, e_12, e_13, e_14, e_15, e_16, e_17, e_18, e_19, e_20, e_21, e_22, e_23, e_24, e_25, e_26, e_27, e_28, e_29, e_30, e_31, e_32, e_33, e_48, e_57, e_59, e_60, e_63, e_64, e_96, e_97, e_99, e_120, e_122, e_192, e_200, e_255, e_256, e_300, e_500, e_600, e_2000, e_5000, e_5240, e_6146, e_20000, e_65536, nIo, nI_leI, nI_ltI, nI_eq, nI_clamp, nIxt, nI_1, nI_add, nI_mul, nN_lt0, nN_le, nN_lt, nN_eq, nN_eq', eq_self, if_true, if_false, wrs, wrk, wrc, wr2, wl1, wls, wlk, wlc]
    refine pK rfl ⟨F, S, P, B, sz, T, ?_⟩
    simp (disch := decide) only [iI, wrs, wrk, wrc, wr2, wl1, wls, wlk, wlc]
    exact ⟨h1, h2, h3, h4, h5, h6, h7, h8, h9, h10.up⟩
  by_cases hc : j < B
  · obtain ⟨s1, s2, s3, s4⟩ := h2 j hc
    rcases nI_cs y with hy | ⟨k, hk0, rfl⟩
    · simp (disch := first | omega | exact nM1_n | exact nM2_n | assumption) only [b_X7_hasBook_0, l_X7_hasBook_0, f_X7_hasBook, b_X7_sizeOf_0, l_X7_sizeOf_0, f_X7_sizeOf, b_X8_hasStep_0, l_X8_hasStep_0, f_X8_hasStep, b_X7_cell_0, l_X7_cell_0, f_X7_cell, b_X8_step_0, l_X8_step_0, f_X8_step, b_X11_isBook_0, l_X11_isBook_0, f_X11_isBook, b_X11_step_0, l_X11_step_0, f_X11_step, nLet, nBdS, w3, m3, if_pos, if_neg, ↓e_m1, ↓e_m2, e_0, e_1, e_2, e_3, e_4, e_5, e_6, e_7, e_8, e_9, e_10, e_11, e_12, e_13, e_14, e_15, e_16, e_17, e_18, e_19, e_20, e_21, e_22, e_23, e_24, e_25, e_26, e_27, e_28, e_29, e_30, e_31, e_32, e_33, e_48, e_57, e_59, e_60, e_63, e_64, e_96, e_97, e_99, e_120, e_122, e_192, e_200, e_255, e_256, e_300, e_500, e_600, e_2000, e_5000, e_5240, e_6146, e_20000, e_65536, nIo, nI_leI, nI_ltI, nI_eq, nI_clamp, nIxt, nI_1, nI_add, nI_mul, nN_lt0, nN_le, nN_lt, nN_eq, nN_eq', eq_self, if_true, if_false, wrs, wrk, wrc, wr2, wl1, wls, wlk, wlc]
      refine pK rfl ⟨F, S, P, B, sz, T, ?_⟩
      simp (disch := decide) only [iI, wrs, wrk, wrc, wr2, wl1, wls, wlk, wlc]
      exact ⟨h1, h2, h3, h4, h5, h6, h7, h8, h9, h10.up⟩
    by_cases hkz : k < sz j
    · obtain ⟨⟨c0, c1, c2, c3, c4⟩, -⟩ := s4 k hkz
      rcases nI_cs z with hz | ⟨i, hi, rfl⟩
      · simp (disch := first | omega | exact nM1_n | exact nM2_n | assumption) only [b_X7_hasBook_0, l_X7_hasBook_0, f_X7_hasBook, b_X7_sizeOf_0, l_X7_sizeOf_0, f_X7_sizeOf, b_X8_hasStep_0, l_X8_hasStep_0, f_X8_hasStep, b_X7_cell_0, l_X7_cell_0, f_X7_cell, b_X8_step_0, l_X8_step_0, f_X8_step, b_X11_isBook_0, l_X11_isBook_0, f_X11_isBook, b_X11_step_0, l_X11_step_0, f_X11_step, nLet, nBdS, w3, s2, s3, m3, if_pos, if_neg, ↓e_m1, ↓e_m2, e_0, e_1, e_2, e_3, e_4, e_5, e_6, e_7, e_8, e_9, e_10, e_11, e_12, e_13, e_14, e_15, e_16, e_17, e_18, e_19, e_20, e_21, e_22, e_23, e_24, e_25, e_26, e_27, e_28, e_29, e_30, e_31, e_32, e_33, e_48, e_57, e_59, e_60, e_63, e_64, e_96, e_97, e_99, e_120, e_122, e_192, e_200, e_255, e_256, e_300, e_500, e_600, e_2000, e_5000, e_5240, e_6146, e_20000, e_65536, nIo, nI_leI, nI_ltI, nI_eq, nI_clamp, nIxt, nI_1, nI_add, nI_mul, nN_lt0, nN_le, nN_lt, nN_eq, nN_eq', eq_self, if_true, if_false, wrs, wrk, wrc, wr2, wl1, wls, wlk, wlc]
        refine pK rfl ⟨F, S, P, B, sz, T, ?_⟩
        simp (disch := decide) only [iI, wrs, wrk, wrc, wr2, wl1, wls, wlk, wlc]
        exact ⟨h1, h2, h3, h4, h5, h6, h7, h8, h9, h10.up⟩
      · by_cases h : i < 5
        · have hi : i = 0 ∨ i = 1 ∨ i = 2 ∨ i = 3 ∨ i = 4 := by omega
          rcases hi with rfl | rfl | rfl | rfl | rfl
          · simp (disch := first | omega | exact nM1_n | exact nM2_n | assumption) only [b_X7_hasBook_0, l_X7_hasBook_0, f_X7_hasBook, b_X7_sizeOf_0, l_X7_sizeOf_0, f_X7_sizeOf, b_X8_hasStep_0, l_X8_hasStep_0, f_X8_hasStep, b_X7_cell_0, l_X7_cell_0, f_X7_cell, b_X8_step_0, l_X8_step_0, f_X8_step, b_X11_isBook_0, l_X11_isBook_0, f_X11_isBook, b_X11_step_0, l_X11_step_0, f_X11_step, nLet, nBdS, w3, s2, s3, m3, if_pos, if_neg, ↓e_m1, ↓e_m2, e_0, e_1, e_2, e_3, e_4, e_5, e_6, e_7, e_8, e_9, e_10, e_11, e_12, e_13, e_14, e_15, e_16, e_17, e_18, e_19, e_20, e_21, e_22, e_23, e_24, e_25, e_26, e_27, e_28, e_29, e_30, e_31, e_32, e_33, e_48, e_57, e_59, e_60, e_63, e_64, e_96, e_97, e_99, e_120, e_122, e_192, e_200, e_255, e_256, e_300, e_500, e_600, e_2000, e_5000, e_5240, e_6146, e_20000, e_65536, nIo, nI_leI, nI_ltI, nI_eq, nI_clamp, nIxt, nI_1, nI_add, nI_mul, nN_lt0, nN_le, nN_lt, nN_eq, nN_eq', eq_self, if_true, if_false, wrs, wrk, wrc, wr2, wl1, wls, wlk, wlc]
            refine pK c0.symm ⟨F, S, P, B, sz, T, ?_⟩
            simp (disch := decide) only [iI, wrs, wrk, wrc, wr2, wl1, wls, wlk, wlc]
            exact ⟨h1, h2, h3, h4, h5, h6, h7, h8, h9, h10.up⟩
          · simp (disch := first | omega | exact nM1_n | exact nM2_n | assumption) only [b_X7_hasBook_0, l_X7_hasBook_0, f_X7_hasBook, b_X7_sizeOf_0, l_X7_sizeOf_0, f_X7_sizeOf, b_X8_hasStep_0, l_X8_hasStep_0, f_X8_hasStep, b_X7_cell_0, l_X7_cell_0, f_X7_cell, b_X8_step_0, l_X8_step_0, f_X8_step, b_X11_isBook_0, l_X11_isBook_0, f_X11_isBook, b_X11_step_0, l_X11_step_0, f_X11_step, nLet, nBdS, w3, s2, s3, m3, if_pos, if_neg, ↓e_m1, ↓e_m2, e_0, e_1, e_2, e_3, e_4, e_5, e_6, e_7, e_8, e_9, e_10, e_11, e_12, e_13, e_14, e_15, e_16, e_17, e_18, e_19, e_20, e_21, e_22, e_23, e_24, e_25, e_26, e_27, e_28, e_29, e_30, e_31, e_32, e_33, e_48, e_57, e_59, e_60, e_63, e_64, e_96, e_97, e_99, e_120, e_122, e_192, e_200, e_255, e_256, e_300, e_500, e_600, e_2000, e_5000, e_5240, e_6146, e_20000, e_65536, nIo, nI_leI, nI_ltI, nI_eq, nI_clamp, nIxt, nI_1, nI_add, nI_mul, nN_lt0, nN_le, nN_lt, nN_eq, nN_eq', eq_self, if_true, if_false, wrs, wrk, wrc, wr2, wl1, wls, wlk, wlc]
            refine pK c1.symm ⟨F, S, P, B, sz, T, ?_⟩
            simp (disch := decide) only [iI, wrs, wrk, wrc, wr2, wl1, wls, wlk, wlc]
            exact ⟨h1, h2, h3, h4, h5, h6, h7, h8, h9, h10.up⟩
          · simp (disch := first | omega | exact nM1_n | exact nM2_n | assumption) only [b_X7_hasBook_0, l_X7_hasBook_0, f_X7_hasBook, b_X7_sizeOf_0, l_X7_sizeOf_0, f_X7_sizeOf, b_X8_hasStep_0, l_X8_hasStep_0, f_X8_hasStep, b_X7_cell_0, l_X7_cell_0, f_X7_cell, b_X8_step_0, l_X8_step_0, f_X8_step, b_X11_isBook_0, l_X11_isBook_0, f_X11_isBook, b_X11_step_0, l_X11_step_0, f_X11_step, nLet, nBdS, w3, s2, s3, m3, if_pos, if_neg, ↓e_m1, ↓e_m2, e_0, e_1, e_2, e_3, e_4, e_5, e_6, e_7, e_8, e_9, e_10, e_11, e_12, e_13, e_14, e_15, e_16, e_17, e_18, e_19, e_20, e_21, e_22, e_23, e_24, e_25, e_26, e_27, e_28, e_29, e_30, e_31, e_32, e_33, e_48, e_57, e_59, e_60, e_63, e_64, e_96, e_97, e_99, e_120, e_122, e_192, e_200, e_255, e_256, e_300, e_500, e_600, e_2000, e_5000, e_5240, e_6146, e_20000, e_65536, nIo, nI_leI, nI_ltI, nI_eq, nI_clamp, nIxt, nI_1, nI_add, nI_mul, nN_lt0, nN_le, nN_lt, nN_eq, nN_eq', eq_self, if_true, if_false, wrs, wrk, wrc, wr2, wl1, wls, wlk, wlc]
            refine pK c2.symm ⟨F, S, P, B, sz, T, ?_⟩
            simp (disch := decide) only [iI, wrs, wrk, wrc, wr2, wl1, wls, wlk, wlc]
            exact ⟨h1, h2, h3, h4, h5, h6, h7, h8, h9, h10.up⟩
          · simp (disch := first | omega | exact nM1_n | exact nM2_n | assumption) only [b_X7_hasBook_0, l_X7_hasBook_0, f_X7_hasBook, b_X7_sizeOf_0, l_X7_sizeOf_0, f_X7_sizeOf, b_X8_hasStep_0, l_X8_hasStep_0, f_X8_hasStep, b_X7_cell_0, l_X7_cell_0, f_X7_cell, b_X8_step_0, l_X8_step_0, f_X8_step, b_X11_isBook_0, l_X11_isBook_0, f_X11_isBook, b_X11_step_0, l_X11_step_0, f_X11_step, nLet, nBdS, w3, s2, s3, m3, if_pos, if_neg, ↓e_m1, ↓e_m2, e_0, e_1, e_2, e_3, e_4, e_5, e_6, e_7, e_8, e_9, e_10, e_11, e_12, e_13, e_14, e_15, e_16, e_17, e_18, e_19, e_20, e_21, e_22, e_23, e_24, e_25, e_26, e_27, e_28, e_29, e_30, e_31, e_32, e_33, e_48, e_57, e_59, e_60, e_63, e_64, e_96, e_97, e_99, e_120, e_122, e_192, e_200, e_255, e_256, e_300, e_500, e_600, e_2000, e_5000, e_5240, e_6146, e_20000, e_65536, nIo, nI_leI, nI_ltI, nI_eq, nI_clamp, nIxt, nI_1, nI_add, nI_mul, nN_lt0, nN_le, nN_lt, nN_eq, nN_eq', eq_self, if_true, if_false, wrs, wrk, wrc, wr2, wl1, wls, wlk, wlc]
            refine pK c3.symm ⟨F, S, P, B, sz, T, ?_⟩
            simp (disch := decide) only [iI, wrs, wrk, wrc, wr2, wl1, wls, wlk, wlc]
            exact ⟨h1, h2, h3, h4, h5, h6, h7, h8, h9, h10.up⟩
          · simp (disch := first | omega | exact nM1_n | exact nM2_n | assumption) only [b_X7_hasBook_0, l_X7_hasBook_0, f_X7_hasBook, b_X7_sizeOf_0, l_X7_sizeOf_0, f_X7_sizeOf, b_X8_hasStep_0, l_X8_hasStep_0, f_X8_hasStep, b_X7_cell_0, l_X7_cell_0, f_X7_cell, b_X8_step_0, l_X8_step_0, f_X8_step, b_X11_isBook_0, l_X11_isBook_0, f_X11_isBook, b_X11_step_0, l_X11_step_0, f_X11_step, nLet, nBdS, w3, s2, s3, m3, if_pos, if_neg, ↓e_m1, ↓e_m2, e_0, e_1, e_2, e_3, e_4, e_5, e_6, e_7, e_8, e_9, e_10, e_11, e_12, e_13, e_14, e_15, e_16, e_17, e_18, e_19, e_20, e_21, e_22, e_23, e_24, e_25, e_26, e_27, e_28, e_29, e_30, e_31, e_32, e_33, e_48, e_57, e_59, e_60, e_63, e_64, e_96, e_97, e_99, e_120, e_122, e_192, e_200, e_255, e_256, e_300, e_500, e_600, e_2000, e_5000, e_5240, e_6146, e_20000, e_65536, nIo, nI_leI, nI_ltI, nI_eq, nI_clamp, nIxt, nI_1, nI_add, nI_mul, nN_lt0, nN_le, nN_lt, nN_eq, nN_eq', eq_self, if_true, if_false, wrs, wrk, wrc, wr2, wl1, wls, wlk, wlc]
            refine pK c4.symm ⟨F, S, P, B, sz, T, ?_⟩
            simp (disch := decide) only [iI, wrs, wrk, wrc, wr2, wl1, wls, wlk, wlc]
            exact ⟨h1, h2, h3, h4, h5, h6, h7, h8, h9, h10.up⟩
        · simp (disch := first | omega | exact nM1_n | exact nM2_n | assumption) only [b_X7_hasBook_0, l_X7_hasBook_0, f_X7_hasBook, b_X7_sizeOf_0, l_X7_sizeOf_0, f_X7_sizeOf, b_X8_hasStep_0, l_X8_hasStep_0, f_X8_hasStep, b_X7_cell_0, l_X7_cell_0, f_X7_cell, b_X8_step_0, l_X8_step_0, f_X8_step, b_X11_isBook_0, l_X11_isBook_0, f_X11_isBook, b_X11_step_0, l_X11_step_0, f_X11_step, nLet, nBdS, w3, s2, s3, m3, if_pos, if_neg, ↓e_m1, ↓e_m2, e_0, e_1, e_2, e_3, e_4, e_5, e_6, e_7, e_8, e_9, e_10, e_11, e_12, e_13, e_14, e_15, e_16, e_17, e_18, e_19, e_20, e_21, e_22, e_23, e_24, e_25, e_26, e_27, e_28, e_29, e_30, e_31, e_32, e_33, e_48, e_57, e_59, e_60, e_63, e_64, e_96, e_97, e_99, e_120, e_122, e_192, e_200, e_255, e_256, e_300, e_500, e_600, e_2000, e_5000, e_5240, e_6146, e_20000, e_65536, nIo, nI_leI, nI_ltI, nI_eq, nI_clamp, nIxt, nI_1, nI_add, nI_mul, nN_lt0, nN_le, nN_lt, nN_eq, nN_eq', eq_self, if_true, if_false, wrs, wrk, wrc, wr2, wl1, wls, wlk, wlc]
          refine pK rfl ⟨F, S, P, B, sz, T, ?_⟩
          simp (disch := decide) only [iI, wrs, wrk, wrc, wr2, wl1, wls, wlk, wlc]
          exact ⟨h1, h2, h3, h4, h5, h6, h7, h8, h9, h10.up⟩
    · simp (disch := first | omega | exact nM1_n | exact nM2_n | assumption) only [b_X7_hasBook_0, l_X7_hasBook_0, f_X7_hasBook, b_X7_sizeOf_0, l_X7_sizeOf_0, f_X7_sizeOf, b_X8_hasStep_0, l_X8_hasStep_0, f_X8_hasStep, b_X7_cell_0, l_X7_cell_0, f_X7_cell, b_X8_step_0, l_X8_step_0, f_X8_step, b_X11_isBook_0, l_X11_isBook_0, f_X11_isBook, b_X11_step_0, l_X11_step_0, f_X11_step, nLet, nBdS, w3, s2, s3, m3, if_pos, if_neg, ↓e_m1, ↓e_m2, e_0, e_1, e_2, e_3, e_4, e_5, e_6, e_7, e_8, e_9, e_10, e_11, e_12, e_13, e_14, e_15, e_16, e_17, e_18, e_19, e_20, e_21, e_22, e_23, e_24, e_25, e_26, e_27, e_28, e_29, e_30, e_31, e_32, e_33, e_48, e_57, e_59, e_60, e_63, e_64, e_96, e_97, e_99, e_120, e_122, e_192, e_200, e_255, e_256, e_300, e_500, e_600, e_2000, e_5000, e_5240, e_6146, e_20000, e_65536, nIo, nI_leI, nI_ltI, nI_eq, nI_clamp, nIxt, nI_1, nI_add, nI_mul, nN_lt0, nN_le, nN_lt, nN_eq, nN_eq', eq_self, if_true, if_false, wrs, wrk, wrc, wr2, wl1, wls, wlk, wlc]
      refine pK rfl ⟨F, S, P, B, sz, T, ?_⟩
      simp (disch := decide) only [iI, wrs, wrk, wrc, wr2, wl1, wls, wlk, wlc]
      exact ⟨h1, h2, h3, h4, h5, h6, h7, h8, h9, h10.up⟩
  · simp (disch := first | omega | exact nM1_n | exact nM2_n | assumption) only [b_X7_hasBook_0, l_X7_hasBook_0, f_X7_hasBook, b_X7_sizeOf_0, l_X7_sizeOf_0, f_X7_sizeOf, b_X8_hasStep_0, l_X8_hasStep_0, f_X8_hasStep, b_X7_cell_0, l_X7_cell_0, f_X7_cell, b_X8_step_0, l_X8_step_0, f_X8_step, b_X11_isBook_0, l_X11_isBook_0, f_X11_isBook, b_X11_step_0, l_X11_step_0, f_X11_step, nLet, nBdS, w3, m3, if_pos, if_neg, ↓e_m1, ↓e_m2, e_0, e_1, e_2, e_3, e_4, e_5, e_6, e_7, e_8, e_9, e_10, e_11, e_12, e_13, e_14, e_15, e_16, e_17, e_18, e_19, e_20, e_21, e_22, e_23, e_24, e_25, e_26, e_27, e_28, e_29, e_30, e_31, e_32, e_33, e_48, e_57, e_59, e_60, e_63, e_64, e_96, e_97, e_99, e_120, e_122, e_192, e_200, e_255, e_256, e_300, e_500, e_600, e_2000, e_5000, e_5240, e_6146, e_20000, e_65536, nIo, nI_leI, nI_ltI, nI_eq, nI_clamp, nIxt, nI_1, nI_add, nI_mul, nN_lt0, nN_le, nN_lt, nN_eq, nN_eq', eq_self, if_true, if_false, wrs, wrk, wrc, wr2, wl1, wls, wlk, wlc]
    refine pK rfl ⟨F, S, P, B, sz, T, ?_⟩
    simp (disch := decide) only [iI, wrs, wrk, wrc, wr2, wl1, wls, wlk, wlc]
    exact ⟨h1, h2, h3, h4, h5, h6, h7, h8, h9, h10.up⟩
