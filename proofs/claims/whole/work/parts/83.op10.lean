theorem pOp10 (N : Nat) (hN : 10000 ≤ N) : nOp10 N nInv := by
  intro n σ τ x1 x2 x3 x4 hn hI
  obtain ⟨F, S, P, B, sz, T, h1, h2, h3, h4, h5, h6, h7, h8, h9, h10⟩ := hI
  obtain ⟨⟨b1, b2, b3, b4⟩, ⟨w0, w1, w2, w3⟩, ⟨m0, m1, m2, m3⟩, hg, hs, hk⟩ := id h1
  have m3' : (wr τ 0 0 (nI 0)).1 0 7 = nI B := by simp (disch := decide) only [wrs, wrk, wrc, wr2, wl1, wls, wlk, wlc]; exact m3
  rcases book_cs x1 B with hb | ⟨b, hb, rfl⟩
  · simp (disch := first | omega | exact nM1_n | exact nM2_n | assumption) only [b_X8_play_0, l_X8_play_0, f_X8_play, b_X8_refuse_0, l_X8_refuse_0, f_X8_refuse, b_X11_play_88, b_X11_play_0, l_X11_play_88, l_X11_play_0, f_X11_play, b_X11_refused_0, l_X11_refused_0, f_X11_refused, hasB_n b4 w3 hb, ↓nLetR, ↓reduceIte, ↓e_m1, ↓e_m2, e_0, e_1, e_2, e_3, e_4, e_5, e_6, e_7, e_8, e_9, e_10, e_11, e_12, e_13, e_14, e_15, e_16, e_17, e_18, e_19, e_20, e_21, e_22, e_23, e_24, e_25, e_26, e_27, e_28, e_29, e_30, e_31, e_32, e_33, e_48, e_57, e_59, e_60, e_63, e_64, e_96, e_97, e_99, e_120, e_122, e_192, e_200, e_255, e_256, e_300, e_500, e_600, e_2000, e_5000, e_5240, e_6146, e_20000, e_65536, nIo, nI_clamp, nIxt, nI_1, nI_add, nI_mul, nI_eqF, nI_ltT, nI_ltF, nI_leT, nI_leF, nN_lt0, nN_le, nN_lt, nN_eq, nN_eq', eq_self, nBdS, isB_n b4 m3' hb, wrs, wrk, wrc, wr2, wl1, wls, wlk, wlc]
    refine pK rfl ⟨F, S, P, B, sz, T, ?_⟩
    simp (disch := decide) only [iI, wrs, wrk, wrc, wr2, wl1, wls, wlk, wlc]
    exact ⟨h1, h2, h3, h4.no 1 (by decide), h5, h6, h7, h8, h9, h10.up⟩
  rcases bits_cs x2 with hx2 | ⟨x, hx, rfl⟩
  · simp (disch := first | omega | exact nM1_n | exact nM2_n | assumption) only [b_X8_play_0, l_X8_play_0, f_X8_play, b_X8_refuse_0, l_X8_refuse_0, f_X8_refuse, b_X11_play_88, b_X11_play_0, l_X11_play_88, l_X11_play_0, f_X11_play, b_X11_refused_0, l_X11_refused_0, f_X11_refused, hasB_y b4 w3 hb, ↓nLetR, ↓reduceIte, ↓e_m1, ↓e_m2, e_0, e_1, e_2, e_3, e_4, e_5, e_6, e_7, e_8, e_9, e_10, e_11, e_12, e_13, e_14, e_15, e_16, e_17, e_18, e_19, e_20, e_21, e_22, e_23, e_24, e_25, e_26, e_27, e_28, e_29, e_30, e_31, e_32, e_33, e_48, e_57, e_59, e_60, e_63, e_64, e_96, e_97, e_99, e_120, e_122, e_192, e_200, e_255, e_256, e_300, e_500, e_600, e_2000, e_5000, e_5240, e_6146, e_20000, e_65536, nIo, nI_clamp, nIxt, nI_1, nI_add, nI_mul, nI_eqF, nI_ltT, nI_ltF, nI_leT, nI_leF, nN_lt0, nN_le, nN_lt, nN_eq, nN_eq', eq_self, nBdS, isB_y b4 m3' hb, areB_n hx2, ab3_n (Or.inl hx2), wrs, wrk, wrc, wr2, wl1, wls, wlk, wlc]
    refine pK rfl ⟨F, S, P, B, sz, T, ?_⟩
    simp (disch := decide) only [iI, wrs, wrk, wrc, wr2, wl1, wls, wlk, wlc]
    exact ⟨h1, h2, h3, h4.no 2 (by decide), h5, h6, h7, h8, h9, h10.up⟩
  rcases bits_cs x3 with hx2 | ⟨ly, hly, rfl⟩
  · simp (disch := first | omega | exact nM1_n | exact nM2_n | assumption) only [b_X8_play_0, l_X8_play_0, f_X8_play, b_X8_refuse_0, l_X8_refuse_0, f_X8_refuse, b_X11_play_88, b_X11_play_0, l_X11_play_88, l_X11_play_0, f_X11_play, b_X11_refused_0, l_X11_refused_0, f_X11_refused, hasB_y b4 w3 hb, ↓nLetR, ↓reduceIte, ↓e_m1, ↓e_m2, e_0, e_1, e_2, e_3, e_4, e_5, e_6, e_7, e_8, e_9, e_10, e_11, e_12, e_13, e_14, e_15, e_16, e_17, e_18, e_19, e_20, e_21, e_22, e_23, e_24, e_25, e_26, e_27, e_28, e_29, e_30, e_31, e_32, e_33, e_48, e_57, e_59, e_60, e_63, e_64, e_96, e_97, e_99, e_120, e_122, e_192, e_200, e_255, e_256, e_300, e_500, e_600, e_2000, e_5000, e_5240, e_6146, e_20000, e_65536, nIo, nI_clamp, nIxt, nI_1, nI_add, nI_mul, nI_eqF, nI_ltT, nI_ltF, nI_leT, nI_leF, nN_lt0, nN_le, nN_lt, nN_eq, nN_eq', eq_self, nBdS, isB_y b4 m3' hb, areB_y hx, areB_n hx2, ab3_n (Or.inr ⟨⟨x, hx, rfl⟩, Or.inl hx2⟩), wrs, wrk, wrc, wr2, wl1, wls, wlk, wlc]
    refine pK rfl ⟨F, S, P, B, sz, T, ?_⟩
    simp (disch := decide) only [iI, wrs, wrk, wrc, wr2, wl1, wls, wlk, wlc]
    exact ⟨h1, h2, h3, h4.no 2 (by decide), h5, h6, h7, h8, h9, h10.up⟩
  rcases bits_cs x4 with hx2 | ⟨aw, haw, rfl⟩
  · simp (disch := first | omega | exact nM1_n | exact nM2_n | assumption) only [b_X8_play_0, l_X8_play_0, f_X8_play, b_X8_refuse_0, l_X8_refuse_0, f_X8_refuse, b_X11_play_88, b_X11_play_0, l_X11_play_88, l_X11_play_0, f_X11_play, b_X11_refused_0, l_X11_refused_0, f_X11_refused, hasB_y b4 w3 hb, ↓nLetR, ↓reduceIte, ↓e_m1, ↓e_m2, e_0, e_1, e_2, e_3, e_4, e_5, e_6, e_7, e_8, e_9, e_10, e_11, e_12, e_13, e_14, e_15, e_16, e_17, e_18, e_19, e_20, e_21, e_22, e_23, e_24, e_25, e_26, e_27, e_28, e_29, e_30, e_31, e_32, e_33, e_48, e_57, e_59, e_60, e_63, e_64, e_96, e_97, e_99, e_120, e_122, e_192, e_200, e_255, e_256, e_300, e_500, e_600, e_2000, e_5000, e_5240, e_6146, e_20000, e_65536, nIo, nI_clamp, nIxt, nI_1, nI_add, nI_mul, nI_eqF, nI_ltT, nI_ltF, nI_leT, nI_leF, nN_lt0, nN_le, nN_lt, nN_eq, nN_eq', eq_self, nBdS, isB_y b4 m3' hb, areB_y hx, areB_y hly, areB_n hx2, ab3_n (Or.inr ⟨⟨x, hx, rfl⟩, Or.inr ⟨⟨ly, hly, rfl⟩, hx2⟩⟩), wrs, wrk, wrc, wr2, wl1, wls, wlk, wlc]
    refine pK rfl ⟨F, S, P, B, sz, T, ?_⟩
    simp (disch := decide) only [iI, wrs, wrk, wrc, wr2, wl1, wls, wlk, wlc]
    exact ⟨h1, h2, h3, h4.no 2 (by decide), h5, h6, h7, h8, h9, h10.up⟩
  obtain ⟨M, hM, k1, k2, k3⟩ := id h10
  have hH : hHs F S P B σ (wr τ 0 0 (nI 0)) := by simp (disch := decide) only [hHs, wrs, wrk, wrc, wr2, wl1, wls, wlk, wlc]; exact h1
  have hB' : hBk F S b (sz b) σ (wr τ 0 0 (nI 0)) := by
    obtain ⟨s1, s2, s3, s4⟩ := h2 b hb
    simp (disch := decide) only [hBk, wrs, wrk, wrc, wr2, wl1, wls, wlk, wlc]
    exact ⟨by omega, s1, s2, s3, s4⟩
  have hk' : hMk M (wr τ 0 0 (nI 0)) := by simp (disch := decide) only [hMk, wrs, wrk, wrc, wr2, wl1, wls, wlk, wlc]; exact ⟨k1, k2⟩
  obtain ⟨e, σa, σb, σ1, τ1, q1, q2, q3, q4, he, z11, z32, ⟨t, ht, z8, z33⟩, ⟨c, hc, z10, z34, zp⟩, ⟨y, hy, z3, z35⟩, ⟨k, hk6, z6, z36⟩, zm, zf, zt, zg⟩ := play_is (N := N) (w := 24) (ly := ly) (aw := aw) (by omega) (by decide) (by omega) hH hB' hx hk'
  sorry
