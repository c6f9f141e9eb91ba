theorem pOp10 (N : Nat) (hN : 10000 ≤ N) : nOp10 N nInv := by
  intro n σ τ x1 x2 x3 x4 hn hI
  obtain ⟨F, S, P, B, sz, T, h1, h2, h3, h4, h5, h6, h7, h8, h9, h10⟩ := hI
  obtain ⟨⟨b1, b2, b3, b4⟩, ⟨w0, w1, w2, w3⟩, ⟨m0, m1, m2, m3⟩, hg, hs, hk⟩ := id h1
  have m3' : (wr τ 0 0 (nI 0)).1 0 7 = nI B := by simp (disch := decide) only [wrs, wrk, wrc, wr2, wl1, wls, wlk, wlc]; exact m3
  rcases book_cs x1 B with hb | ⟨b, hb, rfl⟩
  · simp (disch := first | omega | exact nM1_n | exact nM2_n | assumption) only [b_X8_play_0, l_X8_play_0, f_X8_play, b_X8_refuse_0, l_X8_refuse_0, f_X8_refuse, b_X11_play_88, b_X11_play_0, l_X11_play_88, l_X11_play_0, f_X11_play, b_X11_refused_0, l_X11_refused_0, f_X11_refused, hasB_n b4 w3 hb, ↓nLetR, ↓reduceIte, ↓e_m1, ↓e_m2, e_0, e_1, e_2, e_3, e_4, e_5, e_6, e_7, e_8, e_9, e_10, e_11, e_12, e_13, e_14, e_15, e_16, e_17, e_18, e_19, e_20, e_21, e_22, e_23, e_24, e_25, e_26, e_27, e_28, e_29, e_30, e_31, e_32, e_33, e_48, e_57, e_59, e_60, e_63, e_64, e_96, e_97, e_99, e_120, e_122, e_192, e_200, e_255, e_256, e_300, e_500, e_600, e_2000, e_5000, e_5240, e_6146, e_20000, e_65536, nIo, nI_clamp, nIxt, nI_1, nI_add, nI_mul, nI_eqF, nI_ltT, nI_ltF, nI_leT, nI_leF, nN_lt0, nN_le, nN_lt, nN_eq, nN_eq', eq_self, nBdS, isB_n b4 m3' hb, wrs, wrk, wrc, wr2, wl1, wls, wlk, wlc]
    refine pK rfl ⟨F, S, P, B, sz, T, ?_⟩
    simp (disch := decide) only [iI, wrs, wrk, wrc, wr2, wl1, wls, wlk, wlc]
    exact ⟨h1, h2, h3, h4.no 1 (by decide), h5, h6, h7, h8, h9, h10.up⟩
  rcases bits_cs x2 with hx2 | ⟨x, hx, rfl⟩
  · simp (disch := first | omega | exact nM1_n | exact nM2_n | assumption) only [b_X8_play_0, l_X8_play_0, f_X8_play, b_X8_refuse_0, l_X8_refuse_0, f_X8_refuse, b_X11_play_88, b_X11_play_0, l_X11_play_88, l_X11_play_0, f_X11_play, b_X11_refused_0, l_X11_refused_0, f_X11_refused, hasB_y b4 w3 hb, ↓nLetR, ↓reduceIte, ↓e_m1, ↓e_m2, e_0, e_1, e_2, e_3, e_4, e_5, e_6, e_7, e_8, e_9, e_10, e_11, e_12, e_13, e_14, e_15, e_16, e_17, e_18, e_19, e_20, e_21, e_22, e_23, e_24, e_25, e_26, e_27, e_28, e_29, e_30, e_31, e_32, e_33, e_48, e_57, e_59, e_60, e_63, e_64, e_96, e_97, e_99, e_120, e_122, e_192, e_200, e_255, e_256, e_300, e_500, e_600, e_2000, e_5000, e_5240, e_6146, e_20000, e_65536, nIo, nI_clamp, nIxt, nI_1, nI_add, nI_mul, nI_eqF, nI_ltT, nI_ltF, nI_leT, nI_leF, nN_lt0, nN_le, nN_lt, nN_eq, nN_eq', eq_self, nBdS, isB_y b4 m3' hb, areB_n hx2, ab3_n (Or.inl hx2), wrs, wrk, wrc, wr2, wl1, wls, wlk, wlc]
    refine pK rfl ⟨F, S, P, B, sz, T, ?_⟩
    simp (disch := decide) only [iI, wrs, wrk, wrc, wr2, wl1, wls, wlk, wlc]
    exact ⟨h1, h2, h3, h4.no 2 (by decide), h5, h6, h7, h8, h9, h10.up⟩
  rcases bits_cs x3 with hx2 | ⟨ly, hly, rfl⟩
  · simp (disch := first | omega | exact nM1_n | exact nM2_n | assumption) only [b_X8_play_0, l_X8_play_0, f_X8_play, b_X8_refuse_0, l_X8_refuse_0, f_X8_refuse, b_X11_play_88, b_X11_play_0, l_X11_play_88, l_X11_play_0, f_X11_play, b_X11_refused_0, l_X11_refused_0, f_X11_refused, hasB_y b4 w3 hb, ↓nLetR, ↓reduceIte, ↓e_m1, ↓e_m2, e_0, e_1, e_2, e_3, e_4, e_5, e_6, e_7, e_8, e_9, e_10, e_11, e_12, e_13, e_14, e_15, e_16, e_17, e_18, e_19, e_20, e_21, e_22, e_23, e_24, e_25, e_26, e_27, e_28, e_29, e_30, e_31, e_32, e_33, e_48, e_57, e_59, e_60, e_63, e_64, e_96, e_97, e_99, e_120, e_122, e_192, e_200, e_255, e_256, e_300, e_500, e_600, e_2000, e_5000, e_5240, e_6146, e_20000, e_65536, nIo, nI_clamp, nIxt, nI_1, nI_add, nI_mul, nI_eqF, nI_ltT, nI_ltF, nI_leT, nI_leF, nN_lt0, nN_le, nN_lt, nN_eq, nN_eq', eq_self, nBdS, isB_y b4 m3' hb, areB_y hx, areB_n hx2, ab3_n (Or.inr ⟨⟨x, hx, rfl⟩, Or.inl hx2⟩), wrs, wrk, wrc, wr2, wl1, wls, wlk, wlc]
    refine pK rfl ⟨F, S, P, B, sz, T, ?_⟩
    simp (disch := decide) only [iI, wrs, wrk, wrc, wr2, wl1, wls, wlk, wlc]
    exact ⟨h1, h2, h3, h4.no 2 (by decide), h5, h6, h7, h8, h9, h10.up⟩
  rcases bits_cs x4 with hx2 | ⟨aw, haw, rfl⟩
  · simp (disch := first | omega | exact nM1_n | exact nM2_n | assumption) only [b_X8_play_0, l_X8_play_0, f_X8_play, b_X8_refuse_0, l_X8_refuse_0, f_X8_refuse, b_X11_play_88, b_X11_play_0, l_X11_play_88, l_X11_play_0, f_X11_play, b_X11_refused_0, l_X11_refused_0, f_X11_refused, hasB_y b4 w3 hb, ↓nLetR, ↓reduceIte, ↓e_m1, ↓e_m2, e_0, e_1, e_2, e_3, e_4, e_5, e_6, e_7, e_8, e_9, e_10, e_11, e_12, e_13, e_14, e_15, e_16, e_17, e_18, e_19, e_20, e_21, e_22, e_23, e_24, e_25, e_26, e_27, e_28, e_29, e_30, e_31, e_32, e_33, e_48, e_57, e_59, e_60, e_63, e_64, e_96, e_97, e_99, e_120, e_122, e_192, e_200, e_255, e_256, e_300, e_500, e_600, e_2000, e_5000, e_5240, e_6146, e_20000, e_65536, nIo, nI_clamp, nIxt, nI_1, nI_add, nI_mul, nI_eqF, nI_ltT, nI_ltF, nI_leT, nI_leF, nN_lt0, nN_le, nN_lt, nN_eq, nN_eq', eq_self, nBdS, isB_y b4 m3' hb, areB_y hx, areB_y hly, areB_n hx2, ab3_n (Or.inr ⟨⟨x, hx, rfl⟩, Or.inr ⟨⟨ly, hly, rfl⟩, hx2⟩⟩), wrs, wrk, wrc, wr2, wl1, wls, wlk, wlc]
    refine pK rfl ⟨F, S, P, B, sz, T, ?_⟩
    simp (disch := decide) only [iI, wrs, wrk, wrc, wr2, wl1, wls, wlk, wlc]
    exact ⟨h1, h2, h3, h4.no 2 (by decide), h5, h6, h7, h8, h9, h10.up⟩
  obtain ⟨M, hM, k1, k2, k3⟩ := id h10
  have hH : hHs F S P B σ (wr τ 0 0 (nI 0)) := by simp (disch := decide) only [hHs, wrs, wrk, wrc, wr2, wl1, wls, wlk, wlc]; exact h1
  have hB' : hBk F S b (sz b) σ (wr τ 0 0 (nI 0)) := by
    obtain ⟨s1, s2, s3, s4⟩ := h2 b hb
    simp (disch := decide) only [hBk, wrs, wrk, wrc, wr2, wl1, wls, wlk, wlc]
    exact ⟨by omega, s1, s2, s3, s4⟩
  have hk' : hMk M (wr τ 0 0 (nI 0)) := by simp (disch := decide) only [hMk, wrs, wrk, wrc, wr2, wl1, wls, wlk, wlc]; exact ⟨k1, k2⟩
  obtain ⟨e, σa, σb, σ1, τ1, q1, q2, q3, q4, he, z11, z32, ⟨t, ht, z8, z33⟩, ⟨c, hc, z10, z34, zp⟩, ⟨y, hy, z3, z35⟩, ⟨k, hk6, z6, z36⟩, zm, zf, zt, zg⟩ := play_is (N := N) (w := 24) (ly := ly) (aw := aw) (by omega) (by decide) (by omega) hH hB' hx hk'
  obtain ⟨τ3, g1, g2, g3, g4, g5⟩ := keep_go N c (by omega) (min c 2000) N 0 (wr (wr (wr (wr (wr (wr τ1 0 38 (nI e)) 0 37 (nI 1)) 0 39 (nI t)) 0 40 (nI c)) 0 41 (nI y)) 0 42 (nI k)) (by simp (disch := decide) only [wrs, wrk, wrc, wr2, wl1, wls, wlk, wlc]; exact z34) (by omega) (by omega)
  have g0 : (wr (wr (wr (wr (wr (wr τ1 0 38 (nI e)) 0 37 (nI 1)) 0 39 (nI t)) 0 40 (nI c)) 0 41 (nI y)) 0 42 (nI k)).1 0 38 = nI e := by simp (disch := decide) only [wrs, wrk, wrc, wr2, wl1, wls, wlk, wlc]
  rw [g0] at g1
  have g6 : l_X11_play_88 N (wr (wr (wr (wr (wr (wr τ1 0 38 (nI e)) 0 37 (nI 1)) 0 39 (nI t)) 0 40 (nI c)) 0 41 (nI y)) 0 42 (nI k)) (nI 0) = f_X11_done N (nI e) τ3 := g1
  have F1 : ∀ d, d ≠ 24 → d ≠ 26 → d ≠ 11 → σ1.1 d = σ.1 d := zf
  have T1 : ∀ d, d ≠ 0 → d ≠ 12 → d ≠ 14 → d ≠ 15 → τ3.1 d = τ.1 d := fun d e1 e2 e3 e4 => by
    rw [g5 d e4]
    simp (disch := omega) only [wrs, wrk, wrc, wr2, wl1, wls, wlk, wlc]
    rw [zt d e1 e2 e3]
    simp (disch := omega) only [wrs, wrk, wrc, wr2, wl1, wls, wlk, wlc]
  have T0 : ∀ f, f ≠ 0 → (f < 31 ∨ 42 < f) → τ3.1 0 f = τ.1 0 f := fun f e1 e2 => by
    rw [g5 0 (by decide)]
    simp (disch := omega) only [wrs, wrk, wrc, wr2, wl1, wls, wlk, wlc]
    rw [zg f (by omega)]
    simp (disch := omega) only [wrs, wrk, wrc, wr2, wl1, wls, wlk, wlc]
  have T2 : τ3.1 0 = (wr (wr (wr (wr (wr (wr τ1 0 38 (nI e)) 0 37 (nI 1)) 0 39 (nI t)) 0 40 (nI c)) 0 41 (nI y)) 0 42 (nI k)).1 0 := g5 0 (by decide)
  simp (disch := first | omega | exact nM1_n | exact nM2_n | assumption) only [b_X8_play_0, l_X8_play_0, f_X8_play, b_X8_accept_0, l_X8_accept_0, f_X8_accept, b_X11_play_88, b_X11_play_0, l_X11_play_88, l_X11_play_0, f_X11_play, b_X11_done_0, l_X11_done_0, f_X11_done, hasB_y b4 w3 hb, ↓nLetR, ↓reduceIte, ↓e_m1, ↓e_m2, e_0, e_1, e_2, e_3, e_4, e_5, e_6, e_7, e_8, e_9, e_10, e_11, e_12, e_13, e_14, e_15, e_16, e_17, e_18, e_19, e_20, e_21, e_22, e_23, e_24, e_25, e_26, e_27, e_28, e_29, e_30, e_31, e_32, e_33, e_48, e_57, e_59, e_60, e_63, e_64, e_96, e_97, e_99, e_120, e_122, e_192, e_200, e_255, e_256, e_300, e_500, e_600, e_2000, e_5000, e_5240, e_6146, e_20000, e_65536, nIo, nI_clamp, nIxt, nI_1, nI_add, nI_mul, nI_eqF, nI_ltT, nI_ltF, nI_leT, nI_leF, nN_lt0, nN_le, nN_lt, nN_eq, nN_eq', eq_self, nBdS, isB_y b4 m3' hb, areB_y hx, areB_y hly, areB_y haw, ab3_y hx hly haw, q1, q2, q3, q4, z11, z33, z34, z35, z36, wrs, wrk, wrc, wr2, wl1, wls, wlk, wlc, g1]
  refine pK rfl ⟨F, S, P, B, sz, T, ?_⟩
  have u12 : τ3.1 12 = τ1.1 12 := by rw [g5 12 (by decide)]; simp (disch := decide) only [wrs, wrk, wrc, wr2, wl1, wls, wlk, wlc]
  simp (disch := decide) only [iI, wrs, wrk, wrc, wr2, wl1, wls, wlk, wlc, F1 1 (by decide) (by decide) (by decide), F1 2 (by decide) (by decide) (by decide), F1 3 (by decide) (by decide) (by decide), F1 4 (by decide) (by decide) (by decide), F1 5 (by decide) (by decide) (by decide), F1 6 (by decide) (by decide) (by decide), F1 7 (by decide) (by decide) (by decide), F1 16 (by decide) (by decide) (by decide), F1 17 (by decide) (by decide) (by decide), F1 18 (by decide) (by decide) (by decide), F1 19 (by decide) (by decide) (by decide), F1 20 (by decide) (by decide) (by decide), F1 21 (by decide) (by decide) (by decide), F1 30 (by decide) (by decide) (by decide), F1 33 (by decide) (by decide) (by decide),
    T1 1 (by decide) (by decide) (by decide) (by decide), T1 2 (by decide) (by decide) (by decide) (by decide), T1 3 (by decide) (by decide) (by decide) (by decide), T1 4 (by decide) (by decide) (by decide) (by decide), T1 5 (by decide) (by decide) (by decide) (by decide), T1 6 (by decide) (by decide) (by decide) (by decide), T1 7 (by decide) (by decide) (by decide) (by decide), T1 8 (by decide) (by decide) (by decide) (by decide), T1 10 (by decide) (by decide) (by decide) (by decide), T1 13 (by decide) (by decide) (by decide) (by decide), T1 18 (by decide) (by decide) (by decide) (by decide), T1 19 (by decide) (by decide) (by decide) (by decide), T1 20 (by decide) (by decide) (by decide) (by decide), T1 22 (by decide) (by decide) (by decide) (by decide), T1 23 (by decide) (by decide) (by decide) (by decide), T1 24 (by decide) (by decide) (by decide) (by decide), T1 26 (by decide) (by decide) (by decide) (by decide),
    T0 3 (by decide) (by decide), T0 4 (by decide) (by decide), T0 5 (by decide) (by decide), T0 6 (by decide) (by decide), T0 7 (by decide) (by decide), T0 8 (by decide) (by decide), T0 19 (by decide) (by decide), T0 47 (by decide) (by decide), T0 48 (by decide) (by decide), T0 49 (by decide) (by decide), T0 50 (by decide) (by decide), T0 56 (by decide) (by decide), T0 61 (by decide) (by decide), T0 65 (by decide) (by decide), T0 66 (by decide) (by decide), T0 67 (by decide) (by decide), u12]
  refine ⟨h1, h2, h3, h4.done, ?_, h6, h7, h8, h9, ?_⟩
  · refine Or.inr ⟨⟨e, he, z11⟩, ?_, ?_, ?_, ?_, ?_, ?_, c, by omega, z10, fun i hi hi2 => ?_⟩
    · rw [T2]; simp (disch := decide) only [wrs, wrk, wrc, wr2, wl1, wls, wlk, wlc]; rfl
    · rw [T2, z11]; simp (disch := decide) only [wrs, wrk, wrc, wr2, wl1, wls, wlk, wlc]
    · rw [T2, z8]; simp (disch := decide) only [wrs, wrk, wrc, wr2, wl1, wls, wlk, wlc]
    · rw [T2, z10]; simp (disch := decide) only [wrs, wrk, wrc, wr2, wl1, wls, wlk, wlc]
    · rw [T2, z3]; simp (disch := decide) only [wrs, wrk, wrc, wr2, wl1, wls, wlk, wlc]
    · rw [T2, z6]; simp (disch := decide) only [wrs, wrk, wrc, wr2, wl1, wls, wlk, wlc]
    · rw [g3 i (Nat.zero_le i) (by omega)]
      simp (disch := decide) only [wrs, wrk, wrc, wr2, wl1, wls, wlk, wlc]
      exact zp i hi hi2
  · refine ⟨M + 1, by omega, ?_, zm.2, fun k hk => ?_⟩
    · rw [T2]; simp (disch := decide) only [wrs, wrk, wrc, wr2, wl1, wls, wlk, wlc]; exact zm.1
    · obtain ⟨z, hz, ez⟩ := k3 k hk
      exact ⟨z, by omega, ez⟩
