/-! MENDS: the call -/
theorem m353 {N c : Nat} {τ : nS} (h57 : τ.1 0 57 = nI c) (hc : c < 5000) : l_X11_mends_353 N τ = some (nI c, wr (wr (wr τ 0 56 (nI (if c = 0 then 0 else 1))) 0 1 (nI 0)) 0 2 nM1) := by
  by_cases h0 : c = 0
  · subst h0
    simp (disch := first | omega | exact nM1_n | exact nM2_n | assumption) only [l_X11_mends_353, b_X11_mends_353, b_X11_done_0, l_X11_done_0, f_X11_done, h57, ↓nLetR, ↓reduceIte, ↓e_m1, ↓e_m2, e_0, e_1, e_2, e_3, e_4, e_5, e_6, e_7, e_8, e_9, e_10, e_11, e_12, e_13, e_14, e_15, e_16, e_17, e_18, e_19, e_20, e_21, e_22, e_23, e_24, e_25, e_26, e_27, e_28, e_29, e_30, e_31, e_32, e_33, e_48, e_57, e_59, e_60, e_63, e_64, e_96, e_97, e_99, e_120, e_122, e_192, e_200, e_255, e_256, e_300, e_500, e_600, e_2000, e_5000, e_5240, e_6146, e_20000, e_65536, nIo, nI_clamp, nIxt, nI_1, nI_add, nI_mul, nI_eqF, nI_ltT, nI_ltF, nI_leT, nI_leF, nN_lt0, nN_le, nN_lt, nN_eq, nN_eq', eq_self, nBdS, wrs, wrk, wrc, wr2, wl1, wls, wlk, wlc]
  · rw [if_neg h0]
    simp (disch := first | omega | exact nM1_n | exact nM2_n | assumption) only [l_X11_mends_353, b_X11_mends_353, b_X11_done_0, l_X11_done_0, f_X11_done, h57, ↓nLetR, ↓reduceIte, ↓e_m1, ↓e_m2, e_0, e_1, e_2, e_3, e_4, e_5, e_6, e_7, e_8, e_9, e_10, e_11, e_12, e_13, e_14, e_15, e_16, e_17, e_18, e_19, e_20, e_21, e_22, e_23, e_24, e_25, e_26, e_27, e_28, e_29, e_30, e_31, e_32, e_33, e_48, e_57, e_59, e_60, e_63, e_64, e_96, e_97, e_99, e_120, e_122, e_192, e_200, e_255, e_256, e_300, e_500, e_600, e_2000, e_5000, e_5240, e_6146, e_20000, e_65536, nIo, nI_clamp, nIxt, nI_1, nI_add, nI_mul, nI_eqF, nI_ltT, nI_ltF, nI_leT, nI_leF, nN_lt0, nN_le, nN_lt, nN_eq, nN_eq', eq_self, nBdS, wrs, wrk, wrc, wr2, wl1, wls, wlk, wlc]
theorem pOp18 (N : Nat) (hN : 10000 ≤ N) : nOp18 N nInv := by
  intro n σ τ hn hI
  obtain ⟨F, S, P, B, sz, T, h1, h2, h3, h4, h5, h6, h7, h8, h9, h10⟩ := hI
  obtain ⟨⟨b1, b2, b3, b4⟩, ⟨w0, w1, w2, w3⟩, ⟨m0, m1, m2, m3⟩, hg, hs, hsk⟩ := id h1
  rcases id h6 with ⟨t2, hA⟩ | ⟨t2, hA, ⟨b, hb, e3, e48⟩, ⟨pl, hpl, e4, e49, ⟨y, hy, e5⟩, hrow⟩, e50, -⟩
  · simp (disch := first | omega | exact nM1_n | exact nM2_n | assumption) only [f_X8_mends, l_X8_mends_0, b_X8_mends_0, b_X8_refuse_0, l_X8_refuse_0, f_X8_refuse, b_X11_refused_0, l_X11_refused_0, f_X11_refused, f_X11_mends, l_X11_mends_0, b_X11_mends_0, t2, hA, ↓nLetR, ↓reduceIte, ↓e_m1, ↓e_m2, e_0, e_1, e_2, e_3, e_4, e_5, e_6, e_7, e_8, e_9, e_10, e_11, e_12, e_13, e_14, e_15, e_16, e_17, e_18, e_19, e_20, e_21, e_22, e_23, e_24, e_25, e_26, e_27, e_28, e_29, e_30, e_31, e_32, e_33, e_48, e_57, e_59, e_60, e_63, e_64, e_96, e_97, e_99, e_120, e_122, e_192, e_200, e_255, e_256, e_300, e_500, e_600, e_2000, e_5000, e_5240, e_6146, e_20000, e_65536, nIo, nI_clamp, nIxt, nI_1, nI_add, nI_mul, nI_eqF, nI_ltT, nI_ltF, nI_leT, nI_leF, nN_lt0, nN_le, nN_lt, nN_eq, nN_eq', eq_self, nBdS, wrs, wrk, wrc, wr2, wl1, wls, wlk, wlc]
    refine pK rfl ⟨F, S, P, B, sz, T, ?_⟩
    simp (disch := decide) only [iI, wrs, wrk, wrc, wr2, wl1, wls, wlk, wlc]
    exact ⟨h1, h2, h3, h4.no 5 (by decide), h5, h6, h7, h8, h9, h10.up⟩
  rw [e5] at e50
  have hA' : τ.1 0 47 = nI 1 := hA
  have t2' : σ.1 16 2 = nI 1 := t2
  have hBσ : hBk F S b (sz b) σ (wr τ 0 0 (nI 0)) := by
    obtain ⟨q1, q2, q3, q4⟩ := h2 b hb
    simp (disch := decide) only [hBk, wrs, wrk, wrc, wr2, wl1, wls, wlk, wlc]
    exact ⟨by omega, q1, q2, q3, q4⟩
  obtain ⟨hb5, ⟨hn1, hn2⟩, z1, z2, -⟩ := id hBσ
  have k48 : (wr τ 0 0 (nI 0)).1 0 48 = nI b := by simp (disch := decide) only [wrs, wrk, wrc, wr2, wl1, wls, wlk, wlc]; exact e48
  have k6 : (wr τ 0 0 (nI 0)).1 0 6 = nI P := by simp (disch := decide) only [wrs, wrk, wrc, wr2, wl1, wls, wlk, wlc]; exact m2
  have k50 : (wr τ 0 0 (nI 0)).1 0 50 = nI y := by simp (disch := decide) only [wrs, wrk, wrc, wr2, wl1, wls, wlk, wlc]; exact e50
  have k49 : (wr τ 0 0 (nI 0)).1 0 49 = nI pl := by simp (disch := decide) only [wrs, wrk, wrc, wr2, wl1, wls, wlk, wlc]; exact e49
  have kk2 : (wr τ 0 0 (nI 0)).1 2 = τ.1 2 := by simp (disch := decide) only [wrs, wrk, wrc, wr2, wl1, wls, wlk, wlc]
  have hsk2 : ∀ q, q < P → ∃ x, x < 256 ∧ (wr τ 0 0 (nI 0)).1 2 q = nI x := fun q hq => by
    rw [kk2]
    obtain ⟨a1, x, hx, a2⟩ := hsk q hq
    exact ⟨x, hx, a1.trans a2⟩
  have c1 := cnt_c (N := N) hBσ (sz b) 0 N 0 (by omega) (by omega) (by omega)
  have c2 := cnt_m (N := N) hBσ k48 (sz b) 0 N 0 (by omega) (by omega) (by omega)
  have hst := sT_le (fun k => (wr τ 0 0 (nI 0)).1 4 (24 * b + k)) (sz b) 0
  have hsp : sP ((wr τ 0 0 (nI 0)).1 2) 0 P = sP (σ.1 3) 0 P := sP_ext P 0 (fun j _ hj => by rw [kk2]; exact (hsk j (by omega)).1)
  have hspl := sP_le (σ.1 3) P 0
  have hmul : sT (fun k => (wr τ 0 0 (nI 0)).1 4 (24 * b + k)) 0 (sz b) * (sz b - 1) ≤ 48 * 23 := Nat.mul_le_mul (by omega) (by omega)
  rw [Nat.zero_add] at c1 c2
  generalize sT (fun k => (wr τ 0 0 (nI 0)).1 4 (24 * b + k)) 0 (sz b) * (sz b - 1) = A at c1 c2 hmul
  have c3 := cntP_c (N := N) (σ := σ) b3 w2 (fun q hq => (hsk q hq).2) P 0 N A (by omega) (by omega) (by omega)
  have c4 := cntP_m (N := N) (by omega) b3 k6 hsk2 P 0 N A (by omega) (by omega) (by omega)
  rw [hsp] at c4
  generalize sP (σ.1 3) 0 P = A2 at c3 c4 hspl
  have hsz := size_is (N := N) (σ := σ) hb5
  rw [z1] at hsz
  have hcm : f_X8_countMends N (nI b) σ = some (nI (A + A2), σ) := by
    simp (disch := first | omega | exact nM1_n | exact nM2_n | assumption) only [f_X8_countMends, l_X8_countMends_0, b_X8_countMends_0, hsz, ↓nLetR, ↓reduceIte, ↓e_m1, ↓e_m2, e_0, e_1, e_2, e_3, e_4, e_5, e_6, e_7, e_8, e_9, e_10, e_11, e_12, e_13, e_14, e_15, e_16, e_17, e_18, e_19, e_20, e_21, e_22, e_23, e_24, e_25, e_26, e_27, e_28, e_29, e_30, e_31, e_32, e_33, e_48, e_57, e_59, e_60, e_63, e_64, e_96, e_97, e_99, e_120, e_122, e_192, e_200, e_255, e_256, e_300, e_500, e_600, e_2000, e_5000, e_5240, e_6146, e_20000, e_65536, nIo, nI_clamp, nIxt, nI_1, nI_add, nI_mul, nI_eqF, nI_ltT, nI_ltF, nI_leT, nI_leF, nN_lt0, nN_le, nN_lt, nN_eq, nN_eq', eq_self, nBdS]
    exact c1.trans c3
  have hmod : f_X11_mends N τ = mE N (wr τ 0 0 (nI 0)) (nI (A + A2)) := by
    simp (disch := first | omega | exact nM1_n | exact nM2_n | assumption) only [f_X11_mends, l_X11_mends_0, b_X11_mends_0, hA', ↓nLetR, ↓reduceIte, ↓e_m1, ↓e_m2, e_0, e_1, e_2, e_3, e_4, e_5, e_6, e_7, e_8, e_9, e_10, e_11, e_12, e_13, e_14, e_15, e_16, e_17, e_18, e_19, e_20, e_21, e_22, e_23, e_24, e_25, e_26, e_27, e_28, e_29, e_30, e_31, e_32, e_33, e_48, e_57, e_59, e_60, e_63, e_64, e_96, e_97, e_99, e_120, e_122, e_192, e_200, e_255, e_256, e_300, e_500, e_600, e_2000, e_5000, e_5240, e_6146, e_20000, e_65536, nIo, nI_clamp, nIxt, nI_1, nI_add, nI_mul, nI_eqF, nI_ltT, nI_ltF, nI_leT, nI_leF, nN_lt0, nN_le, nN_lt, nN_eq, nN_eq', eq_self, nBdS, wrs, wrk, wrc, wr2, wl1, wls, wlk, wlc]
    exact c2.trans c4
  have hV : (A + A2) * pl ≤ 1136 * 500 := Nat.mul_le_mul (by omega) hpl
  have hmE : mE N (wr τ 0 0 (nI 0)) (nI (A + A2)) = if nI y ≤ nI 0 then l_X11_mends_161 N (wr τ 0 0 (nI 0)) else if nI ((A + A2) * pl) ≤ nI 20000 then l_X11_mends_161 N (wr τ 0 0 (nI 0)) else some (nM1, wr (wr (wr τ 0 0 (nI 0)) 0 1 (nI 3)) 0 2 nM1) := by
    unfold mE
    rw [k50, k49, nI_mul]
  rw [hmE] at hmod
  have hX8 : f_X8_mends N σ = if nI y ≤ nI 0 then l_X8_mends_57 N σ else if nI ((A + A2) * pl) ≤ nI 20000 then l_X8_mends_57 N σ else some (nM1, wr σ 0 12 (nI 3)) := by
    by_cases q1 : nI y ≤ nI 0
    · rw [if_pos q1]
      simp (disch := first | omega | exact nM1_n | exact nM2_n | assumption) only [f_X8_mends, l_X8_mends_0, b_X8_mends_0, t2', e5, eq_true q1, ↓nLetR, ↓reduceIte, ↓e_m1, ↓e_m2, e_0, e_1, e_2, e_3, e_4, e_5, e_6, e_7, e_8, e_9, e_10, e_11, e_12, e_13, e_14, e_15, e_16, e_17, e_18, e_19, e_20, e_21, e_22, e_23, e_24, e_25, e_26, e_27, e_28, e_29, e_30, e_31, e_32, e_33, e_48, e_57, e_59, e_60, e_63, e_64, e_96, e_97, e_99, e_120, e_122, e_192, e_200, e_255, e_256, e_300, e_500, e_600, e_2000, e_5000, e_5240, e_6146, e_20000, e_65536, nIo, nI_clamp, nIxt, nI_1, nI_add, nI_mul, nI_eqF, nI_ltT, nI_ltF, nI_leT, nI_leF, nN_lt0, nN_le, nN_lt, nN_eq, nN_eq', eq_self, nBdS]
    · rw [if_neg q1]
      by_cases q2 : nI ((A + A2) * pl) ≤ nI 20000
      · rw [if_pos q2]
        simp (disch := first | omega | exact nM1_n | exact nM2_n | assumption) only [f_X8_mends, l_X8_mends_0, b_X8_mends_0, t2', e5, eq_false q1, e3, hcm, e4, eq_true q2, ↓nLetR, ↓reduceIte, ↓e_m1, ↓e_m2, e_0, e_1, e_2, e_3, e_4, e_5, e_6, e_7, e_8, e_9, e_10, e_11, e_12, e_13, e_14, e_15, e_16, e_17, e_18, e_19, e_20, e_21, e_22, e_23, e_24, e_25, e_26, e_27, e_28, e_29, e_30, e_31, e_32, e_33, e_48, e_57, e_59, e_60, e_63, e_64, e_96, e_97, e_99, e_120, e_122, e_192, e_200, e_255, e_256, e_300, e_500, e_600, e_2000, e_5000, e_5240, e_6146, e_20000, e_65536, nIo, nI_clamp, nIxt, nI_1, nI_add, nI_mul, nI_eqF, nI_ltT, nI_ltF, nI_leT, nI_leF, nN_lt0, nN_le, nN_lt, nN_eq, nN_eq', eq_self, nBdS]
      · rw [if_neg q2]
        simp (disch := first | omega | exact nM1_n | exact nM2_n | assumption) only [f_X8_mends, l_X8_mends_0, b_X8_mends_0, b_X8_refuse_0, l_X8_refuse_0, f_X8_refuse, t2', e5, eq_false q1, e3, hcm, e4, eq_false q2, ↓nLetR, ↓reduceIte, ↓e_m1, ↓e_m2, e_0, e_1, e_2, e_3, e_4, e_5, e_6, e_7, e_8, e_9, e_10, e_11, e_12, e_13, e_14, e_15, e_16, e_17, e_18, e_19, e_20, e_21, e_22, e_23, e_24, e_25, e_26, e_27, e_28, e_29, e_30, e_31, e_32, e_33, e_48, e_57, e_59, e_60, e_63, e_64, e_96, e_97, e_99, e_120, e_122, e_192, e_200, e_255, e_256, e_300, e_500, e_600, e_2000, e_5000, e_5240, e_6146, e_20000, e_65536, nIo, nI_clamp, nIxt, nI_1, nI_add, nI_mul, nI_eqF, nI_ltT, nI_ltF, nI_leT, nI_leF, nN_lt0, nN_le, nN_lt, nN_eq, nN_eq', eq_self, nBdS]
  generalize (A + A2) * pl = V at hmod hX8 hV
  have f57 : l_X8_mends_57 N σ = if y = 0 then some (nI 0, wr (wr (wr (wr (wr σ 19 0 (nI 0)) 19 1 nM1) 19 2 nM1) 19 3 nM1) 0 12 (nI 0)) else l_X8_mends_82 N (wr (wr (wr (wr σ 19 0 (nI 0)) 19 1 nM1) 19 2 nM1) 19 3 nM1) (nI 0) := by
    by_cases q : y = 0
    · rw [if_pos q]
      subst q
      simp (disch := first | omega | exact nM1_n | exact nM2_n | assumption) only [l_X8_mends_57, b_X8_mends_57, b_X1_forget_0, l_X1_forget_0, f_X1_forget, b_X8_accept_0, l_X8_accept_0, f_X8_accept, e5, ↓nLetR, ↓reduceIte, ↓e_m1, ↓e_m2, e_0, e_1, e_2, e_3, e_4, e_5, e_6, e_7, e_8, e_9, e_10, e_11, e_12, e_13, e_14, e_15, e_16, e_17, e_18, e_19, e_20, e_21, e_22, e_23, e_24, e_25, e_26, e_27, e_28, e_29, e_30, e_31, e_32, e_33, e_48, e_57, e_59, e_60, e_63, e_64, e_96, e_97, e_99, e_120, e_122, e_192, e_200, e_255, e_256, e_300, e_500, e_600, e_2000, e_5000, e_5240, e_6146, e_20000, e_65536, nIo, nI_clamp, nIxt, nI_1, nI_add, nI_mul, nI_eqF, nI_ltT, nI_ltF, nI_leT, nI_leF, nN_lt0, nN_le, nN_lt, nN_eq, nN_eq', eq_self, nBdS, wrs, wrk, wrc, wr2, wl1, wls, wlk, wlc]
    · rw [if_neg q]
      simp (disch := first | omega | exact nM1_n | exact nM2_n | assumption) only [l_X8_mends_57, b_X8_mends_57, b_X1_forget_0, l_X1_forget_0, f_X1_forget, e5, ↓nLetR, ↓reduceIte, ↓e_m1, ↓e_m2, e_0, e_1, e_2, e_3, e_4, e_5, e_6, e_7, e_8, e_9, e_10, e_11, e_12, e_13, e_14, e_15, e_16, e_17, e_18, e_19, e_20, e_21, e_22, e_23, e_24, e_25, e_26, e_27, e_28, e_29, e_30, e_31, e_32, e_33, e_48, e_57, e_59, e_60, e_63, e_64, e_96, e_97, e_99, e_120, e_122, e_192, e_200, e_255, e_256, e_300, e_500, e_600, e_2000, e_5000, e_5240, e_6146, e_20000, e_65536, nIo, nI_clamp, nIxt, nI_1, nI_add, nI_mul, nI_eqF, nI_ltT, nI_ltF, nI_leT, nI_leF, nN_lt0, nN_le, nN_lt, nN_eq, nN_eq', eq_self, nBdS, wrs, wrk, wrc, wr2, wl1, wls, wlk, wlc]
  have f161 : l_X11_mends_161 N (wr τ 0 0 (nI 0)) = l_X11_mends_168 N (wr (wr τ 0 0 (nI 0)) 0 57 (nI 0)) (nI 0) := by
    simp (disch := first | omega | exact nM1_n | exact nM2_n | assumption) only [l_X11_mends_161, b_X11_mends_161, ↓nLetR, ↓reduceIte, ↓e_m1, ↓e_m2, e_0, e_1, e_2, e_3, e_4, e_5, e_6, e_7, e_8, e_9, e_10, e_11, e_12, e_13, e_14, e_15, e_16, e_17, e_18, e_19, e_20, e_21, e_22, e_23, e_24, e_25, e_26, e_27, e_28, e_29, e_30, e_31, e_32, e_33, e_48, e_57, e_59, e_60, e_63, e_64, e_96, e_97, e_99, e_120, e_122, e_192, e_200, e_255, e_256, e_300, e_500, e_600, e_2000, e_5000, e_5240, e_6146, e_20000, e_65536, nIo, nI_clamp, nIxt, nI_1, nI_add, nI_mul, nI_eqF, nI_ltT, nI_ltF, nI_leT, nI_leF, nN_lt0, nN_le, nN_lt, nN_eq, nN_eq', eq_self, nBdS]
  by_cases hy0 : y = 0
  · subst hy0
    rw [if_pos (show nI 0 ≤ nI 0 from by decide), f161] at hmod
    rw [if_pos (show nI 0 ≤ nI 0 from by decide), f57, if_pos rfl] at hX8
    have z2' : τ.1 3 b = nI (sz b) := (h2 b hb).2.2.1
    have r1 : l_X11_mends_168 N (wr (wr τ 0 0 (nI 0)) 0 57 (nI 0)) (nI 0) = l_X11_mends_262 N (wr (wr τ 0 0 (nI 0)) 0 57 (nI 0)) (nI 0) := by
      unfold l_X11_mends_168
      rw [nLpP _ _ (by omega)]
      simp (disch := first | omega | exact nM1_n | exact nM2_n | assumption) only [b_X11_mends_168, l_X11_mends_260, b_X11_mends_260, e48, e50, z2', ↓nLetR, ↓reduceIte, ↓e_m1, ↓e_m2, e_0, e_1, e_2, e_3, e_4, e_5, e_6, e_7, e_8, e_9, e_10, e_11, e_12, e_13, e_14, e_15, e_16, e_17, e_18, e_19, e_20, e_21, e_22, e_23, e_24, e_25, e_26, e_27, e_28, e_29, e_30, e_31, e_32, e_33, e_48, e_57, e_59, e_60, e_63, e_64, e_96, e_97, e_99, e_120, e_122, e_192, e_200, e_255, e_256, e_300, e_500, e_600, e_2000, e_5000, e_5240, e_6146, e_20000, e_65536, nIo, nI_clamp, nIxt, nI_1, nI_add, nI_mul, nI_eqF, nI_ltT, nI_ltF, nI_leT, nI_leF, nN_lt0, nN_le, nN_lt, nN_eq, nN_eq', eq_self, nBdS, wrs, wrk, wrc, wr2, wl1, wls, wlk, wlc]
    have r2 : l_X11_mends_262 N (wr (wr τ 0 0 (nI 0)) 0 57 (nI 0)) (nI 0) = l_X11_mends_353 N (wr (wr τ 0 0 (nI 0)) 0 57 (nI 0)) := by
      unfold l_X11_mends_262
      rw [nLpP _ _ (by omega)]
      by_cases hP0 : P = 0
      · subst hP0
        simp (disch := first | omega | exact nM1_n | exact nM2_n | assumption) only [b_X11_mends_262, m2, e50, ↓nLetR, ↓reduceIte, ↓e_m1, ↓e_m2, e_0, e_1, e_2, e_3, e_4, e_5, e_6, e_7, e_8, e_9, e_10, e_11, e_12, e_13, e_14, e_15, e_16, e_17, e_18, e_19, e_20, e_21, e_22, e_23, e_24, e_25, e_26, e_27, e_28, e_29, e_30, e_31, e_32, e_33, e_48, e_57, e_59, e_60, e_63, e_64, e_96, e_97, e_99, e_120, e_122, e_192, e_200, e_255, e_256, e_300, e_500, e_600, e_2000, e_5000, e_5240, e_6146, e_20000, e_65536, nIo, nI_clamp, nIxt, nI_1, nI_add, nI_mul, nI_eqF, nI_ltT, nI_ltF, nI_leT, nI_leF, nN_lt0, nN_le, nN_lt, nN_eq, nN_eq', eq_self, nBdS, wrs, wrk, wrc, wr2, wl1, wls, wlk, wlc]
      · simp (disch := first | omega | exact nM1_n | exact nM2_n | assumption) only [b_X11_mends_262, m2, e50, ↓nLetR, ↓reduceIte, ↓e_m1, ↓e_m2, e_0, e_1, e_2, e_3, e_4, e_5, e_6, e_7, e_8, e_9, e_10, e_11, e_12, e_13, e_14, e_15, e_16, e_17, e_18, e_19, e_20, e_21, e_22, e_23, e_24, e_25, e_26, e_27, e_28, e_29, e_30, e_31, e_32, e_33, e_48, e_57, e_59, e_60, e_63, e_64, e_96, e_97, e_99, e_120, e_122, e_192, e_200, e_255, e_256, e_300, e_500, e_600, e_2000, e_5000, e_5240, e_6146, e_20000, e_65536, nIo, nI_clamp, nIxt, nI_1, nI_add, nI_mul, nI_eqF, nI_ltT, nI_ltF, nI_leT, nI_leF, nN_lt0, nN_le, nN_lt, nN_eq, nN_eq', eq_self, nBdS, wrs, wrk, wrc, wr2, wl1, wls, wlk, wlc]
    rw [r1, r2, m353 (c := 0) (by simp (disch := decide) only [wrs, wrk, wrc, wr2, wl1, wls, wlk, wlc]) (by decide), if_pos rfl] at hmod
    rw [hX8, hmod]
    refine pK rfl ⟨F, S, P, B, sz, T, ?_⟩
    simp (disch := decide) only [iI, wrs, wrk, wrc, wr2, wl1, wls, wlk, wlc]
    exact ⟨h1, h2, h3, h4.done, h5, h6, Or.inl ⟨rfl, rfl, rfl, rfl⟩, h8, h9, h10.up⟩
  · rw [if_neg (show ¬ nI y ≤ nI 0 from of_eq_false (nI_leF (by omega) (by omega)))] at hmod hX8
    by_cases hV2 : V ≤ 20000
    · have hle : nI V ≤ nI 20000 := of_eq_true (nI_leT (by omega) (by omega))
      rw [if_pos hle, f161] at hmod
      rw [if_pos hle, f57, if_neg hy0] at hX8
      have hH : hHs F S P B (wr (wr (wr (wr σ 19 0 (nI 0)) 19 1 nM1) 19 2 nM1) 19 3 nM1) (wr (wr τ 0 0 (nI 0)) 0 57 (nI 0)) := by simp (disch := decide) only [hHs, wrs, wrk, wrc, wr2, wl1, wls, wlk, wlc]; exact h1
      have hB' : hBk F S b (sz b) (wr (wr (wr (wr σ 19 0 (nI 0)) 19 1 nM1) 19 2 nM1) 19 3 nM1) (wr (wr τ 0 0 (nI 0)) 0 57 (nI 0)) := by
        obtain ⟨q1, q2, q3, q4⟩ := h2 b hb
        simp (disch := decide) only [hBk, wrs, wrk, wrc, wr2, wl1, wls, wlk, wlc]
        exact ⟨by omega, q1, q2, q3, q4⟩
      have hq : qA b pl (wr (wr (wr (wr σ 19 0 (nI 0)) 19 1 nM1) 19 2 nM1) 19 3 nM1) (wr (wr τ 0 0 (nI 0)) 0 57 (nI 0)) := by
        simp (disch := decide) only [qA, wrs, wrk, wrc, wr2, wl1, wls, wlk, wlc]
        exact ⟨e3, e4, e48, e49, hpl, hrow⟩
      obtain ⟨M, hM, k1, k2, k3⟩ := id h10
      have hk' : hMk M (wr (wr τ 0 0 (nI 0)) 0 57 (nI 0)) := by simp (disch := decide) only [hMk, wrs, wrk, wrc, wr2, wl1, wls, wlk, wlc]; exact ⟨k1, k2⟩
      have hR : cR 0 (wr (wr (wr (wr σ 19 0 (nI 0)) 19 1 nM1) 19 2 nM1) 19 3 nM1) (wr (wr τ 0 0 (nI 0)) 0 57 (nI 0)) := by
        refine ⟨0, Nat.le_refl 0, ?_, ?_, fun _ => ⟨?_, ?_, ?_⟩, fun h => absurd rfl h⟩
        · simp (disch := decide) only [wrs, wrk, wrc, wr2, wl1, wls, wlk, wlc]
        · simp (disch := decide) only [wrs, wrk, wrc, wr2, wl1, wls, wlk, wlc]
        · simp (disch := decide) only [wrs, wrk, wrc, wr2, wl1, wls, wlk, wlc]
        · simp (disch := decide) only [wrs, wrk, wrc, wr2, wl1, wls, wlk, wlc]
        · simp (disch := decide) only [wrs, wrk, wrc, wr2, wl1, wls, wlk, wlc]
      have h50 : (wr (wr τ 0 0 (nI 0)) 0 57 (nI 0)).1 0 50 = nI y := by simp (disch := decide) only [wrs, wrk, wrc, wr2, wl1, wls, wlk, wlc]; exact e50
      obtain ⟨M1, σ1, τ1, p1, p2, p3, p4, p5, p6⟩ := stp_go (N := N) (by omega) hH hB' hq h50 (by omega) (by omega) (sz b) 0 N N 0 M _ _ (by omega) (by omega) (by omega) (by omega) (by omega) mF.rf hR hk'
      obtain ⟨M2, σ2, τ2, q1, q2, q3, q4, q5, q6⟩ := ppl_go (N := N) (by omega) hH hB' hq h50 (by omega) (by omega) P 0 N N (0 + 48 * sz b) M1 σ1 τ1 (by omega) (by omega) (by omega) (by omega) (by omega) p3 p4 p5
      obtain ⟨c, hc, d1, d2, d3, d4⟩ := id q4
      have hX8' : f_X8_mends N σ = some (nI c, wr σ2 0 12 (nI 0)) := by
        rw [hX8]
        refine p1.trans (q1.trans ?_)
        rw [d1]
        simp (disch := first | omega | exact nM1_n | exact nM2_n | assumption) only [b_X8_accept_0, l_X8_accept_0, f_X8_accept, ↓nLetR, ↓reduceIte, ↓e_m1, ↓e_m2, e_0, e_1, e_2, e_3, e_4, e_5, e_6, e_7, e_8, e_9, e_10, e_11, e_12, e_13, e_14, e_15, e_16, e_17, e_18, e_19, e_20, e_21, e_22, e_23, e_24, e_25, e_26, e_27, e_28, e_29, e_30, e_31, e_32, e_33, e_48, e_57, e_59, e_60, e_63, e_64, e_96, e_97, e_99, e_120, e_122, e_192, e_200, e_255, e_256, e_300, e_500, e_600, e_2000, e_5000, e_5240, e_6146, e_20000, e_65536, nIo, nI_clamp, nIxt, nI_1, nI_add, nI_mul, nI_eqF, nI_ltT, nI_ltF, nI_leT, nI_leF, nN_lt0, nN_le, nN_lt, nN_eq, nN_eq', eq_self, nBdS]
      have hX11' : f_X11_mends N τ = some (nI c, wr (wr (wr τ2 0 56 (nI (if c = 0 then 0 else 1))) 0 1 (nI 0)) 0 2 nM1) := by
        rw [hmod]
        exact p2.trans (q2.trans (m353 d2 (by omega)))
      rw [hX8', hX11']
      refine pK rfl ⟨F, S, P, B, sz, T, ?_⟩
      have F1 : ∀ d, d ≠ 11 → d ≠ 19 → d ≠ 27 → d ≠ 29 → σ2.1 d = σ.1 d := fun d a1 a2 a3 a4 => by
        rw [q3.1 d a2 a3 a4 a1]
        simp (disch := omega) only [wrs, wrk, wrc, wr2, wl1, wls, wlk, wlc]
      have T1 : ∀ d, d ≠ 0 → d ≠ 12 → d ≠ 14 → d ≠ 22 → τ2.1 d = τ.1 d := fun d a1 a2 a3 a4 => by
        rw [q3.2.1 d a1 a2 a3 a4]
        simp (disch := omega) only [wrs, wrk, wrc, wr2, wl1, wls, wlk, wlc]
      have T0 : ∀ f, f ≠ 0 → (f < 31 ∨ 36 < f) → f ≠ 57 → τ2.1 0 f = τ.1 0 f := fun f a1 a2 a3 => by
        rw [q3.2.2 f a2 a3]
        simp (disch := omega) only [wrs, wrk, wrc, wr2, wl1, wls, wlk, wlc]
      simp (disch := decide) only [iI, wrs, wrk, wrc, wr2, wl1, wls, wlk, wlc, F1, T1, T0]
      refine ⟨h1, h2, h3, h4.done, h5, h6, ?_, h8, h9, ?_⟩
      · by_cases h0 : c = 0
        · rw [if_pos h0]
          exact Or.inl ⟨rfl, (d3 h0).1, (d3 h0).2.1, (d3 h0).2.2⟩
        · rw [if_neg h0]
          exact Or.inr ⟨rfl, (d4 h0).1, (d4 h0).2.1, (d4 h0).2.2⟩
      · refine ⟨M2, by omega, q5.1, q5.2, fun k hk => ?_⟩
        obtain ⟨z, hz, ez⟩ := k3 k hk
        exact ⟨z, by omega, ez⟩
    · have hle : ¬ nI V ≤ nI 20000 := of_eq_false (nI_leF (by omega) (by omega))
      rw [if_neg hle] at hmod hX8
      rw [hX8, hmod]
      refine pK rfl ⟨F, S, P, B, sz, T, ?_⟩
      simp (disch := decide) only [iI, wrs, wrk, wrc, wr2, wl1, wls, wlk, wlc]
      exact ⟨h1, h2, h3, h4.no 3 (by decide), h5, h6, h7, h8, h9, h10.up⟩
