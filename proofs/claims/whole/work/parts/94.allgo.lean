/-! ALL: the plays one after another -/
theorem lsR_fr {t u : Nat → Int32} {l : List Nat} (h : lsR t l) (e : u = t) : lsR u l := by rw [e]; exact h
theorem all_step {N F S P B b n i M : Nat} {W : List Nat} {σ0 τ0 σ τ : nS} (hN : 7000 ≤ N) (hM : M + 1 < 2 ^ 31) (hH : hHs F S P B σ0 τ0) (hB : hBk F S b n σ0 τ0) (hW : W.length ≤ 500) (hx : ∀ x, x ∈ W → x < 2 ^ 20) (hi : i < W.length) (hT : aT W b i σ τ) (hf : aF σ0 τ0 σ τ) (hk : hMk M τ) :
    ∃ σ2 τ2, (∀ again, b_X8_all_101 N again σ (nI b) (nI W.length) (nI i) = again σ2 (nI b) (nI W.length) (nI (i + 1))) ∧
      (∀ again, b_X11_all_171 N (l_X11_all_247 N (l_X11_all_257 N (l_X11_all_371 N again))) (l_X11_all_257 N (l_X11_all_371 N again)) (l_X11_all_361 N (l_X11_all_371 N again)) τ (nI b) (nI i) = again τ2 (nI b) (nI (i + 1))) ∧ aT W b (i + 1) σ2 τ2 ∧ aF σ0 τ0 σ2 τ2 ∧ hMk (M + 1) τ2 := by
  obtain ⟨⟨a1, a2, a3, a4, a5, a6⟩, ⟨b1, b2, b3⟩, c1, d1, ⟨y, hy, e1, e2, e3, e4⟩, g0, g1, g2, g6, g7⟩ := id hT
  have r1 := b2.at hi
  have r2 := b3.at hi
  have hxx := hx W[i] (List.getElem_mem hi)
  generalize W[i] = x at r1 r2 hxx
  have hf' : aF σ0 τ0 σ (wr τ 18 i (nI x)) := ⟨hf.1, fun d z1 z2 z3 z4 z5 z6 => by rw [wrc _ _ _ z4]; exact hf.2.1 d z1 z2 z3 z4 z5 z6, fun f z1 z2 => by rw [wrc _ _ _ (by decide)]; exact hf.2.2 f z1 z2⟩
  have hk' : hMk M (wr τ 18 i (nI x)) := by unfold hMk; simp (disch := decide) only [wrs, wrk, wrc, wr2, wl1, wls, wlk, wlc]; exact hk
  obtain ⟨e, σ1, τ1, p1, p2, he, z11, z32, ⟨t, ht, z8, z33⟩, _, _, _, zm, zf, zt, zg⟩ := try_is (N := N) hN hM (hf'.hs hH) (hf'.bk hB) hxx hk'
  have s1 : ∀ d, d ≠ 27 → d ≠ 29 → d ≠ 11 → σ1.1 d = σ.1 d := zf
  have t1 : ∀ d, d ≠ 0 → d ≠ 12 → d ≠ 14 → d ≠ 18 → τ1.1 d = τ.1 d := fun d q1 q2 q3 q4 => by rw [zt d q1 q2 q3, wrc _ _ _ q4]
  have t0 : ∀ f, (f < 31 ∨ 36 < f) → τ1.1 0 f = τ.1 0 f := fun f q => by rw [zg f q, wrc _ _ _ (by decide)]
  have t18 : τ1.1 18 = upd (τ.1 18) i (nI x) := by rw [zt 18 (by decide) (by decide) (by decide), wrf]
  have hrow : f_X5_rowAt N (nI i) σ = some (nI x, σ) := by simp (disch := first | omega | exact nM1_n | exact nM2_n | assumption) only [b_X5_rowAt_0, l_X5_rowAt_0, f_X5_rowAt, r1, ↓nLetR, ↓reduceIte, ↓e_m1, ↓e_m2, e_0, e_1, e_2, e_3, e_4, e_5, e_6, e_7, e_8, e_9, e_10, e_11, e_12, e_13, e_14, e_15, e_16, e_17, e_18, e_19, e_20, e_21, e_22, e_23, e_24, e_25, e_26, e_27, e_28, e_29, e_30, e_31, e_32, e_33, e_48, e_57, e_59, e_60, e_63, e_64, e_96, e_97, e_99, e_120, e_122, e_192, e_200, e_255, e_256, e_300, e_500, e_600, e_2000, e_5000, e_5240, e_6146, e_20000, e_65536, nIo, nI_clamp, nIxt, nI_1, nI_add, nI_mul, nI_eqF, nI_ltT, nI_ltF, nI_leT, nI_leF, nN_lt0, nN_le, nN_lt, nN_eq, nN_eq', eq_self, nBdS]
  have hcc : ∀ j, j < i + 1 → upd (τ.1 18) i (nI x) j = σ.1 17 j := fun j hj => by
    by_cases q : j = i
    · subst q; rw [pk_us, r1]
    · rw [pk_un q]; exact c1 j (by omega)
  have m16 := s1 16 (by decide) (by decide) (by decide)
  have m17 := s1 17 (by decide) (by decide) (by decide)
  have m18 := s1 18 (by decide) (by decide) (by decide)
  have n16 := t1 16 (by decide) (by decide) (by decide) (by decide)
  have n19 := t1 19 (by decide) (by decide) (by decide) (by decide)
  have n20 := t1 20 (by decide) (by decide) (by decide) (by decide)
  have kk := zm
  by_cases h0 : e = 0
  · subst h0
    refine ⟨cB 16 7 8 (cA 16 6 (wr σ1 18 0 (σ1.1 18 0 + nI 1)) (nI t)) (nI t) (nI i), cB 20 2 7 (cA 20 1 (wr τ1 19 0 (τ1.1 19 0 + nI 1)) (nI t)) (nI t) (nI i), fun again => ?_, fun again => ?_, ?_, ?_, ?_⟩
    · simp (disch := first | omega | exact nM1_n | exact nM2_n | assumption) only [b_X8_all_101, hrow, p1, z8, b_X5_add_23, b_X5_add_0, l_X5_add_23, l_X5_add_0, f_X5_add, calm_c, ↓nLetR, ↓reduceIte, ↓e_m1, ↓e_m2, e_0, e_1, e_2, e_3, e_4, e_5, e_6, e_7, e_8, e_9, e_10, e_11, e_12, e_13, e_14, e_15, e_16, e_17, e_18, e_19, e_20, e_21, e_22, e_23, e_24, e_25, e_26, e_27, e_28, e_29, e_30, e_31, e_32, e_33, e_48, e_57, e_59, e_60, e_63, e_64, e_96, e_97, e_99, e_120, e_122, e_192, e_200, e_255, e_256, e_300, e_500, e_600, e_2000, e_5000, e_5240, e_6146, e_20000, e_65536, nIo, nI_clamp, nIxt, nI_1, nI_add, nI_mul, nI_eqF, nI_ltT, nI_ltF, nI_leT, nI_leF, nN_lt0, nN_le, nN_lt, nN_eq, nN_eq', eq_self, nBdS, wrs, wrk, wrc, wr2, wl1, wls, wlk, wlc]
    · have := calm_m (N := N) (b := nI b) again (show i < 500 by omega) hW b1 hi r2 p2
      rw [z33] at this
      exact this
    · unfold aT
      refine ⟨⟨?_, ?_, ?_, ?_, ?_, ?_⟩, ⟨?_, ?_, ?_⟩, fun j hj => ?_, fun q hq => ?_, ⟨y, by omega, ?_, ?_, fun q => ?_, fun q => ?_⟩, ?_, ?_, ?_, ?_, ?_⟩
      · rw [cB_f (by decide) (by decide), cA_f (by decide), wrc _ _ _ (by decide), m16]; exact a1
      · rw [cB_f (by decide) (by decide), cA_f (by decide), wrc _ _ _ (by decide), m16]; exact a2
      · rw [cB_f (by decide) (by decide), cA_f (by decide), wrc _ _ _ (by decide), m16]; exact a3
      · rw [cB_d (by decide), cA_d (by decide), wrc _ _ _ (by decide), t0 47 (by decide)]; exact a4
      · rw [cB_d (by decide), cA_d (by decide), wrc _ _ _ (by decide), t0 48 (by decide)]; exact a5
      · rw [cB_d (by decide), cA_d (by decide), wrc _ _ _ (by decide), t0 49 (by decide)]; exact a6
      · rw [cB_d (by decide), cA_d (by decide), wrc _ _ _ (by decide), t0 46 (by decide)]; exact b1
      · rw [cB_d (by decide), cA_d (by decide), wrc _ _ _ (by decide), m17]; exact b2
      · rw [cB_d (by decide), cA_d (by decide), wrc _ _ _ (by decide), n16]; exact b3
      · rw [cB_d (by decide), cA_d (by decide), wrc _ _ _ (by decide), t18, cB_d (by decide), cA_d (by decide), wrc _ _ _ (by decide), m17]; exact hcc j hj
      · rw [cB_d (by decide), cA_d (by decide), cB_d (by decide), cA_d (by decide), n19, m18, d1 0 (by decide), wrf, wrf, n19, m18]
        by_cases q0 : q = 0
        · subst q0; rw [pk_us, pk_us]
        · rw [pk_un q0, pk_un q0]; exact d1 q hq
      · rw [cB_f (by decide) (by decide), cA_f (by decide), wrc _ _ _ (by decide), m16]; exact e1
      · rw [cB_d (by decide), cA_d (by decide), wrc _ _ _ (by decide), t0 50 (by decide)]; exact e2
      · rw [cB_f (by decide) (by decide), cA_f (by decide), wrc _ _ _ (by decide), cB_f (by decide) (by decide), cA_f (by decide), wrc _ _ _ (by decide), cB_f (by decide) (by decide), cA_f (by decide), wrc _ _ _ (by decide), n20]; exact e3 q
      · rw [cB_f (show 3 ≠ 2 by decide) (by decide), cA_f (by decide), wrc _ _ _ (by decide), cB_f (show 4 ≠ 2 by decide) (by decide), cA_f (by decide), wrc _ _ _ (by decide), cB_f (show 5 ≠ 2 by decide) (by decide), cA_f (by decide), wrc _ _ _ (by decide), n20, cB_f (show 9 ≠ 7 by decide) (by decide), cA_f (by decide), wrc _ _ _ (by decide), m16]; exact e4 q
      · rw [cB_f (by decide) (by decide), cA_f (by decide), wrc _ _ _ (by decide), n20]; exact g0
      · rw [cB_f (by decide) (by decide), cA_j, wrc _ _ _ (by decide), n20, cB_f (by decide) (by decide), cA_j, wrc _ _ _ (by decide), m16, g1]
      · rw [cB_j (by decide), cA_f (by decide), wrc _ _ _ (by decide), n20, cB_j (by decide), cA_f (by decide), wrc _ _ _ (by decide), m16, g2]
      · rw [cB_f (by decide) (by decide), cA_f (by decide), wrc _ _ _ (by decide), n20, cB_f (by decide) (by decide), cA_f (by decide), wrc _ _ _ (by decide), m16]; exact g6
      · rw [cB_l, cA_f (by decide), cA_f (by decide), wrc _ _ _ (by decide), n20, cB_l, cA_f (by decide), cA_f (by decide), wrc _ _ _ (by decide), m16, g2, g7]
    · refine ⟨fun d q1 q2 q3 q4 q5 => ?_, fun d q1 q2 q3 q4 q5 q6 => ?_, fun f q1 q2 => ?_⟩
      · rw [cB_d q1, cA_d q1, wrc _ _ _ q2, s1 d q3 q4 q5]; exact hf.1 d q1 q2 q3 q4 q5
      · rw [cB_d q6, cA_d q6, wrc _ _ _ q5, t1 d q1 q2 q3 q4]; exact hf.2.1 d q1 q2 q3 q4 q5 q6
      · rw [cB_d (by decide), cA_d (by decide), wrc _ _ _ (by decide), t0 f q1]; exact hf.2.2 f q1 q2
    · unfold hMk
      rw [cB_d (by decide), cA_d (by decide), wrc _ _ _ (by decide), cB_d (by decide), cA_d (by decide), wrc _ _ _ (by decide)]
      exact zm
  · by_cases hy0 : y = 0
    · subst hy0
      have f5 : σ1.1 16 5 = nI 0 := by rw [m16]; exact e1
      have f50 : τ1.1 0 50 = nI 0 := by rw [t0 50 (by decide)]; exact e2
      have h17 : σ1.1 17 i = nI x := by rw [m17]; exact r1
      have h16 : τ1.1 16 i = nI x := by rw [n16]; exact r2
      have h3 : x / 65536 % 256 = x / 65536 := by omega
      have hrow1 : f_X5_rowAt N (nI i) (wr σ1 18 e (σ1.1 18 e + nI 1)) = some (nI x, wr σ1 18 e (σ1.1 18 e + nI 1)) := by simp (disch := first | omega | exact nM1_n | exact nM2_n | assumption) only [b_X5_rowAt_0, l_X5_rowAt_0, f_X5_rowAt, h17, ↓nLetR, ↓reduceIte, ↓e_m1, ↓e_m2, e_0, e_1, e_2, e_3, e_4, e_5, e_6, e_7, e_8, e_9, e_10, e_11, e_12, e_13, e_14, e_15, e_16, e_17, e_18, e_19, e_20, e_21, e_22, e_23, e_24, e_25, e_26, e_27, e_28, e_29, e_30, e_31, e_32, e_33, e_48, e_57, e_59, e_60, e_63, e_64, e_96, e_97, e_99, e_120, e_122, e_192, e_200, e_255, e_256, e_300, e_500, e_600, e_2000, e_5000, e_5240, e_6146, e_20000, e_65536, nIo, nI_clamp, nIxt, nI_1, nI_add, nI_mul, nI_eqF, nI_ltT, nI_ltF, nI_leT, nI_leF, nN_lt0, nN_le, nN_lt, nN_eq, nN_eq', eq_self, nBdS, wrs, wrk, wrc, wr2, wl1, wls, wlk, wlc]
      refine ⟨wr (wr (wr (wr σ1 18 e (σ1.1 18 e + nI 1)) 16 9 (nI x)) 16 10 (nI e)) 16 5 (nI 1), wr (wr (wr (wr (wr (wr τ1 19 e (τ1.1 19 e + nI 1)) 20 3 (nI (x % 256))) 20 4 (nI (x / 256 % 256))) 20 5 (nI (x / 65536))) 20 6 (nI e)) 0 50 (nI 1), fun again => ?_, fun again => ?_, ?_, ?_, ?_⟩
      · simp (disch := first | omega | exact nM1_n | exact nM2_n | assumption) only [b_X8_all_101, hrow, p1, z8, b_X5_add_23, b_X5_add_0, l_X5_add_23, l_X5_add_0, f_X5_add, hrow1, f5, ↓nLetR, ↓reduceIte, ↓e_m1, ↓e_m2, e_0, e_1, e_2, e_3, e_4, e_5, e_6, e_7, e_8, e_9, e_10, e_11, e_12, e_13, e_14, e_15, e_16, e_17, e_18, e_19, e_20, e_21, e_22, e_23, e_24, e_25, e_26, e_27, e_28, e_29, e_30, e_31, e_32, e_33, e_48, e_57, e_59, e_60, e_63, e_64, e_96, e_97, e_99, e_120, e_122, e_192, e_200, e_255, e_256, e_300, e_500, e_600, e_2000, e_5000, e_5240, e_6146, e_20000, e_65536, nIo, nI_clamp, nIxt, nI_1, nI_add, nI_mul, nI_eqF, nI_ltT, nI_ltF, nI_leT, nI_leF, nN_lt0, nN_le, nN_lt, nN_eq, nN_eq', eq_self, nBdS, wrs, wrk, wrc, wr2, wl1, wls, wlk, wlc]
      · simp (disch := first | omega | exact nM1_n | exact nM2_n | assumption) only [b_X11_all_171, l_X11_all_361, l_X11_all_371, b_X11_all_361, b_X11_all_371, b1, r2, h16, p2, f50, row_8 hxx, row_16 hxx, row_0, ↓nLetR, ↓reduceIte, ↓e_m1, ↓e_m2, e_0, e_1, e_2, e_3, e_4, e_5, e_6, e_7, e_8, e_9, e_10, e_11, e_12, e_13, e_14, e_15, e_16, e_17, e_18, e_19, e_20, e_21, e_22, e_23, e_24, e_25, e_26, e_27, e_28, e_29, e_30, e_31, e_32, e_33, e_48, e_57, e_59, e_60, e_63, e_64, e_96, e_97, e_99, e_120, e_122, e_192, e_200, e_255, e_256, e_300, e_500, e_600, e_2000, e_5000, e_5240, e_6146, e_20000, e_65536, nIo, nI_clamp, nIxt, nI_1, nI_add, nI_mul, nI_eqF, nI_ltT, nI_ltF, nI_leT, nI_leF, nN_lt0, nN_le, nN_lt, nN_eq, nN_eq', eq_self, nBdS, wrs, wrk, wrc, wr2, wl1, wls, wlk, wlc]
      · unfold aT
        simp (disch := decide) only [wrs, wrk, wrc, wr2, wl1, wls, wlk, wlc, m16, m17, m18, n16, n19, n20, t18, t0 46 (by decide), t0 47 (by decide), t0 48 (by decide), t0 49 (by decide)]
        refine ⟨⟨a1, a2, a3, a4, a5, a6⟩, ⟨b1, b2, b3⟩, hcc, fun q hq => ?_, ⟨1, by omega, rfl, rfl, fun q => absurd q (by decide), fun _ => ⟨?_, ?_, ?_⟩⟩, g0, g1, g2, trivial, g7⟩
        · rw [wrf, wrf, n19, m18]
          by_cases q0 : q = e
          · subst q0; rw [pk_us, pk_us, d1 q hq]
          · rw [pk_un q0, pk_un q0]; exact d1 q hq
        · rw [row_0]
        · rw [row_8 hxx, row_0]
        · rw [row_16 hxx, row_0, h3]
      · refine ⟨fun d q1 q2 q3 q4 q5 => ?_, fun d q1 q2 q3 q4 q5 q6 => ?_, fun f q1 q2 => ?_⟩
        · simp (disch := omega) only [wrs, wrk, wrc, wr2, wl1, wls, wlk, wlc]; rw [s1 d q3 q4 q5]; exact hf.1 d q1 q2 q3 q4 q5
        · simp (disch := omega) only [wrs, wrk, wrc, wr2, wl1, wls, wlk, wlc]; rw [t1 d q1 q2 q3 q4]; exact hf.2.1 d q1 q2 q3 q4 q5 q6
        · simp (disch := omega) only [wrs, wrk, wrc, wr2, wl1, wls, wlk, wlc]; rw [t0 f q1]; exact hf.2.2 f q1 q2
      · unfold hMk
        simp (disch := decide) only [wrs, wrk, wrc, wr2, wl1, wls, wlk, wlc]
        exact zm
    · have f5 : σ1.1 16 5 = nI y := by rw [m16]; exact e1
      have f50 : τ1.1 0 50 = nI y := by rw [t0 50 (by decide)]; exact e2
      refine ⟨wr (wr σ1 18 e (σ1.1 18 e + nI 1)) 16 5 (nI (y + 1)), wr (wr τ1 19 e (τ1.1 19 e + nI 1)) 0 50 (nI (y + 1)), fun again => ?_, fun again => ?_, ?_, ?_, ?_⟩
      · simp (disch := first | omega | exact nM1_n | exact nM2_n | assumption) only [b_X8_all_101, hrow, p1, z8, b_X5_add_23, b_X5_add_0, l_X5_add_23, l_X5_add_0, f_X5_add, f5, ↓nLetR, ↓reduceIte, ↓e_m1, ↓e_m2, e_0, e_1, e_2, e_3, e_4, e_5, e_6, e_7, e_8, e_9, e_10, e_11, e_12, e_13, e_14, e_15, e_16, e_17, e_18, e_19, e_20, e_21, e_22, e_23, e_24, e_25, e_26, e_27, e_28, e_29, e_30, e_31, e_32, e_33, e_48, e_57, e_59, e_60, e_63, e_64, e_96, e_97, e_99, e_120, e_122, e_192, e_200, e_255, e_256, e_300, e_500, e_600, e_2000, e_5000, e_5240, e_6146, e_20000, e_65536, nIo, nI_clamp, nIxt, nI_1, nI_add, nI_mul, nI_eqF, nI_ltT, nI_ltF, nI_leT, nI_leF, nN_lt0, nN_le, nN_lt, nN_eq, nN_eq', eq_self, nBdS, wrs, wrk, wrc, wr2, wl1, wls, wlk, wlc]
      · simp (disch := first | omega | exact nM1_n | exact nM2_n | assumption) only [b_X11_all_171, l_X11_all_361, l_X11_all_371, b_X11_all_361, b_X11_all_371, b1, r2, p2, f50, ↓nLetR, ↓reduceIte, ↓e_m1, ↓e_m2, e_0, e_1, e_2, e_3, e_4, e_5, e_6, e_7, e_8, e_9, e_10, e_11, e_12, e_13, e_14, e_15, e_16, e_17, e_18, e_19, e_20, e_21, e_22, e_23, e_24, e_25, e_26, e_27, e_28, e_29, e_30, e_31, e_32, e_33, e_48, e_57, e_59, e_60, e_63, e_64, e_96, e_97, e_99, e_120, e_122, e_192, e_200, e_255, e_256, e_300, e_500, e_600, e_2000, e_5000, e_5240, e_6146, e_20000, e_65536, nIo, nI_clamp, nIxt, nI_1, nI_add, nI_mul, nI_eqF, nI_ltT, nI_ltF, nI_leT, nI_leF, nN_lt0, nN_le, nN_lt, nN_eq, nN_eq', eq_self, nBdS, wrs, wrk, wrc, wr2, wl1, wls, wlk, wlc]
      · unfold aT
        simp (disch := decide) only [wrs, wrk, wrc, wr2, wl1, wls, wlk, wlc, m16, m17, m18, n16, n19, n20, t18, t0 46 (by decide), t0 47 (by decide), t0 48 (by decide), t0 49 (by decide)]
        refine ⟨⟨a1, a2, a3, a4, a5, a6⟩, ⟨b1, b2, b3⟩, hcc, fun q hq => ?_, ⟨y + 1, by omega, rfl, rfl, fun q => absurd q (by omega), fun _ => e4 hy0⟩, g0, g1, g2, g6, g7⟩
        rw [wrf, wrf, n19, m18]
        by_cases q0 : q = e
        · subst q0; rw [pk_us, pk_us, d1 q hq]
        · rw [pk_un q0, pk_un q0]; exact d1 q hq
      · refine ⟨fun d q1 q2 q3 q4 q5 => ?_, fun d q1 q2 q3 q4 q5 q6 => ?_, fun f q1 q2 => ?_⟩
        · simp (disch := omega) only [wrs, wrk, wrc, wr2, wl1, wls, wlk, wlc]; rw [s1 d q3 q4 q5]; exact hf.1 d q1 q2 q3 q4 q5
        · simp (disch := omega) only [wrs, wrk, wrc, wr2, wl1, wls, wlk, wlc]; rw [t1 d q1 q2 q3 q4]; exact hf.2.1 d q1 q2 q3 q4 q5 q6
        · simp (disch := omega) only [wrs, wrk, wrc, wr2, wl1, wls, wlk, wlc]; rw [t0 f q1]; exact hf.2.2 f q1 q2
      · unfold hMk
        simp (disch := decide) only [wrs, wrk, wrc, wr2, wl1, wls, wlk, wlc]
        exact zm
theorem all_go {N F S P B b n : Nat} {W : List Nat} {σ0 τ0 : nS} (hN : 7000 ≤ N) (hH : hHs F S P B σ0 τ0) (hB : hBk F S b n σ0 τ0) (hW : W.length ≤ 500) (hx : ∀ x, x ∈ W → x < 2 ^ 20) : ∀ d i m m' M σ τ, i + d = W.length → d < m → d < m' → M + d + 1 < 2 ^ 31 → aT W b i σ τ → aF σ0 τ0 σ τ → hMk M τ →
    ∃ σ' τ', nLp (fun _ _ _ _ => none) (fun again => b_X8_all_101 N again) m σ (nI b) (nI W.length) (nI i) = f_X8_accept N (σ'.1 16 5) σ' ∧
      nLp (fun _ _ _ => none) (fun again => b_X11_all_171 N (l_X11_all_247 N (l_X11_all_257 N (l_X11_all_371 N again))) (l_X11_all_257 N (l_X11_all_371 N again)) (l_X11_all_361 N (l_X11_all_371 N again))) m' τ (nI b) (nI i) = f_X11_done N (τ'.1 0 50) τ' ∧ aT W b W.length σ' τ' ∧ aF σ0 τ0 σ' τ' ∧ hMk (M + d) τ' := by
  intro d
  induction d with
  | zero =>
    intro i m m' M σ τ hi hm hm' hM hT hf hk
    have hiW : i = W.length := by omega
    subst hiW
    refine ⟨σ, τ, ?_, ?_, hT, hf, hk⟩
    · rw [nLpP _ _ hm]
      simp (disch := first | omega | exact nM1_n | exact nM2_n | assumption) only [b_X8_all_101, nBdE, ↓nLetR, ↓reduceIte, ↓e_m1, ↓e_m2, e_0, e_1, e_2, e_3, e_4, e_5, e_6, e_7, e_8, e_9, e_10, e_11, e_12, e_13, e_14, e_15, e_16, e_17, e_18, e_19, e_20, e_21, e_22, e_23, e_24, e_25, e_26, e_27, e_28, e_29, e_30, e_31, e_32, e_33, e_48, e_57, e_59, e_60, e_63, e_64, e_96, e_97, e_99, e_120, e_122, e_192, e_200, e_255, e_256, e_300, e_500, e_600, e_2000, e_5000, e_5240, e_6146, e_20000, e_65536, nIo, nI_clamp, nIxt, nI_1, nI_add, nI_mul, nI_eqF, nI_ltT, nI_ltF, nI_leT, nI_leF, nN_lt0, nN_le, nN_lt, nN_eq, nN_eq', eq_self, nBdS]
    · rw [nLpP _ _ hm']
      simp (disch := first | omega | exact nM1_n | exact nM2_n | assumption) only [b_X11_all_171, hT.2.1.1, nBdE, ↓nLetR, ↓reduceIte, ↓e_m1, ↓e_m2, e_0, e_1, e_2, e_3, e_4, e_5, e_6, e_7, e_8, e_9, e_10, e_11, e_12, e_13, e_14, e_15, e_16, e_17, e_18, e_19, e_20, e_21, e_22, e_23, e_24, e_25, e_26, e_27, e_28, e_29, e_30, e_31, e_32, e_33, e_48, e_57, e_59, e_60, e_63, e_64, e_96, e_97, e_99, e_120, e_122, e_192, e_200, e_255, e_256, e_300, e_500, e_600, e_2000, e_5000, e_5240, e_6146, e_20000, e_65536, nIo, nI_clamp, nIxt, nI_1, nI_add, nI_mul, nI_eqF, nI_ltT, nI_ltF, nI_leT, nI_leF, nN_lt0, nN_le, nN_lt, nN_eq, nN_eq', eq_self, nBdS]
  | succ d ih =>
    intro i m m' M σ τ hi hm hm' hM hT hf hk
    obtain ⟨σ2, τ2, s1, s2, s3, s4, s5⟩ := all_step (N := N) hN (by omega) hH hB hW hx (by omega) hT hf hk
    obtain ⟨σ', τ', g1, g2, g3, g4, g5⟩ := ih (i + 1) (m - 1) (m' - 1) (M + 1) σ2 τ2 (by omega) (by omega) (by omega) (by omega) s3 s4 s5
    refine ⟨σ', τ', ?_, ?_, g3, g4, by rw [show M + (d + 1) = M + 1 + d by omega]; exact g5⟩
    · rw [nLpP _ _ (by omega), s1]; exact g1
    · rw [nLpP _ _ (by omega), s2]; exact g2
