/-! TWO NIGHTS: the call -/
def bgn (q : Nat) (b x l : Int32) (τ : nS) : nS := wr (wr (wr (wr (wr (wr (wr (wr (wr τ q 0 b) q 3 x) q 4 l) q 1 (nI 0)) q 5 nM1) q 7 (nI 0)) q 8 (nI 0)) q 9 (nI 0)) q 10 (nI 0)
theorem bgn_is {N q : Nat} {b x l : Int32} {τ : nS} : f_X9_begin N q b x l τ = some (nI 0, bgn q b x l τ) := by
  unfold bgn
  simp (disch := first | omega | exact nM1_n | exact nM2_n | assumption) only [b_X9_begin_0, l_X9_begin_0, f_X9_begin, ↓nLetR, ↓reduceIte, ↓e_m1, ↓e_m2, e_0, e_1, e_2, e_3, e_4, e_5, e_6, e_7, e_8, e_9, e_10, e_11, e_12, e_13, e_14, e_15, e_16, e_17, e_18, e_19, e_20, e_21, e_22, e_23, e_24, e_25, e_26, e_27, e_28, e_29, e_30, e_31, e_32, e_33, e_48, e_57, e_59, e_60, e_63, e_64, e_96, e_97, e_99, e_120, e_122, e_192, e_200, e_255, e_256, e_300, e_500, e_600, e_2000, e_5000, e_5240, e_6146, e_20000, e_65536, nIo, nI_clamp, nIxt, nI_1, nI_add, nI_mul, nI_eqF, nI_ltT, nI_ltF, nI_leT, nI_leF, nN_lt0, nN_le, nN_lt, nN_eq, nN_eq', eq_self, nBdS]
theorem nb_go {N : Nat} (x1 x2 x3 x4 x5 x6 x7 : Int32) : ∀ d p m τ, p + d = 4 → d < m → ∃ τ', nLp (fun _ _ _ _ _ _ _ _ _ => none) (fun again => b_X11_nights_68 N again (l_X11_nights_124 N)) m τ x1 x2 x3 x4 x5 x6 x7 (nI p) = b_X11_nights_68 N (fun _ _ _ _ _ _ _ _ _ => none) (l_X11_nights_124 N) τ' x1 x2 x3 x4 x5 x6 x7 (nI 4) ∧ (∀ j, p ≤ j → j < 4 → τ'.1 25 j = nI 0) ∧ (∀ j, j < p → τ'.1 25 j = τ.1 25 j) ∧ ∀ d, d ≠ 25 → τ'.1 d = τ.1 d := by
  intro d
  induction d with
  | zero =>
    intro p m τ hp hm
    have : p = 4 := by omega
    subst this
    refine ⟨τ, ?_, fun j h1 h2 => absurd h2 (by omega), fun j h => rfl, fun d h => rfl⟩
    rw [nLpP _ _ hm]
    unfold b_X11_nights_68
    rw [if_pos (show (4 : Int32) ≤ nI 4 from by decide), if_pos (show (4 : Int32) ≤ nI 4 from by decide)]
  | succ d ih =>
    intro p m τ hp hm
    obtain ⟨τ', e1, e2, e3, e4⟩ := ih (p + 1) (m - 1) (wr τ 25 p (nI 0)) (by omega) (by omega)
    refine ⟨τ', ?_, fun j h1 h2 => ?_, fun j h => ?_, fun d h => ?_⟩
    · rw [nLpP _ _ (by omega), ← e1]
      simp (disch := first | omega | exact nM1_n | exact nM2_n | assumption) only [b_X11_nights_68, ↓nLetR, ↓reduceIte, ↓e_m1, ↓e_m2, e_0, e_1, e_2, e_3, e_4, e_5, e_6, e_7, e_8, e_9, e_10, e_11, e_12, e_13, e_14, e_15, e_16, e_17, e_18, e_19, e_20, e_21, e_22, e_23, e_24, e_25, e_26, e_27, e_28, e_29, e_30, e_31, e_32, e_33, e_48, e_57, e_59, e_60, e_63, e_64, e_96, e_97, e_99, e_120, e_122, e_192, e_200, e_255, e_256, e_300, e_500, e_600, e_2000, e_5000, e_5240, e_6146, e_20000, e_65536, nIo, nI_clamp, nIxt, nI_1, nI_add, nI_mul, nI_eqF, nI_ltT, nI_ltF, nI_leT, nI_leF, nN_lt0, nN_le, nN_lt, nN_eq, nN_eq', eq_self, nBdS]
    · by_cases hj : j = p
      · subst hj
        rw [e3 j (by omega), wrs]
      · exact e2 j (by omega) h2
    · rw [e3 j (by omega), wrk _ _ _ (by omega)]
    · rw [e4 d h, wrc _ _ _ h]
theorem pOp20 (N : Nat) (hN : 10000 ≤ N) : nOp20 N nInv := by
  intro n σ τ x1 x2 x3 x4 x5 x6 x7 hn hI
  obtain ⟨F, S, P, B, sz, T, h1, h2, h3, h4, h5, h6, h7, h8, h9, h10⟩ := hI
  obtain ⟨⟨b1, b2, b3, b4⟩, ⟨w0, w1, w2, w3⟩, ⟨m0, m1, m2, m3⟩, hg, hs, hk⟩ := id h1
  have m3' : (wr τ 0 0 (nI 0)).1 0 7 = nI B := by simp (disch := decide) only [wrs, wrk, wrc, wr2, wl1, wls, wlk, wlc]; exact m3
  rcases book_cs x1 B with hb | ⟨b, hb, rfl⟩
  · simp (disch := first | omega | exact nM1_n | exact nM2_n | assumption) only [f_X8_nights, l_X8_nights_0, b_X8_nights_0, b_X8_refuse_0, l_X8_refuse_0, f_X8_refuse, b_X11_refused_0, l_X11_refused_0, f_X11_refused, f_X11_nights, l_X11_nights_0, b_X11_nights_0, hasB_n b4 w3 hb, isB_n b4 m3' hb, ↓nLetR, ↓reduceIte, ↓e_m1, ↓e_m2, e_0, e_1, e_2, e_3, e_4, e_5, e_6, e_7, e_8, e_9, e_10, e_11, e_12, e_13, e_14, e_15, e_16, e_17, e_18, e_19, e_20, e_21, e_22, e_23, e_24, e_25, e_26, e_27, e_28, e_29, e_30, e_31, e_32, e_33, e_48, e_57, e_59, e_60, e_63, e_64, e_96, e_97, e_99, e_120, e_122, e_192, e_200, e_255, e_256, e_300, e_500, e_600, e_2000, e_5000, e_5240, e_6146, e_20000, e_65536, nIo, nI_clamp, nIxt, nI_1, nI_add, nI_mul, nI_eqF, nI_ltT, nI_ltF, nI_leT, nI_leF, nN_lt0, nN_le, nN_lt, nN_eq, nN_eq', eq_self, nBdS, wrs, wrk, wrc, wr2, wl1, wls, wlk, wlc]
    refine pK rfl ⟨F, S, P, B, sz, T, ?_⟩
    simp (disch := decide) only [iI, wrs, wrk, wrc, wr2, wl1, wls, wlk, wlc]
    exact ⟨h1, h2, h3, h4.no 1 (by decide), h5, h6, h7, h8, h9, h10.up⟩
  rcases book_cs x4 B with hbb | ⟨bb, hbb, rfl⟩
  · simp (disch := first | omega | exact nM1_n | exact nM2_n | assumption) only [f_X8_nights, l_X8_nights_0, b_X8_nights_0, b_X8_refuse_0, l_X8_refuse_0, f_X8_refuse, b_X11_refused_0, l_X11_refused_0, f_X11_refused, f_X11_nights, l_X11_nights_0, b_X11_nights_0, hasB_y b4 w3 hb, isB_y b4 m3' hb, hasB_n b4 w3 hbb, isB_n b4 m3' hbb, ↓nLetR, ↓reduceIte, ↓e_m1, ↓e_m2, e_0, e_1, e_2, e_3, e_4, e_5, e_6, e_7, e_8, e_9, e_10, e_11, e_12, e_13, e_14, e_15, e_16, e_17, e_18, e_19, e_20, e_21, e_22, e_23, e_24, e_25, e_26, e_27, e_28, e_29, e_30, e_31, e_32, e_33, e_48, e_57, e_59, e_60, e_63, e_64, e_96, e_97, e_99, e_120, e_122, e_192, e_200, e_255, e_256, e_300, e_500, e_600, e_2000, e_5000, e_5240, e_6146, e_20000, e_65536, nIo, nI_clamp, nIxt, nI_1, nI_add, nI_mul, nI_eqF, nI_ltT, nI_ltF, nI_leT, nI_leF, nN_lt0, nN_le, nN_lt, nN_eq, nN_eq', eq_self, nBdS, wrs, wrk, wrc, wr2, wl1, wls, wlk, wlc]
    refine pK rfl ⟨F, S, P, B, sz, T, ?_⟩
    simp (disch := decide) only [iI, wrs, wrk, wrc, wr2, wl1, wls, wlk, wlc]
    exact ⟨h1, h2, h3, h4.no 1 (by decide), h5, h6, h7, h8, h9, h10.up⟩
  rcases bits_cs x2 with hx | ⟨x, hx, rfl⟩
  · simp (disch := first | omega | exact nM1_n | exact nM2_n | assumption) only [f_X8_nights, l_X8_nights_0, b_X8_nights_0, b_X8_refuse_0, l_X8_refuse_0, f_X8_refuse, b_X11_refused_0, l_X11_refused_0, f_X11_refused, f_X11_nights, l_X11_nights_0, b_X11_nights_0, hasB_y b4 w3 hb, isB_y b4 m3' hb, hasB_y b4 w3 hbb, isB_y b4 m3' hbb, areB_n hx, ab3_n (Or.inl hx), ↓nLetR, ↓reduceIte, ↓e_m1, ↓e_m2, e_0, e_1, e_2, e_3, e_4, e_5, e_6, e_7, e_8, e_9, e_10, e_11, e_12, e_13, e_14, e_15, e_16, e_17, e_18, e_19, e_20, e_21, e_22, e_23, e_24, e_25, e_26, e_27, e_28, e_29, e_30, e_31, e_32, e_33, e_48, e_57, e_59, e_60, e_63, e_64, e_96, e_97, e_99, e_120, e_122, e_192, e_200, e_255, e_256, e_300, e_500, e_600, e_2000, e_5000, e_5240, e_6146, e_20000, e_65536, nIo, nI_clamp, nIxt, nI_1, nI_add, nI_mul, nI_eqF, nI_ltT, nI_ltF, nI_leT, nI_leF, nN_lt0, nN_le, nN_lt, nN_eq, nN_eq', eq_self, nBdS, wrs, wrk, wrc, wr2, wl1, wls, wlk, wlc]
    refine pK rfl ⟨F, S, P, B, sz, T, ?_⟩
    simp (disch := decide) only [iI, wrs, wrk, wrc, wr2, wl1, wls, wlk, wlc]
    exact ⟨h1, h2, h3, h4.no 2 (by decide), h5, h6, h7, h8, h9, h10.up⟩
  rcases bits_cs x3 with hly | ⟨ly, hly, rfl⟩
  · simp (disch := first | omega | exact nM1_n | exact nM2_n | assumption) only [f_X8_nights, l_X8_nights_0, b_X8_nights_0, b_X8_refuse_0, l_X8_refuse_0, f_X8_refuse, b_X11_refused_0, l_X11_refused_0, f_X11_refused, f_X11_nights, l_X11_nights_0, b_X11_nights_0, hasB_y b4 w3 hb, isB_y b4 m3' hb, hasB_y b4 w3 hbb, isB_y b4 m3' hbb, areB_y hx, areB_n hly, ab3_n (Or.inr ⟨⟨x, hx, rfl⟩, Or.inl hly⟩), ↓nLetR, ↓reduceIte, ↓e_m1, ↓e_m2, e_0, e_1, e_2, e_3, e_4, e_5, e_6, e_7, e_8, e_9, e_10, e_11, e_12, e_13, e_14, e_15, e_16, e_17, e_18, e_19, e_20, e_21, e_22, e_23, e_24, e_25, e_26, e_27, e_28, e_29, e_30, e_31, e_32, e_33, e_48, e_57, e_59, e_60, e_63, e_64, e_96, e_97, e_99, e_120, e_122, e_192, e_200, e_255, e_256, e_300, e_500, e_600, e_2000, e_5000, e_5240, e_6146, e_20000, e_65536, nIo, nI_clamp, nIxt, nI_1, nI_add, nI_mul, nI_eqF, nI_ltT, nI_ltF, nI_leT, nI_leF, nN_lt0, nN_le, nN_lt, nN_eq, nN_eq', eq_self, nBdS, wrs, wrk, wrc, wr2, wl1, wls, wlk, wlc]
    refine pK rfl ⟨F, S, P, B, sz, T, ?_⟩
    simp (disch := decide) only [iI, wrs, wrk, wrc, wr2, wl1, wls, wlk, wlc]
    exact ⟨h1, h2, h3, h4.no 2 (by decide), h5, h6, h7, h8, h9, h10.up⟩
  rcases bits_cs x5 with hy | ⟨y, hy, rfl⟩
  · rcases bits_cs x7 with haw | ⟨aw, haw, rfl⟩
    · simp (disch := first | omega | exact nM1_n | exact nM2_n | assumption) only [f_X8_nights, l_X8_nights_0, b_X8_nights_0, b_X8_refuse_0, l_X8_refuse_0, f_X8_refuse, b_X11_refused_0, l_X11_refused_0, f_X11_refused, f_X11_nights, l_X11_nights_0, b_X11_nights_0, hasB_y b4 w3 hb, isB_y b4 m3' hb, hasB_y b4 w3 hbb, isB_y b4 m3' hbb, areB_y hx, areB_y hly, areB_n hy, ab3_n (Or.inr ⟨⟨x, hx, rfl⟩, Or.inr ⟨⟨ly, hly, rfl⟩, haw⟩⟩), ↓nLetR, ↓reduceIte, ↓e_m1, ↓e_m2, e_0, e_1, e_2, e_3, e_4, e_5, e_6, e_7, e_8, e_9, e_10, e_11, e_12, e_13, e_14, e_15, e_16, e_17, e_18, e_19, e_20, e_21, e_22, e_23, e_24, e_25, e_26, e_27, e_28, e_29, e_30, e_31, e_32, e_33, e_48, e_57, e_59, e_60, e_63, e_64, e_96, e_97, e_99, e_120, e_122, e_192, e_200, e_255, e_256, e_300, e_500, e_600, e_2000, e_5000, e_5240, e_6146, e_20000, e_65536, nIo, nI_clamp, nIxt, nI_1, nI_add, nI_mul, nI_eqF, nI_ltT, nI_ltF, nI_leT, nI_leF, nN_lt0, nN_le, nN_lt, nN_eq, nN_eq', eq_self, nBdS, wrs, wrk, wrc, wr2, wl1, wls, wlk, wlc]
      refine pK rfl ⟨F, S, P, B, sz, T, ?_⟩
      simp (disch := decide) only [iI, wrs, wrk, wrc, wr2, wl1, wls, wlk, wlc]
      exact ⟨h1, h2, h3, h4.no 2 (by decide), h5, h6, h7, h8, h9, h10.up⟩
    · simp (disch := first | omega | exact nM1_n | exact nM2_n | assumption) only [f_X8_nights, l_X8_nights_0, b_X8_nights_0, b_X8_refuse_0, l_X8_refuse_0, f_X8_refuse, b_X11_refused_0, l_X11_refused_0, f_X11_refused, f_X11_nights, l_X11_nights_0, b_X11_nights_0, hasB_y b4 w3 hb, isB_y b4 m3' hb, hasB_y b4 w3 hbb, isB_y b4 m3' hbb, areB_y hx, areB_y hly, areB_n hy, ab3_y hx hly haw, ab3_n (Or.inl hy), ↓nLetR, ↓reduceIte, ↓e_m1, ↓e_m2, e_0, e_1, e_2, e_3, e_4, e_5, e_6, e_7, e_8, e_9, e_10, e_11, e_12, e_13, e_14, e_15, e_16, e_17, e_18, e_19, e_20, e_21, e_22, e_23, e_24, e_25, e_26, e_27, e_28, e_29, e_30, e_31, e_32, e_33, e_48, e_57, e_59, e_60, e_63, e_64, e_96, e_97, e_99, e_120, e_122, e_192, e_200, e_255, e_256, e_300, e_500, e_600, e_2000, e_5000, e_5240, e_6146, e_20000, e_65536, nIo, nI_clamp, nIxt, nI_1, nI_add, nI_mul, nI_eqF, nI_ltT, nI_ltF, nI_leT, nI_leF, nN_lt0, nN_le, nN_lt, nN_eq, nN_eq', eq_self, nBdS, wrs, wrk, wrc, wr2, wl1, wls, wlk, wlc]
      refine pK rfl ⟨F, S, P, B, sz, T, ?_⟩
      simp (disch := decide) only [iI, wrs, wrk, wrc, wr2, wl1, wls, wlk, wlc]
      exact ⟨h1, h2, h3, h4.no 2 (by decide), h5, h6, h7, h8, h9, h10.up⟩
  rcases bits_cs x6 with hlz | ⟨lz, hlz, rfl⟩
  · rcases bits_cs x7 with haw | ⟨aw, haw, rfl⟩
    · simp (disch := first | omega | exact nM1_n | exact nM2_n | assumption) only [f_X8_nights, l_X8_nights_0, b_X8_nights_0, b_X8_refuse_0, l_X8_refuse_0, f_X8_refuse, b_X11_refused_0, l_X11_refused_0, f_X11_refused, f_X11_nights, l_X11_nights_0, b_X11_nights_0, hasB_y b4 w3 hb, isB_y b4 m3' hb, hasB_y b4 w3 hbb, isB_y b4 m3' hbb, areB_y hx, areB_y hly, areB_y hy, areB_n hlz, ab3_n (Or.inr ⟨⟨x, hx, rfl⟩, Or.inr ⟨⟨ly, hly, rfl⟩, haw⟩⟩), ↓nLetR, ↓reduceIte, ↓e_m1, ↓e_m2, e_0, e_1, e_2, e_3, e_4, e_5, e_6, e_7, e_8, e_9, e_10, e_11, e_12, e_13, e_14, e_15, e_16, e_17, e_18, e_19, e_20, e_21, e_22, e_23, e_24, e_25, e_26, e_27, e_28, e_29, e_30, e_31, e_32, e_33, e_48, e_57, e_59, e_60, e_63, e_64, e_96, e_97, e_99, e_120, e_122, e_192, e_200, e_255, e_256, e_300, e_500, e_600, e_2000, e_5000, e_5240, e_6146, e_20000, e_65536, nIo, nI_clamp, nIxt, nI_1, nI_add, nI_mul, nI_eqF, nI_ltT, nI_ltF, nI_leT, nI_leF, nN_lt0, nN_le, nN_lt, nN_eq, nN_eq', eq_self, nBdS, wrs, wrk, wrc, wr2, wl1, wls, wlk, wlc]
      refine pK rfl ⟨F, S, P, B, sz, T, ?_⟩
      simp (disch := decide) only [iI, wrs, wrk, wrc, wr2, wl1, wls, wlk, wlc]
      exact ⟨h1, h2, h3, h4.no 2 (by decide), h5, h6, h7, h8, h9, h10.up⟩
    · simp (disch := first | omega | exact nM1_n | exact nM2_n | assumption) only [f_X8_nights, l_X8_nights_0, b_X8_nights_0, b_X8_refuse_0, l_X8_refuse_0, f_X8_refuse, b_X11_refused_0, l_X11_refused_0, f_X11_refused, f_X11_nights, l_X11_nights_0, b_X11_nights_0, hasB_y b4 w3 hb, isB_y b4 m3' hb, hasB_y b4 w3 hbb, isB_y b4 m3' hbb, areB_y hx, areB_y hly, areB_y hy, areB_n hlz, ab3_y hx hly haw, ab3_n (Or.inr ⟨⟨y, hy, rfl⟩, Or.inl hlz⟩), ↓nLetR, ↓reduceIte, ↓e_m1, ↓e_m2, e_0, e_1, e_2, e_3, e_4, e_5, e_6, e_7, e_8, e_9, e_10, e_11, e_12, e_13, e_14, e_15, e_16, e_17, e_18, e_19, e_20, e_21, e_22, e_23, e_24, e_25, e_26, e_27, e_28, e_29, e_30, e_31, e_32, e_33, e_48, e_57, e_59, e_60, e_63, e_64, e_96, e_97, e_99, e_120, e_122, e_192, e_200, e_255, e_256, e_300, e_500, e_600, e_2000, e_5000, e_5240, e_6146, e_20000, e_65536, nIo, nI_clamp, nIxt, nI_1, nI_add, nI_mul, nI_eqF, nI_ltT, nI_ltF, nI_leT, nI_leF, nN_lt0, nN_le, nN_lt, nN_eq, nN_eq', eq_self, nBdS, wrs, wrk, wrc, wr2, wl1, wls, wlk, wlc]
      refine pK rfl ⟨F, S, P, B, sz, T, ?_⟩
      simp (disch := decide) only [iI, wrs, wrk, wrc, wr2, wl1, wls, wlk, wlc]
      exact ⟨h1, h2, h3, h4.no 2 (by decide), h5, h6, h7, h8, h9, h10.up⟩
  rcases bits_cs x7 with haw | ⟨aw, haw, rfl⟩
  · simp (disch := first | omega | exact nM1_n | exact nM2_n | assumption) only [f_X8_nights, l_X8_nights_0, b_X8_nights_0, b_X8_refuse_0, l_X8_refuse_0, f_X8_refuse, b_X11_refused_0, l_X11_refused_0, f_X11_refused, f_X11_nights, l_X11_nights_0, b_X11_nights_0, hasB_y b4 w3 hb, isB_y b4 m3' hb, hasB_y b4 w3 hbb, isB_y b4 m3' hbb, areB_y hx, areB_y hly, areB_y hy, areB_y hlz, areB_n haw, ab3_n (Or.inr ⟨⟨x, hx, rfl⟩, Or.inr ⟨⟨ly, hly, rfl⟩, haw⟩⟩), ↓nLetR, ↓reduceIte, ↓e_m1, ↓e_m2, e_0, e_1, e_2, e_3, e_4, e_5, e_6, e_7, e_8, e_9, e_10, e_11, e_12, e_13, e_14, e_15, e_16, e_17, e_18, e_19, e_20, e_21, e_22, e_23, e_24, e_25, e_26, e_27, e_28, e_29, e_30, e_31, e_32, e_33, e_48, e_57, e_59, e_60, e_63, e_64, e_96, e_97, e_99, e_120, e_122, e_192, e_200, e_255, e_256, e_300, e_500, e_600, e_2000, e_5000, e_5240, e_6146, e_20000, e_65536, nIo, nI_clamp, nIxt, nI_1, nI_add, nI_mul, nI_eqF, nI_ltT, nI_ltF, nI_leT, nI_leF, nN_lt0, nN_le, nN_lt, nN_eq, nN_eq', eq_self, nBdS, wrs, wrk, wrc, wr2, wl1, wls, wlk, wlc]
    refine pK rfl ⟨F, S, P, B, sz, T, ?_⟩
    simp (disch := decide) only [iI, wrs, wrk, wrc, wr2, wl1, wls, wlk, wlc]
    exact ⟨h1, h2, h3, h4.no 2 (by decide), h5, h6, h7, h8, h9, h10.up⟩
  obtain ⟨M, hM, k1, k2, k3⟩ := id h10
  obtain ⟨σ1, s1, ⟨p2, p3, p4, p5, p6, p7, p8, p9, p10, p11⟩, p12, p13, p14⟩ := start_is (N := N) (w := 30) (F := F) (x := x) (by omega) (nI b) (nI ly) (nI aw) (by decide) b1 hx w0
  obtain ⟨σ2, s2, ⟨q2, q3, q4, q5, q6, q7, q8, q9, q10, q11⟩, q12, q13, q14⟩ := start_is (N := N) (w := 33) (F := F) (x := y) (by omega) (nI bb) (nI lz) (nI aw) (by decide) b1 hy (show σ1.1 1 0 = nI F by rw [p13 1 (by decide)]; exact w0)
  obtain ⟨σ3, s3, r1, r2, r3⟩ := rest_is (N := N) (by omega) σ2
  obtain ⟨τ1, t1, t2, _, t4⟩ := nb_go (N := N) (nI b) (nI x) (nI ly) (nI bb) (nI y) (nI lz) (nI aw) 4 0 N (wr (wr τ 0 0 (nI 0)) 0 31 (nI (M + 1))) (by omega) (by omega)
  have mx := mk_and F (by omega) x hx
  have my := mk_and F (by omega) y hy
  have f4 : τ1.1 0 4 = nI F := by rw [t4 0 (by decide)]; simp (disch := decide) only [wrs, wrk, wrc, wr2, wl1, wls, wlk, wlc]; exact m0
  have f4' : (bgn 23 (nI b) (nI (x % 2 ^ F)) (nI ly) τ1).1 0 4 = nI F := by unfold bgn; simp (disch := decide) only [wrs, wrk, wrc, wr2, wl1, wls, wlk, wlc]; exact f4
  have t5 : b_X11_nights_68 N (fun _ _ _ _ _ _ _ _ _ => none) (l_X11_nights_124 N) τ1 (nI b) (nI x) (nI ly) (nI bb) (nI y) (nI lz) (nI aw) (nI 4) = l_X11_nights_124 N (bgn 24 (nI bb) (nI (y % 2 ^ F)) (nI lz) (bgn 23 (nI b) (nI (x % 2 ^ F)) (nI ly) τ1)) (nI aw) (nI 0) := by
    simp (disch := first | omega | exact nM1_n | exact nM2_n | assumption) only [b_X11_nights_68, b_X11_allFacts_0, l_X11_allFacts_0, f_X11_allFacts, f4, f4', mx, my, bgn_is, ↓nLetR, ↓reduceIte, ↓e_m1, ↓e_m2, e_0, e_1, e_2, e_3, e_4, e_5, e_6, e_7, e_8, e_9, e_10, e_11, e_12, e_13, e_14, e_15, e_16, e_17, e_18, e_19, e_20, e_21, e_22, e_23, e_24, e_25, e_26, e_27, e_28, e_29, e_30, e_31, e_32, e_33, e_48, e_57, e_59, e_60, e_63, e_64, e_96, e_97, e_99, e_120, e_122, e_192, e_200, e_255, e_256, e_300, e_500, e_600, e_2000, e_5000, e_5240, e_6146, e_20000, e_65536, nIo, nI_clamp, nIxt, nI_1, nI_add, nI_mul, nI_eqF, nI_ltT, nI_ltF, nI_leT, nI_leF, nN_lt0, nN_le, nN_lt, nN_eq, nN_eq', eq_self, nBdS]
  have xF : x % 2 ^ F < 2 ^ F := Nat.mod_lt _ (Nat.pow_pos (by decide))
  have yF : y % 2 ^ F < 2 ^ F := Nat.mod_lt _ (Nat.pow_pos (by decide))
  have V1 : ∀ d, d ≠ 0 → d ≠ 23 → d ≠ 24 → d ≠ 25 → (bgn 24 (nI bb) (nI (y % 2 ^ F)) (nI lz) (bgn 23 (nI b) (nI (x % 2 ^ F)) (nI ly) τ1)).1 d = τ.1 d := fun d e1 e2 e3 e4 => by
    unfold bgn
    simp (disch := omega) only [wrs, wrk, wrc, wr2, wl1, wls, wlk, wlc]
    rw [t4 d e4]
    simp (disch := omega) only [wrs, wrk, wrc, wr2, wl1, wls, wlk, wlc]
  have V0 : ∀ f, f ≠ 0 → f ≠ 31 → (bgn 24 (nI bb) (nI (y % 2 ^ F)) (nI lz) (bgn 23 (nI b) (nI (x % 2 ^ F)) (nI ly) τ1)).1 0 f = τ.1 0 f := fun f e1 e2 => by
    unfold bgn
    simp (disch := omega) only [wrs, wrk, wrc, wr2, wl1, wls, wlk, wlc]
    rw [t4 0 (by decide)]
    simp (disch := omega) only [wrs, wrk, wrc, wr2, wl1, wls, wlk, wlc]
  have V31 : (bgn 24 (nI bb) (nI (y % 2 ^ F)) (nI lz) (bgn 23 (nI b) (nI (x % 2 ^ F)) (nI ly) τ1)).1 0 31 = nI (M + 1) := by
    unfold bgn
    simp (disch := omega) only [wrs, wrk, wrc, wr2, wl1, wls, wlk, wlc]
    rw [t4 0 (by decide)]
    simp (disch := omega) only [wrs, wrk, wrc, wr2, wl1, wls, wlk, wlc]
  have V25 : ∀ p, p < 4 → (bgn 24 (nI bb) (nI (y % 2 ^ F)) (nI lz) (bgn 23 (nI b) (nI (x % 2 ^ F)) (nI ly) τ1)).1 25 p = nI 0 := fun p hp => by
    unfold bgn
    simp (disch := omega) only [wrs, wrk, wrc, wr2, wl1, wls, wlk, wlc]
    exact t2 p (Nat.zero_le p) hp
  have S1 : ∀ d, d ≠ 11 → d ≠ 30 → d ≠ 33 → σ3.1 d = σ.1 d := fun d e1 e2 e3 => by rw [r3 d e1, q13 d e3, p13 d e2]
  generalize hτe : bgn 24 (nI bb) (nI (y % 2 ^ F)) (nI lz) (bgn 23 (nI b) (nI (x % 2 ^ F)) (nI ly) τ1) = τe at t5 V1 V0 V31 V25
  have hH : hHs F S P B σ3 τe := by
    unfold hHs
    rw [S1 1 (by decide) (by decide) (by decide), S1 2 (by decide) (by decide) (by decide), S1 3 (by decide) (by decide) (by decide), V1 1 (by decide) (by decide) (by decide) (by decide), V1 2 (by decide) (by decide) (by decide) (by decide), V0 4 (by decide) (by decide), V0 5 (by decide) (by decide), V0 6 (by decide) (by decide), V0 7 (by decide) (by decide), V0 8 (by decide) (by decide)]
    exact h1
  have hBB : ∀ b, b < B → hBk F S b (sz b) σ3 τe := by
    intro b hb
    obtain ⟨g1, g2, g3, g4⟩ := h2 b hb
    unfold hBk
    rw [S1 4 (by decide) (by decide) (by decide), S1 5 (by decide) (by decide) (by decide), V1 3 (by decide) (by decide) (by decide) (by decide), V1 4 (by decide) (by decide) (by decide) (by decide), V1 5 (by decide) (by decide) (by decide) (by decide), V1 6 (by decide) (by decide) (by decide) (by decide), V1 7 (by decide) (by decide) (by decide) (by decide), V1 8 (by decide) (by decide) (by decide) (by decide)]
    exact ⟨by omega, g1, g2, g3, g4⟩
  have seen : ∀ w qm, (∀ j, j < 96 → σ3.2 (w + 1) j = 0) → (∀ k, k < 6144 → ∃ x, x ≤ M ∧ τ.1 qm k = nI x) → τe.1 qm = τ.1 qm → rSeen (σ3.2 (w + 1)) (τe.1 qm) (M + 1) ∧ ∀ j, j < 6144 → ∃ y, y ≤ M + 1 ∧ τe.1 qm j = nI y := by
    intro w qm e1 e2 e3
    rw [e3]
    constructor
    · intro k hk1 z hz
      rw [e1 _ (by omega), sb_0]
      obtain ⟨v, hv, ev⟩ := e2 (256 * k + z) (by omega)
      rw [ev]
      exact ⟨fun h => (by cases h), fun h => absurd ((nI_eq (by omega) (by omega)).mp h) (by omega)⟩
    · intro j hj
      obtain ⟨v, hv, ev⟩ := e2 j hj
      exact ⟨v, by omega, ev⟩
  obtain ⟨se1, mk1⟩ := seen 30 12 (fun j hj => by rw [r1, q14 31 (by decide)]; exact p12 j hj) k2 (V1 12 (by decide) (by decide) (by decide) (by decide))
  obtain ⟨se2, mk2⟩ := seen 33 13 (fun j hj => by rw [r1]; exact q12 j hj) k3 (V1 13 (by decide) (by decide) (by decide) (by decide))
  have z30 : σ3.1 30 = σ1.1 30 := by rw [r3 30 (by decide), q13 30 (by decide)]
  have z33 : σ3.1 33 = σ2.1 33 := r3 33 (by decide)
  have R1 : nR 30 23 12 b F (sz b) ly aw (M + 1) 0 1 σ3 τe := by
    refine Or.inr (Or.inl ⟨rfl, 0, x % 2 ^ F, 0, Nat.zero_le _, ⟨⟨?_, ?_, ?_, ?_, ?_, ?_, ?_⟩, ⟨?_, ?_, ?_, ?_, ?_⟩, ?_, xF, se1, ?_, mk1⟩, ?_, ?_, ?_, ?_⟩)
    · rw [z30]; exact p2
    · rw [z30]; exact p3
    · rw [z30]; exact p4
    · rw [z30]; exact p5
    · rw [z30]; exact p6
    · rw [z30]; exact p10
    · rw [z30]; exact p11
    · rw [← hτe]; unfold bgn; simp (disch := decide) only [wrs, wrk, wrc, wr2, wl1, wls, wlk, wlc]
    · rw [← hτe]; unfold bgn; simp (disch := decide) only [wrs, wrk, wrc, wr2, wl1, wls, wlk, wlc]
    · rw [← hτe]; unfold bgn; simp (disch := decide) only [wrs, wrk, wrc, wr2, wl1, wls, wlk, wlc]
    · rw [← hτe]; unfold bgn; simp (disch := decide) only [wrs, wrk, wrc, wr2, wl1, wls, wlk, wlc]
    · rw [← hτe]; unfold bgn; simp (disch := decide) only [wrs, wrk, wrc, wr2, wl1, wls, wlk, wlc]
    · rw [z30, p9, ← hτe]; unfold bgn; simp (disch := decide) only [wrs, wrk, wrc, wr2, wl1, wls, wlk, wlc]
    · have := cU_le (τe.1 12) (nI (M + 1)) 6144; omega
    · rw [z30]; exact p7
    · rw [z30]; exact p8
    · rw [← hτe]; unfold bgn; simp (disch := decide) only [wrs, wrk, wrc, wr2, wl1, wls, wlk, wlc]
    · rw [← hτe]; unfold bgn; simp (disch := decide) only [wrs, wrk, wrc, wr2, wl1, wls, wlk, wlc]
  have R2 : nR 33 24 13 bb F (sz bb) lz aw (M + 1) 0 1 σ3 τe := by
    refine Or.inr (Or.inl ⟨rfl, 0, y % 2 ^ F, 0, Nat.zero_le _, ⟨⟨?_, ?_, ?_, ?_, ?_, ?_, ?_⟩, ⟨?_, ?_, ?_, ?_, ?_⟩, ?_, yF, se2, ?_, mk2⟩, ?_, ?_, ?_, ?_⟩)
    · rw [z33]; exact q2
    · rw [z33]; exact q3
    · rw [z33]; exact q4
    · rw [z33]; exact q5
    · rw [z33]; exact q6
    · rw [z33]; exact q10
    · rw [z33]; exact q11
    · rw [← hτe]; unfold bgn; simp (disch := decide) only [wrs, wrk, wrc, wr2, wl1, wls, wlk, wlc]
    · rw [← hτe]; unfold bgn; simp (disch := decide) only [wrs, wrk, wrc, wr2, wl1, wls, wlk, wlc]
    · rw [← hτe]; unfold bgn; simp (disch := decide) only [wrs, wrk, wrc, wr2, wl1, wls, wlk, wlc]
    · rw [← hτe]; unfold bgn; simp (disch := decide) only [wrs, wrk, wrc, wr2, wl1, wls, wlk, wlc]
    · rw [← hτe]; unfold bgn; simp (disch := decide) only [wrs, wrk, wrc, wr2, wl1, wls, wlk, wlc]
    · rw [z33, q9, ← hτe]; unfold bgn; simp (disch := decide) only [wrs, wrk, wrc, wr2, wl1, wls, wlk, wlc]
    · have := cU_le (τe.1 13) (nI (M + 1)) 6144; omega
    · rw [z33]; exact q7
    · rw [z33]; exact q8
    · rw [← hτe]; unfold bgn; simp (disch := decide) only [wrs, wrk, wrc, wr2, wl1, wls, wlk, wlc]
    · rw [← hτe]; unfold bgn; simp (disch := decide) only [wrs, wrk, wrc, wr2, wl1, wls, wlk, wlc]
  have hd0 : hD 0 1 1 σ3 τe := fun p hp => ⟨by rw [r2 p hp, V25 p hp], 0, by decide, r2 p hp, Or.inl (Nat.le_refl 0)⟩
  obtain ⟨v, σ', τ', g1, g2, g3, g4, g5, g6, g7⟩ := nn_go (N := N) (by omega) (show M + 1 < 2 ^ 31 by omega) V31 hH (hBB b hb) (hBB bb hbb) 5122 0 N N 1 1 σ3 τe (by omega) (by omega) (by omega) ⟨fun _ _ _ _ _ _ => rfl, fun _ _ _ _ _ _ => rfl⟩ R1 R2 hd0 ⟨fun _ => by omega, fun _ => by omega, fun h => absurd h (by decide), fun h => absurd h (by decide), fun h => absurd h (by decide), fun h => absurd h (by decide)⟩
  have w1' : l_X8_nights_118 N σ3 (nI 0) = some (nI v, wr σ' 0 12 (nI 0)) := g1
  have w2' : l_X11_nights_68 N (wr (wr τ 0 0 (nI 0)) 0 31 (nI (M + 1))) (nI b) (nI x) (nI ly) (nI bb) (nI y) (nI lz) (nI aw) (nI 0) = some (nI v, wr (wr (wr τ' 0 61 (nI 1)) 0 1 (nI 0)) 0 2 nM1) := t1.trans (t5.trans g2)
  have h00 : f_X11_areBits N (nI y) (nI lz) (nI 0) (wr τ 0 0 (nI 0)) = some (nI 1, wr τ 0 0 (nI 0)) := ab3_y hy hlz (by decide)
  simp (disch := first | omega | exact nM1_n | exact nM2_n | assumption) only [f_X8_nights, l_X8_nights_0, b_X8_nights_0, f_X11_nights, l_X11_nights_0, b_X11_nights_0, hasB_y b4 w3 hb, isB_y b4 m3' hb, hasB_y b4 w3 hbb, isB_y b4 m3' hbb, areB_y hx, areB_y hly, areB_y hy, areB_y hlz, areB_y haw, ab3_y hx hly haw, h00, s1, s2, s3, w1', k1, w2', ↓nLetR, ↓reduceIte, ↓e_m1, ↓e_m2, e_0, e_1, e_2, e_3, e_4, e_5, e_6, e_7, e_8, e_9, e_10, e_11, e_12, e_13, e_14, e_15, e_16, e_17, e_18, e_19, e_20, e_21, e_22, e_23, e_24, e_25, e_26, e_27, e_28, e_29, e_30, e_31, e_32, e_33, e_48, e_57, e_59, e_60, e_63, e_64, e_96, e_97, e_99, e_120, e_122, e_192, e_200, e_255, e_256, e_300, e_500, e_600, e_2000, e_5000, e_5240, e_6146, e_20000, e_65536, nIo, nI_clamp, nIxt, nI_1, nI_add, nI_mul, nI_eqF, nI_ltT, nI_ltF, nI_leT, nI_leF, nN_lt0, nN_le, nN_lt, nN_eq, nN_eq', eq_self, nBdS, wrs, wrk, wrc, wr2, wl1, wls, wlk, wlc]
  refine pK rfl ⟨F, S, P, B, sz, T, ?_⟩
  have F1 : ∀ d, d ≠ 11 → d ≠ 30 → d ≠ 32 → d ≠ 33 → d ≠ 35 → σ'.1 d = σ.1 d := fun d e1 e2 e3 e4 e5 => by rw [g3.1 d e1 e2 e3 e4 e5, S1 d e1 e2 e4]
  have T1 : ∀ d, d ≠ 0 → d ≠ 12 → d ≠ 13 → d ≠ 23 → d ≠ 24 → d ≠ 25 → τ'.1 d = τ.1 d := fun d e0 e1 e2 e3 e4 e5 => by rw [g3.2 d e1 e2 e3 e4 e5, V1 d e0 e3 e4 e5]
  have T0 : ∀ f, f ≠ 0 → f ≠ 31 → τ'.1 0 f = τ.1 0 f := fun f e1 e2 => by rw [g3.2 0 (by decide) (by decide) (by decide) (by decide) (by decide), V0 f e1 e2]
  have T31 : τ'.1 0 31 = nI (M + 1) := by rw [g3.2 0 (by decide) (by decide) (by decide) (by decide) (by decide)]; exact V31
  simp (disch := decide) only [iI, wrs, wrk, wrc, wr2, wl1, wls, wlk, wlc, F1, T1, T0]
  refine ⟨h1, h2, h3, h4.done, h5, h6, h7, ?_, h9, ?_⟩
  · obtain ⟨e, t, he, ht, a1, a2, a3, a4, a5⟩ := g4
    obtain ⟨e', t', he', ht', c1, c2, c3, c4, c5⟩ := g5
    exact Or.inr ⟨rfl, ⟨by rw [a1]; exact nM1ne e (by omega), a2.trans a1.symm, a4.trans a3.symm, a5.symm⟩, by rw [c1]; exact nM1ne e' (by omega), c2.trans c1.symm, c4.trans c3.symm, c5.symm⟩
  · exact ⟨M + 1, by omega, T31, g6, g7⟩
