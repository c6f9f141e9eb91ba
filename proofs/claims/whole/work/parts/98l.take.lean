/-! BOOK: words and numbers taken -/
theorem iw_go {N n p j : Nat} {c : Nat → Nat} {σ τ : nS} (hr : rdR n c σ τ) (hj : j < 12) (h5 : σ.1 6 5 = nI p) (hn : p + wl' j ≤ n) : ∀ d i m, i + d = wl' j → d < m → ∃ r, r < 2 ∧ nLp (fun _ _ => none) (fun again => b_X4_isWord_28 N j again) m σ (nI i) = some (nI r, σ) ∧ (r = 1 ↔ ∀ t, i ≤ t → t < wl' j → c (p + t) = wc j t) := by
  have hl := wl_le j hj
  have hn6 := hr.1
  intro d
  induction d with
  | zero =>
    intro i m hi hm
    refine ⟨1, by decide, ?_, fun _ t h1 h2 => absurd h2 (by omega), fun _ => rfl⟩
    rw [nLpP _ _ hm]
    simp (disch := first | omega | exact nM1_n | exact nM2_n | assumption) only [b_X4_isWord_28, len_is hj, ↓nLetR, ↓reduceIte, ↓e_m1, ↓e_m2, e_0, e_1, e_2, e_3, e_4, e_5, e_6, e_7, e_8, e_9, e_10, e_11, e_12, e_13, e_14, e_15, e_16, e_17, e_18, e_19, e_20, e_21, e_22, e_23, e_24, e_25, e_26, e_27, e_28, e_29, e_30, e_31, e_32, e_33, e_48, e_57, e_59, e_60, e_63, e_64, e_96, e_97, e_99, e_120, e_122, e_192, e_200, e_255, e_256, e_300, e_500, e_600, e_2000, e_5000, e_5240, e_6146, e_20000, e_65536, nIo, nI_clamp, nIxt, nI_1, nI_add, nI_mul, nI_eqF, nI_ltT, nI_ltF, nI_leT, nI_leF, nN_lt0, nN_le, nN_lt, nN_eq, nN_eq', eq_self, nBdS]
  | succ d ih =>
    intro i m hi hm
    have hb := byC (N := N) hr (show p + i < n by omega)
    have hc := char_is (N := N) (σ := σ) hj (show i < wl' j by omega)
    have hx := (hr.2.2.2 (p + i) (by omega)).2.2
    have hw := wc_ok j hj i (by omega)
    rw [nLpP _ _ (by omega)]
    by_cases h : c (p + i) = wc j i
    · obtain ⟨r, h1, h2, h3⟩ := ih (i + 1) (m - 1) (by omega) (by omega)
      refine ⟨r, h1, ?_, h3.trans ⟨fun g t g1 g2 => ?_, fun g t g1 g2 => g t (by omega) g2⟩⟩
      · rw [h] at hb
        rw [← h2]
        simp (disch := first | omega | exact nM1_n | exact nM2_n | assumption) only [b_X4_isWord_28, len_is hj, h5, hb, hc, ↓nLetR, ↓reduceIte, ↓e_m1, ↓e_m2, e_0, e_1, e_2, e_3, e_4, e_5, e_6, e_7, e_8, e_9, e_10, e_11, e_12, e_13, e_14, e_15, e_16, e_17, e_18, e_19, e_20, e_21, e_22, e_23, e_24, e_25, e_26, e_27, e_28, e_29, e_30, e_31, e_32, e_33, e_48, e_57, e_59, e_60, e_63, e_64, e_96, e_97, e_99, e_120, e_122, e_192, e_200, e_255, e_256, e_300, e_500, e_600, e_2000, e_5000, e_5240, e_6146, e_20000, e_65536, nIo, nI_clamp, nIxt, nI_1, nI_add, nI_mul, nI_eqF, nI_ltT, nI_ltF, nI_leT, nI_leF, nN_lt0, nN_le, nN_lt, nN_eq, nN_eq', eq_self, nBdS]
      · by_cases e : t = i
        · subst e; exact h
        · exact g t (by omega) g2
    · refine ⟨0, by decide, ?_, fun g => absurd g (by decide), fun g => absurd (g i (Nat.le_refl i) (by omega)) h⟩
      have hne : (nI (c (p + i)) = nI (wc j i)) = False := nI_eqF h (by omega) (by omega)
      simp (disch := first | omega | exact nM1_n | exact nM2_n | assumption) only [b_X4_isWord_28, len_is hj, h5, hb, hc, hne, ↓nLetR, ↓reduceIte, ↓e_m1, ↓e_m2, e_0, e_1, e_2, e_3, e_4, e_5, e_6, e_7, e_8, e_9, e_10, e_11, e_12, e_13, e_14, e_15, e_16, e_17, e_18, e_19, e_20, e_21, e_22, e_23, e_24, e_25, e_26, e_27, e_28, e_29, e_30, e_31, e_32, e_33, e_48, e_57, e_59, e_60, e_63, e_64, e_96, e_97, e_99, e_120, e_122, e_192, e_200, e_255, e_256, e_300, e_500, e_600, e_2000, e_5000, e_5240, e_6146, e_20000, e_65536, nIo, nI_clamp, nIxt, nI_1, nI_add, nI_mul, nI_eqF, nI_ltT, nI_ltF, nI_leT, nI_leF, nN_lt0, nN_le, nN_lt, nN_eq, nN_eq', eq_self, nBdS]
theorem word_is {N n p j : Nat} {c : Nat → Nat} {σ τ : nS} (hN : 10 ≤ N) (hr : rdR n c σ τ) (ht : tR n c p σ τ) (hj : j < 12) : ∃ r, r < 2 ∧ f_X4_isWord N j σ = some (nI r, σ) ∧ f_X11_isWord N j τ = some (nI r, τ) ∧ (r = 1 → c p = wc j 0 ∧ ∃ a, p < a ∧ a ≤ n ∧ σ.1 6 3 = nI a ∧ τ.1 0 21 = nI a) := by
  have hl := wl_le j hj
  have hn6 := hr.1
  obtain ⟨hp, h5, h23, h⟩ := ht
  rcases h with ⟨e1, e2⟩ | ⟨e1, e2⟩ | ⟨a, ha1, ha2, e3, e21, ⟨e1, e2, h8, hlt, h26⟩ | ⟨e1, e2, _⟩ | ⟨e1, e2⟩⟩
  · refine ⟨0, by decide, ?_, ?_, fun h => absurd h (by decide)⟩
    · simp (disch := first | omega | exact nM1_n | exact nM2_n | assumption) only [f_X4_isWord, l_X4_isWord_0, b_X4_isWord_0, e1, ↓nLetR, ↓reduceIte, ↓e_m1, ↓e_m2, e_0, e_1, e_2, e_3, e_4, e_5, e_6, e_7, e_8, e_9, e_10, e_11, e_12, e_13, e_14, e_15, e_16, e_17, e_18, e_19, e_20, e_21, e_22, e_23, e_24, e_25, e_26, e_27, e_28, e_29, e_30, e_31, e_32, e_33, e_48, e_57, e_59, e_60, e_63, e_64, e_96, e_97, e_99, e_120, e_122, e_192, e_200, e_255, e_256, e_300, e_500, e_600, e_2000, e_5000, e_5240, e_6146, e_20000, e_65536, nIo, nI_clamp, nIxt, nI_1, nI_add, nI_mul, nI_eqF, nI_ltT, nI_ltF, nI_leT, nI_leF, nN_lt0, nN_le, nN_lt, nN_eq, nN_eq', eq_self, nBdS]
    · simp (disch := first | omega | exact nM1_n | exact nM2_n | assumption) only [b_X11_isWord_0, l_X11_isWord_0, f_X11_isWord, e2, ↓nLetR, ↓reduceIte, ↓e_m1, ↓e_m2, e_0, e_1, e_2, e_3, e_4, e_5, e_6, e_7, e_8, e_9, e_10, e_11, e_12, e_13, e_14, e_15, e_16, e_17, e_18, e_19, e_20, e_21, e_22, e_23, e_24, e_25, e_26, e_27, e_28, e_29, e_30, e_31, e_32, e_33, e_48, e_57, e_59, e_60, e_63, e_64, e_96, e_97, e_99, e_120, e_122, e_192, e_200, e_255, e_256, e_300, e_500, e_600, e_2000, e_5000, e_5240, e_6146, e_20000, e_65536, nIo, nI_clamp, nIxt, nI_1, nI_add, nI_mul, nI_eqF, nI_ltT, nI_ltF, nI_leT, nI_leF, nN_lt0, nN_le, nN_lt, nN_eq, nN_eq', eq_self, nBdS]
  · refine ⟨0, by decide, ?_, ?_, fun h => absurd h (by decide)⟩
    · simp (disch := first | omega | exact nM1_n | exact nM2_n | assumption) only [f_X4_isWord, l_X4_isWord_0, b_X4_isWord_0, e1, ↓nLetR, ↓reduceIte, ↓e_m1, ↓e_m2, e_0, e_1, e_2, e_3, e_4, e_5, e_6, e_7, e_8, e_9, e_10, e_11, e_12, e_13, e_14, e_15, e_16, e_17, e_18, e_19, e_20, e_21, e_22, e_23, e_24, e_25, e_26, e_27, e_28, e_29, e_30, e_31, e_32, e_33, e_48, e_57, e_59, e_60, e_63, e_64, e_96, e_97, e_99, e_120, e_122, e_192, e_200, e_255, e_256, e_300, e_500, e_600, e_2000, e_5000, e_5240, e_6146, e_20000, e_65536, nIo, nI_clamp, nIxt, nI_1, nI_add, nI_mul, nI_eqF, nI_ltT, nI_ltF, nI_leT, nI_leF, nN_lt0, nN_le, nN_lt, nN_eq, nN_eq', eq_self, nBdS]
    · simp (disch := first | omega | exact nM1_n | exact nM2_n | assumption) only [b_X11_isWord_0, l_X11_isWord_0, f_X11_isWord, e2, ↓nLetR, ↓reduceIte, ↓e_m1, ↓e_m2, e_0, e_1, e_2, e_3, e_4, e_5, e_6, e_7, e_8, e_9, e_10, e_11, e_12, e_13, e_14, e_15, e_16, e_17, e_18, e_19, e_20, e_21, e_22, e_23, e_24, e_25, e_26, e_27, e_28, e_29, e_30, e_31, e_32, e_33, e_48, e_57, e_59, e_60, e_63, e_64, e_96, e_97, e_99, e_120, e_122, e_192, e_200, e_255, e_256, e_300, e_500, e_600, e_2000, e_5000, e_5240, e_6146, e_20000, e_65536, nIo, nI_clamp, nIxt, nI_1, nI_add, nI_mul, nI_eqF, nI_ltT, nI_ltF, nI_leT, nI_leF, nN_lt0, nN_le, nN_lt, nN_eq, nN_eq', eq_self, nBdS]
  · have hwo := wo_is (N := N) (σ := τ) hN hj
    have hsub : nI a - nI p = nI (a - p) := nI_subn _ _ (by omega)
    have b1 := wv_lt (a - p) hlt
    have b2 := wv_lt (wl' j) (wc_ok j hj)
    have b3 : (32 : Nat) ^ (a - p) ≤ 32 ^ 8 := Nat.pow_le_pow_right (by decide) (by omega)
    have b4 : (32 : Nat) ^ (wl' j) ≤ 32 ^ 8 := Nat.pow_le_pow_right (by decide) (by omega)
    have e64 := i64_eq (a := wv (fun i => c (p + i)) (a - p)) (b := wv (wc j) (wl' j)) (by omega) (by omega)
    have key : (wv (fun i => c (p + i)) (a - p) = wv (wc j) (wl' j)) ↔ (a - p = wl' j ∧ ∀ t, t < wl' j → c (p + t) = wc j t) := by
      constructor
      · intro h
        obtain ⟨q1, q2⟩ := wv_inj hlt (wc_ok j hj) h
        exact ⟨q1, fun t ht => q2 t (by omega)⟩
      · rintro ⟨q1, q2⟩
        rw [q1]
        exact wv_cg _ (fun i hi => q2 i hi)
    have no : ¬ (a - p = wl' j ∧ ∀ t, t < wl' j → c (p + t) = wc j t) → f_X11_isWord N j τ = some (nI 0, τ) := by
      intro h
      have hne : (lg_cmp (Int64.ofNat (wv (fun i => c (p + i)) (a - p))) (Int64.ofNat (wv (wc j) (wl' j))) = nI 0) = False := eq_false (fun g => h (key.mp (e64.mp ((lg_cmp_eq _ _).mp g))))
      simp (disch := first | omega | exact nM1_n | exact nM2_n | assumption) only [b_X11_isWord_0, l_X11_isWord_0, f_X11_isWord, e2, hwo, h26, hne, ↓nLetR, ↓reduceIte, ↓e_m1, ↓e_m2, e_0, e_1, e_2, e_3, e_4, e_5, e_6, e_7, e_8, e_9, e_10, e_11, e_12, e_13, e_14, e_15, e_16, e_17, e_18, e_19, e_20, e_21, e_22, e_23, e_24, e_25, e_26, e_27, e_28, e_29, e_30, e_31, e_32, e_33, e_48, e_57, e_59, e_60, e_63, e_64, e_96, e_97, e_99, e_120, e_122, e_192, e_200, e_255, e_256, e_300, e_500, e_600, e_2000, e_5000, e_5240, e_6146, e_20000, e_65536, nIo, nI_clamp, nIxt, nI_1, nI_add, nI_mul, nI_eqF, nI_ltT, nI_ltF, nI_leT, nI_leF, nN_lt0, nN_le, nN_lt, nN_eq, nN_eq', eq_self, nBdS]
    by_cases hlen : a - p = wl' j
    · obtain ⟨r, r1, r2, r3⟩ := iw_go (N := N) hr hj h5 (by omega) (wl' j) 0 N (by omega) (by omega)
      have hC : f_X4_isWord N j σ = some (nI r, σ) := by
        rw [← r2]
        simp (disch := first | omega | exact nM1_n | exact nM2_n | assumption) only [f_X4_isWord, l_X4_isWord_0, b_X4_isWord_0, e1, e3, h5, hsub, len_is hj, hlen, ↓nLetR, ↓reduceIte, ↓e_m1, ↓e_m2, e_0, e_1, e_2, e_3, e_4, e_5, e_6, e_7, e_8, e_9, e_10, e_11, e_12, e_13, e_14, e_15, e_16, e_17, e_18, e_19, e_20, e_21, e_22, e_23, e_24, e_25, e_26, e_27, e_28, e_29, e_30, e_31, e_32, e_33, e_48, e_57, e_59, e_60, e_63, e_64, e_96, e_97, e_99, e_120, e_122, e_192, e_200, e_255, e_256, e_300, e_500, e_600, e_2000, e_5000, e_5240, e_6146, e_20000, e_65536, nIo, nI_clamp, nIxt, nI_1, nI_add, nI_mul, nI_eqF, nI_ltT, nI_ltF, nI_leT, nI_leF, nN_lt0, nN_le, nN_lt, nN_eq, nN_eq', eq_self, nBdS]
        rfl
      refine ⟨r, r1, hC, ?_, fun hr1 => ⟨(r3.mp hr1) 0 (Nat.le_refl 0) (by omega), a, ha1, ha2, e3, e21⟩⟩
      have hr2 : r = 0 ∨ r = 1 := by omega
      rcases hr2 with rfl | rfl
      · exact no (fun h => absurd (r3.mpr (fun t _ ht => h.2 t ht)) (by decide))
      · have hyes : (lg_cmp (Int64.ofNat (wv (fun i => c (p + i)) (a - p))) (Int64.ofNat (wv (wc j) (wl' j))) = nI 0) = True := eq_true ((lg_cmp_eq _ _).mpr (e64.mpr (key.mpr ⟨hlen, fun t ht => (r3.mp rfl) t (Nat.zero_le t) ht⟩)))
        simp (disch := first | omega | exact nM1_n | exact nM2_n | assumption) only [b_X11_isWord_0, l_X11_isWord_0, f_X11_isWord, e2, hwo, h26, hyes, ↓nLetR, ↓reduceIte, ↓e_m1, ↓e_m2, e_0, e_1, e_2, e_3, e_4, e_5, e_6, e_7, e_8, e_9, e_10, e_11, e_12, e_13, e_14, e_15, e_16, e_17, e_18, e_19, e_20, e_21, e_22, e_23, e_24, e_25, e_26, e_27, e_28, e_29, e_30, e_31, e_32, e_33, e_48, e_57, e_59, e_60, e_63, e_64, e_96, e_97, e_99, e_120, e_122, e_192, e_200, e_255, e_256, e_300, e_500, e_600, e_2000, e_5000, e_5240, e_6146, e_20000, e_65536, nIo, nI_clamp, nIxt, nI_1, nI_add, nI_mul, nI_eqF, nI_ltT, nI_ltF, nI_leT, nI_leF, nN_lt0, nN_le, nN_lt, nN_eq, nN_eq', eq_self, nBdS]
    · refine ⟨0, by decide, ?_, no (fun h => hlen h.1), fun h => absurd h (by decide)⟩
      have hne : (nI (a - p) = nI (wl' j)) = False := nI_eqF hlen (by omega) (by omega)
      simp (disch := first | omega | exact nM1_n | exact nM2_n | assumption) only [f_X4_isWord, l_X4_isWord_0, b_X4_isWord_0, e1, e3, h5, hsub, len_is hj, hne, ↓nLetR, ↓reduceIte, ↓e_m1, ↓e_m2, e_0, e_1, e_2, e_3, e_4, e_5, e_6, e_7, e_8, e_9, e_10, e_11, e_12, e_13, e_14, e_15, e_16, e_17, e_18, e_19, e_20, e_21, e_22, e_23, e_24, e_25, e_26, e_27, e_28, e_29, e_30, e_31, e_32, e_33, e_48, e_57, e_59, e_60, e_63, e_64, e_96, e_97, e_99, e_120, e_122, e_192, e_200, e_255, e_256, e_300, e_500, e_600, e_2000, e_5000, e_5240, e_6146, e_20000, e_65536, nIo, nI_clamp, nIxt, nI_1, nI_add, nI_mul, nI_eqF, nI_ltT, nI_ltF, nI_leT, nI_leF, nN_lt0, nN_le, nN_lt, nN_eq, nN_eq', eq_self, nBdS]
  · refine ⟨0, by decide, ?_, ?_, fun h => absurd h (by decide)⟩
    · simp (disch := first | omega | exact nM1_n | exact nM2_n | assumption) only [f_X4_isWord, l_X4_isWord_0, b_X4_isWord_0, e1, ↓nLetR, ↓reduceIte, ↓e_m1, ↓e_m2, e_0, e_1, e_2, e_3, e_4, e_5, e_6, e_7, e_8, e_9, e_10, e_11, e_12, e_13, e_14, e_15, e_16, e_17, e_18, e_19, e_20, e_21, e_22, e_23, e_24, e_25, e_26, e_27, e_28, e_29, e_30, e_31, e_32, e_33, e_48, e_57, e_59, e_60, e_63, e_64, e_96, e_97, e_99, e_120, e_122, e_192, e_200, e_255, e_256, e_300, e_500, e_600, e_2000, e_5000, e_5240, e_6146, e_20000, e_65536, nIo, nI_clamp, nIxt, nI_1, nI_add, nI_mul, nI_eqF, nI_ltT, nI_ltF, nI_leT, nI_leF, nN_lt0, nN_le, nN_lt, nN_eq, nN_eq', eq_self, nBdS]
    · simp (disch := first | omega | exact nM1_n | exact nM2_n | assumption) only [b_X11_isWord_0, l_X11_isWord_0, f_X11_isWord, e2, ↓nLetR, ↓reduceIte, ↓e_m1, ↓e_m2, e_0, e_1, e_2, e_3, e_4, e_5, e_6, e_7, e_8, e_9, e_10, e_11, e_12, e_13, e_14, e_15, e_16, e_17, e_18, e_19, e_20, e_21, e_22, e_23, e_24, e_25, e_26, e_27, e_28, e_29, e_30, e_31, e_32, e_33, e_48, e_57, e_59, e_60, e_63, e_64, e_96, e_97, e_99, e_120, e_122, e_192, e_200, e_255, e_256, e_300, e_500, e_600, e_2000, e_5000, e_5240, e_6146, e_20000, e_65536, nIo, nI_clamp, nIxt, nI_1, nI_add, nI_mul, nI_eqF, nI_ltT, nI_ltF, nI_leT, nI_leF, nN_lt0, nN_le, nN_lt, nN_eq, nN_eq', eq_self, nBdS]
  · refine ⟨0, by decide, ?_, ?_, fun h => absurd h (by decide)⟩
    · simp (disch := first | omega | exact nM1_n | exact nM2_n | assumption) only [f_X4_isWord, l_X4_isWord_0, b_X4_isWord_0, e1, ↓nLetR, ↓reduceIte, ↓e_m1, ↓e_m2, e_0, e_1, e_2, e_3, e_4, e_5, e_6, e_7, e_8, e_9, e_10, e_11, e_12, e_13, e_14, e_15, e_16, e_17, e_18, e_19, e_20, e_21, e_22, e_23, e_24, e_25, e_26, e_27, e_28, e_29, e_30, e_31, e_32, e_33, e_48, e_57, e_59, e_60, e_63, e_64, e_96, e_97, e_99, e_120, e_122, e_192, e_200, e_255, e_256, e_300, e_500, e_600, e_2000, e_5000, e_5240, e_6146, e_20000, e_65536, nIo, nI_clamp, nIxt, nI_1, nI_add, nI_mul, nI_eqF, nI_ltT, nI_ltF, nI_leT, nI_leF, nN_lt0, nN_le, nN_lt, nN_eq, nN_eq', eq_self, nBdS]
    · simp (disch := first | omega | exact nM1_n | exact nM2_n | assumption) only [b_X11_isWord_0, l_X11_isWord_0, f_X11_isWord, e2, ↓nLetR, ↓reduceIte, ↓e_m1, ↓e_m2, e_0, e_1, e_2, e_3, e_4, e_5, e_6, e_7, e_8, e_9, e_10, e_11, e_12, e_13, e_14, e_15, e_16, e_17, e_18, e_19, e_20, e_21, e_22, e_23, e_24, e_25, e_26, e_27, e_28, e_29, e_30, e_31, e_32, e_33, e_48, e_57, e_59, e_60, e_63, e_64, e_96, e_97, e_99, e_120, e_122, e_192, e_200, e_255, e_256, e_300, e_500, e_600, e_2000, e_5000, e_5240, e_6146, e_20000, e_65536, nIo, nI_clamp, nIxt, nI_1, nI_add, nI_mul, nI_eqF, nI_ltT, nI_ltF, nI_leT, nI_leF, nN_lt0, nN_le, nN_lt, nN_eq, nN_eq', eq_self, nBdS]
def flC (σ : nS) (f p : Nat) : nS := wr (wr σ 6 9 (nI f)) 6 10 (nI p)
def flM (τ : nS) (f p : Nat) : nS := wr (wr τ 9 6 (nI f)) 9 7 (nI p)
def aD (σ σ' : nS) : Prop := (∀ d, d ≠ 6 → σ'.1 d = σ.1 d) ∧ ∀ f, (f < 3 ∨ 8 < f) → σ'.1 6 f = σ.1 6 f
theorem aC.d {σ σ' : nS} (h : aC σ σ') : aD σ σ' := ⟨h.1, fun f e => h.2 f (by omega)⟩
theorem aD.trans {a b c : nS} (h : aD a b) (g : aD b c) : aD a c := ⟨fun d e => (g.1 d e).trans (h.1 d e), fun f e => (g.2 f e).trans (h.2 f e)⟩
theorem fail_is {N f p : Nat} {σ : nS} (h5 : σ.1 6 5 = nI p) : f_X4_fail N (nI f) σ = some (nI 0, flC σ f p) := by
  unfold flC
  simp (disch := first | omega | exact nM1_n | exact nM2_n | assumption) only [b_X4_fail_0, l_X4_fail_0, f_X4_fail, h5, ↓nLetR, ↓reduceIte, ↓e_m1, ↓e_m2, e_0, e_1, e_2, e_3, e_4, e_5, e_6, e_7, e_8, e_9, e_10, e_11, e_12, e_13, e_14, e_15, e_16, e_17, e_18, e_19, e_20, e_21, e_22, e_23, e_24, e_25, e_26, e_27, e_28, e_29, e_30, e_31, e_32, e_33, e_48, e_57, e_59, e_60, e_63, e_64, e_96, e_97, e_99, e_120, e_122, e_192, e_200, e_255, e_256, e_300, e_500, e_600, e_2000, e_5000, e_5240, e_6146, e_20000, e_65536, nIo, nI_clamp, nIxt, nI_1, nI_add, nI_mul, nI_eqF, nI_ltT, nI_ltF, nI_leT, nI_leF, nN_lt0, nN_le, nN_lt, nN_eq, nN_eq', eq_self, nBdS, wrs, wrk, wrc, wr2, wl1, wls, wlk, wlc]
theorem stop_is {N f p : Nat} {τ : nS} : f_X11_stop N (nI f) (nI p) τ = some (nI 0, flM τ f p) := by
  unfold flM
  simp (disch := first | omega | exact nM1_n | exact nM2_n | assumption) only [b_X11_stop_0, l_X11_stop_0, f_X11_stop, ↓nLetR, ↓reduceIte, ↓e_m1, ↓e_m2, e_0, e_1, e_2, e_3, e_4, e_5, e_6, e_7, e_8, e_9, e_10, e_11, e_12, e_13, e_14, e_15, e_16, e_17, e_18, e_19, e_20, e_21, e_22, e_23, e_24, e_25, e_26, e_27, e_28, e_29, e_30, e_31, e_32, e_33, e_48, e_57, e_59, e_60, e_63, e_64, e_96, e_97, e_99, e_120, e_122, e_192, e_200, e_255, e_256, e_300, e_500, e_600, e_2000, e_5000, e_5240, e_6146, e_20000, e_65536, nIo, nI_clamp, nIxt, nI_1, nI_add, nI_mul, nI_eqF, nI_ltT, nI_ltF, nI_leT, nI_leF, nN_lt0, nN_le, nN_lt, nN_eq, nN_eq', eq_self, nBdS]
theorem rdR.fd {n : Nat} {c : Nat → Nat} {σ τ σ' τ' : nS} (h : rdR n c σ τ) (g1 : aD σ σ') (g2 : aM τ τ') : rdR n c σ' τ' := by
  unfold rdR
  rw [g1.1 7 (by decide), g1.2 2 (by decide), g2.1 10 (by decide), g2.2 20 (by decide)]
  exact h
theorem tw_is {N n p j : Nat} {c : Nat → Nat} {σ τ : nS} (hN : 700 ≤ N) (hr : rdR n c σ τ) (ht : tR n c p σ τ) (hj : j < 12) :
    (∃ p' σ' τ', p < p' ∧ f_X4_takeWord N j σ = some (nI 1, σ') ∧ f_X11_needWord N j τ = some (some (nI 0), τ') ∧ tR n c p' σ' τ' ∧ aC σ σ' ∧ aM τ τ') ∨ (f_X4_takeWord N j σ = some (nI 0, flC σ 1 p) ∧ f_X11_needWord N j τ = some (none, flM τ 1 p)) := by
  obtain ⟨r, hr2, w1, w2, w3⟩ := word_is (N := N) (by omega) hr ht hj
  have h : r = 0 ∨ r = 1 := by omega
  rcases h with rfl | rfl
  · right
    have hf := fail_is (N := N) (f := 1) ht.2.1
    have hs := stop_is (N := N) (f := 1) (p := p) (τ := τ)
    have h23 := ht.2.2.1
    constructor
    · simp (disch := first | omega | exact nM1_n | exact nM2_n | assumption) only [b_X4_takeWord_0, l_X4_takeWord_0, f_X4_takeWord, w1, hf, nZa, ↓nLetR, ↓reduceIte, ↓e_m1, ↓e_m2, e_0, e_1, e_2, e_3, e_4, e_5, e_6, e_7, e_8, e_9, e_10, e_11, e_12, e_13, e_14, e_15, e_16, e_17, e_18, e_19, e_20, e_21, e_22, e_23, e_24, e_25, e_26, e_27, e_28, e_29, e_30, e_31, e_32, e_33, e_48, e_57, e_59, e_60, e_63, e_64, e_96, e_97, e_99, e_120, e_122, e_192, e_200, e_255, e_256, e_300, e_500, e_600, e_2000, e_5000, e_5240, e_6146, e_20000, e_65536, nIo, nI_clamp, nIxt, nI_1, nI_add, nI_mul, nI_eqF, nI_ltT, nI_ltF, nI_leT, nI_leF, nN_lt0, nN_le, nN_lt, nN_eq, nN_eq', eq_self, nBdS]
    · simp (disch := first | omega | exact nM1_n | exact nM2_n | assumption) only [b_X11_needWord_0, l_X11_needWord_0, f_X11_needWord, w2, h23, hs, ↓nLetR, ↓reduceIte, ↓e_m1, ↓e_m2, e_0, e_1, e_2, e_3, e_4, e_5, e_6, e_7, e_8, e_9, e_10, e_11, e_12, e_13, e_14, e_15, e_16, e_17, e_18, e_19, e_20, e_21, e_22, e_23, e_24, e_25, e_26, e_27, e_28, e_29, e_30, e_31, e_32, e_33, e_48, e_57, e_59, e_60, e_63, e_64, e_96, e_97, e_99, e_120, e_122, e_192, e_200, e_255, e_256, e_300, e_500, e_600, e_2000, e_5000, e_5240, e_6146, e_20000, e_65536, nIo, nI_clamp, nIxt, nI_1, nI_add, nI_mul, nI_eqF, nI_ltT, nI_ltF, nI_leT, nI_leF, nN_lt0, nN_le, nN_lt, nN_eq, nN_eq', eq_self, nBdS]
  · left
    obtain ⟨_, a, a1, a2, a3, a4⟩ := w3 rfl
    obtain ⟨p', σ', τ', g1, g2, g3, g4, g5, g6⟩ := adv_is (N := N) hN hr a3 a4 a2
    refine ⟨p', σ', τ', by omega, ?_, ?_, g4, g5, g6⟩
    · simp (disch := first | omega | exact nM1_n | exact nM2_n | assumption) only [b_X4_takeWord_0, l_X4_takeWord_0, f_X4_takeWord, w1, g2, ↓nLetR, ↓reduceIte, ↓e_m1, ↓e_m2, e_0, e_1, e_2, e_3, e_4, e_5, e_6, e_7, e_8, e_9, e_10, e_11, e_12, e_13, e_14, e_15, e_16, e_17, e_18, e_19, e_20, e_21, e_22, e_23, e_24, e_25, e_26, e_27, e_28, e_29, e_30, e_31, e_32, e_33, e_48, e_57, e_59, e_60, e_63, e_64, e_96, e_97, e_99, e_120, e_122, e_192, e_200, e_255, e_256, e_300, e_500, e_600, e_2000, e_5000, e_5240, e_6146, e_20000, e_65536, nIo, nI_clamp, nIxt, nI_1, nI_add, nI_mul, nI_eqF, nI_ltT, nI_ltF, nI_leT, nI_leF, nN_lt0, nN_le, nN_lt, nN_eq, nN_eq', eq_self, nBdS]
    · simp (disch := first | omega | exact nM1_n | exact nM2_n | assumption) only [b_X11_needWord_0, l_X11_needWord_0, f_X11_needWord, w2, g3, ↓nLetR, ↓reduceIte, ↓e_m1, ↓e_m2, e_0, e_1, e_2, e_3, e_4, e_5, e_6, e_7, e_8, e_9, e_10, e_11, e_12, e_13, e_14, e_15, e_16, e_17, e_18, e_19, e_20, e_21, e_22, e_23, e_24, e_25, e_26, e_27, e_28, e_29, e_30, e_31, e_32, e_33, e_48, e_57, e_59, e_60, e_63, e_64, e_96, e_97, e_99, e_120, e_122, e_192, e_200, e_255, e_256, e_300, e_500, e_600, e_2000, e_5000, e_5240, e_6146, e_20000, e_65536, nIo, nI_clamp, nIxt, nI_1, nI_add, nI_mul, nI_eqF, nI_ltT, nI_ltF, nI_leT, nI_leF, nN_lt0, nN_le, nN_lt, nN_eq, nN_eq', eq_self, nBdS]
theorem tn_is {N n p l : Nat} {c : Nat → Nat} {hi : Int32} {σ τ : nS} (hN : 700 ≤ N) (hl : l < 100) (hr : rdR n c σ τ) (ht : tR n c p σ τ) :
    (∃ v p' σ' τ', v < 100 ∧ l ≤ v ∧ nI v ≤ hi ∧ p < p' ∧ f_X4_takeNumber N (nI l) hi σ = some (nI 1, σ') ∧ f_X11_needNumber N (nI l) hi τ = some (some (nI v), τ') ∧ σ'.1 6 7 = nI v ∧ σ'.1 6 8 = nI p ∧ tR n c p' σ' τ' ∧ aD σ σ' ∧ aM τ τ') ∨ ∃ f, f < 3 ∧ f_X4_takeNumber N (nI l) hi σ = some (nI 0, flC σ f p) ∧ f_X11_needNumber N (nI l) hi τ = some (none, flM τ f p) := by
  have h5 := ht.2.1
  have h23 := ht.2.2.1
  have no : ∀ k s, k < 5 → s < 5 → ¬ k = 2 → ¬ s = 3 → σ.1 6 4 = nI k → τ.1 0 22 = nI s → ∃ f, f < 3 ∧ f_X4_takeNumber N (nI l) hi σ = some (nI 0, flC σ f p) ∧ f_X11_needNumber N (nI l) hi τ = some (none, flM τ f p) := by
    intro k s k1 s1 k2 s2 e1 e2
    have hf := fail_is (N := N) (f := 1) h5
    have hs := stop_is (N := N) (f := 1) (p := p) (τ := τ)
    refine ⟨1, by decide, ?_, ?_⟩
    · simp (disch := first | omega | exact nM1_n | exact nM2_n | assumption) only [b_X4_takeNumber_0, l_X4_takeNumber_0, f_X4_takeNumber, e1, hf, nZa, ↓nLetR, ↓reduceIte, ↓e_m1, ↓e_m2, e_0, e_1, e_2, e_3, e_4, e_5, e_6, e_7, e_8, e_9, e_10, e_11, e_12, e_13, e_14, e_15, e_16, e_17, e_18, e_19, e_20, e_21, e_22, e_23, e_24, e_25, e_26, e_27, e_28, e_29, e_30, e_31, e_32, e_33, e_48, e_57, e_59, e_60, e_63, e_64, e_96, e_97, e_99, e_120, e_122, e_192, e_200, e_255, e_256, e_300, e_500, e_600, e_2000, e_5000, e_5240, e_6146, e_20000, e_65536, nIo, nI_clamp, nIxt, nI_1, nI_add, nI_mul, nI_eqF, nI_ltT, nI_ltF, nI_leT, nI_leF, nN_lt0, nN_le, nN_lt, nN_eq, nN_eq', eq_self, nBdS]
    · simp (disch := first | omega | exact nM1_n | exact nM2_n | assumption) only [b_X11_needNumber_0, l_X11_needNumber_0, f_X11_needNumber, e2, h23, hs, ↓nLetR, ↓reduceIte, ↓e_m1, ↓e_m2, e_0, e_1, e_2, e_3, e_4, e_5, e_6, e_7, e_8, e_9, e_10, e_11, e_12, e_13, e_14, e_15, e_16, e_17, e_18, e_19, e_20, e_21, e_22, e_23, e_24, e_25, e_26, e_27, e_28, e_29, e_30, e_31, e_32, e_33, e_48, e_57, e_59, e_60, e_63, e_64, e_96, e_97, e_99, e_120, e_122, e_192, e_200, e_255, e_256, e_300, e_500, e_600, e_2000, e_5000, e_5240, e_6146, e_20000, e_65536, nIo, nI_clamp, nIxt, nI_1, nI_add, nI_mul, nI_eqF, nI_ltT, nI_ltF, nI_leT, nI_leF, nN_lt0, nN_le, nN_lt, nN_eq, nN_eq', eq_self, nBdS]
  rcases id ht.2.2.2 with ⟨e1, e2⟩ | ⟨e1, e2⟩ | ⟨a, ha1, ha2, e3, e21, ⟨e1, e2, _⟩ | ⟨e1, e2, v, hv, e6, e24⟩ | ⟨e1, e2⟩⟩
  · exact Or.inr (no 0 1 (by decide) (by decide) (by decide) (by decide) e1 e2)
  · exact Or.inr (no 4 0 (by decide) (by decide) (by decide) (by decide) e1 e2)
  · exact Or.inr (no 1 2 (by decide) (by decide) (by decide) (by decide) e1 e2)
  · have bad : (v < l ∨ ¬ nI v ≤ hi) → ∃ f, f < 3 ∧ f_X4_takeNumber N (nI l) hi σ = some (nI 0, flC σ f p) ∧ f_X11_needNumber N (nI l) hi τ = some (none, flM τ f p) := by
      intro h
      have hf := fail_is (N := N) (f := 2) h5
      have hs := stop_is (N := N) (f := 2) (p := p) (τ := τ)
      refine ⟨2, by decide, ?_, ?_⟩
      · by_cases hvl : v < l
        · simp (disch := first | omega | exact nM1_n | exact nM2_n | assumption) only [b_X4_takeNumber_0, l_X4_takeNumber_0, f_X4_takeNumber, e1, e6, hf, nZa, ↓nLetR, ↓reduceIte, ↓e_m1, ↓e_m2, e_0, e_1, e_2, e_3, e_4, e_5, e_6, e_7, e_8, e_9, e_10, e_11, e_12, e_13, e_14, e_15, e_16, e_17, e_18, e_19, e_20, e_21, e_22, e_23, e_24, e_25, e_26, e_27, e_28, e_29, e_30, e_31, e_32, e_33, e_48, e_57, e_59, e_60, e_63, e_64, e_96, e_97, e_99, e_120, e_122, e_192, e_200, e_255, e_256, e_300, e_500, e_600, e_2000, e_5000, e_5240, e_6146, e_20000, e_65536, nIo, nI_clamp, nIxt, nI_1, nI_add, nI_mul, nI_eqF, nI_ltT, nI_ltF, nI_leT, nI_leF, nN_lt0, nN_le, nN_lt, nN_eq, nN_eq', eq_self, nBdS]
        · have hno : (nI v ≤ hi) = False := eq_false (by rcases h with h | h; exact absurd h hvl; exact h)
          simp (disch := first | omega | exact nM1_n | exact nM2_n | assumption) only [b_X4_takeNumber_0, l_X4_takeNumber_0, f_X4_takeNumber, e1, e6, hno, hf, nZa, ↓nLetR, ↓reduceIte, ↓e_m1, ↓e_m2, e_0, e_1, e_2, e_3, e_4, e_5, e_6, e_7, e_8, e_9, e_10, e_11, e_12, e_13, e_14, e_15, e_16, e_17, e_18, e_19, e_20, e_21, e_22, e_23, e_24, e_25, e_26, e_27, e_28, e_29, e_30, e_31, e_32, e_33, e_48, e_57, e_59, e_60, e_63, e_64, e_96, e_97, e_99, e_120, e_122, e_192, e_200, e_255, e_256, e_300, e_500, e_600, e_2000, e_5000, e_5240, e_6146, e_20000, e_65536, nIo, nI_clamp, nIxt, nI_1, nI_add, nI_mul, nI_eqF, nI_ltT, nI_ltF, nI_leT, nI_leF, nN_lt0, nN_le, nN_lt, nN_eq, nN_eq', eq_self, nBdS]
      · by_cases hvl : v < l
        · simp (disch := first | omega | exact nM1_n | exact nM2_n | assumption) only [b_X11_needNumber_0, l_X11_needNumber_0, f_X11_needNumber, b_X11_in_0, l_X11_in_0, f_X11_in, e2, e24, h23, hs, ↓nLetR, ↓reduceIte, ↓e_m1, ↓e_m2, e_0, e_1, e_2, e_3, e_4, e_5, e_6, e_7, e_8, e_9, e_10, e_11, e_12, e_13, e_14, e_15, e_16, e_17, e_18, e_19, e_20, e_21, e_22, e_23, e_24, e_25, e_26, e_27, e_28, e_29, e_30, e_31, e_32, e_33, e_48, e_57, e_59, e_60, e_63, e_64, e_96, e_97, e_99, e_120, e_122, e_192, e_200, e_255, e_256, e_300, e_500, e_600, e_2000, e_5000, e_5240, e_6146, e_20000, e_65536, nIo, nI_clamp, nIxt, nI_1, nI_add, nI_mul, nI_eqF, nI_ltT, nI_ltF, nI_leT, nI_leF, nN_lt0, nN_le, nN_lt, nN_eq, nN_eq', eq_self, nBdS]
        · have hno : (hi < nI v) = True := eq_true (by rcases h with h | h; exact absurd h hvl; exact Int32.not_le.mp h)
          simp (disch := first | omega | exact nM1_n | exact nM2_n | assumption) only [b_X11_needNumber_0, l_X11_needNumber_0, f_X11_needNumber, b_X11_in_0, l_X11_in_0, f_X11_in, e2, e24, hno, h23, hs, ↓nLetR, ↓reduceIte, ↓e_m1, ↓e_m2, e_0, e_1, e_2, e_3, e_4, e_5, e_6, e_7, e_8, e_9, e_10, e_11, e_12, e_13, e_14, e_15, e_16, e_17, e_18, e_19, e_20, e_21, e_22, e_23, e_24, e_25, e_26, e_27, e_28, e_29, e_30, e_31, e_32, e_33, e_48, e_57, e_59, e_60, e_63, e_64, e_96, e_97, e_99, e_120, e_122, e_192, e_200, e_255, e_256, e_300, e_500, e_600, e_2000, e_5000, e_5240, e_6146, e_20000, e_65536, nIo, nI_clamp, nIxt, nI_1, nI_add, nI_mul, nI_eqF, nI_ltT, nI_ltF, nI_leT, nI_leF, nN_lt0, nN_le, nN_lt, nN_eq, nN_eq', eq_self, nBdS]
    by_cases hvl : v < l
    · exact Or.inr (bad (Or.inl hvl))
    · by_cases hvh : nI v ≤ hi
      · left
        have hr' : rdR n c (wr (wr σ 6 7 (nI v)) 6 8 (nI p)) τ := by
          unfold rdR
          simp (disch := decide) only [wrs, wrk, wrc, wr2, wl1, wls, wlk, wlc]
          exact hr
        obtain ⟨p', σ', τ', g1, g2, g3, g4, g5, g6⟩ := adv_is (N := N) hN hr' (by simp (disch := decide) only [wrs, wrk, wrc, wr2, wl1, wls, wlk, wlc]; exact e3) e21 ha2
        have hno : (hi < nI v) = False := eq_false (Int32.not_lt.mpr hvh)
        refine ⟨v, p', σ', τ', hv, by omega, hvh, by omega, ?_, ?_, ?_, ?_, g4, ⟨fun d e => ?_, fun f e => ?_⟩, g6⟩
        · simp (disch := first | omega | exact nM1_n | exact nM2_n | assumption) only [b_X4_takeNumber_0, l_X4_takeNumber_0, f_X4_takeNumber, e1, e6, h5, eq_true hvh, g2, ↓nLetR, ↓reduceIte, ↓e_m1, ↓e_m2, e_0, e_1, e_2, e_3, e_4, e_5, e_6, e_7, e_8, e_9, e_10, e_11, e_12, e_13, e_14, e_15, e_16, e_17, e_18, e_19, e_20, e_21, e_22, e_23, e_24, e_25, e_26, e_27, e_28, e_29, e_30, e_31, e_32, e_33, e_48, e_57, e_59, e_60, e_63, e_64, e_96, e_97, e_99, e_120, e_122, e_192, e_200, e_255, e_256, e_300, e_500, e_600, e_2000, e_5000, e_5240, e_6146, e_20000, e_65536, nIo, nI_clamp, nIxt, nI_1, nI_add, nI_mul, nI_eqF, nI_ltT, nI_ltF, nI_leT, nI_leF, nN_lt0, nN_le, nN_lt, nN_eq, nN_eq', eq_self, nBdS, wrs, wrk, wrc, wr2, wl1, wls, wlk, wlc]
        · simp (disch := first | omega | exact nM1_n | exact nM2_n | assumption) only [b_X11_needNumber_0, l_X11_needNumber_0, f_X11_needNumber, b_X11_in_0, l_X11_in_0, f_X11_in, e2, e24, hno, g3, ↓nLetR, ↓reduceIte, ↓e_m1, ↓e_m2, e_0, e_1, e_2, e_3, e_4, e_5, e_6, e_7, e_8, e_9, e_10, e_11, e_12, e_13, e_14, e_15, e_16, e_17, e_18, e_19, e_20, e_21, e_22, e_23, e_24, e_25, e_26, e_27, e_28, e_29, e_30, e_31, e_32, e_33, e_48, e_57, e_59, e_60, e_63, e_64, e_96, e_97, e_99, e_120, e_122, e_192, e_200, e_255, e_256, e_300, e_500, e_600, e_2000, e_5000, e_5240, e_6146, e_20000, e_65536, nIo, nI_clamp, nIxt, nI_1, nI_add, nI_mul, nI_eqF, nI_ltT, nI_ltF, nI_leT, nI_leF, nN_lt0, nN_le, nN_lt, nN_eq, nN_eq', eq_self, nBdS]
        · rw [g5.2 7 (by decide)]; simp (disch := decide) only [wrs, wrk, wrc, wr2, wl1, wls, wlk, wlc]
        · rw [g5.2 8 (by decide)]; simp (disch := decide) only [wrs, wrk, wrc, wr2, wl1, wls, wlk, wlc]
        · rw [g5.1 d e]; simp (disch := omega) only [wrs, wrk, wrc, wr2, wl1, wls, wlk, wlc]
        · rw [g5.2 f (by omega)]; simp (disch := omega) only [wrs, wrk, wrc, wr2, wl1, wls, wlk, wlc]
      · exact Or.inr (bad (Or.inr hvh))
  · exact Or.inr (no 3 4 (by decide) (by decide) (by decide) (by decide) e1 e2)
theorem tt_is {N n p k w : Nat} {c : Nat → Nat} {σ τ : nS} (hN : 700 ≤ N) (hk : k < 24) (hw : w < 2) (hr : rdR n c σ τ) (ht : tR n c p σ τ) :
    (∃ v p' σ' τ', v < 100 ∧ p < p' ∧ f_X4_takeNumber N (nI 0) (nI 99) σ = some (nI 1, σ') ∧ f_X11_needTarget N (nI k) (nI w) τ = some (some (nI v), τ') ∧ σ'.1 6 7 = nI v ∧ σ'.1 6 8 = nI p ∧ tR n c p' σ' τ' ∧ aD σ σ' ∧ aM (wr τ 11 (2 * k + w) (nI p)) τ') ∨ (f_X4_takeNumber N (nI 0) (nI 99) σ = some (nI 0, flC σ 1 p) ∧ f_X11_needTarget N (nI k) (nI w) τ = some (none, flM τ 1 p)) := by
  have h5 := ht.2.1
  have h23 := ht.2.2.1
  have no : ∀ k' s, k' < 5 → s < 5 → ¬ k' = 2 → ¬ s = 3 → σ.1 6 4 = nI k' → τ.1 0 22 = nI s → (f_X4_takeNumber N (nI 0) (nI 99) σ = some (nI 0, flC σ 1 p) ∧ f_X11_needTarget N (nI k) (nI w) τ = some (none, flM τ 1 p)) := by
    intro k' s k1 s1 k2 s2 e1 e2
    have hf := fail_is (N := N) (f := 1) h5
    have hs := stop_is (N := N) (f := 1) (p := p) (τ := τ)
    constructor
    · simp (disch := first | omega | exact nM1_n | exact nM2_n | assumption) only [b_X4_takeNumber_0, l_X4_takeNumber_0, f_X4_takeNumber, e1, hf, nZa, ↓nLetR, ↓reduceIte, ↓e_m1, ↓e_m2, e_0, e_1, e_2, e_3, e_4, e_5, e_6, e_7, e_8, e_9, e_10, e_11, e_12, e_13, e_14, e_15, e_16, e_17, e_18, e_19, e_20, e_21, e_22, e_23, e_24, e_25, e_26, e_27, e_28, e_29, e_30, e_31, e_32, e_33, e_48, e_57, e_59, e_60, e_63, e_64, e_96, e_97, e_99, e_120, e_122, e_192, e_200, e_255, e_256, e_300, e_500, e_600, e_2000, e_5000, e_5240, e_6146, e_20000, e_65536, nIo, nI_clamp, nIxt, nI_1, nI_add, nI_mul, nI_eqF, nI_ltT, nI_ltF, nI_leT, nI_leF, nN_lt0, nN_le, nN_lt, nN_eq, nN_eq', eq_self, nBdS]
    · simp (disch := first | omega | exact nM1_n | exact nM2_n | assumption) only [b_X11_needTarget_0, l_X11_needTarget_0, f_X11_needTarget, e2, h23, hs, ↓nLetR, ↓reduceIte, ↓e_m1, ↓e_m2, e_0, e_1, e_2, e_3, e_4, e_5, e_6, e_7, e_8, e_9, e_10, e_11, e_12, e_13, e_14, e_15, e_16, e_17, e_18, e_19, e_20, e_21, e_22, e_23, e_24, e_25, e_26, e_27, e_28, e_29, e_30, e_31, e_32, e_33, e_48, e_57, e_59, e_60, e_63, e_64, e_96, e_97, e_99, e_120, e_122, e_192, e_200, e_255, e_256, e_300, e_500, e_600, e_2000, e_5000, e_5240, e_6146, e_20000, e_65536, nIo, nI_clamp, nIxt, nI_1, nI_add, nI_mul, nI_eqF, nI_ltT, nI_ltF, nI_leT, nI_leF, nN_lt0, nN_le, nN_lt, nN_eq, nN_eq', eq_self, nBdS]
  rcases id ht.2.2.2 with ⟨e1, e2⟩ | ⟨e1, e2⟩ | ⟨a, ha1, ha2, e3, e21, ⟨e1, e2, _⟩ | ⟨e1, e2, v, hv, e6, e24⟩ | ⟨e1, e2⟩⟩
  · exact Or.inr (no 0 1 (by decide) (by decide) (by decide) (by decide) e1 e2)
  · exact Or.inr (no 4 0 (by decide) (by decide) (by decide) (by decide) e1 e2)
  · exact Or.inr (no 1 2 (by decide) (by decide) (by decide) (by decide) e1 e2)
  · left
    have hr' : rdR n c (wr (wr σ 6 7 (nI v)) 6 8 (nI p)) (wr τ 11 (2 * k + w) (nI p)) := by
      unfold rdR
      simp (disch := decide) only [wrs, wrk, wrc, wr2, wl1, wls, wlk, wlc]
      exact hr
    obtain ⟨p', σ', τ', g1, g2, g3, g4, g5, g6⟩ := adv_is (N := N) hN hr' (by simp (disch := decide) only [wrs, wrk, wrc, wr2, wl1, wls, wlk, wlc]; exact e3) (by simp (disch := decide) only [wrs, wrk, wrc, wr2, wl1, wls, wlk, wlc]; exact e21) ha2
    refine ⟨v, p', σ', τ', hv, by omega, ?_, ?_, ?_, ?_, g4, ⟨fun d e => ?_, fun f e => ?_⟩, g6⟩
    · simp (disch := first | omega | exact nM1_n | exact nM2_n | assumption) only [b_X4_takeNumber_0, l_X4_takeNumber_0, f_X4_takeNumber, e1, e6, h5, g2, ↓nLetR, ↓reduceIte, ↓e_m1, ↓e_m2, e_0, e_1, e_2, e_3, e_4, e_5, e_6, e_7, e_8, e_9, e_10, e_11, e_12, e_13, e_14, e_15, e_16, e_17, e_18, e_19, e_20, e_21, e_22, e_23, e_24, e_25, e_26, e_27, e_28, e_29, e_30, e_31, e_32, e_33, e_48, e_57, e_59, e_60, e_63, e_64, e_96, e_97, e_99, e_120, e_122, e_192, e_200, e_255, e_256, e_300, e_500, e_600, e_2000, e_5000, e_5240, e_6146, e_20000, e_65536, nIo, nI_clamp, nIxt, nI_1, nI_add, nI_mul, nI_eqF, nI_ltT, nI_ltF, nI_leT, nI_leF, nN_lt0, nN_le, nN_lt, nN_eq, nN_eq', eq_self, nBdS, wrs, wrk, wrc, wr2, wl1, wls, wlk, wlc]
    · simp (disch := first | omega | exact nM1_n | exact nM2_n | assumption) only [b_X11_needTarget_0, l_X11_needTarget_0, f_X11_needTarget, e2, e24, h23, g3, ↓nLetR, ↓reduceIte, ↓e_m1, ↓e_m2, e_0, e_1, e_2, e_3, e_4, e_5, e_6, e_7, e_8, e_9, e_10, e_11, e_12, e_13, e_14, e_15, e_16, e_17, e_18, e_19, e_20, e_21, e_22, e_23, e_24, e_25, e_26, e_27, e_28, e_29, e_30, e_31, e_32, e_33, e_48, e_57, e_59, e_60, e_63, e_64, e_96, e_97, e_99, e_120, e_122, e_192, e_200, e_255, e_256, e_300, e_500, e_600, e_2000, e_5000, e_5240, e_6146, e_20000, e_65536, nIo, nI_clamp, nIxt, nI_1, nI_add, nI_mul, nI_eqF, nI_ltT, nI_ltF, nI_leT, nI_leF, nN_lt0, nN_le, nN_lt, nN_eq, nN_eq', eq_self, nBdS, wrs, wrk, wrc, wr2, wl1, wls, wlk, wlc]
    · rw [g5.2 7 (by decide)]; simp (disch := decide) only [wrs, wrk, wrc, wr2, wl1, wls, wlk, wlc]
    · rw [g5.2 8 (by decide)]; simp (disch := decide) only [wrs, wrk, wrc, wr2, wl1, wls, wlk, wlc]
    · rw [g5.1 d e]; simp (disch := omega) only [wrs, wrk, wrc, wr2, wl1, wls, wlk, wlc]
    · rw [g5.2 f (by omega)]; simp (disch := omega) only [wrs, wrk, wrc, wr2, wl1, wls, wlk, wlc]
  · exact Or.inr (no 3 4 (by decide) (by decide) (by decide) (by decide) e1 e2)
theorem keep_is {N B k j : Nat} {v : Int32} {σ : nS} (hB : B < 5) (hk : k < 24) (hj : j < 5) (h1 : σ.1 1 3 = nI B) (h7 : σ.1 6 7 = v) : f_X4_keep N (nI k) (nI j) σ = some (nI 1, wr σ 5 ((B * 24 + k) * 5 + j) v) := by
  have hs := set_is (N := N) (b := B) (k := k) (j := j) (v := v) (σ := σ) hB hk hj
  simp (disch := first | omega | exact nM1_n | exact nM2_n | assumption) only [b_X4_keep_0, l_X4_keep_0, f_X4_keep, h1, h7, hs, ↓nLetR, ↓reduceIte, ↓e_m1, ↓e_m2, e_0, e_1, e_2, e_3, e_4, e_5, e_6, e_7, e_8, e_9, e_10, e_11, e_12, e_13, e_14, e_15, e_16, e_17, e_18, e_19, e_20, e_21, e_22, e_23, e_24, e_25, e_26, e_27, e_28, e_29, e_30, e_31, e_32, e_33, e_48, e_57, e_59, e_60, e_63, e_64, e_96, e_97, e_99, e_120, e_122, e_192, e_200, e_255, e_256, e_300, e_500, e_600, e_2000, e_5000, e_5240, e_6146, e_20000, e_65536, nIo, nI_clamp, nIxt, nI_1, nI_add, nI_mul, nI_eqF, nI_ltT, nI_ltF, nI_leT, nI_leF, nN_lt0, nN_le, nN_lt, nN_eq, nN_eq', eq_self, nBdS]
theorem kt_is {N B k j t : Nat} {v p : Int32} {σ : nS} (hB : B < 5) (hk : k < 24) (hj : j < 5) (h1 : σ.1 1 3 = nI B) (h7 : σ.1 6 7 = v) (h8 : σ.1 6 8 = p) (h13 : σ.1 6 13 = nI t) (ht : t < 48) : f_X4_keepTarget N (nI k) (nI j) σ = some (nI 1, wr (wr (wr (wr σ 8 t v) 9 t p) 6 13 (nI (t + 1))) 5 ((B * 24 + k) * 5 + j) v) := by
  have hs := keep_is (N := N) (B := B) (k := k) (j := j) (v := v) (σ := wr (wr (wr σ 8 t v) 9 t p) 6 13 (nI (t + 1))) hB hk hj (by simp (disch := decide) only [wrs, wrk, wrc, wr2, wl1, wls, wlk, wlc]; exact h1) (by simp (disch := decide) only [wrs, wrk, wrc, wr2, wl1, wls, wlk, wlc]; exact h7)
  simp (disch := first | omega | exact nM1_n | exact nM2_n | assumption) only [b_X4_keepTarget_0, l_X4_keepTarget_0, f_X4_keepTarget, h13, h7, h8, hs, nZb, ↓nLetR, ↓reduceIte, ↓e_m1, ↓e_m2, e_0, e_1, e_2, e_3, e_4, e_5, e_6, e_7, e_8, e_9, e_10, e_11, e_12, e_13, e_14, e_15, e_16, e_17, e_18, e_19, e_20, e_21, e_22, e_23, e_24, e_25, e_26, e_27, e_28, e_29, e_30, e_31, e_32, e_33, e_48, e_57, e_59, e_60, e_63, e_64, e_96, e_97, e_99, e_120, e_122, e_192, e_200, e_255, e_256, e_300, e_500, e_600, e_2000, e_5000, e_5240, e_6146, e_20000, e_65536, nIo, nI_clamp, nIxt, nI_1, nI_add, nI_mul, nI_eqF, nI_ltT, nI_ltF, nI_leT, nI_leF, nN_lt0, nN_le, nN_lt, nN_eq, nN_eq', eq_self, nBdS, wrs, wrk, wrc, wr2, wl1, wls, wlk, wlc]
