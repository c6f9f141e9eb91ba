/-! TWO BOOKS HELD AGAINST EACH OTHER -/
theorem hFr.rfl27 {σ τ : nS} : hFr 27 σ τ σ τ := ⟨fun _ _ _ _ => Eq.refl _, fun _ _ _ _ => Eq.refl _, fun _ _ => Eq.refl _⟩
theorem hFr.trans27 {a b c d e f : nS} (h : hFr 27 a b c d) (g : hFr 27 c d e f) : hFr 27 a b e f := ⟨fun x e1 e2 e3 => (g.1 x e1 e2 e3).trans (h.1 x e1 e2 e3), fun x e1 e2 e3 => (g.2.1 x e1 e2 e3).trans (h.2.1 x e1 e2 e3), fun x e1 => (g.2.2 x e1).trans (h.2.2 x e1)⟩
theorem hFr.hs27 {F S P B : Nat} {σ0 τ0 σ τ : nS} (h : hFr 27 σ0 τ0 σ τ) (g : hHs F S P B σ0 τ0) : hHs F S P B σ τ := by
  unfold hHs
  rw [h.1 1 (by decide) (by decide) (by decide), h.1 2 (by decide) (by decide) (by decide), h.1 3 (by decide) (by decide) (by decide), h.2.1 1 (by decide) (by decide) (by decide), h.2.1 2 (by decide) (by decide) (by decide), h.2.2 4 (by decide), h.2.2 5 (by decide), h.2.2 6 (by decide), h.2.2 7 (by decide), h.2.2 8 (by decide)]
  exact g
theorem hFr.bk27 {F S b n : Nat} {σ0 τ0 σ τ : nS} (h : hFr 27 σ0 τ0 σ τ) (g : hBk F S b n σ0 τ0) : hBk F S b n σ τ := by
  unfold hBk
  rw [h.1 4 (by decide) (by decide) (by decide), h.1 5 (by decide) (by decide) (by decide), h.2.1 3 (by decide) (by decide) (by decide), h.2.1 4 (by decide) (by decide) (by decide), h.2.1 5 (by decide) (by decide) (by decide), h.2.1 6 (by decide) (by decide) (by decide), h.2.1 7 (by decide) (by decide) (by decide), h.2.1 8 (by decide) (by decide) (by decide)]
  exact g
theorem un_step {N F S P B b n b2 n2 x M : Nat} {σ τ : nS} (hN : 7000 ≤ N) (hM : M + 2 < 2 ^ 31) (hH : hHs F S P B σ τ) (hB : hBk F S b n σ τ) (hB2 : hBk F S b2 n2 σ τ) (hx : x < 2 ^ 20) (hk : hMk M τ) :
    ∃ e t e2 t2 σ2 τ1 τ2, e < 7 ∧ e2 < 7 ∧ t < 6000 ∧ t2 < 6000 ∧ f_X8_isUnlike N (nI b) (nI b2) (nI x) σ = some (nI (if e = e2 ∧ (e = 0 → t = t2) then 0 else 1), σ2) ∧ f_X11_playsChoice N (nI b) (nI x) τ = some (nI e, τ1) ∧ f_X11_playsChoice N (nI b2) (nI x) τ1 = some (nI e2, τ2) ∧ τ1.1 0 33 = nI t ∧ τ2.1 0 33 = nI t2 ∧ hFr 27 σ τ σ2 τ1 ∧ hFr 27 σ τ σ2 τ2 ∧ hMk (M + 2) τ2 := by
  obtain ⟨e, σ1, τ1, p1, p2, he, z11, z32, ⟨t, ht, z8, z33⟩, _, _, _, zm, zf⟩ := try_is (N := N) hN (by omega) hH hB hx hk
  obtain ⟨e2, σ2, τ2, p3, p4, he2, y11, y32, ⟨t2, ht2, y8, y33⟩, _, _, _, ym, yf⟩ := try_is (N := N) hN (by omega) (zf.hs27 hH) (zf.bk27 hB2) hx zm
  have yf1 : hFr 27 σ τ σ2 τ2 := zf.trans27 yf
  refine ⟨e, t, e2, t2, σ2, τ1, τ2, he, he2, ht, ht2, ?_, p2, p4, z33, y33, ⟨yf1.1, zf.2⟩, yf1, ym⟩
  by_cases h1 : e = e2
  · by_cases h2 : e = 0
    · by_cases h3 : t = t2
      · rw [if_pos ⟨h1, fun _ => h3⟩]
        subst h1 h2 h3
        simp (disch := first | omega | exact nM1_n | exact nM2_n | assumption) only [b_X8_isUnlike_0, l_X8_isUnlike_0, f_X8_isUnlike, p1, p3, z8, y8, ↓nLetR, ↓reduceIte, ↓e_m1, ↓e_m2, e_0, e_1, e_2, e_3, e_4, e_5, e_6, e_7, e_8, e_9, e_10, e_11, e_12, e_13, e_14, e_15, e_16, e_17, e_18, e_19, e_20, e_21, e_22, e_23, e_24, e_25, e_26, e_27, e_28, e_29, e_30, e_31, e_32, e_33, e_48, e_57, e_59, e_60, e_63, e_64, e_96, e_97, e_99, e_120, e_122, e_192, e_200, e_255, e_256, e_300, e_500, e_600, e_2000, e_5000, e_5240, e_6146, e_20000, e_65536, nIo, nI_clamp, nIxt, nI_1, nI_add, nI_mul, nI_eqF, nI_ltT, nI_ltF, nI_leT, nI_leF, nN_lt0, nN_le, nN_lt, nN_eq, nN_eq', eq_self, nBdS]
      · rw [if_neg (fun h => h3 (h.2 h2))]
        subst h1 h2
        simp (disch := first | omega | exact nM1_n | exact nM2_n | assumption) only [b_X8_isUnlike_0, l_X8_isUnlike_0, f_X8_isUnlike, p1, p3, z8, y8, ↓nLetR, ↓reduceIte, ↓e_m1, ↓e_m2, e_0, e_1, e_2, e_3, e_4, e_5, e_6, e_7, e_8, e_9, e_10, e_11, e_12, e_13, e_14, e_15, e_16, e_17, e_18, e_19, e_20, e_21, e_22, e_23, e_24, e_25, e_26, e_27, e_28, e_29, e_30, e_31, e_32, e_33, e_48, e_57, e_59, e_60, e_63, e_64, e_96, e_97, e_99, e_120, e_122, e_192, e_200, e_255, e_256, e_300, e_500, e_600, e_2000, e_5000, e_5240, e_6146, e_20000, e_65536, nIo, nI_clamp, nIxt, nI_1, nI_add, nI_mul, nI_eqF, nI_ltT, nI_ltF, nI_leT, nI_leF, nN_lt0, nN_le, nN_lt, nN_eq, nN_eq', eq_self, nBdS]
    · rw [if_pos ⟨h1, fun h => absurd h h2⟩]
      subst h1
      simp (disch := first | omega | exact nM1_n | exact nM2_n | assumption) only [b_X8_isUnlike_0, l_X8_isUnlike_0, f_X8_isUnlike, p1, p3, z8, y8, ↓nLetR, ↓reduceIte, ↓e_m1, ↓e_m2, e_0, e_1, e_2, e_3, e_4, e_5, e_6, e_7, e_8, e_9, e_10, e_11, e_12, e_13, e_14, e_15, e_16, e_17, e_18, e_19, e_20, e_21, e_22, e_23, e_24, e_25, e_26, e_27, e_28, e_29, e_30, e_31, e_32, e_33, e_48, e_57, e_59, e_60, e_63, e_64, e_96, e_97, e_99, e_120, e_122, e_192, e_200, e_255, e_256, e_300, e_500, e_600, e_2000, e_5000, e_5240, e_6146, e_20000, e_65536, nIo, nI_clamp, nIxt, nI_1, nI_add, nI_mul, nI_eqF, nI_ltT, nI_ltF, nI_leT, nI_leF, nN_lt0, nN_le, nN_lt, nN_eq, nN_eq', eq_self, nBdS]
  · rw [if_neg (fun h => h1 h.1)]
    simp (disch := first | omega | exact nM1_n | exact nM2_n | assumption) only [b_X8_isUnlike_0, l_X8_isUnlike_0, f_X8_isUnlike, p1, p3, z8, y8, ↓nLetR, ↓reduceIte, ↓e_m1, ↓e_m2, e_0, e_1, e_2, e_3, e_4, e_5, e_6, e_7, e_8, e_9, e_10, e_11, e_12, e_13, e_14, e_15, e_16, e_17, e_18, e_19, e_20, e_21, e_22, e_23, e_24, e_25, e_26, e_27, e_28, e_29, e_30, e_31, e_32, e_33, e_48, e_57, e_59, e_60, e_63, e_64, e_96, e_97, e_99, e_120, e_122, e_192, e_200, e_255, e_256, e_300, e_500, e_600, e_2000, e_5000, e_5240, e_6146, e_20000, e_65536, nIo, nI_clamp, nIxt, nI_1, nI_add, nI_mul, nI_eqF, nI_ltT, nI_ltF, nI_leT, nI_leF, nN_lt0, nN_le, nN_lt, nN_eq, nN_eq', eq_self, nBdS]
theorem df_go {N F S P B b n b2 n2 : Nat} {W : List Nat} {σ0 τ0 : nS} (hN : 7000 ≤ N) (hH : hHs F S P B σ0 τ0) (hB : hBk F S b n σ0 τ0) (hB2 : hBk F S b2 n2 σ0 τ0) (hW : W.length ≤ 500) (hx : ∀ x, x ∈ W → x < 2 ^ 20) (h23 : lsR (σ0.1 23) W) (h16 : lsR (τ0.1 16) W) (h46 : τ0.1 0 46 = nI W.length) : ∀ d i m m' u M σ τ, i + d = W.length → d < m → d < m' → u ≤ i → M + 2 * d + 2 < 2 ^ 31 → hFr 27 σ0 τ0 σ τ → hMk M τ →
    ∃ u' σ' τ', nLp (fun _ _ _ _ _ _ => none) (fun again => b_X8_differ_104 N (l_X8_differ_140 N again)) m σ (nI b) (nI b2) (nI W.length) (nI u) (nI i) = f_X8_accept N (nI u') σ' ∧
      nLp (fun _ _ _ _ _ => none) (fun again => b_X11_differ_103 N (l_X11_differ_169 N (l_X11_differ_174 N again)) (l_X11_differ_173 N (l_X11_differ_174 N again))) m' τ (nI b) (nI b2) (nI u) (nI i) = f_X11_done N (nI u') τ' ∧ hFr 27 σ0 τ0 σ' τ' ∧ hMk (M + 2 * d) τ' := by
  intro d
  induction d with
  | zero =>
    intro i m m' u M σ τ hi hm hm' hu hM hf hk
    have hiW : i = W.length := by omega
    subst hiW
    have h46' : τ.1 0 46 = nI W.length := by rw [hf.2.2 46 (by decide)]; exact h46
    refine ⟨u, σ, τ, ?_, ?_, hf, hk⟩
    · rw [nLpP _ _ hm]
      simp (disch := first | omega | exact nM1_n | exact nM2_n | assumption) only [b_X8_differ_104, nBdE, ↓nLetR, ↓reduceIte, ↓e_m1, ↓e_m2, e_0, e_1, e_2, e_3, e_4, e_5, e_6, e_7, e_8, e_9, e_10, e_11, e_12, e_13, e_14, e_15, e_16, e_17, e_18, e_19, e_20, e_21, e_22, e_23, e_24, e_25, e_26, e_27, e_28, e_29, e_30, e_31, e_32, e_33, e_48, e_57, e_59, e_60, e_63, e_64, e_96, e_97, e_99, e_120, e_122, e_192, e_200, e_255, e_256, e_300, e_500, e_600, e_2000, e_5000, e_5240, e_6146, e_20000, e_65536, nIo, nI_clamp, nIxt, nI_1, nI_add, nI_mul, nI_eqF, nI_ltT, nI_ltF, nI_leT, nI_leF, nN_lt0, nN_le, nN_lt, nN_eq, nN_eq', eq_self, nBdS]
    · rw [nLpP _ _ hm']
      simp (disch := first | omega | exact nM1_n | exact nM2_n | assumption) only [b_X11_differ_103, h46', nBdE, ↓nLetR, ↓reduceIte, ↓e_m1, ↓e_m2, e_0, e_1, e_2, e_3, e_4, e_5, e_6, e_7, e_8, e_9, e_10, e_11, e_12, e_13, e_14, e_15, e_16, e_17, e_18, e_19, e_20, e_21, e_22, e_23, e_24, e_25, e_26, e_27, e_28, e_29, e_30, e_31, e_32, e_33, e_48, e_57, e_59, e_60, e_63, e_64, e_96, e_97, e_99, e_120, e_122, e_192, e_200, e_255, e_256, e_300, e_500, e_600, e_2000, e_5000, e_5240, e_6146, e_20000, e_65536, nIo, nI_clamp, nIxt, nI_1, nI_add, nI_mul, nI_eqF, nI_ltT, nI_ltF, nI_leT, nI_leF, nN_lt0, nN_le, nN_lt, nN_eq, nN_eq', eq_self, nBdS]
  | succ d ih =>
    intro i m m' u M σ τ hi hm hm' hu hM hf hk
    have hiW : i < W.length := by omega
    have h46' : τ.1 0 46 = nI W.length := by rw [hf.2.2 46 (by decide)]; exact h46
    have r1 := h23.at hiW
    have r2 := h16.at hiW
    have hxx := hx W[i] (List.getElem_mem hiW)
    generalize W[i] = x at r1 r2 hxx
    rw [← hf.1 23 (by decide) (by decide) (by decide)] at r1
    have r3 : τ.1 16 i = nI x := by rw [hf.2.1 16 (by decide) (by decide) (by decide)]; exact r2
    obtain ⟨e, t, e2, t2, σ2, τ1, τ2, he, he2, ht, ht2, p1, p2, p3, p4, p5, p6, p7, p8⟩ := un_step (N := N) hN (by omega) (hf.hs27 hH) (hf.bk27 hB) (hf.bk27 hB2) hxx hk
    have r4 : τ1.1 16 i = nI x := by rw [p6.2.1 16 (by decide) (by decide) (by decide)]; exact r3
    obtain ⟨v, hv, ev⟩ : ∃ v, v < 2 ∧ (if e = e2 ∧ (e = 0 → t = t2) then 0 else 1) = v := by
      by_cases h : e = e2 ∧ (e = 0 → t = t2)
      · exact ⟨0, by decide, if_pos h⟩
      · exact ⟨1, by decide, if_neg h⟩
    rw [ev] at p1
    obtain ⟨u', σ', τ', g1, g2, g3, g4⟩ := ih (i + 1) (m - 1) (m' - 1) (u + v) (M + 2) σ2 τ2 (by omega) (by omega) (by omega) (by omega) (by omega) (hf.trans27 p7) p8
    refine ⟨u', σ', τ', ?_, ?_, g3, by rw [show M + 2 * (d + 1) = M + 2 + 2 * d by omega]; exact g4⟩
    · rw [nLpP _ _ (by omega)]
      have hv2 : v = 0 ∨ v = 1 := by omega
      rcases hv2 with rfl | rfl
      · simp (disch := first | omega | exact nM1_n | exact nM2_n | assumption) only [b_X8_differ_104, l_X8_differ_140, b_X8_differ_140, r1, p1, ↓nLetR, ↓reduceIte, ↓e_m1, ↓e_m2, e_0, e_1, e_2, e_3, e_4, e_5, e_6, e_7, e_8, e_9, e_10, e_11, e_12, e_13, e_14, e_15, e_16, e_17, e_18, e_19, e_20, e_21, e_22, e_23, e_24, e_25, e_26, e_27, e_28, e_29, e_30, e_31, e_32, e_33, e_48, e_57, e_59, e_60, e_63, e_64, e_96, e_97, e_99, e_120, e_122, e_192, e_200, e_255, e_256, e_300, e_500, e_600, e_2000, e_5000, e_5240, e_6146, e_20000, e_65536, nIo, nI_clamp, nIxt, nI_1, nI_add, nI_mul, nI_eqF, nI_ltT, nI_ltF, nI_leT, nI_leF, nN_lt0, nN_le, nN_lt, nN_eq, nN_eq', eq_self, nBdS]
        exact g1
      · simp (disch := first | omega | exact nM1_n | exact nM2_n | assumption) only [b_X8_differ_104, l_X8_differ_140, b_X8_differ_140, r1, p1, ↓nLetR, ↓reduceIte, ↓e_m1, ↓e_m2, e_0, e_1, e_2, e_3, e_4, e_5, e_6, e_7, e_8, e_9, e_10, e_11, e_12, e_13, e_14, e_15, e_16, e_17, e_18, e_19, e_20, e_21, e_22, e_23, e_24, e_25, e_26, e_27, e_28, e_29, e_30, e_31, e_32, e_33, e_48, e_57, e_59, e_60, e_63, e_64, e_96, e_97, e_99, e_120, e_122, e_192, e_200, e_255, e_256, e_300, e_500, e_600, e_2000, e_5000, e_5240, e_6146, e_20000, e_65536, nIo, nI_clamp, nIxt, nI_1, nI_add, nI_mul, nI_eqF, nI_ltT, nI_ltF, nI_leT, nI_leF, nN_lt0, nN_le, nN_lt, nN_eq, nN_eq', eq_self, nBdS]
        exact g1
    · rw [nLpP _ _ (by omega)]
      by_cases h1 : e = e2
      · by_cases h2 : e = 0
        · by_cases h3 : t = t2
          · rw [if_pos ⟨h1, fun _ => h3⟩] at ev
            subst h1 h2 h3 ev
            simp (disch := first | omega | exact nM1_n | exact nM2_n | assumption) only [b_X11_differ_103, l_X11_differ_169, l_X11_differ_173, l_X11_differ_174, b_X11_differ_169, b_X11_differ_173, b_X11_differ_174, h46', r3, r4, p2, p3, p4, p5, ↓nLetR, ↓reduceIte, ↓e_m1, ↓e_m2, e_0, e_1, e_2, e_3, e_4, e_5, e_6, e_7, e_8, e_9, e_10, e_11, e_12, e_13, e_14, e_15, e_16, e_17, e_18, e_19, e_20, e_21, e_22, e_23, e_24, e_25, e_26, e_27, e_28, e_29, e_30, e_31, e_32, e_33, e_48, e_57, e_59, e_60, e_63, e_64, e_96, e_97, e_99, e_120, e_122, e_192, e_200, e_255, e_256, e_300, e_500, e_600, e_2000, e_5000, e_5240, e_6146, e_20000, e_65536, nIo, nI_clamp, nIxt, nI_1, nI_add, nI_mul, nI_eqF, nI_ltT, nI_ltF, nI_leT, nI_leF, nN_lt0, nN_le, nN_lt, nN_eq, nN_eq', eq_self, nBdS]
            exact g2
          · rw [if_neg (fun h => h3 (h.2 h2))] at ev
            subst h1 h2 ev
            simp (disch := first | omega | exact nM1_n | exact nM2_n | assumption) only [b_X11_differ_103, l_X11_differ_169, l_X11_differ_173, l_X11_differ_174, b_X11_differ_169, b_X11_differ_173, b_X11_differ_174, h46', r3, r4, p2, p3, p4, p5, ↓nLetR, ↓reduceIte, ↓e_m1, ↓e_m2, e_0, e_1, e_2, e_3, e_4, e_5, e_6, e_7, e_8, e_9, e_10, e_11, e_12, e_13, e_14, e_15, e_16, e_17, e_18, e_19, e_20, e_21, e_22, e_23, e_24, e_25, e_26, e_27, e_28, e_29, e_30, e_31, e_32, e_33, e_48, e_57, e_59, e_60, e_63, e_64, e_96, e_97, e_99, e_120, e_122, e_192, e_200, e_255, e_256, e_300, e_500, e_600, e_2000, e_5000, e_5240, e_6146, e_20000, e_65536, nIo, nI_clamp, nIxt, nI_1, nI_add, nI_mul, nI_eqF, nI_ltT, nI_ltF, nI_leT, nI_leF, nN_lt0, nN_le, nN_lt, nN_eq, nN_eq', eq_self, nBdS]
            exact g2
        · rw [if_pos ⟨h1, fun h => absurd h h2⟩] at ev
          subst h1 ev
          simp (disch := first | omega | exact nM1_n | exact nM2_n | assumption) only [b_X11_differ_103, l_X11_differ_169, l_X11_differ_173, l_X11_differ_174, b_X11_differ_169, b_X11_differ_173, b_X11_differ_174, h46', r3, r4, p2, p3, p4, p5, ↓nLetR, ↓reduceIte, ↓e_m1, ↓e_m2, e_0, e_1, e_2, e_3, e_4, e_5, e_6, e_7, e_8, e_9, e_10, e_11, e_12, e_13, e_14, e_15, e_16, e_17, e_18, e_19, e_20, e_21, e_22, e_23, e_24, e_25, e_26, e_27, e_28, e_29, e_30, e_31, e_32, e_33, e_48, e_57, e_59, e_60, e_63, e_64, e_96, e_97, e_99, e_120, e_122, e_192, e_200, e_255, e_256, e_300, e_500, e_600, e_2000, e_5000, e_5240, e_6146, e_20000, e_65536, nIo, nI_clamp, nIxt, nI_1, nI_add, nI_mul, nI_eqF, nI_ltT, nI_ltF, nI_leT, nI_leF, nN_lt0, nN_le, nN_lt, nN_eq, nN_eq', eq_self, nBdS]
          exact g2
      · rw [if_neg (fun h => h1 h.1)] at ev
        subst ev
        simp (disch := first | omega | exact nM1_n | exact nM2_n | assumption) only [b_X11_differ_103, l_X11_differ_169, l_X11_differ_173, l_X11_differ_174, b_X11_differ_169, b_X11_differ_173, b_X11_differ_174, h46', r3, r4, p2, p3, p4, p5, ↓nLetR, ↓reduceIte, ↓e_m1, ↓e_m2, e_0, e_1, e_2, e_3, e_4, e_5, e_6, e_7, e_8, e_9, e_10, e_11, e_12, e_13, e_14, e_15, e_16, e_17, e_18, e_19, e_20, e_21, e_22, e_23, e_24, e_25, e_26, e_27, e_28, e_29, e_30, e_31, e_32, e_33, e_48, e_57, e_59, e_60, e_63, e_64, e_96, e_97, e_99, e_120, e_122, e_192, e_200, e_255, e_256, e_300, e_500, e_600, e_2000, e_5000, e_5240, e_6146, e_20000, e_65536, nIo, nI_clamp, nIxt, nI_1, nI_add, nI_mul, nI_eqF, nI_ltT, nI_ltF, nI_leT, nI_leF, nN_lt0, nN_le, nN_lt, nN_eq, nN_eq', eq_self, nBdS]
        exact g2
theorem pOp26 (N : Nat) (hN : 10000 ≤ N) : nOp26 N nInv := by
  intro n σ τ x0 x1 x2 x3 x4 x5 hn hI
  obtain ⟨F, S, P, B, sz, T, h1, h2, h3, h4, h5, h6, h7, h8, h9, h10⟩ := hI
  obtain ⟨⟨b1, b2, b3, b4⟩, ⟨w0, w1, w2, w3⟩, ⟨m0, m1, m2, m3⟩, hg, hs, hk⟩ := id h1
  have m3' : (wr τ 0 0 (nI 0)).1 0 7 = nI B := by simp (disch := decide) only [wrs, wrk, wrc, wr2, wl1, wls, wlk, wlc]; exact m3
  rcases book_cs x0 B with hb | ⟨b, hb, rfl⟩
  · simp (disch := first | omega | exact nM1_n | exact nM2_n | assumption) only [f_X8_differ, l_X8_differ_0, b_X8_differ_0, b_X8_refuse_0, l_X8_refuse_0, f_X8_refuse, b_X11_refused_0, l_X11_refused_0, f_X11_refused, f_X11_differ, l_X11_differ_0, b_X11_differ_0, hasB_n b4 w3 hb, ↓nLetR, ↓reduceIte, ↓e_m1, ↓e_m2, e_0, e_1, e_2, e_3, e_4, e_5, e_6, e_7, e_8, e_9, e_10, e_11, e_12, e_13, e_14, e_15, e_16, e_17, e_18, e_19, e_20, e_21, e_22, e_23, e_24, e_25, e_26, e_27, e_28, e_29, e_30, e_31, e_32, e_33, e_48, e_57, e_59, e_60, e_63, e_64, e_96, e_97, e_99, e_120, e_122, e_192, e_200, e_255, e_256, e_300, e_500, e_600, e_2000, e_5000, e_5240, e_6146, e_20000, e_65536, nIo, nI_clamp, nIxt, nI_1, nI_add, nI_mul, nI_eqF, nI_ltT, nI_ltF, nI_leT, nI_leF, nN_lt0, nN_le, nN_lt, nN_eq, nN_eq', eq_self, nBdS, isB_n b4 m3' hb, wrs, wrk, wrc, wr2, wl1, wls, wlk, wlc]
    refine pK rfl ⟨F, S, P, B, sz, T, ?_⟩
    simp (disch := decide) only [iI, wrs, wrk, wrc, wr2, wl1, wls, wlk, wlc]
    exact ⟨h1, h2, h3, h4.no 1 (by decide), h5, h6, h7, h8, h9, h10.up⟩
  rcases book_cs x1 B with hb2 | ⟨bb, hbb, rfl⟩
  · simp (disch := first | omega | exact nM1_n | exact nM2_n | assumption) only [f_X8_differ, l_X8_differ_0, b_X8_differ_0, b_X8_refuse_0, l_X8_refuse_0, f_X8_refuse, b_X11_refused_0, l_X11_refused_0, f_X11_refused, f_X11_differ, l_X11_differ_0, b_X11_differ_0, hasB_y b4 w3 hb, isB_y b4 m3' hb, hasB_n b4 w3 hb2, ↓nLetR, ↓reduceIte, ↓e_m1, ↓e_m2, e_0, e_1, e_2, e_3, e_4, e_5, e_6, e_7, e_8, e_9, e_10, e_11, e_12, e_13, e_14, e_15, e_16, e_17, e_18, e_19, e_20, e_21, e_22, e_23, e_24, e_25, e_26, e_27, e_28, e_29, e_30, e_31, e_32, e_33, e_48, e_57, e_59, e_60, e_63, e_64, e_96, e_97, e_99, e_120, e_122, e_192, e_200, e_255, e_256, e_300, e_500, e_600, e_2000, e_5000, e_5240, e_6146, e_20000, e_65536, nIo, nI_clamp, nIxt, nI_1, nI_add, nI_mul, nI_eqF, nI_ltT, nI_ltF, nI_leT, nI_leF, nN_lt0, nN_le, nN_lt, nN_eq, nN_eq', eq_self, nBdS, isB_n b4 m3' hb2, wrs, wrk, wrc, wr2, wl1, wls, wlk, wlc]
    refine pK rfl ⟨F, S, P, B, sz, T, ?_⟩
    simp (disch := decide) only [iI, wrs, wrk, wrc, wr2, wl1, wls, wlk, wlc]
    exact ⟨h1, h2, h3, h4.no 1 (by decide), h5, h6, h7, h8, h9, h10.up⟩
  rcases bits_cs x2 with hx2 | ⟨x, hx, rfl⟩
  · simp (disch := first | omega | exact nM1_n | exact nM2_n | assumption) only [f_X8_differ, l_X8_differ_0, b_X8_differ_0, b_X8_refuse_0, l_X8_refuse_0, f_X8_refuse, b_X11_refused_0, l_X11_refused_0, f_X11_refused, f_X11_differ, l_X11_differ_0, b_X11_differ_0, hasB_y b4 w3 hb, hasB_y b4 w3 hbb, ↓nLetR, ↓reduceIte, ↓e_m1, ↓e_m2, e_0, e_1, e_2, e_3, e_4, e_5, e_6, e_7, e_8, e_9, e_10, e_11, e_12, e_13, e_14, e_15, e_16, e_17, e_18, e_19, e_20, e_21, e_22, e_23, e_24, e_25, e_26, e_27, e_28, e_29, e_30, e_31, e_32, e_33, e_48, e_57, e_59, e_60, e_63, e_64, e_96, e_97, e_99, e_120, e_122, e_192, e_200, e_255, e_256, e_300, e_500, e_600, e_2000, e_5000, e_5240, e_6146, e_20000, e_65536, nIo, nI_clamp, nIxt, nI_1, nI_add, nI_mul, nI_eqF, nI_ltT, nI_ltF, nI_leT, nI_leF, nN_lt0, nN_le, nN_lt, nN_eq, nN_eq', eq_self, nBdS, isB_y b4 m3' hb, isB_y b4 m3' hbb, areB_n hx2, in_n hx2, wrs, wrk, wrc, wr2, wl1, wls, wlk, wlc]
    refine pK rfl ⟨F, S, P, B, sz, T, ?_⟩
    simp (disch := decide) only [iI, wrs, wrk, wrc, wr2, wl1, wls, wlk, wlc]
    exact ⟨h1, h2, h3, h4.no 2 (by decide), h5, h6, h7, h8, h9, h10.up⟩
  rcases book_cs x3 9 with hx3 | ⟨wm, hwm, rfl⟩
  · simp (disch := first | omega | exact nM1_n | exact nM2_n | assumption) only [f_X8_differ, l_X8_differ_0, b_X8_differ_0, b_X8_refuse_0, l_X8_refuse_0, f_X8_refuse, b_X11_refused_0, l_X11_refused_0, f_X11_refused, f_X11_differ, l_X11_differ_0, b_X11_differ_0, hasB_y b4 w3 hb, hasB_y b4 w3 hbb, ↓nLetR, ↓reduceIte, ↓e_m1, ↓e_m2, e_0, e_1, e_2, e_3, e_4, e_5, e_6, e_7, e_8, e_9, e_10, e_11, e_12, e_13, e_14, e_15, e_16, e_17, e_18, e_19, e_20, e_21, e_22, e_23, e_24, e_25, e_26, e_27, e_28, e_29, e_30, e_31, e_32, e_33, e_48, e_57, e_59, e_60, e_63, e_64, e_96, e_97, e_99, e_120, e_122, e_192, e_200, e_255, e_256, e_300, e_500, e_600, e_2000, e_5000, e_5240, e_6146, e_20000, e_65536, nIo, nI_clamp, nIxt, nI_1, nI_add, nI_mul, nI_eqF, nI_ltT, nI_ltF, nI_leT, nI_leF, nN_lt0, nN_le, nN_lt, nN_eq, nN_eq', eq_self, nBdS, isB_y b4 m3' hb, isB_y b4 m3' hbb, areB_y hx, in_y hx, mo_n (Or.inl hx3), in8_n hx3, wrs, wrk, wrc, wr2, wl1, wls, wlk, wlc]
    refine pK rfl ⟨F, S, P, B, sz, T, ?_⟩
    simp (disch := decide) only [iI, wrs, wrk, wrc, wr2, wl1, wls, wlk, wlc]
    exact ⟨h1, h2, h3, h4.no 2 (by decide), h5, h6, h7, h8, h9, h10.up⟩
  rcases book_cs x4 9 with hx4 | ⟨lm, hlm, rfl⟩
  · simp (disch := first | omega | exact nM1_n | exact nM2_n | assumption) only [f_X8_differ, l_X8_differ_0, b_X8_differ_0, b_X8_refuse_0, l_X8_refuse_0, f_X8_refuse, b_X11_refused_0, l_X11_refused_0, f_X11_refused, f_X11_differ, l_X11_differ_0, b_X11_differ_0, hasB_y b4 w3 hb, hasB_y b4 w3 hbb, ↓nLetR, ↓reduceIte, ↓e_m1, ↓e_m2, e_0, e_1, e_2, e_3, e_4, e_5, e_6, e_7, e_8, e_9, e_10, e_11, e_12, e_13, e_14, e_15, e_16, e_17, e_18, e_19, e_20, e_21, e_22, e_23, e_24, e_25, e_26, e_27, e_28, e_29, e_30, e_31, e_32, e_33, e_48, e_57, e_59, e_60, e_63, e_64, e_96, e_97, e_99, e_120, e_122, e_192, e_200, e_255, e_256, e_300, e_500, e_600, e_2000, e_5000, e_5240, e_6146, e_20000, e_65536, nIo, nI_clamp, nIxt, nI_1, nI_add, nI_mul, nI_eqF, nI_ltT, nI_ltF, nI_leT, nI_leF, nN_lt0, nN_le, nN_lt, nN_eq, nN_eq', eq_self, nBdS, isB_y b4 m3' hb, isB_y b4 m3' hbb, areB_y hx, in_y hx, mo_n (Or.inr ⟨⟨wm, hwm, rfl⟩, Or.inl hx4⟩), in8_y hwm, in8_n hx4, wrs, wrk, wrc, wr2, wl1, wls, wlk, wlc]
    refine pK rfl ⟨F, S, P, B, sz, T, ?_⟩
    simp (disch := decide) only [iI, wrs, wrk, wrc, wr2, wl1, wls, wlk, wlc]
    exact ⟨h1, h2, h3, h4.no 2 (by decide), h5, h6, h7, h8, h9, h10.up⟩
  rcases book_cs x5 9 with hx5 | ⟨am, ham, rfl⟩
  · simp (disch := first | omega | exact nM1_n | exact nM2_n | assumption) only [f_X8_differ, l_X8_differ_0, b_X8_differ_0, b_X8_refuse_0, l_X8_refuse_0, f_X8_refuse, b_X11_refused_0, l_X11_refused_0, f_X11_refused, f_X11_differ, l_X11_differ_0, b_X11_differ_0, hasB_y b4 w3 hb, hasB_y b4 w3 hbb, ↓nLetR, ↓reduceIte, ↓e_m1, ↓e_m2, e_0, e_1, e_2, e_3, e_4, e_5, e_6, e_7, e_8, e_9, e_10, e_11, e_12, e_13, e_14, e_15, e_16, e_17, e_18, e_19, e_20, e_21, e_22, e_23, e_24, e_25, e_26, e_27, e_28, e_29, e_30, e_31, e_32, e_33, e_48, e_57, e_59, e_60, e_63, e_64, e_96, e_97, e_99, e_120, e_122, e_192, e_200, e_255, e_256, e_300, e_500, e_600, e_2000, e_5000, e_5240, e_6146, e_20000, e_65536, nIo, nI_clamp, nIxt, nI_1, nI_add, nI_mul, nI_eqF, nI_ltT, nI_ltF, nI_leT, nI_leF, nN_lt0, nN_le, nN_lt, nN_eq, nN_eq', eq_self, nBdS, isB_y b4 m3' hb, isB_y b4 m3' hbb, areB_y hx, in_y hx, mo_n (Or.inr ⟨⟨wm, hwm, rfl⟩, Or.inr ⟨⟨lm, hlm, rfl⟩, hx5⟩⟩), in8_y hwm, in8_y hlm, in8_n hx5, wrs, wrk, wrc, wr2, wl1, wls, wlk, wlc]
    refine pK rfl ⟨F, S, P, B, sz, T, ?_⟩
    simp (disch := decide) only [iI, wrs, wrk, wrc, wr2, wl1, wls, wlk, wlc]
    exact ⟨h1, h2, h3, h4.no 2 (by decide), h5, h6, h7, h8, h9, h10.up⟩
  obtain ⟨σ1, p1, p2, p3⟩ := prep_is (N := N) (F := F) (S := S) (P := P) (x := x) (wm := wm) (lm := lm) (am := am) (σ := σ) (by omega) b1 b2 b3 w0 w1 w2 hx hwm hlm ham
  have hlen : (flR (okS (x % 2 ^ F) wm) 0 256).length * (flR (okS (2 ^ S - 1) lm) 0 256).length * (flR (okS (2 ^ P - 1) am) 0 16).length = (allL F S P x wm lm am).length := by
    unfold allL
    rw [lP_len]
    rfl
  rw [hlen] at p1
  have hbig : (allL F S P x wm lm am).length ≤ 256 * 256 * 16 := by
    unfold allL
    rw [lP_len]
    obtain ⟨⟨q1, q2, q3⟩, _⟩ := wB_is F S P x wm lm am
    exact Nat.mul_le_mul (Nat.mul_le_mul q1 q2) q3
  obtain ⟨τ1, c1, c2⟩ := choose_is (N := N) (F := F) (S := S) (P := P) (x := x) (wm := wm) (lm := lm) (am := am) (τ := wr τ 0 0 (nI 0)) (by omega) b1 b2 b3 (by simp (disch := decide) only [wrs, wrk, wrc, wr2, wl1, wls, wlk, wlc]; exact m0) (by simp (disch := decide) only [wrs, wrk, wrc, wr2, wl1, wls, wlk, wlc]; exact m1) (by simp (disch := decide) only [wrs, wrk, wrc, wr2, wl1, wls, wlk, wlc]; exact m2) hx hwm hlm ham
  have U1 : ∀ d, d ≠ 0 → d ≠ 16 → d ≠ 17 → τ1.1 d = τ.1 d := fun d z1 z2 z3 => by rw [c1.1 d z1 z2 z3, wrc _ _ _ z1]
  have U0 : ∀ f, f ≠ 0 → f ≠ 46 → τ1.1 0 f = τ.1 0 f := fun f z1 z2 => by rw [c1.2 f z2, wrk _ _ _ z1]
  rcases c2 with ⟨g1, g2, g3, g4⟩ | ⟨g1, g2⟩
  · have hrl := row_len F S P x wm lm am
    obtain ⟨σ2, s1, s2, s3⟩ := wt_is (N := N) (q := 23) (qn := 500) (fs := fsL F x wm) (ss := ssL S lm) (ps := psL P am) (σ := σ1) (by omega) (by decide) (by decide) (wB_is F S P x wm lm am) p2 g1
    have S1 : ∀ d, (d < 12 ∨ 15 < d) → d ≠ 23 → σ2.1 d = σ.1 d := fun d z z2 => by rw [s3 d z2, p3 d (by omega) (by omega) (by omega) (by omega)]
    have hH : hHs F S P B σ2 τ1 := by
      unfold hHs
      rw [S1 1 (by decide) (by decide), S1 2 (by decide) (by decide), S1 3 (by decide) (by decide), U1 1 (by decide) (by decide) (by decide), U1 2 (by decide) (by decide) (by decide), U0 4 (by decide) (by decide), U0 5 (by decide) (by decide), U0 6 (by decide) (by decide), U0 7 (by decide) (by decide), U0 8 (by decide) (by decide)]
      exact h1
    have hBB : ∀ b, b < B → hBk F S b (sz b) σ2 τ1 := by
      intro b hb
      obtain ⟨q1, q2, q3, q4⟩ := h2 b hb
      unfold hBk
      rw [S1 4 (by decide) (by decide), S1 5 (by decide) (by decide), U1 3 (by decide) (by decide) (by decide), U1 4 (by decide) (by decide) (by decide), U1 5 (by decide) (by decide) (by decide), U1 6 (by decide) (by decide) (by decide), U1 7 (by decide) (by decide) (by decide), U1 8 (by decide) (by decide) (by decide)]
      exact ⟨by omega, q1, q2, q3, q4⟩
    obtain ⟨M, hM, k1, k2, k3⟩ := id h10
    have hk' : hMk M τ1 := by
      unfold hMk
      rw [U0 31 (by decide) (by decide), U1 12 (by decide) (by decide) (by decide)]
      exact ⟨k1, k2⟩
    obtain ⟨u, σ4, τ4, r1, r2, r4, r5⟩ := df_go (N := N) (by omega) hH (hBB b hb) (hBB bb hbb) (by omega) (fun y h => row_mem h) s2 g4 g3 (rowL F S P x wm lm am).length 0 N N 0 M σ2 τ1 (by omega) (by omega) (by omega) (by omega) (by omega) hFr.rfl27 hk'
    have q1 : l_X8_differ_104 N σ2 (nI b) (nI bb) (nI (allL F S P x wm lm am).length) (nI 0) (nI 0) = some (nI u, wr σ4 0 12 (nI 0)) := by rw [← hrl]; exact r1
    have q2 : l_X11_differ_103 N τ1 (nI b) (nI bb) (nI 0) (nI 0) = some (nI u, wr (wr τ4 0 1 (nI 0)) 0 2 nM1) := r2
    simp (disch := first | omega | exact nM1_n | exact nM2_n | assumption) only [f_X8_differ, l_X8_differ_0, b_X8_differ_0, f_X11_differ, l_X11_differ_0, b_X11_differ_0, hasB_y b4 w3 hb, hasB_y b4 w3 hbb, ↓nLetR, ↓reduceIte, ↓e_m1, ↓e_m2, e_0, e_1, e_2, e_3, e_4, e_5, e_6, e_7, e_8, e_9, e_10, e_11, e_12, e_13, e_14, e_15, e_16, e_17, e_18, e_19, e_20, e_21, e_22, e_23, e_24, e_25, e_26, e_27, e_28, e_29, e_30, e_31, e_32, e_33, e_48, e_57, e_59, e_60, e_63, e_64, e_96, e_97, e_99, e_120, e_122, e_192, e_200, e_255, e_256, e_300, e_500, e_600, e_2000, e_5000, e_5240, e_6146, e_20000, e_65536, nIo, nI_clamp, nIxt, nI_1, nI_add, nI_mul, nI_eqF, nI_ltT, nI_ltF, nI_leT, nI_leF, nN_lt0, nN_le, nN_lt, nN_eq, nN_eq', eq_self, nBdS, isB_y b4 m3' hb, isB_y b4 m3' hbb, areB_y hx, in_y hx, mo_y hwm hlm ham, in8_y hwm, in8_y hlm, in8_y ham, p1, s1, q1, g2, q2, wrs, wrk, wrc, wr2, wl1, wls, wlk, wlc]
    refine pK rfl ⟨F, S, P, B, sz, T, ?_⟩
    have F1 : ∀ d, d ≠ 11 → (d < 12 ∨ 15 < d) → d ≠ 23 → d ≠ 27 → d ≠ 29 → σ4.1 d = σ.1 d := fun d z1 z2 z3 z4 z5 => by rw [r4.1 d z4 z5 z1, S1 d z2 z3]
    have T1 : ∀ d, d ≠ 0 → d ≠ 12 → d ≠ 14 → d ≠ 16 → d ≠ 17 → τ4.1 d = τ.1 d := fun d z1 z2 z3 z4 z5 => by rw [r4.2.1 d z1 z2 z3, U1 d z1 z4 z5]
    have T0 : ∀ f, f ≠ 0 → (f < 31 ∨ 36 < f) → f ≠ 46 → τ4.1 0 f = τ.1 0 f := fun f z1 z2 z3 => by rw [r4.2.2 f z2, U0 f z1 z3]
    simp (disch := decide) only [iI, wrs, wrk, wrc, wr2, wl1, wls, wlk, wlc, F1, T1, T0]
    refine ⟨h1, h2, h3, h4.done, h5, h6, h7, h8, h9, ?_⟩
    refine ⟨M + 2 * (rowL F S P x wm lm am).length, by omega, r5.1, r5.2, fun k hk => ?_⟩
    obtain ⟨z, hz, ez⟩ := k3 k hk
    exact ⟨z, by omega, ez⟩
  · simp (disch := first | omega | exact nM1_n | exact nM2_n | assumption) only [f_X8_differ, l_X8_differ_0, b_X8_differ_0, b_X8_refuse_0, l_X8_refuse_0, f_X8_refuse, b_X11_refused_0, l_X11_refused_0, f_X11_refused, f_X11_differ, l_X11_differ_0, b_X11_differ_0, hasB_y b4 w3 hb, hasB_y b4 w3 hbb, ↓nLetR, ↓reduceIte, ↓e_m1, ↓e_m2, e_0, e_1, e_2, e_3, e_4, e_5, e_6, e_7, e_8, e_9, e_10, e_11, e_12, e_13, e_14, e_15, e_16, e_17, e_18, e_19, e_20, e_21, e_22, e_23, e_24, e_25, e_26, e_27, e_28, e_29, e_30, e_31, e_32, e_33, e_48, e_57, e_59, e_60, e_63, e_64, e_96, e_97, e_99, e_120, e_122, e_192, e_200, e_255, e_256, e_300, e_500, e_600, e_2000, e_5000, e_5240, e_6146, e_20000, e_65536, nIo, nI_clamp, nIxt, nI_1, nI_add, nI_mul, nI_eqF, nI_ltT, nI_ltF, nI_leT, nI_leF, nN_lt0, nN_le, nN_lt, nN_eq, nN_eq', eq_self, nBdS, isB_y b4 m3' hb, isB_y b4 m3' hbb, areB_y hx, in_y hx, mo_y hwm hlm ham, in8_y hwm, in8_y hlm, in8_y ham, p1, g2, wrs, wrk, wrc, wr2, wl1, wls, wlk, wlc]
    refine pK rfl ⟨F, S, P, B, sz, T, ?_⟩
    have F1 : ∀ d, d ≠ 12 → d ≠ 13 → d ≠ 14 → d ≠ 15 → σ1.1 d = σ.1 d := p3
    simp (disch := decide) only [iI, wrs, wrk, wrc, wr2, wl1, wls, wlk, wlc, F1, U1, U0]
    exact ⟨h1, h2, h3, h4.no 3 (by decide), h5, h6, h7, h8, h9, h10.up⟩
