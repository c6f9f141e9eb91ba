/-! MENDS: skills, counts, the call -/
theorem setSk {N p : Nat} {v : Int32} {σ : nS} (hp : p < 4) : f_X7_setSkills N (nI p) v σ = some (nI 0, wr σ 3 p v) := by
  simp (disch := first | omega | exact nM1_n | exact nM2_n | assumption) only [b_X7_setSkills_0, l_X7_setSkills_0, f_X7_setSkills, ↓nLetR, ↓reduceIte, ↓e_m1, ↓e_m2, e_0, e_1, e_2, e_3, e_4, e_5, e_6, e_7, e_8, e_9, e_10, e_11, e_12, e_13, e_14, e_15, e_16, e_17, e_18, e_19, e_20, e_21, e_22, e_23, e_24, e_25, e_26, e_27, e_28, e_29, e_30, e_31, e_32, e_33, e_48, e_57, e_59, e_60, e_63, e_64, e_96, e_97, e_99, e_120, e_122, e_192, e_200, e_255, e_256, e_300, e_500, e_600, e_2000, e_5000, e_5240, e_6146, e_20000, e_65536, nIo, nI_clamp, nIxt, nI_1, nI_add, nI_mul, nI_eqF, nI_ltT, nI_ltF, nI_leT, nI_leF, nN_lt0, nN_le, nN_lt, nN_eq, nN_eq', eq_self, nBdS]
theorem skOf {N p : Nat} {σ : nS} (hp : p < 4) : f_X7_skillsOf N (nI p) σ = some (σ.1 3 p, σ) := by
  simp (disch := first | omega | exact nM1_n | exact nM2_n | assumption) only [b_X7_skillsOf_0, l_X7_skillsOf_0, f_X7_skillsOf, ↓nLetR, ↓reduceIte, ↓e_m1, ↓e_m2, e_0, e_1, e_2, e_3, e_4, e_5, e_6, e_7, e_8, e_9, e_10, e_11, e_12, e_13, e_14, e_15, e_16, e_17, e_18, e_19, e_20, e_21, e_22, e_23, e_24, e_25, e_26, e_27, e_28, e_29, e_30, e_31, e_32, e_33, e_48, e_57, e_59, e_60, e_63, e_64, e_96, e_97, e_99, e_120, e_122, e_192, e_200, e_255, e_256, e_300, e_500, e_600, e_2000, e_5000, e_5240, e_6146, e_20000, e_65536, nIo, nI_clamp, nIxt, nI_1, nI_add, nI_mul, nI_eqF, nI_ltT, nI_ltF, nI_leT, nI_leF, nN_lt0, nN_le, nN_lt, nN_eq, nN_eq', eq_self, nBdS]
theorem hHs.set {F S P B p v : Nat} {σ τ : nS} (h : hHs F S P B σ τ) (hv : v < 256) : hHs F S P B (wr σ 3 p (nI v)) (wr τ 2 p (nI v)) := by
  unfold hHs at h ⊢
  simp (disch := decide) only [wrs, wrk, wrc, wr2, wl1, wls, wlk, wlc]
  rw [wrf, wrf]
  obtain ⟨h1, h2, h3, h4, h5, h6⟩ := h
  refine ⟨h1, h2, h3, h4, h5, fun k hk => ?_⟩
  by_cases e : k = p
  · subst e; rw [pk_us, pk_us]; exact ⟨rfl, v, hv, rfl⟩
  · rw [pk_un e, pk_un e]; exact h6 k hk
theorem skl_go {N F S P B b n pl p x : Nat} {σ1 τ1 : nS} (hN : 7000 ≤ N) (hH : hHs F S P B σ1 τ1) (hB : hBk F S b n σ1 τ1) (hq : qA b pl σ1 τ1) (hp : p < 4) (hx : x < 256) (k262 : nS → Int32 → Option (Int32 × nS)) : ∀ d s m m' C M σ τ, s + d = 8 → d < m → d < m' → C + d < 5000 → M + 500 * d + 600 < 2 ^ 31 → tF 3 p 2 p σ1 τ1 σ τ → cR C σ τ → hMk M τ →
    ∃ M' σ' τ', nLp (fun _ _ _ _ => none) (fun again => b_X8_trySkills_11 N (l_X8_trySkills_57 N again)) m σ (nI p) (nI x) (nI s) = some (nI 0, wr σ' 3 p (nI x)) ∧ nLp (fun _ _ _ _ => none) (fun again => b_X11_mends_287 N k262 (l_X11_mends_334 N again)) m' τ (nI p) (nI x) (nI s) = k262 (wr τ' 2 p (nI x)) (nI (p + 1)) ∧ tF 3 p 2 p σ1 τ1 σ' τ' ∧ cR (C + d) σ' τ' ∧ hMk M' τ' ∧ M ≤ M' ∧ M' ≤ M + 500 * d := by
  have c3 : (3 : Nat) ≠ 19 ∧ (3 : Nat) ≠ 27 ∧ (3 : Nat) ≠ 29 ∧ (3 : Nat) ≠ 11 := by decide
  have cq : (2 : Nat) ≠ 0 ∧ (2 : Nat) ≠ 12 ∧ (2 : Nat) ≠ 14 ∧ (2 : Nat) ≠ 22 := by decide
  intro d
  induction d with
  | zero =>
    intro s m m' C M σ τ hs hm hm' hC hM hF hR hk
    refine ⟨M, σ, τ, ?_, ?_, hF, hR, hk, by omega⟩
    · rw [nLpP _ _ hm]
      simp (disch := first | omega | exact nM1_n | exact nM2_n | assumption) only [b_X8_trySkills_11, setSk hp, ↓nLetR, ↓reduceIte, ↓e_m1, ↓e_m2, e_0, e_1, e_2, e_3, e_4, e_5, e_6, e_7, e_8, e_9, e_10, e_11, e_12, e_13, e_14, e_15, e_16, e_17, e_18, e_19, e_20, e_21, e_22, e_23, e_24, e_25, e_26, e_27, e_28, e_29, e_30, e_31, e_32, e_33, e_48, e_57, e_59, e_60, e_63, e_64, e_96, e_97, e_99, e_120, e_122, e_192, e_200, e_255, e_256, e_300, e_500, e_600, e_2000, e_5000, e_5240, e_6146, e_20000, e_65536, nIo, nI_clamp, nIxt, nI_1, nI_add, nI_mul, nI_eqF, nI_ltT, nI_ltF, nI_leT, nI_leF, nN_lt0, nN_le, nN_lt, nN_eq, nN_eq', eq_self, nBdS]
    · rw [nLpP _ _ hm']
      simp (disch := first | omega | exact nM1_n | exact nM2_n | assumption) only [b_X11_mends_287, ↓nLetR, ↓reduceIte, ↓e_m1, ↓e_m2, e_0, e_1, e_2, e_3, e_4, e_5, e_6, e_7, e_8, e_9, e_10, e_11, e_12, e_13, e_14, e_15, e_16, e_17, e_18, e_19, e_20, e_21, e_22, e_23, e_24, e_25, e_26, e_27, e_28, e_29, e_30, e_31, e_32, e_33, e_48, e_57, e_59, e_60, e_63, e_64, e_96, e_97, e_99, e_120, e_122, e_192, e_200, e_255, e_256, e_300, e_500, e_600, e_2000, e_5000, e_5240, e_6146, e_20000, e_65536, nIo, nI_clamp, nIxt, nI_1, nI_add, nI_mul, nI_eqF, nI_ltT, nI_ltF, nI_leT, nI_leF, nN_lt0, nN_le, nN_lt, nN_eq, nN_eq', eq_self, nBdS]
  | succ d ih =>
    intro s m m' C M σ τ hs hm hm' hC hM hF hR hk
    have hsl := shl_is s (by omega)
    have hsr := shr_is x s (by omega)
    have hor := nI_or x (2 ^ s)
    have hp8 : (2 : Nat) ^ s ≤ 2 ^ 7 := Nat.pow_le_pow_right (by decide) (by omega)
    have hlt : x ||| 2 ^ s < 256 := Nat.or_lt_two_pow (n := 8) hx (by omega)
    cases ht : x.testBit s with
    | true =>
      rw [ht, if_pos rfl] at hsr
      rw [or_bit ht] at hor
      obtain ⟨M', σ', τ', g1, g2, g3, g4, g5, g6⟩ := ih (s + 1) (m - 1) (m' - 1) C M (wr σ 3 p (nI x)) τ (by omega) (by omega) (by omega) (by omega) (by omega) (hF.one _) (hR.fr (wrc _ _ _ (by decide)) rfl rfl) hk
      refine ⟨M', σ', τ', ?_, ?_, g3, g4.up (by omega), g5, by omega⟩
      · rw [nLpP _ _ (by omega)]
        simp (disch := first | omega | exact nM1_n | exact nM2_n | assumption) only [b_X8_trySkills_11, l_X8_trySkills_57, b_X8_trySkills_57, hsl, hor, setSk hp, ↓nLetR, ↓reduceIte, ↓e_m1, ↓e_m2, e_0, e_1, e_2, e_3, e_4, e_5, e_6, e_7, e_8, e_9, e_10, e_11, e_12, e_13, e_14, e_15, e_16, e_17, e_18, e_19, e_20, e_21, e_22, e_23, e_24, e_25, e_26, e_27, e_28, e_29, e_30, e_31, e_32, e_33, e_48, e_57, e_59, e_60, e_63, e_64, e_96, e_97, e_99, e_120, e_122, e_192, e_200, e_255, e_256, e_300, e_500, e_600, e_2000, e_5000, e_5240, e_6146, e_20000, e_65536, nIo, nI_clamp, nIxt, nI_1, nI_add, nI_mul, nI_eqF, nI_ltT, nI_ltF, nI_leT, nI_leF, nN_lt0, nN_le, nN_lt, nN_eq, nN_eq', eq_self, nBdS]
        exact g1
      · rw [nLpP _ _ (by omega)]
        simp (disch := first | omega | exact nM1_n | exact nM2_n | assumption) only [b_X11_mends_287, l_X11_mends_334, b_X11_mends_334, hsr, ↓nLetR, ↓reduceIte, ↓e_m1, ↓e_m2, e_0, e_1, e_2, e_3, e_4, e_5, e_6, e_7, e_8, e_9, e_10, e_11, e_12, e_13, e_14, e_15, e_16, e_17, e_18, e_19, e_20, e_21, e_22, e_23, e_24, e_25, e_26, e_27, e_28, e_29, e_30, e_31, e_32, e_33, e_48, e_57, e_59, e_60, e_63, e_64, e_96, e_97, e_99, e_120, e_122, e_192, e_200, e_255, e_256, e_300, e_500, e_600, e_2000, e_5000, e_5240, e_6146, e_20000, e_65536, nIo, nI_clamp, nIxt, nI_1, nI_add, nI_mul, nI_eqF, nI_ltT, nI_ltF, nI_leT, nI_leF, nN_lt0, nN_le, nN_lt, nN_eq, nN_eq', eq_self, nBdS]
        exact g2
    | false =>
      rw [ht, if_neg (by decide)] at hsr
      have hne : ¬ x ||| 2 ^ s = x := fun h => by
        have h2 : (x ||| 2 ^ s).testBit s = x.testBit s := by rw [h]
        rw [or_tb, ht, decide_eq_true rfl] at h2
        cases h2
      generalize x ||| 2 ^ s = y at hor hlt hne
      have hH1 : hHs F S P B (wr σ1 3 p (nI y)) (wr τ1 2 p (nI y)) := hH.set hlt
      have hB1 : hBk F S b n (wr σ1 3 p (nI y)) (wr τ1 2 p (nI y)) := by
        unfold hBk
        simp (disch := decide) only [wrs, wrk, wrc, wr2, wl1, wls, wlk, wlc]
        exact hB
      have hq1 : qA b pl (wr σ1 3 p (nI y)) (wr τ1 2 p (nI y)) := by
        unfold qA
        simp (disch := decide) only [wrs, wrk, wrc, wr2, wl1, wls, wlk, wlc]
        exact hq
      obtain ⟨r, M1, σ2, τ2, hr, p1, p2, p3, p4, p5⟩ := try1 (N := N) (C := C) (M := M) (nI 3) (nI p) (nI s) hN (by omega) (by omega) c3 cq hH1 hB1 hq1 hF hR hk
      have hr2 : r = 0 ∨ r = 1 := by omega
      rcases hr2 with rfl | rfl
      · obtain ⟨f1, f2, f3⟩ := p4 rfl
        obtain ⟨M', σ', τ', g1, g2, g3, g4, g5, g6⟩ := ih (s + 1) (m - 1) (m' - 1) (C + 1) M1 σ2 τ2 (by omega) (by omega) (by omega) (by omega) (by omega) f1 f2 f3
        refine ⟨M', σ', τ', ?_, ?_, g3, g4.up (by omega), g5, by omega⟩
        · rw [nLpP _ _ (by omega)]
          simp (disch := first | omega | exact nM1_n | exact nM2_n | assumption) only [b_X8_trySkills_11, l_X8_trySkills_57, b_X8_trySkills_57, hsl, hor, setSk hp, p1, ↓nLetR, ↓reduceIte, ↓e_m1, ↓e_m2, e_0, e_1, e_2, e_3, e_4, e_5, e_6, e_7, e_8, e_9, e_10, e_11, e_12, e_13, e_14, e_15, e_16, e_17, e_18, e_19, e_20, e_21, e_22, e_23, e_24, e_25, e_26, e_27, e_28, e_29, e_30, e_31, e_32, e_33, e_48, e_57, e_59, e_60, e_63, e_64, e_96, e_97, e_99, e_120, e_122, e_192, e_200, e_255, e_256, e_300, e_500, e_600, e_2000, e_5000, e_5240, e_6146, e_20000, e_65536, nIo, nI_clamp, nIxt, nI_1, nI_add, nI_mul, nI_eqF, nI_ltT, nI_ltF, nI_leT, nI_leF, nN_lt0, nN_le, nN_lt, nN_eq, nN_eq', eq_self, nBdS]
          exact g1
        · rw [nLpP _ _ (by omega)]
          simp (disch := first | omega | exact nM1_n | exact nM2_n | assumption) only [b_X11_mends_287, l_X11_mends_334, b_X11_mends_334, hsr, hsl, hor, p2, ↓nLetR, ↓reduceIte, ↓e_m1, ↓e_m2, e_0, e_1, e_2, e_3, e_4, e_5, e_6, e_7, e_8, e_9, e_10, e_11, e_12, e_13, e_14, e_15, e_16, e_17, e_18, e_19, e_20, e_21, e_22, e_23, e_24, e_25, e_26, e_27, e_28, e_29, e_30, e_31, e_32, e_33, e_48, e_57, e_59, e_60, e_63, e_64, e_96, e_97, e_99, e_120, e_122, e_192, e_200, e_255, e_256, e_300, e_500, e_600, e_2000, e_5000, e_5240, e_6146, e_20000, e_65536, nIo, nI_clamp, nIxt, nI_1, nI_add, nI_mul, nI_eqF, nI_ltT, nI_ltF, nI_leT, nI_leF, nN_lt0, nN_le, nN_lt, nN_eq, nN_eq', eq_self, nBdS]
          exact g2
      · obtain ⟨σ3, τ3, a1, a2, f1, f2, f3⟩ := p5 rfl
        obtain ⟨M', σ', τ', g1, g2, g3, g4, g5, g6⟩ := ih (s + 1) (m - 1) (m' - 1) (C + 1) M1 σ3 τ3 (by omega) (by omega) (by omega) (by omega) (by omega) f1 f2 f3
        refine ⟨M', σ', τ', ?_, ?_, g3, g4.up (by omega), g5, by omega⟩
        · rw [nLpP _ _ (by omega)]
          simp (disch := first | omega | exact nM1_n | exact nM2_n | assumption) only [b_X8_trySkills_11, l_X8_trySkills_57, b_X8_trySkills_57, hsl, hor, setSk hp, p1, a1, ↓nLetR, ↓reduceIte, ↓e_m1, ↓e_m2, e_0, e_1, e_2, e_3, e_4, e_5, e_6, e_7, e_8, e_9, e_10, e_11, e_12, e_13, e_14, e_15, e_16, e_17, e_18, e_19, e_20, e_21, e_22, e_23, e_24, e_25, e_26, e_27, e_28, e_29, e_30, e_31, e_32, e_33, e_48, e_57, e_59, e_60, e_63, e_64, e_96, e_97, e_99, e_120, e_122, e_192, e_200, e_255, e_256, e_300, e_500, e_600, e_2000, e_5000, e_5240, e_6146, e_20000, e_65536, nIo, nI_clamp, nIxt, nI_1, nI_add, nI_mul, nI_eqF, nI_ltT, nI_ltF, nI_leT, nI_leF, nN_lt0, nN_le, nN_lt, nN_eq, nN_eq', eq_self, nBdS]
          exact g1
        · rw [nLpP _ _ (by omega)]
          simp (disch := first | omega | exact nM1_n | exact nM2_n | assumption) only [b_X11_mends_287, l_X11_mends_334, b_X11_mends_334, hsr, hsl, hor, p2, a2, ↓nLetR, ↓reduceIte, ↓e_m1, ↓e_m2, e_0, e_1, e_2, e_3, e_4, e_5, e_6, e_7, e_8, e_9, e_10, e_11, e_12, e_13, e_14, e_15, e_16, e_17, e_18, e_19, e_20, e_21, e_22, e_23, e_24, e_25, e_26, e_27, e_28, e_29, e_30, e_31, e_32, e_33, e_48, e_57, e_59, e_60, e_63, e_64, e_96, e_97, e_99, e_120, e_122, e_192, e_200, e_255, e_256, e_300, e_500, e_600, e_2000, e_5000, e_5240, e_6146, e_20000, e_65536, nIo, nI_clamp, nIxt, nI_1, nI_add, nI_mul, nI_eqF, nI_ltT, nI_ltF, nI_leT, nI_leF, nN_lt0, nN_le, nN_lt, nN_eq, nN_eq', eq_self, nBdS]
          exact g2
theorem ppl_go {N F S P B b n pl x : Nat} {σ0 τ0 : nS} (hN : 7000 ≤ N) (hH : hHs F S P B σ0 τ0) (hB : hBk F S b n σ0 τ0) (hq : qA b pl σ0 τ0) (h50 : τ0.1 0 50 = nI x) (hx0 : 0 < x) (hx : x ≤ 500) : ∀ d p m m' C M σ τ, p + d = P → d < m → d < m' → C + 8 * d < 5000 → M + 4000 * d + 600 < 2 ^ 31 → mF σ0 τ0 σ τ → cR C σ τ → hMk M τ →
    ∃ M' σ' τ', nLp (fun _ _ => none) (fun again => b_X8_mends_159 N again) m σ (nI p) = f_X8_accept N (σ'.1 19 0) σ' ∧ nLp (fun _ _ => none) (fun again => b_X11_mends_262 N (l_X11_mends_287 N again) (l_X11_mends_353 N)) m' τ (nI p) = l_X11_mends_353 N τ' ∧ mF σ0 τ0 σ' τ' ∧ cR (C + 8 * d) σ' τ' ∧ hMk M' τ' ∧ M ≤ M' ∧ M' ≤ M + 4000 * d := by
  intro d
  induction d with
  | zero =>
    intro p m m' C M σ τ hp hm hm' hC hM hF hR hk
    obtain ⟨⟨_, _, b3, _⟩, ⟨_, _, w2, _⟩, ⟨_, _, m2, _⟩, _, _, hsk⟩ := hF.hs hH
    refine ⟨M, σ, τ, ?_, ?_, hF, hR, hk, by omega⟩
    · rw [nLpP _ _ hm]
      simp (disch := first | omega | exact nM1_n | exact nM2_n | assumption) only [b_X8_mends_159, w2, nBdE, ↓nLetR, ↓reduceIte, ↓e_m1, ↓e_m2, e_0, e_1, e_2, e_3, e_4, e_5, e_6, e_7, e_8, e_9, e_10, e_11, e_12, e_13, e_14, e_15, e_16, e_17, e_18, e_19, e_20, e_21, e_22, e_23, e_24, e_25, e_26, e_27, e_28, e_29, e_30, e_31, e_32, e_33, e_48, e_57, e_59, e_60, e_63, e_64, e_96, e_97, e_99, e_120, e_122, e_192, e_200, e_255, e_256, e_300, e_500, e_600, e_2000, e_5000, e_5240, e_6146, e_20000, e_65536, nIo, nI_clamp, nIxt, nI_1, nI_add, nI_mul, nI_eqF, nI_ltT, nI_ltF, nI_leT, nI_leF, nN_lt0, nN_le, nN_lt, nN_eq, nN_eq', eq_self, nBdS]
    · rw [nLpP _ _ hm']
      simp (disch := first | omega | exact nM1_n | exact nM2_n | assumption) only [b_X11_mends_262, m2, ↓nLetR, ↓reduceIte, ↓e_m1, ↓e_m2, e_0, e_1, e_2, e_3, e_4, e_5, e_6, e_7, e_8, e_9, e_10, e_11, e_12, e_13, e_14, e_15, e_16, e_17, e_18, e_19, e_20, e_21, e_22, e_23, e_24, e_25, e_26, e_27, e_28, e_29, e_30, e_31, e_32, e_33, e_48, e_57, e_59, e_60, e_63, e_64, e_96, e_97, e_99, e_120, e_122, e_192, e_200, e_255, e_256, e_300, e_500, e_600, e_2000, e_5000, e_5240, e_6146, e_20000, e_65536, nIo, nI_clamp, nIxt, nI_1, nI_add, nI_mul, nI_eqF, nI_ltT, nI_ltF, nI_leT, nI_leF, nN_lt0, nN_le, nN_lt, nN_eq, nN_eq', eq_self, nBdS]
  | succ d ih =>
    intro p m m' C M σ τ hp hm hm' hC hM hF hR hk
    obtain ⟨⟨_, _, b3, _⟩, ⟨_, _, w2, _⟩, ⟨_, _, m2, _⟩, _, _, hsk⟩ := hF.hs hH
    obtain ⟨e1, v, hv, e2⟩ := hsk p (by omega)
    rw [e2] at e1
    have f50 : τ.1 0 50 = nI x := by rw [hF.2.2 50 (by decide) (by decide)]; exact h50
    have hC8 : C + 8 < 5000 := by omega
    have hM7 : M + 4000 + 600 < 2 ^ 31 := Nat.lt_of_le_of_lt (Nat.add_le_add_right (Nat.add_le_add_left (Nat.le_mul_of_pos_right 4000 (Nat.succ_pos d)) M) 600) hM
    have hM8 : M + 500 * 8 + 600 < 2 ^ 31 := hM7
    obtain ⟨M1, σ1, τ1, g1, g2, g3, g4, g5, g6⟩ := skl_go (N := N) hN (hF.hs hH) (hF.bk hB) (hF.qa hq) (show p < 4 by omega) hv (nLp (fun _ _ => none) (fun again => b_X11_mends_262 N (l_X11_mends_287 N again) (l_X11_mends_353 N)) (m' - 1)) 8 0 N N C M σ τ rfl (by omega) (by omega) hC8 hM8 tF.rf hR hk
    have hm1 := hF.trans (g3.end e2 e1)
    obtain ⟨M', σ', τ', q1, q2, q3, q4, q5, q6⟩ := ih (p + 1) (m - 1) (m' - 1) (C + 8) M1 (wr σ1 3 p (nI v)) (wr τ1 2 p (nI v)) (by omega) (by omega) (by omega) (by omega) (by omega) hm1 (g4.fr (wrc _ _ _ (by decide)) (wrc _ _ _ (by decide)) (by rw [wrc _ _ _ (by decide)])) (by unfold hMk; simp (disch := decide) only [wrs, wrk, wrc, wr2, wl1, wls, wlk, wlc]; exact g5)
    refine ⟨M', σ', τ', ?_, ?_, q3, q4.up (by omega), q5, by omega⟩
    · rw [nLpP _ _ (by omega)]
      have hts : f_X8_trySkills N (nI p) σ = some (nI 0, wr σ1 3 p (nI v)) := by
        simp (disch := first | omega | exact nM1_n | exact nM2_n | assumption) only [f_X8_trySkills, l_X8_trySkills_0, b_X8_trySkills_0, skOf (show p < 4 by omega), e2, ↓nLetR, ↓reduceIte, ↓e_m1, ↓e_m2, e_0, e_1, e_2, e_3, e_4, e_5, e_6, e_7, e_8, e_9, e_10, e_11, e_12, e_13, e_14, e_15, e_16, e_17, e_18, e_19, e_20, e_21, e_22, e_23, e_24, e_25, e_26, e_27, e_28, e_29, e_30, e_31, e_32, e_33, e_48, e_57, e_59, e_60, e_63, e_64, e_96, e_97, e_99, e_120, e_122, e_192, e_200, e_255, e_256, e_300, e_500, e_600, e_2000, e_5000, e_5240, e_6146, e_20000, e_65536, nIo, nI_clamp, nIxt, nI_1, nI_add, nI_mul, nI_eqF, nI_ltT, nI_ltF, nI_leT, nI_leF, nN_lt0, nN_le, nN_lt, nN_eq, nN_eq', eq_self, nBdS]
        exact g1
      simp (disch := first | omega | exact nM1_n | exact nM2_n | assumption) only [b_X8_mends_159, w2, hts, ↓nLetR, ↓reduceIte, ↓e_m1, ↓e_m2, e_0, e_1, e_2, e_3, e_4, e_5, e_6, e_7, e_8, e_9, e_10, e_11, e_12, e_13, e_14, e_15, e_16, e_17, e_18, e_19, e_20, e_21, e_22, e_23, e_24, e_25, e_26, e_27, e_28, e_29, e_30, e_31, e_32, e_33, e_48, e_57, e_59, e_60, e_63, e_64, e_96, e_97, e_99, e_120, e_122, e_192, e_200, e_255, e_256, e_300, e_500, e_600, e_2000, e_5000, e_5240, e_6146, e_20000, e_65536, nIo, nI_clamp, nIxt, nI_1, nI_add, nI_mul, nI_eqF, nI_ltT, nI_ltF, nI_leT, nI_leF, nN_lt0, nN_le, nN_lt, nN_eq, nN_eq', eq_self, nBdS]
      exact q1
    · rw [nLpP _ _ (by omega), ← q2]
      refine Eq.trans ?_ g2
      simp (disch := first | omega | exact nM1_n | exact nM2_n | assumption) only [b_X11_mends_262, m2, f50, e1, ↓nLetR, ↓reduceIte, ↓e_m1, ↓e_m2, e_0, e_1, e_2, e_3, e_4, e_5, e_6, e_7, e_8, e_9, e_10, e_11, e_12, e_13, e_14, e_15, e_16, e_17, e_18, e_19, e_20, e_21, e_22, e_23, e_24, e_25, e_26, e_27, e_28, e_29, e_30, e_31, e_32, e_33, e_48, e_57, e_59, e_60, e_63, e_64, e_96, e_97, e_99, e_120, e_122, e_192, e_200, e_255, e_256, e_300, e_500, e_600, e_2000, e_5000, e_5240, e_6146, e_20000, e_65536, nIo, nI_clamp, nIxt, nI_1, nI_add, nI_mul, nI_eqF, nI_ltT, nI_ltF, nI_leT, nI_leF, nN_lt0, nN_le, nN_lt, nN_eq, nN_eq', eq_self, nBdS]
      rfl
theorem stp_go {N F S P B b n pl x : Nat} {σ0 τ0 : nS} (hN : 7000 ≤ N) (hH : hHs F S P B σ0 τ0) (hB : hBk F S b n σ0 τ0) (hq : qA b pl σ0 τ0) (h50 : τ0.1 0 50 = nI x) (hx0 : 0 < x) (hx : x ≤ 500) : ∀ d k m m' C M σ τ, k + d = n → d < m → d < m' → C + 48 * d < 4000 → M + 24000 * d + 50000 < 2 ^ 31 → mF σ0 τ0 σ τ → cR C σ τ → hMk M τ →
    ∃ M' σ' τ', nLp (fun _ _ => none) (fun again => b_X8_mends_82 N (l_X8_mends_151 N again) (l_X8_mends_159 N)) m σ (nI k) = l_X8_mends_159 N σ' (nI 0) ∧ nLp (fun _ _ => none) (fun again => b_X11_mends_168 N (l_X11_mends_254 N again) (l_X11_mends_260 N)) m' τ (nI k) = l_X11_mends_262 N τ' (nI 0) ∧ mF σ0 τ0 σ' τ' ∧ cR (C + 48 * d) σ' τ' ∧ hMk M' τ' ∧ M ≤ M' ∧ M' ≤ M + 24000 * d := by
  intro d
  induction d with
  | zero =>
    intro k m m' C M σ τ hkn hm hm' hC hM hF hR hk
    obtain ⟨hb, ⟨hn1, hn2⟩, z1, z2, hst⟩ := hF.bk hB
    obtain ⟨a1, a2, a3, a4, a5, a6⟩ := hF.qa hq
    have hsz := size_is (N := N) (σ := σ) hb
    rw [z1] at hsz
    refine ⟨M, σ, τ, ?_, ?_, hF, hR, hk, by omega⟩
    · rw [nLpP _ _ hm]
      simp (disch := first | omega | exact nM1_n | exact nM2_n | assumption) only [b_X8_mends_82, a1, hsz, ↓nLetR, ↓reduceIte, ↓e_m1, ↓e_m2, e_0, e_1, e_2, e_3, e_4, e_5, e_6, e_7, e_8, e_9, e_10, e_11, e_12, e_13, e_14, e_15, e_16, e_17, e_18, e_19, e_20, e_21, e_22, e_23, e_24, e_25, e_26, e_27, e_28, e_29, e_30, e_31, e_32, e_33, e_48, e_57, e_59, e_60, e_63, e_64, e_96, e_97, e_99, e_120, e_122, e_192, e_200, e_255, e_256, e_300, e_500, e_600, e_2000, e_5000, e_5240, e_6146, e_20000, e_65536, nIo, nI_clamp, nIxt, nI_1, nI_add, nI_mul, nI_eqF, nI_ltT, nI_ltF, nI_leT, nI_leF, nN_lt0, nN_le, nN_lt, nN_eq, nN_eq', eq_self, nBdS]
    · rw [nLpP _ _ hm']
      simp (disch := first | omega | exact nM1_n | exact nM2_n | assumption) only [b_X11_mends_168, l_X11_mends_260, b_X11_mends_260, a3, z2, ↓nLetR, ↓reduceIte, ↓e_m1, ↓e_m2, e_0, e_1, e_2, e_3, e_4, e_5, e_6, e_7, e_8, e_9, e_10, e_11, e_12, e_13, e_14, e_15, e_16, e_17, e_18, e_19, e_20, e_21, e_22, e_23, e_24, e_25, e_26, e_27, e_28, e_29, e_30, e_31, e_32, e_33, e_48, e_57, e_59, e_60, e_63, e_64, e_96, e_97, e_99, e_120, e_122, e_192, e_200, e_255, e_256, e_300, e_500, e_600, e_2000, e_5000, e_5240, e_6146, e_20000, e_65536, nIo, nI_clamp, nIxt, nI_1, nI_add, nI_mul, nI_eqF, nI_ltT, nI_ltF, nI_leT, nI_leF, nN_lt0, nN_le, nN_lt, nN_eq, nN_eq', eq_self, nBdS]
  | succ d ih =>
    intro k m m' C M σ τ hkn hm hm' hC hM hF hR hk
    obtain ⟨hb, ⟨hn1, hn2⟩, z1, z2, hst⟩ := hF.bk hB
    obtain ⟨a1, a2, a3, a4, a5, a6⟩ := hF.qa hq
    have f50 : τ.1 0 50 = nI x := by rw [hF.2.2 50 (by decide) (by decide)]; exact h50
    have hsz := size_is (N := N) (σ := σ) hb
    rw [z1] at hsz
    obtain ⟨⟨c0, c1, c2, c3, c4⟩, hs⟩ := hst k (by omega)
    have e0 := cell_is0 (N := N) (σ := σ) (b := b) (k := k) hb (by omega)
    rw [c0] at e0
    have other : ∀ kd, kd < 6 → ¬ kd = 2 → ¬ kd = 4 → τ.1 4 (24 * b + k) = nI kd → ∃ M' σ' τ', nLp (fun _ _ => none) (fun again => b_X8_mends_82 N (l_X8_mends_151 N again) (l_X8_mends_159 N)) m σ (nI k) = l_X8_mends_159 N σ' (nI 0) ∧ nLp (fun _ _ => none) (fun again => b_X11_mends_168 N (l_X11_mends_254 N again) (l_X11_mends_260 N)) m' τ (nI k) = l_X11_mends_262 N τ' (nI 0) ∧ mF σ0 τ0 σ' τ' ∧ cR (C + 48 * (d + 1)) σ' τ' ∧ hMk M' τ' ∧ M ≤ M' ∧ M' ≤ M + 24000 * (d + 1) := by
      intro kd k1 k2 k3 ek
      rw [ek] at e0
      obtain ⟨M', σ', τ', q1, q2, q3, q4, q5, q6⟩ := ih (k + 1) (m - 1) (m' - 1) C M σ τ (by omega) (by omega) (by omega) (by omega) (by omega) hF hR hk
      refine ⟨M', σ', τ', ?_, ?_, q3, q4.up (by omega), q5, by omega⟩
      · rw [nLpP _ _ (by omega)]
        simp (disch := first | omega | exact nM1_n | exact nM2_n | assumption) only [b_X8_mends_82, l_X8_mends_151, b_X8_mends_151, a1, hsz, e0, ↓nLetR, ↓reduceIte, ↓e_m1, ↓e_m2, e_0, e_1, e_2, e_3, e_4, e_5, e_6, e_7, e_8, e_9, e_10, e_11, e_12, e_13, e_14, e_15, e_16, e_17, e_18, e_19, e_20, e_21, e_22, e_23, e_24, e_25, e_26, e_27, e_28, e_29, e_30, e_31, e_32, e_33, e_48, e_57, e_59, e_60, e_63, e_64, e_96, e_97, e_99, e_120, e_122, e_192, e_200, e_255, e_256, e_300, e_500, e_600, e_2000, e_5000, e_5240, e_6146, e_20000, e_65536, nIo, nI_clamp, nIxt, nI_1, nI_add, nI_mul, nI_eqF, nI_ltT, nI_ltF, nI_leT, nI_leF, nN_lt0, nN_le, nN_lt, nN_eq, nN_eq', eq_self, nBdS]
        exact q1
      · rw [nLpP _ _ (by omega)]
        simp (disch := first | omega | exact nM1_n | exact nM2_n | assumption) only [b_X11_mends_168, l_X11_mends_254, b_X11_mends_254, a3, z2, f50, ek, ↓nLetR, ↓reduceIte, ↓e_m1, ↓e_m2, e_0, e_1, e_2, e_3, e_4, e_5, e_6, e_7, e_8, e_9, e_10, e_11, e_12, e_13, e_14, e_15, e_16, e_17, e_18, e_19, e_20, e_21, e_22, e_23, e_24, e_25, e_26, e_27, e_28, e_29, e_30, e_31, e_32, e_33, e_48, e_57, e_59, e_60, e_63, e_64, e_96, e_97, e_99, e_120, e_122, e_192, e_200, e_255, e_256, e_300, e_500, e_600, e_2000, e_5000, e_5240, e_6146, e_20000, e_65536, nIo, nI_clamp, nIxt, nI_1, nI_add, nI_mul, nI_eqF, nI_ltT, nI_ltF, nI_leT, nI_leF, nN_lt0, nN_le, nN_lt, nN_eq, nN_eq', eq_self, nBdS]
        exact q2
    rcases hs with ⟨hkd, _⟩ | ⟨hkd, _⟩ | ⟨hkd, _⟩ | ⟨hkd, _⟩ | hkd
    · rcases hkd with hkd | hkd
      · exact other 0 (by decide) (by decide) (by decide) hkd
      · exact other 1 (by decide) (by decide) (by decide) hkd
    · have hkd' : τ.1 4 (24 * b + k) = nI 2 := hkd
      rw [hkd'] at e0
      obtain ⟨M1, σ1, τ1, p1, p2, p3, p4, p5, p6⟩ := tgt_is (N := N) (k := k) (j := 2) (q := 6) (C := C) (M := M) (w := nI 0) hN (by omega) (by omega) (hF.hs hH) (hF.bk hB) (hF.qa hq) (by omega) (Or.inl ⟨hkd', Or.inl ⟨rfl, rfl⟩⟩) hR hk
      have hF1 := hF.trans p3
      have hkd1 : τ1.1 4 (24 * b + k) = nI 2 := by rw [p3.2.1 4 (by decide) (by decide) (by decide) (by decide)]; exact hkd'
      obtain ⟨M2, σ2, τ2, r1, r2, r3, r4, r5, r6⟩ := tgt_is (N := N) (k := k) (j := 3) (q := 7) (C := C + 24) (M := M1) (w := nI 1) hN (by omega) (by omega) (hF1.hs hH) (hF1.bk hB) (hF1.qa hq) (by omega) (Or.inl ⟨hkd1, Or.inr ⟨rfl, rfl⟩⟩) p4 p5
      obtain ⟨M', σ', τ', q1, q2, q3, q4, q5, q6⟩ := ih (k + 1) (m - 1) (m' - 1) (C + 24 + 24) M2 σ2 τ2 (by omega) (by omega) (by omega) (by omega) (by omega) (hF1.trans r3) r4 r5
      refine ⟨M', σ', τ', ?_, ?_, q3, q4.up (by omega), q5, by omega⟩
      · rw [nLpP _ _ (by omega)]
        simp (disch := first | omega | exact nM1_n | exact nM2_n | assumption) only [b_X8_mends_82, l_X8_mends_151, b_X8_mends_151, a1, hsz, e0, p1, r1, ↓nLetR, ↓reduceIte, ↓e_m1, ↓e_m2, e_0, e_1, e_2, e_3, e_4, e_5, e_6, e_7, e_8, e_9, e_10, e_11, e_12, e_13, e_14, e_15, e_16, e_17, e_18, e_19, e_20, e_21, e_22, e_23, e_24, e_25, e_26, e_27, e_28, e_29, e_30, e_31, e_32, e_33, e_48, e_57, e_59, e_60, e_63, e_64, e_96, e_97, e_99, e_120, e_122, e_192, e_200, e_255, e_256, e_300, e_500, e_600, e_2000, e_5000, e_5240, e_6146, e_20000, e_65536, nIo, nI_clamp, nIxt, nI_1, nI_add, nI_mul, nI_eqF, nI_ltT, nI_ltF, nI_leT, nI_leF, nN_lt0, nN_le, nN_lt, nN_eq, nN_eq', eq_self, nBdS]
        exact q1
      · rw [nLpP _ _ (by omega)]
        simp (disch := first | omega | exact nM1_n | exact nM2_n | assumption) only [b_X11_mends_168, l_X11_mends_254, b_X11_mends_254, a3, z2, f50, hkd', p2, r2, ↓nLetR, ↓reduceIte, ↓e_m1, ↓e_m2, e_0, e_1, e_2, e_3, e_4, e_5, e_6, e_7, e_8, e_9, e_10, e_11, e_12, e_13, e_14, e_15, e_16, e_17, e_18, e_19, e_20, e_21, e_22, e_23, e_24, e_25, e_26, e_27, e_28, e_29, e_30, e_31, e_32, e_33, e_48, e_57, e_59, e_60, e_63, e_64, e_96, e_97, e_99, e_120, e_122, e_192, e_200, e_255, e_256, e_300, e_500, e_600, e_2000, e_5000, e_5240, e_6146, e_20000, e_65536, nIo, nI_clamp, nIxt, nI_1, nI_add, nI_mul, nI_eqF, nI_ltT, nI_ltF, nI_leT, nI_leF, nN_lt0, nN_le, nN_lt, nN_eq, nN_eq', eq_self, nBdS]
        exact q2
    · exact other 3 (by decide) (by decide) (by decide) hkd
    · have hkd' : τ.1 4 (24 * b + k) = nI 4 := hkd
      rw [hkd'] at e0
      obtain ⟨M1, σ1, τ1, p1, p2, p3, p4, p5, p6⟩ := tgt_is (N := N) (k := k) (j := 1) (q := 5) (C := C) (M := M) (w := nI 2) hN (by omega) (by omega) (hF.hs hH) (hF.bk hB) (hF.qa hq) (by omega) (Or.inr ⟨hkd', rfl, rfl⟩) hR hk
      obtain ⟨M', σ', τ', q1, q2, q3, q4, q5, q6⟩ := ih (k + 1) (m - 1) (m' - 1) (C + 24) M1 σ1 τ1 (by omega) (by omega) (by omega) (by omega) (by omega) (hF.trans p3) p4 p5
      refine ⟨M', σ', τ', ?_, ?_, q3, q4.up (by omega), q5, by omega⟩
      · rw [nLpP _ _ (by omega)]
        simp (disch := first | omega | exact nM1_n | exact nM2_n | assumption) only [b_X8_mends_82, l_X8_mends_151, b_X8_mends_151, a1, hsz, e0, p1, ↓nLetR, ↓reduceIte, ↓e_m1, ↓e_m2, e_0, e_1, e_2, e_3, e_4, e_5, e_6, e_7, e_8, e_9, e_10, e_11, e_12, e_13, e_14, e_15, e_16, e_17, e_18, e_19, e_20, e_21, e_22, e_23, e_24, e_25, e_26, e_27, e_28, e_29, e_30, e_31, e_32, e_33, e_48, e_57, e_59, e_60, e_63, e_64, e_96, e_97, e_99, e_120, e_122, e_192, e_200, e_255, e_256, e_300, e_500, e_600, e_2000, e_5000, e_5240, e_6146, e_20000, e_65536, nIo, nI_clamp, nIxt, nI_1, nI_add, nI_mul, nI_eqF, nI_ltT, nI_ltF, nI_leT, nI_leF, nN_lt0, nN_le, nN_lt, nN_eq, nN_eq', eq_self, nBdS]
        exact q1
      · rw [nLpP _ _ (by omega)]
        simp (disch := first | omega | exact nM1_n | exact nM2_n | assumption) only [b_X11_mends_168, l_X11_mends_254, b_X11_mends_254, a3, z2, f50, hkd', p2, ↓nLetR, ↓reduceIte, ↓e_m1, ↓e_m2, e_0, e_1, e_2, e_3, e_4, e_5, e_6, e_7, e_8, e_9, e_10, e_11, e_12, e_13, e_14, e_15, e_16, e_17, e_18, e_19, e_20, e_21, e_22, e_23, e_24, e_25, e_26, e_27, e_28, e_29, e_30, e_31, e_32, e_33, e_48, e_57, e_59, e_60, e_63, e_64, e_96, e_97, e_99, e_120, e_122, e_192, e_200, e_255, e_256, e_300, e_500, e_600, e_2000, e_5000, e_5240, e_6146, e_20000, e_65536, nIo, nI_clamp, nIxt, nI_1, nI_add, nI_mul, nI_eqF, nI_ltT, nI_ltF, nI_leT, nI_leF, nN_lt0, nN_le, nN_lt, nN_eq, nN_eq', eq_self, nBdS]
        exact q2
    · exact other 5 (by decide) (by decide) (by decide) hkd

def tg (v : Int32) : Nat := if v = nI 2 then 2 else if v = nI 4 then 1 else 0
def sT (f : Nat → Int32) : Nat → Nat → Nat
  | _, 0 => 0
  | k, d + 1 => tg (f k) + sT f (k + 1) d
def sP (f : Nat → Int32) : Nat → Nat → Nat
  | _, 0 => 0
  | p, d + 1 => (8 - pcf 8 (f p).toNatClampNeg) + sP f (p + 1) d
theorem tg_le (v : Int32) : tg v ≤ 2 := by
  unfold tg
  split
  · exact Nat.le_refl 2
  · split
    · decide
    · decide
theorem sT_le (f : Nat → Int32) (d : Nat) : ∀ k, sT f k d ≤ 2 * d := by
  induction d with
  | zero => intro k; exact Nat.le_refl 0
  | succ d ih =>
    intro k
    show tg (f k) + sT f (k + 1) d ≤ _
    have := tg_le (f k)
    have := ih (k + 1)
    omega
theorem sP_le (f : Nat → Int32) (d : Nat) : ∀ k, sP f k d ≤ 8 * d := by
  induction d with
  | zero => intro k; exact Nat.le_refl 0
  | succ d ih =>
    intro k
    show (8 - pcf 8 (f k).toNatClampNeg) + sP f (k + 1) d ≤ _
    have := ih (k + 1)
    omega
theorem sP_ext {f g : Nat → Int32} (d : Nat) : ∀ k, (∀ j, k ≤ j → j < k + d → f j = g j) → sP f k d = sP g k d := by
  induction d with
  | zero => intro k _; rfl
  | succ d ih =>
    intro k h
    show (8 - pcf 8 (f k).toNatClampNeg) + sP f (k + 1) d = (8 - pcf 8 (g k).toNatClampNeg) + sP g (k + 1) d
    rw [ih (k + 1) (fun j h1 h2 => h j (by omega) (by omega)), h k (Nat.le_refl k) (by omega)]
theorem cnt_c {N F S b n : Nat} {σ τ : nS} (hB : hBk F S b n σ τ) : ∀ d k m a, k + d = n → d < m → a ≤ 2 * k → nLp (fun _ _ _ _ _ => none) (fun again => b_X8_countMends_14 N (l_X8_countMends_55 N again) (l_X8_countMends_73 N)) m σ (nI b) (nI n) (nI a) (nI k) = l_X8_countMends_73 N σ (nI ((a + sT (fun k => τ.1 4 (24 * b + k)) k d) * (n - 1))) (nI 0) := by
  obtain ⟨hb, ⟨hn1, hn2⟩, z1, z2, hst⟩ := hB
  intro d
  induction d with
  | zero =>
    intro k m a hk hm ha
    have hs : nI n - nI 1 = nI (n - 1) := nI_subn n 1 hn1
    rw [nLpP _ _ hm]
    simp (disch := first | omega | exact nM1_n | exact nM2_n | assumption) only [b_X8_countMends_14, hs, ↓nLetR, ↓reduceIte, ↓e_m1, ↓e_m2, e_0, e_1, e_2, e_3, e_4, e_5, e_6, e_7, e_8, e_9, e_10, e_11, e_12, e_13, e_14, e_15, e_16, e_17, e_18, e_19, e_20, e_21, e_22, e_23, e_24, e_25, e_26, e_27, e_28, e_29, e_30, e_31, e_32, e_33, e_48, e_57, e_59, e_60, e_63, e_64, e_96, e_97, e_99, e_120, e_122, e_192, e_200, e_255, e_256, e_300, e_500, e_600, e_2000, e_5000, e_5240, e_6146, e_20000, e_65536, nIo, nI_clamp, nIxt, nI_1, nI_add, nI_mul, nI_eqF, nI_ltT, nI_ltF, nI_leT, nI_leF, nN_lt0, nN_le, nN_lt, nN_eq, nN_eq', eq_self, nBdS]
    rfl
  | succ d ih =>
    intro k m a hk hm ha
    obtain ⟨⟨c0, c1, c2, c3, c4⟩, hs⟩ := hst k (by omega)
    have e0 := cell_is0 (N := N) (σ := σ) (b := b) (k := k) hb (by omega)
    rw [c0] at e0
    have go : ∀ kd t, kd < 6 → τ.1 4 (24 * b + k) = nI kd → tg (nI kd) = t → (t = if kd = 2 then 2 else if kd = 4 then 1 else 0) → nLp (fun _ _ _ _ _ => none) (fun again => b_X8_countMends_14 N (l_X8_countMends_55 N again) (l_X8_countMends_73 N)) m σ (nI b) (nI n) (nI a) (nI k) = l_X8_countMends_73 N σ (nI ((a + sT (fun k => τ.1 4 (24 * b + k)) k (d + 1)) * (n - 1))) (nI 0) := by
      intro kd t hkd ek et et2
      have ht2 : t ≤ 2 := by rw [← et]; exact tg_le _
      have g := ih (k + 1) (m - 1) (a + t) (by omega) (by omega) (by omega)
      have hsT : sT (fun k => τ.1 4 (24 * b + k)) k (d + 1) = t + sT (fun k => τ.1 4 (24 * b + k)) (k + 1) d := by
        show tg (τ.1 4 (24 * b + k)) + _ = _
        rw [ek, et]
      rw [hsT, ← Nat.add_assoc, ← g, nLpP _ _ (by omega)]
      rw [ek] at e0
      by_cases k2 : kd = 2
      · subst k2
        rw [if_pos rfl] at et2
        subst et2
        simp (disch := first | omega | exact nM1_n | exact nM2_n | assumption) only [b_X8_countMends_14, l_X8_countMends_55, b_X8_countMends_55, e0, ↓nLetR, ↓reduceIte, ↓e_m1, ↓e_m2, e_0, e_1, e_2, e_3, e_4, e_5, e_6, e_7, e_8, e_9, e_10, e_11, e_12, e_13, e_14, e_15, e_16, e_17, e_18, e_19, e_20, e_21, e_22, e_23, e_24, e_25, e_26, e_27, e_28, e_29, e_30, e_31, e_32, e_33, e_48, e_57, e_59, e_60, e_63, e_64, e_96, e_97, e_99, e_120, e_122, e_192, e_200, e_255, e_256, e_300, e_500, e_600, e_2000, e_5000, e_5240, e_6146, e_20000, e_65536, nIo, nI_clamp, nIxt, nI_1, nI_add, nI_mul, nI_eqF, nI_ltT, nI_ltF, nI_leT, nI_leF, nN_lt0, nN_le, nN_lt, nN_eq, nN_eq', eq_self, nBdS]
      · by_cases k4 : kd = 4
        · subst k4
          rw [if_neg (by decide), if_pos rfl] at et2
          subst et2
          simp (disch := first | omega | exact nM1_n | exact nM2_n | assumption) only [b_X8_countMends_14, l_X8_countMends_55, b_X8_countMends_55, e0, ↓nLetR, ↓reduceIte, ↓e_m1, ↓e_m2, e_0, e_1, e_2, e_3, e_4, e_5, e_6, e_7, e_8, e_9, e_10, e_11, e_12, e_13, e_14, e_15, e_16, e_17, e_18, e_19, e_20, e_21, e_22, e_23, e_24, e_25, e_26, e_27, e_28, e_29, e_30, e_31, e_32, e_33, e_48, e_57, e_59, e_60, e_63, e_64, e_96, e_97, e_99, e_120, e_122, e_192, e_200, e_255, e_256, e_300, e_500, e_600, e_2000, e_5000, e_5240, e_6146, e_20000, e_65536, nIo, nI_clamp, nIxt, nI_1, nI_add, nI_mul, nI_eqF, nI_ltT, nI_ltF, nI_leT, nI_leF, nN_lt0, nN_le, nN_lt, nN_eq, nN_eq', eq_self, nBdS]
        · rw [if_neg k2, if_neg k4] at et2
          subst et2
          simp (disch := first | omega | exact nM1_n | exact nM2_n | assumption) only [b_X8_countMends_14, l_X8_countMends_55, b_X8_countMends_55, e0, ↓nLetR, ↓reduceIte, ↓e_m1, ↓e_m2, e_0, e_1, e_2, e_3, e_4, e_5, e_6, e_7, e_8, e_9, e_10, e_11, e_12, e_13, e_14, e_15, e_16, e_17, e_18, e_19, e_20, e_21, e_22, e_23, e_24, e_25, e_26, e_27, e_28, e_29, e_30, e_31, e_32, e_33, e_48, e_57, e_59, e_60, e_63, e_64, e_96, e_97, e_99, e_120, e_122, e_192, e_200, e_255, e_256, e_300, e_500, e_600, e_2000, e_5000, e_5240, e_6146, e_20000, e_65536, nIo, nI_clamp, nIxt, nI_1, nI_add, nI_mul, nI_eqF, nI_ltT, nI_ltF, nI_leT, nI_leF, nN_lt0, nN_le, nN_lt, nN_eq, nN_eq', eq_self, nBdS]
    rcases hs with ⟨hkd, _⟩ | ⟨hkd, _⟩ | ⟨hkd, _⟩ | ⟨hkd, _⟩ | hkd
    · rcases hkd with hkd | hkd
      · exact go 0 0 (by decide) hkd (by decide) (by decide)
      · exact go 1 0 (by decide) hkd (by decide) (by decide)
    · exact go 2 2 (by decide) hkd (by decide) (by decide)
    · exact go 3 0 (by decide) hkd (by decide) (by decide)
    · exact go 4 1 (by decide) hkd (by decide) (by decide)
    · exact go 5 0 (by decide) hkd (by decide) (by decide)
theorem cnt_m {N F S b n : Nat} {σ τ : nS} (hB : hBk F S b n σ τ) (h48 : τ.1 0 48 = nI b) : ∀ d k m a, k + d = n → d < m → a ≤ 50 * k → nLp (fun _ _ _ => none) (fun again => b_X11_mends_22 N (l_X11_mends_97 N again) (l_X11_mends_107 N)) m τ (nI a) (nI k) = l_X11_mends_107 N τ (nI (a + sT (fun k => τ.1 4 (24 * b + k)) k d * (n - 1))) (nI 0) := by
  obtain ⟨hb, ⟨hn1, hn2⟩, z1, z2, hst⟩ := hB
  have hs1 : nI n - nI 1 = nI (n - 1) := nI_subn n 1 hn1
  intro d
  induction d with
  | zero =>
    intro k m a hk hm ha
    rw [nLpP _ _ hm]
    simp (disch := first | omega | exact nM1_n | exact nM2_n | assumption) only [b_X11_mends_22, h48, z2, ↓nLetR, ↓reduceIte, ↓e_m1, ↓e_m2, e_0, e_1, e_2, e_3, e_4, e_5, e_6, e_7, e_8, e_9, e_10, e_11, e_12, e_13, e_14, e_15, e_16, e_17, e_18, e_19, e_20, e_21, e_22, e_23, e_24, e_25, e_26, e_27, e_28, e_29, e_30, e_31, e_32, e_33, e_48, e_57, e_59, e_60, e_63, e_64, e_96, e_97, e_99, e_120, e_122, e_192, e_200, e_255, e_256, e_300, e_500, e_600, e_2000, e_5000, e_5240, e_6146, e_20000, e_65536, nIo, nI_clamp, nIxt, nI_1, nI_add, nI_mul, nI_eqF, nI_ltT, nI_ltF, nI_leT, nI_leF, nN_lt0, nN_le, nN_lt, nN_eq, nN_eq', eq_self, nBdS]
    show _ = l_X11_mends_107 N τ (nI (a + 0 * (n - 1))) (nI 0)
    rw [Nat.zero_mul, Nat.add_zero]
  | succ d ih =>
    intro k m a hk hm ha
    obtain ⟨⟨c0, c1, c2, c3, c4⟩, hs⟩ := hst k (by omega)
    have go : ∀ kd t, kd < 6 → τ.1 4 (24 * b + k) = nI kd → tg (nI kd) = t → (t = if kd = 2 then 2 else if kd = 4 then 1 else 0) → nLp (fun _ _ _ => none) (fun again => b_X11_mends_22 N (l_X11_mends_97 N again) (l_X11_mends_107 N)) m τ (nI a) (nI k) = l_X11_mends_107 N τ (nI (a + sT (fun k => τ.1 4 (24 * b + k)) k (d + 1) * (n - 1))) (nI 0) := by
      intro kd t hkd ek et et2
      have ht2 : t ≤ 2 := by rw [← et]; exact tg_le _
      have hmul : t * (n - 1) ≤ 2 * 23 := Nat.mul_le_mul ht2 (by omega)
      have g := ih (k + 1) (m - 1) (a + t * (n - 1)) (by omega) (by omega) (by omega)
      have hsT : sT (fun k => τ.1 4 (24 * b + k)) k (d + 1) = t + sT (fun k => τ.1 4 (24 * b + k)) (k + 1) d := by
        show tg (τ.1 4 (24 * b + k)) + _ = _
        rw [ek, et]
      rw [hsT, Nat.add_mul, ← Nat.add_assoc, ← g, nLpP _ _ (by omega)]
      by_cases k2 : kd = 2
      · subst k2
        rw [if_pos rfl] at et2
        subst et2
        simp (disch := first | omega | exact nM1_n | exact nM2_n | assumption) only [b_X11_mends_22, l_X11_mends_97, b_X11_mends_97, h48, z2, ek, hs1, ↓nLetR, ↓reduceIte, ↓e_m1, ↓e_m2, e_0, e_1, e_2, e_3, e_4, e_5, e_6, e_7, e_8, e_9, e_10, e_11, e_12, e_13, e_14, e_15, e_16, e_17, e_18, e_19, e_20, e_21, e_22, e_23, e_24, e_25, e_26, e_27, e_28, e_29, e_30, e_31, e_32, e_33, e_48, e_57, e_59, e_60, e_63, e_64, e_96, e_97, e_99, e_120, e_122, e_192, e_200, e_255, e_256, e_300, e_500, e_600, e_2000, e_5000, e_5240, e_6146, e_20000, e_65536, nIo, nI_clamp, nIxt, nI_1, nI_add, nI_mul, nI_eqF, nI_ltT, nI_ltF, nI_leT, nI_leF, nN_lt0, nN_le, nN_lt, nN_eq, nN_eq', eq_self, nBdS]
      · by_cases k4 : kd = 4
        · subst k4
          rw [if_neg (by decide), if_pos rfl] at et2
          subst et2
          simp (disch := first | omega | exact nM1_n | exact nM2_n | assumption) only [b_X11_mends_22, l_X11_mends_97, b_X11_mends_97, h48, z2, ek, hs1, ↓nLetR, ↓reduceIte, ↓e_m1, ↓e_m2, e_0, e_1, e_2, e_3, e_4, e_5, e_6, e_7, e_8, e_9, e_10, e_11, e_12, e_13, e_14, e_15, e_16, e_17, e_18, e_19, e_20, e_21, e_22, e_23, e_24, e_25, e_26, e_27, e_28, e_29, e_30, e_31, e_32, e_33, e_48, e_57, e_59, e_60, e_63, e_64, e_96, e_97, e_99, e_120, e_122, e_192, e_200, e_255, e_256, e_300, e_500, e_600, e_2000, e_5000, e_5240, e_6146, e_20000, e_65536, nIo, nI_clamp, nIxt, nI_1, nI_add, nI_mul, nI_eqF, nI_ltT, nI_ltF, nI_leT, nI_leF, nN_lt0, nN_le, nN_lt, nN_eq, nN_eq', eq_self, nBdS]
          rw [Nat.one_mul]
        · rw [if_neg k2, if_neg k4] at et2
          subst et2
          simp (disch := first | omega | exact nM1_n | exact nM2_n | assumption) only [b_X11_mends_22, l_X11_mends_97, b_X11_mends_97, h48, z2, ek, hs1, ↓nLetR, ↓reduceIte, ↓e_m1, ↓e_m2, e_0, e_1, e_2, e_3, e_4, e_5, e_6, e_7, e_8, e_9, e_10, e_11, e_12, e_13, e_14, e_15, e_16, e_17, e_18, e_19, e_20, e_21, e_22, e_23, e_24, e_25, e_26, e_27, e_28, e_29, e_30, e_31, e_32, e_33, e_48, e_57, e_59, e_60, e_63, e_64, e_96, e_97, e_99, e_120, e_122, e_192, e_200, e_255, e_256, e_300, e_500, e_600, e_2000, e_5000, e_5240, e_6146, e_20000, e_65536, nIo, nI_clamp, nIxt, nI_1, nI_add, nI_mul, nI_eqF, nI_ltT, nI_ltF, nI_leT, nI_leF, nN_lt0, nN_le, nN_lt, nN_eq, nN_eq', eq_self, nBdS]
          rw [Nat.zero_mul]
    rcases hs with ⟨hkd, _⟩ | ⟨hkd, _⟩ | ⟨hkd, _⟩ | ⟨hkd, _⟩ | hkd
    · rcases hkd with hkd | hkd
      · exact go 0 0 (by decide) hkd (by decide) (by decide)
      · exact go 1 0 (by decide) hkd (by decide) (by decide)
    · exact go 2 2 (by decide) hkd (by decide) (by decide)
    · exact go 3 0 (by decide) hkd (by decide) (by decide)
    · exact go 4 1 (by decide) hkd (by decide) (by decide)
    · exact go 5 0 (by decide) hkd (by decide) (by decide)
theorem cntP_c {N P : Nat} {σ : nS} (hP : P ≤ 4) (h2 : σ.1 1 2 = nI P) (hs : ∀ q, q < P → ∃ x, x < 256 ∧ σ.1 3 q = nI x) : ∀ d p m a, p + d = P → d < m → a + 8 * d < 10000 → nLp (fun _ _ _ => none) (fun again => b_X8_countMends_73 N again) m σ (nI a) (nI p) = some (nI (a + sP (σ.1 3) p d), σ) := by
  intro d
  induction d with
  | zero =>
    intro p m a hp hm ha
    rw [nLpP _ _ hm]
    simp (disch := first | omega | exact nM1_n | exact nM2_n | assumption) only [b_X8_countMends_73, h2, ↓nLetR, ↓reduceIte, ↓e_m1, ↓e_m2, e_0, e_1, e_2, e_3, e_4, e_5, e_6, e_7, e_8, e_9, e_10, e_11, e_12, e_13, e_14, e_15, e_16, e_17, e_18, e_19, e_20, e_21, e_22, e_23, e_24, e_25, e_26, e_27, e_28, e_29, e_30, e_31, e_32, e_33, e_48, e_57, e_59, e_60, e_63, e_64, e_96, e_97, e_99, e_120, e_122, e_192, e_200, e_255, e_256, e_300, e_500, e_600, e_2000, e_5000, e_5240, e_6146, e_20000, e_65536, nIo, nI_clamp, nIxt, nI_1, nI_add, nI_mul, nI_eqF, nI_ltT, nI_ltF, nI_leT, nI_leF, nN_lt0, nN_le, nN_lt, nN_eq, nN_eq', eq_self, nBdS]
    rfl
  | succ d ih =>
    intro p m a hp hm ha
    obtain ⟨x, hx, ex⟩ := hs p (by omega)
    have hpc := pcf_le 8 x
    have hsP : sP (σ.1 3) p (d + 1) = (8 - pcf 8 x) + sP (σ.1 3) (p + 1) d := by
      show (8 - pcf 8 (σ.1 3 p).toNatClampNeg) + _ = _
      rw [ex, nI_clamp (by omega)]
    have hsub : nI 8 - nI (pcf 8 x) = nI (8 - pcf 8 x) := nI_subn _ _ hpc
    have g := ih (p + 1) (m - 1) (a + (8 - pcf 8 x)) (by omega) (by omega) (by omega)
    rw [hsP, ← Nat.add_assoc, ← g, nLpP _ _ (by omega)]
    simp (disch := first | omega | exact nM1_n | exact nM2_n | assumption) only [b_X8_countMends_73, h2, skOf (show p < 4 by omega), ex, bitC8 hx, hsub, ↓nLetR, ↓reduceIte, ↓e_m1, ↓e_m2, e_0, e_1, e_2, e_3, e_4, e_5, e_6, e_7, e_8, e_9, e_10, e_11, e_12, e_13, e_14, e_15, e_16, e_17, e_18, e_19, e_20, e_21, e_22, e_23, e_24, e_25, e_26, e_27, e_28, e_29, e_30, e_31, e_32, e_33, e_48, e_57, e_59, e_60, e_63, e_64, e_96, e_97, e_99, e_120, e_122, e_192, e_200, e_255, e_256, e_300, e_500, e_600, e_2000, e_5000, e_5240, e_6146, e_20000, e_65536, nIo, nI_clamp, nIxt, nI_1, nI_add, nI_mul, nI_eqF, nI_ltT, nI_ltF, nI_leT, nI_leF, nN_lt0, nN_le, nN_lt, nN_eq, nN_eq', eq_self, nBdS]
def mE (N : Nat) (τ : nS) (v : Int32) : Option (Int32 × nS) := if τ.1 0 50 ≤ nI 0 then l_X11_mends_161 N τ else if v * τ.1 0 49 ≤ nI 20000 then l_X11_mends_161 N τ else some (nM1, wr (wr τ 0 1 (nI 3)) 0 2 nM1)
theorem cntP_m {N P : Nat} {τ : nS} (hN : 100 ≤ N) (hP : P ≤ 4) (h2 : τ.1 0 6 = nI P) (hs : ∀ q, q < P → ∃ x, x < 256 ∧ τ.1 2 q = nI x) : ∀ d p m a, p + d = P → d < m → a + 8 * d < 10000 → nLp (fun _ _ _ => none) (fun again => b_X11_mends_107 N again (l_X11_mends_161 N)) m τ (nI a) (nI p) = mE N τ (nI (a + sP (τ.1 2) p d)) := by
  intro d
  induction d with
  | zero =>
    intro p m a hp hm ha
    rw [nLpP _ _ hm]
    unfold mE
    show b_X11_mends_107 N _ (l_X11_mends_161 N) τ (nI a) (nI p) = if τ.1 0 50 ≤ nI 0 then l_X11_mends_161 N τ else if nI a * τ.1 0 49 ≤ nI 20000 then l_X11_mends_161 N τ else some (nM1, wr (wr τ 0 1 (nI 3)) 0 2 nM1)
    by_cases c1 : τ.1 0 50 ≤ nI 0
    · rw [if_pos c1]
      simp (disch := first | omega | exact nM1_n | exact nM2_n | assumption) only [b_X11_mends_107, h2, eq_true c1, ↓nLetR, ↓reduceIte, ↓e_m1, ↓e_m2, e_0, e_1, e_2, e_3, e_4, e_5, e_6, e_7, e_8, e_9, e_10, e_11, e_12, e_13, e_14, e_15, e_16, e_17, e_18, e_19, e_20, e_21, e_22, e_23, e_24, e_25, e_26, e_27, e_28, e_29, e_30, e_31, e_32, e_33, e_48, e_57, e_59, e_60, e_63, e_64, e_96, e_97, e_99, e_120, e_122, e_192, e_200, e_255, e_256, e_300, e_500, e_600, e_2000, e_5000, e_5240, e_6146, e_20000, e_65536, nIo, nI_clamp, nIxt, nI_1, nI_add, nI_mul, nI_eqF, nI_ltT, nI_ltF, nI_leT, nI_leF, nN_lt0, nN_le, nN_lt, nN_eq, nN_eq', eq_self, nBdS]
    · rw [if_neg c1]
      by_cases c2 : nI a * τ.1 0 49 ≤ nI 20000
      · rw [if_pos c2]
        simp (disch := first | omega | exact nM1_n | exact nM2_n | assumption) only [b_X11_mends_107, h2, eq_false c1, eq_true c2, ↓nLetR, ↓reduceIte, ↓e_m1, ↓e_m2, e_0, e_1, e_2, e_3, e_4, e_5, e_6, e_7, e_8, e_9, e_10, e_11, e_12, e_13, e_14, e_15, e_16, e_17, e_18, e_19, e_20, e_21, e_22, e_23, e_24, e_25, e_26, e_27, e_28, e_29, e_30, e_31, e_32, e_33, e_48, e_57, e_59, e_60, e_63, e_64, e_96, e_97, e_99, e_120, e_122, e_192, e_200, e_255, e_256, e_300, e_500, e_600, e_2000, e_5000, e_5240, e_6146, e_20000, e_65536, nIo, nI_clamp, nIxt, nI_1, nI_add, nI_mul, nI_eqF, nI_ltT, nI_ltF, nI_leT, nI_leF, nN_lt0, nN_le, nN_lt, nN_eq, nN_eq', eq_self, nBdS]
      · rw [if_neg c2]
        simp (disch := first | omega | exact nM1_n | exact nM2_n | assumption) only [b_X11_mends_107, b_X11_refused_0, l_X11_refused_0, f_X11_refused, h2, eq_false c1, eq_false c2, ↓nLetR, ↓reduceIte, ↓e_m1, ↓e_m2, e_0, e_1, e_2, e_3, e_4, e_5, e_6, e_7, e_8, e_9, e_10, e_11, e_12, e_13, e_14, e_15, e_16, e_17, e_18, e_19, e_20, e_21, e_22, e_23, e_24, e_25, e_26, e_27, e_28, e_29, e_30, e_31, e_32, e_33, e_48, e_57, e_59, e_60, e_63, e_64, e_96, e_97, e_99, e_120, e_122, e_192, e_200, e_255, e_256, e_300, e_500, e_600, e_2000, e_5000, e_5240, e_6146, e_20000, e_65536, nIo, nI_clamp, nIxt, nI_1, nI_add, nI_mul, nI_eqF, nI_ltT, nI_ltF, nI_leT, nI_leF, nN_lt0, nN_le, nN_lt, nN_eq, nN_eq', eq_self, nBdS]
  | succ d ih =>
    intro p m a hp hm ha
    obtain ⟨x, hx, ex⟩ := hs p (by omega)
    have hpc := pcf_le 8 x
    have hsP : sP (τ.1 2) p (d + 1) = (8 - pcf 8 x) + sP (τ.1 2) (p + 1) d := by
      show (8 - pcf 8 (τ.1 2 p).toNatClampNeg) + _ = _
      rw [ex, nI_clamp (by omega)]
    have hsub : nI 8 - nI (pcf 8 x) = nI (8 - pcf 8 x) := nI_subn _ _ hpc
    have g := ih (p + 1) (m - 1) (a + (8 - pcf 8 x)) (by omega) (by omega) (by omega)
    rw [hsP, ← Nat.add_assoc, ← g, nLpP _ _ (by omega)]
    simp (disch := first | omega | exact nM1_n | exact nM2_n | assumption) only [b_X11_mends_107, h2, ex, bits8 (show 40 ≤ N by omega) hx, hsub, ↓nLetR, ↓reduceIte, ↓e_m1, ↓e_m2, e_0, e_1, e_2, e_3, e_4, e_5, e_6, e_7, e_8, e_9, e_10, e_11, e_12, e_13, e_14, e_15, e_16, e_17, e_18, e_19, e_20, e_21, e_22, e_23, e_24, e_25, e_26, e_27, e_28, e_29, e_30, e_31, e_32, e_33, e_48, e_57, e_59, e_60, e_63, e_64, e_96, e_97, e_99, e_120, e_122, e_192, e_200, e_255, e_256, e_300, e_500, e_600, e_2000, e_5000, e_5240, e_6146, e_20000, e_65536, nIo, nI_clamp, nIxt, nI_1, nI_add, nI_mul, nI_eqF, nI_ltT, nI_ltF, nI_leT, nI_leF, nN_lt0, nN_le, nN_lt, nN_eq, nN_eq', eq_self, nBdS]
