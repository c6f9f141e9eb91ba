/-! A PLAY FROM ITS START -/
theorem fillL_go (N q qn : Nat) (hq : qn < 2 ^ 31) (v : Int64) : ∀ d m i σ, i + d = qn → d < m →
    ∃ σ', nLp (fun _ _ _ _ => none) (fun again => b_J7_fill_d0a16_6 N q qn again) m σ v (nI i) (nI qn) = some (nI 0, σ') ∧ σ'.1 = σ.1 ∧ (∀ j, i ≤ j → j < qn → σ'.2 q j = v) ∧ (∀ j, j < i → σ'.2 q j = σ.2 q j) ∧ ∀ d, d ≠ q → σ'.2 d = σ.2 d := by
  intro d
  induction d with
  | zero =>
    intro m i σ hi hm
    refine ⟨σ, ?_, rfl, fun j h1 h2 => absurd h2 (by omega), fun j h => rfl, fun d h => rfl⟩
    rw [nLpP _ _ hm]
    simp (disch := first | omega | exact nM1_n | exact nM2_n | assumption) only [b_J7_fill_d0a16_6, ↓nLetR, ↓reduceIte, ↓e_m1, ↓e_m2, e_0, e_1, e_2, e_3, e_4, e_5, e_6, e_7, e_8, e_9, e_10, e_11, e_12, e_13, e_14, e_15, e_16, e_17, e_18, e_19, e_20, e_21, e_22, e_23, e_24, e_25, e_26, e_27, e_28, e_29, e_30, e_31, e_32, e_33, e_48, e_57, e_59, e_60, e_63, e_64, e_96, e_97, e_99, e_120, e_122, e_192, e_200, e_255, e_256, e_300, e_500, e_600, e_2000, e_5000, e_5240, e_6146, e_20000, e_65536, nIo, nI_clamp, nIxt, nI_1, nI_add, nI_mul, nI_eqF, nI_ltT, nI_ltF, nI_leT, nI_leF, nN_lt0, nN_le, nN_lt, nN_eq, nN_eq', eq_self, nBdS]
  | succ d ih =>
    intro m i σ hi hm
    obtain ⟨σ', e, e1, e2, e3, e4⟩ := ih (m - 1) (i + 1) (wl σ q i v) (by omega) (by omega)
    refine ⟨σ', ?_, e1, fun j h1 h2 => ?_, fun j h => ?_, fun d h => ?_⟩
    · rw [nLpP _ _ (by omega)]
      simp (disch := first | omega | exact nM1_n | exact nM2_n | assumption) only [b_J7_fill_d0a16_6, ↓nLetR, ↓reduceIte, ↓e_m1, ↓e_m2, e_0, e_1, e_2, e_3, e_4, e_5, e_6, e_7, e_8, e_9, e_10, e_11, e_12, e_13, e_14, e_15, e_16, e_17, e_18, e_19, e_20, e_21, e_22, e_23, e_24, e_25, e_26, e_27, e_28, e_29, e_30, e_31, e_32, e_33, e_48, e_57, e_59, e_60, e_63, e_64, e_96, e_97, e_99, e_120, e_122, e_192, e_200, e_255, e_256, e_300, e_500, e_600, e_2000, e_5000, e_5240, e_6146, e_20000, e_65536, nIo, nI_clamp, nIxt, nI_1, nI_add, nI_mul, nI_eqF, nI_ltT, nI_ltF, nI_leT, nI_leF, nN_lt0, nN_le, nN_lt, nN_eq, nN_eq', eq_self, nBdS]
      exact e
    · by_cases hj : j = i
      · subst hj
        rw [e3 j (by omega), wls]
      · exact e2 j (by omega) h2
    · rw [e3 j (by omega), wlk _ _ _ (by omega)]
    · rw [e4 d h, wlc _ _ _ h]
theorem fillI_go (N q qn : Nat) (hq : qn < 2 ^ 31) (v : Int32) : ∀ d m i σ, i + d = qn → d < m →
    ∃ σ', nLp (fun _ _ _ _ => none) (fun again => b_J7_fill_53178_5 N q qn again) m σ v (nI i) (nI qn) = some (nI 0, σ') ∧ σ'.2 = σ.2 ∧ (∀ j, i ≤ j → j < qn → σ'.1 q j = v) ∧ (∀ j, j < i → σ'.1 q j = σ.1 q j) ∧ ∀ d, d ≠ q → σ'.1 d = σ.1 d := by
  intro d
  induction d with
  | zero =>
    intro m i σ hi hm
    refine ⟨σ, ?_, rfl, fun j h1 h2 => absurd h2 (by omega), fun j h => rfl, fun d h => rfl⟩
    rw [nLpP _ _ hm]
    simp (disch := first | omega | exact nM1_n | exact nM2_n | assumption) only [b_J7_fill_53178_5, ↓nLetR, ↓reduceIte, ↓e_m1, ↓e_m2, e_0, e_1, e_2, e_3, e_4, e_5, e_6, e_7, e_8, e_9, e_10, e_11, e_12, e_13, e_14, e_15, e_16, e_17, e_18, e_19, e_20, e_21, e_22, e_23, e_24, e_25, e_26, e_27, e_28, e_29, e_30, e_31, e_32, e_33, e_48, e_57, e_59, e_60, e_63, e_64, e_96, e_97, e_99, e_120, e_122, e_192, e_200, e_255, e_256, e_300, e_500, e_600, e_2000, e_5000, e_5240, e_6146, e_20000, e_65536, nIo, nI_clamp, nIxt, nI_1, nI_add, nI_mul, nI_eqF, nI_ltT, nI_ltF, nI_leT, nI_leF, nN_lt0, nN_le, nN_lt, nN_eq, nN_eq', eq_self, nBdS]
  | succ d ih =>
    intro m i σ hi hm
    obtain ⟨σ', e, e1, e2, e3, e4⟩ := ih (m - 1) (i + 1) (wr σ q i v) (by omega) (by omega)
    refine ⟨σ', ?_, e1, fun j h1 h2 => ?_, fun j h => ?_, fun d h => ?_⟩
    · rw [nLpP _ _ (by omega)]
      simp (disch := first | omega | exact nM1_n | exact nM2_n | assumption) only [b_J7_fill_53178_5, ↓nLetR, ↓reduceIte, ↓e_m1, ↓e_m2, e_0, e_1, e_2, e_3, e_4, e_5, e_6, e_7, e_8, e_9, e_10, e_11, e_12, e_13, e_14, e_15, e_16, e_17, e_18, e_19, e_20, e_21, e_22, e_23, e_24, e_25, e_26, e_27, e_28, e_29, e_30, e_31, e_32, e_33, e_48, e_57, e_59, e_60, e_63, e_64, e_96, e_97, e_99, e_120, e_122, e_192, e_200, e_255, e_256, e_300, e_500, e_600, e_2000, e_5000, e_5240, e_6146, e_20000, e_65536, nIo, nI_clamp, nIxt, nI_1, nI_add, nI_mul, nI_eqF, nI_ltT, nI_ltF, nI_leT, nI_leF, nN_lt0, nN_le, nN_lt, nN_eq, nN_eq', eq_self, nBdS]
      exact e
    · by_cases hj : j = i
      · subst hj
        rw [e3 j (by omega), wrs]
      · exact e2 j (by omega) h2
    · rw [e3 j (by omega), wrk _ _ _ (by omega)]
    · rw [e4 d h, wrc _ _ _ h]
theorem fillL_is {N q qn : Nat} (hN : qn < N) (hq : qn < 2 ^ 31) (v : Int64) (σ : nS) : ∃ σ', f_J7_fill_d0a16 N q qn v σ = some (nI 0, σ') ∧ σ'.1 = σ.1 ∧ (∀ j, j < qn → σ'.2 q j = v) ∧ ∀ d, d ≠ q → σ'.2 d = σ.2 d := by
  obtain ⟨σ', e, e1, e2, _, e4⟩ := fillL_go N q qn hq v qn N 0 σ (by omega) hN
  exact ⟨σ', e, e1, fun j h => e2 j (Nat.zero_le j) h, e4⟩
theorem fillI_is {N q qn : Nat} (hN : qn < N) (hq : qn < 2 ^ 31) (v : Int32) (σ : nS) : ∃ σ', f_J7_fill_53178 N q qn v σ = some (nI 0, σ') ∧ σ'.2 = σ.2 ∧ (∀ j, j < qn → σ'.1 q j = v) ∧ ∀ d, d ≠ q → σ'.1 d = σ.1 d := by
  obtain ⟨σ', e, e1, e2, _, e4⟩ := fillI_go N q qn hq v qn N 0 σ (by omega) hN
  exact ⟨σ', e, e1, fun j h => e2 j (Nat.zero_le j) h, e4⟩
theorem rest_is {N : Nat} (hN : 10 ≤ N) (σ : nS) : ∃ σ', f_X3_rest N σ = some (nI 0, σ') ∧ σ'.2 = σ.2 ∧ (∀ j, j < 4 → σ'.1 11 j = nI 0) ∧ ∀ d, d ≠ 11 → σ'.1 d = σ.1 d := by
  obtain ⟨σ', e, h⟩ := fillI_is (N := N) (q := 11) (qn := 4) (by omega) (by decide) (nI 0) σ
  refine ⟨σ', ?_, h⟩
  unfold f_X3_rest l_X3_rest_0 b_X3_rest_0
  rw [show (0 : Int32) = nI 0 from rfl, e, nBdS]
theorem start_is {N w F : Nat} (hN : 100 ≤ N) (b : Int32) {x : Nat} (ly aw : Int32) (hw : 24 ≤ w) (hF : F ≤ 8) (hx : x < 256) {σ : nS} (h1 : σ.1 1 0 = nI F) : ∃ σ', f_X6_start N w b (nI x) ly aw σ = some (nI 0, σ') ∧
    (σ'.1 w 2 = b ∧ σ'.1 w 3 = nI (x % 2 ^ F) ∧ σ'.1 w 4 = ly ∧ σ'.1 w 5 = aw ∧ σ'.1 w 6 = nI 0 ∧ σ'.1 w 7 = nI 0 ∧ σ'.1 w 8 = nI 0 ∧ σ'.1 w 9 = nI 0 ∧ σ'.1 w 10 = nI 0 ∧ σ'.1 w 11 = nM1) ∧ (∀ j, j < 96 → σ'.2 (w + 1) j = 0) ∧ (∀ d, d ≠ w → σ'.1 d = σ.1 d) ∧ ∀ d, d ≠ w + 1 → σ'.2 d = σ.2 d := by
  obtain ⟨σ', e, e1, e2, e3⟩ := fillL_is (N := N) (q := w + 1) (qn := 96) (by omega) (by decide) 0 σ
  have hz : σ'.1 1 0 = nI F := by rw [e1]; exact h1
  have hm := mk_and F (by omega) x hx
  have hq : f_X6_start N w b (nI x) ly aw σ = some (nI 0, wr (wr (wr (wr (wr (wr (wr (wr (wr (wr σ' w 2 b) w 3 (nI (x % 2 ^ F))) w 4 ly) w 5 aw) w 6 (nI 0)) w 7 (nI 0)) w 8 (nI 0)) w 9 (nI 0)) w 10 (nI 0)) w 11 nM1) := by
    simp (disch := first | omega | exact nM1_n | exact nM2_n | assumption) only [b_X6_start_0, l_X6_start_0, f_X6_start, b_X7_allFacts_0, l_X7_allFacts_0, f_X7_allFacts, e, hz, hm, ↓nLetR, ↓reduceIte, ↓e_m1, ↓e_m2, e_0, e_1, e_2, e_3, e_4, e_5, e_6, e_7, e_8, e_9, e_10, e_11, e_12, e_13, e_14, e_15, e_16, e_17, e_18, e_19, e_20, e_21, e_22, e_23, e_24, e_25, e_26, e_27, e_28, e_29, e_30, e_31, e_32, e_33, e_48, e_57, e_59, e_60, e_63, e_64, e_96, e_97, e_99, e_120, e_122, e_192, e_200, e_255, e_256, e_300, e_500, e_600, e_2000, e_5000, e_5240, e_6146, e_20000, e_65536, nIo, nI_clamp, nIxt, nI_1, nI_add, nI_mul, nI_eqF, nI_ltT, nI_ltF, nI_leT, nI_leF, nN_lt0, nN_le, nN_lt, nN_eq, nN_eq', eq_self, nBdS, wrs, wrk, wrc, wr2, wl1, wls, wlk, wlc]
  refine ⟨_, hq, ⟨?_, ?_, ?_, ?_, ?_, ?_, ?_, ?_, ?_, ?_⟩, ?_, ?_, ?_⟩
  · simp (disch := omega) only [wrs, wrk, wrc, wr2, wl1, wls, wlk, wlc]
  · simp (disch := omega) only [wrs, wrk, wrc, wr2, wl1, wls, wlk, wlc]
  · simp (disch := omega) only [wrs, wrk, wrc, wr2, wl1, wls, wlk, wlc]
  · simp (disch := omega) only [wrs, wrk, wrc, wr2, wl1, wls, wlk, wlc]
  · simp (disch := omega) only [wrs, wrk, wrc, wr2, wl1, wls, wlk, wlc]
  · simp (disch := omega) only [wrs, wrk, wrc, wr2, wl1, wls, wlk, wlc]
  · simp (disch := omega) only [wrs, wrk, wrc, wr2, wl1, wls, wlk, wlc]
  · simp (disch := omega) only [wrs, wrk, wrc, wr2, wl1, wls, wlk, wlc]
  · simp (disch := omega) only [wrs, wrk, wrc, wr2, wl1, wls, wlk, wlc]
  · simp (disch := omega) only [wrs, wrk, wrc, wr2, wl1, wls, wlk, wlc]
  · simp (disch := omega) only [wrs, wrk, wrc, wr2, wl1, wls, wlk, wlc]; exact e2
  · intro d h; simp (disch := omega) only [wrs, wrk, wrc, wr2, wl1, wls, wlk, wlc]; rw [e1]
  · intro d h; simp (disch := omega) only [wrs, wrk, wrc, wr2, wl1, wls, wlk, wlc]; exact e3 d h
theorem play_is {N w b F S P B n ly aw x M : Nat} {σ τ : nS} (hN : 7000 ≤ N) (hw : 24 ≤ w) (hM : M + 1 < 2 ^ 31) (hH : hHs F S P B σ τ) (hB : hBk F S b n σ τ) (hx : x < 256) (hk : hMk M τ) :
    ∃ e σa σb σ1 τ1, f_X6_start N w (nI b) (nI x) (nI ly) (nI aw) σ = some (nI 0, σa) ∧ f_X3_rest N σa = some (nI 0, σb) ∧ f_X6_goOn N w (nI 5240) σb = some (nI 0, σ1) ∧
      f_X11_plays N (nI b) (nI x) (nI ly) (nI aw) τ = some (nI e, τ1) ∧ hF w (M + 1) σ τ e σ1 τ1 := by
  obtain ⟨⟨bF, _⟩, ⟨w0, _⟩, ⟨y0, _⟩, _⟩ := id hH
  obtain ⟨σa, ea, ⟨a2, a3, a4, a5, a6, a7, a8, a9, a10, a11⟩, s1, s2, s3⟩ := start_is (N := N) (w := w) (by omega) (nI b) (nI ly) (nI aw) hw bF hx w0
  obtain ⟨σb, eb, r1, r2, r3⟩ := rest_is (N := N) (by omega) σa
  have hxF : x % 2 ^ F < 2 ^ F := Nat.mod_lt _ (Nat.pow_pos (by decide))
  have hm := mk_and F (by omega) x hx
  have hp : f_X11_plays N (nI b) (nI x) (nI ly) (nI aw) τ = mP N N (wr (wr (wr (wr (wr τ 0 31 (nI (M + 1))) 0 35 (nI (x % 2 ^ F))) 0 33 (nI 0)) 0 34 (nI 0)) 0 32 nM1) (nI b) (nI ly) (nI aw) (nI 0) := by
    simp (disch := first | omega | exact nM1_n | exact nM2_n | assumption) only [f_X11_plays, l_X11_plays_0, b_X11_plays_0, b_X11_allFacts_0, l_X11_allFacts_0, f_X11_allFacts, hk.1, y0, hm, ↓nLetR, ↓reduceIte, ↓e_m1, ↓e_m2, e_0, e_1, e_2, e_3, e_4, e_5, e_6, e_7, e_8, e_9, e_10, e_11, e_12, e_13, e_14, e_15, e_16, e_17, e_18, e_19, e_20, e_21, e_22, e_23, e_24, e_25, e_26, e_27, e_28, e_29, e_30, e_31, e_32, e_33, e_48, e_57, e_59, e_60, e_63, e_64, e_96, e_97, e_99, e_120, e_122, e_192, e_200, e_255, e_256, e_300, e_500, e_600, e_2000, e_5000, e_5240, e_6146, e_20000, e_65536, nIo, nI_clamp, nIxt, nI_1, nI_add, nI_mul, nI_eqF, nI_ltT, nI_ltF, nI_leT, nI_leF, nN_lt0, nN_le, nN_lt, nN_eq, nN_eq', eq_self, nBdS, wrs, wrk, wrc, wr2, wl1, wls, wlk, wlc]
    rfl
  have R : hR w b F n ly aw σ τ (M + 1) 0 (x % 2 ^ F) 0 0 σb (wr (wr (wr (wr (wr τ 0 31 (nI (M + 1))) 0 35 (nI (x % 2 ^ F))) 0 33 (nI 0)) 0 34 (nI 0)) 0 32 nM1) := by
    have hf : ∀ f, σb.1 w f = σa.1 w f := fun f => by rw [r3 w (by omega)]
    refine ⟨⟨(hf 2).trans a2, (hf 3).trans a3, (hf 4).trans a4, (hf 5).trans a5, (hf 6).trans a6, (hf 7).trans a7, (hf 8).trans a8, (hf 10).trans a10, (hf 11).trans a11⟩, fun p h => ⟨0, Nat.le_refl 0, r2 p h⟩, ⟨?_, ?_, ?_, ?_⟩, ⟨hxF, Nat.zero_le n, by decide⟩, ?_, ⟨?_, ?_⟩, fun i h => absurd h (Nat.not_lt_zero i), ⟨?_, ?_, ?_⟩⟩
    · simp (disch := omega) only [wrs, wrk, wrc, wr2, wl1, wls, wlk, wlc]
    · simp (disch := omega) only [wrs, wrk, wrc, wr2, wl1, wls, wlk, wlc]
    · simp (disch := omega) only [wrs, wrk, wrc, wr2, wl1, wls, wlk, wlc]
    · simp (disch := omega) only [wrs, wrk, wrc, wr2, wl1, wls, wlk, wlc]
    · intro k hk1 y hy
      rw [r1, s1 _ (by omega), sb_0]
      simp (disch := omega) only [wrs, wrk, wrc, wr2, wl1, wls, wlk, wlc]
      obtain ⟨z, hz, ez⟩ := hk.2 (256 * k + y) (by omega)
      rw [ez]
      exact ⟨fun h => (by cases h), fun h => absurd ((nI_eq (by omega) (by omega)).mp h) (by omega)⟩
    · simp (disch := omega) only [wrs, wrk, wrc, wr2, wl1, wls, wlk, wlc]
    · intro j hj
      simp (disch := omega) only [wrs, wrk, wrc, wr2, wl1, wls, wlk, wlc]
      obtain ⟨z, hz, ez⟩ := hk.2 j hj
      exact ⟨z, by omega, ez⟩
    · intro d h1 h2 h3
      rw [r3 d h3, s2 d h1]
    · intro d h1 h2 h3; simp (disch := omega) only [wrs, wrk, wrc, wr2, wl1, wls, wlk, wlc]
    · intro f h1; simp (disch := omega) only [wrs, wrk, wrc, wr2, wl1, wls, wlk, wlc]
  have hu := cU_le ((wr (wr (wr (wr (wr τ 0 31 (nI (M + 1))) 0 35 (nI (x % 2 ^ F))) 0 33 (nI 0)) 0 34 (nI 0)) 0 32 nM1).1 12) (nI (M + 1)) 6144
  obtain ⟨e, σ1, τ1, g1, g2, g3⟩ := play_go (N := N) (w := w) (by omega) hw hM hH hB _ (N - 1) N 0 (x % 2 ^ F) 0 0 σb _ R rfl (by omega) (by omega) (by omega)
  refine ⟨e, σa, σb, σ1, τ1, ea, eb, ?_, hp.trans g2, g3⟩
  have h0 : f_X6_goOn N w (nI 5240) σb = gG N w N σb (nI 5240) (nI 0) := rfl
  rw [h0, g_on (by omega) R.1.2.2.2.2.2.2.2.2 (Or.inl R.1.2.2.2.2.2.1) R.1.2.2.2.2.2.2.1 (by decide) (by decide) (by decide)]
  exact g1
