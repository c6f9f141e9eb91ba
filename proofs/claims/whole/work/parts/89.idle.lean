/-! IDLE, LOOK -/
theorem pcf_mod (n x : Nat) : pcf n (x % 2 ^ n) = pcf n x := by
  have h := pcf_add n 0 (x % 2 ^ n) (x / 2 ^ n) (Nat.mod_lt _ (Nat.pow_pos (by decide)))
  rw [Nat.mod_add_div] at h
  have h2 : pcf 0 (x / 2 ^ n) = 0 := rfl
  rw [h2, Nat.add_zero, Nat.add_zero] at h
  exact h.symm
theorem idle_go (N b n g : Nat) (τ : nS) (hb : b < 5) (hn : n ≤ 24) (h3 : τ.1 3 b = nI n) (hr : rB g n τ) : ∀ d k m z, k + d = n → d < m → z + d ≤ 24 → nLp (fun _ _ _ _ => none) (fun again => b_X11_idle_24 N (l_X11_idle_49 N again)) m τ (nI b) (nI z) (nI k) = some (nI (z + (d - pcf d (g / 2 ^ k))), τ) := by
  intro d
  induction d with
  | zero =>
    intro k m z hk hm hz
    have hkn : k = n := by omega
    subst hkn
    rw [nLpP _ _ hm]
    simp (disch := first | omega | exact nM1_n | exact nM2_n | assumption) only [b_X11_idle_24, h3, ↓nLetR, ↓reduceIte, ↓e_m1, ↓e_m2, e_0, e_1, e_2, e_3, e_4, e_5, e_6, e_7, e_8, e_9, e_10, e_11, e_12, e_13, e_14, e_15, e_16, e_17, e_18, e_19, e_20, e_21, e_22, e_23, e_24, e_25, e_26, e_27, e_28, e_29, e_30, e_31, e_32, e_33, e_48, e_57, e_59, e_60, e_63, e_64, e_96, e_97, e_99, e_120, e_122, e_192, e_200, e_255, e_256, e_300, e_500, e_600, e_2000, e_5000, e_5240, e_6146, e_20000, e_65536, nIo, nI_clamp, nIxt, nI_1, nI_add, nI_mul, nI_eqF, nI_ltT, nI_ltF, nI_leT, nI_leF, nN_lt0, nN_le, nN_lt, nN_eq, nN_eq', eq_self, nBdS]
    rfl
  | succ d ih =>
    intro k m z hk hm hz
    have h21 := hr k (by omega)
    rw [Nat.testBit_eq_decide_div_mod_eq] at h21
    have hd : g / 2 ^ k / 2 = g / 2 ^ (k + 1) := by rw [Nat.div_div_eq_div_mul, Nat.pow_succ]
    have hp : pcf (d + 1) (g / 2 ^ k) = g / 2 ^ k % 2 + pcf d (g / 2 ^ (k + 1)) := by rw [← hd]; rfl
    have hl := pcf_le d (g / 2 ^ (k + 1))
    rw [nLpP _ _ (by omega), hp]
    by_cases h : g / 2 ^ k % 2 = 1
    · rw [decide_eq_true h, if_pos rfl] at h21
      have g1 := ih (k + 1) (m - 1) z (by omega) (by omega) (by omega)
      simp (disch := first | omega | exact nM1_n | exact nM2_n | assumption) only [b_X11_idle_24, l_X11_idle_49, b_X11_idle_49, h3, h21, ↓nLetR, ↓reduceIte, ↓e_m1, ↓e_m2, e_0, e_1, e_2, e_3, e_4, e_5, e_6, e_7, e_8, e_9, e_10, e_11, e_12, e_13, e_14, e_15, e_16, e_17, e_18, e_19, e_20, e_21, e_22, e_23, e_24, e_25, e_26, e_27, e_28, e_29, e_30, e_31, e_32, e_33, e_48, e_57, e_59, e_60, e_63, e_64, e_96, e_97, e_99, e_120, e_122, e_192, e_200, e_255, e_256, e_300, e_500, e_600, e_2000, e_5000, e_5240, e_6146, e_20000, e_65536, nIo, nI_clamp, nIxt, nI_1, nI_add, nI_mul, nI_eqF, nI_ltT, nI_ltF, nI_leT, nI_leF, nN_lt0, nN_le, nN_lt, nN_eq, nN_eq', eq_self, nBdS]
      refine Eq.trans g1 ?_
      rw [h, show z + (d - pcf d (g / 2 ^ (k + 1))) = z + (d + 1 - (1 + pcf d (g / 2 ^ (k + 1)))) by omega]
    · rw [decide_eq_false h, if_neg (by decide)] at h21
      have g1 := ih (k + 1) (m - 1) (z + 1) (by omega) (by omega) (by omega)
      simp (disch := first | omega | exact nM1_n | exact nM2_n | assumption) only [b_X11_idle_24, l_X11_idle_49, b_X11_idle_49, h3, h21, ↓nLetR, ↓reduceIte, ↓e_m1, ↓e_m2, e_0, e_1, e_2, e_3, e_4, e_5, e_6, e_7, e_8, e_9, e_10, e_11, e_12, e_13, e_14, e_15, e_16, e_17, e_18, e_19, e_20, e_21, e_22, e_23, e_24, e_25, e_26, e_27, e_28, e_29, e_30, e_31, e_32, e_33, e_48, e_57, e_59, e_60, e_63, e_64, e_96, e_97, e_99, e_120, e_122, e_192, e_200, e_255, e_256, e_300, e_500, e_600, e_2000, e_5000, e_5240, e_6146, e_20000, e_65536, nIo, nI_clamp, nIxt, nI_1, nI_add, nI_mul, nI_eqF, nI_ltT, nI_ltF, nI_leT, nI_leF, nN_lt0, nN_le, nN_lt, nN_eq, nN_eq', eq_self, nBdS]
      refine Eq.trans g1 ?_
      rw [show g / 2 ^ k % 2 = 0 by omega, show z + 1 + (d - pcf d (g / 2 ^ (k + 1))) = z + (d + 1 - (0 + pcf d (g / 2 ^ (k + 1)))) by omega]
theorem some_go (N P : Nat) (hP : P ≤ 4) (σ : nS) (h2 : σ.1 1 2 = nI P) (hs : ∀ q, q < P → ∃ x, x < 256 ∧ σ.1 3 q = nI x) (o : Nat) (ho : o < 8) : ∀ d p m h, p + d = P → d < m → h < 256 → (h.testBit o = true ↔ ∃ q, q < p ∧ (σ.1 3 q >>> (nI o &&& nI 31)) &&& nI 1 = nI 1) →
    ∃ r, r < 2 ∧ nLp (fun _ _ _ _ => none) (fun again => b_X7_someoneCan_4 N again) m σ (nI o) (nI h) (nI p) = some (nI r, σ) ∧ (r = 1 ↔ ∃ q, q < P ∧ (σ.1 3 q >>> (nI o &&& nI 31)) &&& nI 1 = nI 1) := by
  intro d
  induction d with
  | zero =>
    intro p m h hp hm hh hq
    have hpP : p = P := by omega
    subst hpP
    have hsh := shr_is h o (by omega)
    rw [nLpP _ _ hm]
    cases ht : h.testBit o with
    | true =>
      rw [ht, if_pos rfl] at hsh
      refine ⟨1, by decide, ?_, ?_⟩
      · simp (disch := first | omega | exact nM1_n | exact nM2_n | assumption) only [b_X7_someoneCan_4, h2, hsh, ↓nLetR, ↓reduceIte, ↓e_m1, ↓e_m2, e_0, e_1, e_2, e_3, e_4, e_5, e_6, e_7, e_8, e_9, e_10, e_11, e_12, e_13, e_14, e_15, e_16, e_17, e_18, e_19, e_20, e_21, e_22, e_23, e_24, e_25, e_26, e_27, e_28, e_29, e_30, e_31, e_32, e_33, e_48, e_57, e_59, e_60, e_63, e_64, e_96, e_97, e_99, e_120, e_122, e_192, e_200, e_255, e_256, e_300, e_500, e_600, e_2000, e_5000, e_5240, e_6146, e_20000, e_65536, nIo, nI_clamp, nIxt, nI_1, nI_add, nI_mul, nI_eqF, nI_ltT, nI_ltF, nI_leT, nI_leF, nN_lt0, nN_le, nN_lt, nN_eq, nN_eq', eq_self, nBdS]
      · rw [ht] at hq
        exact ⟨fun _ => hq.mp rfl, fun _ => rfl⟩
    | false =>
      rw [ht, if_neg (by decide)] at hsh
      refine ⟨0, by decide, ?_, ?_⟩
      · simp (disch := first | omega | exact nM1_n | exact nM2_n | assumption) only [b_X7_someoneCan_4, h2, hsh, ↓nLetR, ↓reduceIte, ↓e_m1, ↓e_m2, e_0, e_1, e_2, e_3, e_4, e_5, e_6, e_7, e_8, e_9, e_10, e_11, e_12, e_13, e_14, e_15, e_16, e_17, e_18, e_19, e_20, e_21, e_22, e_23, e_24, e_25, e_26, e_27, e_28, e_29, e_30, e_31, e_32, e_33, e_48, e_57, e_59, e_60, e_63, e_64, e_96, e_97, e_99, e_120, e_122, e_192, e_200, e_255, e_256, e_300, e_500, e_600, e_2000, e_5000, e_5240, e_6146, e_20000, e_65536, nIo, nI_clamp, nIxt, nI_1, nI_add, nI_mul, nI_eqF, nI_ltT, nI_ltF, nI_leT, nI_leF, nN_lt0, nN_le, nN_lt, nN_eq, nN_eq', eq_self, nBdS]
      · rw [ht] at hq
        exact ⟨fun h => absurd h (by decide), fun h => absurd (hq.mpr h) (by decide)⟩
  | succ d ih =>
    intro p m h hp hm hh hq
    obtain ⟨x, hx, ex⟩ := hs p (by omega)
    have hl : h ||| x < 256 := Nat.or_lt_two_pow (n := 8) hh hx
    obtain ⟨r, hr, e, hq2⟩ := ih (p + 1) (m - 1) (h ||| x) (by omega) (by omega) hl (by
      rw [Nat.testBit_or, Bool.or_eq_true]
      have hsh := shr_is x o (by omega)
      have hx1 : x.testBit o = true ↔ (σ.1 3 p >>> (nI o &&& nI 31)) &&& nI 1 = nI 1 := by
        rw [ex, hsh]
        cases x.testBit o with
        | true => exact ⟨fun _ => rfl, fun _ => rfl⟩
        | false => exact ⟨fun h => (by cases h), fun h => absurd h (by decide)⟩
      rw [hq, hx1]
      constructor
      · rintro (⟨q, h1, h2⟩ | h1)
        · exact ⟨q, by omega, h2⟩
        · exact ⟨p, by omega, h1⟩
      · rintro ⟨q, h1, h2⟩
        by_cases e : q = p
        · subst e; exact Or.inr h2
        · exact Or.inl ⟨q, by omega, h2⟩)
    refine ⟨r, hr, ?_, hq2⟩
    rw [nLpP _ _ (by omega)]
    simp (disch := first | omega | exact nM1_n | exact nM2_n | assumption) only [b_X7_someoneCan_4, b_X7_skillsOf_0, l_X7_skillsOf_0, f_X7_skillsOf, h2, ex, nI_or, ↓nLetR, ↓reduceIte, ↓e_m1, ↓e_m2, e_0, e_1, e_2, e_3, e_4, e_5, e_6, e_7, e_8, e_9, e_10, e_11, e_12, e_13, e_14, e_15, e_16, e_17, e_18, e_19, e_20, e_21, e_22, e_23, e_24, e_25, e_26, e_27, e_28, e_29, e_30, e_31, e_32, e_33, e_48, e_57, e_59, e_60, e_63, e_64, e_96, e_97, e_99, e_120, e_122, e_192, e_200, e_255, e_256, e_300, e_500, e_600, e_2000, e_5000, e_5240, e_6146, e_20000, e_65536, nIo, nI_clamp, nIxt, nI_1, nI_add, nI_mul, nI_eqF, nI_ltT, nI_ltF, nI_leT, nI_leF, nN_lt0, nN_le, nN_lt, nN_eq, nN_eq', eq_self, nBdS]
    exact e
theorem some_is {N P o : Nat} {σ : nS} (hN : 10 ≤ N) (hP : P ≤ 4) (h2 : σ.1 1 2 = nI P) (hs : ∀ q, q < P → ∃ x, x < 256 ∧ σ.1 3 q = nI x) (ho : o < 8) : ∃ r, r < 2 ∧ f_X7_someoneCan N (nI o) σ = some (nI r, σ) ∧ (r = 1 ↔ ∃ q, q < P ∧ (σ.1 3 q >>> (nI o &&& nI 31)) &&& nI 1 = nI 1) :=
  some_go N P hP σ h2 hs o ho P 0 N 0 (by omega) (by omega) (by decide) ⟨fun h => absurd h (by rw [Nat.zero_testBit]; decide), fun ⟨q, h, _⟩ => absurd h (Nat.not_lt_zero q)⟩
theorem pOp16 (N : Nat) (hN : 10000 ≤ N) : nOp16 N nInv := by
  intro n σ τ x1 hn hI
  obtain ⟨F, S, P, B, sz, T, h1, h2, h3, h4, h5, h6, h7, h8, h9, h10⟩ := hI
  obtain ⟨⟨b1, b2, b3, b4⟩, ⟨w0, w1, w2, w3⟩, ⟨m0, m1, m2, m3⟩, hg, hs, hk⟩ := id h1
  have m3' : (wr τ 0 0 (nI 0)).1 0 7 = nI B := by simp (disch := decide) only [wrs, wrk, wrc, wr2, wl1, wls, wlk, wlc]; exact m3
  rcases book_cs x1 B with hb | ⟨b, hb, rfl⟩
  · simp (disch := first | omega | exact nM1_n | exact nM2_n | assumption) only [b_X8_idle_0, l_X8_idle_0, f_X8_idle, b_X11_idle_49, b_X11_idle_24, b_X11_idle_0, l_X11_idle_49, l_X11_idle_24, l_X11_idle_0, f_X11_idle, hasB_n b4 w3 hb, ↓nLetR, ↓reduceIte, ↓e_m1, ↓e_m2, e_0, e_1, e_2, e_3, e_4, e_5, e_6, e_7, e_8, e_9, e_10, e_11, e_12, e_13, e_14, e_15, e_16, e_17, e_18, e_19, e_20, e_21, e_22, e_23, e_24, e_25, e_26, e_27, e_28, e_29, e_30, e_31, e_32, e_33, e_48, e_57, e_59, e_60, e_63, e_64, e_96, e_97, e_99, e_120, e_122, e_192, e_200, e_255, e_256, e_300, e_500, e_600, e_2000, e_5000, e_5240, e_6146, e_20000, e_65536, nIo, nI_clamp, nIxt, nI_1, nI_add, nI_mul, nI_eqF, nI_ltT, nI_ltF, nI_leT, nI_leF, nN_lt0, nN_le, nN_lt, nN_eq, nN_eq', eq_self, nBdS, isB_n b4 m3' hb, wrs, wrk, wrc, wr2, wl1, wls, wlk, wlc]
    refine pK rfl ⟨F, S, P, B, sz, T, ?_⟩
    simp (disch := decide) only [iI, wrs, wrk, wrc, wr2, wl1, wls, wlk, wlc]
    exact ⟨h1, h2, h3, h4, h5, h6, h7, h8, h9, h10.up⟩
  have hB' : hBk F S b (sz b) σ (wr τ 0 0 (nI 0)) := by
    obtain ⟨s1, s2, s3, s4⟩ := h2 b hb
    simp (disch := decide) only [hBk, wrs, wrk, wrc, wr2, wl1, wls, wlk, wlc]
    exact ⟨by omega, s1, s2, s3, s4⟩
  obtain ⟨hb5, ⟨hn1, hn2⟩, z1, z2, -⟩ := id hB'
  obtain ⟨g, τ', r1, r2, r3, r4⟩ := reach_is (N := N) (by omega) hB'
  have hsz := size_is (N := N) (σ := σ) hb5
  rw [z1] at hsz
  have hp : (2 : Nat) ^ sz b ≤ 2 ^ 24 := Nat.pow_le_pow_right (by decide) hn2
  have hgm : g % 2 ^ sz b < 2 ^ sz b := Nat.mod_lt _ (Nat.pow_pos (by decide))
  have hbc := bitC (N := N) (x := g % 2 ^ sz b) (by omega) σ
  have hpc : pcf 24 (g % 2 ^ sz b) = pcf (sz b) g := by
    have := pcf_up (sz b) (24 - sz b) (g % 2 ^ sz b) hgm
    rw [show sz b + (24 - sz b) = 24 by omega] at this
    rw [this, pcf_mod]
  rw [hpc] at hbc
  have hle := pcf_le (sz b) g
  have hsub : nI (sz b) - nI (pcf (sz b) g) = nI (sz b - pcf (sz b) g) := nI_subn _ _ hle
  have hlp := idle_go N b (sz b) g τ' hb5 hn2 (by rw [r4 3 (by decide)]; exact z2) r3 (sz b) 0 N 0 (by omega) (by omega) (by omega)
  rw [Nat.zero_add, Nat.pow_zero, Nat.div_one] at hlp
  have hlp' : l_X11_idle_24 N τ' (nI b) (nI 0) (nI 0) = some (nI (sz b - pcf (sz b) g), τ') := hlp
  simp (disch := first | omega | exact nM1_n | exact nM2_n | assumption) only [f_X8_idle, l_X8_idle_0, b_X8_idle_0, f_X11_idle, l_X11_idle_0, b_X11_idle_0, hasB_y b4 w3 hb, ↓nLetR, ↓reduceIte, ↓e_m1, ↓e_m2, e_0, e_1, e_2, e_3, e_4, e_5, e_6, e_7, e_8, e_9, e_10, e_11, e_12, e_13, e_14, e_15, e_16, e_17, e_18, e_19, e_20, e_21, e_22, e_23, e_24, e_25, e_26, e_27, e_28, e_29, e_30, e_31, e_32, e_33, e_48, e_57, e_59, e_60, e_63, e_64, e_96, e_97, e_99, e_120, e_122, e_192, e_200, e_255, e_256, e_300, e_500, e_600, e_2000, e_5000, e_5240, e_6146, e_20000, e_65536, nIo, nI_clamp, nIxt, nI_1, nI_add, nI_mul, nI_eqF, nI_ltT, nI_ltF, nI_leT, nI_leF, nN_lt0, nN_le, nN_lt, nN_eq, nN_eq', eq_self, nBdS, isB_y b4 m3' hb, hsz, r1, r2, hbc, hsub, hlp', wrs, wrk, wrc, wr2, wl1, wls, wlk, wlc]
  refine pK rfl ⟨F, S, P, B, sz, T, ?_⟩
  have T1 : ∀ d, d ≠ 0 → d ≠ 21 → τ'.1 d = τ.1 d := fun d e1 e2 => by rw [r4 d e2]; simp (disch := omega) only [wrs, wrk, wrc, wr2, wl1, wls, wlk, wlc]
  have T0 : ∀ f, f ≠ 0 → τ'.1 0 f = τ.1 0 f := fun f e1 => by rw [r4 0 (by decide)]; simp (disch := omega) only [wrs, wrk, wrc, wr2, wl1, wls, wlk, wlc]
  simp (disch := decide) only [iI, T1, T0]
  exact ⟨h1, h2, h3, h4, h5, h6, h7, h8, h9, h10.up⟩
theorem pOp17 (N : Nat) (hN : 10000 ≤ N) : nOp17 N nInv := by
  intro n σ τ x1 x2 hn hI
  obtain ⟨F, S, P, B, sz, T, h1, h2, h3, h4, h5, h6, h7, h8, h9, h10⟩ := hI
  obtain ⟨⟨b1, b2, b3, b4⟩, ⟨w0, w1, w2, w3⟩, ⟨m0, m1, m2, m3⟩, hg, hs, hk⟩ := id h1
  have m3' : (wr τ 0 0 (nI 0)).1 0 7 = nI B := by simp (disch := decide) only [wrs, wrk, wrc, wr2, wl1, wls, wlk, wlc]; exact m3
  rcases book_cs x1 B with hb | ⟨b, hb, rfl⟩
  · simp (disch := first | omega | exact nM1_n | exact nM2_n | assumption) only [b_X8_look_0, l_X8_look_0, f_X8_look, b_X8_hasStep_0, l_X8_hasStep_0, f_X8_hasStep, b_X11_look_70, b_X11_look_65, b_X11_look_0, l_X11_look_70, l_X11_look_65, l_X11_look_0, f_X11_look, hasB_n b4 w3 hb, ↓nLetR, ↓reduceIte, ↓e_m1, ↓e_m2, e_0, e_1, e_2, e_3, e_4, e_5, e_6, e_7, e_8, e_9, e_10, e_11, e_12, e_13, e_14, e_15, e_16, e_17, e_18, e_19, e_20, e_21, e_22, e_23, e_24, e_25, e_26, e_27, e_28, e_29, e_30, e_31, e_32, e_33, e_48, e_57, e_59, e_60, e_63, e_64, e_96, e_97, e_99, e_120, e_122, e_192, e_200, e_255, e_256, e_300, e_500, e_600, e_2000, e_5000, e_5240, e_6146, e_20000, e_65536, nIo, nI_clamp, nIxt, nI_1, nI_add, nI_mul, nI_eqF, nI_ltT, nI_ltF, nI_leT, nI_leF, nN_lt0, nN_le, nN_lt, nN_eq, nN_eq', eq_self, nBdS, isB_n b4 m3' hb, wrs, wrk, wrc, wr2, wl1, wls, wlk, wlc]
    refine pK rfl ⟨F, S, P, B, sz, T, ?_⟩
    simp (disch := decide) only [iI, wrs, wrk, wrc, wr2, wl1, wls, wlk, wlc]
    exact ⟨h1, h2, h3, h4, h5, h6, h7, h8, h9, h10.up⟩
  have hB' : hBk F S b (sz b) σ (wr τ 0 0 (nI 0)) := by
    obtain ⟨s1, s2, s3, s4⟩ := h2 b hb
    simp (disch := decide) only [hBk, wrs, wrk, wrc, wr2, wl1, wls, wlk, wlc]
    exact ⟨by omega, s1, s2, s3, s4⟩
  obtain ⟨hb5, ⟨hn1, hn2⟩, z1, z2, hst⟩ := id hB'
  have hsz := size_is (N := N) (σ := σ) hb5
  rw [z1] at hsz
  have z2' : τ.1 3 b = nI (sz b) := (h2 b hb).2.2.1
  rcases nI_cs x2 with hx | ⟨k, hk31, rfl⟩
  · simp (disch := first | omega | exact nM1_n | exact nM2_n | assumption) only [b_X8_look_0, l_X8_look_0, f_X8_look, b_X8_hasStep_0, l_X8_hasStep_0, f_X8_hasStep, b_X11_look_70, b_X11_look_65, b_X11_look_0, l_X11_look_70, l_X11_look_65, l_X11_look_0, f_X11_look, hasB_y b4 w3 hb, ↓nLetR, ↓reduceIte, ↓e_m1, ↓e_m2, e_0, e_1, e_2, e_3, e_4, e_5, e_6, e_7, e_8, e_9, e_10, e_11, e_12, e_13, e_14, e_15, e_16, e_17, e_18, e_19, e_20, e_21, e_22, e_23, e_24, e_25, e_26, e_27, e_28, e_29, e_30, e_31, e_32, e_33, e_48, e_57, e_59, e_60, e_63, e_64, e_96, e_97, e_99, e_120, e_122, e_192, e_200, e_255, e_256, e_300, e_500, e_600, e_2000, e_5000, e_5240, e_6146, e_20000, e_65536, nIo, nI_clamp, nIxt, nI_1, nI_add, nI_mul, nI_eqF, nI_ltT, nI_ltF, nI_leT, nI_leF, nN_lt0, nN_le, nN_lt, nN_eq, nN_eq', eq_self, nBdS, isB_y b4 m3' hb, wrs, wrk, wrc, wr2, wl1, wls, wlk, wlc]
    refine pK rfl ⟨F, S, P, B, sz, T, ?_⟩
    simp (disch := decide) only [iI, wrs, wrk, wrc, wr2, wl1, wls, wlk, wlc]
    exact ⟨h1, h2, h3, h4, h5, h6, h7, h8, h9, h10.up⟩
  by_cases hkn : k < sz b
  · obtain ⟨g, τ', r1, r2, r3, r4⟩ := reach_is (N := N) (by omega) hB'
    have T1 : ∀ d, d ≠ 0 → d ≠ 21 → τ'.1 d = τ.1 d := fun d e1 e2 => by rw [r4 d e2]; simp (disch := omega) only [wrs, wrk, wrc, wr2, wl1, wls, wlk, wlc]
    have T0 : ∀ f, f ≠ 0 → τ'.1 0 f = τ.1 0 f := fun f e1 => by rw [r4 0 (by decide)]; simp (disch := omega) only [wrs, wrk, wrc, wr2, wl1, wls, wlk, wlc]
    have hsh := shr_is (g % 2 ^ sz b) k (by omega)
    rw [Nat.testBit_mod_two_pow, decide_eq_true hkn, Bool.true_and] at hsh
    have h21 := r3 k hkn
    obtain ⟨v, hv, ev⟩ : ∃ v, v < 2 ∧ (if g.testBit k = true then 1 else 0) = v := by
      cases g.testBit k with
      | true => exact ⟨1, by decide, rfl⟩
      | false => exact ⟨0, by decide, rfl⟩
    rw [ev] at hsh h21
    obtain ⟨⟨c0, c1, c2, c3, c4⟩, hsk⟩ := (h2 b hb).2.2.2 k hkn
    have able : ∃ u, u < 2 ∧ f_X7_isDoable N (nI b) (nI k) σ = some (nI u, σ) ∧ ((1 < (τ.1 4 (24 * b + k)).toInt ∧ u = 1) ∨ ∃ kd, kd < 2 ∧ τ.1 4 (24 * b + k) = nI kd ∧ f_X11_isThere N (τ.1 5 (24 * b + k)) (nI 0) τ' = some (nI u, τ')) := by
      have other : ∀ kd, 2 ≤ kd → kd < 6 → τ.1 4 (24 * b + k) = nI kd → ∃ u, u < 2 ∧ f_X7_isDoable N (nI b) (nI k) σ = some (nI u, σ) ∧ ((1 < (τ.1 4 (24 * b + k)).toInt ∧ u = 1) ∨ ∃ kd, kd < 2 ∧ τ.1 4 (24 * b + k) = nI kd ∧ f_X11_isThere N (τ.1 5 (24 * b + k)) (nI 0) τ' = some (nI u, τ')) := by
        intro kd k1 k2 ek
        refine ⟨1, by decide, ?_, Or.inl ⟨by rw [ek, nI_toInt (by omega)]; omega, rfl⟩⟩
        simp (disch := first | omega | exact nM1_n | exact nM2_n | assumption) only [b_X7_isDoable_0, l_X7_isDoable_0, f_X7_isDoable, isDo_n hb5 (show k < 24 by omega) (c0.trans ek) k1 k2, ↓nLetR, ↓reduceIte, ↓e_m1, ↓e_m2, e_0, e_1, e_2, e_3, e_4, e_5, e_6, e_7, e_8, e_9, e_10, e_11, e_12, e_13, e_14, e_15, e_16, e_17, e_18, e_19, e_20, e_21, e_22, e_23, e_24, e_25, e_26, e_27, e_28, e_29, e_30, e_31, e_32, e_33, e_48, e_57, e_59, e_60, e_63, e_64, e_96, e_97, e_99, e_120, e_122, e_192, e_200, e_255, e_256, e_300, e_500, e_600, e_2000, e_5000, e_5240, e_6146, e_20000, e_65536, nIo, nI_clamp, nIxt, nI_1, nI_add, nI_mul, nI_eqF, nI_ltT, nI_ltF, nI_leT, nI_leF, nN_lt0, nN_le, nN_lt, nN_eq, nN_eq', eq_self, nBdS]
      rcases hsk with ⟨hkd, ⟨o, ho, eo⟩, _⟩ | ⟨hkd, _⟩ | ⟨hkd, _⟩ | ⟨hkd, _⟩ | hkd
      · obtain ⟨kd, hkd2, ekd⟩ : ∃ kd, kd < 2 ∧ τ.1 4 (24 * b + k) = nI kd := by
          rcases hkd with e | e
          · exact ⟨0, by decide, e⟩
          · exact ⟨1, by decide, e⟩
        obtain ⟨r, hr, er, hq⟩ := some_is (N := N) (P := P) (o := o) (σ := σ) (by omega) b3 w2 (fun q hq => (hk q hq).2) ho
        have e1 := cell_is (N := N) (σ := σ) (b := b) (k := k) (j := 1) hb5 (by omega) (by decide)
        rw [c1, eo] at e1
        obtain ⟨y, ey, hy⟩ := there_is (N := N) (P := P) (σ := τ') (by omega) b3 (by rw [T0 6 (by decide)]; exact m2) (nI o) (nI 0)
        have hyr : y = nI r := by
          rcases hy with ⟨ey1, q, hq1, hq2⟩ | ⟨ey0, hq2⟩
          · have : r = 1 := hq.mpr ⟨q, hq1, by rw [← (hk q hq1).1, ← T1 2 (by decide) (by decide)]; exact hq2.1⟩
            rw [this, ey1]
          · have : ¬ r = 1 := fun h => by
              obtain ⟨q, hq1, hq3⟩ := hq.mp h
              refine hq2 q hq1 ⟨by rw [T1 2 (by decide) (by decide), (hk q hq1).1]; exact hq3, ?_⟩
              rw [shr_is 0 q (by omega), Nat.zero_testBit]
              rfl
            rw [ey0, show r = 0 by omega]
        refine ⟨r, hr, ?_, Or.inr ⟨kd, hkd2, ekd, by rw [eo, ey, hyr]⟩⟩
        have hr2 : r = 0 ∨ r = 1 := by omega
        rcases hr2 with rfl | rfl
        · simp (disch := first | omega | exact nM1_n | exact nM2_n | assumption) only [b_X7_isDoable_0, l_X7_isDoable_0, f_X7_isDoable, isDo_y hb5 (show k < 24 by omega) (c0.trans ekd) hkd2, e1, er, ↓nLetR, ↓reduceIte, ↓e_m1, ↓e_m2, e_0, e_1, e_2, e_3, e_4, e_5, e_6, e_7, e_8, e_9, e_10, e_11, e_12, e_13, e_14, e_15, e_16, e_17, e_18, e_19, e_20, e_21, e_22, e_23, e_24, e_25, e_26, e_27, e_28, e_29, e_30, e_31, e_32, e_33, e_48, e_57, e_59, e_60, e_63, e_64, e_96, e_97, e_99, e_120, e_122, e_192, e_200, e_255, e_256, e_300, e_500, e_600, e_2000, e_5000, e_5240, e_6146, e_20000, e_65536, nIo, nI_clamp, nIxt, nI_1, nI_add, nI_mul, nI_eqF, nI_ltT, nI_ltF, nI_leT, nI_leF, nN_lt0, nN_le, nN_lt, nN_eq, nN_eq', eq_self, nBdS]
        · simp (disch := first | omega | exact nM1_n | exact nM2_n | assumption) only [b_X7_isDoable_0, l_X7_isDoable_0, f_X7_isDoable, isDo_y hb5 (show k < 24 by omega) (c0.trans ekd) hkd2, e1, er, ↓nLetR, ↓reduceIte, ↓e_m1, ↓e_m2, e_0, e_1, e_2, e_3, e_4, e_5, e_6, e_7, e_8, e_9, e_10, e_11, e_12, e_13, e_14, e_15, e_16, e_17, e_18, e_19, e_20, e_21, e_22, e_23, e_24, e_25, e_26, e_27, e_28, e_29, e_30, e_31, e_32, e_33, e_48, e_57, e_59, e_60, e_63, e_64, e_96, e_97, e_99, e_120, e_122, e_192, e_200, e_255, e_256, e_300, e_500, e_600, e_2000, e_5000, e_5240, e_6146, e_20000, e_65536, nIo, nI_clamp, nIxt, nI_1, nI_add, nI_mul, nI_eqF, nI_ltT, nI_ltF, nI_leT, nI_leF, nN_lt0, nN_le, nN_lt, nN_eq, nN_eq', eq_self, nBdS]
      · exact other 2 (by decide) (by decide) hkd
      · exact other 3 (by decide) (by decide) hkd
      · exact other 4 (by decide) (by decide) hkd
      · exact other 5 (by decide) (by decide) hkd
    obtain ⟨u, hu, eu, hu2⟩ := able
    have hX8 : f_X8_look N (nI b) (nI k) σ = some (nI (v + 2 * u), σ) := by
      have hu3 : u = 0 ∨ u = 1 := by omega
      rcases hu3 with rfl | rfl
      · simp (disch := first | omega | exact nM1_n | exact nM2_n | assumption) only [f_X8_look, l_X8_look_0, b_X8_look_0, b_X8_hasStep_0, l_X8_hasStep_0, f_X8_hasStep, hasB_y b4 w3 hb, hsz, r1, hsh, eu, ↓nLetR, ↓reduceIte, ↓e_m1, ↓e_m2, e_0, e_1, e_2, e_3, e_4, e_5, e_6, e_7, e_8, e_9, e_10, e_11, e_12, e_13, e_14, e_15, e_16, e_17, e_18, e_19, e_20, e_21, e_22, e_23, e_24, e_25, e_26, e_27, e_28, e_29, e_30, e_31, e_32, e_33, e_48, e_57, e_59, e_60, e_63, e_64, e_96, e_97, e_99, e_120, e_122, e_192, e_200, e_255, e_256, e_300, e_500, e_600, e_2000, e_5000, e_5240, e_6146, e_20000, e_65536, nIo, nI_clamp, nIxt, nI_1, nI_add, nI_mul, nI_eqF, nI_ltT, nI_ltF, nI_leT, nI_leF, nN_lt0, nN_le, nN_lt, nN_eq, nN_eq', eq_self, nBdS]
      · simp (disch := first | omega | exact nM1_n | exact nM2_n | assumption) only [f_X8_look, l_X8_look_0, b_X8_look_0, b_X8_hasStep_0, l_X8_hasStep_0, f_X8_hasStep, hasB_y b4 w3 hb, hsz, r1, hsh, eu, ↓nLetR, ↓reduceIte, ↓e_m1, ↓e_m2, e_0, e_1, e_2, e_3, e_4, e_5, e_6, e_7, e_8, e_9, e_10, e_11, e_12, e_13, e_14, e_15, e_16, e_17, e_18, e_19, e_20, e_21, e_22, e_23, e_24, e_25, e_26, e_27, e_28, e_29, e_30, e_31, e_32, e_33, e_48, e_57, e_59, e_60, e_63, e_64, e_96, e_97, e_99, e_120, e_122, e_192, e_200, e_255, e_256, e_300, e_500, e_600, e_2000, e_5000, e_5240, e_6146, e_20000, e_65536, nIo, nI_clamp, nIxt, nI_1, nI_add, nI_mul, nI_eqF, nI_ltT, nI_ltF, nI_leT, nI_leF, nN_lt0, nN_le, nN_lt, nN_eq, nN_eq', eq_self, nBdS]
    have hX11 : f_X11_look N (nI b) (nI k) τ = some (nI (v + 2 * u), τ') := by
      have fin : l_X11_look_70 N τ' (nI k) (nI u) = some (nI (v + 2 * u), τ') := by
        have hu3 : u = 0 ∨ u = 1 := by omega
        have hv3 : v = 0 ∨ v = 1 := by omega
        rcases hu3 with rfl | rfl
        · rcases hv3 with rfl | rfl
          · simp (disch := first | omega | exact nM1_n | exact nM2_n | assumption) only [l_X11_look_70, b_X11_look_70, h21, ↓nLetR, ↓reduceIte, ↓e_m1, ↓e_m2, e_0, e_1, e_2, e_3, e_4, e_5, e_6, e_7, e_8, e_9, e_10, e_11, e_12, e_13, e_14, e_15, e_16, e_17, e_18, e_19, e_20, e_21, e_22, e_23, e_24, e_25, e_26, e_27, e_28, e_29, e_30, e_31, e_32, e_33, e_48, e_57, e_59, e_60, e_63, e_64, e_96, e_97, e_99, e_120, e_122, e_192, e_200, e_255, e_256, e_300, e_500, e_600, e_2000, e_5000, e_5240, e_6146, e_20000, e_65536, nIo, nI_clamp, nIxt, nI_1, nI_add, nI_mul, nI_eqF, nI_ltT, nI_ltF, nI_leT, nI_leF, nN_lt0, nN_le, nN_lt, nN_eq, nN_eq', eq_self, nBdS]
          · simp (disch := first | omega | exact nM1_n | exact nM2_n | assumption) only [l_X11_look_70, b_X11_look_70, h21, ↓nLetR, ↓reduceIte, ↓e_m1, ↓e_m2, e_0, e_1, e_2, e_3, e_4, e_5, e_6, e_7, e_8, e_9, e_10, e_11, e_12, e_13, e_14, e_15, e_16, e_17, e_18, e_19, e_20, e_21, e_22, e_23, e_24, e_25, e_26, e_27, e_28, e_29, e_30, e_31, e_32, e_33, e_48, e_57, e_59, e_60, e_63, e_64, e_96, e_97, e_99, e_120, e_122, e_192, e_200, e_255, e_256, e_300, e_500, e_600, e_2000, e_5000, e_5240, e_6146, e_20000, e_65536, nIo, nI_clamp, nIxt, nI_1, nI_add, nI_mul, nI_eqF, nI_ltT, nI_ltF, nI_leT, nI_leF, nN_lt0, nN_le, nN_lt, nN_eq, nN_eq', eq_self, nBdS]
        · rcases hv3 with rfl | rfl
          · simp (disch := first | omega | exact nM1_n | exact nM2_n | assumption) only [l_X11_look_70, b_X11_look_70, h21, ↓nLetR, ↓reduceIte, ↓e_m1, ↓e_m2, e_0, e_1, e_2, e_3, e_4, e_5, e_6, e_7, e_8, e_9, e_10, e_11, e_12, e_13, e_14, e_15, e_16, e_17, e_18, e_19, e_20, e_21, e_22, e_23, e_24, e_25, e_26, e_27, e_28, e_29, e_30, e_31, e_32, e_33, e_48, e_57, e_59, e_60, e_63, e_64, e_96, e_97, e_99, e_120, e_122, e_192, e_200, e_255, e_256, e_300, e_500, e_600, e_2000, e_5000, e_5240, e_6146, e_20000, e_65536, nIo, nI_clamp, nIxt, nI_1, nI_add, nI_mul, nI_eqF, nI_ltT, nI_ltF, nI_leT, nI_leF, nN_lt0, nN_le, nN_lt, nN_eq, nN_eq', eq_self, nBdS]
          · simp (disch := first | omega | exact nM1_n | exact nM2_n | assumption) only [l_X11_look_70, b_X11_look_70, h21, ↓nLetR, ↓reduceIte, ↓e_m1, ↓e_m2, e_0, e_1, e_2, e_3, e_4, e_5, e_6, e_7, e_8, e_9, e_10, e_11, e_12, e_13, e_14, e_15, e_16, e_17, e_18, e_19, e_20, e_21, e_22, e_23, e_24, e_25, e_26, e_27, e_28, e_29, e_30, e_31, e_32, e_33, e_48, e_57, e_59, e_60, e_63, e_64, e_96, e_97, e_99, e_120, e_122, e_192, e_200, e_255, e_256, e_300, e_500, e_600, e_2000, e_5000, e_5240, e_6146, e_20000, e_65536, nIo, nI_clamp, nIxt, nI_1, nI_add, nI_mul, nI_eqF, nI_ltT, nI_ltF, nI_leT, nI_leF, nN_lt0, nN_le, nN_lt, nN_eq, nN_eq', eq_self, nBdS]
      rcases hu2 with ⟨hu4, hu5⟩ | ⟨kd, hkd, ekd, eth⟩
      · subst hu5
        have hlt : (nI 1 < τ.1 4 (24 * b + k)) = True := eq_true (Int32.lt_iff_toInt_lt.mpr (by rw [nI_toInt (by decide)]; exact hu4))
        simp (disch := first | omega | exact nM1_n | exact nM2_n | assumption) only [f_X11_look, l_X11_look_0, b_X11_look_0, l_X11_look_65, b_X11_look_65, ↓nLetR, ↓reduceIte, ↓e_m1, ↓e_m2, e_0, e_1, e_2, e_3, e_4, e_5, e_6, e_7, e_8, e_9, e_10, e_11, e_12, e_13, e_14, e_15, e_16, e_17, e_18, e_19, e_20, e_21, e_22, e_23, e_24, e_25, e_26, e_27, e_28, e_29, e_30, e_31, e_32, e_33, e_48, e_57, e_59, e_60, e_63, e_64, e_96, e_97, e_99, e_120, e_122, e_192, e_200, e_255, e_256, e_300, e_500, e_600, e_2000, e_5000, e_5240, e_6146, e_20000, e_65536, nIo, nI_clamp, nIxt, nI_1, nI_add, nI_mul, nI_eqF, nI_ltT, nI_ltF, nI_leT, nI_leF, nN_lt0, nN_le, nN_lt, nN_eq, nN_eq', eq_self, nBdS, isB_y b4 m3' hb, z2', r2, T1, hlt, wrs, wrk, wrc, wr2, wl1, wls, wlk, wlc]
        exact fin
      · have hu3 : u = 0 ∨ u = 1 := by omega
        rcases hu3 with rfl | rfl
        · simp (disch := first | omega | exact nM1_n | exact nM2_n | assumption) only [f_X11_look, l_X11_look_0, b_X11_look_0, l_X11_look_65, b_X11_look_65, ↓nLetR, ↓reduceIte, ↓e_m1, ↓e_m2, e_0, e_1, e_2, e_3, e_4, e_5, e_6, e_7, e_8, e_9, e_10, e_11, e_12, e_13, e_14, e_15, e_16, e_17, e_18, e_19, e_20, e_21, e_22, e_23, e_24, e_25, e_26, e_27, e_28, e_29, e_30, e_31, e_32, e_33, e_48, e_57, e_59, e_60, e_63, e_64, e_96, e_97, e_99, e_120, e_122, e_192, e_200, e_255, e_256, e_300, e_500, e_600, e_2000, e_5000, e_5240, e_6146, e_20000, e_65536, nIo, nI_clamp, nIxt, nI_1, nI_add, nI_mul, nI_eqF, nI_ltT, nI_ltF, nI_leT, nI_leF, nN_lt0, nN_le, nN_lt, nN_eq, nN_eq', eq_self, nBdS, isB_y b4 m3' hb, z2', r2, T1, ekd, eth, wrs, wrk, wrc, wr2, wl1, wls, wlk, wlc]
          exact fin
        · simp (disch := first | omega | exact nM1_n | exact nM2_n | assumption) only [f_X11_look, l_X11_look_0, b_X11_look_0, l_X11_look_65, b_X11_look_65, ↓nLetR, ↓reduceIte, ↓e_m1, ↓e_m2, e_0, e_1, e_2, e_3, e_4, e_5, e_6, e_7, e_8, e_9, e_10, e_11, e_12, e_13, e_14, e_15, e_16, e_17, e_18, e_19, e_20, e_21, e_22, e_23, e_24, e_25, e_26, e_27, e_28, e_29, e_30, e_31, e_32, e_33, e_48, e_57, e_59, e_60, e_63, e_64, e_96, e_97, e_99, e_120, e_122, e_192, e_200, e_255, e_256, e_300, e_500, e_600, e_2000, e_5000, e_5240, e_6146, e_20000, e_65536, nIo, nI_clamp, nIxt, nI_1, nI_add, nI_mul, nI_eqF, nI_ltT, nI_ltF, nI_leT, nI_leF, nN_lt0, nN_le, nN_lt, nN_eq, nN_eq', eq_self, nBdS, isB_y b4 m3' hb, z2', r2, T1, ekd, eth, wrs, wrk, wrc, wr2, wl1, wls, wlk, wlc]
          exact fin
    rw [hX8, hX11]
    refine pK rfl ⟨F, S, P, B, sz, T, ?_⟩
    simp (disch := decide) only [iI, T1, T0]
    exact ⟨h1, h2, h3, h4, h5, h6, h7, h8, h9, h10.up⟩
  · simp (disch := first | omega | exact nM1_n | exact nM2_n | assumption) only [b_X8_look_0, l_X8_look_0, f_X8_look, b_X8_hasStep_0, l_X8_hasStep_0, f_X8_hasStep, b_X11_look_70, b_X11_look_65, b_X11_look_0, l_X11_look_70, l_X11_look_65, l_X11_look_0, f_X11_look, hasB_y b4 w3 hb, hsz, ↓nLetR, ↓reduceIte, ↓e_m1, ↓e_m2, e_0, e_1, e_2, e_3, e_4, e_5, e_6, e_7, e_8, e_9, e_10, e_11, e_12, e_13, e_14, e_15, e_16, e_17, e_18, e_19, e_20, e_21, e_22, e_23, e_24, e_25, e_26, e_27, e_28, e_29, e_30, e_31, e_32, e_33, e_48, e_57, e_59, e_60, e_63, e_64, e_96, e_97, e_99, e_120, e_122, e_192, e_200, e_255, e_256, e_300, e_500, e_600, e_2000, e_5000, e_5240, e_6146, e_20000, e_65536, nIo, nI_clamp, nIxt, nI_1, nI_add, nI_mul, nI_eqF, nI_ltT, nI_ltF, nI_leT, nI_leF, nN_lt0, nN_le, nN_lt, nN_eq, nN_eq', eq_self, nBdS, isB_y b4 m3' hb, z2', wrs, wrk, wrc, wr2, wl1, wls, wlk, wlc]
    refine pK rfl ⟨F, S, P, B, sz, T, ?_⟩
    simp (disch := decide) only [iI, wrs, wrk, wrc, wr2, wl1, wls, wlk, wlc]
    exact ⟨h1, h2, h3, h4, h5, h6, h7, h8, h9, h10.up⟩
