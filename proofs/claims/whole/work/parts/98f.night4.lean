/-! TWO NIGHTS: a step that is over, a tick -/
theorem nf_is {N w q qm b F S P B n ly aw M T k x c : Nat} {x4 : Int32} {σ τ : nS} (hw : 30 ≤ w) (hq : 23 ≤ q ∧ q ≤ 24) (hqm : 12 ≤ qm ∧ qm ≤ 13) (hH : hHs F S P B σ τ) (hB : hBk F S b n σ τ) (hL : nLv w q qm b F ly aw M k x c σ τ) (hk : k < n) (h8 : σ.1 w 8 = nI T) (h9 : τ.1 q 9 = nI 1) (h10 : τ.1 q 10 = nI 0) (hX : nNx q b ly k x τ) :
    ∃ k' x' σf τf, k' ≤ n ∧ f_X6_finish N w σ = l_X6_finish_171 N w σf (nI k') ∧ l_X11_goesOn_24 N q qm τ (nI T) x4 = l_X11_goesOn_70 N q qm (mG N q qm N) τf (nI T) x4 ∧ nLv w q qm b F ly aw M k x' c σf τf ∧ σf.1 w 8 = nI T ∧ τf.1 q 2 = nI k' ∧ τf.1 q 10 = nI 0 ∧ sF w q qm σ τ σf τf ∧ σf.1 11 = σ.1 11 ∧ τf.1 25 = τ.1 25 := by
  obtain ⟨⟨bF, bS, bP, bB⟩, _, _, _, hsf, hsk⟩ := id hH
  obtain ⟨hb, ⟨hn1, hn⟩, z1, z2, hst⟩ := id hB
  obtain ⟨⟨a2, a3, a4, a5, a6, a10, a11⟩, ⟨t0, t1, t3, t4, t5⟩, hwt, hxF, hseen, hcu, hmk⟩ := id hL
  have hx : x < 256 := Nat.lt_of_lt_of_le hxF (pow_le8 bF)
  obtain ⟨⟨d0, d1, d2, d3, d4⟩, hok⟩ := hst k hk
  have hk24 : k < 24 := by omega
  rcases hX with ⟨⟨kd, hkd, ekd⟩ | ekd, e2⟩ | ⟨ekd, s, hs8, es, e2⟩
  · obtain ⟨tw, htw, etw⟩ : ∃ x, x < F ∧ τ.1 6 (24 * b + k) = nI x := by
      rw [ekd] at hok
      rcases hok with ⟨_, _, h, _⟩ | ⟨h, _⟩ | ⟨h, _⟩ | ⟨h, _⟩ | h
      · exact h
      · exact (nkx (c := 2) h hkd (by decide) (by decide)).elim
      · exact (nkx (c := 3) h hkd (by decide) (by decide)).elim
      · exact (nkx (c := 4) h hkd (by decide) (by decide)).elim
      · exact (nkx (c := 5) h hkd (by decide) (by decide)).elim
    have go : ∀ x', x' < 2 ^ F → f_X6_finish N w σ = l_X6_finish_171 N w (wr σ w 3 (nI x')) (nI (k + 1)) → f_X11_changed N (nI (24 * b + k)) (nI x) τ = some (nI x', τ) → ∃ k' x' σf τf, k' ≤ n ∧ f_X6_finish N w σ = l_X6_finish_171 N w σf (nI k') ∧ l_X11_goesOn_24 N q qm τ (nI T) x4 = l_X11_goesOn_70 N q qm (mG N q qm N) τf (nI T) x4 ∧ nLv w q qm b F ly aw M k x' c σf τf ∧ σf.1 w 8 = nI T ∧ τf.1 q 2 = nI k' ∧ τf.1 q 10 = nI 0 ∧ sF w q qm σ τ σf τf ∧ σf.1 11 = σ.1 11 ∧ τf.1 25 = τ.1 25 := by
      intro x' hx' q1 q2
      refine ⟨k + 1, x', _, wr τ q 3 (nI x'), by omega, q1, ?_, ⟨⟨?_, ?_, ?_, ?_, ?_, ?_, ?_⟩, ⟨?_, ?_, ?_, ?_, ?_⟩, ?_, hx', ?_, ?_, ?_⟩, ?_, ?_, ?_, ⟨?_, ?_, ?_⟩, ?_, ?_⟩
      · simp (disch := first | omega | exact nM1_n | exact nM2_n | assumption) only [l_X11_goesOn_24, b_X11_goesOn_24, h9, t0, t1, t3, ekd, q2, ↓nLetR, ↓reduceIte, ↓e_m1, ↓e_m2, e_0, e_1, e_2, e_3, e_4, e_5, e_6, e_7, e_8, e_9, e_10, e_11, e_12, e_13, e_14, e_15, e_16, e_17, e_18, e_19, e_20, e_21, e_22, e_23, e_24, e_25, e_26, e_27, e_28, e_29, e_30, e_31, e_32, e_33, e_48, e_57, e_59, e_60, e_63, e_64, e_96, e_97, e_99, e_120, e_122, e_192, e_200, e_255, e_256, e_300, e_500, e_600, e_2000, e_5000, e_5240, e_6146, e_20000, e_65536, nIo, nI_clamp, nIxt, nI_1, nI_add, nI_mul, nI_eqF, nI_ltT, nI_ltF, nI_leT, nI_leF, nN_lt0, nN_le, nN_lt, nN_eq, nN_eq', eq_self, nBdS]
        rfl
      · simp (disch := omega) only [wrs, wrk, wrc, wr2, wl1, wls, wlk, wlc]; exact a2
      · simp (disch := omega) only [wrs, wrk, wrc, wr2, wl1, wls, wlk, wlc]
      · simp (disch := omega) only [wrs, wrk, wrc, wr2, wl1, wls, wlk, wlc]; exact a4
      · simp (disch := omega) only [wrs, wrk, wrc, wr2, wl1, wls, wlk, wlc]; exact a5
      · simp (disch := omega) only [wrs, wrk, wrc, wr2, wl1, wls, wlk, wlc]; exact a6
      · simp (disch := omega) only [wrs, wrk, wrc, wr2, wl1, wls, wlk, wlc]; exact a10
      · simp (disch := omega) only [wrs, wrk, wrc, wr2, wl1, wls, wlk, wlc]; exact a11
      · simp (disch := omega) only [wrs, wrk, wrc, wr2, wl1, wls, wlk, wlc]; exact t0
      · simp (disch := omega) only [wrs, wrk, wrc, wr2, wl1, wls, wlk, wlc]; exact t1
      · simp (disch := omega) only [wrs, wrk, wrc, wr2, wl1, wls, wlk, wlc]
      · simp (disch := omega) only [wrs, wrk, wrc, wr2, wl1, wls, wlk, wlc]; exact t4
      · simp (disch := omega) only [wrs, wrk, wrc, wr2, wl1, wls, wlk, wlc]; exact t5
      · simp (disch := omega) only [wrs, wrk, wrc, wr2, wl1, wls, wlk, wlc]; exact hwt
      · simp (disch := omega) only [wrs, wrk, wrc, wr2, wl1, wls, wlk, wlc]; exact hseen
      · simp (disch := omega) only [wrs, wrk, wrc, wr2, wl1, wls, wlk, wlc]; exact hcu
      · simp (disch := omega) only [wrs, wrk, wrc, wr2, wl1, wls, wlk, wlc]; exact hmk
      · simp (disch := omega) only [wrs, wrk, wrc, wr2, wl1, wls, wlk, wlc]; exact h8
      · simp (disch := omega) only [wrs, wrk, wrc, wr2, wl1, wls, wlk, wlc]; exact e2
      · simp (disch := omega) only [wrs, wrk, wrc, wr2, wl1, wls, wlk, wlc]; exact h10
      · intro d e1 e2 e3; simp (disch := omega) only [wrs, wrk, wrc, wr2, wl1, wls, wlk, wlc]
      · intro d e1; simp (disch := omega) only [wrs, wrk, wrc, wr2, wl1, wls, wlk, wlc]
      · intro d e1 e2 e3; simp (disch := omega) only [wrs, wrk, wrc, wr2, wl1, wls, wlk, wlc]
      · simp (disch := omega) only [wrs, wrk, wrc, wr2, wl1, wls, wlk, wlc]
      · simp (disch := omega) only [wrs, wrk, wrc, wr2, wl1, wls, wlk, wlc]
    have hkk : kd = 0 ∨ kd = 1 := by omega
    rw [etw] at d2
    rcases hkk with rfl | rfl
    · have xe := mk_right tw (by omega) x hx
      have hfin := fin_right (N := N) (w := w) (σ := σ) hb hk24 a2 a6 (d0.trans ekd)
      rw [a3, d2, xe] at hfin
      refine go _ (Nat.lt_of_le_of_lt (Nat.sub_le _ _) hxF) hfin ?_
      simp (disch := first | omega | exact nM1_n | exact nM2_n | assumption) only [b_X11_changed_0, l_X11_changed_0, f_X11_changed, ekd, etw, xe, ↓nLetR, ↓reduceIte, ↓e_m1, ↓e_m2, e_0, e_1, e_2, e_3, e_4, e_5, e_6, e_7, e_8, e_9, e_10, e_11, e_12, e_13, e_14, e_15, e_16, e_17, e_18, e_19, e_20, e_21, e_22, e_23, e_24, e_25, e_26, e_27, e_28, e_29, e_30, e_31, e_32, e_33, e_48, e_57, e_59, e_60, e_63, e_64, e_96, e_97, e_99, e_120, e_122, e_192, e_200, e_255, e_256, e_300, e_500, e_600, e_2000, e_5000, e_5240, e_6146, e_20000, e_65536, nIo, nI_clamp, nIxt, nI_1, nI_add, nI_mul, nI_eqF, nI_ltT, nI_ltF, nI_leT, nI_leF, nN_lt0, nN_le, nN_lt, nN_eq, nN_eq', eq_self, nBdS]
    · have xe := mk_wrong tw (by omega) x hx
      have hfin := fin_wrong (N := N) (w := w) (σ := σ) hb hk24 a2 a6 (d0.trans ekd)
      rw [a3, d2, xe] at hfin
      refine go _ (Nat.or_lt_two_pow hxF (Nat.pow_lt_pow_right (by decide) htw)) hfin ?_
      simp (disch := first | omega | exact nM1_n | exact nM2_n | assumption) only [b_X11_changed_0, l_X11_changed_0, f_X11_changed, ekd, etw, xe, ↓nLetR, ↓reduceIte, ↓e_m1, ↓e_m2, e_0, e_1, e_2, e_3, e_4, e_5, e_6, e_7, e_8, e_9, e_10, e_11, e_12, e_13, e_14, e_15, e_16, e_17, e_18, e_19, e_20, e_21, e_22, e_23, e_24, e_25, e_26, e_27, e_28, e_29, e_30, e_31, e_32, e_33, e_48, e_57, e_59, e_60, e_63, e_64, e_96, e_97, e_99, e_120, e_122, e_192, e_200, e_255, e_256, e_300, e_500, e_600, e_2000, e_5000, e_5240, e_6146, e_20000, e_65536, nIo, nI_clamp, nIxt, nI_1, nI_add, nI_mul, nI_eqF, nI_ltT, nI_ltF, nI_leT, nI_leF, nN_lt0, nN_le, nN_lt, nN_eq, nN_eq', eq_self, nBdS]
  · refine ⟨k + 1, x, σ, τ, by omega, fin_wait hb hk24 a2 a6 (d0.trans ekd), ?_, hL, h8, e2, h10, sF.rf, rfl, rfl⟩
    simp (disch := first | omega | exact nM1_n | exact nM2_n | assumption) only [l_X11_goesOn_24, b_X11_goesOn_24, h9, t0, t1, ekd, ↓nLetR, ↓reduceIte, ↓e_m1, ↓e_m2, e_0, e_1, e_2, e_3, e_4, e_5, e_6, e_7, e_8, e_9, e_10, e_11, e_12, e_13, e_14, e_15, e_16, e_17, e_18, e_19, e_20, e_21, e_22, e_23, e_24, e_25, e_26, e_27, e_28, e_29, e_30, e_31, e_32, e_33, e_48, e_57, e_59, e_60, e_63, e_64, e_96, e_97, e_99, e_120, e_122, e_192, e_200, e_255, e_256, e_300, e_500, e_600, e_2000, e_5000, e_5240, e_6146, e_20000, e_65536, nIo, nI_clamp, nIxt, nI_1, nI_add, nI_mul, nI_eqF, nI_ltT, nI_ltF, nI_leT, nI_leF, nN_lt0, nN_le, nN_lt, nN_eq, nN_eq', eq_self, nBdS]
    rfl
  · rw [ekd] at hok
    obtain ⟨⟨s', hs', es'⟩, ⟨k1, hk1, e1⟩, k2, hk2, e3⟩ : (∃ x, x < S ∧ τ.1 5 (24 * b + k) = nI x) ∧ (∃ x, x < n ∧ τ.1 6 (24 * b + k) = nI x) ∧ ∃ x, x < n ∧ τ.1 7 (24 * b + k) = nI x := by
      rcases hok with ⟨h, _⟩ | ⟨_, h⟩ | ⟨h, _⟩ | ⟨h, _⟩ | h
      · rcases h with h | h <;> exact absurd h (by decide)
      · exact h
      · exact absurd h (by decide)
      · exact absurd h (by decide)
      · exact absurd h (by decide)
    have hss : s' = s := by
      rw [es] at es'
      exact ((nI_eq (by omega) (by omega)).mp es').symm
    subst hss
    have hfin := fin_ask (N := N) (w := w) (σ := σ) (s := s') hb hk24 a2 a6 hs8 (d0.trans ekd) (d1.trans es)
    rw [a3, a4, d2, d3, ← (hsf s' hs').1, e1, e3] at hfin
    rw [e1, e3] at e2
    have m24 : l_X11_goesOn_24 N q qm τ (nI T) x4 = l_X11_goesOn_70 N q qm (mG N q qm N) τ (nI T) x4 := by
      simp (disch := first | omega | exact nM1_n | exact nM2_n | assumption) only [l_X11_goesOn_24, b_X11_goesOn_24, h9, t0, t1, ekd, ↓nLetR, ↓reduceIte, ↓e_m1, ↓e_m2, e_0, e_1, e_2, e_3, e_4, e_5, e_6, e_7, e_8, e_9, e_10, e_11, e_12, e_13, e_14, e_15, e_16, e_17, e_18, e_19, e_20, e_21, e_22, e_23, e_24, e_25, e_26, e_27, e_28, e_29, e_30, e_31, e_32, e_33, e_48, e_57, e_59, e_60, e_63, e_64, e_96, e_97, e_99, e_120, e_122, e_192, e_200, e_255, e_256, e_300, e_500, e_600, e_2000, e_5000, e_5240, e_6146, e_20000, e_65536, nIo, nI_clamp, nIxt, nI_1, nI_add, nI_mul, nI_eqF, nI_ltT, nI_ltF, nI_leT, nI_leF, nN_lt0, nN_le, nN_lt, nN_eq, nN_eq', eq_self, nBdS]
      rfl
    by_cases hc : ((nI x >>> (τ.1 1 s' &&& nI 31)) ^^^ (nI ly >>> (nI s' &&& nI 31))) &&& nI 1 = nI 1
    · rw [if_pos hc] at hfin e2
      exact ⟨k1, x, σ, τ, by omega, hfin, m24, hL, h8, e2, h10, sF.rf, rfl, rfl⟩
    · rw [if_neg hc] at hfin e2
      exact ⟨k2, x, σ, τ, by omega, hfin, m24, hL, h8, e2, h10, sF.rf, rfl, rfl⟩
def tO (w q qm b F n ly aw M T s : Nat) (σ τ σ' τ' : nS) (s' : Nat) : Prop :=
  nR w q qm b F n ly aw M (T + 1) s' σ' τ' ∧ sF w q qm σ τ σ' τ' ∧ (∀ p, p < 4 → σ'.1 11 p = τ'.1 25 p ∧ (σ'.1 11 p = σ.1 11 p ∨ ∃ u, s' = u + 3 ∧ σ'.1 11 p = nI u)) ∧ (s' = 2 → (s = 1 ∨ s = 2 ∨ s = T + 3) ∧ ∃ p, p < 4 ∧ nI T < σ.1 11 p) ∧ (3 ≤ s' → T + 4 ≤ s' ∧ (s' = s ∨ ((s = 1 ∨ s = 2 ∨ (s = T + 3 ∧ T ≤ 5000)) ∧ s' ≤ T + 63))) ∧ ¬ s' = 1 ∧ (s = 0 → s' = 0) ∧ (3 ≤ s → s' = s ∨ s = T + 3) ∧ (s = T + 3 → 5000 < T → s' = 0)
theorem tO.of {w q qm b F n ly aw M T s s' : Nat} {σ τ σ' τ' : nS} (h : nOut w q qm b F n ly aw M T σ τ σ' τ' s') (hs : s = 1 ∨ s = 2 ∨ (s = T + 3 ∧ T ≤ 5000)) : tO w q qm b F n ly aw M T s σ τ σ' τ' s' := by
  obtain ⟨h1, h2, h3, h4, h5, h6⟩ := h
  have hs3 : s = 1 ∨ s = 2 ∨ s = T + 3 := by
    rcases hs with h | h | h
    · exact Or.inl h
    · exact Or.inr (Or.inl h)
    · exact Or.inr (Or.inr h.1)
  refine ⟨h1, h2, h3, fun h => ⟨hs3, h4 h⟩, fun h => ?_, h6, fun h => ?_, fun h => ?_, fun g1 g2 => ?_⟩
  rotate_left
  · rcases hs with h' | h' | h' <;> omega
  · rcases hs with h' | h' | h'
    · omega
    · omega
    · exact Or.inr h'.1
  · rcases hs with h' | h' | h' <;> omega
  have := h5 (s' - 3) (by omega)
  exact ⟨by omega, Or.inr ⟨hs, by omega⟩⟩
theorem tick_is {N w q qm b F S P B n ly aw M T s : Nat} {σ τ : nS} (hN : 7000 ≤ N) (hw : 30 ≤ w) (hq : 23 ≤ q ∧ q ≤ 24) (hqm : 12 ≤ qm ∧ qm ≤ 13) (hT : T < 5500) (hM : M < 2 ^ 31) (h31 : τ.1 0 31 = nI M) (hH : hHs F S P B σ τ) (hB : hBk F S b n σ τ) (hh : ∀ p, p < 4 → σ.1 11 p = τ.1 25 p) (hR : nR w q qm b F n ly aw M T s σ τ) (h1 : s = 1 → T ≤ 5000) (hu : 3 ≤ s → T + 3 ≤ s) :
    ∃ s' σ' τ', f_X6_goOn N w (nI T) σ = some (nI 0, σ') ∧ f_X11_goesOn N q qm (nI T) (nI aw) τ = some (nI 0, τ') ∧ tO w q qm b F n ly aw M T s σ τ σ' τ' s' := by
  have hgo : f_X6_goOn N w (nI T) σ = gG N w N σ (nI T) (nI 0) := rfl
  rw [hgo]
  rcases id hR with ⟨rfl, ⟨e, t, he, ht, e1, e2, e3⟩, hmk⟩ | ⟨rfl, k, x, c, hkn, hL, h7, h8, h9, h10⟩ | ⟨rfl, k, x, c, kd, hkn, hkd, ekd, hL, h7, h8, h9, h10⟩ | ⟨u, k, x, c, rfl, hu9, hkn, hL, h7, h8, h9, h10, h6, hX⟩
  · refine ⟨0, σ, τ, g_end (by omega) (by rw [e1]; exact nM1ne e (by omega)), ?_, Or.inl ⟨rfl, ⟨e, t, he, ht, e1, e2, e3⟩, hmk⟩, sF.rf, fun p hp => ⟨hh p hp, Or.inl rfl⟩, fun h => absurd h (by decide), fun h => absurd h (by decide), by decide, fun _ => rfl, fun h => absurd h (by decide), fun h => by omega⟩
    have hne := eq_false (nM1ne e (by omega))
    simp (disch := first | omega | exact nM1_n | exact nM2_n | assumption) only [f_X11_goesOn, l_X11_goesOn_0, b_X11_goesOn_0, e2, hne, ↓nLetR, ↓reduceIte, ↓e_m1, ↓e_m2, e_0, e_1, e_2, e_3, e_4, e_5, e_6, e_7, e_8, e_9, e_10, e_11, e_12, e_13, e_14, e_15, e_16, e_17, e_18, e_19, e_20, e_21, e_22, e_23, e_24, e_25, e_26, e_27, e_28, e_29, e_30, e_31, e_32, e_33, e_48, e_57, e_59, e_60, e_63, e_64, e_96, e_97, e_99, e_120, e_122, e_192, e_200, e_255, e_256, e_300, e_500, e_600, e_2000, e_5000, e_5240, e_6146, e_20000, e_65536, nIo, nI_clamp, nIxt, nI_1, nI_add, nI_mul, nI_eqF, nI_ltT, nI_ltF, nI_leT, nI_leF, nN_lt0, nN_le, nN_lt, nN_eq, nN_eq', eq_self, nBdS]
  · have hcu := cU_le (τ.1 qm) (nI M) 6144
    obtain ⟨s', σ', τ', g1, g2, g3⟩ := nc_go (N := N) (by omega) hw hq hqm (h1 rfl) hM h31 hH hB hh _ (N - 1) N 0 k x c σ τ rfl (by omega) (by omega) (by omega) hkn hL h7 h8 h9 h10 sF.rf rfl rfl
    refine ⟨s', σ', τ', ?_, ?_, tO.of g3 (Or.inl rfl)⟩
    · rw [g_on (by omega) hL.1.2.2.2.2.2.2 (Or.inl h7) h8 (Nat.le_refl T) (by omega) (by omega)]
      exact g1
    · have e5 := hL.2.1.2.2.2.2
      simp (disch := first | omega | exact nM1_n | exact nM2_n | assumption) only [f_X11_goesOn, l_X11_goesOn_0, b_X11_goesOn_0, l_X11_goesOn_24, b_X11_goesOn_24, e5, h9, ↓nLetR, ↓reduceIte, ↓e_m1, ↓e_m2, e_0, e_1, e_2, e_3, e_4, e_5, e_6, e_7, e_8, e_9, e_10, e_11, e_12, e_13, e_14, e_15, e_16, e_17, e_18, e_19, e_20, e_21, e_22, e_23, e_24, e_25, e_26, e_27, e_28, e_29, e_30, e_31, e_32, e_33, e_48, e_57, e_59, e_60, e_63, e_64, e_96, e_97, e_99, e_120, e_122, e_192, e_200, e_255, e_256, e_300, e_500, e_600, e_2000, e_5000, e_5240, e_6146, e_20000, e_65536, nIo, nI_clamp, nIxt, nI_1, nI_add, nI_mul, nI_eqF, nI_ltT, nI_ltF, nI_leT, nI_leF, nN_lt0, nN_le, nN_lt, nN_eq, nN_eq', eq_self, nBdS]
      exact g2
  · obtain ⟨hb, ⟨hn1, hn⟩, z1, z2, hst⟩ := id hB
    obtain ⟨⟨d0, _⟩, _⟩ := hst k hkn
    obtain ⟨s', σd, τd, p1, p2, p3⟩ := dB_is (N := N) (by omega) hw hq hqm (show T < 6000 by omega) hH hB hL hkn hkd ekd h8 h9 hh
    refine ⟨s', σd, τd, ?_, ?_, tO.of p3 (Or.inr (Or.inl rfl))⟩
    · rw [g_on (by omega) hL.1.2.2.2.2.2.2 (Or.inr h7) h8 (Nat.le_refl T) (by omega) (by omega), g40_w hL.1.2.2.2.2.2.2 h7 hL.1.1 hL.1.2.2.2.2.1 (isDo_y hb (by omega) (d0.trans ekd) hkd) p1]
      exact p3.stopC (by omega) (by omega) (by omega)
    · have e5 := hL.2.1.2.2.2.2
      have e6 : f_X11_goesOn N q qm (nI T) (nI aw) τ = mG N q qm N τ (nI T) (nI aw) := by
        simp (disch := first | omega | exact nM1_n | exact nM2_n | assumption) only [f_X11_goesOn, l_X11_goesOn_0, b_X11_goesOn_0, l_X11_goesOn_24, b_X11_goesOn_24, e5, h9, ↓nLetR, ↓reduceIte, ↓e_m1, ↓e_m2, e_0, e_1, e_2, e_3, e_4, e_5, e_6, e_7, e_8, e_9, e_10, e_11, e_12, e_13, e_14, e_15, e_16, e_17, e_18, e_19, e_20, e_21, e_22, e_23, e_24, e_25, e_26, e_27, e_28, e_29, e_30, e_31, e_32, e_33, e_48, e_57, e_59, e_60, e_63, e_64, e_96, e_97, e_99, e_120, e_122, e_192, e_200, e_255, e_256, e_300, e_500, e_600, e_2000, e_5000, e_5240, e_6146, e_20000, e_65536, nIo, nI_clamp, nIxt, nI_1, nI_add, nI_mul, nI_eqF, nI_ltT, nI_ltF, nI_leT, nI_leF, nN_lt0, nN_le, nN_lt, nN_eq, nN_eq', eq_self, nBdS]
        rfl
      rw [e6, mG_w (by omega) e5 h9 h10, m126 e5 p2]
      exact p3.stopM (by omega)
  · have e5 := hL.2.1.2.2.2.2
    have hu2 := hu (by omega)
    by_cases hlt : T < u
    · refine ⟨u + 3, σ, τ, g_out (by omega) hL.1.2.2.2.2.2.2 h8 hlt (by omega) (by omega), ?_, Or.inr (Or.inr (Or.inr ⟨u, k, x, c, rfl, hu9, hkn, hL, h7, h8, h9, h10, h6, hX⟩)), sF.rf, fun p hp => ⟨hh p hp, Or.inl rfl⟩, fun h => by omega, fun h => ⟨by omega, Or.inl rfl⟩, by omega, fun h => by omega, fun _ => Or.inl rfl, fun h => by omega⟩
      simp (disch := first | omega | exact nM1_n | exact nM2_n | assumption) only [f_X11_goesOn, l_X11_goesOn_0, b_X11_goesOn_0, e5, h9, h6, ↓nLetR, ↓reduceIte, ↓e_m1, ↓e_m2, e_0, e_1, e_2, e_3, e_4, e_5, e_6, e_7, e_8, e_9, e_10, e_11, e_12, e_13, e_14, e_15, e_16, e_17, e_18, e_19, e_20, e_21, e_22, e_23, e_24, e_25, e_26, e_27, e_28, e_29, e_30, e_31, e_32, e_33, e_48, e_57, e_59, e_60, e_63, e_64, e_96, e_97, e_99, e_120, e_122, e_192, e_200, e_255, e_256, e_300, e_500, e_600, e_2000, e_5000, e_5240, e_6146, e_20000, e_65536, nIo, nI_clamp, nIxt, nI_1, nI_add, nI_mul, nI_eqF, nI_ltT, nI_ltF, nI_leT, nI_leF, nN_lt0, nN_le, nN_lt, nN_eq, nN_eq', eq_self, nBdS]
    · have huT : u = T := by omega
      subst huT
      obtain ⟨k', x', σf, τf, hk', f1, f2, f3, f4, f5, f6, f7, f8, f9⟩ := nf_is (N := N) (x4 := nI aw) hw hq hqm hH hB hL hkn h8 h9 h10 hX
      have hmo : f_X11_goesOn N q qm (nI u) (nI aw) τ = l_X11_goesOn_70 N q qm (mG N q qm N) τf (nI u) (nI aw) := by
        rw [← f2]
        simp (disch := first | omega | exact nM1_n | exact nM2_n | assumption) only [f_X11_goesOn, l_X11_goesOn_0, b_X11_goesOn_0, e5, h9, h6, ↓nLetR, ↓reduceIte, ↓e_m1, ↓e_m2, e_0, e_1, e_2, e_3, e_4, e_5, e_6, e_7, e_8, e_9, e_10, e_11, e_12, e_13, e_14, e_15, e_16, e_17, e_18, e_19, e_20, e_21, e_22, e_23, e_24, e_25, e_26, e_27, e_28, e_29, e_30, e_31, e_32, e_33, e_48, e_57, e_59, e_60, e_63, e_64, e_96, e_97, e_99, e_120, e_122, e_192, e_200, e_255, e_256, e_300, e_500, e_600, e_2000, e_5000, e_5240, e_6146, e_20000, e_65536, nIo, nI_clamp, nIxt, nI_1, nI_add, nI_mul, nI_eqF, nI_ltT, nI_ltF, nI_leT, nI_leF, nN_lt0, nN_le, nN_lt, nN_eq, nN_eq', eq_self, nBdS]
      rw [g_fin (by omega) hL.1.2.2.2.2.2.2 h7 h8 (Nat.le_refl u) (by omega) (by omega), f1, hmo]
      obtain ⟨⟨a2, a3, a4, a5, a6, a10, a11⟩, ⟨t0, t1, t3, t4, t5⟩, hwt, hxF, hseen, hcu, hmk⟩ := id f3
      by_cases hl : u ≤ 5000
      · rw [fin_s f4 hl, nBdS]
        have m70 : l_X11_goesOn_70 N q qm (mG N q qm N) τf (nI u) (nI aw) = mG N q qm N (wr (wr τf q 9 (nI 0)) q 1 (nI k')) (nI u) (nI aw) := by
          simp (disch := first | omega | exact nM1_n | exact nM2_n | assumption) only [l_X11_goesOn_70, b_X11_goesOn_70, f5, ↓nLetR, ↓reduceIte, ↓e_m1, ↓e_m2, e_0, e_1, e_2, e_3, e_4, e_5, e_6, e_7, e_8, e_9, e_10, e_11, e_12, e_13, e_14, e_15, e_16, e_17, e_18, e_19, e_20, e_21, e_22, e_23, e_24, e_25, e_26, e_27, e_28, e_29, e_30, e_31, e_32, e_33, e_48, e_57, e_59, e_60, e_63, e_64, e_96, e_97, e_99, e_120, e_122, e_192, e_200, e_255, e_256, e_300, e_500, e_600, e_2000, e_5000, e_5240, e_6146, e_20000, e_65536, nIo, nI_clamp, nIxt, nI_1, nI_add, nI_mul, nI_eqF, nI_ltT, nI_ltF, nI_leT, nI_leF, nN_lt0, nN_le, nN_lt, nN_eq, nN_eq', eq_self, nBdS, wrs, wrk, wrc, wr2, wl1, wls, wlk, wlc]
        rw [m70]
        have hcu2 := cU_le (τf.1 qm) (nI M) 6144
        have eqq : (wr (wr τf q 9 (nI 0)) q 1 (nI k')).1 qm = τf.1 qm := by simp (disch := omega) only [wrs, wrk, wrc, wr2, wl1, wls, wlk, wlc]
        obtain ⟨s', σ', τ', g1, g2, g3⟩ := nc_go (N := N) (by omega) hw hq hqm hl hM h31 hH hB hh (cU (τf.1 qm) (nI M) 6144) (N - 1) N 0 k' x' c (wr (wr σf w 7 (nI 0)) w 6 (nI k')) (wr (wr τf q 9 (nI 0)) q 1 (nI k')) (by rw [eqq]) (by omega) (by omega) (by omega) hk' (by
            refine ⟨⟨?_, ?_, ?_, ?_, ?_, ?_, ?_⟩, ⟨?_, ?_, ?_, ?_, ?_⟩, ?_, hxF, ?_, ?_, ?_⟩
            · simp (disch := omega) only [wrs, wrk, wrc, wr2, wl1, wls, wlk, wlc]; exact a2
            · simp (disch := omega) only [wrs, wrk, wrc, wr2, wl1, wls, wlk, wlc]; exact a3
            · simp (disch := omega) only [wrs, wrk, wrc, wr2, wl1, wls, wlk, wlc]; exact a4
            · simp (disch := omega) only [wrs, wrk, wrc, wr2, wl1, wls, wlk, wlc]; exact a5
            · simp (disch := omega) only [wrs, wrk, wrc, wr2, wl1, wls, wlk, wlc]
            · simp (disch := omega) only [wrs, wrk, wrc, wr2, wl1, wls, wlk, wlc]; exact a10
            · simp (disch := omega) only [wrs, wrk, wrc, wr2, wl1, wls, wlk, wlc]; exact a11
            · simp (disch := omega) only [wrs, wrk, wrc, wr2, wl1, wls, wlk, wlc]; exact t0
            · simp (disch := omega) only [wrs, wrk, wrc, wr2, wl1, wls, wlk, wlc]
            · simp (disch := omega) only [wrs, wrk, wrc, wr2, wl1, wls, wlk, wlc]; exact t3
            · simp (disch := omega) only [wrs, wrk, wrc, wr2, wl1, wls, wlk, wlc]; exact t4
            · simp (disch := omega) only [wrs, wrk, wrc, wr2, wl1, wls, wlk, wlc]; exact t5
            · simp (disch := omega) only [wrs, wrk, wrc, wr2, wl1, wls, wlk, wlc]; exact hwt
            · simp (disch := omega) only [wrs, wrk, wrc, wr2, wl1, wls, wlk, wlc]; exact hseen
            · simp (disch := omega) only [wrs, wrk, wrc, wr2, wl1, wls, wlk, wlc]; exact hcu
            · simp (disch := omega) only [wrs, wrk, wrc, wr2, wl1, wls, wlk, wlc]; exact hmk) (by simp (disch := omega) only [wrs, wrk, wrc, wr2, wl1, wls, wlk, wlc]) (by simp (disch := omega) only [wrs, wrk, wrc, wr2, wl1, wls, wlk, wlc]; exact f4) (by simp (disch := omega) only [wrs, wrk, wrc, wr2, wl1, wls, wlk, wlc]) (by simp (disch := omega) only [wrs, wrk, wrc, wr2, wl1, wls, wlk, wlc]; exact f6) (f7.trans ⟨fun d e1 e2 e3 => by simp (disch := omega) only [wrs, wrk, wrc, wr2, wl1, wls, wlk, wlc], fun d e1 => by simp (disch := omega) only [wrs, wrk, wrc, wr2, wl1, wls, wlk, wlc], fun d e1 e2 e3 => by simp (disch := omega) only [wrs, wrk, wrc, wr2, wl1, wls, wlk, wlc]⟩) (by simp (disch := omega) only [wrs, wrk, wrc, wr2, wl1, wls, wlk, wlc]; exact f8) (by simp (disch := omega) only [wrs, wrk, wrc, wr2, wl1, wls, wlk, wlc]; exact f9)
        exact ⟨s', σ', τ', g1, g2, tO.of g3 (Or.inr (Or.inr ⟨rfl, hl⟩))⟩
      · rw [fin_l f4 (by omega) (by omega), nBdS, g40_end (by omega) (by rw [wrs]; exact nM1ne 6 (by decide))]
        have m70 : l_X11_goesOn_70 N q qm (mG N q qm N) τf (nI u) (nI aw) = mG N q qm N (wr (wr (wr (wr τf q 9 (nI 0)) q 1 (nI k')) q 5 (nI 6)) q 7 (nI u)) (nI u) (nI aw) := by
          simp (disch := first | omega | exact nM1_n | exact nM2_n | assumption) only [l_X11_goesOn_70, b_X11_goesOn_70, b_X9_ends_0, l_X9_ends_0, f_X9_ends, f5, ↓nLetR, ↓reduceIte, ↓e_m1, ↓e_m2, e_0, e_1, e_2, e_3, e_4, e_5, e_6, e_7, e_8, e_9, e_10, e_11, e_12, e_13, e_14, e_15, e_16, e_17, e_18, e_19, e_20, e_21, e_22, e_23, e_24, e_25, e_26, e_27, e_28, e_29, e_30, e_31, e_32, e_33, e_48, e_57, e_59, e_60, e_63, e_64, e_96, e_97, e_99, e_120, e_122, e_192, e_200, e_255, e_256, e_300, e_500, e_600, e_2000, e_5000, e_5240, e_6146, e_20000, e_65536, nIo, nI_clamp, nIxt, nI_1, nI_add, nI_mul, nI_eqF, nI_ltT, nI_ltF, nI_leT, nI_leF, nN_lt0, nN_le, nN_lt, nN_eq, nN_eq', eq_self, nBdS, wrs, wrk, wrc, wr2, wl1, wls, wlk, wlc]
        rw [m70, mG_e (by omega) (by simp (disch := omega) only [wrs, wrk, wrc, wr2, wl1, wls, wlk, wlc]; exact nM1ne 6 (by decide))]
        refine ⟨0, _, _, rfl, rfl, Or.inl ⟨rfl, ⟨6, u, by decide, by omega, ?_, ?_, ?_, ?_, ?_⟩, ?_⟩, f7.trans ⟨?_, ?_, ?_⟩, fun p hp => ⟨?_, Or.inl ?_⟩, fun h => absurd h (by decide), fun h => absurd h (by decide), by decide, fun _ => rfl, fun _ => Or.inr rfl, fun _ _ => rfl⟩
        · simp (disch := omega) only [wrs, wrk, wrc, wr2, wl1, wls, wlk, wlc]
        · simp (disch := omega) only [wrs, wrk, wrc, wr2, wl1, wls, wlk, wlc]
        · simp (disch := omega) only [wrs, wrk, wrc, wr2, wl1, wls, wlk, wlc]; exact f4
        · simp (disch := omega) only [wrs, wrk, wrc, wr2, wl1, wls, wlk, wlc]
        · simp (disch := omega) only [wrs, wrk, wrc, wr2, wl1, wls, wlk, wlc]; exact hwt
        · unfold nMk; simp (disch := omega) only [wrs, wrk, wrc, wr2, wl1, wls, wlk, wlc]; exact hmk
        · intro d e1 e2 e3; simp (disch := omega) only [wrs, wrk, wrc, wr2, wl1, wls, wlk, wlc]
        · intro d e1; simp (disch := omega) only [wrs, wrk, wrc, wr2, wl1, wls, wlk, wlc]
        · intro d e1 e2 e3; simp (disch := omega) only [wrs, wrk, wrc, wr2, wl1, wls, wlk, wlc]
        · simp (disch := omega) only [wrs, wrk, wrc, wr2, wl1, wls, wlk, wlc]; rw [f8, f9]; exact hh p hp
        · simp (disch := omega) only [wrs, wrk, wrc, wr2, wl1, wls, wlk, wlc]; rw [f8]
