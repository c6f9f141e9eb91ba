/-! TWO NIGHTS: tick after tick -/
def jJ (T s1 s2 : Nat) : Prop := (s1 = 1 → T ≤ 5000) ∧ (s2 = 1 → T ≤ 5000) ∧ (s1 = 2 → T + 3 ≤ s2) ∧ (s2 = 2 → T + 3 ≤ s1) ∧ (3 ≤ s1 → T + 3 ≤ s1 ∧ (s1 ≤ 5063 ∨ (s1 ≤ 5123 ∧ (s2 = 0 ∨ (5003 < s2 ∧ s2 ≤ 5063))))) ∧ (3 ≤ s2 → T + 3 ≤ s2 ∧ (s2 ≤ 5063 ∨ (s2 ≤ 5123 ∧ (s1 = 0 ∨ (5003 < s1 ∧ s1 ≤ 5063)))))
/-- what a tick does to where a night stands -/
def jT (T s s' : Nat) : Prop := (3 ≤ s' → T + 4 ≤ s' ∧ (s' = s ∨ ((s = 1 ∨ s = 2 ∨ (s = T + 3 ∧ T ≤ 5000)) ∧ s' ≤ T + 63))) ∧ ¬ s' = 1 ∧ (s = 0 → s' = 0) ∧ (3 ≤ s → s' = s ∨ s = T + 3) ∧ (s = T + 3 → 5000 < T → s' = 0)
def cl (s : Nat) : Prop := s = 0 ∨ (5003 < s ∧ s ≤ 5063)
theorem cl_t {T s s' : Nat} (h : jT T s s') (hc : cl s) : cl s' := by
  obtain ⟨a1, a2, a3, a4, a5⟩ := h
  unfold cl at *
  rcases hc with hc | hc
  · exact Or.inl (a3 hc)
  · rcases a4 (by omega) with h | h
    · exact Or.inr (by omega)
    · exact Or.inl (a5 h (by omega))
theorem half {T s1 s2 s1' s2' : Nat} (h1 : s1 = 1 → T ≤ 5000) (h3 : s1 = 2 → T + 3 ≤ s2) (h5 : 3 ≤ s1 → T + 3 ≤ s1 ∧ (s1 ≤ 5063 ∨ (s1 ≤ 5123 ∧ cl s2))) (h6 : 3 ≤ s2 → T + 3 ≤ s2 ∧ (s2 ≤ 5063 ∨ (s2 ≤ 5123 ∧ cl s1))) (a : jT T s1 s1') (b : cl s2 → cl s2') (hs : 3 ≤ s1') : T + 1 + 3 ≤ s1' ∧ (s1' ≤ 5063 ∨ (s1' ≤ 5123 ∧ cl s2')) := by
  obtain ⟨a1, a2, a3, a4, a5⟩ := a
  obtain ⟨g1, g2⟩ := a1 hs
  refine ⟨by omega, ?_⟩
  rcases g2 with g2 | ⟨g2 | g2 | g2, g3⟩
  · obtain ⟨q1, q2⟩ := h5 (by omega)
    rcases q2 with q2 | ⟨q2, q3⟩
    · exact Or.inl (by omega)
    · exact Or.inr ⟨by omega, b q3⟩
  · have := h1 g2
    exact Or.inl (by omega)
  · have q := h3 g2
    obtain ⟨q1, q2⟩ := h6 (by omega)
    by_cases hT : T ≤ 5000
    · exact Or.inl (by omega)
    · rcases q2 with q2 | ⟨q2, q3⟩
      · exact Or.inr ⟨by omega, b (Or.inr ⟨by omega, q2⟩)⟩
      · unfold cl at q3
        omega
  · exact Or.inl (by omega)
theorem jJ.step {T s1 s2 s1' s2' : Nat} (h : jJ T s1 s2) (a : jT T s1 s1') (a6 : s1' = 2 → T + 4 ≤ s2) (b : jT T s2 s2') (b6 : s2' = 2 → T + 4 ≤ s1') : jJ (T + 1) s1' s2' := by
  obtain ⟨h1, h2, h3, h4, h5, h6⟩ := h
  refine ⟨fun h => absurd h a.2.1, fun h => absurd h b.2.1, fun h => ?_, fun h => by have := b6 h; omega, ?_, ?_⟩
  · have := a6 h
    rcases b.2.2.2.1 (by omega) with q | q <;> omega
  · exact half h1 h3 h5 h6 a (cl_t b)
  · exact half h2 h4 h6 h5 b (cl_t a)
theorem jJ.end {s1 s2 : Nat} (h : jJ 5122 s1 s2) : s1 = 0 ∧ s2 = 0 := by
  obtain ⟨h1, h2, h3, h4, h5, h6⟩ := h
  constructor
  · by_cases c3 : 3 ≤ s1
    · have := h5 c3; omega
    · by_cases c2 : s1 = 2
      · have := h3 c2
        have := h6 (by omega)
        omega
      · by_cases c1 : s1 = 1
        · have := h1 c1; omega
        · omega
  · by_cases c3 : 3 ≤ s2
    · have := h6 c3; omega
    · by_cases c2 : s2 = 2
      · have := h4 c2
        have := h5 (by omega)
        omega
      · by_cases c1 : s2 = 1
        · have := h2 c1; omega
        · omega

theorem nR.fr {w q qm b F n ly aw M T s : Nat} {σ τ σ' τ' : nS} (h : nR w q qm b F n ly aw M T s σ τ) (e1 : σ'.1 w = σ.1 w) (e2 : σ'.2 (w + 1) = σ.2 (w + 1)) (e3 : τ'.1 q = τ.1 q) (e4 : τ'.1 qm = τ.1 qm) (f1 : τ'.1 1 = τ.1 1) (f4 : τ'.1 4 = τ.1 4) (f5 : τ'.1 5 = τ.1 5) (f6 : τ'.1 6 = τ.1 6) (f7 : τ'.1 7 = τ.1 7) : nR w q qm b F n ly aw M T s σ' τ' := by
  unfold nR nLv nEnd nMk nNx at h ⊢
  rw [e1, e2, e3, e4, f1, f4, f5, f6, f7]
  exact h
theorem nR.live {w q qm b F n ly aw M T s : Nat} {σ τ : nS} (h : nR w q qm b F n ly aw M T s σ τ) (hs : ¬ s = 0) : σ.1 w 11 = nM1 ∧ τ.1 q 5 = nM1 := by
  rcases h with ⟨h, _⟩ | ⟨_, k, x, c, _, hL, _⟩ | ⟨_, k, x, c, kd, _, _, _, hL, _⟩ | ⟨u, k, x, c, _, _, _, hL, _⟩
  · exact absurd h hs
  · exact ⟨hL.1.2.2.2.2.2.2, hL.2.1.2.2.2.2⟩
  · exact ⟨hL.1.2.2.2.2.2.2, hL.2.1.2.2.2.2⟩
  · exact ⟨hL.1.2.2.2.2.2.2, hL.2.1.2.2.2.2⟩
theorem nR.over {w q qm b F n ly aw M T : Nat} {σ τ : nS} (h : nR w q qm b F n ly aw M T 0 σ τ) : nEnd w q σ τ ∧ nMk qm M τ := by
  rcases h with ⟨_, h⟩ | ⟨h, _⟩ | ⟨h, _⟩ | ⟨u, k, x, c, h, _⟩
  · exact h
  · exact absurd h (by decide)
  · exact absurd h (by decide)
  · exact absurd h (by omega)
def hD (T s1 s2 : Nat) (σ τ : nS) : Prop := ∀ p, p < 4 → σ.1 11 p = τ.1 25 p ∧ ∃ y, y < 9000 ∧ σ.1 11 p = nI y ∧ (y ≤ T ∨ (3 ≤ s1 ∧ y + 3 ≤ s1) ∨ (3 ≤ s2 ∧ y + 3 ≤ s2))
def gF (σ0 τ0 σ τ : nS) : Prop := (∀ d, d ≠ 11 → d ≠ 30 → d ≠ 32 → d ≠ 33 → d ≠ 35 → σ.1 d = σ0.1 d) ∧ ∀ d, d ≠ 12 → d ≠ 13 → d ≠ 23 → d ≠ 24 → d ≠ 25 → τ.1 d = τ0.1 d
theorem gF.hs {F S P B : Nat} {σ0 τ0 σ τ : nS} (h : gF σ0 τ0 σ τ) (g : hHs F S P B σ0 τ0) : hHs F S P B σ τ := by
  unfold hHs
  rw [h.1 1 (by decide) (by decide) (by decide) (by decide) (by decide), h.1 2 (by decide) (by decide) (by decide) (by decide) (by decide), h.1 3 (by decide) (by decide) (by decide) (by decide) (by decide), h.2 0 (by decide) (by decide) (by decide) (by decide) (by decide), h.2 1 (by decide) (by decide) (by decide) (by decide) (by decide), h.2 2 (by decide) (by decide) (by decide) (by decide) (by decide)]
  exact g
theorem gF.bk {F S b n : Nat} {σ0 τ0 σ τ : nS} (h : gF σ0 τ0 σ τ) (g : hBk F S b n σ0 τ0) : hBk F S b n σ τ := by
  unfold hBk
  rw [h.1 4 (by decide) (by decide) (by decide) (by decide) (by decide), h.1 5 (by decide) (by decide) (by decide) (by decide) (by decide), h.2 3 (by decide) (by decide) (by decide) (by decide) (by decide), h.2 4 (by decide) (by decide) (by decide) (by decide) (by decide), h.2 5 (by decide) (by decide) (by decide) (by decide) (by decide), h.2 6 (by decide) (by decide) (by decide) (by decide) (by decide), h.2 7 (by decide) (by decide) (by decide) (by decide) (by decide), h.2 8 (by decide) (by decide) (by decide) (by decide) (by decide)]
  exact g
theorem gF.one {σ0 τ0 σ τ σ' τ' : nS} (h : gF σ0 τ0 σ τ) (g : sF 30 23 12 σ τ σ' τ') : gF σ0 τ0 σ' τ' := ⟨fun d e1 e2 e3 e4 e5 => (g.1 d e2 e3 e1).trans (h.1 d e1 e2 e3 e4 e5), fun d e1 e2 e3 e4 e5 => (g.2.2 d e3 e1 e5).trans (h.2 d e1 e2 e3 e4 e5)⟩
theorem gF.two {σ0 τ0 σ τ σ' τ' : nS} (h : gF σ0 τ0 σ τ) (g : sF 33 24 13 σ τ σ' τ') : gF σ0 τ0 σ' τ' := ⟨fun d e1 e2 e3 e4 e5 => (g.1 d e4 e5 e1).trans (h.1 d e1 e2 e3 e4 e5), fun d e1 e2 e3 e4 e5 => (g.2.2 d e4 e2 e5).trans (h.2 d e1 e2 e3 e4 e5)⟩
theorem nn_go {N b1 n1 ly1 b2 n2 ly2 aw F S P B M : Nat} {σ0 τ0 : nS} (hN : 7000 ≤ N) (hM : M < 2 ^ 31) (h31 : τ0.1 0 31 = nI M) (hH : hHs F S P B σ0 τ0) (hB1 : hBk F S b1 n1 σ0 τ0) (hB2 : hBk F S b2 n2 σ0 τ0) : ∀ d T m m' s1 s2 σ τ, T + d = 5122 → d < m → d < m' → gF σ0 τ0 σ τ → nR 30 23 12 b1 F n1 ly1 aw M T s1 σ τ → nR 33 24 13 b2 F n2 ly2 aw M T s2 σ τ → hD T s1 s2 σ τ → jJ T s1 s2 →
    ∃ v σ' τ', nLp (fun _ _ => none) (fun again => b_X8_nights_118 N (l_X8_nights_148 N again) (l_X8_nights_188 N)) m σ (nI T) = some (nI v, wr σ' 0 12 (nI 0)) ∧ nLp (fun _ _ _ => none) (fun again => b_X11_nights_124 N (l_X11_nights_146 N again)) m' τ (nI aw) (nI T) = some (nI v, wr (wr (wr τ' 0 61 (nI 1)) 0 1 (nI 0)) 0 2 nM1) ∧ gF σ0 τ0 σ' τ' ∧ nEnd 30 23 σ' τ' ∧ nEnd 33 24 σ' τ' ∧ nMk 12 M τ' ∧ nMk 13 M τ' := by
  have stop : ∀ T m m' σ τ, T ≤ 5122 → 0 < m → 0 < m' → gF σ0 τ0 σ τ → nR 30 23 12 b1 F n1 ly1 aw M T 0 σ τ → nR 33 24 13 b2 F n2 ly2 aw M T 0 σ τ → ∃ v σ' τ', nLp (fun _ _ => none) (fun again => b_X8_nights_118 N (l_X8_nights_148 N again) (l_X8_nights_188 N)) m σ (nI T) = some (nI v, wr σ' 0 12 (nI 0)) ∧ nLp (fun _ _ _ => none) (fun again => b_X11_nights_124 N (l_X11_nights_146 N again)) m' τ (nI aw) (nI T) = some (nI v, wr (wr (wr τ' 0 61 (nI 1)) 0 1 (nI 0)) 0 2 nM1) ∧ gF σ0 τ0 σ' τ' ∧ nEnd 30 23 σ' τ' ∧ nEnd 33 24 σ' τ' ∧ nMk 12 M τ' ∧ nMk 13 M τ' := by
    intro T m m' σ τ hT hm hm' hg r1 r2
    obtain ⟨⟨e, t, he, ht, p1, p2, p3, p4, p5⟩, q1⟩ := r1.over
    obtain ⟨⟨e', t', he', ht', p1', p2', p3', p4', p5'⟩, q2⟩ := r2.over
    have ne1 := eq_false (nM1ne e (by omega))
    have ne2 := eq_false (nM1ne e' (by omega))
    refine ⟨if t < t' then t' else t, σ, τ, ?_, ?_, hg, ⟨e, t, he, ht, p1, p2, p3, p4, p5⟩, ⟨e', t', he', ht', p1', p2', p3', p4', p5'⟩, q1, q2⟩
    · rw [nLpP _ _ hm]
      by_cases hlt : t < t'
      · rw [if_pos hlt]
        simp (disch := first | omega | exact nM1_n | exact nM2_n | assumption) only [b_X8_nights_118, l_X8_nights_188, b_X8_nights_188, b_X8_accept_0, l_X8_accept_0, f_X8_accept, p1, p1', ne1, ne2, p3, p3', ↓nLetR, ↓reduceIte, ↓e_m1, ↓e_m2, e_0, e_1, e_2, e_3, e_4, e_5, e_6, e_7, e_8, e_9, e_10, e_11, e_12, e_13, e_14, e_15, e_16, e_17, e_18, e_19, e_20, e_21, e_22, e_23, e_24, e_25, e_26, e_27, e_28, e_29, e_30, e_31, e_32, e_33, e_48, e_57, e_59, e_60, e_63, e_64, e_96, e_97, e_99, e_120, e_122, e_192, e_200, e_255, e_256, e_300, e_500, e_600, e_2000, e_5000, e_5240, e_6146, e_20000, e_65536, nIo, nI_clamp, nIxt, nI_1, nI_add, nI_mul, nI_eqF, nI_ltT, nI_ltF, nI_leT, nI_leF, nN_lt0, nN_le, nN_lt, nN_eq, nN_eq', eq_self, nBdS]
      · rw [if_neg hlt]
        simp (disch := first | omega | exact nM1_n | exact nM2_n | assumption) only [b_X8_nights_118, l_X8_nights_188, b_X8_nights_188, b_X8_accept_0, l_X8_accept_0, f_X8_accept, p1, p1', ne1, ne2, p3, p3', ↓nLetR, ↓reduceIte, ↓e_m1, ↓e_m2, e_0, e_1, e_2, e_3, e_4, e_5, e_6, e_7, e_8, e_9, e_10, e_11, e_12, e_13, e_14, e_15, e_16, e_17, e_18, e_19, e_20, e_21, e_22, e_23, e_24, e_25, e_26, e_27, e_28, e_29, e_30, e_31, e_32, e_33, e_48, e_57, e_59, e_60, e_63, e_64, e_96, e_97, e_99, e_120, e_122, e_192, e_200, e_255, e_256, e_300, e_500, e_600, e_2000, e_5000, e_5240, e_6146, e_20000, e_65536, nIo, nI_clamp, nIxt, nI_1, nI_add, nI_mul, nI_eqF, nI_ltT, nI_ltF, nI_leT, nI_leF, nN_lt0, nN_le, nN_lt, nN_eq, nN_eq', eq_self, nBdS]
    · rw [nLpP _ _ hm']
      by_cases hlt : t < t'
      · rw [if_pos hlt]
        simp (disch := first | omega | exact nM1_n | exact nM2_n | assumption) only [b_X11_nights_124, b_X11_done_0, l_X11_done_0, f_X11_done, p2, p2', ne1, ne2, p4, p4', ↓nLetR, ↓reduceIte, ↓e_m1, ↓e_m2, e_0, e_1, e_2, e_3, e_4, e_5, e_6, e_7, e_8, e_9, e_10, e_11, e_12, e_13, e_14, e_15, e_16, e_17, e_18, e_19, e_20, e_21, e_22, e_23, e_24, e_25, e_26, e_27, e_28, e_29, e_30, e_31, e_32, e_33, e_48, e_57, e_59, e_60, e_63, e_64, e_96, e_97, e_99, e_120, e_122, e_192, e_200, e_255, e_256, e_300, e_500, e_600, e_2000, e_5000, e_5240, e_6146, e_20000, e_65536, nIo, nI_clamp, nIxt, nI_1, nI_add, nI_mul, nI_eqF, nI_ltT, nI_ltF, nI_leT, nI_leF, nN_lt0, nN_le, nN_lt, nN_eq, nN_eq', eq_self, nBdS, wrs, wrk, wrc, wr2, wl1, wls, wlk, wlc]
      · rw [if_neg hlt]
        simp (disch := first | omega | exact nM1_n | exact nM2_n | assumption) only [b_X11_nights_124, b_X11_done_0, l_X11_done_0, f_X11_done, p2, p2', ne1, ne2, p4, p4', ↓nLetR, ↓reduceIte, ↓e_m1, ↓e_m2, e_0, e_1, e_2, e_3, e_4, e_5, e_6, e_7, e_8, e_9, e_10, e_11, e_12, e_13, e_14, e_15, e_16, e_17, e_18, e_19, e_20, e_21, e_22, e_23, e_24, e_25, e_26, e_27, e_28, e_29, e_30, e_31, e_32, e_33, e_48, e_57, e_59, e_60, e_63, e_64, e_96, e_97, e_99, e_120, e_122, e_192, e_200, e_255, e_256, e_300, e_500, e_600, e_2000, e_5000, e_5240, e_6146, e_20000, e_65536, nIo, nI_clamp, nIxt, nI_1, nI_add, nI_mul, nI_eqF, nI_ltT, nI_ltF, nI_leT, nI_leF, nN_lt0, nN_le, nN_lt, nN_eq, nN_eq', eq_self, nBdS, wrs, wrk, wrc, wr2, wl1, wls, wlk, wlc]
  intro d
  induction d with
  | zero =>
    intro T m m' s1 s2 σ τ hT hm hm' hg r1 r2 hh hj
    have hT2 : T = 5122 := by omega
    subst hT2
    obtain ⟨rfl, rfl⟩ := hj.end
    exact stop 5122 m m' σ τ (by omega) hm hm' hg r1 r2
  | succ d ih =>
    intro T m m' s1 s2 σ τ hT hm hm' hg r1 r2 hh hj
    by_cases hz : s1 = 0 ∧ s2 = 0
    · obtain ⟨rfl, rfl⟩ := hz
      exact stop T m m' σ τ (by omega) (by omega) (by omega) hg r1 r2
    obtain ⟨j1, j2, j3, j4, j5, j6⟩ := id hj
    have k31 : τ.1 0 31 = nI M := by rw [hg.2 0 (by decide) (by decide) (by decide) (by decide) (by decide)]; exact h31
    obtain ⟨s1', σ1, τ1, p1, p2, o1, o2, o3, o4, o5, o6, o7, o8, o9⟩ := tick_is (N := N) hN (by decide) (by decide) (by decide) (by omega) hM k31 (hg.hs hH) (hg.bk hB1) (fun p hp => (hh p hp).1) r1 j1 (fun h => (j5 h).1)
    have hg1 := hg.one o2
    have r2' : nR 33 24 13 b2 F n2 ly2 aw M T s2 σ1 τ1 := r2.fr (o2.1 33 (by decide) (by decide) (by decide)) (o2.2.1 34 (by decide)) (o2.2.2 24 (by decide) (by decide) (by decide)) (o2.2.2 13 (by decide) (by decide) (by decide)) (o2.2.2 1 (by decide) (by decide) (by decide)) (o2.2.2 4 (by decide) (by decide) (by decide)) (o2.2.2 5 (by decide) (by decide) (by decide)) (o2.2.2 6 (by decide) (by decide) (by decide)) (o2.2.2 7 (by decide) (by decide) (by decide))
    have jt1 : jT T s1 s1' := ⟨o5, o6, o7, o8, o9⟩
    have su1 : s1' < 5500 := by
      by_cases h3 : 3 ≤ s1'
      · have := half j1 j3 j5 j6 jt1 (b := fun h => h) h3
        omega
      · omega
    have a6 : s1' = 2 → T + 4 ≤ s2 := by
      intro h
      obtain ⟨g1, p, hp, g2⟩ := o4 h
      obtain ⟨_, y, hy, ey, hy2⟩ := hh p hp
      rw [ey] at g2
      have hyT : T < y := by
        by_cases hc : T < y
        · exact hc
        · exact absurd g2 (nI_nlt (by omega) (by omega))
      rcases hy2 with h' | h' | h'
      · omega
      · rcases g1 with g1 | g1 | g1 <;> omega
      · omega
    have hh1 : ∀ p, p < 4 → σ1.1 11 p = τ1.1 25 p ∧ ∃ y, y < 9000 ∧ σ1.1 11 p = nI y ∧ (y ≤ T ∨ (3 ≤ s1' ∧ y + 3 ≤ s1') ∨ (3 ≤ s2 ∧ y + 3 ≤ s2)) := by
      intro p hp
      obtain ⟨g1, g2⟩ := o3 p hp
      refine ⟨g1, ?_⟩
      rcases g2 with g2 | ⟨u, g2, g3⟩
      · obtain ⟨_, y, hy, ey, hy2⟩ := hh p hp
        refine ⟨y, hy, g2.trans ey, ?_⟩
        rcases hy2 with h | h | h
        · exact Or.inl h
        · rcases o8 h.1 with q | q
          · exact Or.inr (Or.inl (by omega))
          · exact Or.inl (by omega)
        · exact Or.inr (Or.inr h)
      · exact ⟨u, by omega, g3, Or.inr (Or.inl (by omega))⟩
    have k31' : τ1.1 0 31 = nI M := by rw [o2.2.2 0 (by decide) (by decide) (by decide)]; exact k31
    obtain ⟨s2', σ2, τ2, q1, q2, u1, u2, u3, u4, u5, u6, u7, u8, u9⟩ := tick_is (N := N) hN (by decide) (by decide) (by decide) (by omega) hM k31' (hg1.hs hH) (hg1.bk hB2) (fun p hp => (hh1 p hp).1) r2' j2 (fun h => (j6 h).1)
    have jt2 : jT T s2 s2' := ⟨u5, u6, u7, u8, u9⟩
    have b6 : s2' = 2 → T + 4 ≤ s1' := by
      intro h
      obtain ⟨g1, p, hp, g2⟩ := u4 h
      obtain ⟨_, y, hy, ey, hy2⟩ := hh1 p hp
      rw [ey] at g2
      have hyT : T < y := by
        by_cases hc : T < y
        · exact hc
        · exact absurd g2 (nI_nlt (by omega) (by omega))
      rcases hy2 with h' | h' | h'
      · omega
      · omega
      · rcases g1 with g1 | g1 | g1 <;> omega
    have su2 : s2' < 5500 := by
      by_cases h3 : 3 ≤ s2'
      · have := half j2 j4 j6 j5 jt2 (b := fun h => h) h3
        omega
      · omega
    have r1' : nR 30 23 12 b1 F n1 ly1 aw M (T + 1) s1' σ2 τ2 := o1.fr (u2.1 30 (by decide) (by decide) (by decide)) (u2.2.1 31 (by decide)) (u2.2.2 23 (by decide) (by decide) (by decide)) (u2.2.2 12 (by decide) (by decide) (by decide)) (u2.2.2 1 (by decide) (by decide) (by decide)) (u2.2.2 4 (by decide) (by decide) (by decide)) (u2.2.2 5 (by decide) (by decide) (by decide)) (u2.2.2 6 (by decide) (by decide) (by decide)) (u2.2.2 7 (by decide) (by decide) (by decide))
    have hh2 : hD (T + 1) s1' s2' σ2 τ2 := by
      intro p hp
      obtain ⟨g1, g2⟩ := u3 p hp
      refine ⟨g1, ?_⟩
      rcases g2 with g2 | ⟨u, g2, g3⟩
      · obtain ⟨_, y, hy, ey, hy2⟩ := hh1 p hp
        refine ⟨y, hy, g2.trans ey, ?_⟩
        rcases hy2 with h | h | h
        · exact Or.inl (by omega)
        · exact Or.inr (Or.inl h)
        · rcases u8 h.1 with q | q
          · exact Or.inr (Or.inr (by omega))
          · exact Or.inl (by omega)
      · exact ⟨u, by omega, g3, Or.inr (Or.inr (by omega))⟩
    obtain ⟨v, σ', τ', w1, w2, w3⟩ := ih (T + 1) (m - 1) (m' - 1) s1' s2' σ2 τ2 (by omega) (by omega) (by omega) (hg1.two u2) r1' u1 hh2 (hj.step jt1 a6 jt2 b6)
    refine ⟨v, σ', τ', ?_, ?_, w3⟩
    · rw [nLpP _ _ (by omega)]
      by_cases h0 : s1 = 0
      · have l2 := (r2.live (fun h => hz ⟨h0, h⟩)).1
        subst h0
        obtain ⟨⟨e, t, he, _, x1, _⟩, _⟩ := r1.over
        have ne1 := eq_false (nM1ne e (by omega))
        simp (disch := first | omega | exact nM1_n | exact nM2_n | assumption) only [b_X8_nights_118, l_X8_nights_148, b_X8_nights_148, x1, ne1, l2, p1, q1, ↓nLetR, ↓reduceIte, ↓e_m1, ↓e_m2, e_0, e_1, e_2, e_3, e_4, e_5, e_6, e_7, e_8, e_9, e_10, e_11, e_12, e_13, e_14, e_15, e_16, e_17, e_18, e_19, e_20, e_21, e_22, e_23, e_24, e_25, e_26, e_27, e_28, e_29, e_30, e_31, e_32, e_33, e_48, e_57, e_59, e_60, e_63, e_64, e_96, e_97, e_99, e_120, e_122, e_192, e_200, e_255, e_256, e_300, e_500, e_600, e_2000, e_5000, e_5240, e_6146, e_20000, e_65536, nIo, nI_clamp, nIxt, nI_1, nI_add, nI_mul, nI_eqF, nI_ltT, nI_ltF, nI_leT, nI_leF, nN_lt0, nN_le, nN_lt, nN_eq, nN_eq', eq_self, nBdS]
        exact w1
      · have l1 := (r1.live h0).1
        simp (disch := first | omega | exact nM1_n | exact nM2_n | assumption) only [b_X8_nights_118, l_X8_nights_148, b_X8_nights_148, l1, p1, q1, ↓nLetR, ↓reduceIte, ↓e_m1, ↓e_m2, e_0, e_1, e_2, e_3, e_4, e_5, e_6, e_7, e_8, e_9, e_10, e_11, e_12, e_13, e_14, e_15, e_16, e_17, e_18, e_19, e_20, e_21, e_22, e_23, e_24, e_25, e_26, e_27, e_28, e_29, e_30, e_31, e_32, e_33, e_48, e_57, e_59, e_60, e_63, e_64, e_96, e_97, e_99, e_120, e_122, e_192, e_200, e_255, e_256, e_300, e_500, e_600, e_2000, e_5000, e_5240, e_6146, e_20000, e_65536, nIo, nI_clamp, nIxt, nI_1, nI_add, nI_mul, nI_eqF, nI_ltT, nI_ltF, nI_leT, nI_leF, nN_lt0, nN_le, nN_lt, nN_eq, nN_eq', eq_self, nBdS]
        exact w1
    · rw [nLpP _ _ (by omega)]
      by_cases h0 : s1 = 0
      · have l2 := (r2.live (fun h => hz ⟨h0, h⟩)).2
        subst h0
        obtain ⟨⟨e, t, he, _, _, x1, _⟩, _⟩ := r1.over
        have ne1 := eq_false (nM1ne e (by omega))
        simp (disch := first | omega | exact nM1_n | exact nM2_n | assumption) only [b_X11_nights_124, l_X11_nights_146, b_X11_nights_146, x1, ne1, l2, p2, q2, ↓nLetR, ↓reduceIte, ↓e_m1, ↓e_m2, e_0, e_1, e_2, e_3, e_4, e_5, e_6, e_7, e_8, e_9, e_10, e_11, e_12, e_13, e_14, e_15, e_16, e_17, e_18, e_19, e_20, e_21, e_22, e_23, e_24, e_25, e_26, e_27, e_28, e_29, e_30, e_31, e_32, e_33, e_48, e_57, e_59, e_60, e_63, e_64, e_96, e_97, e_99, e_120, e_122, e_192, e_200, e_255, e_256, e_300, e_500, e_600, e_2000, e_5000, e_5240, e_6146, e_20000, e_65536, nIo, nI_clamp, nIxt, nI_1, nI_add, nI_mul, nI_eqF, nI_ltT, nI_ltF, nI_leT, nI_leF, nN_lt0, nN_le, nN_lt, nN_eq, nN_eq', eq_self, nBdS]
        exact w2
      · have l1 := (r1.live h0).2
        simp (disch := first | omega | exact nM1_n | exact nM2_n | assumption) only [b_X11_nights_124, l_X11_nights_146, b_X11_nights_146, l1, p2, q2, ↓nLetR, ↓reduceIte, ↓e_m1, ↓e_m2, e_0, e_1, e_2, e_3, e_4, e_5, e_6, e_7, e_8, e_9, e_10, e_11, e_12, e_13, e_14, e_15, e_16, e_17, e_18, e_19, e_20, e_21, e_22, e_23, e_24, e_25, e_26, e_27, e_28, e_29, e_30, e_31, e_32, e_33, e_48, e_57, e_59, e_60, e_63, e_64, e_96, e_97, e_99, e_120, e_122, e_192, e_200, e_255, e_256, e_300, e_500, e_600, e_2000, e_5000, e_5240, e_6146, e_20000, e_65536, nIo, nI_clamp, nIxt, nI_1, nI_add, nI_mul, nI_eqF, nI_ltT, nI_ltF, nI_leT, nI_leF, nN_lt0, nN_le, nN_lt, nN_eq, nN_eq', eq_self, nBdS]
        exact w2
