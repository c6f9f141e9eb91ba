/-! A PLAY, turn by turn -/
theorem hFr.step {w : Nat} {σ0 τ0 σ τ σ' τ' : nS} (h : hFr w σ0 τ0 σ τ) (qf : ∀ d, d ≠ w → d ≠ w + 2 → d ≠ 11 → σ'.1 d = σ.1 d) (rf : ∀ d, d ≠ 0 → d ≠ 12 → d ≠ 14 → τ'.1 d = τ.1 d) (rg : ∀ f, (f < 32 ∨ 36 < f) → τ'.1 0 f = τ.1 0 f) : hFr w σ0 τ0 σ' τ' :=
  ⟨fun d a b c => (qf d a b c).trans (h.1 d a b c), fun d a b c => (rf d a b c).trans (h.2.1 d a b c), fun f a => (rg f (by omega)).trans (h.2.2 f a)⟩
theorem hMk.up {M k x : Nat} {τ τ' : nS} (h : hMk M τ) (h1 : τ'.1 0 31 = τ.1 0 31) (h2 : τ'.1 12 = upd (τ.1 12) (256 * k + x) (nI M)) : hMk M τ' := by
  refine ⟨h1.trans h.1, fun j hj => ?_⟩
  rw [h2]
  by_cases e : j = 256 * k + x
  · exact ⟨M, Nat.le_refl M, by rw [e, pk_us]⟩
  · rw [pk_un e]
    exact h.2 j hj
theorem hR_next {w b F n ly aw M k x t c : Nat} {σ0 τ0 σ τ : nS} (R : hR w b F n ly aw σ0 τ0 M k x t c σ τ) (hx : x < 256) {k' x' t' : Nat} (hx' : x' < 2 ^ F) (hk' : k' ≤ n) (ht : t ≤ t') (ht' : t' ≤ 5000) {σ' τ' : nS}
    (A : σ'.1 w 2 = nI b ∧ σ'.1 w 3 = nI x' ∧ σ'.1 w 4 = nI ly ∧ σ'.1 w 5 = nI aw ∧ σ'.1 w 6 = nI k' ∧ σ'.1 w 7 = nI 0 ∧ σ'.1 w 8 = nI t' ∧ σ'.1 w 10 = nI (c + 1) ∧ σ'.1 w 11 = nM1)
    (q2 : σ'.2 (w + 1) = (sC w k x c σ).2 (w + 1)) (qp : σ'.1 (w + 2) = (sC w k x c σ).1 (w + 2)) (q11 : ∀ p, p < 4 → σ'.1 11 p = σ.1 11 p ∨ σ'.1 11 p = nI t') (qf : ∀ d, d ≠ w → d ≠ w + 2 → d ≠ 11 → σ'.1 d = σ.1 d)
    (Bb : τ'.1 0 32 = nM1 ∧ τ'.1 0 33 = nI t' ∧ τ'.1 0 34 = nI (c + 1) ∧ τ'.1 0 35 = nI x') (r12 : τ'.1 12 = (tC k x c M τ).1 12) (r14 : τ'.1 14 = (tC k x c M τ).1 14)
    (rf : ∀ d, d ≠ 0 → d ≠ 12 → d ≠ 14 → τ'.1 d = τ.1 d) (rg : ∀ f, (f < 32 ∨ 36 < f) → τ'.1 0 f = τ.1 0 f) : hR w b F n ly aw σ0 τ0 M k' x' t' (c + 1) σ' τ' := by
  obtain ⟨_, R2, _, _, R5, R6, R7, R8⟩ := R
  refine ⟨A, fun p hp => ?_, Bb, ⟨hx', hk', ht'⟩, ?_, ?_, ?_, R8.step qf rf rg⟩
  · rcases q11 p hp with e | e
    · obtain ⟨y, hy, ey⟩ := R2 p hp
      exact ⟨y, by omega, e.trans ey⟩
    · exact ⟨t', Nat.le_refl _, e⟩
  · rw [q2, r12, sC_2, tC_12]
    exact R5.mark hx (sb_m x hx)
  · exact R6.up (rg 31 (by omega)) (r12.trans tC_12)
  · rw [qp, r14, sC_p, tC_14]
    exact path_up R7
theorem pow_le8 {F : Nat} (h : F ≤ 8) : 2 ^ F ≤ 256 := Nat.pow_le_pow_right (n := 2) (by decide) h
theorem play_go {N w b F S P B n ly aw M : Nat} {σ0 τ0 : nS} (hN : 10 ≤ N) (hw : 24 ≤ w) (hM : M < 2 ^ 31) (hH : hHs F S P B σ0 τ0) (hB : hBk F S b n σ0 τ0) :
    ∀ u m1 m2 k x t c σ τ, hR w b F n ly aw σ0 τ0 M k x t c σ τ → cU (τ.1 12) (nI M) 6144 = u → u + c ≤ 6144 → u + 3 ≤ m1 → u + 3 ≤ m2 →
      ∃ e σ1 τ1, l_X6_goOn_40 N w (gG N w m1) σ (nI 5240) (nI c) = some (nI 0, σ1) ∧ mP N m2 τ (nI b) (nI ly) (nI aw) (nI k) = some (nI e, τ1) ∧ hF w M σ0 τ0 e σ1 τ1 := by
  intro u
  induction u using Nat.strongRecOn with
  | ind u ih =>
  intro m1 m2 k x t c σ τ R hu huc hm1 hm2
  obtain ⟨⟨a2, a3, a4, a5, a6, a7, a8, a10, a11⟩, R2, ⟨b32, b33, b34, b35⟩, ⟨hxF, hkn, ht⟩, R5, R6, R7, R8⟩ := id R
  obtain ⟨hb, ⟨hn1, hn⟩, hs0, ht0, hst⟩ := id hB
  obtain ⟨⟨bF, bS, bP, bB⟩, ⟨w0, w1, w2, w3⟩, ⟨y0, y1, y2, y3⟩, ⟨hg, g, hg2, hg3⟩, hsf, hsk⟩ := id hH
  have hx : x < 256 := Nat.lt_of_lt_of_le hxF (pow_le8 bF)
  have hcb : c < 10000 := by omega
  have fs : ∀ d, d < 11 → σ.1 d = σ0.1 d := fun d h => R8.1 d (by omega) (by omega) (by omega)
  have ft : ∀ d, d ≠ 0 → d ≠ 12 → d ≠ 14 → τ.1 d = τ0.1 d := R8.2.1
  have hs : σ.1 4 b = nI n := by rw [fs 4 (by decide)]; exact hs0
  have hts : τ.1 3 b = nI n := by rw [ft 3 (by decide) (by decide) (by decide)]; exact ht0
  by_cases hkn2 : k = n
  · subst hkn2
    refine ⟨5, _, _, g40_ce (by omega) a11 a7 (come_over hb hn a2 hs a6) (by rw [wrs]; exact nI_m1 5 (by decide)), m_over (by omega) hb hn b32 hts, by decide, wrs _ _ _ _, wrs _ _ _ _, ⟨t, by omega, ?_, ?_⟩, ⟨c, by omega, ?_, ?_, ?_⟩, ⟨x, hx, ?_, ?_⟩, ⟨k, hn, ?_, ?_⟩, ⟨?_, ?_⟩, R8.step ?_ ?_ ?_⟩
    · simp (disch := omega) only [wrs, wrk, wrc, wr2, wl1, wls, wlk, wlc]; exact a8
    · simp (disch := omega) only [wrs, wrk, wrc, wr2, wl1, wls, wlk, wlc]; exact b33
    · simp (disch := omega) only [wrs, wrk, wrc, wr2, wl1, wls, wlk, wlc]; exact a10
    · simp (disch := omega) only [wrs, wrk, wrc, wr2, wl1, wls, wlk, wlc]; exact b34
    · simp (disch := omega) only [wrs, wrk, wrc, wr2, wl1, wls, wlk, wlc]; exact R7
    · simp (disch := omega) only [wrs, wrk, wrc, wr2, wl1, wls, wlk, wlc]; exact a3
    · simp (disch := omega) only [wrs, wrk, wrc, wr2, wl1, wls, wlk, wlc]; exact b35
    · simp (disch := omega) only [wrs, wrk, wrc, wr2, wl1, wls, wlk, wlc]; exact a6
    · simp (disch := omega) only [wrs, wrk, wrc, wr2, wl1, wls, wlk, wlc]
    · simp (disch := omega) only [wrs, wrk, wrc, wr2, wl1, wls, wlk, wlc]; exact R6.1
    · simp (disch := omega) only [wrs, wrk, wrc, wr2, wl1, wls, wlk, wlc]; exact R6.2
    · intro d d1 d2 d3; simp (disch := omega) only [wrs, wrk, wrc, wr2, wl1, wls, wlk, wlc]
    · intro d d1 d2 d3; simp (disch := omega) only [wrs, wrk, wrc, wr2, wl1, wls, wlk, wlc]
    · intro f d1; simp (disch := omega) only [wrs, wrk, wrc, wr2, wl1, wls, wlk, wlc]
  have hk : k < n := by omega
  have e101 := m_101 (N := N) (m := m2) (x3 := nI ly) (x4 := nI aw) (by omega) hb hn hk hcb b32 b34 hts
  have q34 : (qW c k (wr τ 0 36 (nI k))).1 0 34 = nI c := by simp (disch := omega) only [wrs, wrk, wrc, wr2, wl1, wls, wlk, wlc, qW_1]; exact b34
  have q35 : (qW c k (wr τ 0 36 (nI k))).1 0 35 = nI x := by simp (disch := omega) only [wrs, wrk, wrc, wr2, wl1, wls, wlk, wlc, qW_1]; exact b35
  have q31 : (qW c k (wr τ 0 36 (nI k))).1 0 31 = nI M := by simp (disch := omega) only [wrs, wrk, wrc, wr2, wl1, wls, wlk, wlc, qW_1]; exact R6.1
  have q33 : (qW c k (wr τ 0 36 (nI k))).1 0 33 = nI t := by simp (disch := omega) only [wrs, wrk, wrc, wr2, wl1, wls, wlk, wlc, qW_1]; exact b33
  have q12 : (qW c k (wr τ 0 36 (nI k))).1 12 = τ.1 12 := by simp (disch := omega) only [wrs, wrk, wrc, wr2, wl1, wls, wlk, wlc, qW_1]
  by_cases hseen : τ.1 12 (256 * k + x) = nI M
  · have hbit := (R5 k (by omega) x hx).mpr hseen
    rw [e101, m_seen (by omega) hx hM q34 q35 q31 (by rw [q12]; exact hseen)]
    refine ⟨4, _, _, g40_ce (by omega) a11 a7 (come_again hw hb hn hk hx hcb a2 hs a6 a3 a10 hbit) ?_, rfl, by decide, ?_, wrs _ _ _ _, ⟨t, by omega, ?_, ?_⟩, ⟨c + 1, by omega, ?_, ?_, ?_⟩, ⟨x, hx, ?_, ?_⟩, ⟨k, by omega, ?_, ?_⟩, ⟨?_, ?_⟩, R8.step ?_ ?_ ?_⟩
    · simp (disch := omega) only [wrs, wrk, wrc, wr2, wl1, wls, wlk, wlc]; exact nI_m1 4 (by decide)
    · simp (disch := omega) only [wrs, wrk, wrc, wr2, wl1, wls, wlk, wlc]
    · simp (disch := omega) only [wrs, wrk, wrc, wr2, wl1, wls, wlk, wlc, pW_1]; exact a8
    · simp (disch := omega) only [wrs, wrk, wrc, wr2, wl1, wls, wlk, wlc, qW_1]; exact b33
    · simp (disch := omega) only [wrs, wrk, wrc, wr2, wl1, wls, wlk, wlc]
    · simp (disch := omega) only [wrs, wrk, wrc, wr2, wl1, wls, wlk, wlc]
    · simp (disch := omega) only [wl1, wrc]; exact path_up R7
    · simp (disch := omega) only [wrs, wrk, wrc, wr2, wl1, wls, wlk, wlc, pW_1]; exact a3
    · simp (disch := omega) only [wrs, wrk, wrc, wr2, wl1, wls, wlk, wlc, qW_1]; exact b35
    · simp (disch := omega) only [wrs, wrk, wrc, wr2, wl1, wls, wlk, wlc, pW_1]; exact a6
    · simp (disch := omega) only [wrs, wrk, wrc, wr2, wl1, wls, wlk, wlc, qW_1]
    · simp (disch := omega) only [wrs, wrk, wrc, wr2, wl1, wls, wlk, wlc, qW_1]; exact R6.1
    · simp (disch := omega) only [wrs, wrk, wrc, wr2, wl1, wls, wlk, wlc, qW_1]; exact R6.2
    · intro d d1 d2 d3; simp (disch := omega) only [wrs, wrk, wrc, wr2, wl1, wls, wlk, wlc, pW_1]
    · intro d d1 d2 d3; simp (disch := omega) only [wrs, wrk, wrc, wr2, wl1, wls, wlk, wlc, qW_1]
    · intro f d1; simp (disch := omega) only [wrs, wrk, wrc, wr2, wl1, wls, wlk, wlc, qW_1]
  have hbit : sb (σ.2 (w + 1) (k * 4 + x / 64)) (x % 64) = false := by
    cases hb2 : sb (σ.2 (w + 1) (k * 4 + x / 64)) (x % 64) with
    | false => rfl
    | true => exact absurd ((R5 k (by omega) x hx).mp hb2) hseen
  have hcome : f_X6_come N w σ = some (nI 0, sC w k x c σ) := come_new hw hb hn hk hx hcb a2 hs a6 a3 a10 hbit
  have hq12 : ¬ (qW c k (wr τ 0 36 (nI k))).1 12 (256 * k + x) = nI M := by rw [q12]; exact hseen
  have hcu : cU ((tC k x c M τ).1 12) (nI M) 6144 + 1 = u := by
    rw [tC_12, ← hu]
    exact cU_upd (by omega) hseen
  have cs : ∀ d, d < 11 → (sC w k x c σ).1 d = σ0.1 d := fun d h => (sC_1 (by omega) (by omega)).trans (fs d h)
  have ct : ∀ d, d ≠ 0 → d ≠ 12 → d ≠ 14 → (qW c k (wr τ 0 36 (nI k))).1 d = τ0.1 d := fun d h1 h2 h3 => by
    rw [qW_1 h3, wrc _ _ _ h1]
    exact ft d h1 h2 h3
  obtain ⟨⟨d0, d1, d2, d3, d4⟩, hok⟩ := hst k hk
  -- the step ends the play where it begins
  have fin : ∀ e, e < 7 → hF w M σ0 τ0 e (wr (sC w k x c σ) w 11 (nI e)) (wr (tC k x c M τ) 0 32 (nI e)) := by
    intro e he
    refine ⟨he, wrs _ _ _ _, wrs _ _ _ _, ⟨t, by omega, ?_, ?_⟩, ⟨c + 1, by omega, ?_, ?_, ?_⟩, ⟨x, hx, ?_, ?_⟩, ⟨k, by omega, ?_, ?_⟩, hMk.up R6 (k := k) (x := x) ?_ ?_, R8.step ?_ ?_ ?_⟩
    · rw [wrk _ _ _ (by decide), sC_w (by decide)]; exact a8
    · rw [wrk _ _ _ (by decide), tC_f (by decide) (by decide)]; exact b33
    · rw [wrk _ _ _ (by decide)]; exact sC_c
    · rw [wrk _ _ _ (by decide)]; exact tC_34
    · simp (disch := omega) only [wrc, sC_p, tC_14]; exact path_up R7
    · rw [wrk _ _ _ (by decide), sC_w (by decide)]; exact a3
    · rw [wrk _ _ _ (by decide), tC_f (by decide) (by decide)]; exact b35
    · rw [wrk _ _ _ (by decide), sC_w (by decide)]; exact a6
    · rw [wrk _ _ _ (by decide)]; exact tC_36
    · rw [wrk _ _ _ (by decide), tC_f (by decide) (by decide)]
    · rw [wrc _ _ _ (by decide)]; exact tC_12
    · intro d d1 d2 d3; simp (disch := omega) only [wrc, sC_1]
    · intro d d1 d2 d3; simp (disch := omega) only [wrc, tC_1]
    · intro f d1; simp (disch := omega) only [wrk, tC_f]
  -- the step goes its time
  have tail : ∀ (k' x' t' : Nat) (σd σf τe : nS), x' < 2 ^ F → k' ≤ n → t ≤ t' → t' ≤ t + 60 → σd.1 w 11 = nM1 → σd.1 w 7 = nI 2 → σd.1 w 8 = nI t' →
      f_X6_finish N w σd = l_X6_finish_171 N w σf (nI k') →
      (σf.1 w 2 = nI b ∧ σf.1 w 3 = nI x' ∧ σf.1 w 4 = nI ly ∧ σf.1 w 5 = nI aw ∧ σf.1 w 6 = nI k ∧ σf.1 w 8 = nI t' ∧ σf.1 w 10 = nI (c + 1) ∧ σf.1 w 11 = nM1) →
      σf.2 (w + 1) = (sC w k x c σ).2 (w + 1) → σf.1 (w + 2) = (sC w k x c σ).1 (w + 2) → (∀ p, p < 4 → σf.1 11 p = σ.1 11 p ∨ σf.1 11 p = nI t') → (∀ d, d ≠ w → d ≠ w + 2 → d ≠ 11 → σf.1 d = σ.1 d) →
      (τe.1 0 32 = nM1 ∧ τe.1 0 33 = nI t' ∧ τe.1 0 34 = nI (c + 1) ∧ τe.1 0 35 = nI x' ∧ τe.1 0 36 = nI k) → τe.1 12 = (tC k x c M τ).1 12 → τe.1 14 = (tC k x c M τ).1 14 →
      (∀ d, d ≠ 0 → d ≠ 12 → d ≠ 14 → τe.1 d = τ.1 d) → (∀ f, (f < 32 ∨ 36 < f) → τe.1 0 f = τ.1 0 f) →
      ∃ e σ1 τ1, gG N w m1 σd (nI 5240) (nI (c + 1)) = some (nI 0, σ1) ∧ l_X11_plays_399 N (mP N (m2 - 1)) τe (nI b) (nI ly) (nI aw) (nI k') = some (nI e, τ1) ∧ hF w M σ0 τ0 e σ1 τ1 := by
    intro k' x' t' σd σf τe hx' hk' ht1 ht2 z11 z7 z8 hfin ⟨f2, f3, f4, f5, f6, f8, f10, f11⟩ q2 qp q11 qf ⟨g32, g33, g34, g35, g36⟩ r12 r14 rf rg
    rw [g_fin (by omega) z11 z7 z8 (by omega) (by decide) (by omega), hfin]
    by_cases hl : t' ≤ 5000
    · rw [fin_s f8 hl, nBdS, m399_on g32 g33 hl]
      refine ih (cU (τe.1 12) (nI M) 6144) (by rw [r12]; omega) (m1 - 1) (m2 - 1) k' x' t' (c + 1) _ τe (hR_next R hx hx' hk' ht1 hl ⟨?_, ?_, ?_, ?_, ?_, ?_, ?_, ?_, ?_⟩ ?_ ?_ ?_ ?_ ⟨g32, g33, g34, g35⟩ r12 r14 rf rg) rfl (by rw [r12]; omega) (by rw [r12]; omega) (by rw [r12]; omega)
      · simp (disch := omega) only [wrs, wrk, wrc, wr2, wl1, wls, wlk, wlc]; exact f2
      · simp (disch := omega) only [wrs, wrk, wrc, wr2, wl1, wls, wlk, wlc]; exact f3
      · simp (disch := omega) only [wrs, wrk, wrc, wr2, wl1, wls, wlk, wlc]; exact f4
      · simp (disch := omega) only [wrs, wrk, wrc, wr2, wl1, wls, wlk, wlc]; exact f5
      · simp (disch := omega) only [wrs, wrk, wrc, wr2, wl1, wls, wlk, wlc]
      · simp (disch := omega) only [wrs, wrk, wrc, wr2, wl1, wls, wlk, wlc]
      · simp (disch := omega) only [wrs, wrk, wrc, wr2, wl1, wls, wlk, wlc]; exact f8
      · simp (disch := omega) only [wrs, wrk, wrc, wr2, wl1, wls, wlk, wlc]; exact f10
      · simp (disch := omega) only [wrs, wrk, wrc, wr2, wl1, wls, wlk, wlc]; exact f11
      · simp (disch := omega) only [wrs, wrk, wrc, wr2, wl1, wls, wlk, wlc]; exact q2
      · simp (disch := omega) only [wrs, wrk, wrc, wr2, wl1, wls, wlk, wlc]; exact qp
      · simp (disch := omega) only [wrs, wrk, wrc, wr2, wl1, wls, wlk, wlc]; exact q11
      · intro d h1 h2 h3; simp (disch := omega) only [wrs, wrk, wrc, wr2, wl1, wls, wlk, wlc]; exact qf d h1 h2 h3
    · rw [fin_l f8 (by omega) (by omega), nBdS, m399_long (by omega) g32 g33 (by omega) (by omega), g40_end (by omega) (by rw [wrs]; exact nI_m1 6 (by decide))]
      have hx6 : x' < 256 := Nat.lt_of_lt_of_le hx' (pow_le8 bF)
      refine ⟨6, _, _, rfl, rfl, by decide, wrs _ _ _ _, wrs _ _ _ _, ⟨t', by omega, ?_, ?_⟩, ⟨c + 1, by omega, ?_, ?_, ?_⟩, ⟨x', hx6, ?_, ?_⟩, ⟨k, by omega, ?_, ?_⟩, hMk.up R6 (k := k) (x := x) ?_ ?_, R8.step ?_ ?_ ?_⟩
      · simp (disch := omega) only [wrs, wrk, wrc, wr2, wl1, wls, wlk, wlc]; exact f8
      · simp (disch := omega) only [wrs, wrk, wrc, wr2, wl1, wls, wlk, wlc]; exact g33
      · simp (disch := omega) only [wrs, wrk, wrc, wr2, wl1, wls, wlk, wlc]; exact f10
      · simp (disch := omega) only [wrs, wrk, wrc, wr2, wl1, wls, wlk, wlc]; exact g34
      · simp (disch := omega) only [wrs, wrk, wrc, wr2, wl1, wls, wlk, wlc]; rw [qp, r14, sC_p, tC_14]; exact path_up R7
      · simp (disch := omega) only [wrs, wrk, wrc, wr2, wl1, wls, wlk, wlc]; exact f3
      · simp (disch := omega) only [wrs, wrk, wrc, wr2, wl1, wls, wlk, wlc]; exact g35
      · simp (disch := omega) only [wrs, wrk, wrc, wr2, wl1, wls, wlk, wlc]; exact f6
      · simp (disch := omega) only [wrs, wrk, wrc, wr2, wl1, wls, wlk, wlc]; exact g36
      · simp (disch := omega) only [wrs, wrk, wrc, wr2, wl1, wls, wlk, wlc]; exact rg 31 (by omega)
      · simp (disch := omega) only [wrs, wrk, wrc, wr2, wl1, wls, wlk, wlc]; rw [r12]; exact tC_12
      · intro d h1 h2 h3; simp (disch := omega) only [wrs, wrk, wrc, wr2, wl1, wls, wlk, wlc]; exact qf d h1 h2 h3
      · intro d h1 h2 h3; simp (disch := omega) only [wrs, wrk, wrc, wr2, wl1, wls, wlk, wlc]; exact rf d h1 h2 h3
      · intro f h1; simp (disch := omega) only [wrs, wrk, wrc, wr2, wl1, wls, wlk, wlc]; exact rg f h1
  rw [e101]
  have hk24 : k < 24 := by omega
  have v2 : (sC w k x c σ).1 w 2 = nI b := (sC_w (by decide)).trans a2
  have v3 : (sC w k x c σ).1 w 3 = nI x := (sC_w (by decide)).trans a3
  have v4 : (sC w k x c σ).1 w 4 = nI ly := (sC_w (by decide)).trans a4
  have v5 : (sC w k x c σ).1 w 5 = nI aw := (sC_w (by decide)).trans a5
  have v6 : (sC w k x c σ).1 w 6 = nI k := (sC_w (by decide)).trans a6
  have v8 : (sC w k x c σ).1 w 8 = nI t := (sC_w (by decide)).trans a8
  have v11 : (sC w k x c σ).1 w 11 = nM1 := (sC_w (by decide)).trans a11
  -- a step that takes its time and changes nothing
  have tail2 : ∀ (k' t' : Nat), k' ≤ n → t ≤ t' → t' ≤ t + 60 →
      f_X6_finish N w (wr (wr (sC w k x c σ) w 8 (nI t')) w 7 (nI 2)) = l_X6_finish_171 N w (wr (wr (sC w k x c σ) w 8 (nI t')) w 7 (nI 2)) (nI k') →
      ∃ e σ1 τ1, gG N w m1 (wr (wr (sC w k x c σ) w 8 (nI t')) w 7 (nI 2)) (nI 5240) (nI (c + 1)) = some (nI 0, σ1) ∧ l_X11_plays_399 N (mP N (m2 - 1)) (wr (tC k x c M τ) 0 33 (nI t')) (nI b) (nI ly) (nI aw) (nI k') = some (nI e, τ1) ∧ hF w M σ0 τ0 e σ1 τ1 := by
    intro k' t' hk' ht1 ht2 hfin
    refine tail k' x t' _ _ _ hxF hk' ht1 ht2 ?_ ?_ ?_ hfin ⟨?_, ?_, ?_, ?_, ?_, ?_, ?_, ?_⟩ ?_ ?_ (fun p hp => Or.inl ?_) ?_ ⟨?_, ?_, ?_, ?_, ?_⟩ ?_ ?_ ?_ ?_
    · simp (disch := omega) only [wrs, wrk, wrc, wr2, wl1, wls, wlk, wlc]; exact v11
    · simp (disch := omega) only [wrs, wrk, wrc, wr2, wl1, wls, wlk, wlc]
    · simp (disch := omega) only [wrs, wrk, wrc, wr2, wl1, wls, wlk, wlc]
    · simp (disch := omega) only [wrs, wrk, wrc, wr2, wl1, wls, wlk, wlc]; exact v2
    · simp (disch := omega) only [wrs, wrk, wrc, wr2, wl1, wls, wlk, wlc]; exact v3
    · simp (disch := omega) only [wrs, wrk, wrc, wr2, wl1, wls, wlk, wlc]; exact v4
    · simp (disch := omega) only [wrs, wrk, wrc, wr2, wl1, wls, wlk, wlc]; exact v5
    · simp (disch := omega) only [wrs, wrk, wrc, wr2, wl1, wls, wlk, wlc]; exact v6
    · simp (disch := omega) only [wrs, wrk, wrc, wr2, wl1, wls, wlk, wlc]
    · simp (disch := omega) only [wrs, wrk, wrc, wr2, wl1, wls, wlk, wlc]; exact sC_c
    · simp (disch := omega) only [wrs, wrk, wrc, wr2, wl1, wls, wlk, wlc]; exact v11
    · simp (disch := omega) only [wrs, wrk, wrc, wr2, wl1, wls, wlk, wlc]
    · simp (disch := omega) only [wrs, wrk, wrc, wr2, wl1, wls, wlk, wlc]
    · simp (disch := omega) only [wrs, wrk, wrc, wr2, wl1, wls, wlk, wlc, sC_1]
    · intro d h1 h2 h3; simp (disch := omega) only [wrs, wrk, wrc, wr2, wl1, wls, wlk, wlc, sC_1]
    · simp (disch := omega) only [wrs, wrk, wrc, wr2, wl1, wls, wlk, wlc, tC_f]; exact b32
    · simp (disch := omega) only [wrs, wrk, wrc, wr2, wl1, wls, wlk, wlc]
    · simp (disch := omega) only [wrs, wrk, wrc, wr2, wl1, wls, wlk, wlc]; exact tC_34
    · simp (disch := omega) only [wrs, wrk, wrc, wr2, wl1, wls, wlk, wlc, tC_f]; exact b35
    · simp (disch := omega) only [wrs, wrk, wrc, wr2, wl1, wls, wlk, wlc]; exact tC_36
    · simp (disch := omega) only [wrs, wrk, wrc, wr2, wl1, wls, wlk, wlc]
    · simp (disch := omega) only [wrs, wrk, wrc, wr2, wl1, wls, wlk, wlc]
    · intro d h1 h2 h3; simp (disch := omega) only [wrs, wrk, wrc, wr2, wl1, wls, wlk, wlc, tC_1]
    · intro f h1; simp (disch := omega) only [wrs, wrk, wrc, wr2, wl1, wls, wlk, wlc, tC_f]
  rcases hok with ⟨hkd, ⟨o, ho, eo⟩, ⟨tw, htw, etw⟩, ⟨th, hth1, hth2, eth⟩, hm⟩ | ⟨hkd, ⟨s, hs8, es⟩, ⟨k1, hk1, e1⟩, k2, hk2, e2⟩ | ⟨hkd, y, hy1, hy2, ey⟩ | ⟨hkd, y, hy, ey⟩ | hkd
  · -- do
    obtain ⟨kd, hkd2, ekd⟩ : ∃ kd, kd < 2 ∧ τ0.1 4 (24 * b + k) = nI kd := by
      rcases hkd with h | h
      · exact ⟨0, by decide, h⟩
      · exact ⟨1, by decide, h⟩
    have c0 : (sC w k x c σ).1 5 ((b * 24 + k) * 5) = nI kd := by rw [cs 5 (by decide), d0]; exact ekd
    have c1 : (sC w k x c σ).1 5 ((b * 24 + k) * 5 + 1) = nI o := by rw [cs 5 (by decide), d1]; exact eo
    have c2 : (sC w k x c σ).1 5 ((b * 24 + k) * 5 + 2) = nI tw := by rw [cs 5 (by decide), d2]; exact etw
    have c3 : (sC w k x c σ).1 5 ((b * 24 + k) * 5 + 3) = nI th := by rw [cs 5 (by decide), d3]; exact eth
    have c4 : (sC w k x c σ).1 5 ((b * 24 + k) * 5 + 4) = τ0.1 8 (24 * b + k) := by rw [cs 5 (by decide), d4]
    have c0' : (qW c k (wr τ 0 36 (nI k))).1 4 (24 * b + k) = nI kd := by rw [ct 4 (by decide) (by decide) (by decide)]; exact ekd
    have c1' : (qW c k (wr τ 0 36 (nI k))).1 5 (24 * b + k) = nI o := by rw [ct 5 (by decide) (by decide) (by decide)]; exact eo
    have c2' : (qW c k (wr τ 0 36 (nI k))).1 6 (24 * b + k) = nI tw := by rw [ct 6 (by decide) (by decide) (by decide)]; exact etw
    have c3' : (qW c k (wr τ 0 36 (nI k))).1 7 (24 * b + k) = nI th := by rw [ct 7 (by decide) (by decide) (by decide)]; exact eth
    have c4' : (qW c k (wr τ 0 36 (nI k))).1 8 (24 * b + k) = τ0.1 8 (24 * b + k) := by rw [ct 8 (by decide) (by decide) (by decide)]
    obtain ⟨r, hp, hr⟩ := pick_is (N := N) hN bP (σ := sC w k x c σ) (by rw [cs 1 (by decide)]; exact w2) (nI o) (nI aw) (nI t)
    have hp' : f_X3_pick N (nI o) ((sC w k x c σ).1 w 5) (nI t) (sC w k x c σ) = some (r, sC w k x c σ) := by rw [v5]; exact hp
    have hP6 : (tC k x c M τ).1 0 6 = nI P := (tC_f (by decide) (by decide)).trans ((R8.2.2 6 (by omega)).trans y2)
    obtain ⟨r2, hp2, hr2⟩ := there_is (N := N) hN bP (σ := tC k x c M τ) hP6 (nI o) (nI aw)
    have okE : ∀ q, q < P → okp ((sC w k x c σ).1 3) (nI o) (nI aw) q → okp ((tC k x c M τ).1 2) (nI o) (nI aw) q := fun q hq h => by
      have e1 : (sC w k x c σ).1 3 q = (tC k x c M τ).1 2 q := by rw [cs 3 (by decide), tC_1 (by decide) (by decide) (by decide), ft 2 (by decide) (by decide) (by decide), (hsk q hq).1]
      unfold okp at h ⊢
      rw [← e1]; exact h
    have okF : ∀ q, q < P → okp ((tC k x c M τ).1 2) (nI o) (nI aw) q → okp ((sC w k x c σ).1 3) (nI o) (nI aw) q := fun q hq h => by
      have e1 : (sC w k x c σ).1 3 q = (tC k x c M τ).1 2 q := by rw [cs 3 (by decide), tC_1 (by decide) (by decide) (by decide), ft 2 (by decide) (by decide) (by decide), (hsk q hq).1]
      unfold okp at h ⊢
      rw [e1]; exact h
    have frE : ∀ q, q < 4 → ¬ nI t < (sC w k x c σ).1 11 q := fun q hq => by
      obtain ⟨y, hy, ey⟩ := R2 q hq
      rw [sC_1 (by omega) (by omega), ey]
      exact nI_nlt hy (by omega)
    rcases hr with ⟨q, _, q2, q3, q4, _, rfl⟩ | ⟨q1, ⟨⟨q, _, q2, q3⟩, _⟩ | ⟨q2, rfl⟩⟩
    · have e1 : r2 = nI 1 := by
        rcases hr2 with ⟨h, _⟩ | ⟨_, h⟩
        · exact h
        · exact absurd (okE q q2 q3) (h q q2)
      subst e1
      have hq4 : q < 4 := by omega
      have tail3 : ∀ x', x' < 2 ^ F → f_X6_finish N w (wr (wr (wr (sC w k x c σ) w 8 (nI (t + th))) 11 q (nI (t + th))) w 7 (nI 2)) = l_X6_finish_171 N w (wr (wr (wr (wr (sC w k x c σ) w 8 (nI (t + th))) 11 q (nI (t + th))) w 7 (nI 2)) w 3 (nI x')) (nI (k + 1)) →
          ∃ e σ1 τ1, gG N w m1 (wr (wr (wr (sC w k x c σ) w 8 (nI (t + th))) 11 q (nI (t + th))) w 7 (nI 2)) (nI 5240) (nI (c + 1)) = some (nI 0, σ1) ∧ l_X11_plays_399 N (mP N (m2 - 1)) (wr (wr (tC k x c M τ) 0 33 (nI (t + th))) 0 35 (nI x')) (nI b) (nI ly) (nI aw) (nI (k + 1)) = some (nI e, τ1) ∧ hF w M σ0 τ0 e σ1 τ1 := by
        intro x' hx' hfin
        refine tail (k + 1) x' (t + th) _ _ _ hx' (by omega) (by omega) (by omega) ?_ ?_ ?_ hfin ⟨?_, ?_, ?_, ?_, ?_, ?_, ?_, ?_⟩ ?_ ?_ (fun p hp => ?_) ?_ ⟨?_, ?_, ?_, ?_, ?_⟩ ?_ ?_ ?_ ?_
        · simp (disch := omega) only [wrs, wrk, wrc, wr2, wl1, wls, wlk, wlc]; exact v11
        · simp (disch := omega) only [wrs, wrk, wrc, wr2, wl1, wls, wlk, wlc]
        · simp (disch := omega) only [wrs, wrk, wrc, wr2, wl1, wls, wlk, wlc]
        · simp (disch := omega) only [wrs, wrk, wrc, wr2, wl1, wls, wlk, wlc]; exact v2
        · simp (disch := omega) only [wrs, wrk, wrc, wr2, wl1, wls, wlk, wlc]
        · simp (disch := omega) only [wrs, wrk, wrc, wr2, wl1, wls, wlk, wlc]; exact v4
        · simp (disch := omega) only [wrs, wrk, wrc, wr2, wl1, wls, wlk, wlc]; exact v5
        · simp (disch := omega) only [wrs, wrk, wrc, wr2, wl1, wls, wlk, wlc]; exact v6
        · simp (disch := omega) only [wrs, wrk, wrc, wr2, wl1, wls, wlk, wlc]
        · simp (disch := omega) only [wrs, wrk, wrc, wr2, wl1, wls, wlk, wlc]; exact sC_c
        · simp (disch := omega) only [wrs, wrk, wrc, wr2, wl1, wls, wlk, wlc]; exact v11
        · simp (disch := omega) only [wrs, wrk, wrc, wr2, wl1, wls, wlk, wlc]
        · simp (disch := omega) only [wrs, wrk, wrc, wr2, wl1, wls, wlk, wlc]
        · by_cases ep : p = q
          · subst ep
            exact Or.inr (by simp (disch := omega) only [wrs, wrk, wrc, wr2, wl1, wls, wlk, wlc])
          · exact Or.inl (by simp (disch := omega) only [wrs, wrk, wrc, wr2, wl1, wls, wlk, wlc, sC_1])
        · intro d h1 h2 h3; simp (disch := omega) only [wrs, wrk, wrc, wr2, wl1, wls, wlk, wlc, sC_1]
        · simp (disch := omega) only [wrs, wrk, wrc, wr2, wl1, wls, wlk, wlc, tC_f]; exact b32
        · simp (disch := omega) only [wrs, wrk, wrc, wr2, wl1, wls, wlk, wlc]
        · simp (disch := omega) only [wrs, wrk, wrc, wr2, wl1, wls, wlk, wlc]; exact tC_34
        · simp (disch := omega) only [wrs, wrk, wrc, wr2, wl1, wls, wlk, wlc]
        · simp (disch := omega) only [wrs, wrk, wrc, wr2, wl1, wls, wlk, wlc]; exact tC_36
        · simp (disch := omega) only [wrs, wrk, wrc, wr2, wl1, wls, wlk, wlc]
        · simp (disch := omega) only [wrs, wrk, wrc, wr2, wl1, wls, wlk, wlc]
        · intro d h1 h2 h3; simp (disch := omega) only [wrs, wrk, wrc, wr2, wl1, wls, wlk, wlc, tC_1]
        · intro f h1; simp (disch := omega) only [wrs, wrk, wrc, wr2, wl1, wls, wlk, wlc, tC_f]
      have x1 : (wr (wr (wr (sC w k x c σ) w 8 (nI (t + th))) 11 q (nI (t + th))) w 7 (nI 2)).1 w 3 = nI x := by simp (disch := omega) only [wrs, wrk, wrc, wr2, wl1, wls, wlk, wlc]; exact v3
      have x2 : (wr (wr (wr (sC w k x c σ) w 8 (nI (t + th))) 11 q (nI (t + th))) w 7 (nI 2)).1 5 ((b * 24 + k) * 5 + 2) = nI tw := by simp (disch := omega) only [wrs, wrk, wrc, wr2, wl1, wls, wlk, wlc]; exact c2
      have goes : ((sC w k x c σ).1 5 ((b * 24 + k) * 5 + 4) = nM1 ∨ ∃ f, f < 8 ∧ (sC w k x c σ).1 5 ((b * 24 + k) * 5 + 4) = nI f ∧ ¬ ((sC w k x c σ).1 w 3 >>> (nI f &&& nI 31)) &&& nI 1 = nI 0) →
          ((qW c k (wr τ 0 36 (nI k))).1 8 (24 * b + k) = nM1 ∨ ∃ f, f < 8 ∧ (qW c k (wr τ 0 36 (nI k))).1 8 (24 * b + k) = nI f ∧ ¬ (nI x >>> (nI f &&& nI 31)) &&& nI 1 = nI 0) →
          ∃ e σ1 τ1, l_X6_goOn_40 N w (gG N w m1) σ (nI 5240) (nI c) = some (nI 0, σ1) ∧ l_X11_plays_101 N (mP N (m2 - 1)) (qW c k (wr τ 0 36 (nI k))) (nI b) (nI ly) (nI aw) (nI k) (nI (24 * b + k)) = some (nI e, τ1) ∧ hF w M σ0 τ0 e σ1 τ1 := by
        intro hA hB2
        rw [g40_d a11 a7 hcome v11 v2 v6 (isDo_y hb hk24 c0 hkd2) (bd_do hb hk24 v2 v6 v8 c1 hq4 hw hp' c3 hA), m_do hb hk24 hx q34 q35 q31 hq12 hkd2 c0' c1' hp2 q33 c3' hB2]
        have hkk : kd = 0 ∨ kd = 1 := by omega
        rcases hkk with rfl | rfl
        · have xe := mk_right tw (by omega) x hx
          have hfin := fin_right (N := N) (w := w) (σ := (wr (wr (wr (sC w k x c σ) w 8 (nI (t + th))) 11 q (nI (t + th))) w 7 (nI 2))) hb hk24 (by simp (disch := omega) only [wrs, wrk, wrc, wr2, wl1, wls, wlk, wlc]; exact v2) (by simp (disch := omega) only [wrs, wrk, wrc, wr2, wl1, wls, wlk, wlc]; exact v6) (by simp (disch := omega) only [wrs, wrk, wrc, wr2, wl1, wls, wlk, wlc]; exact c0)
          rw [x1, x2, xe] at hfin
          rw [if_pos rfl, c2', xe]
          exact tail3 _ (Nat.lt_of_le_of_lt (Nat.sub_le _ _) hxF) hfin
        · have xe := mk_wrong tw (by omega) x hx
          have hfin := fin_wrong (N := N) (w := w) (σ := (wr (wr (wr (sC w k x c σ) w 8 (nI (t + th))) 11 q (nI (t + th))) w 7 (nI 2))) hb hk24 (by simp (disch := omega) only [wrs, wrk, wrc, wr2, wl1, wls, wlk, wlc]; exact v2) (by simp (disch := omega) only [wrs, wrk, wrc, wr2, wl1, wls, wlk, wlc]; exact v6) (by simp (disch := omega) only [wrs, wrk, wrc, wr2, wl1, wls, wlk, wlc]; exact c0)
          rw [x1, x2, xe] at hfin
          rw [if_neg (show ¬ (1 : Nat) = 0 by decide), c2', xe]
          exact tail3 _ (Nat.or_lt_two_pow hxF (Nat.pow_lt_pow_right (by decide) htw)) hfin
      rcases hm with hm | ⟨f, hf, hm⟩
      · exact goes (Or.inl (c4.trans hm)) (Or.inl (c4'.trans hm))
      · by_cases hh : (nI x >>> (nI f &&& nI 31)) &&& nI 1 = nI 0
        · rw [g40_d a11 a7 hcome v11 v2 v6 (isDo_y hb hk24 c0 hkd2) (bd_harm hb hk24 v2 v6 v8 c1 hq4 hp' (by omega) (c4.trans hm) (by rw [v3]; exact hh)), m_harm hb hk24 hx q34 q35 q31 hq12 hkd2 c0' c1' hp2 (by omega) (c4'.trans hm) hh]
          exact ⟨3, _, _, g_end (by omega) (by rw [wrs]; exact nI_m1 3 (by decide)), by rw [m399_end (by omega) (by rw [wrs]; exact nI_m1 3 (by decide)), wrs]; rfl, fin 3 (by decide)⟩
        · exact goes (Or.inr ⟨f, by omega, c4.trans hm, by rw [v3]; exact hh⟩) (Or.inr ⟨f, by omega, c4'.trans hm, hh⟩)
    · exact absurd (q1 q (Nat.zero_le q) q2 q3) (frE q (by omega))
    · have e1 : r2 = nI 0 := by
        rcases hr2 with ⟨_, q, h, h2⟩ | ⟨h, _⟩
        · exact absurd (okF q h h2) (q2 q (Nat.zero_le q) h)
        · exact h
      subst e1
      rw [g40_d a11 a7 hcome v11 v2 v6 (isDo_y hb hk24 c0 hkd2) (bd_stuck hb hk24 v2 v6 v8 c1 hp'), m_stuck hb hk24 hx q34 q35 q31 hq12 hkd2 c0' c1' hp2]
      exact ⟨2, _, _, g_end (by omega) (by rw [wrs]; exact nI_m1 2 (by decide)), by rw [m399_end (by omega) (by rw [wrs]; exact nI_m1 2 (by decide)), wrs]; rfl, fin 2 (by decide)⟩
  · -- ask
    have c0 : (sC w k x c σ).1 5 ((b * 24 + k) * 5) = nI 2 := by rw [cs 5 (by decide), d0]; exact hkd
    have c0' : (qW c k (wr τ 0 36 (nI k))).1 4 (24 * b + k) = nI 2 := by rw [ct 4 (by decide) (by decide) (by decide)]; exact hkd
    have c1' : (qW c k (wr τ 0 36 (nI k))).1 5 (24 * b + k) = nI s := by rw [ct 5 (by decide) (by decide) (by decide)]; exact es
    rw [g40_o a11 a7 hcome v11 v2 v6 (isDo_n hb hk24 c0 (by decide) (by decide)) (bo_ask hb hk24 v2 v6 v8 c0), m_ask hb hk24 hx q34 q35 q31 hq12 (by omega) c0' c1' q33]
    have hfin := fin_ask (N := N) (w := w) (σ := wr (wr (sC w k x c σ) w 8 (nI (t + 1))) w 7 (nI 2)) (s := s) hb hk24 (by simp (disch := omega) only [wrs, wrk, wrc, wr2, wl1, wls, wlk, wlc]; exact v2) (by simp (disch := omega) only [wrs, wrk, wrc, wr2, wl1, wls, wlk, wlc]; exact v6) (by omega) (by simp (disch := omega) only [wrs, wrk, wrc, wr2, wl1, wls, wlk, wlc]; exact c0) (by simp (disch := omega) only [wrs, wrk, wrc, wr2, wl1, wls, wlk, wlc]; rw [cs 5 (by decide), d1]; exact es)
    have x1 : (wr (wr (sC w k x c σ) w 8 (nI (t + 1))) w 7 (nI 2)).1 w 3 = nI x := by simp (disch := omega) only [wrs, wrk, wrc, wr2, wl1, wls, wlk, wlc]; exact v3
    have x2 : (wr (wr (sC w k x c σ) w 8 (nI (t + 1))) w 7 (nI 2)).1 w 4 = nI ly := by simp (disch := omega) only [wrs, wrk, wrc, wr2, wl1, wls, wlk, wlc]; exact v4
    have x3 : (wr (wr (sC w k x c σ) w 8 (nI (t + 1))) w 7 (nI 2)).1 2 = σ0.1 2 := by simp (disch := omega) only [wrs, wrk, wrc, wr2, wl1, wls, wlk, wlc]; exact cs 2 (by decide)
    have x4 : (wr (wr (sC w k x c σ) w 8 (nI (t + 1))) w 7 (nI 2)).1 5 = σ0.1 5 := by simp (disch := omega) only [wrs, wrk, wrc, wr2, wl1, wls, wlk, wlc]; exact cs 5 (by decide)
    have x5 : (qW c k (wr τ 0 36 (nI k))).1 1 s = σ0.1 2 s := by rw [ct 1 (by decide) (by decide) (by decide)]; exact (hsf s hs8).1
    rw [x1, x2, x3, x4] at hfin
    rw [x5, ct 6 (by decide) (by decide) (by decide), ct 7 (by decide) (by decide) (by decide)]
    rw [d2, d3] at hfin
    by_cases hc : ((nI x >>> (σ0.1 2 s &&& nI 31)) ^^^ (nI ly >>> (nI s &&& nI 31))) &&& nI 1 = nI 1
    · rw [if_pos hc, e1] at hfin
      rw [if_pos hc, e1]
      exact tail2 k1 (t + 1) (by omega) (by omega) (by omega) hfin
    · rw [if_neg hc, e2] at hfin
      rw [if_neg hc, e2]
      exact tail2 k2 (t + 1) (by omega) (by omega) (by omega) hfin
  · -- wait
    have c0 : (sC w k x c σ).1 5 ((b * 24 + k) * 5) = nI 3 := by rw [cs 5 (by decide), d0]; exact hkd
    have c1 : (sC w k x c σ).1 5 ((b * 24 + k) * 5 + 1) = nI y := by rw [cs 5 (by decide), d1]; exact ey
    have c0' : (qW c k (wr τ 0 36 (nI k))).1 4 (24 * b + k) = nI 3 := by rw [ct 4 (by decide) (by decide) (by decide)]; exact hkd
    have c1' : (qW c k (wr τ 0 36 (nI k))).1 5 (24 * b + k) = nI y := by rw [ct 5 (by decide) (by decide) (by decide)]; exact ey
    rw [g40_o a11 a7 hcome v11 v2 v6 (isDo_n hb hk24 c0 (by decide) (by decide)) (bo_wait hb hk24 v2 v6 v8 c0 c1), m_wait hb hk24 hx q34 q35 q31 hq12 c0' c1' q33]
    exact tail2 (k + 1) (t + y) (by omega) (by omega) (by omega) (fin_wait hb hk24 (by simp (disch := omega) only [wrs, wrk, wrc, wr2, wl1, wls, wlk, wlc]; exact v2) (by simp (disch := omega) only [wrs, wrk, wrc, wr2, wl1, wls, wlk, wlc]; exact v6) (by simp (disch := omega) only [wrs, wrk, wrc, wr2, wl1, wls, wlk, wlc]; exact c0))
  · -- go
    have c0 : (sC w k x c σ).1 5 ((b * 24 + k) * 5) = nI 4 := by rw [cs 5 (by decide), d0]; exact hkd
    have c1 : (sC w k x c σ).1 5 ((b * 24 + k) * 5 + 1) = nI y := by rw [cs 5 (by decide), d1]; exact ey
    have c0' : (qW c k (wr τ 0 36 (nI k))).1 4 (24 * b + k) = nI 4 := by rw [ct 4 (by decide) (by decide) (by decide)]; exact hkd
    have c1' : (qW c k (wr τ 0 36 (nI k))).1 5 (24 * b + k) = nI y := by rw [ct 5 (by decide) (by decide) (by decide)]; exact ey
    rw [g40_o a11 a7 hcome v11 v2 v6 (isDo_n hb hk24 c0 (by decide) (by decide)) (bo_go hb hk24 v2 v6 v8 c0), m_go hb hk24 hx q34 q35 q31 hq12 c0' c1']
    refine tail y x t _ _ _ hxF (by omega) (Nat.le_refl t) (by omega) ?_ ?_ ?_ (fin_go hb hk24 ?_ ?_ ?_ ?_) ⟨?_, ?_, ?_, ?_, ?_, ?_, ?_, ?_⟩ ?_ ?_ (fun p hp => Or.inl ?_) ?_ ⟨?_, ?_, ?_, ?_, ?_⟩ rfl rfl ?_ ?_
    · simp (disch := omega) only [wrs, wrk, wrc, wr2, wl1, wls, wlk, wlc]; exact v11
    · simp (disch := omega) only [wrs, wrk, wrc, wr2, wl1, wls, wlk, wlc]
    · simp (disch := omega) only [wrs, wrk, wrc, wr2, wl1, wls, wlk, wlc]
    · simp (disch := omega) only [wrs, wrk, wrc, wr2, wl1, wls, wlk, wlc]; exact v2
    · simp (disch := omega) only [wrs, wrk, wrc, wr2, wl1, wls, wlk, wlc]; exact v6
    · simp (disch := omega) only [wrs, wrk, wrc, wr2, wl1, wls, wlk, wlc]; exact c0
    · simp (disch := omega) only [wrs, wrk, wrc, wr2, wl1, wls, wlk, wlc]; exact c1
    · simp (disch := omega) only [wrs, wrk, wrc, wr2, wl1, wls, wlk, wlc]; exact v2
    · simp (disch := omega) only [wrs, wrk, wrc, wr2, wl1, wls, wlk, wlc]; exact v3
    · simp (disch := omega) only [wrs, wrk, wrc, wr2, wl1, wls, wlk, wlc]; exact v4
    · simp (disch := omega) only [wrs, wrk, wrc, wr2, wl1, wls, wlk, wlc]; exact v5
    · simp (disch := omega) only [wrs, wrk, wrc, wr2, wl1, wls, wlk, wlc]; exact v6
    · simp (disch := omega) only [wrs, wrk, wrc, wr2, wl1, wls, wlk, wlc]
    · simp (disch := omega) only [wrs, wrk, wrc, wr2, wl1, wls, wlk, wlc]; exact sC_c
    · simp (disch := omega) only [wrs, wrk, wrc, wr2, wl1, wls, wlk, wlc]; exact v11
    · simp (disch := omega) only [wrs, wrk, wrc, wr2, wl1, wls, wlk, wlc]
    · simp (disch := omega) only [wrs, wrk, wrc, wr2, wl1, wls, wlk, wlc]
    · simp (disch := omega) only [wrs, wrk, wrc, wr2, wl1, wls, wlk, wlc, sC_1]
    · intro d h1 h2 h3; simp (disch := omega) only [wrs, wrk, wrc, wr2, wl1, wls, wlk, wlc, sC_1]
    · exact (tC_f (by decide) (by decide)).trans b32
    · exact (tC_f (by decide) (by decide)).trans b33
    · exact tC_34
    · exact (tC_f (by decide) (by decide)).trans b35
    · exact tC_36
    · exact fun d h1 h2 h3 => tC_1 h1 h2 h3
    · exact fun f h1 => tC_f (by omega) (by omega)
  · -- calm
    have c0 : (sC w k x c σ).1 5 ((b * 24 + k) * 5) = nI 5 := by rw [cs 5 (by decide), d0]; exact hkd
    have c0' : (qW c k (wr τ 0 36 (nI k))).1 4 (24 * b + k) = nI 5 := by rw [ct 4 (by decide) (by decide) (by decide)]; exact hkd
    have g1 : (sC w k x c σ).1 1 4 = nI g := by rw [cs 1 (by decide), hg]; exact hg3
    have g2 : (qW c k (wr τ 0 36 (nI k))).1 0 8 = nI g := by simp (disch := omega) only [wrs, wrk, wrc, wr2, wl1, wls, wlk, wlc, qW_1]; exact (R8.2.2 8 (by omega)).trans hg3
    have g3 : (qW c k (wr τ 0 36 (nI k))).1 0 4 = nI F := by simp (disch := omega) only [wrs, wrk, wrc, wr2, wl1, wls, wlk, wlc, qW_1]; exact (R8.2.2 4 (by omega)).trans y0
    have hand : x &&& g < 2 ^ F := Nat.lt_of_le_of_lt Nat.and_le_left hxF
    have ge : nI x &&& nI g &&& ((nI 1 <<< (nI F &&& nI 31)) - nI 1) = nI x &&& nI g := by
      rw [nI_and, mk_and F (by omega) (x &&& g) (Nat.lt_of_lt_of_le hand (pow_le8 bF)), Nat.mod_eq_of_lt hand]
    rw [g40_o a11 a7 hcome v11 v2 v6 (isDo_n hb hk24 c0 (by decide) (by decide)) (bo_calm hb hk24 v2 v6 c0), m_calm hb hk24 hx q34 q35 q31 hq12 c0', v3, g1, g2, g3, ge]
    by_cases hz : nI x &&& nI g = nI 0
    · rw [if_pos hz]
      exact ⟨0, _, _, g_end (by omega) (by rw [wrs]; exact nI_m1 0 (by decide)), by rw [m399_end (by omega) (by rw [wrs]; exact nI_m1 0 (by decide)), wrs]; rfl, fin 0 (by decide)⟩
    · rw [if_neg hz]
      exact ⟨1, _, _, g_end (by omega) (by rw [wrs]; exact nI_m1 1 (by decide)), by rw [m399_end (by omega) (by rw [wrs]; exact nI_m1 1 (by decide)), wrs]; rfl, fin 1 (by decide)⟩
