/-! TWO NIGHTS: one night, side by side -/
def nLv (w q qm b F ly aw M k x c : Nat) (σ τ : nS) : Prop :=
  (σ.1 w 2 = nI b ∧ σ.1 w 3 = nI x ∧ σ.1 w 4 = nI ly ∧ σ.1 w 5 = nI aw ∧ σ.1 w 6 = nI k ∧ σ.1 w 10 = nI c ∧ σ.1 w 11 = nM1) ∧ (τ.1 q 0 = nI b ∧ τ.1 q 1 = nI k ∧ τ.1 q 3 = nI x ∧ τ.1 q 4 = nI ly ∧ τ.1 q 5 = nM1) ∧ σ.1 w 9 = τ.1 q 8 ∧ x < 2 ^ F ∧ rSeen (σ.2 (w + 1)) (τ.1 qm) M ∧ c + cU (τ.1 qm) (nI M) 6144 ≤ 6144 ∧ ∀ j, j < 6144 → ∃ y, y ≤ M ∧ τ.1 qm j = nI y
def nEnd (w q : Nat) (σ τ : nS) : Prop := ∃ e t, e < 7 ∧ t < 6000 ∧ σ.1 w 11 = nI e ∧ τ.1 q 5 = nI e ∧ σ.1 w 8 = nI t ∧ τ.1 q 7 = nI t ∧ σ.1 w 9 = τ.1 q 8
def nMk (qm M : Nat) (τ : nS) : Prop := ∀ j, j < 6144 → ∃ y, y ≤ M ∧ τ.1 qm j = nI y
def nNx (q b ly k x : Nat) (τ : nS) : Prop :=
  (((∃ kd, kd < 2 ∧ τ.1 4 (24 * b + k) = nI kd) ∨ τ.1 4 (24 * b + k) = nI 3) ∧ τ.1 q 2 = nI (k + 1)) ∨ (τ.1 4 (24 * b + k) = nI 2 ∧ ∃ s, s < 8 ∧ τ.1 5 (24 * b + k) = nI s ∧ τ.1 q 2 = (if ((nI x >>> (τ.1 1 s &&& nI 31)) ^^^ (nI ly >>> (nI s &&& nI 31))) &&& nI 1 = nI 1 then τ.1 6 (24 * b + k) else τ.1 7 (24 * b + k)))
/-- where a night stands ahead of tick T: ended (0), coming (1), waiting (2), in a step until u (u + 3) -/
def nR (w q qm b F n ly aw M T s : Nat) (σ τ : nS) : Prop :=
  (s = 0 ∧ nEnd w q σ τ ∧ nMk qm M τ) ∨
  (s = 1 ∧ ∃ k x c, k ≤ n ∧ nLv w q qm b F ly aw M k x c σ τ ∧ σ.1 w 7 = nI 0 ∧ σ.1 w 8 = nI T ∧ τ.1 q 9 = nI 0 ∧ τ.1 q 10 = nI 0) ∨
  (s = 2 ∧ ∃ k x c kd, k < n ∧ kd < 2 ∧ τ.1 4 (24 * b + k) = nI kd ∧ nLv w q qm b F ly aw M k x c σ τ ∧ σ.1 w 7 = nI 1 ∧ σ.1 w 8 = nI T ∧ τ.1 q 9 = nI 0 ∧ τ.1 q 10 = nI 1) ∨
  (∃ u k x c, s = u + 3 ∧ u < 9000 ∧ k < n ∧ nLv w q qm b F ly aw M k x c σ τ ∧ σ.1 w 7 = nI 2 ∧ σ.1 w 8 = nI u ∧ τ.1 q 9 = nI 1 ∧ τ.1 q 10 = nI 0 ∧ τ.1 q 6 = nI u ∧ nNx q b ly k x τ)
def sF (w q qm : Nat) (σ τ σ' τ' : nS) : Prop := (∀ d, d ≠ w → d ≠ w + 2 → d ≠ 11 → σ'.1 d = σ.1 d) ∧ (∀ d, d ≠ w + 1 → σ'.2 d = σ.2 d) ∧ ∀ d, d ≠ q → d ≠ qm → d ≠ 25 → τ'.1 d = τ.1 d
theorem sF.trans {w q qm : Nat} {a b c d e f : nS} (h : sF w q qm a b c d) (g : sF w q qm c d e f) : sF w q qm a b e f := ⟨fun x e1 e2 e3 => (g.1 x e1 e2 e3).trans (h.1 x e1 e2 e3), fun x e1 => (g.2.1 x e1).trans (h.2.1 x e1), fun x e1 e2 e3 => (g.2.2 x e1 e2 e3).trans (h.2.2 x e1 e2 e3)⟩
theorem sF.rf {w q qm : Nat} {a b : nS} : sF w q qm a b a b := ⟨fun _ _ _ _ => rfl, fun _ _ => rfl, fun _ _ _ _ => rfl⟩
def nOut (w q qm b F n ly aw M T : Nat) (σ0 τ0 σ' τ' : nS) (s' : Nat) : Prop :=
  nR w q qm b F n ly aw M (T + 1) s' σ' τ' ∧ sF w q qm σ0 τ0 σ' τ' ∧ (∀ p, p < 4 → σ'.1 11 p = τ'.1 25 p ∧ (σ'.1 11 p = σ0.1 11 p ∨ ∃ u, s' = u + 3 ∧ σ'.1 11 p = nI u)) ∧ (s' = 2 → ∃ p, p < 4 ∧ nI T < σ0.1 11 p) ∧ (∀ u, s' = u + 3 → T + 1 ≤ u ∧ u ≤ T + 60) ∧ ¬ s' = 1
theorem nOut.cut {w q qm b F n ly aw M T s' : Nat} {σ0 τ0 σ1 τ1 σ' τ' : nS} (h : nOut w q qm b F n ly aw M T σ1 τ1 σ' τ' s') (g : sF w q qm σ0 τ0 σ1 τ1) (e : σ1.1 11 = σ0.1 11) : nOut w q qm b F n ly aw M T σ0 τ0 σ' τ' s' := by
  obtain ⟨h1, h2, h3, h4, h5, h6⟩ := h
  rw [e] at h3 h4
  exact ⟨h1, g.trans h2, h3, h4, h5, h6⟩
theorem nM1ne (e : Nat) (he : e < 2 ^ 31) : ¬ nI e = nM1 := nI_m1 e he
/-- both stop there -/
theorem nOut.stopC {N w q qm b F n ly aw M T s' m i : Nat} {σ0 τ0 σ' τ' : nS} (h : nOut w q qm b F n ly aw M T σ0 τ0 σ' τ' s') (hm : 0 < m) (hi : i ≤ 6146) (hT : T < 8000) : gG N w m σ' (nI T) (nI i) = some (nI 0, σ') := by
  obtain ⟨h1, h2, h3, h4, h5, h6⟩ := h
  rcases h1 with ⟨_, ⟨e, t, he, _, e1, _⟩, _⟩ | ⟨h, _⟩ | ⟨_, k, x, c, kd, _, _, _, hv, _, h8, _⟩ | ⟨u, k, x, c, hs, hu, _, hv, _, h8, _⟩
  · exact g_end hm (by rw [e1]; exact nM1ne e (by omega))
  · exact absurd h h6
  · exact g_out hm hv.1.2.2.2.2.2.2 h8 (by omega) (by omega) hi
  · have := h5 u hs
    exact g_out hm hv.1.2.2.2.2.2.2 h8 (by omega) (by omega) hi
theorem nOut.stopM {N w q qm b F n ly aw M T s' m : Nat} {x4 : Int32} {σ0 τ0 σ' τ' : nS} (h : nOut w q qm b F n ly aw M T σ0 τ0 σ' τ' s') (hm : 0 < m) : (if τ'.1 q 10 = nI 0 then nLp (fun _ _ _ => none) (fun again => b_X11_goesOn_97 N q qm (l_X11_goesOn_126 N q qm again)) m τ' (nI T) x4 else some (nI 0, τ')) = some (nI 0, τ') := by
  obtain ⟨h1, h2, h3, h4, h5, h6⟩ := h
  rcases h1 with ⟨_, ⟨e, t, he, _, _, e1, _⟩, _⟩ | ⟨h, _⟩ | ⟨_, k, x, c, kd, _, _, _, hv, _, _, _, h10⟩ | ⟨u, k, x, c, hs, hu, _, hv, _, _, h9, h10, _⟩
  · by_cases h0 : τ'.1 q 10 = nI 0
    · rw [if_pos h0, nLpP _ _ hm]
      have hne := eq_false (nM1ne e (by omega))
      simp (disch := first | omega | exact nM1_n | exact nM2_n | assumption) only [b_X11_goesOn_97, e1, hne, ↓nLetR, ↓reduceIte, ↓e_m1, ↓e_m2, e_0, e_1, e_2, e_3, e_4, e_5, e_6, e_7, e_8, e_9, e_10, e_11, e_12, e_13, e_14, e_15, e_16, e_17, e_18, e_19, e_20, e_21, e_22, e_23, e_24, e_25, e_26, e_27, e_28, e_29, e_30, e_31, e_32, e_33, e_48, e_57, e_59, e_60, e_63, e_64, e_96, e_97, e_99, e_120, e_122, e_192, e_200, e_255, e_256, e_300, e_500, e_600, e_2000, e_5000, e_5240, e_6146, e_20000, e_65536, nIo, nI_clamp, nIxt, nI_1, nI_add, nI_mul, nI_eqF, nI_ltT, nI_ltF, nI_leT, nI_leF, nN_lt0, nN_le, nN_lt, nN_eq, nN_eq', eq_self, nBdS]
    · rw [if_neg h0]
  · exact absurd h h6
  · rw [h10, if_neg (by decide)]
  · have e5 := hv.2.1.2.2.2.2
    rw [h10, if_pos rfl, nLpP _ _ hm]
    simp (disch := first | omega | exact nM1_n | exact nM2_n | assumption) only [b_X11_goesOn_97, e5, h9, ↓nLetR, ↓reduceIte, ↓e_m1, ↓e_m2, e_0, e_1, e_2, e_3, e_4, e_5, e_6, e_7, e_8, e_9, e_10, e_11, e_12, e_13, e_14, e_15, e_16, e_17, e_18, e_19, e_20, e_21, e_22, e_23, e_24, e_25, e_26, e_27, e_28, e_29, e_30, e_31, e_32, e_33, e_48, e_57, e_59, e_60, e_63, e_64, e_96, e_97, e_99, e_120, e_122, e_192, e_200, e_255, e_256, e_300, e_500, e_600, e_2000, e_5000, e_5240, e_6146, e_20000, e_65536, nIo, nI_clamp, nIxt, nI_1, nI_add, nI_mul, nI_eqF, nI_ltT, nI_ltF, nI_leT, nI_leF, nN_lt0, nN_le, nN_lt, nN_eq, nN_eq', eq_self, nBdS]
theorem nkx {kd c : Nat} (h : nI kd = nI c) (hk : kd < 2) (hc : 2 ≤ c) (hc2 : c < 10) : False := by
  have := (nI_eq (by omega) (by omega)).mp h
  omega
theorem dB_is {N w q qm b F S P B n ly aw M T k x c kd : Nat} {σ τ : nS} (hN : 10 ≤ N) (hw : 30 ≤ w) (hq : 23 ≤ q ∧ q ≤ 24) (hqm : 12 ≤ qm ∧ qm ≤ 13) (hT : T < 6000) (hH : hHs F S P B σ τ) (hB : hBk F S b n σ τ) (hL : nLv w q qm b F ly aw M k x c σ τ) (hk : k < n) (hkd : kd < 2) (c0' : τ.1 4 (24 * b + k) = nI kd) (h8 : σ.1 w 8 = nI T) (h9 : τ.1 q 9 = nI 0) (hh : ∀ p, p < 4 → σ.1 11 p = τ.1 25 p) :
    ∃ s' σd τd, f_X6_beginDo N w σ = some (nI 0, σd) ∧ f_X11_begins N q (nI T) (nI aw) τ = some (nI 0, τd) ∧ nOut w q qm b F n ly aw M T σ τ σd τd s' := by
  obtain ⟨⟨bF, bS, bP, bB⟩, ⟨w0, w1, w2, w3⟩, ⟨y0, y1, y2, y3⟩, hg, hsf, hsk⟩ := id hH
  obtain ⟨hb, ⟨hn1, hn⟩, z1, z2, hst⟩ := id hB
  obtain ⟨⟨a2, a3, a4, a5, a6, a10, a11⟩, ⟨t0, t1, t3, t4, t5⟩, hwt, hxF, hseen, hcu, hmk⟩ := id hL
  obtain ⟨⟨d0, d1, d2, d3, d4⟩, hok⟩ := hst k hk
  have hi : 24 * b + k < 120 := by omega
  have hk24 : k < 24 := by omega
  obtain ⟨⟨o, ho, eo⟩, ⟨tw, htw, etw⟩, ⟨th, hth1, hth2, eth⟩, hm⟩ : (∃ x, x < 8 ∧ τ.1 5 (24 * b + k) = nI x) ∧ (∃ x, x < F ∧ τ.1 6 (24 * b + k) = nI x) ∧ (∃ x, 1 ≤ x ∧ x ≤ 60 ∧ τ.1 7 (24 * b + k) = nI x) ∧ (τ.1 8 (24 * b + k) = -1 ∨ ∃ x, x < F ∧ τ.1 8 (24 * b + k) = nI x) := by
    rw [c0'] at hok
    rcases hok with ⟨_, h⟩ | ⟨h, _⟩ | ⟨h, _⟩ | ⟨h, _⟩ | h
    · exact h
    · exact (nkx (c := 2) h hkd (by decide) (by decide)).elim
    · exact (nkx (c := 3) h hkd (by decide) (by decide)).elim
    · exact (nkx (c := 4) h hkd (by decide) (by decide)).elim
    · exact (nkx (c := 5) h hkd (by decide) (by decide)).elim
  rw [eo] at d1
  rw [eth] at d3
  obtain ⟨r, hp, hr⟩ := pick_is (N := N) hN bP (σ := σ) w2 (nI o) (nI aw) (nI T)
  have hp' : f_X3_pick N (nI o) (σ.1 w 5) (nI T) σ = some (r, σ) := by rw [a5]; exact hp
  obtain ⟨r2, hp2, hr2⟩ := there_is (N := N) hN bP (σ := τ) y2 (nI o) (nI aw)
  have okE : ∀ j, j < P → (okp (σ.1 3) (nI o) (nI aw) j ↔ okp (τ.1 2) (nI o) (nI aw) j) := fun j hj => by
    unfold okp
    rw [(hsk j hj).1]
  have fin : ∀ e, e < 7 → nOut w q qm b F n ly aw M T σ τ (wr σ w 11 (nI e)) (wr (wr τ q 5 (nI e)) q 7 (nI T)) 0 := by
    intro e he
    refine ⟨Or.inl ⟨rfl, ⟨e, T, he, ?_, ?_, ?_, ?_, ?_, ?_⟩, ?_⟩, ⟨?_, ?_, ?_⟩, fun p hp => ⟨?_, Or.inl ?_⟩, fun h => absurd h (by decide), fun u h => absurd h (by omega), by decide⟩
    · omega
    · simp (disch := omega) only [wrs, wrk, wrc, wr2, wl1, wls, wlk, wlc]
    · simp (disch := omega) only [wrs, wrk, wrc, wr2, wl1, wls, wlk, wlc]
    · simp (disch := omega) only [wrs, wrk, wrc, wr2, wl1, wls, wlk, wlc]; exact h8
    · simp (disch := omega) only [wrs, wrk, wrc, wr2, wl1, wls, wlk, wlc]
    · simp (disch := omega) only [wrs, wrk, wrc, wr2, wl1, wls, wlk, wlc]; exact hwt
    · unfold nMk; simp (disch := omega) only [wrs, wrk, wrc, wr2, wl1, wls, wlk, wlc]; exact hmk
    · intro d e1 e2 e3; simp (disch := omega) only [wrs, wrk, wrc, wr2, wl1, wls, wlk, wlc]
    · intro d e1; simp (disch := omega) only [wrs, wrk, wrc, wr2, wl1, wls, wlk, wlc]
    · intro d e1 e2 e3; simp (disch := omega) only [wrs, wrk, wrc, wr2, wl1, wls, wlk, wlc]
    · simp (disch := omega) only [wrs, wrk, wrc, wr2, wl1, wls, wlk, wlc]; exact hh p hp
    · simp (disch := omega) only [wrs, wrk, wrc, wr2, wl1, wls, wlk, wlc]
  rcases hr with ⟨p, _, p2, p3, p4, p5, rfl⟩ | ⟨p1, ⟨⟨p, _, p2, p3⟩, rfl⟩ | ⟨p2, rfl⟩⟩
  · have e1 : r2 = nI 1 := by
      rcases hr2 with ⟨h, _⟩ | ⟨_, h⟩
      · exact h
      · exact absurd ((okE p p2).mp p3) (h p p2)
    subst e1
    have hq4 : p < 4 := by omega
    obtain ⟨r3, hh3, h3⟩ := hn_is (N := N) (q := q) (T := T) hN hq hi bP (by omega) y2 eo hp2
    have e3 : r3 = nI p := by
      rcases h3 with ⟨p', g1, ⟨g2, g2'⟩, g3, g4⟩ | ⟨g1, _⟩
      · have : p' = p := by
          by_cases l1 : p' < p
          · exact absurd (p5 p' (Nat.zero_le _) l1 ((okE p' g1).mpr g2)) (by rw [hh p' (by omega)]; exact g2')
          · by_cases l2 : p < p'
            · exact absurd ⟨(okE p p2).mp p3, by rw [← hh p hq4]; exact p4⟩ (g3 p l2)
            · omega
        rw [g4, this]
      · exact absurd ⟨(okE p p2).mp p3, by rw [← hh p hq4]; exact p4⟩ (g1 p p2)
    subst e3
    have goes : (τ.1 8 (24 * b + k) = nM1 ∨ ∃ f, f < 8 ∧ τ.1 8 (24 * b + k) = nI f ∧ ¬ (nI x >>> (nI f &&& nI 31)) &&& nI 1 = nI 0) → ∃ s' σd τd, f_X6_beginDo N w σ = some (nI 0, σd) ∧ f_X11_begins N q (nI T) (nI aw) τ = some (nI 0, τd) ∧ nOut w q qm b F n ly aw M T σ τ σd τd s' := by
      intro hA
      have hA' : σ.1 5 ((b * 24 + k) * 5 + 4) = nM1 ∨ ∃ f, f < 8 ∧ σ.1 5 ((b * 24 + k) * 5 + 4) = nI f ∧ ¬ (σ.1 w 3 >>> (nI f &&& nI 31)) &&& nI 1 = nI 0 := by rw [d4, a3]; exact hA
      refine ⟨T + th + 3, _, _, bd_do hb hk24 a2 a6 h8 d1 hq4 (by omega) hp' d3 hA', bg_do hq hb hk24 t0 t1 c0' hkd (hh3.trans (hn_take hq hi hq4 t1 eth t3 hA _)), Or.inr (Or.inr (Or.inr ⟨T + th, k, x, c, rfl, by omega, hk, ?_, ?_, ?_, ?_, ?_, ?_, Or.inl ⟨Or.inl ⟨kd, hkd, ?_⟩, ?_⟩⟩)), ⟨?_, ?_, ?_⟩, fun p' hp' => ?_, fun h => absurd h (by omega), fun u h => ⟨by omega, by omega⟩, by omega⟩
      · unfold nLv tk; simp (disch := omega) only [wrs, wrk, wrc, wr2, wl1, wls, wlk, wlc]; exact hL
      · simp (disch := omega) only [wrs, wrk, wrc, wr2, wl1, wls, wlk, wlc]
      · simp (disch := omega) only [wrs, wrk, wrc, wr2, wl1, wls, wlk, wlc]
      · unfold tk; simp (disch := omega) only [wrs, wrk, wrc, wr2, wl1, wls, wlk, wlc]
      · unfold tk; simp (disch := omega) only [wrs, wrk, wrc, wr2, wl1, wls, wlk, wlc]
      · unfold tk; simp (disch := omega) only [wrs, wrk, wrc, wr2, wl1, wls, wlk, wlc]
      · unfold tk; simp (disch := omega) only [wrs, wrk, wrc, wr2, wl1, wls, wlk, wlc]; exact c0'
      · unfold tk; simp (disch := omega) only [wrs, wrk, wrc, wr2, wl1, wls, wlk, wlc]
      · intro d e1 e2 e3; simp (disch := omega) only [wrs, wrk, wrc, wr2, wl1, wls, wlk, wlc]
      · intro d e1; simp (disch := omega) only [wrs, wrk, wrc, wr2, wl1, wls, wlk, wlc]
      · intro d e1 e2 e3; unfold tk; simp (disch := omega) only [wrs, wrk, wrc, wr2, wl1, wls, wlk, wlc]
      · unfold tk
        by_cases ep : p' = p
        · subst ep
          simp (disch := omega) only [wrs, wrk, wrc, wr2, wl1, wls, wlk, wlc]
          exact ⟨trivial, Or.inr ⟨T + th, rfl, rfl⟩⟩
        · simp (disch := omega) only [wrs, wrk, wrc, wr2, wl1, wls, wlk, wlc]
          exact ⟨hh p' hp', Or.inl trivial⟩
    rcases hm with hm | ⟨f, hf, hm⟩
    · exact goes (Or.inl hm)
    · by_cases hz : (nI x >>> (nI f &&& nI 31)) &&& nI 1 = nI 0
      · exact ⟨0, _, _, bd_harm hb hk24 a2 a6 h8 d1 hq4 hp' (by omega) (d4.trans hm) (by rw [a3]; exact hz), bg_do hq hb hk24 t0 t1 c0' hkd (hh3.trans (hn_harm hq hi hq4 (by omega) hm t3 hz _)), fin 3 (by decide)⟩
      · exact goes (Or.inr ⟨f, by omega, hm, hz⟩)
  · have e1 : r2 = nI 1 := by
      rcases hr2 with ⟨h, _⟩ | ⟨_, h⟩
      · exact h
      · exact absurd ((okE p p2).mp p3) (h p p2)
    subst e1
    obtain ⟨r3, hh3, h3⟩ := hn_is (N := N) (q := q) (T := T) hN hq hi bP (by omega) y2 eo hp2
    have e3 : r3 = nM1 := by
      rcases h3 with ⟨p', g1, ⟨g2, g2'⟩, g3, g4⟩ | ⟨_, g1⟩
      · exact absurd (p1 p' (Nat.zero_le _) g1 ((okE p' g1).mpr g2)) (by rw [hh p' (by omega)]; exact g2')
      · exact g1
    subst e3
    refine ⟨2, _, _, bd_busy hb hk24 a2 a6 h8 d1 hp', bg_do hq hb hk24 t0 t1 c0' hkd (hh3.trans (hn_wait hq _)), Or.inr (Or.inr (Or.inl ⟨rfl, k, x, c, kd, hk, hkd, ?_, ?_, ?_, ?_, ?_, ?_⟩)), ⟨?_, ?_, ?_⟩, fun p' hp' => ⟨?_, Or.inl ?_⟩, fun _ => ⟨p, by omega, p1 p (Nat.zero_le _) p2 p3⟩, fun u h => absurd h (by omega), by decide⟩
    · simp (disch := omega) only [wrs, wrk, wrc, wr2, wl1, wls, wlk, wlc]; exact c0'
    · unfold nLv
      simp (disch := omega) only [wrs, wrk, wrc, wr2, wl1, wls, wlk, wlc]
      exact ⟨⟨a2, a3, a4, a5, a6, a10, a11⟩, ⟨t0, t1, t3, t4, t5⟩, by rw [hwt], hxF, hseen, hcu, hmk⟩
    · simp (disch := omega) only [wrs, wrk, wrc, wr2, wl1, wls, wlk, wlc]
    · simp (disch := omega) only [wrs, wrk, wrc, wr2, wl1, wls, wlk, wlc]
    · simp (disch := omega) only [wrs, wrk, wrc, wr2, wl1, wls, wlk, wlc]; exact h9
    · simp (disch := omega) only [wrs, wrk, wrc, wr2, wl1, wls, wlk, wlc]
    · intro d e1 e2 e3; simp (disch := omega) only [wrs, wrk, wrc, wr2, wl1, wls, wlk, wlc]
    · intro d e1; simp (disch := omega) only [wrs, wrk, wrc, wr2, wl1, wls, wlk, wlc]
    · intro d e1 e2 e3; simp (disch := omega) only [wrs, wrk, wrc, wr2, wl1, wls, wlk, wlc]
    · simp (disch := omega) only [wrs, wrk, wrc, wr2, wl1, wls, wlk, wlc]; exact hh p' hp'
    · simp (disch := omega) only [wrs, wrk, wrc, wr2, wl1, wls, wlk, wlc]
  · have e1 : r2 = nI 0 := by
      rcases hr2 with ⟨_, p, h, h2⟩ | ⟨h, _⟩
      · exact absurd ((okE p h).mpr h2) (p2 p (Nat.zero_le p) h)
      · exact h
    subst e1
    exact ⟨0, _, _, bd_stuck hb hk24 a2 a6 h8 d1 hp', bg_do hq hb hk24 t0 t1 c0' hkd (hn_stuck hq hi eo hp2), fin 2 (by decide)⟩
