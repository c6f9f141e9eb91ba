/-! TWO NIGHTS: one night's tick -/
theorem sF.hs {w q qm F S P B : Nat} {σ0 τ0 σ τ : nS} (hw : 30 ≤ w) (hq : 23 ≤ q ∧ q ≤ 24) (hqm : 12 ≤ qm ∧ qm ≤ 13) (h : sF w q qm σ0 τ0 σ τ) (g : hHs F S P B σ0 τ0) : hHs F S P B σ τ := by
  unfold hHs
  rw [h.1 1 (by omega) (by omega) (by omega), h.1 2 (by omega) (by omega) (by omega), h.1 3 (by omega) (by omega) (by omega), h.2.2 0 (by omega) (by omega) (by omega), h.2.2 1 (by omega) (by omega) (by omega), h.2.2 2 (by omega) (by omega) (by omega)]
  exact g
theorem sF.bk {w q qm F S b n : Nat} {σ0 τ0 σ τ : nS} (hw : 30 ≤ w) (hq : 23 ≤ q ∧ q ≤ 24) (hqm : 12 ≤ qm ∧ qm ≤ 13) (h : sF w q qm σ0 τ0 σ τ) (g : hBk F S b n σ0 τ0) : hBk F S b n σ τ := by
  unfold hBk
  rw [h.1 4 (by omega) (by omega) (by omega), h.1 5 (by omega) (by omega) (by omega), h.2.2 3 (by omega) (by omega) (by omega), h.2.2 4 (by omega) (by omega) (by omega), h.2.2 5 (by omega) (by omega) (by omega), h.2.2 6 (by omega) (by omega) (by omega), h.2.2 7 (by omega) (by omega) (by omega), h.2.2 8 (by omega) (by omega) (by omega)]
  exact g
theorem finE {w q qm b F n ly aw M T k x c e : Nat} {σ τ : nS} (hw : 30 ≤ w) (hq : 23 ≤ q ∧ q ≤ 24) (hqm : 12 ≤ qm ∧ qm ≤ 13) (hT : T < 6000) (hL : nLv w q qm b F ly aw M k x c σ τ) (h8 : σ.1 w 8 = nI T) (hh : ∀ p, p < 4 → σ.1 11 p = τ.1 25 p) (he : e < 7) : nOut w q qm b F n ly aw M T σ τ (wr σ w 11 (nI e)) (wr (wr τ q 5 (nI e)) q 7 (nI T)) 0 := by
  obtain ⟨⟨a2, a3, a4, a5, a6, a10, a11⟩, ⟨t0, t1, t3, t4, t5⟩, hwt, hxF, hseen, hcu, hmk⟩ := id hL
  refine ⟨Or.inl ⟨rfl, ⟨e, T, he, hT, ?_, ?_, ?_, ?_, ?_⟩, ?_⟩, ⟨?_, ?_, ?_⟩, fun p hp => ⟨?_, Or.inl ?_⟩, fun h => absurd h (by decide), fun u h => absurd h (by omega), by decide⟩
  · simp (disch := omega) only [wrs, wrk, wrc, wr2, wl1, wls, wlk, wlc]
  · simp (disch := omega) only [wrs, wrk, wrc, wr2, wl1, wls, wlk, wlc]
  · simp (disch := omega) only [wrs, wrk, wrc, wr2, wl1, wls, wlk, wlc]; exact h8
  · simp (disch := omega) only [wrs, wrk, wrc, wr2, wl1, wls, wlk, wlc]
  · simp (disch := omega) only [wrs, wrk, wrc, wr2, wl1, wls, wlk, wlc]; exact hwt
  · unfold nMk; simp (disch := omega) only [wrs, wrk, wrc, wr2, wl1, wls, wlk, wlc]; exact hmk
  · intro d e1 e2 e3; simp (disch := omega) only [wrs, wrk, wrc, wr2, wl1, wls, wlk, wlc]
  · intro d e1; simp (disch := omega) only [wrs, wrk, wrc, wr2, wl1, wls, wlk, wlc]
  · intro d e1 e2 e3; simp (disch := omega) only [wrs, wrk, wrc, wr2, wl1, wls, wlk, wlc]
  · simp (disch := omega) only [wrs, wrk, wrc, wr2, wl1, wls, wlk, wlc]; exact hh p hp
  · simp (disch := omega) only [wrs, wrk, wrc, wr2, wl1, wls, wlk, wlc]
theorem takeD {w q qm b F n ly aw M T k x c y : Nat} {v : Int32} {σ τ : nS} (hw : 30 ≤ w) (hq : 23 ≤ q ∧ q ≤ 24) (hqm : 12 ≤ qm ∧ qm ≤ 13) (hT : T < 6000) (hk : k < n) (hL : nLv w q qm b F ly aw M k x c σ τ) (hh : ∀ p, p < 4 → σ.1 11 p = τ.1 25 p) (hy1 : 1 ≤ y) (hy2 : y ≤ 60) (hn : nNx q b ly k x (tk q T y v τ)) : nOut w q qm b F n ly aw M T σ τ (wr (wr σ w 8 (nI (T + y))) w 7 (nI 2)) (tk q T y v τ) (T + y + 3) := by
  refine ⟨Or.inr (Or.inr (Or.inr ⟨T + y, k, x, c, rfl, by omega, hk, ?_, ?_, ?_, ?_, ?_, ?_, hn⟩)), ⟨?_, ?_, ?_⟩, fun p hp => ⟨?_, Or.inl ?_⟩, fun h => absurd h (by omega), fun u h => ⟨by omega, by omega⟩, by omega⟩
  · unfold nLv tk; simp (disch := omega) only [wrs, wrk, wrc, wr2, wl1, wls, wlk, wlc]; exact hL
  · simp (disch := omega) only [wrs, wrk, wrc, wr2, wl1, wls, wlk, wlc]
  · simp (disch := omega) only [wrs, wrk, wrc, wr2, wl1, wls, wlk, wlc]
  · unfold tk; simp (disch := omega) only [wrs, wrk, wrc, wr2, wl1, wls, wlk, wlc]
  · unfold tk; simp (disch := omega) only [wrs, wrk, wrc, wr2, wl1, wls, wlk, wlc]
  · unfold tk; simp (disch := omega) only [wrs, wrk, wrc, wr2, wl1, wls, wlk, wlc]
  · intro d e1 e2 e3; simp (disch := omega) only [wrs, wrk, wrc, wr2, wl1, wls, wlk, wlc]
  · intro d e1; simp (disch := omega) only [wrs, wrk, wrc, wr2, wl1, wls, wlk, wlc]
  · intro d e1 e2 e3; unfold tk; simp (disch := omega) only [wrs, wrk, wrc, wr2, wl1, wls, wlk, wlc]
  · unfold tk; simp (disch := omega) only [wrs, wrk, wrc, wr2, wl1, wls, wlk, wlc]; exact hh p hp
  · simp (disch := omega) only [wrs, wrk, wrc, wr2, wl1, wls, wlk, wlc]
def mG (N q qm m : Nat) : nS → Int32 → Int32 → Option (Int32 × nS) := nLp (fun _ _ _ => none) (fun again => b_X11_goesOn_97 N q qm (l_X11_goesOn_126 N q qm again)) m
theorem mG_s {N q qm m : Nat} (hm : 0 < m) : mG N q qm m = b_X11_goesOn_97 N q qm (l_X11_goesOn_126 N q qm (mG N q qm (m - 1))) := nLpP _ _ hm
theorem mG_c {N q qm m : Nat} {τ τ2 : nS} {t x4 : Int32} (hm : 0 < m) (h5 : τ.1 q 5 = nM1) (h9 : τ.1 q 9 = nI 0) (h10 : τ.1 q 10 = nI 0) (hc : f_X11_comesTo N q qm t τ = some (nI 0, τ2)) : mG N q qm m τ t x4 = l_X11_goesOn_126 N q qm (mG N q qm (m - 1)) τ2 t x4 := by
  rw [mG_s hm]
  simp (disch := first | omega | exact nM1_n | exact nM2_n | assumption) only [b_X11_goesOn_97, h5, h9, h10, hc, ↓nLetR, ↓reduceIte, ↓e_m1, ↓e_m2, e_0, e_1, e_2, e_3, e_4, e_5, e_6, e_7, e_8, e_9, e_10, e_11, e_12, e_13, e_14, e_15, e_16, e_17, e_18, e_19, e_20, e_21, e_22, e_23, e_24, e_25, e_26, e_27, e_28, e_29, e_30, e_31, e_32, e_33, e_48, e_57, e_59, e_60, e_63, e_64, e_96, e_97, e_99, e_120, e_122, e_192, e_200, e_255, e_256, e_300, e_500, e_600, e_2000, e_5000, e_5240, e_6146, e_20000, e_65536, nIo, nI_clamp, nIxt, nI_1, nI_add, nI_mul, nI_eqF, nI_ltT, nI_ltF, nI_leT, nI_leF, nN_lt0, nN_le, nN_lt, nN_eq, nN_eq', eq_self, nBdS]
theorem mG_w {N q qm m : Nat} {τ : nS} {t x4 : Int32} (hm : 0 < m) (h5 : τ.1 q 5 = nM1) (h9 : τ.1 q 9 = nI 0) (h10 : τ.1 q 10 = nI 1) : mG N q qm m τ t x4 = l_X11_goesOn_126 N q qm (mG N q qm (m - 1)) τ t x4 := by
  rw [mG_s hm]
  simp (disch := first | omega | exact nM1_n | exact nM2_n | assumption) only [b_X11_goesOn_97, h5, h9, h10, ↓nLetR, ↓reduceIte, ↓e_m1, ↓e_m2, e_0, e_1, e_2, e_3, e_4, e_5, e_6, e_7, e_8, e_9, e_10, e_11, e_12, e_13, e_14, e_15, e_16, e_17, e_18, e_19, e_20, e_21, e_22, e_23, e_24, e_25, e_26, e_27, e_28, e_29, e_30, e_31, e_32, e_33, e_48, e_57, e_59, e_60, e_63, e_64, e_96, e_97, e_99, e_120, e_122, e_192, e_200, e_255, e_256, e_300, e_500, e_600, e_2000, e_5000, e_5240, e_6146, e_20000, e_65536, nIo, nI_clamp, nIxt, nI_1, nI_add, nI_mul, nI_eqF, nI_ltT, nI_ltF, nI_leT, nI_leF, nN_lt0, nN_le, nN_lt, nN_eq, nN_eq', eq_self, nBdS]
theorem mG_e {N q qm m : Nat} {τ : nS} {t x4 : Int32} (hm : 0 < m) (h5 : ¬ τ.1 q 5 = nM1) : mG N q qm m τ t x4 = some (nI 0, τ) := by
  rw [mG_s hm]
  simp (disch := first | omega | exact nM1_n | exact nM2_n | assumption) only [b_X11_goesOn_97, eq_false h5, ↓nLetR, ↓reduceIte, ↓e_m1, ↓e_m2, e_0, e_1, e_2, e_3, e_4, e_5, e_6, e_7, e_8, e_9, e_10, e_11, e_12, e_13, e_14, e_15, e_16, e_17, e_18, e_19, e_20, e_21, e_22, e_23, e_24, e_25, e_26, e_27, e_28, e_29, e_30, e_31, e_32, e_33, e_48, e_57, e_59, e_60, e_63, e_64, e_96, e_97, e_99, e_120, e_122, e_192, e_200, e_255, e_256, e_300, e_500, e_600, e_2000, e_5000, e_5240, e_6146, e_20000, e_65536, nIo, nI_clamp, nIxt, nI_1, nI_add, nI_mul, nI_eqF, nI_ltT, nI_ltF, nI_leT, nI_leF, nN_lt0, nN_le, nN_lt, nN_eq, nN_eq', eq_self, nBdS]
theorem m126 {N q qm m : Nat} {τ τd : nS} {t x4 : Int32} (h5 : τ.1 q 5 = nM1) (hb : f_X11_begins N q t x4 τ = some (nI 0, τd)) : l_X11_goesOn_126 N q qm (mG N q qm m) τ t x4 = if τd.1 q 10 = nI 0 then mG N q qm m τd t x4 else some (nI 0, τd) := by
  by_cases h : τd.1 q 10 = nI 0
  · rw [if_pos h]
    simp (disch := first | omega | exact nM1_n | exact nM2_n | assumption) only [l_X11_goesOn_126, b_X11_goesOn_126, h5, hb, h, ↓nLetR, ↓reduceIte, ↓e_m1, ↓e_m2, e_0, e_1, e_2, e_3, e_4, e_5, e_6, e_7, e_8, e_9, e_10, e_11, e_12, e_13, e_14, e_15, e_16, e_17, e_18, e_19, e_20, e_21, e_22, e_23, e_24, e_25, e_26, e_27, e_28, e_29, e_30, e_31, e_32, e_33, e_48, e_57, e_59, e_60, e_63, e_64, e_96, e_97, e_99, e_120, e_122, e_192, e_200, e_255, e_256, e_300, e_500, e_600, e_2000, e_5000, e_5240, e_6146, e_20000, e_65536, nIo, nI_clamp, nIxt, nI_1, nI_add, nI_mul, nI_eqF, nI_ltT, nI_ltF, nI_leT, nI_leF, nN_lt0, nN_le, nN_lt, nN_eq, nN_eq', eq_self, nBdS]
  · rw [if_neg h]
    simp (disch := first | omega | exact nM1_n | exact nM2_n | assumption) only [l_X11_goesOn_126, b_X11_goesOn_126, h5, hb, eq_false h, ↓nLetR, ↓reduceIte, ↓e_m1, ↓e_m2, e_0, e_1, e_2, e_3, e_4, e_5, e_6, e_7, e_8, e_9, e_10, e_11, e_12, e_13, e_14, e_15, e_16, e_17, e_18, e_19, e_20, e_21, e_22, e_23, e_24, e_25, e_26, e_27, e_28, e_29, e_30, e_31, e_32, e_33, e_48, e_57, e_59, e_60, e_63, e_64, e_96, e_97, e_99, e_120, e_122, e_192, e_200, e_255, e_256, e_300, e_500, e_600, e_2000, e_5000, e_5240, e_6146, e_20000, e_65536, nIo, nI_clamp, nIxt, nI_1, nI_add, nI_mul, nI_eqF, nI_ltT, nI_ltF, nI_leT, nI_leF, nN_lt0, nN_le, nN_lt, nN_eq, nN_eq', eq_self, nBdS]
theorem m126_e {N q qm m : Nat} {τ : nS} {t x4 : Int32} (h5 : ¬ τ.1 q 5 = nM1) : l_X11_goesOn_126 N q qm (mG N q qm m) τ t x4 = some (nI 0, τ) := by
  simp (disch := first | omega | exact nM1_n | exact nM2_n | assumption) only [l_X11_goesOn_126, b_X11_goesOn_126, eq_false h5, ↓nLetR, ↓reduceIte, ↓e_m1, ↓e_m2, e_0, e_1, e_2, e_3, e_4, e_5, e_6, e_7, e_8, e_9, e_10, e_11, e_12, e_13, e_14, e_15, e_16, e_17, e_18, e_19, e_20, e_21, e_22, e_23, e_24, e_25, e_26, e_27, e_28, e_29, e_30, e_31, e_32, e_33, e_48, e_57, e_59, e_60, e_63, e_64, e_96, e_97, e_99, e_120, e_122, e_192, e_200, e_255, e_256, e_300, e_500, e_600, e_2000, e_5000, e_5240, e_6146, e_20000, e_65536, nIo, nI_clamp, nIxt, nI_1, nI_add, nI_mul, nI_eqF, nI_ltT, nI_ltF, nI_leT, nI_leF, nN_lt0, nN_le, nN_lt, nN_eq, nN_eq', eq_self, nBdS]
theorem g40_w {N w m i b k : Nat} {σ σd : nS} {T : Int32} (h : σ.1 w 11 = nM1) (h7 : σ.1 w 7 = nI 1) (h2 : σ.1 w 2 = nI b) (h6 : σ.1 w 6 = nI k) (hd : f_X7_isDo N (nI b) (nI k) σ = some (nI 1, σ)) (ho : f_X6_beginDo N w σ = some (nI 0, σd)) :
    l_X6_goOn_40 N w (gG N w m) σ T (nI i) = gG N w m σd T (nI (i + 1)) := by
  simp (disch := first | omega | exact nM1_n | exact nM2_n | assumption) only [l_X6_goOn_40, b_X6_goOn_40, l_X6_goOn_60, b_X6_goOn_60, l_X6_goOn_92, b_X6_goOn_92, l_X6_goOn_105, b_X6_goOn_105, h, h7, h2, h6, hd, ho, ↓nLetR, ↓reduceIte, ↓e_m1, ↓e_m2, e_0, e_1, e_2, e_3, e_4, e_5, e_6, e_7, e_8, e_9, e_10, e_11, e_12, e_13, e_14, e_15, e_16, e_17, e_18, e_19, e_20, e_21, e_22, e_23, e_24, e_25, e_26, e_27, e_28, e_29, e_30, e_31, e_32, e_33, e_48, e_57, e_59, e_60, e_63, e_64, e_96, e_97, e_99, e_120, e_122, e_192, e_200, e_255, e_256, e_300, e_500, e_600, e_2000, e_5000, e_5240, e_6146, e_20000, e_65536, nIo, nI_clamp, nIxt, nI_1, nI_add, nI_mul, nI_eqF, nI_ltT, nI_ltF, nI_leT, nI_leF, nN_lt0, nN_le, nN_lt, nN_eq, nN_eq', eq_self, nBdS]
theorem nc_go {N w q qm b F S P B n ly aw M T : Nat} {σ0 τ0 : nS} (hN : 10 ≤ N) (hw : 30 ≤ w) (hq : 23 ≤ q ∧ q ≤ 24) (hqm : 12 ≤ qm ∧ qm ≤ 13) (hT : T ≤ 5000) (hM : M < 2 ^ 31) (h31 : τ0.1 0 31 = nI M) (hH : hHs F S P B σ0 τ0) (hB : hBk F S b n σ0 τ0) (hh : ∀ p, p < 4 → σ0.1 11 p = τ0.1 25 p) : ∀ u m1 m2 i k x c σ τ, cU (τ.1 qm) (nI M) 6144 = u → u + 2 < m1 → u + 2 < m2 → i ≤ c → k ≤ n → nLv w q qm b F ly aw M k x c σ τ → σ.1 w 7 = nI 0 → σ.1 w 8 = nI T → τ.1 q 9 = nI 0 → τ.1 q 10 = nI 0 → sF w q qm σ0 τ0 σ τ → σ.1 11 = σ0.1 11 → τ.1 25 = τ0.1 25 →
    ∃ s' σ' τ', l_X6_goOn_40 N w (gG N w m1) σ (nI T) (nI i) = some (nI 0, σ') ∧ mG N q qm m2 τ (nI T) (nI aw) = some (nI 0, τ') ∧ nOut w q qm b F n ly aw M T σ0 τ0 σ' τ' s' := by
  intro u
  induction u using Nat.strongRecOn with
  | _ u ih =>
    intro m1 m2 i k x c σ τ hu hm1 hm2 hic hkn hL h7 h8 h9 h10 hf e11 e25
    obtain ⟨⟨bF, bS, bP, bB⟩, ⟨w0, w1, w2, w3⟩, ⟨y0, y1, y2, y3⟩, ⟨hg, g, hgl, hg3⟩, hsf, hsk⟩ := hf.hs hw hq hqm hH
    obtain ⟨hb, ⟨hn1, hn⟩, z1, z2, hst⟩ := hf.bk hw hq hqm hB
    obtain ⟨⟨a2, a3, a4, a5, a6, a10, a11⟩, ⟨t0, t1, t3, t4, t5⟩, hwt, hxF, hseen, hcu, hmk⟩ := id hL
    have hx : x < 256 := Nat.lt_of_lt_of_le hxF (pow_le8 bF)
    have hc6 : c ≤ 6144 := by omega
    have k31 : τ.1 0 31 = nI M := by rw [hf.2.2 0 (by omega) (by omega) (by omega)]; exact h31
    have hhh : ∀ p, p < 4 → σ.1 11 p = τ.1 25 p := by rw [e11, e25]; exact hh
    by_cases hkn2 : k = n
    · subst hkn2
      refine ⟨0, _, _, g40_ce (by omega) a11 h7 (come_over hb hn a2 z1 a6) (by rw [wrs]; exact nM1ne 5 (by decide)), ?_, (finE hw hq hqm (by omega) hL h8 hhh (by decide)).cut hf e11⟩
      rw [mG_c (by omega) t5 h9 h10 (ct_over hq hb hn t0 t1 z2)]
      exact m126_e (by simp (disch := omega) only [wrs, wrk, wrc, wr2, wl1, wls, wlk, wlc]; exact nM1ne 5 (by decide))
    have hk : k < n := by omega
    by_cases hs : τ.1 qm (256 * k + x) = nI M
    · have hbit := (hseen k (by omega) x hx).mpr hs
      refine ⟨0, _, wr (wr (wr τ q 5 (nI 4)) q 7 (nI T)) qm (256 * k + x) (nI M), g40_ce (by omega) a11 h7 (come_again (by omega) hb hn hk hx (by omega) a2 z1 a6 a3 a10 hbit) ?_, ?_, ⟨Or.inl ⟨rfl, ⟨4, T, by decide, by omega, ?_, ?_, ?_, ?_, ?_⟩, ?_⟩, hf.trans ⟨?_, ?_, ?_⟩, fun p hp => ⟨?_, Or.inl ?_⟩, fun h => absurd h (by decide), fun u h => absurd h (by omega), by decide⟩⟩
      · simp (disch := omega) only [wrs, wrk, wrc, wr2, wl1, wls, wlk, wlc]; exact nM1ne 4 (by decide)
      · rw [mG_c (by omega) t5 h9 h10 (ct_seen hq hqm hb hn hk hx hM t0 t1 t3 z2 k31 hs)]
        exact m126_e (by simp (disch := omega) only [wrs, wrk, wrc, wr2, wl1, wls, wlk, wlc]; exact nM1ne 4 (by decide))
      · simp (disch := omega) only [wrs, wrk, wrc, wr2, wl1, wls, wlk, wlc]
      · simp (disch := omega) only [wrs, wrk, wrc, wr2, wl1, wls, wlk, wlc]
      · simp (disch := omega) only [wrs, wrk, wrc, wr2, wl1, wls, wlk, wlc, pW_1]; exact h8
      · simp (disch := omega) only [wrs, wrk, wrc, wr2, wl1, wls, wlk, wlc]
      · simp (disch := omega) only [wrs, wrk, wrc, wr2, wl1, wls, wlk, wlc, pW_1]; exact hwt
      · intro j hj
        rw [wrf]
        by_cases e : j = 256 * k + x
        · subst e; exact ⟨M, Nat.le_refl M, pk_us⟩
        · rw [pk_un e]; simp (disch := omega) only [wrs, wrk, wrc, wr2, wl1, wls, wlk, wlc]; exact hmk j hj
      · intro d e1 e2 e3; simp (disch := omega) only [wrs, wrk, wrc, wr2, wl1, wls, wlk, wlc, pW_1]
      · intro d e1; simp (disch := omega) only [wrs, wrk, wrc, wr2, wl1, wls, wlk, wlc, pW_2]
      · intro d e1 e2 e3; simp (disch := omega) only [wrs, wrk, wrc, wr2, wl1, wls, wlk, wlc]
      · simp (disch := omega) only [wrs, wrk, wrc, wr2, wl1, wls, wlk, wlc, pW_1]; exact hhh p hp
      · simp (disch := omega) only [wrs, wrk, wrc, wr2, wl1, wls, wlk, wlc, pW_1]; rw [e11]
    have hbit : sb (σ.2 (w + 1) (k * 4 + x / 64)) (x % 64) = false := by
      cases hb2 : sb (σ.2 (w + 1) (k * 4 + x / 64)) (x % 64) with
      | false => rfl
      | true => exact absurd ((hseen k (by omega) x hx).mp hb2) hs
    have hcome : f_X6_come N w σ = some (nI 0, sC w k x c σ) := come_new (by omega) hb hn hk hx (by omega) a2 z1 a6 a3 a10 hbit
    have hct := ct_new (N := N) (T := T) hq hqm hb hn hk hx t0 t1 t3 z2 k31 hs
    have hcu2 : cU (upd (τ.1 qm) (256 * k + x) (nI M)) (nI M) 6144 + 1 = u := by rw [← hu]; exact cU_upd (by omega) hs
    have eqm : (wr τ qm (256 * k + x) (nI M)).1 qm = upd (τ.1 qm) (256 * k + x) (nI M) := wrf _ _ _ _
    have hL2 : nLv w q qm b F ly aw M k x (c + 1) (sC w k x c σ) (wr τ qm (256 * k + x) (nI M)) := by
      refine ⟨⟨(sC_w (by decide)).trans a2, (sC_w (by decide)).trans a3, (sC_w (by decide)).trans a4, (sC_w (by decide)).trans a5, (sC_w (by decide)).trans a6, sC_c, (sC_w (by decide)).trans a11⟩, ⟨?_, ?_, ?_, ?_, ?_⟩, ?_, hxF, ?_, ?_, ?_⟩
      · rw [wrc _ _ _ (by omega)]; exact t0
      · rw [wrc _ _ _ (by omega)]; exact t1
      · rw [wrc _ _ _ (by omega)]; exact t3
      · rw [wrc _ _ _ (by omega)]; exact t4
      · rw [wrc _ _ _ (by omega)]; exact t5
      · rw [sC_w (by decide), wrc _ _ _ (by omega)]; exact hwt
      · rw [sC_2, eqm]; exact hseen.mark hx (sb_m x hx)
      · rw [eqm]; omega
      · intro j hj
        rw [eqm]
        by_cases e : j = 256 * k + x
        · subst e; exact ⟨M, Nat.le_refl M, pk_us⟩
        · rw [pk_un e]; exact hmk j hj
    have hf2 : sF w q qm σ τ (sC w k x c σ) (wr τ qm (256 * k + x) (nI M)) := by
      refine ⟨fun d e1 e2 e3 => sC_1 e1 e2, fun d e1 => ?_, fun d e1 e2 e3 => wrc _ _ _ e2⟩
      unfold sC
      simp (disch := omega) only [wrs, wrk, wrc, wr2, wl1, wls, wlk, wlc, pW_2]
    have hfc := hf.trans hf2
    have e11c : (sC w k x c σ).1 11 = σ0.1 11 := (sC_1 (by omega) (by omega)).trans e11
    have e25c : (wr τ qm (256 * k + x) (nI M)).1 25 = τ0.1 25 := by rw [wrc _ _ _ (by omega)]; exact e25
    have hhc : ∀ p, p < 4 → (sC w k x c σ).1 11 p = (wr τ qm (256 * k + x) (nI M)).1 25 p := by rw [e11c, e25c]; exact hh
    have v2 : (sC w k x c σ).1 w 2 = nI b := hL2.1.1
    have v3 : (sC w k x c σ).1 w 3 = nI x := hL2.1.2.1
    have v6 : (sC w k x c σ).1 w 6 = nI k := hL2.1.2.2.2.2.1
    have v8 : (sC w k x c σ).1 w 8 = nI T := (sC_w (by decide)).trans h8
    have v11 : (sC w k x c σ).1 w 11 = nM1 := hL2.1.2.2.2.2.2.2
    have u0 := hL2.2.1.1
    have u1 := hL2.2.1.2.1
    have u3 := hL2.2.1.2.2.1
    have u4 := hL2.2.1.2.2.2.1
    have u5 := hL2.2.1.2.2.2.2
    have u9 : (wr τ qm (256 * k + x) (nI M)).1 q 9 = nI 0 := by rw [wrc _ _ _ (by omega)]; exact h9
    have u10 : (wr τ qm (256 * k + x) (nI M)).1 q 10 = nI 0 := by rw [wrc _ _ _ (by omega)]; exact h10
    have hk24 : k < 24 := by omega
    have hHc := hfc.hs hw hq hqm hH
    have hBc := hfc.bk hw hq hqm hB
    obtain ⟨⟨d0, d1, d2, d3, d4⟩, hok⟩ := hBc.2.2.2.2 k hk
    have tail : ∀ s' σd τd, l_X6_goOn_40 N w (gG N w m1) σ (nI T) (nI i) = gG N w m1 σd (nI T) (nI (i + 1)) → f_X11_begins N q (nI T) (nI aw) (wr τ qm (256 * k + x) (nI M)) = some (nI 0, τd) → nOut w q qm b F n ly aw M T (sC w k x c σ) (wr τ qm (256 * k + x) (nI M)) σd τd s' → ∃ s' σ' τ', l_X6_goOn_40 N w (gG N w m1) σ (nI T) (nI i) = some (nI 0, σ') ∧ mG N q qm m2 τ (nI T) (nI aw) = some (nI 0, τ') ∧ nOut w q qm b F n ly aw M T σ0 τ0 σ' τ' s' := by
      intro s' σd τd q1 q2 q3
      refine ⟨s', σd, τd, q1.trans (q3.stopC (by omega) (by omega) (by omega)), ?_, q3.cut hfc e11c⟩
      rw [mG_c (by omega) t5 h9 h10 hct, m126 u5 q2]
      exact q3.stopM (by omega)
    rcases hok with ⟨hkd, _⟩ | ⟨hkd, ⟨s, hs8, es⟩, _⟩ | ⟨hkd, y, hy1, hy2, ey⟩ | ⟨hkd, y, hy, ey⟩ | hkd
    · obtain ⟨kd, hkd2, ekd⟩ : ∃ kd, kd < 2 ∧ (wr τ qm (256 * k + x) (nI M)).1 4 (24 * b + k) = nI kd := by
        rcases hkd with h | h
        · exact ⟨0, by decide, h⟩
        · exact ⟨1, by decide, h⟩
      obtain ⟨s', σd, τd, p1, p2, p3⟩ := dB_is (N := N) hN hw hq hqm (show T < 6000 by omega) hHc hBc hL2 hk hkd2 ekd v8 u9 hhc
      exact tail s' σd τd (g40_d a11 h7 hcome v11 v2 v6 (isDo_y hb hk24 (d0.trans ekd) hkd2) p1) p2 p3
    · have c0 := d0.trans hkd
      have bg := bg_ask (N := N) (T := T) (aw := nI aw) hq hb hk24 u0 u1 u3 u4 hkd es (by omega)
      refine tail _ _ _ (g40_o a11 h7 hcome v11 v2 v6 (isDo_n hb hk24 c0 (by decide) (by decide)) (bo_ask hb hk24 v2 v6 v8 c0)) bg (takeD hw hq hqm (by omega) hk hL2 hhc (by decide) (by decide) (Or.inr ⟨?_, s, by omega, ?_, ?_⟩))
      · unfold tk; simp (disch := omega) only [wrs, wrk, wrc, wr2, wl1, wls, wlk, wlc]; have := hkd; simp (disch := omega) only [wrs, wrk, wrc, wr2, wl1, wls, wlk, wlc] at this; exact this
      · unfold tk; simp (disch := omega) only [wrs, wrk, wrc, wr2, wl1, wls, wlk, wlc]; have := es; simp (disch := omega) only [wrs, wrk, wrc, wr2, wl1, wls, wlk, wlc] at this; exact this
      · unfold tk; simp (disch := omega) only [wrs, wrk, wrc, wr2, wl1, wls, wlk, wlc]
    · have c0 := d0.trans hkd
      have c1 := d1.trans ey
      have bg := bg_wait (N := N) (T := T) (aw := nI aw) hq hb hk24 u0 u1 hkd ey
      refine tail _ _ _ (g40_o a11 h7 hcome v11 v2 v6 (isDo_n hb hk24 c0 (by decide) (by decide)) (bo_wait hb hk24 v2 v6 v8 c0 c1)) bg (takeD hw hq hqm (by omega) hk hL2 hhc hy1 hy2 (Or.inl ⟨Or.inr ?_, ?_⟩))
      · unfold tk; simp (disch := omega) only [wrs, wrk, wrc, wr2, wl1, wls, wlk, wlc]; have := hkd; simp (disch := omega) only [wrs, wrk, wrc, wr2, wl1, wls, wlk, wlc] at this; exact this
      · unfold tk; simp (disch := omega) only [wrs, wrk, wrc, wr2, wl1, wls, wlk, wlc]
    · have c0 := d0.trans hkd
      have c1 := d1.trans ey
      have bg := bg_go (N := N) (T := T) (aw := nI aw) hq hb hk24 u0 u1 hkd ey hT
      rw [g40_o a11 h7 hcome v11 v2 v6 (isDo_n hb hk24 c0 (by decide) (by decide)) (bo_go hb hk24 v2 v6 v8 c0)]
      have hfin := fin_go (N := N) (w := w) (σ := wr (wr (sC w k x c σ) w 8 (nI T)) w 7 (nI 2)) (y := y) hb hk24 (by simp (disch := omega) only [wrs, wrk, wrc, wr2, wl1, wls, wlk, wlc]; exact v2) (by simp (disch := omega) only [wrs, wrk, wrc, wr2, wl1, wls, wlk, wlc]; exact v6) (by simp (disch := omega) only [wrs, wrk, wrc, wr2, wl1, wls, wlk, wlc]; exact c0) (by simp (disch := omega) only [wrs, wrk, wrc, wr2, wl1, wls, wlk, wlc]; exact c1)
      rw [g_fin (by omega) (t := T) (by simp (disch := omega) only [wrs, wrk, wrc, wr2, wl1, wls, wlk, wlc]; exact v11) (by simp (disch := omega) only [wrs, wrk, wrc, wr2, wl1, wls, wlk, wlc]) (by simp (disch := omega) only [wrs, wrk, wrc, wr2, wl1, wls, wlk, wlc]) (Nat.le_refl T) (by omega) (by omega), hfin, fin_s (t := T) (by simp (disch := omega) only [wrs, wrk, wrc, wr2, wl1, wls, wlk, wlc]) hT, nBdS]
      rw [mG_c (by omega) t5 h9 h10 hct, m126 u5 bg, if_pos (by simp (disch := omega) only [wrs, wrk, wrc, wr2, wl1, wls, wlk, wlc]; exact h10)]
      have eq2 : (wr (wr τ qm (256 * k + x) (nI M)) q 1 (nI y)).1 qm = upd (τ.1 qm) (256 * k + x) (nI M) := by rw [wrc _ _ _ (by omega), wrf]
      refine ih (cU (upd (τ.1 qm) (256 * k + x) (nI M)) (nI M) 6144) (by omega) (m1 - 1) (m2 - 1) (i + 1) y x (c + 1) _ _ (by rw [eq2]) (by omega) (by omega) (by omega) (by omega) ?_ ?_ ?_ ?_ ?_ (hfc.trans ⟨?_, ?_, ?_⟩) ?_ ?_
      · obtain ⟨⟨a2, a3, a4, a5, a6, a10, a11⟩, ⟨t0, t1, t3, t4, t5⟩, hwt, hxF, hseen, hcu, hmk⟩ := id hL2
        refine ⟨⟨?_, ?_, ?_, ?_, ?_, ?_, ?_⟩, ⟨?_, ?_, ?_, ?_, ?_⟩, ?_, hxF, ?_, ?_, ?_⟩
        · simp (disch := omega) only [wrs, wrk, wrc, wr2, wl1, wls, wlk, wlc]; exact a2
        · simp (disch := omega) only [wrs, wrk, wrc, wr2, wl1, wls, wlk, wlc]; exact a3
        · simp (disch := omega) only [wrs, wrk, wrc, wr2, wl1, wls, wlk, wlc]; exact a4
        · simp (disch := omega) only [wrs, wrk, wrc, wr2, wl1, wls, wlk, wlc]; exact a5
        · simp (disch := omega) only [wrs, wrk, wrc, wr2, wl1, wls, wlk, wlc]
        · simp (disch := omega) only [wrs, wrk, wrc, wr2, wl1, wls, wlk, wlc]; exact a10
        · simp (disch := omega) only [wrs, wrk, wrc, wr2, wl1, wls, wlk, wlc]; exact a11
        · rw [wrk _ _ _ (by decide)]; exact t0
        · rw [wrs]
        · rw [wrk _ _ _ (by decide)]; exact t3
        · rw [wrk _ _ _ (by decide)]; exact t4
        · rw [wrk _ _ _ (by decide)]; exact t5
        · rw [wrk _ q _ (show 8 ≠ 1 by decide)]; simp (disch := omega) only [wrc, wrk]; simp (disch := omega) only [wrc] at hwt; exact hwt
        · rw [eq2]; simp (disch := omega) only [wr2]; rw [eqm] at hseen; exact hseen
        · rw [eq2]; rw [eqm] at hcu; exact hcu
        · rw [eq2]; rw [eqm] at hmk; exact hmk
      · simp (disch := omega) only [wrs, wrk, wrc, wr2, wl1, wls, wlk, wlc]
      · simp (disch := omega) only [wrs, wrk, wrc, wr2, wl1, wls, wlk, wlc]
      · rw [wrk _ _ _ (by decide)]; exact u9
      · rw [wrk _ _ _ (by decide)]; exact u10
      · intro d e1 e2 e3; simp (disch := omega) only [wrs, wrk, wrc, wr2, wl1, wls, wlk, wlc]
      · intro d e1; simp (disch := omega) only [wrs, wrk, wrc, wr2, wl1, wls, wlk, wlc]
      · intro d e1 e2 e3; rw [wrc _ _ _ e1]
      · simp (disch := omega) only [wrs, wrk, wrc, wr2, wl1, wls, wlk, wlc]; exact e11c
      · rw [wrc _ _ _ (by omega)]; exact e25c
    · have c0 := d0.trans hkd
      have bg := bg_calm (N := N) (T := T) (aw := nI aw) hq hb hk24 u0 u1 u3 hkd
      obtain ⟨_, _, ⟨yy0, _⟩, ⟨hgc, gc, hglc, hg3c⟩, _⟩ := id hHc
      have hand : x &&& gc < 2 ^ F := Nat.lt_of_le_of_lt Nat.and_le_left hxF
      have ge : nI x &&& nI gc &&& ((nI 1 <<< (nI F &&& nI 31)) - nI 1) = nI x &&& nI gc := by
        rw [nI_and, mk_and F (by omega) (x &&& gc) (Nat.lt_of_lt_of_le hand (pow_le8 bF)), Nat.mod_eq_of_lt hand]
      rw [hg3c, yy0, ge] at bg
      have bo := bo_calm (N := N) hb hk24 v2 v6 c0
      rw [v3, hgc, hg3c] at bo
      by_cases hz : nI x &&& nI gc = nI 0
      · rw [if_pos hz] at bg bo
        exact tail _ _ _ (g40_o a11 h7 hcome v11 v2 v6 (isDo_n hb hk24 c0 (by decide) (by decide)) bo) bg (finE hw hq hqm (by omega) hL2 v8 hhc (by decide))
      · rw [if_neg hz] at bg bo
        exact tail _ _ _ (g40_o a11 h7 hcome v11 v2 v6 (isDo_n hb hk24 c0 (by decide) (by decide)) bo) bg (finE hw hq hqm (by omega) hL2 v8 hhc (by decide))
