/-! BOOK: tokens side by side -/
def tR (n : Nat) (c : Nat → Nat) (p : Nat) (σ τ : nS) : Prop := p ≤ n ∧ σ.1 6 5 = nI p ∧ τ.1 0 23 = nI p ∧
  ((σ.1 6 4 = nI 0 ∧ τ.1 0 22 = nI 1) ∨ (σ.1 6 4 = nI 4 ∧ τ.1 0 22 = nI 0) ∨
   ∃ a, p < a ∧ a ≤ n ∧ σ.1 6 3 = nI a ∧ τ.1 0 21 = nI a ∧
    ((σ.1 6 4 = nI 1 ∧ τ.1 0 22 = nI 2 ∧ a ≤ p + 8 ∧ (∀ i, i < a - p → 97 ≤ c (p + i) ∧ c (p + i) ≤ 122) ∧ τ.2 0 26 = Int64.ofNat (wv (fun i => c (p + i)) (a - p))) ∨
     (σ.1 6 4 = nI 2 ∧ τ.1 0 22 = nI 3 ∧ ∃ v, v < 100 ∧ σ.1 6 6 = nI v ∧ τ.1 0 24 = nI v) ∨
     (σ.1 6 4 = nI 3 ∧ τ.1 0 22 = nI 4)))
theorem adv_is {N n a : Nat} {c : Nat → Nat} {σ τ : nS} (hN : 700 ≤ N) (hr : rdR n c σ τ) (h3 : σ.1 6 3 = nI a) (h21 : τ.1 0 21 = nI a) (ha : a ≤ n) :
    ∃ p σ' τ', a ≤ p ∧ f_X4_advance N σ = some (nI 0, σ') ∧ f_X11_next N τ = some (nI 0, τ') ∧ tR n c p σ' τ' ∧ aC σ σ' ∧ aM τ τ' := by
  have hn := hr.1
  obtain ⟨σ1, a1, a2, a3⟩ := bc_go (N := N) (n - a) N a σ (by omega) (by omega) hr h3
  obtain ⟨τ1, m1, m2, m3⟩ := bm_go (N := N) (n - a) N a τ (by omega) (by omega) hr h21
  have hge := sk_ge (isB c) (n - a) a
  have hend := sk_end (isB c) (n - a) a
  generalize sk (isB c) (n - a) a = p at a2 m2 hge hend
  have hr1 : rdR n c σ1 τ1 := hr.fr a3 m3
  have hpn : p ≤ n := by omega
  have b38 : l_X4_advance_38 N σ1 = l_X4_advance_46 N (wr σ1 6 5 (nI p)) := by simp (disch := first | omega | exact nM1_n | exact nM2_n | assumption) only [l_X4_advance_38, b_X4_advance_38, a2, ↓nLetR, ↓reduceIte, ↓e_m1, ↓e_m2, e_0, e_1, e_2, e_3, e_4, e_5, e_6, e_7, e_8, e_9, e_10, e_11, e_12, e_13, e_14, e_15, e_16, e_17, e_18, e_19, e_20, e_21, e_22, e_23, e_24, e_25, e_26, e_27, e_28, e_29, e_30, e_31, e_32, e_33, e_48, e_57, e_59, e_60, e_63, e_64, e_96, e_97, e_99, e_120, e_122, e_192, e_200, e_255, e_256, e_300, e_500, e_600, e_2000, e_5000, e_5240, e_6146, e_20000, e_65536, nIo, nI_clamp, nIxt, nI_1, nI_add, nI_mul, nI_eqF, nI_ltT, nI_ltF, nI_leT, nI_leF, nN_lt0, nN_le, nN_lt, nN_eq, nN_eq', eq_self, nBdS]
  have hr2 : rdR n c (wr σ1 6 5 (nI p)) τ1 := hr1.fr (aC.w 5 _ (by decide)) aM.rf
  obtain ⟨σ2, l1, l2, l3, l4⟩ := lc_go (N := N) (n - p) N p (wr σ1 6 5 (nI p)) (by omega) (by omega) hr2 (by rw [wrk _ _ _ (by decide)]; exact a2)
  have hqge := sk_ge (isL c) (n - p) p
  have hqin := sk_in (isL c) (n - p) p
  have hlv := lv_eq (c := c) p (n - p) 0
  have c0 : f_X4_advance N σ = l_X4_advance_84 N σ2 := a1.trans (b38.trans l1)
  have x5 : σ2.1 6 5 = nI p := by rw [l4, wrs]
  have aC2 : aC σ σ2 := a3.trans ((aC.w 5 _ (by decide)).trans l3)
  have d0 : f_X11_next N τ = b_X11_next_0 N (fun _ => none) (l_X11_next_88 N) (l_X11_next_177 N) τ1 := m1
  have noL : (p < n → isL c p = false) → sk (isL c) (n - p) p = p := by
    intro h
    by_cases hp : p < n
    · obtain ⟨d, hd⟩ : ∃ d, n - p = d + 1 := ⟨n - p - 1, by omega⟩
      rw [hd]
      exact sk_z (h hp)
    · rw [show n - p = 0 by omega]
      rfl
  -- the class behind the letters, if there are none
  have noC : sk (isL c) (n - p) p = p → ∃ σ3, f_X4_advance N σ = l_X4_advance_180 N σ3 ∧ σ3.1 6 3 = nI (sk (isG c) (n - p) p) ∧ σ3.1 6 6 = nI (dvF c (n - p) p 0) ∧ aC σ σ3 ∧ σ3.1 6 5 = nI p ∧ rdR n c σ3 τ1 := by
    intro hq
    rw [hq] at l2
    have hr3 : rdR n c σ2 τ1 := hr.fr aC2 m3
    obtain ⟨σ3, g1, g2, g3, g4, g5⟩ := dc_go (N := N) (n - p) N p 0 (wr σ2 6 6 (nI 0)) (by omega) (by omega) (hr3.fr (aC.w 6 _ (by decide)) aM.rf) (by rw [wrk _ _ _ (by decide)]; exact l2) (wrs _ _ _ _)
    have hs : nI p - nI p = nI 0 := by rw [nI_subn p p (Nat.le_refl p), Nat.sub_self]
    have aC3 : aC σ σ3 := aC2.trans ((aC.w 6 _ (by decide)).trans g4)
    refine ⟨σ3, c0.trans ?_, g2, g3, aC3, by rw [g5, wrk _ _ _ (by decide)]; exact x5, hr.fr aC3 m3⟩
    rw [← g1]
    simp (disch := first | omega | exact nM1_n | exact nM2_n | assumption) only [l_X4_advance_84, b_X4_advance_84, l2, x5, hs, ↓nLetR, ↓reduceIte, ↓e_m1, ↓e_m2, e_0, e_1, e_2, e_3, e_4, e_5, e_6, e_7, e_8, e_9, e_10, e_11, e_12, e_13, e_14, e_15, e_16, e_17, e_18, e_19, e_20, e_21, e_22, e_23, e_24, e_25, e_26, e_27, e_28, e_29, e_30, e_31, e_32, e_33, e_48, e_57, e_59, e_60, e_63, e_64, e_96, e_97, e_99, e_120, e_122, e_192, e_200, e_255, e_256, e_300, e_500, e_600, e_2000, e_5000, e_5240, e_6146, e_20000, e_65536, nIo, nI_clamp, nIxt, nI_1, nI_add, nI_mul, nI_eqF, nI_ltT, nI_ltF, nI_leT, nI_leF, nN_lt0, nN_le, nN_lt, nN_eq, nN_eq', eq_self, nBdS]
    rfl
  by_cases hpe : p = n
  · subst hpe
    have hq := noL (fun h => absurd h (Nat.lt_irrefl p))
    obtain ⟨σ3, g1, g2, g3, g4, g5, g6⟩ := noC hq
    rw [Nat.sub_self] at g2
    have g2' : σ3.1 6 3 = nI p := g2
    have h2 := g6.2.1
    have hs : nI p - nI p = nI 0 := by rw [nI_subn p p (Nat.le_refl p), Nat.sub_self]
    have hb := byE (N := N) hr1
    have hb2 : f_X11_byteAt N (nI p) (wr (wr τ1 0 23 (nI p)) 0 22 (nI 0)) = some (nM1, wr (wr τ1 0 23 (nI p)) 0 22 (nI 0)) := byE (hr1.fr aC.rf ((aM.w 23 _ (by decide)).trans (aM.w 22 _ (by decide))))
    refine ⟨p, wr (wr σ3 6 4 (nI 0)) 6 3 (nI (p + 1)), wr (wr (wr τ1 0 23 (nI p)) 0 22 (nI 0)) 0 22 (nI 1), hge.1, ?_, ?_, ⟨Nat.le_refl p, ?_, ?_, Or.inl ⟨?_, ?_⟩⟩, g4.trans ((aC.w 4 _ (by decide)).trans (aC.w 3 _ (by decide))), m3.trans ((aM.w 23 _ (by decide)).trans ((aM.w 22 _ (by decide)).trans (aM.w 22 _ (by decide))))⟩
    · rw [g1]
      simp (disch := first | omega | exact nM1_n | exact nM2_n | assumption) only [l_X4_advance_180, b_X4_advance_180, g2', g5, hs, h2, ↓nLetR, ↓reduceIte, ↓e_m1, ↓e_m2, e_0, e_1, e_2, e_3, e_4, e_5, e_6, e_7, e_8, e_9, e_10, e_11, e_12, e_13, e_14, e_15, e_16, e_17, e_18, e_19, e_20, e_21, e_22, e_23, e_24, e_25, e_26, e_27, e_28, e_29, e_30, e_31, e_32, e_33, e_48, e_57, e_59, e_60, e_63, e_64, e_96, e_97, e_99, e_120, e_122, e_192, e_200, e_255, e_256, e_300, e_500, e_600, e_2000, e_5000, e_5240, e_6146, e_20000, e_65536, nIo, nI_clamp, nIxt, nI_1, nI_add, nI_mul, nI_eqF, nI_ltT, nI_ltF, nI_leT, nI_leF, nN_lt0, nN_le, nN_lt, nN_eq, nN_eq', eq_self, nBdS, wrs, wrk, wrc, wr2, wl1, wls, wlk, wlc]
    · rw [d0]
      have n32 : (nM1 = nI 32) = False := eq_false (by decide)
      have n10 : (nM1 = nI 10) = False := eq_false (by decide)
      simp (disch := first | omega | exact nM1_n | exact nM2_n | assumption) only [b_X11_next_0, m2, hb, n32, n10, hb2, ↓nLetR, ↓reduceIte, ↓e_m1, ↓e_m2, e_0, e_1, e_2, e_3, e_4, e_5, e_6, e_7, e_8, e_9, e_10, e_11, e_12, e_13, e_14, e_15, e_16, e_17, e_18, e_19, e_20, e_21, e_22, e_23, e_24, e_25, e_26, e_27, e_28, e_29, e_30, e_31, e_32, e_33, e_48, e_57, e_59, e_60, e_63, e_64, e_96, e_97, e_99, e_120, e_122, e_192, e_200, e_255, e_256, e_300, e_500, e_600, e_2000, e_5000, e_5240, e_6146, e_20000, e_65536, nIo, nI_clamp, nIxt, nI_1, nI_add, nI_mul, nI_eqF, nI_ltT, nI_ltF, nI_leT, nI_leF, nN_lt0, nN_le, nN_lt, nN_eq, nN_eq', eq_self, nBdS, wrs, wrk, wrc, wr2, wl1, wls, wlk, wlc]
    · simp (disch := decide) only [wrs, wrk, wrc, wr2, wl1, wls, wlk, wlc]; exact g5
    · simp (disch := decide) only [wrs, wrk, wrc, wr2, wl1, wls, wlk, wlc]
    · simp (disch := decide) only [wrs, wrk, wrc, wr2, wl1, wls, wlk, wlc]
    · simp (disch := decide) only [wrs, wrk, wrc, wr2, wl1, wls, wlk, wlc]
  have hp : p < n := by omega
  have hbl : ¬ (c p = 32 ∨ c p = 10) := of_decide_eq_false (hend (by omega))
  have hx := (hr.2.2.2 p hp).2.2
  have hb := byM (N := N) hr1 hp
  have hbC := byC (N := N) hr1 hp
  have n32 : (nI (c p) = nI 32) = False := nI_eqF (by omega) (by omega) (by decide)
  have n10 : (nI (c p) = nI 10) = False := nI_eqF (by omega) (by omega) (by decide)
  have nm1 : (nI (c p) = nM1) = False := eq_false (nM1ne _ (by omega))
  have aMp : aM τ (wr (wr τ1 0 23 (nI p)) 0 22 (nI 0)) := m3.trans ((aM.w 23 _ (by decide)).trans (aM.w 22 _ (by decide)))
  have hb2 : f_X11_byteAt N (nI p) (wr (wr τ1 0 23 (nI p)) 0 22 (nI 0)) = some (nI (c p), wr (wr τ1 0 23 (nI p)) 0 22 (nI 0)) := byM (hr.fr aC2 aMp) hp
  have hlm := let_m (N := N) (σ := wr (wr τ1 0 23 (nI p)) 0 22 (nI 0)) hx
  have hdm := dig_m (N := N) (σ := wr (wr τ1 0 23 (nI p)) 0 22 (nI 0)) hx
  by_cases hL : 97 ≤ c p ∧ c p ≤ 122
  · rw [if_pos hL] at hlm
    have hg : isL c p = true := decide_eq_true hL
    have hq1 : p + 1 ≤ sk (isL c) (n - p) p := by
      obtain ⟨d, hd⟩ : ∃ d, n - p = d + 1 := ⟨n - p - 1, by omega⟩
      rw [hd, sk_s hg]
      exact (sk_ge (isL c) d (p + 1)).1
    obtain ⟨τ2, g1, g2, g3, g4, g5, g6⟩ := lm_go (N := N) (σ := σ2) (n - p) N p 0 0 (wl (wr (wr τ1 0 23 (nI p)) 0 22 (nI 0)) 0 26 0) (by omega) (by omega) (hr.fr aC2 aMp) (by simp (disch := decide) only [wrs, wrk, wrc, wr2, wl1, wls, wlk, wlc]; exact m2) (by omega) (by rw [wls]; rfl)
    have hmod : f_X11_next N τ = some (nI 0, τ2) := by
      rw [d0, ← g1]
      simp (disch := first | omega | exact nM1_n | exact nM2_n | assumption) only [b_X11_next_0, m2, hb, n32, n10, nm1, hb2, hlm, ↓nLetR, ↓reduceIte, ↓e_m1, ↓e_m2, e_0, e_1, e_2, e_3, e_4, e_5, e_6, e_7, e_8, e_9, e_10, e_11, e_12, e_13, e_14, e_15, e_16, e_17, e_18, e_19, e_20, e_21, e_22, e_23, e_24, e_25, e_26, e_27, e_28, e_29, e_30, e_31, e_32, e_33, e_48, e_57, e_59, e_60, e_63, e_64, e_96, e_97, e_99, e_120, e_122, e_192, e_200, e_255, e_256, e_300, e_500, e_600, e_2000, e_5000, e_5240, e_6146, e_20000, e_65536, nIo, nI_clamp, nIxt, nI_1, nI_add, nI_mul, nI_eqF, nI_ltT, nI_ltF, nI_leT, nI_leF, nN_lt0, nN_le, nN_lt, nN_eq, nN_eq', eq_self, nBdS, wrs, wrk, wrc, wr2, wl1, wls, wlk, wlc]
      rfl
    have aM2 : aM τ τ2 := aMp.trans g6
    rw [Nat.zero_add] at g3
    rw [Nat.add_zero, Nat.zero_add] at hlv
    have hs : nI (sk (isL c) (n - p) p) - nI p = nI (sk (isL c) (n - p) p - p) := nI_subn _ _ hqge.1
    have hw0 : wv (fun i => c (p + i)) 0 = 0 := rfl
    rw [hw0] at hlv
    generalize sk (isL c) (n - p) p = q at l2 hqge hqin hlv hq1 g2 g3 hs
    by_cases h8 : q - p ≤ 8
    · rw [if_pos (show q - p < 9 by omega)] at g3
      refine ⟨p, wr σ2 6 4 (nI 1), τ2, hge.1, ?_, hmod, ⟨hpn, ?_, ?_, Or.inr (Or.inr ⟨q, by omega, by omega, ?_, g2, Or.inl ⟨wrs _ _ _ _, g3, by omega, fun i hi => of_decide_eq_true (hqin (p + i) (by omega) (by omega)), by rw [g5, hlv h8]⟩⟩)⟩, aC2.trans (aC.w 4 _ (by decide)), aM2⟩
      · rw [c0]
        simp (disch := first | omega | exact nM1_n | exact nM2_n | assumption) only [l_X4_advance_84, b_X4_advance_84, l2, x5, hs, ↓nLetR, ↓reduceIte, ↓e_m1, ↓e_m2, e_0, e_1, e_2, e_3, e_4, e_5, e_6, e_7, e_8, e_9, e_10, e_11, e_12, e_13, e_14, e_15, e_16, e_17, e_18, e_19, e_20, e_21, e_22, e_23, e_24, e_25, e_26, e_27, e_28, e_29, e_30, e_31, e_32, e_33, e_48, e_57, e_59, e_60, e_63, e_64, e_96, e_97, e_99, e_120, e_122, e_192, e_200, e_255, e_256, e_300, e_500, e_600, e_2000, e_5000, e_5240, e_6146, e_20000, e_65536, nIo, nI_clamp, nIxt, nI_1, nI_add, nI_mul, nI_eqF, nI_ltT, nI_ltF, nI_leT, nI_leF, nN_lt0, nN_le, nN_lt, nN_eq, nN_eq', eq_self, nBdS]
      · rw [wrk _ _ _ (by decide)]; exact x5
      · rw [g4]; simp (disch := decide) only [wrs, wrk, wrc, wr2, wl1, wls, wlk, wlc]
      · rw [wrk _ _ _ (by decide)]; exact l2
    · rw [if_neg (show ¬ q - p < 9 by omega)] at g3
      refine ⟨p, wr σ2 6 4 (nI 4), τ2, hge.1, ?_, hmod, ⟨hpn, ?_, ?_, Or.inr (Or.inl ⟨wrs _ _ _ _, ?_⟩)⟩, aC2.trans (aC.w 4 _ (by decide)), aM2⟩
      · rw [c0]
        simp (disch := first | omega | exact nM1_n | exact nM2_n | assumption) only [l_X4_advance_84, b_X4_advance_84, l2, x5, hs, ↓nLetR, ↓reduceIte, ↓e_m1, ↓e_m2, e_0, e_1, e_2, e_3, e_4, e_5, e_6, e_7, e_8, e_9, e_10, e_11, e_12, e_13, e_14, e_15, e_16, e_17, e_18, e_19, e_20, e_21, e_22, e_23, e_24, e_25, e_26, e_27, e_28, e_29, e_30, e_31, e_32, e_33, e_48, e_57, e_59, e_60, e_63, e_64, e_96, e_97, e_99, e_120, e_122, e_192, e_200, e_255, e_256, e_300, e_500, e_600, e_2000, e_5000, e_5240, e_6146, e_20000, e_65536, nIo, nI_clamp, nIxt, nI_1, nI_add, nI_mul, nI_eqF, nI_ltT, nI_ltF, nI_leT, nI_leF, nN_lt0, nN_le, nN_lt, nN_eq, nN_eq', eq_self, nBdS]
      · rw [wrk _ _ _ (by decide)]; exact x5
      · rw [g4]; simp (disch := decide) only [wrs, wrk, wrc, wr2, wl1, wls, wlk, wlc]
      · rw [g3]; simp (disch := decide) only [wrs, wrk, wrc, wr2, wl1, wls, wlk, wlc]
  rw [if_neg hL] at hlm
  obtain ⟨σ3, g1, g2, g3, g4, g5, g6⟩ := noC (noL (fun _ => decide_eq_false hL))
  have hrge := sk_ge (isG c) (n - p) p
  have h2 := g6.2.1
  have hbC3 := byC (N := N) g6 hp
  by_cases hG : 48 ≤ c p ∧ c p ≤ 57
  · rw [if_pos hG] at hdm
    have hg : isG c p = true := decide_eq_true hG
    have hq1 : p + 1 ≤ sk (isG c) (n - p) p := by
      obtain ⟨d, hd⟩ : ∃ d, n - p = d + 1 := ⟨n - p - 1, by omega⟩
      rw [hd, sk_s hg]
      exact (sk_ge (isG c) d (p + 1)).1
    obtain ⟨τ2, u1, u2, u3, u4, u5, u6⟩ := nm_go (N := N) (σ := σ2) (n - p) N p 0 0 (wr (wr (wr τ1 0 23 (nI p)) 0 22 (nI 0)) 0 24 (nI 0)) (by omega) (by omega) (hr.fr aC2 (aMp.trans (aM.w 24 _ (by decide)))) (by simp (disch := decide) only [wrs, wrk, wrc, wr2, wl1, wls, wlk, wlc]; exact m2) (by omega) (wrs _ _ _ _)
    have hmod : f_X11_next N τ = some (nI 0, τ2) := by
      rw [d0, ← u1]
      simp (disch := first | omega | exact nM1_n | exact nM2_n | assumption) only [b_X11_next_0, m2, hb, n32, n10, nm1, hb2, hlm, hdm, ↓nLetR, ↓reduceIte, ↓e_m1, ↓e_m2, e_0, e_1, e_2, e_3, e_4, e_5, e_6, e_7, e_8, e_9, e_10, e_11, e_12, e_13, e_14, e_15, e_16, e_17, e_18, e_19, e_20, e_21, e_22, e_23, e_24, e_25, e_26, e_27, e_28, e_29, e_30, e_31, e_32, e_33, e_48, e_57, e_59, e_60, e_63, e_64, e_96, e_97, e_99, e_120, e_122, e_192, e_200, e_255, e_256, e_300, e_500, e_600, e_2000, e_5000, e_5240, e_6146, e_20000, e_65536, nIo, nI_clamp, nIxt, nI_1, nI_add, nI_mul, nI_eqF, nI_ltT, nI_ltF, nI_leT, nI_leF, nN_lt0, nN_le, nN_lt, nN_eq, nN_eq', eq_self, nBdS, wrs, wrk, wrc, wr2, wl1, wls, wlk, wlc]
      rfl
    have aM2 : aM τ τ2 := (aMp.trans (aM.w 24 _ (by decide))).trans u6
    rw [Nat.zero_add] at u3
    have hde := dm_eq (c := c) (n - p) p 0 0
    have hml := mv_lt (c := c) (n - p) p 0 0
    rw [Nat.zero_add] at hde hml
    have hs : nI (sk (isG c) (n - p) p) - nI p = nI (sk (isG c) (n - p) p - p) := nI_subn _ _ hrge.1
    generalize sk (isG c) (n - p) p = q at g2 hrge hq1 u2 u3 hde hml hs
    by_cases h8 : q - p ≤ 2
    · rw [if_pos (show q - p < 3 by omega)] at u3
      rw [hde h8] at g3
      refine ⟨p, wr σ3 6 4 (nI 2), τ2, hge.1, ?_, hmod, ⟨hpn, ?_, ?_, Or.inr (Or.inr ⟨q, by omega, by omega, ?_, u2, Or.inr (Or.inl ⟨wrs _ _ _ _, u3, _, hml h8 (by decide), ?_, u5⟩)⟩)⟩, g4.trans (aC.w 4 _ (by decide)), aM2⟩
      · rw [g1]
        simp (disch := first | omega | exact nM1_n | exact nM2_n | assumption) only [l_X4_advance_180, b_X4_advance_180, g2, g5, hs, ↓nLetR, ↓reduceIte, ↓e_m1, ↓e_m2, e_0, e_1, e_2, e_3, e_4, e_5, e_6, e_7, e_8, e_9, e_10, e_11, e_12, e_13, e_14, e_15, e_16, e_17, e_18, e_19, e_20, e_21, e_22, e_23, e_24, e_25, e_26, e_27, e_28, e_29, e_30, e_31, e_32, e_33, e_48, e_57, e_59, e_60, e_63, e_64, e_96, e_97, e_99, e_120, e_122, e_192, e_200, e_255, e_256, e_300, e_500, e_600, e_2000, e_5000, e_5240, e_6146, e_20000, e_65536, nIo, nI_clamp, nIxt, nI_1, nI_add, nI_mul, nI_eqF, nI_ltT, nI_ltF, nI_leT, nI_leF, nN_lt0, nN_le, nN_lt, nN_eq, nN_eq', eq_self, nBdS]
      · rw [wrk _ _ _ (by decide)]; exact g5
      · rw [u4]; simp (disch := decide) only [wrs, wrk, wrc, wr2, wl1, wls, wlk, wlc]
      · rw [wrk _ _ _ (by decide)]; exact g2
      · rw [wrk _ _ _ (by decide)]; exact g3
    · rw [if_neg (show ¬ q - p < 3 by omega)] at u3
      refine ⟨p, wr σ3 6 4 (nI 4), τ2, hge.1, ?_, hmod, ⟨hpn, ?_, ?_, Or.inr (Or.inl ⟨wrs _ _ _ _, ?_⟩)⟩, g4.trans (aC.w 4 _ (by decide)), aM2⟩
      · rw [g1]
        simp (disch := first | omega | exact nM1_n | exact nM2_n | assumption) only [l_X4_advance_180, b_X4_advance_180, g2, g5, hs, ↓nLetR, ↓reduceIte, ↓e_m1, ↓e_m2, e_0, e_1, e_2, e_3, e_4, e_5, e_6, e_7, e_8, e_9, e_10, e_11, e_12, e_13, e_14, e_15, e_16, e_17, e_18, e_19, e_20, e_21, e_22, e_23, e_24, e_25, e_26, e_27, e_28, e_29, e_30, e_31, e_32, e_33, e_48, e_57, e_59, e_60, e_63, e_64, e_96, e_97, e_99, e_120, e_122, e_192, e_200, e_255, e_256, e_300, e_500, e_600, e_2000, e_5000, e_5240, e_6146, e_20000, e_65536, nIo, nI_clamp, nIxt, nI_1, nI_add, nI_mul, nI_eqF, nI_ltT, nI_ltF, nI_leT, nI_leF, nN_lt0, nN_le, nN_lt, nN_eq, nN_eq', eq_self, nBdS]
      · rw [wrk _ _ _ (by decide)]; exact g5
      · rw [u4]; simp (disch := decide) only [wrs, wrk, wrc, wr2, wl1, wls, wlk, wlc]
      · rw [u3]; simp (disch := decide) only [wrs, wrk, wrc, wr2, wl1, wls, wlk, wlc]
  rw [if_neg hG] at hdm
  have hsg : sk (isG c) (n - p) p = p := by
    obtain ⟨d, hd⟩ : ∃ d, n - p = d + 1 := ⟨n - p - 1, by omega⟩
    rw [hd]
    exact sk_z (decide_eq_false hG)
  rw [hsg] at g2
  have hs : nI p - nI p = nI 0 := by rw [nI_subn p p (Nat.le_refl p), Nat.sub_self]
  by_cases h59 : c p = 59
  · have e59 : (nI (c p) = nI 59) = True := by rw [h59]; exact eq_true rfl
    refine ⟨p, wr (wr σ3 6 4 (nI 3)) 6 3 (nI (p + 1)), wr (wr (wr (wr τ1 0 23 (nI p)) 0 22 (nI 0)) 0 22 (nI 4)) 0 21 (nI (p + 1)), hge.1, ?_, ?_, ⟨hpn, ?_, ?_, Or.inr (Or.inr ⟨p + 1, by omega, by omega, wrs _ _ _ _, wrs _ _ _ _, Or.inr (Or.inr ⟨?_, ?_⟩)⟩)⟩, g4.trans ((aC.w 4 _ (by decide)).trans (aC.w 3 _ (by decide))), aMp.trans ((aM.w 22 _ (by decide)).trans (aM.w 21 _ (by decide)))⟩
    · rw [g1]
      simp (disch := first | omega | exact nM1_n | exact nM2_n | assumption) only [l_X4_advance_180, b_X4_advance_180, g2, g5, hs, h2, hbC3, e59, ↓nLetR, ↓reduceIte, ↓e_m1, ↓e_m2, e_0, e_1, e_2, e_3, e_4, e_5, e_6, e_7, e_8, e_9, e_10, e_11, e_12, e_13, e_14, e_15, e_16, e_17, e_18, e_19, e_20, e_21, e_22, e_23, e_24, e_25, e_26, e_27, e_28, e_29, e_30, e_31, e_32, e_33, e_48, e_57, e_59, e_60, e_63, e_64, e_96, e_97, e_99, e_120, e_122, e_192, e_200, e_255, e_256, e_300, e_500, e_600, e_2000, e_5000, e_5240, e_6146, e_20000, e_65536, nIo, nI_clamp, nIxt, nI_1, nI_add, nI_mul, nI_eqF, nI_ltT, nI_ltF, nI_leT, nI_leF, nN_lt0, nN_le, nN_lt, nN_eq, nN_eq', eq_self, nBdS, wrs, wrk, wrc, wr2, wl1, wls, wlk, wlc]
    · rw [d0]
      simp (disch := first | omega | exact nM1_n | exact nM2_n | assumption) only [b_X11_next_0, m2, hb, n32, n10, nm1, hb2, hlm, hdm, e59, ↓nLetR, ↓reduceIte, ↓e_m1, ↓e_m2, e_0, e_1, e_2, e_3, e_4, e_5, e_6, e_7, e_8, e_9, e_10, e_11, e_12, e_13, e_14, e_15, e_16, e_17, e_18, e_19, e_20, e_21, e_22, e_23, e_24, e_25, e_26, e_27, e_28, e_29, e_30, e_31, e_32, e_33, e_48, e_57, e_59, e_60, e_63, e_64, e_96, e_97, e_99, e_120, e_122, e_192, e_200, e_255, e_256, e_300, e_500, e_600, e_2000, e_5000, e_5240, e_6146, e_20000, e_65536, nIo, nI_clamp, nIxt, nI_1, nI_add, nI_mul, nI_eqF, nI_ltT, nI_ltF, nI_leT, nI_leF, nN_lt0, nN_le, nN_lt, nN_eq, nN_eq', eq_self, nBdS, wrs, wrk, wrc, wr2, wl1, wls, wlk, wlc]
    · simp (disch := decide) only [wrs, wrk, wrc, wr2, wl1, wls, wlk, wlc]; exact g5
    · simp (disch := decide) only [wrs, wrk, wrc, wr2, wl1, wls, wlk, wlc]
    · simp (disch := decide) only [wrs, wrk, wrc, wr2, wl1, wls, wlk, wlc]
    · simp (disch := decide) only [wrs, wrk, wrc, wr2, wl1, wls, wlk, wlc]
  · have e59 : (nI (c p) = nI 59) = False := nI_eqF h59 (by omega) (by decide)
    refine ⟨p, wr (wr σ3 6 4 (nI 4)) 6 3 (nI (p + 1)), wr (wr τ1 0 23 (nI p)) 0 22 (nI 0), hge.1, ?_, ?_, ⟨hpn, ?_, ?_, Or.inr (Or.inl ⟨?_, ?_⟩)⟩, g4.trans ((aC.w 4 _ (by decide)).trans (aC.w 3 _ (by decide))), aMp⟩
    · rw [g1]
      simp (disch := first | omega | exact nM1_n | exact nM2_n | assumption) only [l_X4_advance_180, b_X4_advance_180, g2, g5, hs, h2, hbC3, e59, ↓nLetR, ↓reduceIte, ↓e_m1, ↓e_m2, e_0, e_1, e_2, e_3, e_4, e_5, e_6, e_7, e_8, e_9, e_10, e_11, e_12, e_13, e_14, e_15, e_16, e_17, e_18, e_19, e_20, e_21, e_22, e_23, e_24, e_25, e_26, e_27, e_28, e_29, e_30, e_31, e_32, e_33, e_48, e_57, e_59, e_60, e_63, e_64, e_96, e_97, e_99, e_120, e_122, e_192, e_200, e_255, e_256, e_300, e_500, e_600, e_2000, e_5000, e_5240, e_6146, e_20000, e_65536, nIo, nI_clamp, nIxt, nI_1, nI_add, nI_mul, nI_eqF, nI_ltT, nI_ltF, nI_leT, nI_leF, nN_lt0, nN_le, nN_lt, nN_eq, nN_eq', eq_self, nBdS, wrs, wrk, wrc, wr2, wl1, wls, wlk, wlc]
    · rw [d0]
      simp (disch := first | omega | exact nM1_n | exact nM2_n | assumption) only [b_X11_next_0, m2, hb, n32, n10, nm1, hb2, hlm, hdm, e59, ↓nLetR, ↓reduceIte, ↓e_m1, ↓e_m2, e_0, e_1, e_2, e_3, e_4, e_5, e_6, e_7, e_8, e_9, e_10, e_11, e_12, e_13, e_14, e_15, e_16, e_17, e_18, e_19, e_20, e_21, e_22, e_23, e_24, e_25, e_26, e_27, e_28, e_29, e_30, e_31, e_32, e_33, e_48, e_57, e_59, e_60, e_63, e_64, e_96, e_97, e_99, e_120, e_122, e_192, e_200, e_255, e_256, e_300, e_500, e_600, e_2000, e_5000, e_5240, e_6146, e_20000, e_65536, nIo, nI_clamp, nIxt, nI_1, nI_add, nI_mul, nI_eqF, nI_ltT, nI_ltF, nI_leT, nI_leF, nN_lt0, nN_le, nN_lt, nN_eq, nN_eq', eq_self, nBdS, wrs, wrk, wrc, wr2, wl1, wls, wlk, wlc]
    · simp (disch := decide) only [wrs, wrk, wrc, wr2, wl1, wls, wlk, wlc]; exact g5
    · simp (disch := decide) only [wrs, wrk, wrc, wr2, wl1, wls, wlk, wlc]
    · simp (disch := decide) only [wrs, wrk, wrc, wr2, wl1, wls, wlk, wlc]
    · simp (disch := decide) only [wrs, wrk, wrc, wr2, wl1, wls, wlk, wlc]
