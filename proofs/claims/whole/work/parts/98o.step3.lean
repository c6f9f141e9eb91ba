/-! BOOK: do, ask -/
theorem zS {B k t p F S n : Nat} {c : Nat → Nat} {σ τ : nS} {R : Option (Int32 × nS)} {R11 : Option (Option Int32 × nS)} (h : sRes B k t p F S n c σ τ R R11) : sRes B k t p F S n c σ τ (nBd R (fun r s => nZ r (some (r, s)))) R11 := by
  rcases h with ⟨p', σ', τ', e1, h⟩ | ⟨f, q, σ', τ', e1, h⟩
  · exact Or.inl ⟨p', σ', τ', by rw [e1, nBdS, nZb], h⟩
  · exact Or.inr ⟨f, q, σ', τ', by rw [e1, nBdS, nZa], h⟩
theorem rs0 {N i k : Nat} {τ : nS} (hi : i < 120) : f_X11_readStep N (nI i) (nI k) (nI 0) τ = nBx (f_X11_needNumber N (nI 0) (nI 7) (clM i (nI 0) τ)) (fun r s => nBd (f_X11_isWord N 6 (wr s 5 i r)) (fun q s => if q = nI 0 then nBd (f_X11_isWord N 5 s) (fun q s => if q = nI 0 then nBd (f_X11_stop N (nI 1) (s.1 0 23) s) (fun _ s => some (none, s)) else l_X11_readStep_113 N s (nI i)) else l_X11_readStep_113 N s (nI i))) := by
  unfold clM
  simp (disch := first | omega | exact nM1_n | exact nM2_n | assumption) only [f_X11_readStep, l_X11_readStep_0, b_X11_readStep_0, ↓nLetR, ↓reduceIte, ↓e_m1, ↓e_m2, e_0, e_1, e_2, e_3, e_4, e_5, e_6, e_7, e_8, e_9, e_10, e_11, e_12, e_13, e_14, e_15, e_16, e_17, e_18, e_19, e_20, e_21, e_22, e_23, e_24, e_25, e_26, e_27, e_28, e_29, e_30, e_31, e_32, e_33, e_48, e_57, e_59, e_60, e_63, e_64, e_96, e_97, e_99, e_120, e_122, e_192, e_200, e_255, e_256, e_300, e_500, e_600, e_2000, e_5000, e_5240, e_6146, e_20000, e_65536, nIo, nI_clamp, nIxt, nI_1, nI_add, nI_mul, nI_eqF, nI_ltT, nI_ltF, nI_leT, nI_leF, nN_lt0, nN_le, nN_lt, nN_eq, nN_eq', eq_self, nBdS]
  rfl
theorem rs113 {N i r kd : Nat} {τ : nS} (hi : i < 120) (hr : r < 2) (hk : kd = 1 - r) (h : f_X11_isWord N 6 τ = some (nI r, τ)) : l_X11_readStep_113 N τ (nI i) = nBd (f_X11_next N (wr τ 4 i (nI kd))) (fun _ s => mT N (nI i) s) := by
  have h2 : r = 0 ∨ r = 1 := by omega
  rcases h2 with rfl | rfl
  · subst hk
    simp (disch := first | omega | exact nM1_n | exact nM2_n | assumption) only [l_X11_readStep_113, b_X11_readStep_113, l_X11_readStep_132, b_X11_readStep_132, mT, h, ↓nLetR, ↓reduceIte, ↓e_m1, ↓e_m2, e_0, e_1, e_2, e_3, e_4, e_5, e_6, e_7, e_8, e_9, e_10, e_11, e_12, e_13, e_14, e_15, e_16, e_17, e_18, e_19, e_20, e_21, e_22, e_23, e_24, e_25, e_26, e_27, e_28, e_29, e_30, e_31, e_32, e_33, e_48, e_57, e_59, e_60, e_63, e_64, e_96, e_97, e_99, e_120, e_122, e_192, e_200, e_255, e_256, e_300, e_500, e_600, e_2000, e_5000, e_5240, e_6146, e_20000, e_65536, nIo, nI_clamp, nIxt, nI_1, nI_add, nI_mul, nI_eqF, nI_ltT, nI_ltF, nI_leT, nI_leF, nN_lt0, nN_le, nN_lt, nN_eq, nN_eq', eq_self, nBdS]
  · subst hk
    simp (disch := first | omega | exact nM1_n | exact nM2_n | assumption) only [l_X11_readStep_113, b_X11_readStep_113, l_X11_readStep_132, b_X11_readStep_132, mT, h, ↓nLetR, ↓reduceIte, ↓e_m1, ↓e_m2, e_0, e_1, e_2, e_3, e_4, e_5, e_6, e_7, e_8, e_9, e_10, e_11, e_12, e_13, e_14, e_15, e_16, e_17, e_18, e_19, e_20, e_21, e_22, e_23, e_24, e_25, e_26, e_27, e_28, e_29, e_30, e_31, e_32, e_33, e_48, e_57, e_59, e_60, e_63, e_64, e_96, e_97, e_99, e_120, e_122, e_192, e_200, e_255, e_256, e_300, e_500, e_600, e_2000, e_5000, e_5240, e_6146, e_20000, e_65536, nIo, nI_clamp, nIxt, nI_1, nI_add, nI_mul, nI_eqF, nI_ltT, nI_ltF, nI_leT, nI_leF, nN_lt0, nN_le, nN_lt, nN_eq, nN_eq', eq_self, nBdS]
theorem r47 {N B k x3 kd j : Nat} {σ : nS} (hB : B < 5) (hk : k < 24) (hj : (x3 = 0 ∧ j = 6) ∨ (x3 = 1 ∧ j = 5)) : l_X4_readDo_47 N σ (nI k) (nI x3) (nI B) (nI k) (nI 0) (nI kd) = nBd (f_X4_takeWord N j (wr σ 5 ((B * 24 + k) * 5) (nI kd))) (fun r s => if r = nI 0 then some (nI 0, s) else dT N (nI k) s) := by
  have hs0 : f_X7_setCell N (nI B) (nI k) (nI 0) (nI kd) σ = some (nI 0, wr σ 5 ((B * 24 + k) * 5) (nI kd)) := set_is hB hk (by decide)
  rcases hj with ⟨rfl, rfl⟩ | ⟨rfl, rfl⟩
  · unfold l_X4_readDo_47 b_X4_readDo_47
    rw [show (nBd (f_X7_setCell N (nI B) (nI k) (nI 0) (nI kd) σ)) = nBd (some (nI 0, wr σ 5 ((B * 24 + k) * 5) (nI kd))) from by rw [hs0], nBdS, if_pos (show nI 0 = 0 from rfl)]
    rfl
  · unfold l_X4_readDo_47 b_X4_readDo_47
    rw [show (nBd (f_X7_setCell N (nI B) (nI k) (nI 0) (nI kd) σ)) = nBd (some (nI 0, wr σ 5 ((B * 24 + k) * 5) (nI kd))) from by rw [hs0], nBdS, if_neg (show ¬ nI 1 = 0 from by decide)]
    rfl
theorem do_is {N B k t p a F S n : Nat} {c : Nat → Nat} {σ τ : nS} (hN : 700 ≤ N) (hB : B < 5) (hk : k < 24) (hF : F ≤ 8) (hr : rdR n c σ τ) (h1 : σ.1 1 3 = nI B) (hf : σ.1 1 0 = nI F) (hfm : τ.1 0 4 = nI F) (h13 : σ.1 6 13 = nI t) (ha : p < a) (ha2 : a ≤ n) (e3 : σ.1 6 3 = nI a) (e21 : τ.1 0 21 = nI a)
    (w0 : f_X4_isWord N 0 (clC B k σ) = some (nI 1, clC B k σ)) :
    ∃ τ1, f_X11_next N τ = some (nI 0, τ1) ∧ aM τ τ1 ∧ sRes B k t p F S n c σ τ (f_X4_readStep N (nI k) σ) (f_X11_readStep N (nI (24 * B + k)) (nI k) (nI 0) τ1) := by
  have hi : 24 * B + k < 120 := by omega
  have hcl := clC_is (N := N) (σ := σ) hB hk h1
  have c13 : (clC B k σ).1 1 3 = nI B := by rw [clC_1]; exact h1
  obtain ⟨p1, σ1, τ1, a1, a2, a3, a4, a5, a6⟩ := adv_is (N := N) (a := a) hN (hr.g (clC_g (B := B) (k := k) (t := t)) gM.rf) (by rw [clC_6]; exact e3) e21 ha2
  refine ⟨τ1, a3, a6, ?_⟩
  have hR : f_X4_readStep N (nI k) σ = nBd (f_X4_readDo N (nI k) (clC B k σ)) (fun r s => nZ r (some (r, s))) := by
    simp (disch := first | omega | exact nM1_n | exact nM2_n | assumption) only [b_X4_readStep_0, l_X4_readStep_0, f_X4_readStep, hcl, w0, ↓nLetR, ↓reduceIte, ↓e_m1, ↓e_m2, e_0, e_1, e_2, e_3, e_4, e_5, e_6, e_7, e_8, e_9, e_10, e_11, e_12, e_13, e_14, e_15, e_16, e_17, e_18, e_19, e_20, e_21, e_22, e_23, e_24, e_25, e_26, e_27, e_28, e_29, e_30, e_31, e_32, e_33, e_48, e_57, e_59, e_60, e_63, e_64, e_96, e_97, e_99, e_120, e_122, e_192, e_200, e_255, e_256, e_300, e_500, e_600, e_2000, e_5000, e_5240, e_6146, e_20000, e_65536, nIo, nI_clamp, nIxt, nI_1, nI_add, nI_mul, nI_eqF, nI_ltT, nI_ltF, nI_leT, nI_leF, nN_lt0, nN_le, nN_lt, nN_eq, nN_eq', eq_self, nBdS]
  rw [hR, rs0 hi]
  refine zS ?_
  have gC1 := (clC_g (B := B) (k := k) (t := t) (σ := σ)).trans a5.d.g
  have gM1 : gM B k τ (clM (24 * B + k) (nI 0) τ1) := a6.g.trans clM_g
  have ht : tR n c p1 σ1 (clM (24 * B + k) (nI 0) τ1) := a4.fr (fun _ _ => rfl) (fun f _ => by rw [clM_0]) rfl
  rcases tn_is (N := N) (l := 0) (hi := nI 7) hN (by decide) (hr.g gC1 gM1) ht with ⟨v, p2, σ2, τ2, hv, _, hh, hp2, b1, b2, b7, b8, b3, b4, b5⟩ | ⟨f, hf, b1, b2⟩
  rotate_left
  · refine failS gC1 gM1 (f := f) (q := p1) ?_ ?_
    · simp (disch := first | omega | exact nM1_n | exact nM2_n | assumption) only [f_X4_readDo, l_X4_readDo_0, b_X4_readDo_0, a2, b1, ↓nLetR, ↓reduceIte, ↓e_m1, ↓e_m2, e_0, e_1, e_2, e_3, e_4, e_5, e_6, e_7, e_8, e_9, e_10, e_11, e_12, e_13, e_14, e_15, e_16, e_17, e_18, e_19, e_20, e_21, e_22, e_23, e_24, e_25, e_26, e_27, e_28, e_29, e_30, e_31, e_32, e_33, e_48, e_57, e_59, e_60, e_63, e_64, e_96, e_97, e_99, e_120, e_122, e_192, e_200, e_255, e_256, e_300, e_500, e_600, e_2000, e_5000, e_5240, e_6146, e_20000, e_65536, nIo, nI_clamp, nIxt, nI_1, nI_add, nI_mul, nI_eqF, nI_ltT, nI_ltF, nI_leT, nI_leF, nN_lt0, nN_le, nN_lt, nN_eq, nN_eq', eq_self, nBdS]
    · rw [b2, nBxN]
  have hv7 : v < 8 := by
    by_cases q : v < 8
    · exact q
    · exact absurd hh (nI_ge (by omega) (by omega))
  have g2 := gC1.trans (B := B) (k := k) (t := t) b4.g
  have m2 := gM1.trans (B := B) (k := k) b5.g
  have k2 : σ2.1 1 3 = nI B := by rw [g2.1 1 (by decide) (by decide) (by decide) (by decide)]; exact h1
  have hkp := keep_is (N := N) (j := 1) hB hk (by decide) k2 b7
  have g3 := g2.trans (B := B) (k := k) (t := t) (gC.w5 1 (nI v))
  have m3 := m2.trans (B := B) (k := k) (gM.wd 5 (nI v) (by decide))
  have t3 : tR n c p2 (wr σ2 5 ((B * 24 + k) * 5 + 1) (nI v)) (wr τ2 5 (24 * B + k) (nI v)) := b3.fr (fun f _ => by rw [wrc _ _ _ (by decide)]) (fun f _ => by rw [wrc _ _ _ (by decide)]) rfl
  obtain ⟨r5, hr5, x1, x2, x3⟩ := word_is (N := N) (j := 5) (by omega) (hr.g g3 m3) t3 (by decide)
  obtain ⟨r6, hr6, y1, y2, y3⟩ := word_is (N := N) (j := 6) (by omega) (hr.g g3 m3) t3 (by decide)
  have k3 : (wr σ2 5 ((B * 24 + k) * 5 + 1) (nI v)).1 1 3 = nI B := by rw [wrc _ _ _ (by decide)]; exact k2
  obtain ⟨z4, z5, z6, z7, z8⟩ := clM_v (i := 24 * B + k) (what := nI 0) (τ := τ1)
  have s3 : (wr σ2 5 ((B * 24 + k) * 5 + 1) (nI v)).1 5 = upd ((clC B k σ).1 5) ((B * 24 + k) * 5 + 1) (nI v) := by rw [wrf, b4.1 5 (by decide), a5.1 5 (by decide)]
  have n3 : (wr σ2 5 ((B * 24 + k) * 5 + 1) (nI v)).1 6 13 = nI t := by rw [wrc _ _ _ (by decide), b4.2 13 (by decide), a5.2 13 (by decide), clC_6]; exact h13
  have y8 : (wr τ2 5 (24 * B + k) (nI v)).1 8 (24 * B + k) = nM1 := by rw [wrc _ _ _ (by decide), b5.1 8 (by decide)]; exact z8
  have tail : ∀ kd a', kd < 2 → p2 < a' → a' ≤ n → (wr σ2 5 ((B * 24 + k) * 5 + 1) (nI v)).1 6 3 = nI a' → (wr τ2 5 (24 * B + k) (nI v)).1 0 21 = nI a' → ∃ σ5 τ5, f_X4_advance N (wr (wr σ2 5 ((B * 24 + k) * 5 + 1) (nI v)) 5 ((B * 24 + k) * 5) (nI kd)) = some (nI 0, σ5) ∧ f_X11_next N (wr (wr τ2 5 (24 * B + k) (nI v)) 4 (24 * B + k) (nI kd)) = some (nI 0, τ5) ∧ sRes B k t p F S n c σ τ (dT N (nI k) σ5) (mT N (nI (24 * B + k)) τ5) := by
    intro kd a' hkd q1 q2 q3 q4
    have g4 := g3.trans (B := B) (k := k) (t := t) (gC.w5 0 (nI kd))
    have m4 := m3.trans (B := B) (k := k) (gM.wd 4 (nI kd) (by decide))
    obtain ⟨p5, σ5, τ5, u1, u2, u3, u4, u5, u6⟩ := adv_is (N := N) (a := a') hN (hr.g g4 m4) (by rw [wrc _ _ _ (by decide)]; exact q3) (by rw [wrc _ _ _ (by decide)]; exact q4) q2
    refine ⟨σ5, τ5, u2, u3, doTail hN hB hk hF hr hkd hv7 (by omega) (g4.trans u5.d.g) (m4.trans u6.g) u4 ?_ (by rw [u5.2 9 (by decide), wrc _ _ _ (by decide), wrc _ _ _ (by decide), b4.2 9 (by decide), a5.2 9 (by decide), clC_6]) h1 hf hfm ?_ ?_ ?_ ?_ ?_ ?_⟩
    · rw [u5.2 13 (by decide), wrc _ _ _ (by decide)]; exact n3
    · rw [u5.1 5 (by decide)]; exact wrs _ _ _ _
    · rw [u5.1 5 (by decide), wrk _ _ _ (by omega), s3, pk_us]
    · rw [u5.1 5 (by decide), wrk _ _ _ (by omega), s3, clC5]; simp (disch := omega) only [pk_us, pk_un]
    · rw [u6.1 4 (by decide), wrs]
    · rw [u6.1 5 (by decide), wrc _ _ _ (by decide), wrs]
    · rw [u6.1 8 (by decide), wrc _ _ _ (by decide)]; exact y8
  have hq5 : r5 = 0 ∨ r5 = 1 := by omega
  have hq6 : r6 = 0 ∨ r6 = 1 := by omega
  have readDo : f_X4_readDo N (nI k) (clC B k σ) = l_X4_readDo_47 N (wr σ2 5 ((B * 24 + k) * 5 + 1) (nI v)) (nI k) (nI r5) (nI B) (nI k) (nI 0) (nI r5) := by
    rcases hq5 with rfl | rfl
    · simp (disch := first | omega | exact nM1_n | exact nM2_n | assumption) only [f_X4_readDo, l_X4_readDo_0, b_X4_readDo_0, a2, b1, hkp, x1, k3, ↓nLetR, ↓reduceIte, ↓e_m1, ↓e_m2, e_0, e_1, e_2, e_3, e_4, e_5, e_6, e_7, e_8, e_9, e_10, e_11, e_12, e_13, e_14, e_15, e_16, e_17, e_18, e_19, e_20, e_21, e_22, e_23, e_24, e_25, e_26, e_27, e_28, e_29, e_30, e_31, e_32, e_33, e_48, e_57, e_59, e_60, e_63, e_64, e_96, e_97, e_99, e_120, e_122, e_192, e_200, e_255, e_256, e_300, e_500, e_600, e_2000, e_5000, e_5240, e_6146, e_20000, e_65536, nIo, nI_clamp, nIxt, nI_1, nI_add, nI_mul, nI_eqF, nI_ltT, nI_ltF, nI_leT, nI_leF, nN_lt0, nN_le, nN_lt, nN_eq, nN_eq', eq_self, nBdS]
    · simp (disch := first | omega | exact nM1_n | exact nM2_n | assumption) only [f_X4_readDo, l_X4_readDo_0, b_X4_readDo_0, a2, b1, hkp, x1, k3, ↓nLetR, ↓reduceIte, ↓e_m1, ↓e_m2, e_0, e_1, e_2, e_3, e_4, e_5, e_6, e_7, e_8, e_9, e_10, e_11, e_12, e_13, e_14, e_15, e_16, e_17, e_18, e_19, e_20, e_21, e_22, e_23, e_24, e_25, e_26, e_27, e_28, e_29, e_30, e_31, e_32, e_33, e_48, e_57, e_59, e_60, e_63, e_64, e_96, e_97, e_99, e_120, e_122, e_192, e_200, e_255, e_256, e_300, e_500, e_600, e_2000, e_5000, e_5240, e_6146, e_20000, e_65536, nIo, nI_clamp, nIxt, nI_1, nI_add, nI_mul, nI_eqF, nI_ltT, nI_ltF, nI_leT, nI_leF, nN_lt0, nN_le, nN_lt, nN_eq, nN_eq', eq_self, nBdS]
  rcases hq5 with rfl | rfl
  · -- right, or neither
    rw [readDo, r47 (j := 6) hB hk (Or.inl ⟨rfl, rfl⟩)]
    have g4 : gC B k t σ (wr (wr σ2 5 ((B * 24 + k) * 5 + 1) (nI v)) 5 ((B * 24 + k) * 5) (nI 0)) := g3.trans (gC.w5 0 (nI 0))
    have t4 : tR n c p2 (wr (wr σ2 5 ((B * 24 + k) * 5 + 1) (nI v)) 5 ((B * 24 + k) * 5) (nI 0)) (wr τ2 5 (24 * B + k) (nI v)) := t3.fr (fun f _ => by rw [wrc _ _ _ (by decide)]) (fun _ _ => rfl) rfl
    have w6 := wsame (N := N) (j := 6) (by omega) (hr.g g4 m3) t4 (by decide) hr6 y2
    rcases hq6 with rfl | rfl
    · refine failS g4 m3 (f := 1) (q := p2) ?_ ?_
      · have hfl := fail_is (N := N) (f := 1) t4.2.1
        simp (disch := first | omega | exact nM1_n | exact nM2_n | assumption) only [b_X4_takeWord_0, l_X4_takeWord_0, f_X4_takeWord, w6, hfl, nZa, ↓nLetR, ↓reduceIte, ↓e_m1, ↓e_m2, e_0, e_1, e_2, e_3, e_4, e_5, e_6, e_7, e_8, e_9, e_10, e_11, e_12, e_13, e_14, e_15, e_16, e_17, e_18, e_19, e_20, e_21, e_22, e_23, e_24, e_25, e_26, e_27, e_28, e_29, e_30, e_31, e_32, e_33, e_48, e_57, e_59, e_60, e_63, e_64, e_96, e_97, e_99, e_120, e_122, e_192, e_200, e_255, e_256, e_300, e_500, e_600, e_2000, e_5000, e_5240, e_6146, e_20000, e_65536, nIo, nI_clamp, nIxt, nI_1, nI_add, nI_mul, nI_eqF, nI_ltT, nI_ltF, nI_leT, nI_leF, nN_lt0, nN_le, nN_lt, nN_eq, nN_eq', eq_self, nBdS]
      · rw [b2, nBxS, y2, nBdS, if_pos rfl, x2, nBdS, if_pos rfl, t3.2.2.1, stop_is, nBdS]
    · obtain ⟨_, a', q1, q2, q3, q4⟩ := y3 rfl
      obtain ⟨σ5, τ5, u2, u3, u4⟩ := tail 0 a' (by decide) q1 q2 q3 q4
      have e8 : f_X4_takeWord N 6 (wr (wr σ2 5 ((B * 24 + k) * 5 + 1) (nI v)) 5 ((B * 24 + k) * 5) (nI 0)) = some (nI 1, σ5) := by
        simp (disch := first | omega | exact nM1_n | exact nM2_n | assumption) only [b_X4_takeWord_0, l_X4_takeWord_0, f_X4_takeWord, w6, u2, ↓nLetR, ↓reduceIte, ↓e_m1, ↓e_m2, e_0, e_1, e_2, e_3, e_4, e_5, e_6, e_7, e_8, e_9, e_10, e_11, e_12, e_13, e_14, e_15, e_16, e_17, e_18, e_19, e_20, e_21, e_22, e_23, e_24, e_25, e_26, e_27, e_28, e_29, e_30, e_31, e_32, e_33, e_48, e_57, e_59, e_60, e_63, e_64, e_96, e_97, e_99, e_120, e_122, e_192, e_200, e_255, e_256, e_300, e_500, e_600, e_2000, e_5000, e_5240, e_6146, e_20000, e_65536, nIo, nI_clamp, nIxt, nI_1, nI_add, nI_mul, nI_eqF, nI_ltT, nI_ltF, nI_leT, nI_leF, nN_lt0, nN_le, nN_lt, nN_eq, nN_eq', eq_self, nBdS]
      rw [e8, nBdS, if_neg (by decide), b2, nBxS, y2, nBdS, if_neg (by decide), rs113 hi (by decide) (kd := 0) rfl y2, u3, nBdS]
      exact u4
  · -- wrong
    have r60 : r6 = 0 := by
      rcases hq6 with h | h
      · exact h
      · have e5 := (x3 rfl).1
        have e6 := (y3 h).1
        rw [e5] at e6
        exact absurd e6 (by decide)
    subst r60
    rw [readDo, r47 (j := 5) hB hk (Or.inr ⟨rfl, rfl⟩)]
    have g4 : gC B k t σ (wr (wr σ2 5 ((B * 24 + k) * 5 + 1) (nI v)) 5 ((B * 24 + k) * 5) (nI 1)) := g3.trans (gC.w5 0 (nI 1))
    have t4 : tR n c p2 (wr (wr σ2 5 ((B * 24 + k) * 5 + 1) (nI v)) 5 ((B * 24 + k) * 5) (nI 1)) (wr τ2 5 (24 * B + k) (nI v)) := t3.fr (fun f _ => by rw [wrc _ _ _ (by decide)]) (fun _ _ => rfl) rfl
    have w5 := wsame (N := N) (j := 5) (by omega) (hr.g g4 m3) t4 (by decide) hr5 x2
    obtain ⟨_, a', q1, q2, q3, q4⟩ := x3 rfl
    obtain ⟨σ5, τ5, u2, u3, u4⟩ := tail 1 a' (by decide) q1 q2 q3 q4
    have e8 : f_X4_takeWord N 5 (wr (wr σ2 5 ((B * 24 + k) * 5 + 1) (nI v)) 5 ((B * 24 + k) * 5) (nI 1)) = some (nI 1, σ5) := by
      simp (disch := first | omega | exact nM1_n | exact nM2_n | assumption) only [b_X4_takeWord_0, l_X4_takeWord_0, f_X4_takeWord, w5, u2, ↓nLetR, ↓reduceIte, ↓e_m1, ↓e_m2, e_0, e_1, e_2, e_3, e_4, e_5, e_6, e_7, e_8, e_9, e_10, e_11, e_12, e_13, e_14, e_15, e_16, e_17, e_18, e_19, e_20, e_21, e_22, e_23, e_24, e_25, e_26, e_27, e_28, e_29, e_30, e_31, e_32, e_33, e_48, e_57, e_59, e_60, e_63, e_64, e_96, e_97, e_99, e_120, e_122, e_192, e_200, e_255, e_256, e_300, e_500, e_600, e_2000, e_5000, e_5240, e_6146, e_20000, e_65536, nIo, nI_clamp, nIxt, nI_1, nI_add, nI_mul, nI_eqF, nI_ltT, nI_ltF, nI_leT, nI_leF, nN_lt0, nN_le, nN_lt, nN_eq, nN_eq', eq_self, nBdS]
    rw [e8, nBdS, if_neg (by decide), b2, nBxS, y2, nBdS, if_pos rfl, x2, nBdS, if_neg (by decide), rs113 hi (by decide) (kd := 1) rfl y2, u3, nBdS]
    exact u4
theorem ask_is {N B k t p a F S n : Nat} {c : Nat → Nat} {σ τ : nS} (hN : 700 ≤ N) (hB : B < 5) (hk : k < 24) (hS : S ≤ 8) (htk : t < 47) (hr : rdR n c σ τ) (h1 : σ.1 1 3 = nI B) (hf : σ.1 1 1 = nI S) (hfm : τ.1 0 5 = nI S) (h13 : σ.1 6 13 = nI t) (ha : p < a) (ha2 : a ≤ n) (e3 : σ.1 6 3 = nI a) (e21 : τ.1 0 21 = nI a)
    (w0 : f_X4_isWord N 0 (clC B k σ) = some (nI 0, clC B k σ)) (w1 : f_X4_isWord N 1 (clC B k σ) = some (nI 1, clC B k σ)) :
    ∃ τ1, f_X11_next N τ = some (nI 0, τ1) ∧ aM τ τ1 ∧ sRes B k t p F S n c σ τ (f_X4_readStep N (nI k) σ) (f_X11_readStep N (nI (24 * B + k)) (nI k) (nI 2) τ1) := by
  have hi : 24 * B + k < 120 := by omega
  have hcl := clC_is (N := N) (σ := σ) hB hk h1
  have hs0 : f_X7_setCell N (nI B) (nI k) (nI 0) (nI 2) (clC B k σ) = some (nI 0, wr (clC B k σ) 5 ((B * 24 + k) * 5) (nI 2)) := set_is hB hk (by decide)
  have c13 : (clC B k σ).1 1 3 = nI B := by rw [clC_1]; exact h1
  have gd : gC B k t σ (wr (clC B k σ) 5 ((B * 24 + k) * 5) (nI 2)) := clC_g.trans (gC.w5 0 _)
  obtain ⟨p1, σ1, τ1, a1, a2, a3, a4, a5, a6⟩ := adv_is (N := N) (a := a) hN (hr.g gd gM.rf) (by rw [wrc _ _ _ (by decide), clC_6]; exact e3) e21 ha2
  refine ⟨τ1, a3, a6, ?_⟩
  have hR : f_X4_readStep N (nI k) σ = nBd (f_X4_readAsk N (nI k) (clC B k σ)) (fun r s => nZ r (some (r, s))) := by
    simp (disch := first | omega | exact nM1_n | exact nM2_n | assumption) only [b_X4_readStep_0, l_X4_readStep_0, f_X4_readStep, hcl, w0, w1, ↓nLetR, ↓reduceIte, ↓e_m1, ↓e_m2, e_0, e_1, e_2, e_3, e_4, e_5, e_6, e_7, e_8, e_9, e_10, e_11, e_12, e_13, e_14, e_15, e_16, e_17, e_18, e_19, e_20, e_21, e_22, e_23, e_24, e_25, e_26, e_27, e_28, e_29, e_30, e_31, e_32, e_33, e_48, e_57, e_59, e_60, e_63, e_64, e_96, e_97, e_99, e_120, e_122, e_192, e_200, e_255, e_256, e_300, e_500, e_600, e_2000, e_5000, e_5240, e_6146, e_20000, e_65536, nIo, nI_clamp, nIxt, nI_1, nI_add, nI_mul, nI_eqF, nI_ltT, nI_ltF, nI_leT, nI_leF, nN_lt0, nN_le, nN_lt, nN_eq, nN_eq', eq_self, nBdS]
  rw [hR, rs2 hi (by rw [a6.2 5 (by decide)]; exact hfm)]
  refine zS ?_
  have gC1 := gd.trans (B := B) (k := k) (t := t) a5.d.g
  have gM1 : gM B k τ (clM (24 * B + k) (nI 2) τ1) := a6.g.trans clM_g
  have f1 : σ1.1 1 1 = nI S := by rw [gC1.1 1 (by decide) (by decide) (by decide) (by decide)]; exact hf
  have ht : tR n c p1 σ1 (clM (24 * B + k) (nI 2) τ1) := a4.fr (fun _ _ => rfl) (fun f _ => by rw [clM_0]) rfl
  rcases tn_is (N := N) (l := 0) (hi := nI S - nI 1) hN (by decide) (hr.g gC1 gM1) ht with ⟨v, p2, σ2, τ2, hv, _, hh, hp2, b1, b2, b7, b8, b3, b4, b5⟩ | ⟨f, hf, b1, b2⟩
  rotate_left
  · refine failS gC1 gM1 (f := f) (q := p1) ?_ ?_
    · simp (disch := first | omega | exact nM1_n | exact nM2_n | assumption) only [b_X4_readAsk_0, l_X4_readAsk_0, f_X4_readAsk, c13, hs0, a2, f1, b1, ↓nLetR, ↓reduceIte, ↓e_m1, ↓e_m2, e_0, e_1, e_2, e_3, e_4, e_5, e_6, e_7, e_8, e_9, e_10, e_11, e_12, e_13, e_14, e_15, e_16, e_17, e_18, e_19, e_20, e_21, e_22, e_23, e_24, e_25, e_26, e_27, e_28, e_29, e_30, e_31, e_32, e_33, e_48, e_57, e_59, e_60, e_63, e_64, e_96, e_97, e_99, e_120, e_122, e_192, e_200, e_255, e_256, e_300, e_500, e_600, e_2000, e_5000, e_5240, e_6146, e_20000, e_65536, nIo, nI_clamp, nIxt, nI_1, nI_add, nI_mul, nI_eqF, nI_ltT, nI_ltF, nI_leT, nI_leF, nN_lt0, nN_le, nN_lt, nN_eq, nN_eq', eq_self, nBdS]
    · rw [b2, nBxN]
  have hvS : v < S := hiS hv hS hh
  have g2 := gC1.trans (B := B) (k := k) (t := t) b4.g
  have m2 := gM1.trans (B := B) (k := k) b5.g
  have k2 : σ2.1 1 3 = nI B := by rw [g2.1 1 (by decide) (by decide) (by decide) (by decide)]; exact h1
  have hkp := keep_is (N := N) (j := 1) hB hk (by decide) k2 b7
  have g3 := g2.trans (B := B) (k := k) (t := t) (gC.w5 1 (nI v))
  have m3 := m2.trans (B := B) (k := k) (gM.wd 5 (nI v) (by decide))
  have t3 : tR n c p2 (wr σ2 5 ((B * 24 + k) * 5 + 1) (nI v)) (wr τ2 5 (24 * B + k) (nI v)) := b3.fr (fun f _ => by rw [wrc _ _ _ (by decide)]) (fun f _ => by rw [wrc _ _ _ (by decide)]) rfl
  rcases tw_is (N := N) (j := 10) hN (hr.g g3 m3) t3 (by decide) with ⟨p4, σ4, τ4, hp4, x1, x2, x3, x4, x5⟩ | ⟨x1, x2⟩
  rotate_left
  · refine failS g3 m3 (f := 1) (q := p2) ?_ ?_
    · simp (disch := first | omega | exact nM1_n | exact nM2_n | assumption) only [b_X4_readAsk_0, l_X4_readAsk_0, f_X4_readAsk, c13, hs0, a2, f1, b1, hkp, x1, ↓nLetR, ↓reduceIte, ↓e_m1, ↓e_m2, e_0, e_1, e_2, e_3, e_4, e_5, e_6, e_7, e_8, e_9, e_10, e_11, e_12, e_13, e_14, e_15, e_16, e_17, e_18, e_19, e_20, e_21, e_22, e_23, e_24, e_25, e_26, e_27, e_28, e_29, e_30, e_31, e_32, e_33, e_48, e_57, e_59, e_60, e_63, e_64, e_96, e_97, e_99, e_120, e_122, e_192, e_200, e_255, e_256, e_300, e_500, e_600, e_2000, e_5000, e_5240, e_6146, e_20000, e_65536, nIo, nI_clamp, nIxt, nI_1, nI_add, nI_mul, nI_eqF, nI_ltT, nI_ltF, nI_leT, nI_leF, nN_lt0, nN_le, nN_lt, nN_eq, nN_eq', eq_self, nBdS]
    · rw [b2, nBxS, x2, nBxN]
  have g4 := g3.trans (B := B) (k := k) (t := t) x4.d.g
  have m4 := m3.trans (B := B) (k := k) x5.g
  rcases tt_is (N := N) (k := k) (w := 0) hN hk (by decide) (hr.g g4 m4) x3 with ⟨v2, p5, σ5, τ5, hv2, hp5, y1, y2, y7, y8, y3, y4, y5⟩ | ⟨y1, y2⟩
  rotate_left
  · refine failS g4 m4 (f := 1) (q := p4) ?_ ?_
    · simp (disch := first | omega | exact nM1_n | exact nM2_n | assumption) only [b_X4_readAsk_0, l_X4_readAsk_0, f_X4_readAsk, c13, hs0, a2, f1, b1, hkp, x1, y1, ↓nLetR, ↓reduceIte, ↓e_m1, ↓e_m2, e_0, e_1, e_2, e_3, e_4, e_5, e_6, e_7, e_8, e_9, e_10, e_11, e_12, e_13, e_14, e_15, e_16, e_17, e_18, e_19, e_20, e_21, e_22, e_23, e_24, e_25, e_26, e_27, e_28, e_29, e_30, e_31, e_32, e_33, e_48, e_57, e_59, e_60, e_63, e_64, e_96, e_97, e_99, e_120, e_122, e_192, e_200, e_255, e_256, e_300, e_500, e_600, e_2000, e_5000, e_5240, e_6146, e_20000, e_65536, nIo, nI_clamp, nIxt, nI_1, nI_add, nI_mul, nI_eqF, nI_ltT, nI_ltF, nI_leT, nI_leF, nN_lt0, nN_le, nN_lt, nN_eq, nN_eq', eq_self, nBdS]
    · rw [b2, nBxS, x2, nBxS, y2, nBxN]
  have g5 := g4.trans (B := B) (k := k) (t := t) y4.g
  have m5 := (m4.trans (B := B) (k := k) (gM.w11 (2 * k + 0) (nI p4) (by omega))).trans y5.g
  have k5 : σ5.1 1 3 = nI B := by rw [g5.1 1 (by decide) (by decide) (by decide) (by decide)]; exact h1
  have n5 : σ5.1 6 13 = nI t := by rw [y4.2 13 (by decide), x4.2 13 (by decide), wrc _ _ _ (by decide), b4.2 13 (by decide), a5.2 13 (by decide), wrc _ _ _ (by decide), clC_6]; exact h13
  have hk6 := kt_is (N := N) (j := 2) hB hk (by decide) k5 y7 y8 n5 (by omega)
  have g6 := g5.trans (B := B) (k := k) (t := t) ((gC.w8 t (nI v2) (Nat.le_refl t)).trans ((gC.w9 t (nI p4) (Nat.le_refl t)).trans ((gC.w6 13 (nI (t + 1)) (by decide)).trans (gC.w5 2 (nI v2)))))
  have m6 := m5.trans (B := B) (k := k) (gM.wd 6 (nI v2) (by decide))
  have t6 : tR n c p5 (wr (wr (wr (wr σ5 8 t (nI v2)) 9 t (nI p4)) 6 13 (nI (t + 1))) 5 ((B * 24 + k) * 5 + 2) (nI v2)) (wr τ5 6 (24 * B + k) (nI v2)) := y3.fr (fun f _ => by simp (disch := omega) only [wrs, wrk, wrc, wr2, wl1, wls, wlk, wlc]) (fun f _ => by rw [wrc _ _ _ (by decide)]) rfl
  rcases tw_is (N := N) (j := 11) hN (hr.g g6 m6) t6 (by decide) with ⟨p7, σ7, τ7, hp7, u1, u2, u3, u4, u5⟩ | ⟨u1, u2⟩
  rotate_left
  · refine failS g6 m6 (f := 1) (q := p5) ?_ ?_
    · simp (disch := first | omega | exact nM1_n | exact nM2_n | assumption) only [b_X4_readAsk_0, l_X4_readAsk_0, f_X4_readAsk, c13, hs0, a2, f1, b1, hkp, x1, y1, hk6, u1, ↓nLetR, ↓reduceIte, ↓e_m1, ↓e_m2, e_0, e_1, e_2, e_3, e_4, e_5, e_6, e_7, e_8, e_9, e_10, e_11, e_12, e_13, e_14, e_15, e_16, e_17, e_18, e_19, e_20, e_21, e_22, e_23, e_24, e_25, e_26, e_27, e_28, e_29, e_30, e_31, e_32, e_33, e_48, e_57, e_59, e_60, e_63, e_64, e_96, e_97, e_99, e_120, e_122, e_192, e_200, e_255, e_256, e_300, e_500, e_600, e_2000, e_5000, e_5240, e_6146, e_20000, e_65536, nIo, nI_clamp, nIxt, nI_1, nI_add, nI_mul, nI_eqF, nI_ltT, nI_ltF, nI_leT, nI_leF, nN_lt0, nN_le, nN_lt, nN_eq, nN_eq', eq_self, nBdS]
    · rw [b2, nBxS, x2, nBxS, y2, nBxS, u2, nBxN]
  have g7 := g6.trans (B := B) (k := k) (t := t) u4.d.g
  have m7 := m6.trans (B := B) (k := k) u5.g
  rcases tt_is (N := N) (k := k) (w := 1) hN hk (by decide) (hr.g g7 m7) u3 with ⟨v3, p8, σ8, τ8, hv3, hp8, z1, z2, z7, z8, z3, z4, z5⟩ | ⟨z1, z2⟩
  rotate_left
  · refine failS g7 m7 (f := 1) (q := p7) ?_ ?_
    · simp (disch := first | omega | exact nM1_n | exact nM2_n | assumption) only [b_X4_readAsk_0, l_X4_readAsk_0, f_X4_readAsk, c13, hs0, a2, f1, b1, hkp, x1, y1, hk6, u1, z1, ↓nLetR, ↓reduceIte, ↓e_m1, ↓e_m2, e_0, e_1, e_2, e_3, e_4, e_5, e_6, e_7, e_8, e_9, e_10, e_11, e_12, e_13, e_14, e_15, e_16, e_17, e_18, e_19, e_20, e_21, e_22, e_23, e_24, e_25, e_26, e_27, e_28, e_29, e_30, e_31, e_32, e_33, e_48, e_57, e_59, e_60, e_63, e_64, e_96, e_97, e_99, e_120, e_122, e_192, e_200, e_255, e_256, e_300, e_500, e_600, e_2000, e_5000, e_5240, e_6146, e_20000, e_65536, nIo, nI_clamp, nIxt, nI_1, nI_add, nI_mul, nI_eqF, nI_ltT, nI_ltF, nI_leT, nI_leF, nN_lt0, nN_le, nN_lt, nN_eq, nN_eq', eq_self, nBdS]
    · rw [b2, nBxS, x2, nBxS, y2, nBxS, u2, nBxS, z2, nBxN]
  have g8 := g7.trans (B := B) (k := k) (t := t) z4.g
  have m8 := (m7.trans (B := B) (k := k) (gM.w11 (2 * k + 1) (nI p7) (by omega))).trans z5.g
  have k8 : σ8.1 1 3 = nI B := by rw [g8.1 1 (by decide) (by decide) (by decide) (by decide)]; exact h1
  have n8 : σ8.1 6 13 = nI (t + 1) := by rw [z4.2 13 (by decide), u4.2 13 (by decide)]; simp (disch := decide) only [wrs, wrk, wrc, wr2, wl1, wls, wlk, wlc]
  have hk9 := kt_is (N := N) (j := 3) hB hk (by decide) k8 z7 z8 n8 (by omega)
  have g9 := g8.trans (B := B) (k := k) (t := t) ((gC.w8 (t + 1) (nI v3) (by omega)).trans ((gC.w9 (t + 1) (nI p7) (by omega)).trans ((gC.w6 13 (nI (t + 1 + 1)) (by decide)).trans (gC.w5 3 (nI v3)))))
  have m9 := m8.trans (B := B) (k := k) (gM.wd 7 (nI v3) (by decide))
  have s7 : σ7.1 5 = upd (upd (upd ((clC B k σ).1 5) ((B * 24 + k) * 5) (nI 2)) ((B * 24 + k) * 5 + 1) (nI v)) ((B * 24 + k) * 5 + 2) (nI v2) := by
    rw [u4.1 5 (by decide), wrf]
    simp (disch := decide) only [wrc]
    rw [y4.1 5 (by decide), x4.1 5 (by decide), wrf, b4.1 5 (by decide), a5.1 5 (by decide), wrf]
  have s9 : (wr (wr (wr (wr σ8 8 (t + 1) (nI v3)) 9 (t + 1) (nI p7)) 6 13 (nI (t + 1 + 1))) 5 ((B * 24 + k) * 5 + 3) (nI v3)).1 5 = upd (upd (upd (upd ((clC B k σ).1 5) ((B * 24 + k) * 5) (nI 2)) ((B * 24 + k) * 5 + 1) (nI v)) ((B * 24 + k) * 5 + 2) (nI v2)) ((B * 24 + k) * 5 + 3) (nI v3) := by
    rw [wrf]
    simp (disch := decide) only [wrc]
    rw [z4.1 5 (by decide), s7]
  obtain ⟨q4, q5, q6, q7, q8⟩ := clM_v (i := 24 * B + k) (what := nI 2) (τ := τ1)
  have T : ∀ d, d ≠ 0 → d ≠ 5 → d ≠ 6 → d ≠ 7 → d ≠ 11 → (wr τ8 7 (24 * B + k) (nI v3)).1 d = (clM (24 * B + k) (nI 2) τ1).1 d := fun d o0 o5 o6 o7 o11 => by
    rw [wrc _ _ _ o7, z5.1 d o0, wrc _ _ _ o11, u5.1 d o0, wrc _ _ _ o6, y5.1 d o0, wrc _ _ _ o11, x5.1 d o0, wrc _ _ _ o5, b5.1 d o0]
  have T4 : (wr τ8 7 (24 * B + k) (nI v3)).1 4 (24 * B + k) = nI 2 := by rw [T 4 (by decide) (by decide) (by decide) (by decide) (by decide)]; exact q4
  have T8 : (wr τ8 7 (24 * B + k) (nI v3)).1 8 (24 * B + k) = nM1 := by rw [T 8 (by decide) (by decide) (by decide) (by decide) (by decide)]; exact q8
  have T5 : (wr τ8 7 (24 * B + k) (nI v3)).1 5 (24 * B + k) = nI v := by rw [wrc _ _ _ (by decide), z5.1 5 (by decide), wrc _ _ _ (by decide), u5.1 5 (by decide), wrc _ _ _ (by decide), y5.1 5 (by decide), wrc _ _ _ (by decide), x5.1 5 (by decide), wrs]
  have T6 : (wr τ8 7 (24 * B + k) (nI v3)).1 6 (24 * B + k) = nI v2 := by rw [wrc _ _ _ (by decide), z5.1 6 (by decide), wrc _ _ _ (by decide), u5.1 6 (by decide), wrs]
  have T7 : (wr τ8 7 (24 * B + k) (nI v3)).1 7 (24 * B + k) = nI v3 := wrs _ _ _ _
  have T11 : (wr τ8 7 (24 * B + k) (nI v3)).1 11 = upd (τ7.1 11) (2 * k + 1) (nI p7) := by rw [wrc _ _ _ (by decide), z5.1 11 (by decide), wrf]
  have T110 : τ7.1 11 (2 * k) = nI p4 := by rw [u5.1 11 (by decide), wrc _ _ _ (by decide), y5.1 11 (by decide)]; exact wrs _ _ _ _
  have S8 : σ8.1 8 t = nI v2 ∧ σ8.1 9 t = nI p4 := by
    rw [z4.1 8 (by decide), u4.1 8 (by decide), z4.1 9 (by decide), u4.1 9 (by decide)]
    simp (disch := decide) only [wrs, wrk, wrc, wr2, wl1, wls, wlk, wlc]
    exact ⟨trivial, trivial⟩
  refine Or.inl ⟨p8, _, wr τ8 7 (24 * B + k) (nI v3), ?_, ?_, by omega, z3.fr (fun f _ => by simp (disch := omega) only [wrs, wrk, wrc, wr2, wl1, wls, wlk, wlc]) (fun f _ => by rw [wrc _ _ _ (by decide)]) rfl, g9, m9, (by simp (disch := decide) only [wrs, wrk, wrc, wr2, wl1, wls, wlk, wlc]; rw [z4.2 9 (by decide), u4.2 9 (by decide)]; simp (disch := decide) only [wrs, wrk, wrc, wr2, wl1, wls, wlk, wlc]; rw [y4.2 9 (by decide), x4.2 9 (by decide), wrc _ _ _ (by decide), b4.2 9 (by decide), a5.2 9 (by decide), wrc _ _ _ (by decide), clC_6]), ⟨⟨?_, ?_, ?_, ?_, ?_⟩, ?_⟩, Or.inr (Or.inr ⟨T4, v2, p4, v3, p7, hv2, hv3, by omega, by omega, by omega, T6, ?_, T7, ?_, ?_, ?_, ?_, ?_, ?_⟩)⟩
  · simp (disch := first | omega | exact nM1_n | exact nM2_n | assumption) only [b_X4_readAsk_0, l_X4_readAsk_0, f_X4_readAsk, c13, hs0, a2, f1, b1, hkp, x1, y1, hk6, u1, z1, hk9, ↓nLetR, ↓reduceIte, ↓e_m1, ↓e_m2, e_0, e_1, e_2, e_3, e_4, e_5, e_6, e_7, e_8, e_9, e_10, e_11, e_12, e_13, e_14, e_15, e_16, e_17, e_18, e_19, e_20, e_21, e_22, e_23, e_24, e_25, e_26, e_27, e_28, e_29, e_30, e_31, e_32, e_33, e_48, e_57, e_59, e_60, e_63, e_64, e_96, e_97, e_99, e_120, e_122, e_192, e_200, e_255, e_256, e_300, e_500, e_600, e_2000, e_5000, e_5240, e_6146, e_20000, e_65536, nIo, nI_clamp, nIxt, nI_1, nI_add, nI_mul, nI_eqF, nI_ltT, nI_ltF, nI_leT, nI_leF, nN_lt0, nN_le, nN_lt, nN_eq, nN_eq', eq_self, nBdS]
  · rw [b2, nBxS, x2, nBxS, y2, nBxS, u2, nBxS, z2, nBxS]
  · rw [T4, s9, clC5]; simp (disch := omega) only [pk_us, pk_un]
  · rw [T5, s9, clC5]; simp (disch := omega) only [pk_us, pk_un]
  · rw [T6, s9, clC5]; simp (disch := omega) only [pk_us, pk_un]
  · rw [T7, s9, clC5]; simp (disch := omega) only [pk_us, pk_un]
  · rw [T8, s9, clC5]; simp (disch := omega) only [pk_us, pk_un]
  · rw [T4, T5, T6, T7, T8]
    exact Or.inr (Or.inl ⟨rfl, ⟨v, hvS, rfl⟩, ⟨v2, hv2, rfl⟩, v3, hv3, rfl⟩)
  · rw [T11, pk_un (by omega)]; exact T110
  · rw [T11, pk_us]
  · simp (disch := omega) only [wrs, wrk, wrc, wr2, wl1, wls, wlk, wlc]; exact S8.1
  · simp (disch := omega) only [wrs, wrk, wrc, wr2, wl1, wls, wlk, wlc]; exact S8.2
  · simp (disch := omega) only [wrs, wrk, wrc, wr2, wl1, wls, wlk, wlc]
  · simp (disch := omega) only [wrs, wrk, wrc, wr2, wl1, wls, wlk, wlc]
  · simp (disch := omega) only [wrs, wrk, wrc, wr2, wl1, wls, wlk, wlc]
