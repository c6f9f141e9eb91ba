/-! BOOK: step after step -/
theorem rdR.b {n B : Nat} {c : Nat → Nat} {σ τ σ' τ' : nS} (h : rdR n c σ τ) (g : bF B σ τ σ' τ') : rdR n c σ' τ' := by
  unfold rdR
  rw [g.1.1 7 (by decide) (by decide) (by decide) (by decide) (by decide), g.1.2.1 2 (by decide), g.2.1 10 (by decide) (by decide) (by decide) (by decide) (by decide), g.2.2.1 20 (by decide)]
  exact h
theorem tX.adv {B F S n k p p' : Nat} {c : Nat → Nat} {TL : List (Nat × Nat)} {σ0 τ0 σ τ σ' τ' : nS} (h : tX B F S n c k p TL σ0 τ0 σ τ) (hp : p ≤ p') (ht : tR n c p' σ' τ') (gc : aC σ σ') (gm : aM τ τ') : tX B F S n c k p' TL σ0 τ0 σ' τ' := by
  obtain ⟨x1, x2, x3, x4, x5, x6, x7, x8, x9, x10, x11⟩ := h
  refine ⟨x1.trans (bF.of (k := 0) (t := 0) gc.d.g gm.g), ht, by rw [gm.1 3 (by decide)]; exact x3, ?_, x5.fr (fun d d1 d2 i hi => by rw [gm.1 d (by omega)]) (fun i hi => by rw [gm.1 11 (by decide)]), x6, fun x hx => by have := x7 x hx; omega, by rw [gc.2 13 (by decide)]; exact x8, x9.fr (fun i hi => by rw [gc.1 8 (by decide), gc.1 9 (by decide)]; exact ⟨rfl, rfl⟩), x10, by rw [gc.2 9 (by decide)]; exact x11⟩
  rw [gc.1 5 (by decide), gm.1 4 (by decide), gm.1 5 (by decide), gm.1 6 (by decide), gm.1 7 (by decide), gm.1 8 (by decide)]
  exact x4
theorem endT {N B F S n k p : Nat} {c : Nat → Nat} {TL : List (Nat × Nat)} {σ0 τ0 σ τ : nS} (hN : 700 ≤ N) (hB : B < 5) (hk : k < 24) (hn : n ≤ 600) (h13 : σ.1 1 3 = nI B) (h : tX B F S n c (k + 1) p TL σ0 τ0 σ τ) :
    tRes B F S σ0 τ0 (nBd (f_X7_setSize N (nI B) (nI (k + 1)) σ) (fun _ s => nBd (f_X4_targetsAreThere N (nI (k + 1)) s) (fun r s => nZ r (some (r, s))))) (l_X11_reads_209 N τ (nI B) nM1 (nI 0)) := by
  obtain ⟨x1, x2, x3, x4, x5, x6, x7, x8, x9, x10, x11⟩ := h
  have hpn := x2.1
  have hs : f_X7_setSize N (nI B) (nI (k + 1)) σ = some (nI 0, wr σ 4 B (nI (k + 1))) := by simp (disch := first | omega | exact nM1_n | exact nM2_n | assumption) only [b_X7_setSize_0, l_X7_setSize_0, f_X7_setSize, ↓nLetR, ↓reduceIte, ↓e_m1, ↓e_m2, e_0, e_1, e_2, e_3, e_4, e_5, e_6, e_7, e_8, e_9, e_10, e_11, e_12, e_13, e_14, e_15, e_16, e_17, e_18, e_19, e_20, e_21, e_22, e_23, e_24, e_25, e_26, e_27, e_28, e_29, e_30, e_31, e_32, e_33, e_48, e_57, e_59, e_60, e_63, e_64, e_96, e_97, e_99, e_120, e_122, e_192, e_200, e_255, e_256, e_300, e_500, e_600, e_2000, e_5000, e_5240, e_6146, e_20000, e_65536, nIo, nI_clamp, nIxt, nI_1, nI_add, nI_mul, nI_eqF, nI_ltT, nI_ltF, nI_leT, nI_leF, nN_lt0, nN_le, nN_lt, nN_eq, nN_eq', eq_self, nBdS]
  have ta := ta_go (N := N) (K := k + 1) (σ := wr σ 4 B (nI (k + 1))) (TL := TL) (by omega) (by omega) (by rw [wrc _ _ _ (by decide)]; exact x8) (fun i hi => by
    have := x9 i TL[i].1 TL[i].2 (List.getElem?_eq_getElem hi)
    rw [wrc _ _ _ (by decide), wrc _ _ _ (by decide)]
    exact this) TL.length 0 N (by omega) (by omega)
  rw [List.drop_zero] at ta
  have ta' : f_X4_targetsAreThere N (nI (k + 1)) (wr σ 4 B (nI (k + 1))) = match fb (k + 1) TL with | none => some (nI 1, wr σ 4 B (nI (k + 1))) | some q => some (nI 0, wr (wr (wr σ 4 B (nI (k + 1))) 6 9 (nI 2)) 6 10 (nI q)) := ta
  have cm := check_m (N := N) (TL := TL) (by omega) hB (show k + 1 ≤ 24 by omega) (by omega) x3 x5 x6 (fun x hx => by have := x7 x hx; omega)
  rw [hs, nBdS, ta', cm]
  cases hf : fb (k + 1) TL with
  | none =>
    left
    refine ⟨k + 1, wr σ 4 B (nI (k + 1)), τ, by omega, by omega, ?_, rfl, x1.trans (bF.w4 _), wrs _ _ _ _, x3, fun k' hk' => ?_, by rw [wrc _ _ _ (by decide)]; exact x11⟩
    · show nBd (some (nI 1, wr σ 4 B (nI (k + 1)))) _ = _
      rw [nBdS, nZb]
    · rw [wrc _ _ _ (by decide)]
      obtain ⟨e, hok⟩ := x4 k' hk'
      refine ⟨e, hok.cut (fun h2 => ?_) (fun h4 => ?_)⟩
      · obtain ⟨X, hX, hin⟩ := x5.at k' hk'
        rcases hX with ⟨n2, _⟩ | ⟨e4, _⟩ | ⟨_, v, q, v2, q2, _, _, _, _, e6, _, e7, _, rfl⟩
        · exact absurd h2 n2
        · rw [h2] at e4; exact absurd e4 (by decide)
        · have a1 := fb_none hf (v, q) (hin _ (List.mem_cons_self ..))
          have a2 := fb_none hf (v2, q2) (hin _ (List.mem_cons_of_mem _ (List.mem_singleton.mpr rfl)))
          exact ⟨⟨v, a1, e6⟩, v2, a2, e7⟩
      · obtain ⟨X, hX, hin⟩ := x5.at k' hk'
        rcases hX with ⟨_, n4, _⟩ | ⟨_, v, q, _, _, e5, _, rfl⟩ | ⟨e2, _⟩
        · exact absurd h4 n4
        · exact ⟨v, fb_none hf (v, q) (hin _ (List.mem_singleton.mpr rfl)), e5⟩
        · rw [h4] at e2; exact absurd e2 (by decide)
  | some q =>
    refine failT (f := 2) (q := q) (x1.trans (bF.w4 (nI (k + 1)))) ?_ rfl
    show nBd (some (nI 0, wr (wr (wr σ 4 B (nI (k + 1))) 6 9 (nI 2)) 6 10 (nI q))) _ = _
    rw [nBdS, nZa]
    rfl
def pT (N : Nat) (m : Nat) : nS → Int32 → Option (Int32 × nS) := nLp (fun _ _ => none) (fun again => b_X4_readText_31 N again) m
def qT (N : Nat) (m : Nat) : nS → Int32 → Int32 → Option (Option Int32 × nS) := nLp (fun _ _ _ => none) (fun again => b_X11_reads_18 N (l_X11_reads_88 N again) (l_X11_reads_209 N)) m
theorem cont {N B F S n k p wh m m' : Nat} {c : Nat → Nat} {TL : List (Nat × Nat)} {σ0 τ0 σ τ τ1 : nS} (hN : 700 ≤ N) (hB : B < 5) (hk : k < 24) (hwh : wh < 6) (hm : 2 < m) (hm' : 3 < m') (hr0 : rdR n c σ0 τ0) (h13 : σ0.1 1 3 = nI B) (hx : tX B F S n c k p TL σ0 τ0 σ τ)
    (hb : f_X4_beginsStep N σ = some (nI 1, σ)) (hw : ∀ again, b_X11_reads_18 N (l_X11_reads_88 N again) (l_X11_reads_209 N) τ (nI B) (nI 1) = l_X11_reads_88 N again τ (nI B) (nI wh)) (hn1 : f_X11_next N τ = some (nI 0, τ1)) (ham : aM τ τ1) (hs : sRes B k TL.length p F S n c σ τ (f_X4_readStep N (nI k) σ) (f_X11_readStep N (nI (24 * B + k)) (nI k) (nI wh) τ1))
    (ih : ∀ p TL σ τ, tX B F S n c (k + 1) p TL σ0 τ0 σ τ → tRes B F S σ0 τ0 (pT N (m - 1) σ (nI (k + 1))) (qT N (m' - 1) τ (nI B) (nI 1))) :
    tRes B F S σ0 τ0 (pT N m σ (nI k)) (qT N m' τ (nI B) (nI 1)) := by
  have hn := hr0.1
  have x3 := hx.2.2.1
  have hne : (nI wh = nM1) = False := eq_false (nM1ne wh (by omega))
  have e1 : pT N m σ (nI k) = b_X4_readText_31 N (pT N (m - 1)) σ (nI k) := by
    unfold pT
    rw [nLpP _ _ (by omega)]
  have e2 : qT N m' τ (nI B) (nI 1) = l_X11_reads_88 N (qT N (m' - 1)) τ (nI B) (nI wh) := by
    rw [← hw (qT N (m' - 1))]
    unfold qT
    rw [nLpP _ _ (by omega)]
  have y3 : τ1.1 3 B = nI k := by rw [ham.1 3 (by decide)]; exact x3
  rw [e1, e2]
  rcases hs with ⟨p', σ', τ', r8, r11, hp, ht, gc, gm, h9, hst, hg⟩ | ⟨f, q, σ', τ', r8, r11, gc, gm, f1, f2, f3, f4⟩
  rotate_left
  · refine Or.inr ⟨f, q, σ', τ', ?_, ?_, hx.1.trans (bF.of gc gm), f1, f2, f3, f4⟩
    · simp (disch := first | omega | exact nM1_n | exact nM2_n | assumption) only [b_X4_readText_31, hb, r8, ↓nLetR, ↓reduceIte, ↓e_m1, ↓e_m2, e_0, e_1, e_2, e_3, e_4, e_5, e_6, e_7, e_8, e_9, e_10, e_11, e_12, e_13, e_14, e_15, e_16, e_17, e_18, e_19, e_20, e_21, e_22, e_23, e_24, e_25, e_26, e_27, e_28, e_29, e_30, e_31, e_32, e_33, e_48, e_57, e_59, e_60, e_63, e_64, e_96, e_97, e_99, e_120, e_122, e_192, e_200, e_255, e_256, e_300, e_500, e_600, e_2000, e_5000, e_5240, e_6146, e_20000, e_65536, nIo, nI_clamp, nIxt, nI_1, nI_add, nI_mul, nI_eqF, nI_ltT, nI_ltF, nI_leT, nI_leF, nN_lt0, nN_le, nN_lt, nN_eq, nN_eq', eq_self, nBdS]
    · simp (disch := first | omega | exact nM1_n | exact nM2_n | assumption) only [l_X11_reads_88, b_X11_reads_88, hne, x3, hn1, y3, r11, nBxN, ↓nLetR, ↓reduceIte, ↓e_m1, ↓e_m2, e_0, e_1, e_2, e_3, e_4, e_5, e_6, e_7, e_8, e_9, e_10, e_11, e_12, e_13, e_14, e_15, e_16, e_17, e_18, e_19, e_20, e_21, e_22, e_23, e_24, e_25, e_26, e_27, e_28, e_29, e_30, e_31, e_32, e_33, e_48, e_57, e_59, e_60, e_63, e_64, e_96, e_97, e_99, e_120, e_122, e_192, e_200, e_255, e_256, e_300, e_500, e_600, e_2000, e_5000, e_5240, e_6146, e_20000, e_65536, nIo, nI_clamp, nIxt, nI_1, nI_add, nI_mul, nI_eqF, nI_ltT, nI_ltF, nI_leT, nI_leF, nN_lt0, nN_le, nN_lt, nN_eq, nN_eq', eq_self, nBdS]
  obtain ⟨TL', hX'⟩ := hx.next hn hp ht gc gm h9 hst hg
  have z3 : τ'.1 3 B = nI k := by rw [gm.1 3 (by decide) (by decide) (by decide) (by decide)]; exact x3
  have c13 : σ'.1 1 3 = nI B := by rw [hX'.1.1.1 1 (by decide) (by decide) (by decide) (by decide) (by decide)]; exact h13
  have ht' := hX'.2.1
  have w22 : (wr τ' 3 B (nI (k + 1))).1 0 22 = τ'.1 0 22 := by rw [wrc _ _ _ (by decide)]
  -- the reference, up to what stands behind the step
  have q0 : ∀ s, s < 5 → ¬ s = 4 → τ'.1 0 22 = nI s → l_X11_reads_88 N (qT N (m' - 1)) τ (nI B) (nI wh) = qT N (m' - 1) (wr τ' 3 B (nI (k + 1))) (nI B) (nI 0) := by
    intro s s1 s2 e
    simp (disch := first | omega | exact nM1_n | exact nM2_n | assumption) only [l_X11_reads_88, b_X11_reads_88, l_X11_reads_174, b_X11_reads_174, l_X11_reads_183, b_X11_reads_183, hne, x3, hn1, y3, r11, nBxS, z3, e, ↓nLetR, ↓reduceIte, ↓e_m1, ↓e_m2, e_0, e_1, e_2, e_3, e_4, e_5, e_6, e_7, e_8, e_9, e_10, e_11, e_12, e_13, e_14, e_15, e_16, e_17, e_18, e_19, e_20, e_21, e_22, e_23, e_24, e_25, e_26, e_27, e_28, e_29, e_30, e_31, e_32, e_33, e_48, e_57, e_59, e_60, e_63, e_64, e_96, e_97, e_99, e_120, e_122, e_192, e_200, e_255, e_256, e_300, e_500, e_600, e_2000, e_5000, e_5240, e_6146, e_20000, e_65536, nIo, nI_clamp, nIxt, nI_1, nI_add, nI_mul, nI_eqF, nI_ltT, nI_ltF, nI_leT, nI_leF, nN_lt0, nN_le, nN_lt, nN_eq, nN_eq', eq_self, nBdS, wrs, wrk, wrc, wr2, wl1, wls, wlk, wlc]
  have q1 : ∀ s, s < 5 → ¬ s = 1 → ¬ s = 4 → τ'.1 0 22 = nI s → l_X11_reads_88 N (qT N (m' - 1)) τ (nI B) (nI wh) = some (none, flM (wr τ' 3 B (nI (k + 1))) 1 p') := by
    intro s s1 s2 s4 e
    rw [q0 s s1 s4 e]
    unfold qT
    rw [nLpP _ _ (by omega)]
    have hst2 := stop_is (N := N) (f := 1) (p := p') (τ := wr τ' 3 B (nI (k + 1)))
    have h23 : (wr τ' 3 B (nI (k + 1))).1 0 23 = nI p' := ht'.2.2.1
    have e' : (wr τ' 3 B (nI (k + 1))).1 0 22 = nI s := w22.trans e
    simp (disch := first | omega | exact nM1_n | exact nM2_n | assumption) only [b_X11_reads_18, e', h23, hst2, ↓nLetR, ↓reduceIte, ↓e_m1, ↓e_m2, e_0, e_1, e_2, e_3, e_4, e_5, e_6, e_7, e_8, e_9, e_10, e_11, e_12, e_13, e_14, e_15, e_16, e_17, e_18, e_19, e_20, e_21, e_22, e_23, e_24, e_25, e_26, e_27, e_28, e_29, e_30, e_31, e_32, e_33, e_48, e_57, e_59, e_60, e_63, e_64, e_96, e_97, e_99, e_120, e_122, e_192, e_200, e_255, e_256, e_300, e_500, e_600, e_2000, e_5000, e_5240, e_6146, e_20000, e_65536, nIo, nI_clamp, nIxt, nI_1, nI_add, nI_mul, nI_eqF, nI_ltT, nI_ltF, nI_leT, nI_leF, nN_lt0, nN_le, nN_lt, nN_eq, nN_eq', eq_self, nBdS]
  have bad : ∀ tk, tk < 5 → ¬ tk = 0 → ¬ tk = 3 → σ'.1 6 4 = nI tk → b_X4_readText_31 N (pT N (m - 1)) σ (nI k) = some (nI 0, flC σ' 1 p') := by
    intro tk t1 t2 t3 e
    have hf := fail_is (N := N) (f := 1) ht'.2.1
    simp (disch := first | omega | exact nM1_n | exact nM2_n | assumption) only [b_X4_readText_31, hb, r8, e, hf, nZa, ↓nLetR, ↓reduceIte, ↓e_m1, ↓e_m2, e_0, e_1, e_2, e_3, e_4, e_5, e_6, e_7, e_8, e_9, e_10, e_11, e_12, e_13, e_14, e_15, e_16, e_17, e_18, e_19, e_20, e_21, e_22, e_23, e_24, e_25, e_26, e_27, e_28, e_29, e_30, e_31, e_32, e_33, e_48, e_57, e_59, e_60, e_63, e_64, e_96, e_97, e_99, e_120, e_122, e_192, e_200, e_255, e_256, e_300, e_500, e_600, e_2000, e_5000, e_5240, e_6146, e_20000, e_65536, nIo, nI_clamp, nIxt, nI_1, nI_add, nI_mul, nI_eqF, nI_ltT, nI_ltF, nI_leT, nI_leF, nN_lt0, nN_le, nN_lt, nN_eq, nN_eq', eq_self, nBdS]
  rcases id ht'.2.2.2 with ⟨g1, g2⟩ | ⟨g1, g2⟩ | ⟨a, ha1, ha2, e3, e21, ⟨g1, g2, _⟩ | ⟨g1, g2, _⟩ | ⟨g1, g2⟩⟩
  · rw [w22] at g2
    have hE := endT (N := N) hN hB hk hn c13 hX'
    have l1 : b_X4_readText_31 N (pT N (m - 1)) σ (nI k) = nBd (f_X7_setSize N (nI B) (nI (k + 1)) σ') (fun _ s => nBd (f_X4_targetsAreThere N (nI (k + 1)) s) (fun r s => nZ r (some (r, s)))) := by
      simp (disch := first | omega | exact nM1_n | exact nM2_n | assumption) only [b_X4_readText_31, hb, r8, g1, c13, ↓nLetR, ↓reduceIte, ↓e_m1, ↓e_m2, e_0, e_1, e_2, e_3, e_4, e_5, e_6, e_7, e_8, e_9, e_10, e_11, e_12, e_13, e_14, e_15, e_16, e_17, e_18, e_19, e_20, e_21, e_22, e_23, e_24, e_25, e_26, e_27, e_28, e_29, e_30, e_31, e_32, e_33, e_48, e_57, e_59, e_60, e_63, e_64, e_96, e_97, e_99, e_120, e_122, e_192, e_200, e_255, e_256, e_300, e_500, e_600, e_2000, e_5000, e_5240, e_6146, e_20000, e_65536, nIo, nI_clamp, nIxt, nI_1, nI_add, nI_mul, nI_eqF, nI_ltT, nI_ltF, nI_leT, nI_leF, nN_lt0, nN_le, nN_lt, nN_eq, nN_eq', eq_self, nBdS]
    have l2 : l_X11_reads_88 N (qT N (m' - 1)) τ (nI B) (nI wh) = l_X11_reads_209 N (wr τ' 3 B (nI (k + 1))) (nI B) nM1 (nI 0) := by
      rw [q0 1 (by decide) (by decide) g2]
      unfold qT
      rw [nLpP _ _ (by omega)]
      have e' : (wr τ' 3 B (nI (k + 1))).1 0 22 = nI 1 := w22.trans g2
      simp (disch := first | omega | exact nM1_n | exact nM2_n | assumption) only [b_X11_reads_18, e', ↓nLetR, ↓reduceIte, ↓e_m1, ↓e_m2, e_0, e_1, e_2, e_3, e_4, e_5, e_6, e_7, e_8, e_9, e_10, e_11, e_12, e_13, e_14, e_15, e_16, e_17, e_18, e_19, e_20, e_21, e_22, e_23, e_24, e_25, e_26, e_27, e_28, e_29, e_30, e_31, e_32, e_33, e_48, e_57, e_59, e_60, e_63, e_64, e_96, e_97, e_99, e_120, e_122, e_192, e_200, e_255, e_256, e_300, e_500, e_600, e_2000, e_5000, e_5240, e_6146, e_20000, e_65536, nIo, nI_clamp, nIxt, nI_1, nI_add, nI_mul, nI_eqF, nI_ltT, nI_ltF, nI_leT, nI_leF, nN_lt0, nN_le, nN_lt, nN_eq, nN_eq', eq_self, nBdS]
    rw [l1, l2]
    exact hE
  · rw [w22] at g2
    exact failT hX'.1 (bad 4 (by decide) (by decide) (by decide) g1) (q1 0 (by decide) (by decide) (by decide) g2)
  · rw [w22] at g2
    exact failT hX'.1 (bad 1 (by decide) (by decide) (by decide) g1) (q1 2 (by decide) (by decide) (by decide) g2)
  · rw [w22] at g2
    exact failT hX'.1 (bad 2 (by decide) (by decide) (by decide) g1) (q1 3 (by decide) (by decide) (by decide) g2)
  · obtain ⟨p2, σ2, τ2, a1, a2, a3, a4, a5, a6⟩ := adv_is (N := N) hN (hr0.b hX'.1) e3 e21 ha2
    have hX2 := hX'.adv (by omega) a4 a5 a6
    have hi := ih p2 TL' σ2 τ2 hX2
    have l1 : b_X4_readText_31 N (pT N (m - 1)) σ (nI k) = pT N (m - 1) σ2 (nI (k + 1)) := by
      simp (disch := first | omega | exact nM1_n | exact nM2_n | assumption) only [b_X4_readText_31, hb, r8, g1, a2, ↓nLetR, ↓reduceIte, ↓e_m1, ↓e_m2, e_0, e_1, e_2, e_3, e_4, e_5, e_6, e_7, e_8, e_9, e_10, e_11, e_12, e_13, e_14, e_15, e_16, e_17, e_18, e_19, e_20, e_21, e_22, e_23, e_24, e_25, e_26, e_27, e_28, e_29, e_30, e_31, e_32, e_33, e_48, e_57, e_59, e_60, e_63, e_64, e_96, e_97, e_99, e_120, e_122, e_192, e_200, e_255, e_256, e_300, e_500, e_600, e_2000, e_5000, e_5240, e_6146, e_20000, e_65536, nIo, nI_clamp, nIxt, nI_1, nI_add, nI_mul, nI_eqF, nI_ltT, nI_ltF, nI_leT, nI_leF, nN_lt0, nN_le, nN_lt, nN_eq, nN_eq', eq_self, nBdS]
    have l2 : l_X11_reads_88 N (qT N (m' - 1)) τ (nI B) (nI wh) = qT N (m' - 1) τ2 (nI B) (nI 1) := by
      rw [w22] at g2
      simp (disch := first | omega | exact nM1_n | exact nM2_n | assumption) only [l_X11_reads_88, b_X11_reads_88, l_X11_reads_174, b_X11_reads_174, l_X11_reads_183, b_X11_reads_183, hne, x3, hn1, y3, r11, nBxS, z3, g2, a3, ↓nLetR, ↓reduceIte, ↓e_m1, ↓e_m2, e_0, e_1, e_2, e_3, e_4, e_5, e_6, e_7, e_8, e_9, e_10, e_11, e_12, e_13, e_14, e_15, e_16, e_17, e_18, e_19, e_20, e_21, e_22, e_23, e_24, e_25, e_26, e_27, e_28, e_29, e_30, e_31, e_32, e_33, e_48, e_57, e_59, e_60, e_63, e_64, e_96, e_97, e_99, e_120, e_122, e_192, e_200, e_255, e_256, e_300, e_500, e_600, e_2000, e_5000, e_5240, e_6146, e_20000, e_65536, nIo, nI_clamp, nIxt, nI_1, nI_add, nI_mul, nI_eqF, nI_ltT, nI_ltF, nI_leT, nI_leF, nN_lt0, nN_le, nN_lt, nN_eq, nN_eq', eq_self, nBdS, wrs, wrk, wrc, wr2, wl1, wls, wlk, wlc]
    rw [l1, l2]
    exact hi
