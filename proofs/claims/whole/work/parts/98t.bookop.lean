/-! BOOK: the call -/
theorem iAll.mono {B B' : Nat} {t rw en : Nat → Int32} {hA aB aM aX : Int32} {aC me td : Nat → Int32} (hB : B ≤ B') (h : iAll B t rw en hA aB aM aX aC me td) : iAll B' t rw en hA aB aM aX aC me td := by
  rcases h with h | ⟨h1, h2, ⟨b, hb, e⟩, h3⟩
  · exact Or.inl h
  · exact Or.inr ⟨h1, h2, ⟨b, by omega, e⟩, h3⟩
theorem nBcS {T R : Type} (x : Int32) (σ : nS) (k : Int32 → nS → Option (R × T)) (h : nS → Option (R × T)) : nBc (some (some x, σ)) k h = k x σ := rfl
theorem nBcN {T R : Type} (σ : nS) (k : Int32 → nS → Option (R × T)) (h : nS → Option (R × T)) : nBc (some (none, σ)) k h = h σ := rfl
theorem read_is {N B F S n : Nat} {c : Nat → Nat} {σ τ : nS} (hN : 1000 ≤ N) (hB : B < 5) (hF : F ≤ 8) (hS : S ≤ 8) (hr : rdR n c (wr σ 6 2 (nI n)) (wr τ 0 20 (nI n))) (h13 : σ.1 1 3 = nI B) (h10 : σ.1 1 0 = nI F) (h11 : σ.1 1 1 = nI S) (m4 : τ.1 0 4 = nI F) (m5 : τ.1 0 5 = nI S) (m7 : τ.1 0 7 = nI B) :
    ∃ σ1 τ1, (∀ d, d ≠ 6 → σ1.1 d = σ.1 d) ∧ (∀ f, f < 2 → σ1.1 6 f = σ.1 6 f) ∧ (∀ d, d ≠ 0 → d ≠ 3 → τ1.1 d = τ.1 d) ∧ (∀ j, j ≠ B → τ1.1 3 j = τ.1 3 j) ∧ (∀ f, (f < 19 ∨ 24 < f) → f ≠ 0 → f ≠ 3 → τ1.1 0 f = τ.1 0 f) ∧ τ1.1 0 19 = nI 0 ∧ τ1.1 0 3 = nI 0 ∧
      tRes B F S σ1 τ1 (f_X4_readText N (nI n) σ) (f_X11_reads N (wr (wr (wr (wr (wr τ 0 0 (nI 0)) 0 20 (nI n)) 0 19 (nI 0)) 0 21 (nI 0)) 0 3 (nI 0))) := by
  have hn := hr.1
  have hr1 : rdR n c (wr (wr (wr (wr (wr σ 6 2 (nI n)) 6 3 (nI 0)) 6 9 (nI 0)) 6 10 (nI 0)) 6 13 (nI 0)) (wr (wr (wr (wr (wr (wr τ 0 0 (nI 0)) 0 20 (nI n)) 0 19 (nI 0)) 0 21 (nI 0)) 0 3 (nI 0)) 3 B (nI 0)) := by
    unfold rdR at hr ⊢
    simp (disch := decide) only [wrs, wrk, wrc, wr2, wl1, wls, wlk, wlc] at hr ⊢
    exact hr
  obtain ⟨p, σ1, τ1, a1, a2, a3, a4, a5, a6⟩ := adv_is (N := N) (a := 0) (by omega) hr1 (by simp (disch := decide) only [wrs, wrk, wrc, wr2, wl1, wls, wlk, wlc]) (by simp (disch := decide) only [wrs, wrk, wrc, wr2, wl1, wls, wlk, wlc]) (Nat.zero_le n)
  refine ⟨σ1, τ1, fun d e => ?_, fun f e => ?_, fun d e1 e2 => ?_, fun j e => ?_, fun f e1 e2 e3 => ?_, ?_, ?_, ?_⟩
  · rw [a5.1 d e]; simp (disch := omega) only [wrs, wrk, wrc, wr2, wl1, wls, wlk, wlc]
  · rw [a5.2 f (by omega)]; simp (disch := omega) only [wrs, wrk, wrc, wr2, wl1, wls, wlk, wlc]
  · rw [a6.1 d e1]; simp (disch := omega) only [wrs, wrk, wrc, wr2, wl1, wls, wlk, wlc]
  · rw [a6.1 3 (by decide)]; simp (disch := omega) only [wrs, wrk, wrc, wr2, wl1, wls, wlk, wlc]
  · rw [a6.2 f (by omega)]; simp (disch := omega) only [wrs, wrk, wrc, wr2, wl1, wls, wlk, wlc]
  · rw [a6.2 19 (by decide)]; simp (disch := decide) only [wrs, wrk, wrc, wr2, wl1, wls, wlk, wlc]
  · rw [a6.2 3 (by decide)]; simp (disch := decide) only [wrs, wrk, wrc, wr2, wl1, wls, wlk, wlc]
  · have s1 : σ1.1 1 = σ.1 1 := by rw [a5.1 1 (by decide)]; simp (disch := decide) only [wrs, wrk, wrc, wr2, wl1, wls, wlk, wlc]
    have hx : tX B F S n c 0 p [] σ1 τ1 σ1 τ1 := by
      refine ⟨bF.rf, a4, ?_, fun k' h => absurd h (Nat.not_lt_zero k'), rfl, List.Pairwise.nil, fun x h => (by cases h), ?_, LR.nil _, Nat.le_refl 0, ?_⟩
      · rw [a6.1 3 (by decide)]; exact wrs _ _ _ _
      · rw [a5.2 13 (by decide)]; simp (disch := decide) only [wrs, wrk, wrc, wr2, wl1, wls, wlk, wlc]; rfl
      · rw [a5.2 9 (by decide)]; simp (disch := decide) only [wrs, wrk, wrc, wr2, wl1, wls, wlk, wlc]
    have g := text_go (N := N) (by omega) hB hF hS (hr1.fr a5 a6) (by rw [s1]; exact h13) (by rw [s1]; exact h10) (by rw [s1]; exact h11) (by rw [a6.2 4 (by decide)]; simp (disch := decide) only [wrs, wrk, wrc, wr2, wl1, wls, wlk, wlc]; exact m4) (by rw [a6.2 5 (by decide)]; simp (disch := decide) only [wrs, wrk, wrc, wr2, wl1, wls, wlk, wlc]; exact m5) 24 0 N N p [] σ1 τ1 (by omega) (by omega) (by omega) hx
    have e8 : f_X4_readText N (nI n) σ = pT N N σ1 (nI 0) := by
      simp (disch := first | omega | exact nM1_n | exact nM2_n | assumption) only [f_X4_readText, l_X4_readText_0, b_X4_readText_0, a2, ↓nLetR, ↓reduceIte, ↓e_m1, ↓e_m2, e_0, e_1, e_2, e_3, e_4, e_5, e_6, e_7, e_8, e_9, e_10, e_11, e_12, e_13, e_14, e_15, e_16, e_17, e_18, e_19, e_20, e_21, e_22, e_23, e_24, e_25, e_26, e_27, e_28, e_29, e_30, e_31, e_32, e_33, e_48, e_57, e_59, e_60, e_63, e_64, e_96, e_97, e_99, e_120, e_122, e_192, e_200, e_255, e_256, e_300, e_500, e_600, e_2000, e_5000, e_5240, e_6146, e_20000, e_65536, nIo, nI_clamp, nIxt, nI_1, nI_add, nI_mul, nI_eqF, nI_ltT, nI_ltF, nI_leT, nI_leF, nN_lt0, nN_le, nN_lt, nN_eq, nN_eq', eq_self, nBdS]
      rfl
    have e11 : f_X11_reads N (wr (wr (wr (wr (wr τ 0 0 (nI 0)) 0 20 (nI n)) 0 19 (nI 0)) 0 21 (nI 0)) 0 3 (nI 0)) = qT N N τ1 (nI B) (nI 1) := by
      have q7 : (wr (wr (wr (wr (wr τ 0 0 (nI 0)) 0 20 (nI n)) 0 19 (nI 0)) 0 21 (nI 0)) 0 3 (nI 0)).1 0 7 = nI B := by simp (disch := decide) only [wrs, wrk, wrc, wr2, wl1, wls, wlk, wlc]; exact m7
      simp (disch := first | omega | exact nM1_n | exact nM2_n | assumption) only [f_X11_reads, l_X11_reads_0, b_X11_reads_0, q7, a3, ↓nLetR, ↓reduceIte, ↓e_m1, ↓e_m2, e_0, e_1, e_2, e_3, e_4, e_5, e_6, e_7, e_8, e_9, e_10, e_11, e_12, e_13, e_14, e_15, e_16, e_17, e_18, e_19, e_20, e_21, e_22, e_23, e_24, e_25, e_26, e_27, e_28, e_29, e_30, e_31, e_32, e_33, e_48, e_57, e_59, e_60, e_63, e_64, e_96, e_97, e_99, e_120, e_122, e_192, e_200, e_255, e_256, e_300, e_500, e_600, e_2000, e_5000, e_5240, e_6146, e_20000, e_65536, nIo, nI_clamp, nIxt, nI_1, nI_add, nI_mul, nI_eqF, nI_ltT, nI_ltF, nI_leT, nI_leF, nN_lt0, nN_le, nN_lt, nN_eq, nN_eq', eq_self, nBdS]
      rfl
    rw [e8, e11]
    exact g
theorem pOp5 (N : Nat) (hN : 10000 ≤ N) : nOp5 N nInv := by
  intro nn σ τ x1 hnn hI
  obtain ⟨F, S, P, B, sz, T, h1, h2, h3, h4, h5, h6, h7, h8, h9, h10⟩ := hI
  obtain ⟨⟨b1, b2, b3, b4⟩, ⟨w0, w1, w2, w3⟩, ⟨m0, m1, m2, m3⟩, hg, hs, hk⟩ := id h1
  obtain ⟨t1, t2, t3, t4⟩ := id h3
  rcases nI_cs x1 with hx | ⟨n, hn31, rfl⟩
  · simp (disch := first | omega | exact nM1_n | exact nM2_n | assumption) only [b_X8_book_0, l_X8_book_0, f_X8_book, b_X8_refuse_0, l_X8_refuse_0, f_X8_refuse, b_X11_book_0, l_X11_book_0, f_X11_book, b_X11_refused_0, l_X11_refused_0, f_X11_refused, ↓nLetR, ↓reduceIte, ↓e_m1, ↓e_m2, e_0, e_1, e_2, e_3, e_4, e_5, e_6, e_7, e_8, e_9, e_10, e_11, e_12, e_13, e_14, e_15, e_16, e_17, e_18, e_19, e_20, e_21, e_22, e_23, e_24, e_25, e_26, e_27, e_28, e_29, e_30, e_31, e_32, e_33, e_48, e_57, e_59, e_60, e_63, e_64, e_96, e_97, e_99, e_120, e_122, e_192, e_200, e_255, e_256, e_300, e_500, e_600, e_2000, e_5000, e_5240, e_6146, e_20000, e_65536, nIo, nI_clamp, nIxt, nI_1, nI_add, nI_mul, nI_eqF, nI_ltT, nI_ltF, nI_leT, nI_leF, nN_lt0, nN_le, nN_lt, nN_eq, nN_eq', eq_self, nBdS, wrs, wrk, wrc, wr2, wl1, wls, wlk, wlc]
    refine pK rfl ⟨F, S, P, B, sz, T, ?_⟩
    simp (disch := decide) only [iI, wrs, wrk, wrc, wr2, wl1, wls, wlk, wlc]
    exact ⟨h1, h2, h3, h4.no 2 (by decide), h5, h6, h7, h8, h9, h10.up⟩
  by_cases hnT : n ≤ T
  rotate_left
  · simp (disch := first | omega | exact nM1_n | exact nM2_n | assumption) only [b_X8_book_0, l_X8_book_0, f_X8_book, b_X8_refuse_0, l_X8_refuse_0, f_X8_refuse, b_X11_book_0, l_X11_book_0, f_X11_book, b_X11_refused_0, l_X11_refused_0, f_X11_refused, t2, t3, ↓nLetR, ↓reduceIte, ↓e_m1, ↓e_m2, e_0, e_1, e_2, e_3, e_4, e_5, e_6, e_7, e_8, e_9, e_10, e_11, e_12, e_13, e_14, e_15, e_16, e_17, e_18, e_19, e_20, e_21, e_22, e_23, e_24, e_25, e_26, e_27, e_28, e_29, e_30, e_31, e_32, e_33, e_48, e_57, e_59, e_60, e_63, e_64, e_96, e_97, e_99, e_120, e_122, e_192, e_200, e_255, e_256, e_300, e_500, e_600, e_2000, e_5000, e_5240, e_6146, e_20000, e_65536, nIo, nI_clamp, nIxt, nI_1, nI_add, nI_mul, nI_eqF, nI_ltT, nI_ltF, nI_leT, nI_leF, nN_lt0, nN_le, nN_lt, nN_eq, nN_eq', eq_self, nBdS, wrs, wrk, wrc, wr2, wl1, wls, wlk, wlc]
    refine pK rfl ⟨F, S, P, B, sz, T, ?_⟩
    simp (disch := decide) only [iI, wrs, wrk, wrc, wr2, wl1, wls, wlk, wlc]
    exact ⟨h1, h2, h3, h4.no 2 (by decide), h5, h6, h7, h8, h9, h10.up⟩
  have hrd : rdR n (fun k => (σ.1 7 k).toNatClampNeg) (wr σ 6 2 (nI n)) (wr τ 0 20 (nI n)) := by
    unfold rdR
    simp (disch := decide) only [wrs, wrk, wrc, wr2, wl1, wls, wlk, wlc]
    refine ⟨by omega, trivial, trivial, fun k hk => ?_⟩
    obtain ⟨⟨x, hx, ex⟩, e2⟩ := t4 k (by omega)
    have e3 : (σ.1 7 k).toNatClampNeg = x := by rw [ex, nI_clamp (by omega)]
    refine ⟨?_, ?_, ?_⟩
    · rw [e3]; exact ex
    · rw [e3]; exact e2.trans ex
    · rw [e3]; exact hx
  obtain ⟨σ1, τ1, A1, A2, A3, A4, A5, A6, A7, R⟩ := read_is (N := N) (B := B) (F := F) (S := S) (n := n) (σ := σ) (τ := τ) (by omega) (by omega) b1 b2 hrd w3 w0 w1 m0 m1 m3
  rcases R with ⟨K, σ', τ', hK1, hK2, r8, r11, bf, k4, k3, kst, k9⟩ | ⟨f, q, σ', τ', r8, r11, bf, f1, f2, f3, f4⟩
  rotate_left
  · have F1 : ∀ d, d ≠ 4 → d ≠ 5 → d ≠ 6 → d ≠ 8 → d ≠ 9 → σ'.1 d = σ.1 d := fun d e1 e2 e3 e4 e5 => (bf.1.1 d e1 e2 e3 e4 e5).trans (A1 d e3)
    have T1 : ∀ d, d ≠ 0 → d ≠ 3 → d ≠ 9 → d ≠ 11 → (d < 4 ∨ 8 < d) → τ'.1 d = τ.1 d := fun d e1 e2 e3 e4 e5 => (bf.2.1 d e1 e2 e3 e4 e5).trans (A3 d e1 e2)
    have T0 : ∀ f, (f < 19 ∨ 24 < f) → f ≠ 0 → f ≠ 3 → τ'.1 0 f = τ.1 0 f := fun f e1 e2 e3 => (bf.2.2.1 f (by omega)).trans (A5 f e1 e2 e3)
    have hb' : iBooks F S B sz (σ'.1 4) (σ'.1 5) (τ'.1 3) (τ'.1 4) (τ'.1 5) (τ'.1 6) (τ'.1 7) (τ'.1 8) := by
      intro b hb
      obtain ⟨g1, g2, g3, g4⟩ := h2 b hb
      refine ⟨g1, by rw [bf.1.2.2.1 b (by omega), A1 4 (by decide)]; exact g2, by rw [bf.2.2.2.1 b (by omega), A4 b (by omega)]; exact g3, fun k hk => ?_⟩
      have h := g4 k hk
      unfold iStep at h ⊢
      rw [bf.1.2.2.2 _ (by omega), bf.1.2.2.2 _ (by omega), bf.1.2.2.2 _ (by omega), bf.1.2.2.2 _ (by omega), bf.1.2.2.2 _ (by omega), A1 5 (by decide), bf.2.2.2.2 4 (by decide) (by decide) _ (by omega), bf.2.2.2.2 5 (by decide) (by decide) _ (by omega), bf.2.2.2.2 6 (by decide) (by decide) _ (by omega), bf.2.2.2.2 7 (by decide) (by decide) _ (by omega), bf.2.2.2.2 8 (by decide) (by decide) _ (by omega), A3 4 (by decide) (by decide), A3 5 (by decide) (by decide), A3 6 (by decide) (by decide), A3 7 (by decide) (by decide), A3 8 (by decide) (by decide)]
      exact h
    have e8 : f_X8_book N (nI n) σ = some (nM1, wr (wr σ' 6 1 (nI 0)) 0 12 (nI 4)) := by
      simp (disch := first | omega | exact nM1_n | exact nM2_n | assumption) only [b_X8_book_0, l_X8_book_0, f_X8_book, b_X8_refuse_0, l_X8_refuse_0, f_X8_refuse, t2, r8, ↓nLetR, ↓reduceIte, ↓e_m1, ↓e_m2, e_0, e_1, e_2, e_3, e_4, e_5, e_6, e_7, e_8, e_9, e_10, e_11, e_12, e_13, e_14, e_15, e_16, e_17, e_18, e_19, e_20, e_21, e_22, e_23, e_24, e_25, e_26, e_27, e_28, e_29, e_30, e_31, e_32, e_33, e_48, e_57, e_59, e_60, e_63, e_64, e_96, e_97, e_99, e_120, e_122, e_192, e_200, e_255, e_256, e_300, e_500, e_600, e_2000, e_5000, e_5240, e_6146, e_20000, e_65536, nIo, nI_clamp, nIxt, nI_1, nI_add, nI_mul, nI_eqF, nI_ltT, nI_ltF, nI_leT, nI_leF, nN_lt0, nN_le, nN_lt, nN_eq, nN_eq', eq_self, nBdS]
    have e11 : f_X11_book N (nI n) τ = some (nM1, wr (wr (wr τ' 0 3 (nI f)) 0 1 (nI 4)) 0 2 (nI q)) := by
      simp (disch := first | omega | exact nM1_n | exact nM2_n | assumption) only [b_X11_book_0, l_X11_book_0, f_X11_book, t3, r11, nBcN, f3, f4, ↓nLetR, ↓reduceIte, ↓e_m1, ↓e_m2, e_0, e_1, e_2, e_3, e_4, e_5, e_6, e_7, e_8, e_9, e_10, e_11, e_12, e_13, e_14, e_15, e_16, e_17, e_18, e_19, e_20, e_21, e_22, e_23, e_24, e_25, e_26, e_27, e_28, e_29, e_30, e_31, e_32, e_33, e_48, e_57, e_59, e_60, e_63, e_64, e_96, e_97, e_99, e_120, e_122, e_192, e_200, e_255, e_256, e_300, e_500, e_600, e_2000, e_5000, e_5240, e_6146, e_20000, e_65536, nIo, nI_clamp, nIxt, nI_1, nI_add, nI_mul, nI_eqF, nI_ltT, nI_ltF, nI_leT, nI_leF, nN_lt0, nN_le, nN_lt, nN_eq, nN_eq', eq_self, nBdS, wrs, wrk, wrc, wr2, wl1, wls, wlk, wlc]
    rw [e8, e11]
    refine pK rfl ⟨F, S, P, B, sz, 0, ?_⟩
    have z19 : τ'.1 0 19 = nI 0 := by rw [bf.2.2.1 19 (by decide)]; exact A6
    simp (disch := decide) only [iI, wrs, wrk, wrc, wr2, wl1, wls, wlk, wlc, F1, T1, T0]
    refine ⟨h1, hb', ⟨Nat.zero_le _, rfl, z19, fun k h => absurd h (Nat.not_lt_zero k)⟩, ⟨rfl, f1.symm, ?_⟩, h5, h6, h7, h8, h9, h10.up⟩
    rw [if_pos (show nI 4 = 4 from rfl)]
    exact f2.symm
  have F1 : ∀ d, d ≠ 4 → d ≠ 5 → d ≠ 6 → d ≠ 8 → d ≠ 9 → σ'.1 d = σ.1 d := fun d e1 e2 e3 e4 e5 => (bf.1.1 d e1 e2 e3 e4 e5).trans (A1 d e3)
  have T1 : ∀ d, d ≠ 0 → d ≠ 3 → d ≠ 9 → d ≠ 11 → (d < 4 ∨ 8 < d) → τ'.1 d = τ.1 d := fun d e1 e2 e3 e4 e5 => (bf.2.1 d e1 e2 e3 e4 e5).trans (A3 d e1 e2)
  have T0 : ∀ f, (f < 19 ∨ 24 < f) → f ≠ 0 → f ≠ 3 → τ'.1 0 f = τ.1 0 f := fun f e1 e2 e3 => (bf.2.2.1 f (by omega)).trans (A5 f e1 e2 e3)
  have hold : ∀ b, b < B → (1 ≤ sz b ∧ sz b ≤ 24) ∧ σ'.1 4 b = nI (sz b) ∧ τ'.1 3 b = nI (sz b) ∧ ∀ k, k < sz b → iStep F S (sz b) b k (σ'.1 5) (τ'.1 4) (τ'.1 5) (τ'.1 6) (τ'.1 7) (τ'.1 8) := by
    intro b hb
    obtain ⟨g1, g2, g3, g4⟩ := h2 b hb
    refine ⟨g1, by rw [bf.1.2.2.1 b (by omega), A1 4 (by decide)]; exact g2, by rw [bf.2.2.2.1 b (by omega), A4 b (by omega)]; exact g3, fun k hk => ?_⟩
    have h := g4 k hk
    unfold iStep at h ⊢
    rw [bf.1.2.2.2 _ (by omega), bf.1.2.2.2 _ (by omega), bf.1.2.2.2 _ (by omega), bf.1.2.2.2 _ (by omega), bf.1.2.2.2 _ (by omega), A1 5 (by decide), bf.2.2.2.2 4 (by decide) (by decide) _ (by omega), bf.2.2.2.2 5 (by decide) (by decide) _ (by omega), bf.2.2.2.2 6 (by decide) (by decide) _ (by omega), bf.2.2.2.2 7 (by decide) (by decide) _ (by omega), bf.2.2.2.2 8 (by decide) (by decide) _ (by omega), A3 4 (by decide) (by decide), A3 5 (by decide) (by decide), A3 6 (by decide) (by decide), A3 7 (by decide) (by decide), A3 8 (by decide) (by decide)]
    exact h
  have z19 : τ'.1 0 19 = nI 0 := by rw [bf.2.2.1 19 (by decide)]; exact A6
  have z3 : τ'.1 0 3 = nI 0 := by rw [bf.2.2.1 3 (by decide)]; exact A7
  have v13 : σ'.1 1 3 = nI B := by rw [F1 1 (by decide) (by decide) (by decide) (by decide) (by decide)]; exact w3
  have v7 : τ'.1 0 7 = nI B := by rw [T0 7 (by decide) (by decide) (by decide)]; exact m3
  by_cases hB4 : B = 4
  · subst hB4
    have e8 : f_X8_book N (nI n) σ = some (nM1, wr (wr σ' 6 1 (nI 0)) 0 12 (nI 3)) := by
      simp (disch := first | omega | exact nM1_n | exact nM2_n | assumption) only [b_X8_book_0, l_X8_book_0, f_X8_book, b_X8_refuse_0, l_X8_refuse_0, f_X8_refuse, t2, r8, v13, ↓nLetR, ↓reduceIte, ↓e_m1, ↓e_m2, e_0, e_1, e_2, e_3, e_4, e_5, e_6, e_7, e_8, e_9, e_10, e_11, e_12, e_13, e_14, e_15, e_16, e_17, e_18, e_19, e_20, e_21, e_22, e_23, e_24, e_25, e_26, e_27, e_28, e_29, e_30, e_31, e_32, e_33, e_48, e_57, e_59, e_60, e_63, e_64, e_96, e_97, e_99, e_120, e_122, e_192, e_200, e_255, e_256, e_300, e_500, e_600, e_2000, e_5000, e_5240, e_6146, e_20000, e_65536, nIo, nI_clamp, nIxt, nI_1, nI_add, nI_mul, nI_eqF, nI_ltT, nI_ltF, nI_leT, nI_leF, nN_lt0, nN_le, nN_lt, nN_eq, nN_eq', eq_self, nBdS, wrs, wrk, wrc, wr2, wl1, wls, wlk, wlc]
    have e11 : f_X11_book N (nI n) τ = some (nM1, wr (wr τ' 0 1 (nI 3)) 0 2 nM1) := by
      simp (disch := first | omega | exact nM1_n | exact nM2_n | assumption) only [b_X11_book_0, l_X11_book_0, f_X11_book, b_X11_refused_0, l_X11_refused_0, f_X11_refused, t3, r11, nBcS, v7, ↓nLetR, ↓reduceIte, ↓e_m1, ↓e_m2, e_0, e_1, e_2, e_3, e_4, e_5, e_6, e_7, e_8, e_9, e_10, e_11, e_12, e_13, e_14, e_15, e_16, e_17, e_18, e_19, e_20, e_21, e_22, e_23, e_24, e_25, e_26, e_27, e_28, e_29, e_30, e_31, e_32, e_33, e_48, e_57, e_59, e_60, e_63, e_64, e_96, e_97, e_99, e_120, e_122, e_192, e_200, e_255, e_256, e_300, e_500, e_600, e_2000, e_5000, e_5240, e_6146, e_20000, e_65536, nIo, nI_clamp, nIxt, nI_1, nI_add, nI_mul, nI_eqF, nI_ltT, nI_ltF, nI_leT, nI_leF, nN_lt0, nN_le, nN_lt, nN_eq, nN_eq', eq_self, nBdS, wrs, wrk, wrc, wr2, wl1, wls, wlk, wlc]
    rw [e8, e11]
    refine pK rfl ⟨F, S, P, 4, sz, 0, ?_⟩
    simp (disch := decide) only [iI, wrs, wrk, wrc, wr2, wl1, wls, wlk, wlc, F1, T1, T0]
    exact ⟨h1, hold, ⟨Nat.zero_le _, rfl, z19, fun k h => absurd h (Nat.not_lt_zero k)⟩, ⟨rfl, z3.trans k9.symm, rfl⟩, h5, h6, h7, h8, h9, h10.up⟩
  · have hs1 : nI (B + 1) - nI 1 = nI B := nI_subn (B + 1) 1 (by omega)
    have e8 : f_X8_book N (nI n) σ = some (nI B, wr (wr (wr σ' 6 1 (nI 0)) 1 3 (nI (B + 1))) 0 12 (nI 0)) := by
      simp (disch := first | omega | exact nM1_n | exact nM2_n | assumption) only [b_X8_book_0, l_X8_book_0, f_X8_book, b_X8_accept_0, l_X8_accept_0, f_X8_accept, t2, r8, v13, hs1, ↓nLetR, ↓reduceIte, ↓e_m1, ↓e_m2, e_0, e_1, e_2, e_3, e_4, e_5, e_6, e_7, e_8, e_9, e_10, e_11, e_12, e_13, e_14, e_15, e_16, e_17, e_18, e_19, e_20, e_21, e_22, e_23, e_24, e_25, e_26, e_27, e_28, e_29, e_30, e_31, e_32, e_33, e_48, e_57, e_59, e_60, e_63, e_64, e_96, e_97, e_99, e_120, e_122, e_192, e_200, e_255, e_256, e_300, e_500, e_600, e_2000, e_5000, e_5240, e_6146, e_20000, e_65536, nIo, nI_clamp, nIxt, nI_1, nI_add, nI_mul, nI_eqF, nI_ltT, nI_ltF, nI_leT, nI_leF, nN_lt0, nN_le, nN_lt, nN_eq, nN_eq', eq_self, nBdS, wrs, wrk, wrc, wr2, wl1, wls, wlk, wlc]
    have e11 : f_X11_book N (nI n) τ = some (nI B, wr (wr (wr τ' 0 7 (nI (B + 1))) 0 1 (nI 0)) 0 2 nM1) := by
      simp (disch := first | omega | exact nM1_n | exact nM2_n | assumption) only [b_X11_book_0, l_X11_book_0, f_X11_book, b_X11_done_0, l_X11_done_0, f_X11_done, t3, r11, nBcS, v7, hs1, ↓nLetR, ↓reduceIte, ↓e_m1, ↓e_m2, e_0, e_1, e_2, e_3, e_4, e_5, e_6, e_7, e_8, e_9, e_10, e_11, e_12, e_13, e_14, e_15, e_16, e_17, e_18, e_19, e_20, e_21, e_22, e_23, e_24, e_25, e_26, e_27, e_28, e_29, e_30, e_31, e_32, e_33, e_48, e_57, e_59, e_60, e_63, e_64, e_96, e_97, e_99, e_120, e_122, e_192, e_200, e_255, e_256, e_300, e_500, e_600, e_2000, e_5000, e_5240, e_6146, e_20000, e_65536, nIo, nI_clamp, nIxt, nI_1, nI_add, nI_mul, nI_eqF, nI_ltT, nI_ltF, nI_leT, nI_leF, nN_lt0, nN_le, nN_lt, nN_eq, nN_eq', eq_self, nBdS, wrs, wrk, wrc, wr2, wl1, wls, wlk, wlc]
    rw [e8, e11]
    refine pK rfl ⟨F, S, P, B + 1, (fun b => if b = B then K else sz b), 0, ?_⟩
    simp (disch := decide) only [iI, wrs, wrk, wrc, wr2, wl1, wls, wlk, wlc, F1, T1, T0]
    refine ⟨?_, ?_, ⟨Nat.zero_le _, rfl, z19, fun k h => absurd h (Nat.not_lt_zero k)⟩, ⟨rfl, z3.trans k9.symm, rfl⟩, h5, h6.mono (by omega), h7, h8, h9, h10.up⟩
    · unfold iHouse
      simp (disch := decide) only [wrs, wrk, wrc, wr2, wl1, wls, wlk, wlc, F1]
      exact ⟨⟨b1, b2, b3, by omega⟩, ⟨w0, w1, w2, trivial⟩, ⟨m0, m1, m2, trivial⟩, hg, hs, hk⟩
    · intro b hb
      show (1 ≤ (if b = B then K else sz b) ∧ (if b = B then K else sz b) ≤ 24) ∧ _ = nI (if b = B then K else sz b) ∧ _ = nI (if b = B then K else sz b) ∧ ∀ k, k < (if b = B then K else sz b) → iStep F S (if b = B then K else sz b) b k _ _ _ _ _ _
      by_cases e : b = B
      · subst e
        rw [if_pos rfl]
        exact ⟨⟨hK1, hK2⟩, k4, k3, kst⟩
      · rw [if_neg e]
        exact hold b (by omega)
