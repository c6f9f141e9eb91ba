/-! THE CHOICES OF THE REFERENCE -/
def fM (τ τ' : nS) : Prop := (∀ d, d ≠ 0 → d ≠ 16 → d ≠ 17 → τ'.1 d = τ.1 d) ∧ ∀ f, f ≠ 46 → τ'.1 0 f = τ.1 0 f
theorem fM.rfl {τ : nS} : fM τ τ := ⟨fun _ _ _ _ => Eq.refl _, fun _ _ => Eq.refl _⟩
theorem fM.trans {a b c : nS} (h : fM a b) (g : fM b c) : fM a c := ⟨fun d e1 e2 e3 => (g.1 d e1 e2 e3).trans (h.1 d e1 e2 e3), fun f e => (g.2 f e).trans (h.2 f e)⟩
/-- a part of the choosing: it goes on with X laid behind A, or there are too many -/
def cO (τ : nS) (A X : List Nat) (r : Option (Int32 × nS)) (K : nS → Option (Int32 × nS)) : Prop :=
  ∃ τ', fM τ τ' ∧ ((A.length + X.length ≤ 500 ∧ r = K τ' ∧ τ'.1 0 46 = nI (A ++ X).length ∧ lsR (τ'.1 16) (A ++ X)) ∨ (500 < A.length + X.length ∧ r = some (nI 0, τ')))
def dl (mo : Nat) (k : Nat) : Bool := decide (pcf 8 k ≤ mo)
theorem mf_go {N wm may p s : Nat} {lm am : Int32} (hN : 40 ≤ N) (hmay : may < 256) (hwm : wm < 9) (hp : p < 16) (hs : s < 256) (k151 : nS → Int32 → Int32 → Int32 → Int32 → Int32 → Int32 → Option (Int32 × nS)) : ∀ d k m τ (A : List Nat), k + d = may + 1 → d < m → τ.1 0 46 = nI A.length → A.length ≤ 500 → lsR (τ.1 16) A →
    cO τ A (lF p (flR (okS may wm) k d) s) (nLp (fun _ _ _ _ _ _ _ _ => none) (fun again => b_X11_chooses_69 N (l_X11_chooses_145 N again) k151) m τ (nI wm) lm am (nI may) (nI p) (nI s) (nI k)) (fun τ' => k151 τ' (nI wm) lm am (nI may) (nI p) (nI s)) := by
  intro d
  induction d with
  | zero =>
    intro k m τ A hk hm h46 hA hl
    refine ⟨τ, fM.rfl, Or.inl ⟨by show A.length + 0 ≤ 500; omega, ?_, ?_, ?_⟩⟩
    · rw [nLpP _ _ hm]
      simp (disch := first | omega | exact nM1_n | exact nM2_n | assumption) only [b_X11_chooses_69, ↓nLetR, ↓reduceIte, ↓e_m1, ↓e_m2, e_0, e_1, e_2, e_3, e_4, e_5, e_6, e_7, e_8, e_9, e_10, e_11, e_12, e_13, e_14, e_15, e_16, e_17, e_18, e_19, e_20, e_21, e_22, e_23, e_24, e_25, e_26, e_27, e_28, e_29, e_30, e_31, e_32, e_33, e_48, e_57, e_59, e_60, e_63, e_64, e_96, e_97, e_99, e_120, e_122, e_192, e_200, e_255, e_256, e_300, e_500, e_600, e_2000, e_5000, e_5240, e_6146, e_20000, e_65536, nIo, nI_clamp, nIxt, nI_1, nI_add, nI_mul, nI_eqF, nI_ltT, nI_ltF, nI_leT, nI_leF, nN_lt0, nN_le, nN_lt, nN_eq, nN_eq', eq_self, nBdS]
    · rw [h46, show lF p (flR (okS may wm) k 0) s = [] from rfl, List.append_nil]
    · rw [show lF p (flR (okS may wm) k 0) s = [] from rfl, List.append_nil]
      exact hl
  | succ d ih =>
    intro k m τ A hk hm h46 hA hl
    have hpc := pcf_le 8 k
    have hsub := sub_is k may (by omega)
    have hbc := bits8 (N := N) (x := k) hN (by omega) τ
    have step : okS may wm k = false → nLp (fun _ _ _ _ _ _ _ _ => none) (fun again => b_X11_chooses_69 N (l_X11_chooses_145 N again) k151) m τ (nI wm) lm am (nI may) (nI p) (nI s) (nI k) = nLp (fun _ _ _ _ _ _ _ _ => none) (fun again => b_X11_chooses_69 N (l_X11_chooses_145 N again) k151) (m - 1) τ (nI wm) lm am (nI may) (nI p) (nI s) (nI (k + 1)) → cO τ A (lF p (flR (okS may wm) k (d + 1)) s) (nLp (fun _ _ _ _ _ _ _ _ => none) (fun again => b_X11_chooses_69 N (l_X11_chooses_145 N again) k151) m τ (nI wm) lm am (nI may) (nI p) (nI s) (nI k)) (fun τ' => k151 τ' (nI wm) lm am (nI may) (nI p) (nI s)) := by
      intro hok e
      rw [e]
      have h := ih (k + 1) (m - 1) τ A (by omega) (by omega) h46 hA hl
      have hx : flR (okS may wm) k (d + 1) = flR (okS may wm) (k + 1) d := by
        show (if okS may wm k = true then [k] else []) ++ flR (okS may wm) (k + 1) d = _
        rw [hok]
        rfl
      rw [hx]
      exact h
    by_cases h1 : k &&& may = k
    · by_cases h2 : pcf 8 k ≤ wm
      · have hok : okS may wm k = true := by unfold okS; rw [decide_eq_true h1, decide_eq_true h2]; rfl
        have hx : lF p (flR (okS may wm) k (d + 1)) s = gR p s k :: lF p (flR (okS may wm) (k + 1) d) s := by
          show lF p ((if okS may wm k = true then [k] else []) ++ flR (okS may wm) (k + 1) d) s = _
          rw [hok]
          rfl
        rw [hx]
        rw [eq_true h1] at hsub
        have hg : nI (k + 256 * s + 65536 * p) = nI (gR p s k) := by unfold gR; congr 1; omega
        by_cases h5 : A.length = 500
        · refine ⟨τ, fM.rfl, Or.inr ⟨by rw [List.length_cons]; omega, ?_⟩⟩
          rw [nLpP _ _ (by omega)]
          simp (disch := first | omega | exact nM1_n | exact nM2_n | assumption) only [b_X11_chooses_69, hsub, hbc, h46, h5, ↓nLetR, ↓reduceIte, ↓e_m1, ↓e_m2, e_0, e_1, e_2, e_3, e_4, e_5, e_6, e_7, e_8, e_9, e_10, e_11, e_12, e_13, e_14, e_15, e_16, e_17, e_18, e_19, e_20, e_21, e_22, e_23, e_24, e_25, e_26, e_27, e_28, e_29, e_30, e_31, e_32, e_33, e_48, e_57, e_59, e_60, e_63, e_64, e_96, e_97, e_99, e_120, e_122, e_192, e_200, e_255, e_256, e_300, e_500, e_600, e_2000, e_5000, e_5240, e_6146, e_20000, e_65536, nIo, nI_clamp, nIxt, nI_1, nI_add, nI_mul, nI_eqF, nI_ltT, nI_ltF, nI_leT, nI_leF, nN_lt0, nN_le, nN_lt, nN_eq, nN_eq', eq_self, nBdS]
        · have hl1 : (A ++ [gR p s k]).length = A.length + 1 := by rw [List.length_append]; rfl
          obtain ⟨τ', e1, e2⟩ := ih (k + 1) (m - 1) (wr (wr τ 16 A.length (nI (gR p s k))) 0 46 (nI (A.length + 1))) (A ++ [gR p s k]) (by omega) (by omega) (by rw [wrs, hl1]) (by omega) (by rw [wrc _ _ _ (show 16 ≠ 0 by decide)]; exact hl.wr _)
          refine ⟨τ', fM.trans ⟨fun d z1 z2 z3 => by simp (disch := omega) only [wrs, wrk, wrc, wr2, wl1, wls, wlk, wlc], fun f z1 => by simp (disch := omega) only [wrs, wrk, wrc, wr2, wl1, wls, wlk, wlc]⟩ e1, ?_⟩
          have hst : nLp (fun _ _ _ _ _ _ _ _ => none) (fun again => b_X11_chooses_69 N (l_X11_chooses_145 N again) k151) m τ (nI wm) lm am (nI may) (nI p) (nI s) (nI k) = nLp (fun _ _ _ _ _ _ _ _ => none) (fun again => b_X11_chooses_69 N (l_X11_chooses_145 N again) k151) (m - 1) (wr (wr τ 16 A.length (nI (gR p s k))) 0 46 (nI (A.length + 1))) (nI wm) lm am (nI may) (nI p) (nI s) (nI (k + 1)) := by
            rw [nLpP _ _ (by omega)]
            simp (disch := first | omega | exact nM1_n | exact nM2_n | assumption) only [b_X11_chooses_69, l_X11_chooses_145, b_X11_chooses_145, hsub, hbc, h46, hg, ↓nLetR, ↓reduceIte, ↓e_m1, ↓e_m2, e_0, e_1, e_2, e_3, e_4, e_5, e_6, e_7, e_8, e_9, e_10, e_11, e_12, e_13, e_14, e_15, e_16, e_17, e_18, e_19, e_20, e_21, e_22, e_23, e_24, e_25, e_26, e_27, e_28, e_29, e_30, e_31, e_32, e_33, e_48, e_57, e_59, e_60, e_63, e_64, e_96, e_97, e_99, e_120, e_122, e_192, e_200, e_255, e_256, e_300, e_500, e_600, e_2000, e_5000, e_5240, e_6146, e_20000, e_65536, nIo, nI_clamp, nIxt, nI_1, nI_add, nI_mul, nI_eqF, nI_ltT, nI_ltF, nI_leT, nI_leF, nN_lt0, nN_le, nN_lt, nN_eq, nN_eq', eq_self, nBdS, wrs, wrk, wrc, wr2, wl1, wls, wlk, wlc]
          rw [hst, List.length_cons]
          rw [hl1, List.append_assoc, List.singleton_append] at e2
          rcases e2 with ⟨g1, g2, g3, g4⟩ | ⟨g1, g2⟩
          · exact Or.inl ⟨by omega, g2, g3, g4⟩
          · exact Or.inr ⟨by omega, g2⟩
      · have hok : okS may wm k = false := by unfold okS; rw [decide_eq_true h1, decide_eq_false h2]; rfl
        refine step hok ?_
        rw [eq_true h1] at hsub
        rw [nLpP _ _ (by omega)]
        simp (disch := first | omega | exact nM1_n | exact nM2_n | assumption) only [b_X11_chooses_69, l_X11_chooses_145, b_X11_chooses_145, hsub, hbc, ↓nLetR, ↓reduceIte, ↓e_m1, ↓e_m2, e_0, e_1, e_2, e_3, e_4, e_5, e_6, e_7, e_8, e_9, e_10, e_11, e_12, e_13, e_14, e_15, e_16, e_17, e_18, e_19, e_20, e_21, e_22, e_23, e_24, e_25, e_26, e_27, e_28, e_29, e_30, e_31, e_32, e_33, e_48, e_57, e_59, e_60, e_63, e_64, e_96, e_97, e_99, e_120, e_122, e_192, e_200, e_255, e_256, e_300, e_500, e_600, e_2000, e_5000, e_5240, e_6146, e_20000, e_65536, nIo, nI_clamp, nIxt, nI_1, nI_add, nI_mul, nI_eqF, nI_ltT, nI_ltF, nI_leT, nI_leF, nN_lt0, nN_le, nN_lt, nN_eq, nN_eq', eq_self, nBdS]
    · have hok : okS may wm k = false := by unfold okS; rw [decide_eq_false h1]; rfl
      refine step hok ?_
      rw [eq_false h1] at hsub
      rw [nLpP _ _ (by omega)]
      simp (disch := first | omega | exact nM1_n | exact nM2_n | assumption) only [b_X11_chooses_69, l_X11_chooses_145, b_X11_chooses_145, hsub, ↓nLetR, ↓reduceIte, ↓e_m1, ↓e_m2, e_0, e_1, e_2, e_3, e_4, e_5, e_6, e_7, e_8, e_9, e_10, e_11, e_12, e_13, e_14, e_15, e_16, e_17, e_18, e_19, e_20, e_21, e_22, e_23, e_24, e_25, e_26, e_27, e_28, e_29, e_30, e_31, e_32, e_33, e_48, e_57, e_59, e_60, e_63, e_64, e_96, e_97, e_99, e_120, e_122, e_192, e_200, e_255, e_256, e_300, e_500, e_600, e_2000, e_5000, e_5240, e_6146, e_20000, e_65536, nIo, nI_clamp, nIxt, nI_1, nI_add, nI_mul, nI_eqF, nI_ltT, nI_ltF, nI_leT, nI_leF, nN_lt0, nN_le, nN_lt, nN_eq, nN_eq', eq_self, nBdS]
theorem ms_go {N S wm lm may p : Nat} {am : Int32} (hN : 300 ≤ N) (hS : S ≤ 8) (hmay : may < 256) (hwm : wm < 9) (hlm : lm < 9) (hp : p < 16) (k157 : nS → Int32 → Int32 → Int32 → Int32 → Int32 → Option (Int32 × nS)) : ∀ d k m τ (A : List Nat), k + d = 2 ^ S → d < m → τ.1 0 5 = nI S → τ.1 0 46 = nI A.length → A.length ≤ 500 → lsR (τ.1 16) A →
    cO τ A ((flR (dl lm) k d).flatMap (lF p (flR (okS may wm) 0 (may + 1)))) (nLp (fun _ _ _ _ _ _ _ => none) (fun again => b_X11_chooses_43 N (l_X11_chooses_69 N (l_X11_chooses_151 N again)) (l_X11_chooses_151 N again) k157) m τ (nI wm) (nI lm) am (nI may) (nI p) (nI k)) (fun τ' => k157 τ' (nI wm) (nI lm) am (nI may) (nI p)) := by
  have pS : (2 : Nat) ^ S ≤ 2 ^ 8 := Nat.pow_le_pow_right (by decide) hS
  have hsl := shl_is S (by omega)
  intro d
  induction d with
  | zero =>
    intro k m τ A hk hm h5 h46 hA hl
    refine ⟨τ, fM.rfl, Or.inl ⟨by show A.length + 0 ≤ 500; omega, ?_, ?_, ?_⟩⟩
    · rw [nLpP _ _ hm]
      simp (disch := first | omega | exact nM1_n | exact nM2_n | assumption) only [b_X11_chooses_43, h5, hsl, ↓nLetR, ↓reduceIte, ↓e_m1, ↓e_m2, e_0, e_1, e_2, e_3, e_4, e_5, e_6, e_7, e_8, e_9, e_10, e_11, e_12, e_13, e_14, e_15, e_16, e_17, e_18, e_19, e_20, e_21, e_22, e_23, e_24, e_25, e_26, e_27, e_28, e_29, e_30, e_31, e_32, e_33, e_48, e_57, e_59, e_60, e_63, e_64, e_96, e_97, e_99, e_120, e_122, e_192, e_200, e_255, e_256, e_300, e_500, e_600, e_2000, e_5000, e_5240, e_6146, e_20000, e_65536, nIo, nI_clamp, nIxt, nI_1, nI_add, nI_mul, nI_eqF, nI_ltT, nI_ltF, nI_leT, nI_leF, nN_lt0, nN_le, nN_lt, nN_eq, nN_eq', eq_self, nBdS]
    · rw [h46, show (flR (dl lm) k 0).flatMap (lF p (flR (okS may wm) 0 (may + 1))) = [] from rfl, List.append_nil]
    · rw [show (flR (dl lm) k 0).flatMap (lF p (flR (okS may wm) 0 (may + 1))) = [] from rfl, List.append_nil]
      exact hl
  | succ d ih =>
    intro k m τ A hk hm h5 h46 hA hl
    have hpc := pcf_le 8 k
    have hbc := bits8 (N := N) (x := k) (by omega) (by omega) τ
    by_cases h2 : pcf 8 k ≤ lm
    · have hx : (flR (dl lm) k (d + 1)).flatMap (lF p (flR (okS may wm) 0 (may + 1))) = lF p (flR (okS may wm) 0 (may + 1)) k ++ (flR (dl lm) (k + 1) d).flatMap (lF p (flR (okS may wm) 0 (may + 1))) := by
        show ((if dl lm k = true then [k] else []) ++ flR (dl lm) (k + 1) d).flatMap _ = _
        rw [show dl lm k = true from decide_eq_true h2, if_pos rfl, List.singleton_append, List.flatMap_cons]
      rw [hx]
      have hst : nLp (fun _ _ _ _ _ _ _ => none) (fun again => b_X11_chooses_43 N (l_X11_chooses_69 N (l_X11_chooses_151 N again)) (l_X11_chooses_151 N again) k157) m τ (nI wm) (nI lm) am (nI may) (nI p) (nI k) = l_X11_chooses_69 N (l_X11_chooses_151 N (nLp (fun _ _ _ _ _ _ _ => none) (fun again => b_X11_chooses_43 N (l_X11_chooses_69 N (l_X11_chooses_151 N again)) (l_X11_chooses_151 N again) k157) (m - 1))) τ (nI wm) (nI lm) am (nI may) (nI p) (nI k) (nI 0) := by
        rw [nLpP _ _ (by omega)]
        simp (disch := first | omega | exact nM1_n | exact nM2_n | assumption) only [b_X11_chooses_43, h5, hsl, hbc, ↓nLetR, ↓reduceIte, ↓e_m1, ↓e_m2, e_0, e_1, e_2, e_3, e_4, e_5, e_6, e_7, e_8, e_9, e_10, e_11, e_12, e_13, e_14, e_15, e_16, e_17, e_18, e_19, e_20, e_21, e_22, e_23, e_24, e_25, e_26, e_27, e_28, e_29, e_30, e_31, e_32, e_33, e_48, e_57, e_59, e_60, e_63, e_64, e_96, e_97, e_99, e_120, e_122, e_192, e_200, e_255, e_256, e_300, e_500, e_600, e_2000, e_5000, e_5240, e_6146, e_20000, e_65536, nIo, nI_clamp, nIxt, nI_1, nI_add, nI_mul, nI_eqF, nI_ltT, nI_ltF, nI_leT, nI_leF, nN_lt0, nN_le, nN_lt, nN_eq, nN_eq', eq_self, nBdS]
      rw [hst]
      obtain ⟨τ1, e1, e2⟩ := mf_go (N := N) (wm := wm) (may := may) (p := p) (s := k) (lm := nI lm) (am := am) (by omega) hmay hwm hp (by omega) (l_X11_chooses_151 N (nLp (fun _ _ _ _ _ _ _ => none) (fun again => b_X11_chooses_43 N (l_X11_chooses_69 N (l_X11_chooses_151 N again)) (l_X11_chooses_151 N again) k157) (m - 1))) (may + 1) 0 N τ A (by omega) (by omega) h46 hA hl
      rcases e2 with ⟨g1, g2, g3, g4⟩ | ⟨g1, g2⟩
      · obtain ⟨τ2, f1, f2⟩ := ih (k + 1) (m - 1) τ1 _ (by omega) (by omega) (by rw [e1.2 5 (by decide)]; exact h5) g3 (by rw [List.length_append]; omega) g4
        refine ⟨τ2, e1.trans f1, ?_⟩
        have g5 : l_X11_chooses_69 N (l_X11_chooses_151 N (nLp (fun _ _ _ _ _ _ _ => none) (fun again => b_X11_chooses_43 N (l_X11_chooses_69 N (l_X11_chooses_151 N again)) (l_X11_chooses_151 N again) k157) (m - 1))) τ (nI wm) (nI lm) am (nI may) (nI p) (nI k) (nI 0) = nLp (fun _ _ _ _ _ _ _ => none) (fun again => b_X11_chooses_43 N (l_X11_chooses_69 N (l_X11_chooses_151 N again)) (l_X11_chooses_151 N again) k157) (m - 1) τ1 (nI wm) (nI lm) am (nI may) (nI p) (nI (k + 1)) := by
          refine Eq.trans g2 ?_
          simp (disch := first | omega | exact nM1_n | exact nM2_n | assumption) only [l_X11_chooses_151, b_X11_chooses_151, ↓nLetR, ↓reduceIte, ↓e_m1, ↓e_m2, e_0, e_1, e_2, e_3, e_4, e_5, e_6, e_7, e_8, e_9, e_10, e_11, e_12, e_13, e_14, e_15, e_16, e_17, e_18, e_19, e_20, e_21, e_22, e_23, e_24, e_25, e_26, e_27, e_28, e_29, e_30, e_31, e_32, e_33, e_48, e_57, e_59, e_60, e_63, e_64, e_96, e_97, e_99, e_120, e_122, e_192, e_200, e_255, e_256, e_300, e_500, e_600, e_2000, e_5000, e_5240, e_6146, e_20000, e_65536, nIo, nI_clamp, nIxt, nI_1, nI_add, nI_mul, nI_eqF, nI_ltT, nI_ltF, nI_leT, nI_leF, nN_lt0, nN_le, nN_lt, nN_eq, nN_eq', eq_self, nBdS]
        rw [g5, List.length_append]
        rw [List.append_assoc, List.length_append] at f2
        rcases f2 with ⟨q1, q2, q3, q4⟩ | ⟨q1, q2⟩
        · exact Or.inl ⟨by omega, q2, q3, q4⟩
        · exact Or.inr ⟨by omega, q2⟩
      · exact ⟨τ1, e1, Or.inr ⟨by rw [List.length_append]; omega, g2⟩⟩
    · have hx : flR (dl lm) k (d + 1) = flR (dl lm) (k + 1) d := by
        show (if dl lm k = true then [k] else []) ++ flR (dl lm) (k + 1) d = _
        rw [show dl lm k = false from decide_eq_false h2]
        rfl
      rw [hx]
      have hst : nLp (fun _ _ _ _ _ _ _ => none) (fun again => b_X11_chooses_43 N (l_X11_chooses_69 N (l_X11_chooses_151 N again)) (l_X11_chooses_151 N again) k157) m τ (nI wm) (nI lm) am (nI may) (nI p) (nI k) = nLp (fun _ _ _ _ _ _ _ => none) (fun again => b_X11_chooses_43 N (l_X11_chooses_69 N (l_X11_chooses_151 N again)) (l_X11_chooses_151 N again) k157) (m - 1) τ (nI wm) (nI lm) am (nI may) (nI p) (nI (k + 1)) := by
        rw [nLpP _ _ (by omega)]
        simp (disch := first | omega | exact nM1_n | exact nM2_n | assumption) only [b_X11_chooses_43, l_X11_chooses_151, b_X11_chooses_151, h5, hsl, hbc, ↓nLetR, ↓reduceIte, ↓e_m1, ↓e_m2, e_0, e_1, e_2, e_3, e_4, e_5, e_6, e_7, e_8, e_9, e_10, e_11, e_12, e_13, e_14, e_15, e_16, e_17, e_18, e_19, e_20, e_21, e_22, e_23, e_24, e_25, e_26, e_27, e_28, e_29, e_30, e_31, e_32, e_33, e_48, e_57, e_59, e_60, e_63, e_64, e_96, e_97, e_99, e_120, e_122, e_192, e_200, e_255, e_256, e_300, e_500, e_600, e_2000, e_5000, e_5240, e_6146, e_20000, e_65536, nIo, nI_clamp, nIxt, nI_1, nI_add, nI_mul, nI_eqF, nI_ltT, nI_ltF, nI_leT, nI_leF, nN_lt0, nN_le, nN_lt, nN_eq, nN_eq', eq_self, nBdS]
      rw [hst]
      exact ih (k + 1) (m - 1) τ A (by omega) (by omega) h5 h46 hA hl
theorem mp_go {N S P wm lm am may : Nat} (hN : 300 ≤ N) (hS : S ≤ 8) (hP : P ≤ 4) (hmay : may < 256) (hwm : wm < 9) (hlm : lm < 9) (ham : am < 9) : ∀ d k m τ (A : List Nat), k + d = 2 ^ P → d < m → τ.1 0 5 = nI S → τ.1 0 6 = nI P → τ.1 0 46 = nI A.length → A.length ≤ 500 → lsR (τ.1 16) A →
    cO τ A ((flR (dl am) k d).flatMap (lS (flR (okS may wm) 0 (may + 1)) (flR (dl lm) 0 (2 ^ S)))) (nLp (fun _ _ _ _ _ _ => none) (fun again => b_X11_chooses_16 N (l_X11_chooses_43 N (l_X11_chooses_157 N again)) (l_X11_chooses_157 N again) (l_X11_chooses_169 N)) m τ (nI wm) (nI lm) (nI am) (nI may) (nI k)) (fun τ' => l_X11_chooses_169 N τ' (nI 0) (nI 0)) := by
  have pP : (2 : Nat) ^ P ≤ 2 ^ 4 := Nat.pow_le_pow_right (by decide) hP
  have pS : (2 : Nat) ^ S ≤ 2 ^ 8 := Nat.pow_le_pow_right (by decide) hS
  have hsl := shl_is P (by omega)
  intro d
  induction d with
  | zero =>
    intro k m τ A hk hm h5 h6 h46 hA hl
    refine ⟨τ, fM.rfl, Or.inl ⟨by show A.length + 0 ≤ 500; omega, ?_, ?_, ?_⟩⟩
    · rw [nLpP _ _ hm]
      simp (disch := first | omega | exact nM1_n | exact nM2_n | assumption) only [b_X11_chooses_16, h6, hsl, ↓nLetR, ↓reduceIte, ↓e_m1, ↓e_m2, e_0, e_1, e_2, e_3, e_4, e_5, e_6, e_7, e_8, e_9, e_10, e_11, e_12, e_13, e_14, e_15, e_16, e_17, e_18, e_19, e_20, e_21, e_22, e_23, e_24, e_25, e_26, e_27, e_28, e_29, e_30, e_31, e_32, e_33, e_48, e_57, e_59, e_60, e_63, e_64, e_96, e_97, e_99, e_120, e_122, e_192, e_200, e_255, e_256, e_300, e_500, e_600, e_2000, e_5000, e_5240, e_6146, e_20000, e_65536, nIo, nI_clamp, nIxt, nI_1, nI_add, nI_mul, nI_eqF, nI_ltT, nI_ltF, nI_leT, nI_leF, nN_lt0, nN_le, nN_lt, nN_eq, nN_eq', eq_self, nBdS]
    · rw [h46, show (flR (dl am) k 0).flatMap (lS (flR (okS may wm) 0 (may + 1)) (flR (dl lm) 0 (2 ^ S))) = [] from rfl, List.append_nil]
    · rw [show (flR (dl am) k 0).flatMap (lS (flR (okS may wm) 0 (may + 1)) (flR (dl lm) 0 (2 ^ S))) = [] from rfl, List.append_nil]
      exact hl
  | succ d ih =>
    intro k m τ A hk hm h5 h6 h46 hA hl
    have hpc := pcf_le 8 k
    have hbc := bits8 (N := N) (x := k) (by omega) (by omega) τ
    by_cases h2 : pcf 8 k ≤ am
    · have hx : (flR (dl am) k (d + 1)).flatMap (lS (flR (okS may wm) 0 (may + 1)) (flR (dl lm) 0 (2 ^ S))) = lS (flR (okS may wm) 0 (may + 1)) (flR (dl lm) 0 (2 ^ S)) k ++ (flR (dl am) (k + 1) d).flatMap (lS (flR (okS may wm) 0 (may + 1)) (flR (dl lm) 0 (2 ^ S))) := by
        show ((if dl am k = true then [k] else []) ++ flR (dl am) (k + 1) d).flatMap _ = _
        rw [show dl am k = true from decide_eq_true h2, if_pos rfl, List.singleton_append, List.flatMap_cons]
      rw [hx]
      have hst : nLp (fun _ _ _ _ _ _ => none) (fun again => b_X11_chooses_16 N (l_X11_chooses_43 N (l_X11_chooses_157 N again)) (l_X11_chooses_157 N again) (l_X11_chooses_169 N)) m τ (nI wm) (nI lm) (nI am) (nI may) (nI k) = l_X11_chooses_43 N (l_X11_chooses_157 N (nLp (fun _ _ _ _ _ _ => none) (fun again => b_X11_chooses_16 N (l_X11_chooses_43 N (l_X11_chooses_157 N again)) (l_X11_chooses_157 N again) (l_X11_chooses_169 N)) (m - 1))) τ (nI wm) (nI lm) (nI am) (nI may) (nI k) (nI 0) := by
        rw [nLpP _ _ (by omega)]
        simp (disch := first | omega | exact nM1_n | exact nM2_n | assumption) only [b_X11_chooses_16, h6, hsl, hbc, ↓nLetR, ↓reduceIte, ↓e_m1, ↓e_m2, e_0, e_1, e_2, e_3, e_4, e_5, e_6, e_7, e_8, e_9, e_10, e_11, e_12, e_13, e_14, e_15, e_16, e_17, e_18, e_19, e_20, e_21, e_22, e_23, e_24, e_25, e_26, e_27, e_28, e_29, e_30, e_31, e_32, e_33, e_48, e_57, e_59, e_60, e_63, e_64, e_96, e_97, e_99, e_120, e_122, e_192, e_200, e_255, e_256, e_300, e_500, e_600, e_2000, e_5000, e_5240, e_6146, e_20000, e_65536, nIo, nI_clamp, nIxt, nI_1, nI_add, nI_mul, nI_eqF, nI_ltT, nI_ltF, nI_leT, nI_leF, nN_lt0, nN_le, nN_lt, nN_eq, nN_eq', eq_self, nBdS]
      rw [hst]
      obtain ⟨τ1, e1, e2⟩ := ms_go (N := N) (S := S) (wm := wm) (lm := lm) (may := may) (p := k) (am := nI am) hN hS hmay hwm hlm (by omega) (l_X11_chooses_157 N (nLp (fun _ _ _ _ _ _ => none) (fun again => b_X11_chooses_16 N (l_X11_chooses_43 N (l_X11_chooses_157 N again)) (l_X11_chooses_157 N again) (l_X11_chooses_169 N)) (m - 1))) (2 ^ S) 0 N τ A (by omega) (by omega) h5 h46 hA hl
      rcases e2 with ⟨g1, g2, g3, g4⟩ | ⟨g1, g2⟩
      · obtain ⟨τ2, f1, f2⟩ := ih (k + 1) (m - 1) τ1 _ (by omega) (by omega) (by rw [e1.2 5 (by decide)]; exact h5) (by rw [e1.2 6 (by decide)]; exact h6) g3 (by rw [List.length_append]; omega) g4
        refine ⟨τ2, e1.trans f1, ?_⟩
        have g5 : l_X11_chooses_43 N (l_X11_chooses_157 N (nLp (fun _ _ _ _ _ _ => none) (fun again => b_X11_chooses_16 N (l_X11_chooses_43 N (l_X11_chooses_157 N again)) (l_X11_chooses_157 N again) (l_X11_chooses_169 N)) (m - 1))) τ (nI wm) (nI lm) (nI am) (nI may) (nI k) (nI 0) = nLp (fun _ _ _ _ _ _ => none) (fun again => b_X11_chooses_16 N (l_X11_chooses_43 N (l_X11_chooses_157 N again)) (l_X11_chooses_157 N again) (l_X11_chooses_169 N)) (m - 1) τ1 (nI wm) (nI lm) (nI am) (nI may) (nI (k + 1)) := by
          refine Eq.trans g2 ?_
          simp (disch := first | omega | exact nM1_n | exact nM2_n | assumption) only [l_X11_chooses_157, b_X11_chooses_157, ↓nLetR, ↓reduceIte, ↓e_m1, ↓e_m2, e_0, e_1, e_2, e_3, e_4, e_5, e_6, e_7, e_8, e_9, e_10, e_11, e_12, e_13, e_14, e_15, e_16, e_17, e_18, e_19, e_20, e_21, e_22, e_23, e_24, e_25, e_26, e_27, e_28, e_29, e_30, e_31, e_32, e_33, e_48, e_57, e_59, e_60, e_63, e_64, e_96, e_97, e_99, e_120, e_122, e_192, e_200, e_255, e_256, e_300, e_500, e_600, e_2000, e_5000, e_5240, e_6146, e_20000, e_65536, nIo, nI_clamp, nIxt, nI_1, nI_add, nI_mul, nI_eqF, nI_ltT, nI_ltF, nI_leT, nI_leF, nN_lt0, nN_le, nN_lt, nN_eq, nN_eq', eq_self, nBdS]
        rw [g5, List.length_append]
        rw [List.append_assoc, List.length_append] at f2
        have g1' : A.length + (lS (flR (okS may wm) 0 (may + 1)) (flR (dl lm) 0 (2 ^ S)) k).length ≤ 500 := g1
        rcases f2 with ⟨q1, q2, q3, q4⟩ | ⟨q1, q2⟩
        · refine Or.inl ⟨?_, q2, q3, q4⟩
          have q1' : A.length + (lS (flR (okS may wm) 0 (may + 1)) (flR (dl lm) 0 (2 ^ S)) k).length + ((flR (dl am) (k + 1) d).flatMap (lS (flR (okS may wm) 0 (may + 1)) (flR (dl lm) 0 (2 ^ S)))).length ≤ 500 := q1
          omega
        · refine Or.inr ⟨?_, q2⟩
          have q1' : 500 < A.length + (lS (flR (okS may wm) 0 (may + 1)) (flR (dl lm) 0 (2 ^ S)) k).length + ((flR (dl am) (k + 1) d).flatMap (lS (flR (okS may wm) 0 (may + 1)) (flR (dl lm) 0 (2 ^ S)))).length := q1
          omega
      · refine ⟨τ1, e1, Or.inr ⟨?_, g2⟩⟩
        have g1' : 500 < A.length + (lS (flR (okS may wm) 0 (may + 1)) (flR (dl lm) 0 (2 ^ S)) k).length := g1
        rw [List.length_append]
        omega
    · have hx : flR (dl am) k (d + 1) = flR (dl am) (k + 1) d := by
        show (if dl am k = true then [k] else []) ++ flR (dl am) (k + 1) d = _
        rw [show dl am k = false from decide_eq_false h2]
        rfl
      rw [hx]
      have hst : nLp (fun _ _ _ _ _ _ => none) (fun again => b_X11_chooses_16 N (l_X11_chooses_43 N (l_X11_chooses_157 N again)) (l_X11_chooses_157 N again) (l_X11_chooses_169 N)) m τ (nI wm) (nI lm) (nI am) (nI may) (nI k) = nLp (fun _ _ _ _ _ _ => none) (fun again => b_X11_chooses_16 N (l_X11_chooses_43 N (l_X11_chooses_157 N again)) (l_X11_chooses_157 N again) (l_X11_chooses_169 N)) (m - 1) τ (nI wm) (nI lm) (nI am) (nI may) (nI (k + 1)) := by
        rw [nLpP _ _ (by omega)]
        simp (disch := first | omega | exact nM1_n | exact nM2_n | assumption) only [b_X11_chooses_16, l_X11_chooses_157, b_X11_chooses_157, h6, hsl, hbc, ↓nLetR, ↓reduceIte, ↓e_m1, ↓e_m2, e_0, e_1, e_2, e_3, e_4, e_5, e_6, e_7, e_8, e_9, e_10, e_11, e_12, e_13, e_14, e_15, e_16, e_17, e_18, e_19, e_20, e_21, e_22, e_23, e_24, e_25, e_26, e_27, e_28, e_29, e_30, e_31, e_32, e_33, e_48, e_57, e_59, e_60, e_63, e_64, e_96, e_97, e_99, e_120, e_122, e_192, e_200, e_255, e_256, e_300, e_500, e_600, e_2000, e_5000, e_5240, e_6146, e_20000, e_65536, nIo, nI_clamp, nIxt, nI_1, nI_add, nI_mul, nI_eqF, nI_ltT, nI_ltF, nI_leT, nI_leF, nN_lt0, nN_le, nN_lt, nN_eq, nN_eq', eq_self, nBdS]
      rw [hst]
      exact ih (k + 1) (m - 1) τ A (by omega) (by omega) h5 h6 h46 hA hl
theorem mk_go {N c : Nat} {L : List Nat} (hN : 40 ≤ N) (hL : L.length ≤ 500) (hx : ∀ x, x ∈ L → x < 2 ^ 20) (hc : c < 30) (k169 : nS → Int32 → Int32 → Option (Int32 × nS)) : ∀ d i m τ (A : List Nat), i + d = L.length → d < m → τ.1 0 46 = nI L.length → lsR (τ.1 16) L → lsR (τ.1 17) A → A.length + (cN c (L.drop i)).length ≤ 500 →
    ∃ τ', nLp (fun _ _ _ _ => none) (fun again => b_X11_chooses_179 N k169 (l_X11_chooses_223 N again)) m τ (nI A.length) (nI c) (nI i) = k169 τ' (nI (A ++ cN c (L.drop i)).length) (nI (c + 1)) ∧ lsR (τ'.1 17) (A ++ cN c (L.drop i)) ∧ ∀ d, d ≠ 17 → τ'.1 d = τ.1 d := by
  intro d
  induction d with
  | zero =>
    intro i m τ A hi hm h46 h16 hl hA
    have hz : L.drop i = [] := List.drop_eq_nil_of_le (by omega)
    rw [hz, show cN c [] = [] from rfl, List.append_nil]
    refine ⟨τ, ?_, hl, fun d h => rfl⟩
    rw [nLpP _ _ hm]
    simp (disch := first | omega | exact nM1_n | exact nM2_n | assumption) only [b_X11_chooses_179, h46, ↓nLetR, ↓reduceIte, ↓e_m1, ↓e_m2, e_0, e_1, e_2, e_3, e_4, e_5, e_6, e_7, e_8, e_9, e_10, e_11, e_12, e_13, e_14, e_15, e_16, e_17, e_18, e_19, e_20, e_21, e_22, e_23, e_24, e_25, e_26, e_27, e_28, e_29, e_30, e_31, e_32, e_33, e_48, e_57, e_59, e_60, e_63, e_64, e_96, e_97, e_99, e_120, e_122, e_192, e_200, e_255, e_256, e_300, e_500, e_600, e_2000, e_5000, e_5240, e_6146, e_20000, e_65536, nIo, nI_clamp, nIxt, nI_1, nI_add, nI_mul, nI_eqF, nI_ltT, nI_ltF, nI_leT, nI_leF, nN_lt0, nN_le, nN_lt, nN_eq, nN_eq', eq_self, nBdS]
  | succ d ih =>
    intro i m τ A hi hm h46 h16 hl hA
    have hil : i < L.length := by omega
    have hd := drop_c L hil
    have hv := h16.at hil
    have hb := hx L[i] (List.getElem_mem hil)
    generalize L[i] = x at hd hv hb
    rw [hd] at hA ⊢
    have hbc : ∃ v, v ≤ 31 ∧ tot x = v ∧ f_X11_bits N (nI x) τ = some (nI v, τ) := ⟨_, pcf_le 31 x, rfl, bits_is hN (by omega) τ⟩
    obtain ⟨v, hp31, htt, hbc⟩ := hbc
    rw [nLpP _ _ (by omega)]
    by_cases h : v = c
    · have hy : cN c (x :: L.drop (i + 1)) = x :: cN c (L.drop (i + 1)) := by
        unfold cN
        rw [List.filter_cons_of_pos (by rw [htt, h]; exact decide_eq_true rfl)]
      rw [hy] at hA ⊢
      rw [List.length_cons] at hA
      have hl1 : (A ++ [x]).length = A.length + 1 := by rw [List.length_append]; rfl
      obtain ⟨τ', e1, e2, e3⟩ := ih (i + 1) (m - 1) (wr τ 17 A.length (nI x)) (A ++ [x]) (by omega) (by omega) (by simp (disch := decide) only [wrs, wrk, wrc, wr2, wl1, wls, wlk, wlc]; exact h46) (by simp (disch := decide) only [wrs, wrk, wrc, wr2, wl1, wls, wlk, wlc]; exact h16) (hl.wr _) (by omega)
      rw [List.append_assoc, List.singleton_append] at e1 e2
      refine ⟨τ', ?_, e2, fun d h => ?_⟩
      · rw [hl1] at e1
        rw [h] at hbc
        simp (disch := first | omega | exact nM1_n | exact nM2_n | assumption) only [b_X11_chooses_179, l_X11_chooses_223, b_X11_chooses_223, h46, hv, hbc, ↓nLetR, ↓reduceIte, ↓e_m1, ↓e_m2, e_0, e_1, e_2, e_3, e_4, e_5, e_6, e_7, e_8, e_9, e_10, e_11, e_12, e_13, e_14, e_15, e_16, e_17, e_18, e_19, e_20, e_21, e_22, e_23, e_24, e_25, e_26, e_27, e_28, e_29, e_30, e_31, e_32, e_33, e_48, e_57, e_59, e_60, e_63, e_64, e_96, e_97, e_99, e_120, e_122, e_192, e_200, e_255, e_256, e_300, e_500, e_600, e_2000, e_5000, e_5240, e_6146, e_20000, e_65536, nIo, nI_clamp, nIxt, nI_1, nI_add, nI_mul, nI_eqF, nI_ltT, nI_ltF, nI_leT, nI_leF, nN_lt0, nN_le, nN_lt, nN_eq, nN_eq', eq_self, nBdS]
        exact e1
      · rw [e3 d h, wrc _ _ _ h]
    · have hy : cN c (x :: L.drop (i + 1)) = cN c (L.drop (i + 1)) := by
        unfold cN
        rw [List.filter_cons_of_neg (by rw [htt, decide_eq_false h]; decide)]
      rw [hy] at hA ⊢
      obtain ⟨τ', e1, e2, e3⟩ := ih (i + 1) (m - 1) τ A (by omega) (by omega) h46 h16 hl hA
      refine ⟨τ', ?_, e2, e3⟩
      simp (disch := first | omega | exact nM1_n | exact nM2_n | assumption) only [b_X11_chooses_179, l_X11_chooses_223, b_X11_chooses_223, h46, hv, hbc, ↓nLetR, ↓reduceIte, ↓e_m1, ↓e_m2, e_0, e_1, e_2, e_3, e_4, e_5, e_6, e_7, e_8, e_9, e_10, e_11, e_12, e_13, e_14, e_15, e_16, e_17, e_18, e_19, e_20, e_21, e_22, e_23, e_24, e_25, e_26, e_27, e_28, e_29, e_30, e_31, e_32, e_33, e_48, e_57, e_59, e_60, e_63, e_64, e_96, e_97, e_99, e_120, e_122, e_192, e_200, e_255, e_256, e_300, e_500, e_600, e_2000, e_5000, e_5240, e_6146, e_20000, e_65536, nIo, nI_clamp, nIxt, nI_1, nI_add, nI_mul, nI_eqF, nI_ltT, nI_ltF, nI_leT, nI_leF, nN_lt0, nN_le, nN_lt, nN_eq, nN_eq', eq_self, nBdS]
      exact e1
theorem mc_go {N : Nat} {L : List Nat} (hN : 600 ≤ N) (hL : L.length ≤ 500) (hx : ∀ x, x ∈ L → x < 2 ^ 20) : ∀ d c m τ (A : List Nat), c + d = 21 → d < m → τ.1 0 46 = nI L.length → lsR (τ.1 16) L → lsR (τ.1 17) A → A.length + (wFrom L c d).length ≤ 500 →
    ∃ τ', nLp (fun _ _ _ => none) (fun again => b_X11_chooses_169 N (l_X11_chooses_179 N again) (l_X11_chooses_238 N)) m τ (nI A.length) (nI c) = l_X11_chooses_238 N τ' (nI 0) ∧ lsR (τ'.1 17) (A ++ wFrom L c d) ∧ ∀ d, d ≠ 17 → τ'.1 d = τ.1 d := by
  intro d
  induction d with
  | zero =>
    intro c m τ A hi hm h46 h16 hl hA
    rw [show wFrom L c 0 = [] from rfl, List.append_nil]
    refine ⟨τ, ?_, hl, fun d h => rfl⟩
    rw [nLpP _ _ hm]
    simp (disch := first | omega | exact nM1_n | exact nM2_n | assumption) only [b_X11_chooses_169, ↓nLetR, ↓reduceIte, ↓e_m1, ↓e_m2, e_0, e_1, e_2, e_3, e_4, e_5, e_6, e_7, e_8, e_9, e_10, e_11, e_12, e_13, e_14, e_15, e_16, e_17, e_18, e_19, e_20, e_21, e_22, e_23, e_24, e_25, e_26, e_27, e_28, e_29, e_30, e_31, e_32, e_33, e_48, e_57, e_59, e_60, e_63, e_64, e_96, e_97, e_99, e_120, e_122, e_192, e_200, e_255, e_256, e_300, e_500, e_600, e_2000, e_5000, e_5240, e_6146, e_20000, e_65536, nIo, nI_clamp, nIxt, nI_1, nI_add, nI_mul, nI_eqF, nI_ltT, nI_ltF, nI_leT, nI_leF, nN_lt0, nN_le, nN_lt, nN_eq, nN_eq', eq_self, nBdS]
  | succ d ih =>
    intro c m τ A hi hm h46 h16 hl hA
    rw [show wFrom L c (d + 1) = cN c L ++ wFrom L (c + 1) d from rfl] at hA ⊢
    rw [List.length_append] at hA
    obtain ⟨τ1, a1, a2, a3⟩ := mk_go (N := N) (c := c) (L := L) (by omega) hL hx (by omega) (nLp (fun _ _ _ => none) (fun again => b_X11_chooses_169 N (l_X11_chooses_179 N again) (l_X11_chooses_238 N)) (m - 1)) L.length 0 N τ A (by omega) (by omega) h46 h16 hl (by rw [List.drop_zero]; omega)
    rw [List.drop_zero] at a1 a2
    obtain ⟨τ', e1, e2, e3⟩ := ih (c + 1) (m - 1) τ1 _ (by omega) (by omega) (by rw [a3 0 (by decide)]; exact h46) (by rw [a3 16 (by decide)]; exact h16) a2 (by rw [List.length_append]; omega)
    rw [List.append_assoc] at e2
    refine ⟨τ', ?_, e2, fun d h => ?_⟩
    · rw [nLpP _ _ (by omega), ← e1]
      refine Eq.trans ?_ a1
      simp (disch := first | omega | exact nM1_n | exact nM2_n | assumption) only [b_X11_chooses_169, ↓nLetR, ↓reduceIte, ↓e_m1, ↓e_m2, e_0, e_1, e_2, e_3, e_4, e_5, e_6, e_7, e_8, e_9, e_10, e_11, e_12, e_13, e_14, e_15, e_16, e_17, e_18, e_19, e_20, e_21, e_22, e_23, e_24, e_25, e_26, e_27, e_28, e_29, e_30, e_31, e_32, e_33, e_48, e_57, e_59, e_60, e_63, e_64, e_96, e_97, e_99, e_120, e_122, e_192, e_200, e_255, e_256, e_300, e_500, e_600, e_2000, e_5000, e_5240, e_6146, e_20000, e_65536, nIo, nI_clamp, nIxt, nI_1, nI_add, nI_mul, nI_eqF, nI_ltT, nI_ltF, nI_leT, nI_leF, nN_lt0, nN_le, nN_lt, nN_eq, nN_eq', eq_self, nBdS]
      rfl
    · rw [e3 d h, a3 d h]
theorem cp_go {N : Nat} {W : List Nat} (hW : W.length ≤ 500) : ∀ d i m τ, i + d = W.length → d < m → τ.1 0 46 = nI W.length → lsR (τ.1 17) W → (∀ j x, j < i → W[j]? = some x → τ.1 16 j = nI x) →
    ∃ τ', nLp (fun _ _ => none) (fun again => b_X11_chooses_238 N again) m τ (nI i) = some (nI 1, τ') ∧ lsR (τ'.1 16) W ∧ ∀ d, d ≠ 16 → τ'.1 d = τ.1 d := by
  intro d
  induction d with
  | zero =>
    intro i m τ hi hm h46 h17 hj
    refine ⟨τ, ?_, fun j x h => hj j x ?_ h, fun d h => rfl⟩
    · rw [nLpP _ _ hm]
      simp (disch := first | omega | exact nM1_n | exact nM2_n | assumption) only [b_X11_chooses_238, h46, ↓nLetR, ↓reduceIte, ↓e_m1, ↓e_m2, e_0, e_1, e_2, e_3, e_4, e_5, e_6, e_7, e_8, e_9, e_10, e_11, e_12, e_13, e_14, e_15, e_16, e_17, e_18, e_19, e_20, e_21, e_22, e_23, e_24, e_25, e_26, e_27, e_28, e_29, e_30, e_31, e_32, e_33, e_48, e_57, e_59, e_60, e_63, e_64, e_96, e_97, e_99, e_120, e_122, e_192, e_200, e_255, e_256, e_300, e_500, e_600, e_2000, e_5000, e_5240, e_6146, e_20000, e_65536, nIo, nI_clamp, nIxt, nI_1, nI_add, nI_mul, nI_eqF, nI_ltT, nI_ltF, nI_leT, nI_leF, nN_lt0, nN_le, nN_lt, nN_eq, nN_eq', eq_self, nBdS]
    · rw [List.getElem?_eq_some_iff] at h
      have := h.1
      omega
  | succ d ih =>
    intro i m τ hi hm h46 h17 hj
    have hil : i < W.length := by omega
    have hv := h17.at hil
    obtain ⟨τ', e1, e2, e3⟩ := ih (i + 1) (m - 1) (wr τ 16 i (nI W[i])) (by omega) (by omega) (by simp (disch := decide) only [wrs, wrk, wrc, wr2, wl1, wls, wlk, wlc]; exact h46) (by simp (disch := decide) only [wrs, wrk, wrc, wr2, wl1, wls, wlk, wlc]; exact h17) (fun j x h1 h2 => by
      by_cases e : j = i
      · subst e
        rw [wrs]
        exact hv.symm.trans (h17 j x h2)
      · rw [wrk _ _ _ e]
        exact hj j x (by omega) h2)
    refine ⟨τ', ?_, e2, fun d h => ?_⟩
    · rw [nLpP _ _ (by omega)]
      simp (disch := first | omega | exact nM1_n | exact nM2_n | assumption) only [b_X11_chooses_238, h46, hv, ↓nLetR, ↓reduceIte, ↓e_m1, ↓e_m2, e_0, e_1, e_2, e_3, e_4, e_5, e_6, e_7, e_8, e_9, e_10, e_11, e_12, e_13, e_14, e_15, e_16, e_17, e_18, e_19, e_20, e_21, e_22, e_23, e_24, e_25, e_26, e_27, e_28, e_29, e_30, e_31, e_32, e_33, e_48, e_57, e_59, e_60, e_63, e_64, e_96, e_97, e_99, e_120, e_122, e_192, e_200, e_255, e_256, e_300, e_500, e_600, e_2000, e_5000, e_5240, e_6146, e_20000, e_65536, nIo, nI_clamp, nIxt, nI_1, nI_add, nI_mul, nI_eqF, nI_ltT, nI_ltF, nI_leT, nI_leF, nN_lt0, nN_le, nN_lt, nN_eq, nN_eq', eq_self, nBdS]
      exact e1
    · rw [e3 d h, wrc _ _ _ h]
theorem flR_sub (al mo : Nat) (h : al < 256) : flR (okS al mo) 0 256 = flR (okS al mo) 0 (al + 1) := by
  have := flR_cut (P := okS al mo) (al + 1) (255 - al) 0 (fun j hj => okS_big (by omega))
  rw [show al + 1 + (255 - al) = 256 by omega] at this
  exact this
theorem flR_pow (S mo n : Nat) (h : 2 ^ S ≤ n) : flR (okS (2 ^ S - 1) mo) 0 n = flR (dl mo) 0 (2 ^ S) := by
  have hp : 1 ≤ 2 ^ S := Nat.one_le_two_pow
  have h1 := flR_cut (P := okS (2 ^ S - 1) mo) (2 ^ S) (n - 2 ^ S) 0 (fun j hj => okS_big (by omega))
  rw [show 2 ^ S + (n - 2 ^ S) = n by omega] at h1
  rw [h1]
  exact flR_ext (2 ^ S) 0 (fun j _ h2 => okS_all (by omega))
/-- the lists of a choosing -/
def fsL (F x wm : Nat) : List Nat := flR (okS (x % 2 ^ F) wm) 0 256
def ssL (S lm : Nat) : List Nat := flR (okS (2 ^ S - 1) lm) 0 256
def psL (P am : Nat) : List Nat := flR (okS (2 ^ P - 1) am) 0 16
def allL (F S P x wm lm am : Nat) : List Nat := lP (fsL F x wm) (ssL S lm) (psL P am)
def rowL (F S P x wm lm am : Nat) : List Nat := wFrom (allL F S P x wm lm am) 0 21
theorem wB_is (F S P x wm lm am : Nat) : wB (fsL F x wm) (ssL S lm) (psL P am) :=
  ⟨⟨flR_len _ _ _, flR_len _ _ _, flR_len _ _ _⟩, fun f h => by have := flR_mem _ _ _ h; omega, fun f h => by have := flR_mem _ _ _ h; omega, fun f h => by have := flR_mem _ _ _ h; omega⟩
theorem all_mem {F S P x wm lm am y : Nat} (h : y ∈ allL F S P x wm lm am) : y < 2 ^ 20 ∧ tot y < 21 := by
  obtain ⟨p, s, f, h1, h2, h3, rfl⟩ := lP_mem h
  obtain ⟨_, m1, m2, m3⟩ := wB_is F S P x wm lm am
  have hp := m3 p h1
  have hs := m2 s h2
  have hf := m1 f h3
  refine ⟨by unfold gR; omega, ?_⟩
  rw [tot_is (by omega) hs hf]
  have e1 := pcf_le 8 f
  have e2 := pcf_le 8 s
  have e3 := pcf_le 4 p
  have e4 : pcf 8 p = pcf 4 p := pcf_up 4 4 p (by omega)
  omega
theorem row_len (F S P x wm lm am : Nat) : (rowL F S P x wm lm am).length = (allL F S P x wm lm am).length := wFrom_all _ (fun y h => (all_mem h).2)
theorem row_mem {F S P x wm lm am y : Nat} (h : y ∈ rowL F S P x wm lm am) : y < 2 ^ 20 := (all_mem (wFrom_mem _ _ _ _ h)).1
theorem choose_is {N F S P x wm lm am : Nat} {τ : nS} (hN : 1000 ≤ N) (hF : F ≤ 8) (hS : S ≤ 8) (hP : P ≤ 4) (h4 : τ.1 0 4 = nI F) (h5 : τ.1 0 5 = nI S) (h6 : τ.1 0 6 = nI P) (hx : x < 256) (hwm : wm < 9) (hlm : lm < 9) (ham : am < 9) :
    ∃ τ', fM τ τ' ∧ (((allL F S P x wm lm am).length ≤ 500 ∧ f_X11_chooses N (nI x) (nI wm) (nI lm) (nI am) τ = some (nI 1, τ') ∧ τ'.1 0 46 = nI (rowL F S P x wm lm am).length ∧ lsR (τ'.1 16) (rowL F S P x wm lm am)) ∨ (500 < (allL F S P x wm lm am).length ∧ f_X11_chooses N (nI x) (nI wm) (nI lm) (nI am) τ = some (nI 0, τ'))) := by
  have pP : (2 : Nat) ^ P ≤ 2 ^ 4 := Nat.pow_le_pow_right (by decide) hP
  have pS : (2 : Nat) ^ S ≤ 2 ^ 8 := Nat.pow_le_pow_right (by decide) hS
  have hmod : x % 2 ^ F < 256 := Nat.lt_of_le_of_lt (Nat.mod_le _ _) hx
  have hm := mk_and F (by omega) x hx
  have e0 : f_X11_chooses N (nI x) (nI wm) (nI lm) (nI am) τ = nLp (fun _ _ _ _ _ _ => none) (fun again => b_X11_chooses_16 N (l_X11_chooses_43 N (l_X11_chooses_157 N again)) (l_X11_chooses_157 N again) (l_X11_chooses_169 N)) N (wr τ 0 46 (nI 0)) (nI wm) (nI lm) (nI am) (nI (x % 2 ^ F)) (nI 0) := by
    simp (disch := first | omega | exact nM1_n | exact nM2_n | assumption) only [f_X11_chooses, l_X11_chooses_0, b_X11_chooses_0, b_X11_allFacts_0, l_X11_allFacts_0, f_X11_allFacts, h4, hm, ↓nLetR, ↓reduceIte, ↓e_m1, ↓e_m2, e_0, e_1, e_2, e_3, e_4, e_5, e_6, e_7, e_8, e_9, e_10, e_11, e_12, e_13, e_14, e_15, e_16, e_17, e_18, e_19, e_20, e_21, e_22, e_23, e_24, e_25, e_26, e_27, e_28, e_29, e_30, e_31, e_32, e_33, e_48, e_57, e_59, e_60, e_63, e_64, e_96, e_97, e_99, e_120, e_122, e_192, e_200, e_255, e_256, e_300, e_500, e_600, e_2000, e_5000, e_5240, e_6146, e_20000, e_65536, nIo, nI_clamp, nIxt, nI_1, nI_add, nI_mul, nI_eqF, nI_ltT, nI_ltF, nI_leT, nI_leF, nN_lt0, nN_le, nN_lt, nN_eq, nN_eq', eq_self, nBdS, wrs, wrk, wrc, wr2, wl1, wls, wlk, wlc]
    rfl
  obtain ⟨τ1, a1, a2⟩ := mp_go (N := N) (S := S) (P := P) (wm := wm) (lm := lm) (am := am) (may := x % 2 ^ F) (by omega) hS hP hmod hwm hlm ham (2 ^ P) 0 N (wr τ 0 46 (nI 0)) [] (by omega) (by omega) (by simp (disch := decide) only [wrs, wrk, wrc, wr2, wl1, wls, wlk, wlc]; exact h5) (by simp (disch := decide) only [wrs, wrk, wrc, wr2, wl1, wls, wlk, wlc]; exact h6) (by rw [wrs]; rfl) (by decide) (lsR.nil _)
  have hl : (flR (dl am) 0 (2 ^ P)).flatMap (lS (flR (okS (x % 2 ^ F) wm) 0 (x % 2 ^ F + 1)) (flR (dl lm) 0 (2 ^ S))) = allL F S P x wm lm am := by
    unfold allL lP fsL ssL psL
    rw [flR_sub _ _ hmod, flR_pow S lm 256 pS, flR_pow P am 16 pP]
  rw [hl, List.nil_append, List.length_nil, Nat.zero_add] at a2
  have b1 : fM τ τ1 := fM.trans ⟨fun d z1 z2 z3 => by simp (disch := omega) only [wrs, wrk, wrc, wr2, wl1, wls, wlk, wlc], fun f z1 => by simp (disch := omega) only [wrs, wrk, wrc, wr2, wl1, wls, wlk, wlc]⟩ a1
  rw [e0]
  rcases a2 with ⟨g1, g2, g3, g4⟩ | ⟨g1, g2⟩
  · have hlen := row_len F S P x wm lm am
    obtain ⟨τ2, c1, c2, c3⟩ := mc_go (N := N) (L := allL F S P x wm lm am) (by omega) g1 (fun y h => (all_mem h).1) 21 0 N τ1 [] (by omega) (by omega) g3 g4 (lsR.nil _) (by rw [List.length_nil]; have := wFrom_le (allL F S P x wm lm am) 0 21; omega)
    rw [List.nil_append] at c2
    obtain ⟨τ3, d1, d2, d3⟩ := cp_go (N := N) (W := rowL F S P x wm lm am) (by omega) (rowL F S P x wm lm am).length 0 N τ2 (by omega) (by omega) (by rw [c3 0 (by decide), g3, hlen]) c2 (fun j x h => absurd h (Nat.not_lt_zero j))
    refine ⟨τ3, b1.trans ⟨fun d z1 z2 z3 => by rw [d3 d z2, c3 d z3], fun f z1 => by rw [d3 0 (by decide), c3 0 (by decide)]⟩, Or.inl ⟨g1, ?_, ?_, d2⟩⟩
    · exact g2.trans (c1.trans d1)
    · rw [d3 0 (by decide), c3 0 (by decide), g3, hlen]
  · exact ⟨τ1, b1, Or.inr ⟨g1, g2⟩⟩
