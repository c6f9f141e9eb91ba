/-! THE CHOICES OF THE CLASS -/
theorem lsR.wr {σ : nS} {q : Nat} {l : List Nat} (h : lsR (σ.1 q) l) (x : Nat) : lsR ((wr σ q l.length (nI x)).1 q) (l ++ [x]) := by
  rw [wrf]
  exact h.app x
theorem ls_go {N q qn al mo : Nat} (hq : qn ≤ 256) (hal : al < 256) (hmo : mo < 256) : ∀ d k m σ (A : List Nat), k + d = qn → d < m → A.length ≤ k → lsR (σ.1 q) A →
    ∃ σ', nLp (fun _ _ _ _ _ => none) (fun again => b_X0_listSets_5 N q qn (l_X0_listSets_44 N q qn again)) m σ (nI al) (nI mo) (nI A.length) (nI k) = some (nI (A ++ flR (okS al mo) k d).length, σ') ∧ lsR (σ'.1 q) (A ++ flR (okS al mo) k d) ∧ ∀ d, d ≠ q → σ'.1 d = σ.1 d := by
  intro d
  induction d with
  | zero =>
    intro k m σ A hk hm hA hl
    refine ⟨σ, ?_, ?_, fun d h => rfl⟩
    · rw [nLpP _ _ hm]
      simp (disch := first | omega | exact nM1_n | exact nM2_n | assumption) only [b_X0_listSets_5, ↓nLetR, ↓reduceIte, ↓e_m1, ↓e_m2, e_0, e_1, e_2, e_3, e_4, e_5, e_6, e_7, e_8, e_9, e_10, e_11, e_12, e_13, e_14, e_15, e_16, e_17, e_18, e_19, e_20, e_21, e_22, e_23, e_24, e_25, e_26, e_27, e_28, e_29, e_30, e_31, e_32, e_33, e_48, e_57, e_59, e_60, e_63, e_64, e_96, e_97, e_99, e_120, e_122, e_192, e_200, e_255, e_256, e_300, e_500, e_600, e_2000, e_5000, e_5240, e_6146, e_20000, e_65536, nIo, nI_clamp, nIxt, nI_1, nI_add, nI_mul, nI_eqF, nI_ltT, nI_ltF, nI_leT, nI_leF, nN_lt0, nN_le, nN_lt, nN_eq, nN_eq', eq_self, nBdS]
      unfold flR
      rw [List.append_nil]
    · unfold flR
      rw [List.append_nil]
      exact hl
  | succ d ih =>
    intro k m σ A hk hm hA hl
    have hpc := pcf_le 8 k
    have hsub := sub_is k al (by omega)
    have hbc := bitC8 (N := N) (x := k) (by omega) σ
    unfold flR
    rw [nLpP _ _ (by omega)]
    by_cases h1 : k &&& al = k
    · by_cases h2 : pcf 8 k ≤ mo
      · have hok : okS al mo k = true := by unfold okS; rw [decide_eq_true h1, decide_eq_true h2]; rfl
        have hl1 : (A ++ [k]).length = A.length + 1 := by rw [List.length_append]; rfl
        obtain ⟨σ', e1, e2, e3⟩ := ih (k + 1) (m - 1) (wr σ q A.length (nI k)) (A ++ [k]) (by omega) (by omega) (by omega) (hl.wr k)
        rw [hok, if_pos rfl, ← List.append_assoc]
        refine ⟨σ', ?_, e2, fun d h => ?_⟩
        · rw [eq_true h1] at hsub
          rw [hl1] at e1
          simp (disch := first | omega | exact nM1_n | exact nM2_n | assumption) only [b_X0_listSets_5, l_X0_listSets_44, b_X0_listSets_44, hsub, hbc, ↓nLetR, ↓reduceIte, ↓e_m1, ↓e_m2, e_0, e_1, e_2, e_3, e_4, e_5, e_6, e_7, e_8, e_9, e_10, e_11, e_12, e_13, e_14, e_15, e_16, e_17, e_18, e_19, e_20, e_21, e_22, e_23, e_24, e_25, e_26, e_27, e_28, e_29, e_30, e_31, e_32, e_33, e_48, e_57, e_59, e_60, e_63, e_64, e_96, e_97, e_99, e_120, e_122, e_192, e_200, e_255, e_256, e_300, e_500, e_600, e_2000, e_5000, e_5240, e_6146, e_20000, e_65536, nIo, nI_clamp, nIxt, nI_1, nI_add, nI_mul, nI_eqF, nI_ltT, nI_ltF, nI_leT, nI_leF, nN_lt0, nN_le, nN_lt, nN_eq, nN_eq', eq_self, nBdS]
          exact e1
        · rw [e3 d h, wrc _ _ _ h]
      · have hok : okS al mo k = false := by unfold okS; rw [decide_eq_true h1, decide_eq_false h2]; rfl
        obtain ⟨σ', e1, e2, e3⟩ := ih (k + 1) (m - 1) σ A (by omega) (by omega) (by omega) hl
        rw [hok, if_neg (by decide), List.nil_append]
        refine ⟨σ', ?_, e2, e3⟩
        rw [eq_true h1] at hsub
        simp (disch := first | omega | exact nM1_n | exact nM2_n | assumption) only [b_X0_listSets_5, l_X0_listSets_44, b_X0_listSets_44, hsub, hbc, ↓nLetR, ↓reduceIte, ↓e_m1, ↓e_m2, e_0, e_1, e_2, e_3, e_4, e_5, e_6, e_7, e_8, e_9, e_10, e_11, e_12, e_13, e_14, e_15, e_16, e_17, e_18, e_19, e_20, e_21, e_22, e_23, e_24, e_25, e_26, e_27, e_28, e_29, e_30, e_31, e_32, e_33, e_48, e_57, e_59, e_60, e_63, e_64, e_96, e_97, e_99, e_120, e_122, e_192, e_200, e_255, e_256, e_300, e_500, e_600, e_2000, e_5000, e_5240, e_6146, e_20000, e_65536, nIo, nI_clamp, nIxt, nI_1, nI_add, nI_mul, nI_eqF, nI_ltT, nI_ltF, nI_leT, nI_leF, nN_lt0, nN_le, nN_lt, nN_eq, nN_eq', eq_self, nBdS]
        exact e1
    · have hok : okS al mo k = false := by unfold okS; rw [decide_eq_false h1]; rfl
      obtain ⟨σ', e1, e2, e3⟩ := ih (k + 1) (m - 1) σ A (by omega) (by omega) (by omega) hl
      rw [hok, if_neg (by decide), List.nil_append]
      refine ⟨σ', ?_, e2, e3⟩
      rw [eq_false h1] at hsub
      simp (disch := first | omega | exact nM1_n | exact nM2_n | assumption) only [b_X0_listSets_5, l_X0_listSets_44, b_X0_listSets_44, hsub, ↓nLetR, ↓reduceIte, ↓e_m1, ↓e_m2, e_0, e_1, e_2, e_3, e_4, e_5, e_6, e_7, e_8, e_9, e_10, e_11, e_12, e_13, e_14, e_15, e_16, e_17, e_18, e_19, e_20, e_21, e_22, e_23, e_24, e_25, e_26, e_27, e_28, e_29, e_30, e_31, e_32, e_33, e_48, e_57, e_59, e_60, e_63, e_64, e_96, e_97, e_99, e_120, e_122, e_192, e_200, e_255, e_256, e_300, e_500, e_600, e_2000, e_5000, e_5240, e_6146, e_20000, e_65536, nIo, nI_clamp, nIxt, nI_1, nI_add, nI_mul, nI_eqF, nI_ltT, nI_ltF, nI_leT, nI_leF, nN_lt0, nN_le, nN_lt, nN_eq, nN_eq', eq_self, nBdS]
      exact e1
theorem ls_is {N q qn al mo : Nat} (hN : 300 ≤ N) (hq : qn ≤ 256) (hal : al < 256) (hmo : mo < 256) (σ : nS) : ∃ σ', f_X0_listSets N q qn (nI al) (nI mo) σ = some (nI (flR (okS al mo) 0 qn).length, σ') ∧ lsR (σ'.1 q) (flR (okS al mo) 0 qn) ∧ ∀ d, d ≠ q → σ'.1 d = σ.1 d := ls_go hq hal hmo qn 0 N σ [] (by omega) (by omega) (Nat.le_refl 0) (lsR.nil _)
/-- the lists lie in the class's cells -/
def wC (fs ss ps : List Nat) (σ : nS) : Prop := (σ.1 12 3 = nI fs.length ∧ σ.1 12 4 = nI ss.length ∧ σ.1 12 5 = nI ps.length) ∧ lsR (σ.1 13) fs ∧ lsR (σ.1 14) ss ∧ lsR (σ.1 15) ps
def wB (fs ss ps : List Nat) : Prop := (fs.length ≤ 256 ∧ ss.length ≤ 256 ∧ ps.length ≤ 16) ∧ (∀ f, f ∈ fs → f < 256) ∧ (∀ s, s ∈ ss → s < 256) ∧ ∀ p, p ∈ ps → p < 16
theorem wC.fr {fs ss ps : List Nat} {q : Nat} {σ σ' : nS} (h : wC fs ss ps σ) (hq : 15 < q) (hf : ∀ d, d ≠ q → σ'.1 d = σ.1 d) : wC fs ss ps σ' := by
  unfold wC
  rw [hf 12 (by omega), hf 13 (by omega), hf 14 (by omega), hf 15 (by omega)]
  exact h
theorem prep_is {N F S P x wm lm am : Nat} {σ : nS} (hN : 300 ≤ N) (hF : F ≤ 8) (hS : S ≤ 8) (hP : P ≤ 4) (h0 : σ.1 1 0 = nI F) (h1 : σ.1 1 1 = nI S) (h2 : σ.1 1 2 = nI P) (hx : x < 256) (hw : wm < 9) (hl : lm < 9) (ha : am < 9) :
    ∃ σ', f_X0_prepare N (nI x) (nI wm) (nI lm) (nI am) σ = some (nI ((flR (okS (x % 2 ^ F) wm) 0 256).length * (flR (okS (2 ^ S - 1) lm) 0 256).length * (flR (okS (2 ^ P - 1) am) 0 16).length), σ') ∧ wC (flR (okS (x % 2 ^ F) wm) 0 256) (flR (okS (2 ^ S - 1) lm) 0 256) (flR (okS (2 ^ P - 1) am) 0 16) σ' ∧ ∀ d, d ≠ 12 → d ≠ 13 → d ≠ 14 → d ≠ 15 → σ'.1 d = σ.1 d := by
  have pF : (2 : Nat) ^ F ≤ 2 ^ 8 := Nat.pow_le_pow_right (by decide) hF
  have pS : (2 : Nat) ^ S ≤ 2 ^ 8 := Nat.pow_le_pow_right (by decide) hS
  have pP : (2 : Nat) ^ P ≤ 2 ^ 4 := Nat.pow_le_pow_right (by decide) hP
  have qS : 1 ≤ 2 ^ S := Nat.one_le_two_pow
  have qP : 1 ≤ 2 ^ P := Nat.one_le_two_pow
  have hmod : x % 2 ^ F < 256 := Nat.lt_of_le_of_lt (Nat.mod_le _ _) hx
  obtain ⟨s1, a1, a2, a3⟩ := ls_is (N := N) (q := 13) (qn := 256) (al := x % 2 ^ F) (mo := wm) hN (by decide) hmod (by omega) σ
  obtain ⟨s2, b1, b2, b3⟩ := ls_is (N := N) (q := 14) (qn := 256) (al := 2 ^ S - 1) (mo := lm) hN (by decide) (by omega) (by omega) (wr s1 12 3 (nI (flR (okS (x % 2 ^ F) wm) 0 256).length))
  obtain ⟨s3, c1, c2, c3⟩ := ls_is (N := N) (q := 15) (qn := 16) (al := 2 ^ P - 1) (mo := am) hN (by decide) (by omega) (by omega) (wr s2 12 4 (nI (flR (okS (2 ^ S - 1) lm) 0 256).length))
  have hm := mk_and F (by omega) x hx
  have e1 : (wr s1 12 3 (nI (flR (okS (x % 2 ^ F) wm) 0 256).length)).1 1 1 = nI S := by
    simp (disch := decide) only [wrs, wrk, wrc, wr2, wl1, wls, wlk, wlc]
    rw [a3 1 (by decide)]
    exact h1
  have e2 : (wr s2 12 4 (nI (flR (okS (2 ^ S - 1) lm) 0 256).length)).1 1 2 = nI P := by
    simp (disch := decide) only [wrs, wrk, wrc, wr2, wl1, wls, wlk, wlc]
    rw [b3 1 (by decide)]
    simp (disch := decide) only [wrs, wrk, wrc, wr2, wl1, wls, wlk, wlc]
    rw [a3 1 (by decide)]
    exact h2
  have f1 : f_X7_allFacts N σ = some ((nI 1 <<< (nI F &&& nI 31)) - nI 1, σ) := by
    simp (disch := first | omega | exact nM1_n | exact nM2_n | assumption) only [b_X7_allFacts_0, l_X7_allFacts_0, f_X7_allFacts, h0, ↓nLetR, ↓reduceIte, ↓e_m1, ↓e_m2, e_0, e_1, e_2, e_3, e_4, e_5, e_6, e_7, e_8, e_9, e_10, e_11, e_12, e_13, e_14, e_15, e_16, e_17, e_18, e_19, e_20, e_21, e_22, e_23, e_24, e_25, e_26, e_27, e_28, e_29, e_30, e_31, e_32, e_33, e_48, e_57, e_59, e_60, e_63, e_64, e_96, e_97, e_99, e_120, e_122, e_192, e_200, e_255, e_256, e_300, e_500, e_600, e_2000, e_5000, e_5240, e_6146, e_20000, e_65536, nIo, nI_clamp, nIxt, nI_1, nI_add, nI_mul, nI_eqF, nI_ltT, nI_ltF, nI_leT, nI_leF, nN_lt0, nN_le, nN_lt, nN_eq, nN_eq', eq_self, nBdS]
  have f2 : f_X7_allSigns N (wr s1 12 3 (nI (flR (okS (x % 2 ^ F) wm) 0 256).length)) = some (nI (2 ^ S - 1), wr s1 12 3 (nI (flR (okS (x % 2 ^ F) wm) 0 256).length)) := by
    have := nI_subn _ _ qS
    simp (disch := first | omega | exact nM1_n | exact nM2_n | assumption) only [b_X7_allSigns_0, l_X7_allSigns_0, f_X7_allSigns, e1, shl_is, this, ↓nLetR, ↓reduceIte, ↓e_m1, ↓e_m2, e_0, e_1, e_2, e_3, e_4, e_5, e_6, e_7, e_8, e_9, e_10, e_11, e_12, e_13, e_14, e_15, e_16, e_17, e_18, e_19, e_20, e_21, e_22, e_23, e_24, e_25, e_26, e_27, e_28, e_29, e_30, e_31, e_32, e_33, e_48, e_57, e_59, e_60, e_63, e_64, e_96, e_97, e_99, e_120, e_122, e_192, e_200, e_255, e_256, e_300, e_500, e_600, e_2000, e_5000, e_5240, e_6146, e_20000, e_65536, nIo, nI_clamp, nIxt, nI_1, nI_add, nI_mul, nI_eqF, nI_ltT, nI_ltF, nI_leT, nI_leF, nN_lt0, nN_le, nN_lt, nN_eq, nN_eq', eq_self, nBdS]
  have f3 : f_X7_allPeople N (wr s2 12 4 (nI (flR (okS (2 ^ S - 1) lm) 0 256).length)) = some (nI (2 ^ P - 1), wr s2 12 4 (nI (flR (okS (2 ^ S - 1) lm) 0 256).length)) := by
    have := nI_subn _ _ qP
    simp (disch := first | omega | exact nM1_n | exact nM2_n | assumption) only [b_X7_allPeople_0, l_X7_allPeople_0, f_X7_allPeople, e2, shl_is, this, ↓nLetR, ↓reduceIte, ↓e_m1, ↓e_m2, e_0, e_1, e_2, e_3, e_4, e_5, e_6, e_7, e_8, e_9, e_10, e_11, e_12, e_13, e_14, e_15, e_16, e_17, e_18, e_19, e_20, e_21, e_22, e_23, e_24, e_25, e_26, e_27, e_28, e_29, e_30, e_31, e_32, e_33, e_48, e_57, e_59, e_60, e_63, e_64, e_96, e_97, e_99, e_120, e_122, e_192, e_200, e_255, e_256, e_300, e_500, e_600, e_2000, e_5000, e_5240, e_6146, e_20000, e_65536, nIo, nI_clamp, nIxt, nI_1, nI_add, nI_mul, nI_eqF, nI_ltT, nI_ltF, nI_leT, nI_leF, nN_lt0, nN_le, nN_lt, nN_eq, nN_eq', eq_self, nBdS]
  refine ⟨wr s3 12 5 (nI (flR (okS (2 ^ P - 1) am) 0 16).length), ?_, ?_, ?_⟩
  · have g3 : (wr s3 12 5 (nI (flR (okS (2 ^ P - 1) am) 0 16).length)).1 12 3 = nI (flR (okS (x % 2 ^ F) wm) 0 256).length := by
      simp (disch := decide) only [wrs, wrk, wrc, wr2, wl1, wls, wlk, wlc]
      rw [c3 12 (by decide)]
      simp (disch := decide) only [wrs, wrk, wrc, wr2, wl1, wls, wlk, wlc]
      rw [b3 12 (by decide)]
      simp (disch := decide) only [wrs, wrk, wrc, wr2, wl1, wls, wlk, wlc]
    have g4 : (wr s3 12 5 (nI (flR (okS (2 ^ P - 1) am) 0 16).length)).1 12 4 = nI (flR (okS (2 ^ S - 1) lm) 0 256).length := by
      simp (disch := decide) only [wrs, wrk, wrc, wr2, wl1, wls, wlk, wlc]
      rw [c3 12 (by decide)]
      simp (disch := decide) only [wrs, wrk, wrc, wr2, wl1, wls, wlk, wlc]
    have g5 : (wr s3 12 5 (nI (flR (okS (2 ^ P - 1) am) 0 16).length)).1 12 5 = nI (flR (okS (2 ^ P - 1) am) 0 16).length := by
      simp (disch := decide) only [wrs, wrk, wrc, wr2, wl1, wls, wlk, wlc]
    simp only [f_X0_prepare, l_X0_prepare_0, b_X0_prepare_0, f1, nBdS, ↓nLetR, hm, a1, f2, b1, f3, c1, g3, g4, g5, nI_mul]
  · unfold wC
    refine ⟨⟨?_, ?_, ?_⟩, ?_, ?_, ?_⟩
    · simp (disch := decide) only [wrs, wrk, wrc, wr2, wl1, wls, wlk, wlc]
      rw [c3 12 (by decide)]
      simp (disch := decide) only [wrs, wrk, wrc, wr2, wl1, wls, wlk, wlc]
      rw [b3 12 (by decide)]
      simp (disch := decide) only [wrs, wrk, wrc, wr2, wl1, wls, wlk, wlc]
    · simp (disch := decide) only [wrs, wrk, wrc, wr2, wl1, wls, wlk, wlc]
      rw [c3 12 (by decide)]
      simp (disch := decide) only [wrs, wrk, wrc, wr2, wl1, wls, wlk, wlc]
    · simp (disch := decide) only [wrs, wrk, wrc, wr2, wl1, wls, wlk, wlc]
    · simp (disch := decide) only [wrs, wrk, wrc, wr2, wl1, wls, wlk, wlc]
      rw [c3 13 (by decide)]
      simp (disch := decide) only [wrs, wrk, wrc, wr2, wl1, wls, wlk, wlc]
      rw [b3 13 (by decide)]
      simp (disch := decide) only [wrs, wrk, wrc, wr2, wl1, wls, wlk, wlc]
      exact a2
    · simp (disch := decide) only [wrs, wrk, wrc, wr2, wl1, wls, wlk, wlc]
      rw [c3 14 (by decide)]
      simp (disch := decide) only [wrs, wrk, wrc, wr2, wl1, wls, wlk, wlc]
      exact b2
    · simp (disch := decide) only [wrs, wrk, wrc, wr2, wl1, wls, wlk, wlc]
      exact c2
  · intro d e1 e2 e3 e4
    simp (disch := omega) only [wrs, wrk, wrc, wr2, wl1, wls, wlk, wlc]
    rw [c3 d e4]
    simp (disch := omega) only [wrs, wrk, wrc, wr2, wl1, wls, wlk, wlc]
    rw [b3 d e3]
    simp (disch := omega) only [wrs, wrk, wrc, wr2, wl1, wls, wlk, wlc]
    rw [a3 d e2]
theorem left_is {x a b c : Nat} (hx : x < 2 ^ 20) (ha : a < 2 ^ 20) (hb : b < 2 ^ 20) (hc : c < 2 ^ 20) : (nI x = nI c - nI a - nI b) = (x + a + b = c) := by
  apply propext
  constructor
  · intro h
    have h1 : nI x + nI b + nI a = nI c := by rw [h, Int32.sub_add_cancel, Int32.sub_add_cancel]
    rw [nI_add, nI_add] at h1
    have := (nI_eq (by omega) (by omega)).mp h1
    omega
  · intro h
    have h1 : nI c = nI x + nI b + nI a := by rw [nI_add, nI_add]; congr 1; omega
    rw [h1, Int32.add_sub_cancel, Int32.add_sub_cancel]
theorem wf_go {N q qn c p s : Nat} {fs ss ps : List Nat} (hq : 15 < q) (hqn : qn < 2 ^ 20) (hb : wB fs ss ps) (hp : p < 16) (hs : s < 256) (hc : c < 30) : ∀ d i m σ (A : List Nat), i + d = fs.length → d < m → wC fs ss ps σ → lsR (σ.1 q) A → A.length + (wF c p s (fs.drop i)).length ≤ qn →
    ∃ σ', nLp (fun _ _ _ _ _ => none) (fun again => b_X0_writeFacts_6 N q qn (l_X0_writeFacts_68 N q qn again)) m σ (nI (65536 * p + 256 * s)) (nI c - nI (pcf 8 p) - nI (pcf 8 s)) (nI A.length) (nI i) = some (nI (A ++ wF c p s (fs.drop i)).length, σ') ∧ lsR (σ'.1 q) (A ++ wF c p s (fs.drop i)) ∧ ∀ d, d ≠ q → σ'.1 d = σ.1 d := by
  obtain ⟨⟨l1, l2, l3⟩, m1, m2, m3⟩ := id hb
  have hpp := pcf_le 8 p
  have hps := pcf_le 8 s
  intro d
  induction d with
  | zero =>
    intro i m σ A hi hm hw hl hA
    have hz : fs.drop i = [] := List.drop_eq_nil_of_le (by omega)
    have hz2 : wF c p s [] = [] := rfl
    rw [hz, hz2, List.append_nil]
    refine ⟨σ, ?_, hl, fun d h => rfl⟩
    rw [nLpP _ _ hm]
    simp (disch := first | omega | exact nM1_n | exact nM2_n | assumption) only [b_X0_writeFacts_6, hw.1.1, ↓nLetR, ↓reduceIte, ↓e_m1, ↓e_m2, e_0, e_1, e_2, e_3, e_4, e_5, e_6, e_7, e_8, e_9, e_10, e_11, e_12, e_13, e_14, e_15, e_16, e_17, e_18, e_19, e_20, e_21, e_22, e_23, e_24, e_25, e_26, e_27, e_28, e_29, e_30, e_31, e_32, e_33, e_48, e_57, e_59, e_60, e_63, e_64, e_96, e_97, e_99, e_120, e_122, e_192, e_200, e_255, e_256, e_300, e_500, e_600, e_2000, e_5000, e_5240, e_6146, e_20000, e_65536, nIo, nI_clamp, nIxt, nI_1, nI_add, nI_mul, nI_eqF, nI_ltT, nI_ltF, nI_leT, nI_leF, nN_lt0, nN_le, nN_lt, nN_eq, nN_eq', eq_self, nBdS]
  | succ d ih =>
    intro i m σ A hi hm hw hl hA
    have hil : i < fs.length := by omega
    have hd := drop_c fs hil
    have hv := hw.2.1.at hil
    have hf := m1 fs[i] (List.getElem_mem hil)
    have hpf := pcf_le 8 fs[i]
    have hbc := bitC8 (N := N) (x := fs[i]) hf σ
    have hle := left_is (x := pcf 8 fs[i]) (a := pcf 8 p) (b := pcf 8 s) (c := c) (by omega) (by omega) (by omega) (by omega)
    rw [hd] at hA ⊢
    rw [nLpP _ _ (by omega)]
    by_cases h : pcf 8 fs[i] + pcf 8 p + pcf 8 s = c
    · have hx : wF c p s (fs[i] :: fs.drop (i + 1)) = gR p s fs[i] :: wF c p s (fs.drop (i + 1)) := by
        unfold wF
        rw [List.filter_cons_of_pos (by simpa using h), List.map_cons]
      rw [hx] at hA ⊢
      rw [List.length_cons] at hA
      have hl1 : (A ++ [gR p s fs[i]]).length = A.length + 1 := by rw [List.length_append]; rfl
      obtain ⟨σ', e1, e2, e3⟩ := ih (i + 1) (m - 1) (wr σ q A.length (nI (gR p s fs[i]))) (A ++ [gR p s fs[i]]) (by omega) (by omega) (hw.fr hq (fun d h => wrc _ _ _ h)) (hl.wr _) (by omega)
      rw [List.append_assoc, List.singleton_append] at e1 e2
      refine ⟨σ', ?_, e2, fun d h => ?_⟩
      · rw [hl1] at e1
        rw [eq_true h] at hle
        simp (disch := first | omega | exact nM1_n | exact nM2_n | assumption) only [b_X0_writeFacts_6, l_X0_writeFacts_68, b_X0_writeFacts_68, hw.1.1, hv, hbc, hle, ↓nLetR, ↓reduceIte, ↓e_m1, ↓e_m2, e_0, e_1, e_2, e_3, e_4, e_5, e_6, e_7, e_8, e_9, e_10, e_11, e_12, e_13, e_14, e_15, e_16, e_17, e_18, e_19, e_20, e_21, e_22, e_23, e_24, e_25, e_26, e_27, e_28, e_29, e_30, e_31, e_32, e_33, e_48, e_57, e_59, e_60, e_63, e_64, e_96, e_97, e_99, e_120, e_122, e_192, e_200, e_255, e_256, e_300, e_500, e_600, e_2000, e_5000, e_5240, e_6146, e_20000, e_65536, nIo, nI_clamp, nIxt, nI_1, nI_add, nI_mul, nI_eqF, nI_ltT, nI_ltF, nI_leT, nI_leF, nN_lt0, nN_le, nN_lt, nN_eq, nN_eq', eq_self, nBdS]
        exact e1
      · rw [e3 d h, wrc _ _ _ h]
    · have hx : wF c p s (fs[i] :: fs.drop (i + 1)) = wF c p s (fs.drop (i + 1)) := by
        unfold wF
        rw [List.filter_cons_of_neg (by simpa using h)]
      rw [hx] at hA ⊢
      obtain ⟨σ', e1, e2, e3⟩ := ih (i + 1) (m - 1) σ A (by omega) (by omega) hw hl hA
      refine ⟨σ', ?_, e2, e3⟩
      rw [eq_false h] at hle
      simp (disch := first | omega | exact nM1_n | exact nM2_n | assumption) only [b_X0_writeFacts_6, l_X0_writeFacts_68, b_X0_writeFacts_68, hw.1.1, hv, hbc, hle, ↓nLetR, ↓reduceIte, ↓e_m1, ↓e_m2, e_0, e_1, e_2, e_3, e_4, e_5, e_6, e_7, e_8, e_9, e_10, e_11, e_12, e_13, e_14, e_15, e_16, e_17, e_18, e_19, e_20, e_21, e_22, e_23, e_24, e_25, e_26, e_27, e_28, e_29, e_30, e_31, e_32, e_33, e_48, e_57, e_59, e_60, e_63, e_64, e_96, e_97, e_99, e_120, e_122, e_192, e_200, e_255, e_256, e_300, e_500, e_600, e_2000, e_5000, e_5240, e_6146, e_20000, e_65536, nIo, nI_clamp, nIxt, nI_1, nI_add, nI_mul, nI_eqF, nI_ltT, nI_ltF, nI_leT, nI_leF, nN_lt0, nN_le, nN_lt, nN_eq, nN_eq', eq_self, nBdS]
      exact e1
theorem ws_go {N q qn c pi : Nat} {fs ss ps : List Nat} (hN : 300 ≤ N) (hq : 15 < q) (hqn : qn < 2 ^ 20) (hb : wB fs ss ps) (hpi : pi < ps.length) (hc : c < 30) (k13 : nS → Int32 → Int32 → Int32 → Option (Int32 × nS)) : ∀ d i m σ (A : List Nat), i + d = ss.length → d < m → wC fs ss ps σ → lsR (σ.1 q) A → A.length + ((ss.drop i).flatMap (fun s => wF c ps[pi] s fs)).length ≤ qn →
    ∃ σ', nLp (fun _ _ _ _ _ => none) (fun again => b_X0_writeTo_35 N q qn again (l_X0_writeTo_120 N q qn k13)) m σ (nI A.length) (nI c) (nI pi) (nI i) = k13 σ' (nI (A ++ (ss.drop i).flatMap (fun s => wF c ps[pi] s fs)).length) (nI c) (nI (pi + 1)) ∧ lsR (σ'.1 q) (A ++ (ss.drop i).flatMap (fun s => wF c ps[pi] s fs)) ∧ ∀ d, d ≠ q → σ'.1 d = σ.1 d := by
  obtain ⟨⟨l1, l2, l3⟩, m1, m2, m3⟩ := id hb
  intro d
  induction d with
  | zero =>
    intro i m σ A hi hm hw hl hA
    have hz : ss.drop i = [] := List.drop_eq_nil_of_le (by omega)
    rw [hz, List.flatMap_nil, List.append_nil]
    refine ⟨σ, ?_, hl, fun d h => rfl⟩
    rw [nLpP _ _ hm]
    simp (disch := first | omega | exact nM1_n | exact nM2_n | assumption) only [b_X0_writeTo_35, l_X0_writeTo_120, b_X0_writeTo_120, hw.1.2.1, ↓nLetR, ↓reduceIte, ↓e_m1, ↓e_m2, e_0, e_1, e_2, e_3, e_4, e_5, e_6, e_7, e_8, e_9, e_10, e_11, e_12, e_13, e_14, e_15, e_16, e_17, e_18, e_19, e_20, e_21, e_22, e_23, e_24, e_25, e_26, e_27, e_28, e_29, e_30, e_31, e_32, e_33, e_48, e_57, e_59, e_60, e_63, e_64, e_96, e_97, e_99, e_120, e_122, e_192, e_200, e_255, e_256, e_300, e_500, e_600, e_2000, e_5000, e_5240, e_6146, e_20000, e_65536, nIo, nI_clamp, nIxt, nI_1, nI_add, nI_mul, nI_eqF, nI_ltT, nI_ltF, nI_leT, nI_leF, nN_lt0, nN_le, nN_lt, nN_eq, nN_eq', eq_self, nBdS]
  | succ d ih =>
    intro i m σ A hi hm hw hl hA
    have hil : i < ss.length := by omega
    have hd := drop_c ss hil
    have hv := hw.2.2.1.at hil
    have hvp := hw.2.2.2.at hpi
    have hsx := m2 ss[i] (List.getElem_mem hil)
    have hpx := m3 ps[pi] (List.getElem_mem hpi)
    have hbs := bitC8 (N := N) (x := ss[i]) hsx σ
    have hbp := bitC8 (N := N) (x := ps[pi]) (by omega) σ
    rw [hd] at hA ⊢
    rw [List.flatMap_cons] at hA ⊢
    rw [List.length_append] at hA
    obtain ⟨σ1, a1, a2, a3⟩ := wf_go (N := N) (q := q) (qn := qn) (c := c) (p := ps[pi]) (s := ss[i]) hq hqn hb hpx hsx hc fs.length 0 N σ A (by omega) (by omega) hw hl (by rw [List.drop_zero]; omega)
    rw [List.drop_zero] at a1 a2
    have hwf : f_X0_writeFacts N q qn (nI A.length) (nI (65536 * ps[pi] + 256 * ss[i])) (nI c - nI (pcf 8 ps[pi]) - nI (pcf 8 ss[i])) σ = some (nI (A ++ wF c ps[pi] ss[i] fs).length, σ1) := a1
    obtain ⟨σ', e1, e2, e3⟩ := ih (i + 1) (m - 1) σ1 (A ++ wF c ps[pi] ss[i] fs) (by omega) (by omega) (hw.fr hq a3) a2 (by rw [List.length_append]; omega)
    rw [List.append_assoc] at e1 e2
    refine ⟨σ', ?_, e2, fun d h => ?_⟩
    · rw [nLpP _ _ (by omega)]
      simp (disch := first | omega | exact nM1_n | exact nM2_n | assumption) only [b_X0_writeTo_35, hw.1.2.1, hv, hvp, hbs, hbp, hwf, ↓nLetR, ↓reduceIte, ↓e_m1, ↓e_m2, e_0, e_1, e_2, e_3, e_4, e_5, e_6, e_7, e_8, e_9, e_10, e_11, e_12, e_13, e_14, e_15, e_16, e_17, e_18, e_19, e_20, e_21, e_22, e_23, e_24, e_25, e_26, e_27, e_28, e_29, e_30, e_31, e_32, e_33, e_48, e_57, e_59, e_60, e_63, e_64, e_96, e_97, e_99, e_120, e_122, e_192, e_200, e_255, e_256, e_300, e_500, e_600, e_2000, e_5000, e_5240, e_6146, e_20000, e_65536, nIo, nI_clamp, nIxt, nI_1, nI_add, nI_mul, nI_eqF, nI_ltT, nI_ltF, nI_leT, nI_leF, nN_lt0, nN_le, nN_lt, nN_eq, nN_eq', eq_self, nBdS]
      exact e1
    · rw [e3 d h, a3 d h]
theorem wp_go {N q qn c : Nat} {fs ss ps : List Nat} (hN : 300 ≤ N) (hq : 15 < q) (hqn : qn < 2 ^ 20) (hb : wB fs ss ps) (hc : c < 30) (k4 : nS → Int32 → Int32 → Option (Int32 × nS)) : ∀ d i m σ (A : List Nat), i + d = ps.length → d < m → wC fs ss ps σ → lsR (σ.1 q) A → A.length + ((ps.drop i).flatMap (fun p => ss.flatMap (fun s => wF c p s fs))).length ≤ qn →
    ∃ σ', nLp (fun _ _ _ _ => none) (fun again => b_X0_writeTo_13 N q qn (l_X0_writeTo_35 N q qn again) (l_X0_writeTo_126 N q qn k4)) m σ (nI A.length) (nI c) (nI i) = k4 σ' (nI (A ++ (ps.drop i).flatMap (fun p => ss.flatMap (fun s => wF c p s fs))).length) (nI (c + 1)) ∧ lsR (σ'.1 q) (A ++ (ps.drop i).flatMap (fun p => ss.flatMap (fun s => wF c p s fs))) ∧ ∀ d, d ≠ q → σ'.1 d = σ.1 d := by
  obtain ⟨⟨l1, l2, l3⟩, m1, m2, m3⟩ := id hb
  intro d
  induction d with
  | zero =>
    intro i m σ A hi hm hw hl hA
    have hz : ps.drop i = [] := List.drop_eq_nil_of_le (by omega)
    rw [hz, List.flatMap_nil, List.append_nil]
    refine ⟨σ, ?_, hl, fun d h => rfl⟩
    rw [nLpP _ _ hm]
    simp (disch := first | omega | exact nM1_n | exact nM2_n | assumption) only [b_X0_writeTo_13, l_X0_writeTo_126, b_X0_writeTo_126, hw.1.2.2, ↓nLetR, ↓reduceIte, ↓e_m1, ↓e_m2, e_0, e_1, e_2, e_3, e_4, e_5, e_6, e_7, e_8, e_9, e_10, e_11, e_12, e_13, e_14, e_15, e_16, e_17, e_18, e_19, e_20, e_21, e_22, e_23, e_24, e_25, e_26, e_27, e_28, e_29, e_30, e_31, e_32, e_33, e_48, e_57, e_59, e_60, e_63, e_64, e_96, e_97, e_99, e_120, e_122, e_192, e_200, e_255, e_256, e_300, e_500, e_600, e_2000, e_5000, e_5240, e_6146, e_20000, e_65536, nIo, nI_clamp, nIxt, nI_1, nI_add, nI_mul, nI_eqF, nI_ltT, nI_ltF, nI_leT, nI_leF, nN_lt0, nN_le, nN_lt, nN_eq, nN_eq', eq_self, nBdS]
  | succ d ih =>
    intro i m σ A hi hm hw hl hA
    have hil : i < ps.length := by omega
    have hd := drop_c ps hil
    rw [hd] at hA ⊢
    rw [List.flatMap_cons] at hA ⊢
    rw [List.length_append] at hA
    obtain ⟨σ1, a1, a2, a3⟩ := ws_go (N := N) (q := q) (qn := qn) (c := c) (pi := i) hN hq hqn hb hil hc (nLp (fun _ _ _ _ => none) (fun again => b_X0_writeTo_13 N q qn (l_X0_writeTo_35 N q qn again) (l_X0_writeTo_126 N q qn k4)) (m - 1)) ss.length 0 N σ A (by omega) (by omega) hw hl (by rw [List.drop_zero]; omega)
    rw [List.drop_zero] at a1 a2
    obtain ⟨σ', e1, e2, e3⟩ := ih (i + 1) (m - 1) σ1 _ (by omega) (by omega) (hw.fr hq a3) a2 (by rw [List.length_append]; omega)
    rw [List.append_assoc] at e1 e2
    refine ⟨σ', ?_, e2, fun d h => ?_⟩
    · rw [nLpP _ _ (by omega), ← e1]
      refine Eq.trans ?_ a1
      simp (disch := first | omega | exact nM1_n | exact nM2_n | assumption) only [b_X0_writeTo_13, hw.1.2.2, ↓nLetR, ↓reduceIte, ↓e_m1, ↓e_m2, e_0, e_1, e_2, e_3, e_4, e_5, e_6, e_7, e_8, e_9, e_10, e_11, e_12, e_13, e_14, e_15, e_16, e_17, e_18, e_19, e_20, e_21, e_22, e_23, e_24, e_25, e_26, e_27, e_28, e_29, e_30, e_31, e_32, e_33, e_48, e_57, e_59, e_60, e_63, e_64, e_96, e_97, e_99, e_120, e_122, e_192, e_200, e_255, e_256, e_300, e_500, e_600, e_2000, e_5000, e_5240, e_6146, e_20000, e_65536, nIo, nI_clamp, nIxt, nI_1, nI_add, nI_mul, nI_eqF, nI_ltT, nI_ltF, nI_leT, nI_leF, nN_lt0, nN_le, nN_lt, nN_eq, nN_eq', eq_self, nBdS]
      rfl
    · rw [e3 d h, a3 d h]
theorem wc_go {N q qn : Nat} {fs ss ps : List Nat} (hN : 300 ≤ N) (hq : 15 < q) (hqn : qn < 2 ^ 20) (hb : wB fs ss ps) : ∀ d c m σ (A : List Nat), c + d = 21 → d < m → wC fs ss ps σ → lsR (σ.1 q) A → A.length + (wFrom (lP fs ss ps) c d).length ≤ qn →
    ∃ σ', nLp (fun _ _ _ => none) (fun again => b_X0_writeTo_4 N q qn (l_X0_writeTo_13 N q qn again)) m σ (nI A.length) (nI c) = some (nI 0, σ') ∧ lsR (σ'.1 q) (A ++ wFrom (lP fs ss ps) c d) ∧ ∀ d, d ≠ q → σ'.1 d = σ.1 d := by
  obtain ⟨⟨l1, l2, l3⟩, m1, m2, m3⟩ := id hb
  intro d
  induction d with
  | zero =>
    intro c m σ A hi hm hw hl hA
    have hz : wFrom (lP fs ss ps) c 0 = [] := rfl
    rw [hz, List.append_nil]
    refine ⟨σ, ?_, hl, fun d h => rfl⟩
    rw [nLpP _ _ hm]
    simp (disch := first | omega | exact nM1_n | exact nM2_n | assumption) only [b_X0_writeTo_4, ↓nLetR, ↓reduceIte, ↓e_m1, ↓e_m2, e_0, e_1, e_2, e_3, e_4, e_5, e_6, e_7, e_8, e_9, e_10, e_11, e_12, e_13, e_14, e_15, e_16, e_17, e_18, e_19, e_20, e_21, e_22, e_23, e_24, e_25, e_26, e_27, e_28, e_29, e_30, e_31, e_32, e_33, e_48, e_57, e_59, e_60, e_63, e_64, e_96, e_97, e_99, e_120, e_122, e_192, e_200, e_255, e_256, e_300, e_500, e_600, e_2000, e_5000, e_5240, e_6146, e_20000, e_65536, nIo, nI_clamp, nIxt, nI_1, nI_add, nI_mul, nI_eqF, nI_ltT, nI_ltF, nI_leT, nI_leF, nN_lt0, nN_le, nN_lt, nN_eq, nN_eq', eq_self, nBdS]
  | succ d ih =>
    intro c m σ A hi hm hw hl hA
    have hx : wFrom (lP fs ss ps) c (d + 1) = ps.flatMap (fun p => ss.flatMap (fun s => wF c p s fs)) ++ wFrom (lP fs ss ps) (c + 1) d := by
      rw [← cN_P m1 m2 (fun p h => by have := m3 p h; omega)]
      rfl
    rw [hx] at hA ⊢
    rw [List.length_append] at hA
    obtain ⟨σ1, a1, a2, a3⟩ := wp_go (N := N) (q := q) (qn := qn) (c := c) hN hq hqn hb (by omega) (nLp (fun _ _ _ => none) (fun again => b_X0_writeTo_4 N q qn (l_X0_writeTo_13 N q qn again)) (m - 1)) ps.length 0 N σ A (by omega) (by omega) hw hl (by rw [List.drop_zero]; omega)
    rw [List.drop_zero] at a1 a2
    obtain ⟨σ', e1, e2, e3⟩ := ih (c + 1) (m - 1) σ1 _ (by omega) (by omega) (hw.fr hq a3) a2 (by rw [List.length_append]; omega)
    rw [List.append_assoc] at e2
    refine ⟨σ', ?_, e2, fun d h => ?_⟩
    · rw [nLpP _ _ (by omega), ← e1]
      refine Eq.trans ?_ a1
      simp (disch := first | omega | exact nM1_n | exact nM2_n | assumption) only [b_X0_writeTo_4, ↓nLetR, ↓reduceIte, ↓e_m1, ↓e_m2, e_0, e_1, e_2, e_3, e_4, e_5, e_6, e_7, e_8, e_9, e_10, e_11, e_12, e_13, e_14, e_15, e_16, e_17, e_18, e_19, e_20, e_21, e_22, e_23, e_24, e_25, e_26, e_27, e_28, e_29, e_30, e_31, e_32, e_33, e_48, e_57, e_59, e_60, e_63, e_64, e_96, e_97, e_99, e_120, e_122, e_192, e_200, e_255, e_256, e_300, e_500, e_600, e_2000, e_5000, e_5240, e_6146, e_20000, e_65536, nIo, nI_clamp, nIxt, nI_1, nI_add, nI_mul, nI_eqF, nI_ltT, nI_ltF, nI_leT, nI_leF, nN_lt0, nN_le, nN_lt, nN_eq, nN_eq', eq_self, nBdS]
      rfl
    · rw [e3 d h, a3 d h]
theorem wt_is {N q qn : Nat} {fs ss ps : List Nat} {σ : nS} (hN : 300 ≤ N) (hq : 15 < q) (hqn : qn < 2 ^ 20) (hb : wB fs ss ps) (hw : wC fs ss ps σ) (hl : (lP fs ss ps).length ≤ qn) : ∃ σ', f_X0_writeTo N q qn σ = some (nI 0, σ') ∧ lsR (σ'.1 q) (wFrom (lP fs ss ps) 0 21) ∧ ∀ d, d ≠ q → σ'.1 d = σ.1 d := by
  have hx := wFrom_le (lP fs ss ps) 0 21
  exact wc_go hN hq hqn hb 21 0 N σ [] (by omega) (by omega) hw (lsR.nil _) (by rw [List.length_nil]; omega)
