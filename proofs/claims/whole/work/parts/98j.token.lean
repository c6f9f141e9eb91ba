/-! BOOK: the next token -/
theorem sk_s {P : Nat → Bool} {d a : Nat} (h : P a = true) : sk P (d + 1) a = sk P d (a + 1) := by
  show (if P a = true then sk P d (a + 1) else a) = _
  rw [if_pos h]
theorem sk_z {P : Nat → Bool} {d a : Nat} (h : P a = false) : sk P (d + 1) a = a := by
  show (if P a = true then sk P d (a + 1) else a) = _
  rw [h]
  rfl
theorem bc_go {N n : Nat} {c : Nat → Nat} {τ : nS} : ∀ d m a σ, a + d = n → d < m → rdR n c σ τ → σ.1 6 3 = nI a → ∃ σ', nLp (fun _ => none) (fun again => b_X4_advance_0 N again (l_X4_advance_38 N)) m σ = l_X4_advance_38 N σ' ∧ σ'.1 6 3 = nI (sk (isB c) d a) ∧ aC σ σ' := by
  intro d
  induction d with
  | zero =>
    intro m a σ ha hm hr h3
    have h2 := hr.2.1
    have hn := hr.1
    refine ⟨σ, ?_, h3, aC.rf⟩
    rw [nLpP _ _ hm]
    simp (disch := first | omega | exact nM1_n | exact nM2_n | assumption) only [b_X4_advance_0, h2, h3, ↓nLetR, ↓reduceIte, ↓e_m1, ↓e_m2, e_0, e_1, e_2, e_3, e_4, e_5, e_6, e_7, e_8, e_9, e_10, e_11, e_12, e_13, e_14, e_15, e_16, e_17, e_18, e_19, e_20, e_21, e_22, e_23, e_24, e_25, e_26, e_27, e_28, e_29, e_30, e_31, e_32, e_33, e_48, e_57, e_59, e_60, e_63, e_64, e_96, e_97, e_99, e_120, e_122, e_192, e_200, e_255, e_256, e_300, e_500, e_600, e_2000, e_5000, e_5240, e_6146, e_20000, e_65536, nIo, nI_clamp, nIxt, nI_1, nI_add, nI_mul, nI_eqF, nI_ltT, nI_ltF, nI_leT, nI_leF, nN_lt0, nN_le, nN_lt, nN_eq, nN_eq', eq_self, nBdS]
  | succ d ih =>
    intro m a σ ha hm hr h3
    have h2 := hr.2.1
    have hn := hr.1
    have hb := byC (N := N) hr (show a < n by omega)
    have hx := (hr.2.2.2 a (by omega)).2.2
    have hbl := blank_c (N := N) (σ := σ) hx
    rw [nLpP _ _ (by omega)]
    by_cases h : c a = 32 ∨ c a = 10
    · rw [if_pos h] at hbl
      obtain ⟨σ', e1, e2, e3⟩ := ih (m - 1) (a + 1) (wr σ 6 3 (nI (a + 1))) (by omega) (by omega) (hr.fr (aC.w 3 _ (by decide)) aM.rf) (wrs _ _ _ _)
      refine ⟨σ', ?_, by rw [sk_s (show isB c a = true from decide_eq_true h)]; exact e2, (aC.w 3 _ (by decide)).trans e3⟩
      rw [← e1]
      simp (disch := first | omega | exact nM1_n | exact nM2_n | assumption) only [b_X4_advance_0, h2, h3, hb, hbl, ↓nLetR, ↓reduceIte, ↓e_m1, ↓e_m2, e_0, e_1, e_2, e_3, e_4, e_5, e_6, e_7, e_8, e_9, e_10, e_11, e_12, e_13, e_14, e_15, e_16, e_17, e_18, e_19, e_20, e_21, e_22, e_23, e_24, e_25, e_26, e_27, e_28, e_29, e_30, e_31, e_32, e_33, e_48, e_57, e_59, e_60, e_63, e_64, e_96, e_97, e_99, e_120, e_122, e_192, e_200, e_255, e_256, e_300, e_500, e_600, e_2000, e_5000, e_5240, e_6146, e_20000, e_65536, nIo, nI_clamp, nIxt, nI_1, nI_add, nI_mul, nI_eqF, nI_ltT, nI_ltF, nI_leT, nI_leF, nN_lt0, nN_le, nN_lt, nN_eq, nN_eq', eq_self, nBdS]
    · rw [if_neg h] at hbl
      refine ⟨σ, ?_, by rw [sk_z (show isB c a = false from decide_eq_false h)]; exact h3, aC.rf⟩
      simp (disch := first | omega | exact nM1_n | exact nM2_n | assumption) only [b_X4_advance_0, h2, h3, hb, hbl, ↓nLetR, ↓reduceIte, ↓e_m1, ↓e_m2, e_0, e_1, e_2, e_3, e_4, e_5, e_6, e_7, e_8, e_9, e_10, e_11, e_12, e_13, e_14, e_15, e_16, e_17, e_18, e_19, e_20, e_21, e_22, e_23, e_24, e_25, e_26, e_27, e_28, e_29, e_30, e_31, e_32, e_33, e_48, e_57, e_59, e_60, e_63, e_64, e_96, e_97, e_99, e_120, e_122, e_192, e_200, e_255, e_256, e_300, e_500, e_600, e_2000, e_5000, e_5240, e_6146, e_20000, e_65536, nIo, nI_clamp, nIxt, nI_1, nI_add, nI_mul, nI_eqF, nI_ltT, nI_ltF, nI_leT, nI_leF, nN_lt0, nN_le, nN_lt, nN_eq, nN_eq', eq_self, nBdS]
theorem lc_go {N n : Nat} {c : Nat → Nat} {τ : nS} : ∀ d m a σ, a + d = n → d < m → rdR n c σ τ → σ.1 6 3 = nI a → ∃ σ', nLp (fun _ => none) (fun again => b_X4_advance_46 N again (l_X4_advance_84 N)) m σ = l_X4_advance_84 N σ' ∧ σ'.1 6 3 = nI (sk (isL c) d a) ∧ aC σ σ' ∧ σ'.1 6 5 = σ.1 6 5 := by
  intro d
  induction d with
  | zero =>
    intro m a σ ha hm hr h3
    have h2 := hr.2.1
    have hn := hr.1
    refine ⟨σ, ?_, h3, aC.rf, rfl⟩
    rw [nLpP _ _ hm]
    simp (disch := first | omega | exact nM1_n | exact nM2_n | assumption) only [b_X4_advance_46, h2, h3, ↓nLetR, ↓reduceIte, ↓e_m1, ↓e_m2, e_0, e_1, e_2, e_3, e_4, e_5, e_6, e_7, e_8, e_9, e_10, e_11, e_12, e_13, e_14, e_15, e_16, e_17, e_18, e_19, e_20, e_21, e_22, e_23, e_24, e_25, e_26, e_27, e_28, e_29, e_30, e_31, e_32, e_33, e_48, e_57, e_59, e_60, e_63, e_64, e_96, e_97, e_99, e_120, e_122, e_192, e_200, e_255, e_256, e_300, e_500, e_600, e_2000, e_5000, e_5240, e_6146, e_20000, e_65536, nIo, nI_clamp, nIxt, nI_1, nI_add, nI_mul, nI_eqF, nI_ltT, nI_ltF, nI_leT, nI_leF, nN_lt0, nN_le, nN_lt, nN_eq, nN_eq', eq_self, nBdS]
  | succ d ih =>
    intro m a σ ha hm hr h3
    have h2 := hr.2.1
    have hn := hr.1
    have hb := byC (N := N) hr (show a < n by omega)
    have hx := (hr.2.2.2 a (by omega)).2.2
    have hbl := let_c (N := N) (σ := σ) hx
    rw [nLpP _ _ (by omega)]
    by_cases h : 97 ≤ c a ∧ c a ≤ 122
    · rw [if_pos h] at hbl
      obtain ⟨σ', e1, e2, e3, e4⟩ := ih (m - 1) (a + 1) (wr σ 6 3 (nI (a + 1))) (by omega) (by omega) (hr.fr (aC.w 3 _ (by decide)) aM.rf) (wrs _ _ _ _)
      refine ⟨σ', ?_, by rw [sk_s (show isL c a = true from decide_eq_true h)]; exact e2, (aC.w 3 _ (by decide)).trans e3, by rw [e4, wrk _ _ _ (by decide)]⟩
      rw [← e1]
      simp (disch := first | omega | exact nM1_n | exact nM2_n | assumption) only [b_X4_advance_46, h2, h3, hb, hbl, ↓nLetR, ↓reduceIte, ↓e_m1, ↓e_m2, e_0, e_1, e_2, e_3, e_4, e_5, e_6, e_7, e_8, e_9, e_10, e_11, e_12, e_13, e_14, e_15, e_16, e_17, e_18, e_19, e_20, e_21, e_22, e_23, e_24, e_25, e_26, e_27, e_28, e_29, e_30, e_31, e_32, e_33, e_48, e_57, e_59, e_60, e_63, e_64, e_96, e_97, e_99, e_120, e_122, e_192, e_200, e_255, e_256, e_300, e_500, e_600, e_2000, e_5000, e_5240, e_6146, e_20000, e_65536, nIo, nI_clamp, nIxt, nI_1, nI_add, nI_mul, nI_eqF, nI_ltT, nI_ltF, nI_leT, nI_leF, nN_lt0, nN_le, nN_lt, nN_eq, nN_eq', eq_self, nBdS]
    · rw [if_neg h] at hbl
      refine ⟨σ, ?_, by rw [sk_z (show isL c a = false from decide_eq_false h)]; exact h3, aC.rf, rfl⟩
      simp (disch := first | omega | exact nM1_n | exact nM2_n | assumption) only [b_X4_advance_46, h2, h3, hb, hbl, ↓nLetR, ↓reduceIte, ↓e_m1, ↓e_m2, e_0, e_1, e_2, e_3, e_4, e_5, e_6, e_7, e_8, e_9, e_10, e_11, e_12, e_13, e_14, e_15, e_16, e_17, e_18, e_19, e_20, e_21, e_22, e_23, e_24, e_25, e_26, e_27, e_28, e_29, e_30, e_31, e_32, e_33, e_48, e_57, e_59, e_60, e_63, e_64, e_96, e_97, e_99, e_120, e_122, e_192, e_200, e_255, e_256, e_300, e_500, e_600, e_2000, e_5000, e_5240, e_6146, e_20000, e_65536, nIo, nI_clamp, nIxt, nI_1, nI_add, nI_mul, nI_eqF, nI_ltT, nI_ltF, nI_leT, nI_leF, nN_lt0, nN_le, nN_lt, nN_eq, nN_eq', eq_self, nBdS]
def dvF (c : Nat → Nat) : Nat → Nat → Nat → Nat
  | 0, _, v => v
  | d + 1, a, v => if isG c a = true then dvF c d (a + 1) (v * 10 + c a - 48) else v
def mvF (c : Nat → Nat) : Nat → Nat → Nat → Nat → Nat
  | 0, _, _, v => v
  | d + 1, a, k, v => if isG c a = true then mvF c d (a + 1) (k + 1) (if k < 2 then 10 * v + c a - 48 else v) else v
def lvF (c : Nat → Nat) : Nat → Nat → Nat → Nat → Nat
  | 0, _, _, v => v
  | d + 1, a, k, v => if isL c a = true then lvF c d (a + 1) (k + 1) (if k < 8 then 32 * v + (c a - 96) else v) else v
theorem dm_eq {c : Nat → Nat} : ∀ d a k v, k + (sk (isG c) d a - a) ≤ 2 → dvF c d a v = mvF c d a k v := by
  intro d
  induction d with
  | zero => intro a k v _; rfl
  | succ d ih =>
    intro a k v h
    unfold dvF mvF
    by_cases hg : isG c a = true
    · rw [if_pos hg, if_pos hg]
      rw [sk_s hg] at h
      have hs := sk_ge (isG c) d (a + 1)
      rw [if_pos (show k < 2 by omega), Nat.mul_comm 10 v]
      exact ih (a + 1) (k + 1) _ (by omega)
    · rw [if_neg hg, if_neg hg]
theorem mv_lt {c : Nat → Nat} : ∀ d a k v, k + (sk (isG c) d a - a) ≤ 2 → v < 10 ^ k → mvF c d a k v < 100 := by
  intro d
  induction d with
  | zero =>
    intro a k v h hv
    have hk : k ≤ 2 := by
      have : sk (isG c) 0 a = a := rfl
      omega
    have : (10 : Nat) ^ k ≤ 10 ^ 2 := Nat.pow_le_pow_right (by decide) hk
    show v < 100
    omega
  | succ d ih =>
    intro a k v h hv
    unfold mvF
    by_cases hg : isG c a = true
    · rw [if_pos hg]
      rw [sk_s hg] at h
      have hs := sk_ge (isG c) d (a + 1)
      rw [if_pos (show k < 2 by omega)]
      have hc : 48 ≤ c a ∧ c a ≤ 57 := of_decide_eq_true hg
      have hp : 10 ^ (k + 1) = 10 * 10 ^ k := by rw [Nat.pow_succ]; omega
      exact ih (a + 1) (k + 1) _ (by omega) (by omega)
    · rw [if_neg hg]
      have hk : k ≤ 2 := by
        rw [sk_z (by cases hq : isG c a with | false => rfl | true => exact absurd hq hg)] at h
        omega
      have : (10 : Nat) ^ k ≤ 10 ^ 2 := Nat.pow_le_pow_right (by decide) hk
      omega
theorem lv_eq {c : Nat → Nat} (p : Nat) : ∀ d k, k + (sk (isL c) d (p + k) - (p + k)) ≤ 8 → lvF c d (p + k) k (wv (fun i => c (p + i)) k) = wv (fun i => c (p + i)) (sk (isL c) d (p + k) - p) := by
  intro d
  induction d with
  | zero =>
    intro k h
    show wv (fun i => c (p + i)) k = wv (fun i => c (p + i)) (p + k - p)
    rw [show p + k - p = k by omega]
  | succ d ih =>
    intro k h
    unfold lvF
    by_cases hg : isL c (p + k) = true
    · rw [if_pos hg, sk_s hg]
      rw [sk_s hg] at h
      have hs := sk_ge (isL c) d (p + k + 1)
      rw [if_pos (show k < 8 by omega)]
      exact ih (k + 1) (by rw [show p + (k + 1) = p + k + 1 by omega]; omega)
    · rw [if_neg hg, sk_z (by cases hq : isL c (p + k) with | false => rfl | true => exact absurd hq hg), show p + k - p = k by omega]
theorem dc_go {N n : Nat} {c : Nat → Nat} {τ : nS} : ∀ d m a v σ, a + d = n → d < m → rdR n c σ τ → σ.1 6 3 = nI a → σ.1 6 6 = nI v → ∃ σ', nLp (fun _ => none) (fun again => b_X4_advance_119 N again (l_X4_advance_180 N)) m σ = l_X4_advance_180 N σ' ∧ σ'.1 6 3 = nI (sk (isG c) d a) ∧ σ'.1 6 6 = nI (dvF c d a v) ∧ aC σ σ' ∧ σ'.1 6 5 = σ.1 6 5 := by
  intro d
  induction d with
  | zero =>
    intro m a v σ ha hm hr h3 h6
    have h2 := hr.2.1
    have hn := hr.1
    refine ⟨σ, ?_, h3, h6, aC.rf, rfl⟩
    rw [nLpP _ _ hm]
    simp (disch := first | omega | exact nM1_n | exact nM2_n | assumption) only [b_X4_advance_119, h2, h3, ↓nLetR, ↓reduceIte, ↓e_m1, ↓e_m2, e_0, e_1, e_2, e_3, e_4, e_5, e_6, e_7, e_8, e_9, e_10, e_11, e_12, e_13, e_14, e_15, e_16, e_17, e_18, e_19, e_20, e_21, e_22, e_23, e_24, e_25, e_26, e_27, e_28, e_29, e_30, e_31, e_32, e_33, e_48, e_57, e_59, e_60, e_63, e_64, e_96, e_97, e_99, e_120, e_122, e_192, e_200, e_255, e_256, e_300, e_500, e_600, e_2000, e_5000, e_5240, e_6146, e_20000, e_65536, nIo, nI_clamp, nIxt, nI_1, nI_add, nI_mul, nI_eqF, nI_ltT, nI_ltF, nI_leT, nI_leF, nN_lt0, nN_le, nN_lt, nN_eq, nN_eq', eq_self, nBdS]
  | succ d ih =>
    intro m a v σ ha hm hr h3 h6
    have h2 := hr.2.1
    have hn := hr.1
    have hb := byC (N := N) hr (show a < n by omega)
    have hx := (hr.2.2.2 a (by omega)).2.2
    have hbl := dig_c (N := N) (σ := σ) hx
    rw [nLpP _ _ (by omega)]
    by_cases h : 48 ≤ c a ∧ c a ≤ 57
    · rw [if_pos h] at hbl
      have hs : nI (v * 10 + c a) - nI 48 = nI (v * 10 + c a - 48) := nI_subn _ _ (by omega)
      obtain ⟨σ', e1, e2, e3, e4, e5⟩ := ih (m - 1) (a + 1) (v * 10 + c a - 48) (wr (wr σ 6 6 (nI (v * 10 + c a - 48))) 6 3 (nI (a + 1))) (by omega) (by omega) (hr.fr ((aC.w 6 _ (by decide)).trans (aC.w 3 _ (by decide))) aM.rf) (wrs _ _ _ _) (by rw [wrk _ _ _ (by decide), wrs])
      have hg : isG c a = true := decide_eq_true h
      refine ⟨σ', ?_, by rw [sk_s hg]; exact e2, ?_, ((aC.w 6 _ (by decide)).trans (aC.w 3 _ (by decide))).trans e4, by rw [e5, wrk _ _ _ (by decide), wrk _ _ _ (by decide)]⟩
      · rw [← e1]
        simp (disch := first | omega | exact nM1_n | exact nM2_n | assumption) only [b_X4_advance_119, h2, h3, h6, hb, hbl, hs, ↓nLetR, ↓reduceIte, ↓e_m1, ↓e_m2, e_0, e_1, e_2, e_3, e_4, e_5, e_6, e_7, e_8, e_9, e_10, e_11, e_12, e_13, e_14, e_15, e_16, e_17, e_18, e_19, e_20, e_21, e_22, e_23, e_24, e_25, e_26, e_27, e_28, e_29, e_30, e_31, e_32, e_33, e_48, e_57, e_59, e_60, e_63, e_64, e_96, e_97, e_99, e_120, e_122, e_192, e_200, e_255, e_256, e_300, e_500, e_600, e_2000, e_5000, e_5240, e_6146, e_20000, e_65536, nIo, nI_clamp, nIxt, nI_1, nI_add, nI_mul, nI_eqF, nI_ltT, nI_ltF, nI_leT, nI_leF, nN_lt0, nN_le, nN_lt, nN_eq, nN_eq', eq_self, nBdS, wrs, wrk, wrc, wr2, wl1, wls, wlk, wlc]
      · unfold dvF
        rw [if_pos hg]
        exact e3
    · rw [if_neg h] at hbl
      have hg : isG c a = false := decide_eq_false h
      refine ⟨σ, ?_, by rw [sk_z hg]; exact h3, ?_, aC.rf, rfl⟩
      · simp (disch := first | omega | exact nM1_n | exact nM2_n | assumption) only [b_X4_advance_119, h2, h3, hb, hbl, ↓nLetR, ↓reduceIte, ↓e_m1, ↓e_m2, e_0, e_1, e_2, e_3, e_4, e_5, e_6, e_7, e_8, e_9, e_10, e_11, e_12, e_13, e_14, e_15, e_16, e_17, e_18, e_19, e_20, e_21, e_22, e_23, e_24, e_25, e_26, e_27, e_28, e_29, e_30, e_31, e_32, e_33, e_48, e_57, e_59, e_60, e_63, e_64, e_96, e_97, e_99, e_120, e_122, e_192, e_200, e_255, e_256, e_300, e_500, e_600, e_2000, e_5000, e_5240, e_6146, e_20000, e_65536, nIo, nI_clamp, nIxt, nI_1, nI_add, nI_mul, nI_eqF, nI_ltT, nI_ltF, nI_leT, nI_leF, nN_lt0, nN_le, nN_lt, nN_eq, nN_eq', eq_self, nBdS]
      · unfold dvF
        rw [hg]
        exact h6
theorem bm_go {N n : Nat} {c : Nat → Nat} {σ : nS} : ∀ d m a τ, a + d = n → d < m → rdR n c σ τ → τ.1 0 21 = nI a → ∃ τ', nLp (fun _ => none) (fun again => b_X11_next_0 N (l_X11_next_26 N again) (l_X11_next_88 N) (l_X11_next_177 N)) m τ = b_X11_next_0 N (fun _ => none) (l_X11_next_88 N) (l_X11_next_177 N) τ' ∧ τ'.1 0 21 = nI (sk (isB c) d a) ∧ aM τ τ' := by
  have same : ∀ (k k' : nS → Option (Int32 × nS)) (τ : nS) (v : Int32) (a : Nat), τ.1 0 21 = nI a → f_X11_byteAt N (nI a) τ = some (v, τ) → ¬ v = nI 32 → ¬ v = nI 10 → b_X11_next_0 N k (l_X11_next_88 N) (l_X11_next_177 N) τ = b_X11_next_0 N k' (l_X11_next_88 N) (l_X11_next_177 N) τ := by
    intro k k' τ v a h1 h2 h3 h4
    unfold b_X11_next_0
    rw [h1, h2, nBdS, nBdS, if_neg (show ¬ v = 32 from h3), if_neg (show ¬ v = 32 from h3), h1, h2, nBdS, nBdS, if_neg (show ¬ v = 10 from h4), if_neg (show ¬ v = 10 from h4)]
  intro d
  induction d with
  | zero =>
    intro m a τ ha hm hr h3
    have han : a = n := by omega
    subst han
    refine ⟨τ, ?_, h3, aM.rf⟩
    rw [nLpP _ _ hm]
    exact same _ _ τ nM1 a h3 (byE hr) (by decide) (by decide)
  | succ d ih =>
    intro m a τ ha hm hr h3
    have hn := hr.1
    have hb := byM (N := N) hr (show a < n by omega)
    have hx := (hr.2.2.2 a (by omega)).2.2
    rw [nLpP _ _ (by omega)]
    by_cases h : c a = 32 ∨ c a = 10
    · obtain ⟨τ', e1, e2, e3⟩ := ih (m - 1) (a + 1) (wr τ 0 21 (nI (a + 1))) (by omega) (by omega) (hr.fr aC.rf (aM.w 21 _ (by decide))) (wrs _ _ _ _)
      refine ⟨τ', ?_, by rw [sk_s (show isB c a = true from decide_eq_true h)]; exact e2, (aM.w 21 _ (by decide)).trans e3⟩
      rw [← e1]
      rcases h with h | h
      · rw [h] at hb
        simp (disch := first | omega | exact nM1_n | exact nM2_n | assumption) only [b_X11_next_0, l_X11_next_26, b_X11_next_26, h3, hb, ↓nLetR, ↓reduceIte, ↓e_m1, ↓e_m2, e_0, e_1, e_2, e_3, e_4, e_5, e_6, e_7, e_8, e_9, e_10, e_11, e_12, e_13, e_14, e_15, e_16, e_17, e_18, e_19, e_20, e_21, e_22, e_23, e_24, e_25, e_26, e_27, e_28, e_29, e_30, e_31, e_32, e_33, e_48, e_57, e_59, e_60, e_63, e_64, e_96, e_97, e_99, e_120, e_122, e_192, e_200, e_255, e_256, e_300, e_500, e_600, e_2000, e_5000, e_5240, e_6146, e_20000, e_65536, nIo, nI_clamp, nIxt, nI_1, nI_add, nI_mul, nI_eqF, nI_ltT, nI_ltF, nI_leT, nI_leF, nN_lt0, nN_le, nN_lt, nN_eq, nN_eq', eq_self, nBdS]
      · rw [h] at hb
        simp (disch := first | omega | exact nM1_n | exact nM2_n | assumption) only [b_X11_next_0, l_X11_next_26, b_X11_next_26, h3, hb, ↓nLetR, ↓reduceIte, ↓e_m1, ↓e_m2, e_0, e_1, e_2, e_3, e_4, e_5, e_6, e_7, e_8, e_9, e_10, e_11, e_12, e_13, e_14, e_15, e_16, e_17, e_18, e_19, e_20, e_21, e_22, e_23, e_24, e_25, e_26, e_27, e_28, e_29, e_30, e_31, e_32, e_33, e_48, e_57, e_59, e_60, e_63, e_64, e_96, e_97, e_99, e_120, e_122, e_192, e_200, e_255, e_256, e_300, e_500, e_600, e_2000, e_5000, e_5240, e_6146, e_20000, e_65536, nIo, nI_clamp, nIxt, nI_1, nI_add, nI_mul, nI_eqF, nI_ltT, nI_ltF, nI_leT, nI_leF, nN_lt0, nN_le, nN_lt, nN_eq, nN_eq', eq_self, nBdS]
    · refine ⟨τ, ?_, by rw [sk_z (show isB c a = false from decide_eq_false h)]; exact h3, aM.rf⟩
      exact same _ _ τ (nI (c a)) a h3 hb (fun e => h (Or.inl ((nI_eq (by omega) (by decide)).mp e))) (fun e => h (Or.inr ((nI_eq (by omega) (by decide)).mp e)))
theorem lm_go {N n : Nat} {c : Nat → Nat} {σ : nS} : ∀ d m a k w τ, a + d = n → d < m → rdR n c σ τ → τ.1 0 21 = nI a → k + d ≤ 600 → τ.2 0 26 = Int64.ofNat w → ∃ τ', nLp (fun _ _ => none) (fun again => b_X11_next_88 N (l_X11_next_135 N again)) m τ (nI k) = some (nI 0, τ') ∧ τ'.1 0 21 = nI (sk (isL c) d a) ∧ τ'.1 0 22 = (if k + (sk (isL c) d a - a) < 9 then nI 2 else τ.1 0 22) ∧ τ'.1 0 23 = τ.1 0 23 ∧ τ'.2 0 26 = Int64.ofNat (lvF c d a k w) ∧ aM τ τ' := by
  intro d
  induction d with
  | zero =>
    intro m a k w τ ha hm hr h3 hk h26
    have han : a = n := by omega
    subst han
    have hb := byE (N := N) hr
    have e0 : sk (isL c) 0 a = a := rfl
    rw [e0, Nat.sub_self, Nat.add_zero, nLpP _ _ hm]
    by_cases h9 : k < 9
    · rw [if_pos h9]
      refine ⟨wr τ 0 22 (nI 2), ?_, by rw [wrk _ _ _ (by decide)]; exact h3, wrs _ _ _ _, by rw [wrk _ _ _ (by decide)], h26, aM.w 22 _ (by decide)⟩
      simp (disch := first | omega | exact nM1_n | exact nM2_n | assumption) only [b_X11_next_88, h3, hb, let_e, ↓nLetR, ↓reduceIte, ↓e_m1, ↓e_m2, e_0, e_1, e_2, e_3, e_4, e_5, e_6, e_7, e_8, e_9, e_10, e_11, e_12, e_13, e_14, e_15, e_16, e_17, e_18, e_19, e_20, e_21, e_22, e_23, e_24, e_25, e_26, e_27, e_28, e_29, e_30, e_31, e_32, e_33, e_48, e_57, e_59, e_60, e_63, e_64, e_96, e_97, e_99, e_120, e_122, e_192, e_200, e_255, e_256, e_300, e_500, e_600, e_2000, e_5000, e_5240, e_6146, e_20000, e_65536, nIo, nI_clamp, nIxt, nI_1, nI_add, nI_mul, nI_eqF, nI_ltT, nI_ltF, nI_leT, nI_leF, nN_lt0, nN_le, nN_lt, nN_eq, nN_eq', eq_self, nBdS]
    · rw [if_neg h9]
      refine ⟨τ, ?_, h3, rfl, rfl, h26, aM.rf⟩
      simp (disch := first | omega | exact nM1_n | exact nM2_n | assumption) only [b_X11_next_88, h3, hb, let_e, ↓nLetR, ↓reduceIte, ↓e_m1, ↓e_m2, e_0, e_1, e_2, e_3, e_4, e_5, e_6, e_7, e_8, e_9, e_10, e_11, e_12, e_13, e_14, e_15, e_16, e_17, e_18, e_19, e_20, e_21, e_22, e_23, e_24, e_25, e_26, e_27, e_28, e_29, e_30, e_31, e_32, e_33, e_48, e_57, e_59, e_60, e_63, e_64, e_96, e_97, e_99, e_120, e_122, e_192, e_200, e_255, e_256, e_300, e_500, e_600, e_2000, e_5000, e_5240, e_6146, e_20000, e_65536, nIo, nI_clamp, nIxt, nI_1, nI_add, nI_mul, nI_eqF, nI_ltT, nI_ltF, nI_leT, nI_leF, nN_lt0, nN_le, nN_lt, nN_eq, nN_eq', eq_self, nBdS]
  | succ d ih =>
    intro m a k w τ ha hm hr h3 hk h26
    have hn := hr.1
    have hb := byM (N := N) hr (show a < n by omega)
    have hx := (hr.2.2.2 a (by omega)).2.2
    have hbl := let_m (N := N) (σ := τ) hx
    rw [nLpP _ _ (by omega)]
    by_cases h : 97 ≤ c a ∧ c a ≤ 122
    · rw [if_pos h] at hbl
      have hg : isL c a = true := decide_eq_true h
      have hs := sk_ge (isL c) d (a + 1)
      have e1 := chs h.1
      have e2 := i64_s w (c a - 96) (by omega)
      by_cases h8 : k < 8
      · obtain ⟨τ', g1, g2, g3, g4, g5, g6⟩ := ih (m - 1) (a + 1) (k + 1) (32 * w + (c a - 96)) (wr (wl τ 0 26 (Int64.ofNat (32 * w + (c a - 96)))) 0 21 (nI (a + 1))) (by omega) (by omega) (hr.fr aC.rf (aM.w 21 _ (by decide))) (wrs _ _ _ _) (by omega) (by rw [wr2, wls])
        refine ⟨τ', ?_, by rw [sk_s hg]; exact g2, ?_, by rw [g4, wrk _ _ _ (by decide)]; rfl, ?_, (aM.w (σ := τ) 21 (nI (a + 1)) (by decide)).trans g6⟩
        · rw [← g1]
          simp (disch := first | omega | exact nM1_n | exact nM2_n | assumption) only [b_X11_next_88, l_X11_next_135, b_X11_next_135, h3, hb, hbl, h26, e1, e2, ↓nLetR, ↓reduceIte, ↓e_m1, ↓e_m2, e_0, e_1, e_2, e_3, e_4, e_5, e_6, e_7, e_8, e_9, e_10, e_11, e_12, e_13, e_14, e_15, e_16, e_17, e_18, e_19, e_20, e_21, e_22, e_23, e_24, e_25, e_26, e_27, e_28, e_29, e_30, e_31, e_32, e_33, e_48, e_57, e_59, e_60, e_63, e_64, e_96, e_97, e_99, e_120, e_122, e_192, e_200, e_255, e_256, e_300, e_500, e_600, e_2000, e_5000, e_5240, e_6146, e_20000, e_65536, nIo, nI_clamp, nIxt, nI_1, nI_add, nI_mul, nI_eqF, nI_ltT, nI_ltF, nI_leT, nI_leF, nN_lt0, nN_le, nN_lt, nN_eq, nN_eq', eq_self, nBdS, wrs, wrk, wrc, wr2, wl1, wls, wlk, wlc]
        · rw [g3, sk_s hg, wrk _ _ _ (by decide), show k + 1 + (sk (isL c) d (a + 1) - (a + 1)) = k + (sk (isL c) d (a + 1) - a) by omega]
          rfl
        · unfold lvF
          rw [if_pos hg, if_pos h8]
          exact g5
      · obtain ⟨τ', g1, g2, g3, g4, g5, g6⟩ := ih (m - 1) (a + 1) (k + 1) w (wr τ 0 21 (nI (a + 1))) (by omega) (by omega) (hr.fr aC.rf (aM.w 21 _ (by decide))) (wrs _ _ _ _) (by omega) h26
        refine ⟨τ', ?_, by rw [sk_s hg]; exact g2, ?_, by rw [g4, wrk _ _ _ (by decide)], ?_, (aM.w 21 _ (by decide)).trans g6⟩
        · rw [← g1]
          simp (disch := first | omega | exact nM1_n | exact nM2_n | assumption) only [b_X11_next_88, l_X11_next_135, b_X11_next_135, h3, hb, hbl, ↓nLetR, ↓reduceIte, ↓e_m1, ↓e_m2, e_0, e_1, e_2, e_3, e_4, e_5, e_6, e_7, e_8, e_9, e_10, e_11, e_12, e_13, e_14, e_15, e_16, e_17, e_18, e_19, e_20, e_21, e_22, e_23, e_24, e_25, e_26, e_27, e_28, e_29, e_30, e_31, e_32, e_33, e_48, e_57, e_59, e_60, e_63, e_64, e_96, e_97, e_99, e_120, e_122, e_192, e_200, e_255, e_256, e_300, e_500, e_600, e_2000, e_5000, e_5240, e_6146, e_20000, e_65536, nIo, nI_clamp, nIxt, nI_1, nI_add, nI_mul, nI_eqF, nI_ltT, nI_ltF, nI_leT, nI_leF, nN_lt0, nN_le, nN_lt, nN_eq, nN_eq', eq_self, nBdS, wrs, wrk, wrc, wr2, wl1, wls, wlk, wlc]
        · rw [g3, sk_s hg, wrk _ _ _ (by decide), show k + 1 + (sk (isL c) d (a + 1) - (a + 1)) = k + (sk (isL c) d (a + 1) - a) by omega]
        · unfold lvF
          rw [if_pos hg, if_neg h8]
          exact g5
    · rw [if_neg h] at hbl
      have hg : isL c a = false := decide_eq_false h
      have e3 : lvF c (d + 1) a k w = w := by
        unfold lvF
        rw [hg]
        rfl
      rw [sk_z hg, e3, Nat.sub_self, Nat.add_zero]
      by_cases h9 : k < 9
      · rw [if_pos h9]
        refine ⟨wr τ 0 22 (nI 2), ?_, by rw [wrk _ _ _ (by decide)]; exact h3, wrs _ _ _ _, by rw [wrk _ _ _ (by decide)], h26, aM.w 22 _ (by decide)⟩
        simp (disch := first | omega | exact nM1_n | exact nM2_n | assumption) only [b_X11_next_88, h3, hb, hbl, ↓nLetR, ↓reduceIte, ↓e_m1, ↓e_m2, e_0, e_1, e_2, e_3, e_4, e_5, e_6, e_7, e_8, e_9, e_10, e_11, e_12, e_13, e_14, e_15, e_16, e_17, e_18, e_19, e_20, e_21, e_22, e_23, e_24, e_25, e_26, e_27, e_28, e_29, e_30, e_31, e_32, e_33, e_48, e_57, e_59, e_60, e_63, e_64, e_96, e_97, e_99, e_120, e_122, e_192, e_200, e_255, e_256, e_300, e_500, e_600, e_2000, e_5000, e_5240, e_6146, e_20000, e_65536, nIo, nI_clamp, nIxt, nI_1, nI_add, nI_mul, nI_eqF, nI_ltT, nI_ltF, nI_leT, nI_leF, nN_lt0, nN_le, nN_lt, nN_eq, nN_eq', eq_self, nBdS]
      · rw [if_neg h9]
        refine ⟨τ, ?_, h3, rfl, rfl, h26, aM.rf⟩
        simp (disch := first | omega | exact nM1_n | exact nM2_n | assumption) only [b_X11_next_88, h3, hb, hbl, ↓nLetR, ↓reduceIte, ↓e_m1, ↓e_m2, e_0, e_1, e_2, e_3, e_4, e_5, e_6, e_7, e_8, e_9, e_10, e_11, e_12, e_13, e_14, e_15, e_16, e_17, e_18, e_19, e_20, e_21, e_22, e_23, e_24, e_25, e_26, e_27, e_28, e_29, e_30, e_31, e_32, e_33, e_48, e_57, e_59, e_60, e_63, e_64, e_96, e_97, e_99, e_120, e_122, e_192, e_200, e_255, e_256, e_300, e_500, e_600, e_2000, e_5000, e_5240, e_6146, e_20000, e_65536, nIo, nI_clamp, nIxt, nI_1, nI_add, nI_mul, nI_eqF, nI_ltT, nI_ltF, nI_leT, nI_leF, nN_lt0, nN_le, nN_lt, nN_eq, nN_eq', eq_self, nBdS]
theorem nm_go {N n : Nat} {c : Nat → Nat} {σ : nS} : ∀ d m a k v τ, a + d = n → d < m → rdR n c σ τ → τ.1 0 21 = nI a → k + d ≤ 600 → τ.1 0 24 = nI v → ∃ τ', nLp (fun _ _ => none) (fun again => b_X11_next_177 N (l_X11_next_219 N again)) m τ (nI k) = some (nI 0, τ') ∧ τ'.1 0 21 = nI (sk (isG c) d a) ∧ τ'.1 0 22 = (if k + (sk (isG c) d a - a) < 3 then nI 3 else τ.1 0 22) ∧ τ'.1 0 23 = τ.1 0 23 ∧ τ'.1 0 24 = nI (mvF c d a k v) ∧ aM τ τ' := by
  intro d
  induction d with
  | zero =>
    intro m a k v τ ha hm hr h3 hk h24
    have han : a = n := by omega
    subst han
    have hb := byE (N := N) hr
    have e0 : sk (isG c) 0 a = a := rfl
    rw [e0, Nat.sub_self, Nat.add_zero, nLpP _ _ hm]
    by_cases h9 : k < 3
    · rw [if_pos h9]
      refine ⟨wr τ 0 22 (nI 3), ?_, by rw [wrk _ _ _ (by decide)]; exact h3, wrs _ _ _ _, by rw [wrk _ _ _ (by decide)], by rw [wrk _ _ _ (by decide)]; exact h24, aM.w 22 _ (by decide)⟩
      simp (disch := first | omega | exact nM1_n | exact nM2_n | assumption) only [b_X11_next_177, h3, hb, dig_e, ↓nLetR, ↓reduceIte, ↓e_m1, ↓e_m2, e_0, e_1, e_2, e_3, e_4, e_5, e_6, e_7, e_8, e_9, e_10, e_11, e_12, e_13, e_14, e_15, e_16, e_17, e_18, e_19, e_20, e_21, e_22, e_23, e_24, e_25, e_26, e_27, e_28, e_29, e_30, e_31, e_32, e_33, e_48, e_57, e_59, e_60, e_63, e_64, e_96, e_97, e_99, e_120, e_122, e_192, e_200, e_255, e_256, e_300, e_500, e_600, e_2000, e_5000, e_5240, e_6146, e_20000, e_65536, nIo, nI_clamp, nIxt, nI_1, nI_add, nI_mul, nI_eqF, nI_ltT, nI_ltF, nI_leT, nI_leF, nN_lt0, nN_le, nN_lt, nN_eq, nN_eq', eq_self, nBdS]
    · rw [if_neg h9]
      refine ⟨τ, ?_, h3, rfl, rfl, h24, aM.rf⟩
      simp (disch := first | omega | exact nM1_n | exact nM2_n | assumption) only [b_X11_next_177, h3, hb, dig_e, ↓nLetR, ↓reduceIte, ↓e_m1, ↓e_m2, e_0, e_1, e_2, e_3, e_4, e_5, e_6, e_7, e_8, e_9, e_10, e_11, e_12, e_13, e_14, e_15, e_16, e_17, e_18, e_19, e_20, e_21, e_22, e_23, e_24, e_25, e_26, e_27, e_28, e_29, e_30, e_31, e_32, e_33, e_48, e_57, e_59, e_60, e_63, e_64, e_96, e_97, e_99, e_120, e_122, e_192, e_200, e_255, e_256, e_300, e_500, e_600, e_2000, e_5000, e_5240, e_6146, e_20000, e_65536, nIo, nI_clamp, nIxt, nI_1, nI_add, nI_mul, nI_eqF, nI_ltT, nI_ltF, nI_leT, nI_leF, nN_lt0, nN_le, nN_lt, nN_eq, nN_eq', eq_self, nBdS]
  | succ d ih =>
    intro m a k v τ ha hm hr h3 hk h24
    have hn := hr.1
    have hb := byM (N := N) hr (show a < n by omega)
    have hx := (hr.2.2.2 a (by omega)).2.2
    have hbl := dig_m (N := N) (σ := τ) hx
    rw [nLpP _ _ (by omega)]
    by_cases h : 48 ≤ c a ∧ c a ≤ 57
    · rw [if_pos h] at hbl
      have hg : isG c a = true := decide_eq_true h
      have hs := sk_ge (isG c) d (a + 1)
      have hsub : nI (10 * v + c a) - nI 48 = nI (10 * v + c a - 48) := nI_subn _ _ (by omega)
      by_cases h8 : k < 2
      · obtain ⟨τ', g1, g2, g3, g4, g5, g6⟩ := ih (m - 1) (a + 1) (k + 1) (10 * v + c a - 48) (wr (wr τ 0 24 (nI (10 * v + c a - 48))) 0 21 (nI (a + 1))) (by omega) (by omega) (hr.fr aC.rf ((aM.w 24 _ (by decide)).trans (aM.w 21 _ (by decide)))) (wrs _ _ _ _) (by omega) (by rw [wrk _ _ _ (by decide), wrs])
        refine ⟨τ', ?_, by rw [sk_s hg]; exact g2, ?_, by rw [g4, wrk _ _ _ (by decide), wrk _ _ _ (by decide)], ?_, ((aM.w 24 _ (by decide)).trans (aM.w 21 _ (by decide))).trans g6⟩
        · rw [← g1]
          simp (disch := first | omega | exact nM1_n | exact nM2_n | assumption) only [b_X11_next_177, l_X11_next_219, b_X11_next_219, h3, hb, hbl, h24, hsub, ↓nLetR, ↓reduceIte, ↓e_m1, ↓e_m2, e_0, e_1, e_2, e_3, e_4, e_5, e_6, e_7, e_8, e_9, e_10, e_11, e_12, e_13, e_14, e_15, e_16, e_17, e_18, e_19, e_20, e_21, e_22, e_23, e_24, e_25, e_26, e_27, e_28, e_29, e_30, e_31, e_32, e_33, e_48, e_57, e_59, e_60, e_63, e_64, e_96, e_97, e_99, e_120, e_122, e_192, e_200, e_255, e_256, e_300, e_500, e_600, e_2000, e_5000, e_5240, e_6146, e_20000, e_65536, nIo, nI_clamp, nIxt, nI_1, nI_add, nI_mul, nI_eqF, nI_ltT, nI_ltF, nI_leT, nI_leF, nN_lt0, nN_le, nN_lt, nN_eq, nN_eq', eq_self, nBdS, wrs, wrk, wrc, wr2, wl1, wls, wlk, wlc]
        · rw [g3, sk_s hg, wrk _ _ _ (by decide), wrk _ _ _ (by decide), show k + 1 + (sk (isG c) d (a + 1) - (a + 1)) = k + (sk (isG c) d (a + 1) - a) by omega]
        · unfold mvF
          rw [if_pos hg, if_pos h8]
          exact g5
      · obtain ⟨τ', g1, g2, g3, g4, g5, g6⟩ := ih (m - 1) (a + 1) (k + 1) v (wr τ 0 21 (nI (a + 1))) (by omega) (by omega) (hr.fr aC.rf (aM.w 21 _ (by decide))) (wrs _ _ _ _) (by omega) (by rw [wrk _ _ _ (by decide)]; exact h24)
        refine ⟨τ', ?_, by rw [sk_s hg]; exact g2, ?_, by rw [g4, wrk _ _ _ (by decide)], ?_, (aM.w 21 _ (by decide)).trans g6⟩
        · rw [← g1]
          simp (disch := first | omega | exact nM1_n | exact nM2_n | assumption) only [b_X11_next_177, l_X11_next_219, b_X11_next_219, h3, hb, hbl, ↓nLetR, ↓reduceIte, ↓e_m1, ↓e_m2, e_0, e_1, e_2, e_3, e_4, e_5, e_6, e_7, e_8, e_9, e_10, e_11, e_12, e_13, e_14, e_15, e_16, e_17, e_18, e_19, e_20, e_21, e_22, e_23, e_24, e_25, e_26, e_27, e_28, e_29, e_30, e_31, e_32, e_33, e_48, e_57, e_59, e_60, e_63, e_64, e_96, e_97, e_99, e_120, e_122, e_192, e_200, e_255, e_256, e_300, e_500, e_600, e_2000, e_5000, e_5240, e_6146, e_20000, e_65536, nIo, nI_clamp, nIxt, nI_1, nI_add, nI_mul, nI_eqF, nI_ltT, nI_ltF, nI_leT, nI_leF, nN_lt0, nN_le, nN_lt, nN_eq, nN_eq', eq_self, nBdS, wrs, wrk, wrc, wr2, wl1, wls, wlk, wlc]
        · rw [g3, sk_s hg, wrk _ _ _ (by decide), show k + 1 + (sk (isG c) d (a + 1) - (a + 1)) = k + (sk (isG c) d (a + 1) - a) by omega]
        · unfold mvF
          rw [if_pos hg, if_neg h8]
          exact g5
    · rw [if_neg h] at hbl
      have hg : isG c a = false := decide_eq_false h
      have e3 : mvF c (d + 1) a k v = v := by
        unfold mvF
        rw [hg]
        rfl
      rw [sk_z hg, e3, Nat.sub_self, Nat.add_zero]
      by_cases h9 : k < 3
      · rw [if_pos h9]
        refine ⟨wr τ 0 22 (nI 3), ?_, by rw [wrk _ _ _ (by decide)]; exact h3, wrs _ _ _ _, by rw [wrk _ _ _ (by decide)], by rw [wrk _ _ _ (by decide)]; exact h24, aM.w 22 _ (by decide)⟩
        simp (disch := first | omega | exact nM1_n | exact nM2_n | assumption) only [b_X11_next_177, h3, hb, hbl, ↓nLetR, ↓reduceIte, ↓e_m1, ↓e_m2, e_0, e_1, e_2, e_3, e_4, e_5, e_6, e_7, e_8, e_9, e_10, e_11, e_12, e_13, e_14, e_15, e_16, e_17, e_18, e_19, e_20, e_21, e_22, e_23, e_24, e_25, e_26, e_27, e_28, e_29, e_30, e_31, e_32, e_33, e_48, e_57, e_59, e_60, e_63, e_64, e_96, e_97, e_99, e_120, e_122, e_192, e_200, e_255, e_256, e_300, e_500, e_600, e_2000, e_5000, e_5240, e_6146, e_20000, e_65536, nIo, nI_clamp, nIxt, nI_1, nI_add, nI_mul, nI_eqF, nI_ltT, nI_ltF, nI_leT, nI_leF, nN_lt0, nN_le, nN_lt, nN_eq, nN_eq', eq_self, nBdS]
      · rw [if_neg h9]
        refine ⟨τ, ?_, h3, rfl, rfl, h24, aM.rf⟩
        simp (disch := first | omega | exact nM1_n | exact nM2_n | assumption) only [b_X11_next_177, h3, hb, hbl, ↓nLetR, ↓reduceIte, ↓e_m1, ↓e_m2, e_0, e_1, e_2, e_3, e_4, e_5, e_6, e_7, e_8, e_9, e_10, e_11, e_12, e_13, e_14, e_15, e_16, e_17, e_18, e_19, e_20, e_21, e_22, e_23, e_24, e_25, e_26, e_27, e_28, e_29, e_30, e_31, e_32, e_33, e_48, e_57, e_59, e_60, e_63, e_64, e_96, e_97, e_99, e_120, e_122, e_192, e_200, e_255, e_256, e_300, e_500, e_600, e_2000, e_5000, e_5240, e_6146, e_20000, e_65536, nIo, nI_clamp, nIxt, nI_1, nI_add, nI_mul, nI_eqF, nI_ltT, nI_ltF, nI_leT, nI_leF, nN_lt0, nN_le, nN_lt, nN_eq, nN_eq', eq_self, nBdS]
