/-! MENDS: targets and skills that are changed and put back -/
def mF (σa τa σb τb : nS) : Prop := (∀ d, d ≠ 19 → d ≠ 27 → d ≠ 29 → d ≠ 11 → σb.1 d = σa.1 d) ∧ (∀ d, d ≠ 0 → d ≠ 12 → d ≠ 14 → d ≠ 22 → τb.1 d = τa.1 d) ∧ ∀ f, (f < 31 ∨ 36 < f) → f ≠ 57 → τb.1 0 f = τa.1 0 f
theorem mF.rf {σ τ : nS} : mF σ τ σ τ := ⟨fun _ _ _ _ _ => rfl, fun _ _ _ _ _ => rfl, fun _ _ _ => rfl⟩
theorem mF.trans {a b c d e f : nS} (h : mF a b c d) (g : mF c d e f) : mF a b e f := ⟨fun x e1 e2 e3 e4 => (g.1 x e1 e2 e3 e4).trans (h.1 x e1 e2 e3 e4), fun x e1 e2 e3 e4 => (g.2.1 x e1 e2 e3 e4).trans (h.2.1 x e1 e2 e3 e4), fun x e1 e2 => (g.2.2 x e1 e2).trans (h.2.2 x e1 e2)⟩
theorem mF.of {a b c d : nS} (h : hFr 27 a b c d) : mF a b c d := ⟨fun x _ e2 e3 e4 => h.1 x e2 e3 e4, fun x e1 e2 e3 _ => h.2.1 x e1 e2 e3, fun x e1 _ => h.2.2 x e1⟩
theorem mF.hs {F S P B : Nat} {σ0 τ0 σ τ : nS} (h : mF σ0 τ0 σ τ) (g : hHs F S P B σ0 τ0) : hHs F S P B σ τ := by
  unfold hHs
  rw [h.1 1 (by decide) (by decide) (by decide) (by decide), h.1 2 (by decide) (by decide) (by decide) (by decide), h.1 3 (by decide) (by decide) (by decide) (by decide), h.2.1 1 (by decide) (by decide) (by decide) (by decide), h.2.1 2 (by decide) (by decide) (by decide) (by decide), h.2.2 4 (by decide) (by decide), h.2.2 5 (by decide) (by decide), h.2.2 6 (by decide) (by decide), h.2.2 7 (by decide) (by decide), h.2.2 8 (by decide) (by decide)]
  exact g
theorem mF.bk {F S b n : Nat} {σ0 τ0 σ τ : nS} (h : mF σ0 τ0 σ τ) (g : hBk F S b n σ0 τ0) : hBk F S b n σ τ := by
  unfold hBk
  rw [h.1 4 (by decide) (by decide) (by decide) (by decide), h.1 5 (by decide) (by decide) (by decide) (by decide), h.2.1 3 (by decide) (by decide) (by decide) (by decide), h.2.1 4 (by decide) (by decide) (by decide) (by decide), h.2.1 5 (by decide) (by decide) (by decide) (by decide), h.2.1 6 (by decide) (by decide) (by decide) (by decide), h.2.1 7 (by decide) (by decide) (by decide) (by decide), h.2.1 8 (by decide) (by decide) (by decide) (by decide)]
  exact g
theorem mF.qa {b pl : Nat} {σ0 τ0 σ τ : nS} (h : mF σ0 τ0 σ τ) (g : qA b pl σ0 τ0) : qA b pl σ τ := by
  unfold qA
  rw [h.1 16 (by decide) (by decide) (by decide) (by decide), h.1 17 (by decide) (by decide) (by decide) (by decide), h.2.1 18 (by decide) (by decide) (by decide) (by decide), h.2.2 48 (by decide) (by decide), h.2.2 49 (by decide) (by decide)]
  exact g
theorem ww1 (σ : nS) (c k : Nat) (a b : Int32) : (wr (wr σ c k a) c k b).1 = (wr σ c k b).1 := by
  funext d
  by_cases h : d = c
  · subst h
    rw [wrf, wrf, wrf]
    funext j
    by_cases e : j = k
    · subst e; rw [pk_us, pk_us]
    · rw [pk_un e, pk_un e, pk_un e]
  · rw [wrc _ _ _ h, wrc _ _ _ h, wrc _ _ _ h]
theorem ww0 {σ : nS} {c k : Nat} {a : Int32} (h : σ.1 c k = a) : (wr σ c k a).1 = σ.1 := by
  funext d
  by_cases hd : d = c
  · subst hd
    rw [wrf]
    funext j
    by_cases e : j = k
    · subst e; rw [pk_us, h]
    · rw [pk_un e]
  · rw [wrc _ _ _ hd]
theorem mF.cg {a b c d a' b' c' d' : nS} (h : mF a b c d) (ha : a'.1 = a.1) (hb : b'.1 = b.1) (hc : c'.1 = c.1) (hd : d'.1 = d.1) : mF a' b' c' d' := by
  unfold mF
  rw [ha, hb, hc, hd]
  exact h
theorem mF.wr {a b c d : nS} (h : mF a b c d) {c1 i q ii : Nat} (v : Int32) (h1 : c1 ≠ 19 ∧ c1 ≠ 27 ∧ c1 ≠ 29 ∧ c1 ≠ 11) (h2 : q ≠ 0 ∧ q ≠ 12 ∧ q ≠ 14 ∧ q ≠ 22) : mF (wr a c1 i v) (wr b q ii v) (wr c c1 i v) (wr d q ii v) := by
  refine ⟨fun x e1 e2 e3 e4 => ?_, fun x e1 e2 e3 e4 => ?_, fun f e1 e2 => ?_⟩
  · by_cases e : x = c1
    · subst e
      rw [wrf, wrf, h.1 x e1 e2 e3 e4]
    · rw [wrc _ _ _ e, wrc _ _ _ e]; exact h.1 x e1 e2 e3 e4
  · by_cases e : x = q
    · subst e
      rw [wrf, wrf, h.2.1 x e1 e2 e3 e4]
    · rw [wrc _ _ _ e, wrc _ _ _ e]; exact h.2.1 x e1 e2 e3 e4
  · rw [wrc _ _ _ (fun h => h2.1 h.symm), wrc _ _ _ (fun h => h2.1 h.symm)]; exact h.2.2 f e1 e2
/-- all but one cell on each side -/
def tF (c i q ii : Nat) (σ1 τ1 σ τ : nS) : Prop := ∀ v, mF (wr σ1 c i v) (wr τ1 q ii v) (wr σ c i v) (wr τ q ii v)
theorem tF.next {c i q ii : Nat} {σ1 τ1 σ' τ' : nS} {t : Int32} (h1 : c ≠ 19 ∧ c ≠ 27 ∧ c ≠ 29 ∧ c ≠ 11) (h2 : q ≠ 0 ∧ q ≠ 12 ∧ q ≠ 14 ∧ q ≠ 22) (h : mF (wr σ1 c i t) (wr τ1 q ii t) σ' τ') : tF c i q ii σ1 τ1 σ' τ' := by
  intro v
  exact (h.wr v h1 h2).cg (ww1 σ1 c i t v).symm (ww1 τ1 q ii t v).symm rfl rfl
theorem tF.one {c i q ii : Nat} {σ1 τ1 σ τ : nS} (t : Int32) (h : tF c i q ii σ1 τ1 σ τ) : tF c i q ii σ1 τ1 (wr σ c i t) τ := by
  intro v
  exact (h v).cg rfl rfl (ww1 σ c i t v) rfl
theorem tF.d {c i q ii : Nat} {σ1 τ1 σ τ : nS} (h : tF c i q ii σ1 τ1 σ τ) {d : Nat} (e : d ≠ c) (e1 : d ≠ 19) (e2 : d ≠ 27) (e3 : d ≠ 29) (e4 : d ≠ 11) : σ.1 d = σ1.1 d := by
  have := (h 0).1 d e1 e2 e3 e4
  rw [wrc _ _ _ e, wrc _ _ _ e] at this
  exact this
theorem tF.m {c i q ii : Nat} {σ1 τ1 σ τ : nS} (h : tF c i q ii σ1 τ1 σ τ) {d : Nat} (e : d ≠ q) (e1 : d ≠ 0) (e2 : d ≠ 12) (e3 : d ≠ 14) (e4 : d ≠ 22) : τ.1 d = τ1.1 d := by
  have := (h 0).2.1 d e1 e2 e3 e4
  rw [wrc _ _ _ e, wrc _ _ _ e] at this
  exact this
theorem tF.f {c i q ii : Nat} {σ1 τ1 σ τ : nS} (h : tF c i q ii σ1 τ1 σ τ) (hq : q ≠ 0) {f : Nat} (e : f < 31 ∨ 36 < f) (e1 : f ≠ 57) : τ.1 0 f = τ1.1 0 f := by
  have := (h 0).2.2 f e e1
  rw [wrc _ _ _ (fun h => hq h.symm), wrc _ _ _ (fun h => hq h.symm)] at this
  exact this
/-- one change tried on both sides -/
theorem try1 {N F S P B b n pl C M c i q ii : Nat} {σ1 τ1 σ τ : nS} {t : Int32} (w k u : Int32) (hN : 7000 ≤ N) (hC : C < 5000) (hM : M + 600 < 2 ^ 31) (h1 : c ≠ 19 ∧ c ≠ 27 ∧ c ≠ 29 ∧ c ≠ 11) (h2 : q ≠ 0 ∧ q ≠ 12 ∧ q ≠ 14 ∧ q ≠ 22) (hH : hHs F S P B (wr σ1 c i t) (wr τ1 q ii t)) (hB : hBk F S b n (wr σ1 c i t) (wr τ1 q ii t)) (hq : qA b pl (wr σ1 c i t) (wr τ1 q ii t)) (hF : tF c i q ii σ1 τ1 σ τ) (hR : cR C σ τ) (hk : hMk M τ) :
    ∃ r M' σ' τ', r < 2 ∧ f_X8_allCalm N (wr σ c i t) = some (nI r, σ') ∧ f_X11_cures N (wr τ q ii t) = some (nI r, τ') ∧ (M ≤ M' ∧ M' ≤ M + 500) ∧ (r = 0 → tF c i q ii σ1 τ1 σ' τ' ∧ cR (C + 1) σ' τ' ∧ hMk M' τ') ∧
      (r = 1 → ∃ σ2 τ2, f_X1_add N w k u σ' = some (nI 0, σ2) ∧ f_X11_cured N w k u τ' = some (nI 0, τ2) ∧ tF c i q ii σ1 τ1 σ2 τ2 ∧ cR (C + 1) σ2 τ2 ∧ hMk M' τ2) := by
  have hm := hF t
  have hk' : hMk M (wr τ q ii t) := by
    unfold hMk
    rw [wrc _ _ _ (fun h => h2.1 h.symm), wrc _ _ _ (fun h => h2.2.1 h.symm)]
    exact hk
  obtain ⟨r, M', σ', τ', g1, g2, g3, g4, g5, g6⟩ := cures_is (N := N) hN hM (hm.hs hH) (hm.bk hB) (hm.qa hq) hk'
  have hR' : cR C σ' τ' := by
    refine hR.fr ?_ ?_ ?_
    · rw [g4.1 19 (by decide) (by decide) (by decide), wrc _ _ _ (fun h => h1.1 h.symm)]
    · rw [g4.2.1 22 (by decide) (by decide) (by decide), wrc _ _ _ (fun h => h2.2.2.2 h.symm)]
    · rw [g4.2.2 57 (by decide), wrc _ _ _ (fun h => h2.1 h.symm)]
  have hm' := hm.trans (mF.of g4)
  refine ⟨r, M', σ', τ', g1, g2, g3, g6, fun _ => ⟨tF.next h1 h2 hm', hR'.up (by omega), g5⟩, fun _ => ?_⟩
  obtain ⟨σ2, τ2, a1, a2, a3, a4, a5, a6⟩ := add_is (N := N) hC w k u hR'
  refine ⟨σ2, τ2, a1, a2, tF.next h1 h2 (hm'.trans ⟨fun d e1 _ _ _ => a4 d e1, fun d e1 _ _ e4 => a5 d e1 e4, fun f _ e2 => a6 f e2⟩), a3, ?_⟩
  unfold hMk
  rw [a6 31 (by decide), a5 12 (by decide) (by decide)]
  exact g5
theorem tgt_go {N F S P B b n pl k j q o : Nat} {w : Int32} {σ1 τ1 : nS} (hN : 7000 ≤ N) (hH : hHs F S P B σ1 τ1) (hB : hBk F S b n σ1 τ1) (hq : qA b pl σ1 τ1) (hkn : k < n) (hc : tgC b k j q τ1) (ho : o < n) : ∀ d t m m' C M σ τ, t + d = n → d < m → d < m' → C + d < 5000 → M + 500 * d + 600 < 2 ^ 31 → tF 5 ((b * 24 + k) * 5 + j) q (24 * b + k) σ1 τ1 σ τ → cR C σ τ → hMk M τ →
    ∃ M' σ' τ', nLp (fun _ _ _ _ _ _ => none) (fun again => b_X8_tryTargets_21 N (l_X8_tryTargets_83 N again)) m σ w (nI k) (nI j) (nI o) (nI t) = some (nI 0, wr σ' 5 ((b * 24 + k) * 5 + j) (nI o)) ∧ nLp (fun _ _ _ _ _ _ => none) (fun again => b_X11_targets_9 N q (l_X11_targets_54 N q again)) m' τ w (nI k) (nI (24 * b + k)) (nI o) (nI t) = some (nI 0, wr τ' q (24 * b + k) (nI o)) ∧ tF 5 ((b * 24 + k) * 5 + j) q (24 * b + k) σ1 τ1 σ' τ' ∧ cR (C + d) σ' τ' ∧ hMk M' τ' ∧ M ≤ M' ∧ M' ≤ M + 500 * d := by
  obtain ⟨hb, ⟨hn1, hn2⟩, z1, z2, -⟩ := id hB
  have hj : j < 5 ∧ 5 ≤ q ∧ q ≤ 7 := by rcases hc with ⟨_, ⟨rfl, rfl⟩ | ⟨rfl, rfl⟩⟩ | ⟨_, rfl, rfl⟩ <;> decide
  have c5 : (5 : Nat) ≠ 19 ∧ (5 : Nat) ≠ 27 ∧ (5 : Nat) ≠ 29 ∧ (5 : Nat) ≠ 11 := by decide
  have cq : q ≠ 0 ∧ q ≠ 12 ∧ q ≠ 14 ∧ q ≠ 22 := by omega
  intro d
  induction d with
  | zero =>
    intro t m m' C M σ τ ht hm hm' hC hM hF hR hk
    have s16 : σ.1 16 3 = nI b := by rw [hF.d (by decide) (by decide) (by decide) (by decide) (by decide)]; exact hq.1
    have s4 : σ.1 4 b = nI n := by rw [hF.d (by decide) (by decide) (by decide) (by decide) (by decide)]; exact z1
    have t48 : τ.1 0 48 = nI b := by rw [hF.f cq.1 (by decide) (by decide)]; exact hq.2.2.1
    have t3 : τ.1 3 b = nI n := by rw [hF.m (show 3 ≠ q by omega) (by decide) (by decide) (by decide) (by decide)]; exact z2
    have hsz := size_is (N := N) (σ := σ) hb
    rw [s4] at hsz
    have hset := set_is (N := N) (b := b) (k := k) (j := j) (v := nI o) (σ := σ) hb (by omega) hj.1
    refine ⟨M, σ, τ, ?_, ?_, hF, hR, hk, by omega⟩
    · rw [nLpP _ _ hm]
      simp (disch := first | omega | exact nM1_n | exact nM2_n | assumption) only [b_X8_tryTargets_21, s16, hsz, hset, ↓nLetR, ↓reduceIte, ↓e_m1, ↓e_m2, e_0, e_1, e_2, e_3, e_4, e_5, e_6, e_7, e_8, e_9, e_10, e_11, e_12, e_13, e_14, e_15, e_16, e_17, e_18, e_19, e_20, e_21, e_22, e_23, e_24, e_25, e_26, e_27, e_28, e_29, e_30, e_31, e_32, e_33, e_48, e_57, e_59, e_60, e_63, e_64, e_96, e_97, e_99, e_120, e_122, e_192, e_200, e_255, e_256, e_300, e_500, e_600, e_2000, e_5000, e_5240, e_6146, e_20000, e_65536, nIo, nI_clamp, nIxt, nI_1, nI_add, nI_mul, nI_eqF, nI_ltT, nI_ltF, nI_leT, nI_leF, nN_lt0, nN_le, nN_lt, nN_eq, nN_eq', eq_self, nBdS]
    · rw [nLpP _ _ hm']
      simp (disch := first | omega | exact nM1_n | exact nM2_n | assumption) only [b_X11_targets_9, t48, t3, ↓nLetR, ↓reduceIte, ↓e_m1, ↓e_m2, e_0, e_1, e_2, e_3, e_4, e_5, e_6, e_7, e_8, e_9, e_10, e_11, e_12, e_13, e_14, e_15, e_16, e_17, e_18, e_19, e_20, e_21, e_22, e_23, e_24, e_25, e_26, e_27, e_28, e_29, e_30, e_31, e_32, e_33, e_48, e_57, e_59, e_60, e_63, e_64, e_96, e_97, e_99, e_120, e_122, e_192, e_200, e_255, e_256, e_300, e_500, e_600, e_2000, e_5000, e_5240, e_6146, e_20000, e_65536, nIo, nI_clamp, nIxt, nI_1, nI_add, nI_mul, nI_eqF, nI_ltT, nI_ltF, nI_leT, nI_leF, nN_lt0, nN_le, nN_lt, nN_eq, nN_eq', eq_self, nBdS]
  | succ d ih =>
    intro t m m' C M σ τ ht hm hm' hC hM hF hR hk
    have s16 : σ.1 16 3 = nI b := by rw [hF.d (by decide) (by decide) (by decide) (by decide) (by decide)]; exact hq.1
    have s4 : σ.1 4 b = nI n := by rw [hF.d (by decide) (by decide) (by decide) (by decide) (by decide)]; exact z1
    have t48 : τ.1 0 48 = nI b := by rw [hF.f cq.1 (by decide) (by decide)]; exact hq.2.2.1
    have t3 : τ.1 3 b = nI n := by rw [hF.m (show 3 ≠ q by omega) (by decide) (by decide) (by decide) (by decide)]; exact z2
    have hsz := size_is (N := N) (σ := σ) hb
    rw [s4] at hsz
    have hset := set_is (N := N) (b := b) (k := k) (j := j) (v := nI t) (σ := σ) hb (by omega) hj.1
    by_cases e : t = o
    · obtain ⟨M', σ', τ', g1, g2, g3, g4, g5, g6⟩ := ih (t + 1) (m - 1) (m' - 1) C M (wr σ 5 ((b * 24 + k) * 5 + j) (nI t)) τ (by omega) (by omega) (by omega) (by omega) (by omega) (hF.one _) (hR.fr (wrc _ _ _ (by decide)) rfl rfl) hk
      refine ⟨M', σ', τ', ?_, ?_, g3, g4.up (by omega), g5, by omega⟩
      · rw [nLpP _ _ (by omega)]
        have e' : (nI t = nI o) = True := by rw [e]; exact eq_true rfl
        simp (disch := first | omega | exact nM1_n | exact nM2_n | assumption) only [b_X8_tryTargets_21, l_X8_tryTargets_83, b_X8_tryTargets_83, s16, hsz, hset, e', ↓nLetR, ↓reduceIte, ↓e_m1, ↓e_m2, e_0, e_1, e_2, e_3, e_4, e_5, e_6, e_7, e_8, e_9, e_10, e_11, e_12, e_13, e_14, e_15, e_16, e_17, e_18, e_19, e_20, e_21, e_22, e_23, e_24, e_25, e_26, e_27, e_28, e_29, e_30, e_31, e_32, e_33, e_48, e_57, e_59, e_60, e_63, e_64, e_96, e_97, e_99, e_120, e_122, e_192, e_200, e_255, e_256, e_300, e_500, e_600, e_2000, e_5000, e_5240, e_6146, e_20000, e_65536, nIo, nI_clamp, nIxt, nI_1, nI_add, nI_mul, nI_eqF, nI_ltT, nI_ltF, nI_leT, nI_leF, nN_lt0, nN_le, nN_lt, nN_eq, nN_eq', eq_self, nBdS]
        exact g1
      · rw [nLpP _ _ (by omega)]
        have e' : (nI t = nI o) = True := by rw [e]; exact eq_true rfl
        simp (disch := first | omega | exact nM1_n | exact nM2_n | assumption) only [b_X11_targets_9, l_X11_targets_54, b_X11_targets_54, t48, t3, e', ↓nLetR, ↓reduceIte, ↓e_m1, ↓e_m2, e_0, e_1, e_2, e_3, e_4, e_5, e_6, e_7, e_8, e_9, e_10, e_11, e_12, e_13, e_14, e_15, e_16, e_17, e_18, e_19, e_20, e_21, e_22, e_23, e_24, e_25, e_26, e_27, e_28, e_29, e_30, e_31, e_32, e_33, e_48, e_57, e_59, e_60, e_63, e_64, e_96, e_97, e_99, e_120, e_122, e_192, e_200, e_255, e_256, e_300, e_500, e_600, e_2000, e_5000, e_5240, e_6146, e_20000, e_65536, nIo, nI_clamp, nIxt, nI_1, nI_add, nI_mul, nI_eqF, nI_ltT, nI_ltF, nI_leT, nI_leF, nN_lt0, nN_le, nN_lt, nN_eq, nN_eq', eq_self, nBdS]
        exact g2
    · have hH1 : hHs F S P B (wr σ1 5 ((b * 24 + k) * 5 + j) (nI t)) (wr τ1 q (24 * b + k) (nI t)) := by
        unfold hHs
        rw [wrc _ _ _ (show 1 ≠ 5 by decide), wrc _ _ _ (show 2 ≠ 5 by decide), wrc _ _ _ (show 3 ≠ 5 by decide), wrc _ _ _ (show 0 ≠ q by omega), wrc _ _ _ (show 1 ≠ q by omega), wrc _ _ _ (show 2 ≠ q by omega)]
        exact hH
      have hq1 : qA b pl (wr σ1 5 ((b * 24 + k) * 5 + j) (nI t)) (wr τ1 q (24 * b + k) (nI t)) := by
        unfold qA
        rw [wrc _ _ _ (show 16 ≠ 5 by decide), wrc _ _ _ (show 17 ≠ 5 by decide), wrc _ _ _ (show 0 ≠ q by omega), wrc _ _ _ (show 18 ≠ q by omega)]
        exact hq
      obtain ⟨r, M1, σ2, τ2, hr, p1, p2, p3, p4, p5⟩ := try1 (N := N) (C := C) (M := M) w (nI k) (nI t) hN (by omega) (by omega) c5 cq hH1 (hB.set hkn hc (show t < n by omega)) hq1 hF hR hk
      have hr2 : r = 0 ∨ r = 1 := by omega
      rcases hr2 with rfl | rfl
      · obtain ⟨f1, f2, f3⟩ := p4 rfl
        obtain ⟨M', σ', τ', g1, g2, g3, g4, g5, g6⟩ := ih (t + 1) (m - 1) (m' - 1) (C + 1) M1 σ2 τ2 (by omega) (by omega) (by omega) (by omega) (by omega) f1 f2 f3
        refine ⟨M', σ', τ', ?_, ?_, g3, g4.up (by omega), g5, by omega⟩
        · rw [nLpP _ _ (by omega)]
          simp (disch := first | omega | exact nM1_n | exact nM2_n | assumption) only [b_X8_tryTargets_21, l_X8_tryTargets_83, b_X8_tryTargets_83, s16, hsz, hset, p1, ↓nLetR, ↓reduceIte, ↓e_m1, ↓e_m2, e_0, e_1, e_2, e_3, e_4, e_5, e_6, e_7, e_8, e_9, e_10, e_11, e_12, e_13, e_14, e_15, e_16, e_17, e_18, e_19, e_20, e_21, e_22, e_23, e_24, e_25, e_26, e_27, e_28, e_29, e_30, e_31, e_32, e_33, e_48, e_57, e_59, e_60, e_63, e_64, e_96, e_97, e_99, e_120, e_122, e_192, e_200, e_255, e_256, e_300, e_500, e_600, e_2000, e_5000, e_5240, e_6146, e_20000, e_65536, nIo, nI_clamp, nIxt, nI_1, nI_add, nI_mul, nI_eqF, nI_ltT, nI_ltF, nI_leT, nI_leF, nN_lt0, nN_le, nN_lt, nN_eq, nN_eq', eq_self, nBdS]
          exact g1
        · rw [nLpP _ _ (by omega)]
          simp (disch := first | omega | exact nM1_n | exact nM2_n | assumption) only [b_X11_targets_9, l_X11_targets_54, b_X11_targets_54, t48, t3, p2, ↓nLetR, ↓reduceIte, ↓e_m1, ↓e_m2, e_0, e_1, e_2, e_3, e_4, e_5, e_6, e_7, e_8, e_9, e_10, e_11, e_12, e_13, e_14, e_15, e_16, e_17, e_18, e_19, e_20, e_21, e_22, e_23, e_24, e_25, e_26, e_27, e_28, e_29, e_30, e_31, e_32, e_33, e_48, e_57, e_59, e_60, e_63, e_64, e_96, e_97, e_99, e_120, e_122, e_192, e_200, e_255, e_256, e_300, e_500, e_600, e_2000, e_5000, e_5240, e_6146, e_20000, e_65536, nIo, nI_clamp, nIxt, nI_1, nI_add, nI_mul, nI_eqF, nI_ltT, nI_ltF, nI_leT, nI_leF, nN_lt0, nN_le, nN_lt, nN_eq, nN_eq', eq_self, nBdS]
          exact g2
      · obtain ⟨σ3, τ3, a1, a2, f1, f2, f3⟩ := p5 rfl
        obtain ⟨M', σ', τ', g1, g2, g3, g4, g5, g6⟩ := ih (t + 1) (m - 1) (m' - 1) (C + 1) M1 σ3 τ3 (by omega) (by omega) (by omega) (by omega) (by omega) f1 f2 f3
        refine ⟨M', σ', τ', ?_, ?_, g3, g4.up (by omega), g5, by omega⟩
        · rw [nLpP _ _ (by omega)]
          simp (disch := first | omega | exact nM1_n | exact nM2_n | assumption) only [b_X8_tryTargets_21, l_X8_tryTargets_83, b_X8_tryTargets_83, s16, hsz, hset, p1, a1, ↓nLetR, ↓reduceIte, ↓e_m1, ↓e_m2, e_0, e_1, e_2, e_3, e_4, e_5, e_6, e_7, e_8, e_9, e_10, e_11, e_12, e_13, e_14, e_15, e_16, e_17, e_18, e_19, e_20, e_21, e_22, e_23, e_24, e_25, e_26, e_27, e_28, e_29, e_30, e_31, e_32, e_33, e_48, e_57, e_59, e_60, e_63, e_64, e_96, e_97, e_99, e_120, e_122, e_192, e_200, e_255, e_256, e_300, e_500, e_600, e_2000, e_5000, e_5240, e_6146, e_20000, e_65536, nIo, nI_clamp, nIxt, nI_1, nI_add, nI_mul, nI_eqF, nI_ltT, nI_ltF, nI_leT, nI_leF, nN_lt0, nN_le, nN_lt, nN_eq, nN_eq', eq_self, nBdS]
          exact g1
        · rw [nLpP _ _ (by omega)]
          simp (disch := first | omega | exact nM1_n | exact nM2_n | assumption) only [b_X11_targets_9, l_X11_targets_54, b_X11_targets_54, t48, t3, p2, a2, ↓nLetR, ↓reduceIte, ↓e_m1, ↓e_m2, e_0, e_1, e_2, e_3, e_4, e_5, e_6, e_7, e_8, e_9, e_10, e_11, e_12, e_13, e_14, e_15, e_16, e_17, e_18, e_19, e_20, e_21, e_22, e_23, e_24, e_25, e_26, e_27, e_28, e_29, e_30, e_31, e_32, e_33, e_48, e_57, e_59, e_60, e_63, e_64, e_96, e_97, e_99, e_120, e_122, e_192, e_200, e_255, e_256, e_300, e_500, e_600, e_2000, e_5000, e_5240, e_6146, e_20000, e_65536, nIo, nI_clamp, nIxt, nI_1, nI_add, nI_mul, nI_eqF, nI_ltT, nI_ltF, nI_leT, nI_leF, nN_lt0, nN_le, nN_lt, nN_eq, nN_eq', eq_self, nBdS]
          exact g2
theorem tF.end {c i q ii : Nat} {σ1 τ1 σ τ : nS} {o : Int32} (h : tF c i q ii σ1 τ1 σ τ) (h1 : σ1.1 c i = o) (h2 : τ1.1 q ii = o) : mF σ1 τ1 (wr σ c i o) (wr τ q ii o) := (h o).cg (ww0 h1).symm (ww0 h2).symm rfl rfl
theorem tF.rf {c i q ii : Nat} {σ τ : nS} : tF c i q ii σ τ σ τ := fun _ => mF.rf
theorem tgt_is {N F S P B b n pl k j q C M : Nat} {w : Int32} {σ τ : nS} (hN : 7000 ≤ N) (hC : C + 24 < 5000) (hM : M + 12000 + 600 < 2 ^ 31) (hH : hHs F S P B σ τ) (hB : hBk F S b n σ τ) (hq : qA b pl σ τ) (hkn : k < n) (hc : tgC b k j q τ) (hR : cR C σ τ) (hk : hMk M τ) :
    ∃ M' σ' τ', f_X8_tryTargets N w (nI k) (nI j) σ = some (nI 0, σ') ∧ f_X11_targets N q w (nI k) (nI (24 * b + k)) τ = some (nI 0, τ') ∧ mF σ τ σ' τ' ∧ cR (C + 24) σ' τ' ∧ hMk M' τ' ∧ M ≤ M' ∧ M' ≤ M + 12000 := by
  obtain ⟨hb, ⟨hn1, hn2⟩, z1, z2, hst⟩ := id hB
  have hj : j < 5 ∧ 5 ≤ q ∧ q ≤ 7 := by rcases hc with ⟨_, ⟨rfl, rfl⟩ | ⟨rfl, rfl⟩⟩ | ⟨_, rfl, rfl⟩ <;> decide
  obtain ⟨o, ho, e1, e2⟩ : ∃ o, o < n ∧ σ.1 5 ((b * 24 + k) * 5 + j) = nI o ∧ τ.1 q (24 * b + k) = nI o := by
    obtain ⟨⟨c0, c1, c2, c3, c4⟩, hs⟩ := hst k hkn
    rcases hc with ⟨hkd, hc⟩ | ⟨hkd, rfl, rfl⟩
    · rw [hkd] at hs
      rcases hs with ⟨hx, _⟩ | ⟨_, _, ⟨t, ht, et⟩, ⟨h, hh, eh⟩⟩ | ⟨hx, _⟩ | ⟨hx, _⟩ | hx
      · rcases hx with hx | hx <;> exact absurd hx (by decide)
      · rcases hc with ⟨rfl, rfl⟩ | ⟨rfl, rfl⟩
        · exact ⟨t, ht, c2.trans et, et⟩
        · exact ⟨h, hh, c3.trans eh, eh⟩
      · exact absurd hx (by decide)
      · exact absurd hx (by decide)
      · exact absurd hx (by decide)
    · rw [hkd] at hs
      rcases hs with ⟨hx, _⟩ | ⟨hx, _⟩ | ⟨hx, _⟩ | ⟨_, t, ht, et⟩ | hx
      · rcases hx with hx | hx <;> exact absurd hx (by decide)
      · exact absurd hx (by decide)
      · exact absurd hx (by decide)
      · exact ⟨t, ht, c1.trans et, et⟩
      · exact absurd hx (by decide)
  obtain ⟨M', σ', τ', g1, g2, g3, g4, g5, g6⟩ := tgt_go (N := N) (w := w) hN hH hB hq hkn hc ho n 0 N N C M σ τ (by omega) (by omega) (by omega) (by omega) (by omega) tF.rf hR hk
  have hcell := cell_is (N := N) (σ := σ) (b := b) (k := k) (j := j) hb (by omega) hj.1
  rw [e1] at hcell
  refine ⟨M', _, _, ?_, ?_, g3.end e1 e2, (g4.up (by omega)).fr (wrc _ _ _ (by decide)) (wrc _ _ _ (by omega)) (by rw [wrc _ _ _ (by omega)]), ?_, by omega⟩
  · have h16 := hq.1
    simp (disch := first | omega | exact nM1_n | exact nM2_n | assumption) only [f_X8_tryTargets, l_X8_tryTargets_0, b_X8_tryTargets_0, h16, hcell, ↓nLetR, ↓reduceIte, ↓e_m1, ↓e_m2, e_0, e_1, e_2, e_3, e_4, e_5, e_6, e_7, e_8, e_9, e_10, e_11, e_12, e_13, e_14, e_15, e_16, e_17, e_18, e_19, e_20, e_21, e_22, e_23, e_24, e_25, e_26, e_27, e_28, e_29, e_30, e_31, e_32, e_33, e_48, e_57, e_59, e_60, e_63, e_64, e_96, e_97, e_99, e_120, e_122, e_192, e_200, e_255, e_256, e_300, e_500, e_600, e_2000, e_5000, e_5240, e_6146, e_20000, e_65536, nIo, nI_clamp, nIxt, nI_1, nI_add, nI_mul, nI_eqF, nI_ltT, nI_ltF, nI_leT, nI_leF, nN_lt0, nN_le, nN_lt, nN_eq, nN_eq', eq_self, nBdS]
    exact g1
  · simp (disch := first | omega | exact nM1_n | exact nM2_n | assumption) only [f_X11_targets, l_X11_targets_0, b_X11_targets_0, e2, ↓nLetR, ↓reduceIte, ↓e_m1, ↓e_m2, e_0, e_1, e_2, e_3, e_4, e_5, e_6, e_7, e_8, e_9, e_10, e_11, e_12, e_13, e_14, e_15, e_16, e_17, e_18, e_19, e_20, e_21, e_22, e_23, e_24, e_25, e_26, e_27, e_28, e_29, e_30, e_31, e_32, e_33, e_48, e_57, e_59, e_60, e_63, e_64, e_96, e_97, e_99, e_120, e_122, e_192, e_200, e_255, e_256, e_300, e_500, e_600, e_2000, e_5000, e_5240, e_6146, e_20000, e_65536, nIo, nI_clamp, nIxt, nI_1, nI_add, nI_mul, nI_eqF, nI_ltT, nI_ltF, nI_leT, nI_leF, nN_lt0, nN_le, nN_lt, nN_eq, nN_eq', eq_self, nBdS]
    exact g2
  · unfold hMk
    rw [wrc _ _ _ (show 0 ≠ q by omega), wrc _ _ _ (show 12 ≠ q by omega)]
    exact g5
