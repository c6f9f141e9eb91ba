/-! BOOK: a step -/
theorem nBxS {R : Type} (x : Int32) (σ : nS) (k : Int32 → nS → Option (Option R × nS)) : nBx (some (some x, σ)) k = k x σ := rfl
theorem nBxN {R : Type} (σ : nS) (k : Int32 → nS → Option (Option R × nS)) : nBx (some (none, σ)) k = some (none, σ) := rfl
theorem hiS {v S : Nat} (hv : v < 100) (hS : S ≤ 8) (h : nI v ≤ nI S - nI 1) : v < S := by
  by_cases h0 : S = 0
  · subst h0
    rw [show nI 0 - nI 1 = nM1 from by decide] at h
    have := nN_i nM1_n
    have h2 := Int32.le_iff_toInt_le.mp h
    rw [nI_toInt (by omega)] at h2
    omega
  · rw [nI_subn S 1 (by omega)] at h
    by_cases h1 : v < S
    · exact h1
    · exact absurd h (nI_ge (by omega) (by omega))
def gC (B k t : Nat) (σ σ' : nS) : Prop := (∀ d, d ≠ 5 → d ≠ 6 → d ≠ 8 → d ≠ 9 → σ'.1 d = σ.1 d) ∧ (∀ f, f < 3 → σ'.1 6 f = σ.1 6 f) ∧ (∀ i, i < (B * 24 + k) * 5 → σ'.1 5 i = σ.1 5 i) ∧ ∀ i, i < t → σ'.1 8 i = σ.1 8 i ∧ σ'.1 9 i = σ.1 9 i
def gM (B k : Nat) (τ τ' : nS) : Prop := (∀ d, d ≠ 0 → d ≠ 9 → d ≠ 11 → (d < 4 ∨ 8 < d) → τ'.1 d = τ.1 d) ∧ (∀ f, (f < 21 ∨ 24 < f) → τ'.1 0 f = τ.1 0 f) ∧ (∀ d, 4 ≤ d → d ≤ 8 → ∀ i, i < 24 * B + k → τ'.1 d i = τ.1 d i) ∧ ∀ i, i < 2 * k → τ'.1 11 i = τ.1 11 i
theorem gC.rf {B k t : Nat} {a : nS} : gC B k t a a := ⟨fun _ _ _ _ _ => rfl, fun _ _ => rfl, fun _ _ => rfl, fun _ _ => ⟨rfl, rfl⟩⟩
theorem gM.rf {B k : Nat} {a : nS} : gM B k a a := ⟨fun _ _ _ _ _ => rfl, fun _ _ => rfl, fun _ _ _ _ _ => rfl, fun _ _ => rfl⟩
theorem gC.trans {B k t : Nat} {a b c : nS} (h : gC B k t a b) (g : gC B k t b c) : gC B k t a c := ⟨fun d e1 e2 e3 e4 => (g.1 d e1 e2 e3 e4).trans (h.1 d e1 e2 e3 e4), fun f e => (g.2.1 f e).trans (h.2.1 f e), fun i e => (g.2.2.1 i e).trans (h.2.2.1 i e), fun i e => ⟨(g.2.2.2 i e).1.trans (h.2.2.2 i e).1, (g.2.2.2 i e).2.trans (h.2.2.2 i e).2⟩⟩
theorem gM.trans {B k : Nat} {a b c : nS} (h : gM B k a b) (g : gM B k b c) : gM B k a c := ⟨fun d e1 e2 e3 e4 => (g.1 d e1 e2 e3 e4).trans (h.1 d e1 e2 e3 e4), fun f e => (g.2.1 f e).trans (h.2.1 f e), fun d e1 e2 i e => (g.2.2.1 d e1 e2 i e).trans (h.2.2.1 d e1 e2 i e), fun i e => (g.2.2.2 i e).trans (h.2.2.2 i e)⟩
theorem aD.g {B k t : Nat} {a b : nS} (h : aD a b) : gC B k t a b := ⟨fun d _ e2 _ _ => h.1 d e2, fun f e => h.2 f (by omega), fun i _ => by rw [h.1 5 (by decide)], fun i _ => by rw [h.1 8 (by decide), h.1 9 (by decide)]; exact ⟨rfl, rfl⟩⟩
theorem aM.g {B k : Nat} {a b : nS} (h : aM a b) : gM B k a b := ⟨fun d e1 _ _ _ => h.1 d e1, h.2, fun d e1 _ i _ => by rw [h.1 d (by omega)], fun i _ => by rw [h.1 11 (by decide)]⟩
theorem gC.w5 {B k t : Nat} {a : nS} (j : Nat) (v : Int32) : gC B k t a (wr a 5 ((B * 24 + k) * 5 + j) v) := ⟨fun d e1 _ _ _ => wrc _ _ _ e1, fun f e => by rw [wrc _ _ _ (by decide)], fun i e => wrk _ _ _ (by omega), fun i e => ⟨by rw [wrc _ _ _ (by decide)], by rw [wrc _ _ _ (by decide)]⟩⟩
theorem gC.w6 {B k t : Nat} {a : nS} (f : Nat) (v : Int32) (h : 3 ≤ f) : gC B k t a (wr a 6 f v) := ⟨fun d _ e2 _ _ => wrc _ _ _ e2, fun g e => wrk _ _ _ (by omega), fun i e => by rw [wrc _ _ _ (by decide)], fun i e => ⟨by rw [wrc _ _ _ (by decide)], by rw [wrc _ _ _ (by decide)]⟩⟩
theorem gC.w8 {B k t : Nat} {a : nS} (i : Nat) (v : Int32) (h : t ≤ i) : gC B k t a (wr a 8 i v) := ⟨fun d _ _ e3 _ => wrc _ _ _ e3, fun g e => by rw [wrc _ _ _ (by decide)], fun i e => by rw [wrc _ _ _ (by decide)], fun j e => ⟨wrk _ _ _ (by omega), by rw [wrc _ _ _ (by decide)]⟩⟩
theorem gC.w9 {B k t : Nat} {a : nS} (i : Nat) (v : Int32) (h : t ≤ i) : gC B k t a (wr a 9 i v) := ⟨fun d _ _ _ e4 => wrc _ _ _ e4, fun g e => by rw [wrc _ _ _ (by decide)], fun i e => by rw [wrc _ _ _ (by decide)], fun j e => ⟨by rw [wrc _ _ _ (by decide)], wrk _ _ _ (by omega)⟩⟩
theorem gM.wd {B k : Nat} {a : nS} (d : Nat) (v : Int32) (h : 4 ≤ d ∧ d ≤ 8) : gM B k a (wr a d (24 * B + k) v) := ⟨fun d' _ _ _ e4 => wrc _ _ _ (by omega), fun f e => by rw [wrc _ _ _ (by omega)], fun d' e1 e2 i e => by
    by_cases q : d' = d
    · subst q; exact wrk _ _ _ (by omega)
    · rw [wrc _ _ _ q], fun i e => by rw [wrc _ _ _ (by omega)]⟩
theorem gM.w11 {B k : Nat} {a : nS} (i : Nat) (v : Int32) (h : 2 * k ≤ i) : gM B k a (wr a 11 i v) := ⟨fun d _ _ e3 _ => wrc _ _ _ e3, fun f e => by rw [wrc _ _ _ (by decide)], fun d e1 e2 i e => by rw [wrc _ _ _ (by omega)], fun j e => wrk _ _ _ (by omega)⟩
theorem gM.w9 {B k : Nat} {a : nS} (i : Nat) (v : Int32) : gM B k a (wr a 9 i v) := ⟨fun d _ e2 _ _ => wrc _ _ _ e2, fun f e => by rw [wrc _ _ _ (by decide)], fun d e1 e2 i e => by rw [wrc _ _ _ (by omega)], fun j e => by rw [wrc _ _ _ (by decide)]⟩
theorem rdR.g {n B k t : Nat} {c : Nat → Nat} {σ τ σ' τ' : nS} (h : rdR n c σ τ) (g1 : gC B k t σ σ') (g2 : gM B k τ τ') : rdR n c σ' τ' := by
  unfold rdR
  rw [g1.1 7 (by decide) (by decide) (by decide) (by decide), g1.2.1 2 (by decide), g2.1 10 (by decide) (by decide) (by decide) (by decide), g2.2.1 20 (by decide)]
  exact h
theorem tR.fr {n p : Nat} {c : Nat → Nat} {σ τ σ' τ' : nS} (h : tR n c p σ τ) (e1 : ∀ f, f < 7 → σ'.1 6 f = σ.1 6 f) (e2 : ∀ f, f < 25 → τ'.1 0 f = τ.1 0 f) (e3 : τ'.2 0 26 = τ.2 0 26) : tR n c p σ' τ' := by
  unfold tR
  rw [e1 3 (by decide), e1 4 (by decide), e1 5 (by decide), e1 6 (by decide), e2 21 (by decide), e2 22 (by decide), e2 23 (by decide), e2 24 (by decide), e3]
  exact h
/-- the targets that a step has -/
def tgO (B k t p p' : Nat) (σ τ : nS) : Prop :=
  (¬ τ.1 4 (24 * B + k) = nI 2 ∧ ¬ τ.1 4 (24 * B + k) = nI 4 ∧ σ.1 6 13 = nI t) ∨
  (τ.1 4 (24 * B + k) = nI 4 ∧ ∃ v q, v < 100 ∧ p < q ∧ q < p' ∧ τ.1 5 (24 * B + k) = nI v ∧ τ.1 11 (2 * k) = nI q ∧ σ.1 8 t = nI v ∧ σ.1 9 t = nI q ∧ σ.1 6 13 = nI (t + 1)) ∨
  (τ.1 4 (24 * B + k) = nI 2 ∧ ∃ v q v2 q2, v < 100 ∧ v2 < 100 ∧ p < q ∧ q < q2 ∧ q2 < p' ∧ τ.1 6 (24 * B + k) = nI v ∧ τ.1 11 (2 * k) = nI q ∧ τ.1 7 (24 * B + k) = nI v2 ∧ τ.1 11 (2 * k + 1) = nI q2 ∧ σ.1 8 t = nI v ∧ σ.1 9 t = nI q ∧ σ.1 8 (t + 1) = nI v2 ∧ σ.1 9 (t + 1) = nI q2 ∧ σ.1 6 13 = nI (t + 2))
def sRes (B k t p F S n : Nat) (c : Nat → Nat) (σ τ : nS) (R8 : Option (Int32 × nS)) (R11 : Option (Option Int32 × nS)) : Prop :=
  (∃ p' σ' τ', R8 = some (nI 1, σ') ∧ R11 = some (some (nI 0), τ') ∧ p < p' ∧ tR n c p' σ' τ' ∧ gC B k t σ σ' ∧ gM B k τ τ' ∧ σ'.1 6 9 = σ.1 6 9 ∧ iStep F S 100 B k (σ'.1 5) (τ'.1 4) (τ'.1 5) (τ'.1 6) (τ'.1 7) (τ'.1 8) ∧ tgO B k t p p' σ' τ') ∨
  ∃ f q σ' τ', R8 = some (nI 0, σ') ∧ R11 = some (none, τ') ∧ gC B k t σ σ' ∧ gM B k τ τ' ∧ σ'.1 6 9 = nI f ∧ σ'.1 6 10 = nI q ∧ τ'.1 9 6 = nI f ∧ τ'.1 9 7 = nI q
theorem failS {B k t p F S n : Nat} {c : Nat → Nat} {σ τ σ1 τ1 : nS} {R8 : Option (Int32 × nS)} {R11 : Option (Option Int32 × nS)} {f q : Nat} (h1 : gC B k t σ σ1) (h2 : gM B k τ τ1) (e1 : R8 = some (nI 0, flC σ1 f q)) (e2 : R11 = some (none, flM τ1 f q)) : sRes B k t p F S n c σ τ R8 R11 := by
  refine Or.inr ⟨f, q, _, _, e1, e2, h1.trans ((gC.w6 9 _ (by decide)).trans (gC.w6 10 _ (by decide))), h2.trans ((gM.w9 6 _).trans (gM.w9 7 _)), ?_, ?_, ?_, ?_⟩
  · unfold flC; simp (disch := decide) only [wrs, wrk, wrc, wr2, wl1, wls, wlk, wlc]
  · unfold flC; simp (disch := decide) only [wrs, wrk, wrc, wr2, wl1, wls, wlk, wlc]
  · unfold flM; simp (disch := decide) only [wrs, wrk, wrc, wr2, wl1, wls, wlk, wlc]
  · unfold flM; simp (disch := decide) only [wrs, wrk, wrc, wr2, wl1, wls, wlk, wlc]
/-- a step cleared -/
def clC (B k : Nat) (σ : nS) : nS := wr (wr (wr (wr σ 5 ((B * 24 + k) * 5 + 1) (nI 0)) 5 ((B * 24 + k) * 5 + 2) (nI 0)) 5 ((B * 24 + k) * 5 + 3) (nI 0)) 5 ((B * 24 + k) * 5 + 4) nM1
def clM (i : Nat) (what : Int32) (τ : nS) : nS := wr (wr (wr (wr (wr τ 4 i what) 5 i (nI 0)) 6 i (nI 0)) 7 i (nI 0)) 8 i nM1
theorem clC_is {N B k : Nat} {σ : nS} (hB : B < 5) (hk : k < 24) (h1 : σ.1 1 3 = nI B) : f_X4_clearStep N (nI k) σ = some (nI 0, clC B k σ) := by
  unfold clC
  simp (disch := first | omega | exact nM1_n | exact nM2_n | assumption) only [b_X4_clearStep_0, l_X4_clearStep_0, f_X4_clearStep, h1, set_is hB hk, ↓nLetR, ↓reduceIte, ↓e_m1, ↓e_m2, e_0, e_1, e_2, e_3, e_4, e_5, e_6, e_7, e_8, e_9, e_10, e_11, e_12, e_13, e_14, e_15, e_16, e_17, e_18, e_19, e_20, e_21, e_22, e_23, e_24, e_25, e_26, e_27, e_28, e_29, e_30, e_31, e_32, e_33, e_48, e_57, e_59, e_60, e_63, e_64, e_96, e_97, e_99, e_120, e_122, e_192, e_200, e_255, e_256, e_300, e_500, e_600, e_2000, e_5000, e_5240, e_6146, e_20000, e_65536, nIo, nI_clamp, nIxt, nI_1, nI_add, nI_mul, nI_eqF, nI_ltT, nI_ltF, nI_leT, nI_leF, nN_lt0, nN_le, nN_lt, nN_eq, nN_eq', eq_self, nBdS, wrs, wrk, wrc, wr2, wl1, wls, wlk, wlc]
theorem clC_g {B k t : Nat} {σ : nS} : gC B k t σ (clC B k σ) := (gC.w5 1 _).trans ((gC.w5 2 _).trans ((gC.w5 3 _).trans (gC.w5 4 _)))
theorem clM_g {B k : Nat} {what : Int32} {τ : nS} : gM B k τ (clM (24 * B + k) what τ) := (gM.wd 4 _ (by decide)).trans ((gM.wd 5 _ (by decide)).trans ((gM.wd 6 _ (by decide)).trans ((gM.wd 7 _ (by decide)).trans (gM.wd 8 _ (by decide)))))
theorem clC_6 {B k : Nat} {σ : nS} : (clC B k σ).1 6 = σ.1 6 := by unfold clC; simp (disch := decide) only [wrs, wrk, wrc, wr2, wl1, wls, wlk, wlc]
theorem clC_1 {B k : Nat} {σ : nS} : (clC B k σ).1 1 = σ.1 1 := by unfold clC; simp (disch := decide) only [wrs, wrk, wrc, wr2, wl1, wls, wlk, wlc]
theorem clM_0 {i : Nat} {what : Int32} {τ : nS} : (clM i what τ).1 0 = τ.1 0 := by unfold clM; simp (disch := decide) only [wrs, wrk, wrc, wr2, wl1, wls, wlk, wlc]
theorem clC5 {B k : Nat} {σ : nS} : (clC B k σ).1 5 = upd (upd (upd (upd (σ.1 5) ((B * 24 + k) * 5 + 1) (nI 0)) ((B * 24 + k) * 5 + 2) (nI 0)) ((B * 24 + k) * 5 + 3) (nI 0)) ((B * 24 + k) * 5 + 4) nM1 := by
  unfold clC
  rw [wrf, wrf, wrf, wrf]
theorem clM_v {i : Nat} {what : Int32} {τ : nS} : (clM i what τ).1 4 i = what ∧ (clM i what τ).1 5 i = nI 0 ∧ (clM i what τ).1 6 i = nI 0 ∧ (clM i what τ).1 7 i = nI 0 ∧ (clM i what τ).1 8 i = nM1 := by
  unfold clM
  simp (disch := decide) only [wrs, wrk, wrc, wr2, wl1, wls, wlk, wlc]
  exact ⟨trivial, trivial, trivial, trivial, trivial⟩
theorem wsame {N n p j r : Nat} {c : Nat → Nat} {σ τ : nS} (hN : 10 ≤ N) (hr : rdR n c σ τ) (ht : tR n c p σ τ) (hj : j < 12) (hr2 : r < 2) (h : f_X11_isWord N j τ = some (nI r, τ)) : f_X4_isWord N j σ = some (nI r, σ) := by
  obtain ⟨r', q1, q2, q3, _⟩ := word_is (N := N) hN hr ht hj
  rw [q3] at h
  have e : nI r' = nI r := by injection h with h; injection h
  have := (nI_eq (by omega) (by omega)).mp e
  subst this
  exact q2
theorem rs3 {N i k : Nat} {τ : nS} (hi : i < 120) : f_X11_readStep N (nI i) (nI k) (nI 3) τ = nBx (f_X11_needNumber N (nI 1) (nI 60) (clM i (nI 3) τ)) (fun r s => some (some (nI 0), wr s 5 i r)) := by
  unfold clM
  simp (disch := first | omega | exact nM1_n | exact nM2_n | assumption) only [f_X11_readStep, l_X11_readStep_0, b_X11_readStep_0, ↓nLetR, ↓reduceIte, ↓e_m1, ↓e_m2, e_0, e_1, e_2, e_3, e_4, e_5, e_6, e_7, e_8, e_9, e_10, e_11, e_12, e_13, e_14, e_15, e_16, e_17, e_18, e_19, e_20, e_21, e_22, e_23, e_24, e_25, e_26, e_27, e_28, e_29, e_30, e_31, e_32, e_33, e_48, e_57, e_59, e_60, e_63, e_64, e_96, e_97, e_99, e_120, e_122, e_192, e_200, e_255, e_256, e_300, e_500, e_600, e_2000, e_5000, e_5240, e_6146, e_20000, e_65536, nIo, nI_clamp, nIxt, nI_1, nI_add, nI_mul, nI_eqF, nI_ltT, nI_ltF, nI_leT, nI_leF, nN_lt0, nN_le, nN_lt, nN_eq, nN_eq', eq_self, nBdS]
theorem rs4 {N i k : Nat} {τ : nS} (hi : i < 120) : f_X11_readStep N (nI i) (nI k) (nI 4) τ = nBx (f_X11_needTarget N (nI k) (nI 0) (clM i (nI 4) τ)) (fun r s => some (some (nI 0), wr s 5 i r)) := by
  unfold clM
  simp (disch := first | omega | exact nM1_n | exact nM2_n | assumption) only [f_X11_readStep, l_X11_readStep_0, b_X11_readStep_0, ↓nLetR, ↓reduceIte, ↓e_m1, ↓e_m2, e_0, e_1, e_2, e_3, e_4, e_5, e_6, e_7, e_8, e_9, e_10, e_11, e_12, e_13, e_14, e_15, e_16, e_17, e_18, e_19, e_20, e_21, e_22, e_23, e_24, e_25, e_26, e_27, e_28, e_29, e_30, e_31, e_32, e_33, e_48, e_57, e_59, e_60, e_63, e_64, e_96, e_97, e_99, e_120, e_122, e_192, e_200, e_255, e_256, e_300, e_500, e_600, e_2000, e_5000, e_5240, e_6146, e_20000, e_65536, nIo, nI_clamp, nIxt, nI_1, nI_add, nI_mul, nI_eqF, nI_ltT, nI_ltF, nI_leT, nI_leF, nN_lt0, nN_le, nN_lt, nN_eq, nN_eq', eq_self, nBdS]
theorem rs5 {N i k : Nat} {τ : nS} (hi : i < 120) : f_X11_readStep N (nI i) (nI k) (nI 5) τ = some (some (nI 0), clM i (nI 5) τ) := by
  unfold clM
  simp (disch := first | omega | exact nM1_n | exact nM2_n | assumption) only [f_X11_readStep, l_X11_readStep_0, b_X11_readStep_0, ↓nLetR, ↓reduceIte, ↓e_m1, ↓e_m2, e_0, e_1, e_2, e_3, e_4, e_5, e_6, e_7, e_8, e_9, e_10, e_11, e_12, e_13, e_14, e_15, e_16, e_17, e_18, e_19, e_20, e_21, e_22, e_23, e_24, e_25, e_26, e_27, e_28, e_29, e_30, e_31, e_32, e_33, e_48, e_57, e_59, e_60, e_63, e_64, e_96, e_97, e_99, e_120, e_122, e_192, e_200, e_255, e_256, e_300, e_500, e_600, e_2000, e_5000, e_5240, e_6146, e_20000, e_65536, nIo, nI_clamp, nIxt, nI_1, nI_add, nI_mul, nI_eqF, nI_ltT, nI_ltF, nI_leT, nI_leF, nN_lt0, nN_le, nN_lt, nN_eq, nN_eq', eq_self, nBdS]
theorem rs2 {N i k S : Nat} {τ : nS} (hi : i < 120) (h5 : τ.1 0 5 = nI S) : f_X11_readStep N (nI i) (nI k) (nI 2) τ = nBx (f_X11_needNumber N (nI 0) (nI S - nI 1) (clM i (nI 2) τ)) (fun r s => nBx (f_X11_needWord N 10 (wr s 5 i r)) (fun _ s => nBx (f_X11_needTarget N (nI k) (nI 0) s) (fun r s => nBx (f_X11_needWord N 11 (wr s 6 i r)) (fun _ s => nBx (f_X11_needTarget N (nI k) (nI 1) s) (fun r s => some (some (nI 0), wr s 7 i r)))))) := by
  unfold clM
  simp (disch := first | omega | exact nM1_n | exact nM2_n | assumption) only [f_X11_readStep, l_X11_readStep_0, b_X11_readStep_0, h5, ↓nLetR, ↓reduceIte, ↓e_m1, ↓e_m2, e_0, e_1, e_2, e_3, e_4, e_5, e_6, e_7, e_8, e_9, e_10, e_11, e_12, e_13, e_14, e_15, e_16, e_17, e_18, e_19, e_20, e_21, e_22, e_23, e_24, e_25, e_26, e_27, e_28, e_29, e_30, e_31, e_32, e_33, e_48, e_57, e_59, e_60, e_63, e_64, e_96, e_97, e_99, e_120, e_122, e_192, e_200, e_255, e_256, e_300, e_500, e_600, e_2000, e_5000, e_5240, e_6146, e_20000, e_65536, nIo, nI_clamp, nIxt, nI_1, nI_add, nI_mul, nI_eqF, nI_ltT, nI_ltF, nI_leT, nI_leF, nN_lt0, nN_le, nN_lt, nN_eq, nN_eq', eq_self, nBdS, wrs, wrk, wrc, wr2, wl1, wls, wlk, wlc]
theorem wait_is {N B k t p a F S n : Nat} {c : Nat → Nat} {σ τ : nS} (hN : 700 ≤ N) (hB : B < 5) (hk : k < 24) (hr : rdR n c σ τ) (h1 : σ.1 1 3 = nI B) (h13 : σ.1 6 13 = nI t) (ha : p < a) (ha2 : a ≤ n) (e3 : σ.1 6 3 = nI a) (e21 : τ.1 0 21 = nI a)
    (w0 : f_X4_isWord N 0 (clC B k σ) = some (nI 0, clC B k σ)) (w1 : f_X4_isWord N 1 (clC B k σ) = some (nI 0, clC B k σ)) (w2 : f_X4_isWord N 2 (clC B k σ) = some (nI 1, clC B k σ)) :
    ∃ τ1, f_X11_next N τ = some (nI 0, τ1) ∧ aM τ τ1 ∧ sRes B k t p F S n c σ τ (f_X4_readStep N (nI k) σ) (f_X11_readStep N (nI (24 * B + k)) (nI k) (nI 3) τ1) := by
  have hi : 24 * B + k < 120 := by omega
  have hcl := clC_is (N := N) (σ := σ) hB hk h1
  have hs0 : f_X7_setCell N (nI B) (nI k) (nI 0) (nI 3) (clC B k σ) = some (nI 0, wr (clC B k σ) 5 ((B * 24 + k) * 5) (nI 3)) := set_is hB hk (by decide)
  have c13 : (clC B k σ).1 1 3 = nI B := by rw [clC_1]; exact h1
  have gd : gC B k t σ (wr (clC B k σ) 5 ((B * 24 + k) * 5) (nI 3)) := clC_g.trans (gC.w5 0 _)
  obtain ⟨p1, σ1, τ1, a1, a2, a3, a4, a5, a6⟩ := adv_is (N := N) (a := a) hN (hr.g gd gM.rf) (by rw [wrc _ _ _ (by decide), clC_6]; exact e3) e21 ha2
  refine ⟨τ1, a3, a6, ?_⟩
  rw [rs3 hi]
  have gC1 := gd.trans (B := B) (k := k) (t := t) a5.d.g
  have gM1 : gM B k τ (clM (24 * B + k) (nI 3) τ1) := a6.g.trans clM_g
  have ht : tR n c p1 σ1 (clM (24 * B + k) (nI 3) τ1) := a4.fr (fun _ _ => rfl) (fun f _ => by rw [clM_0]) rfl
  rcases tn_is (N := N) (l := 1) (hi := nI 60) hN (by decide) (hr.g gC1 gM1) ht with ⟨v, p2, σ2, τ2, hv, hl, hh, hp2, b1, b2, b7, b8, b3, b4, b5⟩ | ⟨f, hf, b1, b2⟩
  · have hv60 : v ≤ 60 := by
      by_cases q : v ≤ 60
      · exact q
      · exact absurd hh (nI_ge (by omega) (by omega))
    have k13 : σ2.1 1 3 = nI B := by rw [b4.1 1 (by decide), a5.1 1 (by decide), wrc _ _ _ (by decide)]; exact c13
    have hkp := keep_is (N := N) (j := 1) hB hk (by decide) k13 b7
    have s5 : (wr σ2 5 ((B * 24 + k) * 5 + 1) (nI v)).1 5 = upd (upd ((clC B k σ).1 5) ((B * 24 + k) * 5) (nI 3)) ((B * 24 + k) * 5 + 1) (nI v) := by rw [wrf, b4.1 5 (by decide), a5.1 5 (by decide), wrf]
    obtain ⟨x4, x5, x6, x7, x8⟩ := clM_v (i := 24 * B + k) (what := nI 3) (τ := τ1)
    have T4 : (wr τ2 5 (24 * B + k) (nI v)).1 4 (24 * B + k) = nI 3 := by rw [wrc _ _ _ (by decide), b5.1 4 (by decide)]; exact x4
    refine Or.inl ⟨p2, wr σ2 5 ((B * 24 + k) * 5 + 1) (nI v), wr τ2 5 (24 * B + k) (nI v), ?_, ?_, by omega, b3.fr (fun f _ => by rw [wrc _ _ _ (by decide)]) (fun f _ => by rw [wrc _ _ _ (by decide)]) rfl, gC1.trans (b4.g.trans (gC.w5 1 _)), gM1.trans (b5.g.trans (gM.wd 5 _ (by decide))), (by rw [wrc _ _ _ (by decide), b4.2 9 (by decide), a5.2 9 (by decide), wrc _ _ _ (by decide), clC_6]), ⟨⟨?_, ?_, ?_, ?_, ?_⟩, ?_⟩, Or.inl ⟨?_, ?_, ?_⟩⟩
    · simp (disch := first | omega | exact nM1_n | exact nM2_n | assumption) only [b_X4_readStep_0, l_X4_readStep_0, f_X4_readStep, hcl, w0, w1, w2, c13, hs0, a2, b1, hkp, ↓nLetR, ↓reduceIte, ↓e_m1, ↓e_m2, e_0, e_1, e_2, e_3, e_4, e_5, e_6, e_7, e_8, e_9, e_10, e_11, e_12, e_13, e_14, e_15, e_16, e_17, e_18, e_19, e_20, e_21, e_22, e_23, e_24, e_25, e_26, e_27, e_28, e_29, e_30, e_31, e_32, e_33, e_48, e_57, e_59, e_60, e_63, e_64, e_96, e_97, e_99, e_120, e_122, e_192, e_200, e_255, e_256, e_300, e_500, e_600, e_2000, e_5000, e_5240, e_6146, e_20000, e_65536, nIo, nI_clamp, nIxt, nI_1, nI_add, nI_mul, nI_eqF, nI_ltT, nI_ltF, nI_leT, nI_leF, nN_lt0, nN_le, nN_lt, nN_eq, nN_eq', eq_self, nBdS]
    · rw [b2, nBxS]
    · rw [s5, clC5, T4]; simp (disch := omega) only [pk_us, pk_un]
    · rw [s5, clC5, wrs]; simp (disch := omega) only [pk_us, pk_un]
    · rw [s5, clC5, wrc _ _ _ (by decide), b5.1 6 (by decide), x6]; simp (disch := omega) only [pk_us, pk_un]
    · rw [s5, clC5, wrc _ _ _ (by decide), b5.1 7 (by decide), x7]; simp (disch := omega) only [pk_us, pk_un]
    · rw [s5, clC5, wrc _ _ _ (by decide), b5.1 8 (by decide), x8]; simp (disch := omega) only [pk_us, pk_un]
    · rw [T4, wrs]
      exact Or.inr (Or.inr (Or.inl ⟨rfl, v, hl, hv60, rfl⟩))
    · rw [T4]; decide
    · rw [T4]; decide
    · rw [wrc _ _ _ (by decide), b4.2 13 (by decide), a5.2 13 (by decide), wrc _ _ _ (by decide), clC_6]; exact h13
  · refine failS gC1 gM1 (f := f) (q := p1) ?_ ?_
    · simp (disch := first | omega | exact nM1_n | exact nM2_n | assumption) only [b_X4_readStep_0, l_X4_readStep_0, f_X4_readStep, hcl, w0, w1, w2, c13, hs0, a2, b1, ↓nLetR, ↓reduceIte, ↓e_m1, ↓e_m2, e_0, e_1, e_2, e_3, e_4, e_5, e_6, e_7, e_8, e_9, e_10, e_11, e_12, e_13, e_14, e_15, e_16, e_17, e_18, e_19, e_20, e_21, e_22, e_23, e_24, e_25, e_26, e_27, e_28, e_29, e_30, e_31, e_32, e_33, e_48, e_57, e_59, e_60, e_63, e_64, e_96, e_97, e_99, e_120, e_122, e_192, e_200, e_255, e_256, e_300, e_500, e_600, e_2000, e_5000, e_5240, e_6146, e_20000, e_65536, nIo, nI_clamp, nIxt, nI_1, nI_add, nI_mul, nI_eqF, nI_ltT, nI_ltF, nI_leT, nI_leF, nN_lt0, nN_le, nN_lt, nN_eq, nN_eq', eq_self, nBdS]
    · rw [b2, nBxN]
theorem go_is {N B k t p a F S n : Nat} {c : Nat → Nat} {σ τ : nS} (hN : 700 ≤ N) (hB : B < 5) (hk : k < 24) (htk : t < 47) (hr : rdR n c σ τ) (h1 : σ.1 1 3 = nI B) (h13 : σ.1 6 13 = nI t) (ha : p < a) (ha2 : a ≤ n) (e3 : σ.1 6 3 = nI a) (e21 : τ.1 0 21 = nI a)
    (w0 : f_X4_isWord N 0 (clC B k σ) = some (nI 0, clC B k σ)) (w1 : f_X4_isWord N 1 (clC B k σ) = some (nI 0, clC B k σ)) (w2 : f_X4_isWord N 2 (clC B k σ) = some (nI 0, clC B k σ)) (w3 : f_X4_isWord N 3 (clC B k σ) = some (nI 1, clC B k σ)) :
    ∃ τ1, f_X11_next N τ = some (nI 0, τ1) ∧ aM τ τ1 ∧ sRes B k t p F S n c σ τ (f_X4_readStep N (nI k) σ) (f_X11_readStep N (nI (24 * B + k)) (nI k) (nI 4) τ1) := by
  have hi : 24 * B + k < 120 := by omega
  have hcl := clC_is (N := N) (σ := σ) hB hk h1
  have hs0 : f_X7_setCell N (nI B) (nI k) (nI 0) (nI 4) (clC B k σ) = some (nI 0, wr (clC B k σ) 5 ((B * 24 + k) * 5) (nI 4)) := set_is hB hk (by decide)
  have c13 : (clC B k σ).1 1 3 = nI B := by rw [clC_1]; exact h1
  have gd : gC B k t σ (wr (clC B k σ) 5 ((B * 24 + k) * 5) (nI 4)) := clC_g.trans (gC.w5 0 _)
  obtain ⟨p1, σ1, τ1, a1, a2, a3, a4, a5, a6⟩ := adv_is (N := N) (a := a) hN (hr.g gd gM.rf) (by rw [wrc _ _ _ (by decide), clC_6]; exact e3) e21 ha2
  refine ⟨τ1, a3, a6, ?_⟩
  rw [rs4 hi]
  have gC1 := gd.trans (B := B) (k := k) (t := t) a5.d.g
  have gM1 : gM B k τ (clM (24 * B + k) (nI 4) τ1) := a6.g.trans clM_g
  have ht : tR n c p1 σ1 (clM (24 * B + k) (nI 4) τ1) := a4.fr (fun _ _ => rfl) (fun f _ => by rw [clM_0]) rfl
  rcases tt_is (N := N) (k := k) (w := 0) hN hk (by decide) (hr.g gC1 gM1) ht with ⟨v, p2, σ2, τ2, hv, hp2, b1, b2, b7, b8, b3, b4, b5⟩ | ⟨b1, b2⟩
  · have k13 : σ2.1 1 3 = nI B := by rw [b4.1 1 (by decide), a5.1 1 (by decide), wrc _ _ _ (by decide)]; exact c13
    have q13 : σ2.1 6 13 = nI t := by rw [b4.2 13 (by decide), a5.2 13 (by decide), wrc _ _ _ (by decide), clC_6]; exact h13
    have hkp := kt_is (N := N) (j := 1) hB hk (by decide) k13 b7 b8 q13 (by omega)
    have s5 : (wr (wr (wr (wr σ2 8 t (nI v)) 9 t (nI p1)) 6 13 (nI (t + 1))) 5 ((B * 24 + k) * 5 + 1) (nI v)).1 5 = upd (upd ((clC B k σ).1 5) ((B * 24 + k) * 5) (nI 4)) ((B * 24 + k) * 5 + 1) (nI v) := by
      rw [wrf]
      simp (disch := decide) only [wrc]
      rw [b4.1 5 (by decide), a5.1 5 (by decide), wrf]
    obtain ⟨x4, x5, x6, x7, x8⟩ := clM_v (i := 24 * B + k) (what := nI 4) (τ := τ1)
    have T4 : (wr τ2 5 (24 * B + k) (nI v)).1 4 (24 * B + k) = nI 4 := by rw [wrc _ _ _ (by decide), b5.1 4 (by decide), wrc _ _ _ (by decide)]; exact x4
    refine Or.inl ⟨p2, wr (wr (wr (wr σ2 8 t (nI v)) 9 t (nI p1)) 6 13 (nI (t + 1))) 5 ((B * 24 + k) * 5 + 1) (nI v), wr τ2 5 (24 * B + k) (nI v), ?_, ?_, by omega, b3.fr (fun f _ => by simp (disch := omega) only [wrs, wrk, wrc, wr2, wl1, wls, wlk, wlc]) (fun f _ => by rw [wrc _ _ _ (by decide)]) rfl, gC1.trans (b4.g.trans ((gC.w8 t _ (Nat.le_refl t)).trans ((gC.w9 t _ (Nat.le_refl t)).trans ((gC.w6 13 _ (by decide)).trans (gC.w5 1 _))))), gM1.trans ((gM.w11 (2 * k + 0) _ (by omega)).trans (b5.g.trans (gM.wd 5 _ (by decide)))), (by simp (disch := decide) only [wrs, wrk, wrc, wr2, wl1, wls, wlk, wlc]; rw [b4.2 9 (by decide), a5.2 9 (by decide), wrc _ _ _ (by decide), clC_6]), ⟨⟨?_, ?_, ?_, ?_, ?_⟩, ?_⟩, Or.inr (Or.inl ⟨T4, v, p1, hv, by omega, by omega, ?_, ?_, ?_, ?_, ?_⟩)⟩
    · simp (disch := first | omega | exact nM1_n | exact nM2_n | assumption) only [b_X4_readStep_0, l_X4_readStep_0, f_X4_readStep, hcl, w0, w1, w2, w3, c13, hs0, a2, b1, hkp, ↓nLetR, ↓reduceIte, ↓e_m1, ↓e_m2, e_0, e_1, e_2, e_3, e_4, e_5, e_6, e_7, e_8, e_9, e_10, e_11, e_12, e_13, e_14, e_15, e_16, e_17, e_18, e_19, e_20, e_21, e_22, e_23, e_24, e_25, e_26, e_27, e_28, e_29, e_30, e_31, e_32, e_33, e_48, e_57, e_59, e_60, e_63, e_64, e_96, e_97, e_99, e_120, e_122, e_192, e_200, e_255, e_256, e_300, e_500, e_600, e_2000, e_5000, e_5240, e_6146, e_20000, e_65536, nIo, nI_clamp, nIxt, nI_1, nI_add, nI_mul, nI_eqF, nI_ltT, nI_ltF, nI_leT, nI_leF, nN_lt0, nN_le, nN_lt, nN_eq, nN_eq', eq_self, nBdS]
    · rw [b2, nBxS]
    · rw [s5, clC5, T4]; simp (disch := omega) only [pk_us, pk_un]
    · rw [s5, clC5, wrs]; simp (disch := omega) only [pk_us, pk_un]
    · rw [s5, clC5, wrc _ _ _ (by decide), b5.1 6 (by decide), wrc _ _ _ (by decide), x6]; simp (disch := omega) only [pk_us, pk_un]
    · rw [s5, clC5, wrc _ _ _ (by decide), b5.1 7 (by decide), wrc _ _ _ (by decide), x7]; simp (disch := omega) only [pk_us, pk_un]
    · rw [s5, clC5, wrc _ _ _ (by decide), b5.1 8 (by decide), wrc _ _ _ (by decide), x8]; simp (disch := omega) only [pk_us, pk_un]
    · rw [T4, wrs]
      exact Or.inr (Or.inr (Or.inr (Or.inl ⟨rfl, v, hv, rfl⟩)))
    · rw [wrs]
    · rw [wrc _ _ _ (by decide), b5.1 11 (by decide)]; exact wrs _ _ _ _
    · simp (disch := decide) only [wrs, wrk, wrc, wr2, wl1, wls, wlk, wlc]
    · simp (disch := decide) only [wrs, wrk, wrc, wr2, wl1, wls, wlk, wlc]
    · simp (disch := decide) only [wrs, wrk, wrc, wr2, wl1, wls, wlk, wlc]
  · refine failS gC1 gM1 (f := 1) (q := p1) ?_ ?_
    · simp (disch := first | omega | exact nM1_n | exact nM2_n | assumption) only [b_X4_readStep_0, l_X4_readStep_0, f_X4_readStep, hcl, w0, w1, w2, w3, c13, hs0, a2, b1, ↓nLetR, ↓reduceIte, ↓e_m1, ↓e_m2, e_0, e_1, e_2, e_3, e_4, e_5, e_6, e_7, e_8, e_9, e_10, e_11, e_12, e_13, e_14, e_15, e_16, e_17, e_18, e_19, e_20, e_21, e_22, e_23, e_24, e_25, e_26, e_27, e_28, e_29, e_30, e_31, e_32, e_33, e_48, e_57, e_59, e_60, e_63, e_64, e_96, e_97, e_99, e_120, e_122, e_192, e_200, e_255, e_256, e_300, e_500, e_600, e_2000, e_5000, e_5240, e_6146, e_20000, e_65536, nIo, nI_clamp, nIxt, nI_1, nI_add, nI_mul, nI_eqF, nI_ltT, nI_ltF, nI_leT, nI_leF, nN_lt0, nN_le, nN_lt, nN_eq, nN_eq', eq_self, nBdS]
    · rw [b2, nBxN]
theorem calm_is {N B k t p a F S n : Nat} {c : Nat → Nat} {σ τ : nS} (hN : 700 ≤ N) (hB : B < 5) (hk : k < 24) (hr : rdR n c σ τ) (h1 : σ.1 1 3 = nI B) (h13 : σ.1 6 13 = nI t) (ha : p < a) (ha2 : a ≤ n) (e3 : σ.1 6 3 = nI a) (e21 : τ.1 0 21 = nI a) (ht0 : tR n c p σ τ) (wm : f_X11_isWord N 4 τ = some (nI 1, τ))
    (w0 : f_X4_isWord N 0 (clC B k σ) = some (nI 0, clC B k σ)) (w1 : f_X4_isWord N 1 (clC B k σ) = some (nI 0, clC B k σ)) (w2 : f_X4_isWord N 2 (clC B k σ) = some (nI 0, clC B k σ)) (w3 : f_X4_isWord N 3 (clC B k σ) = some (nI 0, clC B k σ)) :
    ∃ τ1, f_X11_next N τ = some (nI 0, τ1) ∧ aM τ τ1 ∧ sRes B k t p F S n c σ τ (f_X4_readStep N (nI k) σ) (f_X11_readStep N (nI (24 * B + k)) (nI k) (nI 5) τ1) := by
  have hi : 24 * B + k < 120 := by omega
  have hcl := clC_is (N := N) (σ := σ) hB hk h1
  have hs0 : f_X7_setCell N (nI B) (nI k) (nI 0) (nI 5) (clC B k σ) = some (nI 0, wr (clC B k σ) 5 ((B * 24 + k) * 5) (nI 5)) := set_is hB hk (by decide)
  have c13 : (clC B k σ).1 1 3 = nI B := by rw [clC_1]; exact h1
  have gd : gC B k t σ (wr (clC B k σ) 5 ((B * 24 + k) * 5) (nI 5)) := clC_g.trans (gC.w5 0 _)
  have htd : tR n c p (wr (clC B k σ) 5 ((B * 24 + k) * 5) (nI 5)) τ := ht0.fr (fun f _ => by rw [wrc _ _ _ (by decide), clC_6]) (fun _ _ => rfl) rfl
  have w4 := wsame (N := N) (j := 4) (by omega) (hr.g gd gM.rf) htd (by decide) (by decide) wm
  obtain ⟨p1, σ1, τ1, a1, a2, a3, a4, a5, a6⟩ := adv_is (N := N) (a := a) hN (hr.g gd gM.rf) (by rw [wrc _ _ _ (by decide), clC_6]; exact e3) e21 ha2
  refine ⟨τ1, a3, a6, ?_⟩
  rw [rs5 hi]
  have gC1 := gd.trans (B := B) (k := k) (t := t) a5.d.g
  have gM1 : gM B k τ (clM (24 * B + k) (nI 5) τ1) := a6.g.trans clM_g
  have ht : tR n c p1 σ1 (clM (24 * B + k) (nI 5) τ1) := a4.fr (fun _ _ => rfl) (fun f _ => by rw [clM_0]) rfl
  obtain ⟨x4, x5, x6, x7, x8⟩ := clM_v (i := 24 * B + k) (what := nI 5) (τ := τ1)
  have s5 : σ1.1 5 = upd ((clC B k σ).1 5) ((B * 24 + k) * 5) (nI 5) := by rw [a5.1 5 (by decide), wrf]
  refine Or.inl ⟨p1, σ1, clM (24 * B + k) (nI 5) τ1, ?_, rfl, by omega, ht, gC1, gM1, (by rw [a5.2 9 (by decide), wrc _ _ _ (by decide), clC_6]), ⟨⟨?_, ?_, ?_, ?_, ?_⟩, ?_⟩, Or.inl ⟨?_, ?_, ?_⟩⟩
  · simp (disch := first | omega | exact nM1_n | exact nM2_n | assumption) only [b_X4_readStep_0, l_X4_readStep_0, f_X4_readStep, b_X4_takeWord_0, l_X4_takeWord_0, f_X4_takeWord, hcl, w0, w1, w2, w3, c13, hs0, w4, a2, nZb, ↓nLetR, ↓reduceIte, ↓e_m1, ↓e_m2, e_0, e_1, e_2, e_3, e_4, e_5, e_6, e_7, e_8, e_9, e_10, e_11, e_12, e_13, e_14, e_15, e_16, e_17, e_18, e_19, e_20, e_21, e_22, e_23, e_24, e_25, e_26, e_27, e_28, e_29, e_30, e_31, e_32, e_33, e_48, e_57, e_59, e_60, e_63, e_64, e_96, e_97, e_99, e_120, e_122, e_192, e_200, e_255, e_256, e_300, e_500, e_600, e_2000, e_5000, e_5240, e_6146, e_20000, e_65536, nIo, nI_clamp, nIxt, nI_1, nI_add, nI_mul, nI_eqF, nI_ltT, nI_ltF, nI_leT, nI_leF, nN_lt0, nN_le, nN_lt, nN_eq, nN_eq', eq_self, nBdS]
  · rw [x4, s5, clC5]; simp (disch := omega) only [pk_us, pk_un]
  · rw [x5, s5, clC5]; simp (disch := omega) only [pk_us, pk_un]
  · rw [x6, s5, clC5]; simp (disch := omega) only [pk_us, pk_un]
  · rw [x7, s5, clC5]; simp (disch := omega) only [pk_us, pk_un]
  · rw [x8, s5, clC5]; simp (disch := omega) only [pk_us, pk_un]
  · rw [x4]; exact Or.inr (Or.inr (Or.inr (Or.inr rfl)))
  · rw [x4]; decide
  · rw [x4]; decide
  · rw [a5.2 13 (by decide), wrc _ _ _ (by decide), clC_6]; exact h13
