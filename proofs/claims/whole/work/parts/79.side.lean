/-! A PLAY: the class's and the reference's, side by side -/
theorem wlf (σ : nS) (c k : Nat) (v : Int64) : (wl σ c k v).2 c = vp_updL (σ.2 c) k v := by
  show (bif Nat.beq c c then vp_updL (σ.2 c) k v else σ.2 c) = _
  rw [Nat.beq_refl]
  rfl
/-- a book that both hold alike -/
def hBk (F S b n : Nat) (σ τ : nS) : Prop := b < 5 ∧ (1 ≤ n ∧ n ≤ 24) ∧ σ.1 4 b = nI n ∧ τ.1 3 b = nI n ∧ ∀ k, k < n → iStep F S n b k (σ.1 5) (τ.1 4) (τ.1 5) (τ.1 6) (τ.1 7) (τ.1 8)
def hHs (F S P B : Nat) (σ τ : nS) : Prop := iHouse F S P B (σ.1 1) (σ.1 2) (σ.1 3) (τ.1 0 4) (τ.1 0 5) (τ.1 0 6) (τ.1 0 7) (τ.1 0 8) (τ.1 1) (τ.1 2)
/-- what a play leaves alone -/
def hFr (w : Nat) (σ0 τ0 σ τ : nS) : Prop := (∀ d, d ≠ w → d ≠ w + 2 → d ≠ 11 → σ.1 d = σ0.1 d) ∧ (∀ d, d ≠ 0 → d ≠ 12 → d ≠ 14 → τ.1 d = τ0.1 d) ∧ ∀ f, (f < 31 ∨ 36 < f) → τ.1 0 f = τ0.1 0 f
def hMk (M : Nat) (τ : nS) : Prop := τ.1 0 31 = nI M ∧ ∀ j, j < 6144 → ∃ y, y ≤ M ∧ τ.1 12 j = nI y
/-- ahead of a coming -/
def hR (w b F n ly aw : Nat) (σ0 τ0 : nS) (M k x t c : Nat) (σ τ : nS) : Prop :=
  (σ.1 w 2 = nI b ∧ σ.1 w 3 = nI x ∧ σ.1 w 4 = nI ly ∧ σ.1 w 5 = nI aw ∧ σ.1 w 6 = nI k ∧ σ.1 w 7 = nI 0 ∧ σ.1 w 8 = nI t ∧ σ.1 w 10 = nI c ∧ σ.1 w 11 = nM1) ∧
  (∀ p, p < 4 → ∃ y, y ≤ t ∧ σ.1 11 p = nI y) ∧
  (τ.1 0 32 = nM1 ∧ τ.1 0 33 = nI t ∧ τ.1 0 34 = nI c ∧ τ.1 0 35 = nI x) ∧
  (x < 2 ^ F ∧ k ≤ n ∧ t ≤ 5000) ∧ rSeen (σ.2 (w + 1)) (τ.1 12) M ∧ hMk M τ ∧ (∀ i, i < c → i < nPl w → τ.1 14 i = σ.1 (w + 2) i) ∧ hFr w σ0 τ0 σ τ
/-- behind the end -/
def hF (w M : Nat) (σ0 τ0 : nS) (e : Nat) (σ τ : nS) : Prop :=
  e < 7 ∧ σ.1 w 11 = nI e ∧ τ.1 0 32 = nI e ∧ (∃ t, t < 6000 ∧ σ.1 w 8 = nI t ∧ τ.1 0 33 = nI t) ∧ (∃ c, c ≤ 6145 ∧ σ.1 w 10 = nI c ∧ τ.1 0 34 = nI c ∧ ∀ i, i < c → i < nPl w → τ.1 14 i = σ.1 (w + 2) i) ∧
  (∃ x, x < 256 ∧ σ.1 w 3 = nI x ∧ τ.1 0 35 = nI x) ∧ (∃ k, k ≤ 24 ∧ σ.1 w 6 = nI k ∧ τ.1 0 36 = nI k) ∧ hMk M τ ∧ hFr w σ0 τ0 σ τ
/-- the step that begins here: the class behind its coming, the reference behind its mark -/
def sC (w k x c : Nat) (σ : nS) : nS := wl (wr (pW w c k σ) w 10 (nI (c + 1))) (w + 1) (k * 4 + x / 64) (σ.2 (w + 1) (k * 4 + x / 64) ||| ((1 : Int64) <<< ((nI x &&& nI 63).toInt64 &&& 63)))
def tC (k x c M : Nat) (τ : nS) : nS := mM k x c M (qW c k (wr τ 0 36 (nI k)))
theorem sC_1 {w k x c d : Nat} {σ : nS} (h1 : d ≠ w) (h2 : d ≠ w + 2) : (sC w k x c σ).1 d = σ.1 d := by
  simp (disch := omega) only [sC, wrs, wrk, wrc, wr2, wl1, wls, wlk, wlc, pW_1]
theorem sC_w {w k x c f : Nat} {σ : nS} (h : f ≠ 10) : (sC w k x c σ).1 w f = σ.1 w f := by
  simp (disch := omega) only [sC, wrs, wrk, wrc, wr2, wl1, wls, wlk, wlc, pW_1]
theorem sC_c {w k x c : Nat} {σ : nS} : (sC w k x c σ).1 w 10 = nI (c + 1) := by
  simp (disch := omega) only [sC, wrs, wrk, wrc, wr2, wl1, wls, wlk, wlc, pW_1]
theorem sC_p {w k x c : Nat} {σ : nS} : (sC w k x c σ).1 (w + 2) = (pW w c k σ).1 (w + 2) := by
  simp (disch := omega) only [sC, wrs, wrk, wrc, wr2, wl1, wls, wlk, wlc]
theorem sC_2 {w k x c : Nat} {σ : nS} : (sC w k x c σ).2 (w + 1) = vp_updL (σ.2 (w + 1)) (k * 4 + x / 64) (σ.2 (w + 1) (k * 4 + x / 64) ||| ((1 : Int64) <<< ((nI x &&& nI 63).toInt64 &&& 63))) := by
  simp (disch := omega) only [sC, wlf, wr2, pW_2]
theorem tC_1 {k x c M d : Nat} {τ : nS} (h0 : d ≠ 0) (h1 : d ≠ 12) (h2 : d ≠ 14) : (tC k x c M τ).1 d = τ.1 d := by
  simp (disch := omega) only [tC, mM, wrs, wrk, wrc, wr2, wl1, wls, wlk, wlc, qW_1]
theorem tC_f {k x c M f : Nat} {τ : nS} (h0 : f ≠ 34) (h1 : f ≠ 36) : (tC k x c M τ).1 0 f = τ.1 0 f := by
  simp (disch := omega) only [tC, mM, wrs, wrk, wrc, wr2, wl1, wls, wlk, wlc, qW_1]
theorem tC_34 {k x c M : Nat} {τ : nS} : (tC k x c M τ).1 0 34 = nI (c + 1) := by
  simp (disch := omega) only [tC, mM, wrs, wrk, wrc, wr2, wl1, wls, wlk, wlc, qW_1]
theorem tC_36 {k x c M : Nat} {τ : nS} : (tC k x c M τ).1 0 36 = nI k := by
  simp (disch := omega) only [tC, mM, wrs, wrk, wrc, wr2, wl1, wls, wlk, wlc, qW_1]
theorem tC_12 {k x c M : Nat} {τ : nS} : (tC k x c M τ).1 12 = upd (τ.1 12) (256 * k + x) (nI M) := by
  simp (disch := omega) only [tC, mM, wrf, wrc, qW_1]
theorem tC_14 {k x c M : Nat} {τ : nS} : (tC k x c M τ).1 14 = (qW c k (wr τ 0 36 (nI k))).1 14 := by
  simp (disch := omega) only [tC, mM, wrs, wrk, wrc, wr2, wl1, wls, wlk, wlc]
theorem path_up {w k c : Nat} {σ τ : nS} (h : ∀ i, i < c → i < nPl w → τ.1 14 i = σ.1 (w + 2) i) : ∀ i, i < c + 1 → i < nPl w → (qW c k (wr τ 0 36 (nI k))).1 14 i = (pW w c k σ).1 (w + 2) i := by
  intro i hi hp
  by_cases e : i = c
  · subst e
    rw [qW_q (Nat.lt_of_lt_of_le hp (nPl_le w)), pW_q hp]
  · rw [qW_p e, pW_p e, wrc _ _ _ (by decide)]
    exact h i (Nat.lt_of_le_of_ne (Nat.le_of_lt_succ hi) e) hp
