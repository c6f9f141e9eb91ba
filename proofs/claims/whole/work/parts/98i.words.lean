/-! BOOK: words, letters, numbers -/
def wd (j : Nat) : List Nat := [[100, 111], [97, 115, 107], [119, 97, 105, 116], [103, 111], [99, 97, 108, 109], [119, 114, 111, 110, 103], [114, 105, 103, 104, 116], [116, 97, 107, 101, 115], [105, 102], [104, 97, 114, 109], [116, 104, 101, 110], [101, 108, 115, 101]].getD j []
def wl' (j : Nat) : Nat := (wd j).length
def wc (j i : Nat) : Nat := (wd j).getD i 0
theorem wl_le : ∀ j, j < 12 → wl' j ≤ 5 ∧ 1 ≤ wl' j := by decide
theorem wc_ok : ∀ j, j < 12 → ∀ i, i < wl' j → 97 ≤ wc j i ∧ wc j i ≤ 122 := by decide
theorem lenT : ∀ j, j < 12 → Int32.ofNat (nLen.getD j 0) >>> ((0 : Int32) &&& 31) = nI (wl' j) ∧ nLen.getD j 0 = wl' j := by decide
theorem chrT : ∀ j, j < 12 → ∀ i, i < 5 → i < wl' j → ((((nByt.getD j []).getD i (nI 0)) &&& nI 255).toUInt32 % 65536).toInt32 = nI (wc j i) := by decide
theorem len_is {N j : Nat} {σ : nS} (hj : j < 12) : f_J0_length_8abf5 N j σ = some (nI (wl' j), σ) := by
  show some (Int32.ofNat (nLen.getD j 0) >>> ((0 : Int32) &&& 31), σ) = _
  rw [(lenT j hj).1]
theorem nCgt {R : Type} {x : Nat} {b : Option R} (h : x < 65536) : nCg (nI x) b = b := by
  unfold nCg
  rw [nI_toInt (by omega), if_pos ⟨by omega, by omega⟩]
theorem char_is {N j i : Nat} {σ : nS} (hj : j < 12) (hi : i < wl' j) : f_J0_charAt_5068e N j (nI i) σ = some (nI (wc j i), σ) := by
  have hl := wl_le j hj
  have hc := wc_ok j hj i hi
  have e1 := chrT j hj i (by omega) hi
  have e2 := (lenT j hj).2
  simp (disch := first | omega | exact nM1_n | exact nM2_n | assumption) only [b_J0_charAt_5068e_0, l_J0_charAt_5068e_0, f_J0_charAt_5068e, b_J0_isLatin1_aae02_0, l_J0_isLatin1_aae02_0, f_J0_isLatin1_aae02, b_J1_charAt_3b067_0, l_J1_charAt_3b067_0, f_J1_charAt_3b067, f_J0_checkIndex_df160, e2, nIo, e1, nCgt, ↓nLetR, ↓reduceIte, ↓e_m1, ↓e_m2, e_0, e_1, e_2, e_3, e_4, e_5, e_6, e_7, e_8, e_9, e_10, e_11, e_12, e_13, e_14, e_15, e_16, e_17, e_18, e_19, e_20, e_21, e_22, e_23, e_24, e_25, e_26, e_27, e_28, e_29, e_30, e_31, e_32, e_33, e_48, e_57, e_59, e_60, e_63, e_64, e_96, e_97, e_99, e_120, e_122, e_192, e_200, e_255, e_256, e_300, e_500, e_600, e_2000, e_5000, e_5240, e_6146, e_20000, e_65536, nIo, nI_clamp, nIxt, nI_1, nI_add, nI_mul, nI_eqF, nI_ltT, nI_ltF, nI_leT, nI_leF, nN_lt0, nN_le, nN_lt, nN_eq, nN_eq', eq_self, nBdS]
/-- a word as a number -/
def wv (f : Nat → Nat) : Nat → Nat
  | 0 => 0
  | n + 1 => 32 * wv f n + (f n - 96)
theorem wv_inj {f g : Nat → Nat} : ∀ {L K : Nat}, (∀ i, i < L → 97 ≤ f i ∧ f i ≤ 122) → (∀ i, i < K → 97 ≤ g i ∧ g i ≤ 122) → wv f L = wv g K → L = K ∧ ∀ i, i < L → f i = g i := by
  intro L
  induction L with
  | zero =>
    intro K _ hg h
    cases K with
    | zero => exact ⟨rfl, fun i h => absurd h (Nat.not_lt_zero i)⟩
    | succ K =>
      have := hg K (by omega)
      have h0 : wv f 0 = 0 := rfl
      have h1 : wv g (K + 1) = 32 * wv g K + (g K - 96) := rfl
      omega
  | succ L ih =>
    intro K hf hg h
    have h1 : wv f (L + 1) = 32 * wv f L + (f L - 96) := rfl
    have hfL := hf L (by omega)
    cases K with
    | zero =>
      have h0 : wv g 0 = 0 := rfl
      omega
    | succ K =>
      have h2 : wv g (K + 1) = 32 * wv g K + (g K - 96) := rfl
      have hgK := hg K (by omega)
      obtain ⟨e1, e2⟩ := ih (K := K) (fun i hi => hf i (by omega)) (fun i hi => hg i (by omega)) (by omega)
      subst e1
      refine ⟨rfl, fun i hi => ?_⟩
      by_cases e : i = L
      · subst e; omega
      · exact e2 i (by omega)
theorem wv_lt {f : Nat → Nat} : ∀ L, (∀ i, i < L → 97 ≤ f i ∧ f i ≤ 122) → wv f L < 32 ^ L := by
  intro L
  induction L with
  | zero => intro _; exact Nat.one_pos
  | succ L ih =>
    intro hf
    have h1 : wv f (L + 1) = 32 * wv f L + (f L - 96) := rfl
    have h2 := ih (fun i hi => hf i (by omega))
    have h3 := hf L (by omega)
    have h4 : 32 ^ (L + 1) = 32 * 32 ^ L := by rw [Nat.pow_succ]; omega
    omega
theorem wv_cg {f g : Nat → Nat} (L : Nat) (h : ∀ i, i < L → f i = g i) : wv f L = wv g L := by
  induction L with
  | zero => rfl
  | succ L ih =>
    show 32 * wv f L + (f L - 96) = 32 * wv g L + (g L - 96)
    rw [ih (fun i hi => h i (by omega)), h L (by omega)]
theorem i64_n (x : Nat) (h : x < 2 ^ 31) : (nI x).toInt64 = Int64.ofNat x := by
  apply Int64.toInt_inj.mp
  rw [Int32.toInt_toInt64, nI_toInt h, Int64.toInt_ofNat_of_lt (by omega)]
theorem i64_s (w x : Nat) (h : x < 2 ^ 31) : (32 : Int64) * Int64.ofNat w + (nI x).toInt64 = Int64.ofNat (32 * w + x) := by
  rw [i64_n x h, Int64.ofNat_add, Int64.ofNat_mul]
  rfl
theorem i64_eq {a b : Nat} (ha : a < 2 ^ 63) (hb : b < 2 ^ 63) : Int64.ofNat a = Int64.ofNat b ↔ a = b := by
  constructor
  · intro h
    have h2 : (Int64.ofNat a).toInt = (Int64.ofNat b).toInt := by rw [h]
    rw [Int64.toInt_ofNat_of_lt ha, Int64.toInt_ofNat_of_lt hb] at h2
    omega
  · intro h; rw [h]
theorem chs {x : Nat} (h : 97 ≤ x) : nI x - nI 97 + nI 1 = nI (x - 96) := by
  rw [nI_subn x 97 h, nI_add]
  congr 1
  omega
theorem wo_go {N j : Nat} {σ : nS} (hj : j < 12) : ∀ d i m, i + d = wl' j → d < m → nLp (fun _ _ _ => none) (fun again => b_X11_wordOf_4 N j again) m σ (Int64.ofNat (wv (wc j) i)) (nI i) = some (Int64.ofNat (wv (wc j) (wl' j)), σ) := by
  have hl := wl_le j hj
  intro d
  induction d with
  | zero =>
    intro i m hi hm
    have : i = wl' j := by omega
    subst this
    rw [nLpP _ _ hm]
    simp (disch := first | omega | exact nM1_n | exact nM2_n | assumption) only [b_X11_wordOf_4, len_is hj, ↓nLetR, ↓reduceIte, ↓e_m1, ↓e_m2, e_0, e_1, e_2, e_3, e_4, e_5, e_6, e_7, e_8, e_9, e_10, e_11, e_12, e_13, e_14, e_15, e_16, e_17, e_18, e_19, e_20, e_21, e_22, e_23, e_24, e_25, e_26, e_27, e_28, e_29, e_30, e_31, e_32, e_33, e_48, e_57, e_59, e_60, e_63, e_64, e_96, e_97, e_99, e_120, e_122, e_192, e_200, e_255, e_256, e_300, e_500, e_600, e_2000, e_5000, e_5240, e_6146, e_20000, e_65536, nIo, nI_clamp, nIxt, nI_1, nI_add, nI_mul, nI_eqF, nI_ltT, nI_ltF, nI_leT, nI_leF, nN_lt0, nN_le, nN_lt, nN_eq, nN_eq', eq_self, nBdS]
  | succ d ih =>
    intro i m hi hm
    have hc := wc_ok j hj i (by omega)
    have g := ih (i + 1) (m - 1) (by omega) (by omega)
    have e1 := chs hc.1
    have e2 := i64_s (wv (wc j) i) (wc j i - 96) (by omega)
    rw [nLpP _ _ (by omega), ← g]
    have e3 : (32 : Int64) * Int64.ofNat (wv (wc j) i) + (nI (wc j i - 96)).toInt64 = Int64.ofNat (wv (wc j) (i + 1)) := e2
    simp (disch := first | omega | exact nM1_n | exact nM2_n | assumption) only [b_X11_wordOf_4, len_is hj, char_is hj (show i < wl' j by omega), e1, e3, nI_1, ↓nLetR, ↓reduceIte, ↓e_m1, ↓e_m2, e_0, e_1, e_2, e_3, e_4, e_5, e_6, e_7, e_8, e_9, e_10, e_11, e_12, e_13, e_14, e_15, e_16, e_17, e_18, e_19, e_20, e_21, e_22, e_23, e_24, e_25, e_26, e_27, e_28, e_29, e_30, e_31, e_32, e_33, e_48, e_57, e_59, e_60, e_63, e_64, e_96, e_97, e_99, e_120, e_122, e_192, e_200, e_255, e_256, e_300, e_500, e_600, e_2000, e_5000, e_5240, e_6146, e_20000, e_65536, nIo, nI_clamp, nIxt, nI_1, nI_add, nI_mul, nI_eqF, nI_ltT, nI_ltF, nI_leT, nI_leF, nN_lt0, nN_le, nN_lt, nN_eq, nN_eq', eq_self, nBdS]
theorem wo_is {N j : Nat} {σ : nS} (hN : 10 ≤ N) (hj : j < 12) : f_X11_wordOf N j σ = some (Int64.ofNat (wv (wc j) (wl' j)), σ) := by
  have hl := wl_le j hj
  exact wo_go hj (wl' j) 0 N (by omega) (by omega)
/-- how far a run goes -/
def sk (P : Nat → Bool) : Nat → Nat → Nat
  | 0, a => a
  | d + 1, a => if P a = true then sk P d (a + 1) else a
theorem sk_ge (P : Nat → Bool) : ∀ d a, a ≤ sk P d a ∧ sk P d a ≤ a + d := by
  intro d
  induction d with
  | zero => intro a; exact ⟨Nat.le_refl a, Nat.le_refl a⟩
  | succ d ih =>
    intro a
    unfold sk
    have := ih (a + 1)
    split
    · omega
    · omega
theorem sk_in (P : Nat → Bool) : ∀ d a i, a ≤ i → i < sk P d a → P i = true := by
  intro d
  induction d with
  | zero => intro a i h1 h2; exact absurd h2 (Nat.not_lt.mpr h1)
  | succ d ih =>
    intro a i h1 h2
    unfold sk at h2
    split at h2
    · rename_i hp
      by_cases e : i = a
      · subst e; exact hp
      · exact ih (a + 1) i (by omega) h2
    · omega
theorem sk_end (P : Nat → Bool) : ∀ d a, sk P d a < a + d → P (sk P d a) = false := by
  intro d
  induction d with
  | zero => intro a h; exact absurd h (Nat.lt_irrefl _)
  | succ d ih =>
    intro a h
    unfold sk at h ⊢
    split
    · rename_i hp
      rw [if_pos hp] at h
      exact ih (a + 1) (by omega)
    · rename_i hp
      cases hq : P a with
      | false => rfl
      | true => exact absurd hq hp
/-- the tape that both read -/
def rdR (n : Nat) (c : Nat → Nat) (σ τ : nS) : Prop := n ≤ 600 ∧ σ.1 6 2 = nI n ∧ τ.1 0 20 = nI n ∧ ∀ k, k < n → σ.1 7 k = nI (c k) ∧ τ.1 10 k &&& nI 255 = nI (c k) ∧ c k < 256
theorem byC {N n k : Nat} {c : Nat → Nat} {σ τ : nS} (h : rdR n c σ τ) (hk : k < n) : f_X4_byteAt N (nI k) σ = some (nI (c k), σ) := by
  obtain ⟨h1, h2, h3, h4⟩ := h
  have e := (h4 k hk).1
  simp (disch := first | omega | exact nM1_n | exact nM2_n | assumption) only [b_X4_byteAt_0, l_X4_byteAt_0, f_X4_byteAt, h2, e, ↓nLetR, ↓reduceIte, ↓e_m1, ↓e_m2, e_0, e_1, e_2, e_3, e_4, e_5, e_6, e_7, e_8, e_9, e_10, e_11, e_12, e_13, e_14, e_15, e_16, e_17, e_18, e_19, e_20, e_21, e_22, e_23, e_24, e_25, e_26, e_27, e_28, e_29, e_30, e_31, e_32, e_33, e_48, e_57, e_59, e_60, e_63, e_64, e_96, e_97, e_99, e_120, e_122, e_192, e_200, e_255, e_256, e_300, e_500, e_600, e_2000, e_5000, e_5240, e_6146, e_20000, e_65536, nIo, nI_clamp, nIxt, nI_1, nI_add, nI_mul, nI_eqF, nI_ltT, nI_ltF, nI_leT, nI_leF, nN_lt0, nN_le, nN_lt, nN_eq, nN_eq', eq_self, nBdS]
theorem byM {N n k : Nat} {c : Nat → Nat} {σ τ : nS} (h : rdR n c σ τ) (hk : k < n) : f_X11_byteAt N (nI k) τ = some (nI (c k), τ) := by
  obtain ⟨h1, h2, h3, h4⟩ := h
  have e := (h4 k hk).2.1
  simp (disch := first | omega | exact nM1_n | exact nM2_n | assumption) only [b_X11_byteAt_0, l_X11_byteAt_0, f_X11_byteAt, h3, e, ↓nLetR, ↓reduceIte, ↓e_m1, ↓e_m2, e_0, e_1, e_2, e_3, e_4, e_5, e_6, e_7, e_8, e_9, e_10, e_11, e_12, e_13, e_14, e_15, e_16, e_17, e_18, e_19, e_20, e_21, e_22, e_23, e_24, e_25, e_26, e_27, e_28, e_29, e_30, e_31, e_32, e_33, e_48, e_57, e_59, e_60, e_63, e_64, e_96, e_97, e_99, e_120, e_122, e_192, e_200, e_255, e_256, e_300, e_500, e_600, e_2000, e_5000, e_5240, e_6146, e_20000, e_65536, nIo, nI_clamp, nIxt, nI_1, nI_add, nI_mul, nI_eqF, nI_ltT, nI_ltF, nI_leT, nI_leF, nN_lt0, nN_le, nN_lt, nN_eq, nN_eq', eq_self, nBdS]
theorem byE {N n : Nat} {c : Nat → Nat} {σ τ : nS} (h : rdR n c σ τ) : f_X11_byteAt N (nI n) τ = some (nM1, τ) := by
  obtain ⟨h1, h2, h3, h4⟩ := h
  simp (disch := first | omega | exact nM1_n | exact nM2_n | assumption) only [b_X11_byteAt_0, l_X11_byteAt_0, f_X11_byteAt, h3, ↓nLetR, ↓reduceIte, ↓e_m1, ↓e_m2, e_0, e_1, e_2, e_3, e_4, e_5, e_6, e_7, e_8, e_9, e_10, e_11, e_12, e_13, e_14, e_15, e_16, e_17, e_18, e_19, e_20, e_21, e_22, e_23, e_24, e_25, e_26, e_27, e_28, e_29, e_30, e_31, e_32, e_33, e_48, e_57, e_59, e_60, e_63, e_64, e_96, e_97, e_99, e_120, e_122, e_192, e_200, e_255, e_256, e_300, e_500, e_600, e_2000, e_5000, e_5240, e_6146, e_20000, e_65536, nIo, nI_clamp, nIxt, nI_1, nI_add, nI_mul, nI_eqF, nI_ltT, nI_ltF, nI_leT, nI_leF, nN_lt0, nN_le, nN_lt, nN_eq, nN_eq', eq_self, nBdS]
def aC (σ σ' : nS) : Prop := (∀ d, d ≠ 6 → σ'.1 d = σ.1 d) ∧ ∀ f, (f < 3 ∨ 6 < f) → σ'.1 6 f = σ.1 6 f
def aM (τ τ' : nS) : Prop := (∀ d, d ≠ 0 → τ'.1 d = τ.1 d) ∧ ∀ f, (f < 21 ∨ 24 < f) → τ'.1 0 f = τ.1 0 f
theorem aC.trans {a b c : nS} (h : aC a b) (g : aC b c) : aC a c := ⟨fun d e => (g.1 d e).trans (h.1 d e), fun f e => (g.2 f e).trans (h.2 f e)⟩
theorem aM.trans {a b c : nS} (h : aM a b) (g : aM b c) : aM a c := ⟨fun d e => (g.1 d e).trans (h.1 d e), fun f e => (g.2 f e).trans (h.2 f e)⟩
theorem aC.rf {a : nS} : aC a a := ⟨fun _ _ => rfl, fun _ _ => rfl⟩
theorem aM.rf {a : nS} : aM a a := ⟨fun _ _ => rfl, fun _ _ => rfl⟩
theorem aC.w {σ : nS} (f : Nat) (v : Int32) (h : 3 ≤ f ∧ f ≤ 6) : aC σ (wr σ 6 f v) := ⟨fun d e => wrc _ _ _ e, fun g e => wrk _ _ _ (by omega)⟩
theorem aM.w {σ : nS} (f : Nat) (v : Int32) (h : 21 ≤ f ∧ f ≤ 24) : aM σ (wr σ 0 f v) := ⟨fun d e => wrc _ _ _ e, fun g e => wrk _ _ _ (by omega)⟩
theorem rdR.fr {n : Nat} {c : Nat → Nat} {σ τ σ' τ' : nS} (h : rdR n c σ τ) (g1 : aC σ σ') (g2 : aM τ τ') : rdR n c σ' τ' := by
  unfold rdR
  rw [g1.1 7 (by decide), g1.2 2 (by decide), g2.1 10 (by decide), g2.2 20 (by decide)]
  exact h
def isB (c : Nat → Nat) (i : Nat) : Bool := decide (c i = 32 ∨ c i = 10)
def isL (c : Nat → Nat) (i : Nat) : Bool := decide (97 ≤ c i ∧ c i ≤ 122)
def isG (c : Nat → Nat) (i : Nat) : Bool := decide (48 ≤ c i ∧ c i ≤ 57)
theorem blank_c {N x : Nat} {σ : nS} (hx : x < 256) : f_X4_isBlank N (nI x) σ = some (nI (if x = 32 ∨ x = 10 then 1 else 0), σ) := by
  by_cases h1 : x = 32
  · subst h1; simp (disch := first | omega | exact nM1_n | exact nM2_n | assumption) only [b_X4_isBlank_0, l_X4_isBlank_0, f_X4_isBlank, ↓nLetR, ↓reduceIte, ↓e_m1, ↓e_m2, e_0, e_1, e_2, e_3, e_4, e_5, e_6, e_7, e_8, e_9, e_10, e_11, e_12, e_13, e_14, e_15, e_16, e_17, e_18, e_19, e_20, e_21, e_22, e_23, e_24, e_25, e_26, e_27, e_28, e_29, e_30, e_31, e_32, e_33, e_48, e_57, e_59, e_60, e_63, e_64, e_96, e_97, e_99, e_120, e_122, e_192, e_200, e_255, e_256, e_300, e_500, e_600, e_2000, e_5000, e_5240, e_6146, e_20000, e_65536, nIo, nI_clamp, nIxt, nI_1, nI_add, nI_mul, nI_eqF, nI_ltT, nI_ltF, nI_leT, nI_leF, nN_lt0, nN_le, nN_lt, nN_eq, nN_eq', eq_self, nBdS]; rfl
  · by_cases h2 : x = 10
    · subst h2; simp (disch := first | omega | exact nM1_n | exact nM2_n | assumption) only [b_X4_isBlank_0, l_X4_isBlank_0, f_X4_isBlank, ↓nLetR, ↓reduceIte, ↓e_m1, ↓e_m2, e_0, e_1, e_2, e_3, e_4, e_5, e_6, e_7, e_8, e_9, e_10, e_11, e_12, e_13, e_14, e_15, e_16, e_17, e_18, e_19, e_20, e_21, e_22, e_23, e_24, e_25, e_26, e_27, e_28, e_29, e_30, e_31, e_32, e_33, e_48, e_57, e_59, e_60, e_63, e_64, e_96, e_97, e_99, e_120, e_122, e_192, e_200, e_255, e_256, e_300, e_500, e_600, e_2000, e_5000, e_5240, e_6146, e_20000, e_65536, nIo, nI_clamp, nIxt, nI_1, nI_add, nI_mul, nI_eqF, nI_ltT, nI_ltF, nI_leT, nI_leF, nN_lt0, nN_le, nN_lt, nN_eq, nN_eq', eq_self, nBdS]; rfl
    · rw [if_neg (by omega)]; simp (disch := first | omega | exact nM1_n | exact nM2_n | assumption) only [b_X4_isBlank_0, l_X4_isBlank_0, f_X4_isBlank, ↓nLetR, ↓reduceIte, ↓e_m1, ↓e_m2, e_0, e_1, e_2, e_3, e_4, e_5, e_6, e_7, e_8, e_9, e_10, e_11, e_12, e_13, e_14, e_15, e_16, e_17, e_18, e_19, e_20, e_21, e_22, e_23, e_24, e_25, e_26, e_27, e_28, e_29, e_30, e_31, e_32, e_33, e_48, e_57, e_59, e_60, e_63, e_64, e_96, e_97, e_99, e_120, e_122, e_192, e_200, e_255, e_256, e_300, e_500, e_600, e_2000, e_5000, e_5240, e_6146, e_20000, e_65536, nIo, nI_clamp, nIxt, nI_1, nI_add, nI_mul, nI_eqF, nI_ltT, nI_ltF, nI_leT, nI_leF, nN_lt0, nN_le, nN_lt, nN_eq, nN_eq', eq_self, nBdS]
theorem let_c {N x : Nat} {σ : nS} (hx : x < 256) : f_X4_isLetter N (nI x) σ = some (nI (if 97 ≤ x ∧ x ≤ 122 then 1 else 0), σ) := by
  by_cases h1 : x < 97
  · rw [if_neg (by omega)]; simp (disch := first | omega | exact nM1_n | exact nM2_n | assumption) only [b_X4_isLetter_0, l_X4_isLetter_0, f_X4_isLetter, ↓nLetR, ↓reduceIte, ↓e_m1, ↓e_m2, e_0, e_1, e_2, e_3, e_4, e_5, e_6, e_7, e_8, e_9, e_10, e_11, e_12, e_13, e_14, e_15, e_16, e_17, e_18, e_19, e_20, e_21, e_22, e_23, e_24, e_25, e_26, e_27, e_28, e_29, e_30, e_31, e_32, e_33, e_48, e_57, e_59, e_60, e_63, e_64, e_96, e_97, e_99, e_120, e_122, e_192, e_200, e_255, e_256, e_300, e_500, e_600, e_2000, e_5000, e_5240, e_6146, e_20000, e_65536, nIo, nI_clamp, nIxt, nI_1, nI_add, nI_mul, nI_eqF, nI_ltT, nI_ltF, nI_leT, nI_leF, nN_lt0, nN_le, nN_lt, nN_eq, nN_eq', eq_self, nBdS]
  · by_cases h2 : 122 < x
    · rw [if_neg (by omega)]; simp (disch := first | omega | exact nM1_n | exact nM2_n | assumption) only [b_X4_isLetter_0, l_X4_isLetter_0, f_X4_isLetter, ↓nLetR, ↓reduceIte, ↓e_m1, ↓e_m2, e_0, e_1, e_2, e_3, e_4, e_5, e_6, e_7, e_8, e_9, e_10, e_11, e_12, e_13, e_14, e_15, e_16, e_17, e_18, e_19, e_20, e_21, e_22, e_23, e_24, e_25, e_26, e_27, e_28, e_29, e_30, e_31, e_32, e_33, e_48, e_57, e_59, e_60, e_63, e_64, e_96, e_97, e_99, e_120, e_122, e_192, e_200, e_255, e_256, e_300, e_500, e_600, e_2000, e_5000, e_5240, e_6146, e_20000, e_65536, nIo, nI_clamp, nIxt, nI_1, nI_add, nI_mul, nI_eqF, nI_ltT, nI_ltF, nI_leT, nI_leF, nN_lt0, nN_le, nN_lt, nN_eq, nN_eq', eq_self, nBdS]
    · rw [if_pos (by omega)]; simp (disch := first | omega | exact nM1_n | exact nM2_n | assumption) only [b_X4_isLetter_0, l_X4_isLetter_0, f_X4_isLetter, ↓nLetR, ↓reduceIte, ↓e_m1, ↓e_m2, e_0, e_1, e_2, e_3, e_4, e_5, e_6, e_7, e_8, e_9, e_10, e_11, e_12, e_13, e_14, e_15, e_16, e_17, e_18, e_19, e_20, e_21, e_22, e_23, e_24, e_25, e_26, e_27, e_28, e_29, e_30, e_31, e_32, e_33, e_48, e_57, e_59, e_60, e_63, e_64, e_96, e_97, e_99, e_120, e_122, e_192, e_200, e_255, e_256, e_300, e_500, e_600, e_2000, e_5000, e_5240, e_6146, e_20000, e_65536, nIo, nI_clamp, nIxt, nI_1, nI_add, nI_mul, nI_eqF, nI_ltT, nI_ltF, nI_leT, nI_leF, nN_lt0, nN_le, nN_lt, nN_eq, nN_eq', eq_self, nBdS]
theorem let_m {N x : Nat} {σ : nS} (hx : x < 256) : f_X11_isLetter N (nI x) σ = some (nI (if 97 ≤ x ∧ x ≤ 122 then 1 else 0), σ) := by
  by_cases h1 : x < 97
  · rw [if_neg (by omega)]; simp (disch := first | omega | exact nM1_n | exact nM2_n | assumption) only [b_X11_isLetter_0, l_X11_isLetter_0, f_X11_isLetter, ↓nLetR, ↓reduceIte, ↓e_m1, ↓e_m2, e_0, e_1, e_2, e_3, e_4, e_5, e_6, e_7, e_8, e_9, e_10, e_11, e_12, e_13, e_14, e_15, e_16, e_17, e_18, e_19, e_20, e_21, e_22, e_23, e_24, e_25, e_26, e_27, e_28, e_29, e_30, e_31, e_32, e_33, e_48, e_57, e_59, e_60, e_63, e_64, e_96, e_97, e_99, e_120, e_122, e_192, e_200, e_255, e_256, e_300, e_500, e_600, e_2000, e_5000, e_5240, e_6146, e_20000, e_65536, nIo, nI_clamp, nIxt, nI_1, nI_add, nI_mul, nI_eqF, nI_ltT, nI_ltF, nI_leT, nI_leF, nN_lt0, nN_le, nN_lt, nN_eq, nN_eq', eq_self, nBdS]
  · by_cases h2 : 122 < x
    · rw [if_neg (by omega)]; simp (disch := first | omega | exact nM1_n | exact nM2_n | assumption) only [b_X11_isLetter_0, l_X11_isLetter_0, f_X11_isLetter, ↓nLetR, ↓reduceIte, ↓e_m1, ↓e_m2, e_0, e_1, e_2, e_3, e_4, e_5, e_6, e_7, e_8, e_9, e_10, e_11, e_12, e_13, e_14, e_15, e_16, e_17, e_18, e_19, e_20, e_21, e_22, e_23, e_24, e_25, e_26, e_27, e_28, e_29, e_30, e_31, e_32, e_33, e_48, e_57, e_59, e_60, e_63, e_64, e_96, e_97, e_99, e_120, e_122, e_192, e_200, e_255, e_256, e_300, e_500, e_600, e_2000, e_5000, e_5240, e_6146, e_20000, e_65536, nIo, nI_clamp, nIxt, nI_1, nI_add, nI_mul, nI_eqF, nI_ltT, nI_ltF, nI_leT, nI_leF, nN_lt0, nN_le, nN_lt, nN_eq, nN_eq', eq_self, nBdS]
    · rw [if_pos (by omega)]; simp (disch := first | omega | exact nM1_n | exact nM2_n | assumption) only [b_X11_isLetter_0, l_X11_isLetter_0, f_X11_isLetter, ↓nLetR, ↓reduceIte, ↓e_m1, ↓e_m2, e_0, e_1, e_2, e_3, e_4, e_5, e_6, e_7, e_8, e_9, e_10, e_11, e_12, e_13, e_14, e_15, e_16, e_17, e_18, e_19, e_20, e_21, e_22, e_23, e_24, e_25, e_26, e_27, e_28, e_29, e_30, e_31, e_32, e_33, e_48, e_57, e_59, e_60, e_63, e_64, e_96, e_97, e_99, e_120, e_122, e_192, e_200, e_255, e_256, e_300, e_500, e_600, e_2000, e_5000, e_5240, e_6146, e_20000, e_65536, nIo, nI_clamp, nIxt, nI_1, nI_add, nI_mul, nI_eqF, nI_ltT, nI_ltF, nI_leT, nI_leF, nN_lt0, nN_le, nN_lt, nN_eq, nN_eq', eq_self, nBdS]
theorem dig_c {N x : Nat} {σ : nS} (hx : x < 256) : f_X4_isDigit N (nI x) σ = some (nI (if 48 ≤ x ∧ x ≤ 57 then 1 else 0), σ) := by
  by_cases h1 : x < 48
  · rw [if_neg (by omega)]; simp (disch := first | omega | exact nM1_n | exact nM2_n | assumption) only [b_X4_isDigit_0, l_X4_isDigit_0, f_X4_isDigit, ↓nLetR, ↓reduceIte, ↓e_m1, ↓e_m2, e_0, e_1, e_2, e_3, e_4, e_5, e_6, e_7, e_8, e_9, e_10, e_11, e_12, e_13, e_14, e_15, e_16, e_17, e_18, e_19, e_20, e_21, e_22, e_23, e_24, e_25, e_26, e_27, e_28, e_29, e_30, e_31, e_32, e_33, e_48, e_57, e_59, e_60, e_63, e_64, e_96, e_97, e_99, e_120, e_122, e_192, e_200, e_255, e_256, e_300, e_500, e_600, e_2000, e_5000, e_5240, e_6146, e_20000, e_65536, nIo, nI_clamp, nIxt, nI_1, nI_add, nI_mul, nI_eqF, nI_ltT, nI_ltF, nI_leT, nI_leF, nN_lt0, nN_le, nN_lt, nN_eq, nN_eq', eq_self, nBdS]
  · by_cases h2 : 57 < x
    · rw [if_neg (by omega)]; simp (disch := first | omega | exact nM1_n | exact nM2_n | assumption) only [b_X4_isDigit_0, l_X4_isDigit_0, f_X4_isDigit, ↓nLetR, ↓reduceIte, ↓e_m1, ↓e_m2, e_0, e_1, e_2, e_3, e_4, e_5, e_6, e_7, e_8, e_9, e_10, e_11, e_12, e_13, e_14, e_15, e_16, e_17, e_18, e_19, e_20, e_21, e_22, e_23, e_24, e_25, e_26, e_27, e_28, e_29, e_30, e_31, e_32, e_33, e_48, e_57, e_59, e_60, e_63, e_64, e_96, e_97, e_99, e_120, e_122, e_192, e_200, e_255, e_256, e_300, e_500, e_600, e_2000, e_5000, e_5240, e_6146, e_20000, e_65536, nIo, nI_clamp, nIxt, nI_1, nI_add, nI_mul, nI_eqF, nI_ltT, nI_ltF, nI_leT, nI_leF, nN_lt0, nN_le, nN_lt, nN_eq, nN_eq', eq_self, nBdS]
    · rw [if_pos (by omega)]; simp (disch := first | omega | exact nM1_n | exact nM2_n | assumption) only [b_X4_isDigit_0, l_X4_isDigit_0, f_X4_isDigit, ↓nLetR, ↓reduceIte, ↓e_m1, ↓e_m2, e_0, e_1, e_2, e_3, e_4, e_5, e_6, e_7, e_8, e_9, e_10, e_11, e_12, e_13, e_14, e_15, e_16, e_17, e_18, e_19, e_20, e_21, e_22, e_23, e_24, e_25, e_26, e_27, e_28, e_29, e_30, e_31, e_32, e_33, e_48, e_57, e_59, e_60, e_63, e_64, e_96, e_97, e_99, e_120, e_122, e_192, e_200, e_255, e_256, e_300, e_500, e_600, e_2000, e_5000, e_5240, e_6146, e_20000, e_65536, nIo, nI_clamp, nIxt, nI_1, nI_add, nI_mul, nI_eqF, nI_ltT, nI_ltF, nI_leT, nI_leF, nN_lt0, nN_le, nN_lt, nN_eq, nN_eq', eq_self, nBdS]
theorem dig_m {N x : Nat} {σ : nS} (hx : x < 256) : f_X11_isDigit N (nI x) σ = some (nI (if 48 ≤ x ∧ x ≤ 57 then 1 else 0), σ) := by
  by_cases h1 : x < 48
  · rw [if_neg (by omega)]; simp (disch := first | omega | exact nM1_n | exact nM2_n | assumption) only [b_X11_isDigit_0, l_X11_isDigit_0, f_X11_isDigit, ↓nLetR, ↓reduceIte, ↓e_m1, ↓e_m2, e_0, e_1, e_2, e_3, e_4, e_5, e_6, e_7, e_8, e_9, e_10, e_11, e_12, e_13, e_14, e_15, e_16, e_17, e_18, e_19, e_20, e_21, e_22, e_23, e_24, e_25, e_26, e_27, e_28, e_29, e_30, e_31, e_32, e_33, e_48, e_57, e_59, e_60, e_63, e_64, e_96, e_97, e_99, e_120, e_122, e_192, e_200, e_255, e_256, e_300, e_500, e_600, e_2000, e_5000, e_5240, e_6146, e_20000, e_65536, nIo, nI_clamp, nIxt, nI_1, nI_add, nI_mul, nI_eqF, nI_ltT, nI_ltF, nI_leT, nI_leF, nN_lt0, nN_le, nN_lt, nN_eq, nN_eq', eq_self, nBdS]
  · by_cases h2 : 57 < x
    · rw [if_neg (by omega)]; simp (disch := first | omega | exact nM1_n | exact nM2_n | assumption) only [b_X11_isDigit_0, l_X11_isDigit_0, f_X11_isDigit, ↓nLetR, ↓reduceIte, ↓e_m1, ↓e_m2, e_0, e_1, e_2, e_3, e_4, e_5, e_6, e_7, e_8, e_9, e_10, e_11, e_12, e_13, e_14, e_15, e_16, e_17, e_18, e_19, e_20, e_21, e_22, e_23, e_24, e_25, e_26, e_27, e_28, e_29, e_30, e_31, e_32, e_33, e_48, e_57, e_59, e_60, e_63, e_64, e_96, e_97, e_99, e_120, e_122, e_192, e_200, e_255, e_256, e_300, e_500, e_600, e_2000, e_5000, e_5240, e_6146, e_20000, e_65536, nIo, nI_clamp, nIxt, nI_1, nI_add, nI_mul, nI_eqF, nI_ltT, nI_ltF, nI_leT, nI_leF, nN_lt0, nN_le, nN_lt, nN_eq, nN_eq', eq_self, nBdS]
    · rw [if_pos (by omega)]; simp (disch := first | omega | exact nM1_n | exact nM2_n | assumption) only [b_X11_isDigit_0, l_X11_isDigit_0, f_X11_isDigit, ↓nLetR, ↓reduceIte, ↓e_m1, ↓e_m2, e_0, e_1, e_2, e_3, e_4, e_5, e_6, e_7, e_8, e_9, e_10, e_11, e_12, e_13, e_14, e_15, e_16, e_17, e_18, e_19, e_20, e_21, e_22, e_23, e_24, e_25, e_26, e_27, e_28, e_29, e_30, e_31, e_32, e_33, e_48, e_57, e_59, e_60, e_63, e_64, e_96, e_97, e_99, e_120, e_122, e_192, e_200, e_255, e_256, e_300, e_500, e_600, e_2000, e_5000, e_5240, e_6146, e_20000, e_65536, nIo, nI_clamp, nIxt, nI_1, nI_add, nI_mul, nI_eqF, nI_ltT, nI_ltF, nI_leT, nI_leF, nN_lt0, nN_le, nN_lt, nN_eq, nN_eq', eq_self, nBdS]
theorem let_e {N : Nat} {σ : nS} : f_X11_isLetter N nM1 σ = some (nI 0, σ) := by simp (disch := first | omega | exact nM1_n | exact nM2_n | assumption) only [b_X11_isLetter_0, l_X11_isLetter_0, f_X11_isLetter, ↓nLetR, ↓reduceIte, ↓e_m1, ↓e_m2, e_0, e_1, e_2, e_3, e_4, e_5, e_6, e_7, e_8, e_9, e_10, e_11, e_12, e_13, e_14, e_15, e_16, e_17, e_18, e_19, e_20, e_21, e_22, e_23, e_24, e_25, e_26, e_27, e_28, e_29, e_30, e_31, e_32, e_33, e_48, e_57, e_59, e_60, e_63, e_64, e_96, e_97, e_99, e_120, e_122, e_192, e_200, e_255, e_256, e_300, e_500, e_600, e_2000, e_5000, e_5240, e_6146, e_20000, e_65536, nIo, nI_clamp, nIxt, nI_1, nI_add, nI_mul, nI_eqF, nI_ltT, nI_ltF, nI_leT, nI_leF, nN_lt0, nN_le, nN_lt, nN_eq, nN_eq', eq_self, nBdS]
theorem dig_e {N : Nat} {σ : nS} : f_X11_isDigit N nM1 σ = some (nI 0, σ) := by simp (disch := first | omega | exact nM1_n | exact nM2_n | assumption) only [b_X11_isDigit_0, l_X11_isDigit_0, f_X11_isDigit, ↓nLetR, ↓reduceIte, ↓e_m1, ↓e_m2, e_0, e_1, e_2, e_3, e_4, e_5, e_6, e_7, e_8, e_9, e_10, e_11, e_12, e_13, e_14, e_15, e_16, e_17, e_18, e_19, e_20, e_21, e_22, e_23, e_24, e_25, e_26, e_27, e_28, e_29, e_30, e_31, e_32, e_33, e_48, e_57, e_59, e_60, e_63, e_64, e_96, e_97, e_99, e_120, e_122, e_192, e_200, e_255, e_256, e_300, e_500, e_600, e_2000, e_5000, e_5240, e_6146, e_20000, e_65536, nIo, nI_clamp, nIxt, nI_1, nI_add, nI_mul, nI_eqF, nI_ltT, nI_ltF, nI_leT, nI_leF, nN_lt0, nN_le, nN_lt, nN_eq, nN_eq', eq_self, nBdS]
