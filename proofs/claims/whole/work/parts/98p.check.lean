/-! BOOK: targets -/
def enc : Option Nat → Int32
  | none => nM1
  | some q => nI q
def fb (K : Nat) : List (Nat × Nat) → Option Nat
  | [] => none
  | x :: l => if K ≤ x.1 then some x.2 else fb K l
def orE : Option Nat → Nat → Nat → Nat → Option Nat
  | some q, _, _, _ => some q
  | none, K, v, q => if K ≤ v then some q else none
theorem fb_app (K : Nat) (l : List (Nat × Nat)) (x : Nat × Nat) : fb K (l ++ [x]) = orE (fb K l) K x.1 x.2 := by
  induction l with
  | nil => rfl
  | cons y l ih =>
    show (if K ≤ y.1 then some y.2 else fb K (l ++ [x])) = orE (if K ≤ y.1 then some y.2 else fb K l) K x.1 x.2
    by_cases h : K ≤ y.1
    · rw [if_pos h, if_pos h]
      rfl
    · rw [if_neg h, if_neg h, ih]
theorem fb_mem {K q : Nat} {l : List (Nat × Nat)} (h : fb K l = some q) : ∃ v, (v, q) ∈ l := by
  induction l with
  | nil => cases h
  | cons y l ih =>
    unfold fb at h
    by_cases hk : K ≤ y.1
    · rw [if_pos hk] at h
      injection h with h
      exact ⟨y.1, by rw [← h]; exact List.mem_cons_self ..⟩
    · rw [if_neg hk] at h
      obtain ⟨v, hv⟩ := ih h
      exact ⟨v, List.mem_cons_of_mem _ hv⟩
theorem fb_none {K : Nat} {l : List (Nat × Nat)} (h : fb K l = none) : ∀ x, x ∈ l → x.1 < K := by
  induction l with
  | nil => intro x hx; cases hx
  | cons y l ih =>
    unfold fb at h
    by_cases hk : K ≤ y.1
    · rw [if_pos hk] at h; cases h
    · rw [if_neg hk] at h
      intro x hx
      rcases List.mem_cons.mp hx with rfl | hx
      · omega
      · exact ih h x hx
def tgX (τ : nS) (B k : Nat) (X : List (Nat × Nat)) : Prop :=
  (¬ τ.1 4 (24 * B + k) = nI 2 ∧ ¬ τ.1 4 (24 * B + k) = nI 4 ∧ X = []) ∨
  (τ.1 4 (24 * B + k) = nI 4 ∧ ∃ v q, v < 100 ∧ q < 1000 ∧ τ.1 5 (24 * B + k) = nI v ∧ τ.1 11 (2 * k) = nI q ∧ X = [(v, q)]) ∨
  (τ.1 4 (24 * B + k) = nI 2 ∧ ∃ v q v2 q2, v < 100 ∧ v2 < 100 ∧ q < 1000 ∧ q2 < 1000 ∧ τ.1 6 (24 * B + k) = nI v ∧ τ.1 11 (2 * k) = nI q ∧ τ.1 7 (24 * B + k) = nI v2 ∧ τ.1 11 (2 * k + 1) = nI q2 ∧ X = [(v, q), (v2, q2)])
def mTL (τ : nS) (B : Nat) : Nat → List (Nat × Nat) → Prop
  | 0, L => L = []
  | k + 1, L => ∃ L' X, L = L' ++ X ∧ mTL τ B k L' ∧ tgX τ B k X
def srt (L : List (Nat × Nat)) : Prop := L.Pairwise (fun a b => a.2 < b.2)
theorem tgX.fr {τ τ' : nS} {B k : Nat} {X : List (Nat × Nat)} (h : tgX τ B k X) (e : ∀ d, 4 ≤ d → d ≤ 8 → τ'.1 d (24 * B + k) = τ.1 d (24 * B + k)) (e11 : ∀ i, i < 2 * (k + 1) → τ'.1 11 i = τ.1 11 i) : tgX τ' B k X := by
  unfold tgX
  rw [e 4 (by decide) (by decide), e 5 (by decide) (by decide), e 6 (by decide) (by decide), e 7 (by decide) (by decide), e11 (2 * k) (by omega), e11 (2 * k + 1) (by omega)]
  exact h
theorem mTL.fr {τ τ' : nS} {B : Nat} : ∀ {k : Nat} {L : List (Nat × Nat)}, mTL τ B k L → (∀ d, 4 ≤ d → d ≤ 8 → ∀ i, i < 24 * B + k → τ'.1 d i = τ.1 d i) → (∀ i, i < 2 * k → τ'.1 11 i = τ.1 11 i) → mTL τ' B k L := by
  intro k
  induction k with
  | zero => intro L h _ _; exact h
  | succ k ih =>
    intro L h e e11
    obtain ⟨L', X, h1, h2, h3⟩ := h
    exact ⟨L', X, h1, ih h2 (fun d d1 d2 i hi => e d d1 d2 i (by omega)) (fun i hi => e11 i (by omega)), h3.fr (fun d d1 d2 => e d d1 d2 _ (by omega)) e11⟩
theorem mTL.at {τ : nS} {B : Nat} : ∀ {K : Nat} {L : List (Nat × Nat)}, mTL τ B K L → ∀ k, k < K → ∃ X, tgX τ B k X ∧ ∀ x, x ∈ X → x ∈ L := by
  intro K
  induction K with
  | zero => intro L _ k hk; omega
  | succ K ih =>
    intro L h k hk
    obtain ⟨L', X, h1, h2, h3⟩ := h
    by_cases e : k = K
    · subst e
      exact ⟨X, h3, fun x hx => by rw [h1]; exact List.mem_append_right _ hx⟩
    · obtain ⟨X', g1, g2⟩ := ih h2 k (by omega)
      exact ⟨X', g1, fun x hx => by rw [h1]; exact List.mem_append_left _ (g2 x hx)⟩
theorem ta_go {N K : Nat} {σ : nS} {TL : List (Nat × Nat)} (hK : K ≤ 24) (ht : TL.length ≤ 48) (h13 : σ.1 6 13 = nI TL.length) (hl : ∀ i (h : i < TL.length), TL[i].1 < 100 ∧ σ.1 8 i = nI TL[i].1 ∧ σ.1 9 i = nI TL[i].2) : ∀ d i m, i + d = TL.length → d < m → nLp (fun _ _ _ => none) (fun again => b_X4_targetsAreThere_2 N again) m σ (nI K) (nI i) = match fb K (TL.drop i) with | none => some (nI 1, σ) | some q => some (nI 0, wr (wr σ 6 9 (nI 2)) 6 10 (nI q)) := by
  intro d
  induction d with
  | zero =>
    intro i m hi hm
    have hz : TL.drop i = [] := List.drop_eq_nil_of_le (by omega)
    rw [hz, nLpP _ _ hm]
    show _ = some (nI 1, σ)
    simp (disch := first | omega | exact nM1_n | exact nM2_n | assumption) only [b_X4_targetsAreThere_2, h13, ↓nLetR, ↓reduceIte, ↓e_m1, ↓e_m2, e_0, e_1, e_2, e_3, e_4, e_5, e_6, e_7, e_8, e_9, e_10, e_11, e_12, e_13, e_14, e_15, e_16, e_17, e_18, e_19, e_20, e_21, e_22, e_23, e_24, e_25, e_26, e_27, e_28, e_29, e_30, e_31, e_32, e_33, e_48, e_57, e_59, e_60, e_63, e_64, e_96, e_97, e_99, e_120, e_122, e_192, e_200, e_255, e_256, e_300, e_500, e_600, e_2000, e_5000, e_5240, e_6146, e_20000, e_65536, nIo, nI_clamp, nIxt, nI_1, nI_add, nI_mul, nI_eqF, nI_ltT, nI_ltF, nI_leT, nI_leF, nN_lt0, nN_le, nN_lt, nN_eq, nN_eq', eq_self, nBdS]
  | succ d ih =>
    intro i m hi hm
    have hil : i < TL.length := by omega
    obtain ⟨l0, l1, l2⟩ := hl i hil
    rw [List.drop_eq_getElem_cons hil, nLpP _ _ (by omega)]
    show _ = match (if K ≤ TL[i].1 then some TL[i].2 else fb K (TL.drop (i + 1))) with | none => some (nI 1, σ) | some q => some (nI 0, wr (wr σ 6 9 (nI 2)) 6 10 (nI q))
    generalize TL[i].1 = v at l0 l1
    generalize TL[i].2 = q at l2
    by_cases h : K ≤ v
    · rw [if_pos h]
      show _ = some (nI 0, wr (wr σ 6 9 (nI 2)) 6 10 (nI q))
      simp (disch := first | omega | exact nM1_n | exact nM2_n | assumption) only [b_X4_targetsAreThere_2, h13, l1, l2, ↓nLetR, ↓reduceIte, ↓e_m1, ↓e_m2, e_0, e_1, e_2, e_3, e_4, e_5, e_6, e_7, e_8, e_9, e_10, e_11, e_12, e_13, e_14, e_15, e_16, e_17, e_18, e_19, e_20, e_21, e_22, e_23, e_24, e_25, e_26, e_27, e_28, e_29, e_30, e_31, e_32, e_33, e_48, e_57, e_59, e_60, e_63, e_64, e_96, e_97, e_99, e_120, e_122, e_192, e_200, e_255, e_256, e_300, e_500, e_600, e_2000, e_5000, e_5240, e_6146, e_20000, e_65536, nIo, nI_clamp, nIxt, nI_1, nI_add, nI_mul, nI_eqF, nI_ltT, nI_ltF, nI_leT, nI_leF, nN_lt0, nN_le, nN_lt, nN_eq, nN_eq', eq_self, nBdS, wrs, wrk, wrc, wr2, wl1, wls, wlk, wlc]
    · rw [if_neg h, ← ih (i + 1) (m - 1) (by omega) (by omega)]
      simp (disch := first | omega | exact nM1_n | exact nM2_n | assumption) only [b_X4_targetsAreThere_2, h13, l1, ↓nLetR, ↓reduceIte, ↓e_m1, ↓e_m2, e_0, e_1, e_2, e_3, e_4, e_5, e_6, e_7, e_8, e_9, e_10, e_11, e_12, e_13, e_14, e_15, e_16, e_17, e_18, e_19, e_20, e_21, e_22, e_23, e_24, e_25, e_26, e_27, e_28, e_29, e_30, e_31, e_32, e_33, e_48, e_57, e_59, e_60, e_63, e_64, e_96, e_97, e_99, e_120, e_122, e_192, e_200, e_255, e_256, e_300, e_500, e_600, e_2000, e_5000, e_5240, e_6146, e_20000, e_65536, nIo, nI_clamp, nIxt, nI_1, nI_add, nI_mul, nI_eqF, nI_ltT, nI_ltF, nI_leT, nI_leF, nN_lt0, nN_le, nN_lt, nN_eq, nN_eq', eq_self, nBdS]
theorem c301 {N B k w v q K : Nat} {τ : nS} {o : Option Nat} (hB : B < 5) (hk : k < 24) (hw : w < 2) (hv : v < 100) (hq : q < 1000) (hK : K ≤ 24) (h3 : τ.1 3 B = nI K) (h11 : τ.1 11 (2 * k + w) = nI q) (ho : ∀ q0, o = some q0 → q0 < q) (k232 : nS → Int32 → Int32 → Int32 → Int32 → Int32 → Option (Option Int32 × nS)) (i : Int32) :
    l_X11_reads_301 N k232 τ (nI B) (enc o) (nI k) i (nI w) (nI v) = k232 τ (nI B) (enc (orE o K v q)) (nI k) i (nI (w + 1)) := by
  by_cases h : K ≤ v
  · cases o with
    | none =>
      show _ = k232 τ (nI B) (enc (if K ≤ v then some q else none)) (nI k) i (nI (w + 1))
      rw [if_pos h]
      show _ = k232 τ (nI B) (nI q) (nI k) i (nI (w + 1))
      have he : enc none = nM1 := rfl
      simp (disch := first | omega | exact nM1_n | exact nM2_n | assumption) only [l_X11_reads_301, b_X11_reads_301, l_X11_reads_335, b_X11_reads_335, l_X11_reads_348, b_X11_reads_348, he, h3, h11, ↓nLetR, ↓reduceIte, ↓e_m1, ↓e_m2, e_0, e_1, e_2, e_3, e_4, e_5, e_6, e_7, e_8, e_9, e_10, e_11, e_12, e_13, e_14, e_15, e_16, e_17, e_18, e_19, e_20, e_21, e_22, e_23, e_24, e_25, e_26, e_27, e_28, e_29, e_30, e_31, e_32, e_33, e_48, e_57, e_59, e_60, e_63, e_64, e_96, e_97, e_99, e_120, e_122, e_192, e_200, e_255, e_256, e_300, e_500, e_600, e_2000, e_5000, e_5240, e_6146, e_20000, e_65536, nIo, nI_clamp, nIxt, nI_1, nI_add, nI_mul, nI_eqF, nI_ltT, nI_ltF, nI_leT, nI_leF, nN_lt0, nN_le, nN_lt, nN_eq, nN_eq', eq_self, nBdS]
    | some q0 =>
      have hlt := ho q0 rfl
      have he : enc (some q0) = nI q0 := rfl
      have hne : (nI q0 = nM1) = False := eq_false (nM1ne q0 (by omega))
      show _ = k232 τ (nI B) (enc (some q0)) (nI k) i (nI (w + 1))
      simp (disch := first | omega | exact nM1_n | exact nM2_n | assumption) only [l_X11_reads_301, b_X11_reads_301, l_X11_reads_335, b_X11_reads_335, l_X11_reads_348, b_X11_reads_348, he, hne, h3, h11, ↓nLetR, ↓reduceIte, ↓e_m1, ↓e_m2, e_0, e_1, e_2, e_3, e_4, e_5, e_6, e_7, e_8, e_9, e_10, e_11, e_12, e_13, e_14, e_15, e_16, e_17, e_18, e_19, e_20, e_21, e_22, e_23, e_24, e_25, e_26, e_27, e_28, e_29, e_30, e_31, e_32, e_33, e_48, e_57, e_59, e_60, e_63, e_64, e_96, e_97, e_99, e_120, e_122, e_192, e_200, e_255, e_256, e_300, e_500, e_600, e_2000, e_5000, e_5240, e_6146, e_20000, e_65536, nIo, nI_clamp, nIxt, nI_1, nI_add, nI_mul, nI_eqF, nI_ltT, nI_ltF, nI_leT, nI_leF, nN_lt0, nN_le, nN_lt, nN_eq, nN_eq', eq_self, nBdS]
  · have e2 : orE o K v q = o := by
      cases o with
      | none => show (if K ≤ v then some q else none) = none; rw [if_neg h]
      | some q0 => rfl
    rw [e2]
    simp (disch := first | omega | exact nM1_n | exact nM2_n | assumption) only [l_X11_reads_301, b_X11_reads_301, l_X11_reads_335, b_X11_reads_335, l_X11_reads_348, b_X11_reads_348, h3, ↓nLetR, ↓reduceIte, ↓e_m1, ↓e_m2, e_0, e_1, e_2, e_3, e_4, e_5, e_6, e_7, e_8, e_9, e_10, e_11, e_12, e_13, e_14, e_15, e_16, e_17, e_18, e_19, e_20, e_21, e_22, e_23, e_24, e_25, e_26, e_27, e_28, e_29, e_30, e_31, e_32, e_33, e_48, e_57, e_59, e_60, e_63, e_64, e_96, e_97, e_99, e_120, e_122, e_192, e_200, e_255, e_256, e_300, e_500, e_600, e_2000, e_5000, e_5240, e_6146, e_20000, e_65536, nIo, nI_clamp, nIxt, nI_1, nI_add, nI_mul, nI_eqF, nI_ltT, nI_ltF, nI_leT, nI_leF, nN_lt0, nN_le, nN_lt, nN_eq, nN_eq', eq_self, nBdS]
theorem c300 {N B k w K : Nat} {τ : nS} {o : Int32} (hB : B < 5) (hK : K ≤ 24) (hK1 : 1 ≤ K) (hw : w < 2) (h3 : τ.1 3 B = nI K) (k232 : nS → Int32 → Int32 → Int32 → Int32 → Int32 → Option (Option Int32 × nS)) (i : Int32) :
    l_X11_reads_300 N (l_X11_reads_301 N k232) τ (nI B) o (nI k) i (nI w) = k232 τ (nI B) o (nI k) i (nI (w + 1)) := by
  simp (disch := first | omega | exact nM1_n | exact nM2_n | assumption) only [l_X11_reads_300, b_X11_reads_300, l_X11_reads_301, b_X11_reads_301, l_X11_reads_348, b_X11_reads_348, h3, ↓nLetR, ↓reduceIte, ↓e_m1, ↓e_m2, e_0, e_1, e_2, e_3, e_4, e_5, e_6, e_7, e_8, e_9, e_10, e_11, e_12, e_13, e_14, e_15, e_16, e_17, e_18, e_19, e_20, e_21, e_22, e_23, e_24, e_25, e_26, e_27, e_28, e_29, e_30, e_31, e_32, e_33, e_48, e_57, e_59, e_60, e_63, e_64, e_96, e_97, e_99, e_120, e_122, e_192, e_200, e_255, e_256, e_300, e_500, e_600, e_2000, e_5000, e_5240, e_6146, e_20000, e_65536, nIo, nI_clamp, nIxt, nI_1, nI_add, nI_mul, nI_eqF, nI_ltT, nI_ltF, nI_leT, nI_leF, nN_lt0, nN_le, nN_lt, nN_eq, nN_eq', eq_self, nBdS]
theorem c232 {N B k K : Nat} {τ : nS} {o : Option Nat} {X : List (Nat × Nat)} (hN : 10 ≤ N) (hB : B < 5) (hk : k < 24) (hK : K ≤ 24) (hK1 : 1 ≤ K) (h3 : τ.1 3 B = nI K) (hX : tgX τ B k X) (L : List (Nat × Nat)) (hs : srt (L ++ X)) (ho : o = fb K L) (k209 : nS → Int32 → Int32 → Int32 → Option (Option Int32 × nS)) :
    l_X11_reads_232 N k209 τ (nI B) (enc o) (nI k) (nI (24 * B + k)) (nI 0) = k209 τ (nI B) (enc (fb K (L ++ X))) (nI (k + 1)) := by
  have hi : 24 * B + k < 120 := by omega
  have done : ∀ (x3 : Int32) m, 0 < m → nLp (fun _ _ _ _ _ _ => none) (fun again => b_X11_reads_232 N k209 (l_X11_reads_300 N (l_X11_reads_301 N again)) (l_X11_reads_301 N again)) m τ (nI B) x3 (nI k) (nI (24 * B + k)) (nI 2) = k209 τ (nI B) x3 (nI (k + 1)) := by
    intro x3 m hm
    rw [nLpP _ _ hm]
    simp (disch := first | omega | exact nM1_n | exact nM2_n | assumption) only [b_X11_reads_232, ↓nLetR, ↓reduceIte, ↓e_m1, ↓e_m2, e_0, e_1, e_2, e_3, e_4, e_5, e_6, e_7, e_8, e_9, e_10, e_11, e_12, e_13, e_14, e_15, e_16, e_17, e_18, e_19, e_20, e_21, e_22, e_23, e_24, e_25, e_26, e_27, e_28, e_29, e_30, e_31, e_32, e_33, e_48, e_57, e_59, e_60, e_63, e_64, e_96, e_97, e_99, e_120, e_122, e_192, e_200, e_255, e_256, e_300, e_500, e_600, e_2000, e_5000, e_5240, e_6146, e_20000, e_65536, nIo, nI_clamp, nIxt, nI_1, nI_add, nI_mul, nI_eqF, nI_ltT, nI_ltF, nI_leT, nI_leF, nN_lt0, nN_le, nN_lt, nN_eq, nN_eq', eq_self, nBdS]
  have old : ∀ q0, o = some q0 → ∀ x, x ∈ X → q0 < x.2 := by
    intro q0 h x hx
    rw [ho] at h
    obtain ⟨v, hv⟩ := fb_mem h
    exact (List.pairwise_append.mp hs).2.2 _ hv _ hx
  unfold l_X11_reads_232
  rcases hX with ⟨n2, n4, rfl⟩ | ⟨e4, v, q, hv, hq, e5, e11, rfl⟩ | ⟨e2, v, q, v2, q2, hv, hv2, hq, hq2, e6, e11, e7, e12, rfl⟩
  · have n2' := eq_false n2
    have n4' := eq_false n4
    rw [List.append_nil, ← ho, nLpP _ _ (by omega)]
    have s1 : ∀ m, 0 < m → nLp (fun _ _ _ _ _ _ => none) (fun again => b_X11_reads_232 N k209 (l_X11_reads_300 N (l_X11_reads_301 N again)) (l_X11_reads_301 N again)) m τ (nI B) (enc o) (nI k) (nI (24 * B + k)) (nI 1) = nLp (fun _ _ _ _ _ _ => none) (fun again => b_X11_reads_232 N k209 (l_X11_reads_300 N (l_X11_reads_301 N again)) (l_X11_reads_301 N again)) (m - 1) τ (nI B) (enc o) (nI k) (nI (24 * B + k)) (nI 2) := by
      intro m hm
      rw [nLpP _ _ hm]
      have h := c300 (N := N) (w := 1) (k := k) (o := enc o) hB hK hK1 (by decide) h3 (nLp (fun _ _ _ _ _ _ => none) (fun again => b_X11_reads_232 N k209 (l_X11_reads_300 N (l_X11_reads_301 N again)) (l_X11_reads_301 N again)) (m - 1)) (nI (24 * B + k))
      rw [← h]
      simp (disch := first | omega | exact nM1_n | exact nM2_n | assumption) only [b_X11_reads_232, n2', n4', ↓nLetR, ↓reduceIte, ↓e_m1, ↓e_m2, e_0, e_1, e_2, e_3, e_4, e_5, e_6, e_7, e_8, e_9, e_10, e_11, e_12, e_13, e_14, e_15, e_16, e_17, e_18, e_19, e_20, e_21, e_22, e_23, e_24, e_25, e_26, e_27, e_28, e_29, e_30, e_31, e_32, e_33, e_48, e_57, e_59, e_60, e_63, e_64, e_96, e_97, e_99, e_120, e_122, e_192, e_200, e_255, e_256, e_300, e_500, e_600, e_2000, e_5000, e_5240, e_6146, e_20000, e_65536, nIo, nI_clamp, nIxt, nI_1, nI_add, nI_mul, nI_eqF, nI_ltT, nI_ltF, nI_leT, nI_leF, nN_lt0, nN_le, nN_lt, nN_eq, nN_eq', eq_self, nBdS]
    have h := c300 (N := N) (w := 0) (k := k) (o := enc o) hB hK hK1 (by decide) h3 (nLp (fun _ _ _ _ _ _ => none) (fun again => b_X11_reads_232 N k209 (l_X11_reads_300 N (l_X11_reads_301 N again)) (l_X11_reads_301 N again)) (N - 1)) (nI (24 * B + k))
    have h2 : b_X11_reads_232 N k209 (l_X11_reads_300 N (l_X11_reads_301 N (nLp (fun _ _ _ _ _ _ => none) (fun again => b_X11_reads_232 N k209 (l_X11_reads_300 N (l_X11_reads_301 N again)) (l_X11_reads_301 N again)) (N - 1)))) (l_X11_reads_301 N (nLp (fun _ _ _ _ _ _ => none) (fun again => b_X11_reads_232 N k209 (l_X11_reads_300 N (l_X11_reads_301 N again)) (l_X11_reads_301 N again)) (N - 1))) τ (nI B) (enc o) (nI k) (nI (24 * B + k)) (nI 0) = l_X11_reads_300 N (l_X11_reads_301 N (nLp (fun _ _ _ _ _ _ => none) (fun again => b_X11_reads_232 N k209 (l_X11_reads_300 N (l_X11_reads_301 N again)) (l_X11_reads_301 N again)) (N - 1))) τ (nI B) (enc o) (nI k) (nI (24 * B + k)) (nI 0) := by
      simp (disch := first | omega | exact nM1_n | exact nM2_n | assumption) only [b_X11_reads_232, n2', n4', ↓nLetR, ↓reduceIte, ↓e_m1, ↓e_m2, e_0, e_1, e_2, e_3, e_4, e_5, e_6, e_7, e_8, e_9, e_10, e_11, e_12, e_13, e_14, e_15, e_16, e_17, e_18, e_19, e_20, e_21, e_22, e_23, e_24, e_25, e_26, e_27, e_28, e_29, e_30, e_31, e_32, e_33, e_48, e_57, e_59, e_60, e_63, e_64, e_96, e_97, e_99, e_120, e_122, e_192, e_200, e_255, e_256, e_300, e_500, e_600, e_2000, e_5000, e_5240, e_6146, e_20000, e_65536, nIo, nI_clamp, nIxt, nI_1, nI_add, nI_mul, nI_eqF, nI_ltT, nI_ltF, nI_leT, nI_leF, nN_lt0, nN_le, nN_lt, nN_eq, nN_eq', eq_self, nBdS]
    rw [h2, h, s1 (N - 1) (by omega), done _ _ (by omega)]
  · have h := c301 (N := N) (w := 0) (v := v) (q := q) (o := o) hB hk (by decide) hv hq hK h3 e11 (fun q0 h => old q0 h _ (List.mem_singleton.mpr rfl)) (nLp (fun _ _ _ _ _ _ => none) (fun again => b_X11_reads_232 N k209 (l_X11_reads_300 N (l_X11_reads_301 N again)) (l_X11_reads_301 N again)) (N - 1)) (nI (24 * B + k))
    have ef : orE o K v q = fb K (L ++ [(v, q)]) := by rw [fb_app, ho]
    rw [ef] at h
    rw [nLpP _ _ (by omega)]
    have h2 : b_X11_reads_232 N k209 (l_X11_reads_300 N (l_X11_reads_301 N (nLp (fun _ _ _ _ _ _ => none) (fun again => b_X11_reads_232 N k209 (l_X11_reads_300 N (l_X11_reads_301 N again)) (l_X11_reads_301 N again)) (N - 1)))) (l_X11_reads_301 N (nLp (fun _ _ _ _ _ _ => none) (fun again => b_X11_reads_232 N k209 (l_X11_reads_300 N (l_X11_reads_301 N again)) (l_X11_reads_301 N again)) (N - 1))) τ (nI B) (enc o) (nI k) (nI (24 * B + k)) (nI 0) = l_X11_reads_301 N (nLp (fun _ _ _ _ _ _ => none) (fun again => b_X11_reads_232 N k209 (l_X11_reads_300 N (l_X11_reads_301 N again)) (l_X11_reads_301 N again)) (N - 1)) τ (nI B) (enc o) (nI k) (nI (24 * B + k)) (nI 0) (nI v) := by
      simp (disch := first | omega | exact nM1_n | exact nM2_n | assumption) only [b_X11_reads_232, e4, e5, ↓nLetR, ↓reduceIte, ↓e_m1, ↓e_m2, e_0, e_1, e_2, e_3, e_4, e_5, e_6, e_7, e_8, e_9, e_10, e_11, e_12, e_13, e_14, e_15, e_16, e_17, e_18, e_19, e_20, e_21, e_22, e_23, e_24, e_25, e_26, e_27, e_28, e_29, e_30, e_31, e_32, e_33, e_48, e_57, e_59, e_60, e_63, e_64, e_96, e_97, e_99, e_120, e_122, e_192, e_200, e_255, e_256, e_300, e_500, e_600, e_2000, e_5000, e_5240, e_6146, e_20000, e_65536, nIo, nI_clamp, nIxt, nI_1, nI_add, nI_mul, nI_eqF, nI_ltT, nI_ltF, nI_leT, nI_leF, nN_lt0, nN_le, nN_lt, nN_eq, nN_eq', eq_self, nBdS]
    rw [h2, h, nLpP _ _ (by omega)]
    have h3' := c300 (N := N) (w := 1) (k := k) (o := enc (fb K (L ++ [(v, q)]))) hB hK hK1 (by decide) h3 (nLp (fun _ _ _ _ _ _ => none) (fun again => b_X11_reads_232 N k209 (l_X11_reads_300 N (l_X11_reads_301 N again)) (l_X11_reads_301 N again)) (N - 1 - 1)) (nI (24 * B + k))
    rw [← done (enc (fb K (L ++ [(v, q)]))) (N - 1 - 1) (by omega)]
    refine Eq.trans ?_ h3'
    simp (disch := first | omega | exact nM1_n | exact nM2_n | assumption) only [b_X11_reads_232, e4, ↓nLetR, ↓reduceIte, ↓e_m1, ↓e_m2, e_0, e_1, e_2, e_3, e_4, e_5, e_6, e_7, e_8, e_9, e_10, e_11, e_12, e_13, e_14, e_15, e_16, e_17, e_18, e_19, e_20, e_21, e_22, e_23, e_24, e_25, e_26, e_27, e_28, e_29, e_30, e_31, e_32, e_33, e_48, e_57, e_59, e_60, e_63, e_64, e_96, e_97, e_99, e_120, e_122, e_192, e_200, e_255, e_256, e_300, e_500, e_600, e_2000, e_5000, e_5240, e_6146, e_20000, e_65536, nIo, nI_clamp, nIxt, nI_1, nI_add, nI_mul, nI_eqF, nI_ltT, nI_ltF, nI_leT, nI_leF, nN_lt0, nN_le, nN_lt, nN_eq, nN_eq', eq_self, nBdS]
  · have p1 := (List.pairwise_append.mp hs).2.1
    have hqq : q < q2 := by
      have := List.pairwise_cons.mp p1
      exact this.1 (v2, q2) (List.mem_singleton.mpr rfl)
    have h := c301 (N := N) (w := 0) (v := v) (q := q) (o := o) hB hk (by decide) hv hq hK h3 e11 (fun q0 h => old q0 h _ (List.mem_cons_self ..)) (nLp (fun _ _ _ _ _ _ => none) (fun again => b_X11_reads_232 N k209 (l_X11_reads_300 N (l_X11_reads_301 N again)) (l_X11_reads_301 N again)) (N - 1)) (nI (24 * B + k))
    have ef : orE o K v q = fb K (L ++ [(v, q)]) := by rw [fb_app, ho]
    rw [ef] at h
    rw [nLpP _ _ (by omega)]
    have h2 : b_X11_reads_232 N k209 (l_X11_reads_300 N (l_X11_reads_301 N (nLp (fun _ _ _ _ _ _ => none) (fun again => b_X11_reads_232 N k209 (l_X11_reads_300 N (l_X11_reads_301 N again)) (l_X11_reads_301 N again)) (N - 1)))) (l_X11_reads_301 N (nLp (fun _ _ _ _ _ _ => none) (fun again => b_X11_reads_232 N k209 (l_X11_reads_300 N (l_X11_reads_301 N again)) (l_X11_reads_301 N again)) (N - 1))) τ (nI B) (enc o) (nI k) (nI (24 * B + k)) (nI 0) = l_X11_reads_301 N (nLp (fun _ _ _ _ _ _ => none) (fun again => b_X11_reads_232 N k209 (l_X11_reads_300 N (l_X11_reads_301 N again)) (l_X11_reads_301 N again)) (N - 1)) τ (nI B) (enc o) (nI k) (nI (24 * B + k)) (nI 0) (nI v) := by
      simp (disch := first | omega | exact nM1_n | exact nM2_n | assumption) only [b_X11_reads_232, e2, e6, ↓nLetR, ↓reduceIte, ↓e_m1, ↓e_m2, e_0, e_1, e_2, e_3, e_4, e_5, e_6, e_7, e_8, e_9, e_10, e_11, e_12, e_13, e_14, e_15, e_16, e_17, e_18, e_19, e_20, e_21, e_22, e_23, e_24, e_25, e_26, e_27, e_28, e_29, e_30, e_31, e_32, e_33, e_48, e_57, e_59, e_60, e_63, e_64, e_96, e_97, e_99, e_120, e_122, e_192, e_200, e_255, e_256, e_300, e_500, e_600, e_2000, e_5000, e_5240, e_6146, e_20000, e_65536, nIo, nI_clamp, nIxt, nI_1, nI_add, nI_mul, nI_eqF, nI_ltT, nI_ltF, nI_leT, nI_leF, nN_lt0, nN_le, nN_lt, nN_eq, nN_eq', eq_self, nBdS]
    have hold2 : ∀ q0, fb K (L ++ [(v, q)]) = some q0 → q0 < q2 := by
      intro q0 h0
      rw [fb_app] at h0
      cases hL : fb K L with
      | some q1 =>
        rw [hL] at h0
        have e0 : q1 = q0 := by injection h0
        rw [← e0]
        exact old q1 (ho.trans hL) (v2, q2) (List.mem_cons_of_mem _ (List.mem_singleton.mpr rfl))
      | none =>
        rw [hL] at h0
        have h0' : (if K ≤ v then some q else none) = some q0 := h0
        by_cases hc : K ≤ v
        · rw [if_pos hc] at h0'
          have e0 : q = q0 := by injection h0'
          omega
        · rw [if_neg hc] at h0'; cases h0'
    have g := c301 (N := N) (w := 1) (v := v2) (q := q2) (o := fb K (L ++ [(v, q)])) hB hk (by decide) hv2 hq2 hK h3 e12 hold2 (nLp (fun _ _ _ _ _ _ => none) (fun again => b_X11_reads_232 N k209 (l_X11_reads_300 N (l_X11_reads_301 N again)) (l_X11_reads_301 N again)) (N - 1 - 1)) (nI (24 * B + k))
    have eg : orE (fb K (L ++ [(v, q)])) K v2 q2 = fb K (L ++ [(v, q), (v2, q2)]) := by
      rw [show L ++ [(v, q), (v2, q2)] = (L ++ [(v, q)]) ++ [(v2, q2)] by rw [List.append_assoc]; rfl, fb_app K (L ++ [(v, q)])]
    rw [eg] at g
    rw [h2, h, nLpP _ _ (by omega), ← done (enc (fb K (L ++ [(v, q), (v2, q2)]))) (N - 1 - 1) (by omega)]
    refine Eq.trans ?_ g
    simp (disch := first | omega | exact nM1_n | exact nM2_n | assumption) only [b_X11_reads_232, e2, e7, ↓nLetR, ↓reduceIte, ↓e_m1, ↓e_m2, e_0, e_1, e_2, e_3, e_4, e_5, e_6, e_7, e_8, e_9, e_10, e_11, e_12, e_13, e_14, e_15, e_16, e_17, e_18, e_19, e_20, e_21, e_22, e_23, e_24, e_25, e_26, e_27, e_28, e_29, e_30, e_31, e_32, e_33, e_48, e_57, e_59, e_60, e_63, e_64, e_96, e_97, e_99, e_120, e_122, e_192, e_200, e_255, e_256, e_300, e_500, e_600, e_2000, e_5000, e_5240, e_6146, e_20000, e_65536, nIo, nI_clamp, nIxt, nI_1, nI_add, nI_mul, nI_eqF, nI_ltT, nI_ltF, nI_leT, nI_leF, nN_lt0, nN_le, nN_lt, nN_eq, nN_eq', eq_self, nBdS]
theorem cm_go {N B K : Nat} {τ : nS} (hN : 100 ≤ N) (hB : B < 5) (hK : K ≤ 24) (hK1 : 1 ≤ K) (h3 : τ.1 3 B = nI K) : ∀ k L, k ≤ K → mTL τ B k L → srt L → l_X11_reads_209 N τ (nI B) nM1 (nI 0) = nLp (fun _ _ _ _ => none) (fun again => b_X11_reads_209 N (l_X11_reads_232 N again)) (N - k) τ (nI B) (enc (fb K L)) (nI k) := by
  intro k
  induction k with
  | zero =>
    intro L _ h _
    have hL : L = [] := h
    subst hL
    rfl
  | succ k ih =>
    intro L hk h hs
    obtain ⟨L', X, rfl, h2, h4⟩ := h
    have hs' : srt L' := (List.pairwise_append.mp hs).1
    rw [ih L' (by omega) h2 hs', nLpP _ _ (by omega)]
    have hc := c232 (N := N) (o := fb K L') (by omega) hB (show k < 24 by omega) hK hK1 h3 h4 L' hs rfl (nLp (fun _ _ _ _ => none) (fun again => b_X11_reads_209 N (l_X11_reads_232 N again)) (N - k - 1))
    rw [show N - (k + 1) = N - k - 1 by omega, ← hc]
    simp (disch := first | omega | exact nM1_n | exact nM2_n | assumption) only [b_X11_reads_209, h3, ↓nLetR, ↓reduceIte, ↓e_m1, ↓e_m2, e_0, e_1, e_2, e_3, e_4, e_5, e_6, e_7, e_8, e_9, e_10, e_11, e_12, e_13, e_14, e_15, e_16, e_17, e_18, e_19, e_20, e_21, e_22, e_23, e_24, e_25, e_26, e_27, e_28, e_29, e_30, e_31, e_32, e_33, e_48, e_57, e_59, e_60, e_63, e_64, e_96, e_97, e_99, e_120, e_122, e_192, e_200, e_255, e_256, e_300, e_500, e_600, e_2000, e_5000, e_5240, e_6146, e_20000, e_65536, nIo, nI_clamp, nIxt, nI_1, nI_add, nI_mul, nI_eqF, nI_ltT, nI_ltF, nI_leT, nI_leF, nN_lt0, nN_le, nN_lt, nN_eq, nN_eq', eq_self, nBdS]
theorem check_m {N B K : Nat} {τ : nS} {TL : List (Nat × Nat)} (hN : 100 ≤ N) (hB : B < 5) (hK : K ≤ 24) (hK1 : 1 ≤ K) (h3 : τ.1 3 B = nI K) (hm : mTL τ B K TL) (hs : srt TL) (hq : ∀ x, x ∈ TL → x.2 < 1000) : l_X11_reads_209 N τ (nI B) nM1 (nI 0) = match fb K TL with | none => some (some (nI 0), τ) | some q => some (none, flM τ 2 q) := by
  rw [cm_go hN hB hK hK1 h3 K TL (Nat.le_refl K) hm hs, nLpP _ _ (by omega)]
  cases hf : fb K TL with
  | none =>
    show _ = some (some (nI 0), τ)
    have he : enc none = nM1 := rfl
    simp (disch := first | omega | exact nM1_n | exact nM2_n | assumption) only [b_X11_reads_209, h3, he, ↓nLetR, ↓reduceIte, ↓e_m1, ↓e_m2, e_0, e_1, e_2, e_3, e_4, e_5, e_6, e_7, e_8, e_9, e_10, e_11, e_12, e_13, e_14, e_15, e_16, e_17, e_18, e_19, e_20, e_21, e_22, e_23, e_24, e_25, e_26, e_27, e_28, e_29, e_30, e_31, e_32, e_33, e_48, e_57, e_59, e_60, e_63, e_64, e_96, e_97, e_99, e_120, e_122, e_192, e_200, e_255, e_256, e_300, e_500, e_600, e_2000, e_5000, e_5240, e_6146, e_20000, e_65536, nIo, nI_clamp, nIxt, nI_1, nI_add, nI_mul, nI_eqF, nI_ltT, nI_ltF, nI_leT, nI_leF, nN_lt0, nN_le, nN_lt, nN_eq, nN_eq', eq_self, nBdS]
  | some q =>
    show _ = some (none, flM τ 2 q)
    obtain ⟨v, hv⟩ := fb_mem hf
    have hq1 : q < 1000 := hq _ hv
    have he : enc (some q) = nI q := rfl
    have hne : (nI q = nM1) = False := eq_false (nM1ne q (by omega))
    have hst := stop_is (N := N) (f := 2) (p := q) (τ := τ)
    simp (disch := first | omega | exact nM1_n | exact nM2_n | assumption) only [b_X11_reads_209, h3, he, hne, hst, ↓nLetR, ↓reduceIte, ↓e_m1, ↓e_m2, e_0, e_1, e_2, e_3, e_4, e_5, e_6, e_7, e_8, e_9, e_10, e_11, e_12, e_13, e_14, e_15, e_16, e_17, e_18, e_19, e_20, e_21, e_22, e_23, e_24, e_25, e_26, e_27, e_28, e_29, e_30, e_31, e_32, e_33, e_48, e_57, e_59, e_60, e_63, e_64, e_96, e_97, e_99, e_120, e_122, e_192, e_200, e_255, e_256, e_300, e_500, e_600, e_2000, e_5000, e_5240, e_6146, e_20000, e_65536, nIo, nI_clamp, nIxt, nI_1, nI_add, nI_mul, nI_eqF, nI_ltT, nI_ltF, nI_leT, nI_leF, nN_lt0, nN_le, nN_lt, nN_eq, nN_eq', eq_self, nBdS]
