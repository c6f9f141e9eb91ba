/-! BITS, MARKS, HANDS -/
def sb (v : Int64) (j : Nat) : Bool := v.toBitVec.getLsbD j
theorem sb_m : ∀ x, x < 256 → ((1 : Int64) <<< ((nI x &&& nI 63).toInt64 &&& 63)).toBitVec = BitVec.twoPow 64 (x % 64) := by decide +kernel
theorem sb_t {v m : Int64} {j : Nat} (hj : j < 64) (hm : m.toBitVec = BitVec.twoPow 64 j) : v &&& m = 0 ↔ sb v j = false := by
  unfold sb
  rw [← Int64.toBitVec_inj, Int64.toBitVec_and, hm, BitVec.and_twoPow]
  cases h : v.toBitVec.getLsbD j with
  | false => simp
  | true =>
    simp only [if_true, Bool.true_eq_false, iff_false]
    intro e
    have h2 : (BitVec.twoPow 64 j).getLsbD j = (0 : Int64).toBitVec.getLsbD j := by rw [e]
    rw [BitVec.getLsbD_twoPow] at h2
    simp [hj] at h2
theorem sb_or {v m : Int64} {j : Nat} (hj : j < 64) (hm : m.toBitVec = BitVec.twoPow 64 j) (i : Nat) : sb (v ||| m) i = (sb v i || decide (j = i)) := by
  unfold sb
  rw [Int64.toBitVec_or, BitVec.getLsbD_or, hm, BitVec.getLsbD_twoPow]
  simp [hj]
theorem sb_0 (i : Nat) : sb 0 i = false := by
  unfold sb
  exact BitVec.getLsbD_zero
theorem wk_i : ∀ x, x < 256 → (nI x >>> (nI 6 &&& nI 31)) &&& nI 3 = nI (x / 64) := by decide +kernel
theorem mk_and : ∀ f, f < 9 → ∀ x, x < 256 → nI x &&& ((nI 1 <<< (nI f &&& nI 31)) - nI 1) = nI (x % 2 ^ f) := by decide +kernel
theorem mk_right : ∀ t, t < 8 → ∀ x, x < 256 → nI x &&& ((nI 1 <<< (nI t &&& nI 31)) ^^^ nM1) = nI (x - (x / 2 ^ t % 2) * 2 ^ t) := by decide +kernel
theorem mk_wrong : ∀ t, t < 8 → ∀ x, x < 256 → nI x ||| (nI 1 <<< (nI t &&& nI 31)) = nI (x ||| 2 ^ t) := by decide +kernel
theorem nI_and (a b : Nat) : nI a &&& nI b = nI (a &&& b) := by
  apply Int32.toBitVec_inj.mp
  rw [Int32.toBitVec_and]
  exact (BitVec.ofNat_and (w := 32) (x := a) (y := b)).symm
/-- how many of the first n are not v -/
def cU (mk : Nat → Int32) (v : Int32) : Nat → Nat
  | 0 => 0
  | n + 1 => cU mk v n + (if mk n = v then 0 else 1)
theorem cU_le (mk : Nat → Int32) (v : Int32) (n : Nat) : cU mk v n ≤ n := by
  induction n with
  | zero => exact Nat.le_refl 0
  | succ n ih =>
    unfold cU
    split <;> omega
theorem cU_ge {mk : Nat → Int32} {v : Int32} {j n : Nat} (h : n ≤ j) : cU (upd mk j v) v n = cU mk v n := by
  induction n with
  | zero => rfl
  | succ n ih =>
    unfold cU
    rw [ih (by omega), pk_un (show n ≠ j by omega)]
theorem cU_upd {mk : Nat → Int32} {v : Int32} {j n : Nat} (h : j < n) (hm : ¬ mk j = v) : cU (upd mk j v) v n + 1 = cU mk v n := by
  induction n with
  | zero => omega
  | succ n ih =>
    unfold cU
    by_cases e : j = n
    · subst e
      rw [cU_ge (Nat.le_refl j), pk_us, if_pos rfl, if_neg hm]
    · rw [pk_un (show n ≠ j by omega), ← ih (by omega)]
      omega
/-- what a walk has seen, as bits and as marks -/
def rSeen (sn : Nat → Int64) (mk : Nat → Int32) (M : Nat) : Prop := ∀ k, k < 24 → ∀ x, x < 256 → (sb (sn (k * 4 + x / 64)) (x % 64) = true ↔ mk (256 * k + x) = nI M)
theorem rSeen.mark {sn : Nat → Int64} {mk : Nat → Int32} {M k x : Nat} {m : Int64} (h : rSeen sn mk M) (hx : x < 256) (hm : m.toBitVec = BitVec.twoPow 64 (x % 64)) :
    rSeen (vp_updL sn (k * 4 + x / 64) (sn (k * 4 + x / 64) ||| m)) (upd mk (256 * k + x) (nI M)) M := by
  intro k1 hk1 x1 hx1
  by_cases e : 256 * k1 + x1 = 256 * k + x
  · have e1 : k1 = k := by omega
    have e2 : x1 = x := by omega
    subst e1 e2
    rw [pk_uLs, pk_us, sb_or (Nat.mod_lt _ (by decide)) hm]
    simp
  · rw [pk_un e, ← h k1 hk1 x1 hx1]
    by_cases e3 : k1 * 4 + x1 / 64 = k * 4 + x / 64
    · rw [e3, pk_uLs, sb_or (Nat.mod_lt _ (by decide)) hm, decide_eq_false (show ¬ x % 64 = x1 % 64 by omega), Bool.or_false]
    · rw [pk_uLn e3]
/-- who has a skill and is not away -/
def okp (sk : Nat → Int32) (o aw : Int32) (p : Nat) : Prop := (sk p >>> (o &&& nI 31)) &&& nI 1 = nI 1 ∧ (aw >>> (nI p &&& nI 31)) &&& nI 1 = nI 0
def pickR (sk fr : Nat → Int32) (o aw t f : Int32) (p P : Nat) (r : Int32) : Prop :=
  (∃ q, p ≤ q ∧ q < P ∧ okp sk o aw q ∧ ¬ t < fr q ∧ (∀ j, p ≤ j → j < q → okp sk o aw j → t < fr j) ∧ r = nI q) ∨
  ((∀ j, p ≤ j → j < P → okp sk o aw j → t < fr j) ∧ (((∃ q, p ≤ q ∧ q < P ∧ okp sk o aw q) ∧ r = nM2) ∨ ((∀ j, p ≤ j → j < P → ¬ okp sk o aw j) ∧ r = f)))
theorem pick_go (N P : Nat) (hP : P ≤ 4) (σ : nS) (h2 : σ.1 1 2 = nI P) (o aw t : Int32) : ∀ d m p f, p + d = P → d < m →
    ∃ r, nLp (fun _ _ _ _ _ _ => none) (fun again => b_X3_pick_6 N (l_X3_pick_78 N again)) m σ o aw t f (nI p) = some (r, σ) ∧ pickR (σ.1 3) (σ.1 11) o aw t f p P r := by
  intro d
  induction d with
  | zero =>
    intro m p f hp hm
    refine ⟨f, ?_, ?_⟩
    · rw [nLpP _ _ hm]
      simp (disch := first | omega | exact nM1_n | exact nM2_n | assumption) only [b_X3_pick_6, h2, ↓e_m1, ↓e_m2, e_0, e_1, e_2, e_3, e_4, e_5, e_6, e_7, e_8, e_9, e_10, e_11, e_12, e_13, e_14, e_15, e_16, e_17, e_18, e_19, e_20, e_21, e_22, e_23, e_24, e_25, e_26, e_27, e_28, e_29, e_30, e_31, e_32, e_33, e_48, e_57, e_59, e_60, e_63, e_64, e_96, e_97, e_99, e_120, e_122, e_192, e_200, e_255, e_256, e_300, e_500, e_600, e_2000, e_5000, e_5240, e_6146, e_20000, e_65536, nIo, nI_leI, nI_ltI, nI_eq, nI_clamp, nIxt, nI_1, nI_add, nI_mul, nN_lt0, nN_le, nN_lt, nN_eq, nN_eq', eq_self, if_true, if_false, if_pos]
    · exact Or.inr ⟨fun j h1 h2 => absurd h2 (by omega), Or.inr ⟨fun j h1 h2 => absurd h2 (by omega), rfl⟩⟩
  | succ d ih =>
    intro m p f hp hm
    rw [nLpP _ _ (show 0 < m by omega)]
    by_cases hA : (σ.1 3 p >>> (o &&& nI 31)) &&& nI 1 = nI 1
    · by_cases hB : (aw >>> (nI p &&& nI 31)) &&& nI 1 = nI 0
      · by_cases hC : t < σ.1 11 p
        · obtain ⟨r, e, hr⟩ := ih (m - 1) (p + 1) nM2 (by omega) (by omega)
          refine ⟨r, ?_, ?_⟩
          · simp (disch := first | omega | exact nM1_n | exact nM2_n | assumption) only [b_X3_pick_6, l_X3_pick_78, b_X3_pick_78, nLet, h2, ↓e_m1, ↓e_m2, e_0, e_1, e_2, e_3, e_4, e_5, e_6, e_7, e_8, e_9, e_10, e_11, e_12, e_13, e_14, e_15, e_16, e_17, e_18, e_19, e_20, e_21, e_22, e_23, e_24, e_25, e_26, e_27, e_28, e_29, e_30, e_31, e_32, e_33, e_48, e_57, e_59, e_60, e_63, e_64, e_96, e_97, e_99, e_120, e_122, e_192, e_200, e_255, e_256, e_300, e_500, e_600, e_2000, e_5000, e_5240, e_6146, e_20000, e_65536, nIo, nI_leI, nI_ltI, nI_eq, nI_clamp, nIxt, nI_1, nI_add, nI_mul, nN_lt0, nN_le, nN_lt, nN_eq, nN_eq', eq_self, if_true, if_false, hA, hB, hC, if_pos, if_neg]
            exact e
          · rcases hr with ⟨q, q1, q2, q3, q4, q5, q6⟩ | ⟨q1, hr⟩
            · refine Or.inl ⟨q, by omega, q2, q3, q4, fun j j1 j2 j3 => ?_, q6⟩
              by_cases ej : j = p
              · rw [ej]; exact hC
              · exact q5 j (by omega) j2 j3
            · refine Or.inr ⟨fun j j1 j2 j3 => ?_, Or.inl ⟨⟨p, by omega, by omega, hA, hB⟩, ?_⟩⟩
              · by_cases ej : j = p
                · rw [ej]; exact hC
                · exact q1 j (by omega) j2 j3
              · rcases hr with ⟨_, e2⟩ | ⟨_, e2⟩
                · exact e2
                · exact e2
        · refine ⟨nI p, ?_, Or.inl ⟨p, by omega, by omega, ⟨hA, hB⟩, hC, fun j j1 j2 => absurd j2 (by omega), rfl⟩⟩
          simp (disch := first | omega | exact nM1_n | exact nM2_n | assumption) only [b_X3_pick_6, l_X3_pick_78, b_X3_pick_78, nLet, h2, ↓e_m1, ↓e_m2, e_0, e_1, e_2, e_3, e_4, e_5, e_6, e_7, e_8, e_9, e_10, e_11, e_12, e_13, e_14, e_15, e_16, e_17, e_18, e_19, e_20, e_21, e_22, e_23, e_24, e_25, e_26, e_27, e_28, e_29, e_30, e_31, e_32, e_33, e_48, e_57, e_59, e_60, e_63, e_64, e_96, e_97, e_99, e_120, e_122, e_192, e_200, e_255, e_256, e_300, e_500, e_600, e_2000, e_5000, e_5240, e_6146, e_20000, e_65536, nIo, nI_leI, nI_ltI, nI_eq, nI_clamp, nIxt, nI_1, nI_add, nI_mul, nN_lt0, nN_le, nN_lt, nN_eq, nN_eq', eq_self, if_true, if_false, hA, hB, hC, if_pos, if_neg]
      · obtain ⟨r, e, hr⟩ := ih (m - 1) (p + 1) f (by omega) (by omega)
        have hn : ¬ okp (σ.1 3) o aw p := fun h => hB h.2
        refine ⟨r, ?_, ?_⟩
        · simp (disch := first | omega | exact nM1_n | exact nM2_n | assumption) only [b_X3_pick_6, l_X3_pick_78, b_X3_pick_78, nLet, h2, ↓e_m1, ↓e_m2, e_0, e_1, e_2, e_3, e_4, e_5, e_6, e_7, e_8, e_9, e_10, e_11, e_12, e_13, e_14, e_15, e_16, e_17, e_18, e_19, e_20, e_21, e_22, e_23, e_24, e_25, e_26, e_27, e_28, e_29, e_30, e_31, e_32, e_33, e_48, e_57, e_59, e_60, e_63, e_64, e_96, e_97, e_99, e_120, e_122, e_192, e_200, e_255, e_256, e_300, e_500, e_600, e_2000, e_5000, e_5240, e_6146, e_20000, e_65536, nIo, nI_leI, nI_ltI, nI_eq, nI_clamp, nIxt, nI_1, nI_add, nI_mul, nN_lt0, nN_le, nN_lt, nN_eq, nN_eq', eq_self, if_true, if_false, hA, hB, if_pos, if_neg]
          exact e
        · rcases hr with ⟨q, q1, q2, q3, q4, q5, q6⟩ | ⟨q1, hr⟩
          · refine Or.inl ⟨q, by omega, q2, q3, q4, fun j j1 j2 j3 => ?_, q6⟩
            by_cases ej : j = p
            · rw [ej] at j3; exact absurd j3 hn
            · exact q5 j (by omega) j2 j3
          · refine Or.inr ⟨fun j j1 j2 j3 => ?_, ?_⟩
            · by_cases ej : j = p
              · rw [ej] at j3; exact absurd j3 hn
              · exact q1 j (by omega) j2 j3
            · rcases hr with ⟨⟨q, q2, q3, q4⟩, e2⟩ | ⟨q2, e2⟩
              · exact Or.inl ⟨⟨q, by omega, q3, q4⟩, e2⟩
              · refine Or.inr ⟨fun j j1 j2 j3 => ?_, e2⟩
                by_cases ej : j = p
                · rw [ej] at j3; exact absurd j3 hn
                · exact q2 j (by omega) j2 j3
    · obtain ⟨r, e, hr⟩ := ih (m - 1) (p + 1) f (by omega) (by omega)
      have hn : ¬ okp (σ.1 3) o aw p := fun h => hA h.1
      refine ⟨r, ?_, ?_⟩
      · simp (disch := first | omega | exact nM1_n | exact nM2_n | assumption) only [b_X3_pick_6, l_X3_pick_78, b_X3_pick_78, nLet, h2, ↓e_m1, ↓e_m2, e_0, e_1, e_2, e_3, e_4, e_5, e_6, e_7, e_8, e_9, e_10, e_11, e_12, e_13, e_14, e_15, e_16, e_17, e_18, e_19, e_20, e_21, e_22, e_23, e_24, e_25, e_26, e_27, e_28, e_29, e_30, e_31, e_32, e_33, e_48, e_57, e_59, e_60, e_63, e_64, e_96, e_97, e_99, e_120, e_122, e_192, e_200, e_255, e_256, e_300, e_500, e_600, e_2000, e_5000, e_5240, e_6146, e_20000, e_65536, nIo, nI_leI, nI_ltI, nI_eq, nI_clamp, nIxt, nI_1, nI_add, nI_mul, nN_lt0, nN_le, nN_lt, nN_eq, nN_eq', eq_self, if_true, if_false, hA, if_pos, if_neg]
        exact e
      · rcases hr with ⟨q, q1, q2, q3, q4, q5, q6⟩ | ⟨q1, hr⟩
        · refine Or.inl ⟨q, by omega, q2, q3, q4, fun j j1 j2 j3 => ?_, q6⟩
          by_cases ej : j = p
          · rw [ej] at j3; exact absurd j3 hn
          · exact q5 j (by omega) j2 j3
        · refine Or.inr ⟨fun j j1 j2 j3 => ?_, ?_⟩
          · by_cases ej : j = p
            · rw [ej] at j3; exact absurd j3 hn
            · exact q1 j (by omega) j2 j3
          · rcases hr with ⟨⟨q, q2, q3, q4⟩, e2⟩ | ⟨q2, e2⟩
            · exact Or.inl ⟨⟨q, by omega, q3, q4⟩, e2⟩
            · refine Or.inr ⟨fun j j1 j2 j3 => ?_, e2⟩
              by_cases ej : j = p
              · rw [ej] at j3; exact absurd j3 hn
              · exact q2 j (by omega) j2 j3
theorem pick_is {N P : Nat} (hN : 10 ≤ N) (hP : P ≤ 4) {σ : nS} (h2 : σ.1 1 2 = nI P) (o aw t : Int32) : ∃ r, f_X3_pick N o aw t σ = some (r, σ) ∧ pickR (σ.1 3) (σ.1 11) o aw t nM1 0 P r :=
  pick_go N P hP σ h2 o aw t P N 0 nM1 (by omega) (by omega)
/-- the reference's own: is anyone there -/
theorem there_go (N P : Nat) (hP : P ≤ 4) (σ : nS) (h2 : σ.1 0 6 = nI P) (o aw : Int32) : ∀ d m p y, p + d = P → d < m → (y = nI 0 ∨ y = nI 1) →
    ∃ r, nLp (fun _ _ _ _ _ => none) (fun again => b_X11_isThere_5 N (l_X11_isThere_42 N (l_X11_isThere_47 N again)) (l_X11_isThere_46 N (l_X11_isThere_47 N again))) m σ o aw y (nI p) = some (r, σ) ∧
      ((r = nI 1 ∧ (y = nI 1 ∨ ∃ q, p ≤ q ∧ q < P ∧ okp (σ.1 2) o aw q)) ∨ (r = nI 0 ∧ y = nI 0 ∧ ∀ q, p ≤ q → q < P → ¬ okp (σ.1 2) o aw q)) := by
  intro d
  induction d with
  | zero =>
    intro m p y hp hm hy
    refine ⟨y, ?_, ?_⟩
    · rw [nLpP _ _ hm]
      rcases hy with rfl | rfl
      · simp (disch := first | omega | exact nM1_n | exact nM2_n | assumption) only [b_X11_isThere_5, h2, ↓e_m1, ↓e_m2, e_0, e_1, e_2, e_3, e_4, e_5, e_6, e_7, e_8, e_9, e_10, e_11, e_12, e_13, e_14, e_15, e_16, e_17, e_18, e_19, e_20, e_21, e_22, e_23, e_24, e_25, e_26, e_27, e_28, e_29, e_30, e_31, e_32, e_33, e_48, e_57, e_59, e_60, e_63, e_64, e_96, e_97, e_99, e_120, e_122, e_192, e_200, e_255, e_256, e_300, e_500, e_600, e_2000, e_5000, e_5240, e_6146, e_20000, e_65536, nIo, nI_leI, nI_ltI, nI_eq, nI_clamp, nIxt, nI_1, nI_add, nI_mul, nN_lt0, nN_le, nN_lt, nN_eq, nN_eq', eq_self, if_true, if_false, if_pos]
        rfl
      · simp (disch := first | omega | exact nM1_n | exact nM2_n | assumption) only [b_X11_isThere_5, h2, ↓e_m1, ↓e_m2, e_0, e_1, e_2, e_3, e_4, e_5, e_6, e_7, e_8, e_9, e_10, e_11, e_12, e_13, e_14, e_15, e_16, e_17, e_18, e_19, e_20, e_21, e_22, e_23, e_24, e_25, e_26, e_27, e_28, e_29, e_30, e_31, e_32, e_33, e_48, e_57, e_59, e_60, e_63, e_64, e_96, e_97, e_99, e_120, e_122, e_192, e_200, e_255, e_256, e_300, e_500, e_600, e_2000, e_5000, e_5240, e_6146, e_20000, e_65536, nIo, nI_leI, nI_ltI, nI_eq, nI_clamp, nIxt, nI_1, nI_add, nI_mul, nN_lt0, nN_le, nN_lt, nN_eq, nN_eq', eq_self, if_true, if_false, if_pos]
        rfl
    · rcases hy with rfl | rfl
      · exact Or.inr ⟨rfl, rfl, fun j h1 h2 => absurd h2 (by omega)⟩
      · exact Or.inl ⟨rfl, Or.inl rfl⟩
  | succ d ih =>
    intro m p y hp hm hy
    rw [nLpP _ _ (show 0 < m by omega)]
    rcases hy with rfl | rfl
    · by_cases hok : okp (σ.1 2) o aw p
      · obtain ⟨hA, hB⟩ := id hok
        obtain ⟨r, e, hr⟩ := ih (m - 1) (p + 1) (nI 1) (by omega) (by omega) (Or.inr rfl)
        refine ⟨r, ?_, ?_⟩
        · simp (disch := first | omega | exact nM1_n | exact nM2_n | assumption) only [b_X11_isThere_5, l_X11_isThere_42, b_X11_isThere_42, l_X11_isThere_46, b_X11_isThere_46, l_X11_isThere_47, b_X11_isThere_47, nLet, h2, ↓e_m1, ↓e_m2, e_0, e_1, e_2, e_3, e_4, e_5, e_6, e_7, e_8, e_9, e_10, e_11, e_12, e_13, e_14, e_15, e_16, e_17, e_18, e_19, e_20, e_21, e_22, e_23, e_24, e_25, e_26, e_27, e_28, e_29, e_30, e_31, e_32, e_33, e_48, e_57, e_59, e_60, e_63, e_64, e_96, e_97, e_99, e_120, e_122, e_192, e_200, e_255, e_256, e_300, e_500, e_600, e_2000, e_5000, e_5240, e_6146, e_20000, e_65536, nIo, nI_leI, nI_ltI, nI_eq, nI_clamp, nIxt, nI_1, nI_add, nI_mul, nN_lt0, nN_le, nN_lt, nN_eq, nN_eq', eq_self, if_true, if_false, hA, hB, if_pos, if_neg]
          exact e
        · rcases hr with ⟨e1, _⟩ | ⟨_, e2, _⟩
          · exact Or.inl ⟨e1, Or.inr ⟨p, by omega, by omega, hok⟩⟩
          · exact absurd e2 (by decide)
      · obtain ⟨r, e, hr⟩ := ih (m - 1) (p + 1) (nI 0) (by omega) (by omega) (Or.inl rfl)
        refine ⟨r, ?_, ?_⟩
        · by_cases hB : (aw >>> (nI p &&& nI 31)) &&& nI 1 = nI 0
          · have hA : ¬ (σ.1 2 p >>> (o &&& nI 31)) &&& nI 1 = nI 1 := fun h => hok ⟨h, hB⟩
            simp (disch := first | omega | exact nM1_n | exact nM2_n | assumption) only [b_X11_isThere_5, l_X11_isThere_42, b_X11_isThere_42, l_X11_isThere_46, b_X11_isThere_46, l_X11_isThere_47, b_X11_isThere_47, nLet, h2, ↓e_m1, ↓e_m2, e_0, e_1, e_2, e_3, e_4, e_5, e_6, e_7, e_8, e_9, e_10, e_11, e_12, e_13, e_14, e_15, e_16, e_17, e_18, e_19, e_20, e_21, e_22, e_23, e_24, e_25, e_26, e_27, e_28, e_29, e_30, e_31, e_32, e_33, e_48, e_57, e_59, e_60, e_63, e_64, e_96, e_97, e_99, e_120, e_122, e_192, e_200, e_255, e_256, e_300, e_500, e_600, e_2000, e_5000, e_5240, e_6146, e_20000, e_65536, nIo, nI_leI, nI_ltI, nI_eq, nI_clamp, nIxt, nI_1, nI_add, nI_mul, nN_lt0, nN_le, nN_lt, nN_eq, nN_eq', eq_self, if_true, if_false, hA, hB, if_pos, if_neg]
            exact e
          · simp (disch := first | omega | exact nM1_n | exact nM2_n | assumption) only [b_X11_isThere_5, l_X11_isThere_42, b_X11_isThere_42, l_X11_isThere_46, b_X11_isThere_46, l_X11_isThere_47, b_X11_isThere_47, nLet, h2, ↓e_m1, ↓e_m2, e_0, e_1, e_2, e_3, e_4, e_5, e_6, e_7, e_8, e_9, e_10, e_11, e_12, e_13, e_14, e_15, e_16, e_17, e_18, e_19, e_20, e_21, e_22, e_23, e_24, e_25, e_26, e_27, e_28, e_29, e_30, e_31, e_32, e_33, e_48, e_57, e_59, e_60, e_63, e_64, e_96, e_97, e_99, e_120, e_122, e_192, e_200, e_255, e_256, e_300, e_500, e_600, e_2000, e_5000, e_5240, e_6146, e_20000, e_65536, nIo, nI_leI, nI_ltI, nI_eq, nI_clamp, nIxt, nI_1, nI_add, nI_mul, nN_lt0, nN_le, nN_lt, nN_eq, nN_eq', eq_self, if_true, if_false, hB, if_pos, if_neg]
            exact e
        · rcases hr with ⟨e1, e2 | ⟨q, q1, q2, q3⟩⟩ | ⟨e1, _, e2⟩
          · exact absurd e2 (by decide)
          · exact Or.inl ⟨e1, Or.inr ⟨q, by omega, q2, q3⟩⟩
          · refine Or.inr ⟨e1, rfl, fun q q1 q2 q3 => ?_⟩
            by_cases ej : q = p
            · rw [ej] at q3; exact hok q3
            · exact e2 q (by omega) q2 q3
    · obtain ⟨r, e, hr⟩ := ih (m - 1) (p + 1) (nI 1) (by omega) (by omega) (Or.inr rfl)
      refine ⟨r, ?_, ?_⟩
      · simp (disch := first | omega | exact nM1_n | exact nM2_n | assumption) only [b_X11_isThere_5, l_X11_isThere_42, b_X11_isThere_42, l_X11_isThere_46, b_X11_isThere_46, l_X11_isThere_47, b_X11_isThere_47, nLet, h2, ↓e_m1, ↓e_m2, e_0, e_1, e_2, e_3, e_4, e_5, e_6, e_7, e_8, e_9, e_10, e_11, e_12, e_13, e_14, e_15, e_16, e_17, e_18, e_19, e_20, e_21, e_22, e_23, e_24, e_25, e_26, e_27, e_28, e_29, e_30, e_31, e_32, e_33, e_48, e_57, e_59, e_60, e_63, e_64, e_96, e_97, e_99, e_120, e_122, e_192, e_200, e_255, e_256, e_300, e_500, e_600, e_2000, e_5000, e_5240, e_6146, e_20000, e_65536, nIo, nI_leI, nI_ltI, nI_eq, nI_clamp, nIxt, nI_1, nI_add, nI_mul, nN_lt0, nN_le, nN_lt, nN_eq, nN_eq', eq_self, if_true, if_false, if_pos, if_neg]
        exact e
      · rcases hr with ⟨e1, _⟩ | ⟨_, e2, _⟩
        · exact Or.inl ⟨e1, Or.inl rfl⟩
        · exact absurd e2 (by decide)
theorem there_is {N P : Nat} (hN : 10 ≤ N) (hP : P ≤ 4) {σ : nS} (h2 : σ.1 0 6 = nI P) (o aw : Int32) : ∃ r, f_X11_isThere N o aw σ = some (r, σ) ∧
    ((r = nI 1 ∧ ∃ q, q < P ∧ okp (σ.1 2) o aw q) ∨ (r = nI 0 ∧ ∀ q, q < P → ¬ okp (σ.1 2) o aw q)) := by
  obtain ⟨r, e, h⟩ := there_go N P hP σ h2 o aw P N 0 (nI 0) (by omega) (by omega) (Or.inl rfl)
  refine ⟨r, e, ?_⟩
  rcases h with ⟨e1, e2 | ⟨q, _, q2, q3⟩⟩ | ⟨e1, _, e2⟩
  · exact absurd e2 (by decide)
  · exact Or.inl ⟨e1, q, q2, q3⟩
  · exact Or.inr ⟨e1, fun q h => e2 q (Nat.zero_le q) h⟩
