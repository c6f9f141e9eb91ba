/-! THE INVARIANT: the class's state and the reference's say the same -/
/-- a step of a book of n steps in a house of F facts and S signs -/
def sOK (F S n : Nat) (kd o t h m : Int32) : Prop :=
  ((kd = 0 ∨ kd = 1) ∧ (∃ x, x < 8 ∧ o = nI x) ∧ (∃ x, x < F ∧ t = nI x) ∧ (∃ x, 1 ≤ x ∧ x ≤ 60 ∧ h = nI x) ∧ (m = -1 ∨ ∃ x, x < F ∧ m = nI x)) ∨
  (kd = 2 ∧ (∃ x, x < S ∧ o = nI x) ∧ (∃ x, x < n ∧ t = nI x) ∧ ∃ x, x < n ∧ h = nI x) ∨
  (kd = 3 ∧ ∃ x, 1 ≤ x ∧ x ≤ 60 ∧ o = nI x) ∨ (kd = 4 ∧ ∃ x, x < n ∧ o = nI x) ∨ kd = 5
def iHouse (F S P B : Nat) (w fs sk : Nat → Int32) (mF mS mP mB mG : Int32) (mfs msk : Nat → Int32) : Prop :=
  (F ≤ 8 ∧ S ≤ 8 ∧ P ≤ 4 ∧ B ≤ 4) ∧ (w 0 = nI F ∧ w 1 = nI S ∧ w 2 = nI P ∧ w 3 = nI B) ∧ (mF = nI F ∧ mS = nI S ∧ mP = nI P ∧ mB = nI B) ∧ (w 4 = mG ∧ ∃ g, g < 256 ∧ mG = nI g) ∧ (∀ k, k < S → mfs k = fs k ∧ ∃ f, f < F ∧ fs k = nI f) ∧ ∀ k, k < P → msk k = sk k ∧ ∃ x, x < 256 ∧ sk k = nI x
def iStep (F S n b k : Nat) (cl k1 o1 t1 h1 m1 : Nat → Int32) : Prop :=
  (cl ((b * 24 + k) * 5) = k1 (24 * b + k) ∧ cl ((b * 24 + k) * 5 + 1) = o1 (24 * b + k) ∧ cl ((b * 24 + k) * 5 + 2) = t1 (24 * b + k) ∧ cl ((b * 24 + k) * 5 + 3) = h1 (24 * b + k) ∧ cl ((b * 24 + k) * 5 + 4) = m1 (24 * b + k)) ∧ sOK F S n (k1 (24 * b + k)) (o1 (24 * b + k)) (t1 (24 * b + k)) (h1 (24 * b + k)) (m1 (24 * b + k))
def iBooks (F S B : Nat) (sz : Nat → Nat) (ss cl ms k1 o1 t1 h1 m1 : Nat → Int32) : Prop :=
  ∀ b, b < B → (1 ≤ sz b ∧ sz b ≤ 24) ∧ ss b = nI (sz b) ∧ ms b = nI (sz b) ∧ ∀ k, k < sz b → iStep F S (sz b) b k cl k1 o1 t1 h1 m1
def iTape (T : Nat) (held : Int32) (tp : Nat → Int32) (mT : Int32) (mt : Nat → Int32) : Prop :=
  T ≤ 600 ∧ held = nI T ∧ mT = nI T ∧ ∀ k, k < T → (∃ x, x < 256 ∧ tp k = nI x) ∧ mt k &&& 255 = tp k
def iTrouble (tr fl pl mtr mwh mfl : Int32) : Prop := mtr = tr ∧ mfl = fl ∧ mwh = if tr = 4 then pl else -1
def iPlay (w pt : Nat → Int32) (hp pE pT pC pB pS : Int32) (pp : Nat → Int32) : Prop :=
  (w 11 = -1 ∧ hp = 0 ∧ w 10 = 0) ∨ ((∃ e, e < 7 ∧ w 11 = nI e) ∧ hp = 1 ∧ pE = w 11 ∧ pT = w 8 ∧ pC = w 10 ∧ pB = w 3 ∧ pS = w 6 ∧ ∃ c, c ≤ 7000 ∧ w 10 = nI c ∧ ∀ i, i < c → i < 2000 → pp i = pt i)
def iAll (B : Nat) (t rw en : Nat → Int32) (hA aB aM aX : Int32) (aC me td : Nat → Int32) : Prop :=
  (t 2 = 0 ∧ hA = 0) ∨ (t 2 = 1 ∧ hA = 1 ∧ (∃ b, b < B ∧ t 3 = nI b ∧ aB = nI b) ∧ (∃ n, n ≤ 500 ∧ t 4 = nI n ∧ aM = nI n ∧ (∃ x, x ≤ n ∧ t 5 = nI x) ∧ ∀ i, i < n → aC i = rw i ∧ ∃ r, r < 2 ^ 20 ∧ rw i = nI r) ∧ aX = t 5 ∧ (∀ e, e < 7 → me e = en e) ∧
    td 0 = t 4 ∧ td 1 = t 6 ∧ td 2 = t 7 ∧ td 6 = t 10 ∧ td 7 = t 8 ∧ (t 5 = 0 → td 3 = -1 ∧ td 4 = -1 ∧ td 5 = -1) ∧ (¬ t 5 = 0 → td 3 = t 9 &&& 255 ∧ td 4 = (t 9 >>> ((8 : Int32) &&& 31)) &&& 255 ∧ td 5 = (t 9 >>> ((16 : Int32) &&& 31)) &&& 255))
def iMend (c : Nat → Int32) (hM : Int32) (md : Nat → Int32) : Prop := (hM = 0 ∧ c 1 = -1 ∧ c 2 = -1 ∧ c 3 = -1) ∨ (hM = 1 ∧ md 0 = c 1 ∧ md 1 = c 2 ∧ md 2 = c 3)
def iNight (w1 w2 : Nat → Int32) (hN : Int32) (n1 n2 : Nat → Int32) : Prop :=
  (hN = 0 ∧ w1 11 = -1 ∧ w2 11 = -1) ∨ (hN = 1 ∧ (¬ w1 11 = -1 ∧ n1 5 = w1 11 ∧ n1 7 = w1 8 ∧ n1 8 = w1 9) ∧ ¬ w2 11 = -1 ∧ n2 5 = w2 11 ∧ n2 7 = w2 8 ∧ n2 8 = w2 9)
def iLog (d en : Nat → Int32) (lg lo ad : Int32) (ls : Nat → Int32) : Prop := ∃ n, n ≤ 200 ∧ d 2 = nI n ∧ lg = nI n ∧ d 3 = lo ∧ d 4 = ad ∧ ∀ i, i < n → ls i = en i
def iMark (n : Nat) (mk : Int32) (m1 m2 : Nat → Int32) : Prop := ∃ M, M ≤ 1000000 * n ∧ mk = nI M ∧ (∀ k, k < 6144 → ∃ x, x ≤ M ∧ m1 k = nI x) ∧ ∀ k, k < 6144 → ∃ x, x ≤ M ∧ m2 k = nI x
/-- all of it, with the numbers that it speaks of -/
def iI (F S P B : Nat) (sz : Nat → Nat) (T n : Nat) (σ τ : nS) : Prop :=
  iHouse F S P B (σ.1 1) (σ.1 2) (σ.1 3) (τ.1 0 4) (τ.1 0 5) (τ.1 0 6) (τ.1 0 7) (τ.1 0 8) (τ.1 1) (τ.1 2) ∧
  iBooks F S B sz (σ.1 4) (σ.1 5) (τ.1 3) (τ.1 4) (τ.1 5) (τ.1 6) (τ.1 7) (τ.1 8) ∧
  iTape T (σ.1 6 1) (σ.1 7) (τ.1 0 19) (τ.1 10) ∧
  iTrouble (σ.1 0 12) (σ.1 6 9) (σ.1 6 10) (τ.1 0 1) (τ.1 0 2) (τ.1 0 3) ∧
  iPlay (σ.1 24) (σ.1 26) (τ.1 0 37) (τ.1 0 38) (τ.1 0 39) (τ.1 0 40) (τ.1 0 41) (τ.1 0 42) (τ.1 15) ∧
  iAll B (σ.1 16) (σ.1 17) (σ.1 18) (τ.1 0 47) (τ.1 0 48) (τ.1 0 49) (τ.1 0 50) (τ.1 18) (τ.1 19) (τ.1 20) ∧
  iMend (σ.1 19) (τ.1 0 56) (τ.1 22) ∧
  iNight (σ.1 30) (σ.1 33) (τ.1 0 61) (τ.1 23) (τ.1 24) ∧
  iLog (σ.1 20) (σ.1 21) (τ.1 0 65) (τ.1 0 66) (τ.1 0 67) (τ.1 26) ∧
  iMark n (τ.1 0 31) (τ.1 12) (τ.1 13)
def nInv (n : Nat) (σ τ : nS) : Prop := ∃ (F S P B : Nat) (sz : Nat → Nat) (T : Nat), iI F S P B sz T n σ τ
theorem iMark.up {n : Nat} {mk : Int32} {m1 m2 : Nat → Int32} (h : iMark n mk m1 m2) : iMark (n + 1) mk m1 m2 := by
  obtain ⟨M, h1, h2⟩ := h
  exact ⟨M, by omega, h2⟩
theorem nInv_mono : ∀ n σ τ, nInv n σ τ → nInv (n + 1) σ τ := by
  intro n σ τ h
  obtain ⟨F, S, P, B, sz, T, h1, h2, h3, h4, h5, h6, h7, h8, h9, h10⟩ := h
  exact ⟨F, S, P, B, sz, T, h1, h2, h3, h4, h5, h6, h7, h8, h9, h10.up⟩
theorem nInv0 : nInv 0 nS0 nM0 := by
  refine ⟨0, 0, 0, 0, fun _ => 0, 0, ?_, ?_, ?_, ?_, ?_, ?_, ?_, ?_, ?_, ?_⟩
  · exact ⟨by decide, ⟨rfl, rfl, rfl, rfl⟩, ⟨rfl, rfl, rfl, rfl⟩, ⟨rfl, 255, by decide, rfl⟩, fun k h => absurd h (Nat.not_lt_zero k), fun k h => absurd h (Nat.not_lt_zero k)⟩
  · exact fun b h => absurd h (Nat.not_lt_zero b)
  · exact ⟨by decide, rfl, rfl, fun k h => absurd h (Nat.not_lt_zero k)⟩
  · exact ⟨rfl, rfl, rfl⟩
  · exact Or.inl ⟨rfl, rfl, rfl⟩
  · exact Or.inl ⟨rfl, rfl⟩
  · exact Or.inl ⟨rfl, rfl, rfl, rfl⟩
  · exact Or.inl ⟨rfl, rfl, rfl⟩
  · exact ⟨0, by decide, rfl, rfl, rfl, rfl, fun k h => absurd h (Nat.not_lt_zero k)⟩
  · exact ⟨0, by decide, rfl, fun k _ => ⟨0, by decide, rfl⟩, fun k _ => ⟨0, by decide, rfl⟩⟩
theorem sOK.mono {F S n F' S' : Nat} {kd o t h m : Int32} (hF : F ≤ F') (hS : S ≤ S') (H : sOK F S n kd o t h m) : sOK F' S' n kd o t h m := by
  rcases H with ⟨a, b, ⟨x, hx, e⟩, c, d⟩ | ⟨a, ⟨x, hx, e⟩, b⟩ | H
  · refine Or.inl ⟨a, b, ⟨x, by omega, e⟩, c, ?_⟩
    rcases d with d | ⟨y, hy, d⟩
    · exact Or.inl d
    · exact Or.inr ⟨y, by omega, d⟩
  · exact Or.inr (Or.inl ⟨a, ⟨x, by omega, e⟩, b⟩)
  · exact Or.inr (Or.inr H)
theorem iBooks.mono {F S B F' S' : Nat} {sz : Nat → Nat} {ss cl ms k1 o1 t1 h1 m1 : Nat → Int32} (hF : F ≤ F') (hS : S ≤ S') (H : iBooks F S B sz ss cl ms k1 o1 t1 h1 m1) : iBooks F' S' B sz ss cl ms k1 o1 t1 h1 m1 := by
  intro b hb
  obtain ⟨h1, h2, h3, h4⟩ := H b hb
  exact ⟨h1, h2, h3, fun k hk => ⟨(h4 k hk).1, (h4 k hk).2.mono hF hS⟩⟩
theorem iTrouble.done {tr fl pl mtr mwh mfl : Int32} (h : iTrouble tr fl pl mtr mwh mfl) : iTrouble 0 fl pl 0 (-1) mfl := ⟨rfl, h.2.1, rfl⟩
theorem iTrouble.no {tr fl pl mtr mwh mfl : Int32} (h : iTrouble tr fl pl mtr mwh mfl) (k : Int32) (hk : ¬ k = 4) : iTrouble k fl pl k (-1) mfl := ⟨rfl, h.2.1, by rw [if_neg hk]⟩
/-- how a call ends -/
theorem pK {n : Nat} {r r' : Int32} {σ1 τ1 : nS} (hr : r' = r) (h : nInv (n + 1) σ1 τ1) : ∃ a σ' τ', some (r, σ1) = some (a, σ') ∧ some (r', τ1) = some (a, τ') ∧ nInv (n + 1) σ' τ' := ⟨r, σ1, τ1, rfl, by rw [hr], h⟩
