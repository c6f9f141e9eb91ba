/-! PURE: reading what was written -/
theorem wrs (σ : nS) (c k : Nat) (v : Int32) : (wr σ c k v).1 c k = v := by
  show (bif Nat.beq c c then upd (σ.1 c) k v else σ.1 c) k = v
  rw [Nat.beq_refl]
  exact pk_us
theorem wrk (σ : nS) (c : Nat) {k j : Nat} (v : Int32) (h : j ≠ k) : (wr σ c k v).1 c j = σ.1 c j := by
  show (bif Nat.beq c c then upd (σ.1 c) k v else σ.1 c) j = σ.1 c j
  rw [Nat.beq_refl]
  exact pk_un h
theorem nbne {c d : Nat} (h : d ≠ c) : Nat.beq d c = false := by
  cases hb : Nat.beq d c with
  | false => rfl
  | true => exact absurd (Nat.eq_of_beq_eq_true hb) h
theorem wrc (σ : nS) {c d : Nat} (k : Nat) (v : Int32) (h : d ≠ c) : (wr σ c k v).1 d = σ.1 d := by
  show (bif Nat.beq d c then upd (σ.1 c) k v else σ.1 d) = σ.1 d
  rw [nbne h]
  rfl
theorem wrf (σ : nS) (c k : Nat) (v : Int32) : (wr σ c k v).1 c = upd (σ.1 c) k v := by
  show (bif Nat.beq c c then upd (σ.1 c) k v else σ.1 c) = _
  rw [Nat.beq_refl]
  rfl
theorem wr2 (σ : nS) (c k : Nat) (v : Int32) : (wr σ c k v).2 = σ.2 := rfl
theorem wl1 (σ : nS) (c k : Nat) (v : Int64) : (wl σ c k v).1 = σ.1 := rfl
theorem wls (σ : nS) (c k : Nat) (v : Int64) : (wl σ c k v).2 c k = v := by
  show (bif Nat.beq c c then vp_updL (σ.2 c) k v else σ.2 c) k = v
  rw [Nat.beq_refl]
  exact pk_uLs
theorem wlk (σ : nS) (c : Nat) {k j : Nat} (v : Int64) (h : j ≠ k) : (wl σ c k v).2 c j = σ.2 c j := by
  show (bif Nat.beq c c then vp_updL (σ.2 c) k v else σ.2 c) j = σ.2 c j
  rw [Nat.beq_refl]
  exact pk_uLn h
theorem wlc (σ : nS) {c d : Nat} (k : Nat) (v : Int64) (h : d ≠ c) : (wl σ c k v).2 d = σ.2 d := by
  show (bif Nat.beq d c then vp_updL (σ.2 c) k v else σ.2 d) = σ.2 d
  rw [nbne h]
  rfl
/-- numbers -/
theorem nIl (n : Nat) : (@OfNat.ofNat Int32 n _) = nI n := rfl
theorem nIo (n : Nat) : Int32.ofNat n = nI n := rfl
theorem nIxt {R : Type} {i n : Nat} {b : Option R} (h : i < n) (hn : n < 2 ^ 31) : nIx (nI i) n b = b := by
  unfold nIx
  rw [if_pos ⟨by rw [nI_toInt (by omega)]; omega, by rw [nI_toInt (by omega)]; omega⟩]
theorem nZ0 {R : Type} (b : Option R) : nZ 0 b = b := rfl
theorem nZ1 {R : Type} (b : Option R) : nZ 1 b = b := rfl
theorem nI_m1 (n : Nat) (h : n < 2 ^ 31) : ¬ nI n = -1 := by
  intro e
  have h1 : (nI n).toInt = (-1 : Int32).toInt := by rw [e]
  rw [nI_toInt h] at h1
  have : (-1 : Int32).toInt = -1 := by decide
  omega
theorem nI_m2 (n : Nat) (h : n < 2 ^ 31) : ¬ nI n = -2 := by
  intro e
  have h1 : (nI n).toInt = (-2 : Int32).toInt := by rw [e]
  rw [nI_toInt h] at h1
  have : (-2 : Int32).toInt = -2 := by decide
  omega
theorem nI_z (n : Nat) (h : n < 2 ^ 31) : ¬ nI n < 0 := nI_pos h
theorem nLpS {β : Type} (z : β) (F : β → β) (n : Nat) : nLp z F (n + 1) = F (nLp z F n) := rfl
theorem nLpP {β : Type} (z : β) (F : β → β) {n : Nat} (h : 0 < n) : nLp z F n = F (nLp z F (n - 1)) := by
  obtain ⟨m, rfl⟩ : ∃ m, n = m + 1 := ⟨n - 1, by omega⟩
  rfl
/-- a number that a call brings: below 0, too large, or one of n -/
theorem nI_arg (x : Int32) {n : Nat} (hn : n < 2 ^ 31) : (x < 0 ∨ nI n ≤ x) ∨ ∃ j : Nat, j < n ∧ x = nI j := by
  rcases pk_ix x hn with h | h | h
  · exact Or.inl (Or.inl h)
  · exact Or.inl (Or.inr h)
  · exact Or.inr h
theorem sme {σ : nS} : (σ.1, σ.2) = σ := rfl
/-- literals -/
theorem e_0 : (0 : Int32) = nI 0 := rfl
theorem e_1 : (1 : Int32) = nI 1 := rfl
theorem e_2 : (2 : Int32) = nI 2 := rfl
theorem e_3 : (3 : Int32) = nI 3 := rfl
theorem e_4 : (4 : Int32) = nI 4 := rfl
theorem e_5 : (5 : Int32) = nI 5 := rfl
theorem e_6 : (6 : Int32) = nI 6 := rfl
theorem e_7 : (7 : Int32) = nI 7 := rfl
theorem e_8 : (8 : Int32) = nI 8 := rfl
theorem e_9 : (9 : Int32) = nI 9 := rfl
theorem e_10 : (10 : Int32) = nI 10 := rfl
theorem e_11 : (11 : Int32) = nI 11 := rfl
theorem e_12 : (12 : Int32) = nI 12 := rfl
theorem e_13 : (13 : Int32) = nI 13 := rfl
theorem e_14 : (14 : Int32) = nI 14 := rfl
theorem e_15 : (15 : Int32) = nI 15 := rfl
theorem e_16 : (16 : Int32) = nI 16 := rfl
theorem e_17 : (17 : Int32) = nI 17 := rfl
theorem e_18 : (18 : Int32) = nI 18 := rfl
theorem e_19 : (19 : Int32) = nI 19 := rfl
theorem e_20 : (20 : Int32) = nI 20 := rfl
theorem e_21 : (21 : Int32) = nI 21 := rfl
theorem e_22 : (22 : Int32) = nI 22 := rfl
theorem e_23 : (23 : Int32) = nI 23 := rfl
theorem e_24 : (24 : Int32) = nI 24 := rfl
theorem e_25 : (25 : Int32) = nI 25 := rfl
theorem e_26 : (26 : Int32) = nI 26 := rfl
theorem e_27 : (27 : Int32) = nI 27 := rfl
theorem e_28 : (28 : Int32) = nI 28 := rfl
theorem e_29 : (29 : Int32) = nI 29 := rfl
theorem e_30 : (30 : Int32) = nI 30 := rfl
theorem e_31 : (31 : Int32) = nI 31 := rfl
theorem e_32 : (32 : Int32) = nI 32 := rfl
theorem e_33 : (33 : Int32) = nI 33 := rfl
theorem e_48 : (48 : Int32) = nI 48 := rfl
theorem e_57 : (57 : Int32) = nI 57 := rfl
theorem e_59 : (59 : Int32) = nI 59 := rfl
theorem e_60 : (60 : Int32) = nI 60 := rfl
theorem e_63 : (63 : Int32) = nI 63 := rfl
theorem e_64 : (64 : Int32) = nI 64 := rfl
theorem e_96 : (96 : Int32) = nI 96 := rfl
theorem e_97 : (97 : Int32) = nI 97 := rfl
theorem e_99 : (99 : Int32) = nI 99 := rfl
theorem e_120 : (120 : Int32) = nI 120 := rfl
theorem e_122 : (122 : Int32) = nI 122 := rfl
theorem e_192 : (192 : Int32) = nI 192 := rfl
theorem e_200 : (200 : Int32) = nI 200 := rfl
theorem e_255 : (255 : Int32) = nI 255 := rfl
theorem e_256 : (256 : Int32) = nI 256 := rfl
theorem e_300 : (300 : Int32) = nI 300 := rfl
theorem e_500 : (500 : Int32) = nI 500 := rfl
theorem e_600 : (600 : Int32) = nI 600 := rfl
theorem e_2000 : (2000 : Int32) = nI 2000 := rfl
theorem e_5000 : (5000 : Int32) = nI 5000 := rfl
theorem e_5240 : (5240 : Int32) = nI 5240 := rfl
theorem e_6146 : (6146 : Int32) = nI 6146 := rfl
theorem e_20000 : (20000 : Int32) = nI 20000 := rfl
theorem e_65536 : (65536 : Int32) = nI 65536 := rfl
theorem nBdS {T R : Type} (r : T) (σ : nS) (k : T → nS → Option R) : nBd (some (r, σ)) k = k r σ := rfl
theorem nBdI {T R : Type} (c : Prop) (i : Decidable c) (a b : Option (T × nS)) (k : T → nS → Option R) : nBd (@ite _ c i a b) k = @ite _ c i (nBd a k) (nBd b k) := by
  by_cases h : c
  · rw [if_pos h, if_pos h]
  · rw [if_neg h, if_neg h]
theorem nI_mul (a b : Nat) : nI a * nI b = nI (a * b) := (Int32.ofNat_mul a b).symm
/-- a number below 0 -/
def nM1 : Int32 := -1
theorem e_m1 : (-1 : Int32) = nM1 := rfl
theorem nM1_n : nM1 < nI 0 := by decide
def nM2 : Int32 := -2
theorem e_m2 : (-2 : Int32) = nM2 := rfl
theorem nM2_n : nM2 < nI 0 := by decide
theorem nM12 : ¬ nM2 = nM1 := by decide
theorem nI_cs (x : Int32) : x < nI 0 ∨ ∃ j : Nat, j < 2 ^ 31 ∧ x = nI j := by
  by_cases h : x < 0
  · exact Or.inl h
  · exact Or.inr (nI_of h)
theorem nN_i {x : Int32} (h : x < nI 0) : x.toInt < 0 := by
  have := Int32.lt_iff_toInt_lt.mp h
  rw [nI_toInt (by omega)] at this
  exact this
theorem nN_lt0 {x : Int32} {n : Nat} (h : x < nI 0) (hn : n < 2 ^ 31) : (x < nI n) = True := by
  have := nN_i h
  exact eq_true (Int32.lt_iff_toInt_lt.mpr (by rw [nI_toInt hn]; omega))
theorem nN_lt {x : Int32} {n : Nat} (h : x < nI 0) (hn : n < 2 ^ 31) : (nI n < x) = False := by
  have := nN_i h
  exact eq_false fun h2 => by
    have h3 := Int32.lt_iff_toInt_lt.mp h2
    rw [nI_toInt hn] at h3
    omega
theorem nN_le {x : Int32} {n : Nat} (h : x < nI 0) (hn : n < 2 ^ 31) : (nI n ≤ x) = False := by
  have := nN_i h
  exact eq_false fun h2 => by
    have h3 := Int32.le_iff_toInt_le.mp h2
    rw [nI_toInt hn] at h3
    omega
theorem nN_eq {x : Int32} {n : Nat} (h : x < nI 0) (hn : n < 2 ^ 31) : (x = nI n) = False := by
  have := nN_i h
  exact eq_false fun h2 => by
    rw [h2, nI_toInt hn] at this
    omega
theorem nN_eq' {x : Int32} {n : Nat} (h : x < nI 0) (hn : n < 2 ^ 31) : (nI n = x) = False := by
  have := nN_i h
  exact eq_false fun h2 => by
    rw [← h2, nI_toInt hn] at this
    omega
theorem r_0 : nI 0 = 0 := rfl
theorem r_1 : nI 1 = 1 := rfl
theorem r_2 : nI 2 = 2 := rfl
theorem r_3 : nI 3 = 3 := rfl
theorem r_4 : nI 4 = 4 := rfl
theorem r_5 : nI 5 = 5 := rfl
theorem r_6 : nI 6 = 6 := rfl
theorem r_7 : nI 7 = 7 := rfl
theorem r_8 : nI 8 = 8 := rfl
theorem nPl24 : nPl 24 = 2000 := rfl
theorem nBdE (o : Option (Int32 × nS)) : nBd o (fun r s => some (r, s)) = o := by
  cases o with
  | none => rfl
  | some a => rfl
