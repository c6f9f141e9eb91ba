/-! PURE: reading what was written -/
theorem wrs (σ : nS) (c k : Nat) (v : Int32) : (wr σ c k v).1 c k = v := by
  show (bif Nat.beq c c then upd (σ.1 c) k v else σ.1 c) k = v
  rw [Nat.beq_refl]
  exact pk_us
theorem wrk (σ : nS) (c : Nat) {k j : Nat} (v : Int32) (h : j ≠ k) : (wr σ c k v).1 c j = σ.1 c j := by
  show (bif Nat.beq c c then upd (σ.1 c) k v else σ.1 c) j = σ.1 c j
  rw [Nat.beq_refl]
  exact pk_un h
theorem nbne {c d : Nat} (h : d ≠ c) : Nat.beq d c = false := by
  cases hb : Nat.beq d c with
  | false => rfl
  | true => exact absurd (Nat.eq_of_beq_eq_true hb) h
theorem wrc (σ : nS) {c d : Nat} (k : Nat) (v : Int32) (h : d ≠ c) : (wr σ c k v).1 d = σ.1 d := by
  show (bif Nat.beq d c then upd (σ.1 c) k v else σ.1 d) = σ.1 d
  rw [nbne h]
  rfl
theorem wrf (σ : nS) (c k : Nat) (v : Int32) : (wr σ c k v).1 c = upd (σ.1 c) k v := by
  show (bif Nat.beq c c then upd (σ.1 c) k v else σ.1 c) = _
  rw [Nat.beq_refl]
  rfl
theorem wr2 (σ : nS) (c k : Nat) (v : Int32) : (wr σ c k v).2 = σ.2 := rfl
theorem wl1 (σ : nS) (c k : Nat) (v : Int64) : (wl σ c k v).1 = σ.1 := rfl
theorem wls (σ : nS) (c k : Nat) (v : Int64) : (wl σ c k v).2 c k = v := by
  show (bif Nat.beq c c then vp_updL (σ.2 c) k v else σ.2 c) k = v
  rw [Nat.beq_refl]
  exact pk_uLs
theorem wlk (σ : nS) (c : Nat) {k j : Nat} (v : Int64) (h : j ≠ k) : (wl σ c k v).2 c j = σ.2 c j := by
  show (bif Nat.beq c c then vp_updL (σ.2 c) k v else σ.2 c) j = σ.2 c j
  rw [Nat.beq_refl]
  exact pk_uLn h
theorem wlc (σ : nS) {c d : Nat} (k : Nat) (v : Int64) (h : d ≠ c) : (wl σ c k v).2 d = σ.2 d := by
  show (bif Nat.beq d c then vp_updL (σ.2 c) k v else σ.2 d) = σ.2 d
  rw [nbne h]
  rfl
/-- numbers -/
theorem nIl (n : Nat) : (@OfNat.ofNat Int32 n _) = nI n := rfl
theorem nIo (n : Nat) : Int32.ofNat n = nI n := rfl
theorem nIxt {R : Type} {i n : Nat} {b : Option R} (h : i < n) (hn : n < 2 ^ 31) : nIx (nI i) n b = b := by
  unfold nIx
  rw [if_pos ⟨by rw [nI_toInt (by omega)]; omega, by rw [nI_toInt (by omega)]; omega⟩]
theorem nZ0 {R : Type} (b : Option R) : nZ 0 b = b := rfl
theorem nZ1 {R : Type} (b : Option R) : nZ 1 b = b := rfl
theorem nI_m1 (n : Nat) (h : n < 2 ^ 31) : ¬ nI n = -1 := by
  intro e
  have h1 : (nI n).toInt = (-1 : Int32).toInt := by rw [e]
  rw [nI_toInt h] at h1
  have : (-1 : Int32).toInt = -1 := by decide
  omega
theorem nI_m2 (n : Nat) (h : n < 2 ^ 31) : ¬ nI n = -2 := by
  intro e
  have h1 : (nI n).toInt = (-2 : Int32).toInt := by rw [e]
  rw [nI_toInt h] at h1
  have : (-2 : Int32).toInt = -2 := by decide
  omega
theorem nI_z (n : Nat) (h : n < 2 ^ 31) : ¬ nI n < 0 := nI_pos h
theorem nLpS {β : Type} (z : β) (F : β → β) (n : Nat) : nLp z F (n + 1) = F (nLp z F n) := rfl
theorem nLpP {β : Type} (z : β) (F : β → β) {n : Nat} (h : 0 < n) : nLp z F n = F (nLp z F (n - 1)) := by
  obtain ⟨m, rfl⟩ : ∃ m, n = m + 1 := ⟨n - 1, by omega⟩
  rfl
/-- a number that a call brings: below 0, too large, or one of n -/
theorem nI_arg (x : Int32) {n : Nat} (hn : n < 2 ^ 31) : (x < 0 ∨ nI n ≤ x) ∨ ∃ j : Nat, j < n ∧ x = nI j := by
  rcases pk_ix x hn with h | h | h
  · exact Or.inl (Or.inl h)
  · exact Or.inl (Or.inr h)
  · exact Or.inr h
theorem sme {σ : nS} : (σ.1, σ.2) = σ := rfl
