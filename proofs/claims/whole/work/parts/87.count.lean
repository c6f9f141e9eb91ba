/-! HOW MANY BITS -/
def pcf : Nat → Nat → Nat
  | 0, _ => 0
  | n + 1, x => x % 2 + pcf n (x / 2)
theorem pcf_le (n x : Nat) : pcf n x ≤ n := by
  induction n generalizing x with
  | zero => exact Nat.le_refl 0
  | succ n ih =>
    unfold pcf
    have := ih (x / 2)
    omega
theorem pcf_0 (n : Nat) : pcf n 0 = 0 := by
  induction n with
  | zero => rfl
  | succ n ih =>
    unfold pcf
    rw [Nat.zero_div, ih]
theorem pcf_low {n x : Nat} (hx : 0 < x) (h : x < 2 ^ n) : pcf n (x &&& (x - 1)) + 1 = pcf n x := by
  induction n generalizing x with
  | zero => omega
  | succ n ih =>
    unfold pcf
    have e1 : (x &&& (x - 1)) / 2 = x / 2 &&& (x - 1) / 2 := Nat.and_div_two
    have e2 : (x &&& (x - 1)) % 2 = x % 2 &&& (x - 1) % 2 := Nat.and_mod_two_pow (n := 1)
    rw [e1, e2]
    have hp : 2 ^ (n + 1) = 2 * 2 ^ n := by rw [Nat.pow_succ]; omega
    by_cases ho : x % 2 = 1
    · rw [show (x - 1) / 2 = x / 2 by omega, Nat.and_self, ho, show (x - 1) % 2 = 0 by omega]
      show 0 + _ + 1 = 1 + _
      omega
    · rw [show (x - 1) / 2 = x / 2 - 1 by omega, show x % 2 = 0 by omega, Nat.zero_and]
      have := ih (x := x / 2) (by omega) (by omega)
      omega
theorem pcf_add (m n x y : Nat) (h : x < 2 ^ m) : pcf (m + n) (x + 2 ^ m * y) = pcf m x + pcf n y := by
  induction m generalizing x with
  | zero =>
    have : x = 0 := by omega
    subst this
    rw [Nat.zero_add, Nat.zero_add, Nat.pow_zero, Nat.one_mul]
    show _ = 0 + _
    omega
  | succ m ih =>
    rw [show m + 1 + n = (m + n) + 1 by omega]
    show (x + 2 ^ (m + 1) * y) % 2 + pcf (m + n) ((x + 2 ^ (m + 1) * y) / 2) = x % 2 + pcf m (x / 2) + pcf n y
    have hp : 2 ^ (m + 1) = 2 * 2 ^ m := by rw [Nat.pow_succ]; omega
    have e : 2 ^ (m + 1) * y = 2 * (2 ^ m * y) := by rw [hp, Nat.mul_assoc]
    rw [e, show (x + 2 * (2 ^ m * y)) / 2 = x / 2 + 2 ^ m * y by omega, ih (x / 2) (by omega), show (x + 2 * (2 ^ m * y)) % 2 = x % 2 by omega]
    omega
theorem and_split (k a q m r : Nat) (ha : a < 2 ^ k) (hm : m < 2 ^ k) : (a + 2 ^ k * q) &&& (m + 2 ^ k * r) = (a &&& m) + 2 ^ k * (q &&& r) := by
  have hp : 0 < 2 ^ k := Nat.pow_pos (by decide)
  have h1 : ((a + 2 ^ k * q) &&& (m + 2 ^ k * r)) % 2 ^ k = a &&& m := by
    rw [Nat.and_mod_two_pow, Nat.add_mul_mod_self_left, Nat.add_mul_mod_self_left, Nat.mod_eq_of_lt ha, Nat.mod_eq_of_lt hm]
  have h2 : ((a + 2 ^ k * q) &&& (m + 2 ^ k * r)) / 2 ^ k = q &&& r := by
    rw [Nat.and_div_two_pow, Nat.add_mul_div_left _ _ hp, Nat.add_mul_div_left _ _ hp, Nat.div_eq_of_lt ha, Nat.div_eq_of_lt hm, Nat.zero_add, Nat.zero_add]
  have h3 := Nat.mod_add_div ((a + 2 ^ k * q) &&& (m + 2 ^ k * r)) (2 ^ k)
  rw [h1, h2] at h3
  exact h3.symm
/-- three bytes -/
def b3 (a b c : Nat) : Nat := a + 256 * (b + 256 * c)
theorem b3_and (a b c m r : Nat) (ha : a < 256) (hb : b < 256) (hc : c < 256) (hm : m < 256) : b3 a b c &&& (m + 256 * (m + 256 * (m + 256 * r))) = b3 (a &&& m) (b &&& m) (c &&& m) := by
  unfold b3
  rw [and_split 8 a _ m _ ha hm, and_split 8 b _ m _ hb hm]
  have : c &&& (m + 256 * r) = c &&& m := by
    have h := and_split 8 c 0 m r hc hm
    rw [Nat.mul_zero, Nat.add_zero, Nat.zero_and, Nat.mul_zero, Nat.add_zero] at h
    exact h
  rw [this]
theorem m55 : ∀ a, a < 128 → ∀ h, h < 2 → (a + 128 * h) &&& 85 = a &&& 85 := by decide +kernel
theorem m33 : ∀ a, a < 64 → ∀ h, h < 4 → (a + 64 * h) &&& 51 = a &&& 51 := by decide +kernel
theorem m0f : ∀ a, a < 16 → ∀ h, h < 16 → (a + 16 * h) &&& 15 = a &&& 15 := by decide +kernel
def s1 (a : Nat) : Nat := a - (a / 2 &&& 85)
def s2 (a : Nat) : Nat := (a &&& 51) + (a / 4 &&& 51)
def s3 (a : Nat) : Nat := (a + a / 16) &&& 15
theorem s1_lt : ∀ a, a < 256 → s1 a < 256 ∧ (a / 2 &&& 85) ≤ a := by decide +kernel
theorem s2_lt : ∀ a, a < 256 → s2 (s1 a) < 69 ∧ s2 (s1 a) % 16 ≤ 4 := by decide +kernel
theorem s3_is : ∀ a, a < 256 → s3 (s2 (s1 a)) = pcf 8 a := by decide +kernel
theorem nU (x : Nat) {k : Nat} (hx : x < 2 ^ 32) (hk : k < 32) (h : ((nI k).toUInt32 &&& Int32.toUInt32 (nI 31)).toBitVec % 32 = BitVec.ofNat 32 k) : ((nI x).toUInt32 >>> ((nI k).toUInt32 &&& Int32.toUInt32 (nI 31))).toInt32 = nI (x / 2 ^ k) := by
  apply Int32.toBitVec_inj.mp
  rw [UInt32.toBitVec_toInt32, UInt32.toBitVec_shiftRight, h]
  show BitVec.ofNat 32 x >>> BitVec.ofNat 32 k = BitVec.ofNat 32 (x / 2 ^ k)
  apply BitVec.eq_of_toNat_eq
  have hd : x / 2 ^ k ≤ x := Nat.div_le_self _ _
  rw [BitVec.ushiftRight_eq', BitVec.toNat_ushiftRight, BitVec.toNat_ofNat, BitVec.toNat_ofNat, BitVec.toNat_ofNat, Nat.mod_eq_of_lt hx, Nat.mod_eq_of_lt (show k < 2 ^ 32 by omega), Nat.shiftRight_eq_div_pow, Nat.mod_eq_of_lt (by omega)]
theorem nI_subn (a b : Nat) (h : b ≤ a) : nI a - nI b = nI (a - b) := by
  have : nI a = nI (a - b) + nI b := by rw [nI_add, Nat.sub_add_cancel h]
  rw [this, Int32.add_sub_cancel]
theorem b3_lt {a b c : Nat} (ha : a < 256) (hb : b < 256) (hc : c < 256) : b3 a b c < 2 ^ 24 := by unfold b3; omega
theorem bc_is (a b c : Nat) (ha : a < 256) (hb : b < 256) (hc : c < 256) :
    let x0 := nI (b3 a b c)
    let v3 := x0 - (((x0).toUInt32 >>> ((nI 1).toUInt32 &&& Int32.toUInt32 (nI 31))).toInt32 &&& (1431655765 : Int32))
    let v7 := (v3 &&& (858993459 : Int32)) + (((v3).toUInt32 >>> ((nI 2).toUInt32 &&& Int32.toUInt32 (nI 31))).toInt32 &&& (858993459 : Int32))
    let v10 := (v7 + ((v7).toUInt32 >>> ((nI 4).toUInt32 &&& Int32.toUInt32 (nI 31))).toInt32) &&& (252645135 : Int32)
    let v12 := v10 + ((v10).toUInt32 >>> ((nI 8).toUInt32 &&& Int32.toUInt32 (nI 31))).toInt32
    (v12 + ((v12).toUInt32 >>> ((nI 16).toUInt32 &&& Int32.toUInt32 (nI 31))).toInt32) &&& nI 63 = nI (pcf 8 a + pcf 8 b + pcf 8 c) := by
  intro x0 v3 v7 v10 v12
  have A1 := s1_lt a ha
  have B1 := s1_lt b hb
  have C1 := s1_lt c hc
  have A2 := s2_lt a ha
  have B2 := s2_lt b hb
  have C2 := s2_lt c hc
  have h55 : (1431655765 : Int32) = nI (85 + 256 * (85 + 256 * (85 + 256 * 85))) := rfl
  have h33 : (858993459 : Int32) = nI (51 + 256 * (51 + 256 * (51 + 256 * 51))) := rfl
  have h0f : (252645135 : Int32) = nI (15 + 256 * (15 + 256 * (15 + 256 * 15))) := rfl
  have e3 : v3 = nI (b3 (s1 a) (s1 b) (s1 c)) := by
    show x0 - (((x0).toUInt32 >>> ((nI 1).toUInt32 &&& Int32.toUInt32 (nI 31))).toInt32 &&& (1431655765 : Int32)) = _
    have hh : b3 a b c / 2 ^ 1 = b3 (a / 2 + 128 * (b % 2)) (b / 2 + 128 * (c % 2)) (c / 2) := by unfold b3; omega
    have hx := b3_lt ha hb hc
    rw [nU _ (by omega) (by decide) (by decide), h55, nI_and, hh, b3_and _ _ _ _ _ (by omega) (by omega) (by omega) (by decide), m55 _ (by omega) _ (by omega), m55 _ (by omega) _ (by omega), nI_subn _ _ (by unfold b3; omega)]
    congr 1
    unfold b3 s1
    omega
  have e7 : v7 = nI (b3 (s2 (s1 a)) (s2 (s1 b)) (s2 (s1 c))) := by
    show (v3 &&& (858993459 : Int32)) + (((v3).toUInt32 >>> ((nI 2).toUInt32 &&& Int32.toUInt32 (nI 31))).toInt32 &&& (858993459 : Int32)) = _
    rw [e3]
    have hh : b3 (s1 a) (s1 b) (s1 c) / 2 ^ 2 = b3 (s1 a / 4 + 64 * (s1 b % 4)) (s1 b / 4 + 64 * (s1 c % 4)) (s1 c / 4) := by unfold b3; omega
    have hx := b3_lt A1.1 B1.1 C1.1
    rw [nU _ (by omega) (by decide) (by decide), h33, nI_and, nI_and, hh, b3_and _ _ _ _ _ A1.1 B1.1 C1.1 (by decide), b3_and _ _ _ _ _ (by omega) (by omega) (by omega) (by decide), m33 _ (by omega) _ (by omega), m33 _ (by omega) _ (by omega), nI_add]
    congr 1
    unfold b3 s2
    omega
  have e10 : v10 = nI (b3 (pcf 8 a) (pcf 8 b) (pcf 8 c)) := by
    show (v7 + ((v7).toUInt32 >>> ((nI 4).toUInt32 &&& Int32.toUInt32 (nI 31))).toInt32) &&& (252645135 : Int32) = _
    rw [e7, ← s3_is a ha, ← s3_is b hb, ← s3_is c hc]
    revert A2 B2 C2
    generalize s2 (s1 a) = u
    generalize s2 (s1 b) = v
    generalize s2 (s1 c) = w
    intro A2 B2 C2
    have hh : b3 u v w + b3 u v w / 2 ^ 4 = b3 (u + u / 16 + 16 * (v % 16)) (v + v / 16 + 16 * (w % 16)) (w + w / 16) := by unfold b3; omega
    have hx : b3 u v w < 2 ^ 24 := b3_lt (by omega) (by omega) (by omega)
    rw [nU _ (by omega) (by decide) (by decide), h0f, nI_add, nI_and, hh, b3_and _ _ _ _ _ (by omega) (by omega) (by omega) (by decide)]
    have q : ∀ x h, (x + 16 * h) &&& 15 = x &&& 15 := fun x h => by
      rw [show 15 = 2 ^ 4 - 1 from rfl, Nat.and_two_pow_sub_one_eq_mod, Nat.and_two_pow_sub_one_eq_mod]
      omega
    rw [q, q]
    rfl
  have e12 : v12 = nI (b3 (pcf 8 a + pcf 8 b) (pcf 8 b + pcf 8 c) (pcf 8 c)) := by
    show v10 + ((v10).toUInt32 >>> ((nI 8).toUInt32 &&& Int32.toUInt32 (nI 31))).toInt32 = _
    have A := pcf_le 8 a
    have B := pcf_le 8 b
    have C := pcf_le 8 c
    rw [e10, nU _ (by unfold b3; omega) (by decide) (by decide), nI_add]
    congr 1
    unfold b3
    omega
  show (v12 + ((v12).toUInt32 >>> ((nI 16).toUInt32 &&& Int32.toUInt32 (nI 31))).toInt32) &&& nI 63 = _
  have A := pcf_le 8 a
  have B := pcf_le 8 b
  have C := pcf_le 8 c
  rw [e12, nU _ (by unfold b3; omega) (by decide) (by decide), nI_add, nI_and, show 63 = 2 ^ 6 - 1 from rfl, Nat.and_two_pow_sub_one_eq_mod]
  have hv : b3 (pcf 8 a + pcf 8 b) (pcf 8 b + pcf 8 c) (pcf 8 c) / 2 ^ 16 = pcf 8 c := by unfold b3; omega
  rw [hv]
  congr 1
  unfold b3
  omega
theorem pcf_24 (x : Nat) (hx : x < 2 ^ 24) : ∃ a b c, a < 256 ∧ b < 256 ∧ c < 256 ∧ x = b3 a b c ∧ pcf 24 x = pcf 8 a + pcf 8 b + pcf 8 c := by
  refine ⟨x % 256, x / 256 % 256, x / 65536, by omega, by omega, by omega, by unfold b3; omega, ?_⟩
  have h1 := pcf_add 8 16 (x % 256) (x / 256) (by omega)
  have h2 := pcf_add 8 8 (x / 256 % 256) (x / 65536) (by omega)
  rw [show x % 256 + 2 ^ 8 * (x / 256) = x by omega] at h1
  rw [show x / 256 % 256 + 2 ^ 8 * (x / 65536) = x / 256 by omega] at h2
  have h3 : pcf 24 x = pcf 8 (x % 256) + pcf 16 (x / 256) := h1
  have h4 : pcf 16 (x / 256) = pcf 8 (x / 256 % 256) + pcf 8 (x / 65536) := h2
  omega
theorem pcf_up (n m x : Nat) (h : x < 2 ^ n) : pcf (n + m) x = pcf n x := by
  have h1 := pcf_add n m x 0 h
  rw [Nat.mul_zero, Nat.add_zero, pcf_0] at h1
  exact h1
theorem sub_is (s a : Nat) (hs : s < 2 ^ 31) : (nI s &&& (nI a ^^^ nM1) = nI 0) = (s &&& a = s) := by
  apply propext
  have hz : (nI s &&& (nI a ^^^ nM1) = nI 0) ↔ BitVec.ofNat 32 s &&& (BitVec.ofNat 32 a ^^^ BitVec.allOnes 32) = 0#32 := by
    rw [← Int32.toBitVec_inj, Int32.toBitVec_and, Int32.toBitVec_xor]
    exact Iff.rfl
  rw [hz]
  have key : ∀ i, (BitVec.ofNat 32 s &&& (BitVec.ofNat 32 a ^^^ BitVec.allOnes 32)).getLsbD i = (decide (i < 32) && (s.testBit i && !a.testBit i)) := by
    intro i
    rw [BitVec.getLsbD_and, BitVec.getLsbD_xor, BitVec.getLsbD_ofNat, BitVec.getLsbD_ofNat, BitVec.getLsbD_allOnes]
    by_cases h : i < 32
    · simp [h]
    · simp [h]
  constructor
  · intro h
    apply Nat.eq_of_testBit_eq
    intro i
    rw [Nat.testBit_and]
    have hk := key i
    rw [h, BitVec.getLsbD_zero] at hk
    by_cases hi : i < 32
    · simp [hi] at hk
      cases h1 : s.testBit i with
      | false => rfl
      | true => rw [hk h1]; rfl
    · have : s.testBit i = false := Nat.testBit_lt_two_pow (Nat.lt_of_lt_of_le hs (Nat.pow_le_pow_right (by decide) (by omega)))
      rw [this]; rfl
  · intro h
    apply BitVec.eq_of_getLsbD_eq
    intro i hi
    rw [key i, BitVec.getLsbD_zero]
    have h2 : (s &&& a).testBit i = s.testBit i := by rw [h]
    rw [Nat.testBit_and] at h2
    cases h1 : s.testBit i with
    | false => simp
    | true =>
      rw [h1, Bool.true_and] at h2
      rw [h2]; simp
theorem shr_is (f k : Nat) (hk : k < 31) : (nI f >>> (nI k &&& nI 31)) &&& nI 1 = nI (if f.testBit k then 1 else 0) := by
  apply Int32.toBitVec_inj.mp
  have hs : (nI k &&& nI 31).toBitVec.smod 32 = BitVec.ofNat 32 k := by
    have : ∀ k, k < 31 → (nI k &&& nI 31).toBitVec.smod 32 = BitVec.ofNat 32 k := by decide
    exact this k hk
  rw [Int32.toBitVec_and, Int32.toBitVec_shiftRight, hs]
  show (BitVec.ofNat 32 f).sshiftRight' (BitVec.ofNat 32 k) &&& BitVec.ofNat 32 1 = BitVec.ofNat 32 _
  have h1 : (BitVec.ofNat 32 k).toNat = k := by rw [BitVec.toNat_ofNat]; omega
  apply BitVec.eq_of_getLsbD_eq
  intro i hi
  rw [BitVec.getLsbD_and, BitVec.sshiftRight_eq', h1, BitVec.getLsbD_sshiftRight, BitVec.getLsbD_ofNat, BitVec.getLsbD_ofNat, BitVec.getLsbD_ofNat]
  by_cases h0 : i = 0
  · subst h0
    cases f.testBit k with
    | false => simp; omega
    | true => simp; omega
  · have t1 : Nat.testBit 1 i = false := Nat.testBit_lt_two_pow (Nat.one_lt_two_pow h0)
    rw [t1]
    cases f.testBit k with
    | false => simp
    | true => simp [t1]
theorem shl_is : ∀ k, k < 31 → nI 1 <<< (nI k &&& nI 31) = nI (2 ^ k) := by decide
theorem nI_or (a b : Nat) : nI a ||| nI b = nI (a ||| b) := by
  apply Int32.toBitVec_inj.mp
  rw [Int32.toBitVec_or]
  exact (BitVec.ofNat_or (w := 32) (x := a) (y := b)).symm

theorem bitC {N x : Nat} (hx : x < 2 ^ 24) (σ : nS) : f_J6_bitCount_0f7a4 N (nI x) σ = some (nI (pcf 24 x), σ) := by
  obtain ⟨a, b, c, ha, hb, hc, e, h⟩ := pcf_24 x hx
  rw [e] at h ⊢
  rw [h]
  have hq := bc_is a b c ha hb hc
  unfold f_J6_bitCount_0f7a4 l_J6_bitCount_0f7a4_0 b_J6_bitCount_0f7a4_0 nLet
  exact congrArg (fun v => some (v, σ)) hq
theorem bitC8 {N x : Nat} (hx : x < 256) (σ : nS) : f_J6_bitCount_0f7a4 N (nI x) σ = some (nI (pcf 8 x), σ) := by
  rw [bitC (by omega) σ, pcf_up 8 16 x (by omega)]
theorem bits_go (N : Nat) (σ : nS) : ∀ d m c x, pcf 31 x = d → x < 2 ^ 31 → d < m → c + d < 2 ^ 31 → nLp (fun _ _ _ => none) (fun again => b_X11_bits_4 N again) m σ (nI c) (nI x) = some (nI (c + d), σ) := by
  intro d
  induction d with
  | zero =>
    intro m c x hd hx hm hc
    have h0 : x = 0 := by
      by_cases h : x = 0
      · exact h
      · have := pcf_low (n := 31) (x := x) (by omega) hx
        omega
    subst h0
    rw [nLpP _ _ hm]
    simp (disch := first | omega | exact nM1_n | exact nM2_n | assumption) only [b_X11_bits_4, ↓nLetR, ↓reduceIte, ↓e_m1, ↓e_m2, e_0, e_1, e_2, e_3, e_4, e_5, e_6, e_7, e_8, e_9, e_10, e_11, e_12, e_13, e_14, e_15, e_16, e_17, e_18, e_19, e_20, e_21, e_22, e_23, e_24, e_25, e_26, e_27, e_28, e_29, e_30, e_31, e_32, e_33, e_48, e_57, e_59, e_60, e_63, e_64, e_96, e_97, e_99, e_120, e_122, e_192, e_200, e_255, e_256, e_300, e_500, e_600, e_2000, e_5000, e_5240, e_6146, e_20000, e_65536, nIo, nI_clamp, nIxt, nI_1, nI_add, nI_mul, nI_eqF, nI_ltT, nI_ltF, nI_leT, nI_leF, nN_lt0, nN_le, nN_lt, nN_eq, nN_eq', eq_self, nBdS]
    rfl
  | succ d ih =>
    intro m c x hd hx hm hc
    have h0 : ¬ x = 0 := by
      intro h
      rw [h, pcf_0] at hd
      omega
    have hl := pcf_low (n := 31) (x := x) (by omega) hx
    rw [nLpP _ _ (by omega)]
    have hand : x &&& (x - 1) ≤ x := Nat.and_le_left
    have ih' := ih (m - 1) (c + 1) (x &&& (x - 1)) (by omega) (by omega) (by omega) (by omega)
    have hs : nI x - nI 1 = nI (x - 1) := nI_subn x 1 (by omega)
    simp (disch := first | omega | exact nM1_n | exact nM2_n | assumption) only [b_X11_bits_4, hs, nI_and, ↓nLetR, ↓reduceIte, ↓e_m1, ↓e_m2, e_0, e_1, e_2, e_3, e_4, e_5, e_6, e_7, e_8, e_9, e_10, e_11, e_12, e_13, e_14, e_15, e_16, e_17, e_18, e_19, e_20, e_21, e_22, e_23, e_24, e_25, e_26, e_27, e_28, e_29, e_30, e_31, e_32, e_33, e_48, e_57, e_59, e_60, e_63, e_64, e_96, e_97, e_99, e_120, e_122, e_192, e_200, e_255, e_256, e_300, e_500, e_600, e_2000, e_5000, e_5240, e_6146, e_20000, e_65536, nIo, nI_clamp, nIxt, nI_1, nI_add, nI_mul, nI_eqF, nI_ltT, nI_ltF, nI_leT, nI_leF, nN_lt0, nN_le, nN_lt, nN_eq, nN_eq', eq_self, nBdS]
    rw [ih', show c + 1 + d = c + (d + 1) by omega]
theorem bits_is {N x : Nat} (hN : 40 ≤ N) (hx : x < 2 ^ 31) (σ : nS) : f_X11_bits N (nI x) σ = some (nI (pcf 31 x), σ) := by
  have h := bits_go N σ _ N 0 x rfl hx (by have := pcf_le 31 x; omega) (by have := pcf_le 31 x; omega)
  rw [Nat.zero_add] at h
  exact h
theorem bits8 {N x : Nat} (hN : 40 ≤ N) (hx : x < 256) (σ : nS) : f_X11_bits N (nI x) σ = some (nI (pcf 8 x), σ) := by
  rw [bits_is hN (by omega) σ, pcf_up 8 23 x (by omega)]
