/-! ROWS OF CHOICES, AS LISTS -/
/-- a list that lies in cells -/
def lsR (t : Nat → Int32) (l : List Nat) : Prop := ∀ i x, l[i]? = some x → t i = nI x
theorem lsR.nil (t : Nat → Int32) : lsR t [] := fun i x h => by simp at h
theorem lsR.app {t : Nat → Int32} {l : List Nat} (h : lsR t l) (x : Nat) : lsR (upd t l.length (nI x)) (l ++ [x]) := by
  intro i y hi
  by_cases e : i = l.length
  · subst e
    rw [List.getElem?_append_right (Nat.le_refl _), Nat.sub_self] at hi
    have : x = y := by simpa using hi
    rw [pk_us, this]
  · rw [pk_un e]
    have hl : i < l.length := by
      have h1 : i < (l ++ [x]).length := by
        rw [List.getElem?_eq_some_iff] at hi
        exact hi.1
      rw [List.length_append, List.length_singleton] at h1
      omega
    rw [List.getElem?_append_left hl] at hi
    exact h i y hi
theorem lsR.at {t : Nat → Int32} {l : List Nat} (h : lsR t l) {i : Nat} (hi : i < l.length) : t i = nI l[i] := h i _ (List.getElem?_eq_getElem hi)
/-- those from k on that are chosen -/
def flR (P : Nat → Bool) : Nat → Nat → List Nat
  | _, 0 => []
  | k, d + 1 => (if P k = true then [k] else []) ++ flR P (k + 1) d
theorem flR_len (P : Nat → Bool) (d : Nat) : ∀ k, (flR P k d).length ≤ d := by
  induction d with
  | zero => intro k; exact Nat.le_refl 0
  | succ d ih =>
    intro k
    unfold flR
    have := ih (k + 1)
    rw [List.length_append]
    split
    · rw [List.length_singleton]; omega
    · rw [List.length_nil]; omega
theorem flR_none {P : Nat → Bool} (d : Nat) : ∀ k, (∀ j, k ≤ j → P j = false) → flR P k d = [] := by
  induction d with
  | zero => intro k h; rfl
  | succ d ih =>
    intro k h
    unfold flR
    rw [ih (k + 1) (fun j hj => h j (by omega)), h k (Nat.le_refl k)]
    rfl
theorem flR_cut {P : Nat → Bool} (d e : Nat) : ∀ k, (∀ j, k + d ≤ j → P j = false) → flR P k (d + e) = flR P k d := by
  induction d with
  | zero =>
    intro k h
    rw [Nat.zero_add]
    exact flR_none e k (fun j hj => h j (by omega))
  | succ d ih =>
    intro k h
    rw [show d + 1 + e = (d + e) + 1 by omega]
    unfold flR
    rw [ih (k + 1) (fun j hj => h j (by omega))]
theorem flR_ext {P Q : Nat → Bool} (d : Nat) : ∀ k, (∀ j, k ≤ j → j < k + d → P j = Q j) → flR P k d = flR Q k d := by
  induction d with
  | zero => intro k h; rfl
  | succ d ih =>
    intro k h
    unfold flR
    rw [ih (k + 1) (fun j h1 h2 => h j (by omega) (by omega)), h k (Nat.le_refl k) (by omega)]
theorem flR_mem {P : Nat → Bool} (d : Nat) : ∀ k x, x ∈ flR P k d → k ≤ x ∧ x < k + d := by
  induction d with
  | zero => intro k x h; cases h
  | succ d ih =>
    intro k x h
    unfold flR at h
    rw [List.mem_append] at h
    rcases h with h | h
    · split at h
      · rw [List.mem_singleton] at h; omega
      · cases h
    · have := ih (k + 1) x h
      omega
/-- which sets are allowed -/
def okS (al mo : Nat) (k : Nat) : Bool := decide (k &&& al = k) && decide (pcf 8 k ≤ mo)
theorem okS_big {al mo k : Nat} (h : al < k) : okS al mo k = false := by
  unfold okS
  rw [decide_eq_false, Bool.false_and]
  intro e
  have : k &&& al ≤ al := Nat.and_le_right
  omega
theorem okS_all {n mo k : Nat} (h : k < 2 ^ n) : okS (2 ^ n - 1) mo k = decide (pcf 8 k ≤ mo) := by
  unfold okS
  rw [Nat.and_two_pow_sub_one_eq_mod, Nat.mod_eq_of_lt h, decide_eq_true rfl, Bool.true_and]
/-- a row: facts, signs, people -/
def gR (p s f : Nat) : Nat := 65536 * p + 256 * s + f
def tot (x : Nat) : Nat := pcf 31 x
theorem tot_is {p s f : Nat} (hp : p < 256) (hs : s < 256) (hf : f < 256) : tot (gR p s f) = pcf 8 f + pcf 8 p + pcf 8 s := by
  unfold tot gR
  have h1 := pcf_add 8 23 f (s + 256 * p) hf
  have h2 := pcf_add 8 15 s p hs
  have h3 := pcf_up 8 7 p hp
  have e1 : pcf 31 (f + 2 ^ 8 * (s + 256 * p)) = pcf 8 f + pcf 23 (s + 256 * p) := h1
  have e2 : pcf 23 (s + 256 * p) = pcf 8 s + pcf 15 p := h2
  have e3 : pcf 15 p = pcf 8 p := h3
  rw [show 65536 * p + 256 * s + f = f + 2 ^ 8 * (s + 256 * p) by omega, e1, e2, e3]
  omega
def lF (p : Nat) (fs : List Nat) (s : Nat) : List Nat := fs.map (gR p s)
def lS (fs ss : List Nat) (p : Nat) : List Nat := ss.flatMap (lF p fs)
def lP (fs ss ps : List Nat) : List Nat := ps.flatMap (lS fs ss)
theorem lS_len (fs ss : List Nat) (p : Nat) : (lS fs ss p).length = fs.length * ss.length := by
  unfold lS
  induction ss with
  | nil => simp
  | cons s ss ih =>
    rw [List.flatMap_cons, List.length_append, ih, List.length_cons]
    unfold lF
    rw [List.length_map, Nat.mul_add, Nat.mul_one, Nat.add_comm]
theorem lP_len (fs ss ps : List Nat) : (lP fs ss ps).length = fs.length * ss.length * ps.length := by
  unfold lP
  induction ps with
  | nil => simp
  | cons p ps ih =>
    rw [List.flatMap_cons, List.length_append, ih, List.length_cons, lS_len, Nat.mul_add, Nat.mul_one, Nat.add_comm]
/-- those with c bits -/
def cN (c : Nat) (l : List Nat) : List Nat := l.filter (fun x => decide (tot x = c))
def wFrom (l : List Nat) : Nat → Nat → List Nat
  | _, 0 => []
  | c, d + 1 => cN c l ++ wFrom l (c + 1) d
theorem cnt2 (l : List Nat) (c d : Nat) : (l.filter (fun x => decide (tot x = c))).length + (l.filter (fun x => decide (c + 1 ≤ tot x ∧ tot x < c + 1 + d))).length = (l.filter (fun x => decide (c ≤ tot x ∧ tot x < c + (d + 1)))).length := by
  induction l with
  | nil => rfl
  | cons x l ih =>
    by_cases h1 : tot x = c
    · rw [List.filter_cons_of_pos (by simpa using h1), List.filter_cons_of_neg (by simp; omega), List.filter_cons_of_pos (by simp; omega), List.length_cons, List.length_cons]
      omega
    · by_cases h2 : c + 1 ≤ tot x ∧ tot x < c + 1 + d
      · rw [List.filter_cons_of_neg (by simpa using h1), List.filter_cons_of_pos (by simpa using h2), List.filter_cons_of_pos (by simp; omega), List.length_cons, List.length_cons]
        omega
      · rw [List.filter_cons_of_neg (by simpa using h1), List.filter_cons_of_neg (by simpa using h2), List.filter_cons_of_neg (by simp; omega)]
        exact ih
theorem wFrom_len (l : List Nat) (d : Nat) : ∀ c, (wFrom l c d).length = (l.filter (fun x => decide (c ≤ tot x ∧ tot x < c + d))).length := by
  induction d with
  | zero =>
    intro c
    have : l.filter (fun x => decide (c ≤ tot x ∧ tot x < c + 0)) = [] := by
      rw [List.filter_eq_nil_iff]
      intro a _
      simp
    rw [this]
    rfl
  | succ d ih =>
    intro c
    unfold wFrom
    rw [List.length_append, ih (c + 1)]
    exact cnt2 l c d
theorem wFrom_le (l : List Nat) (c d : Nat) : (wFrom l c d).length ≤ l.length := by
  rw [wFrom_len]
  exact List.length_filter_le _ _
theorem wFrom_all (l : List Nat) (h : ∀ x, x ∈ l → tot x < 21) : (wFrom l 0 21).length = l.length := by
  rw [wFrom_len]
  congr 1
  rw [List.filter_eq_self]
  intro x hx
  have := h x hx
  simp
  omega
theorem wFrom_mem (l : List Nat) (d : Nat) : ∀ c x, x ∈ wFrom l c d → x ∈ l := by
  induction d with
  | zero => intro c x h; cases h
  | succ d ih =>
    intro c x h
    unfold wFrom at h
    rw [List.mem_append] at h
    rcases h with h | h
    · exact (List.mem_filter.mp h).1
    · exact ih _ _ h
theorem lP_mem {fs ss ps : List Nat} {x : Nat} (h : x ∈ lP fs ss ps) : ∃ p s f, p ∈ ps ∧ s ∈ ss ∧ f ∈ fs ∧ x = gR p s f := by
  unfold lP at h
  rw [List.mem_flatMap] at h
  obtain ⟨p, hp, h⟩ := h
  unfold lS at h
  rw [List.mem_flatMap] at h
  obtain ⟨s, hs, h⟩ := h
  unfold lF at h
  rw [List.mem_map] at h
  obtain ⟨f, hf, h⟩ := h
  exact ⟨p, s, f, hp, hs, hf, h.symm⟩
/-- the class writes them so -/
def wF (c p s : Nat) (fs : List Nat) : List Nat := (fs.filter (fun f => decide (pcf 8 f + pcf 8 p + pcf 8 s = c))).map (gR p s)
theorem cN_F {fs : List Nat} (hf : ∀ f, f ∈ fs → f < 256) {c p s : Nat} (hp : p < 256) (hs : s < 256) : cN c (lF p fs s) = wF c p s fs := by
  unfold cN lF wF
  rw [List.filter_map]
  apply congrArg
  apply List.filter_congr
  intro f h
  simp only [Function.comp, tot_is hp hs (hf f h)]
theorem cN_S {fs ss : List Nat} (hf : ∀ f, f ∈ fs → f < 256) (hs : ∀ s, s ∈ ss → s < 256) {c p : Nat} (hp : p < 256) : cN c (lS fs ss p) = ss.flatMap (fun s => wF c p s fs) := by
  unfold lS
  induction ss with
  | nil => rfl
  | cons s ss ih =>
    rw [List.flatMap_cons, List.flatMap_cons, ← ih (fun s h => hs s (List.mem_cons_of_mem _ h)), ← cN_F hf hp (hs s (List.mem_cons_self ..))]
    unfold cN
    rw [List.filter_append]
theorem cN_P {fs ss ps : List Nat} (hf : ∀ f, f ∈ fs → f < 256) (hs : ∀ s, s ∈ ss → s < 256) (hp : ∀ p, p ∈ ps → p < 256) {c : Nat} : cN c (lP fs ss ps) = ps.flatMap (fun p => ss.flatMap (fun s => wF c p s fs)) := by
  unfold lP
  induction ps with
  | nil => rfl
  | cons p ps ih =>
    rw [List.flatMap_cons, List.flatMap_cons, ← ih (fun s h => hp s (List.mem_cons_of_mem _ h)), ← cN_S hf hs (hp p (List.mem_cons_self ..))]
    unfold cN
    rw [List.filter_append]
theorem drop_c (l : List Nat) {i : Nat} (h : i < l.length) : l.drop i = l[i] :: l.drop (i + 1) := List.drop_eq_getElem_cons h
theorem shrn (x k : Nat) (hx : x < 2 ^ 31) (hk : k < 31) : nI x >>> (nI k &&& nI 31) = nI (x / 2 ^ k) := by
  apply Int32.toBitVec_inj.mp
  have hs : (nI k &&& nI 31).toBitVec.smod 32 = BitVec.ofNat 32 k := by
    have : ∀ k, k < 31 → (nI k &&& nI 31).toBitVec.smod 32 = BitVec.ofNat 32 k := by decide
    exact this k hk
  rw [Int32.toBitVec_shiftRight, hs]
  show (BitVec.ofNat 32 x).sshiftRight' (BitVec.ofNat 32 k) = BitVec.ofNat 32 (x / 2 ^ k)
  have h1 : (BitVec.ofNat 32 k).toNat = k := by rw [BitVec.toNat_ofNat]; omega
  have hm : (BitVec.ofNat 32 x).msb = false := by
    rw [BitVec.msb_eq_false_iff_two_mul_lt, BitVec.toNat_ofNat]
    omega
  rw [BitVec.sshiftRight_eq', h1, BitVec.sshiftRight_eq_of_msb_false hm]
  apply BitVec.eq_of_toNat_eq
  have hd : x / 2 ^ k ≤ x := Nat.div_le_self _ _
  rw [BitVec.toNat_ushiftRight, BitVec.toNat_ofNat, BitVec.toNat_ofNat, Nat.mod_eq_of_lt (by omega), Nat.shiftRight_eq_div_pow, Nat.mod_eq_of_lt (by omega)]
