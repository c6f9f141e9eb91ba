def lwA (p : Program) (l : Launch) (e : Env) (s : State) (m : MethodId) (below : List Frame) (meth : Method) (c : Code) (D : va_G) (cy : Nat → ClassId) (a b : Nat → Nat) (bb : Nat) (x3 : Int32) (P : nS → nS → Prop) (pc : Nat) : Prop := ∀ (σ τ : nS) (H : Heap) (locs : List Loc) (ls : Array Slot), P σ τ → va_P D vwCl (NBw cy a σ) H → va_P D vwCl (Mw cy b τ) H → va_S (fun q : Nat => s.heap.size ≤ q) s.heap H locs → lv_has ls 4 [(0, .ref bb), (1, .ref (a 0)), (2, .ref (b 0)), (3, .int x3)] → W p l e room_1 s m #[Value.ref bb] below meth c H locs 65 25549 (lw_Z below #[Value.ref bb] s) (F0 m pc ls [])
/-- what the law's cases stand on -/
def lwC (s : State) (D : va_G) (cy : Nat → ClassId) (a b kt vt : Nat → Nat) : Prop := nEn D (nA1 a 36) cy (NBw cy a) kt vt s ∧ nEn D (nA1 b 29) cy (Mw cy b) kt vt s ∧ (∀ q, nA1 a 36 q → s.heap.size ≤ q) ∧ (∀ q, nA1 b 29 q → s.heap.size ≤ q) ∧ (∀ q, nA1 a 36 q → ¬ nA1 b 29 q)
theorem lw_ix {x3 : Int32} {k : Nat} (h : x3 = nI (8 * k)) (j : Nat) : x3 + nI j = nI (8 * k + j) := by rw [h]; exact nI_add _ j
/-- op 0 -/
def nOp0 (N : Nat) (Inv : Nat → nS → nS → Prop) : Prop := ∀ (n : Nat) (σ τ : nS) , n < 512 → Inv n σ τ → ∃ (r : Int32) (σ1 τ1 : nS), f_X8_fact N σ = some (r, σ1) ∧ f_X11_fact N τ = some (r, τ1) ∧ Inv (n + 1) σ1 τ1
set_option maxHeartbeats 4000000 in
set_option maxRecDepth 100000 in
theorem law_case_0 {p : Program} {l : Launch} {e : Env} {s : State} {m : MethodId} {below : List Frame} {meth : Method} {c : Code} {D : va_G} {cy : Nat → ClassId} {a b kt vt : Nat → Nat} {bb L : Nat} {xs : Nat → Int32} {N k : Nat} {x3 : Int32} {Inv : Nat → nS → nS → Prop} (hL : L ≤ 4096) (C0 : lw_At p s m meth c bb L xs) (hC : lwC s D cy a b kt vt) (hk : 8 * k + 8 ≤ L) (ex3 : x3 = nI (8 * k)) (hop : nOp0 N Inv) (K : lwA p l e s m below meth c D cy a b bb x3 (Inv (k + 1)) 1059) : lwA p l e s m below meth c D cy a b bb x3 (Inv k) 164 := by
  obtain ⟨hx, hb, hr, hml, hown, htl, hX, hbl, hlocks, hgv⟩ := C0
  have hb : c.code = cL_law := hb
  obtain ⟨hE1, hE2, h01, h02, hdis⟩ := hC
  have hA0 : ∀ q : Nat, q < s.heap.size → ¬ (fun q : Nat => s.heap.size ≤ q) q := fun q h => Nat.not_le.mpr h
  have hbA : ¬ (fun q : Nat => s.heap.size ≤ q) bb := Nat.not_le.mpr hbl
  intro σ τ H locs ls hI hP1 hP2 hS hl
  obtain ⟨r, σ1, τ1, hf, hg, hI1⟩ := hop k σ τ (by omega) hI
  refine lv_aload_n hx hb dL_law_164 rfl (lv_at hl 1 rfl) ?_
  refine lw_call (As := []) (rest := []) ⟨hx, hb, hml, hown, htl⟩ (c_X8_fact (D := D) (A := nA1 a 36) (cy := cy) (a := a) (kt := kt) (vt := vt) (l := l) hf) (cwV 0 htl gW_X8_fact rfl rfl rfl (by decide +kernel) ⟨Nat.le_of_ble_eq_true rfl, Nat.le_of_ble_eq_true rfl⟩) hE1 hP1 hS h01 hA0 ⟨Nat.le_of_ble_eq_true rfl, Nat.le_of_ble_eq_true rfl⟩ nbo_0 rfl rfl hl.1 rfl (Nat.le_of_ble_eq_true rfl) dL_law_165 (fun H2 locs2 hP1 hk1 hS => ?_)
  have hP2 := lw_keep hP2 hk1 (fun k q h z => hdis q.1 z ⟨k, nw_M h⟩)
  refine lv_aload_n hx hb dL_law_168 rfl (lv_at hl 2 rfl) ?_
  refine lw_call (As := []) (rest := [.int r]) ⟨hx, hb, hml, hown, htl⟩ (c_X11_fact (D := D) (A := nA1 b 29) (cy := cy) (a := b) (kt := kt) (vt := vt) (l := l) hg) (cwV 0 htl gW_X11_fact rfl rfl rfl (by decide +kernel) ⟨Nat.le_of_ble_eq_true rfl, Nat.le_of_ble_eq_true rfl⟩) hE2 hP2 hS h02 hA0 ⟨Nat.le_of_ble_eq_true rfl, Nat.le_of_ble_eq_true rfl⟩ mbo_0 rfl rfl hl.1 rfl (Nat.le_of_ble_eq_true rfl) dL_law_169 (fun H2 locs2 hP2 hk1 hS => ?_)
  have hP1 := lw_keep hP1 hk1 (fun k q h z => hdis q.1 ⟨k, nw_NB h⟩ z)
  refine lv_icmp_eq (tgt := 1059) hx hb dL_law_172 (by decide) (fun hc => ?_) (fun hc => absurd rfl hc)
  exact K σ1 τ1 _ _ ls hI1 hP1 hP2 hS hl
/-- op 1 -/
def nOp1 (N : Nat) (Inv : Nat → nS → nS → Prop) : Prop := ∀ (n : Nat) (σ τ : nS) (x1 : Int32), n < 512 → Inv n σ τ → ∃ (r : Int32) (σ1 τ1 : nS), f_X8_sign N x1 σ = some (r, σ1) ∧ f_X11_sign N x1 τ = some (r, τ1) ∧ Inv (n + 1) σ1 τ1
set_option maxHeartbeats 4000000 in
set_option maxRecDepth 100000 in
theorem law_case_1 {p : Program} {l : Launch} {e : Env} {s : State} {m : MethodId} {below : List Frame} {meth : Method} {c : Code} {D : va_G} {cy : Nat → ClassId} {a b kt vt : Nat → Nat} {bb L : Nat} {xs : Nat → Int32} {N k : Nat} {x3 : Int32} {Inv : Nat → nS → nS → Prop} (hL : L ≤ 4096) (C0 : lw_At p s m meth c bb L xs) (hC : lwC s D cy a b kt vt) (hk : 8 * k + 8 ≤ L) (ex3 : x3 = nI (8 * k)) (hop : nOp1 N Inv) (K : lwA p l e s m below meth c D cy a b bb x3 (Inv (k + 1)) 1059) : lwA p l e s m below meth c D cy a b bb x3 (Inv k) 177 := by
  obtain ⟨hx, hb, hr, hml, hown, htl, hX, hbl, hlocks, hgv⟩ := C0
  have hb : c.code = cL_law := hb
  obtain ⟨hE1, hE2, h01, h02, hdis⟩ := hC
  have hA0 : ∀ q : Nat, q < s.heap.size → ¬ (fun q : Nat => s.heap.size ≤ q) q := fun q h => Nat.not_le.mpr h
  have hbA : ¬ (fun q : Nat => s.heap.size ≤ q) bb := Nat.not_le.mpr hbl
  intro σ τ H locs ls hI hP1 hP2 hS hl
  obtain ⟨r, σ1, τ1, hf, hg, hI1⟩ := hop k σ τ (xs (8 * k + 1)) (by omega) hI
  refine lv_aload_n hx hb dL_law_177 rfl (lv_at hl 1 rfl) ?_
  refine lv_aload_n hx hb dL_law_178 rfl (lv_at hl 0 rfl) ?_
  refine lv_iload_n hx hb dL_law_179 rfl (lv_at hl 3 rfl) ?_
  refine lv_iconst (v := 1) hx hb dL_law_180 (by decide) ?_
  refine lv_iadd hx hb dL_law_181 ?_
  refine lw_sld hx hb hX hbl hbA hS (k := 8 * k + 1) (lw_ix ex3 1) (by omega) (by omega) dL_law_182 ?_
  refine lw_call (As := [.int (xs (8 * k + 1))]) (rest := []) ⟨hx, hb, hml, hown, htl⟩ (c_X8_sign (D := D) (A := nA1 a 36) (cy := cy) (a := a) (kt := kt) (vt := vt) (l := l) hf) (cwV 1 htl gW_X8_sign rfl rfl rfl (by decide +kernel) ⟨Nat.le_of_ble_eq_true rfl, Nat.le_of_ble_eq_true rfl⟩) hE1 hP1 hS h01 hA0 ⟨Nat.le_of_ble_eq_true rfl, Nat.le_of_ble_eq_true rfl⟩ nbo_0 rfl rfl hl.1 rfl (Nat.le_of_ble_eq_true rfl) dL_law_183 (fun H2 locs2 hP1 hk1 hS => ?_)
  have hP2 := lw_keep hP2 hk1 (fun k q h z => hdis q.1 z ⟨k, nw_M h⟩)
  refine lv_aload_n hx hb dL_law_186 rfl (lv_at hl 2 rfl) ?_
  refine lv_aload_n hx hb dL_law_187 rfl (lv_at hl 0 rfl) ?_
  refine lv_iload_n hx hb dL_law_188 rfl (lv_at hl 3 rfl) ?_
  refine lv_iconst (v := 1) hx hb dL_law_189 (by decide) ?_
  refine lv_iadd hx hb dL_law_190 ?_
  refine lw_sld hx hb hX hbl hbA hS (k := 8 * k + 1) (lw_ix ex3 1) (by omega) (by omega) dL_law_191 ?_
  refine lw_call (As := [.int (xs (8 * k + 1))]) (rest := [.int r]) ⟨hx, hb, hml, hown, htl⟩ (c_X11_sign (D := D) (A := nA1 b 29) (cy := cy) (a := b) (kt := kt) (vt := vt) (l := l) hg) (cwV 1 htl gW_X11_sign rfl rfl rfl (by decide +kernel) ⟨Nat.le_of_ble_eq_true rfl, Nat.le_of_ble_eq_true rfl⟩) hE2 hP2 hS h02 hA0 ⟨Nat.le_of_ble_eq_true rfl, Nat.le_of_ble_eq_true rfl⟩ mbo_0 rfl rfl hl.1 rfl (Nat.le_of_ble_eq_true rfl) dL_law_192 (fun H2 locs2 hP2 hk1 hS => ?_)
  have hP1 := lw_keep hP1 hk1 (fun k q h z => hdis q.1 ⟨k, nw_NB h⟩ z)
  refine lv_icmp_eq (tgt := 1059) hx hb dL_law_195 (by decide) (fun hc => ?_) (fun hc => absurd rfl hc)
  exact K σ1 τ1 _ _ ls hI1 hP1 hP2 hS hl
/-- op 2 -/
def nOp2 (N : Nat) (Inv : Nat → nS → nS → Prop) : Prop := ∀ (n : Nat) (σ τ : nS) (x1 : Int32), n < 512 → Inv n σ τ → ∃ (r : Int32) (σ1 τ1 : nS), f_X8_person N x1 σ = some (r, σ1) ∧ f_X11_person N x1 τ = some (r, τ1) ∧ Inv (n + 1) σ1 τ1
set_option maxHeartbeats 4000000 in
set_option maxRecDepth 100000 in
theorem law_case_2 {p : Program} {l : Launch} {e : Env} {s : State} {m : MethodId} {below : List Frame} {meth : Method} {c : Code} {D : va_G} {cy : Nat → ClassId} {a b kt vt : Nat → Nat} {bb L : Nat} {xs : Nat → Int32} {N k : Nat} {x3 : Int32} {Inv : Nat → nS → nS → Prop} (hL : L ≤ 4096) (C0 : lw_At p s m meth c bb L xs) (hC : lwC s D cy a b kt vt) (hk : 8 * k + 8 ≤ L) (ex3 : x3 = nI (8 * k)) (hop : nOp2 N Inv) (K : lwA p l e s m below meth c D cy a b bb x3 (Inv (k + 1)) 1059) : lwA p l e s m below meth c D cy a b bb x3 (Inv k) 200 := by
  obtain ⟨hx, hb, hr, hml, hown, htl, hX, hbl, hlocks, hgv⟩ := C0
  have hb : c.code = cL_law := hb
  obtain ⟨hE1, hE2, h01, h02, hdis⟩ := hC
  have hA0 : ∀ q : Nat, q < s.heap.size → ¬ (fun q : Nat => s.heap.size ≤ q) q := fun q h => Nat.not_le.mpr h
  have hbA : ¬ (fun q : Nat => s.heap.size ≤ q) bb := Nat.not_le.mpr hbl
  intro σ τ H locs ls hI hP1 hP2 hS hl
  obtain ⟨r, σ1, τ1, hf, hg, hI1⟩ := hop k σ τ (xs (8 * k + 1)) (by omega) hI
  refine lv_aload_n hx hb dL_law_200 rfl (lv_at hl 1 rfl) ?_
  refine lv_aload_n hx hb dL_law_201 rfl (lv_at hl 0 rfl) ?_
  refine lv_iload_n hx hb dL_law_202 rfl (lv_at hl 3 rfl) ?_
  refine lv_iconst (v := 1) hx hb dL_law_203 (by decide) ?_
  refine lv_iadd hx hb dL_law_204 ?_
  refine lw_sld hx hb hX hbl hbA hS (k := 8 * k + 1) (lw_ix ex3 1) (by omega) (by omega) dL_law_205 ?_
  refine lw_call (As := [.int (xs (8 * k + 1))]) (rest := []) ⟨hx, hb, hml, hown, htl⟩ (c_X8_person (D := D) (A := nA1 a 36) (cy := cy) (a := a) (kt := kt) (vt := vt) (l := l) hf) (cwV 1 htl gW_X8_person rfl rfl rfl (by decide +kernel) ⟨Nat.le_of_ble_eq_true rfl, Nat.le_of_ble_eq_true rfl⟩) hE1 hP1 hS h01 hA0 ⟨Nat.le_of_ble_eq_true rfl, Nat.le_of_ble_eq_true rfl⟩ nbo_0 rfl rfl hl.1 rfl (Nat.le_of_ble_eq_true rfl) dL_law_206 (fun H2 locs2 hP1 hk1 hS => ?_)
  have hP2 := lw_keep hP2 hk1 (fun k q h z => hdis q.1 z ⟨k, nw_M h⟩)
  refine lv_aload_n hx hb dL_law_209 rfl (lv_at hl 2 rfl) ?_
  refine lv_aload_n hx hb dL_law_210 rfl (lv_at hl 0 rfl) ?_
  refine lv_iload_n hx hb dL_law_211 rfl (lv_at hl 3 rfl) ?_
  refine lv_iconst (v := 1) hx hb dL_law_212 (by decide) ?_
  refine lv_iadd hx hb dL_law_213 ?_
  refine lw_sld hx hb hX hbl hbA hS (k := 8 * k + 1) (lw_ix ex3 1) (by omega) (by omega) dL_law_214 ?_
  refine lw_call (As := [.int (xs (8 * k + 1))]) (rest := [.int r]) ⟨hx, hb, hml, hown, htl⟩ (c_X11_person (D := D) (A := nA1 b 29) (cy := cy) (a := b) (kt := kt) (vt := vt) (l := l) hg) (cwV 1 htl gW_X11_person rfl rfl rfl (by decide +kernel) ⟨Nat.le_of_ble_eq_true rfl, Nat.le_of_ble_eq_true rfl⟩) hE2 hP2 hS h02 hA0 ⟨Nat.le_of_ble_eq_true rfl, Nat.le_of_ble_eq_true rfl⟩ mbo_0 rfl rfl hl.1 rfl (Nat.le_of_ble_eq_true rfl) dL_law_215 (fun H2 locs2 hP2 hk1 hS => ?_)
  have hP1 := lw_keep hP1 hk1 (fun k q h z => hdis q.1 ⟨k, nw_NB h⟩ z)
  refine lv_icmp_eq (tgt := 1059) hx hb dL_law_218 (by decide) (fun hc => ?_) (fun hc => absurd rfl hc)
  exact K σ1 τ1 _ _ ls hI1 hP1 hP2 hS hl
/-- op 3 -/
def nOp3 (N : Nat) (Inv : Nat → nS → nS → Prop) : Prop := ∀ (n : Nat) (σ τ : nS) (x1 : Int32), n < 512 → Inv n σ τ → ∃ (r : Int32) (σ1 τ1 : nS), f_X8_goal N x1 σ = some (r, σ1) ∧ f_X11_goal N x1 τ = some (r, τ1) ∧ Inv (n + 1) σ1 τ1
set_option maxHeartbeats 4000000 in
set_option maxRecDepth 100000 in
theorem law_case_3 {p : Program} {l : Launch} {e : Env} {s : State} {m : MethodId} {below : List Frame} {meth : Method} {c : Code} {D : va_G} {cy : Nat → ClassId} {a b kt vt : Nat → Nat} {bb L : Nat} {xs : Nat → Int32} {N k : Nat} {x3 : Int32} {Inv : Nat → nS → nS → Prop} (hL : L ≤ 4096) (C0 : lw_At p s m meth c bb L xs) (hC : lwC s D cy a b kt vt) (hk : 8 * k + 8 ≤ L) (ex3 : x3 = nI (8 * k)) (hop : nOp3 N Inv) (K : lwA p l e s m below meth c D cy a b bb x3 (Inv (k + 1)) 1059) : lwA p l e s m below meth c D cy a b bb x3 (Inv k) 223 := by
  obtain ⟨hx, hb, hr, hml, hown, htl, hX, hbl, hlocks, hgv⟩ := C0
  have hb : c.code = cL_law := hb
  obtain ⟨hE1, hE2, h01, h02, hdis⟩ := hC
  have hA0 : ∀ q : Nat, q < s.heap.size → ¬ (fun q : Nat => s.heap.size ≤ q) q := fun q h => Nat.not_le.mpr h
  have hbA : ¬ (fun q : Nat => s.heap.size ≤ q) bb := Nat.not_le.mpr hbl
  intro σ τ H locs ls hI hP1 hP2 hS hl
  obtain ⟨r, σ1, τ1, hf, hg, hI1⟩ := hop k σ τ (xs (8 * k + 1)) (by omega) hI
  refine lv_aload_n hx hb dL_law_223 rfl (lv_at hl 1 rfl) ?_
  refine lv_aload_n hx hb dL_law_224 rfl (lv_at hl 0 rfl) ?_
  refine lv_iload_n hx hb dL_law_225 rfl (lv_at hl 3 rfl) ?_
  refine lv_iconst (v := 1) hx hb dL_law_226 (by decide) ?_
  refine lv_iadd hx hb dL_law_227 ?_
  refine lw_sld hx hb hX hbl hbA hS (k := 8 * k + 1) (lw_ix ex3 1) (by omega) (by omega) dL_law_228 ?_
  refine lw_call (As := [.int (xs (8 * k + 1))]) (rest := []) ⟨hx, hb, hml, hown, htl⟩ (c_X8_goal (D := D) (A := nA1 a 36) (cy := cy) (a := a) (kt := kt) (vt := vt) (l := l) hf) (cwV 1 htl gW_X8_goal rfl rfl rfl (by decide +kernel) ⟨Nat.le_of_ble_eq_true rfl, Nat.le_of_ble_eq_true rfl⟩) hE1 hP1 hS h01 hA0 ⟨Nat.le_of_ble_eq_true rfl, Nat.le_of_ble_eq_true rfl⟩ nbo_0 rfl rfl hl.1 rfl (Nat.le_of_ble_eq_true rfl) dL_law_229 (fun H2 locs2 hP1 hk1 hS => ?_)
  have hP2 := lw_keep hP2 hk1 (fun k q h z => hdis q.1 z ⟨k, nw_M h⟩)
  refine lv_aload_n hx hb dL_law_232 rfl (lv_at hl 2 rfl) ?_
  refine lv_aload_n hx hb dL_law_233 rfl (lv_at hl 0 rfl) ?_
  refine lv_iload_n hx hb dL_law_234 rfl (lv_at hl 3 rfl) ?_
  refine lv_iconst (v := 1) hx hb dL_law_235 (by decide) ?_
  refine lv_iadd hx hb dL_law_236 ?_
  refine lw_sld hx hb hX hbl hbA hS (k := 8 * k + 1) (lw_ix ex3 1) (by omega) (by omega) dL_law_237 ?_
  refine lw_call (As := [.int (xs (8 * k + 1))]) (rest := [.int r]) ⟨hx, hb, hml, hown, htl⟩ (c_X11_goal (D := D) (A := nA1 b 29) (cy := cy) (a := b) (kt := kt) (vt := vt) (l := l) hg) (cwV 1 htl gW_X11_goal rfl rfl rfl (by decide +kernel) ⟨Nat.le_of_ble_eq_true rfl, Nat.le_of_ble_eq_true rfl⟩) hE2 hP2 hS h02 hA0 ⟨Nat.le_of_ble_eq_true rfl, Nat.le_of_ble_eq_true rfl⟩ mbo_0 rfl rfl hl.1 rfl (Nat.le_of_ble_eq_true rfl) dL_law_238 (fun H2 locs2 hP2 hk1 hS => ?_)
  have hP1 := lw_keep hP1 hk1 (fun k q h z => hdis q.1 ⟨k, nw_NB h⟩ z)
  refine lv_icmp_eq (tgt := 1059) hx hb dL_law_241 (by decide) (fun hc => ?_) (fun hc => absurd rfl hc)
  exact K σ1 τ1 _ _ ls hI1 hP1 hP2 hS hl
/-- op 4 -/
def nOp4 (N : Nat) (Inv : Nat → nS → nS → Prop) : Prop := ∀ (n : Nat) (σ τ : nS) (x1 x2 x3 x4 x5 : Int32), n < 512 → Inv n σ τ → ∃ (r : Int32) (σ1 τ1 : nS), f_X8_feed N x1 x2 x3 x4 x5 σ = some (r, σ1) ∧ f_X11_feed N x1 x2 x3 x4 x5 τ = some (r, τ1) ∧ Inv (n + 1) σ1 τ1
set_option maxHeartbeats 4000000 in
set_option maxRecDepth 100000 in
theorem law_case_4 {p : Program} {l : Launch} {e : Env} {s : State} {m : MethodId} {below : List Frame} {meth : Method} {c : Code} {D : va_G} {cy : Nat → ClassId} {a b kt vt : Nat → Nat} {bb L : Nat} {xs : Nat → Int32} {N k : Nat} {x3 : Int32} {Inv : Nat → nS → nS → Prop} (hL : L ≤ 4096) (C0 : lw_At p s m meth c bb L xs) (hC : lwC s D cy a b kt vt) (hk : 8 * k + 8 ≤ L) (ex3 : x3 = nI (8 * k)) (hop : nOp4 N Inv) (K : lwA p l e s m below meth c D cy a b bb x3 (Inv (k + 1)) 1059) : lwA p l e s m below meth c D cy a b bb x3 (Inv k) 246 := by
  obtain ⟨hx, hb, hr, hml, hown, htl, hX, hbl, hlocks, hgv⟩ := C0
  have hb : c.code = cL_law := hb
  obtain ⟨hE1, hE2, h01, h02, hdis⟩ := hC
  have hA0 : ∀ q : Nat, q < s.heap.size → ¬ (fun q : Nat => s.heap.size ≤ q) q := fun q h => Nat.not_le.mpr h
  have hbA : ¬ (fun q : Nat => s.heap.size ≤ q) bb := Nat.not_le.mpr hbl
  intro σ τ H locs ls hI hP1 hP2 hS hl
  obtain ⟨r, σ1, τ1, hf, hg, hI1⟩ := hop k σ τ (xs (8 * k + 1)) (xs (8 * k + 2)) (xs (8 * k + 3)) (xs (8 * k + 4)) (xs (8 * k + 5)) (by omega) hI
  refine lv_aload_n hx hb dL_law_246 rfl (lv_at hl 1 rfl) ?_
  refine lv_aload_n hx hb dL_law_247 rfl (lv_at hl 0 rfl) ?_
  refine lv_iload_n hx hb dL_law_248 rfl (lv_at hl 3 rfl) ?_
  refine lv_iconst (v := 1) hx hb dL_law_249 (by decide) ?_
  refine lv_iadd hx hb dL_law_250 ?_
  refine lw_sld hx hb hX hbl hbA hS (k := 8 * k + 1) (lw_ix ex3 1) (by omega) (by omega) dL_law_251 ?_
  refine lv_aload_n hx hb dL_law_252 rfl (lv_at hl 0 rfl) ?_
  refine lv_iload_n hx hb dL_law_253 rfl (lv_at hl 3 rfl) ?_
  refine lv_iconst (v := 2) hx hb dL_law_254 (by decide) ?_
  refine lv_iadd hx hb dL_law_255 ?_
  refine lw_sld hx hb hX hbl hbA hS (k := 8 * k + 2) (lw_ix ex3 2) (by omega) (by omega) dL_law_256 ?_
  refine lv_aload_n hx hb dL_law_257 rfl (lv_at hl 0 rfl) ?_
  refine lv_iload_n hx hb dL_law_258 rfl (lv_at hl 3 rfl) ?_
  refine lv_iconst (v := 3) hx hb dL_law_259 (by decide) ?_
  refine lv_iadd hx hb dL_law_260 ?_
  refine lw_sld hx hb hX hbl hbA hS (k := 8 * k + 3) (lw_ix ex3 3) (by omega) (by omega) dL_law_261 ?_
  refine lv_aload_n hx hb dL_law_262 rfl (lv_at hl 0 rfl) ?_
  refine lv_iload_n hx hb dL_law_263 rfl (lv_at hl 3 rfl) ?_
  refine lv_iconst (v := 4) hx hb dL_law_264 (by decide) ?_
  refine lv_iadd hx hb dL_law_265 ?_
  refine lw_sld hx hb hX hbl hbA hS (k := 8 * k + 4) (lw_ix ex3 4) (by omega) (by omega) dL_law_266 ?_
  refine lv_aload_n hx hb dL_law_267 rfl (lv_at hl 0 rfl) ?_
  refine lv_iload_n hx hb dL_law_268 rfl (lv_at hl 3 rfl) ?_
  refine lv_iconst (v := 5) hx hb dL_law_269 (by decide) ?_
  refine lv_iadd hx hb dL_law_270 ?_
  refine lw_sld hx hb hX hbl hbA hS (k := 8 * k + 5) (lw_ix ex3 5) (by omega) (by omega) dL_law_271 ?_
  refine lw_call (As := [.int (xs (8 * k + 1)), .int (xs (8 * k + 2)), .int (xs (8 * k + 3)), .int (xs (8 * k + 4)), .int (xs (8 * k + 5))]) (rest := []) ⟨hx, hb, hml, hown, htl⟩ (c_X8_feed (D := D) (A := nA1 a 36) (cy := cy) (a := a) (kt := kt) (vt := vt) (l := l) hf) (cwV 5 htl gW_X8_feed rfl rfl rfl (by decide +kernel) ⟨Nat.le_of_ble_eq_true rfl, Nat.le_of_ble_eq_true rfl⟩) hE1 hP1 hS h01 hA0 ⟨Nat.le_of_ble_eq_true rfl, Nat.le_of_ble_eq_true rfl⟩ nbo_0 rfl rfl hl.1 rfl (Nat.le_of_ble_eq_true rfl) dL_law_272 (fun H2 locs2 hP1 hk1 hS => ?_)
  have hP2 := lw_keep hP2 hk1 (fun k q h z => hdis q.1 z ⟨k, nw_M h⟩)
  refine lv_aload_n hx hb dL_law_275 rfl (lv_at hl 2 rfl) ?_
  refine lv_aload_n hx hb dL_law_276 rfl (lv_at hl 0 rfl) ?_
  refine lv_iload_n hx hb dL_law_277 rfl (lv_at hl 3 rfl) ?_
  refine lv_iconst (v := 1) hx hb dL_law_278 (by decide) ?_
  refine lv_iadd hx hb dL_law_279 ?_
  refine lw_sld hx hb hX hbl hbA hS (k := 8 * k + 1) (lw_ix ex3 1) (by omega) (by omega) dL_law_280 ?_
  refine lv_aload_n hx hb dL_law_281 rfl (lv_at hl 0 rfl) ?_
  refine lv_iload_n hx hb dL_law_282 rfl (lv_at hl 3 rfl) ?_
  refine lv_iconst (v := 2) hx hb dL_law_283 (by decide) ?_
  refine lv_iadd hx hb dL_law_284 ?_
  refine lw_sld hx hb hX hbl hbA hS (k := 8 * k + 2) (lw_ix ex3 2) (by omega) (by omega) dL_law_285 ?_
  refine lv_aload_n hx hb dL_law_286 rfl (lv_at hl 0 rfl) ?_
  refine lv_iload_n hx hb dL_law_287 rfl (lv_at hl 3 rfl) ?_
  refine lv_iconst (v := 3) hx hb dL_law_288 (by decide) ?_
  refine lv_iadd hx hb dL_law_289 ?_
  refine lw_sld hx hb hX hbl hbA hS (k := 8 * k + 3) (lw_ix ex3 3) (by omega) (by omega) dL_law_290 ?_
  refine lv_aload_n hx hb dL_law_291 rfl (lv_at hl 0 rfl) ?_
  refine lv_iload_n hx hb dL_law_292 rfl (lv_at hl 3 rfl) ?_
  refine lv_iconst (v := 4) hx hb dL_law_293 (by decide) ?_
  refine lv_iadd hx hb dL_law_294 ?_
  refine lw_sld hx hb hX hbl hbA hS (k := 8 * k + 4) (lw_ix ex3 4) (by omega) (by omega) dL_law_295 ?_
  refine lv_aload_n hx hb dL_law_296 rfl (lv_at hl 0 rfl) ?_
  refine lv_iload_n hx hb dL_law_297 rfl (lv_at hl 3 rfl) ?_
  refine lv_iconst (v := 5) hx hb dL_law_298 (by decide) ?_
  refine lv_iadd hx hb dL_law_299 ?_
  refine lw_sld hx hb hX hbl hbA hS (k := 8 * k + 5) (lw_ix ex3 5) (by omega) (by omega) dL_law_300 ?_
  refine lw_call (As := [.int (xs (8 * k + 1)), .int (xs (8 * k + 2)), .int (xs (8 * k + 3)), .int (xs (8 * k + 4)), .int (xs (8 * k + 5))]) (rest := [.int r]) ⟨hx, hb, hml, hown, htl⟩ (c_X11_feed (D := D) (A := nA1 b 29) (cy := cy) (a := b) (kt := kt) (vt := vt) (l := l) hg) (cwV 5 htl gW_X11_feed rfl rfl rfl (by decide +kernel) ⟨Nat.le_of_ble_eq_true rfl, Nat.le_of_ble_eq_true rfl⟩) hE2 hP2 hS h02 hA0 ⟨Nat.le_of_ble_eq_true rfl, Nat.le_of_ble_eq_true rfl⟩ mbo_0 rfl rfl hl.1 rfl (Nat.le_of_ble_eq_true rfl) dL_law_301 (fun H2 locs2 hP2 hk1 hS => ?_)
  have hP1 := lw_keep hP1 hk1 (fun k q h z => hdis q.1 ⟨k, nw_NB h⟩ z)
  refine lv_icmp_eq (tgt := 1059) hx hb dL_law_304 (by decide) (fun hc => ?_) (fun hc => absurd rfl hc)
  exact K σ1 τ1 _ _ ls hI1 hP1 hP2 hS hl
/-- op 5 -/
def nOp5 (N : Nat) (Inv : Nat → nS → nS → Prop) : Prop := ∀ (n : Nat) (σ τ : nS) (x1 : Int32), n < 512 → Inv n σ τ → ∃ (r : Int32) (σ1 τ1 : nS), f_X8_book N x1 σ = some (r, σ1) ∧ f_X11_book N x1 τ = some (r, τ1) ∧ Inv (n + 1) σ1 τ1
set_option maxHeartbeats 4000000 in
set_option maxRecDepth 100000 in
theorem law_case_5 {p : Program} {l : Launch} {e : Env} {s : State} {m : MethodId} {below : List Frame} {meth : Method} {c : Code} {D : va_G} {cy : Nat → ClassId} {a b kt vt : Nat → Nat} {bb L : Nat} {xs : Nat → Int32} {N k : Nat} {x3 : Int32} {Inv : Nat → nS → nS → Prop} (hL : L ≤ 4096) (C0 : lw_At p s m meth c bb L xs) (hC : lwC s D cy a b kt vt) (hk : 8 * k + 8 ≤ L) (ex3 : x3 = nI (8 * k)) (hop : nOp5 N Inv) (K : lwA p l e s m below meth c D cy a b bb x3 (Inv (k + 1)) 1059) : lwA p l e s m below meth c D cy a b bb x3 (Inv k) 309 := by
  obtain ⟨hx, hb, hr, hml, hown, htl, hX, hbl, hlocks, hgv⟩ := C0
  have hb : c.code = cL_law := hb
  obtain ⟨hE1, hE2, h01, h02, hdis⟩ := hC
  have hA0 : ∀ q : Nat, q < s.heap.size → ¬ (fun q : Nat => s.heap.size ≤ q) q := fun q h => Nat.not_le.mpr h
  have hbA : ¬ (fun q : Nat => s.heap.size ≤ q) bb := Nat.not_le.mpr hbl
  intro σ τ H locs ls hI hP1 hP2 hS hl
  obtain ⟨r, σ1, τ1, hf, hg, hI1⟩ := hop k σ τ (xs (8 * k + 1)) (by omega) hI
  refine lv_aload_n hx hb dL_law_309 rfl (lv_at hl 1 rfl) ?_
  refine lv_aload_n hx hb dL_law_310 rfl (lv_at hl 0 rfl) ?_
  refine lv_iload_n hx hb dL_law_311 rfl (lv_at hl 3 rfl) ?_
  refine lv_iconst (v := 1) hx hb dL_law_312 (by decide) ?_
  refine lv_iadd hx hb dL_law_313 ?_
  refine lw_sld hx hb hX hbl hbA hS (k := 8 * k + 1) (lw_ix ex3 1) (by omega) (by omega) dL_law_314 ?_
  refine lw_call (As := [.int (xs (8 * k + 1))]) (rest := []) ⟨hx, hb, hml, hown, htl⟩ (c_X8_book (D := D) (A := nA1 a 36) (cy := cy) (a := a) (kt := kt) (vt := vt) (l := l) hf) (cwV 1 htl gW_X8_book rfl rfl rfl (by decide +kernel) ⟨Nat.le_of_ble_eq_true rfl, Nat.le_of_ble_eq_true rfl⟩) hE1 hP1 hS h01 hA0 ⟨Nat.le_of_ble_eq_true rfl, Nat.le_of_ble_eq_true rfl⟩ nbo_0 rfl rfl hl.1 rfl (Nat.le_of_ble_eq_true rfl) dL_law_315 (fun H2 locs2 hP1 hk1 hS => ?_)
  have hP2 := lw_keep hP2 hk1 (fun k q h z => hdis q.1 z ⟨k, nw_M h⟩)
  refine lv_aload_n hx hb dL_law_318 rfl (lv_at hl 2 rfl) ?_
  refine lv_aload_n hx hb dL_law_319 rfl (lv_at hl 0 rfl) ?_
  refine lv_iload_n hx hb dL_law_320 rfl (lv_at hl 3 rfl) ?_
  refine lv_iconst (v := 1) hx hb dL_law_321 (by decide) ?_
  refine lv_iadd hx hb dL_law_322 ?_
  refine lw_sld hx hb hX hbl hbA hS (k := 8 * k + 1) (lw_ix ex3 1) (by omega) (by omega) dL_law_323 ?_
  refine lw_callB (n := 1) (As := [.int (xs (8 * k + 1))]) (rest := [.int r]) ⟨hx, hb, hml, hown, htl⟩ (c_X11_book (D := D) (A := nA1 b 29) (cy := cy) (a := b) (kt := kt) (vt := vt) (l := l) hg) gB_book rfl rfl rfl rfl (by decide +kernel) ⟨Nat.le_of_ble_eq_true rfl, Nat.le_of_ble_eq_true rfl⟩ hE2 hP2 hS h02 hA0 ⟨Nat.le_of_ble_eq_true rfl, Nat.le_of_ble_eq_true rfl⟩ mbo_0 rfl rfl hl.1 rfl (Nat.le_of_ble_eq_true rfl) dL_law_324 (fun H2 locs2 hP2 hk1 hS => ?_)
  have hP1 := lw_keep hP1 hk1 (fun k q h z => hdis q.1 ⟨k, nw_NB h⟩ z)
  refine lv_icmp_eq (tgt := 1059) hx hb dL_law_327 (by decide) (fun hc => ?_) (fun hc => absurd rfl hc)
  exact K σ1 τ1 _ _ ls hI1 hP1 hP2 hS hl
/-- op 6 -/
def nOp6 (N : Nat) (Inv : Nat → nS → nS → Prop) : Prop := ∀ (n : Nat) (σ τ : nS) , n < 512 → Inv n σ τ → ∃ (r : Int32) (σ1 τ1 : nS), f_X8_fault N σ = some (r, σ1) ∧ f_X11_fault N τ = some (r, τ1) ∧ Inv (n + 1) σ1 τ1
set_option maxHeartbeats 4000000 in
set_option maxRecDepth 100000 in
theorem law_case_6 {p : Program} {l : Launch} {e : Env} {s : State} {m : MethodId} {below : List Frame} {meth : Method} {c : Code} {D : va_G} {cy : Nat → ClassId} {a b kt vt : Nat → Nat} {bb L : Nat} {xs : Nat → Int32} {N k : Nat} {x3 : Int32} {Inv : Nat → nS → nS → Prop} (hL : L ≤ 4096) (C0 : lw_At p s m meth c bb L xs) (hC : lwC s D cy a b kt vt) (hk : 8 * k + 8 ≤ L) (ex3 : x3 = nI (8 * k)) (hop : nOp6 N Inv) (K : lwA p l e s m below meth c D cy a b bb x3 (Inv (k + 1)) 1059) : lwA p l e s m below meth c D cy a b bb x3 (Inv k) 332 := by
  obtain ⟨hx, hb, hr, hml, hown, htl, hX, hbl, hlocks, hgv⟩ := C0
  have hb : c.code = cL_law := hb
  obtain ⟨hE1, hE2, h01, h02, hdis⟩ := hC
  have hA0 : ∀ q : Nat, q < s.heap.size → ¬ (fun q : Nat => s.heap.size ≤ q) q := fun q h => Nat.not_le.mpr h
  have hbA : ¬ (fun q : Nat => s.heap.size ≤ q) bb := Nat.not_le.mpr hbl
  intro σ τ H locs ls hI hP1 hP2 hS hl
  obtain ⟨r, σ1, τ1, hf, hg, hI1⟩ := hop k σ τ (by omega) hI
  refine lv_aload_n hx hb dL_law_332 rfl (lv_at hl 1 rfl) ?_
  refine lw_call (As := []) (rest := []) ⟨hx, hb, hml, hown, htl⟩ (c_X8_fault (D := D) (A := nA1 a 36) (cy := cy) (a := a) (kt := kt) (vt := vt) (l := l) hf) (cwV 0 htl gW_X8_fault rfl rfl rfl (by decide +kernel) ⟨Nat.le_of_ble_eq_true rfl, Nat.le_of_ble_eq_true rfl⟩) hE1 hP1 hS h01 hA0 ⟨Nat.le_of_ble_eq_true rfl, Nat.le_of_ble_eq_true rfl⟩ nbo_0 rfl rfl hl.1 rfl (Nat.le_of_ble_eq_true rfl) dL_law_333 (fun H2 locs2 hP1 hk1 hS => ?_)
  have hP2 := lw_keep hP2 hk1 (fun k q h z => hdis q.1 z ⟨k, nw_M h⟩)
  refine lv_aload_n hx hb dL_law_336 rfl (lv_at hl 2 rfl) ?_
  refine lw_call (As := []) (rest := [.int r]) ⟨hx, hb, hml, hown, htl⟩ (c_X11_fault (D := D) (A := nA1 b 29) (cy := cy) (a := b) (kt := kt) (vt := vt) (l := l) hg) (cwV 0 htl gW_X11_fault rfl rfl rfl (by decide +kernel) ⟨Nat.le_of_ble_eq_true rfl, Nat.le_of_ble_eq_true rfl⟩) hE2 hP2 hS h02 hA0 ⟨Nat.le_of_ble_eq_true rfl, Nat.le_of_ble_eq_true rfl⟩ mbo_0 rfl rfl hl.1 rfl (Nat.le_of_ble_eq_true rfl) dL_law_337 (fun H2 locs2 hP2 hk1 hS => ?_)
  have hP1 := lw_keep hP1 hk1 (fun k q h z => hdis q.1 ⟨k, nw_NB h⟩ z)
  refine lv_icmp_eq (tgt := 1059) hx hb dL_law_340 (by decide) (fun hc => ?_) (fun hc => absurd rfl hc)
  exact K σ1 τ1 _ _ ls hI1 hP1 hP2 hS hl
/-- op 7 -/
def nOp7 (N : Nat) (Inv : Nat → nS → nS → Prop) : Prop := ∀ (n : Nat) (σ τ : nS) , n < 512 → Inv n σ τ → ∃ (r : Int32) (σ1 τ1 : nS), f_X8_where N σ = some (r, σ1) ∧ f_X11_where N τ = some (r, τ1) ∧ Inv (n + 1) σ1 τ1
set_option maxHeartbeats 4000000 in
set_option maxRecDepth 100000 in
theorem law_case_7 {p : Program} {l : Launch} {e : Env} {s : State} {m : MethodId} {below : List Frame} {meth : Method} {c : Code} {D : va_G} {cy : Nat → ClassId} {a b kt vt : Nat → Nat} {bb L : Nat} {xs : Nat → Int32} {N k : Nat} {x3 : Int32} {Inv : Nat → nS → nS → Prop} (hL : L ≤ 4096) (C0 : lw_At p s m meth c bb L xs) (hC : lwC s D cy a b kt vt) (hk : 8 * k + 8 ≤ L) (ex3 : x3 = nI (8 * k)) (hop : nOp7 N Inv) (K : lwA p l e s m below meth c D cy a b bb x3 (Inv (k + 1)) 1059) : lwA p l e s m below meth c D cy a b bb x3 (Inv k) 345 := by
  obtain ⟨hx, hb, hr, hml, hown, htl, hX, hbl, hlocks, hgv⟩ := C0
  have hb : c.code = cL_law := hb
  obtain ⟨hE1, hE2, h01, h02, hdis⟩ := hC
  have hA0 : ∀ q : Nat, q < s.heap.size → ¬ (fun q : Nat => s.heap.size ≤ q) q := fun q h => Nat.not_le.mpr h
  have hbA : ¬ (fun q : Nat => s.heap.size ≤ q) bb := Nat.not_le.mpr hbl
  intro σ τ H locs ls hI hP1 hP2 hS hl
  obtain ⟨r, σ1, τ1, hf, hg, hI1⟩ := hop k σ τ (by omega) hI
  refine lv_aload_n hx hb dL_law_345 rfl (lv_at hl 1 rfl) ?_
  refine lw_call (As := []) (rest := []) ⟨hx, hb, hml, hown, htl⟩ (c_X8_where (D := D) (A := nA1 a 36) (cy := cy) (a := a) (kt := kt) (vt := vt) (l := l) hf) (cwV 0 htl gW_X8_where rfl rfl rfl (by decide +kernel) ⟨Nat.le_of_ble_eq_true rfl, Nat.le_of_ble_eq_true rfl⟩) hE1 hP1 hS h01 hA0 ⟨Nat.le_of_ble_eq_true rfl, Nat.le_of_ble_eq_true rfl⟩ nbo_0 rfl rfl hl.1 rfl (Nat.le_of_ble_eq_true rfl) dL_law_346 (fun H2 locs2 hP1 hk1 hS => ?_)
  have hP2 := lw_keep hP2 hk1 (fun k q h z => hdis q.1 z ⟨k, nw_M h⟩)
  refine lv_aload_n hx hb dL_law_349 rfl (lv_at hl 2 rfl) ?_
  refine lw_call (As := []) (rest := [.int r]) ⟨hx, hb, hml, hown, htl⟩ (c_X11_where (D := D) (A := nA1 b 29) (cy := cy) (a := b) (kt := kt) (vt := vt) (l := l) hg) (cwV 0 htl gW_X11_where rfl rfl rfl (by decide +kernel) ⟨Nat.le_of_ble_eq_true rfl, Nat.le_of_ble_eq_true rfl⟩) hE2 hP2 hS h02 hA0 ⟨Nat.le_of_ble_eq_true rfl, Nat.le_of_ble_eq_true rfl⟩ mbo_0 rfl rfl hl.1 rfl (Nat.le_of_ble_eq_true rfl) dL_law_350 (fun H2 locs2 hP2 hk1 hS => ?_)
  have hP1 := lw_keep hP1 hk1 (fun k q h z => hdis q.1 ⟨k, nw_NB h⟩ z)
  refine lv_icmp_eq (tgt := 1059) hx hb dL_law_353 (by decide) (fun hc => ?_) (fun hc => absurd rfl hc)
  exact K σ1 τ1 _ _ ls hI1 hP1 hP2 hS hl
/-- op 8 -/
def nOp8 (N : Nat) (Inv : Nat → nS → nS → Prop) : Prop := ∀ (n : Nat) (σ τ : nS) (x1 : Int32), n < 512 → Inv n σ τ → ∃ (r : Int32) (σ1 τ1 : nS), f_X8_steps N x1 σ = some (r, σ1) ∧ f_X11_steps N x1 τ = some (r, τ1) ∧ Inv (n + 1) σ1 τ1
set_option maxHeartbeats 4000000 in
set_option maxRecDepth 100000 in
theorem law_case_8 {p : Program} {l : Launch} {e : Env} {s : State} {m : MethodId} {below : List Frame} {meth : Method} {c : Code} {D : va_G} {cy : Nat → ClassId} {a b kt vt : Nat → Nat} {bb L : Nat} {xs : Nat → Int32} {N k : Nat} {x3 : Int32} {Inv : Nat → nS → nS → Prop} (hL : L ≤ 4096) (C0 : lw_At p s m meth c bb L xs) (hC : lwC s D cy a b kt vt) (hk : 8 * k + 8 ≤ L) (ex3 : x3 = nI (8 * k)) (hop : nOp8 N Inv) (K : lwA p l e s m below meth c D cy a b bb x3 (Inv (k + 1)) 1059) : lwA p l e s m below meth c D cy a b bb x3 (Inv k) 358 := by
  obtain ⟨hx, hb, hr, hml, hown, htl, hX, hbl, hlocks, hgv⟩ := C0
  have hb : c.code = cL_law := hb
  obtain ⟨hE1, hE2, h01, h02, hdis⟩ := hC
  have hA0 : ∀ q : Nat, q < s.heap.size → ¬ (fun q : Nat => s.heap.size ≤ q) q := fun q h => Nat.not_le.mpr h
  have hbA : ¬ (fun q : Nat => s.heap.size ≤ q) bb := Nat.not_le.mpr hbl
  intro σ τ H locs ls hI hP1 hP2 hS hl
  obtain ⟨r, σ1, τ1, hf, hg, hI1⟩ := hop k σ τ (xs (8 * k + 1)) (by omega) hI
  refine lv_aload_n hx hb dL_law_358 rfl (lv_at hl 1 rfl) ?_
  refine lv_aload_n hx hb dL_law_359 rfl (lv_at hl 0 rfl) ?_
  refine lv_iload_n hx hb dL_law_360 rfl (lv_at hl 3 rfl) ?_
  refine lv_iconst (v := 1) hx hb dL_law_361 (by decide) ?_
  refine lv_iadd hx hb dL_law_362 ?_
  refine lw_sld hx hb hX hbl hbA hS (k := 8 * k + 1) (lw_ix ex3 1) (by omega) (by omega) dL_law_363 ?_
  refine lw_call (As := [.int (xs (8 * k + 1))]) (rest := []) ⟨hx, hb, hml, hown, htl⟩ (c_X8_steps (D := D) (A := nA1 a 36) (cy := cy) (a := a) (kt := kt) (vt := vt) (l := l) hf) (cwV 1 htl gW_X8_steps rfl rfl rfl (by decide +kernel) ⟨Nat.le_of_ble_eq_true rfl, Nat.le_of_ble_eq_true rfl⟩) hE1 hP1 hS h01 hA0 ⟨Nat.le_of_ble_eq_true rfl, Nat.le_of_ble_eq_true rfl⟩ nbo_0 rfl rfl hl.1 rfl (Nat.le_of_ble_eq_true rfl) dL_law_364 (fun H2 locs2 hP1 hk1 hS => ?_)
  have hP2 := lw_keep hP2 hk1 (fun k q h z => hdis q.1 z ⟨k, nw_M h⟩)
  refine lv_aload_n hx hb dL_law_367 rfl (lv_at hl 2 rfl) ?_
  refine lv_aload_n hx hb dL_law_368 rfl (lv_at hl 0 rfl) ?_
  refine lv_iload_n hx hb dL_law_369 rfl (lv_at hl 3 rfl) ?_
  refine lv_iconst (v := 1) hx hb dL_law_370 (by decide) ?_
  refine lv_iadd hx hb dL_law_371 ?_
  refine lw_sld hx hb hX hbl hbA hS (k := 8 * k + 1) (lw_ix ex3 1) (by omega) (by omega) dL_law_372 ?_
  refine lw_call (As := [.int (xs (8 * k + 1))]) (rest := [.int r]) ⟨hx, hb, hml, hown, htl⟩ (c_X11_steps (D := D) (A := nA1 b 29) (cy := cy) (a := b) (kt := kt) (vt := vt) (l := l) hg) (cwV 1 htl gW_X11_steps rfl rfl rfl (by decide +kernel) ⟨Nat.le_of_ble_eq_true rfl, Nat.le_of_ble_eq_true rfl⟩) hE2 hP2 hS h02 hA0 ⟨Nat.le_of_ble_eq_true rfl, Nat.le_of_ble_eq_true rfl⟩ mbo_0 rfl rfl hl.1 rfl (Nat.le_of_ble_eq_true rfl) dL_law_373 (fun H2 locs2 hP2 hk1 hS => ?_)
  have hP1 := lw_keep hP1 hk1 (fun k q h z => hdis q.1 ⟨k, nw_NB h⟩ z)
  refine lv_icmp_eq (tgt := 1059) hx hb dL_law_376 (by decide) (fun hc => ?_) (fun hc => absurd rfl hc)
  exact K σ1 τ1 _ _ ls hI1 hP1 hP2 hS hl
/-- op 9 -/
def nOp9 (N : Nat) (Inv : Nat → nS → nS → Prop) : Prop := ∀ (n : Nat) (σ τ : nS) (x1 x2 x3 : Int32), n < 512 → Inv n σ τ → ∃ (r : Int32) (σ1 τ1 : nS), f_X8_step N x1 x2 x3 σ = some (r, σ1) ∧ f_X11_step N x1 x2 x3 τ = some (r, τ1) ∧ Inv (n + 1) σ1 τ1
set_option maxHeartbeats 4000000 in
set_option maxRecDepth 100000 in
theorem law_case_9 {p : Program} {l : Launch} {e : Env} {s : State} {m : MethodId} {below : List Frame} {meth : Method} {c : Code} {D : va_G} {cy : Nat → ClassId} {a b kt vt : Nat → Nat} {bb L : Nat} {xs : Nat → Int32} {N k : Nat} {x3 : Int32} {Inv : Nat → nS → nS → Prop} (hL : L ≤ 4096) (C0 : lw_At p s m meth c bb L xs) (hC : lwC s D cy a b kt vt) (hk : 8 * k + 8 ≤ L) (ex3 : x3 = nI (8 * k)) (hop : nOp9 N Inv) (K : lwA p l e s m below meth c D cy a b bb x3 (Inv (k + 1)) 1059) : lwA p l e s m below meth c D cy a b bb x3 (Inv k) 381 := by
  obtain ⟨hx, hb, hr, hml, hown, htl, hX, hbl, hlocks, hgv⟩ := C0
  have hb : c.code = cL_law := hb
  obtain ⟨hE1, hE2, h01, h02, hdis⟩ := hC
  have hA0 : ∀ q : Nat, q < s.heap.size → ¬ (fun q : Nat => s.heap.size ≤ q) q := fun q h => Nat.not_le.mpr h
  have hbA : ¬ (fun q : Nat => s.heap.size ≤ q) bb := Nat.not_le.mpr hbl
  intro σ τ H locs ls hI hP1 hP2 hS hl
  obtain ⟨r, σ1, τ1, hf, hg, hI1⟩ := hop k σ τ (xs (8 * k + 1)) (xs (8 * k + 2)) (xs (8 * k + 3)) (by omega) hI
  refine lv_aload_n hx hb dL_law_381 rfl (lv_at hl 1 rfl) ?_
  refine lv_aload_n hx hb dL_law_382 rfl (lv_at hl 0 rfl) ?_
  refine lv_iload_n hx hb dL_law_383 rfl (lv_at hl 3 rfl) ?_
  refine lv_iconst (v := 1) hx hb dL_law_384 (by decide) ?_
  refine lv_iadd hx hb dL_law_385 ?_
  refine lw_sld hx hb hX hbl hbA hS (k := 8 * k + 1) (lw_ix ex3 1) (by omega) (by omega) dL_law_386 ?_
  refine lv_aload_n hx hb dL_law_387 rfl (lv_at hl 0 rfl) ?_
  refine lv_iload_n hx hb dL_law_388 rfl (lv_at hl 3 rfl) ?_
  refine lv_iconst (v := 2) hx hb dL_law_389 (by decide) ?_
  refine lv_iadd hx hb dL_law_390 ?_
  refine lw_sld hx hb hX hbl hbA hS (k := 8 * k + 2) (lw_ix ex3 2) (by omega) (by omega) dL_law_391 ?_
  refine lv_aload_n hx hb dL_law_392 rfl (lv_at hl 0 rfl) ?_
  refine lv_iload_n hx hb dL_law_393 rfl (lv_at hl 3 rfl) ?_
  refine lv_iconst (v := 3) hx hb dL_law_394 (by decide) ?_
  refine lv_iadd hx hb dL_law_395 ?_
  refine lw_sld hx hb hX hbl hbA hS (k := 8 * k + 3) (lw_ix ex3 3) (by omega) (by omega) dL_law_396 ?_
  refine lw_call (As := [.int (xs (8 * k + 1)), .int (xs (8 * k + 2)), .int (xs (8 * k + 3))]) (rest := []) ⟨hx, hb, hml, hown, htl⟩ (c_X8_step (D := D) (A := nA1 a 36) (cy := cy) (a := a) (kt := kt) (vt := vt) (l := l) hf) (cwV 3 htl gW_X8_step rfl rfl rfl (by decide +kernel) ⟨Nat.le_of_ble_eq_true rfl, Nat.le_of_ble_eq_true rfl⟩) hE1 hP1 hS h01 hA0 ⟨Nat.le_of_ble_eq_true rfl, Nat.le_of_ble_eq_true rfl⟩ nbo_0 rfl rfl hl.1 rfl (Nat.le_of_ble_eq_true rfl) dL_law_397 (fun H2 locs2 hP1 hk1 hS => ?_)
  have hP2 := lw_keep hP2 hk1 (fun k q h z => hdis q.1 z ⟨k, nw_M h⟩)
  refine lv_aload_n hx hb dL_law_400 rfl (lv_at hl 2 rfl) ?_
  refine lv_aload_n hx hb dL_law_401 rfl (lv_at hl 0 rfl) ?_
  refine lv_iload_n hx hb dL_law_402 rfl (lv_at hl 3 rfl) ?_
  refine lv_iconst (v := 1) hx hb dL_law_403 (by decide) ?_
  refine lv_iadd hx hb dL_law_404 ?_
  refine lw_sld hx hb hX hbl hbA hS (k := 8 * k + 1) (lw_ix ex3 1) (by omega) (by omega) dL_law_405 ?_
  refine lv_aload_n hx hb dL_law_406 rfl (lv_at hl 0 rfl) ?_
  refine lv_iload_n hx hb dL_law_407 rfl (lv_at hl 3 rfl) ?_
  refine lv_iconst (v := 2) hx hb dL_law_408 (by decide) ?_
  refine lv_iadd hx hb dL_law_409 ?_
  refine lw_sld hx hb hX hbl hbA hS (k := 8 * k + 2) (lw_ix ex3 2) (by omega) (by omega) dL_law_410 ?_
  refine lv_aload_n hx hb dL_law_411 rfl (lv_at hl 0 rfl) ?_
  refine lv_iload_n hx hb dL_law_412 rfl (lv_at hl 3 rfl) ?_
  refine lv_iconst (v := 3) hx hb dL_law_413 (by decide) ?_
  refine lv_iadd hx hb dL_law_414 ?_
  refine lw_sld hx hb hX hbl hbA hS (k := 8 * k + 3) (lw_ix ex3 3) (by omega) (by omega) dL_law_415 ?_
  refine lw_call (As := [.int (xs (8 * k + 1)), .int (xs (8 * k + 2)), .int (xs (8 * k + 3))]) (rest := [.int r]) ⟨hx, hb, hml, hown, htl⟩ (c_X11_step (D := D) (A := nA1 b 29) (cy := cy) (a := b) (kt := kt) (vt := vt) (l := l) hg) (cwV 3 htl gW_X11_step rfl rfl rfl (by decide +kernel) ⟨Nat.le_of_ble_eq_true rfl, Nat.le_of_ble_eq_true rfl⟩) hE2 hP2 hS h02 hA0 ⟨Nat.le_of_ble_eq_true rfl, Nat.le_of_ble_eq_true rfl⟩ mbo_0 rfl rfl hl.1 rfl (Nat.le_of_ble_eq_true rfl) dL_law_416 (fun H2 locs2 hP2 hk1 hS => ?_)
  have hP1 := lw_keep hP1 hk1 (fun k q h z => hdis q.1 ⟨k, nw_NB h⟩ z)
  refine lv_icmp_eq (tgt := 1059) hx hb dL_law_419 (by decide) (fun hc => ?_) (fun hc => absurd rfl hc)
  exact K σ1 τ1 _ _ ls hI1 hP1 hP2 hS hl
/-- op 10 -/
def nOp10 (N : Nat) (Inv : Nat → nS → nS → Prop) : Prop := ∀ (n : Nat) (σ τ : nS) (x1 x2 x3 x4 : Int32), n < 512 → Inv n σ τ → ∃ (r : Int32) (σ1 τ1 : nS), f_X8_play N x1 x2 x3 x4 σ = some (r, σ1) ∧ f_X11_play N x1 x2 x3 x4 τ = some (r, τ1) ∧ Inv (n + 1) σ1 τ1
set_option maxHeartbeats 4000000 in
set_option maxRecDepth 100000 in
theorem law_case_10 {p : Program} {l : Launch} {e : Env} {s : State} {m : MethodId} {below : List Frame} {meth : Method} {c : Code} {D : va_G} {cy : Nat → ClassId} {a b kt vt : Nat → Nat} {bb L : Nat} {xs : Nat → Int32} {N k : Nat} {x3 : Int32} {Inv : Nat → nS → nS → Prop} (hL : L ≤ 4096) (C0 : lw_At p s m meth c bb L xs) (hC : lwC s D cy a b kt vt) (hk : 8 * k + 8 ≤ L) (ex3 : x3 = nI (8 * k)) (hop : nOp10 N Inv) (K : lwA p l e s m below meth c D cy a b bb x3 (Inv (k + 1)) 1059) : lwA p l e s m below meth c D cy a b bb x3 (Inv k) 424 := by
  obtain ⟨hx, hb, hr, hml, hown, htl, hX, hbl, hlocks, hgv⟩ := C0
  have hb : c.code = cL_law := hb
  obtain ⟨hE1, hE2, h01, h02, hdis⟩ := hC
  have hA0 : ∀ q : Nat, q < s.heap.size → ¬ (fun q : Nat => s.heap.size ≤ q) q := fun q h => Nat.not_le.mpr h
  have hbA : ¬ (fun q : Nat => s.heap.size ≤ q) bb := Nat.not_le.mpr hbl
  intro σ τ H locs ls hI hP1 hP2 hS hl
  obtain ⟨r, σ1, τ1, hf, hg, hI1⟩ := hop k σ τ (xs (8 * k + 1)) (xs (8 * k + 2)) (xs (8 * k + 3)) (xs (8 * k + 4)) (by omega) hI
  refine lv_aload_n hx hb dL_law_424 rfl (lv_at hl 1 rfl) ?_
  refine lv_aload_n hx hb dL_law_425 rfl (lv_at hl 0 rfl) ?_
  refine lv_iload_n hx hb dL_law_426 rfl (lv_at hl 3 rfl) ?_
  refine lv_iconst (v := 1) hx hb dL_law_427 (by decide) ?_
  refine lv_iadd hx hb dL_law_428 ?_
  refine lw_sld hx hb hX hbl hbA hS (k := 8 * k + 1) (lw_ix ex3 1) (by omega) (by omega) dL_law_429 ?_
  refine lv_aload_n hx hb dL_law_430 rfl (lv_at hl 0 rfl) ?_
  refine lv_iload_n hx hb dL_law_431 rfl (lv_at hl 3 rfl) ?_
  refine lv_iconst (v := 2) hx hb dL_law_432 (by decide) ?_
  refine lv_iadd hx hb dL_law_433 ?_
  refine lw_sld hx hb hX hbl hbA hS (k := 8 * k + 2) (lw_ix ex3 2) (by omega) (by omega) dL_law_434 ?_
  refine lv_aload_n hx hb dL_law_435 rfl (lv_at hl 0 rfl) ?_
  refine lv_iload_n hx hb dL_law_436 rfl (lv_at hl 3 rfl) ?_
  refine lv_iconst (v := 3) hx hb dL_law_437 (by decide) ?_
  refine lv_iadd hx hb dL_law_438 ?_
  refine lw_sld hx hb hX hbl hbA hS (k := 8 * k + 3) (lw_ix ex3 3) (by omega) (by omega) dL_law_439 ?_
  refine lv_aload_n hx hb dL_law_440 rfl (lv_at hl 0 rfl) ?_
  refine lv_iload_n hx hb dL_law_441 rfl (lv_at hl 3 rfl) ?_
  refine lv_iconst (v := 4) hx hb dL_law_442 (by decide) ?_
  refine lv_iadd hx hb dL_law_443 ?_
  refine lw_sld hx hb hX hbl hbA hS (k := 8 * k + 4) (lw_ix ex3 4) (by omega) (by omega) dL_law_444 ?_
  refine lw_call (As := [.int (xs (8 * k + 1)), .int (xs (8 * k + 2)), .int (xs (8 * k + 3)), .int (xs (8 * k + 4))]) (rest := []) ⟨hx, hb, hml, hown, htl⟩ (c_X8_play (D := D) (A := nA1 a 36) (cy := cy) (a := a) (kt := kt) (vt := vt) (l := l) hf) (cwV 4 htl gW_X8_play rfl rfl rfl (by decide +kernel) ⟨Nat.le_of_ble_eq_true rfl, Nat.le_of_ble_eq_true rfl⟩) hE1 hP1 hS h01 hA0 ⟨Nat.le_of_ble_eq_true rfl, Nat.le_of_ble_eq_true rfl⟩ nbo_0 rfl rfl hl.1 rfl (Nat.le_of_ble_eq_true rfl) dL_law_445 (fun H2 locs2 hP1 hk1 hS => ?_)
  have hP2 := lw_keep hP2 hk1 (fun k q h z => hdis q.1 z ⟨k, nw_M h⟩)
  refine lv_aload_n hx hb dL_law_448 rfl (lv_at hl 2 rfl) ?_
  refine lv_aload_n hx hb dL_law_449 rfl (lv_at hl 0 rfl) ?_
  refine lv_iload_n hx hb dL_law_450 rfl (lv_at hl 3 rfl) ?_
  refine lv_iconst (v := 1) hx hb dL_law_451 (by decide) ?_
  refine lv_iadd hx hb dL_law_452 ?_
  refine lw_sld hx hb hX hbl hbA hS (k := 8 * k + 1) (lw_ix ex3 1) (by omega) (by omega) dL_law_453 ?_
  refine lv_aload_n hx hb dL_law_454 rfl (lv_at hl 0 rfl) ?_
  refine lv_iload_n hx hb dL_law_455 rfl (lv_at hl 3 rfl) ?_
  refine lv_iconst (v := 2) hx hb dL_law_456 (by decide) ?_
  refine lv_iadd hx hb dL_law_457 ?_
  refine lw_sld hx hb hX hbl hbA hS (k := 8 * k + 2) (lw_ix ex3 2) (by omega) (by omega) dL_law_458 ?_
  refine lv_aload_n hx hb dL_law_459 rfl (lv_at hl 0 rfl) ?_
  refine lv_iload_n hx hb dL_law_460 rfl (lv_at hl 3 rfl) ?_
  refine lv_iconst (v := 3) hx hb dL_law_461 (by decide) ?_
  refine lv_iadd hx hb dL_law_462 ?_
  refine lw_sld hx hb hX hbl hbA hS (k := 8 * k + 3) (lw_ix ex3 3) (by omega) (by omega) dL_law_463 ?_
  refine lv_aload_n hx hb dL_law_464 rfl (lv_at hl 0 rfl) ?_
  refine lv_iload_n hx hb dL_law_465 rfl (lv_at hl 3 rfl) ?_
  refine lv_iconst (v := 4) hx hb dL_law_466 (by decide) ?_
  refine lv_iadd hx hb dL_law_467 ?_
  refine lw_sld hx hb hX hbl hbA hS (k := 8 * k + 4) (lw_ix ex3 4) (by omega) (by omega) dL_law_468 ?_
  refine lw_call (As := [.int (xs (8 * k + 1)), .int (xs (8 * k + 2)), .int (xs (8 * k + 3)), .int (xs (8 * k + 4))]) (rest := [.int r]) ⟨hx, hb, hml, hown, htl⟩ (c_X11_play (D := D) (A := nA1 b 29) (cy := cy) (a := b) (kt := kt) (vt := vt) (l := l) hg) (cwV 4 htl gW_X11_play rfl rfl rfl (by decide +kernel) ⟨Nat.le_of_ble_eq_true rfl, Nat.le_of_ble_eq_true rfl⟩) hE2 hP2 hS h02 hA0 ⟨Nat.le_of_ble_eq_true rfl, Nat.le_of_ble_eq_true rfl⟩ mbo_0 rfl rfl hl.1 rfl (Nat.le_of_ble_eq_true rfl) dL_law_469 (fun H2 locs2 hP2 hk1 hS => ?_)
  have hP1 := lw_keep hP1 hk1 (fun k q h z => hdis q.1 ⟨k, nw_NB h⟩ z)
  refine lv_icmp_eq (tgt := 1059) hx hb dL_law_472 (by decide) (fun hc => ?_) (fun hc => absurd rfl hc)
  exact K σ1 τ1 _ _ ls hI1 hP1 hP2 hS hl
/-- op 11 -/
def nOp11 (N : Nat) (Inv : Nat → nS → nS → Prop) : Prop := ∀ (n : Nat) (σ τ : nS) (x1 : Int32), n < 512 → Inv n σ τ → ∃ (r : Int32) (σ1 τ1 : nS), f_X8_played N x1 σ = some (r, σ1) ∧ f_X11_played N x1 τ = some (r, τ1) ∧ Inv (n + 1) σ1 τ1
set_option maxHeartbeats 4000000 in
set_option maxRecDepth 100000 in
theorem law_case_11 {p : Program} {l : Launch} {e : Env} {s : State} {m : MethodId} {below : List Frame} {meth : Method} {c : Code} {D : va_G} {cy : Nat → ClassId} {a b kt vt : Nat → Nat} {bb L : Nat} {xs : Nat → Int32} {N k : Nat} {x3 : Int32} {Inv : Nat → nS → nS → Prop} (hL : L ≤ 4096) (C0 : lw_At p s m meth c bb L xs) (hC : lwC s D cy a b kt vt) (hk : 8 * k + 8 ≤ L) (ex3 : x3 = nI (8 * k)) (hop : nOp11 N Inv) (K : lwA p l e s m below meth c D cy a b bb x3 (Inv (k + 1)) 1059) : lwA p l e s m below meth c D cy a b bb x3 (Inv k) 477 := by
  obtain ⟨hx, hb, hr, hml, hown, htl, hX, hbl, hlocks, hgv⟩ := C0
  have hb : c.code = cL_law := hb
  obtain ⟨hE1, hE2, h01, h02, hdis⟩ := hC
  have hA0 : ∀ q : Nat, q < s.heap.size → ¬ (fun q : Nat => s.heap.size ≤ q) q := fun q h => Nat.not_le.mpr h
  have hbA : ¬ (fun q : Nat => s.heap.size ≤ q) bb := Nat.not_le.mpr hbl
  intro σ τ H locs ls hI hP1 hP2 hS hl
  obtain ⟨r, σ1, τ1, hf, hg, hI1⟩ := hop k σ τ (xs (8 * k + 1)) (by omega) hI
  refine lv_aload_n hx hb dL_law_477 rfl (lv_at hl 1 rfl) ?_
  refine lv_aload_n hx hb dL_law_478 rfl (lv_at hl 0 rfl) ?_
  refine lv_iload_n hx hb dL_law_479 rfl (lv_at hl 3 rfl) ?_
  refine lv_iconst (v := 1) hx hb dL_law_480 (by decide) ?_
  refine lv_iadd hx hb dL_law_481 ?_
  refine lw_sld hx hb hX hbl hbA hS (k := 8 * k + 1) (lw_ix ex3 1) (by omega) (by omega) dL_law_482 ?_
  refine lw_call (As := [.int (xs (8 * k + 1))]) (rest := []) ⟨hx, hb, hml, hown, htl⟩ (c_X8_played (D := D) (A := nA1 a 36) (cy := cy) (a := a) (kt := kt) (vt := vt) (l := l) hf) (cwV 1 htl gW_X8_played rfl rfl rfl (by decide +kernel) ⟨Nat.le_of_ble_eq_true rfl, Nat.le_of_ble_eq_true rfl⟩) hE1 hP1 hS h01 hA0 ⟨Nat.le_of_ble_eq_true rfl, Nat.le_of_ble_eq_true rfl⟩ nbo_0 rfl rfl hl.1 rfl (Nat.le_of_ble_eq_true rfl) dL_law_483 (fun H2 locs2 hP1 hk1 hS => ?_)
  have hP2 := lw_keep hP2 hk1 (fun k q h z => hdis q.1 z ⟨k, nw_M h⟩)
  refine lv_aload_n hx hb dL_law_486 rfl (lv_at hl 2 rfl) ?_
  refine lv_aload_n hx hb dL_law_487 rfl (lv_at hl 0 rfl) ?_
  refine lv_iload_n hx hb dL_law_488 rfl (lv_at hl 3 rfl) ?_
  refine lv_iconst (v := 1) hx hb dL_law_489 (by decide) ?_
  refine lv_iadd hx hb dL_law_490 ?_
  refine lw_sld hx hb hX hbl hbA hS (k := 8 * k + 1) (lw_ix ex3 1) (by omega) (by omega) dL_law_491 ?_
  refine lw_call (As := [.int (xs (8 * k + 1))]) (rest := [.int r]) ⟨hx, hb, hml, hown, htl⟩ (c_X11_played (D := D) (A := nA1 b 29) (cy := cy) (a := b) (kt := kt) (vt := vt) (l := l) hg) (cwV 1 htl gW_X11_played rfl rfl rfl (by decide +kernel) ⟨Nat.le_of_ble_eq_true rfl, Nat.le_of_ble_eq_true rfl⟩) hE2 hP2 hS h02 hA0 ⟨Nat.le_of_ble_eq_true rfl, Nat.le_of_ble_eq_true rfl⟩ mbo_0 rfl rfl hl.1 rfl (Nat.le_of_ble_eq_true rfl) dL_law_492 (fun H2 locs2 hP2 hk1 hS => ?_)
  have hP1 := lw_keep hP1 hk1 (fun k q h z => hdis q.1 ⟨k, nw_NB h⟩ z)
  refine lv_icmp_eq (tgt := 1059) hx hb dL_law_495 (by decide) (fun hc => ?_) (fun hc => absurd rfl hc)
  exact K σ1 τ1 _ _ ls hI1 hP1 hP2 hS hl
/-- op 12 -/
def nOp12 (N : Nat) (Inv : Nat → nS → nS → Prop) : Prop := ∀ (n : Nat) (σ τ : nS) (x1 : Int32), n < 512 → Inv n σ τ → ∃ (r : Int32) (σ1 τ1 : nS), f_X8_path N x1 σ = some (r, σ1) ∧ f_X11_path N x1 τ = some (r, τ1) ∧ Inv (n + 1) σ1 τ1
set_option maxHeartbeats 4000000 in
set_option maxRecDepth 100000 in
theorem law_case_12 {p : Program} {l : Launch} {e : Env} {s : State} {m : MethodId} {below : List Frame} {meth : Method} {c : Code} {D : va_G} {cy : Nat → ClassId} {a b kt vt : Nat → Nat} {bb L : Nat} {xs : Nat → Int32} {N k : Nat} {x3 : Int32} {Inv : Nat → nS → nS → Prop} (hL : L ≤ 4096) (C0 : lw_At p s m meth c bb L xs) (hC : lwC s D cy a b kt vt) (hk : 8 * k + 8 ≤ L) (ex3 : x3 = nI (8 * k)) (hop : nOp12 N Inv) (K : lwA p l e s m below meth c D cy a b bb x3 (Inv (k + 1)) 1059) : lwA p l e s m below meth c D cy a b bb x3 (Inv k) 500 := by
  obtain ⟨hx, hb, hr, hml, hown, htl, hX, hbl, hlocks, hgv⟩ := C0
  have hb : c.code = cL_law := hb
  obtain ⟨hE1, hE2, h01, h02, hdis⟩ := hC
  have hA0 : ∀ q : Nat, q < s.heap.size → ¬ (fun q : Nat => s.heap.size ≤ q) q := fun q h => Nat.not_le.mpr h
  have hbA : ¬ (fun q : Nat => s.heap.size ≤ q) bb := Nat.not_le.mpr hbl
  intro σ τ H locs ls hI hP1 hP2 hS hl
  obtain ⟨r, σ1, τ1, hf, hg, hI1⟩ := hop k σ τ (xs (8 * k + 1)) (by omega) hI
  refine lv_aload_n hx hb dL_law_500 rfl (lv_at hl 1 rfl) ?_
  refine lv_aload_n hx hb dL_law_501 rfl (lv_at hl 0 rfl) ?_
  refine lv_iload_n hx hb dL_law_502 rfl (lv_at hl 3 rfl) ?_
  refine lv_iconst (v := 1) hx hb dL_law_503 (by decide) ?_
  refine lv_iadd hx hb dL_law_504 ?_
  refine lw_sld hx hb hX hbl hbA hS (k := 8 * k + 1) (lw_ix ex3 1) (by omega) (by omega) dL_law_505 ?_
  refine lw_call (As := [.int (xs (8 * k + 1))]) (rest := []) ⟨hx, hb, hml, hown, htl⟩ (c_X8_path (D := D) (A := nA1 a 36) (cy := cy) (a := a) (kt := kt) (vt := vt) (l := l) hf) (cwV 1 htl gW_X8_path rfl rfl rfl (by decide +kernel) ⟨Nat.le_of_ble_eq_true rfl, Nat.le_of_ble_eq_true rfl⟩) hE1 hP1 hS h01 hA0 ⟨Nat.le_of_ble_eq_true rfl, Nat.le_of_ble_eq_true rfl⟩ nbo_0 rfl rfl hl.1 rfl (Nat.le_of_ble_eq_true rfl) dL_law_506 (fun H2 locs2 hP1 hk1 hS => ?_)
  have hP2 := lw_keep hP2 hk1 (fun k q h z => hdis q.1 z ⟨k, nw_M h⟩)
  refine lv_aload_n hx hb dL_law_509 rfl (lv_at hl 2 rfl) ?_
  refine lv_aload_n hx hb dL_law_510 rfl (lv_at hl 0 rfl) ?_
  refine lv_iload_n hx hb dL_law_511 rfl (lv_at hl 3 rfl) ?_
  refine lv_iconst (v := 1) hx hb dL_law_512 (by decide) ?_
  refine lv_iadd hx hb dL_law_513 ?_
  refine lw_sld hx hb hX hbl hbA hS (k := 8 * k + 1) (lw_ix ex3 1) (by omega) (by omega) dL_law_514 ?_
  refine lw_call (As := [.int (xs (8 * k + 1))]) (rest := [.int r]) ⟨hx, hb, hml, hown, htl⟩ (c_X11_path (D := D) (A := nA1 b 29) (cy := cy) (a := b) (kt := kt) (vt := vt) (l := l) hg) (cwV 1 htl gW_X11_path rfl rfl rfl (by decide +kernel) ⟨Nat.le_of_ble_eq_true rfl, Nat.le_of_ble_eq_true rfl⟩) hE2 hP2 hS h02 hA0 ⟨Nat.le_of_ble_eq_true rfl, Nat.le_of_ble_eq_true rfl⟩ mbo_0 rfl rfl hl.1 rfl (Nat.le_of_ble_eq_true rfl) dL_law_515 (fun H2 locs2 hP2 hk1 hS => ?_)
  have hP1 := lw_keep hP1 hk1 (fun k q h z => hdis q.1 ⟨k, nw_NB h⟩ z)
  refine lv_icmp_eq (tgt := 1059) hx hb dL_law_518 (by decide) (fun hc => ?_) (fun hc => absurd rfl hc)
  exact K σ1 τ1 _ _ ls hI1 hP1 hP2 hS hl
/-- op 13 -/
def nOp13 (N : Nat) (Inv : Nat → nS → nS → Prop) : Prop := ∀ (n : Nat) (σ τ : nS) (x1 x2 x3 x4 x5 : Int32), n < 512 → Inv n σ τ → ∃ (r : Int32) (σ1 τ1 : nS), f_X8_all N x1 x2 x3 x4 x5 σ = some (r, σ1) ∧ f_X11_all N x1 x2 x3 x4 x5 τ = some (r, τ1) ∧ Inv (n + 1) σ1 τ1
set_option maxHeartbeats 4000000 in
set_option maxRecDepth 100000 in
theorem law_case_13 {p : Program} {l : Launch} {e : Env} {s : State} {m : MethodId} {below : List Frame} {meth : Method} {c : Code} {D : va_G} {cy : Nat → ClassId} {a b kt vt : Nat → Nat} {bb L : Nat} {xs : Nat → Int32} {N k : Nat} {x3 : Int32} {Inv : Nat → nS → nS → Prop} (hL : L ≤ 4096) (C0 : lw_At p s m meth c bb L xs) (hC : lwC s D cy a b kt vt) (hk : 8 * k + 8 ≤ L) (ex3 : x3 = nI (8 * k)) (hop : nOp13 N Inv) (K : lwA p l e s m below meth c D cy a b bb x3 (Inv (k + 1)) 1059) : lwA p l e s m below meth c D cy a b bb x3 (Inv k) 523 := by
  obtain ⟨hx, hb, hr, hml, hown, htl, hX, hbl, hlocks, hgv⟩ := C0
  have hb : c.code = cL_law := hb
  obtain ⟨hE1, hE2, h01, h02, hdis⟩ := hC
  have hA0 : ∀ q : Nat, q < s.heap.size → ¬ (fun q : Nat => s.heap.size ≤ q) q := fun q h => Nat.not_le.mpr h
  have hbA : ¬ (fun q : Nat => s.heap.size ≤ q) bb := Nat.not_le.mpr hbl
  intro σ τ H locs ls hI hP1 hP2 hS hl
  obtain ⟨r, σ1, τ1, hf, hg, hI1⟩ := hop k σ τ (xs (8 * k + 1)) (xs (8 * k + 2)) (xs (8 * k + 3)) (xs (8 * k + 4)) (xs (8 * k + 5)) (by omega) hI
  refine lv_aload_n hx hb dL_law_523 rfl (lv_at hl 1 rfl) ?_
  refine lv_aload_n hx hb dL_law_524 rfl (lv_at hl 0 rfl) ?_
  refine lv_iload_n hx hb dL_law_525 rfl (lv_at hl 3 rfl) ?_
  refine lv_iconst (v := 1) hx hb dL_law_526 (by decide) ?_
  refine lv_iadd hx hb dL_law_527 ?_
  refine lw_sld hx hb hX hbl hbA hS (k := 8 * k + 1) (lw_ix ex3 1) (by omega) (by omega) dL_law_528 ?_
  refine lv_aload_n hx hb dL_law_529 rfl (lv_at hl 0 rfl) ?_
  refine lv_iload_n hx hb dL_law_530 rfl (lv_at hl 3 rfl) ?_
  refine lv_iconst (v := 2) hx hb dL_law_531 (by decide) ?_
  refine lv_iadd hx hb dL_law_532 ?_
  refine lw_sld hx hb hX hbl hbA hS (k := 8 * k + 2) (lw_ix ex3 2) (by omega) (by omega) dL_law_533 ?_
  refine lv_aload_n hx hb dL_law_534 rfl (lv_at hl 0 rfl) ?_
  refine lv_iload_n hx hb dL_law_535 rfl (lv_at hl 3 rfl) ?_
  refine lv_iconst (v := 3) hx hb dL_law_536 (by decide) ?_
  refine lv_iadd hx hb dL_law_537 ?_
  refine lw_sld hx hb hX hbl hbA hS (k := 8 * k + 3) (lw_ix ex3 3) (by omega) (by omega) dL_law_538 ?_
  refine lv_aload_n hx hb dL_law_539 rfl (lv_at hl 0 rfl) ?_
  refine lv_iload_n hx hb dL_law_540 rfl (lv_at hl 3 rfl) ?_
  refine lv_iconst (v := 4) hx hb dL_law_541 (by decide) ?_
  refine lv_iadd hx hb dL_law_542 ?_
  refine lw_sld hx hb hX hbl hbA hS (k := 8 * k + 4) (lw_ix ex3 4) (by omega) (by omega) dL_law_543 ?_
  refine lv_aload_n hx hb dL_law_544 rfl (lv_at hl 0 rfl) ?_
  refine lv_iload_n hx hb dL_law_545 rfl (lv_at hl 3 rfl) ?_
  refine lv_iconst (v := 5) hx hb dL_law_546 (by decide) ?_
  refine lv_iadd hx hb dL_law_547 ?_
  refine lw_sld hx hb hX hbl hbA hS (k := 8 * k + 5) (lw_ix ex3 5) (by omega) (by omega) dL_law_548 ?_
  refine lw_call (As := [.int (xs (8 * k + 1)), .int (xs (8 * k + 2)), .int (xs (8 * k + 3)), .int (xs (8 * k + 4)), .int (xs (8 * k + 5))]) (rest := []) ⟨hx, hb, hml, hown, htl⟩ (c_X8_all (D := D) (A := nA1 a 36) (cy := cy) (a := a) (kt := kt) (vt := vt) (l := l) hf) (cwV 5 htl gW_X8_all rfl rfl rfl (by decide +kernel) ⟨Nat.le_of_ble_eq_true rfl, Nat.le_of_ble_eq_true rfl⟩) hE1 hP1 hS h01 hA0 ⟨Nat.le_of_ble_eq_true rfl, Nat.le_of_ble_eq_true rfl⟩ nbo_0 rfl rfl hl.1 rfl (Nat.le_of_ble_eq_true rfl) dL_law_549 (fun H2 locs2 hP1 hk1 hS => ?_)
  have hP2 := lw_keep hP2 hk1 (fun k q h z => hdis q.1 z ⟨k, nw_M h⟩)
  refine lv_aload_n hx hb dL_law_552 rfl (lv_at hl 2 rfl) ?_
  refine lv_aload_n hx hb dL_law_553 rfl (lv_at hl 0 rfl) ?_
  refine lv_iload_n hx hb dL_law_554 rfl (lv_at hl 3 rfl) ?_
  refine lv_iconst (v := 1) hx hb dL_law_555 (by decide) ?_
  refine lv_iadd hx hb dL_law_556 ?_
  refine lw_sld hx hb hX hbl hbA hS (k := 8 * k + 1) (lw_ix ex3 1) (by omega) (by omega) dL_law_557 ?_
  refine lv_aload_n hx hb dL_law_558 rfl (lv_at hl 0 rfl) ?_
  refine lv_iload_n hx hb dL_law_559 rfl (lv_at hl 3 rfl) ?_
  refine lv_iconst (v := 2) hx hb dL_law_560 (by decide) ?_
  refine lv_iadd hx hb dL_law_561 ?_
  refine lw_sld hx hb hX hbl hbA hS (k := 8 * k + 2) (lw_ix ex3 2) (by omega) (by omega) dL_law_562 ?_
  refine lv_aload_n hx hb dL_law_563 rfl (lv_at hl 0 rfl) ?_
  refine lv_iload_n hx hb dL_law_564 rfl (lv_at hl 3 rfl) ?_
  refine lv_iconst (v := 3) hx hb dL_law_565 (by decide) ?_
  refine lv_iadd hx hb dL_law_566 ?_
  refine lw_sld hx hb hX hbl hbA hS (k := 8 * k + 3) (lw_ix ex3 3) (by omega) (by omega) dL_law_567 ?_
  refine lv_aload_n hx hb dL_law_568 rfl (lv_at hl 0 rfl) ?_
  refine lv_iload_n hx hb dL_law_569 rfl (lv_at hl 3 rfl) ?_
  refine lv_iconst (v := 4) hx hb dL_law_570 (by decide) ?_
  refine lv_iadd hx hb dL_law_571 ?_
  refine lw_sld hx hb hX hbl hbA hS (k := 8 * k + 4) (lw_ix ex3 4) (by omega) (by omega) dL_law_572 ?_
  refine lv_aload_n hx hb dL_law_573 rfl (lv_at hl 0 rfl) ?_
  refine lv_iload_n hx hb dL_law_574 rfl (lv_at hl 3 rfl) ?_
  refine lv_iconst (v := 5) hx hb dL_law_575 (by decide) ?_
  refine lv_iadd hx hb dL_law_576 ?_
  refine lw_sld hx hb hX hbl hbA hS (k := 8 * k + 5) (lw_ix ex3 5) (by omega) (by omega) dL_law_577 ?_
  refine lw_call (As := [.int (xs (8 * k + 1)), .int (xs (8 * k + 2)), .int (xs (8 * k + 3)), .int (xs (8 * k + 4)), .int (xs (8 * k + 5))]) (rest := [.int r]) ⟨hx, hb, hml, hown, htl⟩ (c_X11_all (D := D) (A := nA1 b 29) (cy := cy) (a := b) (kt := kt) (vt := vt) (l := l) hg) (cwV 5 htl gW_X11_all rfl rfl rfl (by decide +kernel) ⟨Nat.le_of_ble_eq_true rfl, Nat.le_of_ble_eq_true rfl⟩) hE2 hP2 hS h02 hA0 ⟨Nat.le_of_ble_eq_true rfl, Nat.le_of_ble_eq_true rfl⟩ mbo_0 rfl rfl hl.1 rfl (Nat.le_of_ble_eq_true rfl) dL_law_578 (fun H2 locs2 hP2 hk1 hS => ?_)
  have hP1 := lw_keep hP1 hk1 (fun k q h z => hdis q.1 ⟨k, nw_NB h⟩ z)
  refine lv_icmp_eq (tgt := 1059) hx hb dL_law_581 (by decide) (fun hc => ?_) (fun hc => absurd rfl hc)
  exact K σ1 τ1 _ _ ls hI1 hP1 hP2 hS hl
/-- op 14 -/
def nOp14 (N : Nat) (Inv : Nat → nS → nS → Prop) : Prop := ∀ (n : Nat) (σ τ : nS) (x1 : Int32), n < 512 → Inv n σ τ → ∃ (r : Int32) (σ1 τ1 : nS), f_X8_ended N x1 σ = some (r, σ1) ∧ f_X11_ended N x1 τ = some (r, τ1) ∧ Inv (n + 1) σ1 τ1
set_option maxHeartbeats 4000000 in
set_option maxRecDepth 100000 in
theorem law_case_14 {p : Program} {l : Launch} {e : Env} {s : State} {m : MethodId} {below : List Frame} {meth : Method} {c : Code} {D : va_G} {cy : Nat → ClassId} {a b kt vt : Nat → Nat} {bb L : Nat} {xs : Nat → Int32} {N k : Nat} {x3 : Int32} {Inv : Nat → nS → nS → Prop} (hL : L ≤ 4096) (C0 : lw_At p s m meth c bb L xs) (hC : lwC s D cy a b kt vt) (hk : 8 * k + 8 ≤ L) (ex3 : x3 = nI (8 * k)) (hop : nOp14 N Inv) (K : lwA p l e s m below meth c D cy a b bb x3 (Inv (k + 1)) 1059) : lwA p l e s m below meth c D cy a b bb x3 (Inv k) 586 := by
  obtain ⟨hx, hb, hr, hml, hown, htl, hX, hbl, hlocks, hgv⟩ := C0
  have hb : c.code = cL_law := hb
  obtain ⟨hE1, hE2, h01, h02, hdis⟩ := hC
  have hA0 : ∀ q : Nat, q < s.heap.size → ¬ (fun q : Nat => s.heap.size ≤ q) q := fun q h => Nat.not_le.mpr h
  have hbA : ¬ (fun q : Nat => s.heap.size ≤ q) bb := Nat.not_le.mpr hbl
  intro σ τ H locs ls hI hP1 hP2 hS hl
  obtain ⟨r, σ1, τ1, hf, hg, hI1⟩ := hop k σ τ (xs (8 * k + 1)) (by omega) hI
  refine lv_aload_n hx hb dL_law_586 rfl (lv_at hl 1 rfl) ?_
  refine lv_aload_n hx hb dL_law_587 rfl (lv_at hl 0 rfl) ?_
  refine lv_iload_n hx hb dL_law_588 rfl (lv_at hl 3 rfl) ?_
  refine lv_iconst (v := 1) hx hb dL_law_589 (by decide) ?_
  refine lv_iadd hx hb dL_law_590 ?_
  refine lw_sld hx hb hX hbl hbA hS (k := 8 * k + 1) (lw_ix ex3 1) (by omega) (by omega) dL_law_591 ?_
  refine lw_call (As := [.int (xs (8 * k + 1))]) (rest := []) ⟨hx, hb, hml, hown, htl⟩ (c_X8_ended (D := D) (A := nA1 a 36) (cy := cy) (a := a) (kt := kt) (vt := vt) (l := l) hf) (cwV 1 htl gW_X8_ended rfl rfl rfl (by decide +kernel) ⟨Nat.le_of_ble_eq_true rfl, Nat.le_of_ble_eq_true rfl⟩) hE1 hP1 hS h01 hA0 ⟨Nat.le_of_ble_eq_true rfl, Nat.le_of_ble_eq_true rfl⟩ nbo_0 rfl rfl hl.1 rfl (Nat.le_of_ble_eq_true rfl) dL_law_592 (fun H2 locs2 hP1 hk1 hS => ?_)
  have hP2 := lw_keep hP2 hk1 (fun k q h z => hdis q.1 z ⟨k, nw_M h⟩)
  refine lv_aload_n hx hb dL_law_595 rfl (lv_at hl 2 rfl) ?_
  refine lv_aload_n hx hb dL_law_596 rfl (lv_at hl 0 rfl) ?_
  refine lv_iload_n hx hb dL_law_597 rfl (lv_at hl 3 rfl) ?_
  refine lv_iconst (v := 1) hx hb dL_law_598 (by decide) ?_
  refine lv_iadd hx hb dL_law_599 ?_
  refine lw_sld hx hb hX hbl hbA hS (k := 8 * k + 1) (lw_ix ex3 1) (by omega) (by omega) dL_law_600 ?_
  refine lw_call (As := [.int (xs (8 * k + 1))]) (rest := [.int r]) ⟨hx, hb, hml, hown, htl⟩ (c_X11_ended (D := D) (A := nA1 b 29) (cy := cy) (a := b) (kt := kt) (vt := vt) (l := l) hg) (cwV 1 htl gW_X11_ended rfl rfl rfl (by decide +kernel) ⟨Nat.le_of_ble_eq_true rfl, Nat.le_of_ble_eq_true rfl⟩) hE2 hP2 hS h02 hA0 ⟨Nat.le_of_ble_eq_true rfl, Nat.le_of_ble_eq_true rfl⟩ mbo_0 rfl rfl hl.1 rfl (Nat.le_of_ble_eq_true rfl) dL_law_601 (fun H2 locs2 hP2 hk1 hS => ?_)
  have hP1 := lw_keep hP1 hk1 (fun k q h z => hdis q.1 ⟨k, nw_NB h⟩ z)
  refine lv_icmp_eq (tgt := 1059) hx hb dL_law_604 (by decide) (fun hc => ?_) (fun hc => absurd rfl hc)
  exact K σ1 τ1 _ _ ls hI1 hP1 hP2 hS hl
/-- op 15 -/
def nOp15 (N : Nat) (Inv : Nat → nS → nS → Prop) : Prop := ∀ (n : Nat) (σ τ : nS) (x1 : Int32), n < 512 → Inv n σ τ → ∃ (r : Int32) (σ1 τ1 : nS), f_X8_allOf N x1 σ = some (r, σ1) ∧ f_X11_allOf N x1 τ = some (r, τ1) ∧ Inv (n + 1) σ1 τ1
set_option maxHeartbeats 4000000 in
set_option maxRecDepth 100000 in
theorem law_case_15 {p : Program} {l : Launch} {e : Env} {s : State} {m : MethodId} {below : List Frame} {meth : Method} {c : Code} {D : va_G} {cy : Nat → ClassId} {a b kt vt : Nat → Nat} {bb L : Nat} {xs : Nat → Int32} {N k : Nat} {x3 : Int32} {Inv : Nat → nS → nS → Prop} (hL : L ≤ 4096) (C0 : lw_At p s m meth c bb L xs) (hC : lwC s D cy a b kt vt) (hk : 8 * k + 8 ≤ L) (ex3 : x3 = nI (8 * k)) (hop : nOp15 N Inv) (K : lwA p l e s m below meth c D cy a b bb x3 (Inv (k + 1)) 1059) : lwA p l e s m below meth c D cy a b bb x3 (Inv k) 609 := by
  obtain ⟨hx, hb, hr, hml, hown, htl, hX, hbl, hlocks, hgv⟩ := C0
  have hb : c.code = cL_law := hb
  obtain ⟨hE1, hE2, h01, h02, hdis⟩ := hC
  have hA0 : ∀ q : Nat, q < s.heap.size → ¬ (fun q : Nat => s.heap.size ≤ q) q := fun q h => Nat.not_le.mpr h
  have hbA : ¬ (fun q : Nat => s.heap.size ≤ q) bb := Nat.not_le.mpr hbl
  intro σ τ H locs ls hI hP1 hP2 hS hl
  obtain ⟨r, σ1, τ1, hf, hg, hI1⟩ := hop k σ τ (xs (8 * k + 1)) (by omega) hI
  refine lv_aload_n hx hb dL_law_609 rfl (lv_at hl 1 rfl) ?_
  refine lv_aload_n hx hb dL_law_610 rfl (lv_at hl 0 rfl) ?_
  refine lv_iload_n hx hb dL_law_611 rfl (lv_at hl 3 rfl) ?_
  refine lv_iconst (v := 1) hx hb dL_law_612 (by decide) ?_
  refine lv_iadd hx hb dL_law_613 ?_
  refine lw_sld hx hb hX hbl hbA hS (k := 8 * k + 1) (lw_ix ex3 1) (by omega) (by omega) dL_law_614 ?_
  refine lw_call (As := [.int (xs (8 * k + 1))]) (rest := []) ⟨hx, hb, hml, hown, htl⟩ (c_X8_allOf (D := D) (A := nA1 a 36) (cy := cy) (a := a) (kt := kt) (vt := vt) (l := l) hf) (cwV 1 htl gW_X8_allOf rfl rfl rfl (by decide +kernel) ⟨Nat.le_of_ble_eq_true rfl, Nat.le_of_ble_eq_true rfl⟩) hE1 hP1 hS h01 hA0 ⟨Nat.le_of_ble_eq_true rfl, Nat.le_of_ble_eq_true rfl⟩ nbo_0 rfl rfl hl.1 rfl (Nat.le_of_ble_eq_true rfl) dL_law_615 (fun H2 locs2 hP1 hk1 hS => ?_)
  have hP2 := lw_keep hP2 hk1 (fun k q h z => hdis q.1 z ⟨k, nw_M h⟩)
  refine lv_aload_n hx hb dL_law_618 rfl (lv_at hl 2 rfl) ?_
  refine lv_aload_n hx hb dL_law_619 rfl (lv_at hl 0 rfl) ?_
  refine lv_iload_n hx hb dL_law_620 rfl (lv_at hl 3 rfl) ?_
  refine lv_iconst (v := 1) hx hb dL_law_621 (by decide) ?_
  refine lv_iadd hx hb dL_law_622 ?_
  refine lw_sld hx hb hX hbl hbA hS (k := 8 * k + 1) (lw_ix ex3 1) (by omega) (by omega) dL_law_623 ?_
  refine lw_call (As := [.int (xs (8 * k + 1))]) (rest := [.int r]) ⟨hx, hb, hml, hown, htl⟩ (c_X11_allOf (D := D) (A := nA1 b 29) (cy := cy) (a := b) (kt := kt) (vt := vt) (l := l) hg) (cwV 1 htl gW_X11_allOf rfl rfl rfl (by decide +kernel) ⟨Nat.le_of_ble_eq_true rfl, Nat.le_of_ble_eq_true rfl⟩) hE2 hP2 hS h02 hA0 ⟨Nat.le_of_ble_eq_true rfl, Nat.le_of_ble_eq_true rfl⟩ mbo_0 rfl rfl hl.1 rfl (Nat.le_of_ble_eq_true rfl) dL_law_624 (fun H2 locs2 hP2 hk1 hS => ?_)
  have hP1 := lw_keep hP1 hk1 (fun k q h z => hdis q.1 ⟨k, nw_NB h⟩ z)
  refine lv_icmp_eq (tgt := 1059) hx hb dL_law_627 (by decide) (fun hc => ?_) (fun hc => absurd rfl hc)
  exact K σ1 τ1 _ _ ls hI1 hP1 hP2 hS hl
/-- op 16 -/
def nOp16 (N : Nat) (Inv : Nat → nS → nS → Prop) : Prop := ∀ (n : Nat) (σ τ : nS) (x1 : Int32), n < 512 → Inv n σ τ → ∃ (r : Int32) (σ1 τ1 : nS), f_X8_idle N x1 σ = some (r, σ1) ∧ f_X11_idle N x1 τ = some (r, τ1) ∧ Inv (n + 1) σ1 τ1
set_option maxHeartbeats 4000000 in
set_option maxRecDepth 100000 in
theorem law_case_16 {p : Program} {l : Launch} {e : Env} {s : State} {m : MethodId} {below : List Frame} {meth : Method} {c : Code} {D : va_G} {cy : Nat → ClassId} {a b kt vt : Nat → Nat} {bb L : Nat} {xs : Nat → Int32} {N k : Nat} {x3 : Int32} {Inv : Nat → nS → nS → Prop} (hL : L ≤ 4096) (C0 : lw_At p s m meth c bb L xs) (hC : lwC s D cy a b kt vt) (hk : 8 * k + 8 ≤ L) (ex3 : x3 = nI (8 * k)) (hop : nOp16 N Inv) (K : lwA p l e s m below meth c D cy a b bb x3 (Inv (k + 1)) 1059) : lwA p l e s m below meth c D cy a b bb x3 (Inv k) 632 := by
  obtain ⟨hx, hb, hr, hml, hown, htl, hX, hbl, hlocks, hgv⟩ := C0
  have hb : c.code = cL_law := hb
  obtain ⟨hE1, hE2, h01, h02, hdis⟩ := hC
  have hA0 : ∀ q : Nat, q < s.heap.size → ¬ (fun q : Nat => s.heap.size ≤ q) q := fun q h => Nat.not_le.mpr h
  have hbA : ¬ (fun q : Nat => s.heap.size ≤ q) bb := Nat.not_le.mpr hbl
  intro σ τ H locs ls hI hP1 hP2 hS hl
  obtain ⟨r, σ1, τ1, hf, hg, hI1⟩ := hop k σ τ (xs (8 * k + 1)) (by omega) hI
  refine lv_aload_n hx hb dL_law_632 rfl (lv_at hl 1 rfl) ?_
  refine lv_aload_n hx hb dL_law_633 rfl (lv_at hl 0 rfl) ?_
  refine lv_iload_n hx hb dL_law_634 rfl (lv_at hl 3 rfl) ?_
  refine lv_iconst (v := 1) hx hb dL_law_635 (by decide) ?_
  refine lv_iadd hx hb dL_law_636 ?_
  refine lw_sld hx hb hX hbl hbA hS (k := 8 * k + 1) (lw_ix ex3 1) (by omega) (by omega) dL_law_637 ?_
  refine lw_call (As := [.int (xs (8 * k + 1))]) (rest := []) ⟨hx, hb, hml, hown, htl⟩ (c_X8_idle (D := D) (A := nA1 a 36) (cy := cy) (a := a) (kt := kt) (vt := vt) (l := l) hf) (cwV 1 htl gW_X8_idle rfl rfl rfl (by decide +kernel) ⟨Nat.le_of_ble_eq_true rfl, Nat.le_of_ble_eq_true rfl⟩) hE1 hP1 hS h01 hA0 ⟨Nat.le_of_ble_eq_true rfl, Nat.le_of_ble_eq_true rfl⟩ nbo_0 rfl rfl hl.1 rfl (Nat.le_of_ble_eq_true rfl) dL_law_638 (fun H2 locs2 hP1 hk1 hS => ?_)
  have hP2 := lw_keep hP2 hk1 (fun k q h z => hdis q.1 z ⟨k, nw_M h⟩)
  refine lv_aload_n hx hb dL_law_641 rfl (lv_at hl 2 rfl) ?_
  refine lv_aload_n hx hb dL_law_642 rfl (lv_at hl 0 rfl) ?_
  refine lv_iload_n hx hb dL_law_643 rfl (lv_at hl 3 rfl) ?_
  refine lv_iconst (v := 1) hx hb dL_law_644 (by decide) ?_
  refine lv_iadd hx hb dL_law_645 ?_
  refine lw_sld hx hb hX hbl hbA hS (k := 8 * k + 1) (lw_ix ex3 1) (by omega) (by omega) dL_law_646 ?_
  refine lw_call (As := [.int (xs (8 * k + 1))]) (rest := [.int r]) ⟨hx, hb, hml, hown, htl⟩ (c_X11_idle (D := D) (A := nA1 b 29) (cy := cy) (a := b) (kt := kt) (vt := vt) (l := l) hg) (cwV 1 htl gW_X11_idle rfl rfl rfl (by decide +kernel) ⟨Nat.le_of_ble_eq_true rfl, Nat.le_of_ble_eq_true rfl⟩) hE2 hP2 hS h02 hA0 ⟨Nat.le_of_ble_eq_true rfl, Nat.le_of_ble_eq_true rfl⟩ mbo_0 rfl rfl hl.1 rfl (Nat.le_of_ble_eq_true rfl) dL_law_647 (fun H2 locs2 hP2 hk1 hS => ?_)
  have hP1 := lw_keep hP1 hk1 (fun k q h z => hdis q.1 ⟨k, nw_NB h⟩ z)
  refine lv_icmp_eq (tgt := 1059) hx hb dL_law_650 (by decide) (fun hc => ?_) (fun hc => absurd rfl hc)
  exact K σ1 τ1 _ _ ls hI1 hP1 hP2 hS hl
/-- op 17 -/
def nOp17 (N : Nat) (Inv : Nat → nS → nS → Prop) : Prop := ∀ (n : Nat) (σ τ : nS) (x1 x2 : Int32), n < 512 → Inv n σ τ → ∃ (r : Int32) (σ1 τ1 : nS), f_X8_look N x1 x2 σ = some (r, σ1) ∧ f_X11_look N x1 x2 τ = some (r, τ1) ∧ Inv (n + 1) σ1 τ1
set_option maxHeartbeats 4000000 in
set_option maxRecDepth 100000 in
theorem law_case_17 {p : Program} {l : Launch} {e : Env} {s : State} {m : MethodId} {below : List Frame} {meth : Method} {c : Code} {D : va_G} {cy : Nat → ClassId} {a b kt vt : Nat → Nat} {bb L : Nat} {xs : Nat → Int32} {N k : Nat} {x3 : Int32} {Inv : Nat → nS → nS → Prop} (hL : L ≤ 4096) (C0 : lw_At p s m meth c bb L xs) (hC : lwC s D cy a b kt vt) (hk : 8 * k + 8 ≤ L) (ex3 : x3 = nI (8 * k)) (hop : nOp17 N Inv) (K : lwA p l e s m below meth c D cy a b bb x3 (Inv (k + 1)) 1059) : lwA p l e s m below meth c D cy a b bb x3 (Inv k) 655 := by
  obtain ⟨hx, hb, hr, hml, hown, htl, hX, hbl, hlocks, hgv⟩ := C0
  have hb : c.code = cL_law := hb
  obtain ⟨hE1, hE2, h01, h02, hdis⟩ := hC
  have hA0 : ∀ q : Nat, q < s.heap.size → ¬ (fun q : Nat => s.heap.size ≤ q) q := fun q h => Nat.not_le.mpr h
  have hbA : ¬ (fun q : Nat => s.heap.size ≤ q) bb := Nat.not_le.mpr hbl
  intro σ τ H locs ls hI hP1 hP2 hS hl
  obtain ⟨r, σ1, τ1, hf, hg, hI1⟩ := hop k σ τ (xs (8 * k + 1)) (xs (8 * k + 2)) (by omega) hI
  refine lv_aload_n hx hb dL_law_655 rfl (lv_at hl 1 rfl) ?_
  refine lv_aload_n hx hb dL_law_656 rfl (lv_at hl 0 rfl) ?_
  refine lv_iload_n hx hb dL_law_657 rfl (lv_at hl 3 rfl) ?_
  refine lv_iconst (v := 1) hx hb dL_law_658 (by decide) ?_
  refine lv_iadd hx hb dL_law_659 ?_
  refine lw_sld hx hb hX hbl hbA hS (k := 8 * k + 1) (lw_ix ex3 1) (by omega) (by omega) dL_law_660 ?_
  refine lv_aload_n hx hb dL_law_661 rfl (lv_at hl 0 rfl) ?_
  refine lv_iload_n hx hb dL_law_662 rfl (lv_at hl 3 rfl) ?_
  refine lv_iconst (v := 2) hx hb dL_law_663 (by decide) ?_
  refine lv_iadd hx hb dL_law_664 ?_
  refine lw_sld hx hb hX hbl hbA hS (k := 8 * k + 2) (lw_ix ex3 2) (by omega) (by omega) dL_law_665 ?_
  refine lw_call (As := [.int (xs (8 * k + 1)), .int (xs (8 * k + 2))]) (rest := []) ⟨hx, hb, hml, hown, htl⟩ (c_X8_look (D := D) (A := nA1 a 36) (cy := cy) (a := a) (kt := kt) (vt := vt) (l := l) hf) (cwV 2 htl gW_X8_look rfl rfl rfl (by decide +kernel) ⟨Nat.le_of_ble_eq_true rfl, Nat.le_of_ble_eq_true rfl⟩) hE1 hP1 hS h01 hA0 ⟨Nat.le_of_ble_eq_true rfl, Nat.le_of_ble_eq_true rfl⟩ nbo_0 rfl rfl hl.1 rfl (Nat.le_of_ble_eq_true rfl) dL_law_666 (fun H2 locs2 hP1 hk1 hS => ?_)
  have hP2 := lw_keep hP2 hk1 (fun k q h z => hdis q.1 z ⟨k, nw_M h⟩)
  refine lv_aload_n hx hb dL_law_669 rfl (lv_at hl 2 rfl) ?_
  refine lv_aload_n hx hb dL_law_670 rfl (lv_at hl 0 rfl) ?_
  refine lv_iload_n hx hb dL_law_671 rfl (lv_at hl 3 rfl) ?_
  refine lv_iconst (v := 1) hx hb dL_law_672 (by decide) ?_
  refine lv_iadd hx hb dL_law_673 ?_
  refine lw_sld hx hb hX hbl hbA hS (k := 8 * k + 1) (lw_ix ex3 1) (by omega) (by omega) dL_law_674 ?_
  refine lv_aload_n hx hb dL_law_675 rfl (lv_at hl 0 rfl) ?_
  refine lv_iload_n hx hb dL_law_676 rfl (lv_at hl 3 rfl) ?_
  refine lv_iconst (v := 2) hx hb dL_law_677 (by decide) ?_
  refine lv_iadd hx hb dL_law_678 ?_
  refine lw_sld hx hb hX hbl hbA hS (k := 8 * k + 2) (lw_ix ex3 2) (by omega) (by omega) dL_law_679 ?_
  refine lw_call (As := [.int (xs (8 * k + 1)), .int (xs (8 * k + 2))]) (rest := [.int r]) ⟨hx, hb, hml, hown, htl⟩ (c_X11_look (D := D) (A := nA1 b 29) (cy := cy) (a := b) (kt := kt) (vt := vt) (l := l) hg) (cwV 2 htl gW_X11_look rfl rfl rfl (by decide +kernel) ⟨Nat.le_of_ble_eq_true rfl, Nat.le_of_ble_eq_true rfl⟩) hE2 hP2 hS h02 hA0 ⟨Nat.le_of_ble_eq_true rfl, Nat.le_of_ble_eq_true rfl⟩ mbo_0 rfl rfl hl.1 rfl (Nat.le_of_ble_eq_true rfl) dL_law_680 (fun H2 locs2 hP2 hk1 hS => ?_)
  have hP1 := lw_keep hP1 hk1 (fun k q h z => hdis q.1 ⟨k, nw_NB h⟩ z)
  refine lv_icmp_eq (tgt := 1059) hx hb dL_law_683 (by decide) (fun hc => ?_) (fun hc => absurd rfl hc)
  exact K σ1 τ1 _ _ ls hI1 hP1 hP2 hS hl
/-- op 18 -/
def nOp18 (N : Nat) (Inv : Nat → nS → nS → Prop) : Prop := ∀ (n : Nat) (σ τ : nS) , n < 512 → Inv n σ τ → ∃ (r : Int32) (σ1 τ1 : nS), f_X8_mends N σ = some (r, σ1) ∧ f_X11_mends N τ = some (r, τ1) ∧ Inv (n + 1) σ1 τ1
set_option maxHeartbeats 4000000 in
set_option maxRecDepth 100000 in
theorem law_case_18 {p : Program} {l : Launch} {e : Env} {s : State} {m : MethodId} {below : List Frame} {meth : Method} {c : Code} {D : va_G} {cy : Nat → ClassId} {a b kt vt : Nat → Nat} {bb L : Nat} {xs : Nat → Int32} {N k : Nat} {x3 : Int32} {Inv : Nat → nS → nS → Prop} (hL : L ≤ 4096) (C0 : lw_At p s m meth c bb L xs) (hC : lwC s D cy a b kt vt) (hk : 8 * k + 8 ≤ L) (ex3 : x3 = nI (8 * k)) (hop : nOp18 N Inv) (K : lwA p l e s m below meth c D cy a b bb x3 (Inv (k + 1)) 1059) : lwA p l e s m below meth c D cy a b bb x3 (Inv k) 688 := by
  obtain ⟨hx, hb, hr, hml, hown, htl, hX, hbl, hlocks, hgv⟩ := C0
  have hb : c.code = cL_law := hb
  obtain ⟨hE1, hE2, h01, h02, hdis⟩ := hC
  have hA0 : ∀ q : Nat, q < s.heap.size → ¬ (fun q : Nat => s.heap.size ≤ q) q := fun q h => Nat.not_le.mpr h
  have hbA : ¬ (fun q : Nat => s.heap.size ≤ q) bb := Nat.not_le.mpr hbl
  intro σ τ H locs ls hI hP1 hP2 hS hl
  obtain ⟨r, σ1, τ1, hf, hg, hI1⟩ := hop k σ τ (by omega) hI
  refine lv_aload_n hx hb dL_law_688 rfl (lv_at hl 1 rfl) ?_
  refine lw_call (As := []) (rest := []) ⟨hx, hb, hml, hown, htl⟩ (c_X8_mends (D := D) (A := nA1 a 36) (cy := cy) (a := a) (kt := kt) (vt := vt) (l := l) hf) (cwV 0 htl gW_X8_mends rfl rfl rfl (by decide +kernel) ⟨Nat.le_of_ble_eq_true rfl, Nat.le_of_ble_eq_true rfl⟩) hE1 hP1 hS h01 hA0 ⟨Nat.le_of_ble_eq_true rfl, Nat.le_of_ble_eq_true rfl⟩ nbo_0 rfl rfl hl.1 rfl (Nat.le_of_ble_eq_true rfl) dL_law_689 (fun H2 locs2 hP1 hk1 hS => ?_)
  have hP2 := lw_keep hP2 hk1 (fun k q h z => hdis q.1 z ⟨k, nw_M h⟩)
  refine lv_aload_n hx hb dL_law_692 rfl (lv_at hl 2 rfl) ?_
  refine lw_call (As := []) (rest := [.int r]) ⟨hx, hb, hml, hown, htl⟩ (c_X11_mends (D := D) (A := nA1 b 29) (cy := cy) (a := b) (kt := kt) (vt := vt) (l := l) hg) (cwV 0 htl gW_X11_mends rfl rfl rfl (by decide +kernel) ⟨Nat.le_of_ble_eq_true rfl, Nat.le_of_ble_eq_true rfl⟩) hE2 hP2 hS h02 hA0 ⟨Nat.le_of_ble_eq_true rfl, Nat.le_of_ble_eq_true rfl⟩ mbo_0 rfl rfl hl.1 rfl (Nat.le_of_ble_eq_true rfl) dL_law_693 (fun H2 locs2 hP2 hk1 hS => ?_)
  have hP1 := lw_keep hP1 hk1 (fun k q h z => hdis q.1 ⟨k, nw_NB h⟩ z)
  refine lv_icmp_eq (tgt := 1059) hx hb dL_law_696 (by decide) (fun hc => ?_) (fun hc => absurd rfl hc)
  exact K σ1 τ1 _ _ ls hI1 hP1 hP2 hS hl
/-- op 19 -/
def nOp19 (N : Nat) (Inv : Nat → nS → nS → Prop) : Prop := ∀ (n : Nat) (σ τ : nS) (x1 : Int32), n < 512 → Inv n σ τ → ∃ (r : Int32) (σ1 τ1 : nS), f_X8_mend N x1 σ = some (r, σ1) ∧ f_X11_mend N x1 τ = some (r, τ1) ∧ Inv (n + 1) σ1 τ1
set_option maxHeartbeats 4000000 in
set_option maxRecDepth 100000 in
theorem law_case_19 {p : Program} {l : Launch} {e : Env} {s : State} {m : MethodId} {below : List Frame} {meth : Method} {c : Code} {D : va_G} {cy : Nat → ClassId} {a b kt vt : Nat → Nat} {bb L : Nat} {xs : Nat → Int32} {N k : Nat} {x3 : Int32} {Inv : Nat → nS → nS → Prop} (hL : L ≤ 4096) (C0 : lw_At p s m meth c bb L xs) (hC : lwC s D cy a b kt vt) (hk : 8 * k + 8 ≤ L) (ex3 : x3 = nI (8 * k)) (hop : nOp19 N Inv) (K : lwA p l e s m below meth c D cy a b bb x3 (Inv (k + 1)) 1059) : lwA p l e s m below meth c D cy a b bb x3 (Inv k) 701 := by
  obtain ⟨hx, hb, hr, hml, hown, htl, hX, hbl, hlocks, hgv⟩ := C0
  have hb : c.code = cL_law := hb
  obtain ⟨hE1, hE2, h01, h02, hdis⟩ := hC
  have hA0 : ∀ q : Nat, q < s.heap.size → ¬ (fun q : Nat => s.heap.size ≤ q) q := fun q h => Nat.not_le.mpr h
  have hbA : ¬ (fun q : Nat => s.heap.size ≤ q) bb := Nat.not_le.mpr hbl
  intro σ τ H locs ls hI hP1 hP2 hS hl
  obtain ⟨r, σ1, τ1, hf, hg, hI1⟩ := hop k σ τ (xs (8 * k + 1)) (by omega) hI
  refine lv_aload_n hx hb dL_law_701 rfl (lv_at hl 1 rfl) ?_
  refine lv_aload_n hx hb dL_law_702 rfl (lv_at hl 0 rfl) ?_
  refine lv_iload_n hx hb dL_law_703 rfl (lv_at hl 3 rfl) ?_
  refine lv_iconst (v := 1) hx hb dL_law_704 (by decide) ?_
  refine lv_iadd hx hb dL_law_705 ?_
  refine lw_sld hx hb hX hbl hbA hS (k := 8 * k + 1) (lw_ix ex3 1) (by omega) (by omega) dL_law_706 ?_
  refine lw_call (As := [.int (xs (8 * k + 1))]) (rest := []) ⟨hx, hb, hml, hown, htl⟩ (c_X8_mend (D := D) (A := nA1 a 36) (cy := cy) (a := a) (kt := kt) (vt := vt) (l := l) hf) (cwV 1 htl gW_X8_mend rfl rfl rfl (by decide +kernel) ⟨Nat.le_of_ble_eq_true rfl, Nat.le_of_ble_eq_true rfl⟩) hE1 hP1 hS h01 hA0 ⟨Nat.le_of_ble_eq_true rfl, Nat.le_of_ble_eq_true rfl⟩ nbo_0 rfl rfl hl.1 rfl (Nat.le_of_ble_eq_true rfl) dL_law_707 (fun H2 locs2 hP1 hk1 hS => ?_)
  have hP2 := lw_keep hP2 hk1 (fun k q h z => hdis q.1 z ⟨k, nw_M h⟩)
  refine lv_aload_n hx hb dL_law_710 rfl (lv_at hl 2 rfl) ?_
  refine lv_aload_n hx hb dL_law_711 rfl (lv_at hl 0 rfl) ?_
  refine lv_iload_n hx hb dL_law_712 rfl (lv_at hl 3 rfl) ?_
  refine lv_iconst (v := 1) hx hb dL_law_713 (by decide) ?_
  refine lv_iadd hx hb dL_law_714 ?_
  refine lw_sld hx hb hX hbl hbA hS (k := 8 * k + 1) (lw_ix ex3 1) (by omega) (by omega) dL_law_715 ?_
  refine lw_call (As := [.int (xs (8 * k + 1))]) (rest := [.int r]) ⟨hx, hb, hml, hown, htl⟩ (c_X11_mend (D := D) (A := nA1 b 29) (cy := cy) (a := b) (kt := kt) (vt := vt) (l := l) hg) (cwV 1 htl gW_X11_mend rfl rfl rfl (by decide +kernel) ⟨Nat.le_of_ble_eq_true rfl, Nat.le_of_ble_eq_true rfl⟩) hE2 hP2 hS h02 hA0 ⟨Nat.le_of_ble_eq_true rfl, Nat.le_of_ble_eq_true rfl⟩ mbo_0 rfl rfl hl.1 rfl (Nat.le_of_ble_eq_true rfl) dL_law_716 (fun H2 locs2 hP2 hk1 hS => ?_)
  have hP1 := lw_keep hP1 hk1 (fun k q h z => hdis q.1 ⟨k, nw_NB h⟩ z)
  refine lv_icmp_eq (tgt := 1059) hx hb dL_law_719 (by decide) (fun hc => ?_) (fun hc => absurd rfl hc)
  exact K σ1 τ1 _ _ ls hI1 hP1 hP2 hS hl
/-- op 20 -/
def nOp20 (N : Nat) (Inv : Nat → nS → nS → Prop) : Prop := ∀ (n : Nat) (σ τ : nS) (x1 x2 x3 x4 x5 x6 x7 : Int32), n < 512 → Inv n σ τ → ∃ (r : Int32) (σ1 τ1 : nS), f_X8_nights N x1 x2 x3 x4 x5 x6 x7 σ = some (r, σ1) ∧ f_X11_nights N x1 x2 x3 x4 x5 x6 x7 τ = some (r, τ1) ∧ Inv (n + 1) σ1 τ1
set_option maxHeartbeats 4000000 in
set_option maxRecDepth 100000 in
theorem law_case_20 {p : Program} {l : Launch} {e : Env} {s : State} {m : MethodId} {below : List Frame} {meth : Method} {c : Code} {D : va_G} {cy : Nat → ClassId} {a b kt vt : Nat → Nat} {bb L : Nat} {xs : Nat → Int32} {N k : Nat} {x3 : Int32} {Inv : Nat → nS → nS → Prop} (hL : L ≤ 4096) (C0 : lw_At p s m meth c bb L xs) (hC : lwC s D cy a b kt vt) (hk : 8 * k + 8 ≤ L) (ex3 : x3 = nI (8 * k)) (hop : nOp20 N Inv) (K : lwA p l e s m below meth c D cy a b bb x3 (Inv (k + 1)) 1059) : lwA p l e s m below meth c D cy a b bb x3 (Inv k) 724 := by
  obtain ⟨hx, hb, hr, hml, hown, htl, hX, hbl, hlocks, hgv⟩ := C0
  have hb : c.code = cL_law := hb
  obtain ⟨hE1, hE2, h01, h02, hdis⟩ := hC
  have hA0 : ∀ q : Nat, q < s.heap.size → ¬ (fun q : Nat => s.heap.size ≤ q) q := fun q h => Nat.not_le.mpr h
  have hbA : ¬ (fun q : Nat => s.heap.size ≤ q) bb := Nat.not_le.mpr hbl
  intro σ τ H locs ls hI hP1 hP2 hS hl
  obtain ⟨r, σ1, τ1, hf, hg, hI1⟩ := hop k σ τ (xs (8 * k + 1)) (xs (8 * k + 2)) (xs (8 * k + 3)) (xs (8 * k + 4)) (xs (8 * k + 5)) (xs (8 * k + 6)) (xs (8 * k + 7)) (by omega) hI
  refine lv_aload_n hx hb dL_law_724 rfl (lv_at hl 1 rfl) ?_
  refine lv_aload_n hx hb dL_law_725 rfl (lv_at hl 0 rfl) ?_
  refine lv_iload_n hx hb dL_law_726 rfl (lv_at hl 3 rfl) ?_
  refine lv_iconst (v := 1) hx hb dL_law_727 (by decide) ?_
  refine lv_iadd hx hb dL_law_728 ?_
  refine lw_sld hx hb hX hbl hbA hS (k := 8 * k + 1) (lw_ix ex3 1) (by omega) (by omega) dL_law_729 ?_
  refine lv_aload_n hx hb dL_law_730 rfl (lv_at hl 0 rfl) ?_
  refine lv_iload_n hx hb dL_law_731 rfl (lv_at hl 3 rfl) ?_
  refine lv_iconst (v := 2) hx hb dL_law_732 (by decide) ?_
  refine lv_iadd hx hb dL_law_733 ?_
  refine lw_sld hx hb hX hbl hbA hS (k := 8 * k + 2) (lw_ix ex3 2) (by omega) (by omega) dL_law_734 ?_
  refine lv_aload_n hx hb dL_law_735 rfl (lv_at hl 0 rfl) ?_
  refine lv_iload_n hx hb dL_law_736 rfl (lv_at hl 3 rfl) ?_
  refine lv_iconst (v := 3) hx hb dL_law_737 (by decide) ?_
  refine lv_iadd hx hb dL_law_738 ?_
  refine lw_sld hx hb hX hbl hbA hS (k := 8 * k + 3) (lw_ix ex3 3) (by omega) (by omega) dL_law_739 ?_
  refine lv_aload_n hx hb dL_law_740 rfl (lv_at hl 0 rfl) ?_
  refine lv_iload_n hx hb dL_law_741 rfl (lv_at hl 3 rfl) ?_
  refine lv_iconst (v := 4) hx hb dL_law_742 (by decide) ?_
  refine lv_iadd hx hb dL_law_743 ?_
  refine lw_sld hx hb hX hbl hbA hS (k := 8 * k + 4) (lw_ix ex3 4) (by omega) (by omega) dL_law_744 ?_
  refine lv_aload_n hx hb dL_law_745 rfl (lv_at hl 0 rfl) ?_
  refine lv_iload_n hx hb dL_law_746 rfl (lv_at hl 3 rfl) ?_
  refine lv_iconst (v := 5) hx hb dL_law_747 (by decide) ?_
  refine lv_iadd hx hb dL_law_748 ?_
  refine lw_sld hx hb hX hbl hbA hS (k := 8 * k + 5) (lw_ix ex3 5) (by omega) (by omega) dL_law_749 ?_
  refine lv_aload_n hx hb dL_law_750 rfl (lv_at hl 0 rfl) ?_
  refine lv_iload_n hx hb dL_law_751 rfl (lv_at hl 3 rfl) ?_
  refine lv_bipush (v := 6) hx hb dL_law_752 (by decide) ?_
  refine lv_iadd hx hb dL_law_754 ?_
  refine lw_sld hx hb hX hbl hbA hS (k := 8 * k + 6) (lw_ix ex3 6) (by omega) (by omega) dL_law_755 ?_
  refine lv_aload_n hx hb dL_law_756 rfl (lv_at hl 0 rfl) ?_
  refine lv_iload_n hx hb dL_law_757 rfl (lv_at hl 3 rfl) ?_
  refine lv_bipush (v := 7) hx hb dL_law_758 (by decide) ?_
  refine lv_iadd hx hb dL_law_760 ?_
  refine lw_sld hx hb hX hbl hbA hS (k := 8 * k + 7) (lw_ix ex3 7) (by omega) (by omega) dL_law_761 ?_
  refine lw_call (As := [.int (xs (8 * k + 1)), .int (xs (8 * k + 2)), .int (xs (8 * k + 3)), .int (xs (8 * k + 4)), .int (xs (8 * k + 5)), .int (xs (8 * k + 6)), .int (xs (8 * k + 7))]) (rest := []) ⟨hx, hb, hml, hown, htl⟩ (c_X8_nights (D := D) (A := nA1 a 36) (cy := cy) (a := a) (kt := kt) (vt := vt) (l := l) hf) (cwV 7 htl gW_X8_nights rfl rfl rfl (by decide +kernel) ⟨Nat.le_of_ble_eq_true rfl, Nat.le_of_ble_eq_true rfl⟩) hE1 hP1 hS h01 hA0 ⟨Nat.le_of_ble_eq_true rfl, Nat.le_of_ble_eq_true rfl⟩ nbo_0 rfl rfl hl.1 rfl (Nat.le_of_ble_eq_true rfl) dL_law_762 (fun H2 locs2 hP1 hk1 hS => ?_)
  have hP2 := lw_keep hP2 hk1 (fun k q h z => hdis q.1 z ⟨k, nw_M h⟩)
  refine lv_aload_n hx hb dL_law_765 rfl (lv_at hl 2 rfl) ?_
  refine lv_aload_n hx hb dL_law_766 rfl (lv_at hl 0 rfl) ?_
  refine lv_iload_n hx hb dL_law_767 rfl (lv_at hl 3 rfl) ?_
  refine lv_iconst (v := 1) hx hb dL_law_768 (by decide) ?_
  refine lv_iadd hx hb dL_law_769 ?_
  refine lw_sld hx hb hX hbl hbA hS (k := 8 * k + 1) (lw_ix ex3 1) (by omega) (by omega) dL_law_770 ?_
  refine lv_aload_n hx hb dL_law_771 rfl (lv_at hl 0 rfl) ?_
  refine lv_iload_n hx hb dL_law_772 rfl (lv_at hl 3 rfl) ?_
  refine lv_iconst (v := 2) hx hb dL_law_773 (by decide) ?_
  refine lv_iadd hx hb dL_law_774 ?_
  refine lw_sld hx hb hX hbl hbA hS (k := 8 * k + 2) (lw_ix ex3 2) (by omega) (by omega) dL_law_775 ?_
  refine lv_aload_n hx hb dL_law_776 rfl (lv_at hl 0 rfl) ?_
  refine lv_iload_n hx hb dL_law_777 rfl (lv_at hl 3 rfl) ?_
  refine lv_iconst (v := 3) hx hb dL_law_778 (by decide) ?_
  refine lv_iadd hx hb dL_law_779 ?_
  refine lw_sld hx hb hX hbl hbA hS (k := 8 * k + 3) (lw_ix ex3 3) (by omega) (by omega) dL_law_780 ?_
  refine lv_aload_n hx hb dL_law_781 rfl (lv_at hl 0 rfl) ?_
  refine lv_iload_n hx hb dL_law_782 rfl (lv_at hl 3 rfl) ?_
  refine lv_iconst (v := 4) hx hb dL_law_783 (by decide) ?_
  refine lv_iadd hx hb dL_law_784 ?_
  refine lw_sld hx hb hX hbl hbA hS (k := 8 * k + 4) (lw_ix ex3 4) (by omega) (by omega) dL_law_785 ?_
  refine lv_aload_n hx hb dL_law_786 rfl (lv_at hl 0 rfl) ?_
  refine lv_iload_n hx hb dL_law_787 rfl (lv_at hl 3 rfl) ?_
  refine lv_iconst (v := 5) hx hb dL_law_788 (by decide) ?_
  refine lv_iadd hx hb dL_law_789 ?_
  refine lw_sld hx hb hX hbl hbA hS (k := 8 * k + 5) (lw_ix ex3 5) (by omega) (by omega) dL_law_790 ?_
  refine lv_aload_n hx hb dL_law_791 rfl (lv_at hl 0 rfl) ?_
  refine lv_iload_n hx hb dL_law_792 rfl (lv_at hl 3 rfl) ?_
  refine lv_bipush (v := 6) hx hb dL_law_793 (by decide) ?_
  refine lv_iadd hx hb dL_law_795 ?_
  refine lw_sld hx hb hX hbl hbA hS (k := 8 * k + 6) (lw_ix ex3 6) (by omega) (by omega) dL_law_796 ?_
  refine lv_aload_n hx hb dL_law_797 rfl (lv_at hl 0 rfl) ?_
  refine lv_iload_n hx hb dL_law_798 rfl (lv_at hl 3 rfl) ?_
  refine lv_bipush (v := 7) hx hb dL_law_799 (by decide) ?_
  refine lv_iadd hx hb dL_law_801 ?_
  refine lw_sld hx hb hX hbl hbA hS (k := 8 * k + 7) (lw_ix ex3 7) (by omega) (by omega) dL_law_802 ?_
  refine lw_call (As := [.int (xs (8 * k + 1)), .int (xs (8 * k + 2)), .int (xs (8 * k + 3)), .int (xs (8 * k + 4)), .int (xs (8 * k + 5)), .int (xs (8 * k + 6)), .int (xs (8 * k + 7))]) (rest := [.int r]) ⟨hx, hb, hml, hown, htl⟩ (c_X11_nights (D := D) (A := nA1 b 29) (cy := cy) (a := b) (kt := kt) (vt := vt) (l := l) hg) (cwV 7 htl gW_X11_nights rfl rfl rfl (by decide +kernel) ⟨Nat.le_of_ble_eq_true rfl, Nat.le_of_ble_eq_true rfl⟩) hE2 hP2 hS h02 hA0 ⟨Nat.le_of_ble_eq_true rfl, Nat.le_of_ble_eq_true rfl⟩ mbo_0 rfl rfl hl.1 rfl (Nat.le_of_ble_eq_true rfl) dL_law_803 (fun H2 locs2 hP2 hk1 hS => ?_)
  have hP1 := lw_keep hP1 hk1 (fun k q h z => hdis q.1 ⟨k, nw_NB h⟩ z)
  refine lv_icmp_eq (tgt := 1059) hx hb dL_law_806 (by decide) (fun hc => ?_) (fun hc => absurd rfl hc)
  exact K σ1 τ1 _ _ ls hI1 hP1 hP2 hS hl
/-- op 21 -/
def nOp21 (N : Nat) (Inv : Nat → nS → nS → Prop) : Prop := ∀ (n : Nat) (σ τ : nS) (x1 x2 : Int32), (x1 = 0 ∨ x1 = 1) → n < 512 → Inv n σ τ → ∃ (r : Int32) (σ1 τ1 : nS), f_X8_night N x1 x2 σ = some (r, σ1) ∧ f_X11_night N x1 x2 τ = some (r, τ1) ∧ Inv (n + 1) σ1 τ1
set_option maxHeartbeats 4000000 in
set_option maxRecDepth 100000 in
theorem law_case_21 {p : Program} {l : Launch} {e : Env} {s : State} {m : MethodId} {below : List Frame} {meth : Method} {c : Code} {D : va_G} {cy : Nat → ClassId} {a b kt vt : Nat → Nat} {bb L : Nat} {xs : Nat → Int32} {N k : Nat} {x3 : Int32} {Inv : Nat → nS → nS → Prop} (hL : L ≤ 4096) (C0 : lw_At p s m meth c bb L xs) (hC : lwC s D cy a b kt vt) (hk : 8 * k + 8 ≤ L) (ex3 : x3 = nI (8 * k)) (hop : nOp21 N Inv) (K : lwA p l e s m below meth c D cy a b bb x3 (Inv (k + 1)) 1059) : lwA p l e s m below meth c D cy a b bb x3 (Inv k) 811 := by
  obtain ⟨hx, hb, hr, hml, hown, htl, hX, hbl, hlocks, hgv⟩ := C0
  have hb : c.code = cL_law := hb
  obtain ⟨hE1, hE2, h01, h02, hdis⟩ := hC
  have hA0 : ∀ q : Nat, q < s.heap.size → ¬ (fun q : Nat => s.heap.size ≤ q) q := fun q h => Nat.not_le.mpr h
  have hbA : ¬ (fun q : Nat => s.heap.size ≤ q) bb := Nat.not_le.mpr hbl
  intro σ τ H locs ls hI hP1 hP2 hS hl
  by_cases hz : (xs (8 * k + 1)) = 0
  · obtain ⟨r, σ1, τ1, hf, hg, hI1⟩ := hop k σ τ 0 (xs (8 * k + 2)) (Or.inl rfl) (by omega) hI
    refine lv_aload_n hx hb dL_law_811 rfl (lv_at hl 1 rfl) ?_
    refine lv_aload_n hx hb dL_law_812 rfl (lv_at hl 0 rfl) ?_
    refine lv_iload_n hx hb dL_law_813 rfl (lv_at hl 3 rfl) ?_
    refine lv_iconst (v := 1) hx hb dL_law_814 (by decide) ?_
    refine lv_iadd hx hb dL_law_815 ?_
    refine lw_sld hx hb hX hbl hbA hS (k := 8 * k + 1) (lw_ix ex3 1) (by omega) (by omega) dL_law_816 ?_
    refine lv_if_eq (tgt := 824) hx hb dL_law_817 (by decide) (fun hc => ?_) (fun hc => absurd hz hc)
    refine lv_iconst (v := 0) hx hb dL_law_824 (by decide) ?_
    refine lv_aload_n hx hb dL_law_825 rfl (lv_at hl 0 rfl) ?_
    refine lv_iload_n hx hb dL_law_826 rfl (lv_at hl 3 rfl) ?_
    refine lv_iconst (v := 2) hx hb dL_law_827 (by decide) ?_
    refine lv_iadd hx hb dL_law_828 ?_
    refine lw_sld hx hb hX hbl hbA hS (k := 8 * k + 2) (lw_ix ex3 2) (by omega) (by omega) dL_law_829 ?_
    refine lw_call (As := [.int 0, .int (xs (8 * k + 2))]) (rest := []) ⟨hx, hb, hml, hown, htl⟩ (c_X8_night (D := D) (A := nA1 a 36) (cy := cy) (a := a) (kt := kt) (vt := vt) (l := l) hf) (cwV 2 htl gW_X8_night rfl rfl rfl (by decide +kernel) ⟨Nat.le_of_ble_eq_true rfl, Nat.le_of_ble_eq_true rfl⟩) hE1 hP1 hS h01 hA0 ⟨Nat.le_of_ble_eq_true rfl, Nat.le_of_ble_eq_true rfl⟩ nbo_0 rfl rfl hl.1 rfl (Nat.le_of_ble_eq_true rfl) dL_law_830 (fun H2 locs2 hP1 hk1 hS => ?_)
    have hP2 := lw_keep hP2 hk1 (fun k q h z => hdis q.1 z ⟨k, nw_M h⟩)
    refine lv_aload_n hx hb dL_law_833 rfl (lv_at hl 2 rfl) ?_
    refine lv_aload_n hx hb dL_law_834 rfl (lv_at hl 0 rfl) ?_
    refine lv_iload_n hx hb dL_law_835 rfl (lv_at hl 3 rfl) ?_
    refine lv_iconst (v := 1) hx hb dL_law_836 (by decide) ?_
    refine lv_iadd hx hb dL_law_837 ?_
    refine lw_sld hx hb hX hbl hbA hS (k := 8 * k + 1) (lw_ix ex3 1) (by omega) (by omega) dL_law_838 ?_
    refine lv_if_eq (tgt := 846) hx hb dL_law_839 (by decide) (fun hc => ?_) (fun hc => absurd hz hc)
    refine lv_iconst (v := 0) hx hb dL_law_846 (by decide) ?_
    refine lv_aload_n hx hb dL_law_847 rfl (lv_at hl 0 rfl) ?_
    refine lv_iload_n hx hb dL_law_848 rfl (lv_at hl 3 rfl) ?_
    refine lv_iconst (v := 2) hx hb dL_law_849 (by decide) ?_
    refine lv_iadd hx hb dL_law_850 ?_
    refine lw_sld hx hb hX hbl hbA hS (k := 8 * k + 2) (lw_ix ex3 2) (by omega) (by omega) dL_law_851 ?_
    refine lw_call (As := [.int 0, .int (xs (8 * k + 2))]) (rest := [.int r]) ⟨hx, hb, hml, hown, htl⟩ (c_X11_night (D := D) (A := nA1 b 29) (cy := cy) (a := b) (kt := kt) (vt := vt) (l := l) hg) (cwV 2 htl gW_X11_night rfl rfl rfl (by decide +kernel) ⟨Nat.le_of_ble_eq_true rfl, Nat.le_of_ble_eq_true rfl⟩) hE2 hP2 hS h02 hA0 ⟨Nat.le_of_ble_eq_true rfl, Nat.le_of_ble_eq_true rfl⟩ mbo_0 rfl rfl hl.1 rfl (Nat.le_of_ble_eq_true rfl) dL_law_852 (fun H2 locs2 hP2 hk1 hS => ?_)
    have hP1 := lw_keep hP1 hk1 (fun k q h z => hdis q.1 ⟨k, nw_NB h⟩ z)
    refine lv_icmp_eq (tgt := 1059) hx hb dL_law_855 (by decide) (fun hc => ?_) (fun hc => absurd rfl hc)
    exact K σ1 τ1 _ _ ls hI1 hP1 hP2 hS hl
  · obtain ⟨r, σ1, τ1, hf, hg, hI1⟩ := hop k σ τ 1 (xs (8 * k + 2)) (Or.inr rfl) (by omega) hI
    refine lv_aload_n hx hb dL_law_811 rfl (lv_at hl 1 rfl) ?_
    refine lv_aload_n hx hb dL_law_812 rfl (lv_at hl 0 rfl) ?_
    refine lv_iload_n hx hb dL_law_813 rfl (lv_at hl 3 rfl) ?_
    refine lv_iconst (v := 1) hx hb dL_law_814 (by decide) ?_
    refine lv_iadd hx hb dL_law_815 ?_
    refine lw_sld hx hb hX hbl hbA hS (k := 8 * k + 1) (lw_ix ex3 1) (by omega) (by omega) dL_law_816 ?_
    refine lv_if_eq (tgt := 824) hx hb dL_law_817 (by decide) (fun hc => absurd hc hz) (fun hc => ?_)
    refine lv_iconst (v := 1) hx hb dL_law_820 (by decide) ?_
    refine lv_goto (tgt := 825) hx hb dL_law_821 (by decide) ?_
    refine lv_aload_n hx hb dL_law_825 rfl (lv_at hl 0 rfl) ?_
    refine lv_iload_n hx hb dL_law_826 rfl (lv_at hl 3 rfl) ?_
    refine lv_iconst (v := 2) hx hb dL_law_827 (by decide) ?_
    refine lv_iadd hx hb dL_law_828 ?_
    refine lw_sld hx hb hX hbl hbA hS (k := 8 * k + 2) (lw_ix ex3 2) (by omega) (by omega) dL_law_829 ?_
    refine lw_call (As := [.int 1, .int (xs (8 * k + 2))]) (rest := []) ⟨hx, hb, hml, hown, htl⟩ (c_X8_night (D := D) (A := nA1 a 36) (cy := cy) (a := a) (kt := kt) (vt := vt) (l := l) hf) (cwV 2 htl gW_X8_night rfl rfl rfl (by decide +kernel) ⟨Nat.le_of_ble_eq_true rfl, Nat.le_of_ble_eq_true rfl⟩) hE1 hP1 hS h01 hA0 ⟨Nat.le_of_ble_eq_true rfl, Nat.le_of_ble_eq_true rfl⟩ nbo_0 rfl rfl hl.1 rfl (Nat.le_of_ble_eq_true rfl) dL_law_830 (fun H2 locs2 hP1 hk1 hS => ?_)
    have hP2 := lw_keep hP2 hk1 (fun k q h z => hdis q.1 z ⟨k, nw_M h⟩)
    refine lv_aload_n hx hb dL_law_833 rfl (lv_at hl 2 rfl) ?_
    refine lv_aload_n hx hb dL_law_834 rfl (lv_at hl 0 rfl) ?_
    refine lv_iload_n hx hb dL_law_835 rfl (lv_at hl 3 rfl) ?_
    refine lv_iconst (v := 1) hx hb dL_law_836 (by decide) ?_
    refine lv_iadd hx hb dL_law_837 ?_
    refine lw_sld hx hb hX hbl hbA hS (k := 8 * k + 1) (lw_ix ex3 1) (by omega) (by omega) dL_law_838 ?_
    refine lv_if_eq (tgt := 846) hx hb dL_law_839 (by decide) (fun hc => absurd hc hz) (fun hc => ?_)
    refine lv_iconst (v := 1) hx hb dL_law_842 (by decide) ?_
    refine lv_goto (tgt := 847) hx hb dL_law_843 (by decide) ?_
    refine lv_aload_n hx hb dL_law_847 rfl (lv_at hl 0 rfl) ?_
    refine lv_iload_n hx hb dL_law_848 rfl (lv_at hl 3 rfl) ?_
    refine lv_iconst (v := 2) hx hb dL_law_849 (by decide) ?_
    refine lv_iadd hx hb dL_law_850 ?_
    refine lw_sld hx hb hX hbl hbA hS (k := 8 * k + 2) (lw_ix ex3 2) (by omega) (by omega) dL_law_851 ?_
    refine lw_call (As := [.int 1, .int (xs (8 * k + 2))]) (rest := [.int r]) ⟨hx, hb, hml, hown, htl⟩ (c_X11_night (D := D) (A := nA1 b 29) (cy := cy) (a := b) (kt := kt) (vt := vt) (l := l) hg) (cwV 2 htl gW_X11_night rfl rfl rfl (by decide +kernel) ⟨Nat.le_of_ble_eq_true rfl, Nat.le_of_ble_eq_true rfl⟩) hE2 hP2 hS h02 hA0 ⟨Nat.le_of_ble_eq_true rfl, Nat.le_of_ble_eq_true rfl⟩ mbo_0 rfl rfl hl.1 rfl (Nat.le_of_ble_eq_true rfl) dL_law_852 (fun H2 locs2 hP2 hk1 hS => ?_)
    have hP1 := lw_keep hP1 hk1 (fun k q h z => hdis q.1 ⟨k, nw_NB h⟩ z)
    refine lv_icmp_eq (tgt := 1059) hx hb dL_law_855 (by decide) (fun hc => ?_) (fun hc => absurd rfl hc)
    exact K σ1 τ1 _ _ ls hI1 hP1 hP2 hS hl
/-- op 22 -/
def nOp22 (N : Nat) (Inv : Nat → nS → nS → Prop) : Prop := ∀ (n : Nat) (σ τ : nS) (x1 : Int32), n < 512 → Inv n σ τ → ∃ (r : Int32) (σ1 τ1 : nS), f_X8_log N x1 σ = some (r, σ1) ∧ f_X11_log N x1 τ = some (r, τ1) ∧ Inv (n + 1) σ1 τ1
set_option maxHeartbeats 4000000 in
set_option maxRecDepth 100000 in
theorem law_case_22 {p : Program} {l : Launch} {e : Env} {s : State} {m : MethodId} {below : List Frame} {meth : Method} {c : Code} {D : va_G} {cy : Nat → ClassId} {a b kt vt : Nat → Nat} {bb L : Nat} {xs : Nat → Int32} {N k : Nat} {x3 : Int32} {Inv : Nat → nS → nS → Prop} (hL : L ≤ 4096) (C0 : lw_At p s m meth c bb L xs) (hC : lwC s D cy a b kt vt) (hk : 8 * k + 8 ≤ L) (ex3 : x3 = nI (8 * k)) (hop : nOp22 N Inv) (K : lwA p l e s m below meth c D cy a b bb x3 (Inv (k + 1)) 1059) : lwA p l e s m below meth c D cy a b bb x3 (Inv k) 860 := by
  obtain ⟨hx, hb, hr, hml, hown, htl, hX, hbl, hlocks, hgv⟩ := C0
  have hb : c.code = cL_law := hb
  obtain ⟨hE1, hE2, h01, h02, hdis⟩ := hC
  have hA0 : ∀ q : Nat, q < s.heap.size → ¬ (fun q : Nat => s.heap.size ≤ q) q := fun q h => Nat.not_le.mpr h
  have hbA : ¬ (fun q : Nat => s.heap.size ≤ q) bb := Nat.not_le.mpr hbl
  intro σ τ H locs ls hI hP1 hP2 hS hl
  obtain ⟨r, σ1, τ1, hf, hg, hI1⟩ := hop k σ τ (xs (8 * k + 1)) (by omega) hI
  refine lv_aload_n hx hb dL_law_860 rfl (lv_at hl 1 rfl) ?_
  refine lv_aload_n hx hb dL_law_861 rfl (lv_at hl 0 rfl) ?_
  refine lv_iload_n hx hb dL_law_862 rfl (lv_at hl 3 rfl) ?_
  refine lv_iconst (v := 1) hx hb dL_law_863 (by decide) ?_
  refine lv_iadd hx hb dL_law_864 ?_
  refine lw_sld hx hb hX hbl hbA hS (k := 8 * k + 1) (lw_ix ex3 1) (by omega) (by omega) dL_law_865 ?_
  refine lw_call (As := [.int (xs (8 * k + 1))]) (rest := []) ⟨hx, hb, hml, hown, htl⟩ (c_X8_log (D := D) (A := nA1 a 36) (cy := cy) (a := a) (kt := kt) (vt := vt) (l := l) hf) (cwV 1 htl gW_X8_log rfl rfl rfl (by decide +kernel) ⟨Nat.le_of_ble_eq_true rfl, Nat.le_of_ble_eq_true rfl⟩) hE1 hP1 hS h01 hA0 ⟨Nat.le_of_ble_eq_true rfl, Nat.le_of_ble_eq_true rfl⟩ nbo_0 rfl rfl hl.1 rfl (Nat.le_of_ble_eq_true rfl) dL_law_866 (fun H2 locs2 hP1 hk1 hS => ?_)
  have hP2 := lw_keep hP2 hk1 (fun k q h z => hdis q.1 z ⟨k, nw_M h⟩)
  refine lv_aload_n hx hb dL_law_869 rfl (lv_at hl 2 rfl) ?_
  refine lv_aload_n hx hb dL_law_870 rfl (lv_at hl 0 rfl) ?_
  refine lv_iload_n hx hb dL_law_871 rfl (lv_at hl 3 rfl) ?_
  refine lv_iconst (v := 1) hx hb dL_law_872 (by decide) ?_
  refine lv_iadd hx hb dL_law_873 ?_
  refine lw_sld hx hb hX hbl hbA hS (k := 8 * k + 1) (lw_ix ex3 1) (by omega) (by omega) dL_law_874 ?_
  refine lw_call (As := [.int (xs (8 * k + 1))]) (rest := [.int r]) ⟨hx, hb, hml, hown, htl⟩ (c_X11_log (D := D) (A := nA1 b 29) (cy := cy) (a := b) (kt := kt) (vt := vt) (l := l) hg) (cwV 1 htl gW_X11_log rfl rfl rfl (by decide +kernel) ⟨Nat.le_of_ble_eq_true rfl, Nat.le_of_ble_eq_true rfl⟩) hE2 hP2 hS h02 hA0 ⟨Nat.le_of_ble_eq_true rfl, Nat.le_of_ble_eq_true rfl⟩ mbo_0 rfl rfl hl.1 rfl (Nat.le_of_ble_eq_true rfl) dL_law_875 (fun H2 locs2 hP2 hk1 hS => ?_)
  have hP1 := lw_keep hP1 hk1 (fun k q h z => hdis q.1 ⟨k, nw_NB h⟩ z)
  refine lv_icmp_eq (tgt := 1059) hx hb dL_law_878 (by decide) (fun hc => ?_) (fun hc => absurd rfl hc)
  exact K σ1 τ1 _ _ ls hI1 hP1 hP2 hS hl
/-- op 23 -/
def nOp23 (N : Nat) (Inv : Nat → nS → nS → Prop) : Prop := ∀ (n : Nat) (σ τ : nS) , n < 512 → Inv n σ τ → ∃ (r : Int32) (σ1 τ1 : nS), f_X8_clear N σ = some (r, σ1) ∧ f_X11_clear N τ = some (r, τ1) ∧ Inv (n + 1) σ1 τ1
set_option maxHeartbeats 4000000 in
set_option maxRecDepth 100000 in
theorem law_case_23 {p : Program} {l : Launch} {e : Env} {s : State} {m : MethodId} {below : List Frame} {meth : Method} {c : Code} {D : va_G} {cy : Nat → ClassId} {a b kt vt : Nat → Nat} {bb L : Nat} {xs : Nat → Int32} {N k : Nat} {x3 : Int32} {Inv : Nat → nS → nS → Prop} (hL : L ≤ 4096) (C0 : lw_At p s m meth c bb L xs) (hC : lwC s D cy a b kt vt) (hk : 8 * k + 8 ≤ L) (ex3 : x3 = nI (8 * k)) (hop : nOp23 N Inv) (K : lwA p l e s m below meth c D cy a b bb x3 (Inv (k + 1)) 1059) : lwA p l e s m below meth c D cy a b bb x3 (Inv k) 883 := by
  obtain ⟨hx, hb, hr, hml, hown, htl, hX, hbl, hlocks, hgv⟩ := C0
  have hb : c.code = cL_law := hb
  obtain ⟨hE1, hE2, h01, h02, hdis⟩ := hC
  have hA0 : ∀ q : Nat, q < s.heap.size → ¬ (fun q : Nat => s.heap.size ≤ q) q := fun q h => Nat.not_le.mpr h
  have hbA : ¬ (fun q : Nat => s.heap.size ≤ q) bb := Nat.not_le.mpr hbl
  intro σ τ H locs ls hI hP1 hP2 hS hl
  obtain ⟨r, σ1, τ1, hf, hg, hI1⟩ := hop k σ τ (by omega) hI
  refine lv_aload_n hx hb dL_law_883 rfl (lv_at hl 1 rfl) ?_
  refine lw_call (As := []) (rest := []) ⟨hx, hb, hml, hown, htl⟩ (c_X8_clear (D := D) (A := nA1 a 36) (cy := cy) (a := a) (kt := kt) (vt := vt) (l := l) hf) (cwV 0 htl gW_X8_clear rfl rfl rfl (by decide +kernel) ⟨Nat.le_of_ble_eq_true rfl, Nat.le_of_ble_eq_true rfl⟩) hE1 hP1 hS h01 hA0 ⟨Nat.le_of_ble_eq_true rfl, Nat.le_of_ble_eq_true rfl⟩ nbo_0 rfl rfl hl.1 rfl (Nat.le_of_ble_eq_true rfl) dL_law_884 (fun H2 locs2 hP1 hk1 hS => ?_)
  have hP2 := lw_keep hP2 hk1 (fun k q h z => hdis q.1 z ⟨k, nw_M h⟩)
  refine lv_aload_n hx hb dL_law_887 rfl (lv_at hl 2 rfl) ?_
  refine lw_call (As := []) (rest := [.int r]) ⟨hx, hb, hml, hown, htl⟩ (c_X11_clear (D := D) (A := nA1 b 29) (cy := cy) (a := b) (kt := kt) (vt := vt) (l := l) hg) (cwV 0 htl gW_X11_clear rfl rfl rfl (by decide +kernel) ⟨Nat.le_of_ble_eq_true rfl, Nat.le_of_ble_eq_true rfl⟩) hE2 hP2 hS h02 hA0 ⟨Nat.le_of_ble_eq_true rfl, Nat.le_of_ble_eq_true rfl⟩ mbo_0 rfl rfl hl.1 rfl (Nat.le_of_ble_eq_true rfl) dL_law_888 (fun H2 locs2 hP2 hk1 hS => ?_)
  have hP1 := lw_keep hP1 hk1 (fun k q h z => hdis q.1 ⟨k, nw_NB h⟩ z)
  refine lv_icmp_eq (tgt := 1059) hx hb dL_law_891 (by decide) (fun hc => ?_) (fun hc => absurd rfl hc)
  exact K σ1 τ1 _ _ ls hI1 hP1 hP2 hS hl
/-- op 24 -/
def nOp24 (N : Nat) (Inv : Nat → nS → nS → Prop) : Prop := ∀ (n : Nat) (σ τ : nS) , n < 512 → Inv n σ τ → ∃ (r : Int32) (σ1 τ1 : nS), f_X8_laid N σ = some (r, σ1) ∧ f_X11_laid N τ = some (r, τ1) ∧ Inv (n + 1) σ1 τ1
set_option maxHeartbeats 4000000 in
set_option maxRecDepth 100000 in
theorem law_case_24 {p : Program} {l : Launch} {e : Env} {s : State} {m : MethodId} {below : List Frame} {meth : Method} {c : Code} {D : va_G} {cy : Nat → ClassId} {a b kt vt : Nat → Nat} {bb L : Nat} {xs : Nat → Int32} {N k : Nat} {x3 : Int32} {Inv : Nat → nS → nS → Prop} (hL : L ≤ 4096) (C0 : lw_At p s m meth c bb L xs) (hC : lwC s D cy a b kt vt) (hk : 8 * k + 8 ≤ L) (ex3 : x3 = nI (8 * k)) (hop : nOp24 N Inv) (K : lwA p l e s m below meth c D cy a b bb x3 (Inv (k + 1)) 1059) : lwA p l e s m below meth c D cy a b bb x3 (Inv k) 896 := by
  obtain ⟨hx, hb, hr, hml, hown, htl, hX, hbl, hlocks, hgv⟩ := C0
  have hb : c.code = cL_law := hb
  obtain ⟨hE1, hE2, h01, h02, hdis⟩ := hC
  have hA0 : ∀ q : Nat, q < s.heap.size → ¬ (fun q : Nat => s.heap.size ≤ q) q := fun q h => Nat.not_le.mpr h
  have hbA : ¬ (fun q : Nat => s.heap.size ≤ q) bb := Nat.not_le.mpr hbl
  intro σ τ H locs ls hI hP1 hP2 hS hl
  obtain ⟨r, σ1, τ1, hf, hg, hI1⟩ := hop k σ τ (by omega) hI
  refine lv_aload_n hx hb dL_law_896 rfl (lv_at hl 1 rfl) ?_
  refine lw_call (As := []) (rest := []) ⟨hx, hb, hml, hown, htl⟩ (c_X8_laid (D := D) (A := nA1 a 36) (cy := cy) (a := a) (kt := kt) (vt := vt) (l := l) hf) (cwV 0 htl gW_X8_laid rfl rfl rfl (by decide +kernel) ⟨Nat.le_of_ble_eq_true rfl, Nat.le_of_ble_eq_true rfl⟩) hE1 hP1 hS h01 hA0 ⟨Nat.le_of_ble_eq_true rfl, Nat.le_of_ble_eq_true rfl⟩ nbo_0 rfl rfl hl.1 rfl (Nat.le_of_ble_eq_true rfl) dL_law_897 (fun H2 locs2 hP1 hk1 hS => ?_)
  have hP2 := lw_keep hP2 hk1 (fun k q h z => hdis q.1 z ⟨k, nw_M h⟩)
  refine lv_aload_n hx hb dL_law_900 rfl (lv_at hl 2 rfl) ?_
  refine lw_call (As := []) (rest := [.int r]) ⟨hx, hb, hml, hown, htl⟩ (c_X11_laid (D := D) (A := nA1 b 29) (cy := cy) (a := b) (kt := kt) (vt := vt) (l := l) hg) (cwV 0 htl gW_X11_laid rfl rfl rfl (by decide +kernel) ⟨Nat.le_of_ble_eq_true rfl, Nat.le_of_ble_eq_true rfl⟩) hE2 hP2 hS h02 hA0 ⟨Nat.le_of_ble_eq_true rfl, Nat.le_of_ble_eq_true rfl⟩ mbo_0 rfl rfl hl.1 rfl (Nat.le_of_ble_eq_true rfl) dL_law_901 (fun H2 locs2 hP2 hk1 hS => ?_)
  have hP1 := lw_keep hP1 hk1 (fun k q h z => hdis q.1 ⟨k, nw_NB h⟩ z)
  refine lv_icmp_eq (tgt := 1059) hx hb dL_law_904 (by decide) (fun hc => ?_) (fun hc => absurd rfl hc)
  exact K σ1 τ1 _ _ ls hI1 hP1 hP2 hS hl
/-- op 25 -/
def nOp25 (N : Nat) (Inv : Nat → nS → nS → Prop) : Prop := ∀ (n : Nat) (σ τ : nS) (x1 : Int32), (x1 = 0 ∨ x1 = 1) → n < 512 → Inv n σ τ → ∃ (r : Int32) (σ1 τ1 : nS), f_X8_apart N x1 σ = some (r, σ1) ∧ f_X11_apart N x1 τ = some (r, τ1) ∧ Inv (n + 1) σ1 τ1
set_option maxHeartbeats 4000000 in
set_option maxRecDepth 100000 in
theorem law_case_25 {p : Program} {l : Launch} {e : Env} {s : State} {m : MethodId} {below : List Frame} {meth : Method} {c : Code} {D : va_G} {cy : Nat → ClassId} {a b kt vt : Nat → Nat} {bb L : Nat} {xs : Nat → Int32} {N k : Nat} {x3 : Int32} {Inv : Nat → nS → nS → Prop} (hL : L ≤ 4096) (C0 : lw_At p s m meth c bb L xs) (hC : lwC s D cy a b kt vt) (hk : 8 * k + 8 ≤ L) (ex3 : x3 = nI (8 * k)) (hop : nOp25 N Inv) (K : lwA p l e s m below meth c D cy a b bb x3 (Inv (k + 1)) 1059) : lwA p l e s m below meth c D cy a b bb x3 (Inv k) 909 := by
  obtain ⟨hx, hb, hr, hml, hown, htl, hX, hbl, hlocks, hgv⟩ := C0
  have hb : c.code = cL_law := hb
  obtain ⟨hE1, hE2, h01, h02, hdis⟩ := hC
  have hA0 : ∀ q : Nat, q < s.heap.size → ¬ (fun q : Nat => s.heap.size ≤ q) q := fun q h => Nat.not_le.mpr h
  have hbA : ¬ (fun q : Nat => s.heap.size ≤ q) bb := Nat.not_le.mpr hbl
  intro σ τ H locs ls hI hP1 hP2 hS hl
  by_cases hz : (xs (8 * k + 1)) = 0
  · obtain ⟨r, σ1, τ1, hf, hg, hI1⟩ := hop k σ τ 0 (Or.inl rfl) (by omega) hI
    refine lv_aload_n hx hb dL_law_909 rfl (lv_at hl 1 rfl) ?_
    refine lv_aload_n hx hb dL_law_910 rfl (lv_at hl 0 rfl) ?_
    refine lv_iload_n hx hb dL_law_911 rfl (lv_at hl 3 rfl) ?_
    refine lv_iconst (v := 1) hx hb dL_law_912 (by decide) ?_
    refine lv_iadd hx hb dL_law_913 ?_
    refine lw_sld hx hb hX hbl hbA hS (k := 8 * k + 1) (lw_ix ex3 1) (by omega) (by omega) dL_law_914 ?_
    refine lv_if_eq (tgt := 922) hx hb dL_law_915 (by decide) (fun hc => ?_) (fun hc => absurd hz hc)
    refine lv_iconst (v := 0) hx hb dL_law_922 (by decide) ?_
    refine lw_call (As := [.int 0]) (rest := []) ⟨hx, hb, hml, hown, htl⟩ (c_X8_apart (D := D) (A := nA1 a 36) (cy := cy) (a := a) (kt := kt) (vt := vt) (l := l) hf) (cwV 1 htl gW_X8_apart rfl rfl rfl (by decide +kernel) ⟨Nat.le_of_ble_eq_true rfl, Nat.le_of_ble_eq_true rfl⟩) hE1 hP1 hS h01 hA0 ⟨Nat.le_of_ble_eq_true rfl, Nat.le_of_ble_eq_true rfl⟩ nbo_0 rfl rfl hl.1 rfl (Nat.le_of_ble_eq_true rfl) dL_law_923 (fun H2 locs2 hP1 hk1 hS => ?_)
    have hP2 := lw_keep hP2 hk1 (fun k q h z => hdis q.1 z ⟨k, nw_M h⟩)
    refine lv_aload_n hx hb dL_law_926 rfl (lv_at hl 2 rfl) ?_
    refine lv_aload_n hx hb dL_law_927 rfl (lv_at hl 0 rfl) ?_
    refine lv_iload_n hx hb dL_law_928 rfl (lv_at hl 3 rfl) ?_
    refine lv_iconst (v := 1) hx hb dL_law_929 (by decide) ?_
    refine lv_iadd hx hb dL_law_930 ?_
    refine lw_sld hx hb hX hbl hbA hS (k := 8 * k + 1) (lw_ix ex3 1) (by omega) (by omega) dL_law_931 ?_
    refine lv_if_eq (tgt := 939) hx hb dL_law_932 (by decide) (fun hc => ?_) (fun hc => absurd hz hc)
    refine lv_iconst (v := 0) hx hb dL_law_939 (by decide) ?_
    refine lw_call (As := [.int 0]) (rest := [.int r]) ⟨hx, hb, hml, hown, htl⟩ (c_X11_apart (D := D) (A := nA1 b 29) (cy := cy) (a := b) (kt := kt) (vt := vt) (l := l) hg) (cwV 1 htl gW_X11_apart rfl rfl rfl (by decide +kernel) ⟨Nat.le_of_ble_eq_true rfl, Nat.le_of_ble_eq_true rfl⟩) hE2 hP2 hS h02 hA0 ⟨Nat.le_of_ble_eq_true rfl, Nat.le_of_ble_eq_true rfl⟩ mbo_0 rfl rfl hl.1 rfl (Nat.le_of_ble_eq_true rfl) dL_law_940 (fun H2 locs2 hP2 hk1 hS => ?_)
    have hP1 := lw_keep hP1 hk1 (fun k q h z => hdis q.1 ⟨k, nw_NB h⟩ z)
    refine lv_icmp_eq (tgt := 1059) hx hb dL_law_943 (by decide) (fun hc => ?_) (fun hc => absurd rfl hc)
    exact K σ1 τ1 _ _ ls hI1 hP1 hP2 hS hl
  · obtain ⟨r, σ1, τ1, hf, hg, hI1⟩ := hop k σ τ 1 (Or.inr rfl) (by omega) hI
    refine lv_aload_n hx hb dL_law_909 rfl (lv_at hl 1 rfl) ?_
    refine lv_aload_n hx hb dL_law_910 rfl (lv_at hl 0 rfl) ?_
    refine lv_iload_n hx hb dL_law_911 rfl (lv_at hl 3 rfl) ?_
    refine lv_iconst (v := 1) hx hb dL_law_912 (by decide) ?_
    refine lv_iadd hx hb dL_law_913 ?_
    refine lw_sld hx hb hX hbl hbA hS (k := 8 * k + 1) (lw_ix ex3 1) (by omega) (by omega) dL_law_914 ?_
    refine lv_if_eq (tgt := 922) hx hb dL_law_915 (by decide) (fun hc => absurd hc hz) (fun hc => ?_)
    refine lv_iconst (v := 1) hx hb dL_law_918 (by decide) ?_
    refine lv_goto (tgt := 923) hx hb dL_law_919 (by decide) ?_
    refine lw_call (As := [.int 1]) (rest := []) ⟨hx, hb, hml, hown, htl⟩ (c_X8_apart (D := D) (A := nA1 a 36) (cy := cy) (a := a) (kt := kt) (vt := vt) (l := l) hf) (cwV 1 htl gW_X8_apart rfl rfl rfl (by decide +kernel) ⟨Nat.le_of_ble_eq_true rfl, Nat.le_of_ble_eq_true rfl⟩) hE1 hP1 hS h01 hA0 ⟨Nat.le_of_ble_eq_true rfl, Nat.le_of_ble_eq_true rfl⟩ nbo_0 rfl rfl hl.1 rfl (Nat.le_of_ble_eq_true rfl) dL_law_923 (fun H2 locs2 hP1 hk1 hS => ?_)
    have hP2 := lw_keep hP2 hk1 (fun k q h z => hdis q.1 z ⟨k, nw_M h⟩)
    refine lv_aload_n hx hb dL_law_926 rfl (lv_at hl 2 rfl) ?_
    refine lv_aload_n hx hb dL_law_927 rfl (lv_at hl 0 rfl) ?_
    refine lv_iload_n hx hb dL_law_928 rfl (lv_at hl 3 rfl) ?_
    refine lv_iconst (v := 1) hx hb dL_law_929 (by decide) ?_
    refine lv_iadd hx hb dL_law_930 ?_
    refine lw_sld hx hb hX hbl hbA hS (k := 8 * k + 1) (lw_ix ex3 1) (by omega) (by omega) dL_law_931 ?_
    refine lv_if_eq (tgt := 939) hx hb dL_law_932 (by decide) (fun hc => absurd hc hz) (fun hc => ?_)
    refine lv_iconst (v := 1) hx hb dL_law_935 (by decide) ?_
    refine lv_goto (tgt := 940) hx hb dL_law_936 (by decide) ?_
    refine lw_call (As := [.int 1]) (rest := [.int r]) ⟨hx, hb, hml, hown, htl⟩ (c_X11_apart (D := D) (A := nA1 b 29) (cy := cy) (a := b) (kt := kt) (vt := vt) (l := l) hg) (cwV 1 htl gW_X11_apart rfl rfl rfl (by decide +kernel) ⟨Nat.le_of_ble_eq_true rfl, Nat.le_of_ble_eq_true rfl⟩) hE2 hP2 hS h02 hA0 ⟨Nat.le_of_ble_eq_true rfl, Nat.le_of_ble_eq_true rfl⟩ mbo_0 rfl rfl hl.1 rfl (Nat.le_of_ble_eq_true rfl) dL_law_940 (fun H2 locs2 hP2 hk1 hS => ?_)
    have hP1 := lw_keep hP1 hk1 (fun k q h z => hdis q.1 ⟨k, nw_NB h⟩ z)
    refine lv_icmp_eq (tgt := 1059) hx hb dL_law_943 (by decide) (fun hc => ?_) (fun hc => absurd rfl hc)
    exact K σ1 τ1 _ _ ls hI1 hP1 hP2 hS hl
/-- op 26 -/
def nOp26 (N : Nat) (Inv : Nat → nS → nS → Prop) : Prop := ∀ (n : Nat) (σ τ : nS) (x1 x2 x3 x4 x5 x6 : Int32), n < 512 → Inv n σ τ → ∃ (r : Int32) (σ1 τ1 : nS), f_X8_differ N x1 x2 x3 x4 x5 x6 σ = some (r, σ1) ∧ f_X11_differ N x1 x2 x3 x4 x5 x6 τ = some (r, τ1) ∧ Inv (n + 1) σ1 τ1
set_option maxHeartbeats 4000000 in
set_option maxRecDepth 100000 in
theorem law_case_26 {p : Program} {l : Launch} {e : Env} {s : State} {m : MethodId} {below : List Frame} {meth : Method} {c : Code} {D : va_G} {cy : Nat → ClassId} {a b kt vt : Nat → Nat} {bb L : Nat} {xs : Nat → Int32} {N k : Nat} {x3 : Int32} {Inv : Nat → nS → nS → Prop} (hL : L ≤ 4096) (C0 : lw_At p s m meth c bb L xs) (hC : lwC s D cy a b kt vt) (hk : 8 * k + 8 ≤ L) (ex3 : x3 = nI (8 * k)) (hop : nOp26 N Inv) (K : lwA p l e s m below meth c D cy a b bb x3 (Inv (k + 1)) 1059) : lwA p l e s m below meth c D cy a b bb x3 (Inv k) 948 := by
  obtain ⟨hx, hb, hr, hml, hown, htl, hX, hbl, hlocks, hgv⟩ := C0
  have hb : c.code = cL_law := hb
  obtain ⟨hE1, hE2, h01, h02, hdis⟩ := hC
  have hA0 : ∀ q : Nat, q < s.heap.size → ¬ (fun q : Nat => s.heap.size ≤ q) q := fun q h => Nat.not_le.mpr h
  have hbA : ¬ (fun q : Nat => s.heap.size ≤ q) bb := Nat.not_le.mpr hbl
  intro σ τ H locs ls hI hP1 hP2 hS hl
  obtain ⟨r, σ1, τ1, hf, hg, hI1⟩ := hop k σ τ (xs (8 * k + 1)) (xs (8 * k + 2)) (xs (8 * k + 3)) (xs (8 * k + 4)) (xs (8 * k + 5)) (xs (8 * k + 6)) (by omega) hI
  refine lv_aload_n hx hb dL_law_948 rfl (lv_at hl 1 rfl) ?_
  refine lv_aload_n hx hb dL_law_949 rfl (lv_at hl 0 rfl) ?_
  refine lv_iload_n hx hb dL_law_950 rfl (lv_at hl 3 rfl) ?_
  refine lv_iconst (v := 1) hx hb dL_law_951 (by decide) ?_
  refine lv_iadd hx hb dL_law_952 ?_
  refine lw_sld hx hb hX hbl hbA hS (k := 8 * k + 1) (lw_ix ex3 1) (by omega) (by omega) dL_law_953 ?_
  refine lv_aload_n hx hb dL_law_954 rfl (lv_at hl 0 rfl) ?_
  refine lv_iload_n hx hb dL_law_955 rfl (lv_at hl 3 rfl) ?_
  refine lv_iconst (v := 2) hx hb dL_law_956 (by decide) ?_
  refine lv_iadd hx hb dL_law_957 ?_
  refine lw_sld hx hb hX hbl hbA hS (k := 8 * k + 2) (lw_ix ex3 2) (by omega) (by omega) dL_law_958 ?_
  refine lv_aload_n hx hb dL_law_959 rfl (lv_at hl 0 rfl) ?_
  refine lv_iload_n hx hb dL_law_960 rfl (lv_at hl 3 rfl) ?_
  refine lv_iconst (v := 3) hx hb dL_law_961 (by decide) ?_
  refine lv_iadd hx hb dL_law_962 ?_
  refine lw_sld hx hb hX hbl hbA hS (k := 8 * k + 3) (lw_ix ex3 3) (by omega) (by omega) dL_law_963 ?_
  refine lv_aload_n hx hb dL_law_964 rfl (lv_at hl 0 rfl) ?_
  refine lv_iload_n hx hb dL_law_965 rfl (lv_at hl 3 rfl) ?_
  refine lv_iconst (v := 4) hx hb dL_law_966 (by decide) ?_
  refine lv_iadd hx hb dL_law_967 ?_
  refine lw_sld hx hb hX hbl hbA hS (k := 8 * k + 4) (lw_ix ex3 4) (by omega) (by omega) dL_law_968 ?_
  refine lv_aload_n hx hb dL_law_969 rfl (lv_at hl 0 rfl) ?_
  refine lv_iload_n hx hb dL_law_970 rfl (lv_at hl 3 rfl) ?_
  refine lv_iconst (v := 5) hx hb dL_law_971 (by decide) ?_
  refine lv_iadd hx hb dL_law_972 ?_
  refine lw_sld hx hb hX hbl hbA hS (k := 8 * k + 5) (lw_ix ex3 5) (by omega) (by omega) dL_law_973 ?_
  refine lv_aload_n hx hb dL_law_974 rfl (lv_at hl 0 rfl) ?_
  refine lv_iload_n hx hb dL_law_975 rfl (lv_at hl 3 rfl) ?_
  refine lv_bipush (v := 6) hx hb dL_law_976 (by decide) ?_
  refine lv_iadd hx hb dL_law_978 ?_
  refine lw_sld hx hb hX hbl hbA hS (k := 8 * k + 6) (lw_ix ex3 6) (by omega) (by omega) dL_law_979 ?_
  refine lw_call (As := [.int (xs (8 * k + 1)), .int (xs (8 * k + 2)), .int (xs (8 * k + 3)), .int (xs (8 * k + 4)), .int (xs (8 * k + 5)), .int (xs (8 * k + 6))]) (rest := []) ⟨hx, hb, hml, hown, htl⟩ (c_X8_differ (D := D) (A := nA1 a 36) (cy := cy) (a := a) (kt := kt) (vt := vt) (l := l) hf) (cwV 6 htl gW_X8_differ rfl rfl rfl (by decide +kernel) ⟨Nat.le_of_ble_eq_true rfl, Nat.le_of_ble_eq_true rfl⟩) hE1 hP1 hS h01 hA0 ⟨Nat.le_of_ble_eq_true rfl, Nat.le_of_ble_eq_true rfl⟩ nbo_0 rfl rfl hl.1 rfl (Nat.le_of_ble_eq_true rfl) dL_law_980 (fun H2 locs2 hP1 hk1 hS => ?_)
  have hP2 := lw_keep hP2 hk1 (fun k q h z => hdis q.1 z ⟨k, nw_M h⟩)
  refine lv_aload_n hx hb dL_law_983 rfl (lv_at hl 2 rfl) ?_
  refine lv_aload_n hx hb dL_law_984 rfl (lv_at hl 0 rfl) ?_
  refine lv_iload_n hx hb dL_law_985 rfl (lv_at hl 3 rfl) ?_
  refine lv_iconst (v := 1) hx hb dL_law_986 (by decide) ?_
  refine lv_iadd hx hb dL_law_987 ?_
  refine lw_sld hx hb hX hbl hbA hS (k := 8 * k + 1) (lw_ix ex3 1) (by omega) (by omega) dL_law_988 ?_
  refine lv_aload_n hx hb dL_law_989 rfl (lv_at hl 0 rfl) ?_
  refine lv_iload_n hx hb dL_law_990 rfl (lv_at hl 3 rfl) ?_
  refine lv_iconst (v := 2) hx hb dL_law_991 (by decide) ?_
  refine lv_iadd hx hb dL_law_992 ?_
  refine lw_sld hx hb hX hbl hbA hS (k := 8 * k + 2) (lw_ix ex3 2) (by omega) (by omega) dL_law_993 ?_
  refine lv_aload_n hx hb dL_law_994 rfl (lv_at hl 0 rfl) ?_
  refine lv_iload_n hx hb dL_law_995 rfl (lv_at hl 3 rfl) ?_
  refine lv_iconst (v := 3) hx hb dL_law_996 (by decide) ?_
  refine lv_iadd hx hb dL_law_997 ?_
  refine lw_sld hx hb hX hbl hbA hS (k := 8 * k + 3) (lw_ix ex3 3) (by omega) (by omega) dL_law_998 ?_
  refine lv_aload_n hx hb dL_law_999 rfl (lv_at hl 0 rfl) ?_
  refine lv_iload_n hx hb dL_law_1000 rfl (lv_at hl 3 rfl) ?_
  refine lv_iconst (v := 4) hx hb dL_law_1001 (by decide) ?_
  refine lv_iadd hx hb dL_law_1002 ?_
  refine lw_sld hx hb hX hbl hbA hS (k := 8 * k + 4) (lw_ix ex3 4) (by omega) (by omega) dL_law_1003 ?_
  refine lv_aload_n hx hb dL_law_1004 rfl (lv_at hl 0 rfl) ?_
  refine lv_iload_n hx hb dL_law_1005 rfl (lv_at hl 3 rfl) ?_
  refine lv_iconst (v := 5) hx hb dL_law_1006 (by decide) ?_
  refine lv_iadd hx hb dL_law_1007 ?_
  refine lw_sld hx hb hX hbl hbA hS (k := 8 * k + 5) (lw_ix ex3 5) (by omega) (by omega) dL_law_1008 ?_
  refine lv_aload_n hx hb dL_law_1009 rfl (lv_at hl 0 rfl) ?_
  refine lv_iload_n hx hb dL_law_1010 rfl (lv_at hl 3 rfl) ?_
  refine lv_bipush (v := 6) hx hb dL_law_1011 (by decide) ?_
  refine lv_iadd hx hb dL_law_1013 ?_
  refine lw_sld hx hb hX hbl hbA hS (k := 8 * k + 6) (lw_ix ex3 6) (by omega) (by omega) dL_law_1014 ?_
  refine lw_call (As := [.int (xs (8 * k + 1)), .int (xs (8 * k + 2)), .int (xs (8 * k + 3)), .int (xs (8 * k + 4)), .int (xs (8 * k + 5)), .int (xs (8 * k + 6))]) (rest := [.int r]) ⟨hx, hb, hml, hown, htl⟩ (c_X11_differ (D := D) (A := nA1 b 29) (cy := cy) (a := b) (kt := kt) (vt := vt) (l := l) hg) (cwV 6 htl gW_X11_differ rfl rfl rfl (by decide +kernel) ⟨Nat.le_of_ble_eq_true rfl, Nat.le_of_ble_eq_true rfl⟩) hE2 hP2 hS h02 hA0 ⟨Nat.le_of_ble_eq_true rfl, Nat.le_of_ble_eq_true rfl⟩ mbo_0 rfl rfl hl.1 rfl (Nat.le_of_ble_eq_true rfl) dL_law_1015 (fun H2 locs2 hP2 hk1 hS => ?_)
  have hP1 := lw_keep hP1 hk1 (fun k q h z => hdis q.1 ⟨k, nw_NB h⟩ z)
  refine lv_icmp_eq (tgt := 1059) hx hb dL_law_1018 (by decide) (fun hc => ?_) (fun hc => absurd rfl hc)
  exact K σ1 τ1 _ _ ls hI1 hP1 hP2 hS hl
/-- op 27 -/
def nOp27 (N : Nat) (Inv : Nat → nS → nS → Prop) : Prop := ∀ (n : Nat) (σ τ : nS) (x1 : Int32), n < 512 → Inv n σ τ → ∃ (r : Int32) (σ1 τ1 : nS), f_X8_count N x1 σ = some (r, σ1) ∧ f_X11_count N x1 τ = some (r, τ1) ∧ Inv (n + 1) σ1 τ1
set_option maxHeartbeats 4000000 in
set_option maxRecDepth 100000 in
theorem law_case_27 {p : Program} {l : Launch} {e : Env} {s : State} {m : MethodId} {below : List Frame} {meth : Method} {c : Code} {D : va_G} {cy : Nat → ClassId} {a b kt vt : Nat → Nat} {bb L : Nat} {xs : Nat → Int32} {N k : Nat} {x3 : Int32} {Inv : Nat → nS → nS → Prop} (hL : L ≤ 4096) (C0 : lw_At p s m meth c bb L xs) (hC : lwC s D cy a b kt vt) (hk : 8 * k + 8 ≤ L) (ex3 : x3 = nI (8 * k)) (hop : nOp27 N Inv) (K : lwA p l e s m below meth c D cy a b bb x3 (Inv (k + 1)) 1059) : lwA p l e s m below meth c D cy a b bb x3 (Inv k) 1023 := by
  obtain ⟨hx, hb, hr, hml, hown, htl, hX, hbl, hlocks, hgv⟩ := C0
  have hb : c.code = cL_law := hb
  obtain ⟨hE1, hE2, h01, h02, hdis⟩ := hC
  have hA0 : ∀ q : Nat, q < s.heap.size → ¬ (fun q : Nat => s.heap.size ≤ q) q := fun q h => Nat.not_le.mpr h
  have hbA : ¬ (fun q : Nat => s.heap.size ≤ q) bb := Nat.not_le.mpr hbl
  intro σ τ H locs ls hI hP1 hP2 hS hl
  obtain ⟨r, σ1, τ1, hf, hg, hI1⟩ := hop k σ τ (xs (8 * k + 1)) (by omega) hI
  refine lv_aload_n hx hb dL_law_1023 rfl (lv_at hl 1 rfl) ?_
  refine lv_aload_n hx hb dL_law_1024 rfl (lv_at hl 0 rfl) ?_
  refine lv_iload_n hx hb dL_law_1025 rfl (lv_at hl 3 rfl) ?_
  refine lv_iconst (v := 1) hx hb dL_law_1026 (by decide) ?_
  refine lv_iadd hx hb dL_law_1027 ?_
  refine lw_sld hx hb hX hbl hbA hS (k := 8 * k + 1) (lw_ix ex3 1) (by omega) (by omega) dL_law_1028 ?_
  refine lw_call (As := [.int (xs (8 * k + 1))]) (rest := []) ⟨hx, hb, hml, hown, htl⟩ (c_X8_count (D := D) (A := nA1 a 36) (cy := cy) (a := a) (kt := kt) (vt := vt) (l := l) hf) (cwV 1 htl gW_X8_count rfl rfl rfl (by decide +kernel) ⟨Nat.le_of_ble_eq_true rfl, Nat.le_of_ble_eq_true rfl⟩) hE1 hP1 hS h01 hA0 ⟨Nat.le_of_ble_eq_true rfl, Nat.le_of_ble_eq_true rfl⟩ nbo_0 rfl rfl hl.1 rfl (Nat.le_of_ble_eq_true rfl) dL_law_1029 (fun H2 locs2 hP1 hk1 hS => ?_)
  have hP2 := lw_keep hP2 hk1 (fun k q h z => hdis q.1 z ⟨k, nw_M h⟩)
  refine lv_aload_n hx hb dL_law_1032 rfl (lv_at hl 2 rfl) ?_
  refine lv_aload_n hx hb dL_law_1033 rfl (lv_at hl 0 rfl) ?_
  refine lv_iload_n hx hb dL_law_1034 rfl (lv_at hl 3 rfl) ?_
  refine lv_iconst (v := 1) hx hb dL_law_1035 (by decide) ?_
  refine lv_iadd hx hb dL_law_1036 ?_
  refine lw_sld hx hb hX hbl hbA hS (k := 8 * k + 1) (lw_ix ex3 1) (by omega) (by omega) dL_law_1037 ?_
  refine lw_call (As := [.int (xs (8 * k + 1))]) (rest := [.int r]) ⟨hx, hb, hml, hown, htl⟩ (c_X11_count (D := D) (A := nA1 b 29) (cy := cy) (a := b) (kt := kt) (vt := vt) (l := l) hg) (cwV 1 htl gW_X11_count rfl rfl rfl (by decide +kernel) ⟨Nat.le_of_ble_eq_true rfl, Nat.le_of_ble_eq_true rfl⟩) hE2 hP2 hS h02 hA0 ⟨Nat.le_of_ble_eq_true rfl, Nat.le_of_ble_eq_true rfl⟩ mbo_0 rfl rfl hl.1 rfl (Nat.le_of_ble_eq_true rfl) dL_law_1038 (fun H2 locs2 hP2 hk1 hS => ?_)
  have hP1 := lw_keep hP1 hk1 (fun k q h z => hdis q.1 ⟨k, nw_NB h⟩ z)
  refine lv_icmp_eq (tgt := 1059) hx hb dL_law_1041 (by decide) (fun hc => ?_) (fun hc => absurd rfl hc)
  exact K σ1 τ1 _ _ ls hI1 hP1 hP2 hS hl
/-- op 28 -/
def nOp28 (N : Nat) (Inv : Nat → nS → nS → Prop) : Prop := ∀ (n : Nat) (σ τ : nS) , n < 512 → Inv n σ τ → ∃ (r : Int32) (σ1 τ1 : nS), f_X8_trouble N σ = some (r, σ1) ∧ f_X11_trouble N τ = some (r, τ1) ∧ Inv (n + 1) σ1 τ1
set_option maxHeartbeats 4000000 in
set_option maxRecDepth 100000 in
theorem law_case_28 {p : Program} {l : Launch} {e : Env} {s : State} {m : MethodId} {below : List Frame} {meth : Method} {c : Code} {D : va_G} {cy : Nat → ClassId} {a b kt vt : Nat → Nat} {bb L : Nat} {xs : Nat → Int32} {N k : Nat} {x3 : Int32} {Inv : Nat → nS → nS → Prop} (hL : L ≤ 4096) (C0 : lw_At p s m meth c bb L xs) (hC : lwC s D cy a b kt vt) (hk : 8 * k + 8 ≤ L) (ex3 : x3 = nI (8 * k)) (hop : nOp28 N Inv) (K : lwA p l e s m below meth c D cy a b bb x3 (Inv (k + 1)) 1059) : lwA p l e s m below meth c D cy a b bb x3 (Inv k) 1046 := by
  obtain ⟨hx, hb, hr, hml, hown, htl, hX, hbl, hlocks, hgv⟩ := C0
  have hb : c.code = cL_law := hb
  obtain ⟨hE1, hE2, h01, h02, hdis⟩ := hC
  have hA0 : ∀ q : Nat, q < s.heap.size → ¬ (fun q : Nat => s.heap.size ≤ q) q := fun q h => Nat.not_le.mpr h
  have hbA : ¬ (fun q : Nat => s.heap.size ≤ q) bb := Nat.not_le.mpr hbl
  intro σ τ H locs ls hI hP1 hP2 hS hl
  obtain ⟨r, σ1, τ1, hf, hg, hI1⟩ := hop k σ τ (by omega) hI
  refine lv_aload_n hx hb dL_law_1046 rfl (lv_at hl 1 rfl) ?_
  refine lw_call (As := []) (rest := []) ⟨hx, hb, hml, hown, htl⟩ (c_X8_trouble (D := D) (A := nA1 a 36) (cy := cy) (a := a) (kt := kt) (vt := vt) (l := l) hf) (cwV 0 htl gW_X8_trouble rfl rfl rfl (by decide +kernel) ⟨Nat.le_of_ble_eq_true rfl, Nat.le_of_ble_eq_true rfl⟩) hE1 hP1 hS h01 hA0 ⟨Nat.le_of_ble_eq_true rfl, Nat.le_of_ble_eq_true rfl⟩ nbo_0 rfl rfl hl.1 rfl (Nat.le_of_ble_eq_true rfl) dL_law_1047 (fun H2 locs2 hP1 hk1 hS => ?_)
  have hP2 := lw_keep hP2 hk1 (fun k q h z => hdis q.1 z ⟨k, nw_M h⟩)
  refine lv_aload_n hx hb dL_law_1050 rfl (lv_at hl 2 rfl) ?_
  refine lw_call (As := []) (rest := [.int r]) ⟨hx, hb, hml, hown, htl⟩ (c_X11_trouble (D := D) (A := nA1 b 29) (cy := cy) (a := b) (kt := kt) (vt := vt) (l := l) hg) (cwV 0 htl gW_X11_trouble rfl rfl rfl (by decide +kernel) ⟨Nat.le_of_ble_eq_true rfl, Nat.le_of_ble_eq_true rfl⟩) hE2 hP2 hS h02 hA0 ⟨Nat.le_of_ble_eq_true rfl, Nat.le_of_ble_eq_true rfl⟩ mbo_0 rfl rfl hl.1 rfl (Nat.le_of_ble_eq_true rfl) dL_law_1051 (fun H2 locs2 hP2 hk1 hS => ?_)
  have hP1 := lw_keep hP1 hk1 (fun k q h z => hdis q.1 ⟨k, nw_NB h⟩ z)
  refine lv_icmp_eq (tgt := 1059) hx hb dL_law_1054 (by decide) (fun hc => ?_) (fun hc => absurd rfl hc)
  exact K σ1 τ1 _ _ ls hI1 hP1 hP2 hS hl
