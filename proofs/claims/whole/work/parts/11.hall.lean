/-! X7_hasBook -/
set_option maxRecDepth 20000 in
theorem iX7_hasBook_X7 : ∀ w ∈ u_ws RX7 TX7 9, w ∈ wsX7_hasBook := fun _ h => List.mem_cons_of_mem _ (List.mem_append_right _ h)
set_option maxRecDepth 20000 in
theorem qX7_hasBook_21 : Cond.fieldLink RX7 21 RX7 (TX7 3).2.1 (TX7 3).2.2.1 ∈ wsX7_hasBook := by decide +kernel
def b_X7_hasBook_0 (N : Nat) (σ : nS) (x1 : Int32) : Option (Int32 × nS) := (if x1 < 0 then some (0, σ) else (if (σ.1 1 3) ≤ x1 then some (0, σ) else some (1, σ)))
set_option maxHeartbeats 4000000 in
set_option maxRecDepth 100000 in
theorem kb_X7_hasBook_0 {p : Program} {l : Launch} {e : Env} {s : State} {m : MethodId} {args : Array Value} {below : List Frame} {meth : Method} {c : Code} {D : va_G} {A : Nat → Prop} {cy : Nat → ClassId} {a kt vt : Nat → Nat} {N : Nat}   (C0 : nCx p s m args meth c cX7_hasBook 2 (some .boolean) RX7 wsX7_hasBook) (hE : nEn D A cy (NBw cy a) kt vt s) {z : Int32 × nS} : ∀ (σ : nS) (x1 : Int32) (H : Heap) (locs : List Loc) (ls : Array Slot), lv_has ls 2 [(0, .ref (a 1)), (1, .int x1)] → va_P D vwCl ((NBw cy a) σ) H → va_S A s.heap H locs → b_X7_hasBook_0 N σ x1 = some z → W p l e ({ frames := 0, cells := 0, slots := 0, locals := 0 } : Room) s m args below meth c H locs 0 0 (nQi below D A (NBw cy a) args s z) (F0 m 0 ls []) := by
  obtain ⟨hx, hb, hr, hml, hown, hts, hlocks⟩ := C0
  intro σ x1 H locs ls hl hP hS hf
  unfold b_X7_hasBook_0 at hf
  refine lv_iload_n hx hb dX7_hasBook_0 rfl (lv_at hl 1 rfl) ?_
  refine lv_if_lt (tgt := 16) hx hb dX7_hasBook_1 (by decide) (fun hc => ?_) (fun hc => ?_)
  · replace hf := nIf_t hc hf
    refine lv_iconst (v := 0) hx hb dX7_hasBook_16 (by decide) ?_
    exact nb_zret hx hb hr hlocks hP hS (nSo hf) rfl dX7_hasBook_17
  · replace hf := nIf_f hc hf
    refine lv_iload_n hx hb dX7_hasBook_4 rfl (lv_at hl 1 rfl) ?_
    refine lv_aload_n hx hb dX7_hasBook_5 rfl (lv_at hl 0 rfl) ?_
    refine nb_get (ci := 7) hx hb hts iX7_hasBook_X7 hown hE hP 1 nbo_1 rfl 3 (by decide) qX7_hasBook_21 rfl rfl dX7_hasBook_6 ?_
    refine lv_icmp_ge (tgt := 16) hx hb dX7_hasBook_9 (by decide) (fun hc => ?_) (fun hc => ?_)
    · replace hf := nIf_t hc hf
      refine lv_iconst (v := 0) hx hb dX7_hasBook_16 (by decide) ?_
      exact nb_zret hx hb hr hlocks hP hS (nSo hf) rfl dX7_hasBook_17
    · replace hf := nIf_f hc hf
      refine lv_iconst (v := 1) hx hb dX7_hasBook_12 (by decide) ?_
      refine lv_goto (tgt := 17) hx hb dX7_hasBook_13 (by decide) ?_
      exact nb_zret hx hb hr hlocks hP hS (nSo hf) rfl dX7_hasBook_17
def l_X7_hasBook_0 (N : Nat) : nS → Int32 → Option (Int32 × nS) := b_X7_hasBook_0 N
theorem kl_X7_hasBook_0 {p : Program} {l : Launch} {e : Env} {s : State} {m : MethodId} {args : Array Value} {below : List Frame} {meth : Method} {c : Code} {D : va_G} {A : Nat → Prop} {cy : Nat → ClassId} {a kt vt : Nat → Nat} {N : Nat}   (C0 : nCx p s m args meth c cX7_hasBook 2 (some .boolean) RX7 wsX7_hasBook) (hE : nEn D A cy (NBw cy a) kt vt s) {z : Int32 × nS} : ∀ (σ : nS) (x1 : Int32) (H : Heap) (locs : List Loc) (ls : Array Slot), lv_has ls 2 [(0, .ref (a 1)), (1, .int x1)] → va_P D vwCl ((NBw cy a) σ) H → va_S A s.heap H locs → l_X7_hasBook_0 N σ x1 = some z → W p l e ({ frames := 0, cells := 0, slots := 0, locals := 0 } : Room) s m args below meth c H locs 0 0 (nQi below D A (NBw cy a) args s z) (F0 m 0 ls []) := by
  exact kb_X7_hasBook_0 (N := N)  C0 hE
def f_X7_hasBook (N : Nat) (x1 : Int32) (σ : nS) : Option (Int32 × nS) := l_X7_hasBook_0 N σ x1
set_option maxHeartbeats 4000000 in
set_option maxRecDepth 100000 in
theorem c_X7_hasBook {l : Launch} {D : va_G} {A : Nat → Prop} {cy : Nat → ClassId} {a kt vt : Nat → Nat} {N : Nat}   {x1 : Int32} {σ : nS} {r : Int32} {σ' : nS} (hf : f_X7_hasBook N x1 σ = some (r, σ')) : nMi l yX7_hasBook wsX7_hasBook ({ frames := 0, cells := 0, slots := 0, locals := 0 } : Room) D A cy (NBw cy a) kt vt [.ref (a 1), .int x1] σ r σ' := by
  refine Met.ofW (cc := cX7_hasBook) (maxL := 2) (ret := (some .boolean)) (by decide) rfl ?_
  intro p e s m args below meth c s₁ B hml hv
  obtain ⟨rfl, hP, hE⟩ := hv
  have hl := lv_entry ([.ref (a 1), .int x1]) (n := 2) (Nat.le_of_ble_eq_true rfl)
  rw [lg_entry_eq]
  generalize (lg_sl ([.ref (a 1), .int x1]) ++ List.replicate (2 - (lg_sl ([.ref (a 1), .int x1])).length) Slot.unset).toArray = ls at hl ⊢
  have C0 : nCx p s m _ meth c cX7_hasBook 2 (some .boolean) RX7 wsX7_hasBook := ⟨B.exec, B.bytes, B.returns, hml, findClass_of_methodNamed B.named, atoms_spec (ws := wsX7_hasBook) B.pre, B.notSynchronized⟩
  exact kl_X7_hasBook_0 (N := N)  C0 hE (z := (r, σ')) σ x1 _ _ ls hl hP va_S.rf hf

/-! X7_sizeOf -/
set_option maxRecDepth 20000 in
theorem iX7_sizeOf_X7 : ∀ w ∈ u_ws RX7 TX7 9, w ∈ wsX7_sizeOf := fun _ h => List.mem_cons_of_mem _ (List.mem_append_right _ h)
set_option maxRecDepth 20000 in
theorem qX7_sizeOf_34 : Cond.fieldLink RX7 34 RX7 (TX7 7).2.1 (TX7 7).2.2.1 ∈ wsX7_sizeOf := by decide +kernel
def b_X7_sizeOf_0 (N : Nat) (σ : nS) (x1 : Int32) : Option (Int32 × nS) := (if x1 < 0 then some (0, σ) else nLet (Int32.ofNat 5) (fun v1 => (if v1 ≤ x1 then some (0, σ) else nIx x1 5 (nLet (σ.1 4 (x1).toNatClampNeg) (fun v2 => some (v2, σ))))))
set_option maxHeartbeats 4000000 in
set_option maxRecDepth 100000 in
theorem kb_X7_sizeOf_0 {p : Program} {l : Launch} {e : Env} {s : State} {m : MethodId} {args : Array Value} {below : List Frame} {meth : Method} {c : Code} {D : va_G} {A : Nat → Prop} {cy : Nat → ClassId} {a kt vt : Nat → Nat} {N : Nat}   (C0 : nCx p s m args meth c cX7_sizeOf 2 (some .int) RX7 wsX7_sizeOf) (hE : nEn D A cy (NBw cy a) kt vt s) {z : Int32 × nS} : ∀ (σ : nS) (x1 : Int32) (H : Heap) (locs : List Loc) (ls : Array Slot), lv_has ls 2 [(0, .ref (a 1)), (1, .int x1)] → va_P D vwCl ((NBw cy a) σ) H → va_S A s.heap H locs → b_X7_sizeOf_0 N σ x1 = some z → W p l e ({ frames := 0, cells := 0, slots := 0, locals := 0 } : Room) s m args below meth c H locs 0 0 (nQi below D A (NBw cy a) args s z) (F0 m 0 ls []) := by
  obtain ⟨hx, hb, hr, hml, hown, hts, hlocks⟩ := C0
  intro σ x1 H locs ls hl hP hS hf
  unfold b_X7_sizeOf_0 at hf
  refine lv_iload_n hx hb dX7_sizeOf_0 rfl (lv_at hl 1 rfl) ?_
  refine lv_if_lt (tgt := 22) hx hb dX7_sizeOf_1 (by decide) (fun hc => ?_) (fun hc => ?_)
  · replace hf := nIf_t hc hf
    refine lv_iconst (v := 0) hx hb dX7_sizeOf_22 (by decide) ?_
    exact nb_iret hx hb hr hlocks hP hS (nSo hf) dX7_sizeOf_23
  · replace hf := nIf_f hc hf
    refine lv_iload_n hx hb dX7_sizeOf_4 rfl (lv_at hl 1 rfl) ?_
    refine lv_aload_n hx hb dX7_sizeOf_5 rfl (lv_at hl 0 rfl) ?_
    refine nb_get (ci := 7) hx hb hts iX7_sizeOf_X7 hown hE hP 1 nbo_1 rfl 7 (by decide) qX7_sizeOf_34 rfl rfl dX7_sizeOf_6 ?_
    refine na_alen hx hb hE hP nbr_4 dX7_sizeOf_9 ?_
    refine lv_topi (fun v1 ev1 => ?_)
    replace hf := nLet_e hf ev1
    refine lv_icmp_ge (tgt := 22) hx hb dX7_sizeOf_10 (by decide) (fun hc => ?_) (fun hc => ?_)
    · replace hf := nIf_t hc hf
      refine lv_iconst (v := 0) hx hb dX7_sizeOf_22 (by decide) ?_
      exact nb_iret hx hb hr hlocks hP hS (nSo hf) dX7_sizeOf_23
    · replace hf := nIf_f hc hf
      refine lv_aload_n hx hb dX7_sizeOf_13 rfl (lv_at hl 0 rfl) ?_
      refine nb_get (ci := 7) hx hb hts iX7_sizeOf_X7 hown hE hP 1 nbo_1 rfl 7 (by decide) qX7_sizeOf_34 rfl rfl dX7_sizeOf_14 ?_
      refine lv_iload_n hx hb dX7_sizeOf_17 rfl (lv_at hl 1 rfl) ?_
      obtain ⟨hin, hf⟩ := nIx_e hf
      refine na_iald hx hb hE hP nbr_4 hin dX7_sizeOf_18 ?_
      refine lv_topi (fun v2 ev2 => ?_)
      replace hf := nLet_e hf ev2
      refine lv_goto (tgt := 23) hx hb dX7_sizeOf_19 (by decide) ?_
      exact nb_iret hx hb hr hlocks hP hS (nSo hf) dX7_sizeOf_23
def l_X7_sizeOf_0 (N : Nat) : nS → Int32 → Option (Int32 × nS) := b_X7_sizeOf_0 N
theorem kl_X7_sizeOf_0 {p : Program} {l : Launch} {e : Env} {s : State} {m : MethodId} {args : Array Value} {below : List Frame} {meth : Method} {c : Code} {D : va_G} {A : Nat → Prop} {cy : Nat → ClassId} {a kt vt : Nat → Nat} {N : Nat}   (C0 : nCx p s m args meth c cX7_sizeOf 2 (some .int) RX7 wsX7_sizeOf) (hE : nEn D A cy (NBw cy a) kt vt s) {z : Int32 × nS} : ∀ (σ : nS) (x1 : Int32) (H : Heap) (locs : List Loc) (ls : Array Slot), lv_has ls 2 [(0, .ref (a 1)), (1, .int x1)] → va_P D vwCl ((NBw cy a) σ) H → va_S A s.heap H locs → l_X7_sizeOf_0 N σ x1 = some z → W p l e ({ frames := 0, cells := 0, slots := 0, locals := 0 } : Room) s m args below meth c H locs 0 0 (nQi below D A (NBw cy a) args s z) (F0 m 0 ls []) := by
  exact kb_X7_sizeOf_0 (N := N)  C0 hE
def f_X7_sizeOf (N : Nat) (x1 : Int32) (σ : nS) : Option (Int32 × nS) := l_X7_sizeOf_0 N σ x1
set_option maxHeartbeats 4000000 in
set_option maxRecDepth 100000 in
theorem c_X7_sizeOf {l : Launch} {D : va_G} {A : Nat → Prop} {cy : Nat → ClassId} {a kt vt : Nat → Nat} {N : Nat}   {x1 : Int32} {σ : nS} {r : Int32} {σ' : nS} (hf : f_X7_sizeOf N x1 σ = some (r, σ')) : nMi l yX7_sizeOf wsX7_sizeOf ({ frames := 0, cells := 0, slots := 0, locals := 0 } : Room) D A cy (NBw cy a) kt vt [.ref (a 1), .int x1] σ r σ' := by
  refine Met.ofW (cc := cX7_sizeOf) (maxL := 2) (ret := (some .int)) (by decide) rfl ?_
  intro p e s m args below meth c s₁ B hml hv
  obtain ⟨rfl, hP, hE⟩ := hv
  have hl := lv_entry ([.ref (a 1), .int x1]) (n := 2) (Nat.le_of_ble_eq_true rfl)
  rw [lg_entry_eq]
  generalize (lg_sl ([.ref (a 1), .int x1]) ++ List.replicate (2 - (lg_sl ([.ref (a 1), .int x1])).length) Slot.unset).toArray = ls at hl ⊢
  have C0 : nCx p s m _ meth c cX7_sizeOf 2 (some .int) RX7 wsX7_sizeOf := ⟨B.exec, B.bytes, B.returns, hml, findClass_of_methodNamed B.named, atoms_spec (ws := wsX7_sizeOf) B.pre, B.notSynchronized⟩
  exact kl_X7_sizeOf_0 (N := N)  C0 hE (z := (r, σ')) σ x1 _ _ ls hl hP va_S.rf hf

/-! X7_setSize -/
set_option maxRecDepth 20000 in
theorem iX7_setSize_X7 : ∀ w ∈ u_ws RX7 TX7 9, w ∈ wsX7_setSize := fun _ h => List.mem_cons_of_mem _ (List.mem_append_right _ h)
set_option maxRecDepth 20000 in
theorem qX7_setSize_34 : Cond.fieldLink RX7 34 RX7 (TX7 7).2.1 (TX7 7).2.2.1 ∈ wsX7_setSize := by decide +kernel
def b_X7_setSize_0 (N : Nat) (σ : nS) (x1 : Int32) (x2 : Int32) : Option (Int32 × nS) := (if x1 < 0 then some (0, σ) else nLet (Int32.ofNat 5) (fun v1 => (if v1 ≤ x1 then some (0, σ) else nIx x1 5 (nLet (wr σ 4 (x1).toNatClampNeg x2) (fun σ2 => some (0, σ2))))))
set_option maxHeartbeats 4000000 in
set_option maxRecDepth 100000 in
theorem kb_X7_setSize_0 {p : Program} {l : Launch} {e : Env} {s : State} {m : MethodId} {args : Array Value} {below : List Frame} {meth : Method} {c : Code} {D : va_G} {A : Nat → Prop} {cy : Nat → ClassId} {a kt vt : Nat → Nat} {N : Nat}   (C0 : nCx p s m args meth c cX7_setSize 3 none RX7 wsX7_setSize) (hE : nEn D A cy (NBw cy a) kt vt s) {z : Int32 × nS} : ∀ (σ : nS) (x1 : Int32) (x2 : Int32) (H : Heap) (locs : List Loc) (ls : Array Slot), lv_has ls 3 [(0, .ref (a 1)), (1, .int x1), (2, .int x2)] → va_P D vwCl ((NBw cy a) σ) H → va_S A s.heap H locs → b_X7_setSize_0 N σ x1 x2 = some z → W p l e ({ frames := 0, cells := 0, slots := 0, locals := 0 } : Room) s m args below meth c H locs 0 0 (nQv below D A (NBw cy a) args s z) (F0 m 0 ls []) := by
  obtain ⟨hx, hb, hr, hml, hown, hts, hlocks⟩ := C0
  intro σ x1 x2 H locs ls hl hP hS hf
  unfold b_X7_setSize_0 at hf
  refine lv_iload_n hx hb dX7_setSize_0 rfl (lv_at hl 1 rfl) ?_
  refine lv_if_lt (tgt := 20) hx hb dX7_setSize_1 (by decide) (fun hc => ?_) (fun hc => ?_)
  · replace hf := nIf_t hc hf
    exact nb_vret hx hb hr hlocks hP hS (nSo hf) dX7_setSize_20
  · replace hf := nIf_f hc hf
    refine lv_iload_n hx hb dX7_setSize_4 rfl (lv_at hl 1 rfl) ?_
    refine lv_aload_n hx hb dX7_setSize_5 rfl (lv_at hl 0 rfl) ?_
    refine nb_get (ci := 7) hx hb hts iX7_setSize_X7 hown hE hP 1 nbo_1 rfl 7 (by decide) qX7_setSize_34 rfl rfl dX7_setSize_6 ?_
    refine na_alen hx hb hE hP nbr_4 dX7_setSize_9 ?_
    refine lv_topi (fun v1 ev1 => ?_)
    replace hf := nLet_e hf ev1
    refine lv_icmp_ge (tgt := 20) hx hb dX7_setSize_10 (by decide) (fun hc => ?_) (fun hc => ?_)
    · replace hf := nIf_t hc hf
      exact nb_vret hx hb hr hlocks hP hS (nSo hf) dX7_setSize_20
    · replace hf := nIf_f hc hf
      refine lv_aload_n hx hb dX7_setSize_13 rfl (lv_at hl 0 rfl) ?_
      refine nb_get (ci := 7) hx hb hts iX7_setSize_X7 hown hE hP 1 nbo_1 rfl 7 (by decide) qX7_setSize_34 rfl rfl dX7_setSize_14 ?_
      refine lv_iload_n hx hb dX7_setSize_17 rfl (lv_at hl 1 rfl) ?_
      refine lv_iload_n hx hb dX7_setSize_18 rfl (lv_at hl 2 rfl) ?_
      obtain ⟨hin, hf⟩ := nIx_e hf
      refine na_iast hx hb hE hP hS nbr_4 hin dX7_setSize_19 (fun σ2 eσ2 H locs hP hS => ?_)
      replace hf := nLet_e hf eσ2
      exact nb_vret hx hb hr hlocks hP hS (nSo hf) dX7_setSize_20
def l_X7_setSize_0 (N : Nat) : nS → Int32 → Int32 → Option (Int32 × nS) := b_X7_setSize_0 N
theorem kl_X7_setSize_0 {p : Program} {l : Launch} {e : Env} {s : State} {m : MethodId} {args : Array Value} {below : List Frame} {meth : Method} {c : Code} {D : va_G} {A : Nat → Prop} {cy : Nat → ClassId} {a kt vt : Nat → Nat} {N : Nat}   (C0 : nCx p s m args meth c cX7_setSize 3 none RX7 wsX7_setSize) (hE : nEn D A cy (NBw cy a) kt vt s) {z : Int32 × nS} : ∀ (σ : nS) (x1 : Int32) (x2 : Int32) (H : Heap) (locs : List Loc) (ls : Array Slot), lv_has ls 3 [(0, .ref (a 1)), (1, .int x1), (2, .int x2)] → va_P D vwCl ((NBw cy a) σ) H → va_S A s.heap H locs → l_X7_setSize_0 N σ x1 x2 = some z → W p l e ({ frames := 0, cells := 0, slots := 0, locals := 0 } : Room) s m args below meth c H locs 0 0 (nQv below D A (NBw cy a) args s z) (F0 m 0 ls []) := by
  exact kb_X7_setSize_0 (N := N)  C0 hE
def f_X7_setSize (N : Nat) (x1 : Int32) (x2 : Int32) (σ : nS) : Option (Int32 × nS) := l_X7_setSize_0 N σ x1 x2
set_option maxHeartbeats 4000000 in
set_option maxRecDepth 100000 in
theorem c_X7_setSize {l : Launch} {D : va_G} {A : Nat → Prop} {cy : Nat → ClassId} {a kt vt : Nat → Nat} {N : Nat}   {x1 : Int32} {x2 : Int32} {σ : nS} {r : Int32} {σ' : nS} (hf : f_X7_setSize N x1 x2 σ = some (r, σ')) : nMv l yX7_setSize wsX7_setSize ({ frames := 0, cells := 0, slots := 0, locals := 0 } : Room) D A cy (NBw cy a) kt vt [.ref (a 1), .int x1, .int x2] σ σ' := by
  refine Met.ofW (cc := cX7_setSize) (maxL := 3) (ret := none) (by decide) rfl ?_
  intro p e s m args below meth c s₁ B hml hv
  obtain ⟨rfl, hP, hE⟩ := hv
  have hl := lv_entry ([.ref (a 1), .int x1, .int x2]) (n := 3) (Nat.le_of_ble_eq_true rfl)
  rw [lg_entry_eq]
  generalize (lg_sl ([.ref (a 1), .int x1, .int x2]) ++ List.replicate (3 - (lg_sl ([.ref (a 1), .int x1, .int x2])).length) Slot.unset).toArray = ls at hl ⊢
  have C0 : nCx p s m _ meth c cX7_setSize 3 none RX7 wsX7_setSize := ⟨B.exec, B.bytes, B.returns, hml, findClass_of_methodNamed B.named, atoms_spec (ws := wsX7_setSize) B.pre, B.notSynchronized⟩
  exact kl_X7_setSize_0 (N := N)  C0 hE (z := (r, σ')) σ x1 x2 _ _ ls hl hP va_S.rf hf

/-! X7_cell -/
set_option maxRecDepth 20000 in
theorem iX7_cell_X7 : ∀ w ∈ u_ws RX7 TX7 9, w ∈ wsX7_cell := fun _ h => List.mem_cons_of_mem _ (List.mem_append_right _ h)
set_option maxRecDepth 20000 in
theorem qX7_cell_37 : Cond.fieldLink RX7 37 RX7 (TX7 8).2.1 (TX7 8).2.2.1 ∈ wsX7_cell := by decide +kernel
def b_X7_cell_0 (N : Nat) (σ : nS) (x1 : Int32) (x2 : Int32) (x3 : Int32) : Option (Int32 × nS) := nLet (x1 * (24 : Int32) : Int32) (fun v1 => nLet (v1 + x2 : Int32) (fun v2 => nLet (v2 * (5 : Int32) : Int32) (fun v3 => nLet (v3 + x3 : Int32) (fun v4 => (if v4 < 0 then some (0, σ) else nLet (Int32.ofNat 600) (fun v5 => (if v5 ≤ v4 then some (0, σ) else nIx v4 600 (nLet (σ.1 5 (v4).toNatClampNeg) (fun v6 => some (v6, σ))))))))))
set_option maxHeartbeats 4000000 in
set_option maxRecDepth 100000 in
theorem kb_X7_cell_0 {p : Program} {l : Launch} {e : Env} {s : State} {m : MethodId} {args : Array Value} {below : List Frame} {meth : Method} {c : Code} {D : va_G} {A : Nat → Prop} {cy : Nat → ClassId} {a kt vt : Nat → Nat} {N : Nat}   (C0 : nCx p s m args meth c cX7_cell 5 (some .int) RX7 wsX7_cell) (hE : nEn D A cy (NBw cy a) kt vt s) {z : Int32 × nS} : ∀ (σ : nS) (x1 : Int32) (x2 : Int32) (x3 : Int32) (H : Heap) (locs : List Loc) (ls : Array Slot), lv_has ls 5 [(0, .ref (a 1)), (1, .int x1), (2, .int x2), (3, .int x3)] → va_P D vwCl ((NBw cy a) σ) H → va_S A s.heap H locs → b_X7_cell_0 N σ x1 x2 x3 = some z → W p l e ({ frames := 0, cells := 0, slots := 0, locals := 0 } : Room) s m args below meth c H locs 0 0 (nQi below D A (NBw cy a) args s z) (F0 m 0 ls []) := by
  obtain ⟨hx, hb, hr, hml, hown, hts, hlocks⟩ := C0
  intro σ x1 x2 x3 H locs ls hl hP hS hf
  unfold b_X7_cell_0 at hf
  refine lv_iload_n hx hb dX7_cell_0 rfl (lv_at hl 1 rfl) ?_
  refine lv_bipush (v := 24) hx hb dX7_cell_1 (by decide) ?_
  refine lv_imul hx hb dX7_cell_3 ?_
  refine lv_topi (fun v1 ev1 => ?_)
  replace hf := nLet_e hf ev1
  refine lv_iload_n hx hb dX7_cell_4 rfl (lv_at hl 2 rfl) ?_
  refine lv_iadd hx hb dX7_cell_5 ?_
  refine lv_topi (fun v2 ev2 => ?_)
  replace hf := nLet_e hf ev2
  refine lv_iconst (v := 5) hx hb dX7_cell_6 (by decide) ?_
  refine lv_imul hx hb dX7_cell_7 ?_
  refine lv_topi (fun v3 ev3 => ?_)
  replace hf := nLet_e hf ev3
  refine lv_iload_n hx hb dX7_cell_8 rfl (lv_at hl 3 rfl) ?_
  refine lv_iadd hx hb dX7_cell_9 ?_
  refine lv_topi (fun v4 ev4 => ?_)
  replace hf := nLet_e hf ev4
  refine lv_istore (lv' := [(4, .int v4), (0, .ref (a 1)), (1, .int x1), (2, .int x2), (3, .int x3)]) hx hb dX7_cell_10 hl (by decide) rfl (fun ls hl => ?_)
  refine lv_iload hx hb dX7_cell_12 (lv_at hl 0 rfl) ?_
  refine lv_if_lt (tgt := 37) hx hb dX7_cell_14 (by decide) (fun hc => ?_) (fun hc => ?_)
  · replace hf := nIf_t hc hf
    refine lv_iconst (v := 0) hx hb dX7_cell_37 (by decide) ?_
    exact nb_iret hx hb hr hlocks hP hS (nSo hf) dX7_cell_38
  · replace hf := nIf_f hc hf
    refine lv_iload hx hb dX7_cell_17 (lv_at hl 0 rfl) ?_
    refine lv_aload_n hx hb dX7_cell_19 rfl (lv_at hl 1 rfl) ?_
    refine nb_get (ci := 7) hx hb hts iX7_cell_X7 hown hE hP 1 nbo_1 rfl 8 (by decide) qX7_cell_37 rfl rfl dX7_cell_20 ?_
    refine na_alen hx hb hE hP nbr_5 dX7_cell_23 ?_
    refine lv_topi (fun v5 ev5 => ?_)
    replace hf := nLet_e hf ev5
    refine lv_icmp_ge (tgt := 37) hx hb dX7_cell_24 (by decide) (fun hc => ?_) (fun hc => ?_)
    · replace hf := nIf_t hc hf
      refine lv_iconst (v := 0) hx hb dX7_cell_37 (by decide) ?_
      exact nb_iret hx hb hr hlocks hP hS (nSo hf) dX7_cell_38
    · replace hf := nIf_f hc hf
      refine lv_aload_n hx hb dX7_cell_27 rfl (lv_at hl 1 rfl) ?_
      refine nb_get (ci := 7) hx hb hts iX7_cell_X7 hown hE hP 1 nbo_1 rfl 8 (by decide) qX7_cell_37 rfl rfl dX7_cell_28 ?_
      refine lv_iload hx hb dX7_cell_31 (lv_at hl 0 rfl) ?_
      obtain ⟨hin, hf⟩ := nIx_e hf
      refine na_iald hx hb hE hP nbr_5 hin dX7_cell_33 ?_
      refine lv_topi (fun v6 ev6 => ?_)
      replace hf := nLet_e hf ev6
      refine lv_goto (tgt := 38) hx hb dX7_cell_34 (by decide) ?_
      exact nb_iret hx hb hr hlocks hP hS (nSo hf) dX7_cell_38
def l_X7_cell_0 (N : Nat) : nS → Int32 → Int32 → Int32 → Option (Int32 × nS) := b_X7_cell_0 N
theorem kl_X7_cell_0 {p : Program} {l : Launch} {e : Env} {s : State} {m : MethodId} {args : Array Value} {below : List Frame} {meth : Method} {c : Code} {D : va_G} {A : Nat → Prop} {cy : Nat → ClassId} {a kt vt : Nat → Nat} {N : Nat}   (C0 : nCx p s m args meth c cX7_cell 5 (some .int) RX7 wsX7_cell) (hE : nEn D A cy (NBw cy a) kt vt s) {z : Int32 × nS} : ∀ (σ : nS) (x1 : Int32) (x2 : Int32) (x3 : Int32) (H : Heap) (locs : List Loc) (ls : Array Slot), lv_has ls 5 [(0, .ref (a 1)), (1, .int x1), (2, .int x2), (3, .int x3)] → va_P D vwCl ((NBw cy a) σ) H → va_S A s.heap H locs → l_X7_cell_0 N σ x1 x2 x3 = some z → W p l e ({ frames := 0, cells := 0, slots := 0, locals := 0 } : Room) s m args below meth c H locs 0 0 (nQi below D A (NBw cy a) args s z) (F0 m 0 ls []) := by
  exact kb_X7_cell_0 (N := N)  C0 hE
def f_X7_cell (N : Nat) (x1 : Int32) (x2 : Int32) (x3 : Int32) (σ : nS) : Option (Int32 × nS) := l_X7_cell_0 N σ x1 x2 x3
set_option maxHeartbeats 4000000 in
set_option maxRecDepth 100000 in
theorem c_X7_cell {l : Launch} {D : va_G} {A : Nat → Prop} {cy : Nat → ClassId} {a kt vt : Nat → Nat} {N : Nat}   {x1 : Int32} {x2 : Int32} {x3 : Int32} {σ : nS} {r : Int32} {σ' : nS} (hf : f_X7_cell N x1 x2 x3 σ = some (r, σ')) : nMi l yX7_cell wsX7_cell ({ frames := 0, cells := 0, slots := 0, locals := 0 } : Room) D A cy (NBw cy a) kt vt [.ref (a 1), .int x1, .int x2, .int x3] σ r σ' := by
  refine Met.ofW (cc := cX7_cell) (maxL := 5) (ret := (some .int)) (by decide) rfl ?_
  intro p e s m args below meth c s₁ B hml hv
  obtain ⟨rfl, hP, hE⟩ := hv
  have hl := lv_entry ([.ref (a 1), .int x1, .int x2, .int x3]) (n := 5) (Nat.le_of_ble_eq_true rfl)
  rw [lg_entry_eq]
  generalize (lg_sl ([.ref (a 1), .int x1, .int x2, .int x3]) ++ List.replicate (5 - (lg_sl ([.ref (a 1), .int x1, .int x2, .int x3])).length) Slot.unset).toArray = ls at hl ⊢
  have C0 : nCx p s m _ meth c cX7_cell 5 (some .int) RX7 wsX7_cell := ⟨B.exec, B.bytes, B.returns, hml, findClass_of_methodNamed B.named, atoms_spec (ws := wsX7_cell) B.pre, B.notSynchronized⟩
  exact kl_X7_cell_0 (N := N)  C0 hE (z := (r, σ')) σ x1 x2 x3 _ _ ls hl hP va_S.rf hf

/-! X7_setCell -/
set_option maxRecDepth 20000 in
theorem iX7_setCell_X7 : ∀ w ∈ u_ws RX7 TX7 9, w ∈ wsX7_setCell := fun _ h => List.mem_cons_of_mem _ (List.mem_append_right _ h)
set_option maxRecDepth 20000 in
theorem qX7_setCell_37 : Cond.fieldLink RX7 37 RX7 (TX7 8).2.1 (TX7 8).2.2.1 ∈ wsX7_setCell := by decide +kernel
def b_X7_setCell_0 (N : Nat) (σ : nS) (x1 : Int32) (x2 : Int32) (x3 : Int32) (x4 : Int32) : Option (Int32 × nS) := nLet (x1 * (24 : Int32) : Int32) (fun v1 => nLet (v1 + x2 : Int32) (fun v2 => nLet (v2 * (5 : Int32) : Int32) (fun v3 => nLet (v3 + x3 : Int32) (fun v4 => (if v4 < 0 then some (0, σ) else nLet (Int32.ofNat 600) (fun v5 => (if v5 ≤ v4 then some (0, σ) else nIx v4 600 (nLet (wr σ 5 (v4).toNatClampNeg x4) (fun σ6 => some (0, σ6))))))))))
set_option maxHeartbeats 4000000 in
set_option maxRecDepth 100000 in
theorem kb_X7_setCell_0 {p : Program} {l : Launch} {e : Env} {s : State} {m : MethodId} {args : Array Value} {below : List Frame} {meth : Method} {c : Code} {D : va_G} {A : Nat → Prop} {cy : Nat → ClassId} {a kt vt : Nat → Nat} {N : Nat}   (C0 : nCx p s m args meth c cX7_setCell 6 none RX7 wsX7_setCell) (hE : nEn D A cy (NBw cy a) kt vt s) {z : Int32 × nS} : ∀ (σ : nS) (x1 : Int32) (x2 : Int32) (x3 : Int32) (x4 : Int32) (H : Heap) (locs : List Loc) (ls : Array Slot), lv_has ls 6 [(0, .ref (a 1)), (1, .int x1), (2, .int x2), (3, .int x3), (4, .int x4)] → va_P D vwCl ((NBw cy a) σ) H → va_S A s.heap H locs → b_X7_setCell_0 N σ x1 x2 x3 x4 = some z → W p l e ({ frames := 0, cells := 0, slots := 0, locals := 0 } : Room) s m args below meth c H locs 0 0 (nQv below D A (NBw cy a) args s z) (F0 m 0 ls []) := by
  obtain ⟨hx, hb, hr, hml, hown, hts, hlocks⟩ := C0
  intro σ x1 x2 x3 x4 H locs ls hl hP hS hf
  unfold b_X7_setCell_0 at hf
  refine lv_iload_n hx hb dX7_setCell_0 rfl (lv_at hl 1 rfl) ?_
  refine lv_bipush (v := 24) hx hb dX7_setCell_1 (by decide) ?_
  refine lv_imul hx hb dX7_setCell_3 ?_
  refine lv_topi (fun v1 ev1 => ?_)
  replace hf := nLet_e hf ev1
  refine lv_iload_n hx hb dX7_setCell_4 rfl (lv_at hl 2 rfl) ?_
  refine lv_iadd hx hb dX7_setCell_5 ?_
  refine lv_topi (fun v2 ev2 => ?_)
  replace hf := nLet_e hf ev2
  refine lv_iconst (v := 5) hx hb dX7_setCell_6 (by decide) ?_
  refine lv_imul hx hb dX7_setCell_7 ?_
  refine lv_topi (fun v3 ev3 => ?_)
  replace hf := nLet_e hf ev3
  refine lv_iload_n hx hb dX7_setCell_8 rfl (lv_at hl 3 rfl) ?_
  refine lv_iadd hx hb dX7_setCell_9 ?_
  refine lv_topi (fun v4 ev4 => ?_)
  replace hf := nLet_e hf ev4
  refine lv_istore (lv' := [(5, .int v4), (0, .ref (a 1)), (1, .int x1), (2, .int x2), (3, .int x3), (4, .int x4)]) hx hb dX7_setCell_10 hl (by decide) rfl (fun ls hl => ?_)
  refine lv_iload hx hb dX7_setCell_12 (lv_at hl 0 rfl) ?_
  refine lv_if_lt (tgt := 36) hx hb dX7_setCell_14 (by decide) (fun hc => ?_) (fun hc => ?_)
  · replace hf := nIf_t hc hf
    exact nb_vret hx hb hr hlocks hP hS (nSo hf) dX7_setCell_36
  · replace hf := nIf_f hc hf
    refine lv_iload hx hb dX7_setCell_17 (lv_at hl 0 rfl) ?_
    refine lv_aload_n hx hb dX7_setCell_19 rfl (lv_at hl 1 rfl) ?_
    refine nb_get (ci := 7) hx hb hts iX7_setCell_X7 hown hE hP 1 nbo_1 rfl 8 (by decide) qX7_setCell_37 rfl rfl dX7_setCell_20 ?_
    refine na_alen hx hb hE hP nbr_5 dX7_setCell_23 ?_
    refine lv_topi (fun v5 ev5 => ?_)
    replace hf := nLet_e hf ev5
    refine lv_icmp_ge (tgt := 36) hx hb dX7_setCell_24 (by decide) (fun hc => ?_) (fun hc => ?_)
    · replace hf := nIf_t hc hf
      exact nb_vret hx hb hr hlocks hP hS (nSo hf) dX7_setCell_36
    · replace hf := nIf_f hc hf
      refine lv_aload_n hx hb dX7_setCell_27 rfl (lv_at hl 1 rfl) ?_
      refine nb_get (ci := 7) hx hb hts iX7_setCell_X7 hown hE hP 1 nbo_1 rfl 8 (by decide) qX7_setCell_37 rfl rfl dX7_setCell_28 ?_
      refine lv_iload hx hb dX7_setCell_31 (lv_at hl 0 rfl) ?_
      refine lv_iload hx hb dX7_setCell_33 (lv_at hl 5 rfl) ?_
      obtain ⟨hin, hf⟩ := nIx_e hf
      refine na_iast hx hb hE hP hS nbr_5 hin dX7_setCell_35 (fun σ6 eσ6 H locs hP hS => ?_)
      replace hf := nLet_e hf eσ6
      exact nb_vret hx hb hr hlocks hP hS (nSo hf) dX7_setCell_36
def l_X7_setCell_0 (N : Nat) : nS → Int32 → Int32 → Int32 → Int32 → Option (Int32 × nS) := b_X7_setCell_0 N
theorem kl_X7_setCell_0 {p : Program} {l : Launch} {e : Env} {s : State} {m : MethodId} {args : Array Value} {below : List Frame} {meth : Method} {c : Code} {D : va_G} {A : Nat → Prop} {cy : Nat → ClassId} {a kt vt : Nat → Nat} {N : Nat}   (C0 : nCx p s m args meth c cX7_setCell 6 none RX7 wsX7_setCell) (hE : nEn D A cy (NBw cy a) kt vt s) {z : Int32 × nS} : ∀ (σ : nS) (x1 : Int32) (x2 : Int32) (x3 : Int32) (x4 : Int32) (H : Heap) (locs : List Loc) (ls : Array Slot), lv_has ls 6 [(0, .ref (a 1)), (1, .int x1), (2, .int x2), (3, .int x3), (4, .int x4)] → va_P D vwCl ((NBw cy a) σ) H → va_S A s.heap H locs → l_X7_setCell_0 N σ x1 x2 x3 x4 = some z → W p l e ({ frames := 0, cells := 0, slots := 0, locals := 0 } : Room) s m args below meth c H locs 0 0 (nQv below D A (NBw cy a) args s z) (F0 m 0 ls []) := by
  exact kb_X7_setCell_0 (N := N)  C0 hE
def f_X7_setCell (N : Nat) (x1 : Int32) (x2 : Int32) (x3 : Int32) (x4 : Int32) (σ : nS) : Option (Int32 × nS) := l_X7_setCell_0 N σ x1 x2 x3 x4
set_option maxHeartbeats 4000000 in
set_option maxRecDepth 100000 in
theorem c_X7_setCell {l : Launch} {D : va_G} {A : Nat → Prop} {cy : Nat → ClassId} {a kt vt : Nat → Nat} {N : Nat}   {x1 : Int32} {x2 : Int32} {x3 : Int32} {x4 : Int32} {σ : nS} {r : Int32} {σ' : nS} (hf : f_X7_setCell N x1 x2 x3 x4 σ = some (r, σ')) : nMv l yX7_setCell wsX7_setCell ({ frames := 0, cells := 0, slots := 0, locals := 0 } : Room) D A cy (NBw cy a) kt vt [.ref (a 1), .int x1, .int x2, .int x3, .int x4] σ σ' := by
  refine Met.ofW (cc := cX7_setCell) (maxL := 6) (ret := none) (by decide) rfl ?_
  intro p e s m args below meth c s₁ B hml hv
  obtain ⟨rfl, hP, hE⟩ := hv
  have hl := lv_entry ([.ref (a 1), .int x1, .int x2, .int x3, .int x4]) (n := 6) (Nat.le_of_ble_eq_true rfl)
  rw [lg_entry_eq]
  generalize (lg_sl ([.ref (a 1), .int x1, .int x2, .int x3, .int x4]) ++ List.replicate (6 - (lg_sl ([.ref (a 1), .int x1, .int x2, .int x3, .int x4])).length) Slot.unset).toArray = ls at hl ⊢
  have C0 : nCx p s m _ meth c cX7_setCell 6 none RX7 wsX7_setCell := ⟨B.exec, B.bytes, B.returns, hml, findClass_of_methodNamed B.named, atoms_spec (ws := wsX7_setCell) B.pre, B.notSynchronized⟩
  exact kl_X7_setCell_0 (N := N)  C0 hE (z := (r, σ')) σ x1 x2 x3 x4 _ _ ls hl hP va_S.rf hf

/-! X7_allFacts -/
set_option maxRecDepth 20000 in
theorem iX7_allFacts_X7 : ∀ w ∈ u_ws RX7 TX7 9, w ∈ wsX7_allFacts := fun _ h => List.mem_cons_of_mem _ (List.mem_append_right _ h)
set_option maxRecDepth 20000 in
theorem qX7_allFacts_9 : Cond.fieldLink RX7 9 RX7 (TX7 0).2.1 (TX7 0).2.2.1 ∈ wsX7_allFacts := by decide +kernel
def b_X7_allFacts_0 (N : Nat) (σ : nS) : Option (Int32 × nS) := nLet ((1 : Int32) <<< ((σ.1 1 0) &&& 31) : Int32) (fun v1 => nLet (v1 - (1 : Int32) : Int32) (fun v2 => some (v2, σ)))
set_option maxHeartbeats 4000000 in
set_option maxRecDepth 100000 in
theorem kb_X7_allFacts_0 {p : Program} {l : Launch} {e : Env} {s : State} {m : MethodId} {args : Array Value} {below : List Frame} {meth : Method} {c : Code} {D : va_G} {A : Nat → Prop} {cy : Nat → ClassId} {a kt vt : Nat → Nat} {N : Nat}   (C0 : nCx p s m args meth c cX7_allFacts 1 (some .int) RX7 wsX7_allFacts) (hE : nEn D A cy (NBw cy a) kt vt s) {z : Int32 × nS} : ∀ (σ : nS) (H : Heap) (locs : List Loc) (ls : Array Slot), lv_has ls 1 [(0, .ref (a 1))] → va_P D vwCl ((NBw cy a) σ) H → va_S A s.heap H locs → b_X7_allFacts_0 N σ = some z → W p l e ({ frames := 0, cells := 0, slots := 0, locals := 0 } : Room) s m args below meth c H locs 0 0 (nQi below D A (NBw cy a) args s z) (F0 m 0 ls []) := by
  obtain ⟨hx, hb, hr, hml, hown, hts, hlocks⟩ := C0
  intro σ  H locs ls hl hP hS hf
  unfold b_X7_allFacts_0 at hf
  refine lv_iconst (v := 1) hx hb dX7_allFacts_0 (by decide) ?_
  refine lv_aload_n hx hb dX7_allFacts_1 rfl (lv_at hl 0 rfl) ?_
  refine nb_get (ci := 7) hx hb hts iX7_allFacts_X7 hown hE hP 1 nbo_1 rfl 0 (by decide) qX7_allFacts_9 rfl rfl dX7_allFacts_2 ?_
  refine lv_ishl hx hb dX7_allFacts_5 ?_
  refine lv_topi (fun v1 ev1 => ?_)
  replace hf := nLet_e hf ev1
  refine lv_iconst (v := 1) hx hb dX7_allFacts_6 (by decide) ?_
  refine lv_isub hx hb dX7_allFacts_7 ?_
  refine lv_topi (fun v2 ev2 => ?_)
  replace hf := nLet_e hf ev2
  exact nb_iret hx hb hr hlocks hP hS (nSo hf) dX7_allFacts_8
def l_X7_allFacts_0 (N : Nat) : nS → Option (Int32 × nS) := b_X7_allFacts_0 N
theorem kl_X7_allFacts_0 {p : Program} {l : Launch} {e : Env} {s : State} {m : MethodId} {args : Array Value} {below : List Frame} {meth : Method} {c : Code} {D : va_G} {A : Nat → Prop} {cy : Nat → ClassId} {a kt vt : Nat → Nat} {N : Nat}   (C0 : nCx p s m args meth c cX7_allFacts 1 (some .int) RX7 wsX7_allFacts) (hE : nEn D A cy (NBw cy a) kt vt s) {z : Int32 × nS} : ∀ (σ : nS) (H : Heap) (locs : List Loc) (ls : Array Slot), lv_has ls 1 [(0, .ref (a 1))] → va_P D vwCl ((NBw cy a) σ) H → va_S A s.heap H locs → l_X7_allFacts_0 N σ = some z → W p l e ({ frames := 0, cells := 0, slots := 0, locals := 0 } : Room) s m args below meth c H locs 0 0 (nQi below D A (NBw cy a) args s z) (F0 m 0 ls []) := by
  exact kb_X7_allFacts_0 (N := N)  C0 hE
def f_X7_allFacts (N : Nat) (σ : nS) : Option (Int32 × nS) := l_X7_allFacts_0 N σ
set_option maxHeartbeats 4000000 in
set_option maxRecDepth 100000 in
theorem c_X7_allFacts {l : Launch} {D : va_G} {A : Nat → Prop} {cy : Nat → ClassId} {a kt vt : Nat → Nat} {N : Nat}   {σ : nS} {r : Int32} {σ' : nS} (hf : f_X7_allFacts N σ = some (r, σ')) : nMi l yX7_allFacts wsX7_allFacts ({ frames := 0, cells := 0, slots := 0, locals := 0 } : Room) D A cy (NBw cy a) kt vt [.ref (a 1)] σ r σ' := by
  refine Met.ofW (cc := cX7_allFacts) (maxL := 1) (ret := (some .int)) (by decide) rfl ?_
  intro p e s m args below meth c s₁ B hml hv
  obtain ⟨rfl, hP, hE⟩ := hv
  have hl := lv_entry ([.ref (a 1)]) (n := 1) (Nat.le_of_ble_eq_true rfl)
  rw [lg_entry_eq]
  generalize (lg_sl ([.ref (a 1)]) ++ List.replicate (1 - (lg_sl ([.ref (a 1)])).length) Slot.unset).toArray = ls at hl ⊢
  have C0 : nCx p s m _ meth c cX7_allFacts 1 (some .int) RX7 wsX7_allFacts := ⟨B.exec, B.bytes, B.returns, hml, findClass_of_methodNamed B.named, atoms_spec (ws := wsX7_allFacts) B.pre, B.notSynchronized⟩
  exact kl_X7_allFacts_0 (N := N)  C0 hE (z := (r, σ')) σ  _ _ ls hl hP va_S.rf hf

/-! X7_allSigns -/
set_option maxRecDepth 20000 in
theorem iX7_allSigns_X7 : ∀ w ∈ u_ws RX7 TX7 9, w ∈ wsX7_allSigns := fun _ h => List.mem_cons_of_mem _ (List.mem_append_right _ h)
set_option maxRecDepth 20000 in
theorem qX7_allSigns_15 : Cond.fieldLink RX7 15 RX7 (TX7 1).2.1 (TX7 1).2.2.1 ∈ wsX7_allSigns := by decide +kernel
def b_X7_allSigns_0 (N : Nat) (σ : nS) : Option (Int32 × nS) := nLet ((1 : Int32) <<< ((σ.1 1 1) &&& 31) : Int32) (fun v1 => nLet (v1 - (1 : Int32) : Int32) (fun v2 => some (v2, σ)))
set_option maxHeartbeats 4000000 in
set_option maxRecDepth 100000 in
theorem kb_X7_allSigns_0 {p : Program} {l : Launch} {e : Env} {s : State} {m : MethodId} {args : Array Value} {below : List Frame} {meth : Method} {c : Code} {D : va_G} {A : Nat → Prop} {cy : Nat → ClassId} {a kt vt : Nat → Nat} {N : Nat}   (C0 : nCx p s m args meth c cX7_allSigns 1 (some .int) RX7 wsX7_allSigns) (hE : nEn D A cy (NBw cy a) kt vt s) {z : Int32 × nS} : ∀ (σ : nS) (H : Heap) (locs : List Loc) (ls : Array Slot), lv_has ls 1 [(0, .ref (a 1))] → va_P D vwCl ((NBw cy a) σ) H → va_S A s.heap H locs → b_X7_allSigns_0 N σ = some z → W p l e ({ frames := 0, cells := 0, slots := 0, locals := 0 } : Room) s m args below meth c H locs 0 0 (nQi below D A (NBw cy a) args s z) (F0 m 0 ls []) := by
  obtain ⟨hx, hb, hr, hml, hown, hts, hlocks⟩ := C0
  intro σ  H locs ls hl hP hS hf
  unfold b_X7_allSigns_0 at hf
  refine lv_iconst (v := 1) hx hb dX7_allSigns_0 (by decide) ?_
  refine lv_aload_n hx hb dX7_allSigns_1 rfl (lv_at hl 0 rfl) ?_
  refine nb_get (ci := 7) hx hb hts iX7_allSigns_X7 hown hE hP 1 nbo_1 rfl 1 (by decide) qX7_allSigns_15 rfl rfl dX7_allSigns_2 ?_
  refine lv_ishl hx hb dX7_allSigns_5 ?_
  refine lv_topi (fun v1 ev1 => ?_)
  replace hf := nLet_e hf ev1
  refine lv_iconst (v := 1) hx hb dX7_allSigns_6 (by decide) ?_
  refine lv_isub hx hb dX7_allSigns_7 ?_
  refine lv_topi (fun v2 ev2 => ?_)
  replace hf := nLet_e hf ev2
  exact nb_iret hx hb hr hlocks hP hS (nSo hf) dX7_allSigns_8
def l_X7_allSigns_0 (N : Nat) : nS → Option (Int32 × nS) := b_X7_allSigns_0 N
theorem kl_X7_allSigns_0 {p : Program} {l : Launch} {e : Env} {s : State} {m : MethodId} {args : Array Value} {below : List Frame} {meth : Method} {c : Code} {D : va_G} {A : Nat → Prop} {cy : Nat → ClassId} {a kt vt : Nat → Nat} {N : Nat}   (C0 : nCx p s m args meth c cX7_allSigns 1 (some .int) RX7 wsX7_allSigns) (hE : nEn D A cy (NBw cy a) kt vt s) {z : Int32 × nS} : ∀ (σ : nS) (H : Heap) (locs : List Loc) (ls : Array Slot), lv_has ls 1 [(0, .ref (a 1))] → va_P D vwCl ((NBw cy a) σ) H → va_S A s.heap H locs → l_X7_allSigns_0 N σ = some z → W p l e ({ frames := 0, cells := 0, slots := 0, locals := 0 } : Room) s m args below meth c H locs 0 0 (nQi below D A (NBw cy a) args s z) (F0 m 0 ls []) := by
  exact kb_X7_allSigns_0 (N := N)  C0 hE
def f_X7_allSigns (N : Nat) (σ : nS) : Option (Int32 × nS) := l_X7_allSigns_0 N σ
set_option maxHeartbeats 4000000 in
set_option maxRecDepth 100000 in
theorem c_X7_allSigns {l : Launch} {D : va_G} {A : Nat → Prop} {cy : Nat → ClassId} {a kt vt : Nat → Nat} {N : Nat}   {σ : nS} {r : Int32} {σ' : nS} (hf : f_X7_allSigns N σ = some (r, σ')) : nMi l yX7_allSigns wsX7_allSigns ({ frames := 0, cells := 0, slots := 0, locals := 0 } : Room) D A cy (NBw cy a) kt vt [.ref (a 1)] σ r σ' := by
  refine Met.ofW (cc := cX7_allSigns) (maxL := 1) (ret := (some .int)) (by decide) rfl ?_
  intro p e s m args below meth c s₁ B hml hv
  obtain ⟨rfl, hP, hE⟩ := hv
  have hl := lv_entry ([.ref (a 1)]) (n := 1) (Nat.le_of_ble_eq_true rfl)
  rw [lg_entry_eq]
  generalize (lg_sl ([.ref (a 1)]) ++ List.replicate (1 - (lg_sl ([.ref (a 1)])).length) Slot.unset).toArray = ls at hl ⊢
  have C0 : nCx p s m _ meth c cX7_allSigns 1 (some .int) RX7 wsX7_allSigns := ⟨B.exec, B.bytes, B.returns, hml, findClass_of_methodNamed B.named, atoms_spec (ws := wsX7_allSigns) B.pre, B.notSynchronized⟩
  exact kl_X7_allSigns_0 (N := N)  C0 hE (z := (r, σ')) σ  _ _ ls hl hP va_S.rf hf

/-! X7_allPeople -/
set_option maxRecDepth 20000 in
theorem iX7_allPeople_X7 : ∀ w ∈ u_ws RX7 TX7 9, w ∈ wsX7_allPeople := fun _ h => List.mem_cons_of_mem _ (List.mem_append_right _ h)
set_option maxRecDepth 20000 in
theorem qX7_allPeople_18 : Cond.fieldLink RX7 18 RX7 (TX7 2).2.1 (TX7 2).2.2.1 ∈ wsX7_allPeople := by decide +kernel
def b_X7_allPeople_0 (N : Nat) (σ : nS) : Option (Int32 × nS) := nLet ((1 : Int32) <<< ((σ.1 1 2) &&& 31) : Int32) (fun v1 => nLet (v1 - (1 : Int32) : Int32) (fun v2 => some (v2, σ)))
set_option maxHeartbeats 4000000 in
set_option maxRecDepth 100000 in
theorem kb_X7_allPeople_0 {p : Program} {l : Launch} {e : Env} {s : State} {m : MethodId} {args : Array Value} {below : List Frame} {meth : Method} {c : Code} {D : va_G} {A : Nat → Prop} {cy : Nat → ClassId} {a kt vt : Nat → Nat} {N : Nat}   (C0 : nCx p s m args meth c cX7_allPeople 1 (some .int) RX7 wsX7_allPeople) (hE : nEn D A cy (NBw cy a) kt vt s) {z : Int32 × nS} : ∀ (σ : nS) (H : Heap) (locs : List Loc) (ls : Array Slot), lv_has ls 1 [(0, .ref (a 1))] → va_P D vwCl ((NBw cy a) σ) H → va_S A s.heap H locs → b_X7_allPeople_0 N σ = some z → W p l e ({ frames := 0, cells := 0, slots := 0, locals := 0 } : Room) s m args below meth c H locs 0 0 (nQi below D A (NBw cy a) args s z) (F0 m 0 ls []) := by
  obtain ⟨hx, hb, hr, hml, hown, hts, hlocks⟩ := C0
  intro σ  H locs ls hl hP hS hf
  unfold b_X7_allPeople_0 at hf
  refine lv_iconst (v := 1) hx hb dX7_allPeople_0 (by decide) ?_
  refine lv_aload_n hx hb dX7_allPeople_1 rfl (lv_at hl 0 rfl) ?_
  refine nb_get (ci := 7) hx hb hts iX7_allPeople_X7 hown hE hP 1 nbo_1 rfl 2 (by decide) qX7_allPeople_18 rfl rfl dX7_allPeople_2 ?_
  refine lv_ishl hx hb dX7_allPeople_5 ?_
  refine lv_topi (fun v1 ev1 => ?_)
  replace hf := nLet_e hf ev1
  refine lv_iconst (v := 1) hx hb dX7_allPeople_6 (by decide) ?_
  refine lv_isub hx hb dX7_allPeople_7 ?_
  refine lv_topi (fun v2 ev2 => ?_)
  replace hf := nLet_e hf ev2
  exact nb_iret hx hb hr hlocks hP hS (nSo hf) dX7_allPeople_8
def l_X7_allPeople_0 (N : Nat) : nS → Option (Int32 × nS) := b_X7_allPeople_0 N
theorem kl_X7_allPeople_0 {p : Program} {l : Launch} {e : Env} {s : State} {m : MethodId} {args : Array Value} {below : List Frame} {meth : Method} {c : Code} {D : va_G} {A : Nat → Prop} {cy : Nat → ClassId} {a kt vt : Nat → Nat} {N : Nat}   (C0 : nCx p s m args meth c cX7_allPeople 1 (some .int) RX7 wsX7_allPeople) (hE : nEn D A cy (NBw cy a) kt vt s) {z : Int32 × nS} : ∀ (σ : nS) (H : Heap) (locs : List Loc) (ls : Array Slot), lv_has ls 1 [(0, .ref (a 1))] → va_P D vwCl ((NBw cy a) σ) H → va_S A s.heap H locs → l_X7_allPeople_0 N σ = some z → W p l e ({ frames := 0, cells := 0, slots := 0, locals := 0 } : Room) s m args below meth c H locs 0 0 (nQi below D A (NBw cy a) args s z) (F0 m 0 ls []) := by
  exact kb_X7_allPeople_0 (N := N)  C0 hE
def f_X7_allPeople (N : Nat) (σ : nS) : Option (Int32 × nS) := l_X7_allPeople_0 N σ
set_option maxHeartbeats 4000000 in
set_option maxRecDepth 100000 in
theorem c_X7_allPeople {l : Launch} {D : va_G} {A : Nat → Prop} {cy : Nat → ClassId} {a kt vt : Nat → Nat} {N : Nat}   {σ : nS} {r : Int32} {σ' : nS} (hf : f_X7_allPeople N σ = some (r, σ')) : nMi l yX7_allPeople wsX7_allPeople ({ frames := 0, cells := 0, slots := 0, locals := 0 } : Room) D A cy (NBw cy a) kt vt [.ref (a 1)] σ r σ' := by
  refine Met.ofW (cc := cX7_allPeople) (maxL := 1) (ret := (some .int)) (by decide) rfl ?_
  intro p e s m args below meth c s₁ B hml hv
  obtain ⟨rfl, hP, hE⟩ := hv
  have hl := lv_entry ([.ref (a 1)]) (n := 1) (Nat.le_of_ble_eq_true rfl)
  rw [lg_entry_eq]
  generalize (lg_sl ([.ref (a 1)]) ++ List.replicate (1 - (lg_sl ([.ref (a 1)])).length) Slot.unset).toArray = ls at hl ⊢
  have C0 : nCx p s m _ meth c cX7_allPeople 1 (some .int) RX7 wsX7_allPeople := ⟨B.exec, B.bytes, B.returns, hml, findClass_of_methodNamed B.named, atoms_spec (ws := wsX7_allPeople) B.pre, B.notSynchronized⟩
  exact kl_X7_allPeople_0 (N := N)  C0 hE (z := (r, σ')) σ  _ _ ls hl hP va_S.rf hf

/-! X7_factOf -/
set_option maxRecDepth 20000 in
theorem iX7_factOf_X7 : ∀ w ∈ u_ws RX7 TX7 9, w ∈ wsX7_factOf := fun _ h => List.mem_cons_of_mem _ (List.mem_append_right _ h)
set_option maxRecDepth 20000 in
theorem qX7_factOf_27 : Cond.fieldLink RX7 27 RX7 (TX7 5).2.1 (TX7 5).2.2.1 ∈ wsX7_factOf := by decide +kernel
def b_X7_factOf_0 (N : Nat) (σ : nS) (x1 : Int32) : Option (Int32 × nS) := (if x1 < 0 then some (0, σ) else nLet (Int32.ofNat 8) (fun v1 => (if v1 ≤ x1 then some (0, σ) else nIx x1 8 (nLet (σ.1 2 (x1).toNatClampNeg) (fun v2 => some (v2, σ))))))
set_option maxHeartbeats 4000000 in
set_option maxRecDepth 100000 in
theorem kb_X7_factOf_0 {p : Program} {l : Launch} {e : Env} {s : State} {m : MethodId} {args : Array Value} {below : List Frame} {meth : Method} {c : Code} {D : va_G} {A : Nat → Prop} {cy : Nat → ClassId} {a kt vt : Nat → Nat} {N : Nat}   (C0 : nCx p s m args meth c cX7_factOf 2 (some .int) RX7 wsX7_factOf) (hE : nEn D A cy (NBw cy a) kt vt s) {z : Int32 × nS} : ∀ (σ : nS) (x1 : Int32) (H : Heap) (locs : List Loc) (ls : Array Slot), lv_has ls 2 [(0, .ref (a 1)), (1, .int x1)] → va_P D vwCl ((NBw cy a) σ) H → va_S A s.heap H locs → b_X7_factOf_0 N σ x1 = some z → W p l e ({ frames := 0, cells := 0, slots := 0, locals := 0 } : Room) s m args below meth c H locs 0 0 (nQi below D A (NBw cy a) args s z) (F0 m 0 ls []) := by
  obtain ⟨hx, hb, hr, hml, hown, hts, hlocks⟩ := C0
  intro σ x1 H locs ls hl hP hS hf
  unfold b_X7_factOf_0 at hf
  refine lv_iload_n hx hb dX7_factOf_0 rfl (lv_at hl 1 rfl) ?_
  refine lv_if_lt (tgt := 22) hx hb dX7_factOf_1 (by decide) (fun hc => ?_) (fun hc => ?_)
  · replace hf := nIf_t hc hf
    refine lv_iconst (v := 0) hx hb dX7_factOf_22 (by decide) ?_
    exact nb_iret hx hb hr hlocks hP hS (nSo hf) dX7_factOf_23
  · replace hf := nIf_f hc hf
    refine lv_iload_n hx hb dX7_factOf_4 rfl (lv_at hl 1 rfl) ?_
    refine lv_aload_n hx hb dX7_factOf_5 rfl (lv_at hl 0 rfl) ?_
    refine nb_get (ci := 7) hx hb hts iX7_factOf_X7 hown hE hP 1 nbo_1 rfl 5 (by decide) qX7_factOf_27 rfl rfl dX7_factOf_6 ?_
    refine na_alen hx hb hE hP nbr_2 dX7_factOf_9 ?_
    refine lv_topi (fun v1 ev1 => ?_)
    replace hf := nLet_e hf ev1
    refine lv_icmp_ge (tgt := 22) hx hb dX7_factOf_10 (by decide) (fun hc => ?_) (fun hc => ?_)
    · replace hf := nIf_t hc hf
      refine lv_iconst (v := 0) hx hb dX7_factOf_22 (by decide) ?_
      exact nb_iret hx hb hr hlocks hP hS (nSo hf) dX7_factOf_23
    · replace hf := nIf_f hc hf
      refine lv_aload_n hx hb dX7_factOf_13 rfl (lv_at hl 0 rfl) ?_
      refine nb_get (ci := 7) hx hb hts iX7_factOf_X7 hown hE hP 1 nbo_1 rfl 5 (by decide) qX7_factOf_27 rfl rfl dX7_factOf_14 ?_
      refine lv_iload_n hx hb dX7_factOf_17 rfl (lv_at hl 1 rfl) ?_
      obtain ⟨hin, hf⟩ := nIx_e hf
      refine na_iald hx hb hE hP nbr_2 hin dX7_factOf_18 ?_
      refine lv_topi (fun v2 ev2 => ?_)
      replace hf := nLet_e hf ev2
      refine lv_goto (tgt := 23) hx hb dX7_factOf_19 (by decide) ?_
      exact nb_iret hx hb hr hlocks hP hS (nSo hf) dX7_factOf_23
def l_X7_factOf_0 (N : Nat) : nS → Int32 → Option (Int32 × nS) := b_X7_factOf_0 N
theorem kl_X7_factOf_0 {p : Program} {l : Launch} {e : Env} {s : State} {m : MethodId} {args : Array Value} {below : List Frame} {meth : Method} {c : Code} {D : va_G} {A : Nat → Prop} {cy : Nat → ClassId} {a kt vt : Nat → Nat} {N : Nat}   (C0 : nCx p s m args meth c cX7_factOf 2 (some .int) RX7 wsX7_factOf) (hE : nEn D A cy (NBw cy a) kt vt s) {z : Int32 × nS} : ∀ (σ : nS) (x1 : Int32) (H : Heap) (locs : List Loc) (ls : Array Slot), lv_has ls 2 [(0, .ref (a 1)), (1, .int x1)] → va_P D vwCl ((NBw cy a) σ) H → va_S A s.heap H locs → l_X7_factOf_0 N σ x1 = some z → W p l e ({ frames := 0, cells := 0, slots := 0, locals := 0 } : Room) s m args below meth c H locs 0 0 (nQi below D A (NBw cy a) args s z) (F0 m 0 ls []) := by
  exact kb_X7_factOf_0 (N := N)  C0 hE
def f_X7_factOf (N : Nat) (x1 : Int32) (σ : nS) : Option (Int32 × nS) := l_X7_factOf_0 N σ x1
set_option maxHeartbeats 4000000 in
set_option maxRecDepth 100000 in
theorem c_X7_factOf {l : Launch} {D : va_G} {A : Nat → Prop} {cy : Nat → ClassId} {a kt vt : Nat → Nat} {N : Nat}   {x1 : Int32} {σ : nS} {r : Int32} {σ' : nS} (hf : f_X7_factOf N x1 σ = some (r, σ')) : nMi l yX7_factOf wsX7_factOf ({ frames := 0, cells := 0, slots := 0, locals := 0 } : Room) D A cy (NBw cy a) kt vt [.ref (a 1), .int x1] σ r σ' := by
  refine Met.ofW (cc := cX7_factOf) (maxL := 2) (ret := (some .int)) (by decide) rfl ?_
  intro p e s m args below meth c s₁ B hml hv
  obtain ⟨rfl, hP, hE⟩ := hv
  have hl := lv_entry ([.ref (a 1), .int x1]) (n := 2) (Nat.le_of_ble_eq_true rfl)
  rw [lg_entry_eq]
  generalize (lg_sl ([.ref (a 1), .int x1]) ++ List.replicate (2 - (lg_sl ([.ref (a 1), .int x1])).length) Slot.unset).toArray = ls at hl ⊢
  have C0 : nCx p s m _ meth c cX7_factOf 2 (some .int) RX7 wsX7_factOf := ⟨B.exec, B.bytes, B.returns, hml, findClass_of_methodNamed B.named, atoms_spec (ws := wsX7_factOf) B.pre, B.notSynchronized⟩
  exact kl_X7_factOf_0 (N := N)  C0 hE (z := (r, σ')) σ x1 _ _ ls hl hP va_S.rf hf

/-! X7_skillsOf -/
set_option maxRecDepth 20000 in
theorem iX7_skillsOf_X7 : ∀ w ∈ u_ws RX7 TX7 9, w ∈ wsX7_skillsOf := fun _ h => List.mem_cons_of_mem _ (List.mem_append_right _ h)
set_option maxRecDepth 20000 in
theorem qX7_skillsOf_31 : Cond.fieldLink RX7 31 RX7 (TX7 6).2.1 (TX7 6).2.2.1 ∈ wsX7_skillsOf := by decide +kernel
def b_X7_skillsOf_0 (N : Nat) (σ : nS) (x1 : Int32) : Option (Int32 × nS) := (if x1 < 0 then some (0, σ) else nLet (Int32.ofNat 4) (fun v1 => (if v1 ≤ x1 then some (0, σ) else nIx x1 4 (nLet (σ.1 3 (x1).toNatClampNeg) (fun v2 => some (v2, σ))))))
set_option maxHeartbeats 4000000 in
set_option maxRecDepth 100000 in
theorem kb_X7_skillsOf_0 {p : Program} {l : Launch} {e : Env} {s : State} {m : MethodId} {args : Array Value} {below : List Frame} {meth : Method} {c : Code} {D : va_G} {A : Nat → Prop} {cy : Nat → ClassId} {a kt vt : Nat → Nat} {N : Nat}   (C0 : nCx p s m args meth c cX7_skillsOf 2 (some .int) RX7 wsX7_skillsOf) (hE : nEn D A cy (NBw cy a) kt vt s) {z : Int32 × nS} : ∀ (σ : nS) (x1 : Int32) (H : Heap) (locs : List Loc) (ls : Array Slot), lv_has ls 2 [(0, .ref (a 1)), (1, .int x1)] → va_P D vwCl ((NBw cy a) σ) H → va_S A s.heap H locs → b_X7_skillsOf_0 N σ x1 = some z → W p l e ({ frames := 0, cells := 0, slots := 0, locals := 0 } : Room) s m args below meth c H locs 0 0 (nQi below D A (NBw cy a) args s z) (F0 m 0 ls []) := by
  obtain ⟨hx, hb, hr, hml, hown, hts, hlocks⟩ := C0
  intro σ x1 H locs ls hl hP hS hf
  unfold b_X7_skillsOf_0 at hf
  refine lv_iload_n hx hb dX7_skillsOf_0 rfl (lv_at hl 1 rfl) ?_
  refine lv_if_lt (tgt := 22) hx hb dX7_skillsOf_1 (by decide) (fun hc => ?_) (fun hc => ?_)
  · replace hf := nIf_t hc hf
    refine lv_iconst (v := 0) hx hb dX7_skillsOf_22 (by decide) ?_
    exact nb_iret hx hb hr hlocks hP hS (nSo hf) dX7_skillsOf_23
  · replace hf := nIf_f hc hf
    refine lv_iload_n hx hb dX7_skillsOf_4 rfl (lv_at hl 1 rfl) ?_
    refine lv_aload_n hx hb dX7_skillsOf_5 rfl (lv_at hl 0 rfl) ?_
    refine nb_get (ci := 7) hx hb hts iX7_skillsOf_X7 hown hE hP 1 nbo_1 rfl 6 (by decide) qX7_skillsOf_31 rfl rfl dX7_skillsOf_6 ?_
    refine na_alen hx hb hE hP nbr_3 dX7_skillsOf_9 ?_
    refine lv_topi (fun v1 ev1 => ?_)
    replace hf := nLet_e hf ev1
    refine lv_icmp_ge (tgt := 22) hx hb dX7_skillsOf_10 (by decide) (fun hc => ?_) (fun hc => ?_)
    · replace hf := nIf_t hc hf
      refine lv_iconst (v := 0) hx hb dX7_skillsOf_22 (by decide) ?_
      exact nb_iret hx hb hr hlocks hP hS (nSo hf) dX7_skillsOf_23
    · replace hf := nIf_f hc hf
      refine lv_aload_n hx hb dX7_skillsOf_13 rfl (lv_at hl 0 rfl) ?_
      refine nb_get (ci := 7) hx hb hts iX7_skillsOf_X7 hown hE hP 1 nbo_1 rfl 6 (by decide) qX7_skillsOf_31 rfl rfl dX7_skillsOf_14 ?_
      refine lv_iload_n hx hb dX7_skillsOf_17 rfl (lv_at hl 1 rfl) ?_
      obtain ⟨hin, hf⟩ := nIx_e hf
      refine na_iald hx hb hE hP nbr_3 hin dX7_skillsOf_18 ?_
      refine lv_topi (fun v2 ev2 => ?_)
      replace hf := nLet_e hf ev2
      refine lv_goto (tgt := 23) hx hb dX7_skillsOf_19 (by decide) ?_
      exact nb_iret hx hb hr hlocks hP hS (nSo hf) dX7_skillsOf_23
def l_X7_skillsOf_0 (N : Nat) : nS → Int32 → Option (Int32 × nS) := b_X7_skillsOf_0 N
theorem kl_X7_skillsOf_0 {p : Program} {l : Launch} {e : Env} {s : State} {m : MethodId} {args : Array Value} {below : List Frame} {meth : Method} {c : Code} {D : va_G} {A : Nat → Prop} {cy : Nat → ClassId} {a kt vt : Nat → Nat} {N : Nat}   (C0 : nCx p s m args meth c cX7_skillsOf 2 (some .int) RX7 wsX7_skillsOf) (hE : nEn D A cy (NBw cy a) kt vt s) {z : Int32 × nS} : ∀ (σ : nS) (x1 : Int32) (H : Heap) (locs : List Loc) (ls : Array Slot), lv_has ls 2 [(0, .ref (a 1)), (1, .int x1)] → va_P D vwCl ((NBw cy a) σ) H → va_S A s.heap H locs → l_X7_skillsOf_0 N σ x1 = some z → W p l e ({ frames := 0, cells := 0, slots := 0, locals := 0 } : Room) s m args below meth c H locs 0 0 (nQi below D A (NBw cy a) args s z) (F0 m 0 ls []) := by
  exact kb_X7_skillsOf_0 (N := N)  C0 hE
def f_X7_skillsOf (N : Nat) (x1 : Int32) (σ : nS) : Option (Int32 × nS) := l_X7_skillsOf_0 N σ x1
set_option maxHeartbeats 4000000 in
set_option maxRecDepth 100000 in
theorem c_X7_skillsOf {l : Launch} {D : va_G} {A : Nat → Prop} {cy : Nat → ClassId} {a kt vt : Nat → Nat} {N : Nat}   {x1 : Int32} {σ : nS} {r : Int32} {σ' : nS} (hf : f_X7_skillsOf N x1 σ = some (r, σ')) : nMi l yX7_skillsOf wsX7_skillsOf ({ frames := 0, cells := 0, slots := 0, locals := 0 } : Room) D A cy (NBw cy a) kt vt [.ref (a 1), .int x1] σ r σ' := by
  refine Met.ofW (cc := cX7_skillsOf) (maxL := 2) (ret := (some .int)) (by decide) rfl ?_
  intro p e s m args below meth c s₁ B hml hv
  obtain ⟨rfl, hP, hE⟩ := hv
  have hl := lv_entry ([.ref (a 1), .int x1]) (n := 2) (Nat.le_of_ble_eq_true rfl)
  rw [lg_entry_eq]
  generalize (lg_sl ([.ref (a 1), .int x1]) ++ List.replicate (2 - (lg_sl ([.ref (a 1), .int x1])).length) Slot.unset).toArray = ls at hl ⊢
  have C0 : nCx p s m _ meth c cX7_skillsOf 2 (some .int) RX7 wsX7_skillsOf := ⟨B.exec, B.bytes, B.returns, hml, findClass_of_methodNamed B.named, atoms_spec (ws := wsX7_skillsOf) B.pre, B.notSynchronized⟩
  exact kl_X7_skillsOf_0 (N := N)  C0 hE (z := (r, σ')) σ x1 _ _ ls hl hP va_S.rf hf

/-! X7_setSkills -/
set_option maxRecDepth 20000 in
theorem iX7_setSkills_X7 : ∀ w ∈ u_ws RX7 TX7 9, w ∈ wsX7_setSkills := fun _ h => List.mem_cons_of_mem _ (List.mem_append_right _ h)
set_option maxRecDepth 20000 in
theorem qX7_setSkills_31 : Cond.fieldLink RX7 31 RX7 (TX7 6).2.1 (TX7 6).2.2.1 ∈ wsX7_setSkills := by decide +kernel
def b_X7_setSkills_0 (N : Nat) (σ : nS) (x1 : Int32) (x2 : Int32) : Option (Int32 × nS) := (if x1 < 0 then some (0, σ) else nLet (Int32.ofNat 4) (fun v1 => (if v1 ≤ x1 then some (0, σ) else nIx x1 4 (nLet (wr σ 3 (x1).toNatClampNeg x2) (fun σ2 => some (0, σ2))))))
set_option maxHeartbeats 4000000 in
set_option maxRecDepth 100000 in
theorem kb_X7_setSkills_0 {p : Program} {l : Launch} {e : Env} {s : State} {m : MethodId} {args : Array Value} {below : List Frame} {meth : Method} {c : Code} {D : va_G} {A : Nat → Prop} {cy : Nat → ClassId} {a kt vt : Nat → Nat} {N : Nat}   (C0 : nCx p s m args meth c cX7_setSkills 3 none RX7 wsX7_setSkills) (hE : nEn D A cy (NBw cy a) kt vt s) {z : Int32 × nS} : ∀ (σ : nS) (x1 : Int32) (x2 : Int32) (H : Heap) (locs : List Loc) (ls : Array Slot), lv_has ls 3 [(0, .ref (a 1)), (1, .int x1), (2, .int x2)] → va_P D vwCl ((NBw cy a) σ) H → va_S A s.heap H locs → b_X7_setSkills_0 N σ x1 x2 = some z → W p l e ({ frames := 0, cells := 0, slots := 0, locals := 0 } : Room) s m args below meth c H locs 0 0 (nQv below D A (NBw cy a) args s z) (F0 m 0 ls []) := by
  obtain ⟨hx, hb, hr, hml, hown, hts, hlocks⟩ := C0
  intro σ x1 x2 H locs ls hl hP hS hf
  unfold b_X7_setSkills_0 at hf
  refine lv_iload_n hx hb dX7_setSkills_0 rfl (lv_at hl 1 rfl) ?_
  refine lv_if_lt (tgt := 20) hx hb dX7_setSkills_1 (by decide) (fun hc => ?_) (fun hc => ?_)
  · replace hf := nIf_t hc hf
    exact nb_vret hx hb hr hlocks hP hS (nSo hf) dX7_setSkills_20
  · replace hf := nIf_f hc hf
    refine lv_iload_n hx hb dX7_setSkills_4 rfl (lv_at hl 1 rfl) ?_
    refine lv_aload_n hx hb dX7_setSkills_5 rfl (lv_at hl 0 rfl) ?_
    refine nb_get (ci := 7) hx hb hts iX7_setSkills_X7 hown hE hP 1 nbo_1 rfl 6 (by decide) qX7_setSkills_31 rfl rfl dX7_setSkills_6 ?_
    refine na_alen hx hb hE hP nbr_3 dX7_setSkills_9 ?_
    refine lv_topi (fun v1 ev1 => ?_)
    replace hf := nLet_e hf ev1
    refine lv_icmp_ge (tgt := 20) hx hb dX7_setSkills_10 (by decide) (fun hc => ?_) (fun hc => ?_)
    · replace hf := nIf_t hc hf
      exact nb_vret hx hb hr hlocks hP hS (nSo hf) dX7_setSkills_20
    · replace hf := nIf_f hc hf
      refine lv_aload_n hx hb dX7_setSkills_13 rfl (lv_at hl 0 rfl) ?_
      refine nb_get (ci := 7) hx hb hts iX7_setSkills_X7 hown hE hP 1 nbo_1 rfl 6 (by decide) qX7_setSkills_31 rfl rfl dX7_setSkills_14 ?_
      refine lv_iload_n hx hb dX7_setSkills_17 rfl (lv_at hl 1 rfl) ?_
      refine lv_iload_n hx hb dX7_setSkills_18 rfl (lv_at hl 2 rfl) ?_
      obtain ⟨hin, hf⟩ := nIx_e hf
      refine na_iast hx hb hE hP hS nbr_3 hin dX7_setSkills_19 (fun σ2 eσ2 H locs hP hS => ?_)
      replace hf := nLet_e hf eσ2
      exact nb_vret hx hb hr hlocks hP hS (nSo hf) dX7_setSkills_20
def l_X7_setSkills_0 (N : Nat) : nS → Int32 → Int32 → Option (Int32 × nS) := b_X7_setSkills_0 N
theorem kl_X7_setSkills_0 {p : Program} {l : Launch} {e : Env} {s : State} {m : MethodId} {args : Array Value} {below : List Frame} {meth : Method} {c : Code} {D : va_G} {A : Nat → Prop} {cy : Nat → ClassId} {a kt vt : Nat → Nat} {N : Nat}   (C0 : nCx p s m args meth c cX7_setSkills 3 none RX7 wsX7_setSkills) (hE : nEn D A cy (NBw cy a) kt vt s) {z : Int32 × nS} : ∀ (σ : nS) (x1 : Int32) (x2 : Int32) (H : Heap) (locs : List Loc) (ls : Array Slot), lv_has ls 3 [(0, .ref (a 1)), (1, .int x1), (2, .int x2)] → va_P D vwCl ((NBw cy a) σ) H → va_S A s.heap H locs → l_X7_setSkills_0 N σ x1 x2 = some z → W p l e ({ frames := 0, cells := 0, slots := 0, locals := 0 } : Room) s m args below meth c H locs 0 0 (nQv below D A (NBw cy a) args s z) (F0 m 0 ls []) := by
  exact kb_X7_setSkills_0 (N := N)  C0 hE
def f_X7_setSkills (N : Nat) (x1 : Int32) (x2 : Int32) (σ : nS) : Option (Int32 × nS) := l_X7_setSkills_0 N σ x1 x2
set_option maxHeartbeats 4000000 in
set_option maxRecDepth 100000 in
theorem c_X7_setSkills {l : Launch} {D : va_G} {A : Nat → Prop} {cy : Nat → ClassId} {a kt vt : Nat → Nat} {N : Nat}   {x1 : Int32} {x2 : Int32} {σ : nS} {r : Int32} {σ' : nS} (hf : f_X7_setSkills N x1 x2 σ = some (r, σ')) : nMv l yX7_setSkills wsX7_setSkills ({ frames := 0, cells := 0, slots := 0, locals := 0 } : Room) D A cy (NBw cy a) kt vt [.ref (a 1), .int x1, .int x2] σ σ' := by
  refine Met.ofW (cc := cX7_setSkills) (maxL := 3) (ret := none) (by decide) rfl ?_
  intro p e s m args below meth c s₁ B hml hv
  obtain ⟨rfl, hP, hE⟩ := hv
  have hl := lv_entry ([.ref (a 1), .int x1, .int x2]) (n := 3) (Nat.le_of_ble_eq_true rfl)
  rw [lg_entry_eq]
  generalize (lg_sl ([.ref (a 1), .int x1, .int x2]) ++ List.replicate (3 - (lg_sl ([.ref (a 1), .int x1, .int x2])).length) Slot.unset).toArray = ls at hl ⊢
  have C0 : nCx p s m _ meth c cX7_setSkills 3 none RX7 wsX7_setSkills := ⟨B.exec, B.bytes, B.returns, hml, findClass_of_methodNamed B.named, atoms_spec (ws := wsX7_setSkills) B.pre, B.notSynchronized⟩
  exact kl_X7_setSkills_0 (N := N)  C0 hE (z := (r, σ')) σ x1 x2 _ _ ls hl hP va_S.rf hf

/-! X7_someoneCan -/
set_option maxRecDepth 20000 in
theorem iX7_someoneCan_X7 : ∀ w ∈ u_ws RX7 TX7 9, w ∈ wsX7_someoneCan := fun _ h => List.mem_cons_of_mem _ (List.mem_append_right _ h)
set_option maxRecDepth 20000 in
theorem qX7_someoneCan_18 : Cond.fieldLink RX7 18 RX7 (TX7 2).2.1 (TX7 2).2.2.1 ∈ wsX7_someoneCan := by decide +kernel
def b_X7_someoneCan_4 (N : Nat) (k4 : nS → Int32 → Int32 → Int32 → Option (Int32 × nS)) (σ : nS) (x1 : Int32) (x2 : Int32) (x3 : Int32) : Option (Int32 × nS) := (if (σ.1 1 2) ≤ x3 then nLet (x2 >>> (x1 &&& 31) : Int32) (fun v1 => nLet (v1 &&& (1 : Int32) : Int32) (fun v2 => (if v2 = 1 then some (1, σ) else some (0, σ)))) else nBd (f_X7_skillsOf N x3 σ) (fun r3 σ4 => nLet (x2 ||| r3 : Int32) (fun v5 => nLet (x3 + 1 : Int32) (fun v6 => k4 σ4 x1 v5 v6))))
set_option maxHeartbeats 4000000 in
set_option maxRecDepth 100000 in
theorem kb_X7_someoneCan_4 {p : Program} {l : Launch} {e : Env} {s : State} {m : MethodId} {args : Array Value} {below : List Frame} {meth : Method} {c : Code} {D : va_G} {A : Nat → Prop} {cy : Nat → ClassId} {a kt vt : Nat → Nat} {N : Nat}   (C0 : nCx p s m args meth c cX7_someoneCan 4 (some .boolean) RX7 wsX7_someoneCan) (hE : nEn D A cy (NBw cy a) kt vt s) {z : Int32 × nS} {k4 : nS → Int32 → Int32 → Int32 → Option (Int32 × nS)} (K4 : ∀ (σ : nS) (x1 : Int32) (x2 : Int32) (x3 : Int32) (H : Heap) (locs : List Loc) (ls : Array Slot), lv_has ls 4 [(0, .ref (a 1)), (1, .int x1), (2, .int x2), (3, .int x3)] → va_P D vwCl ((NBw cy a) σ) H → va_S A s.heap H locs → k4 σ x1 x2 x3 = some z → W p l e ({ frames := 1, cells := 0, slots := 0, locals := 21 } : Room) s m args below meth c H locs 0 0 (nQi below D A (NBw cy a) args s z) (F0 m 4 ls [])) : ∀ (σ : nS) (x1 : Int32) (x2 : Int32) (x3 : Int32) (H : Heap) (locs : List Loc) (ls : Array Slot), lv_has ls 4 [(0, .ref (a 1)), (1, .int x1), (2, .int x2), (3, .int x3)] → va_P D vwCl ((NBw cy a) σ) H → va_S A s.heap H locs → b_X7_someoneCan_4 N k4 σ x1 x2 x3 = some z → W p l e ({ frames := 1, cells := 0, slots := 0, locals := 21 } : Room) s m args below meth c H locs 0 0 (nQi below D A (NBw cy a) args s z) (F0 m 4 ls []) := by
  obtain ⟨hx, hb, hr, hml, hown, hts, hlocks⟩ := C0
  intro σ x1 x2 x3 H locs ls hl hP hS hf
  unfold b_X7_someoneCan_4 at hf
  refine lv_iload_n hx hb dX7_someoneCan_4 rfl (lv_at hl 3 rfl) ?_
  refine lv_aload_n hx hb dX7_someoneCan_5 rfl (lv_at hl 0 rfl) ?_
  refine nb_get (ci := 7) hx hb hts iX7_someoneCan_X7 hown hE hP 1 nbo_1 rfl 2 (by decide) qX7_someoneCan_18 rfl rfl dX7_someoneCan_6 ?_
  refine lv_icmp_ge (tgt := 26) hx hb dX7_someoneCan_9 (by decide) (fun hc => ?_) (fun hc => ?_)
  · replace hf := nIf_t hc hf
    refine lv_iload_n hx hb dX7_someoneCan_26 rfl (lv_at hl 2 rfl) ?_
    refine lv_iload_n hx hb dX7_someoneCan_27 rfl (lv_at hl 1 rfl) ?_
    refine lv_ishr hx hb dX7_someoneCan_28 ?_
    refine lv_topi (fun v1 ev1 => ?_)
    replace hf := nLet_e hf ev1
    refine lv_iconst (v := 1) hx hb dX7_someoneCan_29 (by decide) ?_
    refine lv_iand hx hb dX7_someoneCan_30 ?_
    refine lv_topi (fun v2 ev2 => ?_)
    replace hf := nLet_e hf ev2
    refine lv_iconst (v := 1) hx hb dX7_someoneCan_31 (by decide) ?_
    refine lv_icmp_ne (tgt := 39) hx hb dX7_someoneCan_32 (by decide) (fun hc => ?_) (fun hc => ?_)
    · replace hf := nIf_f hc hf
      refine lv_iconst (v := 0) hx hb dX7_someoneCan_39 (by decide) ?_
      exact nb_zret hx hb hr hlocks hP hS (nSo hf) rfl dX7_someoneCan_40
    · replace hf := nIf_t hc hf
      refine lv_iconst (v := 1) hx hb dX7_someoneCan_35 (by decide) ?_
      refine lv_goto (tgt := 40) hx hb dX7_someoneCan_36 (by decide) ?_
      exact nb_zret hx hb hr hlocks hP hS (nSo hf) rfl dX7_someoneCan_40
  · replace hf := nIf_f hc hf
    refine lv_iload_n hx hb dX7_someoneCan_12 rfl (lv_at hl 2 rfl) ?_
    refine lv_aload_n hx hb dX7_someoneCan_13 rfl (lv_at hl 0 rfl) ?_
    refine lv_iload_n hx hb dX7_someoneCan_14 rfl (lv_at hl 3 rfl) ?_
    obtain ⟨r3, σ4, hc4, hf⟩ := nBd_e hf
    refine nb_callVi (As := [.int x3]) (rest := [.int x2]) ⟨hx, hb, hml, hown, hts⟩ (c_X7_skillsOf (D := D) (A := A) (cy := cy) (a := a) (kt := kt) (vt := vt) (l := l)  hc4) (cwV 1 hts gX7_someoneCan_X7_skillsOf rfl rfl rfl (by decide +kernel) ⟨Nat.le_of_ble_eq_true rfl, Nat.le_of_ble_eq_true rfl⟩) hE hP hS nbo_1 rfl rfl hl.1 rfl (Nat.le_of_ble_eq_true rfl) dX7_someoneCan_15 (fun H locs hP hS => ?_)
    refine lv_ior hx hb dX7_someoneCan_18 ?_
    refine lv_topi (fun v5 ev5 => ?_)
    replace hf := nLet_e hf ev5
    refine lv_istore_n (lv' := [(2, .int v5), (0, .ref (a 1)), (1, .int x1), (3, .int x3)]) hx hb dX7_someoneCan_19 rfl hl (by decide) rfl (fun ls hl => ?_)
    obtain ⟨v6, ev6⟩ : ∃ y : Int32, y = x3 + 1 := ⟨_, rfl⟩
    replace hf := nLet_e hf ev6
    refine lv_iinc (v := v6) (lv' := [(3, .int v6), (2, .int v5), (0, .ref (a 1)), (1, .int x1)]) hx hb dX7_someoneCan_20 hl (k := 3) rfl (by rw [ev6]; rfl) (by decide) rfl (fun ls hl => ?_)
    refine lv_goto (tgt := 4) hx hb dX7_someoneCan_23 (by decide) ?_
    exact K4 σ4 x1 v5 v6 H locs ls (lv_sub hl [2, 3, 1, 0] rfl) hP hS hf
def b_X7_someoneCan_0 (N : Nat) (k4 : nS → Int32 → Int32 → Int32 → Option (Int32 × nS)) (σ : nS) (x1 : Int32) : Option (Int32 × nS) := k4 σ x1 0 0
set_option maxHeartbeats 4000000 in
set_option maxRecDepth 100000 in
theorem kb_X7_someoneCan_0 {p : Program} {l : Launch} {e : Env} {s : State} {m : MethodId} {args : Array Value} {below : List Frame} {meth : Method} {c : Code} {D : va_G} {A : Nat → Prop} {cy : Nat → ClassId} {a kt vt : Nat → Nat} {N : Nat}   (C0 : nCx p s m args meth c cX7_someoneCan 4 (some .boolean) RX7 wsX7_someoneCan) (hE : nEn D A cy (NBw cy a) kt vt s) {z : Int32 × nS} {k4 : nS → Int32 → Int32 → Int32 → Option (Int32 × nS)} (K4 : ∀ (σ : nS) (x1 : Int32) (x2 : Int32) (x3 : Int32) (H : Heap) (locs : List Loc) (ls : Array Slot), lv_has ls 4 [(0, .ref (a 1)), (1, .int x1), (2, .int x2), (3, .int x3)] → va_P D vwCl ((NBw cy a) σ) H → va_S A s.heap H locs → k4 σ x1 x2 x3 = some z → W p l e ({ frames := 1, cells := 0, slots := 0, locals := 21 } : Room) s m args below meth c H locs 0 0 (nQi below D A (NBw cy a) args s z) (F0 m 4 ls [])) : ∀ (σ : nS) (x1 : Int32) (H : Heap) (locs : List Loc) (ls : Array Slot), lv_has ls 4 [(0, .ref (a 1)), (1, .int x1)] → va_P D vwCl ((NBw cy a) σ) H → va_S A s.heap H locs → b_X7_someoneCan_0 N k4 σ x1 = some z → W p l e ({ frames := 1, cells := 0, slots := 0, locals := 21 } : Room) s m args below meth c H locs 0 0 (nQi below D A (NBw cy a) args s z) (F0 m 0 ls []) := by
  obtain ⟨hx, hb, hr, hml, hown, hts, hlocks⟩ := C0
  intro σ x1 H locs ls hl hP hS hf
  unfold b_X7_someoneCan_0 at hf
  refine lv_iconst (v := 0) hx hb dX7_someoneCan_0 (by decide) ?_
  refine lv_istore_n (lv' := [(2, .int 0), (0, .ref (a 1)), (1, .int x1)]) hx hb dX7_someoneCan_1 rfl hl (by decide) rfl (fun ls hl => ?_)
  refine lv_iconst (v := 0) hx hb dX7_someoneCan_2 (by decide) ?_
  refine lv_istore_n (lv' := [(3, .int 0), (2, .int 0), (0, .ref (a 1)), (1, .int x1)]) hx hb dX7_someoneCan_3 rfl hl (by decide) rfl (fun ls hl => ?_)
  exact K4 σ x1 0 0 H locs ls (lv_sub hl [2, 3, 1, 0] rfl) hP hS hf
def l_X7_someoneCan_4 (N : Nat) : nS → Int32 → Int32 → Int32 → Option (Int32 × nS) := nLp (fun _ _ _ _ => none) (fun again => b_X7_someoneCan_4 N again) N
theorem kl_X7_someoneCan_4 {p : Program} {l : Launch} {e : Env} {s : State} {m : MethodId} {args : Array Value} {below : List Frame} {meth : Method} {c : Code} {D : va_G} {A : Nat → Prop} {cy : Nat → ClassId} {a kt vt : Nat → Nat} {N : Nat}   (C0 : nCx p s m args meth c cX7_someoneCan 4 (some .boolean) RX7 wsX7_someoneCan) (hE : nEn D A cy (NBw cy a) kt vt s) {z : Int32 × nS} : ∀ (σ : nS) (x1 : Int32) (x2 : Int32) (x3 : Int32) (H : Heap) (locs : List Loc) (ls : Array Slot), lv_has ls 4 [(0, .ref (a 1)), (1, .int x1), (2, .int x2), (3, .int x3)] → va_P D vwCl ((NBw cy a) σ) H → va_S A s.heap H locs → l_X7_someoneCan_4 N σ x1 x2 x3 = some z → W p l e ({ frames := 1, cells := 0, slots := 0, locals := 21 } : Room) s m args below meth c H locs 0 0 (nQi below D A (NBw cy a) args s z) (F0 m 4 ls []) := by
  have main : ∀ (fu : Nat), ∀ (σ : nS) (x1 : Int32) (x2 : Int32) (x3 : Int32) (H : Heap) (locs : List Loc) (ls : Array Slot), lv_has ls 4 [(0, .ref (a 1)), (1, .int x1), (2, .int x2), (3, .int x3)] → va_P D vwCl ((NBw cy a) σ) H → va_S A s.heap H locs → nLp (fun _ _ _ _ => none) (fun again => b_X7_someoneCan_4 N again) fu σ x1 x2 x3 = some z → W p l e ({ frames := 1, cells := 0, slots := 0, locals := 21 } : Room) s m args below meth c H locs 0 0 (nQi below D A (NBw cy a) args s z) (F0 m 4 ls []) := by
    intro fu
    induction fu with
    | zero => intro σ x1 x2 x3 H locs ls hl hP hS hf; cases hf
    | succ fu ih => exact kb_X7_someoneCan_4 (N := N)  C0 hE ih
  exact main N
def l_X7_someoneCan_0 (N : Nat) : nS → Int32 → Option (Int32 × nS) := b_X7_someoneCan_0 N (l_X7_someoneCan_4 N)
theorem kl_X7_someoneCan_0 {p : Program} {l : Launch} {e : Env} {s : State} {m : MethodId} {args : Array Value} {below : List Frame} {meth : Method} {c : Code} {D : va_G} {A : Nat → Prop} {cy : Nat → ClassId} {a kt vt : Nat → Nat} {N : Nat}   (C0 : nCx p s m args meth c cX7_someoneCan 4 (some .boolean) RX7 wsX7_someoneCan) (hE : nEn D A cy (NBw cy a) kt vt s) {z : Int32 × nS} : ∀ (σ : nS) (x1 : Int32) (H : Heap) (locs : List Loc) (ls : Array Slot), lv_has ls 4 [(0, .ref (a 1)), (1, .int x1)] → va_P D vwCl ((NBw cy a) σ) H → va_S A s.heap H locs → l_X7_someoneCan_0 N σ x1 = some z → W p l e ({ frames := 1, cells := 0, slots := 0, locals := 21 } : Room) s m args below meth c H locs 0 0 (nQi below D A (NBw cy a) args s z) (F0 m 0 ls []) := by
  exact kb_X7_someoneCan_0 (N := N)  C0 hE (kl_X7_someoneCan_4 (N := N)  C0 hE)
def f_X7_someoneCan (N : Nat) (x1 : Int32) (σ : nS) : Option (Int32 × nS) := l_X7_someoneCan_0 N σ x1
set_option maxHeartbeats 4000000 in
set_option maxRecDepth 100000 in
theorem c_X7_someoneCan {l : Launch} {D : va_G} {A : Nat → Prop} {cy : Nat → ClassId} {a kt vt : Nat → Nat} {N : Nat}   {x1 : Int32} {σ : nS} {r : Int32} {σ' : nS} (hf : f_X7_someoneCan N x1 σ = some (r, σ')) : nMi l yX7_someoneCan wsX7_someoneCan ({ frames := 1, cells := 0, slots := 0, locals := 21 } : Room) D A cy (NBw cy a) kt vt [.ref (a 1), .int x1] σ r σ' := by
  refine Met.ofW (cc := cX7_someoneCan) (maxL := 4) (ret := (some .boolean)) (by decide) rfl ?_
  intro p e s m args below meth c s₁ B hml hv
  obtain ⟨rfl, hP, hE⟩ := hv
  have hl := lv_entry ([.ref (a 1), .int x1]) (n := 4) (Nat.le_of_ble_eq_true rfl)
  rw [lg_entry_eq]
  generalize (lg_sl ([.ref (a 1), .int x1]) ++ List.replicate (4 - (lg_sl ([.ref (a 1), .int x1])).length) Slot.unset).toArray = ls at hl ⊢
  have C0 : nCx p s m _ meth c cX7_someoneCan 4 (some .boolean) RX7 wsX7_someoneCan := ⟨B.exec, B.bytes, B.returns, hml, findClass_of_methodNamed B.named, atoms_spec (ws := wsX7_someoneCan) B.pre, B.notSynchronized⟩
  exact kl_X7_someoneCan_0 (N := N)  C0 hE (z := (r, σ')) σ x1 _ _ ls hl hP va_S.rf hf

/-! X7_isDo -/
def b_X7_isDo_0 (N : Nat) (σ : nS) (x1 : Int32) (x2 : Int32) : Option (Int32 × nS) := nBd (f_X7_cell N x1 x2 0 σ) (fun r1 σ2 => (if r1 = 0 then some (1, σ2) else (if r1 = 1 then some (1, σ2) else some (0, σ2))))
set_option maxHeartbeats 4000000 in
set_option maxRecDepth 100000 in
theorem kb_X7_isDo_0 {p : Program} {l : Launch} {e : Env} {s : State} {m : MethodId} {args : Array Value} {below : List Frame} {meth : Method} {c : Code} {D : va_G} {A : Nat → Prop} {cy : Nat → ClassId} {a kt vt : Nat → Nat} {N : Nat}   (C0 : nCx p s m args meth c cX7_isDo 4 (some .boolean) RX7 wsX7_isDo) (hE : nEn D A cy (NBw cy a) kt vt s) {z : Int32 × nS} : ∀ (σ : nS) (x1 : Int32) (x2 : Int32) (H : Heap) (locs : List Loc) (ls : Array Slot), lv_has ls 4 [(0, .ref (a 1)), (1, .int x1), (2, .int x2)] → va_P D vwCl ((NBw cy a) σ) H → va_S A s.heap H locs → b_X7_isDo_0 N σ x1 x2 = some z → W p l e ({ frames := 1, cells := 0, slots := 0, locals := 24 } : Room) s m args below meth c H locs 0 0 (nQi below D A (NBw cy a) args s z) (F0 m 0 ls []) := by
  obtain ⟨hx, hb, hr, hml, hown, hts, hlocks⟩ := C0
  intro σ x1 x2 H locs ls hl hP hS hf
  unfold b_X7_isDo_0 at hf
  refine lv_aload_n hx hb dX7_isDo_0 rfl (lv_at hl 0 rfl) ?_
  refine lv_iload_n hx hb dX7_isDo_1 rfl (lv_at hl 1 rfl) ?_
  refine lv_iload_n hx hb dX7_isDo_2 rfl (lv_at hl 2 rfl) ?_
  refine lv_iconst (v := 0) hx hb dX7_isDo_3 (by decide) ?_
  obtain ⟨r1, σ2, hc2, hf⟩ := nBd_e hf
  refine nb_callVi (As := [.int x1, .int x2, .int 0]) (rest := []) ⟨hx, hb, hml, hown, hts⟩ (c_X7_cell (D := D) (A := A) (cy := cy) (a := a) (kt := kt) (vt := vt) (l := l)  hc2) (cwV 3 hts gX7_isDo_X7_cell rfl rfl rfl (by decide +kernel) ⟨Nat.le_of_ble_eq_true rfl, Nat.le_of_ble_eq_true rfl⟩) hE hP hS nbo_1 rfl rfl hl.1 rfl (Nat.le_of_ble_eq_true rfl) dX7_isDo_4 (fun H locs hP hS => ?_)
  refine lv_istore_n (lv' := [(3, .int r1), (0, .ref (a 1)), (1, .int x1), (2, .int x2)]) hx hb dX7_isDo_7 rfl hl (by decide) rfl (fun ls hl => ?_)
  refine lv_iload_n hx hb dX7_isDo_8 rfl (lv_at hl 0 rfl) ?_
  refine lv_if_eq (tgt := 17) hx hb dX7_isDo_9 (by decide) (fun hc => ?_) (fun hc => ?_)
  · replace hf := nIf_t hc hf
    refine lv_iconst (v := 1) hx hb dX7_isDo_17 (by decide) ?_
    refine lv_goto (tgt := 22) hx hb dX7_isDo_18 (by decide) ?_
    exact nb_zret hx hb hr hlocks hP hS (nSo hf) rfl dX7_isDo_22
  · replace hf := nIf_f hc hf
    refine lv_iload_n hx hb dX7_isDo_12 rfl (lv_at hl 0 rfl) ?_
    refine lv_iconst (v := 1) hx hb dX7_isDo_13 (by decide) ?_
    refine lv_icmp_ne (tgt := 21) hx hb dX7_isDo_14 (by decide) (fun hc => ?_) (fun hc => ?_)
    · replace hf := nIf_f hc hf
      refine lv_iconst (v := 0) hx hb dX7_isDo_21 (by decide) ?_
      exact nb_zret hx hb hr hlocks hP hS (nSo hf) rfl dX7_isDo_22
    · replace hf := nIf_t hc hf
      refine lv_iconst (v := 1) hx hb dX7_isDo_17 (by decide) ?_
      refine lv_goto (tgt := 22) hx hb dX7_isDo_18 (by decide) ?_
      exact nb_zret hx hb hr hlocks hP hS (nSo hf) rfl dX7_isDo_22
def l_X7_isDo_0 (N : Nat) : nS → Int32 → Int32 → Option (Int32 × nS) := b_X7_isDo_0 N
theorem kl_X7_isDo_0 {p : Program} {l : Launch} {e : Env} {s : State} {m : MethodId} {args : Array Value} {below : List Frame} {meth : Method} {c : Code} {D : va_G} {A : Nat → Prop} {cy : Nat → ClassId} {a kt vt : Nat → Nat} {N : Nat}   (C0 : nCx p s m args meth c cX7_isDo 4 (some .boolean) RX7 wsX7_isDo) (hE : nEn D A cy (NBw cy a) kt vt s) {z : Int32 × nS} : ∀ (σ : nS) (x1 : Int32) (x2 : Int32) (H : Heap) (locs : List Loc) (ls : Array Slot), lv_has ls 4 [(0, .ref (a 1)), (1, .int x1), (2, .int x2)] → va_P D vwCl ((NBw cy a) σ) H → va_S A s.heap H locs → l_X7_isDo_0 N σ x1 x2 = some z → W p l e ({ frames := 1, cells := 0, slots := 0, locals := 24 } : Room) s m args below meth c H locs 0 0 (nQi below D A (NBw cy a) args s z) (F0 m 0 ls []) := by
  exact kb_X7_isDo_0 (N := N)  C0 hE
def f_X7_isDo (N : Nat) (x1 : Int32) (x2 : Int32) (σ : nS) : Option (Int32 × nS) := l_X7_isDo_0 N σ x1 x2
set_option maxHeartbeats 4000000 in
set_option maxRecDepth 100000 in
theorem c_X7_isDo {l : Launch} {D : va_G} {A : Nat → Prop} {cy : Nat → ClassId} {a kt vt : Nat → Nat} {N : Nat}   {x1 : Int32} {x2 : Int32} {σ : nS} {r : Int32} {σ' : nS} (hf : f_X7_isDo N x1 x2 σ = some (r, σ')) : nMi l yX7_isDo wsX7_isDo ({ frames := 1, cells := 0, slots := 0, locals := 24 } : Room) D A cy (NBw cy a) kt vt [.ref (a 1), .int x1, .int x2] σ r σ' := by
  refine Met.ofW (cc := cX7_isDo) (maxL := 4) (ret := (some .boolean)) (by decide) rfl ?_
  intro p e s m args below meth c s₁ B hml hv
  obtain ⟨rfl, hP, hE⟩ := hv
  have hl := lv_entry ([.ref (a 1), .int x1, .int x2]) (n := 4) (Nat.le_of_ble_eq_true rfl)
  rw [lg_entry_eq]
  generalize (lg_sl ([.ref (a 1), .int x1, .int x2]) ++ List.replicate (4 - (lg_sl ([.ref (a 1), .int x1, .int x2])).length) Slot.unset).toArray = ls at hl ⊢
  have C0 : nCx p s m _ meth c cX7_isDo 4 (some .boolean) RX7 wsX7_isDo := ⟨B.exec, B.bytes, B.returns, hml, findClass_of_methodNamed B.named, atoms_spec (ws := wsX7_isDo) B.pre, B.notSynchronized⟩
  exact kl_X7_isDo_0 (N := N)  C0 hE (z := (r, σ')) σ x1 x2 _ _ ls hl hP va_S.rf hf

/-! X7_isDoable -/
def b_X7_isDoable_0 (N : Nat) (σ : nS) (x1 : Int32) (x2 : Int32) : Option (Int32 × nS) := nBd (f_X7_isDo N x1 x2 σ) (fun r1 σ2 => (if r1 = 0 then some (1, σ2) else nBd (f_X7_cell N x1 x2 1 σ2) (fun r3 σ4 => nBd (f_X7_someoneCan N r3 σ4) (fun r5 σ6 => (if r5 = 0 then some (0, σ6) else some (1, σ6))))))
set_option maxHeartbeats 4000000 in
set_option maxRecDepth 100000 in
theorem kb_X7_isDoable_0 {p : Program} {l : Launch} {e : Env} {s : State} {m : MethodId} {args : Array Value} {below : List Frame} {meth : Method} {c : Code} {D : va_G} {A : Nat → Prop} {cy : Nat → ClassId} {a kt vt : Nat → Nat} {N : Nat}   (C0 : nCx p s m args meth c cX7_isDoable 3 (some .boolean) RX7 wsX7_isDoable) (hE : nEn D A cy (NBw cy a) kt vt s) {z : Int32 × nS} : ∀ (σ : nS) (x1 : Int32) (x2 : Int32) (H : Heap) (locs : List Loc) (ls : Array Slot), lv_has ls 3 [(0, .ref (a 1)), (1, .int x1), (2, .int x2)] → va_P D vwCl ((NBw cy a) σ) H → va_S A s.heap H locs → b_X7_isDoable_0 N σ x1 x2 = some z → W p l e ({ frames := 2, cells := 0, slots := 0, locals := 47 } : Room) s m args below meth c H locs 0 0 (nQi below D A (NBw cy a) args s z) (F0 m 0 ls []) := by
  obtain ⟨hx, hb, hr, hml, hown, hts, hlocks⟩ := C0
  intro σ x1 x2 H locs ls hl hP hS hf
  unfold b_X7_isDoable_0 at hf
  refine lv_aload_n hx hb dX7_isDoable_0 rfl (lv_at hl 0 rfl) ?_
  refine lv_iload_n hx hb dX7_isDoable_1 rfl (lv_at hl 1 rfl) ?_
  refine lv_iload_n hx hb dX7_isDoable_2 rfl (lv_at hl 2 rfl) ?_
  obtain ⟨r1, σ2, hc2, hf⟩ := nBd_e hf
  refine nb_callVi (As := [.int x1, .int x2]) (rest := []) ⟨hx, hb, hml, hown, hts⟩ (c_X7_isDo (D := D) (A := A) (cy := cy) (a := a) (kt := kt) (vt := vt) (l := l)  hc2) (cwV 2 hts gX7_isDoable_X7_isDo rfl rfl rfl (by decide +kernel) ⟨Nat.le_of_ble_eq_true rfl, Nat.le_of_ble_eq_true rfl⟩) hE hP hS nbo_1 rfl rfl hl.1 rfl (Nat.le_of_ble_eq_true rfl) dX7_isDoable_3 (fun H locs hP hS => ?_)
  refine lv_if_eq (tgt := 23) hx hb dX7_isDoable_6 (by decide) (fun hc => ?_) (fun hc => ?_)
  · replace hf := nIf_t hc hf
    refine lv_iconst (v := 1) hx hb dX7_isDoable_23 (by decide) ?_
    refine lv_goto (tgt := 28) hx hb dX7_isDoable_24 (by decide) ?_
    exact nb_zret hx hb hr hlocks hP hS (nSo hf) rfl dX7_isDoable_28
  · replace hf := nIf_f hc hf
    refine lv_aload_n hx hb dX7_isDoable_9 rfl (lv_at hl 0 rfl) ?_
    refine lv_aload_n hx hb dX7_isDoable_10 rfl (lv_at hl 0 rfl) ?_
    refine lv_iload_n hx hb dX7_isDoable_11 rfl (lv_at hl 1 rfl) ?_
    refine lv_iload_n hx hb dX7_isDoable_12 rfl (lv_at hl 2 rfl) ?_
    refine lv_iconst (v := 1) hx hb dX7_isDoable_13 (by decide) ?_
    obtain ⟨r3, σ4, hc4, hf⟩ := nBd_e hf
    refine nb_callVi (As := [.int x1, .int x2, .int 1]) (rest := [.ref (a 1)]) ⟨hx, hb, hml, hown, hts⟩ (c_X7_cell (D := D) (A := A) (cy := cy) (a := a) (kt := kt) (vt := vt) (l := l)  hc4) (cwV 3 hts gX7_isDoable_X7_cell rfl rfl rfl (by decide +kernel) ⟨Nat.le_of_ble_eq_true rfl, Nat.le_of_ble_eq_true rfl⟩) hE hP hS nbo_1 rfl rfl hl.1 rfl (Nat.le_of_ble_eq_true rfl) dX7_isDoable_14 (fun H locs hP hS => ?_)
    obtain ⟨r5, σ6, hc6, hf⟩ := nBd_e hf
    refine nb_callVi (As := [.int r3]) (rest := []) ⟨hx, hb, hml, hown, hts⟩ (c_X7_someoneCan (D := D) (A := A) (cy := cy) (a := a) (kt := kt) (vt := vt) (l := l)  hc6) (cwV 1 hts gX7_isDoable_X7_someoneCan rfl rfl rfl (by decide +kernel) ⟨Nat.le_of_ble_eq_true rfl, Nat.le_of_ble_eq_true rfl⟩) hE hP hS nbo_1 rfl rfl hl.1 rfl (Nat.le_of_ble_eq_true rfl) dX7_isDoable_17 (fun H locs hP hS => ?_)
    refine lv_if_eq (tgt := 27) hx hb dX7_isDoable_20 (by decide) (fun hc => ?_) (fun hc => ?_)
    · replace hf := nIf_t hc hf
      refine lv_iconst (v := 0) hx hb dX7_isDoable_27 (by decide) ?_
      exact nb_zret hx hb hr hlocks hP hS (nSo hf) rfl dX7_isDoable_28
    · replace hf := nIf_f hc hf
      refine lv_iconst (v := 1) hx hb dX7_isDoable_23 (by decide) ?_
      refine lv_goto (tgt := 28) hx hb dX7_isDoable_24 (by decide) ?_
      exact nb_zret hx hb hr hlocks hP hS (nSo hf) rfl dX7_isDoable_28
def l_X7_isDoable_0 (N : Nat) : nS → Int32 → Int32 → Option (Int32 × nS) := b_X7_isDoable_0 N
theorem kl_X7_isDoable_0 {p : Program} {l : Launch} {e : Env} {s : State} {m : MethodId} {args : Array Value} {below : List Frame} {meth : Method} {c : Code} {D : va_G} {A : Nat → Prop} {cy : Nat → ClassId} {a kt vt : Nat → Nat} {N : Nat}   (C0 : nCx p s m args meth c cX7_isDoable 3 (some .boolean) RX7 wsX7_isDoable) (hE : nEn D A cy (NBw cy a) kt vt s) {z : Int32 × nS} : ∀ (σ : nS) (x1 : Int32) (x2 : Int32) (H : Heap) (locs : List Loc) (ls : Array Slot), lv_has ls 3 [(0, .ref (a 1)), (1, .int x1), (2, .int x2)] → va_P D vwCl ((NBw cy a) σ) H → va_S A s.heap H locs → l_X7_isDoable_0 N σ x1 x2 = some z → W p l e ({ frames := 2, cells := 0, slots := 0, locals := 47 } : Room) s m args below meth c H locs 0 0 (nQi below D A (NBw cy a) args s z) (F0 m 0 ls []) := by
  exact kb_X7_isDoable_0 (N := N)  C0 hE
def f_X7_isDoable (N : Nat) (x1 : Int32) (x2 : Int32) (σ : nS) : Option (Int32 × nS) := l_X7_isDoable_0 N σ x1 x2
set_option maxHeartbeats 4000000 in
set_option maxRecDepth 100000 in
theorem c_X7_isDoable {l : Launch} {D : va_G} {A : Nat → Prop} {cy : Nat → ClassId} {a kt vt : Nat → Nat} {N : Nat}   {x1 : Int32} {x2 : Int32} {σ : nS} {r : Int32} {σ' : nS} (hf : f_X7_isDoable N x1 x2 σ = some (r, σ')) : nMi l yX7_isDoable wsX7_isDoable ({ frames := 2, cells := 0, slots := 0, locals := 47 } : Room) D A cy (NBw cy a) kt vt [.ref (a 1), .int x1, .int x2] σ r σ' := by
  refine Met.ofW (cc := cX7_isDoable) (maxL := 3) (ret := (some .boolean)) (by decide) rfl ?_
  intro p e s m args below meth c s₁ B hml hv
  obtain ⟨rfl, hP, hE⟩ := hv
  have hl := lv_entry ([.ref (a 1), .int x1, .int x2]) (n := 3) (Nat.le_of_ble_eq_true rfl)
  rw [lg_entry_eq]
  generalize (lg_sl ([.ref (a 1), .int x1, .int x2]) ++ List.replicate (3 - (lg_sl ([.ref (a 1), .int x1, .int x2])).length) Slot.unset).toArray = ls at hl ⊢
  have C0 : nCx p s m _ meth c cX7_isDoable 3 (some .boolean) RX7 wsX7_isDoable := ⟨B.exec, B.bytes, B.returns, hml, findClass_of_methodNamed B.named, atoms_spec (ws := wsX7_isDoable) B.pre, B.notSynchronized⟩
  exact kl_X7_isDoable_0 (N := N)  C0 hE (z := (r, σ')) σ x1 x2 _ _ ls hl hP va_S.rf hf

/-! X7_nextOf -/
def b_X7_nextOf_0 (N : Nat) (σ : nS) (x1 : Int32) (x2 : Int32) : Option (Int32 × nS) := nBd (f_X7_cell N x1 x2 0 σ) (fun r1 σ2 => (if r1 = 5 then some (0, σ2) else (if r1 = 4 then nBd (f_X7_cell N x1 x2 1 σ2) (fun r12 σ13 => nLet ((1 : Int32) <<< (r12 &&& 31) : Int32) (fun v14 => some (v14, σ13))) else (if r1 = 2 then nBd (f_X7_cell N x1 x2 2 σ2) (fun r5 σ6 => nLet ((1 : Int32) <<< (r5 &&& 31) : Int32) (fun v7 => nBd (f_X7_cell N x1 x2 3 σ6) (fun r8 σ9 => nLet ((1 : Int32) <<< (r8 &&& 31) : Int32) (fun v10 => nLet (v7 ||| v10 : Int32) (fun v11 => some (v11, σ9)))))) else nLet (x2 + (1 : Int32) : Int32) (fun v3 => nLet ((1 : Int32) <<< (v3 &&& 31) : Int32) (fun v4 => some (v4, σ2)))))))
set_option maxHeartbeats 4000000 in
set_option maxRecDepth 100000 in
theorem kb_X7_nextOf_0 {p : Program} {l : Launch} {e : Env} {s : State} {m : MethodId} {args : Array Value} {below : List Frame} {meth : Method} {c : Code} {D : va_G} {A : Nat → Prop} {cy : Nat → ClassId} {a kt vt : Nat → Nat} {N : Nat}   (C0 : nCx p s m args meth c cX7_nextOf 4 (some .int) RX7 wsX7_nextOf) (hE : nEn D A cy (NBw cy a) kt vt s) {z : Int32 × nS} : ∀ (σ : nS) (x1 : Int32) (x2 : Int32) (H : Heap) (locs : List Loc) (ls : Array Slot), lv_has ls 4 [(0, .ref (a 1)), (1, .int x1), (2, .int x2)] → va_P D vwCl ((NBw cy a) σ) H → va_S A s.heap H locs → b_X7_nextOf_0 N σ x1 x2 = some z → W p l e ({ frames := 1, cells := 0, slots := 0, locals := 24 } : Room) s m args below meth c H locs 0 0 (nQi below D A (NBw cy a) args s z) (F0 m 0 ls []) := by
  obtain ⟨hx, hb, hr, hml, hown, hts, hlocks⟩ := C0
  intro σ x1 x2 H locs ls hl hP hS hf
  unfold b_X7_nextOf_0 at hf
  refine lv_aload_n hx hb dX7_nextOf_0 rfl (lv_at hl 0 rfl) ?_
  refine lv_iload_n hx hb dX7_nextOf_1 rfl (lv_at hl 1 rfl) ?_
  refine lv_iload_n hx hb dX7_nextOf_2 rfl (lv_at hl 2 rfl) ?_
  refine lv_iconst (v := 0) hx hb dX7_nextOf_3 (by decide) ?_
  obtain ⟨r1, σ2, hc2, hf⟩ := nBd_e hf
  refine nb_callVi (As := [.int x1, .int x2, .int 0]) (rest := []) ⟨hx, hb, hml, hown, hts⟩ (c_X7_cell (D := D) (A := A) (cy := cy) (a := a) (kt := kt) (vt := vt) (l := l)  hc2) (cwV 3 hts gX7_nextOf_X7_cell rfl rfl rfl (by decide +kernel) ⟨Nat.le_of_ble_eq_true rfl, Nat.le_of_ble_eq_true rfl⟩) hE hP hS nbo_1 rfl rfl hl.1 rfl (Nat.le_of_ble_eq_true rfl) dX7_nextOf_4 (fun H locs hP hS => ?_)
  refine lv_istore_n (lv' := [(3, .int r1), (0, .ref (a 1)), (1, .int x1), (2, .int x2)]) hx hb dX7_nextOf_7 rfl hl (by decide) rfl (fun ls hl => ?_)
  refine lv_iload_n hx hb dX7_nextOf_8 rfl (lv_at hl 0 rfl) ?_
  refine lv_iconst (v := 5) hx hb dX7_nextOf_9 (by decide) ?_
  refine lv_icmp_ne (tgt := 15) hx hb dX7_nextOf_10 (by decide) (fun hc => ?_) (fun hc => ?_)
  · replace hf := nIf_f hc hf
    refine lv_iload_n hx hb dX7_nextOf_15 rfl (lv_at hl 0 rfl) ?_
    refine lv_iconst (v := 4) hx hb dX7_nextOf_16 (by decide) ?_
    refine lv_icmp_ne (tgt := 30) hx hb dX7_nextOf_17 (by decide) (fun hc => ?_) (fun hc => ?_)
    · replace hf := nIf_f hc hf
      refine lv_iload_n hx hb dX7_nextOf_30 rfl (lv_at hl 0 rfl) ?_
      refine lv_iconst (v := 2) hx hb dX7_nextOf_31 (by decide) ?_
      refine lv_icmp_ne (tgt := 55) hx hb dX7_nextOf_32 (by decide) (fun hc => ?_) (fun hc => ?_)
      · replace hf := nIf_f hc hf
        refine lv_iconst (v := 1) hx hb dX7_nextOf_55 (by decide) ?_
        refine lv_iload_n hx hb dX7_nextOf_56 rfl (lv_at hl 3 rfl) ?_
        refine lv_iconst (v := 1) hx hb dX7_nextOf_57 (by decide) ?_
        refine lv_iadd hx hb dX7_nextOf_58 ?_
        refine lv_topi (fun v3 ev3 => ?_)
        replace hf := nLet_e hf ev3
        refine lv_ishl hx hb dX7_nextOf_59 ?_
        refine lv_topi (fun v4 ev4 => ?_)
        replace hf := nLet_e hf ev4
        exact nb_iret hx hb hr hlocks hP hS (nSo hf) dX7_nextOf_60
      · replace hf := nIf_t hc hf
        refine lv_iconst (v := 1) hx hb dX7_nextOf_35 (by decide) ?_
        refine lv_aload_n hx hb dX7_nextOf_36 rfl (lv_at hl 1 rfl) ?_
        refine lv_iload_n hx hb dX7_nextOf_37 rfl (lv_at hl 2 rfl) ?_
        refine lv_iload_n hx hb dX7_nextOf_38 rfl (lv_at hl 3 rfl) ?_
        refine lv_iconst (v := 2) hx hb dX7_nextOf_39 (by decide) ?_
        obtain ⟨r5, σ6, hc6, hf⟩ := nBd_e hf
        refine nb_callVi (As := [.int x1, .int x2, .int 2]) (rest := [.int 1]) ⟨hx, hb, hml, hown, hts⟩ (c_X7_cell (D := D) (A := A) (cy := cy) (a := a) (kt := kt) (vt := vt) (l := l)  hc6) (cwV 3 hts gX7_nextOf_X7_cell rfl rfl rfl (by decide +kernel) ⟨Nat.le_of_ble_eq_true rfl, Nat.le_of_ble_eq_true rfl⟩) hE hP hS nbo_1 rfl rfl hl.1 rfl (Nat.le_of_ble_eq_true rfl) dX7_nextOf_40 (fun H locs hP hS => ?_)
        refine lv_ishl hx hb dX7_nextOf_43 ?_
        refine lv_topi (fun v7 ev7 => ?_)
        replace hf := nLet_e hf ev7
        refine lv_iconst (v := 1) hx hb dX7_nextOf_44 (by decide) ?_
        refine lv_aload_n hx hb dX7_nextOf_45 rfl (lv_at hl 1 rfl) ?_
        refine lv_iload_n hx hb dX7_nextOf_46 rfl (lv_at hl 2 rfl) ?_
        refine lv_iload_n hx hb dX7_nextOf_47 rfl (lv_at hl 3 rfl) ?_
        refine lv_iconst (v := 3) hx hb dX7_nextOf_48 (by decide) ?_
        obtain ⟨r8, σ9, hc9, hf⟩ := nBd_e hf
        refine nb_callVi (As := [.int x1, .int x2, .int 3]) (rest := [.int 1, .int v7]) ⟨hx, hb, hml, hown, hts⟩ (c_X7_cell (D := D) (A := A) (cy := cy) (a := a) (kt := kt) (vt := vt) (l := l)  hc9) (cwV 3 hts gX7_nextOf_X7_cell rfl rfl rfl (by decide +kernel) ⟨Nat.le_of_ble_eq_true rfl, Nat.le_of_ble_eq_true rfl⟩) hE hP hS nbo_1 rfl rfl hl.1 rfl (Nat.le_of_ble_eq_true rfl) dX7_nextOf_49 (fun H locs hP hS => ?_)
        refine lv_ishl hx hb dX7_nextOf_52 ?_
        refine lv_topi (fun v10 ev10 => ?_)
        replace hf := nLet_e hf ev10
        refine lv_ior hx hb dX7_nextOf_53 ?_
        refine lv_topi (fun v11 ev11 => ?_)
        replace hf := nLet_e hf ev11
        exact nb_iret hx hb hr hlocks hP hS (nSo hf) dX7_nextOf_54
    · replace hf := nIf_t hc hf
      refine lv_iconst (v := 1) hx hb dX7_nextOf_20 (by decide) ?_
      refine lv_aload_n hx hb dX7_nextOf_21 rfl (lv_at hl 1 rfl) ?_
      refine lv_iload_n hx hb dX7_nextOf_22 rfl (lv_at hl 2 rfl) ?_
      refine lv_iload_n hx hb dX7_nextOf_23 rfl (lv_at hl 3 rfl) ?_
      refine lv_iconst (v := 1) hx hb dX7_nextOf_24 (by decide) ?_
      obtain ⟨r12, σ13, hc13, hf⟩ := nBd_e hf
      refine nb_callVi (As := [.int x1, .int x2, .int 1]) (rest := [.int 1]) ⟨hx, hb, hml, hown, hts⟩ (c_X7_cell (D := D) (A := A) (cy := cy) (a := a) (kt := kt) (vt := vt) (l := l)  hc13) (cwV 3 hts gX7_nextOf_X7_cell rfl rfl rfl (by decide +kernel) ⟨Nat.le_of_ble_eq_true rfl, Nat.le_of_ble_eq_true rfl⟩) hE hP hS nbo_1 rfl rfl hl.1 rfl (Nat.le_of_ble_eq_true rfl) dX7_nextOf_25 (fun H locs hP hS => ?_)
      refine lv_ishl hx hb dX7_nextOf_28 ?_
      refine lv_topi (fun v14 ev14 => ?_)
      replace hf := nLet_e hf ev14
      exact nb_iret hx hb hr hlocks hP hS (nSo hf) dX7_nextOf_29
  · replace hf := nIf_t hc hf
    refine lv_iconst (v := 0) hx hb dX7_nextOf_13 (by decide) ?_
    exact nb_iret hx hb hr hlocks hP hS (nSo hf) dX7_nextOf_14
def l_X7_nextOf_0 (N : Nat) : nS → Int32 → Int32 → Option (Int32 × nS) := b_X7_nextOf_0 N
theorem kl_X7_nextOf_0 {p : Program} {l : Launch} {e : Env} {s : State} {m : MethodId} {args : Array Value} {below : List Frame} {meth : Method} {c : Code} {D : va_G} {A : Nat → Prop} {cy : Nat → ClassId} {a kt vt : Nat → Nat} {N : Nat}   (C0 : nCx p s m args meth c cX7_nextOf 4 (some .int) RX7 wsX7_nextOf) (hE : nEn D A cy (NBw cy a) kt vt s) {z : Int32 × nS} : ∀ (σ : nS) (x1 : Int32) (x2 : Int32) (H : Heap) (locs : List Loc) (ls : Array Slot), lv_has ls 4 [(0, .ref (a 1)), (1, .int x1), (2, .int x2)] → va_P D vwCl ((NBw cy a) σ) H → va_S A s.heap H locs → l_X7_nextOf_0 N σ x1 x2 = some z → W p l e ({ frames := 1, cells := 0, slots := 0, locals := 24 } : Room) s m args below meth c H locs 0 0 (nQi below D A (NBw cy a) args s z) (F0 m 0 ls []) := by
  exact kb_X7_nextOf_0 (N := N)  C0 hE
def f_X7_nextOf (N : Nat) (x1 : Int32) (x2 : Int32) (σ : nS) : Option (Int32 × nS) := l_X7_nextOf_0 N σ x1 x2
set_option maxHeartbeats 4000000 in
set_option maxRecDepth 100000 in
theorem c_X7_nextOf {l : Launch} {D : va_G} {A : Nat → Prop} {cy : Nat → ClassId} {a kt vt : Nat → Nat} {N : Nat}   {x1 : Int32} {x2 : Int32} {σ : nS} {r : Int32} {σ' : nS} (hf : f_X7_nextOf N x1 x2 σ = some (r, σ')) : nMi l yX7_nextOf wsX7_nextOf ({ frames := 1, cells := 0, slots := 0, locals := 24 } : Room) D A cy (NBw cy a) kt vt [.ref (a 1), .int x1, .int x2] σ r σ' := by
  refine Met.ofW (cc := cX7_nextOf) (maxL := 4) (ret := (some .int)) (by decide) rfl ?_
  intro p e s m args below meth c s₁ B hml hv
  obtain ⟨rfl, hP, hE⟩ := hv
  have hl := lv_entry ([.ref (a 1), .int x1, .int x2]) (n := 4) (Nat.le_of_ble_eq_true rfl)
  rw [lg_entry_eq]
  generalize (lg_sl ([.ref (a 1), .int x1, .int x2]) ++ List.replicate (4 - (lg_sl ([.ref (a 1), .int x1, .int x2])).length) Slot.unset).toArray = ls at hl ⊢
  have C0 : nCx p s m _ meth c cX7_nextOf 4 (some .int) RX7 wsX7_nextOf := ⟨B.exec, B.bytes, B.returns, hml, findClass_of_methodNamed B.named, atoms_spec (ws := wsX7_nextOf) B.pre, B.notSynchronized⟩
  exact kl_X7_nextOf_0 (N := N)  C0 hE (z := (r, σ')) σ x1 x2 _ _ ls hl hP va_S.rf hf

/-! X7_reached -/
def b_X7_reached_50 (N : Nat) (k24 : nS → Int32 → Int32 → Int32 → Int32 → Int32 → Int32 → Option (Int32 × nS)) (σ : nS) (x1 : Int32) (x2 : Int32) (x3 : Int32) (x4 : Int32) (x5 : Int32) (x6 : Int32) : Option (Int32 × nS) := nLet (x6 + 1 : Int32) (fun v1 => k24 σ x1 x2 x3 x4 x5 v1)
set_option maxHeartbeats 4000000 in
set_option maxRecDepth 100000 in
theorem kb_X7_reached_50 {p : Program} {l : Launch} {e : Env} {s : State} {m : MethodId} {args : Array Value} {below : List Frame} {meth : Method} {c : Code} {D : va_G} {A : Nat → Prop} {cy : Nat → ClassId} {a kt vt : Nat → Nat} {N : Nat}   (C0 : nCx p s m args meth c cX7_reached 7 (some .int) RX7 wsX7_reached) (hE : nEn D A cy (NBw cy a) kt vt s) {z : Int32 × nS} {k24 : nS → Int32 → Int32 → Int32 → Int32 → Int32 → Int32 → Option (Int32 × nS)} (K24 : ∀ (σ : nS) (x1 : Int32) (x2 : Int32) (x3 : Int32) (x4 : Int32) (x5 : Int32) (x6 : Int32) (H : Heap) (locs : List Loc) (ls : Array Slot), lv_has ls 7 [(0, .ref (a 1)), (1, .int x1), (2, .int x2), (3, .int x3), (4, .int x4), (5, .int x5), (6, .int x6)] → va_P D vwCl ((NBw cy a) σ) H → va_S A s.heap H locs → k24 σ x1 x2 x3 x4 x5 x6 = some z → W p l e ({ frames := 2, cells := 0, slots := 0, locals := 47 } : Room) s m args below meth c H locs 0 0 (nQi below D A (NBw cy a) args s z) (F0 m 24 ls [])) : ∀ (σ : nS) (x1 : Int32) (x2 : Int32) (x3 : Int32) (x4 : Int32) (x5 : Int32) (x6 : Int32) (H : Heap) (locs : List Loc) (ls : Array Slot), lv_has ls 7 [(0, .ref (a 1)), (1, .int x1), (2, .int x2), (3, .int x3), (4, .int x4), (5, .int x5), (6, .int x6)] → va_P D vwCl ((NBw cy a) σ) H → va_S A s.heap H locs → b_X7_reached_50 N k24 σ x1 x2 x3 x4 x5 x6 = some z → W p l e ({ frames := 2, cells := 0, slots := 0, locals := 47 } : Room) s m args below meth c H locs 0 0 (nQi below D A (NBw cy a) args s z) (F0 m 50 ls []) := by
  obtain ⟨hx, hb, hr, hml, hown, hts, hlocks⟩ := C0
  intro σ x1 x2 x3 x4 x5 x6 H locs ls hl hP hS hf
  unfold b_X7_reached_50 at hf
  obtain ⟨v1, ev1⟩ : ∃ y : Int32, y = x6 + 1 := ⟨_, rfl⟩
  replace hf := nLet_e hf ev1
  refine lv_iinc (v := v1) (lv' := [(6, .int v1), (0, .ref (a 1)), (1, .int x1), (2, .int x2), (3, .int x3), (4, .int x4), (5, .int x5)]) hx hb dX7_reached_50 hl (k := 6) rfl (by rw [ev1]; rfl) (by decide) rfl (fun ls hl => ?_)
  refine lv_goto (tgt := 24) hx hb dX7_reached_53 (by decide) ?_
  exact K24 σ x1 x2 x3 x4 x5 v1 H locs ls (lv_sub hl [1, 2, 3, 4, 5, 6, 0] rfl) hP hS hf
def b_X7_reached_24 (N : Nat) (k11 : nS → Int32 → Int32 → Int32 → Int32 → Option (Int32 × nS)) (k50 : nS → Int32 → Int32 → Int32 → Int32 → Int32 → Int32 → Option (Int32 × nS)) (σ : nS) (x1 : Int32) (x2 : Int32) (x3 : Int32) (x4 : Int32) (x5 : Int32) (x6 : Int32) : Option (Int32 × nS) := (if x2 ≤ x6 then (if x3 = x5 then nLet ((1 : Int32) <<< (x2 &&& 31) : Int32) (fun v2 => nLet (v2 - (1 : Int32) : Int32) (fun v3 => nLet (x3 &&& v3 : Int32) (fun v4 => some (v4, σ)))) else nLet (x4 + 1 : Int32) (fun v1 => k11 σ x1 x2 x3 v1)) else nLet (x3 >>> (x6 &&& 31) : Int32) (fun v5 => nLet (v5 &&& (1 : Int32) : Int32) (fun v6 => (if v6 = 1 then nBd (f_X7_nextOf N x1 x6 σ) (fun r7 σ8 => nLet (x3 ||| r7 : Int32) (fun v9 => k50 σ8 x1 x2 v9 x4 x5 x6)) else k50 σ x1 x2 x3 x4 x5 x6))))
set_option maxHeartbeats 4000000 in
set_option maxRecDepth 100000 in
theorem kb_X7_reached_24 {p : Program} {l : Launch} {e : Env} {s : State} {m : MethodId} {args : Array Value} {below : List Frame} {meth : Method} {c : Code} {D : va_G} {A : Nat → Prop} {cy : Nat → ClassId} {a kt vt : Nat → Nat} {N : Nat}   (C0 : nCx p s m args meth c cX7_reached 7 (some .int) RX7 wsX7_reached) (hE : nEn D A cy (NBw cy a) kt vt s) {z : Int32 × nS} {k11 : nS → Int32 → Int32 → Int32 → Int32 → Option (Int32 × nS)} (K11 : ∀ (σ : nS) (x1 : Int32) (x2 : Int32) (x3 : Int32) (x4 : Int32) (H : Heap) (locs : List Loc) (ls : Array Slot), lv_has ls 7 [(0, .ref (a 1)), (1, .int x1), (2, .int x2), (3, .int x3), (4, .int x4)] → va_P D vwCl ((NBw cy a) σ) H → va_S A s.heap H locs → k11 σ x1 x2 x3 x4 = some z → W p l e ({ frames := 2, cells := 0, slots := 0, locals := 47 } : Room) s m args below meth c H locs 0 0 (nQi below D A (NBw cy a) args s z) (F0 m 11 ls [])) {k50 : nS → Int32 → Int32 → Int32 → Int32 → Int32 → Int32 → Option (Int32 × nS)} (K50 : ∀ (σ : nS) (x1 : Int32) (x2 : Int32) (x3 : Int32) (x4 : Int32) (x5 : Int32) (x6 : Int32) (H : Heap) (locs : List Loc) (ls : Array Slot), lv_has ls 7 [(0, .ref (a 1)), (1, .int x1), (2, .int x2), (3, .int x3), (4, .int x4), (5, .int x5), (6, .int x6)] → va_P D vwCl ((NBw cy a) σ) H → va_S A s.heap H locs → k50 σ x1 x2 x3 x4 x5 x6 = some z → W p l e ({ frames := 2, cells := 0, slots := 0, locals := 47 } : Room) s m args below meth c H locs 0 0 (nQi below D A (NBw cy a) args s z) (F0 m 50 ls [])) : ∀ (σ : nS) (x1 : Int32) (x2 : Int32) (x3 : Int32) (x4 : Int32) (x5 : Int32) (x6 : Int32) (H : Heap) (locs : List Loc) (ls : Array Slot), lv_has ls 7 [(0, .ref (a 1)), (1, .int x1), (2, .int x2), (3, .int x3), (4, .int x4), (5, .int x5), (6, .int x6)] → va_P D vwCl ((NBw cy a) σ) H → va_S A s.heap H locs → b_X7_reached_24 N k11 k50 σ x1 x2 x3 x4 x5 x6 = some z → W p l e ({ frames := 2, cells := 0, slots := 0, locals := 47 } : Room) s m args below meth c H locs 0 0 (nQi below D A (NBw cy a) args s z) (F0 m 24 ls []) := by
  obtain ⟨hx, hb, hr, hml, hown, hts, hlocks⟩ := C0
  intro σ x1 x2 x3 x4 x5 x6 H locs ls hl hP hS hf
  unfold b_X7_reached_24 at hf
  refine lv_iload hx hb dX7_reached_24 (lv_at hl 6 rfl) ?_
  refine lv_iload_n hx hb dX7_reached_26 rfl (lv_at hl 2 rfl) ?_
  refine lv_icmp_ge (tgt := 56) hx hb dX7_reached_27 (by decide) (fun hc => ?_) (fun hc => ?_)
  · replace hf := nIf_t hc hf
    refine lv_iload_n hx hb dX7_reached_56 rfl (lv_at hl 3 rfl) ?_
    refine lv_iload hx hb dX7_reached_57 (lv_at hl 5 rfl) ?_
    refine lv_icmp_ne (tgt := 65) hx hb dX7_reached_59 (by decide) (fun hc => ?_) (fun hc => ?_)
    · replace hf := nIf_f hc hf
      obtain ⟨v1, ev1⟩ : ∃ y : Int32, y = x4 + 1 := ⟨_, rfl⟩
      replace hf := nLet_e hf ev1
      refine lv_iinc (v := v1) (lv' := [(4, .int v1), (0, .ref (a 1)), (1, .int x1), (2, .int x2), (3, .int x3), (5, .int x5), (6, .int x6)]) hx hb dX7_reached_65 hl (k := 4) rfl (by rw [ev1]; rfl) (by decide) rfl (fun ls hl => ?_)
      refine lv_goto (tgt := 11) hx hb dX7_reached_68 (by decide) ?_
      exact K11 σ x1 x2 x3 v1 H locs ls (lv_sub hl [1, 2, 3, 4, 0] rfl) hP hS hf
    · replace hf := nIf_t hc hf
      refine lv_goto (tgt := 71) hx hb dX7_reached_62 (by decide) ?_
      refine lv_iload_n hx hb dX7_reached_71 rfl (lv_at hl 3 rfl) ?_
      refine lv_iconst (v := 1) hx hb dX7_reached_72 (by decide) ?_
      refine lv_iload_n hx hb dX7_reached_73 rfl (lv_at hl 2 rfl) ?_
      refine lv_ishl hx hb dX7_reached_74 ?_
      refine lv_topi (fun v2 ev2 => ?_)
      replace hf := nLet_e hf ev2
      refine lv_iconst (v := 1) hx hb dX7_reached_75 (by decide) ?_
      refine lv_isub hx hb dX7_reached_76 ?_
      refine lv_topi (fun v3 ev3 => ?_)
      replace hf := nLet_e hf ev3
      refine lv_iand hx hb dX7_reached_77 ?_
      refine lv_topi (fun v4 ev4 => ?_)
      replace hf := nLet_e hf ev4
      exact nb_iret hx hb hr hlocks hP hS (nSo hf) dX7_reached_78
  · replace hf := nIf_f hc hf
    refine lv_iload_n hx hb dX7_reached_30 rfl (lv_at hl 3 rfl) ?_
    refine lv_iload hx hb dX7_reached_31 (lv_at hl 6 rfl) ?_
    refine lv_ishr hx hb dX7_reached_33 ?_
    refine lv_topi (fun v5 ev5 => ?_)
    replace hf := nLet_e hf ev5
    refine lv_iconst (v := 1) hx hb dX7_reached_34 (by decide) ?_
    refine lv_iand hx hb dX7_reached_35 ?_
    refine lv_topi (fun v6 ev6 => ?_)
    replace hf := nLet_e hf ev6
    refine lv_iconst (v := 1) hx hb dX7_reached_36 (by decide) ?_
    refine lv_icmp_ne (tgt := 50) hx hb dX7_reached_37 (by decide) (fun hc => ?_) (fun hc => ?_)
    · replace hf := nIf_f hc hf
      exact K50 σ x1 x2 x3 x4 x5 x6 H locs ls (lv_sub hl [0, 1, 2, 3, 4, 5, 6] rfl) hP hS hf
    · replace hf := nIf_t hc hf
      refine lv_iload_n hx hb dX7_reached_40 rfl (lv_at hl 3 rfl) ?_
      refine lv_aload_n hx hb dX7_reached_41 rfl (lv_at hl 0 rfl) ?_
      refine lv_iload_n hx hb dX7_reached_42 rfl (lv_at hl 1 rfl) ?_
      refine lv_iload hx hb dX7_reached_43 (lv_at hl 6 rfl) ?_
      obtain ⟨r7, σ8, hc8, hf⟩ := nBd_e hf
      refine nb_callVi (As := [.int x1, .int x6]) (rest := [.int x3]) ⟨hx, hb, hml, hown, hts⟩ (c_X7_nextOf (D := D) (A := A) (cy := cy) (a := a) (kt := kt) (vt := vt) (l := l)  hc8) (cwV 2 hts gX7_reached_X7_nextOf rfl rfl rfl (by decide +kernel) ⟨Nat.le_of_ble_eq_true rfl, Nat.le_of_ble_eq_true rfl⟩) hE hP hS nbo_1 rfl rfl hl.1 rfl (Nat.le_of_ble_eq_true rfl) dX7_reached_45 (fun H locs hP hS => ?_)
      refine lv_ior hx hb dX7_reached_48 ?_
      refine lv_topi (fun v9 ev9 => ?_)
      replace hf := nLet_e hf ev9
      refine lv_istore_n (lv' := [(3, .int v9), (0, .ref (a 1)), (1, .int x1), (2, .int x2), (4, .int x4), (5, .int x5), (6, .int x6)]) hx hb dX7_reached_49 rfl hl (by decide) rfl (fun ls hl => ?_)
      exact K50 σ8 x1 x2 v9 x4 x5 x6 H locs ls (lv_sub hl [1, 2, 3, 0, 4, 5, 6] rfl) hP hS hf
def b_X7_reached_11 (N : Nat) (k24 : nS → Int32 → Int32 → Int32 → Int32 → Int32 → Int32 → Option (Int32 × nS)) (σ : nS) (x1 : Int32) (x2 : Int32) (x3 : Int32) (x4 : Int32) : Option (Int32 × nS) := (if (24 : Int32) < x4 then nLet ((1 : Int32) <<< (x2 &&& 31) : Int32) (fun v1 => nLet (v1 - (1 : Int32) : Int32) (fun v2 => nLet (x3 &&& v2 : Int32) (fun v3 => some (v3, σ)))) else k24 σ x1 x2 x3 x4 x3 0)
set_option maxHeartbeats 4000000 in
set_option maxRecDepth 100000 in
theorem kb_X7_reached_11 {p : Program} {l : Launch} {e : Env} {s : State} {m : MethodId} {args : Array Value} {below : List Frame} {meth : Method} {c : Code} {D : va_G} {A : Nat → Prop} {cy : Nat → ClassId} {a kt vt : Nat → Nat} {N : Nat}   (C0 : nCx p s m args meth c cX7_reached 7 (some .int) RX7 wsX7_reached) (hE : nEn D A cy (NBw cy a) kt vt s) {z : Int32 × nS} {k24 : nS → Int32 → Int32 → Int32 → Int32 → Int32 → Int32 → Option (Int32 × nS)} (K24 : ∀ (σ : nS) (x1 : Int32) (x2 : Int32) (x3 : Int32) (x4 : Int32) (x5 : Int32) (x6 : Int32) (H : Heap) (locs : List Loc) (ls : Array Slot), lv_has ls 7 [(0, .ref (a 1)), (1, .int x1), (2, .int x2), (3, .int x3), (4, .int x4), (5, .int x5), (6, .int x6)] → va_P D vwCl ((NBw cy a) σ) H → va_S A s.heap H locs → k24 σ x1 x2 x3 x4 x5 x6 = some z → W p l e ({ frames := 2, cells := 0, slots := 0, locals := 47 } : Room) s m args below meth c H locs 0 0 (nQi below D A (NBw cy a) args s z) (F0 m 24 ls [])) : ∀ (σ : nS) (x1 : Int32) (x2 : Int32) (x3 : Int32) (x4 : Int32) (H : Heap) (locs : List Loc) (ls : Array Slot), lv_has ls 7 [(0, .ref (a 1)), (1, .int x1), (2, .int x2), (3, .int x3), (4, .int x4)] → va_P D vwCl ((NBw cy a) σ) H → va_S A s.heap H locs → b_X7_reached_11 N k24 σ x1 x2 x3 x4 = some z → W p l e ({ frames := 2, cells := 0, slots := 0, locals := 47 } : Room) s m args below meth c H locs 0 0 (nQi below D A (NBw cy a) args s z) (F0 m 11 ls []) := by
  obtain ⟨hx, hb, hr, hml, hown, hts, hlocks⟩ := C0
  intro σ x1 x2 x3 x4 H locs ls hl hP hS hf
  unfold b_X7_reached_11 at hf
  refine lv_iload hx hb dX7_reached_11 (lv_at hl 4 rfl) ?_
  refine lv_bipush (v := 24) hx hb dX7_reached_13 (by decide) ?_
  refine lv_icmp_gt (tgt := 71) hx hb dX7_reached_15 (by decide) (fun hc => ?_) (fun hc => ?_)
  · replace hf := nIf_t hc hf
    refine lv_iload_n hx hb dX7_reached_71 rfl (lv_at hl 3 rfl) ?_
    refine lv_iconst (v := 1) hx hb dX7_reached_72 (by decide) ?_
    refine lv_iload_n hx hb dX7_reached_73 rfl (lv_at hl 2 rfl) ?_
    refine lv_ishl hx hb dX7_reached_74 ?_
    refine lv_topi (fun v1 ev1 => ?_)
    replace hf := nLet_e hf ev1
    refine lv_iconst (v := 1) hx hb dX7_reached_75 (by decide) ?_
    refine lv_isub hx hb dX7_reached_76 ?_
    refine lv_topi (fun v2 ev2 => ?_)
    replace hf := nLet_e hf ev2
    refine lv_iand hx hb dX7_reached_77 ?_
    refine lv_topi (fun v3 ev3 => ?_)
    replace hf := nLet_e hf ev3
    exact nb_iret hx hb hr hlocks hP hS (nSo hf) dX7_reached_78
  · replace hf := nIf_f hc hf
    refine lv_iload_n hx hb dX7_reached_18 rfl (lv_at hl 3 rfl) ?_
    refine lv_istore (lv' := [(5, .int x3), (0, .ref (a 1)), (1, .int x1), (2, .int x2), (3, .int x3), (4, .int x4)]) hx hb dX7_reached_19 hl (by decide) rfl (fun ls hl => ?_)
    refine lv_iconst (v := 0) hx hb dX7_reached_21 (by decide) ?_
    refine lv_istore (lv' := [(6, .int 0), (5, .int x3), (0, .ref (a 1)), (1, .int x1), (2, .int x2), (3, .int x3), (4, .int x4)]) hx hb dX7_reached_22 hl (by decide) rfl (fun ls hl => ?_)
    exact K24 σ x1 x2 x3 x4 x3 0 H locs ls (lv_sub hl [2, 3, 4, 5, 6, 1, 0] rfl) hP hS hf
def b_X7_reached_0 (N : Nat) (k11 : nS → Int32 → Int32 → Int32 → Int32 → Option (Int32 × nS)) (σ : nS) (x1 : Int32) : Option (Int32 × nS) := nBd (f_X7_sizeOf N x1 σ) (fun r1 σ2 => k11 σ2 x1 r1 1 0)
set_option maxHeartbeats 4000000 in
set_option maxRecDepth 100000 in
theorem kb_X7_reached_0 {p : Program} {l : Launch} {e : Env} {s : State} {m : MethodId} {args : Array Value} {below : List Frame} {meth : Method} {c : Code} {D : va_G} {A : Nat → Prop} {cy : Nat → ClassId} {a kt vt : Nat → Nat} {N : Nat}   (C0 : nCx p s m args meth c cX7_reached 7 (some .int) RX7 wsX7_reached) (hE : nEn D A cy (NBw cy a) kt vt s) {z : Int32 × nS} {k11 : nS → Int32 → Int32 → Int32 → Int32 → Option (Int32 × nS)} (K11 : ∀ (σ : nS) (x1 : Int32) (x2 : Int32) (x3 : Int32) (x4 : Int32) (H : Heap) (locs : List Loc) (ls : Array Slot), lv_has ls 7 [(0, .ref (a 1)), (1, .int x1), (2, .int x2), (3, .int x3), (4, .int x4)] → va_P D vwCl ((NBw cy a) σ) H → va_S A s.heap H locs → k11 σ x1 x2 x3 x4 = some z → W p l e ({ frames := 2, cells := 0, slots := 0, locals := 47 } : Room) s m args below meth c H locs 0 0 (nQi below D A (NBw cy a) args s z) (F0 m 11 ls [])) : ∀ (σ : nS) (x1 : Int32) (H : Heap) (locs : List Loc) (ls : Array Slot), lv_has ls 7 [(0, .ref (a 1)), (1, .int x1)] → va_P D vwCl ((NBw cy a) σ) H → va_S A s.heap H locs → b_X7_reached_0 N k11 σ x1 = some z → W p l e ({ frames := 2, cells := 0, slots := 0, locals := 47 } : Room) s m args below meth c H locs 0 0 (nQi below D A (NBw cy a) args s z) (F0 m 0 ls []) := by
  obtain ⟨hx, hb, hr, hml, hown, hts, hlocks⟩ := C0
  intro σ x1 H locs ls hl hP hS hf
  unfold b_X7_reached_0 at hf
  refine lv_aload_n hx hb dX7_reached_0 rfl (lv_at hl 0 rfl) ?_
  refine lv_iload_n hx hb dX7_reached_1 rfl (lv_at hl 1 rfl) ?_
  obtain ⟨r1, σ2, hc2, hf⟩ := nBd_e hf
  refine nb_callVi (As := [.int x1]) (rest := []) ⟨hx, hb, hml, hown, hts⟩ (c_X7_sizeOf (D := D) (A := A) (cy := cy) (a := a) (kt := kt) (vt := vt) (l := l)  hc2) (cwV 1 hts gX7_reached_X7_sizeOf rfl rfl rfl (by decide +kernel) ⟨Nat.le_of_ble_eq_true rfl, Nat.le_of_ble_eq_true rfl⟩) hE hP hS nbo_1 rfl rfl hl.1 rfl (Nat.le_of_ble_eq_true rfl) dX7_reached_2 (fun H locs hP hS => ?_)
  refine lv_istore_n (lv' := [(2, .int r1), (0, .ref (a 1)), (1, .int x1)]) hx hb dX7_reached_5 rfl hl (by decide) rfl (fun ls hl => ?_)
  refine lv_iconst (v := 1) hx hb dX7_reached_6 (by decide) ?_
  refine lv_istore_n (lv' := [(3, .int 1), (2, .int r1), (0, .ref (a 1)), (1, .int x1)]) hx hb dX7_reached_7 rfl hl (by decide) rfl (fun ls hl => ?_)
  refine lv_iconst (v := 0) hx hb dX7_reached_8 (by decide) ?_
  refine lv_istore (lv' := [(4, .int 0), (3, .int 1), (2, .int r1), (0, .ref (a 1)), (1, .int x1)]) hx hb dX7_reached_9 hl (by decide) rfl (fun ls hl => ?_)
  exact K11 σ2 x1 r1 1 0 H locs ls (lv_sub hl [3, 4, 2, 1, 0] rfl) hP hS hf
def l_X7_reached_50 (N : Nat) (k24 : nS → Int32 → Int32 → Int32 → Int32 → Int32 → Int32 → Option (Int32 × nS)) : nS → Int32 → Int32 → Int32 → Int32 → Int32 → Int32 → Option (Int32 × nS) := b_X7_reached_50 N k24
theorem kl_X7_reached_50 {p : Program} {l : Launch} {e : Env} {s : State} {m : MethodId} {args : Array Value} {below : List Frame} {meth : Method} {c : Code} {D : va_G} {A : Nat → Prop} {cy : Nat → ClassId} {a kt vt : Nat → Nat} {N : Nat}   (C0 : nCx p s m args meth c cX7_reached 7 (some .int) RX7 wsX7_reached) (hE : nEn D A cy (NBw cy a) kt vt s) {z : Int32 × nS} {k24 : nS → Int32 → Int32 → Int32 → Int32 → Int32 → Int32 → Option (Int32 × nS)} (K24 : ∀ (σ : nS) (x1 : Int32) (x2 : Int32) (x3 : Int32) (x4 : Int32) (x5 : Int32) (x6 : Int32) (H : Heap) (locs : List Loc) (ls : Array Slot), lv_has ls 7 [(0, .ref (a 1)), (1, .int x1), (2, .int x2), (3, .int x3), (4, .int x4), (5, .int x5), (6, .int x6)] → va_P D vwCl ((NBw cy a) σ) H → va_S A s.heap H locs → k24 σ x1 x2 x3 x4 x5 x6 = some z → W p l e ({ frames := 2, cells := 0, slots := 0, locals := 47 } : Room) s m args below meth c H locs 0 0 (nQi below D A (NBw cy a) args s z) (F0 m 24 ls [])) : ∀ (σ : nS) (x1 : Int32) (x2 : Int32) (x3 : Int32) (x4 : Int32) (x5 : Int32) (x6 : Int32) (H : Heap) (locs : List Loc) (ls : Array Slot), lv_has ls 7 [(0, .ref (a 1)), (1, .int x1), (2, .int x2), (3, .int x3), (4, .int x4), (5, .int x5), (6, .int x6)] → va_P D vwCl ((NBw cy a) σ) H → va_S A s.heap H locs → l_X7_reached_50 N k24 σ x1 x2 x3 x4 x5 x6 = some z → W p l e ({ frames := 2, cells := 0, slots := 0, locals := 47 } : Room) s m args below meth c H locs 0 0 (nQi below D A (NBw cy a) args s z) (F0 m 50 ls []) := by
  exact kb_X7_reached_50 (N := N)  C0 hE K24
def l_X7_reached_24 (N : Nat) (k11 : nS → Int32 → Int32 → Int32 → Int32 → Option (Int32 × nS)) : nS → Int32 → Int32 → Int32 → Int32 → Int32 → Int32 → Option (Int32 × nS) := nLp (fun _ _ _ _ _ _ _ => none) (fun again => b_X7_reached_24 N k11 (l_X7_reached_50 N again)) N
theorem kl_X7_reached_24 {p : Program} {l : Launch} {e : Env} {s : State} {m : MethodId} {args : Array Value} {below : List Frame} {meth : Method} {c : Code} {D : va_G} {A : Nat → Prop} {cy : Nat → ClassId} {a kt vt : Nat → Nat} {N : Nat}   (C0 : nCx p s m args meth c cX7_reached 7 (some .int) RX7 wsX7_reached) (hE : nEn D A cy (NBw cy a) kt vt s) {z : Int32 × nS} {k11 : nS → Int32 → Int32 → Int32 → Int32 → Option (Int32 × nS)} (K11 : ∀ (σ : nS) (x1 : Int32) (x2 : Int32) (x3 : Int32) (x4 : Int32) (H : Heap) (locs : List Loc) (ls : Array Slot), lv_has ls 7 [(0, .ref (a 1)), (1, .int x1), (2, .int x2), (3, .int x3), (4, .int x4)] → va_P D vwCl ((NBw cy a) σ) H → va_S A s.heap H locs → k11 σ x1 x2 x3 x4 = some z → W p l e ({ frames := 2, cells := 0, slots := 0, locals := 47 } : Room) s m args below meth c H locs 0 0 (nQi below D A (NBw cy a) args s z) (F0 m 11 ls [])) : ∀ (σ : nS) (x1 : Int32) (x2 : Int32) (x3 : Int32) (x4 : Int32) (x5 : Int32) (x6 : Int32) (H : Heap) (locs : List Loc) (ls : Array Slot), lv_has ls 7 [(0, .ref (a 1)), (1, .int x1), (2, .int x2), (3, .int x3), (4, .int x4), (5, .int x5), (6, .int x6)] → va_P D vwCl ((NBw cy a) σ) H → va_S A s.heap H locs → l_X7_reached_24 N k11 σ x1 x2 x3 x4 x5 x6 = some z → W p l e ({ frames := 2, cells := 0, slots := 0, locals := 47 } : Room) s m args below meth c H locs 0 0 (nQi below D A (NBw cy a) args s z) (F0 m 24 ls []) := by
  have main : ∀ (fu : Nat), ∀ (σ : nS) (x1 : Int32) (x2 : Int32) (x3 : Int32) (x4 : Int32) (x5 : Int32) (x6 : Int32) (H : Heap) (locs : List Loc) (ls : Array Slot), lv_has ls 7 [(0, .ref (a 1)), (1, .int x1), (2, .int x2), (3, .int x3), (4, .int x4), (5, .int x5), (6, .int x6)] → va_P D vwCl ((NBw cy a) σ) H → va_S A s.heap H locs → nLp (fun _ _ _ _ _ _ _ => none) (fun again => b_X7_reached_24 N k11 (l_X7_reached_50 N again)) fu σ x1 x2 x3 x4 x5 x6 = some z → W p l e ({ frames := 2, cells := 0, slots := 0, locals := 47 } : Room) s m args below meth c H locs 0 0 (nQi below D A (NBw cy a) args s z) (F0 m 24 ls []) := by
    intro fu
    induction fu with
    | zero => intro σ x1 x2 x3 x4 x5 x6 H locs ls hl hP hS hf; cases hf
    | succ fu ih => exact kb_X7_reached_24 (N := N)  C0 hE K11 (kl_X7_reached_50 (N := N)  C0 hE ih)
  exact main N
def l_X7_reached_11 (N : Nat) : nS → Int32 → Int32 → Int32 → Int32 → Option (Int32 × nS) := nLp (fun _ _ _ _ _ => none) (fun again => b_X7_reached_11 N (l_X7_reached_24 N again)) N
theorem kl_X7_reached_11 {p : Program} {l : Launch} {e : Env} {s : State} {m : MethodId} {args : Array Value} {below : List Frame} {meth : Method} {c : Code} {D : va_G} {A : Nat → Prop} {cy : Nat → ClassId} {a kt vt : Nat → Nat} {N : Nat}   (C0 : nCx p s m args meth c cX7_reached 7 (some .int) RX7 wsX7_reached) (hE : nEn D A cy (NBw cy a) kt vt s) {z : Int32 × nS} : ∀ (σ : nS) (x1 : Int32) (x2 : Int32) (x3 : Int32) (x4 : Int32) (H : Heap) (locs : List Loc) (ls : Array Slot), lv_has ls 7 [(0, .ref (a 1)), (1, .int x1), (2, .int x2), (3, .int x3), (4, .int x4)] → va_P D vwCl ((NBw cy a) σ) H → va_S A s.heap H locs → l_X7_reached_11 N σ x1 x2 x3 x4 = some z → W p l e ({ frames := 2, cells := 0, slots := 0, locals := 47 } : Room) s m args below meth c H locs 0 0 (nQi below D A (NBw cy a) args s z) (F0 m 11 ls []) := by
  have main : ∀ (fu : Nat), ∀ (σ : nS) (x1 : Int32) (x2 : Int32) (x3 : Int32) (x4 : Int32) (H : Heap) (locs : List Loc) (ls : Array Slot), lv_has ls 7 [(0, .ref (a 1)), (1, .int x1), (2, .int x2), (3, .int x3), (4, .int x4)] → va_P D vwCl ((NBw cy a) σ) H → va_S A s.heap H locs → nLp (fun _ _ _ _ _ => none) (fun again => b_X7_reached_11 N (l_X7_reached_24 N again)) fu σ x1 x2 x3 x4 = some z → W p l e ({ frames := 2, cells := 0, slots := 0, locals := 47 } : Room) s m args below meth c H locs 0 0 (nQi below D A (NBw cy a) args s z) (F0 m 11 ls []) := by
    intro fu
    induction fu with
    | zero => intro σ x1 x2 x3 x4 H locs ls hl hP hS hf; cases hf
    | succ fu ih => exact kb_X7_reached_11 (N := N)  C0 hE (kl_X7_reached_24 (N := N)  C0 hE ih)
  exact main N
def l_X7_reached_0 (N : Nat) : nS → Int32 → Option (Int32 × nS) := b_X7_reached_0 N (l_X7_reached_11 N)
theorem kl_X7_reached_0 {p : Program} {l : Launch} {e : Env} {s : State} {m : MethodId} {args : Array Value} {below : List Frame} {meth : Method} {c : Code} {D : va_G} {A : Nat → Prop} {cy : Nat → ClassId} {a kt vt : Nat → Nat} {N : Nat}   (C0 : nCx p s m args meth c cX7_reached 7 (some .int) RX7 wsX7_reached) (hE : nEn D A cy (NBw cy a) kt vt s) {z : Int32 × nS} : ∀ (σ : nS) (x1 : Int32) (H : Heap) (locs : List Loc) (ls : Array Slot), lv_has ls 7 [(0, .ref (a 1)), (1, .int x1)] → va_P D vwCl ((NBw cy a) σ) H → va_S A s.heap H locs → l_X7_reached_0 N σ x1 = some z → W p l e ({ frames := 2, cells := 0, slots := 0, locals := 47 } : Room) s m args below meth c H locs 0 0 (nQi below D A (NBw cy a) args s z) (F0 m 0 ls []) := by
  exact kb_X7_reached_0 (N := N)  C0 hE (kl_X7_reached_11 (N := N)  C0 hE)
def f_X7_reached (N : Nat) (x1 : Int32) (σ : nS) : Option (Int32 × nS) := l_X7_reached_0 N σ x1
set_option maxHeartbeats 4000000 in
set_option maxRecDepth 100000 in
theorem c_X7_reached {l : Launch} {D : va_G} {A : Nat → Prop} {cy : Nat → ClassId} {a kt vt : Nat → Nat} {N : Nat}   {x1 : Int32} {σ : nS} {r : Int32} {σ' : nS} (hf : f_X7_reached N x1 σ = some (r, σ')) : nMi l yX7_reached wsX7_reached ({ frames := 2, cells := 0, slots := 0, locals := 47 } : Room) D A cy (NBw cy a) kt vt [.ref (a 1), .int x1] σ r σ' := by
  refine Met.ofW (cc := cX7_reached) (maxL := 7) (ret := (some .int)) (by decide) rfl ?_
  intro p e s m args below meth c s₁ B hml hv
  obtain ⟨rfl, hP, hE⟩ := hv
  have hl := lv_entry ([.ref (a 1), .int x1]) (n := 7) (Nat.le_of_ble_eq_true rfl)
  rw [lg_entry_eq]
  generalize (lg_sl ([.ref (a 1), .int x1]) ++ List.replicate (7 - (lg_sl ([.ref (a 1), .int x1])).length) Slot.unset).toArray = ls at hl ⊢
  have C0 : nCx p s m _ meth c cX7_reached 7 (some .int) RX7 wsX7_reached := ⟨B.exec, B.bytes, B.returns, hml, findClass_of_methodNamed B.named, atoms_spec (ws := wsX7_reached) B.pre, B.notSynchronized⟩
  exact kl_X7_reached_0 (N := N)  C0 hE (z := (r, σ')) σ x1 _ _ ls hl hP va_S.rf hf
