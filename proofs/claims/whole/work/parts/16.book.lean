/-! X8_refuse -/
set_option maxRecDepth 20000 in
theorem iX8_refuse_X8 : ∀ w ∈ u_ws RX8 TX8 13, w ∈ wsX8_refuse := fun _ h => List.mem_cons_of_mem _ (List.mem_append_right _ h)
set_option maxRecDepth 20000 in
theorem qX8_refuse_80 : Cond.fieldLink RX8 80 RX8 (TX8 12).2.1 (TX8 12).2.2.1 ∈ wsX8_refuse := by decide +kernel
def b_X8_refuse_0 (N : Nat) (σ : nS) (x1 : Int32) : Option (Int32 × nS) := nLet (wr σ 0 12 x1) (fun σ1 => some ((-1), σ1))
set_option maxHeartbeats 4000000 in
set_option maxRecDepth 100000 in
theorem kb_X8_refuse_0 {p : Program} {l : Launch} {e : Env} {s : State} {m : MethodId} {args : Array Value} {below : List Frame} {meth : Method} {c : Code} {D : va_G} {A : Nat → Prop} {cy : Nat → ClassId} {a kt vt : Nat → Nat} {N : Nat}   (C0 : nCx p s m args meth c cX8_refuse 2 (some .int) RX8 wsX8_refuse) (hE : nEn D A cy (NBw cy a) kt vt s) {z : Int32 × nS} : ∀ (σ : nS) (x1 : Int32) (H : Heap) (locs : List Loc) (ls : Array Slot), lv_has ls 2 [(0, .ref (a 0)), (1, .int x1)] → va_P D vwCl ((NBw cy a) σ) H → va_S A s.heap H locs → b_X8_refuse_0 N σ x1 = some z → W p l e ({ frames := 0, cells := 0, slots := 0, locals := 0 } : Room) s m args below meth c H locs 0 0 (nQi below D A (NBw cy a) args s z) (F0 m 0 ls []) := by
  obtain ⟨hx, hb, hr, hml, hown, hts, hlocks⟩ := C0
  intro σ x1 H locs ls hl hP hS hf
  unfold b_X8_refuse_0 at hf
  refine lv_aload_n hx hb dX8_refuse_0 rfl (lv_at hl 0 rfl) ?_
  refine lv_iload_n hx hb dX8_refuse_1 rfl (lv_at hl 1 rfl) ?_
  refine nb_put (ci := 8) hx hb hts iX8_refuse_X8 tyX8 tyX8_ok nmX8 hown hE hP hS 0 nbo_0 rfl 12 (by decide) qX8_refuse_80 rfl rfl rfl rfl (Nat.le_of_ble_eq_true rfl) dX8_refuse_2 (nbp_0_12 _) (fun σ1 eσ1 H locs hP hS => ?_)
  replace hf := nLet_e hf eσ1
  refine lv_iconst (v := (-1)) hx hb dX8_refuse_5 (by decide) ?_
  exact nb_iret hx hb hr hlocks hP hS (nSo hf) dX8_refuse_6
def l_X8_refuse_0 (N : Nat) : nS → Int32 → Option (Int32 × nS) := b_X8_refuse_0 N
theorem kl_X8_refuse_0 {p : Program} {l : Launch} {e : Env} {s : State} {m : MethodId} {args : Array Value} {below : List Frame} {meth : Method} {c : Code} {D : va_G} {A : Nat → Prop} {cy : Nat → ClassId} {a kt vt : Nat → Nat} {N : Nat}   (C0 : nCx p s m args meth c cX8_refuse 2 (some .int) RX8 wsX8_refuse) (hE : nEn D A cy (NBw cy a) kt vt s) {z : Int32 × nS} : ∀ (σ : nS) (x1 : Int32) (H : Heap) (locs : List Loc) (ls : Array Slot), lv_has ls 2 [(0, .ref (a 0)), (1, .int x1)] → va_P D vwCl ((NBw cy a) σ) H → va_S A s.heap H locs → l_X8_refuse_0 N σ x1 = some z → W p l e ({ frames := 0, cells := 0, slots := 0, locals := 0 } : Room) s m args below meth c H locs 0 0 (nQi below D A (NBw cy a) args s z) (F0 m 0 ls []) := by
  exact kb_X8_refuse_0 (N := N)  C0 hE
def f_X8_refuse (N : Nat) (x1 : Int32) (σ : nS) : Option (Int32 × nS) := l_X8_refuse_0 N σ x1
set_option maxHeartbeats 4000000 in
set_option maxRecDepth 100000 in
theorem c_X8_refuse {l : Launch} {D : va_G} {A : Nat → Prop} {cy : Nat → ClassId} {a kt vt : Nat → Nat} {N : Nat}   {x1 : Int32} {σ : nS} {r : Int32} {σ' : nS} (hf : f_X8_refuse N x1 σ = some (r, σ')) : nMi l yX8_refuse wsX8_refuse ({ frames := 0, cells := 0, slots := 0, locals := 0 } : Room) D A cy (NBw cy a) kt vt [.ref (a 0), .int x1] σ r σ' := by
  refine Met.ofW (cc := cX8_refuse) (maxL := 2) (ret := (some .int)) (by decide) rfl ?_
  intro p e s m args below meth c s₁ B hml hv
  obtain ⟨rfl, hP, hE⟩ := hv
  have hl := lv_entry ([.ref (a 0), .int x1]) (n := 2) (Nat.le_of_ble_eq_true rfl)
  rw [lg_entry_eq]
  generalize (lg_sl ([.ref (a 0), .int x1]) ++ List.replicate (2 - (lg_sl ([.ref (a 0), .int x1])).length) Slot.unset).toArray = ls at hl ⊢
  have C0 : nCx p s m _ meth c cX8_refuse 2 (some .int) RX8 wsX8_refuse := ⟨B.exec, B.bytes, B.returns, hml, findClass_of_methodNamed B.named, atoms_spec (ws := wsX8_refuse) B.pre, B.notSynchronized⟩
  exact kl_X8_refuse_0 (N := N)  C0 hE (z := (r, σ')) σ x1 _ _ ls hl hP va_S.rf hf

/-! X8_accept -/
set_option maxRecDepth 20000 in
theorem iX8_accept_X8 : ∀ w ∈ u_ws RX8 TX8 13, w ∈ wsX8_accept := fun _ h => List.mem_cons_of_mem _ (List.mem_append_right _ h)
set_option maxRecDepth 20000 in
theorem qX8_accept_80 : Cond.fieldLink RX8 80 RX8 (TX8 12).2.1 (TX8 12).2.2.1 ∈ wsX8_accept := by decide +kernel
def b_X8_accept_0 (N : Nat) (σ : nS) (x1 : Int32) : Option (Int32 × nS) := nLet (wr σ 0 12 0) (fun σ1 => some (x1, σ1))
set_option maxHeartbeats 4000000 in
set_option maxRecDepth 100000 in
theorem kb_X8_accept_0 {p : Program} {l : Launch} {e : Env} {s : State} {m : MethodId} {args : Array Value} {below : List Frame} {meth : Method} {c : Code} {D : va_G} {A : Nat → Prop} {cy : Nat → ClassId} {a kt vt : Nat → Nat} {N : Nat}   (C0 : nCx p s m args meth c cX8_accept 2 (some .int) RX8 wsX8_accept) (hE : nEn D A cy (NBw cy a) kt vt s) {z : Int32 × nS} : ∀ (σ : nS) (x1 : Int32) (H : Heap) (locs : List Loc) (ls : Array Slot), lv_has ls 2 [(0, .ref (a 0)), (1, .int x1)] → va_P D vwCl ((NBw cy a) σ) H → va_S A s.heap H locs → b_X8_accept_0 N σ x1 = some z → W p l e ({ frames := 0, cells := 0, slots := 0, locals := 0 } : Room) s m args below meth c H locs 0 0 (nQi below D A (NBw cy a) args s z) (F0 m 0 ls []) := by
  obtain ⟨hx, hb, hr, hml, hown, hts, hlocks⟩ := C0
  intro σ x1 H locs ls hl hP hS hf
  unfold b_X8_accept_0 at hf
  refine lv_aload_n hx hb dX8_accept_0 rfl (lv_at hl 0 rfl) ?_
  refine lv_iconst (v := 0) hx hb dX8_accept_1 (by decide) ?_
  refine nb_put (ci := 8) hx hb hts iX8_accept_X8 tyX8 tyX8_ok nmX8 hown hE hP hS 0 nbo_0 rfl 12 (by decide) qX8_accept_80 rfl rfl rfl rfl (Nat.le_of_ble_eq_true rfl) dX8_accept_2 (nbp_0_12 _) (fun σ1 eσ1 H locs hP hS => ?_)
  replace hf := nLet_e hf eσ1
  refine lv_iload_n hx hb dX8_accept_5 rfl (lv_at hl 1 rfl) ?_
  exact nb_iret hx hb hr hlocks hP hS (nSo hf) dX8_accept_6
def l_X8_accept_0 (N : Nat) : nS → Int32 → Option (Int32 × nS) := b_X8_accept_0 N
theorem kl_X8_accept_0 {p : Program} {l : Launch} {e : Env} {s : State} {m : MethodId} {args : Array Value} {below : List Frame} {meth : Method} {c : Code} {D : va_G} {A : Nat → Prop} {cy : Nat → ClassId} {a kt vt : Nat → Nat} {N : Nat}   (C0 : nCx p s m args meth c cX8_accept 2 (some .int) RX8 wsX8_accept) (hE : nEn D A cy (NBw cy a) kt vt s) {z : Int32 × nS} : ∀ (σ : nS) (x1 : Int32) (H : Heap) (locs : List Loc) (ls : Array Slot), lv_has ls 2 [(0, .ref (a 0)), (1, .int x1)] → va_P D vwCl ((NBw cy a) σ) H → va_S A s.heap H locs → l_X8_accept_0 N σ x1 = some z → W p l e ({ frames := 0, cells := 0, slots := 0, locals := 0 } : Room) s m args below meth c H locs 0 0 (nQi below D A (NBw cy a) args s z) (F0 m 0 ls []) := by
  exact kb_X8_accept_0 (N := N)  C0 hE
def f_X8_accept (N : Nat) (x1 : Int32) (σ : nS) : Option (Int32 × nS) := l_X8_accept_0 N σ x1
set_option maxHeartbeats 4000000 in
set_option maxRecDepth 100000 in
theorem c_X8_accept {l : Launch} {D : va_G} {A : Nat → Prop} {cy : Nat → ClassId} {a kt vt : Nat → Nat} {N : Nat}   {x1 : Int32} {σ : nS} {r : Int32} {σ' : nS} (hf : f_X8_accept N x1 σ = some (r, σ')) : nMi l yX8_accept wsX8_accept ({ frames := 0, cells := 0, slots := 0, locals := 0 } : Room) D A cy (NBw cy a) kt vt [.ref (a 0), .int x1] σ r σ' := by
  refine Met.ofW (cc := cX8_accept) (maxL := 2) (ret := (some .int)) (by decide) rfl ?_
  intro p e s m args below meth c s₁ B hml hv
  obtain ⟨rfl, hP, hE⟩ := hv
  have hl := lv_entry ([.ref (a 0), .int x1]) (n := 2) (Nat.le_of_ble_eq_true rfl)
  rw [lg_entry_eq]
  generalize (lg_sl ([.ref (a 0), .int x1]) ++ List.replicate (2 - (lg_sl ([.ref (a 0), .int x1])).length) Slot.unset).toArray = ls at hl ⊢
  have C0 : nCx p s m _ meth c cX8_accept 2 (some .int) RX8 wsX8_accept := ⟨B.exec, B.bytes, B.returns, hml, findClass_of_methodNamed B.named, atoms_spec (ws := wsX8_accept) B.pre, B.notSynchronized⟩
  exact kl_X8_accept_0 (N := N)  C0 hE (z := (r, σ')) σ x1 _ _ ls hl hP va_S.rf hf

/-! X8_areBits -/
def b_X8_areBits_0 (N : Nat) (σ : nS) (x0 : Int32) : Option (Int32 × nS) := (if x0 < 0 then some (0, σ) else (if (255 : Int32) < x0 then some (0, σ) else some (1, σ)))
set_option maxHeartbeats 4000000 in
set_option maxRecDepth 100000 in
theorem kb_X8_areBits_0 {p : Program} {l : Launch} {e : Env} {s : State} {m : MethodId} {args : Array Value} {below : List Frame} {meth : Method} {c : Code} {D : va_G} {A : Nat → Prop} {cy : Nat → ClassId} {a kt vt : Nat → Nat} {N : Nat}   (C0 : nCx p s m args meth c cX8_areBits 1 (some .boolean) RX8 wsX8_areBits) (hE : nEn D A cy (NBw cy a) kt vt s) {z : Int32 × nS} : ∀ (σ : nS) (x0 : Int32) (H : Heap) (locs : List Loc) (ls : Array Slot), lv_has ls 1 [(0, .int x0)] → va_P D vwCl ((NBw cy a) σ) H → va_S A s.heap H locs → b_X8_areBits_0 N σ x0 = some z → W p l e ({ frames := 0, cells := 0, slots := 0, locals := 0 } : Room) s m args below meth c H locs 0 0 (nQi below D A (NBw cy a) args s z) (F0 m 0 ls []) := by
  obtain ⟨hx, hb, hr, hml, hown, hts, hlocks⟩ := C0
  intro σ x0 H locs ls hl hP hS hf
  unfold b_X8_areBits_0 at hf
  refine lv_iload_n hx hb dX8_areBits_0 rfl (lv_at hl 0 rfl) ?_
  refine lv_if_lt (tgt := 15) hx hb dX8_areBits_1 (by decide) (fun hc => ?_) (fun hc => ?_)
  · replace hf := nIf_t hc hf
    refine lv_iconst (v := 0) hx hb dX8_areBits_15 (by decide) ?_
    exact nb_zret hx hb hr hlocks hP hS (nSo hf) rfl dX8_areBits_16
  · replace hf := nIf_f hc hf
    refine lv_iload_n hx hb dX8_areBits_4 rfl (lv_at hl 0 rfl) ?_
    refine lv_sipush (v := 255) hx hb dX8_areBits_5 (by decide) ?_
    refine lv_icmp_gt (tgt := 15) hx hb dX8_areBits_8 (by decide) (fun hc => ?_) (fun hc => ?_)
    · replace hf := nIf_t hc hf
      refine lv_iconst (v := 0) hx hb dX8_areBits_15 (by decide) ?_
      exact nb_zret hx hb hr hlocks hP hS (nSo hf) rfl dX8_areBits_16
    · replace hf := nIf_f hc hf
      refine lv_iconst (v := 1) hx hb dX8_areBits_11 (by decide) ?_
      refine lv_goto (tgt := 16) hx hb dX8_areBits_12 (by decide) ?_
      exact nb_zret hx hb hr hlocks hP hS (nSo hf) rfl dX8_areBits_16
def l_X8_areBits_0 (N : Nat) : nS → Int32 → Option (Int32 × nS) := b_X8_areBits_0 N
theorem kl_X8_areBits_0 {p : Program} {l : Launch} {e : Env} {s : State} {m : MethodId} {args : Array Value} {below : List Frame} {meth : Method} {c : Code} {D : va_G} {A : Nat → Prop} {cy : Nat → ClassId} {a kt vt : Nat → Nat} {N : Nat}   (C0 : nCx p s m args meth c cX8_areBits 1 (some .boolean) RX8 wsX8_areBits) (hE : nEn D A cy (NBw cy a) kt vt s) {z : Int32 × nS} : ∀ (σ : nS) (x0 : Int32) (H : Heap) (locs : List Loc) (ls : Array Slot), lv_has ls 1 [(0, .int x0)] → va_P D vwCl ((NBw cy a) σ) H → va_S A s.heap H locs → l_X8_areBits_0 N σ x0 = some z → W p l e ({ frames := 0, cells := 0, slots := 0, locals := 0 } : Room) s m args below meth c H locs 0 0 (nQi below D A (NBw cy a) args s z) (F0 m 0 ls []) := by
  exact kb_X8_areBits_0 (N := N)  C0 hE
def f_X8_areBits (N : Nat) (x0 : Int32) (σ : nS) : Option (Int32 × nS) := l_X8_areBits_0 N σ x0
set_option maxHeartbeats 4000000 in
set_option maxRecDepth 100000 in
theorem c_X8_areBits {l : Launch} {D : va_G} {A : Nat → Prop} {cy : Nat → ClassId} {a kt vt : Nat → Nat} {N : Nat}   {x0 : Int32} {σ : nS} {r : Int32} {σ' : nS} (hf : f_X8_areBits N x0 σ = some (r, σ')) : nMi l yX8_areBits wsX8_areBits ({ frames := 0, cells := 0, slots := 0, locals := 0 } : Room) D A cy (NBw cy a) kt vt [.int x0] σ r σ' := by
  refine Met.ofW (cc := cX8_areBits) (maxL := 1) (ret := (some .boolean)) (by decide) rfl ?_
  intro p e s m args below meth c s₁ B hml hv
  obtain ⟨rfl, hP, hE⟩ := hv
  have hl := lv_entry ([.int x0]) (n := 1) (Nat.le_of_ble_eq_true rfl)
  rw [lg_entry_eq]
  generalize (lg_sl ([.int x0]) ++ List.replicate (1 - (lg_sl ([.int x0])).length) Slot.unset).toArray = ls at hl ⊢
  have C0 : nCx p s m _ meth c cX8_areBits 1 (some .boolean) RX8 wsX8_areBits := ⟨B.exec, B.bytes, B.returns, hml, findClass_of_methodNamed B.named, atoms_spec (ws := wsX8_areBits) B.pre, B.notSynchronized⟩
  exact kl_X8_areBits_0 (N := N)  C0 hE (z := (r, σ')) σ x0 _ _ ls hl hP va_S.rf hf

/-! X8_fact -/
set_option maxRecDepth 20000 in
theorem iX8_fact_X8 : ∀ w ∈ u_ws RX8 TX8 13, w ∈ wsX8_fact := fun _ h => List.mem_cons_of_mem _ (List.mem_append_left _ (List.mem_append_right _ h))
set_option maxRecDepth 20000 in
theorem qX8_fact_12 : Cond.fieldLink RX8 12 RX8 (TX8 0).2.1 (TX8 0).2.2.1 ∈ wsX8_fact := by decide +kernel
set_option maxRecDepth 20000 in
theorem iX8_fact_X7 : ∀ w ∈ u_ws RX7 TX7 9, w ∈ wsX8_fact := fun _ h => List.mem_cons_of_mem _ (List.mem_append_right _ h)
def b_X8_fact_0 (N : Nat) (σ : nS) : Option (Int32 × nS) := (if (σ.1 1 0) < 8 then nLet ((σ.1 1 0) + (1 : Int32) : Int32) (fun v1 => nLet (wr σ 1 0 v1) (fun σ2 => nLet ((σ2.1 1 0) - (1 : Int32) : Int32) (fun v3 => nBd (f_X8_accept N v3 σ2) (fun r4 σ5 => some (r4, σ5))))) else nBd (f_X8_refuse N 3 σ) (fun r6 σ7 => some (r6, σ7)))
set_option maxHeartbeats 4000000 in
set_option maxRecDepth 100000 in
theorem kb_X8_fact_0 {p : Program} {l : Launch} {e : Env} {s : State} {m : MethodId} {args : Array Value} {below : List Frame} {meth : Method} {c : Code} {D : va_G} {A : Nat → Prop} {cy : Nat → ClassId} {a kt vt : Nat → Nat} {N : Nat}   (C0 : nCx p s m args meth c cX8_fact 1 (some .int) RX8 wsX8_fact) (hE : nEn D A cy (NBw cy a) kt vt s) {z : Int32 × nS} : ∀ (σ : nS) (H : Heap) (locs : List Loc) (ls : Array Slot), lv_has ls 1 [(0, .ref (a 0))] → va_P D vwCl ((NBw cy a) σ) H → va_S A s.heap H locs → b_X8_fact_0 N σ = some z → W p l e ({ frames := 1, cells := 0, slots := 0, locals := 21 } : Room) s m args below meth c H locs 0 0 (nQi below D A (NBw cy a) args s z) (F0 m 0 ls []) := by
  obtain ⟨hx, hb, hr, hml, hown, hts, hlocks⟩ := C0
  intro σ  H locs ls hl hP hS hf
  unfold b_X8_fact_0 at hf
  refine lv_aload_n hx hb dX8_fact_0 rfl (lv_at hl 0 rfl) ?_
  refine nb_get (ci := 8) hx hb hts iX8_fact_X8 hown hE hP 0 nbo_0 rfl 0 (by decide) qX8_fact_12 rfl rfl dX8_fact_1 ?_
  refine nb_getN (ci := 7) hx hb hts iX8_fact_X7 hown hE hP 1 nbo_1 rfl 0 (by decide) (host := RX8) (by decide +kernel) rfl rfl dX8_fact_4 ?_
  refine lv_bipush (v := 8) hx hb dX8_fact_7 (by decide) ?_
  refine lv_icmp_lt (tgt := 18) hx hb dX8_fact_9 (by decide) (fun hc => ?_) (fun hc => ?_)
  · replace hf := nIf_t hc hf
    refine lv_aload_n hx hb dX8_fact_18 rfl (lv_at hl 0 rfl) ?_
    refine nb_get (ci := 8) hx hb hts iX8_fact_X8 hown hE hP 0 nbo_0 rfl 0 (by decide) qX8_fact_12 rfl rfl dX8_fact_19 ?_
    refine lv_dup hx hb dX8_fact_22 rfl ?_
    refine nb_getN (ci := 7) hx hb hts iX8_fact_X7 hown hE hP 1 nbo_1 rfl 0 (by decide) (host := RX8) (by decide +kernel) rfl rfl dX8_fact_23 ?_
    refine lv_iconst (v := 1) hx hb dX8_fact_26 (by decide) ?_
    refine lv_iadd hx hb dX8_fact_27 ?_
    refine lv_topi (fun v1 ev1 => ?_)
    replace hf := nLet_e hf ev1
    refine nb_putN (ci := 7) hx hb hts iX8_fact_X7 tyX7 tyX7_ok nmX7 hown hE hP hS 1 nbo_1 rfl 0 (by decide) (host := RX8) (by decide +kernel) rfl rfl rfl rfl (Nat.le_of_ble_eq_true rfl) dX8_fact_28 (nbp_1_0 _) (fun σ2 eσ2 H locs hP hS => ?_)
    replace hf := nLet_e hf eσ2
    refine lv_aload_n hx hb dX8_fact_31 rfl (lv_at hl 0 rfl) ?_
    refine lv_aload_n hx hb dX8_fact_32 rfl (lv_at hl 0 rfl) ?_
    refine nb_get (ci := 8) hx hb hts iX8_fact_X8 hown hE hP 0 nbo_0 rfl 0 (by decide) qX8_fact_12 rfl rfl dX8_fact_33 ?_
    refine nb_getN (ci := 7) hx hb hts iX8_fact_X7 hown hE hP 1 nbo_1 rfl 0 (by decide) (host := RX8) (by decide +kernel) rfl rfl dX8_fact_36 ?_
    refine lv_iconst (v := 1) hx hb dX8_fact_39 (by decide) ?_
    refine lv_isub hx hb dX8_fact_40 ?_
    refine lv_topi (fun v3 ev3 => ?_)
    replace hf := nLet_e hf ev3
    obtain ⟨r4, σ5, hc5, hf⟩ := nBd_e hf
    refine nb_callVi (As := [.int v3]) (rest := []) ⟨hx, hb, hml, hown, hts⟩ (c_X8_accept (D := D) (A := A) (cy := cy) (a := a) (kt := kt) (vt := vt) (l := l)  hc5) (cwV 1 hts gX8_fact_X8_accept rfl rfl rfl (by decide +kernel) ⟨Nat.le_of_ble_eq_true rfl, Nat.le_of_ble_eq_true rfl⟩) hE hP hS nbo_0 rfl rfl hl.1 rfl (Nat.le_of_ble_eq_true rfl) dX8_fact_41 (fun H locs hP hS => ?_)
    exact nb_iret hx hb hr hlocks hP hS (nSo hf) dX8_fact_44
  · replace hf := nIf_f hc hf
    refine lv_aload_n hx hb dX8_fact_12 rfl (lv_at hl 0 rfl) ?_
    refine lv_iconst (v := 3) hx hb dX8_fact_13 (by decide) ?_
    obtain ⟨r6, σ7, hc7, hf⟩ := nBd_e hf
    refine nb_callVi (As := [.int 3]) (rest := []) ⟨hx, hb, hml, hown, hts⟩ (c_X8_refuse (D := D) (A := A) (cy := cy) (a := a) (kt := kt) (vt := vt) (l := l)  hc7) (cwV 1 hts gX8_fact_X8_refuse rfl rfl rfl (by decide +kernel) ⟨Nat.le_of_ble_eq_true rfl, Nat.le_of_ble_eq_true rfl⟩) hE hP hS nbo_0 rfl rfl hl.1 rfl (Nat.le_of_ble_eq_true rfl) dX8_fact_14 (fun H locs hP hS => ?_)
    exact nb_iret hx hb hr hlocks hP hS (nSo hf) dX8_fact_17
def l_X8_fact_0 (N : Nat) : nS → Option (Int32 × nS) := b_X8_fact_0 N
theorem kl_X8_fact_0 {p : Program} {l : Launch} {e : Env} {s : State} {m : MethodId} {args : Array Value} {below : List Frame} {meth : Method} {c : Code} {D : va_G} {A : Nat → Prop} {cy : Nat → ClassId} {a kt vt : Nat → Nat} {N : Nat}   (C0 : nCx p s m args meth c cX8_fact 1 (some .int) RX8 wsX8_fact) (hE : nEn D A cy (NBw cy a) kt vt s) {z : Int32 × nS} : ∀ (σ : nS) (H : Heap) (locs : List Loc) (ls : Array Slot), lv_has ls 1 [(0, .ref (a 0))] → va_P D vwCl ((NBw cy a) σ) H → va_S A s.heap H locs → l_X8_fact_0 N σ = some z → W p l e ({ frames := 1, cells := 0, slots := 0, locals := 21 } : Room) s m args below meth c H locs 0 0 (nQi below D A (NBw cy a) args s z) (F0 m 0 ls []) := by
  exact kb_X8_fact_0 (N := N)  C0 hE
def f_X8_fact (N : Nat) (σ : nS) : Option (Int32 × nS) := l_X8_fact_0 N σ
set_option maxHeartbeats 4000000 in
set_option maxRecDepth 100000 in
theorem c_X8_fact {l : Launch} {D : va_G} {A : Nat → Prop} {cy : Nat → ClassId} {a kt vt : Nat → Nat} {N : Nat}   {σ : nS} {r : Int32} {σ' : nS} (hf : f_X8_fact N σ = some (r, σ')) : nMi l yX8_fact wsX8_fact ({ frames := 1, cells := 0, slots := 0, locals := 21 } : Room) D A cy (NBw cy a) kt vt [.ref (a 0)] σ r σ' := by
  refine Met.ofW (cc := cX8_fact) (maxL := 1) (ret := (some .int)) (by decide) rfl ?_
  intro p e s m args below meth c s₁ B hml hv
  obtain ⟨rfl, hP, hE⟩ := hv
  have hl := lv_entry ([.ref (a 0)]) (n := 1) (Nat.le_of_ble_eq_true rfl)
  rw [lg_entry_eq]
  generalize (lg_sl ([.ref (a 0)]) ++ List.replicate (1 - (lg_sl ([.ref (a 0)])).length) Slot.unset).toArray = ls at hl ⊢
  have C0 : nCx p s m _ meth c cX8_fact 1 (some .int) RX8 wsX8_fact := ⟨B.exec, B.bytes, B.returns, hml, findClass_of_methodNamed B.named, atoms_spec (ws := wsX8_fact) B.pre, B.notSynchronized⟩
  exact kl_X8_fact_0 (N := N)  C0 hE (z := (r, σ')) σ  _ _ ls hl hP va_S.rf hf

/-! X8_sign -/
set_option maxRecDepth 20000 in
theorem iX8_sign_X8 : ∀ w ∈ u_ws RX8 TX8 13, w ∈ wsX8_sign := fun _ h => List.mem_cons_of_mem _ (List.mem_append_left _ (List.mem_append_right _ h))
set_option maxRecDepth 20000 in
theorem qX8_sign_12 : Cond.fieldLink RX8 12 RX8 (TX8 0).2.1 (TX8 0).2.2.1 ∈ wsX8_sign := by decide +kernel
set_option maxRecDepth 20000 in
theorem iX8_sign_X7 : ∀ w ∈ u_ws RX7 TX7 9, w ∈ wsX8_sign := fun _ h => List.mem_cons_of_mem _ (List.mem_append_right _ h)
def b_X8_sign_0 (N : Nat) (σ : nS) (x1 : Int32) : Option (Int32 × nS) := (if x1 < 0 then nBd (f_X8_refuse N 1 σ) (fun r1 σ2 => some (r1, σ2)) else (if x1 < (σ.1 1 0) then (if (σ.1 1 1) < 0 then nBd (f_X8_refuse N 3 σ) (fun r3 σ4 => some (r3, σ4)) else nLet (Int32.ofNat 8) (fun v5 => (if (σ.1 1 1) < v5 then nIx (σ.1 1 1) 8 (nLet (wr σ 2 ((σ.1 1 1)).toNatClampNeg x1) (fun σ6 => nLet ((σ6.1 1 1) + (1 : Int32) : Int32) (fun v7 => nLet (wr σ6 1 1 v7) (fun σ8 => nBd (f_X8_accept N (σ.1 1 1) σ8) (fun r9 σ10 => some (r9, σ10)))))) else nBd (f_X8_refuse N 3 σ) (fun r11 σ12 => some (r11, σ12))))) else nBd (f_X8_refuse N 1 σ) (fun r13 σ14 => some (r13, σ14))))
set_option maxHeartbeats 4000000 in
set_option maxRecDepth 100000 in
theorem kb_X8_sign_0 {p : Program} {l : Launch} {e : Env} {s : State} {m : MethodId} {args : Array Value} {below : List Frame} {meth : Method} {c : Code} {D : va_G} {A : Nat → Prop} {cy : Nat → ClassId} {a kt vt : Nat → Nat} {N : Nat}   (C0 : nCx p s m args meth c cX8_sign 3 (some .int) RX8 wsX8_sign) (hE : nEn D A cy (NBw cy a) kt vt s) {z : Int32 × nS} : ∀ (σ : nS) (x1 : Int32) (H : Heap) (locs : List Loc) (ls : Array Slot), lv_has ls 3 [(0, .ref (a 0)), (1, .int x1)] → va_P D vwCl ((NBw cy a) σ) H → va_S A s.heap H locs → b_X8_sign_0 N σ x1 = some z → W p l e ({ frames := 1, cells := 0, slots := 0, locals := 21 } : Room) s m args below meth c H locs 0 0 (nQi below D A (NBw cy a) args s z) (F0 m 0 ls []) := by
  obtain ⟨hx, hb, hr, hml, hown, hts, hlocks⟩ := C0
  intro σ x1 H locs ls hl hP hS hf
  unfold b_X8_sign_0 at hf
  refine lv_iload_n hx hb dX8_sign_0 rfl (lv_at hl 1 rfl) ?_
  refine lv_if_lt (tgt := 15) hx hb dX8_sign_1 (by decide) (fun hc => ?_) (fun hc => ?_)
  · replace hf := nIf_t hc hf
    refine lv_aload_n hx hb dX8_sign_15 rfl (lv_at hl 0 rfl) ?_
    refine lv_iconst (v := 1) hx hb dX8_sign_16 (by decide) ?_
    obtain ⟨r1, σ2, hc2, hf⟩ := nBd_e hf
    refine nb_callVi (As := [.int 1]) (rest := []) ⟨hx, hb, hml, hown, hts⟩ (c_X8_refuse (D := D) (A := A) (cy := cy) (a := a) (kt := kt) (vt := vt) (l := l)  hc2) (cwV 1 hts gX8_sign_X8_refuse rfl rfl rfl (by decide +kernel) ⟨Nat.le_of_ble_eq_true rfl, Nat.le_of_ble_eq_true rfl⟩) hE hP hS nbo_0 rfl rfl hl.1 rfl (Nat.le_of_ble_eq_true rfl) dX8_sign_17 (fun H locs hP hS => ?_)
    exact nb_iret hx hb hr hlocks hP hS (nSo hf) dX8_sign_20
  · replace hf := nIf_f hc hf
    refine lv_iload_n hx hb dX8_sign_4 rfl (lv_at hl 1 rfl) ?_
    refine lv_aload_n hx hb dX8_sign_5 rfl (lv_at hl 0 rfl) ?_
    refine nb_get (ci := 8) hx hb hts iX8_sign_X8 hown hE hP 0 nbo_0 rfl 0 (by decide) qX8_sign_12 rfl rfl dX8_sign_6 ?_
    refine nb_getN (ci := 7) hx hb hts iX8_sign_X7 hown hE hP 1 nbo_1 rfl 0 (by decide) (host := RX8) (by decide +kernel) rfl rfl dX8_sign_9 ?_
    refine lv_icmp_lt (tgt := 21) hx hb dX8_sign_12 (by decide) (fun hc => ?_) (fun hc => ?_)
    · replace hf := nIf_t hc hf
      refine lv_aload_n hx hb dX8_sign_21 rfl (lv_at hl 0 rfl) ?_
      refine nb_get (ci := 8) hx hb hts iX8_sign_X8 hown hE hP 0 nbo_0 rfl 0 (by decide) qX8_sign_12 rfl rfl dX8_sign_22 ?_
      refine nb_getN (ci := 7) hx hb hts iX8_sign_X7 hown hE hP 1 nbo_1 rfl 1 (by decide) (host := RX8) (by decide +kernel) rfl rfl dX8_sign_25 ?_
      refine lv_istore_n (lv' := [(2, .int (σ.1 1 1)), (0, .ref (a 0)), (1, .int x1)]) hx hb dX8_sign_28 rfl hl (by decide) rfl (fun ls hl => ?_)
      refine lv_iload_n hx hb dX8_sign_29 rfl (lv_at hl 0 rfl) ?_
      refine lv_if_lt (tgt := 45) hx hb dX8_sign_30 (by decide) (fun hc => ?_) (fun hc => ?_)
      · replace hf := nIf_t hc hf
        refine lv_aload_n hx hb dX8_sign_45 rfl (lv_at hl 1 rfl) ?_
        refine lv_iconst (v := 3) hx hb dX8_sign_46 (by decide) ?_
        obtain ⟨r3, σ4, hc4, hf⟩ := nBd_e hf
        refine nb_callVi (As := [.int 3]) (rest := []) ⟨hx, hb, hml, hown, hts⟩ (c_X8_refuse (D := D) (A := A) (cy := cy) (a := a) (kt := kt) (vt := vt) (l := l)  hc4) (cwV 1 hts gX8_sign_X8_refuse rfl rfl rfl (by decide +kernel) ⟨Nat.le_of_ble_eq_true rfl, Nat.le_of_ble_eq_true rfl⟩) hE hP hS nbo_0 rfl rfl hl.1 rfl (Nat.le_of_ble_eq_true rfl) dX8_sign_47 (fun H locs hP hS => ?_)
        exact nb_iret hx hb hr hlocks hP hS (nSo hf) dX8_sign_50
      · replace hf := nIf_f hc hf
        refine lv_iload_n hx hb dX8_sign_33 rfl (lv_at hl 0 rfl) ?_
        refine lv_aload_n hx hb dX8_sign_34 rfl (lv_at hl 1 rfl) ?_
        refine nb_get (ci := 8) hx hb hts iX8_sign_X8 hown hE hP 0 nbo_0 rfl 0 (by decide) qX8_sign_12 rfl rfl dX8_sign_35 ?_
        refine nb_getN (ci := 7) hx hb hts iX8_sign_X7 hown hE hP 1 nbo_1 rfl 5 (by decide) (host := RX8) (by decide +kernel) rfl rfl dX8_sign_38 ?_
        refine na_alen hx hb hE hP nbr_2 dX8_sign_41 ?_
        refine lv_topi (fun v5 ev5 => ?_)
        replace hf := nLet_e hf ev5
        refine lv_icmp_lt (tgt := 51) hx hb dX8_sign_42 (by decide) (fun hc => ?_) (fun hc => ?_)
        · replace hf := nIf_t hc hf
          refine lv_aload_n hx hb dX8_sign_51 rfl (lv_at hl 1 rfl) ?_
          refine nb_get (ci := 8) hx hb hts iX8_sign_X8 hown hE hP 0 nbo_0 rfl 0 (by decide) qX8_sign_12 rfl rfl dX8_sign_52 ?_
          refine nb_getN (ci := 7) hx hb hts iX8_sign_X7 hown hE hP 1 nbo_1 rfl 5 (by decide) (host := RX8) (by decide +kernel) rfl rfl dX8_sign_55 ?_
          refine lv_iload_n hx hb dX8_sign_58 rfl (lv_at hl 0 rfl) ?_
          refine lv_iload_n hx hb dX8_sign_59 rfl (lv_at hl 2 rfl) ?_
          obtain ⟨hin, hf⟩ := nIx_e hf
          refine na_iast hx hb hE hP hS nbr_2 hin dX8_sign_60 (fun σ6 eσ6 H locs hP hS => ?_)
          replace hf := nLet_e hf eσ6
          refine lv_aload_n hx hb dX8_sign_61 rfl (lv_at hl 1 rfl) ?_
          refine nb_get (ci := 8) hx hb hts iX8_sign_X8 hown hE hP 0 nbo_0 rfl 0 (by decide) qX8_sign_12 rfl rfl dX8_sign_62 ?_
          refine lv_dup hx hb dX8_sign_65 rfl ?_
          refine nb_getN (ci := 7) hx hb hts iX8_sign_X7 hown hE hP 1 nbo_1 rfl 1 (by decide) (host := RX8) (by decide +kernel) rfl rfl dX8_sign_66 ?_
          refine lv_iconst (v := 1) hx hb dX8_sign_69 (by decide) ?_
          refine lv_iadd hx hb dX8_sign_70 ?_
          refine lv_topi (fun v7 ev7 => ?_)
          replace hf := nLet_e hf ev7
          refine nb_putN (ci := 7) hx hb hts iX8_sign_X7 tyX7 tyX7_ok nmX7 hown hE hP hS 1 nbo_1 rfl 1 (by decide) (host := RX8) (by decide +kernel) rfl rfl rfl rfl (Nat.le_of_ble_eq_true rfl) dX8_sign_71 (nbp_1_1 _) (fun σ8 eσ8 H locs hP hS => ?_)
          replace hf := nLet_e hf eσ8
          refine lv_aload_n hx hb dX8_sign_74 rfl (lv_at hl 1 rfl) ?_
          refine lv_iload_n hx hb dX8_sign_75 rfl (lv_at hl 0 rfl) ?_
          obtain ⟨r9, σ10, hc10, hf⟩ := nBd_e hf
          refine nb_callVi (As := [.int (σ.1 1 1)]) (rest := []) ⟨hx, hb, hml, hown, hts⟩ (c_X8_accept (D := D) (A := A) (cy := cy) (a := a) (kt := kt) (vt := vt) (l := l)  hc10) (cwV 1 hts gX8_sign_X8_accept rfl rfl rfl (by decide +kernel) ⟨Nat.le_of_ble_eq_true rfl, Nat.le_of_ble_eq_true rfl⟩) hE hP hS nbo_0 rfl rfl hl.1 rfl (Nat.le_of_ble_eq_true rfl) dX8_sign_76 (fun H locs hP hS => ?_)
          exact nb_iret hx hb hr hlocks hP hS (nSo hf) dX8_sign_79
        · replace hf := nIf_f hc hf
          refine lv_aload_n hx hb dX8_sign_45 rfl (lv_at hl 1 rfl) ?_
          refine lv_iconst (v := 3) hx hb dX8_sign_46 (by decide) ?_
          obtain ⟨r11, σ12, hc12, hf⟩ := nBd_e hf
          refine nb_callVi (As := [.int 3]) (rest := []) ⟨hx, hb, hml, hown, hts⟩ (c_X8_refuse (D := D) (A := A) (cy := cy) (a := a) (kt := kt) (vt := vt) (l := l)  hc12) (cwV 1 hts gX8_sign_X8_refuse rfl rfl rfl (by decide +kernel) ⟨Nat.le_of_ble_eq_true rfl, Nat.le_of_ble_eq_true rfl⟩) hE hP hS nbo_0 rfl rfl hl.1 rfl (Nat.le_of_ble_eq_true rfl) dX8_sign_47 (fun H locs hP hS => ?_)
          exact nb_iret hx hb hr hlocks hP hS (nSo hf) dX8_sign_50
    · replace hf := nIf_f hc hf
      refine lv_aload_n hx hb dX8_sign_15 rfl (lv_at hl 0 rfl) ?_
      refine lv_iconst (v := 1) hx hb dX8_sign_16 (by decide) ?_
      obtain ⟨r13, σ14, hc14, hf⟩ := nBd_e hf
      refine nb_callVi (As := [.int 1]) (rest := []) ⟨hx, hb, hml, hown, hts⟩ (c_X8_refuse (D := D) (A := A) (cy := cy) (a := a) (kt := kt) (vt := vt) (l := l)  hc14) (cwV 1 hts gX8_sign_X8_refuse rfl rfl rfl (by decide +kernel) ⟨Nat.le_of_ble_eq_true rfl, Nat.le_of_ble_eq_true rfl⟩) hE hP hS nbo_0 rfl rfl hl.1 rfl (Nat.le_of_ble_eq_true rfl) dX8_sign_17 (fun H locs hP hS => ?_)
      exact nb_iret hx hb hr hlocks hP hS (nSo hf) dX8_sign_20
def l_X8_sign_0 (N : Nat) : nS → Int32 → Option (Int32 × nS) := b_X8_sign_0 N
theorem kl_X8_sign_0 {p : Program} {l : Launch} {e : Env} {s : State} {m : MethodId} {args : Array Value} {below : List Frame} {meth : Method} {c : Code} {D : va_G} {A : Nat → Prop} {cy : Nat → ClassId} {a kt vt : Nat → Nat} {N : Nat}   (C0 : nCx p s m args meth c cX8_sign 3 (some .int) RX8 wsX8_sign) (hE : nEn D A cy (NBw cy a) kt vt s) {z : Int32 × nS} : ∀ (σ : nS) (x1 : Int32) (H : Heap) (locs : List Loc) (ls : Array Slot), lv_has ls 3 [(0, .ref (a 0)), (1, .int x1)] → va_P D vwCl ((NBw cy a) σ) H → va_S A s.heap H locs → l_X8_sign_0 N σ x1 = some z → W p l e ({ frames := 1, cells := 0, slots := 0, locals := 21 } : Room) s m args below meth c H locs 0 0 (nQi below D A (NBw cy a) args s z) (F0 m 0 ls []) := by
  exact kb_X8_sign_0 (N := N)  C0 hE
def f_X8_sign (N : Nat) (x1 : Int32) (σ : nS) : Option (Int32 × nS) := l_X8_sign_0 N σ x1
set_option maxHeartbeats 4000000 in
set_option maxRecDepth 100000 in
theorem c_X8_sign {l : Launch} {D : va_G} {A : Nat → Prop} {cy : Nat → ClassId} {a kt vt : Nat → Nat} {N : Nat}   {x1 : Int32} {σ : nS} {r : Int32} {σ' : nS} (hf : f_X8_sign N x1 σ = some (r, σ')) : nMi l yX8_sign wsX8_sign ({ frames := 1, cells := 0, slots := 0, locals := 21 } : Room) D A cy (NBw cy a) kt vt [.ref (a 0), .int x1] σ r σ' := by
  refine Met.ofW (cc := cX8_sign) (maxL := 3) (ret := (some .int)) (by decide) rfl ?_
  intro p e s m args below meth c s₁ B hml hv
  obtain ⟨rfl, hP, hE⟩ := hv
  have hl := lv_entry ([.ref (a 0), .int x1]) (n := 3) (Nat.le_of_ble_eq_true rfl)
  rw [lg_entry_eq]
  generalize (lg_sl ([.ref (a 0), .int x1]) ++ List.replicate (3 - (lg_sl ([.ref (a 0), .int x1])).length) Slot.unset).toArray = ls at hl ⊢
  have C0 : nCx p s m _ meth c cX8_sign 3 (some .int) RX8 wsX8_sign := ⟨B.exec, B.bytes, B.returns, hml, findClass_of_methodNamed B.named, atoms_spec (ws := wsX8_sign) B.pre, B.notSynchronized⟩
  exact kl_X8_sign_0 (N := N)  C0 hE (z := (r, σ')) σ x1 _ _ ls hl hP va_S.rf hf

/-! X8_person -/
set_option maxRecDepth 20000 in
theorem iX8_person_X8 : ∀ w ∈ u_ws RX8 TX8 13, w ∈ wsX8_person := fun _ h => List.mem_cons_of_mem _ (List.mem_append_left _ (List.mem_append_right _ h))
set_option maxRecDepth 20000 in
theorem qX8_person_12 : Cond.fieldLink RX8 12 RX8 (TX8 0).2.1 (TX8 0).2.2.1 ∈ wsX8_person := by decide +kernel
set_option maxRecDepth 20000 in
theorem iX8_person_X7 : ∀ w ∈ u_ws RX7 TX7 9, w ∈ wsX8_person := fun _ h => List.mem_cons_of_mem _ (List.mem_append_right _ h)
def b_X8_person_0 (N : Nat) (σ : nS) (x1 : Int32) : Option (Int32 × nS) := nBd (f_X8_areBits N x1 σ) (fun r1 σ2 => (if r1 = 0 then nBd (f_X8_refuse N 2 σ2) (fun r11 σ12 => some (r11, σ12)) else (if (σ2.1 1 2) < 4 then nBd (f_X7_setSkills N (σ2.1 1 2) x1 σ2) (fun r3 σ4 => nLet ((σ4.1 1 2) + (1 : Int32) : Int32) (fun v5 => nLet (wr σ4 1 2 v5) (fun σ6 => nBd (f_X8_accept N (σ2.1 1 2) σ6) (fun r7 σ8 => some (r7, σ8))))) else nBd (f_X8_refuse N 3 σ2) (fun r9 σ10 => some (r9, σ10)))))
set_option maxHeartbeats 4000000 in
set_option maxRecDepth 100000 in
theorem kb_X8_person_0 {p : Program} {l : Launch} {e : Env} {s : State} {m : MethodId} {args : Array Value} {below : List Frame} {meth : Method} {c : Code} {D : va_G} {A : Nat → Prop} {cy : Nat → ClassId} {a kt vt : Nat → Nat} {N : Nat}   (C0 : nCx p s m args meth c cX8_person 3 (some .int) RX8 wsX8_person) (hE : nEn D A cy (NBw cy a) kt vt s) {z : Int32 × nS} : ∀ (σ : nS) (x1 : Int32) (H : Heap) (locs : List Loc) (ls : Array Slot), lv_has ls 3 [(0, .ref (a 0)), (1, .int x1)] → va_P D vwCl ((NBw cy a) σ) H → va_S A s.heap H locs → b_X8_person_0 N σ x1 = some z → W p l e ({ frames := 1, cells := 0, slots := 0, locals := 22 } : Room) s m args below meth c H locs 0 0 (nQi below D A (NBw cy a) args s z) (F0 m 0 ls []) := by
  obtain ⟨hx, hb, hr, hml, hown, hts, hlocks⟩ := C0
  intro σ x1 H locs ls hl hP hS hf
  unfold b_X8_person_0 at hf
  refine lv_iload_n hx hb dX8_person_0 rfl (lv_at hl 1 rfl) ?_
  obtain ⟨r1, σ2, hc2, hf⟩ := nBd_e hf
  refine nb_callSi (As := [.int x1]) (rest := []) ⟨hx, hb, hml, hown, hts⟩ (c_X8_areBits (D := D) (A := A) (cy := cy) (a := a) (kt := kt) (vt := vt) (l := l)  hc2) (va_cwS 1 hts gX8_person_X8_areBits rfl rfl rfl (by decide +kernel) ⟨Nat.le_of_ble_eq_true rfl, Nat.le_of_ble_eq_true rfl⟩) hE hP hS rfl hl.1 rfl (Nat.le_of_ble_eq_true rfl) dX8_person_1 (fun H locs hP hS => ?_)
  refine lv_if_ne (tgt := 13) hx hb dX8_person_4 (by decide) (fun hc => ?_) (fun hc => ?_)
  · replace hf := nIf_f hc hf
    refine lv_aload_n hx hb dX8_person_13 rfl (lv_at hl 0 rfl) ?_
    refine nb_get (ci := 8) hx hb hts iX8_person_X8 hown hE hP 0 nbo_0 rfl 0 (by decide) qX8_person_12 rfl rfl dX8_person_14 ?_
    refine nb_getN (ci := 7) hx hb hts iX8_person_X7 hown hE hP 1 nbo_1 rfl 2 (by decide) (host := RX8) (by decide +kernel) rfl rfl dX8_person_17 ?_
    refine lv_istore_n (lv' := [(2, .int (σ2.1 1 2)), (0, .ref (a 0)), (1, .int x1)]) hx hb dX8_person_20 rfl hl (by decide) rfl (fun ls hl => ?_)
    refine lv_iload_n hx hb dX8_person_21 rfl (lv_at hl 0 rfl) ?_
    refine lv_iconst (v := 4) hx hb dX8_person_22 (by decide) ?_
    refine lv_icmp_lt (tgt := 32) hx hb dX8_person_23 (by decide) (fun hc => ?_) (fun hc => ?_)
    · replace hf := nIf_t hc hf
      refine lv_aload_n hx hb dX8_person_32 rfl (lv_at hl 1 rfl) ?_
      refine nb_get (ci := 8) hx hb hts iX8_person_X8 hown hE hP 0 nbo_0 rfl 0 (by decide) qX8_person_12 rfl rfl dX8_person_33 ?_
      refine lv_iload_n hx hb dX8_person_36 rfl (lv_at hl 0 rfl) ?_
      refine lv_iload_n hx hb dX8_person_37 rfl (lv_at hl 2 rfl) ?_
      obtain ⟨r3, σ4, hc4, hf⟩ := nBd_e hf
      refine nb_callVv (As := [.int (σ2.1 1 2), .int x1]) (rest := []) ⟨hx, hb, hml, hown, hts⟩ (c_X7_setSkills (D := D) (A := A) (cy := cy) (a := a) (kt := kt) (vt := vt) (l := l)  hc4) (cwV 2 hts gX8_person_X7_setSkills rfl rfl rfl (by decide +kernel) ⟨Nat.le_of_ble_eq_true rfl, Nat.le_of_ble_eq_true rfl⟩) hE hP hS nbo_1 rfl rfl hl.1 rfl (Nat.le_of_ble_eq_true rfl) dX8_person_38 (fun H locs hP hS => ?_)
      refine lv_aload_n hx hb dX8_person_41 rfl (lv_at hl 1 rfl) ?_
      refine nb_get (ci := 8) hx hb hts iX8_person_X8 hown hE hP 0 nbo_0 rfl 0 (by decide) qX8_person_12 rfl rfl dX8_person_42 ?_
      refine lv_dup hx hb dX8_person_45 rfl ?_
      refine nb_getN (ci := 7) hx hb hts iX8_person_X7 hown hE hP 1 nbo_1 rfl 2 (by decide) (host := RX8) (by decide +kernel) rfl rfl dX8_person_46 ?_
      refine lv_iconst (v := 1) hx hb dX8_person_49 (by decide) ?_
      refine lv_iadd hx hb dX8_person_50 ?_
      refine lv_topi (fun v5 ev5 => ?_)
      replace hf := nLet_e hf ev5
      refine nb_putN (ci := 7) hx hb hts iX8_person_X7 tyX7 tyX7_ok nmX7 hown hE hP hS 1 nbo_1 rfl 2 (by decide) (host := RX8) (by decide +kernel) rfl rfl rfl rfl (Nat.le_of_ble_eq_true rfl) dX8_person_51 (nbp_1_2 _) (fun σ6 eσ6 H locs hP hS => ?_)
      replace hf := nLet_e hf eσ6
      refine lv_aload_n hx hb dX8_person_54 rfl (lv_at hl 1 rfl) ?_
      refine lv_iload_n hx hb dX8_person_55 rfl (lv_at hl 0 rfl) ?_
      obtain ⟨r7, σ8, hc8, hf⟩ := nBd_e hf
      refine nb_callVi (As := [.int (σ2.1 1 2)]) (rest := []) ⟨hx, hb, hml, hown, hts⟩ (c_X8_accept (D := D) (A := A) (cy := cy) (a := a) (kt := kt) (vt := vt) (l := l)  hc8) (cwV 1 hts gX8_person_X8_accept rfl rfl rfl (by decide +kernel) ⟨Nat.le_of_ble_eq_true rfl, Nat.le_of_ble_eq_true rfl⟩) hE hP hS nbo_0 rfl rfl hl.1 rfl (Nat.le_of_ble_eq_true rfl) dX8_person_56 (fun H locs hP hS => ?_)
      exact nb_iret hx hb hr hlocks hP hS (nSo hf) dX8_person_59
    · replace hf := nIf_f hc hf
      refine lv_aload_n hx hb dX8_person_26 rfl (lv_at hl 1 rfl) ?_
      refine lv_iconst (v := 3) hx hb dX8_person_27 (by decide) ?_
      obtain ⟨r9, σ10, hc10, hf⟩ := nBd_e hf
      refine nb_callVi (As := [.int 3]) (rest := []) ⟨hx, hb, hml, hown, hts⟩ (c_X8_refuse (D := D) (A := A) (cy := cy) (a := a) (kt := kt) (vt := vt) (l := l)  hc10) (cwV 1 hts gX8_person_X8_refuse rfl rfl rfl (by decide +kernel) ⟨Nat.le_of_ble_eq_true rfl, Nat.le_of_ble_eq_true rfl⟩) hE hP hS nbo_0 rfl rfl hl.1 rfl (Nat.le_of_ble_eq_true rfl) dX8_person_28 (fun H locs hP hS => ?_)
      exact nb_iret hx hb hr hlocks hP hS (nSo hf) dX8_person_31
  · replace hf := nIf_t hc hf
    refine lv_aload_n hx hb dX8_person_7 rfl (lv_at hl 0 rfl) ?_
    refine lv_iconst (v := 2) hx hb dX8_person_8 (by decide) ?_
    obtain ⟨r11, σ12, hc12, hf⟩ := nBd_e hf
    refine nb_callVi (As := [.int 2]) (rest := []) ⟨hx, hb, hml, hown, hts⟩ (c_X8_refuse (D := D) (A := A) (cy := cy) (a := a) (kt := kt) (vt := vt) (l := l)  hc12) (cwV 1 hts gX8_person_X8_refuse rfl rfl rfl (by decide +kernel) ⟨Nat.le_of_ble_eq_true rfl, Nat.le_of_ble_eq_true rfl⟩) hE hP hS nbo_0 rfl rfl hl.1 rfl (Nat.le_of_ble_eq_true rfl) dX8_person_9 (fun H locs hP hS => ?_)
    exact nb_iret hx hb hr hlocks hP hS (nSo hf) dX8_person_12
def l_X8_person_0 (N : Nat) : nS → Int32 → Option (Int32 × nS) := b_X8_person_0 N
theorem kl_X8_person_0 {p : Program} {l : Launch} {e : Env} {s : State} {m : MethodId} {args : Array Value} {below : List Frame} {meth : Method} {c : Code} {D : va_G} {A : Nat → Prop} {cy : Nat → ClassId} {a kt vt : Nat → Nat} {N : Nat}   (C0 : nCx p s m args meth c cX8_person 3 (some .int) RX8 wsX8_person) (hE : nEn D A cy (NBw cy a) kt vt s) {z : Int32 × nS} : ∀ (σ : nS) (x1 : Int32) (H : Heap) (locs : List Loc) (ls : Array Slot), lv_has ls 3 [(0, .ref (a 0)), (1, .int x1)] → va_P D vwCl ((NBw cy a) σ) H → va_S A s.heap H locs → l_X8_person_0 N σ x1 = some z → W p l e ({ frames := 1, cells := 0, slots := 0, locals := 22 } : Room) s m args below meth c H locs 0 0 (nQi below D A (NBw cy a) args s z) (F0 m 0 ls []) := by
  exact kb_X8_person_0 (N := N)  C0 hE
def f_X8_person (N : Nat) (x1 : Int32) (σ : nS) : Option (Int32 × nS) := l_X8_person_0 N σ x1
set_option maxHeartbeats 4000000 in
set_option maxRecDepth 100000 in
theorem c_X8_person {l : Launch} {D : va_G} {A : Nat → Prop} {cy : Nat → ClassId} {a kt vt : Nat → Nat} {N : Nat}   {x1 : Int32} {σ : nS} {r : Int32} {σ' : nS} (hf : f_X8_person N x1 σ = some (r, σ')) : nMi l yX8_person wsX8_person ({ frames := 1, cells := 0, slots := 0, locals := 22 } : Room) D A cy (NBw cy a) kt vt [.ref (a 0), .int x1] σ r σ' := by
  refine Met.ofW (cc := cX8_person) (maxL := 3) (ret := (some .int)) (by decide) rfl ?_
  intro p e s m args below meth c s₁ B hml hv
  obtain ⟨rfl, hP, hE⟩ := hv
  have hl := lv_entry ([.ref (a 0), .int x1]) (n := 3) (Nat.le_of_ble_eq_true rfl)
  rw [lg_entry_eq]
  generalize (lg_sl ([.ref (a 0), .int x1]) ++ List.replicate (3 - (lg_sl ([.ref (a 0), .int x1])).length) Slot.unset).toArray = ls at hl ⊢
  have C0 : nCx p s m _ meth c cX8_person 3 (some .int) RX8 wsX8_person := ⟨B.exec, B.bytes, B.returns, hml, findClass_of_methodNamed B.named, atoms_spec (ws := wsX8_person) B.pre, B.notSynchronized⟩
  exact kl_X8_person_0 (N := N)  C0 hE (z := (r, σ')) σ x1 _ _ ls hl hP va_S.rf hf

/-! X8_goal -/
set_option maxRecDepth 20000 in
theorem iX8_goal_X8 : ∀ w ∈ u_ws RX8 TX8 13, w ∈ wsX8_goal := fun _ h => List.mem_cons_of_mem _ (List.mem_append_left _ (List.mem_append_right _ h))
set_option maxRecDepth 20000 in
theorem qX8_goal_12 : Cond.fieldLink RX8 12 RX8 (TX8 0).2.1 (TX8 0).2.2.1 ∈ wsX8_goal := by decide +kernel
set_option maxRecDepth 20000 in
theorem iX8_goal_X7 : ∀ w ∈ u_ws RX7 TX7 9, w ∈ wsX8_goal := fun _ h => List.mem_cons_of_mem _ (List.mem_append_right _ h)
set_option maxRecDepth 20000 in
theorem qX8_goal_80 : Cond.fieldLink RX8 80 RX8 (TX8 12).2.1 (TX8 12).2.2.1 ∈ wsX8_goal := by decide +kernel
def b_X8_goal_0 (N : Nat) (σ : nS) (x1 : Int32) : Option (Int32 × nS) := nBd (f_X8_areBits N x1 σ) (fun r1 σ2 => (if r1 = 0 then nLet (wr σ2 0 12 2) (fun σ5 => some (0, σ5)) else nLet (wr σ2 1 4 x1) (fun σ3 => nLet (wr σ3 0 12 0) (fun σ4 => some (1, σ4)))))
set_option maxHeartbeats 4000000 in
set_option maxRecDepth 100000 in
theorem kb_X8_goal_0 {p : Program} {l : Launch} {e : Env} {s : State} {m : MethodId} {args : Array Value} {below : List Frame} {meth : Method} {c : Code} {D : va_G} {A : Nat → Prop} {cy : Nat → ClassId} {a kt vt : Nat → Nat} {N : Nat}   (C0 : nCx p s m args meth c cX8_goal 2 (some .boolean) RX8 wsX8_goal) (hE : nEn D A cy (NBw cy a) kt vt s) {z : Int32 × nS} : ∀ (σ : nS) (x1 : Int32) (H : Heap) (locs : List Loc) (ls : Array Slot), lv_has ls 2 [(0, .ref (a 0)), (1, .int x1)] → va_P D vwCl ((NBw cy a) σ) H → va_S A s.heap H locs → b_X8_goal_0 N σ x1 = some z → W p l e ({ frames := 1, cells := 0, slots := 0, locals := 20 } : Room) s m args below meth c H locs 0 0 (nQi below D A (NBw cy a) args s z) (F0 m 0 ls []) := by
  obtain ⟨hx, hb, hr, hml, hown, hts, hlocks⟩ := C0
  intro σ x1 H locs ls hl hP hS hf
  unfold b_X8_goal_0 at hf
  refine lv_iload_n hx hb dX8_goal_0 rfl (lv_at hl 1 rfl) ?_
  obtain ⟨r1, σ2, hc2, hf⟩ := nBd_e hf
  refine nb_callSi (As := [.int x1]) (rest := []) ⟨hx, hb, hml, hown, hts⟩ (c_X8_areBits (D := D) (A := A) (cy := cy) (a := a) (kt := kt) (vt := vt) (l := l)  hc2) (va_cwS 1 hts gX8_goal_X8_areBits rfl rfl rfl (by decide +kernel) ⟨Nat.le_of_ble_eq_true rfl, Nat.le_of_ble_eq_true rfl⟩) hE hP hS rfl hl.1 rfl (Nat.le_of_ble_eq_true rfl) dX8_goal_1 (fun H locs hP hS => ?_)
  refine lv_if_ne (tgt := 14) hx hb dX8_goal_4 (by decide) (fun hc => ?_) (fun hc => ?_)
  · replace hf := nIf_f hc hf
    refine lv_aload_n hx hb dX8_goal_14 rfl (lv_at hl 0 rfl) ?_
    refine nb_get (ci := 8) hx hb hts iX8_goal_X8 hown hE hP 0 nbo_0 rfl 0 (by decide) qX8_goal_12 rfl rfl dX8_goal_15 ?_
    refine lv_iload_n hx hb dX8_goal_18 rfl (lv_at hl 1 rfl) ?_
    refine nb_putN (ci := 7) hx hb hts iX8_goal_X7 tyX7 tyX7_ok nmX7 hown hE hP hS 1 nbo_1 rfl 4 (by decide) (host := RX8) (by decide +kernel) rfl rfl rfl rfl (Nat.le_of_ble_eq_true rfl) dX8_goal_19 (nbp_1_4 _) (fun σ3 eσ3 H locs hP hS => ?_)
    replace hf := nLet_e hf eσ3
    refine lv_aload_n hx hb dX8_goal_22 rfl (lv_at hl 0 rfl) ?_
    refine lv_iconst (v := 0) hx hb dX8_goal_23 (by decide) ?_
    refine nb_put (ci := 8) hx hb hts iX8_goal_X8 tyX8 tyX8_ok nmX8 hown hE hP hS 0 nbo_0 rfl 12 (by decide) qX8_goal_80 rfl rfl rfl rfl (Nat.le_of_ble_eq_true rfl) dX8_goal_24 (nbp_0_12 _) (fun σ4 eσ4 H locs hP hS => ?_)
    replace hf := nLet_e hf eσ4
    refine lv_iconst (v := 1) hx hb dX8_goal_27 (by decide) ?_
    exact nb_zret hx hb hr hlocks hP hS (nSo hf) rfl dX8_goal_28
  · replace hf := nIf_t hc hf
    refine lv_aload_n hx hb dX8_goal_7 rfl (lv_at hl 0 rfl) ?_
    refine lv_iconst (v := 2) hx hb dX8_goal_8 (by decide) ?_
    refine nb_put (ci := 8) hx hb hts iX8_goal_X8 tyX8 tyX8_ok nmX8 hown hE hP hS 0 nbo_0 rfl 12 (by decide) qX8_goal_80 rfl rfl rfl rfl (Nat.le_of_ble_eq_true rfl) dX8_goal_9 (nbp_0_12 _) (fun σ5 eσ5 H locs hP hS => ?_)
    replace hf := nLet_e hf eσ5
    refine lv_iconst (v := 0) hx hb dX8_goal_12 (by decide) ?_
    exact nb_zret hx hb hr hlocks hP hS (nSo hf) rfl dX8_goal_13
def l_X8_goal_0 (N : Nat) : nS → Int32 → Option (Int32 × nS) := b_X8_goal_0 N
theorem kl_X8_goal_0 {p : Program} {l : Launch} {e : Env} {s : State} {m : MethodId} {args : Array Value} {below : List Frame} {meth : Method} {c : Code} {D : va_G} {A : Nat → Prop} {cy : Nat → ClassId} {a kt vt : Nat → Nat} {N : Nat}   (C0 : nCx p s m args meth c cX8_goal 2 (some .boolean) RX8 wsX8_goal) (hE : nEn D A cy (NBw cy a) kt vt s) {z : Int32 × nS} : ∀ (σ : nS) (x1 : Int32) (H : Heap) (locs : List Loc) (ls : Array Slot), lv_has ls 2 [(0, .ref (a 0)), (1, .int x1)] → va_P D vwCl ((NBw cy a) σ) H → va_S A s.heap H locs → l_X8_goal_0 N σ x1 = some z → W p l e ({ frames := 1, cells := 0, slots := 0, locals := 20 } : Room) s m args below meth c H locs 0 0 (nQi below D A (NBw cy a) args s z) (F0 m 0 ls []) := by
  exact kb_X8_goal_0 (N := N)  C0 hE
def f_X8_goal (N : Nat) (x1 : Int32) (σ : nS) : Option (Int32 × nS) := l_X8_goal_0 N σ x1
set_option maxHeartbeats 4000000 in
set_option maxRecDepth 100000 in
theorem c_X8_goal {l : Launch} {D : va_G} {A : Nat → Prop} {cy : Nat → ClassId} {a kt vt : Nat → Nat} {N : Nat}   {x1 : Int32} {σ : nS} {r : Int32} {σ' : nS} (hf : f_X8_goal N x1 σ = some (r, σ')) : nMi l yX8_goal wsX8_goal ({ frames := 1, cells := 0, slots := 0, locals := 20 } : Room) D A cy (NBw cy a) kt vt [.ref (a 0), .int x1] σ r σ' := by
  refine Met.ofW (cc := cX8_goal) (maxL := 2) (ret := (some .boolean)) (by decide) rfl ?_
  intro p e s m args below meth c s₁ B hml hv
  obtain ⟨rfl, hP, hE⟩ := hv
  have hl := lv_entry ([.ref (a 0), .int x1]) (n := 2) (Nat.le_of_ble_eq_true rfl)
  rw [lg_entry_eq]
  generalize (lg_sl ([.ref (a 0), .int x1]) ++ List.replicate (2 - (lg_sl ([.ref (a 0), .int x1])).length) Slot.unset).toArray = ls at hl ⊢
  have C0 : nCx p s m _ meth c cX8_goal 2 (some .boolean) RX8 wsX8_goal := ⟨B.exec, B.bytes, B.returns, hml, findClass_of_methodNamed B.named, atoms_spec (ws := wsX8_goal) B.pre, B.notSynchronized⟩
  exact kl_X8_goal_0 (N := N)  C0 hE (z := (r, σ')) σ x1 _ _ ls hl hP va_S.rf hf

/-! X8_feed -/
set_option maxRecDepth 20000 in
theorem iX8_feed_X8 : ∀ w ∈ u_ws RX8 TX8 13, w ∈ wsX8_feed := fun _ h => List.mem_cons_of_mem _ (List.mem_append_left _ (List.mem_append_right _ h))
set_option maxRecDepth 20000 in
theorem qX8_feed_19 : Cond.fieldLink RX8 19 RX8 (TX8 1).2.1 (TX8 1).2.2.1 ∈ wsX8_feed := by decide +kernel
set_option maxRecDepth 20000 in
theorem iX8_feed_X4 : ∀ w ∈ u_ws RX4 TX4 14, w ∈ wsX8_feed := fun _ h => List.mem_cons_of_mem _ (List.mem_append_right _ h)
def b_X8_feed_0 (N : Nat) (σ : nS) (x1 : Int32) (x2 : Int32) (x3 : Int32) (x4 : Int32) (x5 : Int32) : Option (Int32 × nS) := nBd (f_X4_hasRoomFor N 20 σ) (fun r1 σ2 => (if r1 = 0 then some ((-1), σ2) else nBd (f_X4_put N x1 σ2) (fun r3 σ4 => nBd (f_X4_put N x2 σ4) (fun r5 σ6 => nBd (f_X4_put N x3 σ6) (fun r7 σ8 => nBd (f_X4_put N x4 σ8) (fun r9 σ10 => nBd (f_X4_put N x5 σ10) (fun r11 σ12 => some ((σ12.1 6 1), σ12))))))))
set_option maxHeartbeats 4000000 in
set_option maxRecDepth 100000 in
theorem kb_X8_feed_0 {p : Program} {l : Launch} {e : Env} {s : State} {m : MethodId} {args : Array Value} {below : List Frame} {meth : Method} {c : Code} {D : va_G} {A : Nat → Prop} {cy : Nat → ClassId} {a kt vt : Nat → Nat} {N : Nat}   (C0 : nCx p s m args meth c cX8_feed 6 (some .int) RX8 wsX8_feed) (hE : nEn D A cy (NBw cy a) kt vt s) {z : Int32 × nS} : ∀ (σ : nS) (x1 : Int32) (x2 : Int32) (x3 : Int32) (x4 : Int32) (x5 : Int32) (H : Heap) (locs : List Loc) (ls : Array Slot), lv_has ls 6 [(0, .ref (a 0)), (1, .int x1), (2, .int x2), (3, .int x3), (4, .int x4), (5, .int x5)] → va_P D vwCl ((NBw cy a) σ) H → va_S A s.heap H locs → b_X8_feed_0 N σ x1 x2 x3 x4 x5 = some z → W p l e ({ frames := 1, cells := 0, slots := 0, locals := 22 } : Room) s m args below meth c H locs 0 0 (nQi below D A (NBw cy a) args s z) (F0 m 0 ls []) := by
  obtain ⟨hx, hb, hr, hml, hown, hts, hlocks⟩ := C0
  intro σ x1 x2 x3 x4 x5 H locs ls hl hP hS hf
  unfold b_X8_feed_0 at hf
  refine lv_aload_n hx hb dX8_feed_0 rfl (lv_at hl 0 rfl) ?_
  refine nb_get (ci := 8) hx hb hts iX8_feed_X8 hown hE hP 0 nbo_0 rfl 1 (by decide) qX8_feed_19 rfl rfl dX8_feed_1 ?_
  refine lv_bipush (v := 20) hx hb dX8_feed_4 (by decide) ?_
  obtain ⟨r1, σ2, hc2, hf⟩ := nBd_e hf
  refine nb_callVi (As := [.int 20]) (rest := []) ⟨hx, hb, hml, hown, hts⟩ (c_X4_hasRoomFor (D := D) (A := A) (cy := cy) (a := a) (kt := kt) (vt := vt) (l := l)  hc2) (cwV 1 hts gX8_feed_X4_hasRoomFor rfl rfl rfl (by decide +kernel) ⟨Nat.le_of_ble_eq_true rfl, Nat.le_of_ble_eq_true rfl⟩) hE hP hS nbo_6 rfl rfl hl.1 rfl (Nat.le_of_ble_eq_true rfl) dX8_feed_6 (fun H locs hP hS => ?_)
  refine lv_if_ne (tgt := 14) hx hb dX8_feed_9 (by decide) (fun hc => ?_) (fun hc => ?_)
  · replace hf := nIf_f hc hf
    refine lv_aload_n hx hb dX8_feed_14 rfl (lv_at hl 0 rfl) ?_
    refine nb_get (ci := 8) hx hb hts iX8_feed_X8 hown hE hP 0 nbo_0 rfl 1 (by decide) qX8_feed_19 rfl rfl dX8_feed_15 ?_
    refine lv_iload_n hx hb dX8_feed_18 rfl (lv_at hl 1 rfl) ?_
    obtain ⟨r3, σ4, hc4, hf⟩ := nBd_e hf
    refine nb_callVv (As := [.int x1]) (rest := []) ⟨hx, hb, hml, hown, hts⟩ (c_X4_put (D := D) (A := A) (cy := cy) (a := a) (kt := kt) (vt := vt) (l := l)  hc4) (cwV 1 hts gX8_feed_X4_put rfl rfl rfl (by decide +kernel) ⟨Nat.le_of_ble_eq_true rfl, Nat.le_of_ble_eq_true rfl⟩) hE hP hS nbo_6 rfl rfl hl.1 rfl (Nat.le_of_ble_eq_true rfl) dX8_feed_19 (fun H locs hP hS => ?_)
    refine lv_aload_n hx hb dX8_feed_22 rfl (lv_at hl 0 rfl) ?_
    refine nb_get (ci := 8) hx hb hts iX8_feed_X8 hown hE hP 0 nbo_0 rfl 1 (by decide) qX8_feed_19 rfl rfl dX8_feed_23 ?_
    refine lv_iload_n hx hb dX8_feed_26 rfl (lv_at hl 2 rfl) ?_
    obtain ⟨r5, σ6, hc6, hf⟩ := nBd_e hf
    refine nb_callVv (As := [.int x2]) (rest := []) ⟨hx, hb, hml, hown, hts⟩ (c_X4_put (D := D) (A := A) (cy := cy) (a := a) (kt := kt) (vt := vt) (l := l)  hc6) (cwV 1 hts gX8_feed_X4_put rfl rfl rfl (by decide +kernel) ⟨Nat.le_of_ble_eq_true rfl, Nat.le_of_ble_eq_true rfl⟩) hE hP hS nbo_6 rfl rfl hl.1 rfl (Nat.le_of_ble_eq_true rfl) dX8_feed_27 (fun H locs hP hS => ?_)
    refine lv_aload_n hx hb dX8_feed_30 rfl (lv_at hl 0 rfl) ?_
    refine nb_get (ci := 8) hx hb hts iX8_feed_X8 hown hE hP 0 nbo_0 rfl 1 (by decide) qX8_feed_19 rfl rfl dX8_feed_31 ?_
    refine lv_iload_n hx hb dX8_feed_34 rfl (lv_at hl 3 rfl) ?_
    obtain ⟨r7, σ8, hc8, hf⟩ := nBd_e hf
    refine nb_callVv (As := [.int x3]) (rest := []) ⟨hx, hb, hml, hown, hts⟩ (c_X4_put (D := D) (A := A) (cy := cy) (a := a) (kt := kt) (vt := vt) (l := l)  hc8) (cwV 1 hts gX8_feed_X4_put rfl rfl rfl (by decide +kernel) ⟨Nat.le_of_ble_eq_true rfl, Nat.le_of_ble_eq_true rfl⟩) hE hP hS nbo_6 rfl rfl hl.1 rfl (Nat.le_of_ble_eq_true rfl) dX8_feed_35 (fun H locs hP hS => ?_)
    refine lv_aload_n hx hb dX8_feed_38 rfl (lv_at hl 0 rfl) ?_
    refine nb_get (ci := 8) hx hb hts iX8_feed_X8 hown hE hP 0 nbo_0 rfl 1 (by decide) qX8_feed_19 rfl rfl dX8_feed_39 ?_
    refine lv_iload hx hb dX8_feed_42 (lv_at hl 4 rfl) ?_
    obtain ⟨r9, σ10, hc10, hf⟩ := nBd_e hf
    refine nb_callVv (As := [.int x4]) (rest := []) ⟨hx, hb, hml, hown, hts⟩ (c_X4_put (D := D) (A := A) (cy := cy) (a := a) (kt := kt) (vt := vt) (l := l)  hc10) (cwV 1 hts gX8_feed_X4_put rfl rfl rfl (by decide +kernel) ⟨Nat.le_of_ble_eq_true rfl, Nat.le_of_ble_eq_true rfl⟩) hE hP hS nbo_6 rfl rfl hl.1 rfl (Nat.le_of_ble_eq_true rfl) dX8_feed_44 (fun H locs hP hS => ?_)
    refine lv_aload_n hx hb dX8_feed_47 rfl (lv_at hl 0 rfl) ?_
    refine nb_get (ci := 8) hx hb hts iX8_feed_X8 hown hE hP 0 nbo_0 rfl 1 (by decide) qX8_feed_19 rfl rfl dX8_feed_48 ?_
    refine lv_iload hx hb dX8_feed_51 (lv_at hl 5 rfl) ?_
    obtain ⟨r11, σ12, hc12, hf⟩ := nBd_e hf
    refine nb_callVv (As := [.int x5]) (rest := []) ⟨hx, hb, hml, hown, hts⟩ (c_X4_put (D := D) (A := A) (cy := cy) (a := a) (kt := kt) (vt := vt) (l := l)  hc12) (cwV 1 hts gX8_feed_X4_put rfl rfl rfl (by decide +kernel) ⟨Nat.le_of_ble_eq_true rfl, Nat.le_of_ble_eq_true rfl⟩) hE hP hS nbo_6 rfl rfl hl.1 rfl (Nat.le_of_ble_eq_true rfl) dX8_feed_53 (fun H locs hP hS => ?_)
    refine lv_aload_n hx hb dX8_feed_56 rfl (lv_at hl 0 rfl) ?_
    refine nb_get (ci := 8) hx hb hts iX8_feed_X8 hown hE hP 0 nbo_0 rfl 1 (by decide) qX8_feed_19 rfl rfl dX8_feed_57 ?_
    refine nb_getN (ci := 4) hx hb hts iX8_feed_X4 hown hE hP 6 nbo_6 rfl 1 (by decide) (host := RX8) (by decide +kernel) rfl rfl dX8_feed_60 ?_
    exact nb_iret hx hb hr hlocks hP hS (nSo hf) dX8_feed_63
  · replace hf := nIf_t hc hf
    refine lv_iconst (v := (-1)) hx hb dX8_feed_12 (by decide) ?_
    exact nb_iret hx hb hr hlocks hP hS (nSo hf) dX8_feed_13
def l_X8_feed_0 (N : Nat) : nS → Int32 → Int32 → Int32 → Int32 → Int32 → Option (Int32 × nS) := b_X8_feed_0 N
theorem kl_X8_feed_0 {p : Program} {l : Launch} {e : Env} {s : State} {m : MethodId} {args : Array Value} {below : List Frame} {meth : Method} {c : Code} {D : va_G} {A : Nat → Prop} {cy : Nat → ClassId} {a kt vt : Nat → Nat} {N : Nat}   (C0 : nCx p s m args meth c cX8_feed 6 (some .int) RX8 wsX8_feed) (hE : nEn D A cy (NBw cy a) kt vt s) {z : Int32 × nS} : ∀ (σ : nS) (x1 : Int32) (x2 : Int32) (x3 : Int32) (x4 : Int32) (x5 : Int32) (H : Heap) (locs : List Loc) (ls : Array Slot), lv_has ls 6 [(0, .ref (a 0)), (1, .int x1), (2, .int x2), (3, .int x3), (4, .int x4), (5, .int x5)] → va_P D vwCl ((NBw cy a) σ) H → va_S A s.heap H locs → l_X8_feed_0 N σ x1 x2 x3 x4 x5 = some z → W p l e ({ frames := 1, cells := 0, slots := 0, locals := 22 } : Room) s m args below meth c H locs 0 0 (nQi below D A (NBw cy a) args s z) (F0 m 0 ls []) := by
  exact kb_X8_feed_0 (N := N)  C0 hE
def f_X8_feed (N : Nat) (x1 : Int32) (x2 : Int32) (x3 : Int32) (x4 : Int32) (x5 : Int32) (σ : nS) : Option (Int32 × nS) := l_X8_feed_0 N σ x1 x2 x3 x4 x5
set_option maxHeartbeats 4000000 in
set_option maxRecDepth 100000 in
theorem c_X8_feed {l : Launch} {D : va_G} {A : Nat → Prop} {cy : Nat → ClassId} {a kt vt : Nat → Nat} {N : Nat}   {x1 : Int32} {x2 : Int32} {x3 : Int32} {x4 : Int32} {x5 : Int32} {σ : nS} {r : Int32} {σ' : nS} (hf : f_X8_feed N x1 x2 x3 x4 x5 σ = some (r, σ')) : nMi l yX8_feed wsX8_feed ({ frames := 1, cells := 0, slots := 0, locals := 22 } : Room) D A cy (NBw cy a) kt vt [.ref (a 0), .int x1, .int x2, .int x3, .int x4, .int x5] σ r σ' := by
  refine Met.ofW (cc := cX8_feed) (maxL := 6) (ret := (some .int)) (by decide) rfl ?_
  intro p e s m args below meth c s₁ B hml hv
  obtain ⟨rfl, hP, hE⟩ := hv
  have hl := lv_entry ([.ref (a 0), .int x1, .int x2, .int x3, .int x4, .int x5]) (n := 6) (Nat.le_of_ble_eq_true rfl)
  rw [lg_entry_eq]
  generalize (lg_sl ([.ref (a 0), .int x1, .int x2, .int x3, .int x4, .int x5]) ++ List.replicate (6 - (lg_sl ([.ref (a 0), .int x1, .int x2, .int x3, .int x4, .int x5])).length) Slot.unset).toArray = ls at hl ⊢
  have C0 : nCx p s m _ meth c cX8_feed 6 (some .int) RX8 wsX8_feed := ⟨B.exec, B.bytes, B.returns, hml, findClass_of_methodNamed B.named, atoms_spec (ws := wsX8_feed) B.pre, B.notSynchronized⟩
  exact kl_X8_feed_0 (N := N)  C0 hE (z := (r, σ')) σ x1 x2 x3 x4 x5 _ _ ls hl hP va_S.rf hf

/-! X8_book -/
set_option maxRecDepth 20000 in
theorem iX8_book_X8 : ∀ w ∈ u_ws RX8 TX8 13, w ∈ wsX8_book := fun _ h => List.mem_cons_of_mem _ (List.mem_append_left _ (List.mem_append_left _ (List.mem_append_right _ h)))
set_option maxRecDepth 20000 in
theorem qX8_book_19 : Cond.fieldLink RX8 19 RX8 (TX8 1).2.1 (TX8 1).2.2.1 ∈ wsX8_book := by decide +kernel
set_option maxRecDepth 20000 in
theorem iX8_book_X4 : ∀ w ∈ u_ws RX4 TX4 14, w ∈ wsX8_book := fun _ h => List.mem_cons_of_mem _ (List.mem_append_left _ (List.mem_append_right _ h))
set_option maxRecDepth 20000 in
theorem qX8_book_12 : Cond.fieldLink RX8 12 RX8 (TX8 0).2.1 (TX8 0).2.2.1 ∈ wsX8_book := by decide +kernel
set_option maxRecDepth 20000 in
theorem iX8_book_X7 : ∀ w ∈ u_ws RX7 TX7 9, w ∈ wsX8_book := fun _ h => List.mem_cons_of_mem _ (List.mem_append_right _ h)
def b_X8_book_0 (N : Nat) (σ : nS) (x1 : Int32) : Option (Int32 × nS) := (if x1 < 0 then nBd (f_X8_refuse N 2 σ) (fun r1 σ2 => some (r1, σ2)) else (if x1 ≤ (σ.1 6 1) then nBd (f_X4_readText N x1 σ) (fun r3 σ4 => nLet (wr σ4 6 1 0) (fun σ5 => (if r3 = 0 then nBd (f_X8_refuse N 4 σ5) (fun r13 σ14 => some (r13, σ14)) else (if (σ5.1 1 3) < 4 then nLet ((σ5.1 1 3) + (1 : Int32) : Int32) (fun v6 => nLet (wr σ5 1 3 v6) (fun σ7 => nLet ((σ7.1 1 3) - (1 : Int32) : Int32) (fun v8 => nBd (f_X8_accept N v8 σ7) (fun r9 σ10 => some (r9, σ10))))) else nBd (f_X8_refuse N 3 σ5) (fun r11 σ12 => some (r11, σ12)))))) else nBd (f_X8_refuse N 2 σ) (fun r15 σ16 => some (r15, σ16))))
set_option maxHeartbeats 4000000 in
set_option maxRecDepth 100000 in
theorem kb_X8_book_0 {p : Program} {l : Launch} {e : Env} {s : State} {m : MethodId} {args : Array Value} {below : List Frame} {meth : Method} {c : Code} {D : va_G} {A : Nat → Prop} {cy : Nat → ClassId} {a kt vt : Nat → Nat} {N : Nat}   (C0 : nCx p s m args meth c cX8_book 3 (some .int) RX8 wsX8_book) (hE : nEn D A cy (NBw cy a) kt vt s) {z : Int32 × nS} : ∀ (σ : nS) (x1 : Int32) (H : Heap) (locs : List Loc) (ls : Array Slot), lv_has ls 3 [(0, .ref (a 0)), (1, .int x1)] → va_P D vwCl ((NBw cy a) σ) H → va_S A s.heap H locs → b_X8_book_0 N σ x1 = some z → W p l e ({ frames := 9, cells := 0, slots := 0, locals := 196 } : Room) s m args below meth c H locs 0 0 (nQi below D A (NBw cy a) args s z) (F0 m 0 ls []) := by
  obtain ⟨hx, hb, hr, hml, hown, hts, hlocks⟩ := C0
  intro σ x1 H locs ls hl hP hS hf
  unfold b_X8_book_0 at hf
  refine lv_iload_n hx hb dX8_book_0 rfl (lv_at hl 1 rfl) ?_
  refine lv_if_lt (tgt := 15) hx hb dX8_book_1 (by decide) (fun hc => ?_) (fun hc => ?_)
  · replace hf := nIf_t hc hf
    refine lv_aload_n hx hb dX8_book_15 rfl (lv_at hl 0 rfl) ?_
    refine lv_iconst (v := 2) hx hb dX8_book_16 (by decide) ?_
    obtain ⟨r1, σ2, hc2, hf⟩ := nBd_e hf
    refine nb_callVi (As := [.int 2]) (rest := []) ⟨hx, hb, hml, hown, hts⟩ (c_X8_refuse (D := D) (A := A) (cy := cy) (a := a) (kt := kt) (vt := vt) (l := l)  hc2) (cwV 1 hts gX8_book_X8_refuse rfl rfl rfl (by decide +kernel) ⟨Nat.le_of_ble_eq_true rfl, Nat.le_of_ble_eq_true rfl⟩) hE hP hS nbo_0 rfl rfl hl.1 rfl (Nat.le_of_ble_eq_true rfl) dX8_book_17 (fun H locs hP hS => ?_)
    exact nb_iret hx hb hr hlocks hP hS (nSo hf) dX8_book_20
  · replace hf := nIf_f hc hf
    refine lv_iload_n hx hb dX8_book_4 rfl (lv_at hl 1 rfl) ?_
    refine lv_aload_n hx hb dX8_book_5 rfl (lv_at hl 0 rfl) ?_
    refine nb_get (ci := 8) hx hb hts iX8_book_X8 hown hE hP 0 nbo_0 rfl 1 (by decide) qX8_book_19 rfl rfl dX8_book_6 ?_
    refine nb_getN (ci := 4) hx hb hts iX8_book_X4 hown hE hP 6 nbo_6 rfl 1 (by decide) (host := RX8) (by decide +kernel) rfl rfl dX8_book_9 ?_
    refine lv_icmp_le (tgt := 21) hx hb dX8_book_12 (by decide) (fun hc => ?_) (fun hc => ?_)
    · replace hf := nIf_t hc hf
      refine lv_aload_n hx hb dX8_book_21 rfl (lv_at hl 0 rfl) ?_
      refine nb_get (ci := 8) hx hb hts iX8_book_X8 hown hE hP 0 nbo_0 rfl 1 (by decide) qX8_book_19 rfl rfl dX8_book_22 ?_
      refine lv_aload_n hx hb dX8_book_25 rfl (lv_at hl 0 rfl) ?_
      refine nb_get (ci := 8) hx hb hts iX8_book_X8 hown hE hP 0 nbo_0 rfl 0 (by decide) qX8_book_12 rfl rfl dX8_book_26 ?_
      refine lv_iload_n hx hb dX8_book_29 rfl (lv_at hl 1 rfl) ?_
      obtain ⟨r3, σ4, hc4, hf⟩ := nBd_e hf
      refine nb_callVi (As := [.ref (a 1), .int x1]) (rest := []) ⟨hx, hb, hml, hown, hts⟩ (c_X4_readText (D := D) (A := A) (cy := cy) (a := a) (kt := kt) (vt := vt) (l := l)  hc4) (cwV 2 hts gX8_book_X4_readText rfl rfl rfl (by decide +kernel) ⟨Nat.le_of_ble_eq_true rfl, Nat.le_of_ble_eq_true rfl⟩) hE hP hS nbo_6 rfl rfl hl.1 rfl (Nat.le_of_ble_eq_true rfl) dX8_book_30 (fun H locs hP hS => ?_)
      refine lv_istore_n (lv' := [(2, .int r3), (0, .ref (a 0)), (1, .int x1)]) hx hb dX8_book_33 rfl hl (by decide) rfl (fun ls hl => ?_)
      refine lv_aload_n hx hb dX8_book_34 rfl (lv_at hl 1 rfl) ?_
      refine nb_get (ci := 8) hx hb hts iX8_book_X8 hown hE hP 0 nbo_0 rfl 1 (by decide) qX8_book_19 rfl rfl dX8_book_35 ?_
      refine lv_iconst (v := 0) hx hb dX8_book_38 (by decide) ?_
      refine nb_putN (ci := 4) hx hb hts iX8_book_X4 tyX4 tyX4_ok nmX4 hown hE hP hS 6 nbo_6 rfl 1 (by decide) (host := RX8) (by decide +kernel) rfl rfl rfl rfl (Nat.le_of_ble_eq_true rfl) dX8_book_39 (nbp_6_1 _) (fun σ5 eσ5 H locs hP hS => ?_)
      replace hf := nLet_e hf eσ5
      refine lv_iload_n hx hb dX8_book_42 rfl (lv_at hl 0 rfl) ?_
      refine lv_if_ne (tgt := 52) hx hb dX8_book_43 (by decide) (fun hc => ?_) (fun hc => ?_)
      · replace hf := nIf_f hc hf
        refine lv_aload_n hx hb dX8_book_52 rfl (lv_at hl 1 rfl) ?_
        refine nb_get (ci := 8) hx hb hts iX8_book_X8 hown hE hP 0 nbo_0 rfl 0 (by decide) qX8_book_12 rfl rfl dX8_book_53 ?_
        refine nb_getN (ci := 7) hx hb hts iX8_book_X7 hown hE hP 1 nbo_1 rfl 3 (by decide) (host := RX8) (by decide +kernel) rfl rfl dX8_book_56 ?_
        refine lv_iconst (v := 4) hx hb dX8_book_59 (by decide) ?_
        refine lv_icmp_lt (tgt := 69) hx hb dX8_book_60 (by decide) (fun hc => ?_) (fun hc => ?_)
        · replace hf := nIf_t hc hf
          refine lv_aload_n hx hb dX8_book_69 rfl (lv_at hl 1 rfl) ?_
          refine nb_get (ci := 8) hx hb hts iX8_book_X8 hown hE hP 0 nbo_0 rfl 0 (by decide) qX8_book_12 rfl rfl dX8_book_70 ?_
          refine lv_dup hx hb dX8_book_73 rfl ?_
          refine nb_getN (ci := 7) hx hb hts iX8_book_X7 hown hE hP 1 nbo_1 rfl 3 (by decide) (host := RX8) (by decide +kernel) rfl rfl dX8_book_74 ?_
          refine lv_iconst (v := 1) hx hb dX8_book_77 (by decide) ?_
          refine lv_iadd hx hb dX8_book_78 ?_
          refine lv_topi (fun v6 ev6 => ?_)
          replace hf := nLet_e hf ev6
          refine nb_putN (ci := 7) hx hb hts iX8_book_X7 tyX7 tyX7_ok nmX7 hown hE hP hS 1 nbo_1 rfl 3 (by decide) (host := RX8) (by decide +kernel) rfl rfl rfl rfl (Nat.le_of_ble_eq_true rfl) dX8_book_79 (nbp_1_3 _) (fun σ7 eσ7 H locs hP hS => ?_)
          replace hf := nLet_e hf eσ7
          refine lv_aload_n hx hb dX8_book_82 rfl (lv_at hl 1 rfl) ?_
          refine lv_aload_n hx hb dX8_book_83 rfl (lv_at hl 1 rfl) ?_
          refine nb_get (ci := 8) hx hb hts iX8_book_X8 hown hE hP 0 nbo_0 rfl 0 (by decide) qX8_book_12 rfl rfl dX8_book_84 ?_
          refine nb_getN (ci := 7) hx hb hts iX8_book_X7 hown hE hP 1 nbo_1 rfl 3 (by decide) (host := RX8) (by decide +kernel) rfl rfl dX8_book_87 ?_
          refine lv_iconst (v := 1) hx hb dX8_book_90 (by decide) ?_
          refine lv_isub hx hb dX8_book_91 ?_
          refine lv_topi (fun v8 ev8 => ?_)
          replace hf := nLet_e hf ev8
          obtain ⟨r9, σ10, hc10, hf⟩ := nBd_e hf
          refine nb_callVi (As := [.int v8]) (rest := []) ⟨hx, hb, hml, hown, hts⟩ (c_X8_accept (D := D) (A := A) (cy := cy) (a := a) (kt := kt) (vt := vt) (l := l)  hc10) (cwV 1 hts gX8_book_X8_accept rfl rfl rfl (by decide +kernel) ⟨Nat.le_of_ble_eq_true rfl, Nat.le_of_ble_eq_true rfl⟩) hE hP hS nbo_0 rfl rfl hl.1 rfl (Nat.le_of_ble_eq_true rfl) dX8_book_92 (fun H locs hP hS => ?_)
          exact nb_iret hx hb hr hlocks hP hS (nSo hf) dX8_book_95
        · replace hf := nIf_f hc hf
          refine lv_aload_n hx hb dX8_book_63 rfl (lv_at hl 1 rfl) ?_
          refine lv_iconst (v := 3) hx hb dX8_book_64 (by decide) ?_
          obtain ⟨r11, σ12, hc12, hf⟩ := nBd_e hf
          refine nb_callVi (As := [.int 3]) (rest := []) ⟨hx, hb, hml, hown, hts⟩ (c_X8_refuse (D := D) (A := A) (cy := cy) (a := a) (kt := kt) (vt := vt) (l := l)  hc12) (cwV 1 hts gX8_book_X8_refuse rfl rfl rfl (by decide +kernel) ⟨Nat.le_of_ble_eq_true rfl, Nat.le_of_ble_eq_true rfl⟩) hE hP hS nbo_0 rfl rfl hl.1 rfl (Nat.le_of_ble_eq_true rfl) dX8_book_65 (fun H locs hP hS => ?_)
          exact nb_iret hx hb hr hlocks hP hS (nSo hf) dX8_book_68
      · replace hf := nIf_t hc hf
        refine lv_aload_n hx hb dX8_book_46 rfl (lv_at hl 1 rfl) ?_
        refine lv_iconst (v := 4) hx hb dX8_book_47 (by decide) ?_
        obtain ⟨r13, σ14, hc14, hf⟩ := nBd_e hf
        refine nb_callVi (As := [.int 4]) (rest := []) ⟨hx, hb, hml, hown, hts⟩ (c_X8_refuse (D := D) (A := A) (cy := cy) (a := a) (kt := kt) (vt := vt) (l := l)  hc14) (cwV 1 hts gX8_book_X8_refuse rfl rfl rfl (by decide +kernel) ⟨Nat.le_of_ble_eq_true rfl, Nat.le_of_ble_eq_true rfl⟩) hE hP hS nbo_0 rfl rfl hl.1 rfl (Nat.le_of_ble_eq_true rfl) dX8_book_48 (fun H locs hP hS => ?_)
        exact nb_iret hx hb hr hlocks hP hS (nSo hf) dX8_book_51
    · replace hf := nIf_f hc hf
      refine lv_aload_n hx hb dX8_book_15 rfl (lv_at hl 0 rfl) ?_
      refine lv_iconst (v := 2) hx hb dX8_book_16 (by decide) ?_
      obtain ⟨r15, σ16, hc16, hf⟩ := nBd_e hf
      refine nb_callVi (As := [.int 2]) (rest := []) ⟨hx, hb, hml, hown, hts⟩ (c_X8_refuse (D := D) (A := A) (cy := cy) (a := a) (kt := kt) (vt := vt) (l := l)  hc16) (cwV 1 hts gX8_book_X8_refuse rfl rfl rfl (by decide +kernel) ⟨Nat.le_of_ble_eq_true rfl, Nat.le_of_ble_eq_true rfl⟩) hE hP hS nbo_0 rfl rfl hl.1 rfl (Nat.le_of_ble_eq_true rfl) dX8_book_17 (fun H locs hP hS => ?_)
      exact nb_iret hx hb hr hlocks hP hS (nSo hf) dX8_book_20
def l_X8_book_0 (N : Nat) : nS → Int32 → Option (Int32 × nS) := b_X8_book_0 N
theorem kl_X8_book_0 {p : Program} {l : Launch} {e : Env} {s : State} {m : MethodId} {args : Array Value} {below : List Frame} {meth : Method} {c : Code} {D : va_G} {A : Nat → Prop} {cy : Nat → ClassId} {a kt vt : Nat → Nat} {N : Nat}   (C0 : nCx p s m args meth c cX8_book 3 (some .int) RX8 wsX8_book) (hE : nEn D A cy (NBw cy a) kt vt s) {z : Int32 × nS} : ∀ (σ : nS) (x1 : Int32) (H : Heap) (locs : List Loc) (ls : Array Slot), lv_has ls 3 [(0, .ref (a 0)), (1, .int x1)] → va_P D vwCl ((NBw cy a) σ) H → va_S A s.heap H locs → l_X8_book_0 N σ x1 = some z → W p l e ({ frames := 9, cells := 0, slots := 0, locals := 196 } : Room) s m args below meth c H locs 0 0 (nQi below D A (NBw cy a) args s z) (F0 m 0 ls []) := by
  exact kb_X8_book_0 (N := N)  C0 hE
def f_X8_book (N : Nat) (x1 : Int32) (σ : nS) : Option (Int32 × nS) := l_X8_book_0 N σ x1
set_option maxHeartbeats 4000000 in
set_option maxRecDepth 100000 in
theorem c_X8_book {l : Launch} {D : va_G} {A : Nat → Prop} {cy : Nat → ClassId} {a kt vt : Nat → Nat} {N : Nat}   {x1 : Int32} {σ : nS} {r : Int32} {σ' : nS} (hf : f_X8_book N x1 σ = some (r, σ')) : nMi l yX8_book wsX8_book ({ frames := 9, cells := 0, slots := 0, locals := 196 } : Room) D A cy (NBw cy a) kt vt [.ref (a 0), .int x1] σ r σ' := by
  refine Met.ofW (cc := cX8_book) (maxL := 3) (ret := (some .int)) (by decide) rfl ?_
  intro p e s m args below meth c s₁ B hml hv
  obtain ⟨rfl, hP, hE⟩ := hv
  have hl := lv_entry ([.ref (a 0), .int x1]) (n := 3) (Nat.le_of_ble_eq_true rfl)
  rw [lg_entry_eq]
  generalize (lg_sl ([.ref (a 0), .int x1]) ++ List.replicate (3 - (lg_sl ([.ref (a 0), .int x1])).length) Slot.unset).toArray = ls at hl ⊢
  have C0 : nCx p s m _ meth c cX8_book 3 (some .int) RX8 wsX8_book := ⟨B.exec, B.bytes, B.returns, hml, findClass_of_methodNamed B.named, atoms_spec (ws := wsX8_book) B.pre, B.notSynchronized⟩
  exact kl_X8_book_0 (N := N)  C0 hE (z := (r, σ')) σ x1 _ _ ls hl hP va_S.rf hf

/-! X8_fault -/
set_option maxRecDepth 20000 in
theorem iX8_fault_X8 : ∀ w ∈ u_ws RX8 TX8 13, w ∈ wsX8_fault := fun _ h => List.mem_cons_of_mem _ (List.mem_append_left _ (List.mem_append_right _ h))
set_option maxRecDepth 20000 in
theorem qX8_fault_19 : Cond.fieldLink RX8 19 RX8 (TX8 1).2.1 (TX8 1).2.2.1 ∈ wsX8_fault := by decide +kernel
set_option maxRecDepth 20000 in
theorem iX8_fault_X4 : ∀ w ∈ u_ws RX4 TX4 14, w ∈ wsX8_fault := fun _ h => List.mem_cons_of_mem _ (List.mem_append_right _ h)
def b_X8_fault_0 (N : Nat) (σ : nS) : Option (Int32 × nS) := some ((σ.1 6 9), σ)
set_option maxHeartbeats 4000000 in
set_option maxRecDepth 100000 in
theorem kb_X8_fault_0 {p : Program} {l : Launch} {e : Env} {s : State} {m : MethodId} {args : Array Value} {below : List Frame} {meth : Method} {c : Code} {D : va_G} {A : Nat → Prop} {cy : Nat → ClassId} {a kt vt : Nat → Nat} {N : Nat}   (C0 : nCx p s m args meth c cX8_fault 1 (some .int) RX8 wsX8_fault) (hE : nEn D A cy (NBw cy a) kt vt s) {z : Int32 × nS} : ∀ (σ : nS) (H : Heap) (locs : List Loc) (ls : Array Slot), lv_has ls 1 [(0, .ref (a 0))] → va_P D vwCl ((NBw cy a) σ) H → va_S A s.heap H locs → b_X8_fault_0 N σ = some z → W p l e ({ frames := 0, cells := 0, slots := 0, locals := 0 } : Room) s m args below meth c H locs 0 0 (nQi below D A (NBw cy a) args s z) (F0 m 0 ls []) := by
  obtain ⟨hx, hb, hr, hml, hown, hts, hlocks⟩ := C0
  intro σ  H locs ls hl hP hS hf
  unfold b_X8_fault_0 at hf
  refine lv_aload_n hx hb dX8_fault_0 rfl (lv_at hl 0 rfl) ?_
  refine nb_get (ci := 8) hx hb hts iX8_fault_X8 hown hE hP 0 nbo_0 rfl 1 (by decide) qX8_fault_19 rfl rfl dX8_fault_1 ?_
  refine nb_getN (ci := 4) hx hb hts iX8_fault_X4 hown hE hP 6 nbo_6 rfl 9 (by decide) (host := RX8) (by decide +kernel) rfl rfl dX8_fault_4 ?_
  exact nb_iret hx hb hr hlocks hP hS (nSo hf) dX8_fault_7
def l_X8_fault_0 (N : Nat) : nS → Option (Int32 × nS) := b_X8_fault_0 N
theorem kl_X8_fault_0 {p : Program} {l : Launch} {e : Env} {s : State} {m : MethodId} {args : Array Value} {below : List Frame} {meth : Method} {c : Code} {D : va_G} {A : Nat → Prop} {cy : Nat → ClassId} {a kt vt : Nat → Nat} {N : Nat}   (C0 : nCx p s m args meth c cX8_fault 1 (some .int) RX8 wsX8_fault) (hE : nEn D A cy (NBw cy a) kt vt s) {z : Int32 × nS} : ∀ (σ : nS) (H : Heap) (locs : List Loc) (ls : Array Slot), lv_has ls 1 [(0, .ref (a 0))] → va_P D vwCl ((NBw cy a) σ) H → va_S A s.heap H locs → l_X8_fault_0 N σ = some z → W p l e ({ frames := 0, cells := 0, slots := 0, locals := 0 } : Room) s m args below meth c H locs 0 0 (nQi below D A (NBw cy a) args s z) (F0 m 0 ls []) := by
  exact kb_X8_fault_0 (N := N)  C0 hE
def f_X8_fault (N : Nat) (σ : nS) : Option (Int32 × nS) := l_X8_fault_0 N σ
set_option maxHeartbeats 4000000 in
set_option maxRecDepth 100000 in
theorem c_X8_fault {l : Launch} {D : va_G} {A : Nat → Prop} {cy : Nat → ClassId} {a kt vt : Nat → Nat} {N : Nat}   {σ : nS} {r : Int32} {σ' : nS} (hf : f_X8_fault N σ = some (r, σ')) : nMi l yX8_fault wsX8_fault ({ frames := 0, cells := 0, slots := 0, locals := 0 } : Room) D A cy (NBw cy a) kt vt [.ref (a 0)] σ r σ' := by
  refine Met.ofW (cc := cX8_fault) (maxL := 1) (ret := (some .int)) (by decide) rfl ?_
  intro p e s m args below meth c s₁ B hml hv
  obtain ⟨rfl, hP, hE⟩ := hv
  have hl := lv_entry ([.ref (a 0)]) (n := 1) (Nat.le_of_ble_eq_true rfl)
  rw [lg_entry_eq]
  generalize (lg_sl ([.ref (a 0)]) ++ List.replicate (1 - (lg_sl ([.ref (a 0)])).length) Slot.unset).toArray = ls at hl ⊢
  have C0 : nCx p s m _ meth c cX8_fault 1 (some .int) RX8 wsX8_fault := ⟨B.exec, B.bytes, B.returns, hml, findClass_of_methodNamed B.named, atoms_spec (ws := wsX8_fault) B.pre, B.notSynchronized⟩
  exact kl_X8_fault_0 (N := N)  C0 hE (z := (r, σ')) σ  _ _ ls hl hP va_S.rf hf

/-! X8_where -/
set_option maxRecDepth 20000 in
theorem iX8_where_X8 : ∀ w ∈ u_ws RX8 TX8 13, w ∈ wsX8_where := fun _ h => List.mem_cons_of_mem _ (List.mem_append_left _ (List.mem_append_right _ h))
set_option maxRecDepth 20000 in
theorem qX8_where_80 : Cond.fieldLink RX8 80 RX8 (TX8 12).2.1 (TX8 12).2.2.1 ∈ wsX8_where := by decide +kernel
set_option maxRecDepth 20000 in
theorem qX8_where_19 : Cond.fieldLink RX8 19 RX8 (TX8 1).2.1 (TX8 1).2.2.1 ∈ wsX8_where := by decide +kernel
set_option maxRecDepth 20000 in
theorem iX8_where_X4 : ∀ w ∈ u_ws RX4 TX4 14, w ∈ wsX8_where := fun _ h => List.mem_cons_of_mem _ (List.mem_append_right _ h)
def b_X8_where_0 (N : Nat) (σ : nS) : Option (Int32 × nS) := (if (σ.1 0 12) = 4 then some ((σ.1 6 10), σ) else some ((-1), σ))
set_option maxHeartbeats 4000000 in
set_option maxRecDepth 100000 in
theorem kb_X8_where_0 {p : Program} {l : Launch} {e : Env} {s : State} {m : MethodId} {args : Array Value} {below : List Frame} {meth : Method} {c : Code} {D : va_G} {A : Nat → Prop} {cy : Nat → ClassId} {a kt vt : Nat → Nat} {N : Nat}   (C0 : nCx p s m args meth c cX8_where 1 (some .int) RX8 wsX8_where) (hE : nEn D A cy (NBw cy a) kt vt s) {z : Int32 × nS} : ∀ (σ : nS) (H : Heap) (locs : List Loc) (ls : Array Slot), lv_has ls 1 [(0, .ref (a 0))] → va_P D vwCl ((NBw cy a) σ) H → va_S A s.heap H locs → b_X8_where_0 N σ = some z → W p l e ({ frames := 0, cells := 0, slots := 0, locals := 0 } : Room) s m args below meth c H locs 0 0 (nQi below D A (NBw cy a) args s z) (F0 m 0 ls []) := by
  obtain ⟨hx, hb, hr, hml, hown, hts, hlocks⟩ := C0
  intro σ  H locs ls hl hP hS hf
  unfold b_X8_where_0 at hf
  refine lv_aload_n hx hb dX8_where_0 rfl (lv_at hl 0 rfl) ?_
  refine nb_get (ci := 8) hx hb hts iX8_where_X8 hown hE hP 0 nbo_0 rfl 12 (by decide) qX8_where_80 rfl rfl dX8_where_1 ?_
  refine lv_iconst (v := 4) hx hb dX8_where_4 (by decide) ?_
  refine lv_icmp_ne (tgt := 18) hx hb dX8_where_5 (by decide) (fun hc => ?_) (fun hc => ?_)
  · replace hf := nIf_f hc hf
    refine lv_iconst (v := (-1)) hx hb dX8_where_18 (by decide) ?_
    exact nb_iret hx hb hr hlocks hP hS (nSo hf) dX8_where_19
  · replace hf := nIf_t hc hf
    refine lv_aload_n hx hb dX8_where_8 rfl (lv_at hl 0 rfl) ?_
    refine nb_get (ci := 8) hx hb hts iX8_where_X8 hown hE hP 0 nbo_0 rfl 1 (by decide) qX8_where_19 rfl rfl dX8_where_9 ?_
    refine nb_getN (ci := 4) hx hb hts iX8_where_X4 hown hE hP 6 nbo_6 rfl 10 (by decide) (host := RX8) (by decide +kernel) rfl rfl dX8_where_12 ?_
    refine lv_goto (tgt := 19) hx hb dX8_where_15 (by decide) ?_
    exact nb_iret hx hb hr hlocks hP hS (nSo hf) dX8_where_19
def l_X8_where_0 (N : Nat) : nS → Option (Int32 × nS) := b_X8_where_0 N
theorem kl_X8_where_0 {p : Program} {l : Launch} {e : Env} {s : State} {m : MethodId} {args : Array Value} {below : List Frame} {meth : Method} {c : Code} {D : va_G} {A : Nat → Prop} {cy : Nat → ClassId} {a kt vt : Nat → Nat} {N : Nat}   (C0 : nCx p s m args meth c cX8_where 1 (some .int) RX8 wsX8_where) (hE : nEn D A cy (NBw cy a) kt vt s) {z : Int32 × nS} : ∀ (σ : nS) (H : Heap) (locs : List Loc) (ls : Array Slot), lv_has ls 1 [(0, .ref (a 0))] → va_P D vwCl ((NBw cy a) σ) H → va_S A s.heap H locs → l_X8_where_0 N σ = some z → W p l e ({ frames := 0, cells := 0, slots := 0, locals := 0 } : Room) s m args below meth c H locs 0 0 (nQi below D A (NBw cy a) args s z) (F0 m 0 ls []) := by
  exact kb_X8_where_0 (N := N)  C0 hE
def f_X8_where (N : Nat) (σ : nS) : Option (Int32 × nS) := l_X8_where_0 N σ
set_option maxHeartbeats 4000000 in
set_option maxRecDepth 100000 in
theorem c_X8_where {l : Launch} {D : va_G} {A : Nat → Prop} {cy : Nat → ClassId} {a kt vt : Nat → Nat} {N : Nat}   {σ : nS} {r : Int32} {σ' : nS} (hf : f_X8_where N σ = some (r, σ')) : nMi l yX8_where wsX8_where ({ frames := 0, cells := 0, slots := 0, locals := 0 } : Room) D A cy (NBw cy a) kt vt [.ref (a 0)] σ r σ' := by
  refine Met.ofW (cc := cX8_where) (maxL := 1) (ret := (some .int)) (by decide) rfl ?_
  intro p e s m args below meth c s₁ B hml hv
  obtain ⟨rfl, hP, hE⟩ := hv
  have hl := lv_entry ([.ref (a 0)]) (n := 1) (Nat.le_of_ble_eq_true rfl)
  rw [lg_entry_eq]
  generalize (lg_sl ([.ref (a 0)]) ++ List.replicate (1 - (lg_sl ([.ref (a 0)])).length) Slot.unset).toArray = ls at hl ⊢
  have C0 : nCx p s m _ meth c cX8_where 1 (some .int) RX8 wsX8_where := ⟨B.exec, B.bytes, B.returns, hml, findClass_of_methodNamed B.named, atoms_spec (ws := wsX8_where) B.pre, B.notSynchronized⟩
  exact kl_X8_where_0 (N := N)  C0 hE (z := (r, σ')) σ  _ _ ls hl hP va_S.rf hf

/-! X8_steps -/
set_option maxRecDepth 20000 in
theorem iX8_steps_X8 : ∀ w ∈ u_ws RX8 TX8 13, w ∈ wsX8_steps := fun _ h => List.mem_cons_of_mem _ (List.mem_append_left _ (List.mem_append_right _ h))
set_option maxRecDepth 20000 in
theorem qX8_steps_12 : Cond.fieldLink RX8 12 RX8 (TX8 0).2.1 (TX8 0).2.2.1 ∈ wsX8_steps := by decide +kernel
def b_X8_steps_0 (N : Nat) (σ : nS) (x1 : Int32) : Option (Int32 × nS) := nBd (f_X7_hasBook N x1 σ) (fun r1 σ2 => (if r1 = 0 then some ((-1), σ2) else nBd (f_X7_sizeOf N x1 σ2) (fun r3 σ4 => some (r3, σ4))))
set_option maxHeartbeats 4000000 in
set_option maxRecDepth 100000 in
theorem kb_X8_steps_0 {p : Program} {l : Launch} {e : Env} {s : State} {m : MethodId} {args : Array Value} {below : List Frame} {meth : Method} {c : Code} {D : va_G} {A : Nat → Prop} {cy : Nat → ClassId} {a kt vt : Nat → Nat} {N : Nat}   (C0 : nCx p s m args meth c cX8_steps 2 (some .int) RX8 wsX8_steps) (hE : nEn D A cy (NBw cy a) kt vt s) {z : Int32 × nS} : ∀ (σ : nS) (x1 : Int32) (H : Heap) (locs : List Loc) (ls : Array Slot), lv_has ls 2 [(0, .ref (a 0)), (1, .int x1)] → va_P D vwCl ((NBw cy a) σ) H → va_S A s.heap H locs → b_X8_steps_0 N σ x1 = some z → W p l e ({ frames := 1, cells := 0, slots := 0, locals := 21 } : Room) s m args below meth c H locs 0 0 (nQi below D A (NBw cy a) args s z) (F0 m 0 ls []) := by
  obtain ⟨hx, hb, hr, hml, hown, hts, hlocks⟩ := C0
  intro σ x1 H locs ls hl hP hS hf
  unfold b_X8_steps_0 at hf
  refine lv_aload_n hx hb dX8_steps_0 rfl (lv_at hl 0 rfl) ?_
  refine nb_get (ci := 8) hx hb hts iX8_steps_X8 hown hE hP 0 nbo_0 rfl 0 (by decide) qX8_steps_12 rfl rfl dX8_steps_1 ?_
  refine lv_iload_n hx hb dX8_steps_4 rfl (lv_at hl 1 rfl) ?_
  obtain ⟨r1, σ2, hc2, hf⟩ := nBd_e hf
  refine nb_callVi (As := [.int x1]) (rest := []) ⟨hx, hb, hml, hown, hts⟩ (c_X7_hasBook (D := D) (A := A) (cy := cy) (a := a) (kt := kt) (vt := vt) (l := l)  hc2) (cwV 1 hts gX8_steps_X7_hasBook rfl rfl rfl (by decide +kernel) ⟨Nat.le_of_ble_eq_true rfl, Nat.le_of_ble_eq_true rfl⟩) hE hP hS nbo_1 rfl rfl hl.1 rfl (Nat.le_of_ble_eq_true rfl) dX8_steps_5 (fun H locs hP hS => ?_)
  refine lv_if_eq (tgt := 22) hx hb dX8_steps_8 (by decide) (fun hc => ?_) (fun hc => ?_)
  · replace hf := nIf_t hc hf
    refine lv_iconst (v := (-1)) hx hb dX8_steps_22 (by decide) ?_
    exact nb_iret hx hb hr hlocks hP hS (nSo hf) dX8_steps_23
  · replace hf := nIf_f hc hf
    refine lv_aload_n hx hb dX8_steps_11 rfl (lv_at hl 0 rfl) ?_
    refine nb_get (ci := 8) hx hb hts iX8_steps_X8 hown hE hP 0 nbo_0 rfl 0 (by decide) qX8_steps_12 rfl rfl dX8_steps_12 ?_
    refine lv_iload_n hx hb dX8_steps_15 rfl (lv_at hl 1 rfl) ?_
    obtain ⟨r3, σ4, hc4, hf⟩ := nBd_e hf
    refine nb_callVi (As := [.int x1]) (rest := []) ⟨hx, hb, hml, hown, hts⟩ (c_X7_sizeOf (D := D) (A := A) (cy := cy) (a := a) (kt := kt) (vt := vt) (l := l)  hc4) (cwV 1 hts gX8_steps_X7_sizeOf rfl rfl rfl (by decide +kernel) ⟨Nat.le_of_ble_eq_true rfl, Nat.le_of_ble_eq_true rfl⟩) hE hP hS nbo_1 rfl rfl hl.1 rfl (Nat.le_of_ble_eq_true rfl) dX8_steps_16 (fun H locs hP hS => ?_)
    refine lv_goto (tgt := 23) hx hb dX8_steps_19 (by decide) ?_
    exact nb_iret hx hb hr hlocks hP hS (nSo hf) dX8_steps_23
def l_X8_steps_0 (N : Nat) : nS → Int32 → Option (Int32 × nS) := b_X8_steps_0 N
theorem kl_X8_steps_0 {p : Program} {l : Launch} {e : Env} {s : State} {m : MethodId} {args : Array Value} {below : List Frame} {meth : Method} {c : Code} {D : va_G} {A : Nat → Prop} {cy : Nat → ClassId} {a kt vt : Nat → Nat} {N : Nat}   (C0 : nCx p s m args meth c cX8_steps 2 (some .int) RX8 wsX8_steps) (hE : nEn D A cy (NBw cy a) kt vt s) {z : Int32 × nS} : ∀ (σ : nS) (x1 : Int32) (H : Heap) (locs : List Loc) (ls : Array Slot), lv_has ls 2 [(0, .ref (a 0)), (1, .int x1)] → va_P D vwCl ((NBw cy a) σ) H → va_S A s.heap H locs → l_X8_steps_0 N σ x1 = some z → W p l e ({ frames := 1, cells := 0, slots := 0, locals := 21 } : Room) s m args below meth c H locs 0 0 (nQi below D A (NBw cy a) args s z) (F0 m 0 ls []) := by
  exact kb_X8_steps_0 (N := N)  C0 hE
def f_X8_steps (N : Nat) (x1 : Int32) (σ : nS) : Option (Int32 × nS) := l_X8_steps_0 N σ x1
set_option maxHeartbeats 4000000 in
set_option maxRecDepth 100000 in
theorem c_X8_steps {l : Launch} {D : va_G} {A : Nat → Prop} {cy : Nat → ClassId} {a kt vt : Nat → Nat} {N : Nat}   {x1 : Int32} {σ : nS} {r : Int32} {σ' : nS} (hf : f_X8_steps N x1 σ = some (r, σ')) : nMi l yX8_steps wsX8_steps ({ frames := 1, cells := 0, slots := 0, locals := 21 } : Room) D A cy (NBw cy a) kt vt [.ref (a 0), .int x1] σ r σ' := by
  refine Met.ofW (cc := cX8_steps) (maxL := 2) (ret := (some .int)) (by decide) rfl ?_
  intro p e s m args below meth c s₁ B hml hv
  obtain ⟨rfl, hP, hE⟩ := hv
  have hl := lv_entry ([.ref (a 0), .int x1]) (n := 2) (Nat.le_of_ble_eq_true rfl)
  rw [lg_entry_eq]
  generalize (lg_sl ([.ref (a 0), .int x1]) ++ List.replicate (2 - (lg_sl ([.ref (a 0), .int x1])).length) Slot.unset).toArray = ls at hl ⊢
  have C0 : nCx p s m _ meth c cX8_steps 2 (some .int) RX8 wsX8_steps := ⟨B.exec, B.bytes, B.returns, hml, findClass_of_methodNamed B.named, atoms_spec (ws := wsX8_steps) B.pre, B.notSynchronized⟩
  exact kl_X8_steps_0 (N := N)  C0 hE (z := (r, σ')) σ x1 _ _ ls hl hP va_S.rf hf

/-! X8_hasStep -/
set_option maxRecDepth 20000 in
theorem iX8_hasStep_X8 : ∀ w ∈ u_ws RX8 TX8 13, w ∈ wsX8_hasStep := fun _ h => List.mem_cons_of_mem _ (List.mem_append_left _ (List.mem_append_right _ h))
set_option maxRecDepth 20000 in
theorem qX8_hasStep_12 : Cond.fieldLink RX8 12 RX8 (TX8 0).2.1 (TX8 0).2.2.1 ∈ wsX8_hasStep := by decide +kernel
def b_X8_hasStep_0 (N : Nat) (σ : nS) (x1 : Int32) (x2 : Int32) : Option (Int32 × nS) := nBd (f_X7_hasBook N x1 σ) (fun r1 σ2 => (if r1 = 0 then some (0, σ2) else (if x2 < 0 then some (0, σ2) else nBd (f_X7_sizeOf N x1 σ2) (fun r3 σ4 => (if r3 ≤ x2 then some (0, σ4) else some (1, σ4))))))
set_option maxHeartbeats 4000000 in
set_option maxRecDepth 100000 in
theorem kb_X8_hasStep_0 {p : Program} {l : Launch} {e : Env} {s : State} {m : MethodId} {args : Array Value} {below : List Frame} {meth : Method} {c : Code} {D : va_G} {A : Nat → Prop} {cy : Nat → ClassId} {a kt vt : Nat → Nat} {N : Nat}   (C0 : nCx p s m args meth c cX8_hasStep 3 (some .boolean) RX8 wsX8_hasStep) (hE : nEn D A cy (NBw cy a) kt vt s) {z : Int32 × nS} : ∀ (σ : nS) (x1 : Int32) (x2 : Int32) (H : Heap) (locs : List Loc) (ls : Array Slot), lv_has ls 3 [(0, .ref (a 0)), (1, .int x1), (2, .int x2)] → va_P D vwCl ((NBw cy a) σ) H → va_S A s.heap H locs → b_X8_hasStep_0 N σ x1 x2 = some z → W p l e ({ frames := 1, cells := 0, slots := 0, locals := 21 } : Room) s m args below meth c H locs 0 0 (nQi below D A (NBw cy a) args s z) (F0 m 0 ls []) := by
  obtain ⟨hx, hb, hr, hml, hown, hts, hlocks⟩ := C0
  intro σ x1 x2 H locs ls hl hP hS hf
  unfold b_X8_hasStep_0 at hf
  refine lv_aload_n hx hb dX8_hasStep_0 rfl (lv_at hl 0 rfl) ?_
  refine nb_get (ci := 8) hx hb hts iX8_hasStep_X8 hown hE hP 0 nbo_0 rfl 0 (by decide) qX8_hasStep_12 rfl rfl dX8_hasStep_1 ?_
  refine lv_iload_n hx hb dX8_hasStep_4 rfl (lv_at hl 1 rfl) ?_
  obtain ⟨r1, σ2, hc2, hf⟩ := nBd_e hf
  refine nb_callVi (As := [.int x1]) (rest := []) ⟨hx, hb, hml, hown, hts⟩ (c_X7_hasBook (D := D) (A := A) (cy := cy) (a := a) (kt := kt) (vt := vt) (l := l)  hc2) (cwV 1 hts gX8_hasStep_X7_hasBook rfl rfl rfl (by decide +kernel) ⟨Nat.le_of_ble_eq_true rfl, Nat.le_of_ble_eq_true rfl⟩) hE hP hS nbo_1 rfl rfl hl.1 rfl (Nat.le_of_ble_eq_true rfl) dX8_hasStep_5 (fun H locs hP hS => ?_)
  refine lv_if_eq (tgt := 31) hx hb dX8_hasStep_8 (by decide) (fun hc => ?_) (fun hc => ?_)
  · replace hf := nIf_t hc hf
    refine lv_iconst (v := 0) hx hb dX8_hasStep_31 (by decide) ?_
    exact nb_zret hx hb hr hlocks hP hS (nSo hf) rfl dX8_hasStep_32
  · replace hf := nIf_f hc hf
    refine lv_iload_n hx hb dX8_hasStep_11 rfl (lv_at hl 2 rfl) ?_
    refine lv_if_lt (tgt := 31) hx hb dX8_hasStep_12 (by decide) (fun hc => ?_) (fun hc => ?_)
    · replace hf := nIf_t hc hf
      refine lv_iconst (v := 0) hx hb dX8_hasStep_31 (by decide) ?_
      exact nb_zret hx hb hr hlocks hP hS (nSo hf) rfl dX8_hasStep_32
    · replace hf := nIf_f hc hf
      refine lv_iload_n hx hb dX8_hasStep_15 rfl (lv_at hl 2 rfl) ?_
      refine lv_aload_n hx hb dX8_hasStep_16 rfl (lv_at hl 0 rfl) ?_
      refine nb_get (ci := 8) hx hb hts iX8_hasStep_X8 hown hE hP 0 nbo_0 rfl 0 (by decide) qX8_hasStep_12 rfl rfl dX8_hasStep_17 ?_
      refine lv_iload_n hx hb dX8_hasStep_20 rfl (lv_at hl 1 rfl) ?_
      obtain ⟨r3, σ4, hc4, hf⟩ := nBd_e hf
      refine nb_callVi (As := [.int x1]) (rest := [.int x2]) ⟨hx, hb, hml, hown, hts⟩ (c_X7_sizeOf (D := D) (A := A) (cy := cy) (a := a) (kt := kt) (vt := vt) (l := l)  hc4) (cwV 1 hts gX8_hasStep_X7_sizeOf rfl rfl rfl (by decide +kernel) ⟨Nat.le_of_ble_eq_true rfl, Nat.le_of_ble_eq_true rfl⟩) hE hP hS nbo_1 rfl rfl hl.1 rfl (Nat.le_of_ble_eq_true rfl) dX8_hasStep_21 (fun H locs hP hS => ?_)
      refine lv_icmp_ge (tgt := 31) hx hb dX8_hasStep_24 (by decide) (fun hc => ?_) (fun hc => ?_)
      · replace hf := nIf_t hc hf
        refine lv_iconst (v := 0) hx hb dX8_hasStep_31 (by decide) ?_
        exact nb_zret hx hb hr hlocks hP hS (nSo hf) rfl dX8_hasStep_32
      · replace hf := nIf_f hc hf
        refine lv_iconst (v := 1) hx hb dX8_hasStep_27 (by decide) ?_
        refine lv_goto (tgt := 32) hx hb dX8_hasStep_28 (by decide) ?_
        exact nb_zret hx hb hr hlocks hP hS (nSo hf) rfl dX8_hasStep_32
def l_X8_hasStep_0 (N : Nat) : nS → Int32 → Int32 → Option (Int32 × nS) := b_X8_hasStep_0 N
theorem kl_X8_hasStep_0 {p : Program} {l : Launch} {e : Env} {s : State} {m : MethodId} {args : Array Value} {below : List Frame} {meth : Method} {c : Code} {D : va_G} {A : Nat → Prop} {cy : Nat → ClassId} {a kt vt : Nat → Nat} {N : Nat}   (C0 : nCx p s m args meth c cX8_hasStep 3 (some .boolean) RX8 wsX8_hasStep) (hE : nEn D A cy (NBw cy a) kt vt s) {z : Int32 × nS} : ∀ (σ : nS) (x1 : Int32) (x2 : Int32) (H : Heap) (locs : List Loc) (ls : Array Slot), lv_has ls 3 [(0, .ref (a 0)), (1, .int x1), (2, .int x2)] → va_P D vwCl ((NBw cy a) σ) H → va_S A s.heap H locs → l_X8_hasStep_0 N σ x1 x2 = some z → W p l e ({ frames := 1, cells := 0, slots := 0, locals := 21 } : Room) s m args below meth c H locs 0 0 (nQi below D A (NBw cy a) args s z) (F0 m 0 ls []) := by
  exact kb_X8_hasStep_0 (N := N)  C0 hE
def f_X8_hasStep (N : Nat) (x1 : Int32) (x2 : Int32) (σ : nS) : Option (Int32 × nS) := l_X8_hasStep_0 N σ x1 x2
set_option maxHeartbeats 4000000 in
set_option maxRecDepth 100000 in
theorem c_X8_hasStep {l : Launch} {D : va_G} {A : Nat → Prop} {cy : Nat → ClassId} {a kt vt : Nat → Nat} {N : Nat}   {x1 : Int32} {x2 : Int32} {σ : nS} {r : Int32} {σ' : nS} (hf : f_X8_hasStep N x1 x2 σ = some (r, σ')) : nMi l yX8_hasStep wsX8_hasStep ({ frames := 1, cells := 0, slots := 0, locals := 21 } : Room) D A cy (NBw cy a) kt vt [.ref (a 0), .int x1, .int x2] σ r σ' := by
  refine Met.ofW (cc := cX8_hasStep) (maxL := 3) (ret := (some .boolean)) (by decide) rfl ?_
  intro p e s m args below meth c s₁ B hml hv
  obtain ⟨rfl, hP, hE⟩ := hv
  have hl := lv_entry ([.ref (a 0), .int x1, .int x2]) (n := 3) (Nat.le_of_ble_eq_true rfl)
  rw [lg_entry_eq]
  generalize (lg_sl ([.ref (a 0), .int x1, .int x2]) ++ List.replicate (3 - (lg_sl ([.ref (a 0), .int x1, .int x2])).length) Slot.unset).toArray = ls at hl ⊢
  have C0 : nCx p s m _ meth c cX8_hasStep 3 (some .boolean) RX8 wsX8_hasStep := ⟨B.exec, B.bytes, B.returns, hml, findClass_of_methodNamed B.named, atoms_spec (ws := wsX8_hasStep) B.pre, B.notSynchronized⟩
  exact kl_X8_hasStep_0 (N := N)  C0 hE (z := (r, σ')) σ x1 x2 _ _ ls hl hP va_S.rf hf

/-! X8_step -/
set_option maxRecDepth 20000 in
theorem iX8_step_X8 : ∀ w ∈ u_ws RX8 TX8 13, w ∈ wsX8_step := fun _ h => List.mem_cons_of_mem _ (List.mem_append_left _ (List.mem_append_right _ h))
set_option maxRecDepth 20000 in
theorem qX8_step_12 : Cond.fieldLink RX8 12 RX8 (TX8 0).2.1 (TX8 0).2.2.1 ∈ wsX8_step := by decide +kernel
def b_X8_step_0 (N : Nat) (σ : nS) (x1 : Int32) (x2 : Int32) (x3 : Int32) : Option (Int32 × nS) := nBd (f_X8_hasStep N x1 x2 σ) (fun r1 σ2 => (if r1 = 0 then some ((-1), σ2) else (if x3 < 0 then some ((-1), σ2) else (if (5 : Int32) ≤ x3 then some ((-1), σ2) else nBd (f_X7_cell N x1 x2 x3 σ2) (fun r3 σ4 => some (r3, σ4))))))
set_option maxHeartbeats 4000000 in
set_option maxRecDepth 100000 in
theorem kb_X8_step_0 {p : Program} {l : Launch} {e : Env} {s : State} {m : MethodId} {args : Array Value} {below : List Frame} {meth : Method} {c : Code} {D : va_G} {A : Nat → Prop} {cy : Nat → ClassId} {a kt vt : Nat → Nat} {N : Nat}   (C0 : nCx p s m args meth c cX8_step 4 (some .int) RX8 wsX8_step) (hE : nEn D A cy (NBw cy a) kt vt s) {z : Int32 × nS} : ∀ (σ : nS) (x1 : Int32) (x2 : Int32) (x3 : Int32) (H : Heap) (locs : List Loc) (ls : Array Slot), lv_has ls 4 [(0, .ref (a 0)), (1, .int x1), (2, .int x2), (3, .int x3)] → va_P D vwCl ((NBw cy a) σ) H → va_S A s.heap H locs → b_X8_step_0 N σ x1 x2 x3 = some z → W p l e ({ frames := 2, cells := 0, slots := 0, locals := 43 } : Room) s m args below meth c H locs 0 0 (nQi below D A (NBw cy a) args s z) (F0 m 0 ls []) := by
  obtain ⟨hx, hb, hr, hml, hown, hts, hlocks⟩ := C0
  intro σ x1 x2 x3 H locs ls hl hP hS hf
  unfold b_X8_step_0 at hf
  refine lv_aload_n hx hb dX8_step_0 rfl (lv_at hl 0 rfl) ?_
  refine lv_iload_n hx hb dX8_step_1 rfl (lv_at hl 1 rfl) ?_
  refine lv_iload_n hx hb dX8_step_2 rfl (lv_at hl 2 rfl) ?_
  obtain ⟨r1, σ2, hc2, hf⟩ := nBd_e hf
  refine nb_callVi (As := [.int x1, .int x2]) (rest := []) ⟨hx, hb, hml, hown, hts⟩ (c_X8_hasStep (D := D) (A := A) (cy := cy) (a := a) (kt := kt) (vt := vt) (l := l)  hc2) (cwV 2 hts gX8_step_X8_hasStep rfl rfl rfl (by decide +kernel) ⟨Nat.le_of_ble_eq_true rfl, Nat.le_of_ble_eq_true rfl⟩) hE hP hS nbo_0 rfl rfl hl.1 rfl (Nat.le_of_ble_eq_true rfl) dX8_step_3 (fun H locs hP hS => ?_)
  refine lv_if_eq (tgt := 31) hx hb dX8_step_6 (by decide) (fun hc => ?_) (fun hc => ?_)
  · replace hf := nIf_t hc hf
    refine lv_iconst (v := (-1)) hx hb dX8_step_31 (by decide) ?_
    exact nb_iret hx hb hr hlocks hP hS (nSo hf) dX8_step_32
  · replace hf := nIf_f hc hf
    refine lv_iload_n hx hb dX8_step_9 rfl (lv_at hl 3 rfl) ?_
    refine lv_if_lt (tgt := 31) hx hb dX8_step_10 (by decide) (fun hc => ?_) (fun hc => ?_)
    · replace hf := nIf_t hc hf
      refine lv_iconst (v := (-1)) hx hb dX8_step_31 (by decide) ?_
      exact nb_iret hx hb hr hlocks hP hS (nSo hf) dX8_step_32
    · replace hf := nIf_f hc hf
      refine lv_iload_n hx hb dX8_step_13 rfl (lv_at hl 3 rfl) ?_
      refine lv_iconst (v := 5) hx hb dX8_step_14 (by decide) ?_
      refine lv_icmp_ge (tgt := 31) hx hb dX8_step_15 (by decide) (fun hc => ?_) (fun hc => ?_)
      · replace hf := nIf_t hc hf
        refine lv_iconst (v := (-1)) hx hb dX8_step_31 (by decide) ?_
        exact nb_iret hx hb hr hlocks hP hS (nSo hf) dX8_step_32
      · replace hf := nIf_f hc hf
        refine lv_aload_n hx hb dX8_step_18 rfl (lv_at hl 0 rfl) ?_
        refine nb_get (ci := 8) hx hb hts iX8_step_X8 hown hE hP 0 nbo_0 rfl 0 (by decide) qX8_step_12 rfl rfl dX8_step_19 ?_
        refine lv_iload_n hx hb dX8_step_22 rfl (lv_at hl 1 rfl) ?_
        refine lv_iload_n hx hb dX8_step_23 rfl (lv_at hl 2 rfl) ?_
        refine lv_iload_n hx hb dX8_step_24 rfl (lv_at hl 3 rfl) ?_
        obtain ⟨r3, σ4, hc4, hf⟩ := nBd_e hf
        refine nb_callVi (As := [.int x1, .int x2, .int x3]) (rest := []) ⟨hx, hb, hml, hown, hts⟩ (c_X7_cell (D := D) (A := A) (cy := cy) (a := a) (kt := kt) (vt := vt) (l := l)  hc4) (cwV 3 hts gX8_step_X7_cell rfl rfl rfl (by decide +kernel) ⟨Nat.le_of_ble_eq_true rfl, Nat.le_of_ble_eq_true rfl⟩) hE hP hS nbo_1 rfl rfl hl.1 rfl (Nat.le_of_ble_eq_true rfl) dX8_step_25 (fun H locs hP hS => ?_)
        refine lv_goto (tgt := 32) hx hb dX8_step_28 (by decide) ?_
        exact nb_iret hx hb hr hlocks hP hS (nSo hf) dX8_step_32
def l_X8_step_0 (N : Nat) : nS → Int32 → Int32 → Int32 → Option (Int32 × nS) := b_X8_step_0 N
theorem kl_X8_step_0 {p : Program} {l : Launch} {e : Env} {s : State} {m : MethodId} {args : Array Value} {below : List Frame} {meth : Method} {c : Code} {D : va_G} {A : Nat → Prop} {cy : Nat → ClassId} {a kt vt : Nat → Nat} {N : Nat}   (C0 : nCx p s m args meth c cX8_step 4 (some .int) RX8 wsX8_step) (hE : nEn D A cy (NBw cy a) kt vt s) {z : Int32 × nS} : ∀ (σ : nS) (x1 : Int32) (x2 : Int32) (x3 : Int32) (H : Heap) (locs : List Loc) (ls : Array Slot), lv_has ls 4 [(0, .ref (a 0)), (1, .int x1), (2, .int x2), (3, .int x3)] → va_P D vwCl ((NBw cy a) σ) H → va_S A s.heap H locs → l_X8_step_0 N σ x1 x2 x3 = some z → W p l e ({ frames := 2, cells := 0, slots := 0, locals := 43 } : Room) s m args below meth c H locs 0 0 (nQi below D A (NBw cy a) args s z) (F0 m 0 ls []) := by
  exact kb_X8_step_0 (N := N)  C0 hE
def f_X8_step (N : Nat) (x1 : Int32) (x2 : Int32) (x3 : Int32) (σ : nS) : Option (Int32 × nS) := l_X8_step_0 N σ x1 x2 x3
set_option maxHeartbeats 4000000 in
set_option maxRecDepth 100000 in
theorem c_X8_step {l : Launch} {D : va_G} {A : Nat → Prop} {cy : Nat → ClassId} {a kt vt : Nat → Nat} {N : Nat}   {x1 : Int32} {x2 : Int32} {x3 : Int32} {σ : nS} {r : Int32} {σ' : nS} (hf : f_X8_step N x1 x2 x3 σ = some (r, σ')) : nMi l yX8_step wsX8_step ({ frames := 2, cells := 0, slots := 0, locals := 43 } : Room) D A cy (NBw cy a) kt vt [.ref (a 0), .int x1, .int x2, .int x3] σ r σ' := by
  refine Met.ofW (cc := cX8_step) (maxL := 4) (ret := (some .int)) (by decide) rfl ?_
  intro p e s m args below meth c s₁ B hml hv
  obtain ⟨rfl, hP, hE⟩ := hv
  have hl := lv_entry ([.ref (a 0), .int x1, .int x2, .int x3]) (n := 4) (Nat.le_of_ble_eq_true rfl)
  rw [lg_entry_eq]
  generalize (lg_sl ([.ref (a 0), .int x1, .int x2, .int x3]) ++ List.replicate (4 - (lg_sl ([.ref (a 0), .int x1, .int x2, .int x3])).length) Slot.unset).toArray = ls at hl ⊢
  have C0 : nCx p s m _ meth c cX8_step 4 (some .int) RX8 wsX8_step := ⟨B.exec, B.bytes, B.returns, hml, findClass_of_methodNamed B.named, atoms_spec (ws := wsX8_step) B.pre, B.notSynchronized⟩
  exact kl_X8_step_0 (N := N)  C0 hE (z := (r, σ')) σ x1 x2 x3 _ _ ls hl hP va_S.rf hf

/-! X8_play -/
set_option maxRecDepth 20000 in
theorem iX8_play_X8 : ∀ w ∈ u_ws RX8 TX8 13, w ∈ wsX8_play := fun _ h => List.mem_cons_of_mem _ (List.mem_append_left _ (List.mem_append_left _ (List.mem_append_left _ (List.mem_append_right _ h))))
set_option maxRecDepth 20000 in
theorem qX8_play_12 : Cond.fieldLink RX8 12 RX8 (TX8 0).2.1 (TX8 0).2.2.1 ∈ wsX8_play := by decide +kernel
set_option maxRecDepth 20000 in
theorem qX8_play_35 : Cond.fieldLink RX8 35 RX8 (TX8 3).2.1 (TX8 3).2.2.1 ∈ wsX8_play := by decide +kernel
set_option maxRecDepth 20000 in
theorem qX8_play_26 : Cond.fieldLink RX8 26 RX8 (TX8 2).2.1 (TX8 2).2.2.1 ∈ wsX8_play := by decide +kernel
set_option maxRecDepth 20000 in
theorem iX8_play_X6 : ∀ w ∈ u_ws RX6 TX6 12, w ∈ wsX8_play := fun _ h => List.mem_cons_of_mem _ (List.mem_append_left _ (List.mem_append_left _ (List.mem_append_right _ h)))
def b_X8_play_0 (N : Nat) (σ : nS) (x1 : Int32) (x2 : Int32) (x3 : Int32) (x4 : Int32) : Option (Int32 × nS) := nBd (f_X7_hasBook N x1 σ) (fun r1 σ2 => (if r1 = 0 then nBd (f_X8_refuse N 1 σ2) (fun r23 σ24 => some (r23, σ24)) else nBd (f_X8_areBits N x2 σ2) (fun r3 σ4 => (if r3 = 0 then nBd (f_X8_refuse N 2 σ4) (fun r5 σ6 => some (r5, σ6)) else nBd (f_X8_areBits N x3 σ4) (fun r7 σ8 => (if r7 = 0 then nBd (f_X8_refuse N 2 σ8) (fun r9 σ10 => some (r9, σ10)) else nBd (f_X8_areBits N x4 σ8) (fun r11 σ12 => (if r11 = 0 then nBd (f_X8_refuse N 2 σ12) (fun r21 σ22 => some (r21, σ22)) else nBd (f_X6_start N 24 x1 x2 x3 x4 σ12) (fun r13 σ14 => nBd (f_X3_rest N σ14) (fun r15 σ16 => nBd (f_X6_goOn N 24 5240 σ16) (fun r17 σ18 => nBd (f_X8_accept N (σ18.1 24 11) σ18) (fun r19 σ20 => some (r19, σ20)))))))))))))
set_option maxHeartbeats 4000000 in
set_option maxRecDepth 100000 in
theorem kb_X8_play_0 {p : Program} {l : Launch} {e : Env} {s : State} {m : MethodId} {args : Array Value} {below : List Frame} {meth : Method} {c : Code} {D : va_G} {A : Nat → Prop} {cy : Nat → ClassId} {a kt vt : Nat → Nat} {N : Nat}   (C0 : nCx p s m args meth c cX8_play 5 (some .int) RX8 wsX8_play) (hE : nEn D A cy (NBw cy a) kt vt s) {z : Int32 × nS} : ∀ (σ : nS) (x1 : Int32) (x2 : Int32) (x3 : Int32) (x4 : Int32) (H : Heap) (locs : List Loc) (ls : Array Slot), lv_has ls 5 [(0, .ref (a 0)), (1, .int x1), (2, .int x2), (3, .int x3), (4, .int x4)] → va_P D vwCl ((NBw cy a) σ) H → va_S A s.heap H locs → b_X8_play_0 N σ x1 x2 x3 x4 = some z → W p l e ({ frames := 3, cells := 0, slots := 0, locals := 74 } : Room) s m args below meth c H locs 0 0 (nQi below D A (NBw cy a) args s z) (F0 m 0 ls []) := by
  obtain ⟨hx, hb, hr, hml, hown, hts, hlocks⟩ := C0
  intro σ x1 x2 x3 x4 H locs ls hl hP hS hf
  unfold b_X8_play_0 at hf
  refine lv_aload_n hx hb dX8_play_0 rfl (lv_at hl 0 rfl) ?_
  refine nb_get (ci := 8) hx hb hts iX8_play_X8 hown hE hP 0 nbo_0 rfl 0 (by decide) qX8_play_12 rfl rfl dX8_play_1 ?_
  refine lv_iload_n hx hb dX8_play_4 rfl (lv_at hl 1 rfl) ?_
  obtain ⟨r1, σ2, hc2, hf⟩ := nBd_e hf
  refine nb_callVi (As := [.int x1]) (rest := []) ⟨hx, hb, hml, hown, hts⟩ (c_X7_hasBook (D := D) (A := A) (cy := cy) (a := a) (kt := kt) (vt := vt) (l := l)  hc2) (cwV 1 hts gX8_play_X7_hasBook rfl rfl rfl (by decide +kernel) ⟨Nat.le_of_ble_eq_true rfl, Nat.le_of_ble_eq_true rfl⟩) hE hP hS nbo_1 rfl rfl hl.1 rfl (Nat.le_of_ble_eq_true rfl) dX8_play_5 (fun H locs hP hS => ?_)
  refine lv_if_ne (tgt := 17) hx hb dX8_play_8 (by decide) (fun hc => ?_) (fun hc => ?_)
  · replace hf := nIf_f hc hf
    refine lv_iload_n hx hb dX8_play_17 rfl (lv_at hl 2 rfl) ?_
    obtain ⟨r3, σ4, hc4, hf⟩ := nBd_e hf
    refine nb_callSi (As := [.int x2]) (rest := []) ⟨hx, hb, hml, hown, hts⟩ (c_X8_areBits (D := D) (A := A) (cy := cy) (a := a) (kt := kt) (vt := vt) (l := l)  hc4) (va_cwS 1 hts gX8_play_X8_areBits rfl rfl rfl (by decide +kernel) ⟨Nat.le_of_ble_eq_true rfl, Nat.le_of_ble_eq_true rfl⟩) hE hP hS rfl hl.1 rfl (Nat.le_of_ble_eq_true rfl) dX8_play_18 (fun H locs hP hS => ?_)
    refine lv_if_eq (tgt := 39) hx hb dX8_play_21 (by decide) (fun hc => ?_) (fun hc => ?_)
    · replace hf := nIf_t hc hf
      refine lv_aload_n hx hb dX8_play_39 rfl (lv_at hl 0 rfl) ?_
      refine lv_iconst (v := 2) hx hb dX8_play_40 (by decide) ?_
      obtain ⟨r5, σ6, hc6, hf⟩ := nBd_e hf
      refine nb_callVi (As := [.int 2]) (rest := []) ⟨hx, hb, hml, hown, hts⟩ (c_X8_refuse (D := D) (A := A) (cy := cy) (a := a) (kt := kt) (vt := vt) (l := l)  hc6) (cwV 1 hts gX8_play_X8_refuse rfl rfl rfl (by decide +kernel) ⟨Nat.le_of_ble_eq_true rfl, Nat.le_of_ble_eq_true rfl⟩) hE hP hS nbo_0 rfl rfl hl.1 rfl (Nat.le_of_ble_eq_true rfl) dX8_play_41 (fun H locs hP hS => ?_)
      exact nb_iret hx hb hr hlocks hP hS (nSo hf) dX8_play_44
    · replace hf := nIf_f hc hf
      refine lv_iload_n hx hb dX8_play_24 rfl (lv_at hl 3 rfl) ?_
      obtain ⟨r7, σ8, hc8, hf⟩ := nBd_e hf
      refine nb_callSi (As := [.int x3]) (rest := []) ⟨hx, hb, hml, hown, hts⟩ (c_X8_areBits (D := D) (A := A) (cy := cy) (a := a) (kt := kt) (vt := vt) (l := l)  hc8) (va_cwS 1 hts gX8_play_X8_areBits rfl rfl rfl (by decide +kernel) ⟨Nat.le_of_ble_eq_true rfl, Nat.le_of_ble_eq_true rfl⟩) hE hP hS rfl hl.1 rfl (Nat.le_of_ble_eq_true rfl) dX8_play_25 (fun H locs hP hS => ?_)
      refine lv_if_eq (tgt := 39) hx hb dX8_play_28 (by decide) (fun hc => ?_) (fun hc => ?_)
      · replace hf := nIf_t hc hf
        refine lv_aload_n hx hb dX8_play_39 rfl (lv_at hl 0 rfl) ?_
        refine lv_iconst (v := 2) hx hb dX8_play_40 (by decide) ?_
        obtain ⟨r9, σ10, hc10, hf⟩ := nBd_e hf
        refine nb_callVi (As := [.int 2]) (rest := []) ⟨hx, hb, hml, hown, hts⟩ (c_X8_refuse (D := D) (A := A) (cy := cy) (a := a) (kt := kt) (vt := vt) (l := l)  hc10) (cwV 1 hts gX8_play_X8_refuse rfl rfl rfl (by decide +kernel) ⟨Nat.le_of_ble_eq_true rfl, Nat.le_of_ble_eq_true rfl⟩) hE hP hS nbo_0 rfl rfl hl.1 rfl (Nat.le_of_ble_eq_true rfl) dX8_play_41 (fun H locs hP hS => ?_)
        exact nb_iret hx hb hr hlocks hP hS (nSo hf) dX8_play_44
      · replace hf := nIf_f hc hf
        refine lv_iload hx hb dX8_play_31 (lv_at hl 4 rfl) ?_
        obtain ⟨r11, σ12, hc12, hf⟩ := nBd_e hf
        refine nb_callSi (As := [.int x4]) (rest := []) ⟨hx, hb, hml, hown, hts⟩ (c_X8_areBits (D := D) (A := A) (cy := cy) (a := a) (kt := kt) (vt := vt) (l := l)  hc12) (va_cwS 1 hts gX8_play_X8_areBits rfl rfl rfl (by decide +kernel) ⟨Nat.le_of_ble_eq_true rfl, Nat.le_of_ble_eq_true rfl⟩) hE hP hS rfl hl.1 rfl (Nat.le_of_ble_eq_true rfl) dX8_play_33 (fun H locs hP hS => ?_)
        refine lv_if_ne (tgt := 45) hx hb dX8_play_36 (by decide) (fun hc => ?_) (fun hc => ?_)
        · replace hf := nIf_f hc hf
          refine lv_aload_n hx hb dX8_play_45 rfl (lv_at hl 0 rfl) ?_
          refine nb_get (ci := 8) hx hb hts iX8_play_X8 hown hE hP 0 nbo_0 rfl 3 (by decide) qX8_play_35 rfl rfl dX8_play_46 ?_
          refine lv_aload_n hx hb dX8_play_49 rfl (lv_at hl 0 rfl) ?_
          refine nb_get (ci := 8) hx hb hts iX8_play_X8 hown hE hP 0 nbo_0 rfl 0 (by decide) qX8_play_12 rfl rfl dX8_play_50 ?_
          refine lv_iload_n hx hb dX8_play_53 rfl (lv_at hl 1 rfl) ?_
          refine lv_iload_n hx hb dX8_play_54 rfl (lv_at hl 2 rfl) ?_
          refine lv_iload_n hx hb dX8_play_55 rfl (lv_at hl 3 rfl) ?_
          refine lv_iload hx hb dX8_play_56 (lv_at hl 4 rfl) ?_
          obtain ⟨r13, σ14, hc14, hf⟩ := nBd_e hf
          refine nb_callVv (As := [.ref (a 1), .int x1, .int x2, .int x3, .int x4]) (rest := []) ⟨hx, hb, hml, hown, hts⟩ (c_X6_start (D := D) (A := A) (cy := cy) (a := a) (kt := kt) (vt := vt) (l := l) nWk_24 hc14) (cwV 5 hts gX8_play_X6_start rfl rfl rfl (by decide +kernel) ⟨Nat.le_of_ble_eq_true rfl, Nat.le_of_ble_eq_true rfl⟩) hE hP hS (nboW nWk_24) rfl rfl hl.1 rfl (Nat.le_of_ble_eq_true rfl) dX8_play_58 (fun H locs hP hS => ?_)
          refine lv_aload_n hx hb dX8_play_61 rfl (lv_at hl 0 rfl) ?_
          refine nb_get (ci := 8) hx hb hts iX8_play_X8 hown hE hP 0 nbo_0 rfl 2 (by decide) qX8_play_26 rfl rfl dX8_play_62 ?_
          obtain ⟨r15, σ16, hc16, hf⟩ := nBd_e hf
          refine nb_callVv (As := []) (rest := []) ⟨hx, hb, hml, hown, hts⟩ (c_X3_rest (D := D) (A := A) (cy := cy) (a := a) (kt := kt) (vt := vt) (l := l)  hc16) (cwV 0 hts gX8_play_X3_rest rfl rfl rfl (by decide +kernel) ⟨Nat.le_of_ble_eq_true rfl, Nat.le_of_ble_eq_true rfl⟩) hE hP hS nbo_10 rfl rfl hl.1 rfl (Nat.le_of_ble_eq_true rfl) dX8_play_65 (fun H locs hP hS => ?_)
          refine lv_aload_n hx hb dX8_play_68 rfl (lv_at hl 0 rfl) ?_
          refine nb_get (ci := 8) hx hb hts iX8_play_X8 hown hE hP 0 nbo_0 rfl 3 (by decide) qX8_play_35 rfl rfl dX8_play_69 ?_
          refine lv_aload_n hx hb dX8_play_72 rfl (lv_at hl 0 rfl) ?_
          refine nb_get (ci := 8) hx hb hts iX8_play_X8 hown hE hP 0 nbo_0 rfl 0 (by decide) qX8_play_12 rfl rfl dX8_play_73 ?_
          refine lv_aload_n hx hb dX8_play_76 rfl (lv_at hl 0 rfl) ?_
          refine nb_get (ci := 8) hx hb hts iX8_play_X8 hown hE hP 0 nbo_0 rfl 2 (by decide) qX8_play_26 rfl rfl dX8_play_77 ?_
          refine lv_sipush (v := 5240) hx hb dX8_play_80 (by decide) ?_
          obtain ⟨r17, σ18, hc18, hf⟩ := nBd_e hf
          refine nb_callVv (As := [.ref (a 1), .ref (a 10), .int 5240]) (rest := []) ⟨hx, hb, hml, hown, hts⟩ (c_X6_goOn (D := D) (A := A) (cy := cy) (a := a) (kt := kt) (vt := vt) (l := l) nWk_24 hc18) (cwV 3 hts gX8_play_X6_goOn rfl rfl rfl (by decide +kernel) ⟨Nat.le_of_ble_eq_true rfl, Nat.le_of_ble_eq_true rfl⟩) hE hP hS (nboW nWk_24) rfl rfl hl.1 rfl (Nat.le_of_ble_eq_true rfl) dX8_play_83 (fun H locs hP hS => ?_)
          refine lv_aload_n hx hb dX8_play_86 rfl (lv_at hl 0 rfl) ?_
          refine lv_aload_n hx hb dX8_play_87 rfl (lv_at hl 0 rfl) ?_
          refine nb_get (ci := 8) hx hb hts iX8_play_X8 hown hE hP 0 nbo_0 rfl 3 (by decide) qX8_play_35 rfl rfl dX8_play_88 ?_
          refine nb_getN (ci := 6) hx hb hts iX8_play_X6 hown hE hP 24 (nboW nWk_24) rfl 11 (by decide) (host := RX8) (by decide +kernel) rfl rfl dX8_play_91 ?_
          obtain ⟨r19, σ20, hc20, hf⟩ := nBd_e hf
          refine nb_callVi (As := [.int (σ18.1 24 11)]) (rest := []) ⟨hx, hb, hml, hown, hts⟩ (c_X8_accept (D := D) (A := A) (cy := cy) (a := a) (kt := kt) (vt := vt) (l := l)  hc20) (cwV 1 hts gX8_play_X8_accept rfl rfl rfl (by decide +kernel) ⟨Nat.le_of_ble_eq_true rfl, Nat.le_of_ble_eq_true rfl⟩) hE hP hS nbo_0 rfl rfl hl.1 rfl (Nat.le_of_ble_eq_true rfl) dX8_play_94 (fun H locs hP hS => ?_)
          exact nb_iret hx hb hr hlocks hP hS (nSo hf) dX8_play_97
        · replace hf := nIf_t hc hf
          refine lv_aload_n hx hb dX8_play_39 rfl (lv_at hl 0 rfl) ?_
          refine lv_iconst (v := 2) hx hb dX8_play_40 (by decide) ?_
          obtain ⟨r21, σ22, hc22, hf⟩ := nBd_e hf
          refine nb_callVi (As := [.int 2]) (rest := []) ⟨hx, hb, hml, hown, hts⟩ (c_X8_refuse (D := D) (A := A) (cy := cy) (a := a) (kt := kt) (vt := vt) (l := l)  hc22) (cwV 1 hts gX8_play_X8_refuse rfl rfl rfl (by decide +kernel) ⟨Nat.le_of_ble_eq_true rfl, Nat.le_of_ble_eq_true rfl⟩) hE hP hS nbo_0 rfl rfl hl.1 rfl (Nat.le_of_ble_eq_true rfl) dX8_play_41 (fun H locs hP hS => ?_)
          exact nb_iret hx hb hr hlocks hP hS (nSo hf) dX8_play_44
  · replace hf := nIf_t hc hf
    refine lv_aload_n hx hb dX8_play_11 rfl (lv_at hl 0 rfl) ?_
    refine lv_iconst (v := 1) hx hb dX8_play_12 (by decide) ?_
    obtain ⟨r23, σ24, hc24, hf⟩ := nBd_e hf
    refine nb_callVi (As := [.int 1]) (rest := []) ⟨hx, hb, hml, hown, hts⟩ (c_X8_refuse (D := D) (A := A) (cy := cy) (a := a) (kt := kt) (vt := vt) (l := l)  hc24) (cwV 1 hts gX8_play_X8_refuse rfl rfl rfl (by decide +kernel) ⟨Nat.le_of_ble_eq_true rfl, Nat.le_of_ble_eq_true rfl⟩) hE hP hS nbo_0 rfl rfl hl.1 rfl (Nat.le_of_ble_eq_true rfl) dX8_play_13 (fun H locs hP hS => ?_)
    exact nb_iret hx hb hr hlocks hP hS (nSo hf) dX8_play_16
def l_X8_play_0 (N : Nat) : nS → Int32 → Int32 → Int32 → Int32 → Option (Int32 × nS) := b_X8_play_0 N
theorem kl_X8_play_0 {p : Program} {l : Launch} {e : Env} {s : State} {m : MethodId} {args : Array Value} {below : List Frame} {meth : Method} {c : Code} {D : va_G} {A : Nat → Prop} {cy : Nat → ClassId} {a kt vt : Nat → Nat} {N : Nat}   (C0 : nCx p s m args meth c cX8_play 5 (some .int) RX8 wsX8_play) (hE : nEn D A cy (NBw cy a) kt vt s) {z : Int32 × nS} : ∀ (σ : nS) (x1 : Int32) (x2 : Int32) (x3 : Int32) (x4 : Int32) (H : Heap) (locs : List Loc) (ls : Array Slot), lv_has ls 5 [(0, .ref (a 0)), (1, .int x1), (2, .int x2), (3, .int x3), (4, .int x4)] → va_P D vwCl ((NBw cy a) σ) H → va_S A s.heap H locs → l_X8_play_0 N σ x1 x2 x3 x4 = some z → W p l e ({ frames := 3, cells := 0, slots := 0, locals := 74 } : Room) s m args below meth c H locs 0 0 (nQi below D A (NBw cy a) args s z) (F0 m 0 ls []) := by
  exact kb_X8_play_0 (N := N)  C0 hE
def f_X8_play (N : Nat) (x1 : Int32) (x2 : Int32) (x3 : Int32) (x4 : Int32) (σ : nS) : Option (Int32 × nS) := l_X8_play_0 N σ x1 x2 x3 x4
set_option maxHeartbeats 4000000 in
set_option maxRecDepth 100000 in
theorem c_X8_play {l : Launch} {D : va_G} {A : Nat → Prop} {cy : Nat → ClassId} {a kt vt : Nat → Nat} {N : Nat}   {x1 : Int32} {x2 : Int32} {x3 : Int32} {x4 : Int32} {σ : nS} {r : Int32} {σ' : nS} (hf : f_X8_play N x1 x2 x3 x4 σ = some (r, σ')) : nMi l yX8_play wsX8_play ({ frames := 3, cells := 0, slots := 0, locals := 74 } : Room) D A cy (NBw cy a) kt vt [.ref (a 0), .int x1, .int x2, .int x3, .int x4] σ r σ' := by
  refine Met.ofW (cc := cX8_play) (maxL := 5) (ret := (some .int)) (by decide) rfl ?_
  intro p e s m args below meth c s₁ B hml hv
  obtain ⟨rfl, hP, hE⟩ := hv
  have hl := lv_entry ([.ref (a 0), .int x1, .int x2, .int x3, .int x4]) (n := 5) (Nat.le_of_ble_eq_true rfl)
  rw [lg_entry_eq]
  generalize (lg_sl ([.ref (a 0), .int x1, .int x2, .int x3, .int x4]) ++ List.replicate (5 - (lg_sl ([.ref (a 0), .int x1, .int x2, .int x3, .int x4])).length) Slot.unset).toArray = ls at hl ⊢
  have C0 : nCx p s m _ meth c cX8_play 5 (some .int) RX8 wsX8_play := ⟨B.exec, B.bytes, B.returns, hml, findClass_of_methodNamed B.named, atoms_spec (ws := wsX8_play) B.pre, B.notSynchronized⟩
  exact kl_X8_play_0 (N := N)  C0 hE (z := (r, σ')) σ x1 x2 x3 x4 _ _ ls hl hP va_S.rf hf

/-! X8_nothingPlayed -/
set_option maxRecDepth 20000 in
theorem iX8_nothingPlayed_X8 : ∀ w ∈ u_ws RX8 TX8 13, w ∈ wsX8_nothingPlayed := fun _ h => List.mem_cons_of_mem _ (List.mem_append_left _ (List.mem_append_right _ h))
set_option maxRecDepth 20000 in
theorem qX8_nothingPlayed_35 : Cond.fieldLink RX8 35 RX8 (TX8 3).2.1 (TX8 3).2.2.1 ∈ wsX8_nothingPlayed := by decide +kernel
set_option maxRecDepth 20000 in
theorem iX8_nothingPlayed_X6 : ∀ w ∈ u_ws RX6 TX6 12, w ∈ wsX8_nothingPlayed := fun _ h => List.mem_cons_of_mem _ (List.mem_append_right _ h)
def b_X8_nothingPlayed_0 (N : Nat) (σ : nS) : Option (Int32 × nS) := (if (σ.1 24 11) = (-1) then some (1, σ) else some (0, σ))
set_option maxHeartbeats 4000000 in
set_option maxRecDepth 100000 in
theorem kb_X8_nothingPlayed_0 {p : Program} {l : Launch} {e : Env} {s : State} {m : MethodId} {args : Array Value} {below : List Frame} {meth : Method} {c : Code} {D : va_G} {A : Nat → Prop} {cy : Nat → ClassId} {a kt vt : Nat → Nat} {N : Nat}   (C0 : nCx p s m args meth c cX8_nothingPlayed 1 (some .boolean) RX8 wsX8_nothingPlayed) (hE : nEn D A cy (NBw cy a) kt vt s) {z : Int32 × nS} : ∀ (σ : nS) (H : Heap) (locs : List Loc) (ls : Array Slot), lv_has ls 1 [(0, .ref (a 0))] → va_P D vwCl ((NBw cy a) σ) H → va_S A s.heap H locs → b_X8_nothingPlayed_0 N σ = some z → W p l e ({ frames := 0, cells := 0, slots := 0, locals := 0 } : Room) s m args below meth c H locs 0 0 (nQi below D A (NBw cy a) args s z) (F0 m 0 ls []) := by
  obtain ⟨hx, hb, hr, hml, hown, hts, hlocks⟩ := C0
  intro σ  H locs ls hl hP hS hf
  unfold b_X8_nothingPlayed_0 at hf
  refine lv_aload_n hx hb dX8_nothingPlayed_0 rfl (lv_at hl 0 rfl) ?_
  refine nb_get (ci := 8) hx hb hts iX8_nothingPlayed_X8 hown hE hP 0 nbo_0 rfl 3 (by decide) qX8_nothingPlayed_35 rfl rfl dX8_nothingPlayed_1 ?_
  refine nb_getN (ci := 6) hx hb hts iX8_nothingPlayed_X6 hown hE hP 24 (nboW nWk_24) rfl 11 (by decide) (host := RX8) (by decide +kernel) rfl rfl dX8_nothingPlayed_4 ?_
  refine lv_iconst (v := (-1)) hx hb dX8_nothingPlayed_7 (by decide) ?_
  refine lv_icmp_ne (tgt := 15) hx hb dX8_nothingPlayed_8 (by decide) (fun hc => ?_) (fun hc => ?_)
  · replace hf := nIf_f hc hf
    refine lv_iconst (v := 0) hx hb dX8_nothingPlayed_15 (by decide) ?_
    exact nb_zret hx hb hr hlocks hP hS (nSo hf) rfl dX8_nothingPlayed_16
  · replace hf := nIf_t hc hf
    refine lv_iconst (v := 1) hx hb dX8_nothingPlayed_11 (by decide) ?_
    refine lv_goto (tgt := 16) hx hb dX8_nothingPlayed_12 (by decide) ?_
    exact nb_zret hx hb hr hlocks hP hS (nSo hf) rfl dX8_nothingPlayed_16
def l_X8_nothingPlayed_0 (N : Nat) : nS → Option (Int32 × nS) := b_X8_nothingPlayed_0 N
theorem kl_X8_nothingPlayed_0 {p : Program} {l : Launch} {e : Env} {s : State} {m : MethodId} {args : Array Value} {below : List Frame} {meth : Method} {c : Code} {D : va_G} {A : Nat → Prop} {cy : Nat → ClassId} {a kt vt : Nat → Nat} {N : Nat}   (C0 : nCx p s m args meth c cX8_nothingPlayed 1 (some .boolean) RX8 wsX8_nothingPlayed) (hE : nEn D A cy (NBw cy a) kt vt s) {z : Int32 × nS} : ∀ (σ : nS) (H : Heap) (locs : List Loc) (ls : Array Slot), lv_has ls 1 [(0, .ref (a 0))] → va_P D vwCl ((NBw cy a) σ) H → va_S A s.heap H locs → l_X8_nothingPlayed_0 N σ = some z → W p l e ({ frames := 0, cells := 0, slots := 0, locals := 0 } : Room) s m args below meth c H locs 0 0 (nQi below D A (NBw cy a) args s z) (F0 m 0 ls []) := by
  exact kb_X8_nothingPlayed_0 (N := N)  C0 hE
def f_X8_nothingPlayed (N : Nat) (σ : nS) : Option (Int32 × nS) := l_X8_nothingPlayed_0 N σ
set_option maxHeartbeats 4000000 in
set_option maxRecDepth 100000 in
theorem c_X8_nothingPlayed {l : Launch} {D : va_G} {A : Nat → Prop} {cy : Nat → ClassId} {a kt vt : Nat → Nat} {N : Nat}   {σ : nS} {r : Int32} {σ' : nS} (hf : f_X8_nothingPlayed N σ = some (r, σ')) : nMi l yX8_nothingPlayed wsX8_nothingPlayed ({ frames := 0, cells := 0, slots := 0, locals := 0 } : Room) D A cy (NBw cy a) kt vt [.ref (a 0)] σ r σ' := by
  refine Met.ofW (cc := cX8_nothingPlayed) (maxL := 1) (ret := (some .boolean)) (by decide) rfl ?_
  intro p e s m args below meth c s₁ B hml hv
  obtain ⟨rfl, hP, hE⟩ := hv
  have hl := lv_entry ([.ref (a 0)]) (n := 1) (Nat.le_of_ble_eq_true rfl)
  rw [lg_entry_eq]
  generalize (lg_sl ([.ref (a 0)]) ++ List.replicate (1 - (lg_sl ([.ref (a 0)])).length) Slot.unset).toArray = ls at hl ⊢
  have C0 : nCx p s m _ meth c cX8_nothingPlayed 1 (some .boolean) RX8 wsX8_nothingPlayed := ⟨B.exec, B.bytes, B.returns, hml, findClass_of_methodNamed B.named, atoms_spec (ws := wsX8_nothingPlayed) B.pre, B.notSynchronized⟩
  exact kl_X8_nothingPlayed_0 (N := N)  C0 hE (z := (r, σ')) σ  _ _ ls hl hP va_S.rf hf

/-! X8_played -/
set_option maxRecDepth 20000 in
theorem iX8_played_X8 : ∀ w ∈ u_ws RX8 TX8 13, w ∈ wsX8_played := fun _ h => List.mem_cons_of_mem _ (List.mem_append_left _ (List.mem_append_right _ h))
set_option maxRecDepth 20000 in
theorem qX8_played_35 : Cond.fieldLink RX8 35 RX8 (TX8 3).2.1 (TX8 3).2.2.1 ∈ wsX8_played := by decide +kernel
def b_X8_played_0 (N : Nat) (σ : nS) (x1 : Int32) : Option (Int32 × nS) := nBd (f_X8_nothingPlayed N σ) (fun r1 σ2 => (if r1 = 0 then nBd (f_X6_about N 24 x1 σ2) (fun r3 σ4 => nBd (f_X8_accept N r3 σ4) (fun r5 σ6 => some (r5, σ6))) else nBd (f_X8_refuse N 5 σ2) (fun r7 σ8 => some (r7, σ8))))
set_option maxHeartbeats 4000000 in
set_option maxRecDepth 100000 in
theorem kb_X8_played_0 {p : Program} {l : Launch} {e : Env} {s : State} {m : MethodId} {args : Array Value} {below : List Frame} {meth : Method} {c : Code} {D : va_G} {A : Nat → Prop} {cy : Nat → ClassId} {a kt vt : Nat → Nat} {N : Nat}   (C0 : nCx p s m args meth c cX8_played 2 (some .int) RX8 wsX8_played) (hE : nEn D A cy (NBw cy a) kt vt s) {z : Int32 × nS} : ∀ (σ : nS) (x1 : Int32) (H : Heap) (locs : List Loc) (ls : Array Slot), lv_has ls 2 [(0, .ref (a 0)), (1, .int x1)] → va_P D vwCl ((NBw cy a) σ) H → va_S A s.heap H locs → b_X8_played_0 N σ x1 = some z → W p l e ({ frames := 1, cells := 0, slots := 0, locals := 21 } : Room) s m args below meth c H locs 0 0 (nQi below D A (NBw cy a) args s z) (F0 m 0 ls []) := by
  obtain ⟨hx, hb, hr, hml, hown, hts, hlocks⟩ := C0
  intro σ x1 H locs ls hl hP hS hf
  unfold b_X8_played_0 at hf
  refine lv_aload_n hx hb dX8_played_0 rfl (lv_at hl 0 rfl) ?_
  obtain ⟨r1, σ2, hc2, hf⟩ := nBd_e hf
  refine nb_callVi (As := []) (rest := []) ⟨hx, hb, hml, hown, hts⟩ (c_X8_nothingPlayed (D := D) (A := A) (cy := cy) (a := a) (kt := kt) (vt := vt) (l := l)  hc2) (cwV 0 hts gX8_played_X8_nothingPlayed rfl rfl rfl (by decide +kernel) ⟨Nat.le_of_ble_eq_true rfl, Nat.le_of_ble_eq_true rfl⟩) hE hP hS nbo_0 rfl rfl hl.1 rfl (Nat.le_of_ble_eq_true rfl) dX8_played_1 (fun H locs hP hS => ?_)
  refine lv_if_eq (tgt := 13) hx hb dX8_played_4 (by decide) (fun hc => ?_) (fun hc => ?_)
  · replace hf := nIf_t hc hf
    refine lv_aload_n hx hb dX8_played_13 rfl (lv_at hl 0 rfl) ?_
    refine lv_aload_n hx hb dX8_played_14 rfl (lv_at hl 0 rfl) ?_
    refine nb_get (ci := 8) hx hb hts iX8_played_X8 hown hE hP 0 nbo_0 rfl 3 (by decide) qX8_played_35 rfl rfl dX8_played_15 ?_
    refine lv_iload_n hx hb dX8_played_18 rfl (lv_at hl 1 rfl) ?_
    obtain ⟨r3, σ4, hc4, hf⟩ := nBd_e hf
    refine nb_callVi (As := [.int x1]) (rest := [.ref (a 0)]) ⟨hx, hb, hml, hown, hts⟩ (c_X6_about (D := D) (A := A) (cy := cy) (a := a) (kt := kt) (vt := vt) (l := l) nWk_24 hc4) (cwV 1 hts gX8_played_X6_about rfl rfl rfl (by decide +kernel) ⟨Nat.le_of_ble_eq_true rfl, Nat.le_of_ble_eq_true rfl⟩) hE hP hS (nboW nWk_24) rfl rfl hl.1 rfl (Nat.le_of_ble_eq_true rfl) dX8_played_19 (fun H locs hP hS => ?_)
    obtain ⟨r5, σ6, hc6, hf⟩ := nBd_e hf
    refine nb_callVi (As := [.int r3]) (rest := []) ⟨hx, hb, hml, hown, hts⟩ (c_X8_accept (D := D) (A := A) (cy := cy) (a := a) (kt := kt) (vt := vt) (l := l)  hc6) (cwV 1 hts gX8_played_X8_accept rfl rfl rfl (by decide +kernel) ⟨Nat.le_of_ble_eq_true rfl, Nat.le_of_ble_eq_true rfl⟩) hE hP hS nbo_0 rfl rfl hl.1 rfl (Nat.le_of_ble_eq_true rfl) dX8_played_22 (fun H locs hP hS => ?_)
    exact nb_iret hx hb hr hlocks hP hS (nSo hf) dX8_played_25
  · replace hf := nIf_f hc hf
    refine lv_aload_n hx hb dX8_played_7 rfl (lv_at hl 0 rfl) ?_
    refine lv_iconst (v := 5) hx hb dX8_played_8 (by decide) ?_
    obtain ⟨r7, σ8, hc8, hf⟩ := nBd_e hf
    refine nb_callVi (As := [.int 5]) (rest := []) ⟨hx, hb, hml, hown, hts⟩ (c_X8_refuse (D := D) (A := A) (cy := cy) (a := a) (kt := kt) (vt := vt) (l := l)  hc8) (cwV 1 hts gX8_played_X8_refuse rfl rfl rfl (by decide +kernel) ⟨Nat.le_of_ble_eq_true rfl, Nat.le_of_ble_eq_true rfl⟩) hE hP hS nbo_0 rfl rfl hl.1 rfl (Nat.le_of_ble_eq_true rfl) dX8_played_9 (fun H locs hP hS => ?_)
    exact nb_iret hx hb hr hlocks hP hS (nSo hf) dX8_played_12
def l_X8_played_0 (N : Nat) : nS → Int32 → Option (Int32 × nS) := b_X8_played_0 N
theorem kl_X8_played_0 {p : Program} {l : Launch} {e : Env} {s : State} {m : MethodId} {args : Array Value} {below : List Frame} {meth : Method} {c : Code} {D : va_G} {A : Nat → Prop} {cy : Nat → ClassId} {a kt vt : Nat → Nat} {N : Nat}   (C0 : nCx p s m args meth c cX8_played 2 (some .int) RX8 wsX8_played) (hE : nEn D A cy (NBw cy a) kt vt s) {z : Int32 × nS} : ∀ (σ : nS) (x1 : Int32) (H : Heap) (locs : List Loc) (ls : Array Slot), lv_has ls 2 [(0, .ref (a 0)), (1, .int x1)] → va_P D vwCl ((NBw cy a) σ) H → va_S A s.heap H locs → l_X8_played_0 N σ x1 = some z → W p l e ({ frames := 1, cells := 0, slots := 0, locals := 21 } : Room) s m args below meth c H locs 0 0 (nQi below D A (NBw cy a) args s z) (F0 m 0 ls []) := by
  exact kb_X8_played_0 (N := N)  C0 hE
def f_X8_played (N : Nat) (x1 : Int32) (σ : nS) : Option (Int32 × nS) := l_X8_played_0 N σ x1
set_option maxHeartbeats 4000000 in
set_option maxRecDepth 100000 in
theorem c_X8_played {l : Launch} {D : va_G} {A : Nat → Prop} {cy : Nat → ClassId} {a kt vt : Nat → Nat} {N : Nat}   {x1 : Int32} {σ : nS} {r : Int32} {σ' : nS} (hf : f_X8_played N x1 σ = some (r, σ')) : nMi l yX8_played wsX8_played ({ frames := 1, cells := 0, slots := 0, locals := 21 } : Room) D A cy (NBw cy a) kt vt [.ref (a 0), .int x1] σ r σ' := by
  refine Met.ofW (cc := cX8_played) (maxL := 2) (ret := (some .int)) (by decide) rfl ?_
  intro p e s m args below meth c s₁ B hml hv
  obtain ⟨rfl, hP, hE⟩ := hv
  have hl := lv_entry ([.ref (a 0), .int x1]) (n := 2) (Nat.le_of_ble_eq_true rfl)
  rw [lg_entry_eq]
  generalize (lg_sl ([.ref (a 0), .int x1]) ++ List.replicate (2 - (lg_sl ([.ref (a 0), .int x1])).length) Slot.unset).toArray = ls at hl ⊢
  have C0 : nCx p s m _ meth c cX8_played 2 (some .int) RX8 wsX8_played := ⟨B.exec, B.bytes, B.returns, hml, findClass_of_methodNamed B.named, atoms_spec (ws := wsX8_played) B.pre, B.notSynchronized⟩
  exact kl_X8_played_0 (N := N)  C0 hE (z := (r, σ')) σ x1 _ _ ls hl hP va_S.rf hf

/-! X8_path -/
set_option maxRecDepth 20000 in
theorem iX8_path_X8 : ∀ w ∈ u_ws RX8 TX8 13, w ∈ wsX8_path := fun _ h => List.mem_cons_of_mem _ (List.mem_append_left _ (List.mem_append_right _ h))
set_option maxRecDepth 20000 in
theorem qX8_path_35 : Cond.fieldLink RX8 35 RX8 (TX8 3).2.1 (TX8 3).2.2.1 ∈ wsX8_path := by decide +kernel
def b_X8_path_0 (N : Nat) (σ : nS) (x1 : Int32) : Option (Int32 × nS) := nBd (f_X6_pathAt N 24 x1 σ) (fun r1 σ2 => some (r1, σ2))
set_option maxHeartbeats 4000000 in
set_option maxRecDepth 100000 in
theorem kb_X8_path_0 {p : Program} {l : Launch} {e : Env} {s : State} {m : MethodId} {args : Array Value} {below : List Frame} {meth : Method} {c : Code} {D : va_G} {A : Nat → Prop} {cy : Nat → ClassId} {a kt vt : Nat → Nat} {N : Nat}   (C0 : nCx p s m args meth c cX8_path 2 (some .int) RX8 wsX8_path) (hE : nEn D A cy (NBw cy a) kt vt s) {z : Int32 × nS} : ∀ (σ : nS) (x1 : Int32) (H : Heap) (locs : List Loc) (ls : Array Slot), lv_has ls 2 [(0, .ref (a 0)), (1, .int x1)] → va_P D vwCl ((NBw cy a) σ) H → va_S A s.heap H locs → b_X8_path_0 N σ x1 = some z → W p l e ({ frames := 1, cells := 0, slots := 0, locals := 21 } : Room) s m args below meth c H locs 0 0 (nQi below D A (NBw cy a) args s z) (F0 m 0 ls []) := by
  obtain ⟨hx, hb, hr, hml, hown, hts, hlocks⟩ := C0
  intro σ x1 H locs ls hl hP hS hf
  unfold b_X8_path_0 at hf
  refine lv_aload_n hx hb dX8_path_0 rfl (lv_at hl 0 rfl) ?_
  refine nb_get (ci := 8) hx hb hts iX8_path_X8 hown hE hP 0 nbo_0 rfl 3 (by decide) qX8_path_35 rfl rfl dX8_path_1 ?_
  refine lv_iload_n hx hb dX8_path_4 rfl (lv_at hl 1 rfl) ?_
  obtain ⟨r1, σ2, hc2, hf⟩ := nBd_e hf
  refine nb_callVi (As := [.int x1]) (rest := []) ⟨hx, hb, hml, hown, hts⟩ (c_X6_pathAt (D := D) (A := A) (cy := cy) (a := a) (kt := kt) (vt := vt) (l := l) nWk_24 hc2) (cwV 1 hts gX8_path_X6_pathAt rfl rfl rfl (by decide +kernel) ⟨Nat.le_of_ble_eq_true rfl, Nat.le_of_ble_eq_true rfl⟩) hE hP hS (nboW nWk_24) rfl rfl hl.1 rfl (Nat.le_of_ble_eq_true rfl) dX8_path_5 (fun H locs hP hS => ?_)
  exact nb_iret hx hb hr hlocks hP hS (nSo hf) dX8_path_8
def l_X8_path_0 (N : Nat) : nS → Int32 → Option (Int32 × nS) := b_X8_path_0 N
theorem kl_X8_path_0 {p : Program} {l : Launch} {e : Env} {s : State} {m : MethodId} {args : Array Value} {below : List Frame} {meth : Method} {c : Code} {D : va_G} {A : Nat → Prop} {cy : Nat → ClassId} {a kt vt : Nat → Nat} {N : Nat}   (C0 : nCx p s m args meth c cX8_path 2 (some .int) RX8 wsX8_path) (hE : nEn D A cy (NBw cy a) kt vt s) {z : Int32 × nS} : ∀ (σ : nS) (x1 : Int32) (H : Heap) (locs : List Loc) (ls : Array Slot), lv_has ls 2 [(0, .ref (a 0)), (1, .int x1)] → va_P D vwCl ((NBw cy a) σ) H → va_S A s.heap H locs → l_X8_path_0 N σ x1 = some z → W p l e ({ frames := 1, cells := 0, slots := 0, locals := 21 } : Room) s m args below meth c H locs 0 0 (nQi below D A (NBw cy a) args s z) (F0 m 0 ls []) := by
  exact kb_X8_path_0 (N := N)  C0 hE
def f_X8_path (N : Nat) (x1 : Int32) (σ : nS) : Option (Int32 × nS) := l_X8_path_0 N σ x1
set_option maxHeartbeats 4000000 in
set_option maxRecDepth 100000 in
theorem c_X8_path {l : Launch} {D : va_G} {A : Nat → Prop} {cy : Nat → ClassId} {a kt vt : Nat → Nat} {N : Nat}   {x1 : Int32} {σ : nS} {r : Int32} {σ' : nS} (hf : f_X8_path N x1 σ = some (r, σ')) : nMi l yX8_path wsX8_path ({ frames := 1, cells := 0, slots := 0, locals := 21 } : Room) D A cy (NBw cy a) kt vt [.ref (a 0), .int x1] σ r σ' := by
  refine Met.ofW (cc := cX8_path) (maxL := 2) (ret := (some .int)) (by decide) rfl ?_
  intro p e s m args below meth c s₁ B hml hv
  obtain ⟨rfl, hP, hE⟩ := hv
  have hl := lv_entry ([.ref (a 0), .int x1]) (n := 2) (Nat.le_of_ble_eq_true rfl)
  rw [lg_entry_eq]
  generalize (lg_sl ([.ref (a 0), .int x1]) ++ List.replicate (2 - (lg_sl ([.ref (a 0), .int x1])).length) Slot.unset).toArray = ls at hl ⊢
  have C0 : nCx p s m _ meth c cX8_path 2 (some .int) RX8 wsX8_path := ⟨B.exec, B.bytes, B.returns, hml, findClass_of_methodNamed B.named, atoms_spec (ws := wsX8_path) B.pre, B.notSynchronized⟩
  exact kl_X8_path_0 (N := N)  C0 hE (z := (r, σ')) σ x1 _ _ ls hl hP va_S.rf hf

/-! X8_areMosts -/
def b_X8_areMosts_0 (N : Nat) (σ : nS) (x0 : Int32) (x1 : Int32) (x2 : Int32) : Option (Int32 × nS) := (if x0 < 0 then some (0, σ) else (if (8 : Int32) < x0 then some (0, σ) else (if x1 < 0 then some (0, σ) else (if (8 : Int32) < x1 then some (0, σ) else (if x2 < 0 then some (0, σ) else (if (8 : Int32) < x2 then some (0, σ) else some (1, σ)))))))
set_option maxHeartbeats 4000000 in
set_option maxRecDepth 100000 in
theorem kb_X8_areMosts_0 {p : Program} {l : Launch} {e : Env} {s : State} {m : MethodId} {args : Array Value} {below : List Frame} {meth : Method} {c : Code} {D : va_G} {A : Nat → Prop} {cy : Nat → ClassId} {a kt vt : Nat → Nat} {N : Nat}   (C0 : nCx p s m args meth c cX8_areMosts 3 (some .boolean) RX8 wsX8_areMosts) (hE : nEn D A cy (NBw cy a) kt vt s) {z : Int32 × nS} : ∀ (σ : nS) (x0 : Int32) (x1 : Int32) (x2 : Int32) (H : Heap) (locs : List Loc) (ls : Array Slot), lv_has ls 3 [(0, .int x0), (1, .int x1), (2, .int x2)] → va_P D vwCl ((NBw cy a) σ) H → va_S A s.heap H locs → b_X8_areMosts_0 N σ x0 x1 x2 = some z → W p l e ({ frames := 0, cells := 0, slots := 0, locals := 0 } : Room) s m args below meth c H locs 0 0 (nQi below D A (NBw cy a) args s z) (F0 m 0 ls []) := by
  obtain ⟨hx, hb, hr, hml, hown, hts, hlocks⟩ := C0
  intro σ x0 x1 x2 H locs ls hl hP hS hf
  unfold b_X8_areMosts_0 at hf
  refine lv_iload_n hx hb dX8_areMosts_0 rfl (lv_at hl 0 rfl) ?_
  refine lv_if_lt (tgt := 34) hx hb dX8_areMosts_1 (by decide) (fun hc => ?_) (fun hc => ?_)
  · replace hf := nIf_t hc hf
    refine lv_iconst (v := 0) hx hb dX8_areMosts_34 (by decide) ?_
    exact nb_zret hx hb hr hlocks hP hS (nSo hf) rfl dX8_areMosts_35
  · replace hf := nIf_f hc hf
    refine lv_iload_n hx hb dX8_areMosts_4 rfl (lv_at hl 0 rfl) ?_
    refine lv_bipush (v := 8) hx hb dX8_areMosts_5 (by decide) ?_
    refine lv_icmp_gt (tgt := 34) hx hb dX8_areMosts_7 (by decide) (fun hc => ?_) (fun hc => ?_)
    · replace hf := nIf_t hc hf
      refine lv_iconst (v := 0) hx hb dX8_areMosts_34 (by decide) ?_
      exact nb_zret hx hb hr hlocks hP hS (nSo hf) rfl dX8_areMosts_35
    · replace hf := nIf_f hc hf
      refine lv_iload_n hx hb dX8_areMosts_10 rfl (lv_at hl 1 rfl) ?_
      refine lv_if_lt (tgt := 34) hx hb dX8_areMosts_11 (by decide) (fun hc => ?_) (fun hc => ?_)
      · replace hf := nIf_t hc hf
        refine lv_iconst (v := 0) hx hb dX8_areMosts_34 (by decide) ?_
        exact nb_zret hx hb hr hlocks hP hS (nSo hf) rfl dX8_areMosts_35
      · replace hf := nIf_f hc hf
        refine lv_iload_n hx hb dX8_areMosts_14 rfl (lv_at hl 1 rfl) ?_
        refine lv_bipush (v := 8) hx hb dX8_areMosts_15 (by decide) ?_
        refine lv_icmp_gt (tgt := 34) hx hb dX8_areMosts_17 (by decide) (fun hc => ?_) (fun hc => ?_)
        · replace hf := nIf_t hc hf
          refine lv_iconst (v := 0) hx hb dX8_areMosts_34 (by decide) ?_
          exact nb_zret hx hb hr hlocks hP hS (nSo hf) rfl dX8_areMosts_35
        · replace hf := nIf_f hc hf
          refine lv_iload_n hx hb dX8_areMosts_20 rfl (lv_at hl 2 rfl) ?_
          refine lv_if_lt (tgt := 34) hx hb dX8_areMosts_21 (by decide) (fun hc => ?_) (fun hc => ?_)
          · replace hf := nIf_t hc hf
            refine lv_iconst (v := 0) hx hb dX8_areMosts_34 (by decide) ?_
            exact nb_zret hx hb hr hlocks hP hS (nSo hf) rfl dX8_areMosts_35
          · replace hf := nIf_f hc hf
            refine lv_iload_n hx hb dX8_areMosts_24 rfl (lv_at hl 2 rfl) ?_
            refine lv_bipush (v := 8) hx hb dX8_areMosts_25 (by decide) ?_
            refine lv_icmp_gt (tgt := 34) hx hb dX8_areMosts_27 (by decide) (fun hc => ?_) (fun hc => ?_)
            · replace hf := nIf_t hc hf
              refine lv_iconst (v := 0) hx hb dX8_areMosts_34 (by decide) ?_
              exact nb_zret hx hb hr hlocks hP hS (nSo hf) rfl dX8_areMosts_35
            · replace hf := nIf_f hc hf
              refine lv_iconst (v := 1) hx hb dX8_areMosts_30 (by decide) ?_
              refine lv_goto (tgt := 35) hx hb dX8_areMosts_31 (by decide) ?_
              exact nb_zret hx hb hr hlocks hP hS (nSo hf) rfl dX8_areMosts_35
def l_X8_areMosts_0 (N : Nat) : nS → Int32 → Int32 → Int32 → Option (Int32 × nS) := b_X8_areMosts_0 N
theorem kl_X8_areMosts_0 {p : Program} {l : Launch} {e : Env} {s : State} {m : MethodId} {args : Array Value} {below : List Frame} {meth : Method} {c : Code} {D : va_G} {A : Nat → Prop} {cy : Nat → ClassId} {a kt vt : Nat → Nat} {N : Nat}   (C0 : nCx p s m args meth c cX8_areMosts 3 (some .boolean) RX8 wsX8_areMosts) (hE : nEn D A cy (NBw cy a) kt vt s) {z : Int32 × nS} : ∀ (σ : nS) (x0 : Int32) (x1 : Int32) (x2 : Int32) (H : Heap) (locs : List Loc) (ls : Array Slot), lv_has ls 3 [(0, .int x0), (1, .int x1), (2, .int x2)] → va_P D vwCl ((NBw cy a) σ) H → va_S A s.heap H locs → l_X8_areMosts_0 N σ x0 x1 x2 = some z → W p l e ({ frames := 0, cells := 0, slots := 0, locals := 0 } : Room) s m args below meth c H locs 0 0 (nQi below D A (NBw cy a) args s z) (F0 m 0 ls []) := by
  exact kb_X8_areMosts_0 (N := N)  C0 hE
def f_X8_areMosts (N : Nat) (x0 : Int32) (x1 : Int32) (x2 : Int32) (σ : nS) : Option (Int32 × nS) := l_X8_areMosts_0 N σ x0 x1 x2
set_option maxHeartbeats 4000000 in
set_option maxRecDepth 100000 in
theorem c_X8_areMosts {l : Launch} {D : va_G} {A : Nat → Prop} {cy : Nat → ClassId} {a kt vt : Nat → Nat} {N : Nat}   {x0 : Int32} {x1 : Int32} {x2 : Int32} {σ : nS} {r : Int32} {σ' : nS} (hf : f_X8_areMosts N x0 x1 x2 σ = some (r, σ')) : nMi l yX8_areMosts wsX8_areMosts ({ frames := 0, cells := 0, slots := 0, locals := 0 } : Room) D A cy (NBw cy a) kt vt [.int x0, .int x1, .int x2] σ r σ' := by
  refine Met.ofW (cc := cX8_areMosts) (maxL := 3) (ret := (some .boolean)) (by decide) rfl ?_
  intro p e s m args below meth c s₁ B hml hv
  obtain ⟨rfl, hP, hE⟩ := hv
  have hl := lv_entry ([.int x0, .int x1, .int x2]) (n := 3) (Nat.le_of_ble_eq_true rfl)
  rw [lg_entry_eq]
  generalize (lg_sl ([.int x0, .int x1, .int x2]) ++ List.replicate (3 - (lg_sl ([.int x0, .int x1, .int x2])).length) Slot.unset).toArray = ls at hl ⊢
  have C0 : nCx p s m _ meth c cX8_areMosts 3 (some .boolean) RX8 wsX8_areMosts := ⟨B.exec, B.bytes, B.returns, hml, findClass_of_methodNamed B.named, atoms_spec (ws := wsX8_areMosts) B.pre, B.notSynchronized⟩
  exact kl_X8_areMosts_0 (N := N)  C0 hE (z := (r, σ')) σ x0 x1 x2 _ _ ls hl hP va_S.rf hf

/-! X8_ended -/
set_option maxRecDepth 20000 in
theorem iX8_ended_X8 : ∀ w ∈ u_ws RX8 TX8 13, w ∈ wsX8_ended := fun _ h => List.mem_cons_of_mem _ (List.mem_append_left _ (List.mem_append_right _ h))
set_option maxRecDepth 20000 in
theorem qX8_ended_58 : Cond.fieldLink RX8 58 RX8 (TX8 8).2.1 (TX8 8).2.2.1 ∈ wsX8_ended := by decide +kernel
def b_X8_ended_0 (N : Nat) (σ : nS) (x1 : Int32) : Option (Int32 × nS) := nBd (f_X5_endedBy N x1 σ) (fun r1 σ2 => some (r1, σ2))
set_option maxHeartbeats 4000000 in
set_option maxRecDepth 100000 in
theorem kb_X8_ended_0 {p : Program} {l : Launch} {e : Env} {s : State} {m : MethodId} {args : Array Value} {below : List Frame} {meth : Method} {c : Code} {D : va_G} {A : Nat → Prop} {cy : Nat → ClassId} {a kt vt : Nat → Nat} {N : Nat}   (C0 : nCx p s m args meth c cX8_ended 2 (some .int) RX8 wsX8_ended) (hE : nEn D A cy (NBw cy a) kt vt s) {z : Int32 × nS} : ∀ (σ : nS) (x1 : Int32) (H : Heap) (locs : List Loc) (ls : Array Slot), lv_has ls 2 [(0, .ref (a 0)), (1, .int x1)] → va_P D vwCl ((NBw cy a) σ) H → va_S A s.heap H locs → b_X8_ended_0 N σ x1 = some z → W p l e ({ frames := 1, cells := 0, slots := 0, locals := 21 } : Room) s m args below meth c H locs 0 0 (nQi below D A (NBw cy a) args s z) (F0 m 0 ls []) := by
  obtain ⟨hx, hb, hr, hml, hown, hts, hlocks⟩ := C0
  intro σ x1 H locs ls hl hP hS hf
  unfold b_X8_ended_0 at hf
  refine lv_aload_n hx hb dX8_ended_0 rfl (lv_at hl 0 rfl) ?_
  refine nb_get (ci := 8) hx hb hts iX8_ended_X8 hown hE hP 0 nbo_0 rfl 8 (by decide) qX8_ended_58 rfl rfl dX8_ended_1 ?_
  refine lv_iload_n hx hb dX8_ended_4 rfl (lv_at hl 1 rfl) ?_
  obtain ⟨r1, σ2, hc2, hf⟩ := nBd_e hf
  refine nb_callVi (As := [.int x1]) (rest := []) ⟨hx, hb, hml, hown, hts⟩ (c_X5_endedBy (D := D) (A := A) (cy := cy) (a := a) (kt := kt) (vt := vt) (l := l)  hc2) (cwV 1 hts gX8_ended_X5_endedBy rfl rfl rfl (by decide +kernel) ⟨Nat.le_of_ble_eq_true rfl, Nat.le_of_ble_eq_true rfl⟩) hE hP hS nbo_16 rfl rfl hl.1 rfl (Nat.le_of_ble_eq_true rfl) dX8_ended_5 (fun H locs hP hS => ?_)
  exact nb_iret hx hb hr hlocks hP hS (nSo hf) dX8_ended_8
def l_X8_ended_0 (N : Nat) : nS → Int32 → Option (Int32 × nS) := b_X8_ended_0 N
theorem kl_X8_ended_0 {p : Program} {l : Launch} {e : Env} {s : State} {m : MethodId} {args : Array Value} {below : List Frame} {meth : Method} {c : Code} {D : va_G} {A : Nat → Prop} {cy : Nat → ClassId} {a kt vt : Nat → Nat} {N : Nat}   (C0 : nCx p s m args meth c cX8_ended 2 (some .int) RX8 wsX8_ended) (hE : nEn D A cy (NBw cy a) kt vt s) {z : Int32 × nS} : ∀ (σ : nS) (x1 : Int32) (H : Heap) (locs : List Loc) (ls : Array Slot), lv_has ls 2 [(0, .ref (a 0)), (1, .int x1)] → va_P D vwCl ((NBw cy a) σ) H → va_S A s.heap H locs → l_X8_ended_0 N σ x1 = some z → W p l e ({ frames := 1, cells := 0, slots := 0, locals := 21 } : Room) s m args below meth c H locs 0 0 (nQi below D A (NBw cy a) args s z) (F0 m 0 ls []) := by
  exact kb_X8_ended_0 (N := N)  C0 hE
def f_X8_ended (N : Nat) (x1 : Int32) (σ : nS) : Option (Int32 × nS) := l_X8_ended_0 N σ x1
set_option maxHeartbeats 4000000 in
set_option maxRecDepth 100000 in
theorem c_X8_ended {l : Launch} {D : va_G} {A : Nat → Prop} {cy : Nat → ClassId} {a kt vt : Nat → Nat} {N : Nat}   {x1 : Int32} {σ : nS} {r : Int32} {σ' : nS} (hf : f_X8_ended N x1 σ = some (r, σ')) : nMi l yX8_ended wsX8_ended ({ frames := 1, cells := 0, slots := 0, locals := 21 } : Room) D A cy (NBw cy a) kt vt [.ref (a 0), .int x1] σ r σ' := by
  refine Met.ofW (cc := cX8_ended) (maxL := 2) (ret := (some .int)) (by decide) rfl ?_
  intro p e s m args below meth c s₁ B hml hv
  obtain ⟨rfl, hP, hE⟩ := hv
  have hl := lv_entry ([.ref (a 0), .int x1]) (n := 2) (Nat.le_of_ble_eq_true rfl)
  rw [lg_entry_eq]
  generalize (lg_sl ([.ref (a 0), .int x1]) ++ List.replicate (2 - (lg_sl ([.ref (a 0), .int x1])).length) Slot.unset).toArray = ls at hl ⊢
  have C0 : nCx p s m _ meth c cX8_ended 2 (some .int) RX8 wsX8_ended := ⟨B.exec, B.bytes, B.returns, hml, findClass_of_methodNamed B.named, atoms_spec (ws := wsX8_ended) B.pre, B.notSynchronized⟩
  exact kl_X8_ended_0 (N := N)  C0 hE (z := (r, σ')) σ x1 _ _ ls hl hP va_S.rf hf

/-! X8_allOf -/
set_option maxRecDepth 20000 in
theorem iX8_allOf_X8 : ∀ w ∈ u_ws RX8 TX8 13, w ∈ wsX8_allOf := fun _ h => List.mem_cons_of_mem _ (List.mem_append_left _ (List.mem_append_right _ h))
set_option maxRecDepth 20000 in
theorem qX8_allOf_58 : Cond.fieldLink RX8 58 RX8 (TX8 8).2.1 (TX8 8).2.2.1 ∈ wsX8_allOf := by decide +kernel
def b_X8_allOf_0 (N : Nat) (σ : nS) (x1 : Int32) : Option (Int32 × nS) := nBd (f_X5_about N x1 σ) (fun r1 σ2 => some (r1, σ2))
set_option maxHeartbeats 4000000 in
set_option maxRecDepth 100000 in
theorem kb_X8_allOf_0 {p : Program} {l : Launch} {e : Env} {s : State} {m : MethodId} {args : Array Value} {below : List Frame} {meth : Method} {c : Code} {D : va_G} {A : Nat → Prop} {cy : Nat → ClassId} {a kt vt : Nat → Nat} {N : Nat}   (C0 : nCx p s m args meth c cX8_allOf 2 (some .int) RX8 wsX8_allOf) (hE : nEn D A cy (NBw cy a) kt vt s) {z : Int32 × nS} : ∀ (σ : nS) (x1 : Int32) (H : Heap) (locs : List Loc) (ls : Array Slot), lv_has ls 2 [(0, .ref (a 0)), (1, .int x1)] → va_P D vwCl ((NBw cy a) σ) H → va_S A s.heap H locs → b_X8_allOf_0 N σ x1 = some z → W p l e ({ frames := 1, cells := 0, slots := 0, locals := 21 } : Room) s m args below meth c H locs 0 0 (nQi below D A (NBw cy a) args s z) (F0 m 0 ls []) := by
  obtain ⟨hx, hb, hr, hml, hown, hts, hlocks⟩ := C0
  intro σ x1 H locs ls hl hP hS hf
  unfold b_X8_allOf_0 at hf
  refine lv_aload_n hx hb dX8_allOf_0 rfl (lv_at hl 0 rfl) ?_
  refine nb_get (ci := 8) hx hb hts iX8_allOf_X8 hown hE hP 0 nbo_0 rfl 8 (by decide) qX8_allOf_58 rfl rfl dX8_allOf_1 ?_
  refine lv_iload_n hx hb dX8_allOf_4 rfl (lv_at hl 1 rfl) ?_
  obtain ⟨r1, σ2, hc2, hf⟩ := nBd_e hf
  refine nb_callVi (As := [.int x1]) (rest := []) ⟨hx, hb, hml, hown, hts⟩ (c_X5_about (D := D) (A := A) (cy := cy) (a := a) (kt := kt) (vt := vt) (l := l)  hc2) (cwV 1 hts gX8_allOf_X5_about rfl rfl rfl (by decide +kernel) ⟨Nat.le_of_ble_eq_true rfl, Nat.le_of_ble_eq_true rfl⟩) hE hP hS nbo_16 rfl rfl hl.1 rfl (Nat.le_of_ble_eq_true rfl) dX8_allOf_5 (fun H locs hP hS => ?_)
  exact nb_iret hx hb hr hlocks hP hS (nSo hf) dX8_allOf_8
def l_X8_allOf_0 (N : Nat) : nS → Int32 → Option (Int32 × nS) := b_X8_allOf_0 N
theorem kl_X8_allOf_0 {p : Program} {l : Launch} {e : Env} {s : State} {m : MethodId} {args : Array Value} {below : List Frame} {meth : Method} {c : Code} {D : va_G} {A : Nat → Prop} {cy : Nat → ClassId} {a kt vt : Nat → Nat} {N : Nat}   (C0 : nCx p s m args meth c cX8_allOf 2 (some .int) RX8 wsX8_allOf) (hE : nEn D A cy (NBw cy a) kt vt s) {z : Int32 × nS} : ∀ (σ : nS) (x1 : Int32) (H : Heap) (locs : List Loc) (ls : Array Slot), lv_has ls 2 [(0, .ref (a 0)), (1, .int x1)] → va_P D vwCl ((NBw cy a) σ) H → va_S A s.heap H locs → l_X8_allOf_0 N σ x1 = some z → W p l e ({ frames := 1, cells := 0, slots := 0, locals := 21 } : Room) s m args below meth c H locs 0 0 (nQi below D A (NBw cy a) args s z) (F0 m 0 ls []) := by
  exact kb_X8_allOf_0 (N := N)  C0 hE
def f_X8_allOf (N : Nat) (x1 : Int32) (σ : nS) : Option (Int32 × nS) := l_X8_allOf_0 N σ x1
set_option maxHeartbeats 4000000 in
set_option maxRecDepth 100000 in
theorem c_X8_allOf {l : Launch} {D : va_G} {A : Nat → Prop} {cy : Nat → ClassId} {a kt vt : Nat → Nat} {N : Nat}   {x1 : Int32} {σ : nS} {r : Int32} {σ' : nS} (hf : f_X8_allOf N x1 σ = some (r, σ')) : nMi l yX8_allOf wsX8_allOf ({ frames := 1, cells := 0, slots := 0, locals := 21 } : Room) D A cy (NBw cy a) kt vt [.ref (a 0), .int x1] σ r σ' := by
  refine Met.ofW (cc := cX8_allOf) (maxL := 2) (ret := (some .int)) (by decide) rfl ?_
  intro p e s m args below meth c s₁ B hml hv
  obtain ⟨rfl, hP, hE⟩ := hv
  have hl := lv_entry ([.ref (a 0), .int x1]) (n := 2) (Nat.le_of_ble_eq_true rfl)
  rw [lg_entry_eq]
  generalize (lg_sl ([.ref (a 0), .int x1]) ++ List.replicate (2 - (lg_sl ([.ref (a 0), .int x1])).length) Slot.unset).toArray = ls at hl ⊢
  have C0 : nCx p s m _ meth c cX8_allOf 2 (some .int) RX8 wsX8_allOf := ⟨B.exec, B.bytes, B.returns, hml, findClass_of_methodNamed B.named, atoms_spec (ws := wsX8_allOf) B.pre, B.notSynchronized⟩
  exact kl_X8_allOf_0 (N := N)  C0 hE (z := (r, σ')) σ x1 _ _ ls hl hP va_S.rf hf

/-! X8_idle -/
set_option maxRecDepth 20000 in
theorem iX8_idle_X8 : ∀ w ∈ u_ws RX8 TX8 13, w ∈ wsX8_idle := fun _ h => List.mem_cons_of_mem _ (List.mem_append_left _ (List.mem_append_right _ h))
set_option maxRecDepth 20000 in
theorem qX8_idle_12 : Cond.fieldLink RX8 12 RX8 (TX8 0).2.1 (TX8 0).2.2.1 ∈ wsX8_idle := by decide +kernel
def b_X8_idle_0 (N : Nat) (σ : nS) (x1 : Int32) : Option (Int32 × nS) := nBd (f_X7_hasBook N x1 σ) (fun r1 σ2 => (if r1 = 0 then some ((-1), σ2) else nBd (f_X7_sizeOf N x1 σ2) (fun r3 σ4 => nBd (f_X7_reached N x1 σ4) (fun r5 σ6 => nBd (f_J6_bitCount_0f7a4 N r5 σ6) (fun r7 σ8 => nLet (r3 - r7 : Int32) (fun v9 => some (v9, σ8)))))))
set_option maxHeartbeats 4000000 in
set_option maxRecDepth 100000 in
theorem kb_X8_idle_0 {p : Program} {l : Launch} {e : Env} {s : State} {m : MethodId} {args : Array Value} {below : List Frame} {meth : Method} {c : Code} {D : va_G} {A : Nat → Prop} {cy : Nat → ClassId} {a kt vt : Nat → Nat} {N : Nat}   (C0 : nCx p s m args meth c cX8_idle 2 (some .int) RX8 wsX8_idle) (hE : nEn D A cy (NBw cy a) kt vt s) {z : Int32 × nS} : ∀ (σ : nS) (x1 : Int32) (H : Heap) (locs : List Loc) (ls : Array Slot), lv_has ls 2 [(0, .ref (a 0)), (1, .int x1)] → va_P D vwCl ((NBw cy a) σ) H → va_S A s.heap H locs → b_X8_idle_0 N σ x1 = some z → W p l e ({ frames := 3, cells := 0, slots := 0, locals := 73 } : Room) s m args below meth c H locs 0 0 (nQi below D A (NBw cy a) args s z) (F0 m 0 ls []) := by
  obtain ⟨hx, hb, hr, hml, hown, hts, hlocks⟩ := C0
  intro σ x1 H locs ls hl hP hS hf
  unfold b_X8_idle_0 at hf
  refine lv_aload_n hx hb dX8_idle_0 rfl (lv_at hl 0 rfl) ?_
  refine nb_get (ci := 8) hx hb hts iX8_idle_X8 hown hE hP 0 nbo_0 rfl 0 (by decide) qX8_idle_12 rfl rfl dX8_idle_1 ?_
  refine lv_iload_n hx hb dX8_idle_4 rfl (lv_at hl 1 rfl) ?_
  obtain ⟨r1, σ2, hc2, hf⟩ := nBd_e hf
  refine nb_callVi (As := [.int x1]) (rest := []) ⟨hx, hb, hml, hown, hts⟩ (c_X7_hasBook (D := D) (A := A) (cy := cy) (a := a) (kt := kt) (vt := vt) (l := l)  hc2) (cwV 1 hts gX8_idle_X7_hasBook rfl rfl rfl (by decide +kernel) ⟨Nat.le_of_ble_eq_true rfl, Nat.le_of_ble_eq_true rfl⟩) hE hP hS nbo_1 rfl rfl hl.1 rfl (Nat.le_of_ble_eq_true rfl) dX8_idle_5 (fun H locs hP hS => ?_)
  refine lv_if_eq (tgt := 34) hx hb dX8_idle_8 (by decide) (fun hc => ?_) (fun hc => ?_)
  · replace hf := nIf_t hc hf
    refine lv_iconst (v := (-1)) hx hb dX8_idle_34 (by decide) ?_
    exact nb_iret hx hb hr hlocks hP hS (nSo hf) dX8_idle_35
  · replace hf := nIf_f hc hf
    refine lv_aload_n hx hb dX8_idle_11 rfl (lv_at hl 0 rfl) ?_
    refine nb_get (ci := 8) hx hb hts iX8_idle_X8 hown hE hP 0 nbo_0 rfl 0 (by decide) qX8_idle_12 rfl rfl dX8_idle_12 ?_
    refine lv_iload_n hx hb dX8_idle_15 rfl (lv_at hl 1 rfl) ?_
    obtain ⟨r3, σ4, hc4, hf⟩ := nBd_e hf
    refine nb_callVi (As := [.int x1]) (rest := []) ⟨hx, hb, hml, hown, hts⟩ (c_X7_sizeOf (D := D) (A := A) (cy := cy) (a := a) (kt := kt) (vt := vt) (l := l)  hc4) (cwV 1 hts gX8_idle_X7_sizeOf rfl rfl rfl (by decide +kernel) ⟨Nat.le_of_ble_eq_true rfl, Nat.le_of_ble_eq_true rfl⟩) hE hP hS nbo_1 rfl rfl hl.1 rfl (Nat.le_of_ble_eq_true rfl) dX8_idle_16 (fun H locs hP hS => ?_)
    refine lv_aload_n hx hb dX8_idle_19 rfl (lv_at hl 0 rfl) ?_
    refine nb_get (ci := 8) hx hb hts iX8_idle_X8 hown hE hP 0 nbo_0 rfl 0 (by decide) qX8_idle_12 rfl rfl dX8_idle_20 ?_
    refine lv_iload_n hx hb dX8_idle_23 rfl (lv_at hl 1 rfl) ?_
    obtain ⟨r5, σ6, hc6, hf⟩ := nBd_e hf
    refine nb_callVi (As := [.int x1]) (rest := [.int r3]) ⟨hx, hb, hml, hown, hts⟩ (c_X7_reached (D := D) (A := A) (cy := cy) (a := a) (kt := kt) (vt := vt) (l := l)  hc6) (cwV 1 hts gX8_idle_X7_reached rfl rfl rfl (by decide +kernel) ⟨Nat.le_of_ble_eq_true rfl, Nat.le_of_ble_eq_true rfl⟩) hE hP hS nbo_1 rfl rfl hl.1 rfl (Nat.le_of_ble_eq_true rfl) dX8_idle_24 (fun H locs hP hS => ?_)
    obtain ⟨r7, σ8, hc8, hf⟩ := nBd_e hf
    refine nb_callSi (As := [.int r5]) (rest := [.int r3]) ⟨hx, hb, hml, hown, hts⟩ (c_J6_bitCount_0f7a4 (X := (NBw cy a)) (D := D) (A := A) (cy := cy) (kt := kt) (vt := vt) (l := l)  hc8) (va_cwS 1 hts gX8_idle_J6_bitCount_0f7a4 rfl rfl rfl (by decide +kernel) ⟨Nat.le_of_ble_eq_true rfl, Nat.le_of_ble_eq_true rfl⟩) hE hP hS rfl hl.1 rfl (Nat.le_of_ble_eq_true rfl) dX8_idle_27 (fun H locs hP hS => ?_)
    refine lv_isub hx hb dX8_idle_30 ?_
    refine lv_topi (fun v9 ev9 => ?_)
    replace hf := nLet_e hf ev9
    refine lv_goto (tgt := 35) hx hb dX8_idle_31 (by decide) ?_
    exact nb_iret hx hb hr hlocks hP hS (nSo hf) dX8_idle_35
def l_X8_idle_0 (N : Nat) : nS → Int32 → Option (Int32 × nS) := b_X8_idle_0 N
theorem kl_X8_idle_0 {p : Program} {l : Launch} {e : Env} {s : State} {m : MethodId} {args : Array Value} {below : List Frame} {meth : Method} {c : Code} {D : va_G} {A : Nat → Prop} {cy : Nat → ClassId} {a kt vt : Nat → Nat} {N : Nat}   (C0 : nCx p s m args meth c cX8_idle 2 (some .int) RX8 wsX8_idle) (hE : nEn D A cy (NBw cy a) kt vt s) {z : Int32 × nS} : ∀ (σ : nS) (x1 : Int32) (H : Heap) (locs : List Loc) (ls : Array Slot), lv_has ls 2 [(0, .ref (a 0)), (1, .int x1)] → va_P D vwCl ((NBw cy a) σ) H → va_S A s.heap H locs → l_X8_idle_0 N σ x1 = some z → W p l e ({ frames := 3, cells := 0, slots := 0, locals := 73 } : Room) s m args below meth c H locs 0 0 (nQi below D A (NBw cy a) args s z) (F0 m 0 ls []) := by
  exact kb_X8_idle_0 (N := N)  C0 hE
def f_X8_idle (N : Nat) (x1 : Int32) (σ : nS) : Option (Int32 × nS) := l_X8_idle_0 N σ x1
set_option maxHeartbeats 4000000 in
set_option maxRecDepth 100000 in
theorem c_X8_idle {l : Launch} {D : va_G} {A : Nat → Prop} {cy : Nat → ClassId} {a kt vt : Nat → Nat} {N : Nat}   {x1 : Int32} {σ : nS} {r : Int32} {σ' : nS} (hf : f_X8_idle N x1 σ = some (r, σ')) : nMi l yX8_idle wsX8_idle ({ frames := 3, cells := 0, slots := 0, locals := 73 } : Room) D A cy (NBw cy a) kt vt [.ref (a 0), .int x1] σ r σ' := by
  refine Met.ofW (cc := cX8_idle) (maxL := 2) (ret := (some .int)) (by decide) rfl ?_
  intro p e s m args below meth c s₁ B hml hv
  obtain ⟨rfl, hP, hE⟩ := hv
  have hl := lv_entry ([.ref (a 0), .int x1]) (n := 2) (Nat.le_of_ble_eq_true rfl)
  rw [lg_entry_eq]
  generalize (lg_sl ([.ref (a 0), .int x1]) ++ List.replicate (2 - (lg_sl ([.ref (a 0), .int x1])).length) Slot.unset).toArray = ls at hl ⊢
  have C0 : nCx p s m _ meth c cX8_idle 2 (some .int) RX8 wsX8_idle := ⟨B.exec, B.bytes, B.returns, hml, findClass_of_methodNamed B.named, atoms_spec (ws := wsX8_idle) B.pre, B.notSynchronized⟩
  exact kl_X8_idle_0 (N := N)  C0 hE (z := (r, σ')) σ x1 _ _ ls hl hP va_S.rf hf

/-! X8_look -/
set_option maxRecDepth 20000 in
theorem iX8_look_X8 : ∀ w ∈ u_ws RX8 TX8 13, w ∈ wsX8_look := fun _ h => List.mem_cons_of_mem _ (List.mem_append_left _ (List.mem_append_right _ h))
set_option maxRecDepth 20000 in
theorem qX8_look_12 : Cond.fieldLink RX8 12 RX8 (TX8 0).2.1 (TX8 0).2.2.1 ∈ wsX8_look := by decide +kernel
def b_X8_look_0 (N : Nat) (σ : nS) (x1 : Int32) (x2 : Int32) : Option (Int32 × nS) := nBd (f_X8_hasStep N x1 x2 σ) (fun r1 σ2 => (if r1 = 0 then some ((-1), σ2) else nBd (f_X7_reached N x1 σ2) (fun r3 σ4 => nLet (r3 >>> (x2 &&& 31) : Int32) (fun v5 => nLet (v5 &&& (1 : Int32) : Int32) (fun v6 => nBd (f_X7_isDoable N x1 x2 σ4) (fun r7 σ8 => (if r7 = 0 then nLet (v6 + (0 : Int32) : Int32) (fun v9 => some (v9, σ8)) else nLet (v6 + (2 : Int32) : Int32) (fun v10 => some (v10, σ8)))))))))
set_option maxHeartbeats 4000000 in
set_option maxRecDepth 100000 in
theorem kb_X8_look_0 {p : Program} {l : Launch} {e : Env} {s : State} {m : MethodId} {args : Array Value} {below : List Frame} {meth : Method} {c : Code} {D : va_G} {A : Nat → Prop} {cy : Nat → ClassId} {a kt vt : Nat → Nat} {N : Nat}   (C0 : nCx p s m args meth c cX8_look 3 (some .int) RX8 wsX8_look) (hE : nEn D A cy (NBw cy a) kt vt s) {z : Int32 × nS} : ∀ (σ : nS) (x1 : Int32) (x2 : Int32) (H : Heap) (locs : List Loc) (ls : Array Slot), lv_has ls 3 [(0, .ref (a 0)), (1, .int x1), (2, .int x2)] → va_P D vwCl ((NBw cy a) σ) H → va_S A s.heap H locs → b_X8_look_0 N σ x1 x2 = some z → W p l e ({ frames := 3, cells := 0, slots := 0, locals := 73 } : Room) s m args below meth c H locs 0 0 (nQi below D A (NBw cy a) args s z) (F0 m 0 ls []) := by
  obtain ⟨hx, hb, hr, hml, hown, hts, hlocks⟩ := C0
  intro σ x1 x2 H locs ls hl hP hS hf
  unfold b_X8_look_0 at hf
  refine lv_aload_n hx hb dX8_look_0 rfl (lv_at hl 0 rfl) ?_
  refine lv_iload_n hx hb dX8_look_1 rfl (lv_at hl 1 rfl) ?_
  refine lv_iload_n hx hb dX8_look_2 rfl (lv_at hl 2 rfl) ?_
  obtain ⟨r1, σ2, hc2, hf⟩ := nBd_e hf
  refine nb_callVi (As := [.int x1, .int x2]) (rest := []) ⟨hx, hb, hml, hown, hts⟩ (c_X8_hasStep (D := D) (A := A) (cy := cy) (a := a) (kt := kt) (vt := vt) (l := l)  hc2) (cwV 2 hts gX8_look_X8_hasStep rfl rfl rfl (by decide +kernel) ⟨Nat.le_of_ble_eq_true rfl, Nat.le_of_ble_eq_true rfl⟩) hE hP hS nbo_0 rfl rfl hl.1 rfl (Nat.le_of_ble_eq_true rfl) dX8_look_3 (fun H locs hP hS => ?_)
  refine lv_if_ne (tgt := 11) hx hb dX8_look_6 (by decide) (fun hc => ?_) (fun hc => ?_)
  · replace hf := nIf_f hc hf
    refine lv_aload_n hx hb dX8_look_11 rfl (lv_at hl 0 rfl) ?_
    refine nb_get (ci := 8) hx hb hts iX8_look_X8 hown hE hP 0 nbo_0 rfl 0 (by decide) qX8_look_12 rfl rfl dX8_look_12 ?_
    refine lv_iload_n hx hb dX8_look_15 rfl (lv_at hl 1 rfl) ?_
    obtain ⟨r3, σ4, hc4, hf⟩ := nBd_e hf
    refine nb_callVi (As := [.int x1]) (rest := []) ⟨hx, hb, hml, hown, hts⟩ (c_X7_reached (D := D) (A := A) (cy := cy) (a := a) (kt := kt) (vt := vt) (l := l)  hc4) (cwV 1 hts gX8_look_X7_reached rfl rfl rfl (by decide +kernel) ⟨Nat.le_of_ble_eq_true rfl, Nat.le_of_ble_eq_true rfl⟩) hE hP hS nbo_1 rfl rfl hl.1 rfl (Nat.le_of_ble_eq_true rfl) dX8_look_16 (fun H locs hP hS => ?_)
    refine lv_iload_n hx hb dX8_look_19 rfl (lv_at hl 2 rfl) ?_
    refine lv_ishr hx hb dX8_look_20 ?_
    refine lv_topi (fun v5 ev5 => ?_)
    replace hf := nLet_e hf ev5
    refine lv_iconst (v := 1) hx hb dX8_look_21 (by decide) ?_
    refine lv_iand hx hb dX8_look_22 ?_
    refine lv_topi (fun v6 ev6 => ?_)
    replace hf := nLet_e hf ev6
    refine lv_aload_n hx hb dX8_look_23 rfl (lv_at hl 0 rfl) ?_
    refine nb_get (ci := 8) hx hb hts iX8_look_X8 hown hE hP 0 nbo_0 rfl 0 (by decide) qX8_look_12 rfl rfl dX8_look_24 ?_
    refine lv_iload_n hx hb dX8_look_27 rfl (lv_at hl 1 rfl) ?_
    refine lv_iload_n hx hb dX8_look_28 rfl (lv_at hl 2 rfl) ?_
    obtain ⟨r7, σ8, hc8, hf⟩ := nBd_e hf
    refine nb_callVi (As := [.int x1, .int x2]) (rest := [.int v6]) ⟨hx, hb, hml, hown, hts⟩ (c_X7_isDoable (D := D) (A := A) (cy := cy) (a := a) (kt := kt) (vt := vt) (l := l)  hc8) (cwV 2 hts gX8_look_X7_isDoable rfl rfl rfl (by decide +kernel) ⟨Nat.le_of_ble_eq_true rfl, Nat.le_of_ble_eq_true rfl⟩) hE hP hS nbo_1 rfl rfl hl.1 rfl (Nat.le_of_ble_eq_true rfl) dX8_look_29 (fun H locs hP hS => ?_)
    refine lv_if_eq (tgt := 39) hx hb dX8_look_32 (by decide) (fun hc => ?_) (fun hc => ?_)
    · replace hf := nIf_t hc hf
      refine lv_iconst (v := 0) hx hb dX8_look_39 (by decide) ?_
      refine lv_iadd hx hb dX8_look_40 ?_
      refine lv_topi (fun v9 ev9 => ?_)
      replace hf := nLet_e hf ev9
      exact nb_iret hx hb hr hlocks hP hS (nSo hf) dX8_look_41
    · replace hf := nIf_f hc hf
      refine lv_iconst (v := 2) hx hb dX8_look_35 (by decide) ?_
      refine lv_goto (tgt := 40) hx hb dX8_look_36 (by decide) ?_
      refine lv_iadd hx hb dX8_look_40 ?_
      refine lv_topi (fun v10 ev10 => ?_)
      replace hf := nLet_e hf ev10
      exact nb_iret hx hb hr hlocks hP hS (nSo hf) dX8_look_41
  · replace hf := nIf_t hc hf
    refine lv_iconst (v := (-1)) hx hb dX8_look_9 (by decide) ?_
    exact nb_iret hx hb hr hlocks hP hS (nSo hf) dX8_look_10
def l_X8_look_0 (N : Nat) : nS → Int32 → Int32 → Option (Int32 × nS) := b_X8_look_0 N
theorem kl_X8_look_0 {p : Program} {l : Launch} {e : Env} {s : State} {m : MethodId} {args : Array Value} {below : List Frame} {meth : Method} {c : Code} {D : va_G} {A : Nat → Prop} {cy : Nat → ClassId} {a kt vt : Nat → Nat} {N : Nat}   (C0 : nCx p s m args meth c cX8_look 3 (some .int) RX8 wsX8_look) (hE : nEn D A cy (NBw cy a) kt vt s) {z : Int32 × nS} : ∀ (σ : nS) (x1 : Int32) (x2 : Int32) (H : Heap) (locs : List Loc) (ls : Array Slot), lv_has ls 3 [(0, .ref (a 0)), (1, .int x1), (2, .int x2)] → va_P D vwCl ((NBw cy a) σ) H → va_S A s.heap H locs → l_X8_look_0 N σ x1 x2 = some z → W p l e ({ frames := 3, cells := 0, slots := 0, locals := 73 } : Room) s m args below meth c H locs 0 0 (nQi below D A (NBw cy a) args s z) (F0 m 0 ls []) := by
  exact kb_X8_look_0 (N := N)  C0 hE
def f_X8_look (N : Nat) (x1 : Int32) (x2 : Int32) (σ : nS) : Option (Int32 × nS) := l_X8_look_0 N σ x1 x2
set_option maxHeartbeats 4000000 in
set_option maxRecDepth 100000 in
theorem c_X8_look {l : Launch} {D : va_G} {A : Nat → Prop} {cy : Nat → ClassId} {a kt vt : Nat → Nat} {N : Nat}   {x1 : Int32} {x2 : Int32} {σ : nS} {r : Int32} {σ' : nS} (hf : f_X8_look N x1 x2 σ = some (r, σ')) : nMi l yX8_look wsX8_look ({ frames := 3, cells := 0, slots := 0, locals := 73 } : Room) D A cy (NBw cy a) kt vt [.ref (a 0), .int x1, .int x2] σ r σ' := by
  refine Met.ofW (cc := cX8_look) (maxL := 3) (ret := (some .int)) (by decide) rfl ?_
  intro p e s m args below meth c s₁ B hml hv
  obtain ⟨rfl, hP, hE⟩ := hv
  have hl := lv_entry ([.ref (a 0), .int x1, .int x2]) (n := 3) (Nat.le_of_ble_eq_true rfl)
  rw [lg_entry_eq]
  generalize (lg_sl ([.ref (a 0), .int x1, .int x2]) ++ List.replicate (3 - (lg_sl ([.ref (a 0), .int x1, .int x2])).length) Slot.unset).toArray = ls at hl ⊢
  have C0 : nCx p s m _ meth c cX8_look 3 (some .int) RX8 wsX8_look := ⟨B.exec, B.bytes, B.returns, hml, findClass_of_methodNamed B.named, atoms_spec (ws := wsX8_look) B.pre, B.notSynchronized⟩
  exact kl_X8_look_0 (N := N)  C0 hE (z := (r, σ')) σ x1 x2 _ _ ls hl hP va_S.rf hf

/-! X8_mend -/
set_option maxRecDepth 20000 in
theorem iX8_mend_X8 : ∀ w ∈ u_ws RX8 TX8 13, w ∈ wsX8_mend := fun _ h => List.mem_cons_of_mem _ (List.mem_append_left _ (List.mem_append_right _ h))
set_option maxRecDepth 20000 in
theorem qX8_mend_65 : Cond.fieldLink RX8 65 RX8 (TX8 9).2.1 (TX8 9).2.2.1 ∈ wsX8_mend := by decide +kernel
def b_X8_mend_0 (N : Nat) (σ : nS) (x1 : Int32) : Option (Int32 × nS) := nBd (f_X1_about N x1 σ) (fun r1 σ2 => some (r1, σ2))
set_option maxHeartbeats 4000000 in
set_option maxRecDepth 100000 in
theorem kb_X8_mend_0 {p : Program} {l : Launch} {e : Env} {s : State} {m : MethodId} {args : Array Value} {below : List Frame} {meth : Method} {c : Code} {D : va_G} {A : Nat → Prop} {cy : Nat → ClassId} {a kt vt : Nat → Nat} {N : Nat}   (C0 : nCx p s m args meth c cX8_mend 2 (some .int) RX8 wsX8_mend) (hE : nEn D A cy (NBw cy a) kt vt s) {z : Int32 × nS} : ∀ (σ : nS) (x1 : Int32) (H : Heap) (locs : List Loc) (ls : Array Slot), lv_has ls 2 [(0, .ref (a 0)), (1, .int x1)] → va_P D vwCl ((NBw cy a) σ) H → va_S A s.heap H locs → b_X8_mend_0 N σ x1 = some z → W p l e ({ frames := 1, cells := 0, slots := 0, locals := 21 } : Room) s m args below meth c H locs 0 0 (nQi below D A (NBw cy a) args s z) (F0 m 0 ls []) := by
  obtain ⟨hx, hb, hr, hml, hown, hts, hlocks⟩ := C0
  intro σ x1 H locs ls hl hP hS hf
  unfold b_X8_mend_0 at hf
  refine lv_aload_n hx hb dX8_mend_0 rfl (lv_at hl 0 rfl) ?_
  refine nb_get (ci := 8) hx hb hts iX8_mend_X8 hown hE hP 0 nbo_0 rfl 9 (by decide) qX8_mend_65 rfl rfl dX8_mend_1 ?_
  refine lv_iload_n hx hb dX8_mend_4 rfl (lv_at hl 1 rfl) ?_
  obtain ⟨r1, σ2, hc2, hf⟩ := nBd_e hf
  refine nb_callVi (As := [.int x1]) (rest := []) ⟨hx, hb, hml, hown, hts⟩ (c_X1_about (D := D) (A := A) (cy := cy) (a := a) (kt := kt) (vt := vt) (l := l)  hc2) (cwV 1 hts gX8_mend_X1_about rfl rfl rfl (by decide +kernel) ⟨Nat.le_of_ble_eq_true rfl, Nat.le_of_ble_eq_true rfl⟩) hE hP hS nbo_19 rfl rfl hl.1 rfl (Nat.le_of_ble_eq_true rfl) dX8_mend_5 (fun H locs hP hS => ?_)
  exact nb_iret hx hb hr hlocks hP hS (nSo hf) dX8_mend_8
def l_X8_mend_0 (N : Nat) : nS → Int32 → Option (Int32 × nS) := b_X8_mend_0 N
theorem kl_X8_mend_0 {p : Program} {l : Launch} {e : Env} {s : State} {m : MethodId} {args : Array Value} {below : List Frame} {meth : Method} {c : Code} {D : va_G} {A : Nat → Prop} {cy : Nat → ClassId} {a kt vt : Nat → Nat} {N : Nat}   (C0 : nCx p s m args meth c cX8_mend 2 (some .int) RX8 wsX8_mend) (hE : nEn D A cy (NBw cy a) kt vt s) {z : Int32 × nS} : ∀ (σ : nS) (x1 : Int32) (H : Heap) (locs : List Loc) (ls : Array Slot), lv_has ls 2 [(0, .ref (a 0)), (1, .int x1)] → va_P D vwCl ((NBw cy a) σ) H → va_S A s.heap H locs → l_X8_mend_0 N σ x1 = some z → W p l e ({ frames := 1, cells := 0, slots := 0, locals := 21 } : Room) s m args below meth c H locs 0 0 (nQi below D A (NBw cy a) args s z) (F0 m 0 ls []) := by
  exact kb_X8_mend_0 (N := N)  C0 hE
def f_X8_mend (N : Nat) (x1 : Int32) (σ : nS) : Option (Int32 × nS) := l_X8_mend_0 N σ x1
set_option maxHeartbeats 4000000 in
set_option maxRecDepth 100000 in
theorem c_X8_mend {l : Launch} {D : va_G} {A : Nat → Prop} {cy : Nat → ClassId} {a kt vt : Nat → Nat} {N : Nat}   {x1 : Int32} {σ : nS} {r : Int32} {σ' : nS} (hf : f_X8_mend N x1 σ = some (r, σ')) : nMi l yX8_mend wsX8_mend ({ frames := 1, cells := 0, slots := 0, locals := 21 } : Room) D A cy (NBw cy a) kt vt [.ref (a 0), .int x1] σ r σ' := by
  refine Met.ofW (cc := cX8_mend) (maxL := 2) (ret := (some .int)) (by decide) rfl ?_
  intro p e s m args below meth c s₁ B hml hv
  obtain ⟨rfl, hP, hE⟩ := hv
  have hl := lv_entry ([.ref (a 0), .int x1]) (n := 2) (Nat.le_of_ble_eq_true rfl)
  rw [lg_entry_eq]
  generalize (lg_sl ([.ref (a 0), .int x1]) ++ List.replicate (2 - (lg_sl ([.ref (a 0), .int x1])).length) Slot.unset).toArray = ls at hl ⊢
  have C0 : nCx p s m _ meth c cX8_mend 2 (some .int) RX8 wsX8_mend := ⟨B.exec, B.bytes, B.returns, hml, findClass_of_methodNamed B.named, atoms_spec (ws := wsX8_mend) B.pre, B.notSynchronized⟩
  exact kl_X8_mend_0 (N := N)  C0 hE (z := (r, σ')) σ x1 _ _ ls hl hP va_S.rf hf

/-! X8_night -/
set_option maxRecDepth 20000 in
theorem iX8_night_X8 : ∀ w ∈ u_ws RX8 TX8 13, w ∈ wsX8_night := fun _ h => List.mem_cons_of_mem _ (List.mem_append_left _ (List.mem_append_right _ h))
set_option maxRecDepth 20000 in
theorem qX8_night_42 : Cond.fieldLink RX8 42 RX8 (TX8 5).2.1 (TX8 5).2.2.1 ∈ wsX8_night := by decide +kernel
set_option maxRecDepth 20000 in
theorem iX8_night_X6 : ∀ w ∈ u_ws RX6 TX6 12, w ∈ wsX8_night := fun _ h => List.mem_cons_of_mem _ (List.mem_append_right _ h)
set_option maxRecDepth 20000 in
theorem qX8_night_45 : Cond.fieldLink RX8 45 RX8 (TX8 6).2.1 (TX8 6).2.2.1 ∈ wsX8_night := by decide +kernel
def b_X8_night_0 (N : Nat) (σ : nS) (x1 : Int32) (x2 : Int32) : Option (Int32 × nS) := (if x1 = 0 then (if (σ.1 30 11) = (-1) then some ((-1), σ) else (if x2 = 0 then some ((σ.1 30 11), σ) else (if x2 = 1 then some ((σ.1 30 8), σ) else (if x2 = 2 then some ((σ.1 30 9), σ) else some ((-1), σ))))) else (if (σ.1 33 11) = (-1) then some ((-1), σ) else (if x2 = 0 then some ((σ.1 33 11), σ) else (if x2 = 1 then some ((σ.1 33 8), σ) else (if x2 = 2 then some ((σ.1 33 9), σ) else some ((-1), σ))))))
set_option maxHeartbeats 4000000 in
set_option maxRecDepth 100000 in
theorem kb_X8_night_0 {p : Program} {l : Launch} {e : Env} {s : State} {m : MethodId} {args : Array Value} {below : List Frame} {meth : Method} {c : Code} {D : va_G} {A : Nat → Prop} {cy : Nat → ClassId} {a kt vt : Nat → Nat} {N : Nat}   (C0 : nCx p s m args meth c cX8_night 4 (some .int) RX8 wsX8_night) (hE : nEn D A cy (NBw cy a) kt vt s) {z : Int32 × nS} : ∀ (σ : nS) (x1 : Int32) (x2 : Int32) (H : Heap) (locs : List Loc) (ls : Array Slot), lv_has ls 4 [(0, .ref (a 0)), (1, .int x1), (2, .int x2)] → va_P D vwCl ((NBw cy a) σ) H → va_S A s.heap H locs → b_X8_night_0 N σ x1 x2 = some z → W p l e ({ frames := 0, cells := 0, slots := 0, locals := 0 } : Room) s m args below meth c H locs 0 0 (nQi below D A (NBw cy a) args s z) (F0 m 0 ls []) := by
  obtain ⟨hx, hb, hr, hml, hown, hts, hlocks⟩ := C0
  intro σ x1 x2 H locs ls hl hP hS hf
  unfold b_X8_night_0 at hf
  refine lv_iload_n hx hb dX8_night_0 rfl (lv_at hl 1 rfl) ?_
  refine lv_if_eq (tgt := 11) hx hb dX8_night_1 (by decide) (fun hc => ?_) (fun hc => ?_)
  · replace hf := nIf_t hc hf
    refine lv_aload_n hx hb dX8_night_11 rfl (lv_at hl 0 rfl) ?_
    refine nb_get (ci := 8) hx hb hts iX8_night_X8 hown hE hP 0 nbo_0 rfl 5 (by decide) qX8_night_42 rfl rfl dX8_night_12 ?_
    refine lv_astore_n (lv' := [(3, .ref (a 30)), (0, .ref (a 0)), (1, .int x1), (2, .int x2)]) hx hb dX8_night_15 rfl hl (by decide) rfl (fun ls hl => ?_)
    refine lv_aload_n hx hb dX8_night_16 rfl (lv_at hl 0 rfl) ?_
    refine nb_getN (ci := 6) hx hb hts iX8_night_X6 hown hE hP 30 (nboW nWk_30) rfl 11 (by decide) (host := RX8) (by decide +kernel) rfl rfl dX8_night_17 ?_
    refine lv_iconst (v := (-1)) hx hb dX8_night_20 (by decide) ?_
    refine lv_icmp_ne (tgt := 26) hx hb dX8_night_21 (by decide) (fun hc => ?_) (fun hc => ?_)
    · replace hf := nIf_f hc hf
      refine lv_iload_n hx hb dX8_night_26 rfl (lv_at hl 3 rfl) ?_
      refine lv_if_ne (tgt := 37) hx hb dX8_night_27 (by decide) (fun hc => ?_) (fun hc => ?_)
      · replace hf := nIf_f hc hf
        refine lv_iload_n hx hb dX8_night_37 rfl (lv_at hl 3 rfl) ?_
        refine lv_iconst (v := 1) hx hb dX8_night_38 (by decide) ?_
        refine lv_icmp_ne (tgt := 49) hx hb dX8_night_39 (by decide) (fun hc => ?_) (fun hc => ?_)
        · replace hf := nIf_f hc hf
          refine lv_iload_n hx hb dX8_night_49 rfl (lv_at hl 3 rfl) ?_
          refine lv_iconst (v := 2) hx hb dX8_night_50 (by decide) ?_
          refine lv_icmp_ne (tgt := 61) hx hb dX8_night_51 (by decide) (fun hc => ?_) (fun hc => ?_)
          · replace hf := nIf_f hc hf
            refine lv_iconst (v := (-1)) hx hb dX8_night_61 (by decide) ?_
            exact nb_iret hx hb hr hlocks hP hS (nSo hf) dX8_night_62
          · replace hf := nIf_t hc hf
            refine lv_aload_n hx hb dX8_night_54 rfl (lv_at hl 0 rfl) ?_
            refine nb_getN (ci := 6) hx hb hts iX8_night_X6 hown hE hP 30 (nboW nWk_30) rfl 9 (by decide) (host := RX8) (by decide +kernel) rfl rfl dX8_night_55 ?_
            refine lv_goto (tgt := 62) hx hb dX8_night_58 (by decide) ?_
            exact nb_iret hx hb hr hlocks hP hS (nSo hf) dX8_night_62
        · replace hf := nIf_t hc hf
          refine lv_aload_n hx hb dX8_night_42 rfl (lv_at hl 0 rfl) ?_
          refine nb_getN (ci := 6) hx hb hts iX8_night_X6 hown hE hP 30 (nboW nWk_30) rfl 8 (by decide) (host := RX8) (by decide +kernel) rfl rfl dX8_night_43 ?_
          refine lv_goto (tgt := 62) hx hb dX8_night_46 (by decide) ?_
          exact nb_iret hx hb hr hlocks hP hS (nSo hf) dX8_night_62
      · replace hf := nIf_t hc hf
        refine lv_aload_n hx hb dX8_night_30 rfl (lv_at hl 0 rfl) ?_
        refine nb_getN (ci := 6) hx hb hts iX8_night_X6 hown hE hP 30 (nboW nWk_30) rfl 11 (by decide) (host := RX8) (by decide +kernel) rfl rfl dX8_night_31 ?_
        refine lv_goto (tgt := 62) hx hb dX8_night_34 (by decide) ?_
        exact nb_iret hx hb hr hlocks hP hS (nSo hf) dX8_night_62
    · replace hf := nIf_t hc hf
      refine lv_iconst (v := (-1)) hx hb dX8_night_24 (by decide) ?_
      exact nb_iret hx hb hr hlocks hP hS (nSo hf) dX8_night_25
  · replace hf := nIf_f hc hf
    refine lv_aload_n hx hb dX8_night_4 rfl (lv_at hl 0 rfl) ?_
    refine nb_get (ci := 8) hx hb hts iX8_night_X8 hown hE hP 0 nbo_0 rfl 6 (by decide) qX8_night_45 rfl rfl dX8_night_5 ?_
    refine lv_goto (tgt := 15) hx hb dX8_night_8 (by decide) ?_
    refine lv_astore_n (lv' := [(3, .ref (a 33)), (0, .ref (a 0)), (1, .int x1), (2, .int x2)]) hx hb dX8_night_15 rfl hl (by decide) rfl (fun ls hl => ?_)
    refine lv_aload_n hx hb dX8_night_16 rfl (lv_at hl 0 rfl) ?_
    refine nb_getN (ci := 6) hx hb hts iX8_night_X6 hown hE hP 33 (nboW nWk_33) rfl 11 (by decide) (host := RX8) (by decide +kernel) rfl rfl dX8_night_17 ?_
    refine lv_iconst (v := (-1)) hx hb dX8_night_20 (by decide) ?_
    refine lv_icmp_ne (tgt := 26) hx hb dX8_night_21 (by decide) (fun hc => ?_) (fun hc => ?_)
    · replace hf := nIf_f hc hf
      refine lv_iload_n hx hb dX8_night_26 rfl (lv_at hl 3 rfl) ?_
      refine lv_if_ne (tgt := 37) hx hb dX8_night_27 (by decide) (fun hc => ?_) (fun hc => ?_)
      · replace hf := nIf_f hc hf
        refine lv_iload_n hx hb dX8_night_37 rfl (lv_at hl 3 rfl) ?_
        refine lv_iconst (v := 1) hx hb dX8_night_38 (by decide) ?_
        refine lv_icmp_ne (tgt := 49) hx hb dX8_night_39 (by decide) (fun hc => ?_) (fun hc => ?_)
        · replace hf := nIf_f hc hf
          refine lv_iload_n hx hb dX8_night_49 rfl (lv_at hl 3 rfl) ?_
          refine lv_iconst (v := 2) hx hb dX8_night_50 (by decide) ?_
          refine lv_icmp_ne (tgt := 61) hx hb dX8_night_51 (by decide) (fun hc => ?_) (fun hc => ?_)
          · replace hf := nIf_f hc hf
            refine lv_iconst (v := (-1)) hx hb dX8_night_61 (by decide) ?_
            exact nb_iret hx hb hr hlocks hP hS (nSo hf) dX8_night_62
          · replace hf := nIf_t hc hf
            refine lv_aload_n hx hb dX8_night_54 rfl (lv_at hl 0 rfl) ?_
            refine nb_getN (ci := 6) hx hb hts iX8_night_X6 hown hE hP 33 (nboW nWk_33) rfl 9 (by decide) (host := RX8) (by decide +kernel) rfl rfl dX8_night_55 ?_
            refine lv_goto (tgt := 62) hx hb dX8_night_58 (by decide) ?_
            exact nb_iret hx hb hr hlocks hP hS (nSo hf) dX8_night_62
        · replace hf := nIf_t hc hf
          refine lv_aload_n hx hb dX8_night_42 rfl (lv_at hl 0 rfl) ?_
          refine nb_getN (ci := 6) hx hb hts iX8_night_X6 hown hE hP 33 (nboW nWk_33) rfl 8 (by decide) (host := RX8) (by decide +kernel) rfl rfl dX8_night_43 ?_
          refine lv_goto (tgt := 62) hx hb dX8_night_46 (by decide) ?_
          exact nb_iret hx hb hr hlocks hP hS (nSo hf) dX8_night_62
      · replace hf := nIf_t hc hf
        refine lv_aload_n hx hb dX8_night_30 rfl (lv_at hl 0 rfl) ?_
        refine nb_getN (ci := 6) hx hb hts iX8_night_X6 hown hE hP 33 (nboW nWk_33) rfl 11 (by decide) (host := RX8) (by decide +kernel) rfl rfl dX8_night_31 ?_
        refine lv_goto (tgt := 62) hx hb dX8_night_34 (by decide) ?_
        exact nb_iret hx hb hr hlocks hP hS (nSo hf) dX8_night_62
    · replace hf := nIf_t hc hf
      refine lv_iconst (v := (-1)) hx hb dX8_night_24 (by decide) ?_
      exact nb_iret hx hb hr hlocks hP hS (nSo hf) dX8_night_25
def l_X8_night_0 (N : Nat) : nS → Int32 → Int32 → Option (Int32 × nS) := b_X8_night_0 N
theorem kl_X8_night_0 {p : Program} {l : Launch} {e : Env} {s : State} {m : MethodId} {args : Array Value} {below : List Frame} {meth : Method} {c : Code} {D : va_G} {A : Nat → Prop} {cy : Nat → ClassId} {a kt vt : Nat → Nat} {N : Nat}   (C0 : nCx p s m args meth c cX8_night 4 (some .int) RX8 wsX8_night) (hE : nEn D A cy (NBw cy a) kt vt s) {z : Int32 × nS} : ∀ (σ : nS) (x1 : Int32) (x2 : Int32) (H : Heap) (locs : List Loc) (ls : Array Slot), lv_has ls 4 [(0, .ref (a 0)), (1, .int x1), (2, .int x2)] → va_P D vwCl ((NBw cy a) σ) H → va_S A s.heap H locs → l_X8_night_0 N σ x1 x2 = some z → W p l e ({ frames := 0, cells := 0, slots := 0, locals := 0 } : Room) s m args below meth c H locs 0 0 (nQi below D A (NBw cy a) args s z) (F0 m 0 ls []) := by
  exact kb_X8_night_0 (N := N)  C0 hE
def f_X8_night (N : Nat) (x1 : Int32) (x2 : Int32) (σ : nS) : Option (Int32 × nS) := l_X8_night_0 N σ x1 x2
set_option maxHeartbeats 4000000 in
set_option maxRecDepth 100000 in
theorem c_X8_night {l : Launch} {D : va_G} {A : Nat → Prop} {cy : Nat → ClassId} {a kt vt : Nat → Nat} {N : Nat}   {x1 : Int32} {x2 : Int32} {σ : nS} {r : Int32} {σ' : nS} (hf : f_X8_night N x1 x2 σ = some (r, σ')) : nMi l yX8_night wsX8_night ({ frames := 0, cells := 0, slots := 0, locals := 0 } : Room) D A cy (NBw cy a) kt vt [.ref (a 0), .int x1, .int x2] σ r σ' := by
  refine Met.ofW (cc := cX8_night) (maxL := 4) (ret := (some .int)) (by decide) rfl ?_
  intro p e s m args below meth c s₁ B hml hv
  obtain ⟨rfl, hP, hE⟩ := hv
  have hl := lv_entry ([.ref (a 0), .int x1, .int x2]) (n := 4) (Nat.le_of_ble_eq_true rfl)
  rw [lg_entry_eq]
  generalize (lg_sl ([.ref (a 0), .int x1, .int x2]) ++ List.replicate (4 - (lg_sl ([.ref (a 0), .int x1, .int x2])).length) Slot.unset).toArray = ls at hl ⊢
  have C0 : nCx p s m _ meth c cX8_night 4 (some .int) RX8 wsX8_night := ⟨B.exec, B.bytes, B.returns, hml, findClass_of_methodNamed B.named, atoms_spec (ws := wsX8_night) B.pre, B.notSynchronized⟩
  exact kl_X8_night_0 (N := N)  C0 hE (z := (r, σ')) σ x1 x2 _ _ ls hl hP va_S.rf hf

/-! X8_log -/
set_option maxRecDepth 20000 in
theorem iX8_log_X8 : ∀ w ∈ u_ws RX8 TX8 13, w ∈ wsX8_log := fun _ h => List.mem_cons_of_mem _ (List.mem_append_left _ (List.mem_append_right _ h))
set_option maxRecDepth 20000 in
theorem qX8_log_72 : Cond.fieldLink RX8 72 RX8 (TX8 10).2.1 (TX8 10).2.2.1 ∈ wsX8_log := by decide +kernel
set_option maxRecDepth 20000 in
theorem iX8_log_X2 : ∀ w ∈ u_ws RX2 TX2 5, w ∈ wsX8_log := fun _ h => List.mem_cons_of_mem _ (List.mem_append_right _ h)
def b_X8_log_0 (N : Nat) (σ : nS) (x1 : Int32) : Option (Int32 × nS) := (if x1 < 0 then nBd (f_X8_refuse N 2 σ) (fun r1 σ2 => some (r1, σ2)) else (if x1 < 24 then nBd (f_X2_isFull N σ) (fun r3 σ4 => (if r3 = 0 then nBd (f_X2_write N x1 σ4) (fun r5 σ6 => nBd (f_X8_accept N (σ6.1 20 2) σ6) (fun r7 σ8 => some (r7, σ8))) else nBd (f_X8_refuse N 3 σ4) (fun r9 σ10 => some (r9, σ10)))) else nBd (f_X8_refuse N 2 σ) (fun r11 σ12 => some (r11, σ12))))
set_option maxHeartbeats 4000000 in
set_option maxRecDepth 100000 in
theorem kb_X8_log_0 {p : Program} {l : Launch} {e : Env} {s : State} {m : MethodId} {args : Array Value} {below : List Frame} {meth : Method} {c : Code} {D : va_G} {A : Nat → Prop} {cy : Nat → ClassId} {a kt vt : Nat → Nat} {N : Nat}   (C0 : nCx p s m args meth c cX8_log 2 (some .int) RX8 wsX8_log) (hE : nEn D A cy (NBw cy a) kt vt s) {z : Int32 × nS} : ∀ (σ : nS) (x1 : Int32) (H : Heap) (locs : List Loc) (ls : Array Slot), lv_has ls 2 [(0, .ref (a 0)), (1, .int x1)] → va_P D vwCl ((NBw cy a) σ) H → va_S A s.heap H locs → b_X8_log_0 N σ x1 = some z → W p l e ({ frames := 1, cells := 0, slots := 0, locals := 21 } : Room) s m args below meth c H locs 0 0 (nQi below D A (NBw cy a) args s z) (F0 m 0 ls []) := by
  obtain ⟨hx, hb, hr, hml, hown, hts, hlocks⟩ := C0
  intro σ x1 H locs ls hl hP hS hf
  unfold b_X8_log_0 at hf
  refine lv_iload_n hx hb dX8_log_0 rfl (lv_at hl 1 rfl) ?_
  refine lv_if_lt (tgt := 10) hx hb dX8_log_1 (by decide) (fun hc => ?_) (fun hc => ?_)
  · replace hf := nIf_t hc hf
    refine lv_aload_n hx hb dX8_log_10 rfl (lv_at hl 0 rfl) ?_
    refine lv_iconst (v := 2) hx hb dX8_log_11 (by decide) ?_
    obtain ⟨r1, σ2, hc2, hf⟩ := nBd_e hf
    refine nb_callVi (As := [.int 2]) (rest := []) ⟨hx, hb, hml, hown, hts⟩ (c_X8_refuse (D := D) (A := A) (cy := cy) (a := a) (kt := kt) (vt := vt) (l := l)  hc2) (cwV 1 hts gX8_log_X8_refuse rfl rfl rfl (by decide +kernel) ⟨Nat.le_of_ble_eq_true rfl, Nat.le_of_ble_eq_true rfl⟩) hE hP hS nbo_0 rfl rfl hl.1 rfl (Nat.le_of_ble_eq_true rfl) dX8_log_12 (fun H locs hP hS => ?_)
    exact nb_iret hx hb hr hlocks hP hS (nSo hf) dX8_log_15
  · replace hf := nIf_f hc hf
    refine lv_iload_n hx hb dX8_log_4 rfl (lv_at hl 1 rfl) ?_
    refine lv_bipush (v := 24) hx hb dX8_log_5 (by decide) ?_
    refine lv_icmp_lt (tgt := 16) hx hb dX8_log_7 (by decide) (fun hc => ?_) (fun hc => ?_)
    · replace hf := nIf_t hc hf
      refine lv_aload_n hx hb dX8_log_16 rfl (lv_at hl 0 rfl) ?_
      refine nb_get (ci := 8) hx hb hts iX8_log_X8 hown hE hP 0 nbo_0 rfl 10 (by decide) qX8_log_72 rfl rfl dX8_log_17 ?_
      obtain ⟨r3, σ4, hc4, hf⟩ := nBd_e hf
      refine nb_callVi (As := []) (rest := []) ⟨hx, hb, hml, hown, hts⟩ (c_X2_isFull (D := D) (A := A) (cy := cy) (a := a) (kt := kt) (vt := vt) (l := l)  hc4) (cwV 0 hts gX8_log_X2_isFull rfl rfl rfl (by decide +kernel) ⟨Nat.le_of_ble_eq_true rfl, Nat.le_of_ble_eq_true rfl⟩) hE hP hS nbo_20 rfl rfl hl.1 rfl (Nat.le_of_ble_eq_true rfl) dX8_log_20 (fun H locs hP hS => ?_)
      refine lv_if_eq (tgt := 32) hx hb dX8_log_23 (by decide) (fun hc => ?_) (fun hc => ?_)
      · replace hf := nIf_t hc hf
        refine lv_aload_n hx hb dX8_log_32 rfl (lv_at hl 0 rfl) ?_
        refine nb_get (ci := 8) hx hb hts iX8_log_X8 hown hE hP 0 nbo_0 rfl 10 (by decide) qX8_log_72 rfl rfl dX8_log_33 ?_
        refine lv_iload_n hx hb dX8_log_36 rfl (lv_at hl 1 rfl) ?_
        obtain ⟨r5, σ6, hc6, hf⟩ := nBd_e hf
        refine nb_callVv (As := [.int x1]) (rest := []) ⟨hx, hb, hml, hown, hts⟩ (c_X2_write (D := D) (A := A) (cy := cy) (a := a) (kt := kt) (vt := vt) (l := l)  hc6) (cwV 1 hts gX8_log_X2_write rfl rfl rfl (by decide +kernel) ⟨Nat.le_of_ble_eq_true rfl, Nat.le_of_ble_eq_true rfl⟩) hE hP hS nbo_20 rfl rfl hl.1 rfl (Nat.le_of_ble_eq_true rfl) dX8_log_37 (fun H locs hP hS => ?_)
        refine lv_aload_n hx hb dX8_log_40 rfl (lv_at hl 0 rfl) ?_
        refine lv_aload_n hx hb dX8_log_41 rfl (lv_at hl 0 rfl) ?_
        refine nb_get (ci := 8) hx hb hts iX8_log_X8 hown hE hP 0 nbo_0 rfl 10 (by decide) qX8_log_72 rfl rfl dX8_log_42 ?_
        refine nb_getN (ci := 2) hx hb hts iX8_log_X2 hown hE hP 20 nbo_20 rfl 2 (by decide) (host := RX8) (by decide +kernel) rfl rfl dX8_log_45 ?_
        obtain ⟨r7, σ8, hc8, hf⟩ := nBd_e hf
        refine nb_callVi (As := [.int (σ6.1 20 2)]) (rest := []) ⟨hx, hb, hml, hown, hts⟩ (c_X8_accept (D := D) (A := A) (cy := cy) (a := a) (kt := kt) (vt := vt) (l := l)  hc8) (cwV 1 hts gX8_log_X8_accept rfl rfl rfl (by decide +kernel) ⟨Nat.le_of_ble_eq_true rfl, Nat.le_of_ble_eq_true rfl⟩) hE hP hS nbo_0 rfl rfl hl.1 rfl (Nat.le_of_ble_eq_true rfl) dX8_log_48 (fun H locs hP hS => ?_)
        exact nb_iret hx hb hr hlocks hP hS (nSo hf) dX8_log_51
      · replace hf := nIf_f hc hf
        refine lv_aload_n hx hb dX8_log_26 rfl (lv_at hl 0 rfl) ?_
        refine lv_iconst (v := 3) hx hb dX8_log_27 (by decide) ?_
        obtain ⟨r9, σ10, hc10, hf⟩ := nBd_e hf
        refine nb_callVi (As := [.int 3]) (rest := []) ⟨hx, hb, hml, hown, hts⟩ (c_X8_refuse (D := D) (A := A) (cy := cy) (a := a) (kt := kt) (vt := vt) (l := l)  hc10) (cwV 1 hts gX8_log_X8_refuse rfl rfl rfl (by decide +kernel) ⟨Nat.le_of_ble_eq_true rfl, Nat.le_of_ble_eq_true rfl⟩) hE hP hS nbo_0 rfl rfl hl.1 rfl (Nat.le_of_ble_eq_true rfl) dX8_log_28 (fun H locs hP hS => ?_)
        exact nb_iret hx hb hr hlocks hP hS (nSo hf) dX8_log_31
    · replace hf := nIf_f hc hf
      refine lv_aload_n hx hb dX8_log_10 rfl (lv_at hl 0 rfl) ?_
      refine lv_iconst (v := 2) hx hb dX8_log_11 (by decide) ?_
      obtain ⟨r11, σ12, hc12, hf⟩ := nBd_e hf
      refine nb_callVi (As := [.int 2]) (rest := []) ⟨hx, hb, hml, hown, hts⟩ (c_X8_refuse (D := D) (A := A) (cy := cy) (a := a) (kt := kt) (vt := vt) (l := l)  hc12) (cwV 1 hts gX8_log_X8_refuse rfl rfl rfl (by decide +kernel) ⟨Nat.le_of_ble_eq_true rfl, Nat.le_of_ble_eq_true rfl⟩) hE hP hS nbo_0 rfl rfl hl.1 rfl (Nat.le_of_ble_eq_true rfl) dX8_log_12 (fun H locs hP hS => ?_)
      exact nb_iret hx hb hr hlocks hP hS (nSo hf) dX8_log_15
def l_X8_log_0 (N : Nat) : nS → Int32 → Option (Int32 × nS) := b_X8_log_0 N
theorem kl_X8_log_0 {p : Program} {l : Launch} {e : Env} {s : State} {m : MethodId} {args : Array Value} {below : List Frame} {meth : Method} {c : Code} {D : va_G} {A : Nat → Prop} {cy : Nat → ClassId} {a kt vt : Nat → Nat} {N : Nat}   (C0 : nCx p s m args meth c cX8_log 2 (some .int) RX8 wsX8_log) (hE : nEn D A cy (NBw cy a) kt vt s) {z : Int32 × nS} : ∀ (σ : nS) (x1 : Int32) (H : Heap) (locs : List Loc) (ls : Array Slot), lv_has ls 2 [(0, .ref (a 0)), (1, .int x1)] → va_P D vwCl ((NBw cy a) σ) H → va_S A s.heap H locs → l_X8_log_0 N σ x1 = some z → W p l e ({ frames := 1, cells := 0, slots := 0, locals := 21 } : Room) s m args below meth c H locs 0 0 (nQi below D A (NBw cy a) args s z) (F0 m 0 ls []) := by
  exact kb_X8_log_0 (N := N)  C0 hE
def f_X8_log (N : Nat) (x1 : Int32) (σ : nS) : Option (Int32 × nS) := l_X8_log_0 N σ x1
set_option maxHeartbeats 4000000 in
set_option maxRecDepth 100000 in
theorem c_X8_log {l : Launch} {D : va_G} {A : Nat → Prop} {cy : Nat → ClassId} {a kt vt : Nat → Nat} {N : Nat}   {x1 : Int32} {σ : nS} {r : Int32} {σ' : nS} (hf : f_X8_log N x1 σ = some (r, σ')) : nMi l yX8_log wsX8_log ({ frames := 1, cells := 0, slots := 0, locals := 21 } : Room) D A cy (NBw cy a) kt vt [.ref (a 0), .int x1] σ r σ' := by
  refine Met.ofW (cc := cX8_log) (maxL := 2) (ret := (some .int)) (by decide) rfl ?_
  intro p e s m args below meth c s₁ B hml hv
  obtain ⟨rfl, hP, hE⟩ := hv
  have hl := lv_entry ([.ref (a 0), .int x1]) (n := 2) (Nat.le_of_ble_eq_true rfl)
  rw [lg_entry_eq]
  generalize (lg_sl ([.ref (a 0), .int x1]) ++ List.replicate (2 - (lg_sl ([.ref (a 0), .int x1])).length) Slot.unset).toArray = ls at hl ⊢
  have C0 : nCx p s m _ meth c cX8_log 2 (some .int) RX8 wsX8_log := ⟨B.exec, B.bytes, B.returns, hml, findClass_of_methodNamed B.named, atoms_spec (ws := wsX8_log) B.pre, B.notSynchronized⟩
  exact kl_X8_log_0 (N := N)  C0 hE (z := (r, σ')) σ x1 _ _ ls hl hP va_S.rf hf

/-! X8_clear -/
set_option maxRecDepth 20000 in
theorem iX8_clear_X8 : ∀ w ∈ u_ws RX8 TX8 13, w ∈ wsX8_clear := fun _ h => List.mem_cons_of_mem _ (List.mem_append_left _ (List.mem_append_right _ h))
set_option maxRecDepth 20000 in
theorem qX8_clear_72 : Cond.fieldLink RX8 72 RX8 (TX8 10).2.1 (TX8 10).2.2.1 ∈ wsX8_clear := by decide +kernel
set_option maxRecDepth 20000 in
theorem iX8_clear_X2 : ∀ w ∈ u_ws RX2 TX2 5, w ∈ wsX8_clear := fun _ h => List.mem_cons_of_mem _ (List.mem_append_right _ h)
def b_X8_clear_0 (N : Nat) (σ : nS) : Option (Int32 × nS) := nLet (wr σ 20 2 0) (fun σ1 => some ((σ.1 20 2), σ1))
set_option maxHeartbeats 4000000 in
set_option maxRecDepth 100000 in
theorem kb_X8_clear_0 {p : Program} {l : Launch} {e : Env} {s : State} {m : MethodId} {args : Array Value} {below : List Frame} {meth : Method} {c : Code} {D : va_G} {A : Nat → Prop} {cy : Nat → ClassId} {a kt vt : Nat → Nat} {N : Nat}   (C0 : nCx p s m args meth c cX8_clear 2 (some .int) RX8 wsX8_clear) (hE : nEn D A cy (NBw cy a) kt vt s) {z : Int32 × nS} : ∀ (σ : nS) (H : Heap) (locs : List Loc) (ls : Array Slot), lv_has ls 2 [(0, .ref (a 0))] → va_P D vwCl ((NBw cy a) σ) H → va_S A s.heap H locs → b_X8_clear_0 N σ = some z → W p l e ({ frames := 0, cells := 0, slots := 0, locals := 0 } : Room) s m args below meth c H locs 0 0 (nQi below D A (NBw cy a) args s z) (F0 m 0 ls []) := by
  obtain ⟨hx, hb, hr, hml, hown, hts, hlocks⟩ := C0
  intro σ  H locs ls hl hP hS hf
  unfold b_X8_clear_0 at hf
  refine lv_aload_n hx hb dX8_clear_0 rfl (lv_at hl 0 rfl) ?_
  refine nb_get (ci := 8) hx hb hts iX8_clear_X8 hown hE hP 0 nbo_0 rfl 10 (by decide) qX8_clear_72 rfl rfl dX8_clear_1 ?_
  refine nb_getN (ci := 2) hx hb hts iX8_clear_X2 hown hE hP 20 nbo_20 rfl 2 (by decide) (host := RX8) (by decide +kernel) rfl rfl dX8_clear_4 ?_
  refine lv_istore_n (lv' := [(1, .int (σ.1 20 2)), (0, .ref (a 0))]) hx hb dX8_clear_7 rfl hl (by decide) rfl (fun ls hl => ?_)
  refine lv_aload_n hx hb dX8_clear_8 rfl (lv_at hl 1 rfl) ?_
  refine nb_get (ci := 8) hx hb hts iX8_clear_X8 hown hE hP 0 nbo_0 rfl 10 (by decide) qX8_clear_72 rfl rfl dX8_clear_9 ?_
  refine lv_iconst (v := 0) hx hb dX8_clear_12 (by decide) ?_
  refine nb_putN (ci := 2) hx hb hts iX8_clear_X2 tyX2 tyX2_ok nmX2 hown hE hP hS 20 nbo_20 rfl 2 (by decide) (host := RX8) (by decide +kernel) rfl rfl rfl rfl (Nat.le_of_ble_eq_true rfl) dX8_clear_13 (nbp_20_2 _) (fun σ1 eσ1 H locs hP hS => ?_)
  replace hf := nLet_e hf eσ1
  refine lv_iload_n hx hb dX8_clear_16 rfl (lv_at hl 0 rfl) ?_
  exact nb_iret hx hb hr hlocks hP hS (nSo hf) dX8_clear_17
def l_X8_clear_0 (N : Nat) : nS → Option (Int32 × nS) := b_X8_clear_0 N
theorem kl_X8_clear_0 {p : Program} {l : Launch} {e : Env} {s : State} {m : MethodId} {args : Array Value} {below : List Frame} {meth : Method} {c : Code} {D : va_G} {A : Nat → Prop} {cy : Nat → ClassId} {a kt vt : Nat → Nat} {N : Nat}   (C0 : nCx p s m args meth c cX8_clear 2 (some .int) RX8 wsX8_clear) (hE : nEn D A cy (NBw cy a) kt vt s) {z : Int32 × nS} : ∀ (σ : nS) (H : Heap) (locs : List Loc) (ls : Array Slot), lv_has ls 2 [(0, .ref (a 0))] → va_P D vwCl ((NBw cy a) σ) H → va_S A s.heap H locs → l_X8_clear_0 N σ = some z → W p l e ({ frames := 0, cells := 0, slots := 0, locals := 0 } : Room) s m args below meth c H locs 0 0 (nQi below D A (NBw cy a) args s z) (F0 m 0 ls []) := by
  exact kb_X8_clear_0 (N := N)  C0 hE
def f_X8_clear (N : Nat) (σ : nS) : Option (Int32 × nS) := l_X8_clear_0 N σ
set_option maxHeartbeats 4000000 in
set_option maxRecDepth 100000 in
theorem c_X8_clear {l : Launch} {D : va_G} {A : Nat → Prop} {cy : Nat → ClassId} {a kt vt : Nat → Nat} {N : Nat}   {σ : nS} {r : Int32} {σ' : nS} (hf : f_X8_clear N σ = some (r, σ')) : nMi l yX8_clear wsX8_clear ({ frames := 0, cells := 0, slots := 0, locals := 0 } : Room) D A cy (NBw cy a) kt vt [.ref (a 0)] σ r σ' := by
  refine Met.ofW (cc := cX8_clear) (maxL := 2) (ret := (some .int)) (by decide) rfl ?_
  intro p e s m args below meth c s₁ B hml hv
  obtain ⟨rfl, hP, hE⟩ := hv
  have hl := lv_entry ([.ref (a 0)]) (n := 2) (Nat.le_of_ble_eq_true rfl)
  rw [lg_entry_eq]
  generalize (lg_sl ([.ref (a 0)]) ++ List.replicate (2 - (lg_sl ([.ref (a 0)])).length) Slot.unset).toArray = ls at hl ⊢
  have C0 : nCx p s m _ meth c cX8_clear 2 (some .int) RX8 wsX8_clear := ⟨B.exec, B.bytes, B.returns, hml, findClass_of_methodNamed B.named, atoms_spec (ws := wsX8_clear) B.pre, B.notSynchronized⟩
  exact kl_X8_clear_0 (N := N)  C0 hE (z := (r, σ')) σ  _ _ ls hl hP va_S.rf hf

/-! X8_laid -/
set_option maxRecDepth 20000 in
theorem iX8_laid_X8 : ∀ w ∈ u_ws RX8 TX8 13, w ∈ wsX8_laid := fun _ h => List.mem_cons_of_mem _ (List.mem_append_left _ (List.mem_append_left _ (List.mem_append_right _ h)))
set_option maxRecDepth 20000 in
theorem qX8_laid_72 : Cond.fieldLink RX8 72 RX8 (TX8 10).2.1 (TX8 10).2.2.1 ∈ wsX8_laid := by decide +kernel
set_option maxRecDepth 20000 in
theorem qX8_laid_35 : Cond.fieldLink RX8 35 RX8 (TX8 3).2.1 (TX8 3).2.2.1 ∈ wsX8_laid := by decide +kernel
def b_X8_laid_0 (N : Nat) (σ : nS) : Option (Int32 × nS) := nBd (f_X8_nothingPlayed N σ) (fun r1 σ2 => (if r1 = 0 then nBd (f_X2_layBeside N σ2) (fun r3 σ4 => nBd (f_X8_accept N r3 σ4) (fun r5 σ6 => some (r5, σ6))) else nBd (f_X8_refuse N 5 σ2) (fun r7 σ8 => some (r7, σ8))))
set_option maxHeartbeats 4000000 in
set_option maxRecDepth 100000 in
theorem kb_X8_laid_0 {p : Program} {l : Launch} {e : Env} {s : State} {m : MethodId} {args : Array Value} {below : List Frame} {meth : Method} {c : Code} {D : va_G} {A : Nat → Prop} {cy : Nat → ClassId} {a kt vt : Nat → Nat} {N : Nat}   (C0 : nCx p s m args meth c cX8_laid 1 (some .int) RX8 wsX8_laid) (hE : nEn D A cy (NBw cy a) kt vt s) {z : Int32 × nS} : ∀ (σ : nS) (H : Heap) (locs : List Loc) (ls : Array Slot), lv_has ls 1 [(0, .ref (a 0))] → va_P D vwCl ((NBw cy a) σ) H → va_S A s.heap H locs → b_X8_laid_0 N σ = some z → W p l e ({ frames := 3, cells := 0, slots := 0, locals := 68 } : Room) s m args below meth c H locs 0 0 (nQi below D A (NBw cy a) args s z) (F0 m 0 ls []) := by
  obtain ⟨hx, hb, hr, hml, hown, hts, hlocks⟩ := C0
  intro σ  H locs ls hl hP hS hf
  unfold b_X8_laid_0 at hf
  refine lv_aload_n hx hb dX8_laid_0 rfl (lv_at hl 0 rfl) ?_
  obtain ⟨r1, σ2, hc2, hf⟩ := nBd_e hf
  refine nb_callVi (As := []) (rest := []) ⟨hx, hb, hml, hown, hts⟩ (c_X8_nothingPlayed (D := D) (A := A) (cy := cy) (a := a) (kt := kt) (vt := vt) (l := l)  hc2) (cwV 0 hts gX8_laid_X8_nothingPlayed rfl rfl rfl (by decide +kernel) ⟨Nat.le_of_ble_eq_true rfl, Nat.le_of_ble_eq_true rfl⟩) hE hP hS nbo_0 rfl rfl hl.1 rfl (Nat.le_of_ble_eq_true rfl) dX8_laid_1 (fun H locs hP hS => ?_)
  refine lv_if_eq (tgt := 13) hx hb dX8_laid_4 (by decide) (fun hc => ?_) (fun hc => ?_)
  · replace hf := nIf_t hc hf
    refine lv_aload_n hx hb dX8_laid_13 rfl (lv_at hl 0 rfl) ?_
    refine lv_aload_n hx hb dX8_laid_14 rfl (lv_at hl 0 rfl) ?_
    refine nb_get (ci := 8) hx hb hts iX8_laid_X8 hown hE hP 0 nbo_0 rfl 10 (by decide) qX8_laid_72 rfl rfl dX8_laid_15 ?_
    refine lv_aload_n hx hb dX8_laid_18 rfl (lv_at hl 0 rfl) ?_
    refine nb_get (ci := 8) hx hb hts iX8_laid_X8 hown hE hP 0 nbo_0 rfl 3 (by decide) qX8_laid_35 rfl rfl dX8_laid_19 ?_
    obtain ⟨r3, σ4, hc4, hf⟩ := nBd_e hf
    refine nb_callVi (As := [.ref (a 24)]) (rest := [.ref (a 0)]) ⟨hx, hb, hml, hown, hts⟩ (c_X2_layBeside (D := D) (A := A) (cy := cy) (a := a) (kt := kt) (vt := vt) (l := l)  hc4) (cwV 1 hts gX8_laid_X2_layBeside rfl rfl rfl (by decide +kernel) ⟨Nat.le_of_ble_eq_true rfl, Nat.le_of_ble_eq_true rfl⟩) hE hP hS nbo_20 rfl rfl hl.1 rfl (Nat.le_of_ble_eq_true rfl) dX8_laid_22 (fun H locs hP hS => ?_)
    obtain ⟨r5, σ6, hc6, hf⟩ := nBd_e hf
    refine nb_callVi (As := [.int r3]) (rest := []) ⟨hx, hb, hml, hown, hts⟩ (c_X8_accept (D := D) (A := A) (cy := cy) (a := a) (kt := kt) (vt := vt) (l := l)  hc6) (cwV 1 hts gX8_laid_X8_accept rfl rfl rfl (by decide +kernel) ⟨Nat.le_of_ble_eq_true rfl, Nat.le_of_ble_eq_true rfl⟩) hE hP hS nbo_0 rfl rfl hl.1 rfl (Nat.le_of_ble_eq_true rfl) dX8_laid_25 (fun H locs hP hS => ?_)
    exact nb_iret hx hb hr hlocks hP hS (nSo hf) dX8_laid_28
  · replace hf := nIf_f hc hf
    refine lv_aload_n hx hb dX8_laid_7 rfl (lv_at hl 0 rfl) ?_
    refine lv_iconst (v := 5) hx hb dX8_laid_8 (by decide) ?_
    obtain ⟨r7, σ8, hc8, hf⟩ := nBd_e hf
    refine nb_callVi (As := [.int 5]) (rest := []) ⟨hx, hb, hml, hown, hts⟩ (c_X8_refuse (D := D) (A := A) (cy := cy) (a := a) (kt := kt) (vt := vt) (l := l)  hc8) (cwV 1 hts gX8_laid_X8_refuse rfl rfl rfl (by decide +kernel) ⟨Nat.le_of_ble_eq_true rfl, Nat.le_of_ble_eq_true rfl⟩) hE hP hS nbo_0 rfl rfl hl.1 rfl (Nat.le_of_ble_eq_true rfl) dX8_laid_9 (fun H locs hP hS => ?_)
    exact nb_iret hx hb hr hlocks hP hS (nSo hf) dX8_laid_12
def l_X8_laid_0 (N : Nat) : nS → Option (Int32 × nS) := b_X8_laid_0 N
theorem kl_X8_laid_0 {p : Program} {l : Launch} {e : Env} {s : State} {m : MethodId} {args : Array Value} {below : List Frame} {meth : Method} {c : Code} {D : va_G} {A : Nat → Prop} {cy : Nat → ClassId} {a kt vt : Nat → Nat} {N : Nat}   (C0 : nCx p s m args meth c cX8_laid 1 (some .int) RX8 wsX8_laid) (hE : nEn D A cy (NBw cy a) kt vt s) {z : Int32 × nS} : ∀ (σ : nS) (H : Heap) (locs : List Loc) (ls : Array Slot), lv_has ls 1 [(0, .ref (a 0))] → va_P D vwCl ((NBw cy a) σ) H → va_S A s.heap H locs → l_X8_laid_0 N σ = some z → W p l e ({ frames := 3, cells := 0, slots := 0, locals := 68 } : Room) s m args below meth c H locs 0 0 (nQi below D A (NBw cy a) args s z) (F0 m 0 ls []) := by
  exact kb_X8_laid_0 (N := N)  C0 hE
def f_X8_laid (N : Nat) (σ : nS) : Option (Int32 × nS) := l_X8_laid_0 N σ
set_option maxHeartbeats 4000000 in
set_option maxRecDepth 100000 in
theorem c_X8_laid {l : Launch} {D : va_G} {A : Nat → Prop} {cy : Nat → ClassId} {a kt vt : Nat → Nat} {N : Nat}   {σ : nS} {r : Int32} {σ' : nS} (hf : f_X8_laid N σ = some (r, σ')) : nMi l yX8_laid wsX8_laid ({ frames := 3, cells := 0, slots := 0, locals := 68 } : Room) D A cy (NBw cy a) kt vt [.ref (a 0)] σ r σ' := by
  refine Met.ofW (cc := cX8_laid) (maxL := 1) (ret := (some .int)) (by decide) rfl ?_
  intro p e s m args below meth c s₁ B hml hv
  obtain ⟨rfl, hP, hE⟩ := hv
  have hl := lv_entry ([.ref (a 0)]) (n := 1) (Nat.le_of_ble_eq_true rfl)
  rw [lg_entry_eq]
  generalize (lg_sl ([.ref (a 0)]) ++ List.replicate (1 - (lg_sl ([.ref (a 0)])).length) Slot.unset).toArray = ls at hl ⊢
  have C0 : nCx p s m _ meth c cX8_laid 1 (some .int) RX8 wsX8_laid := ⟨B.exec, B.bytes, B.returns, hml, findClass_of_methodNamed B.named, atoms_spec (ws := wsX8_laid) B.pre, B.notSynchronized⟩
  exact kl_X8_laid_0 (N := N)  C0 hE (z := (r, σ')) σ  _ _ ls hl hP va_S.rf hf

/-! X8_apart -/
set_option maxRecDepth 20000 in
theorem iX8_apart_X8 : ∀ w ∈ u_ws RX8 TX8 13, w ∈ wsX8_apart := fun _ h => List.mem_cons_of_mem _ (List.mem_append_left _ (List.mem_append_right _ h))
set_option maxRecDepth 20000 in
theorem qX8_apart_72 : Cond.fieldLink RX8 72 RX8 (TX8 10).2.1 (TX8 10).2.2.1 ∈ wsX8_apart := by decide +kernel
set_option maxRecDepth 20000 in
theorem iX8_apart_X2 : ∀ w ∈ u_ws RX2 TX2 5, w ∈ wsX8_apart := fun _ h => List.mem_cons_of_mem _ (List.mem_append_right _ h)
def b_X8_apart_0 (N : Nat) (σ : nS) (x1 : Int32) : Option (Int32 × nS) := (if x1 = 0 then some ((σ.1 20 3), σ) else some ((σ.1 20 4), σ))
set_option maxHeartbeats 4000000 in
set_option maxRecDepth 100000 in
theorem kb_X8_apart_0 {p : Program} {l : Launch} {e : Env} {s : State} {m : MethodId} {args : Array Value} {below : List Frame} {meth : Method} {c : Code} {D : va_G} {A : Nat → Prop} {cy : Nat → ClassId} {a kt vt : Nat → Nat} {N : Nat}   (C0 : nCx p s m args meth c cX8_apart 2 (some .int) RX8 wsX8_apart) (hE : nEn D A cy (NBw cy a) kt vt s) {z : Int32 × nS} : ∀ (σ : nS) (x1 : Int32) (H : Heap) (locs : List Loc) (ls : Array Slot), lv_has ls 2 [(0, .ref (a 0)), (1, .int x1)] → va_P D vwCl ((NBw cy a) σ) H → va_S A s.heap H locs → b_X8_apart_0 N σ x1 = some z → W p l e ({ frames := 0, cells := 0, slots := 0, locals := 0 } : Room) s m args below meth c H locs 0 0 (nQi below D A (NBw cy a) args s z) (F0 m 0 ls []) := by
  obtain ⟨hx, hb, hr, hml, hown, hts, hlocks⟩ := C0
  intro σ x1 H locs ls hl hP hS hf
  unfold b_X8_apart_0 at hf
  refine lv_iload_n hx hb dX8_apart_0 rfl (lv_at hl 1 rfl) ?_
  refine lv_if_eq (tgt := 14) hx hb dX8_apart_1 (by decide) (fun hc => ?_) (fun hc => ?_)
  · replace hf := nIf_t hc hf
    refine lv_aload_n hx hb dX8_apart_14 rfl (lv_at hl 0 rfl) ?_
    refine nb_get (ci := 8) hx hb hts iX8_apart_X8 hown hE hP 0 nbo_0 rfl 10 (by decide) qX8_apart_72 rfl rfl dX8_apart_15 ?_
    refine nb_getN (ci := 2) hx hb hts iX8_apart_X2 hown hE hP 20 nbo_20 rfl 3 (by decide) (host := RX8) (by decide +kernel) rfl rfl dX8_apart_18 ?_
    exact nb_iret hx hb hr hlocks hP hS (nSo hf) dX8_apart_21
  · replace hf := nIf_f hc hf
    refine lv_aload_n hx hb dX8_apart_4 rfl (lv_at hl 0 rfl) ?_
    refine nb_get (ci := 8) hx hb hts iX8_apart_X8 hown hE hP 0 nbo_0 rfl 10 (by decide) qX8_apart_72 rfl rfl dX8_apart_5 ?_
    refine nb_getN (ci := 2) hx hb hts iX8_apart_X2 hown hE hP 20 nbo_20 rfl 4 (by decide) (host := RX8) (by decide +kernel) rfl rfl dX8_apart_8 ?_
    refine lv_goto (tgt := 21) hx hb dX8_apart_11 (by decide) ?_
    exact nb_iret hx hb hr hlocks hP hS (nSo hf) dX8_apart_21
def l_X8_apart_0 (N : Nat) : nS → Int32 → Option (Int32 × nS) := b_X8_apart_0 N
theorem kl_X8_apart_0 {p : Program} {l : Launch} {e : Env} {s : State} {m : MethodId} {args : Array Value} {below : List Frame} {meth : Method} {c : Code} {D : va_G} {A : Nat → Prop} {cy : Nat → ClassId} {a kt vt : Nat → Nat} {N : Nat}   (C0 : nCx p s m args meth c cX8_apart 2 (some .int) RX8 wsX8_apart) (hE : nEn D A cy (NBw cy a) kt vt s) {z : Int32 × nS} : ∀ (σ : nS) (x1 : Int32) (H : Heap) (locs : List Loc) (ls : Array Slot), lv_has ls 2 [(0, .ref (a 0)), (1, .int x1)] → va_P D vwCl ((NBw cy a) σ) H → va_S A s.heap H locs → l_X8_apart_0 N σ x1 = some z → W p l e ({ frames := 0, cells := 0, slots := 0, locals := 0 } : Room) s m args below meth c H locs 0 0 (nQi below D A (NBw cy a) args s z) (F0 m 0 ls []) := by
  exact kb_X8_apart_0 (N := N)  C0 hE
def f_X8_apart (N : Nat) (x1 : Int32) (σ : nS) : Option (Int32 × nS) := l_X8_apart_0 N σ x1
set_option maxHeartbeats 4000000 in
set_option maxRecDepth 100000 in
theorem c_X8_apart {l : Launch} {D : va_G} {A : Nat → Prop} {cy : Nat → ClassId} {a kt vt : Nat → Nat} {N : Nat}   {x1 : Int32} {σ : nS} {r : Int32} {σ' : nS} (hf : f_X8_apart N x1 σ = some (r, σ')) : nMi l yX8_apart wsX8_apart ({ frames := 0, cells := 0, slots := 0, locals := 0 } : Room) D A cy (NBw cy a) kt vt [.ref (a 0), .int x1] σ r σ' := by
  refine Met.ofW (cc := cX8_apart) (maxL := 2) (ret := (some .int)) (by decide) rfl ?_
  intro p e s m args below meth c s₁ B hml hv
  obtain ⟨rfl, hP, hE⟩ := hv
  have hl := lv_entry ([.ref (a 0), .int x1]) (n := 2) (Nat.le_of_ble_eq_true rfl)
  rw [lg_entry_eq]
  generalize (lg_sl ([.ref (a 0), .int x1]) ++ List.replicate (2 - (lg_sl ([.ref (a 0), .int x1])).length) Slot.unset).toArray = ls at hl ⊢
  have C0 : nCx p s m _ meth c cX8_apart 2 (some .int) RX8 wsX8_apart := ⟨B.exec, B.bytes, B.returns, hml, findClass_of_methodNamed B.named, atoms_spec (ws := wsX8_apart) B.pre, B.notSynchronized⟩
  exact kl_X8_apart_0 (N := N)  C0 hE (z := (r, σ')) σ x1 _ _ ls hl hP va_S.rf hf

/-! X8_count -/
set_option maxRecDepth 20000 in
theorem iX8_count_X8 : ∀ w ∈ u_ws RX8 TX8 13, w ∈ wsX8_count := fun _ h => List.mem_cons_of_mem _ (List.mem_append_left _ (List.mem_append_left _ (List.mem_append_left _ (List.mem_append_right _ h))))
set_option maxRecDepth 20000 in
theorem qX8_count_12 : Cond.fieldLink RX8 12 RX8 (TX8 0).2.1 (TX8 0).2.2.1 ∈ wsX8_count := by decide +kernel
set_option maxRecDepth 20000 in
theorem iX8_count_X7 : ∀ w ∈ u_ws RX7 TX7 9, w ∈ wsX8_count := fun _ h => List.mem_cons_of_mem _ (List.mem_append_left _ (List.mem_append_left _ (List.mem_append_right _ h)))
set_option maxRecDepth 20000 in
theorem qX8_count_72 : Cond.fieldLink RX8 72 RX8 (TX8 10).2.1 (TX8 10).2.2.1 ∈ wsX8_count := by decide +kernel
set_option maxRecDepth 20000 in
theorem iX8_count_X2 : ∀ w ∈ u_ws RX2 TX2 5, w ∈ wsX8_count := fun _ h => List.mem_cons_of_mem _ (List.mem_append_left _ (List.mem_append_right _ h))
set_option maxRecDepth 20000 in
theorem qX8_count_19 : Cond.fieldLink RX8 19 RX8 (TX8 1).2.1 (TX8 1).2.2.1 ∈ wsX8_count := by decide +kernel
set_option maxRecDepth 20000 in
theorem iX8_count_X4 : ∀ w ∈ u_ws RX4 TX4 14, w ∈ wsX8_count := fun _ h => List.mem_cons_of_mem _ (List.mem_append_right _ h)
def b_X8_count_0 (N : Nat) (σ : nS) (x1 : Int32) : Option (Int32 × nS) := (if x1 = 0 then some ((σ.1 1 0), σ) else (if x1 = 1 then some ((σ.1 1 1), σ) else (if x1 = 2 then some ((σ.1 1 2), σ) else (if x1 = 3 then some ((σ.1 1 3), σ) else (if x1 = 4 then some ((σ.1 20 2), σ) else (if x1 = 5 then some ((σ.1 6 1), σ) else some ((-1), σ)))))))
set_option maxHeartbeats 4000000 in
set_option maxRecDepth 100000 in
theorem kb_X8_count_0 {p : Program} {l : Launch} {e : Env} {s : State} {m : MethodId} {args : Array Value} {below : List Frame} {meth : Method} {c : Code} {D : va_G} {A : Nat → Prop} {cy : Nat → ClassId} {a kt vt : Nat → Nat} {N : Nat}   (C0 : nCx p s m args meth c cX8_count 2 (some .int) RX8 wsX8_count) (hE : nEn D A cy (NBw cy a) kt vt s) {z : Int32 × nS} : ∀ (σ : nS) (x1 : Int32) (H : Heap) (locs : List Loc) (ls : Array Slot), lv_has ls 2 [(0, .ref (a 0)), (1, .int x1)] → va_P D vwCl ((NBw cy a) σ) H → va_S A s.heap H locs → b_X8_count_0 N σ x1 = some z → W p l e ({ frames := 0, cells := 0, slots := 0, locals := 0 } : Room) s m args below meth c H locs 0 0 (nQi below D A (NBw cy a) args s z) (F0 m 0 ls []) := by
  obtain ⟨hx, hb, hr, hml, hown, hts, hlocks⟩ := C0
  intro σ x1 H locs ls hl hP hS hf
  unfold b_X8_count_0 at hf
  refine lv_iload_n hx hb dX8_count_0 rfl (lv_at hl 1 rfl) ?_
  by_cases hs0 : x1 = 0
  · replace hf := nIf_t hs0 hf
    refine lv_tableIn (tgt := 40) (off := 39) hx hb dX8_count_1 (by rw [hs0]; decide) (by rw [hs0]; decide) (by rw [hs0]; rfl) (by decide) ?_
    refine lv_aload_n hx hb dX8_count_40 rfl (lv_at hl 0 rfl) ?_
    refine nb_get (ci := 8) hx hb hts iX8_count_X8 hown hE hP 0 nbo_0 rfl 0 (by decide) qX8_count_12 rfl rfl dX8_count_41 ?_
    refine nb_getN (ci := 7) hx hb hts iX8_count_X7 hown hE hP 1 nbo_1 rfl 0 (by decide) (host := RX8) (by decide +kernel) rfl rfl dX8_count_44 ?_
    exact nb_iret hx hb hr hlocks hP hS (nSo hf) dX8_count_47
  · replace hf := nIf_f hs0 hf
    by_cases hs1 : x1 = 1
    · replace hf := nIf_t hs1 hf
      refine lv_tableIn (tgt := 48) (off := 47) hx hb dX8_count_1 (by rw [hs1]; decide) (by rw [hs1]; decide) (by rw [hs1]; rfl) (by decide) ?_
      refine lv_aload_n hx hb dX8_count_48 rfl (lv_at hl 0 rfl) ?_
      refine nb_get (ci := 8) hx hb hts iX8_count_X8 hown hE hP 0 nbo_0 rfl 0 (by decide) qX8_count_12 rfl rfl dX8_count_49 ?_
      refine nb_getN (ci := 7) hx hb hts iX8_count_X7 hown hE hP 1 nbo_1 rfl 1 (by decide) (host := RX8) (by decide +kernel) rfl rfl dX8_count_52 ?_
      exact nb_iret hx hb hr hlocks hP hS (nSo hf) dX8_count_55
    · replace hf := nIf_f hs1 hf
      by_cases hs2 : x1 = 2
      · replace hf := nIf_t hs2 hf
        refine lv_tableIn (tgt := 56) (off := 55) hx hb dX8_count_1 (by rw [hs2]; decide) (by rw [hs2]; decide) (by rw [hs2]; rfl) (by decide) ?_
        refine lv_aload_n hx hb dX8_count_56 rfl (lv_at hl 0 rfl) ?_
        refine nb_get (ci := 8) hx hb hts iX8_count_X8 hown hE hP 0 nbo_0 rfl 0 (by decide) qX8_count_12 rfl rfl dX8_count_57 ?_
        refine nb_getN (ci := 7) hx hb hts iX8_count_X7 hown hE hP 1 nbo_1 rfl 2 (by decide) (host := RX8) (by decide +kernel) rfl rfl dX8_count_60 ?_
        exact nb_iret hx hb hr hlocks hP hS (nSo hf) dX8_count_63
      · replace hf := nIf_f hs2 hf
        by_cases hs3 : x1 = 3
        · replace hf := nIf_t hs3 hf
          refine lv_tableIn (tgt := 64) (off := 63) hx hb dX8_count_1 (by rw [hs3]; decide) (by rw [hs3]; decide) (by rw [hs3]; rfl) (by decide) ?_
          refine lv_aload_n hx hb dX8_count_64 rfl (lv_at hl 0 rfl) ?_
          refine nb_get (ci := 8) hx hb hts iX8_count_X8 hown hE hP 0 nbo_0 rfl 0 (by decide) qX8_count_12 rfl rfl dX8_count_65 ?_
          refine nb_getN (ci := 7) hx hb hts iX8_count_X7 hown hE hP 1 nbo_1 rfl 3 (by decide) (host := RX8) (by decide +kernel) rfl rfl dX8_count_68 ?_
          exact nb_iret hx hb hr hlocks hP hS (nSo hf) dX8_count_71
        · replace hf := nIf_f hs3 hf
          by_cases hs4 : x1 = 4
          · replace hf := nIf_t hs4 hf
            refine lv_tableIn (tgt := 72) (off := 71) hx hb dX8_count_1 (by rw [hs4]; decide) (by rw [hs4]; decide) (by rw [hs4]; rfl) (by decide) ?_
            refine lv_aload_n hx hb dX8_count_72 rfl (lv_at hl 0 rfl) ?_
            refine nb_get (ci := 8) hx hb hts iX8_count_X8 hown hE hP 0 nbo_0 rfl 10 (by decide) qX8_count_72 rfl rfl dX8_count_73 ?_
            refine nb_getN (ci := 2) hx hb hts iX8_count_X2 hown hE hP 20 nbo_20 rfl 2 (by decide) (host := RX8) (by decide +kernel) rfl rfl dX8_count_76 ?_
            exact nb_iret hx hb hr hlocks hP hS (nSo hf) dX8_count_79
          · replace hf := nIf_f hs4 hf
            by_cases hs5 : x1 = 5
            · replace hf := nIf_t hs5 hf
              refine lv_tableIn (tgt := 80) (off := 79) hx hb dX8_count_1 (by rw [hs5]; decide) (by rw [hs5]; decide) (by rw [hs5]; rfl) (by decide) ?_
              refine lv_aload_n hx hb dX8_count_80 rfl (lv_at hl 0 rfl) ?_
              refine nb_get (ci := 8) hx hb hts iX8_count_X8 hown hE hP 0 nbo_0 rfl 1 (by decide) qX8_count_19 rfl rfl dX8_count_81 ?_
              refine nb_getN (ci := 4) hx hb hts iX8_count_X4 hown hE hP 6 nbo_6 rfl 1 (by decide) (host := RX8) (by decide +kernel) rfl rfl dX8_count_84 ?_
              exact nb_iret hx hb hr hlocks hP hS (nSo hf) dX8_count_87
            · replace hf := nIf_f hs5 hf
              have gs0 := nI_ne (z := 0) hs0 (by decide)
              have gs1 := nI_ne (z := 1) hs1 (by decide)
              have gs2 := nI_ne (z := 2) hs2 (by decide)
              have gs3 := nI_ne (z := 3) hs3 (by decide)
              have gs4 := nI_ne (z := 4) hs4 (by decide)
              have gs5 := nI_ne (z := 5) hs5 (by decide)
              refine lv_tableOut (tgt := 88) hx hb dX8_count_1 (by omega) (by decide) ?_
              refine lv_iconst (v := (-1)) hx hb dX8_count_88 (by decide) ?_
              exact nb_iret hx hb hr hlocks hP hS (nSo hf) dX8_count_89
def l_X8_count_0 (N : Nat) : nS → Int32 → Option (Int32 × nS) := b_X8_count_0 N
theorem kl_X8_count_0 {p : Program} {l : Launch} {e : Env} {s : State} {m : MethodId} {args : Array Value} {below : List Frame} {meth : Method} {c : Code} {D : va_G} {A : Nat → Prop} {cy : Nat → ClassId} {a kt vt : Nat → Nat} {N : Nat}   (C0 : nCx p s m args meth c cX8_count 2 (some .int) RX8 wsX8_count) (hE : nEn D A cy (NBw cy a) kt vt s) {z : Int32 × nS} : ∀ (σ : nS) (x1 : Int32) (H : Heap) (locs : List Loc) (ls : Array Slot), lv_has ls 2 [(0, .ref (a 0)), (1, .int x1)] → va_P D vwCl ((NBw cy a) σ) H → va_S A s.heap H locs → l_X8_count_0 N σ x1 = some z → W p l e ({ frames := 0, cells := 0, slots := 0, locals := 0 } : Room) s m args below meth c H locs 0 0 (nQi below D A (NBw cy a) args s z) (F0 m 0 ls []) := by
  exact kb_X8_count_0 (N := N)  C0 hE
def f_X8_count (N : Nat) (x1 : Int32) (σ : nS) : Option (Int32 × nS) := l_X8_count_0 N σ x1
set_option maxHeartbeats 4000000 in
set_option maxRecDepth 100000 in
theorem c_X8_count {l : Launch} {D : va_G} {A : Nat → Prop} {cy : Nat → ClassId} {a kt vt : Nat → Nat} {N : Nat}   {x1 : Int32} {σ : nS} {r : Int32} {σ' : nS} (hf : f_X8_count N x1 σ = some (r, σ')) : nMi l yX8_count wsX8_count ({ frames := 0, cells := 0, slots := 0, locals := 0 } : Room) D A cy (NBw cy a) kt vt [.ref (a 0), .int x1] σ r σ' := by
  refine Met.ofW (cc := cX8_count) (maxL := 2) (ret := (some .int)) (by decide) rfl ?_
  intro p e s m args below meth c s₁ B hml hv
  obtain ⟨rfl, hP, hE⟩ := hv
  have hl := lv_entry ([.ref (a 0), .int x1]) (n := 2) (Nat.le_of_ble_eq_true rfl)
  rw [lg_entry_eq]
  generalize (lg_sl ([.ref (a 0), .int x1]) ++ List.replicate (2 - (lg_sl ([.ref (a 0), .int x1])).length) Slot.unset).toArray = ls at hl ⊢
  have C0 : nCx p s m _ meth c cX8_count 2 (some .int) RX8 wsX8_count := ⟨B.exec, B.bytes, B.returns, hml, findClass_of_methodNamed B.named, atoms_spec (ws := wsX8_count) B.pre, B.notSynchronized⟩
  exact kl_X8_count_0 (N := N)  C0 hE (z := (r, σ')) σ x1 _ _ ls hl hP va_S.rf hf

/-! X8_trouble -/
set_option maxRecDepth 20000 in
theorem iX8_trouble_X8 : ∀ w ∈ u_ws RX8 TX8 13, w ∈ wsX8_trouble := fun _ h => List.mem_cons_of_mem _ (List.mem_append_right _ h)
set_option maxRecDepth 20000 in
theorem qX8_trouble_80 : Cond.fieldLink RX8 80 RX8 (TX8 12).2.1 (TX8 12).2.2.1 ∈ wsX8_trouble := by decide +kernel
def b_X8_trouble_0 (N : Nat) (σ : nS) : Option (Int32 × nS) := some ((σ.1 0 12), σ)
set_option maxHeartbeats 4000000 in
set_option maxRecDepth 100000 in
theorem kb_X8_trouble_0 {p : Program} {l : Launch} {e : Env} {s : State} {m : MethodId} {args : Array Value} {below : List Frame} {meth : Method} {c : Code} {D : va_G} {A : Nat → Prop} {cy : Nat → ClassId} {a kt vt : Nat → Nat} {N : Nat}   (C0 : nCx p s m args meth c cX8_trouble 1 (some .int) RX8 wsX8_trouble) (hE : nEn D A cy (NBw cy a) kt vt s) {z : Int32 × nS} : ∀ (σ : nS) (H : Heap) (locs : List Loc) (ls : Array Slot), lv_has ls 1 [(0, .ref (a 0))] → va_P D vwCl ((NBw cy a) σ) H → va_S A s.heap H locs → b_X8_trouble_0 N σ = some z → W p l e ({ frames := 0, cells := 0, slots := 0, locals := 0 } : Room) s m args below meth c H locs 0 0 (nQi below D A (NBw cy a) args s z) (F0 m 0 ls []) := by
  obtain ⟨hx, hb, hr, hml, hown, hts, hlocks⟩ := C0
  intro σ  H locs ls hl hP hS hf
  unfold b_X8_trouble_0 at hf
  refine lv_aload_n hx hb dX8_trouble_0 rfl (lv_at hl 0 rfl) ?_
  refine nb_get (ci := 8) hx hb hts iX8_trouble_X8 hown hE hP 0 nbo_0 rfl 12 (by decide) qX8_trouble_80 rfl rfl dX8_trouble_1 ?_
  exact nb_iret hx hb hr hlocks hP hS (nSo hf) dX8_trouble_4
def l_X8_trouble_0 (N : Nat) : nS → Option (Int32 × nS) := b_X8_trouble_0 N
theorem kl_X8_trouble_0 {p : Program} {l : Launch} {e : Env} {s : State} {m : MethodId} {args : Array Value} {below : List Frame} {meth : Method} {c : Code} {D : va_G} {A : Nat → Prop} {cy : Nat → ClassId} {a kt vt : Nat → Nat} {N : Nat}   (C0 : nCx p s m args meth c cX8_trouble 1 (some .int) RX8 wsX8_trouble) (hE : nEn D A cy (NBw cy a) kt vt s) {z : Int32 × nS} : ∀ (σ : nS) (H : Heap) (locs : List Loc) (ls : Array Slot), lv_has ls 1 [(0, .ref (a 0))] → va_P D vwCl ((NBw cy a) σ) H → va_S A s.heap H locs → l_X8_trouble_0 N σ = some z → W p l e ({ frames := 0, cells := 0, slots := 0, locals := 0 } : Room) s m args below meth c H locs 0 0 (nQi below D A (NBw cy a) args s z) (F0 m 0 ls []) := by
  exact kb_X8_trouble_0 (N := N)  C0 hE
def f_X8_trouble (N : Nat) (σ : nS) : Option (Int32 × nS) := l_X8_trouble_0 N σ
set_option maxHeartbeats 4000000 in
set_option maxRecDepth 100000 in
theorem c_X8_trouble {l : Launch} {D : va_G} {A : Nat → Prop} {cy : Nat → ClassId} {a kt vt : Nat → Nat} {N : Nat}   {σ : nS} {r : Int32} {σ' : nS} (hf : f_X8_trouble N σ = some (r, σ')) : nMi l yX8_trouble wsX8_trouble ({ frames := 0, cells := 0, slots := 0, locals := 0 } : Room) D A cy (NBw cy a) kt vt [.ref (a 0)] σ r σ' := by
  refine Met.ofW (cc := cX8_trouble) (maxL := 1) (ret := (some .int)) (by decide) rfl ?_
  intro p e s m args below meth c s₁ B hml hv
  obtain ⟨rfl, hP, hE⟩ := hv
  have hl := lv_entry ([.ref (a 0)]) (n := 1) (Nat.le_of_ble_eq_true rfl)
  rw [lg_entry_eq]
  generalize (lg_sl ([.ref (a 0)]) ++ List.replicate (1 - (lg_sl ([.ref (a 0)])).length) Slot.unset).toArray = ls at hl ⊢
  have C0 : nCx p s m _ meth c cX8_trouble 1 (some .int) RX8 wsX8_trouble := ⟨B.exec, B.bytes, B.returns, hml, findClass_of_methodNamed B.named, atoms_spec (ws := wsX8_trouble) B.pre, B.notSynchronized⟩
  exact kl_X8_trouble_0 (N := N)  C0 hE (z := (r, σ')) σ  _ _ ls hl hP va_S.rf hf
