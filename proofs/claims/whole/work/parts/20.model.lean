/-! X9_begin -/
set_option maxRecDepth 20000 in
theorem iX9_begin_X9 : ∀ w ∈ u_ws RX9 TX9 11, w ∈ wsX9_begin := fun _ h => List.mem_cons_of_mem _ (List.mem_append_right _ h)
set_option maxRecDepth 20000 in
theorem qX9_begin_9 : Cond.fieldLink RX9 9 RX9 (TX9 0).2.1 (TX9 0).2.2.1 ∈ wsX9_begin := by decide +kernel
set_option maxRecDepth 20000 in
theorem qX9_begin_15 : Cond.fieldLink RX9 15 RX9 (TX9 3).2.1 (TX9 3).2.2.1 ∈ wsX9_begin := by decide +kernel
set_option maxRecDepth 20000 in
theorem qX9_begin_18 : Cond.fieldLink RX9 18 RX9 (TX9 4).2.1 (TX9 4).2.2.1 ∈ wsX9_begin := by decide +kernel
set_option maxRecDepth 20000 in
theorem qX9_begin_21 : Cond.fieldLink RX9 21 RX9 (TX9 1).2.1 (TX9 1).2.2.1 ∈ wsX9_begin := by decide +kernel
set_option maxRecDepth 20000 in
theorem qX9_begin_24 : Cond.fieldLink RX9 24 RX9 (TX9 5).2.1 (TX9 5).2.2.1 ∈ wsX9_begin := by decide +kernel
set_option maxRecDepth 20000 in
theorem qX9_begin_27 : Cond.fieldLink RX9 27 RX9 (TX9 7).2.1 (TX9 7).2.2.1 ∈ wsX9_begin := by decide +kernel
set_option maxRecDepth 20000 in
theorem qX9_begin_30 : Cond.fieldLink RX9 30 RX9 (TX9 8).2.1 (TX9 8).2.2.1 ∈ wsX9_begin := by decide +kernel
set_option maxRecDepth 20000 in
theorem qX9_begin_33 : Cond.fieldLink RX9 33 RX9 (TX9 9).2.1 (TX9 9).2.2.1 ∈ wsX9_begin := by decide +kernel
set_option maxRecDepth 20000 in
theorem qX9_begin_37 : Cond.fieldLink RX9 37 RX9 (TX9 10).2.1 (TX9 10).2.2.1 ∈ wsX9_begin := by decide +kernel
def b_X9_begin_0 (N : Nat) (n : Nat) (σ : nS) (x1 : Int32) (x2 : Int32) (x3 : Int32) : Option (Int32 × nS) := nLet (wr σ n 0 x1) (fun σ1 => nLet (wr σ1 n 3 x2) (fun σ2 => nLet (wr σ2 n 4 x3) (fun σ3 => nLet (wr σ3 n 1 0) (fun σ4 => nLet (wr σ4 n 5 (-1)) (fun σ5 => nLet (wr σ5 n 7 0) (fun σ6 => nLet (wr σ6 n 8 0) (fun σ7 => nLet (wr σ7 n 9 0) (fun σ8 => nLet (wr σ8 n 10 0) (fun σ9 => some (0, σ9))))))))))
set_option maxHeartbeats 4000000 in
set_option maxRecDepth 100000 in
theorem kb_X9_begin_0 {p : Program} {l : Launch} {e : Env} {s : State} {m : MethodId} {args : Array Value} {below : List Frame} {meth : Method} {c : Code} {D : va_G} {A : Nat → Prop} {cy : Nat → ClassId} {a kt vt : Nat → Nat} {N : Nat} {n : Nat} (hn : nNt n) (C0 : nCx p s m args meth c cX9_begin 4 none RX9 wsX9_begin) (hE : nEn D A cy (Mw cy a) kt vt s) {z : Int32 × nS} : ∀ (σ : nS) (x1 : Int32) (x2 : Int32) (x3 : Int32) (H : Heap) (locs : List Loc) (ls : Array Slot), lv_has ls 4 [(0, .ref (a n)), (1, .int x1), (2, .int x2), (3, .int x3)] → va_P D vwCl ((Mw cy a) σ) H → va_S A s.heap H locs → b_X9_begin_0 N n σ x1 x2 x3 = some z → W p l e ({ frames := 0, cells := 0, slots := 0, locals := 0 } : Room) s m args below meth c H locs 0 0 (nQv below D A (Mw cy a) args s z) (F0 m 0 ls []) := by
  obtain ⟨hx, hb, hr, hml, hown, hts, hlocks⟩ := C0
  intro σ x1 x2 x3 H locs ls hl hP hS hf
  unfold b_X9_begin_0 at hf
  refine lv_aload_n hx hb dX9_begin_0 rfl (lv_at hl 0 rfl) ?_
  refine lv_iload_n hx hb dX9_begin_1 rfl (lv_at hl 1 rfl) ?_
  refine nb_put (ci := 9) hx hb hts iX9_begin_X9 tyX9 tyX9_ok nmX9 hown hE hP hS n (mboN hn) rfl 0 (by decide) qX9_begin_9 rfl rfl rfl rfl (Nat.le_of_ble_eq_true rfl) dX9_begin_2 (mbpN_0 hn _) (fun σ1 eσ1 H locs hP hS => ?_)
  replace hf := nLet_e hf eσ1
  refine lv_aload_n hx hb dX9_begin_5 rfl (lv_at hl 0 rfl) ?_
  refine lv_iload_n hx hb dX9_begin_6 rfl (lv_at hl 2 rfl) ?_
  refine nb_put (ci := 9) hx hb hts iX9_begin_X9 tyX9 tyX9_ok nmX9 hown hE hP hS n (mboN hn) rfl 3 (by decide) qX9_begin_15 rfl rfl rfl rfl (Nat.le_of_ble_eq_true rfl) dX9_begin_7 (mbpN_3 hn _) (fun σ2 eσ2 H locs hP hS => ?_)
  replace hf := nLet_e hf eσ2
  refine lv_aload_n hx hb dX9_begin_10 rfl (lv_at hl 0 rfl) ?_
  refine lv_iload_n hx hb dX9_begin_11 rfl (lv_at hl 3 rfl) ?_
  refine nb_put (ci := 9) hx hb hts iX9_begin_X9 tyX9 tyX9_ok nmX9 hown hE hP hS n (mboN hn) rfl 4 (by decide) qX9_begin_18 rfl rfl rfl rfl (Nat.le_of_ble_eq_true rfl) dX9_begin_12 (mbpN_4 hn _) (fun σ3 eσ3 H locs hP hS => ?_)
  replace hf := nLet_e hf eσ3
  refine lv_aload_n hx hb dX9_begin_15 rfl (lv_at hl 0 rfl) ?_
  refine lv_iconst (v := 0) hx hb dX9_begin_16 (by decide) ?_
  refine nb_put (ci := 9) hx hb hts iX9_begin_X9 tyX9 tyX9_ok nmX9 hown hE hP hS n (mboN hn) rfl 1 (by decide) qX9_begin_21 rfl rfl rfl rfl (Nat.le_of_ble_eq_true rfl) dX9_begin_17 (mbpN_1 hn _) (fun σ4 eσ4 H locs hP hS => ?_)
  replace hf := nLet_e hf eσ4
  refine lv_aload_n hx hb dX9_begin_20 rfl (lv_at hl 0 rfl) ?_
  refine lv_iconst (v := (-1)) hx hb dX9_begin_21 (by decide) ?_
  refine nb_put (ci := 9) hx hb hts iX9_begin_X9 tyX9 tyX9_ok nmX9 hown hE hP hS n (mboN hn) rfl 5 (by decide) qX9_begin_24 rfl rfl rfl rfl (Nat.le_of_ble_eq_true rfl) dX9_begin_22 (mbpN_5 hn _) (fun σ5 eσ5 H locs hP hS => ?_)
  replace hf := nLet_e hf eσ5
  refine lv_aload_n hx hb dX9_begin_25 rfl (lv_at hl 0 rfl) ?_
  refine lv_iconst (v := 0) hx hb dX9_begin_26 (by decide) ?_
  refine nb_put (ci := 9) hx hb hts iX9_begin_X9 tyX9 tyX9_ok nmX9 hown hE hP hS n (mboN hn) rfl 7 (by decide) qX9_begin_27 rfl rfl rfl rfl (Nat.le_of_ble_eq_true rfl) dX9_begin_27 (mbpN_7 hn _) (fun σ6 eσ6 H locs hP hS => ?_)
  replace hf := nLet_e hf eσ6
  refine lv_aload_n hx hb dX9_begin_30 rfl (lv_at hl 0 rfl) ?_
  refine lv_iconst (v := 0) hx hb dX9_begin_31 (by decide) ?_
  refine nb_put (ci := 9) hx hb hts iX9_begin_X9 tyX9 tyX9_ok nmX9 hown hE hP hS n (mboN hn) rfl 8 (by decide) qX9_begin_30 rfl rfl rfl rfl (Nat.le_of_ble_eq_true rfl) dX9_begin_32 (mbpN_8 hn _) (fun σ7 eσ7 H locs hP hS => ?_)
  replace hf := nLet_e hf eσ7
  refine lv_aload_n hx hb dX9_begin_35 rfl (lv_at hl 0 rfl) ?_
  refine lv_iconst (v := 0) hx hb dX9_begin_36 (by decide) ?_
  refine nb_put (ci := 9) hx hb hts iX9_begin_X9 tyX9 tyX9_ok nmX9 hown hE hP hS n (mboN hn) rfl 9 (by decide) qX9_begin_33 rfl rfl rfl rfl (Nat.le_of_ble_eq_true rfl) dX9_begin_37 (mbpN_9 hn _) (fun σ8 eσ8 H locs hP hS => ?_)
  replace hf := nLet_e hf eσ8
  refine lv_aload_n hx hb dX9_begin_40 rfl (lv_at hl 0 rfl) ?_
  refine lv_iconst (v := 0) hx hb dX9_begin_41 (by decide) ?_
  refine nb_put (ci := 9) hx hb hts iX9_begin_X9 tyX9 tyX9_ok nmX9 hown hE hP hS n (mboN hn) rfl 10 (by decide) qX9_begin_37 rfl rfl rfl rfl (Nat.le_of_ble_eq_true rfl) dX9_begin_42 (mbpN_10 hn _) (fun σ9 eσ9 H locs hP hS => ?_)
  replace hf := nLet_e hf eσ9
  exact nb_vret hx hb hr hlocks hP hS (nSo hf) dX9_begin_45
def l_X9_begin_0 (N : Nat) (n : Nat) : nS → Int32 → Int32 → Int32 → Option (Int32 × nS) := b_X9_begin_0 N n
theorem kl_X9_begin_0 {p : Program} {l : Launch} {e : Env} {s : State} {m : MethodId} {args : Array Value} {below : List Frame} {meth : Method} {c : Code} {D : va_G} {A : Nat → Prop} {cy : Nat → ClassId} {a kt vt : Nat → Nat} {N : Nat} {n : Nat} (hn : nNt n) (C0 : nCx p s m args meth c cX9_begin 4 none RX9 wsX9_begin) (hE : nEn D A cy (Mw cy a) kt vt s) {z : Int32 × nS} : ∀ (σ : nS) (x1 : Int32) (x2 : Int32) (x3 : Int32) (H : Heap) (locs : List Loc) (ls : Array Slot), lv_has ls 4 [(0, .ref (a n)), (1, .int x1), (2, .int x2), (3, .int x3)] → va_P D vwCl ((Mw cy a) σ) H → va_S A s.heap H locs → l_X9_begin_0 N n σ x1 x2 x3 = some z → W p l e ({ frames := 0, cells := 0, slots := 0, locals := 0 } : Room) s m args below meth c H locs 0 0 (nQv below D A (Mw cy a) args s z) (F0 m 0 ls []) := by
  exact kb_X9_begin_0 (N := N) hn C0 hE
def f_X9_begin (N : Nat) (n : Nat) (x1 : Int32) (x2 : Int32) (x3 : Int32) (σ : nS) : Option (Int32 × nS) := l_X9_begin_0 N n σ x1 x2 x3
set_option maxHeartbeats 4000000 in
set_option maxRecDepth 100000 in
theorem c_X9_begin {l : Launch} {D : va_G} {A : Nat → Prop} {cy : Nat → ClassId} {a kt vt : Nat → Nat} {N : Nat} {n : Nat} (hn : nNt n) {x1 : Int32} {x2 : Int32} {x3 : Int32} {σ : nS} {r : Int32} {σ' : nS} (hf : f_X9_begin N n x1 x2 x3 σ = some (r, σ')) : nMv l yX9_begin wsX9_begin ({ frames := 0, cells := 0, slots := 0, locals := 0 } : Room) D A cy (Mw cy a) kt vt [.ref (a n), .int x1, .int x2, .int x3] σ σ' := by
  refine Met.ofW (cc := cX9_begin) (maxL := 4) (ret := none) (by decide) rfl ?_
  intro p e s m args below meth c s₁ B hml hv
  obtain ⟨rfl, hP, hE⟩ := hv
  have hl := lv_entry ([.ref (a n), .int x1, .int x2, .int x3]) (n := 4) (Nat.le_of_ble_eq_true rfl)
  rw [lg_entry_eq]
  generalize (lg_sl ([.ref (a n), .int x1, .int x2, .int x3]) ++ List.replicate (4 - (lg_sl ([.ref (a n), .int x1, .int x2, .int x3])).length) Slot.unset).toArray = ls at hl ⊢
  have C0 : nCx p s m _ meth c cX9_begin 4 none RX9 wsX9_begin := ⟨B.exec, B.bytes, B.returns, hml, findClass_of_methodNamed B.named, atoms_spec (ws := wsX9_begin) B.pre, B.notSynchronized⟩
  exact kl_X9_begin_0 (N := N) hn C0 hE (z := (r, σ')) σ x1 x2 x3 _ _ ls hl hP va_S.rf hf
/-! X9_ends -/
set_option maxRecDepth 20000 in
theorem iX9_ends_X9 : ∀ w ∈ u_ws RX9 TX9 11, w ∈ wsX9_ends := fun _ h => List.mem_cons_of_mem _ (List.mem_append_right _ h)
set_option maxRecDepth 20000 in
theorem qX9_ends_24 : Cond.fieldLink RX9 24 RX9 (TX9 5).2.1 (TX9 5).2.2.1 ∈ wsX9_ends := by decide +kernel
set_option maxRecDepth 20000 in
theorem qX9_ends_27 : Cond.fieldLink RX9 27 RX9 (TX9 7).2.1 (TX9 7).2.2.1 ∈ wsX9_ends := by decide +kernel
def b_X9_ends_0 (N : Nat) (n : Nat) (σ : nS) (x1 : Int32) (x2 : Int32) : Option (Int32 × nS) := nLet (wr σ n 5 x1) (fun σ1 => nLet (wr σ1 n 7 x2) (fun σ2 => some (0, σ2)))
set_option maxHeartbeats 4000000 in
set_option maxRecDepth 100000 in
theorem kb_X9_ends_0 {p : Program} {l : Launch} {e : Env} {s : State} {m : MethodId} {args : Array Value} {below : List Frame} {meth : Method} {c : Code} {D : va_G} {A : Nat → Prop} {cy : Nat → ClassId} {a kt vt : Nat → Nat} {N : Nat} {n : Nat} (hn : nNt n) (C0 : nCx p s m args meth c cX9_ends 3 none RX9 wsX9_ends) (hE : nEn D A cy (Mw cy a) kt vt s) {z : Int32 × nS} : ∀ (σ : nS) (x1 : Int32) (x2 : Int32) (H : Heap) (locs : List Loc) (ls : Array Slot), lv_has ls 3 [(0, .ref (a n)), (1, .int x1), (2, .int x2)] → va_P D vwCl ((Mw cy a) σ) H → va_S A s.heap H locs → b_X9_ends_0 N n σ x1 x2 = some z → W p l e ({ frames := 0, cells := 0, slots := 0, locals := 0 } : Room) s m args below meth c H locs 0 0 (nQv below D A (Mw cy a) args s z) (F0 m 0 ls []) := by
  obtain ⟨hx, hb, hr, hml, hown, hts, hlocks⟩ := C0
  intro σ x1 x2 H locs ls hl hP hS hf
  unfold b_X9_ends_0 at hf
  refine lv_aload_n hx hb dX9_ends_0 rfl (lv_at hl 0 rfl) ?_
  refine lv_iload_n hx hb dX9_ends_1 rfl (lv_at hl 1 rfl) ?_
  refine nb_put (ci := 9) hx hb hts iX9_ends_X9 tyX9 tyX9_ok nmX9 hown hE hP hS n (mboN hn) rfl 5 (by decide) qX9_ends_24 rfl rfl rfl rfl (Nat.le_of_ble_eq_true rfl) dX9_ends_2 (mbpN_5 hn _) (fun σ1 eσ1 H locs hP hS => ?_)
  replace hf := nLet_e hf eσ1
  refine lv_aload_n hx hb dX9_ends_5 rfl (lv_at hl 0 rfl) ?_
  refine lv_iload_n hx hb dX9_ends_6 rfl (lv_at hl 2 rfl) ?_
  refine nb_put (ci := 9) hx hb hts iX9_ends_X9 tyX9 tyX9_ok nmX9 hown hE hP hS n (mboN hn) rfl 7 (by decide) qX9_ends_27 rfl rfl rfl rfl (Nat.le_of_ble_eq_true rfl) dX9_ends_7 (mbpN_7 hn _) (fun σ2 eσ2 H locs hP hS => ?_)
  replace hf := nLet_e hf eσ2
  exact nb_vret hx hb hr hlocks hP hS (nSo hf) dX9_ends_10
def l_X9_ends_0 (N : Nat) (n : Nat) : nS → Int32 → Int32 → Option (Int32 × nS) := b_X9_ends_0 N n
theorem kl_X9_ends_0 {p : Program} {l : Launch} {e : Env} {s : State} {m : MethodId} {args : Array Value} {below : List Frame} {meth : Method} {c : Code} {D : va_G} {A : Nat → Prop} {cy : Nat → ClassId} {a kt vt : Nat → Nat} {N : Nat} {n : Nat} (hn : nNt n) (C0 : nCx p s m args meth c cX9_ends 3 none RX9 wsX9_ends) (hE : nEn D A cy (Mw cy a) kt vt s) {z : Int32 × nS} : ∀ (σ : nS) (x1 : Int32) (x2 : Int32) (H : Heap) (locs : List Loc) (ls : Array Slot), lv_has ls 3 [(0, .ref (a n)), (1, .int x1), (2, .int x2)] → va_P D vwCl ((Mw cy a) σ) H → va_S A s.heap H locs → l_X9_ends_0 N n σ x1 x2 = some z → W p l e ({ frames := 0, cells := 0, slots := 0, locals := 0 } : Room) s m args below meth c H locs 0 0 (nQv below D A (Mw cy a) args s z) (F0 m 0 ls []) := by
  exact kb_X9_ends_0 (N := N) hn C0 hE
def f_X9_ends (N : Nat) (n : Nat) (x1 : Int32) (x2 : Int32) (σ : nS) : Option (Int32 × nS) := l_X9_ends_0 N n σ x1 x2
set_option maxHeartbeats 4000000 in
set_option maxRecDepth 100000 in
theorem c_X9_ends {l : Launch} {D : va_G} {A : Nat → Prop} {cy : Nat → ClassId} {a kt vt : Nat → Nat} {N : Nat} {n : Nat} (hn : nNt n) {x1 : Int32} {x2 : Int32} {σ : nS} {r : Int32} {σ' : nS} (hf : f_X9_ends N n x1 x2 σ = some (r, σ')) : nMv l yX9_ends wsX9_ends ({ frames := 0, cells := 0, slots := 0, locals := 0 } : Room) D A cy (Mw cy a) kt vt [.ref (a n), .int x1, .int x2] σ σ' := by
  refine Met.ofW (cc := cX9_ends) (maxL := 3) (ret := none) (by decide) rfl ?_
  intro p e s m args below meth c s₁ B hml hv
  obtain ⟨rfl, hP, hE⟩ := hv
  have hl := lv_entry ([.ref (a n), .int x1, .int x2]) (n := 3) (Nat.le_of_ble_eq_true rfl)
  rw [lg_entry_eq]
  generalize (lg_sl ([.ref (a n), .int x1, .int x2]) ++ List.replicate (3 - (lg_sl ([.ref (a n), .int x1, .int x2])).length) Slot.unset).toArray = ls at hl ⊢
  have C0 : nCx p s m _ meth c cX9_ends 3 none RX9 wsX9_ends := ⟨B.exec, B.bytes, B.returns, hml, findClass_of_methodNamed B.named, atoms_spec (ws := wsX9_ends) B.pre, B.notSynchronized⟩
  exact kl_X9_ends_0 (N := N) hn C0 hE (z := (r, σ')) σ x1 x2 _ _ ls hl hP va_S.rf hf
/-! X9_takes -/
set_option maxRecDepth 20000 in
theorem iX9_takes_X9 : ∀ w ∈ u_ws RX9 TX9 11, w ∈ wsX9_takes := fun _ h => List.mem_cons_of_mem _ (List.mem_append_right _ h)
set_option maxRecDepth 20000 in
theorem qX9_takes_33 : Cond.fieldLink RX9 33 RX9 (TX9 9).2.1 (TX9 9).2.2.1 ∈ wsX9_takes := by decide +kernel
set_option maxRecDepth 20000 in
theorem qX9_takes_37 : Cond.fieldLink RX9 37 RX9 (TX9 10).2.1 (TX9 10).2.2.1 ∈ wsX9_takes := by decide +kernel
set_option maxRecDepth 20000 in
theorem qX9_takes_40 : Cond.fieldLink RX9 40 RX9 (TX9 6).2.1 (TX9 6).2.2.1 ∈ wsX9_takes := by decide +kernel
set_option maxRecDepth 20000 in
theorem qX9_takes_43 : Cond.fieldLink RX9 43 RX9 (TX9 2).2.1 (TX9 2).2.2.1 ∈ wsX9_takes := by decide +kernel
def b_X9_takes_0 (N : Nat) (n : Nat) (σ : nS) (x1 : Int32) (x2 : Int32) (x3 : Int32) : Option (Int32 × nS) := nLet (wr σ n 9 1) (fun σ1 => nLet (wr σ1 n 10 0) (fun σ2 => nLet (x3 + x1 : Int32) (fun v3 => nLet (wr σ2 n 6 v3) (fun σ4 => nLet (wr σ4 n 2 x2) (fun σ5 => some (0, σ5))))))
set_option maxHeartbeats 4000000 in
set_option maxRecDepth 100000 in
theorem kb_X9_takes_0 {p : Program} {l : Launch} {e : Env} {s : State} {m : MethodId} {args : Array Value} {below : List Frame} {meth : Method} {c : Code} {D : va_G} {A : Nat → Prop} {cy : Nat → ClassId} {a kt vt : Nat → Nat} {N : Nat} {n : Nat} (hn : nNt n) (C0 : nCx p s m args meth c cX9_takes 4 none RX9 wsX9_takes) (hE : nEn D A cy (Mw cy a) kt vt s) {z : Int32 × nS} : ∀ (σ : nS) (x1 : Int32) (x2 : Int32) (x3 : Int32) (H : Heap) (locs : List Loc) (ls : Array Slot), lv_has ls 4 [(0, .ref (a n)), (1, .int x1), (2, .int x2), (3, .int x3)] → va_P D vwCl ((Mw cy a) σ) H → va_S A s.heap H locs → b_X9_takes_0 N n σ x1 x2 x3 = some z → W p l e ({ frames := 0, cells := 0, slots := 0, locals := 0 } : Room) s m args below meth c H locs 0 0 (nQv below D A (Mw cy a) args s z) (F0 m 0 ls []) := by
  obtain ⟨hx, hb, hr, hml, hown, hts, hlocks⟩ := C0
  intro σ x1 x2 x3 H locs ls hl hP hS hf
  unfold b_X9_takes_0 at hf
  refine lv_aload_n hx hb dX9_takes_0 rfl (lv_at hl 0 rfl) ?_
  refine lv_iconst (v := 1) hx hb dX9_takes_1 (by decide) ?_
  refine nb_put (ci := 9) hx hb hts iX9_takes_X9 tyX9 tyX9_ok nmX9 hown hE hP hS n (mboN hn) rfl 9 (by decide) qX9_takes_33 rfl rfl rfl rfl (Nat.le_of_ble_eq_true rfl) dX9_takes_2 (mbpN_9 hn _) (fun σ1 eσ1 H locs hP hS => ?_)
  replace hf := nLet_e hf eσ1
  refine lv_aload_n hx hb dX9_takes_5 rfl (lv_at hl 0 rfl) ?_
  refine lv_iconst (v := 0) hx hb dX9_takes_6 (by decide) ?_
  refine nb_put (ci := 9) hx hb hts iX9_takes_X9 tyX9 tyX9_ok nmX9 hown hE hP hS n (mboN hn) rfl 10 (by decide) qX9_takes_37 rfl rfl rfl rfl (Nat.le_of_ble_eq_true rfl) dX9_takes_7 (mbpN_10 hn _) (fun σ2 eσ2 H locs hP hS => ?_)
  replace hf := nLet_e hf eσ2
  refine lv_aload_n hx hb dX9_takes_10 rfl (lv_at hl 0 rfl) ?_
  refine lv_iload_n hx hb dX9_takes_11 rfl (lv_at hl 3 rfl) ?_
  refine lv_iload_n hx hb dX9_takes_12 rfl (lv_at hl 1 rfl) ?_
  refine lv_iadd hx hb dX9_takes_13 ?_
  refine lv_topi (fun v3 ev3 => ?_)
  replace hf := nLet_e hf ev3
  refine nb_put (ci := 9) hx hb hts iX9_takes_X9 tyX9 tyX9_ok nmX9 hown hE hP hS n (mboN hn) rfl 6 (by decide) qX9_takes_40 rfl rfl rfl rfl (Nat.le_of_ble_eq_true rfl) dX9_takes_14 (mbpN_6 hn _) (fun σ4 eσ4 H locs hP hS => ?_)
  replace hf := nLet_e hf eσ4
  refine lv_aload_n hx hb dX9_takes_17 rfl (lv_at hl 0 rfl) ?_
  refine lv_iload_n hx hb dX9_takes_18 rfl (lv_at hl 2 rfl) ?_
  refine nb_put (ci := 9) hx hb hts iX9_takes_X9 tyX9 tyX9_ok nmX9 hown hE hP hS n (mboN hn) rfl 2 (by decide) qX9_takes_43 rfl rfl rfl rfl (Nat.le_of_ble_eq_true rfl) dX9_takes_19 (mbpN_2 hn _) (fun σ5 eσ5 H locs hP hS => ?_)
  replace hf := nLet_e hf eσ5
  exact nb_vret hx hb hr hlocks hP hS (nSo hf) dX9_takes_22
def l_X9_takes_0 (N : Nat) (n : Nat) : nS → Int32 → Int32 → Int32 → Option (Int32 × nS) := b_X9_takes_0 N n
theorem kl_X9_takes_0 {p : Program} {l : Launch} {e : Env} {s : State} {m : MethodId} {args : Array Value} {below : List Frame} {meth : Method} {c : Code} {D : va_G} {A : Nat → Prop} {cy : Nat → ClassId} {a kt vt : Nat → Nat} {N : Nat} {n : Nat} (hn : nNt n) (C0 : nCx p s m args meth c cX9_takes 4 none RX9 wsX9_takes) (hE : nEn D A cy (Mw cy a) kt vt s) {z : Int32 × nS} : ∀ (σ : nS) (x1 : Int32) (x2 : Int32) (x3 : Int32) (H : Heap) (locs : List Loc) (ls : Array Slot), lv_has ls 4 [(0, .ref (a n)), (1, .int x1), (2, .int x2), (3, .int x3)] → va_P D vwCl ((Mw cy a) σ) H → va_S A s.heap H locs → l_X9_takes_0 N n σ x1 x2 x3 = some z → W p l e ({ frames := 0, cells := 0, slots := 0, locals := 0 } : Room) s m args below meth c H locs 0 0 (nQv below D A (Mw cy a) args s z) (F0 m 0 ls []) := by
  exact kb_X9_takes_0 (N := N) hn C0 hE
def f_X9_takes (N : Nat) (n : Nat) (x1 : Int32) (x2 : Int32) (x3 : Int32) (σ : nS) : Option (Int32 × nS) := l_X9_takes_0 N n σ x1 x2 x3
set_option maxHeartbeats 4000000 in
set_option maxRecDepth 100000 in
theorem c_X9_takes {l : Launch} {D : va_G} {A : Nat → Prop} {cy : Nat → ClassId} {a kt vt : Nat → Nat} {N : Nat} {n : Nat} (hn : nNt n) {x1 : Int32} {x2 : Int32} {x3 : Int32} {σ : nS} {r : Int32} {σ' : nS} (hf : f_X9_takes N n x1 x2 x3 σ = some (r, σ')) : nMv l yX9_takes wsX9_takes ({ frames := 0, cells := 0, slots := 0, locals := 0 } : Room) D A cy (Mw cy a) kt vt [.ref (a n), .int x1, .int x2, .int x3] σ σ' := by
  refine Met.ofW (cc := cX9_takes) (maxL := 4) (ret := none) (by decide) rfl ?_
  intro p e s m args below meth c s₁ B hml hv
  obtain ⟨rfl, hP, hE⟩ := hv
  have hl := lv_entry ([.ref (a n), .int x1, .int x2, .int x3]) (n := 4) (Nat.le_of_ble_eq_true rfl)
  rw [lg_entry_eq]
  generalize (lg_sl ([.ref (a n), .int x1, .int x2, .int x3]) ++ List.replicate (4 - (lg_sl ([.ref (a n), .int x1, .int x2, .int x3])).length) Slot.unset).toArray = ls at hl ⊢
  have C0 : nCx p s m _ meth c cX9_takes 4 none RX9 wsX9_takes := ⟨B.exec, B.bytes, B.returns, hml, findClass_of_methodNamed B.named, atoms_spec (ws := wsX9_takes) B.pre, B.notSynchronized⟩
  exact kl_X9_takes_0 (N := N) hn C0 hE (z := (r, σ')) σ x1 x2 x3 _ _ ls hl hP va_S.rf hf
/-! X11_refused -/
set_option maxRecDepth 20000 in
theorem iX11_refused_X11 : ∀ w ∈ u_ws RX11 TX11 68, w ∈ wsX11_refused := fun _ h => List.mem_cons_of_mem _ (List.mem_append_right _ h)
set_option maxRecDepth 20000 in
theorem qX11_refused_120 : Cond.fieldLink RX11 120 RX11 (TX11 1).2.1 (TX11 1).2.2.1 ∈ wsX11_refused := by decide +kernel
set_option maxRecDepth 20000 in
theorem qX11_refused_9 : Cond.fieldLink RX11 9 RX11 (TX11 2).2.1 (TX11 2).2.2.1 ∈ wsX11_refused := by decide +kernel
def b_X11_refused_0 (N : Nat) (σ : nS) (x1 : Int32) : Option (Int32 × nS) := nLet (wr σ 0 1 x1) (fun σ1 => nLet (wr σ1 0 2 (-1)) (fun σ2 => some ((-1), σ2)))
set_option maxHeartbeats 4000000 in
set_option maxRecDepth 100000 in
theorem kb_X11_refused_0 {p : Program} {l : Launch} {e : Env} {s : State} {m : MethodId} {args : Array Value} {below : List Frame} {meth : Method} {c : Code} {D : va_G} {A : Nat → Prop} {cy : Nat → ClassId} {a kt vt : Nat → Nat} {N : Nat}   (C0 : nCx p s m args meth c cX11_refused 2 (some .int) RX11 wsX11_refused) (hE : nEn D A cy (Mw cy a) kt vt s) {z : Int32 × nS} : ∀ (σ : nS) (x1 : Int32) (H : Heap) (locs : List Loc) (ls : Array Slot), lv_has ls 2 [(0, .ref (a 0)), (1, .int x1)] → va_P D vwCl ((Mw cy a) σ) H → va_S A s.heap H locs → b_X11_refused_0 N σ x1 = some z → W p l e ({ frames := 0, cells := 0, slots := 0, locals := 0 } : Room) s m args below meth c H locs 0 0 (nQi below D A (Mw cy a) args s z) (F0 m 0 ls []) := by
  obtain ⟨hx, hb, hr, hml, hown, hts, hlocks⟩ := C0
  intro σ x1 H locs ls hl hP hS hf
  unfold b_X11_refused_0 at hf
  refine lv_aload_n hx hb dX11_refused_0 rfl (lv_at hl 0 rfl) ?_
  refine lv_iload_n hx hb dX11_refused_1 rfl (lv_at hl 1 rfl) ?_
  refine nb_put (ci := 11) hx hb hts iX11_refused_X11 tyX11 tyX11_ok nmX11 hown hE hP hS 0 mbo_0 rfl 1 (by decide) qX11_refused_120 rfl rfl rfl rfl (Nat.le_of_ble_eq_true rfl) dX11_refused_2 (mbp_0_1 _) (fun σ1 eσ1 H locs hP hS => ?_)
  replace hf := nLet_e hf eσ1
  refine lv_aload_n hx hb dX11_refused_5 rfl (lv_at hl 0 rfl) ?_
  refine lv_iconst (v := (-1)) hx hb dX11_refused_6 (by decide) ?_
  refine nb_put (ci := 11) hx hb hts iX11_refused_X11 tyX11 tyX11_ok nmX11 hown hE hP hS 0 mbo_0 rfl 2 (by decide) qX11_refused_9 rfl rfl rfl rfl (Nat.le_of_ble_eq_true rfl) dX11_refused_7 (mbp_0_2 _) (fun σ2 eσ2 H locs hP hS => ?_)
  replace hf := nLet_e hf eσ2
  refine lv_iconst (v := (-1)) hx hb dX11_refused_10 (by decide) ?_
  exact nb_iret hx hb hr hlocks hP hS (nSo hf) dX11_refused_11
def l_X11_refused_0 (N : Nat) : nS → Int32 → Option (Int32 × nS) := b_X11_refused_0 N
theorem kl_X11_refused_0 {p : Program} {l : Launch} {e : Env} {s : State} {m : MethodId} {args : Array Value} {below : List Frame} {meth : Method} {c : Code} {D : va_G} {A : Nat → Prop} {cy : Nat → ClassId} {a kt vt : Nat → Nat} {N : Nat}   (C0 : nCx p s m args meth c cX11_refused 2 (some .int) RX11 wsX11_refused) (hE : nEn D A cy (Mw cy a) kt vt s) {z : Int32 × nS} : ∀ (σ : nS) (x1 : Int32) (H : Heap) (locs : List Loc) (ls : Array Slot), lv_has ls 2 [(0, .ref (a 0)), (1, .int x1)] → va_P D vwCl ((Mw cy a) σ) H → va_S A s.heap H locs → l_X11_refused_0 N σ x1 = some z → W p l e ({ frames := 0, cells := 0, slots := 0, locals := 0 } : Room) s m args below meth c H locs 0 0 (nQi below D A (Mw cy a) args s z) (F0 m 0 ls []) := by
  exact kb_X11_refused_0 (N := N)  C0 hE
def f_X11_refused (N : Nat) (x1 : Int32) (σ : nS) : Option (Int32 × nS) := l_X11_refused_0 N σ x1
set_option maxHeartbeats 4000000 in
set_option maxRecDepth 100000 in
theorem c_X11_refused {l : Launch} {D : va_G} {A : Nat → Prop} {cy : Nat → ClassId} {a kt vt : Nat → Nat} {N : Nat}   {x1 : Int32} {σ : nS} {r : Int32} {σ' : nS} (hf : f_X11_refused N x1 σ = some (r, σ')) : nMi l yX11_refused wsX11_refused ({ frames := 0, cells := 0, slots := 0, locals := 0 } : Room) D A cy (Mw cy a) kt vt [.ref (a 0), .int x1] σ r σ' := by
  refine Met.ofW (cc := cX11_refused) (maxL := 2) (ret := (some .int)) (by decide) rfl ?_
  intro p e s m args below meth c s₁ B hml hv
  obtain ⟨rfl, hP, hE⟩ := hv
  have hl := lv_entry ([.ref (a 0), .int x1]) (n := 2) (Nat.le_of_ble_eq_true rfl)
  rw [lg_entry_eq]
  generalize (lg_sl ([.ref (a 0), .int x1]) ++ List.replicate (2 - (lg_sl ([.ref (a 0), .int x1])).length) Slot.unset).toArray = ls at hl ⊢
  have C0 : nCx p s m _ meth c cX11_refused 2 (some .int) RX11 wsX11_refused := ⟨B.exec, B.bytes, B.returns, hml, findClass_of_methodNamed B.named, atoms_spec (ws := wsX11_refused) B.pre, B.notSynchronized⟩
  exact kl_X11_refused_0 (N := N)  C0 hE (z := (r, σ')) σ x1 _ _ ls hl hP va_S.rf hf
/-! X11_done -/
set_option maxRecDepth 20000 in
theorem iX11_done_X11 : ∀ w ∈ u_ws RX11 TX11 68, w ∈ wsX11_done := fun _ h => List.mem_cons_of_mem _ (List.mem_append_right _ h)
set_option maxRecDepth 20000 in
theorem qX11_done_120 : Cond.fieldLink RX11 120 RX11 (TX11 1).2.1 (TX11 1).2.2.1 ∈ wsX11_done := by decide +kernel
set_option maxRecDepth 20000 in
theorem qX11_done_9 : Cond.fieldLink RX11 9 RX11 (TX11 2).2.1 (TX11 2).2.2.1 ∈ wsX11_done := by decide +kernel
def b_X11_done_0 (N : Nat) (σ : nS) (x1 : Int32) : Option (Int32 × nS) := nLet (wr σ 0 1 0) (fun σ1 => nLet (wr σ1 0 2 (-1)) (fun σ2 => some (x1, σ2)))
set_option maxHeartbeats 4000000 in
set_option maxRecDepth 100000 in
theorem kb_X11_done_0 {p : Program} {l : Launch} {e : Env} {s : State} {m : MethodId} {args : Array Value} {below : List Frame} {meth : Method} {c : Code} {D : va_G} {A : Nat → Prop} {cy : Nat → ClassId} {a kt vt : Nat → Nat} {N : Nat}   (C0 : nCx p s m args meth c cX11_done 2 (some .int) RX11 wsX11_done) (hE : nEn D A cy (Mw cy a) kt vt s) {z : Int32 × nS} : ∀ (σ : nS) (x1 : Int32) (H : Heap) (locs : List Loc) (ls : Array Slot), lv_has ls 2 [(0, .ref (a 0)), (1, .int x1)] → va_P D vwCl ((Mw cy a) σ) H → va_S A s.heap H locs → b_X11_done_0 N σ x1 = some z → W p l e ({ frames := 0, cells := 0, slots := 0, locals := 0 } : Room) s m args below meth c H locs 0 0 (nQi below D A (Mw cy a) args s z) (F0 m 0 ls []) := by
  obtain ⟨hx, hb, hr, hml, hown, hts, hlocks⟩ := C0
  intro σ x1 H locs ls hl hP hS hf
  unfold b_X11_done_0 at hf
  refine lv_aload_n hx hb dX11_done_0 rfl (lv_at hl 0 rfl) ?_
  refine lv_iconst (v := 0) hx hb dX11_done_1 (by decide) ?_
  refine nb_put (ci := 11) hx hb hts iX11_done_X11 tyX11 tyX11_ok nmX11 hown hE hP hS 0 mbo_0 rfl 1 (by decide) qX11_done_120 rfl rfl rfl rfl (Nat.le_of_ble_eq_true rfl) dX11_done_2 (mbp_0_1 _) (fun σ1 eσ1 H locs hP hS => ?_)
  replace hf := nLet_e hf eσ1
  refine lv_aload_n hx hb dX11_done_5 rfl (lv_at hl 0 rfl) ?_
  refine lv_iconst (v := (-1)) hx hb dX11_done_6 (by decide) ?_
  refine nb_put (ci := 11) hx hb hts iX11_done_X11 tyX11 tyX11_ok nmX11 hown hE hP hS 0 mbo_0 rfl 2 (by decide) qX11_done_9 rfl rfl rfl rfl (Nat.le_of_ble_eq_true rfl) dX11_done_7 (mbp_0_2 _) (fun σ2 eσ2 H locs hP hS => ?_)
  replace hf := nLet_e hf eσ2
  refine lv_iload_n hx hb dX11_done_10 rfl (lv_at hl 1 rfl) ?_
  exact nb_iret hx hb hr hlocks hP hS (nSo hf) dX11_done_11
def l_X11_done_0 (N : Nat) : nS → Int32 → Option (Int32 × nS) := b_X11_done_0 N
theorem kl_X11_done_0 {p : Program} {l : Launch} {e : Env} {s : State} {m : MethodId} {args : Array Value} {below : List Frame} {meth : Method} {c : Code} {D : va_G} {A : Nat → Prop} {cy : Nat → ClassId} {a kt vt : Nat → Nat} {N : Nat}   (C0 : nCx p s m args meth c cX11_done 2 (some .int) RX11 wsX11_done) (hE : nEn D A cy (Mw cy a) kt vt s) {z : Int32 × nS} : ∀ (σ : nS) (x1 : Int32) (H : Heap) (locs : List Loc) (ls : Array Slot), lv_has ls 2 [(0, .ref (a 0)), (1, .int x1)] → va_P D vwCl ((Mw cy a) σ) H → va_S A s.heap H locs → l_X11_done_0 N σ x1 = some z → W p l e ({ frames := 0, cells := 0, slots := 0, locals := 0 } : Room) s m args below meth c H locs 0 0 (nQi below D A (Mw cy a) args s z) (F0 m 0 ls []) := by
  exact kb_X11_done_0 (N := N)  C0 hE
def f_X11_done (N : Nat) (x1 : Int32) (σ : nS) : Option (Int32 × nS) := l_X11_done_0 N σ x1
set_option maxHeartbeats 4000000 in
set_option maxRecDepth 100000 in
theorem c_X11_done {l : Launch} {D : va_G} {A : Nat → Prop} {cy : Nat → ClassId} {a kt vt : Nat → Nat} {N : Nat}   {x1 : Int32} {σ : nS} {r : Int32} {σ' : nS} (hf : f_X11_done N x1 σ = some (r, σ')) : nMi l yX11_done wsX11_done ({ frames := 0, cells := 0, slots := 0, locals := 0 } : Room) D A cy (Mw cy a) kt vt [.ref (a 0), .int x1] σ r σ' := by
  refine Met.ofW (cc := cX11_done) (maxL := 2) (ret := (some .int)) (by decide) rfl ?_
  intro p e s m args below meth c s₁ B hml hv
  obtain ⟨rfl, hP, hE⟩ := hv
  have hl := lv_entry ([.ref (a 0), .int x1]) (n := 2) (Nat.le_of_ble_eq_true rfl)
  rw [lg_entry_eq]
  generalize (lg_sl ([.ref (a 0), .int x1]) ++ List.replicate (2 - (lg_sl ([.ref (a 0), .int x1])).length) Slot.unset).toArray = ls at hl ⊢
  have C0 : nCx p s m _ meth c cX11_done 2 (some .int) RX11 wsX11_done := ⟨B.exec, B.bytes, B.returns, hml, findClass_of_methodNamed B.named, atoms_spec (ws := wsX11_done) B.pre, B.notSynchronized⟩
  exact kl_X11_done_0 (N := N)  C0 hE (z := (r, σ')) σ x1 _ _ ls hl hP va_S.rf hf
/-! X11_in -/
def b_X11_in_0 (N : Nat) (σ : nS) (x0 : Int32) (x1 : Int32) (x2 : Int32) : Option (Int32 × nS) := (if x0 < x1 then some (0, σ) else (if x2 < x0 then some (0, σ) else some (1, σ)))
set_option maxHeartbeats 4000000 in
set_option maxRecDepth 100000 in
theorem kb_X11_in_0 {p : Program} {l : Launch} {e : Env} {s : State} {m : MethodId} {args : Array Value} {below : List Frame} {meth : Method} {c : Code} {D : va_G} {A : Nat → Prop} {cy : Nat → ClassId} {a kt vt : Nat → Nat} {N : Nat}   (C0 : nCx p s m args meth c cX11_in 3 (some .boolean) RX11 wsX11_in) (hE : nEn D A cy (Mw cy a) kt vt s) {z : Int32 × nS} : ∀ (σ : nS) (x0 : Int32) (x1 : Int32) (x2 : Int32) (H : Heap) (locs : List Loc) (ls : Array Slot), lv_has ls 3 [(0, .int x0), (1, .int x1), (2, .int x2)] → va_P D vwCl ((Mw cy a) σ) H → va_S A s.heap H locs → b_X11_in_0 N σ x0 x1 x2 = some z → W p l e ({ frames := 0, cells := 0, slots := 0, locals := 0 } : Room) s m args below meth c H locs 0 0 (nQi below D A (Mw cy a) args s z) (F0 m 0 ls []) := by
  obtain ⟨hx, hb, hr, hml, hown, hts, hlocks⟩ := C0
  intro σ x0 x1 x2 H locs ls hl hP hS hf
  unfold b_X11_in_0 at hf
  refine lv_iload_n hx hb dX11_in_0 rfl (lv_at hl 0 rfl) ?_
  refine lv_iload_n hx hb dX11_in_1 rfl (lv_at hl 1 rfl) ?_
  refine lv_icmp_lt (tgt := 14) hx hb dX11_in_2 (by decide) (fun hc => ?_) (fun hc => ?_)
  · replace hf := nIf_t hc hf
    refine lv_iconst (v := 0) hx hb dX11_in_14 (by decide) ?_
    exact nb_zret hx hb hr hlocks hP hS (nSo hf) rfl dX11_in_15
  · replace hf := nIf_f hc hf
    refine lv_iload_n hx hb dX11_in_5 rfl (lv_at hl 0 rfl) ?_
    refine lv_iload_n hx hb dX11_in_6 rfl (lv_at hl 2 rfl) ?_
    refine lv_icmp_gt (tgt := 14) hx hb dX11_in_7 (by decide) (fun hc => ?_) (fun hc => ?_)
    · replace hf := nIf_t hc hf
      refine lv_iconst (v := 0) hx hb dX11_in_14 (by decide) ?_
      exact nb_zret hx hb hr hlocks hP hS (nSo hf) rfl dX11_in_15
    · replace hf := nIf_f hc hf
      refine lv_iconst (v := 1) hx hb dX11_in_10 (by decide) ?_
      refine lv_goto (tgt := 15) hx hb dX11_in_11 (by decide) ?_
      exact nb_zret hx hb hr hlocks hP hS (nSo hf) rfl dX11_in_15
def l_X11_in_0 (N : Nat) : nS → Int32 → Int32 → Int32 → Option (Int32 × nS) := b_X11_in_0 N
theorem kl_X11_in_0 {p : Program} {l : Launch} {e : Env} {s : State} {m : MethodId} {args : Array Value} {below : List Frame} {meth : Method} {c : Code} {D : va_G} {A : Nat → Prop} {cy : Nat → ClassId} {a kt vt : Nat → Nat} {N : Nat}   (C0 : nCx p s m args meth c cX11_in 3 (some .boolean) RX11 wsX11_in) (hE : nEn D A cy (Mw cy a) kt vt s) {z : Int32 × nS} : ∀ (σ : nS) (x0 : Int32) (x1 : Int32) (x2 : Int32) (H : Heap) (locs : List Loc) (ls : Array Slot), lv_has ls 3 [(0, .int x0), (1, .int x1), (2, .int x2)] → va_P D vwCl ((Mw cy a) σ) H → va_S A s.heap H locs → l_X11_in_0 N σ x0 x1 x2 = some z → W p l e ({ frames := 0, cells := 0, slots := 0, locals := 0 } : Room) s m args below meth c H locs 0 0 (nQi below D A (Mw cy a) args s z) (F0 m 0 ls []) := by
  exact kb_X11_in_0 (N := N)  C0 hE
def f_X11_in (N : Nat) (x0 : Int32) (x1 : Int32) (x2 : Int32) (σ : nS) : Option (Int32 × nS) := l_X11_in_0 N σ x0 x1 x2
set_option maxHeartbeats 4000000 in
set_option maxRecDepth 100000 in
theorem c_X11_in {l : Launch} {D : va_G} {A : Nat → Prop} {cy : Nat → ClassId} {a kt vt : Nat → Nat} {N : Nat}   {x0 : Int32} {x1 : Int32} {x2 : Int32} {σ : nS} {r : Int32} {σ' : nS} (hf : f_X11_in N x0 x1 x2 σ = some (r, σ')) : nMi l yX11_in wsX11_in ({ frames := 0, cells := 0, slots := 0, locals := 0 } : Room) D A cy (Mw cy a) kt vt [.int x0, .int x1, .int x2] σ r σ' := by
  refine Met.ofW (cc := cX11_in) (maxL := 3) (ret := (some .boolean)) (by decide) rfl ?_
  intro p e s m args below meth c s₁ B hml hv
  obtain ⟨rfl, hP, hE⟩ := hv
  have hl := lv_entry ([.int x0, .int x1, .int x2]) (n := 3) (Nat.le_of_ble_eq_true rfl)
  rw [lg_entry_eq]
  generalize (lg_sl ([.int x0, .int x1, .int x2]) ++ List.replicate (3 - (lg_sl ([.int x0, .int x1, .int x2])).length) Slot.unset).toArray = ls at hl ⊢
  have C0 : nCx p s m _ meth c cX11_in 3 (some .boolean) RX11 wsX11_in := ⟨B.exec, B.bytes, B.returns, hml, findClass_of_methodNamed B.named, atoms_spec (ws := wsX11_in) B.pre, B.notSynchronized⟩
  exact kl_X11_in_0 (N := N)  C0 hE (z := (r, σ')) σ x0 x1 x2 _ _ ls hl hP va_S.rf hf
/-! X11_bits -/
def b_X11_bits_4 (N : Nat) (k4 : nS → Int32 → Int32 → Option (Int32 × nS)) (σ : nS) (x1 : Int32) (x2 : Int32) : Option (Int32 × nS) := (if x2 = 0 then some (x1, σ) else nLet (x1 + 1 : Int32) (fun v1 => nLet (x2 - (1 : Int32) : Int32) (fun v2 => nLet (x2 &&& v2 : Int32) (fun v3 => k4 σ v1 v3))))
set_option maxHeartbeats 4000000 in
set_option maxRecDepth 100000 in
theorem kb_X11_bits_4 {p : Program} {l : Launch} {e : Env} {s : State} {m : MethodId} {args : Array Value} {below : List Frame} {meth : Method} {c : Code} {D : va_G} {A : Nat → Prop} {cy : Nat → ClassId} {a kt vt : Nat → Nat} {N : Nat}   (C0 : nCx p s m args meth c cX11_bits 3 (some .int) RX11 wsX11_bits) (hE : nEn D A cy (Mw cy a) kt vt s) {z : Int32 × nS} {k4 : nS → Int32 → Int32 → Option (Int32 × nS)} (K4 : ∀ (σ : nS) (x1 : Int32) (x2 : Int32) (H : Heap) (locs : List Loc) (ls : Array Slot), lv_has ls 3 [(1, .int x1), (2, .int x2)] → va_P D vwCl ((Mw cy a) σ) H → va_S A s.heap H locs → k4 σ x1 x2 = some z → W p l e ({ frames := 0, cells := 0, slots := 0, locals := 0 } : Room) s m args below meth c H locs 0 0 (nQi below D A (Mw cy a) args s z) (F0 m 4 ls [])) : ∀ (σ : nS) (x1 : Int32) (x2 : Int32) (H : Heap) (locs : List Loc) (ls : Array Slot), lv_has ls 3 [(1, .int x1), (2, .int x2)] → va_P D vwCl ((Mw cy a) σ) H → va_S A s.heap H locs → b_X11_bits_4 N k4 σ x1 x2 = some z → W p l e ({ frames := 0, cells := 0, slots := 0, locals := 0 } : Room) s m args below meth c H locs 0 0 (nQi below D A (Mw cy a) args s z) (F0 m 4 ls []) := by
  obtain ⟨hx, hb, hr, hml, hown, hts, hlocks⟩ := C0
  intro σ x1 x2 H locs ls hl hP hS hf
  unfold b_X11_bits_4 at hf
  refine lv_iload_n hx hb dX11_bits_4 rfl (lv_at hl 1 rfl) ?_
  refine lv_if_eq (tgt := 20) hx hb dX11_bits_5 (by decide) (fun hc => ?_) (fun hc => ?_)
  · replace hf := nIf_t hc hf
    refine lv_iload_n hx hb dX11_bits_20 rfl (lv_at hl 0 rfl) ?_
    exact nb_iret hx hb hr hlocks hP hS (nSo hf) dX11_bits_21
  · replace hf := nIf_f hc hf
    obtain ⟨v1, ev1⟩ : ∃ y : Int32, y = x1 + 1 := ⟨_, rfl⟩
    replace hf := nLet_e hf ev1
    refine lv_iinc (v := v1) (lv' := [(1, .int v1), (2, .int x2)]) hx hb dX11_bits_8 hl (k := 0) rfl (by rw [ev1]; rfl) (by decide) rfl (fun ls hl => ?_)
    refine lv_iload_n hx hb dX11_bits_11 rfl (lv_at hl 1 rfl) ?_
    refine lv_iload_n hx hb dX11_bits_12 rfl (lv_at hl 1 rfl) ?_
    refine lv_iconst (v := 1) hx hb dX11_bits_13 (by decide) ?_
    refine lv_isub hx hb dX11_bits_14 ?_
    refine lv_topi (fun v2 ev2 => ?_)
    replace hf := nLet_e hf ev2
    refine lv_iand hx hb dX11_bits_15 ?_
    refine lv_topi (fun v3 ev3 => ?_)
    replace hf := nLet_e hf ev3
    refine lv_istore_n (lv' := [(2, .int v3), (1, .int v1)]) hx hb dX11_bits_16 rfl hl (by decide) rfl (fun ls hl => ?_)
    refine lv_goto (tgt := 4) hx hb dX11_bits_17 (by decide) ?_
    exact K4 σ v1 v3 H locs ls (lv_sub hl [1, 0] rfl) hP hS hf
def b_X11_bits_0 (N : Nat) (k4 : nS → Int32 → Int32 → Option (Int32 × nS)) (σ : nS) (x0 : Int32) : Option (Int32 × nS) := k4 σ 0 x0
set_option maxHeartbeats 4000000 in
set_option maxRecDepth 100000 in
theorem kb_X11_bits_0 {p : Program} {l : Launch} {e : Env} {s : State} {m : MethodId} {args : Array Value} {below : List Frame} {meth : Method} {c : Code} {D : va_G} {A : Nat → Prop} {cy : Nat → ClassId} {a kt vt : Nat → Nat} {N : Nat}   (C0 : nCx p s m args meth c cX11_bits 3 (some .int) RX11 wsX11_bits) (hE : nEn D A cy (Mw cy a) kt vt s) {z : Int32 × nS} {k4 : nS → Int32 → Int32 → Option (Int32 × nS)} (K4 : ∀ (σ : nS) (x1 : Int32) (x2 : Int32) (H : Heap) (locs : List Loc) (ls : Array Slot), lv_has ls 3 [(1, .int x1), (2, .int x2)] → va_P D vwCl ((Mw cy a) σ) H → va_S A s.heap H locs → k4 σ x1 x2 = some z → W p l e ({ frames := 0, cells := 0, slots := 0, locals := 0 } : Room) s m args below meth c H locs 0 0 (nQi below D A (Mw cy a) args s z) (F0 m 4 ls [])) : ∀ (σ : nS) (x0 : Int32) (H : Heap) (locs : List Loc) (ls : Array Slot), lv_has ls 3 [(0, .int x0)] → va_P D vwCl ((Mw cy a) σ) H → va_S A s.heap H locs → b_X11_bits_0 N k4 σ x0 = some z → W p l e ({ frames := 0, cells := 0, slots := 0, locals := 0 } : Room) s m args below meth c H locs 0 0 (nQi below D A (Mw cy a) args s z) (F0 m 0 ls []) := by
  obtain ⟨hx, hb, hr, hml, hown, hts, hlocks⟩ := C0
  intro σ x0 H locs ls hl hP hS hf
  unfold b_X11_bits_0 at hf
  refine lv_iconst (v := 0) hx hb dX11_bits_0 (by decide) ?_
  refine lv_istore_n (lv' := [(1, .int 0), (0, .int x0)]) hx hb dX11_bits_1 rfl hl (by decide) rfl (fun ls hl => ?_)
  refine lv_iload_n hx hb dX11_bits_2 rfl (lv_at hl 1 rfl) ?_
  refine lv_istore_n (lv' := [(2, .int x0), (1, .int 0), (0, .int x0)]) hx hb dX11_bits_3 rfl hl (by decide) rfl (fun ls hl => ?_)
  exact K4 σ 0 x0 H locs ls (lv_sub hl [1, 0] rfl) hP hS hf
def l_X11_bits_4 (N : Nat) : nS → Int32 → Int32 → Option (Int32 × nS) := nLp (fun _ _ _ => none) (fun again => b_X11_bits_4 N again) N
theorem kl_X11_bits_4 {p : Program} {l : Launch} {e : Env} {s : State} {m : MethodId} {args : Array Value} {below : List Frame} {meth : Method} {c : Code} {D : va_G} {A : Nat → Prop} {cy : Nat → ClassId} {a kt vt : Nat → Nat} {N : Nat}   (C0 : nCx p s m args meth c cX11_bits 3 (some .int) RX11 wsX11_bits) (hE : nEn D A cy (Mw cy a) kt vt s) {z : Int32 × nS} : ∀ (σ : nS) (x1 : Int32) (x2 : Int32) (H : Heap) (locs : List Loc) (ls : Array Slot), lv_has ls 3 [(1, .int x1), (2, .int x2)] → va_P D vwCl ((Mw cy a) σ) H → va_S A s.heap H locs → l_X11_bits_4 N σ x1 x2 = some z → W p l e ({ frames := 0, cells := 0, slots := 0, locals := 0 } : Room) s m args below meth c H locs 0 0 (nQi below D A (Mw cy a) args s z) (F0 m 4 ls []) := by
  have main : ∀ (fu : Nat), ∀ (σ : nS) (x1 : Int32) (x2 : Int32) (H : Heap) (locs : List Loc) (ls : Array Slot), lv_has ls 3 [(1, .int x1), (2, .int x2)] → va_P D vwCl ((Mw cy a) σ) H → va_S A s.heap H locs → nLp (fun _ _ _ => none) (fun again => b_X11_bits_4 N again) fu σ x1 x2 = some z → W p l e ({ frames := 0, cells := 0, slots := 0, locals := 0 } : Room) s m args below meth c H locs 0 0 (nQi below D A (Mw cy a) args s z) (F0 m 4 ls []) := by
    intro fu
    induction fu with
    | zero => intro σ x1 x2 H locs ls hl hP hS hf; cases hf
    | succ fu ih => exact kb_X11_bits_4 (N := N)  C0 hE ih
  exact main N
def l_X11_bits_0 (N : Nat) : nS → Int32 → Option (Int32 × nS) := b_X11_bits_0 N (l_X11_bits_4 N)
theorem kl_X11_bits_0 {p : Program} {l : Launch} {e : Env} {s : State} {m : MethodId} {args : Array Value} {below : List Frame} {meth : Method} {c : Code} {D : va_G} {A : Nat → Prop} {cy : Nat → ClassId} {a kt vt : Nat → Nat} {N : Nat}   (C0 : nCx p s m args meth c cX11_bits 3 (some .int) RX11 wsX11_bits) (hE : nEn D A cy (Mw cy a) kt vt s) {z : Int32 × nS} : ∀ (σ : nS) (x0 : Int32) (H : Heap) (locs : List Loc) (ls : Array Slot), lv_has ls 3 [(0, .int x0)] → va_P D vwCl ((Mw cy a) σ) H → va_S A s.heap H locs → l_X11_bits_0 N σ x0 = some z → W p l e ({ frames := 0, cells := 0, slots := 0, locals := 0 } : Room) s m args below meth c H locs 0 0 (nQi below D A (Mw cy a) args s z) (F0 m 0 ls []) := by
  exact kb_X11_bits_0 (N := N)  C0 hE (kl_X11_bits_4 (N := N)  C0 hE)
def f_X11_bits (N : Nat) (x0 : Int32) (σ : nS) : Option (Int32 × nS) := l_X11_bits_0 N σ x0
set_option maxHeartbeats 4000000 in
set_option maxRecDepth 100000 in
theorem c_X11_bits {l : Launch} {D : va_G} {A : Nat → Prop} {cy : Nat → ClassId} {a kt vt : Nat → Nat} {N : Nat}   {x0 : Int32} {σ : nS} {r : Int32} {σ' : nS} (hf : f_X11_bits N x0 σ = some (r, σ')) : nMi l yX11_bits wsX11_bits ({ frames := 0, cells := 0, slots := 0, locals := 0 } : Room) D A cy (Mw cy a) kt vt [.int x0] σ r σ' := by
  refine Met.ofW (cc := cX11_bits) (maxL := 3) (ret := (some .int)) (by decide) rfl ?_
  intro p e s m args below meth c s₁ B hml hv
  obtain ⟨rfl, hP, hE⟩ := hv
  have hl := lv_entry ([.int x0]) (n := 3) (Nat.le_of_ble_eq_true rfl)
  rw [lg_entry_eq]
  generalize (lg_sl ([.int x0]) ++ List.replicate (3 - (lg_sl ([.int x0])).length) Slot.unset).toArray = ls at hl ⊢
  have C0 : nCx p s m _ meth c cX11_bits 3 (some .int) RX11 wsX11_bits := ⟨B.exec, B.bytes, B.returns, hml, findClass_of_methodNamed B.named, atoms_spec (ws := wsX11_bits) B.pre, B.notSynchronized⟩
  exact kl_X11_bits_0 (N := N)  C0 hE (z := (r, σ')) σ x0 _ _ ls hl hP va_S.rf hf
/-! X11_fact -/
set_option maxRecDepth 20000 in
theorem iX11_fact_X11 : ∀ w ∈ u_ws RX11 TX11 68, w ∈ wsX11_fact := fun _ h => List.mem_cons_of_mem _ (List.mem_append_right _ h)
set_option maxRecDepth 20000 in
theorem qX11_fact_117 : Cond.fieldLink RX11 117 RX11 (TX11 0).2.1 (TX11 0).2.2.1 ∈ wsX11_fact := by decide +kernel
set_option maxRecDepth 20000 in
theorem qX11_fact_123 : Cond.fieldLink RX11 123 RX11 (TX11 4).2.1 (TX11 4).2.2.1 ∈ wsX11_fact := by decide +kernel
def b_X11_fact_0 (N : Nat) (σ : nS) : Option (Int32 × nS) := nLet (wr σ 0 0 0) (fun σ1 => (if (σ1.1 0 4) = 8 then nBd (f_X11_refused N 3 σ1) (fun r7 σ8 => some (r7, σ8)) else nLet ((σ1.1 0 4) + (1 : Int32) : Int32) (fun v2 => nLet (wr σ1 0 4 v2) (fun σ3 => nLet ((σ3.1 0 4) - (1 : Int32) : Int32) (fun v4 => nBd (f_X11_done N v4 σ3) (fun r5 σ6 => some (r5, σ6)))))))
set_option maxHeartbeats 4000000 in
set_option maxRecDepth 100000 in
theorem kb_X11_fact_0 {p : Program} {l : Launch} {e : Env} {s : State} {m : MethodId} {args : Array Value} {below : List Frame} {meth : Method} {c : Code} {D : va_G} {A : Nat → Prop} {cy : Nat → ClassId} {a kt vt : Nat → Nat} {N : Nat}   (C0 : nCx p s m args meth c cX11_fact 1 (some .int) RX11 wsX11_fact) (hE : nEn D A cy (Mw cy a) kt vt s) {z : Int32 × nS} : ∀ (σ : nS) (H : Heap) (locs : List Loc) (ls : Array Slot), lv_has ls 1 [(0, .ref (a 0))] → va_P D vwCl ((Mw cy a) σ) H → va_S A s.heap H locs → b_X11_fact_0 N σ = some z → W p l e ({ frames := 1, cells := 0, slots := 0, locals := 21 } : Room) s m args below meth c H locs 0 0 (nQi below D A (Mw cy a) args s z) (F0 m 0 ls []) := by
  obtain ⟨hx, hb, hr, hml, hown, hts, hlocks⟩ := C0
  intro σ  H locs ls hl hP hS hf
  unfold b_X11_fact_0 at hf
  refine lv_aload_n hx hb dX11_fact_0 rfl (lv_at hl 0 rfl) ?_
  refine lv_iconst (v := 0) hx hb dX11_fact_1 (by decide) ?_
  refine nb_put (ci := 11) hx hb hts iX11_fact_X11 tyX11 tyX11_ok nmX11 hown hE hP hS 0 mbo_0 rfl 0 (by decide) qX11_fact_117 rfl rfl rfl rfl (Nat.le_of_ble_eq_true rfl) dX11_fact_2 (mbp_0_0 _) (fun σ1 eσ1 H locs hP hS => ?_)
  replace hf := nLet_e hf eσ1
  refine lv_aload_n hx hb dX11_fact_5 rfl (lv_at hl 0 rfl) ?_
  refine nb_get (ci := 11) hx hb hts iX11_fact_X11 hown hE hP 0 mbo_0 rfl 4 (by decide) qX11_fact_123 rfl rfl dX11_fact_6 ?_
  refine lv_bipush (v := 8) hx hb dX11_fact_9 (by decide) ?_
  refine lv_icmp_ne (tgt := 20) hx hb dX11_fact_11 (by decide) (fun hc => ?_) (fun hc => ?_)
  · replace hf := nIf_f hc hf
    refine lv_aload_n hx hb dX11_fact_20 rfl (lv_at hl 0 rfl) ?_
    refine lv_dup hx hb dX11_fact_21 rfl ?_
    refine nb_get (ci := 11) hx hb hts iX11_fact_X11 hown hE hP 0 mbo_0 rfl 4 (by decide) qX11_fact_123 rfl rfl dX11_fact_22 ?_
    refine lv_iconst (v := 1) hx hb dX11_fact_25 (by decide) ?_
    refine lv_iadd hx hb dX11_fact_26 ?_
    refine lv_topi (fun v2 ev2 => ?_)
    replace hf := nLet_e hf ev2
    refine nb_put (ci := 11) hx hb hts iX11_fact_X11 tyX11 tyX11_ok nmX11 hown hE hP hS 0 mbo_0 rfl 4 (by decide) qX11_fact_123 rfl rfl rfl rfl (Nat.le_of_ble_eq_true rfl) dX11_fact_27 (mbp_0_4 _) (fun σ3 eσ3 H locs hP hS => ?_)
    replace hf := nLet_e hf eσ3
    refine lv_aload_n hx hb dX11_fact_30 rfl (lv_at hl 0 rfl) ?_
    refine lv_aload_n hx hb dX11_fact_31 rfl (lv_at hl 0 rfl) ?_
    refine nb_get (ci := 11) hx hb hts iX11_fact_X11 hown hE hP 0 mbo_0 rfl 4 (by decide) qX11_fact_123 rfl rfl dX11_fact_32 ?_
    refine lv_iconst (v := 1) hx hb dX11_fact_35 (by decide) ?_
    refine lv_isub hx hb dX11_fact_36 ?_
    refine lv_topi (fun v4 ev4 => ?_)
    replace hf := nLet_e hf ev4
    obtain ⟨r5, σ6, hc6, hf⟩ := nBd_e hf
    refine nb_callVi (As := [.int v4]) (rest := []) ⟨hx, hb, hml, hown, hts⟩ (c_X11_done (D := D) (A := A) (cy := cy) (a := a) (kt := kt) (vt := vt) (l := l)  hc6) (cwV 1 hts gX11_fact_X11_done rfl rfl rfl (by decide +kernel) ⟨Nat.le_of_ble_eq_true rfl, Nat.le_of_ble_eq_true rfl⟩) hE hP hS mbo_0 rfl rfl hl.1 rfl (Nat.le_of_ble_eq_true rfl) dX11_fact_37 (fun H locs hP hS => ?_)
    exact nb_iret hx hb hr hlocks hP hS (nSo hf) dX11_fact_40
  · replace hf := nIf_t hc hf
    refine lv_aload_n hx hb dX11_fact_14 rfl (lv_at hl 0 rfl) ?_
    refine lv_iconst (v := 3) hx hb dX11_fact_15 (by decide) ?_
    obtain ⟨r7, σ8, hc8, hf⟩ := nBd_e hf
    refine nb_callVi (As := [.int 3]) (rest := []) ⟨hx, hb, hml, hown, hts⟩ (c_X11_refused (D := D) (A := A) (cy := cy) (a := a) (kt := kt) (vt := vt) (l := l)  hc8) (cwV 1 hts gX11_fact_X11_refused rfl rfl rfl (by decide +kernel) ⟨Nat.le_of_ble_eq_true rfl, Nat.le_of_ble_eq_true rfl⟩) hE hP hS mbo_0 rfl rfl hl.1 rfl (Nat.le_of_ble_eq_true rfl) dX11_fact_16 (fun H locs hP hS => ?_)
    exact nb_iret hx hb hr hlocks hP hS (nSo hf) dX11_fact_19
def l_X11_fact_0 (N : Nat) : nS → Option (Int32 × nS) := b_X11_fact_0 N
theorem kl_X11_fact_0 {p : Program} {l : Launch} {e : Env} {s : State} {m : MethodId} {args : Array Value} {below : List Frame} {meth : Method} {c : Code} {D : va_G} {A : Nat → Prop} {cy : Nat → ClassId} {a kt vt : Nat → Nat} {N : Nat}   (C0 : nCx p s m args meth c cX11_fact 1 (some .int) RX11 wsX11_fact) (hE : nEn D A cy (Mw cy a) kt vt s) {z : Int32 × nS} : ∀ (σ : nS) (H : Heap) (locs : List Loc) (ls : Array Slot), lv_has ls 1 [(0, .ref (a 0))] → va_P D vwCl ((Mw cy a) σ) H → va_S A s.heap H locs → l_X11_fact_0 N σ = some z → W p l e ({ frames := 1, cells := 0, slots := 0, locals := 21 } : Room) s m args below meth c H locs 0 0 (nQi below D A (Mw cy a) args s z) (F0 m 0 ls []) := by
  exact kb_X11_fact_0 (N := N)  C0 hE
def f_X11_fact (N : Nat) (σ : nS) : Option (Int32 × nS) := l_X11_fact_0 N σ
set_option maxHeartbeats 4000000 in
set_option maxRecDepth 100000 in
theorem c_X11_fact {l : Launch} {D : va_G} {A : Nat → Prop} {cy : Nat → ClassId} {a kt vt : Nat → Nat} {N : Nat}   {σ : nS} {r : Int32} {σ' : nS} (hf : f_X11_fact N σ = some (r, σ')) : nMi l yX11_fact wsX11_fact ({ frames := 1, cells := 0, slots := 0, locals := 21 } : Room) D A cy (Mw cy a) kt vt [.ref (a 0)] σ r σ' := by
  refine Met.ofW (cc := cX11_fact) (maxL := 1) (ret := (some .int)) (by decide) rfl ?_
  intro p e s m args below meth c s₁ B hml hv
  obtain ⟨rfl, hP, hE⟩ := hv
  have hl := lv_entry ([.ref (a 0)]) (n := 1) (Nat.le_of_ble_eq_true rfl)
  rw [lg_entry_eq]
  generalize (lg_sl ([.ref (a 0)]) ++ List.replicate (1 - (lg_sl ([.ref (a 0)])).length) Slot.unset).toArray = ls at hl ⊢
  have C0 : nCx p s m _ meth c cX11_fact 1 (some .int) RX11 wsX11_fact := ⟨B.exec, B.bytes, B.returns, hml, findClass_of_methodNamed B.named, atoms_spec (ws := wsX11_fact) B.pre, B.notSynchronized⟩
  exact kl_X11_fact_0 (N := N)  C0 hE (z := (r, σ')) σ  _ _ ls hl hP va_S.rf hf
/-! X11_sign -/
set_option maxRecDepth 20000 in
theorem iX11_sign_X11 : ∀ w ∈ u_ws RX11 TX11 68, w ∈ wsX11_sign := fun _ h => List.mem_cons_of_mem _ (List.mem_append_right _ h)
set_option maxRecDepth 20000 in
theorem qX11_sign_117 : Cond.fieldLink RX11 117 RX11 (TX11 0).2.1 (TX11 0).2.2.1 ∈ wsX11_sign := by decide +kernel
set_option maxRecDepth 20000 in
theorem qX11_sign_123 : Cond.fieldLink RX11 123 RX11 (TX11 4).2.1 (TX11 4).2.2.1 ∈ wsX11_sign := by decide +kernel
set_option maxRecDepth 20000 in
theorem qX11_sign_133 : Cond.fieldLink RX11 133 RX11 (TX11 5).2.1 (TX11 5).2.2.1 ∈ wsX11_sign := by decide +kernel
set_option maxRecDepth 20000 in
theorem qX11_sign_16 : Cond.fieldLink RX11 16 RX11 (TX11 9).2.1 (TX11 9).2.2.1 ∈ wsX11_sign := by decide +kernel
def b_X11_sign_0 (N : Nat) (σ : nS) (x1 : Int32) : Option (Int32 × nS) := nLet (wr σ 0 0 0) (fun σ1 => (if x1 < 0 then nBd (f_X11_refused N 1 σ1) (fun r2 σ3 => some (r2, σ3)) else (if x1 < (σ1.1 0 4) then (if (σ1.1 0 5) = 8 then nBd (f_X11_refused N 3 σ1) (fun r10 σ11 => some (r10, σ11)) else nIx (σ1.1 0 5) 8 (nLet (wr σ1 1 ((σ1.1 0 5)).toNatClampNeg x1) (fun σ4 => nLet ((σ4.1 0 5) + (1 : Int32) : Int32) (fun v5 => nLet (wr σ4 0 5 v5) (fun σ6 => nLet ((σ6.1 0 5) - (1 : Int32) : Int32) (fun v7 => nBd (f_X11_done N v7 σ6) (fun r8 σ9 => some (r8, σ9)))))))) else nBd (f_X11_refused N 1 σ1) (fun r12 σ13 => some (r12, σ13)))))
set_option maxHeartbeats 4000000 in
set_option maxRecDepth 100000 in
theorem kb_X11_sign_0 {p : Program} {l : Launch} {e : Env} {s : State} {m : MethodId} {args : Array Value} {below : List Frame} {meth : Method} {c : Code} {D : va_G} {A : Nat → Prop} {cy : Nat → ClassId} {a kt vt : Nat → Nat} {N : Nat}   (C0 : nCx p s m args meth c cX11_sign 2 (some .int) RX11 wsX11_sign) (hE : nEn D A cy (Mw cy a) kt vt s) {z : Int32 × nS} : ∀ (σ : nS) (x1 : Int32) (H : Heap) (locs : List Loc) (ls : Array Slot), lv_has ls 2 [(0, .ref (a 0)), (1, .int x1)] → va_P D vwCl ((Mw cy a) σ) H → va_S A s.heap H locs → b_X11_sign_0 N σ x1 = some z → W p l e ({ frames := 1, cells := 0, slots := 0, locals := 21 } : Room) s m args below meth c H locs 0 0 (nQi below D A (Mw cy a) args s z) (F0 m 0 ls []) := by
  obtain ⟨hx, hb, hr, hml, hown, hts, hlocks⟩ := C0
  intro σ x1 H locs ls hl hP hS hf
  unfold b_X11_sign_0 at hf
  refine lv_aload_n hx hb dX11_sign_0 rfl (lv_at hl 0 rfl) ?_
  refine lv_iconst (v := 0) hx hb dX11_sign_1 (by decide) ?_
  refine nb_put (ci := 11) hx hb hts iX11_sign_X11 tyX11 tyX11_ok nmX11 hown hE hP hS 0 mbo_0 rfl 0 (by decide) qX11_sign_117 rfl rfl rfl rfl (Nat.le_of_ble_eq_true rfl) dX11_sign_2 (mbp_0_0 _) (fun σ1 eσ1 H locs hP hS => ?_)
  replace hf := nLet_e hf eσ1
  refine lv_iload_n hx hb dX11_sign_5 rfl (lv_at hl 1 rfl) ?_
  refine lv_if_lt (tgt := 17) hx hb dX11_sign_6 (by decide) (fun hc => ?_) (fun hc => ?_)
  · replace hf := nIf_t hc hf
    refine lv_aload_n hx hb dX11_sign_17 rfl (lv_at hl 0 rfl) ?_
    refine lv_iconst (v := 1) hx hb dX11_sign_18 (by decide) ?_
    obtain ⟨r2, σ3, hc3, hf⟩ := nBd_e hf
    refine nb_callVi (As := [.int 1]) (rest := []) ⟨hx, hb, hml, hown, hts⟩ (c_X11_refused (D := D) (A := A) (cy := cy) (a := a) (kt := kt) (vt := vt) (l := l)  hc3) (cwV 1 hts gX11_sign_X11_refused rfl rfl rfl (by decide +kernel) ⟨Nat.le_of_ble_eq_true rfl, Nat.le_of_ble_eq_true rfl⟩) hE hP hS mbo_0 rfl rfl hl.1 rfl (Nat.le_of_ble_eq_true rfl) dX11_sign_19 (fun H locs hP hS => ?_)
    exact nb_iret hx hb hr hlocks hP hS (nSo hf) dX11_sign_22
  · replace hf := nIf_f hc hf
    refine lv_iload_n hx hb dX11_sign_9 rfl (lv_at hl 1 rfl) ?_
    refine lv_aload_n hx hb dX11_sign_10 rfl (lv_at hl 0 rfl) ?_
    refine nb_get (ci := 11) hx hb hts iX11_sign_X11 hown hE hP 0 mbo_0 rfl 4 (by decide) qX11_sign_123 rfl rfl dX11_sign_11 ?_
    refine lv_icmp_lt (tgt := 23) hx hb dX11_sign_14 (by decide) (fun hc => ?_) (fun hc => ?_)
    · replace hf := nIf_t hc hf
      refine lv_aload_n hx hb dX11_sign_23 rfl (lv_at hl 0 rfl) ?_
      refine nb_get (ci := 11) hx hb hts iX11_sign_X11 hown hE hP 0 mbo_0 rfl 5 (by decide) qX11_sign_133 rfl rfl dX11_sign_24 ?_
      refine lv_bipush (v := 8) hx hb dX11_sign_27 (by decide) ?_
      refine lv_icmp_ne (tgt := 38) hx hb dX11_sign_29 (by decide) (fun hc => ?_) (fun hc => ?_)
      · replace hf := nIf_f hc hf
        refine lv_aload_n hx hb dX11_sign_38 rfl (lv_at hl 0 rfl) ?_
        refine nb_get (ci := 11) hx hb hts iX11_sign_X11 hown hE hP 0 mbo_0 rfl 9 (by decide) qX11_sign_16 rfl rfl dX11_sign_39 ?_
        refine lv_aload_n hx hb dX11_sign_42 rfl (lv_at hl 0 rfl) ?_
        refine nb_get (ci := 11) hx hb hts iX11_sign_X11 hown hE hP 0 mbo_0 rfl 5 (by decide) qX11_sign_133 rfl rfl dX11_sign_43 ?_
        refine lv_iload_n hx hb dX11_sign_46 rfl (lv_at hl 1 rfl) ?_
        obtain ⟨hin, hf⟩ := nIx_e hf
        refine na_iast hx hb hE hP hS mbr_1 hin dX11_sign_47 (fun σ4 eσ4 H locs hP hS => ?_)
        replace hf := nLet_e hf eσ4
        refine lv_aload_n hx hb dX11_sign_48 rfl (lv_at hl 0 rfl) ?_
        refine lv_dup hx hb dX11_sign_49 rfl ?_
        refine nb_get (ci := 11) hx hb hts iX11_sign_X11 hown hE hP 0 mbo_0 rfl 5 (by decide) qX11_sign_133 rfl rfl dX11_sign_50 ?_
        refine lv_iconst (v := 1) hx hb dX11_sign_53 (by decide) ?_
        refine lv_iadd hx hb dX11_sign_54 ?_
        refine lv_topi (fun v5 ev5 => ?_)
        replace hf := nLet_e hf ev5
        refine nb_put (ci := 11) hx hb hts iX11_sign_X11 tyX11 tyX11_ok nmX11 hown hE hP hS 0 mbo_0 rfl 5 (by decide) qX11_sign_133 rfl rfl rfl rfl (Nat.le_of_ble_eq_true rfl) dX11_sign_55 (mbp_0_5 _) (fun σ6 eσ6 H locs hP hS => ?_)
        replace hf := nLet_e hf eσ6
        refine lv_aload_n hx hb dX11_sign_58 rfl (lv_at hl 0 rfl) ?_
        refine lv_aload_n hx hb dX11_sign_59 rfl (lv_at hl 0 rfl) ?_
        refine nb_get (ci := 11) hx hb hts iX11_sign_X11 hown hE hP 0 mbo_0 rfl 5 (by decide) qX11_sign_133 rfl rfl dX11_sign_60 ?_
        refine lv_iconst (v := 1) hx hb dX11_sign_63 (by decide) ?_
        refine lv_isub hx hb dX11_sign_64 ?_
        refine lv_topi (fun v7 ev7 => ?_)
        replace hf := nLet_e hf ev7
        obtain ⟨r8, σ9, hc9, hf⟩ := nBd_e hf
        refine nb_callVi (As := [.int v7]) (rest := []) ⟨hx, hb, hml, hown, hts⟩ (c_X11_done (D := D) (A := A) (cy := cy) (a := a) (kt := kt) (vt := vt) (l := l)  hc9) (cwV 1 hts gX11_sign_X11_done rfl rfl rfl (by decide +kernel) ⟨Nat.le_of_ble_eq_true rfl, Nat.le_of_ble_eq_true rfl⟩) hE hP hS mbo_0 rfl rfl hl.1 rfl (Nat.le_of_ble_eq_true rfl) dX11_sign_65 (fun H locs hP hS => ?_)
        exact nb_iret hx hb hr hlocks hP hS (nSo hf) dX11_sign_68
      · replace hf := nIf_t hc hf
        refine lv_aload_n hx hb dX11_sign_32 rfl (lv_at hl 0 rfl) ?_
        refine lv_iconst (v := 3) hx hb dX11_sign_33 (by decide) ?_
        obtain ⟨r10, σ11, hc11, hf⟩ := nBd_e hf
        refine nb_callVi (As := [.int 3]) (rest := []) ⟨hx, hb, hml, hown, hts⟩ (c_X11_refused (D := D) (A := A) (cy := cy) (a := a) (kt := kt) (vt := vt) (l := l)  hc11) (cwV 1 hts gX11_sign_X11_refused rfl rfl rfl (by decide +kernel) ⟨Nat.le_of_ble_eq_true rfl, Nat.le_of_ble_eq_true rfl⟩) hE hP hS mbo_0 rfl rfl hl.1 rfl (Nat.le_of_ble_eq_true rfl) dX11_sign_34 (fun H locs hP hS => ?_)
        exact nb_iret hx hb hr hlocks hP hS (nSo hf) dX11_sign_37
    · replace hf := nIf_f hc hf
      refine lv_aload_n hx hb dX11_sign_17 rfl (lv_at hl 0 rfl) ?_
      refine lv_iconst (v := 1) hx hb dX11_sign_18 (by decide) ?_
      obtain ⟨r12, σ13, hc13, hf⟩ := nBd_e hf
      refine nb_callVi (As := [.int 1]) (rest := []) ⟨hx, hb, hml, hown, hts⟩ (c_X11_refused (D := D) (A := A) (cy := cy) (a := a) (kt := kt) (vt := vt) (l := l)  hc13) (cwV 1 hts gX11_sign_X11_refused rfl rfl rfl (by decide +kernel) ⟨Nat.le_of_ble_eq_true rfl, Nat.le_of_ble_eq_true rfl⟩) hE hP hS mbo_0 rfl rfl hl.1 rfl (Nat.le_of_ble_eq_true rfl) dX11_sign_19 (fun H locs hP hS => ?_)
      exact nb_iret hx hb hr hlocks hP hS (nSo hf) dX11_sign_22
def l_X11_sign_0 (N : Nat) : nS → Int32 → Option (Int32 × nS) := b_X11_sign_0 N
theorem kl_X11_sign_0 {p : Program} {l : Launch} {e : Env} {s : State} {m : MethodId} {args : Array Value} {below : List Frame} {meth : Method} {c : Code} {D : va_G} {A : Nat → Prop} {cy : Nat → ClassId} {a kt vt : Nat → Nat} {N : Nat}   (C0 : nCx p s m args meth c cX11_sign 2 (some .int) RX11 wsX11_sign) (hE : nEn D A cy (Mw cy a) kt vt s) {z : Int32 × nS} : ∀ (σ : nS) (x1 : Int32) (H : Heap) (locs : List Loc) (ls : Array Slot), lv_has ls 2 [(0, .ref (a 0)), (1, .int x1)] → va_P D vwCl ((Mw cy a) σ) H → va_S A s.heap H locs → l_X11_sign_0 N σ x1 = some z → W p l e ({ frames := 1, cells := 0, slots := 0, locals := 21 } : Room) s m args below meth c H locs 0 0 (nQi below D A (Mw cy a) args s z) (F0 m 0 ls []) := by
  exact kb_X11_sign_0 (N := N)  C0 hE
def f_X11_sign (N : Nat) (x1 : Int32) (σ : nS) : Option (Int32 × nS) := l_X11_sign_0 N σ x1
set_option maxHeartbeats 4000000 in
set_option maxRecDepth 100000 in
theorem c_X11_sign {l : Launch} {D : va_G} {A : Nat → Prop} {cy : Nat → ClassId} {a kt vt : Nat → Nat} {N : Nat}   {x1 : Int32} {σ : nS} {r : Int32} {σ' : nS} (hf : f_X11_sign N x1 σ = some (r, σ')) : nMi l yX11_sign wsX11_sign ({ frames := 1, cells := 0, slots := 0, locals := 21 } : Room) D A cy (Mw cy a) kt vt [.ref (a 0), .int x1] σ r σ' := by
  refine Met.ofW (cc := cX11_sign) (maxL := 2) (ret := (some .int)) (by decide) rfl ?_
  intro p e s m args below meth c s₁ B hml hv
  obtain ⟨rfl, hP, hE⟩ := hv
  have hl := lv_entry ([.ref (a 0), .int x1]) (n := 2) (Nat.le_of_ble_eq_true rfl)
  rw [lg_entry_eq]
  generalize (lg_sl ([.ref (a 0), .int x1]) ++ List.replicate (2 - (lg_sl ([.ref (a 0), .int x1])).length) Slot.unset).toArray = ls at hl ⊢
  have C0 : nCx p s m _ meth c cX11_sign 2 (some .int) RX11 wsX11_sign := ⟨B.exec, B.bytes, B.returns, hml, findClass_of_methodNamed B.named, atoms_spec (ws := wsX11_sign) B.pre, B.notSynchronized⟩
  exact kl_X11_sign_0 (N := N)  C0 hE (z := (r, σ')) σ x1 _ _ ls hl hP va_S.rf hf
/-! X11_person -/
set_option maxRecDepth 20000 in
theorem iX11_person_X11 : ∀ w ∈ u_ws RX11 TX11 68, w ∈ wsX11_person := fun _ h => List.mem_cons_of_mem _ (List.mem_append_right _ h)
set_option maxRecDepth 20000 in
theorem qX11_person_117 : Cond.fieldLink RX11 117 RX11 (TX11 0).2.1 (TX11 0).2.2.1 ∈ wsX11_person := by decide +kernel
set_option maxRecDepth 20000 in
theorem qX11_person_140 : Cond.fieldLink RX11 140 RX11 (TX11 6).2.1 (TX11 6).2.2.1 ∈ wsX11_person := by decide +kernel
set_option maxRecDepth 20000 in
theorem qX11_person_20 : Cond.fieldLink RX11 20 RX11 (TX11 10).2.1 (TX11 10).2.2.1 ∈ wsX11_person := by decide +kernel
def b_X11_person_0 (N : Nat) (σ : nS) (x1 : Int32) : Option (Int32 × nS) := nLet (wr σ 0 0 0) (fun σ1 => nBd (f_X11_in N x1 0 255 σ1) (fun r2 σ3 => (if r2 = 0 then nBd (f_X11_refused N 2 σ3) (fun r12 σ13 => some (r12, σ13)) else (if (σ3.1 0 6) = 4 then nBd (f_X11_refused N 3 σ3) (fun r10 σ11 => some (r10, σ11)) else nIx (σ3.1 0 6) 4 (nLet (wr σ3 2 ((σ3.1 0 6)).toNatClampNeg x1) (fun σ4 => nLet ((σ4.1 0 6) + (1 : Int32) : Int32) (fun v5 => nLet (wr σ4 0 6 v5) (fun σ6 => nLet ((σ6.1 0 6) - (1 : Int32) : Int32) (fun v7 => nBd (f_X11_done N v7 σ6) (fun r8 σ9 => some (r8, σ9)))))))))))
set_option maxHeartbeats 4000000 in
set_option maxRecDepth 100000 in
theorem kb_X11_person_0 {p : Program} {l : Launch} {e : Env} {s : State} {m : MethodId} {args : Array Value} {below : List Frame} {meth : Method} {c : Code} {D : va_G} {A : Nat → Prop} {cy : Nat → ClassId} {a kt vt : Nat → Nat} {N : Nat}   (C0 : nCx p s m args meth c cX11_person 2 (some .int) RX11 wsX11_person) (hE : nEn D A cy (Mw cy a) kt vt s) {z : Int32 × nS} : ∀ (σ : nS) (x1 : Int32) (H : Heap) (locs : List Loc) (ls : Array Slot), lv_has ls 2 [(0, .ref (a 0)), (1, .int x1)] → va_P D vwCl ((Mw cy a) σ) H → va_S A s.heap H locs → b_X11_person_0 N σ x1 = some z → W p l e ({ frames := 1, cells := 0, slots := 0, locals := 22 } : Room) s m args below meth c H locs 0 0 (nQi below D A (Mw cy a) args s z) (F0 m 0 ls []) := by
  obtain ⟨hx, hb, hr, hml, hown, hts, hlocks⟩ := C0
  intro σ x1 H locs ls hl hP hS hf
  unfold b_X11_person_0 at hf
  refine lv_aload_n hx hb dX11_person_0 rfl (lv_at hl 0 rfl) ?_
  refine lv_iconst (v := 0) hx hb dX11_person_1 (by decide) ?_
  refine nb_put (ci := 11) hx hb hts iX11_person_X11 tyX11 tyX11_ok nmX11 hown hE hP hS 0 mbo_0 rfl 0 (by decide) qX11_person_117 rfl rfl rfl rfl (Nat.le_of_ble_eq_true rfl) dX11_person_2 (mbp_0_0 _) (fun σ1 eσ1 H locs hP hS => ?_)
  replace hf := nLet_e hf eσ1
  refine lv_iload_n hx hb dX11_person_5 rfl (lv_at hl 1 rfl) ?_
  refine lv_iconst (v := 0) hx hb dX11_person_6 (by decide) ?_
  refine lv_sipush (v := 255) hx hb dX11_person_7 (by decide) ?_
  obtain ⟨r2, σ3, hc3, hf⟩ := nBd_e hf
  refine nb_callSi (As := [.int x1, .int 0, .int 255]) (rest := []) ⟨hx, hb, hml, hown, hts⟩ (c_X11_in (D := D) (A := A) (cy := cy) (a := a) (kt := kt) (vt := vt) (l := l)  hc3) (va_cwS 3 hts gX11_person_X11_in rfl rfl rfl (by decide +kernel) ⟨Nat.le_of_ble_eq_true rfl, Nat.le_of_ble_eq_true rfl⟩) hE hP hS rfl hl.1 rfl (Nat.le_of_ble_eq_true rfl) dX11_person_10 (fun H locs hP hS => ?_)
  refine lv_if_ne (tgt := 22) hx hb dX11_person_13 (by decide) (fun hc => ?_) (fun hc => ?_)
  · replace hf := nIf_f hc hf
    refine lv_aload_n hx hb dX11_person_22 rfl (lv_at hl 0 rfl) ?_
    refine nb_get (ci := 11) hx hb hts iX11_person_X11 hown hE hP 0 mbo_0 rfl 6 (by decide) qX11_person_140 rfl rfl dX11_person_23 ?_
    refine lv_iconst (v := 4) hx hb dX11_person_26 (by decide) ?_
    refine lv_icmp_ne (tgt := 36) hx hb dX11_person_27 (by decide) (fun hc => ?_) (fun hc => ?_)
    · replace hf := nIf_f hc hf
      refine lv_aload_n hx hb dX11_person_36 rfl (lv_at hl 0 rfl) ?_
      refine nb_get (ci := 11) hx hb hts iX11_person_X11 hown hE hP 0 mbo_0 rfl 10 (by decide) qX11_person_20 rfl rfl dX11_person_37 ?_
      refine lv_aload_n hx hb dX11_person_40 rfl (lv_at hl 0 rfl) ?_
      refine nb_get (ci := 11) hx hb hts iX11_person_X11 hown hE hP 0 mbo_0 rfl 6 (by decide) qX11_person_140 rfl rfl dX11_person_41 ?_
      refine lv_iload_n hx hb dX11_person_44 rfl (lv_at hl 1 rfl) ?_
      obtain ⟨hin, hf⟩ := nIx_e hf
      refine na_iast hx hb hE hP hS mbr_2 hin dX11_person_45 (fun σ4 eσ4 H locs hP hS => ?_)
      replace hf := nLet_e hf eσ4
      refine lv_aload_n hx hb dX11_person_46 rfl (lv_at hl 0 rfl) ?_
      refine lv_dup hx hb dX11_person_47 rfl ?_
      refine nb_get (ci := 11) hx hb hts iX11_person_X11 hown hE hP 0 mbo_0 rfl 6 (by decide) qX11_person_140 rfl rfl dX11_person_48 ?_
      refine lv_iconst (v := 1) hx hb dX11_person_51 (by decide) ?_
      refine lv_iadd hx hb dX11_person_52 ?_
      refine lv_topi (fun v5 ev5 => ?_)
      replace hf := nLet_e hf ev5
      refine nb_put (ci := 11) hx hb hts iX11_person_X11 tyX11 tyX11_ok nmX11 hown hE hP hS 0 mbo_0 rfl 6 (by decide) qX11_person_140 rfl rfl rfl rfl (Nat.le_of_ble_eq_true rfl) dX11_person_53 (mbp_0_6 _) (fun σ6 eσ6 H locs hP hS => ?_)
      replace hf := nLet_e hf eσ6
      refine lv_aload_n hx hb dX11_person_56 rfl (lv_at hl 0 rfl) ?_
      refine lv_aload_n hx hb dX11_person_57 rfl (lv_at hl 0 rfl) ?_
      refine nb_get (ci := 11) hx hb hts iX11_person_X11 hown hE hP 0 mbo_0 rfl 6 (by decide) qX11_person_140 rfl rfl dX11_person_58 ?_
      refine lv_iconst (v := 1) hx hb dX11_person_61 (by decide) ?_
      refine lv_isub hx hb dX11_person_62 ?_
      refine lv_topi (fun v7 ev7 => ?_)
      replace hf := nLet_e hf ev7
      obtain ⟨r8, σ9, hc9, hf⟩ := nBd_e hf
      refine nb_callVi (As := [.int v7]) (rest := []) ⟨hx, hb, hml, hown, hts⟩ (c_X11_done (D := D) (A := A) (cy := cy) (a := a) (kt := kt) (vt := vt) (l := l)  hc9) (cwV 1 hts gX11_person_X11_done rfl rfl rfl (by decide +kernel) ⟨Nat.le_of_ble_eq_true rfl, Nat.le_of_ble_eq_true rfl⟩) hE hP hS mbo_0 rfl rfl hl.1 rfl (Nat.le_of_ble_eq_true rfl) dX11_person_63 (fun H locs hP hS => ?_)
      exact nb_iret hx hb hr hlocks hP hS (nSo hf) dX11_person_66
    · replace hf := nIf_t hc hf
      refine lv_aload_n hx hb dX11_person_30 rfl (lv_at hl 0 rfl) ?_
      refine lv_iconst (v := 3) hx hb dX11_person_31 (by decide) ?_
      obtain ⟨r10, σ11, hc11, hf⟩ := nBd_e hf
      refine nb_callVi (As := [.int 3]) (rest := []) ⟨hx, hb, hml, hown, hts⟩ (c_X11_refused (D := D) (A := A) (cy := cy) (a := a) (kt := kt) (vt := vt) (l := l)  hc11) (cwV 1 hts gX11_person_X11_refused rfl rfl rfl (by decide +kernel) ⟨Nat.le_of_ble_eq_true rfl, Nat.le_of_ble_eq_true rfl⟩) hE hP hS mbo_0 rfl rfl hl.1 rfl (Nat.le_of_ble_eq_true rfl) dX11_person_32 (fun H locs hP hS => ?_)
      exact nb_iret hx hb hr hlocks hP hS (nSo hf) dX11_person_35
  · replace hf := nIf_t hc hf
    refine lv_aload_n hx hb dX11_person_16 rfl (lv_at hl 0 rfl) ?_
    refine lv_iconst (v := 2) hx hb dX11_person_17 (by decide) ?_
    obtain ⟨r12, σ13, hc13, hf⟩ := nBd_e hf
    refine nb_callVi (As := [.int 2]) (rest := []) ⟨hx, hb, hml, hown, hts⟩ (c_X11_refused (D := D) (A := A) (cy := cy) (a := a) (kt := kt) (vt := vt) (l := l)  hc13) (cwV 1 hts gX11_person_X11_refused rfl rfl rfl (by decide +kernel) ⟨Nat.le_of_ble_eq_true rfl, Nat.le_of_ble_eq_true rfl⟩) hE hP hS mbo_0 rfl rfl hl.1 rfl (Nat.le_of_ble_eq_true rfl) dX11_person_18 (fun H locs hP hS => ?_)
    exact nb_iret hx hb hr hlocks hP hS (nSo hf) dX11_person_21
def l_X11_person_0 (N : Nat) : nS → Int32 → Option (Int32 × nS) := b_X11_person_0 N
theorem kl_X11_person_0 {p : Program} {l : Launch} {e : Env} {s : State} {m : MethodId} {args : Array Value} {below : List Frame} {meth : Method} {c : Code} {D : va_G} {A : Nat → Prop} {cy : Nat → ClassId} {a kt vt : Nat → Nat} {N : Nat}   (C0 : nCx p s m args meth c cX11_person 2 (some .int) RX11 wsX11_person) (hE : nEn D A cy (Mw cy a) kt vt s) {z : Int32 × nS} : ∀ (σ : nS) (x1 : Int32) (H : Heap) (locs : List Loc) (ls : Array Slot), lv_has ls 2 [(0, .ref (a 0)), (1, .int x1)] → va_P D vwCl ((Mw cy a) σ) H → va_S A s.heap H locs → l_X11_person_0 N σ x1 = some z → W p l e ({ frames := 1, cells := 0, slots := 0, locals := 22 } : Room) s m args below meth c H locs 0 0 (nQi below D A (Mw cy a) args s z) (F0 m 0 ls []) := by
  exact kb_X11_person_0 (N := N)  C0 hE
def f_X11_person (N : Nat) (x1 : Int32) (σ : nS) : Option (Int32 × nS) := l_X11_person_0 N σ x1
set_option maxHeartbeats 4000000 in
set_option maxRecDepth 100000 in
theorem c_X11_person {l : Launch} {D : va_G} {A : Nat → Prop} {cy : Nat → ClassId} {a kt vt : Nat → Nat} {N : Nat}   {x1 : Int32} {σ : nS} {r : Int32} {σ' : nS} (hf : f_X11_person N x1 σ = some (r, σ')) : nMi l yX11_person wsX11_person ({ frames := 1, cells := 0, slots := 0, locals := 22 } : Room) D A cy (Mw cy a) kt vt [.ref (a 0), .int x1] σ r σ' := by
  refine Met.ofW (cc := cX11_person) (maxL := 2) (ret := (some .int)) (by decide) rfl ?_
  intro p e s m args below meth c s₁ B hml hv
  obtain ⟨rfl, hP, hE⟩ := hv
  have hl := lv_entry ([.ref (a 0), .int x1]) (n := 2) (Nat.le_of_ble_eq_true rfl)
  rw [lg_entry_eq]
  generalize (lg_sl ([.ref (a 0), .int x1]) ++ List.replicate (2 - (lg_sl ([.ref (a 0), .int x1])).length) Slot.unset).toArray = ls at hl ⊢
  have C0 : nCx p s m _ meth c cX11_person 2 (some .int) RX11 wsX11_person := ⟨B.exec, B.bytes, B.returns, hml, findClass_of_methodNamed B.named, atoms_spec (ws := wsX11_person) B.pre, B.notSynchronized⟩
  exact kl_X11_person_0 (N := N)  C0 hE (z := (r, σ')) σ x1 _ _ ls hl hP va_S.rf hf
/-! X11_goal -/
set_option maxRecDepth 20000 in
theorem iX11_goal_X11 : ∀ w ∈ u_ws RX11 TX11 68, w ∈ wsX11_goal := fun _ h => List.mem_cons_of_mem _ (List.mem_append_right _ h)
set_option maxRecDepth 20000 in
theorem qX11_goal_117 : Cond.fieldLink RX11 117 RX11 (TX11 0).2.1 (TX11 0).2.2.1 ∈ wsX11_goal := by decide +kernel
set_option maxRecDepth 20000 in
theorem qX11_goal_120 : Cond.fieldLink RX11 120 RX11 (TX11 1).2.1 (TX11 1).2.2.1 ∈ wsX11_goal := by decide +kernel
set_option maxRecDepth 20000 in
theorem qX11_goal_9 : Cond.fieldLink RX11 9 RX11 (TX11 2).2.1 (TX11 2).2.2.1 ∈ wsX11_goal := by decide +kernel
set_option maxRecDepth 20000 in
theorem qX11_goal_13 : Cond.fieldLink RX11 13 RX11 (TX11 8).2.1 (TX11 8).2.2.1 ∈ wsX11_goal := by decide +kernel
def b_X11_goal_22 (N : Nat) (σ : nS) (x1 : Int32) (y1 : Int32) : Option (Int32 × nS) := nLet (wr σ 0 1 y1) (fun σ1 => nLet (wr σ1 0 2 (-1)) (fun σ2 => (if (σ2.1 0 1) = 0 then nLet (wr σ2 0 8 x1) (fun σ3 => (if (σ3.1 0 1) = 0 then some (1, σ3) else some (0, σ3))) else (if (σ2.1 0 1) = 0 then some (1, σ2) else some (0, σ2)))))
set_option maxHeartbeats 4000000 in
set_option maxRecDepth 100000 in
theorem kb_X11_goal_22 {p : Program} {l : Launch} {e : Env} {s : State} {m : MethodId} {args : Array Value} {below : List Frame} {meth : Method} {c : Code} {D : va_G} {A : Nat → Prop} {cy : Nat → ClassId} {a kt vt : Nat → Nat} {N : Nat}   (C0 : nCx p s m args meth c cX11_goal 2 (some .boolean) RX11 wsX11_goal) (hE : nEn D A cy (Mw cy a) kt vt s) {z : Int32 × nS} : ∀ (σ : nS) (x1 : Int32) (y1 : Int32) (H : Heap) (locs : List Loc) (ls : Array Slot), lv_has ls 2 [(0, .ref (a 0)), (1, .int x1)] → va_P D vwCl ((Mw cy a) σ) H → va_S A s.heap H locs → b_X11_goal_22 N σ x1 y1 = some z → W p l e ({ frames := 1, cells := 0, slots := 0, locals := 22 } : Room) s m args below meth c H locs 0 0 (nQi below D A (Mw cy a) args s z) (F0 m 22 ls [.int y1, .ref (a 0)]) := by
  obtain ⟨hx, hb, hr, hml, hown, hts, hlocks⟩ := C0
  intro σ x1 y1 H locs ls hl hP hS hf
  unfold b_X11_goal_22 at hf
  refine nb_put (ci := 11) hx hb hts iX11_goal_X11 tyX11 tyX11_ok nmX11 hown hE hP hS 0 mbo_0 rfl 1 (by decide) qX11_goal_120 rfl rfl rfl rfl (Nat.le_of_ble_eq_true rfl) dX11_goal_22 (mbp_0_1 _) (fun σ1 eσ1 H locs hP hS => ?_)
  replace hf := nLet_e hf eσ1
  refine lv_aload_n hx hb dX11_goal_25 rfl (lv_at hl 0 rfl) ?_
  refine lv_iconst (v := (-1)) hx hb dX11_goal_26 (by decide) ?_
  refine nb_put (ci := 11) hx hb hts iX11_goal_X11 tyX11 tyX11_ok nmX11 hown hE hP hS 0 mbo_0 rfl 2 (by decide) qX11_goal_9 rfl rfl rfl rfl (Nat.le_of_ble_eq_true rfl) dX11_goal_27 (mbp_0_2 _) (fun σ2 eσ2 H locs hP hS => ?_)
  replace hf := nLet_e hf eσ2
  refine lv_aload_n hx hb dX11_goal_30 rfl (lv_at hl 0 rfl) ?_
  refine nb_get (ci := 11) hx hb hts iX11_goal_X11 hown hE hP 0 mbo_0 rfl 1 (by decide) qX11_goal_120 rfl rfl dX11_goal_31 ?_
  refine lv_if_ne (tgt := 42) hx hb dX11_goal_34 (by decide) (fun hc => ?_) (fun hc => ?_)
  · replace hf := nIf_f hc hf
    refine lv_aload_n hx hb dX11_goal_42 rfl (lv_at hl 0 rfl) ?_
    refine nb_get (ci := 11) hx hb hts iX11_goal_X11 hown hE hP 0 mbo_0 rfl 1 (by decide) qX11_goal_120 rfl rfl dX11_goal_43 ?_
    refine lv_if_ne (tgt := 53) hx hb dX11_goal_46 (by decide) (fun hc => ?_) (fun hc => ?_)
    · replace hf := nIf_f hc hf
      refine lv_iconst (v := 0) hx hb dX11_goal_53 (by decide) ?_
      exact nb_zret hx hb hr hlocks hP hS (nSo hf) rfl dX11_goal_54
    · replace hf := nIf_t hc hf
      refine lv_iconst (v := 1) hx hb dX11_goal_49 (by decide) ?_
      refine lv_goto (tgt := 54) hx hb dX11_goal_50 (by decide) ?_
      exact nb_zret hx hb hr hlocks hP hS (nSo hf) rfl dX11_goal_54
  · replace hf := nIf_t hc hf
    refine lv_aload_n hx hb dX11_goal_37 rfl (lv_at hl 0 rfl) ?_
    refine lv_iload_n hx hb dX11_goal_38 rfl (lv_at hl 1 rfl) ?_
    refine nb_put (ci := 11) hx hb hts iX11_goal_X11 tyX11 tyX11_ok nmX11 hown hE hP hS 0 mbo_0 rfl 8 (by decide) qX11_goal_13 rfl rfl rfl rfl (Nat.le_of_ble_eq_true rfl) dX11_goal_39 (mbp_0_8 _) (fun σ3 eσ3 H locs hP hS => ?_)
    replace hf := nLet_e hf eσ3
    refine lv_aload_n hx hb dX11_goal_42 rfl (lv_at hl 0 rfl) ?_
    refine nb_get (ci := 11) hx hb hts iX11_goal_X11 hown hE hP 0 mbo_0 rfl 1 (by decide) qX11_goal_120 rfl rfl dX11_goal_43 ?_
    refine lv_if_ne (tgt := 53) hx hb dX11_goal_46 (by decide) (fun hc => ?_) (fun hc => ?_)
    · replace hf := nIf_f hc hf
      refine lv_iconst (v := 0) hx hb dX11_goal_53 (by decide) ?_
      exact nb_zret hx hb hr hlocks hP hS (nSo hf) rfl dX11_goal_54
    · replace hf := nIf_t hc hf
      refine lv_iconst (v := 1) hx hb dX11_goal_49 (by decide) ?_
      refine lv_goto (tgt := 54) hx hb dX11_goal_50 (by decide) ?_
      exact nb_zret hx hb hr hlocks hP hS (nSo hf) rfl dX11_goal_54
def b_X11_goal_0 (N : Nat) (k22 : nS → Int32 → Int32 → Option (Int32 × nS)) (σ : nS) (x1 : Int32) : Option (Int32 × nS) := nLet (wr σ 0 0 0) (fun σ1 => nBd (f_X11_in N x1 0 255 σ1) (fun r2 σ3 => (if r2 = 0 then k22 σ3 x1 2 else k22 σ3 x1 0)))
set_option maxHeartbeats 4000000 in
set_option maxRecDepth 100000 in
theorem kb_X11_goal_0 {p : Program} {l : Launch} {e : Env} {s : State} {m : MethodId} {args : Array Value} {below : List Frame} {meth : Method} {c : Code} {D : va_G} {A : Nat → Prop} {cy : Nat → ClassId} {a kt vt : Nat → Nat} {N : Nat}   (C0 : nCx p s m args meth c cX11_goal 2 (some .boolean) RX11 wsX11_goal) (hE : nEn D A cy (Mw cy a) kt vt s) {z : Int32 × nS} {k22 : nS → Int32 → Int32 → Option (Int32 × nS)} (K22 : ∀ (σ : nS) (x1 : Int32) (y1 : Int32) (H : Heap) (locs : List Loc) (ls : Array Slot), lv_has ls 2 [(0, .ref (a 0)), (1, .int x1)] → va_P D vwCl ((Mw cy a) σ) H → va_S A s.heap H locs → k22 σ x1 y1 = some z → W p l e ({ frames := 1, cells := 0, slots := 0, locals := 22 } : Room) s m args below meth c H locs 0 0 (nQi below D A (Mw cy a) args s z) (F0 m 22 ls [.int y1, .ref (a 0)])) : ∀ (σ : nS) (x1 : Int32) (H : Heap) (locs : List Loc) (ls : Array Slot), lv_has ls 2 [(0, .ref (a 0)), (1, .int x1)] → va_P D vwCl ((Mw cy a) σ) H → va_S A s.heap H locs → b_X11_goal_0 N k22 σ x1 = some z → W p l e ({ frames := 1, cells := 0, slots := 0, locals := 22 } : Room) s m args below meth c H locs 0 0 (nQi below D A (Mw cy a) args s z) (F0 m 0 ls []) := by
  obtain ⟨hx, hb, hr, hml, hown, hts, hlocks⟩ := C0
  intro σ x1 H locs ls hl hP hS hf
  unfold b_X11_goal_0 at hf
  refine lv_aload_n hx hb dX11_goal_0 rfl (lv_at hl 0 rfl) ?_
  refine lv_iconst (v := 0) hx hb dX11_goal_1 (by decide) ?_
  refine nb_put (ci := 11) hx hb hts iX11_goal_X11 tyX11 tyX11_ok nmX11 hown hE hP hS 0 mbo_0 rfl 0 (by decide) qX11_goal_117 rfl rfl rfl rfl (Nat.le_of_ble_eq_true rfl) dX11_goal_2 (mbp_0_0 _) (fun σ1 eσ1 H locs hP hS => ?_)
  replace hf := nLet_e hf eσ1
  refine lv_aload_n hx hb dX11_goal_5 rfl (lv_at hl 0 rfl) ?_
  refine lv_iload_n hx hb dX11_goal_6 rfl (lv_at hl 1 rfl) ?_
  refine lv_iconst (v := 0) hx hb dX11_goal_7 (by decide) ?_
  refine lv_sipush (v := 255) hx hb dX11_goal_8 (by decide) ?_
  obtain ⟨r2, σ3, hc3, hf⟩ := nBd_e hf
  refine nb_callSi (As := [.int x1, .int 0, .int 255]) (rest := [.ref (a 0)]) ⟨hx, hb, hml, hown, hts⟩ (c_X11_in (D := D) (A := A) (cy := cy) (a := a) (kt := kt) (vt := vt) (l := l)  hc3) (va_cwS 3 hts gX11_goal_X11_in rfl rfl rfl (by decide +kernel) ⟨Nat.le_of_ble_eq_true rfl, Nat.le_of_ble_eq_true rfl⟩) hE hP hS rfl hl.1 rfl (Nat.le_of_ble_eq_true rfl) dX11_goal_11 (fun H locs hP hS => ?_)
  refine lv_if_eq (tgt := 21) hx hb dX11_goal_14 (by decide) (fun hc => ?_) (fun hc => ?_)
  · replace hf := nIf_t hc hf
    refine lv_iconst (v := 2) hx hb dX11_goal_21 (by decide) ?_
    exact K22 σ3 x1 2 H locs ls (lv_sub hl [0, 1] rfl) hP hS hf
  · replace hf := nIf_f hc hf
    refine lv_iconst (v := 0) hx hb dX11_goal_17 (by decide) ?_
    refine lv_goto (tgt := 22) hx hb dX11_goal_18 (by decide) ?_
    exact K22 σ3 x1 0 H locs ls (lv_sub hl [0, 1] rfl) hP hS hf
def l_X11_goal_22 (N : Nat) : nS → Int32 → Int32 → Option (Int32 × nS) := b_X11_goal_22 N
theorem kl_X11_goal_22 {p : Program} {l : Launch} {e : Env} {s : State} {m : MethodId} {args : Array Value} {below : List Frame} {meth : Method} {c : Code} {D : va_G} {A : Nat → Prop} {cy : Nat → ClassId} {a kt vt : Nat → Nat} {N : Nat}   (C0 : nCx p s m args meth c cX11_goal 2 (some .boolean) RX11 wsX11_goal) (hE : nEn D A cy (Mw cy a) kt vt s) {z : Int32 × nS} : ∀ (σ : nS) (x1 : Int32) (y1 : Int32) (H : Heap) (locs : List Loc) (ls : Array Slot), lv_has ls 2 [(0, .ref (a 0)), (1, .int x1)] → va_P D vwCl ((Mw cy a) σ) H → va_S A s.heap H locs → l_X11_goal_22 N σ x1 y1 = some z → W p l e ({ frames := 1, cells := 0, slots := 0, locals := 22 } : Room) s m args below meth c H locs 0 0 (nQi below D A (Mw cy a) args s z) (F0 m 22 ls [.int y1, .ref (a 0)]) := by
  exact kb_X11_goal_22 (N := N)  C0 hE
def l_X11_goal_0 (N : Nat) : nS → Int32 → Option (Int32 × nS) := b_X11_goal_0 N (l_X11_goal_22 N)
theorem kl_X11_goal_0 {p : Program} {l : Launch} {e : Env} {s : State} {m : MethodId} {args : Array Value} {below : List Frame} {meth : Method} {c : Code} {D : va_G} {A : Nat → Prop} {cy : Nat → ClassId} {a kt vt : Nat → Nat} {N : Nat}   (C0 : nCx p s m args meth c cX11_goal 2 (some .boolean) RX11 wsX11_goal) (hE : nEn D A cy (Mw cy a) kt vt s) {z : Int32 × nS} : ∀ (σ : nS) (x1 : Int32) (H : Heap) (locs : List Loc) (ls : Array Slot), lv_has ls 2 [(0, .ref (a 0)), (1, .int x1)] → va_P D vwCl ((Mw cy a) σ) H → va_S A s.heap H locs → l_X11_goal_0 N σ x1 = some z → W p l e ({ frames := 1, cells := 0, slots := 0, locals := 22 } : Room) s m args below meth c H locs 0 0 (nQi below D A (Mw cy a) args s z) (F0 m 0 ls []) := by
  exact kb_X11_goal_0 (N := N)  C0 hE (kl_X11_goal_22 (N := N)  C0 hE)
def f_X11_goal (N : Nat) (x1 : Int32) (σ : nS) : Option (Int32 × nS) := l_X11_goal_0 N σ x1
set_option maxHeartbeats 4000000 in
set_option maxRecDepth 100000 in
theorem c_X11_goal {l : Launch} {D : va_G} {A : Nat → Prop} {cy : Nat → ClassId} {a kt vt : Nat → Nat} {N : Nat}   {x1 : Int32} {σ : nS} {r : Int32} {σ' : nS} (hf : f_X11_goal N x1 σ = some (r, σ')) : nMi l yX11_goal wsX11_goal ({ frames := 1, cells := 0, slots := 0, locals := 22 } : Room) D A cy (Mw cy a) kt vt [.ref (a 0), .int x1] σ r σ' := by
  refine Met.ofW (cc := cX11_goal) (maxL := 2) (ret := (some .boolean)) (by decide) rfl ?_
  intro p e s m args below meth c s₁ B hml hv
  obtain ⟨rfl, hP, hE⟩ := hv
  have hl := lv_entry ([.ref (a 0), .int x1]) (n := 2) (Nat.le_of_ble_eq_true rfl)
  rw [lg_entry_eq]
  generalize (lg_sl ([.ref (a 0), .int x1]) ++ List.replicate (2 - (lg_sl ([.ref (a 0), .int x1])).length) Slot.unset).toArray = ls at hl ⊢
  have C0 : nCx p s m _ meth c cX11_goal 2 (some .boolean) RX11 wsX11_goal := ⟨B.exec, B.bytes, B.returns, hml, findClass_of_methodNamed B.named, atoms_spec (ws := wsX11_goal) B.pre, B.notSynchronized⟩
  exact kl_X11_goal_0 (N := N)  C0 hE (z := (r, σ')) σ x1 _ _ ls hl hP va_S.rf hf
/-! X11_allFacts -/
set_option maxRecDepth 20000 in
theorem iX11_allFacts_X11 : ∀ w ∈ u_ws RX11 TX11 68, w ∈ wsX11_allFacts := fun _ h => List.mem_cons_of_mem _ (List.mem_append_right _ h)
set_option maxRecDepth 20000 in
theorem qX11_allFacts_123 : Cond.fieldLink RX11 123 RX11 (TX11 4).2.1 (TX11 4).2.2.1 ∈ wsX11_allFacts := by decide +kernel
def b_X11_allFacts_0 (N : Nat) (σ : nS) : Option (Int32 × nS) := nLet ((1 : Int32) <<< ((σ.1 0 4) &&& 31) : Int32) (fun v1 => nLet (v1 - (1 : Int32) : Int32) (fun v2 => some (v2, σ)))
set_option maxHeartbeats 4000000 in
set_option maxRecDepth 100000 in
theorem kb_X11_allFacts_0 {p : Program} {l : Launch} {e : Env} {s : State} {m : MethodId} {args : Array Value} {below : List Frame} {meth : Method} {c : Code} {D : va_G} {A : Nat → Prop} {cy : Nat → ClassId} {a kt vt : Nat → Nat} {N : Nat}   (C0 : nCx p s m args meth c cX11_allFacts 1 (some .int) RX11 wsX11_allFacts) (hE : nEn D A cy (Mw cy a) kt vt s) {z : Int32 × nS} : ∀ (σ : nS) (H : Heap) (locs : List Loc) (ls : Array Slot), lv_has ls 1 [(0, .ref (a 0))] → va_P D vwCl ((Mw cy a) σ) H → va_S A s.heap H locs → b_X11_allFacts_0 N σ = some z → W p l e ({ frames := 0, cells := 0, slots := 0, locals := 0 } : Room) s m args below meth c H locs 0 0 (nQi below D A (Mw cy a) args s z) (F0 m 0 ls []) := by
  obtain ⟨hx, hb, hr, hml, hown, hts, hlocks⟩ := C0
  intro σ  H locs ls hl hP hS hf
  unfold b_X11_allFacts_0 at hf
  refine lv_iconst (v := 1) hx hb dX11_allFacts_0 (by decide) ?_
  refine lv_aload_n hx hb dX11_allFacts_1 rfl (lv_at hl 0 rfl) ?_
  refine nb_get (ci := 11) hx hb hts iX11_allFacts_X11 hown hE hP 0 mbo_0 rfl 4 (by decide) qX11_allFacts_123 rfl rfl dX11_allFacts_2 ?_
  refine lv_ishl hx hb dX11_allFacts_5 ?_
  refine lv_topi (fun v1 ev1 => ?_)
  replace hf := nLet_e hf ev1
  refine lv_iconst (v := 1) hx hb dX11_allFacts_6 (by decide) ?_
  refine lv_isub hx hb dX11_allFacts_7 ?_
  refine lv_topi (fun v2 ev2 => ?_)
  replace hf := nLet_e hf ev2
  exact nb_iret hx hb hr hlocks hP hS (nSo hf) dX11_allFacts_8
def l_X11_allFacts_0 (N : Nat) : nS → Option (Int32 × nS) := b_X11_allFacts_0 N
theorem kl_X11_allFacts_0 {p : Program} {l : Launch} {e : Env} {s : State} {m : MethodId} {args : Array Value} {below : List Frame} {meth : Method} {c : Code} {D : va_G} {A : Nat → Prop} {cy : Nat → ClassId} {a kt vt : Nat → Nat} {N : Nat}   (C0 : nCx p s m args meth c cX11_allFacts 1 (some .int) RX11 wsX11_allFacts) (hE : nEn D A cy (Mw cy a) kt vt s) {z : Int32 × nS} : ∀ (σ : nS) (H : Heap) (locs : List Loc) (ls : Array Slot), lv_has ls 1 [(0, .ref (a 0))] → va_P D vwCl ((Mw cy a) σ) H → va_S A s.heap H locs → l_X11_allFacts_0 N σ = some z → W p l e ({ frames := 0, cells := 0, slots := 0, locals := 0 } : Room) s m args below meth c H locs 0 0 (nQi below D A (Mw cy a) args s z) (F0 m 0 ls []) := by
  exact kb_X11_allFacts_0 (N := N)  C0 hE
def f_X11_allFacts (N : Nat) (σ : nS) : Option (Int32 × nS) := l_X11_allFacts_0 N σ
set_option maxHeartbeats 4000000 in
set_option maxRecDepth 100000 in
theorem c_X11_allFacts {l : Launch} {D : va_G} {A : Nat → Prop} {cy : Nat → ClassId} {a kt vt : Nat → Nat} {N : Nat}   {σ : nS} {r : Int32} {σ' : nS} (hf : f_X11_allFacts N σ = some (r, σ')) : nMi l yX11_allFacts wsX11_allFacts ({ frames := 0, cells := 0, slots := 0, locals := 0 } : Room) D A cy (Mw cy a) kt vt [.ref (a 0)] σ r σ' := by
  refine Met.ofW (cc := cX11_allFacts) (maxL := 1) (ret := (some .int)) (by decide) rfl ?_
  intro p e s m args below meth c s₁ B hml hv
  obtain ⟨rfl, hP, hE⟩ := hv
  have hl := lv_entry ([.ref (a 0)]) (n := 1) (Nat.le_of_ble_eq_true rfl)
  rw [lg_entry_eq]
  generalize (lg_sl ([.ref (a 0)]) ++ List.replicate (1 - (lg_sl ([.ref (a 0)])).length) Slot.unset).toArray = ls at hl ⊢
  have C0 : nCx p s m _ meth c cX11_allFacts 1 (some .int) RX11 wsX11_allFacts := ⟨B.exec, B.bytes, B.returns, hml, findClass_of_methodNamed B.named, atoms_spec (ws := wsX11_allFacts) B.pre, B.notSynchronized⟩
  exact kl_X11_allFacts_0 (N := N)  C0 hE (z := (r, σ')) σ  _ _ ls hl hP va_S.rf hf
/-! X11_byteAt -/
set_option maxRecDepth 20000 in
theorem iX11_byteAt_X11 : ∀ w ∈ u_ws RX11 TX11 68, w ∈ wsX11_byteAt := fun _ h => List.mem_cons_of_mem _ (List.mem_append_right _ h)
set_option maxRecDepth 20000 in
theorem qX11_byteAt_148 : Cond.fieldLink RX11 148 RX11 (TX11 20).2.1 (TX11 20).2.2.1 ∈ wsX11_byteAt := by decide +kernel
set_option maxRecDepth 20000 in
theorem qX11_byteAt_48 : Cond.fieldLink RX11 48 RX11 (TX11 18).2.1 (TX11 18).2.2.1 ∈ wsX11_byteAt := by decide +kernel
def b_X11_byteAt_0 (N : Nat) (σ : nS) (x1 : Int32) : Option (Int32 × nS) := (if (σ.1 0 20) ≤ x1 then some ((-1), σ) else nIx x1 600 (nLet (σ.1 10 (x1).toNatClampNeg) (fun v1 => nLet (v1 &&& (255 : Int32) : Int32) (fun v2 => some (v2, σ)))))
set_option maxHeartbeats 4000000 in
set_option maxRecDepth 100000 in
theorem kb_X11_byteAt_0 {p : Program} {l : Launch} {e : Env} {s : State} {m : MethodId} {args : Array Value} {below : List Frame} {meth : Method} {c : Code} {D : va_G} {A : Nat → Prop} {cy : Nat → ClassId} {a kt vt : Nat → Nat} {N : Nat}   (C0 : nCx p s m args meth c cX11_byteAt 2 (some .int) RX11 wsX11_byteAt) (hE : nEn D A cy (Mw cy a) kt vt s) {z : Int32 × nS} : ∀ (σ : nS) (x1 : Int32) (H : Heap) (locs : List Loc) (ls : Array Slot), lv_has ls 2 [(0, .ref (a 0)), (1, .int x1)] → va_P D vwCl ((Mw cy a) σ) H → va_S A s.heap H locs → b_X11_byteAt_0 N σ x1 = some z → W p l e ({ frames := 0, cells := 0, slots := 0, locals := 0 } : Room) s m args below meth c H locs 0 0 (nQi below D A (Mw cy a) args s z) (F0 m 0 ls []) := by
  obtain ⟨hx, hb, hr, hml, hown, hts, hlocks⟩ := C0
  intro σ x1 H locs ls hl hP hS hf
  unfold b_X11_byteAt_0 at hf
  refine lv_iload_n hx hb dX11_byteAt_0 rfl (lv_at hl 1 rfl) ?_
  refine lv_aload_n hx hb dX11_byteAt_1 rfl (lv_at hl 0 rfl) ?_
  refine nb_get (ci := 11) hx hb hts iX11_byteAt_X11 hown hE hP 0 mbo_0 rfl 20 (by decide) qX11_byteAt_148 rfl rfl dX11_byteAt_2 ?_
  refine lv_icmp_ge (tgt := 21) hx hb dX11_byteAt_5 (by decide) (fun hc => ?_) (fun hc => ?_)
  · replace hf := nIf_t hc hf
    refine lv_iconst (v := (-1)) hx hb dX11_byteAt_21 (by decide) ?_
    exact nb_iret hx hb hr hlocks hP hS (nSo hf) dX11_byteAt_22
  · replace hf := nIf_f hc hf
    refine lv_aload_n hx hb dX11_byteAt_8 rfl (lv_at hl 0 rfl) ?_
    refine nb_get (ci := 11) hx hb hts iX11_byteAt_X11 hown hE hP 0 mbo_0 rfl 18 (by decide) qX11_byteAt_48 rfl rfl dX11_byteAt_9 ?_
    refine lv_iload_n hx hb dX11_byteAt_12 rfl (lv_at hl 1 rfl) ?_
    obtain ⟨hin, hf⟩ := nIx_e hf
    refine na_bald hx hb hE hP mbr_10 hin dX11_byteAt_13 ?_
    refine lv_topi (fun v1 ev1 => ?_)
    replace hf := nLet_e hf ev1
    refine lv_sipush (v := 255) hx hb dX11_byteAt_14 (by decide) ?_
    refine lv_iand hx hb dX11_byteAt_17 ?_
    refine lv_topi (fun v2 ev2 => ?_)
    replace hf := nLet_e hf ev2
    refine lv_goto (tgt := 22) hx hb dX11_byteAt_18 (by decide) ?_
    exact nb_iret hx hb hr hlocks hP hS (nSo hf) dX11_byteAt_22
def l_X11_byteAt_0 (N : Nat) : nS → Int32 → Option (Int32 × nS) := b_X11_byteAt_0 N
theorem kl_X11_byteAt_0 {p : Program} {l : Launch} {e : Env} {s : State} {m : MethodId} {args : Array Value} {below : List Frame} {meth : Method} {c : Code} {D : va_G} {A : Nat → Prop} {cy : Nat → ClassId} {a kt vt : Nat → Nat} {N : Nat}   (C0 : nCx p s m args meth c cX11_byteAt 2 (some .int) RX11 wsX11_byteAt) (hE : nEn D A cy (Mw cy a) kt vt s) {z : Int32 × nS} : ∀ (σ : nS) (x1 : Int32) (H : Heap) (locs : List Loc) (ls : Array Slot), lv_has ls 2 [(0, .ref (a 0)), (1, .int x1)] → va_P D vwCl ((Mw cy a) σ) H → va_S A s.heap H locs → l_X11_byteAt_0 N σ x1 = some z → W p l e ({ frames := 0, cells := 0, slots := 0, locals := 0 } : Room) s m args below meth c H locs 0 0 (nQi below D A (Mw cy a) args s z) (F0 m 0 ls []) := by
  exact kb_X11_byteAt_0 (N := N)  C0 hE
def f_X11_byteAt (N : Nat) (x1 : Int32) (σ : nS) : Option (Int32 × nS) := l_X11_byteAt_0 N σ x1
set_option maxHeartbeats 4000000 in
set_option maxRecDepth 100000 in
theorem c_X11_byteAt {l : Launch} {D : va_G} {A : Nat → Prop} {cy : Nat → ClassId} {a kt vt : Nat → Nat} {N : Nat}   {x1 : Int32} {σ : nS} {r : Int32} {σ' : nS} (hf : f_X11_byteAt N x1 σ = some (r, σ')) : nMi l yX11_byteAt wsX11_byteAt ({ frames := 0, cells := 0, slots := 0, locals := 0 } : Room) D A cy (Mw cy a) kt vt [.ref (a 0), .int x1] σ r σ' := by
  refine Met.ofW (cc := cX11_byteAt) (maxL := 2) (ret := (some .int)) (by decide) rfl ?_
  intro p e s m args below meth c s₁ B hml hv
  obtain ⟨rfl, hP, hE⟩ := hv
  have hl := lv_entry ([.ref (a 0), .int x1]) (n := 2) (Nat.le_of_ble_eq_true rfl)
  rw [lg_entry_eq]
  generalize (lg_sl ([.ref (a 0), .int x1]) ++ List.replicate (2 - (lg_sl ([.ref (a 0), .int x1])).length) Slot.unset).toArray = ls at hl ⊢
  have C0 : nCx p s m _ meth c cX11_byteAt 2 (some .int) RX11 wsX11_byteAt := ⟨B.exec, B.bytes, B.returns, hml, findClass_of_methodNamed B.named, atoms_spec (ws := wsX11_byteAt) B.pre, B.notSynchronized⟩
  exact kl_X11_byteAt_0 (N := N)  C0 hE (z := (r, σ')) σ x1 _ _ ls hl hP va_S.rf hf
/-! X11_isLetter -/
def b_X11_isLetter_0 (N : Nat) (σ : nS) (x0 : Int32) : Option (Int32 × nS) := (if x0 < 97 then some (0, σ) else (if (122 : Int32) < x0 then some (0, σ) else some (1, σ)))
set_option maxHeartbeats 4000000 in
set_option maxRecDepth 100000 in
theorem kb_X11_isLetter_0 {p : Program} {l : Launch} {e : Env} {s : State} {m : MethodId} {args : Array Value} {below : List Frame} {meth : Method} {c : Code} {D : va_G} {A : Nat → Prop} {cy : Nat → ClassId} {a kt vt : Nat → Nat} {N : Nat}   (C0 : nCx p s m args meth c cX11_isLetter 1 (some .boolean) RX11 wsX11_isLetter) (hE : nEn D A cy (Mw cy a) kt vt s) {z : Int32 × nS} : ∀ (σ : nS) (x0 : Int32) (H : Heap) (locs : List Loc) (ls : Array Slot), lv_has ls 1 [(0, .int x0)] → va_P D vwCl ((Mw cy a) σ) H → va_S A s.heap H locs → b_X11_isLetter_0 N σ x0 = some z → W p l e ({ frames := 0, cells := 0, slots := 0, locals := 0 } : Room) s m args below meth c H locs 0 0 (nQi below D A (Mw cy a) args s z) (F0 m 0 ls []) := by
  obtain ⟨hx, hb, hr, hml, hown, hts, hlocks⟩ := C0
  intro σ x0 H locs ls hl hP hS hf
  unfold b_X11_isLetter_0 at hf
  refine lv_iload_n hx hb dX11_isLetter_0 rfl (lv_at hl 0 rfl) ?_
  refine lv_bipush (v := 97) hx hb dX11_isLetter_1 (by decide) ?_
  refine lv_icmp_lt (tgt := 16) hx hb dX11_isLetter_3 (by decide) (fun hc => ?_) (fun hc => ?_)
  · replace hf := nIf_t hc hf
    refine lv_iconst (v := 0) hx hb dX11_isLetter_16 (by decide) ?_
    exact nb_zret hx hb hr hlocks hP hS (nSo hf) rfl dX11_isLetter_17
  · replace hf := nIf_f hc hf
    refine lv_iload_n hx hb dX11_isLetter_6 rfl (lv_at hl 0 rfl) ?_
    refine lv_bipush (v := 122) hx hb dX11_isLetter_7 (by decide) ?_
    refine lv_icmp_gt (tgt := 16) hx hb dX11_isLetter_9 (by decide) (fun hc => ?_) (fun hc => ?_)
    · replace hf := nIf_t hc hf
      refine lv_iconst (v := 0) hx hb dX11_isLetter_16 (by decide) ?_
      exact nb_zret hx hb hr hlocks hP hS (nSo hf) rfl dX11_isLetter_17
    · replace hf := nIf_f hc hf
      refine lv_iconst (v := 1) hx hb dX11_isLetter_12 (by decide) ?_
      refine lv_goto (tgt := 17) hx hb dX11_isLetter_13 (by decide) ?_
      exact nb_zret hx hb hr hlocks hP hS (nSo hf) rfl dX11_isLetter_17
def l_X11_isLetter_0 (N : Nat) : nS → Int32 → Option (Int32 × nS) := b_X11_isLetter_0 N
theorem kl_X11_isLetter_0 {p : Program} {l : Launch} {e : Env} {s : State} {m : MethodId} {args : Array Value} {below : List Frame} {meth : Method} {c : Code} {D : va_G} {A : Nat → Prop} {cy : Nat → ClassId} {a kt vt : Nat → Nat} {N : Nat}   (C0 : nCx p s m args meth c cX11_isLetter 1 (some .boolean) RX11 wsX11_isLetter) (hE : nEn D A cy (Mw cy a) kt vt s) {z : Int32 × nS} : ∀ (σ : nS) (x0 : Int32) (H : Heap) (locs : List Loc) (ls : Array Slot), lv_has ls 1 [(0, .int x0)] → va_P D vwCl ((Mw cy a) σ) H → va_S A s.heap H locs → l_X11_isLetter_0 N σ x0 = some z → W p l e ({ frames := 0, cells := 0, slots := 0, locals := 0 } : Room) s m args below meth c H locs 0 0 (nQi below D A (Mw cy a) args s z) (F0 m 0 ls []) := by
  exact kb_X11_isLetter_0 (N := N)  C0 hE
def f_X11_isLetter (N : Nat) (x0 : Int32) (σ : nS) : Option (Int32 × nS) := l_X11_isLetter_0 N σ x0
set_option maxHeartbeats 4000000 in
set_option maxRecDepth 100000 in
theorem c_X11_isLetter {l : Launch} {D : va_G} {A : Nat → Prop} {cy : Nat → ClassId} {a kt vt : Nat → Nat} {N : Nat}   {x0 : Int32} {σ : nS} {r : Int32} {σ' : nS} (hf : f_X11_isLetter N x0 σ = some (r, σ')) : nMi l yX11_isLetter wsX11_isLetter ({ frames := 0, cells := 0, slots := 0, locals := 0 } : Room) D A cy (Mw cy a) kt vt [.int x0] σ r σ' := by
  refine Met.ofW (cc := cX11_isLetter) (maxL := 1) (ret := (some .boolean)) (by decide) rfl ?_
  intro p e s m args below meth c s₁ B hml hv
  obtain ⟨rfl, hP, hE⟩ := hv
  have hl := lv_entry ([.int x0]) (n := 1) (Nat.le_of_ble_eq_true rfl)
  rw [lg_entry_eq]
  generalize (lg_sl ([.int x0]) ++ List.replicate (1 - (lg_sl ([.int x0])).length) Slot.unset).toArray = ls at hl ⊢
  have C0 : nCx p s m _ meth c cX11_isLetter 1 (some .boolean) RX11 wsX11_isLetter := ⟨B.exec, B.bytes, B.returns, hml, findClass_of_methodNamed B.named, atoms_spec (ws := wsX11_isLetter) B.pre, B.notSynchronized⟩
  exact kl_X11_isLetter_0 (N := N)  C0 hE (z := (r, σ')) σ x0 _ _ ls hl hP va_S.rf hf
/-! X11_isDigit -/
def b_X11_isDigit_0 (N : Nat) (σ : nS) (x0 : Int32) : Option (Int32 × nS) := (if x0 < 48 then some (0, σ) else (if (57 : Int32) < x0 then some (0, σ) else some (1, σ)))
set_option maxHeartbeats 4000000 in
set_option maxRecDepth 100000 in
theorem kb_X11_isDigit_0 {p : Program} {l : Launch} {e : Env} {s : State} {m : MethodId} {args : Array Value} {below : List Frame} {meth : Method} {c : Code} {D : va_G} {A : Nat → Prop} {cy : Nat → ClassId} {a kt vt : Nat → Nat} {N : Nat}   (C0 : nCx p s m args meth c cX11_isDigit 1 (some .boolean) RX11 wsX11_isDigit) (hE : nEn D A cy (Mw cy a) kt vt s) {z : Int32 × nS} : ∀ (σ : nS) (x0 : Int32) (H : Heap) (locs : List Loc) (ls : Array Slot), lv_has ls 1 [(0, .int x0)] → va_P D vwCl ((Mw cy a) σ) H → va_S A s.heap H locs → b_X11_isDigit_0 N σ x0 = some z → W p l e ({ frames := 0, cells := 0, slots := 0, locals := 0 } : Room) s m args below meth c H locs 0 0 (nQi below D A (Mw cy a) args s z) (F0 m 0 ls []) := by
  obtain ⟨hx, hb, hr, hml, hown, hts, hlocks⟩ := C0
  intro σ x0 H locs ls hl hP hS hf
  unfold b_X11_isDigit_0 at hf
  refine lv_iload_n hx hb dX11_isDigit_0 rfl (lv_at hl 0 rfl) ?_
  refine lv_bipush (v := 48) hx hb dX11_isDigit_1 (by decide) ?_
  refine lv_icmp_lt (tgt := 16) hx hb dX11_isDigit_3 (by decide) (fun hc => ?_) (fun hc => ?_)
  · replace hf := nIf_t hc hf
    refine lv_iconst (v := 0) hx hb dX11_isDigit_16 (by decide) ?_
    exact nb_zret hx hb hr hlocks hP hS (nSo hf) rfl dX11_isDigit_17
  · replace hf := nIf_f hc hf
    refine lv_iload_n hx hb dX11_isDigit_6 rfl (lv_at hl 0 rfl) ?_
    refine lv_bipush (v := 57) hx hb dX11_isDigit_7 (by decide) ?_
    refine lv_icmp_gt (tgt := 16) hx hb dX11_isDigit_9 (by decide) (fun hc => ?_) (fun hc => ?_)
    · replace hf := nIf_t hc hf
      refine lv_iconst (v := 0) hx hb dX11_isDigit_16 (by decide) ?_
      exact nb_zret hx hb hr hlocks hP hS (nSo hf) rfl dX11_isDigit_17
    · replace hf := nIf_f hc hf
      refine lv_iconst (v := 1) hx hb dX11_isDigit_12 (by decide) ?_
      refine lv_goto (tgt := 17) hx hb dX11_isDigit_13 (by decide) ?_
      exact nb_zret hx hb hr hlocks hP hS (nSo hf) rfl dX11_isDigit_17
def l_X11_isDigit_0 (N : Nat) : nS → Int32 → Option (Int32 × nS) := b_X11_isDigit_0 N
theorem kl_X11_isDigit_0 {p : Program} {l : Launch} {e : Env} {s : State} {m : MethodId} {args : Array Value} {below : List Frame} {meth : Method} {c : Code} {D : va_G} {A : Nat → Prop} {cy : Nat → ClassId} {a kt vt : Nat → Nat} {N : Nat}   (C0 : nCx p s m args meth c cX11_isDigit 1 (some .boolean) RX11 wsX11_isDigit) (hE : nEn D A cy (Mw cy a) kt vt s) {z : Int32 × nS} : ∀ (σ : nS) (x0 : Int32) (H : Heap) (locs : List Loc) (ls : Array Slot), lv_has ls 1 [(0, .int x0)] → va_P D vwCl ((Mw cy a) σ) H → va_S A s.heap H locs → l_X11_isDigit_0 N σ x0 = some z → W p l e ({ frames := 0, cells := 0, slots := 0, locals := 0 } : Room) s m args below meth c H locs 0 0 (nQi below D A (Mw cy a) args s z) (F0 m 0 ls []) := by
  exact kb_X11_isDigit_0 (N := N)  C0 hE
def f_X11_isDigit (N : Nat) (x0 : Int32) (σ : nS) : Option (Int32 × nS) := l_X11_isDigit_0 N σ x0
set_option maxHeartbeats 4000000 in
set_option maxRecDepth 100000 in
theorem c_X11_isDigit {l : Launch} {D : va_G} {A : Nat → Prop} {cy : Nat → ClassId} {a kt vt : Nat → Nat} {N : Nat}   {x0 : Int32} {σ : nS} {r : Int32} {σ' : nS} (hf : f_X11_isDigit N x0 σ = some (r, σ')) : nMi l yX11_isDigit wsX11_isDigit ({ frames := 0, cells := 0, slots := 0, locals := 0 } : Room) D A cy (Mw cy a) kt vt [.int x0] σ r σ' := by
  refine Met.ofW (cc := cX11_isDigit) (maxL := 1) (ret := (some .boolean)) (by decide) rfl ?_
  intro p e s m args below meth c s₁ B hml hv
  obtain ⟨rfl, hP, hE⟩ := hv
  have hl := lv_entry ([.int x0]) (n := 1) (Nat.le_of_ble_eq_true rfl)
  rw [lg_entry_eq]
  generalize (lg_sl ([.int x0]) ++ List.replicate (1 - (lg_sl ([.int x0])).length) Slot.unset).toArray = ls at hl ⊢
  have C0 : nCx p s m _ meth c cX11_isDigit 1 (some .boolean) RX11 wsX11_isDigit := ⟨B.exec, B.bytes, B.returns, hml, findClass_of_methodNamed B.named, atoms_spec (ws := wsX11_isDigit) B.pre, B.notSynchronized⟩
  exact kl_X11_isDigit_0 (N := N)  C0 hE (z := (r, σ')) σ x0 _ _ ls hl hP va_S.rf hf
/-! X11_wordOf -/
def b_X11_wordOf_4 (N : Nat) (j : Nat) (k4 : nS → Int64 → Int32 → Option (Int64 × nS)) (σ : nS) (x1 : Int64) (x3 : Int32) : Option (Int64 × nS) := nBd (f_J0_length_8abf5 N j σ) (fun r1 σ2 => (if r1 ≤ x3 then some (x1, σ2) else nLet ((32 : Int64) * x1 : Int64) (fun v3 => nBd (f_J0_charAt_5068e N j x3 σ2) (fun r4 σ5 => nLet (r4 - (97 : Int32) : Int32) (fun v6 => nLet (v6 + (1 : Int32) : Int32) (fun v7 => nLet ((v7).toInt64 : Int64) (fun v8 => nLet (v3 + v8 : Int64) (fun v9 => nLet (x3 + 1 : Int32) (fun v10 => k4 σ5 v9 v10)))))))))
set_option maxHeartbeats 4000000 in
set_option maxRecDepth 100000 in
theorem kb_X11_wordOf_4 {p : Program} {l : Launch} {e : Env} {s : State} {m : MethodId} {args : Array Value} {below : List Frame} {meth : Method} {c : Code} {D : va_G} {A : Nat → Prop} {cy : Nat → ClassId} {a kt vt : Nat → Nat} {N : Nat} {j : Nat} (hj : j < 12) (C0 : nCx p s m args meth c cX11_wordOf 4 (some .long) RX11 wsX11_wordOf) (hE : nEn D A cy (Mw cy a) kt vt s) {z : Int64 × nS} {k4 : nS → Int64 → Int32 → Option (Int64 × nS)} (K4 : ∀ (σ : nS) (x1 : Int64) (x3 : Int32) (H : Heap) (locs : List Loc) (ls : Array Slot), lv_has ls 4 [(0, .ref (kt j)), (1, .long x1), (3, .int x3)] → va_P D vwCl ((Mw cy a) σ) H → va_S A s.heap H locs → k4 σ x1 x3 = some z → W p l e ({ frames := 4, cells := 0, slots := 0, locals := 85 } : Room) s m args below meth c H locs 0 0 (nQl below D A (Mw cy a) args s z) (F0 m 4 ls [])) : ∀ (σ : nS) (x1 : Int64) (x3 : Int32) (H : Heap) (locs : List Loc) (ls : Array Slot), lv_has ls 4 [(0, .ref (kt j)), (1, .long x1), (3, .int x3)] → va_P D vwCl ((Mw cy a) σ) H → va_S A s.heap H locs → b_X11_wordOf_4 N j k4 σ x1 x3 = some z → W p l e ({ frames := 4, cells := 0, slots := 0, locals := 85 } : Room) s m args below meth c H locs 0 0 (nQl below D A (Mw cy a) args s z) (F0 m 4 ls []) := by
  obtain ⟨hx, hb, hr, hml, hown, hts, hlocks⟩ := C0
  intro σ x1 x3 H locs ls hl hP hS hf
  unfold b_X11_wordOf_4 at hf
  refine lv_iload_n hx hb dX11_wordOf_4 rfl (lv_at hl 2 rfl) ?_
  refine lv_aload_n hx hb dX11_wordOf_5 rfl (lv_at hl 0 rfl) ?_
  obtain ⟨r1, σ2, hc2, hf⟩ := nBd_e hf
  refine nb_callTi (As := []) (rest := [.int x3]) ⟨hx, hb, hml, hown, hts⟩ (c_J0_length_8abf5 (X := (Mw cy a)) (D := D) (A := A) (cy := cy) (kt := kt) (vt := vt) (l := l) hj hc2) (cwV 0 hts gX11_wordOf_J0_length_8abf5 rfl rfl rfl (by decide +kernel) ⟨Nat.le_of_ble_eq_true rfl, Nat.le_of_ble_eq_true rfl⟩) hE hP hS hj rfl hl.1 rfl (Nat.le_of_ble_eq_true rfl) dX11_wordOf_6 (fun H locs hP hS => ?_)
  refine lv_icmp_ge (tgt := 36) hx hb dX11_wordOf_9 (by decide) (fun hc => ?_) (fun hc => ?_)
  · replace hf := nIf_t hc hf
    refine lv_lload_n hx hb dX11_wordOf_36 rfl (lv_at hl 1 rfl) ?_
    exact nb_lret hx hb hr hlocks hP hS (nSo hf) dX11_wordOf_37
  · replace hf := nIf_f hc hf
    refine lv_ldc2 (v := 32) hx hb hown (hts (.constantLong RX11 157 32) (by decide +kernel)) dX11_wordOf_12 ?_
    refine lv_lload_n hx hb dX11_wordOf_15 rfl (lv_at hl 1 rfl) ?_
    refine lv_lmul hx hb dX11_wordOf_16 ?_
    refine lv_topl (fun v3 ev3 => ?_)
    replace hf := nLet_e hf ev3
    refine lv_aload_n hx hb dX11_wordOf_17 rfl (lv_at hl 0 rfl) ?_
    refine lv_iload_n hx hb dX11_wordOf_18 rfl (lv_at hl 2 rfl) ?_
    obtain ⟨r4, σ5, hc5, hf⟩ := nBd_e hf
    refine nb_callTi (As := [.int x3]) (rest := [.long v3]) ⟨hx, hb, hml, hown, hts⟩ (c_J0_charAt_5068e (X := (Mw cy a)) (D := D) (A := A) (cy := cy) (kt := kt) (vt := vt) (l := l) hj hc5) (cwV 1 hts gX11_wordOf_J0_charAt_5068e rfl rfl rfl (by decide +kernel) ⟨Nat.le_of_ble_eq_true rfl, Nat.le_of_ble_eq_true rfl⟩) hE hP hS hj rfl hl.1 rfl (Nat.le_of_ble_eq_true rfl) dX11_wordOf_19 (fun H locs hP hS => ?_)
    refine lv_bipush (v := 97) hx hb dX11_wordOf_22 (by decide) ?_
    refine lv_isub hx hb dX11_wordOf_24 ?_
    refine lv_topi (fun v6 ev6 => ?_)
    replace hf := nLet_e hf ev6
    refine lv_iconst (v := 1) hx hb dX11_wordOf_25 (by decide) ?_
    refine lv_iadd hx hb dX11_wordOf_26 ?_
    refine lv_topi (fun v7 ev7 => ?_)
    replace hf := nLet_e hf ev7
    refine lv_i2l hx hb dX11_wordOf_27 rfl ?_
    refine lv_topl (fun v8 ev8 => ?_)
    replace hf := nLet_e hf ev8
    refine lv_ladd hx hb dX11_wordOf_28 ?_
    refine lv_topl (fun v9 ev9 => ?_)
    replace hf := nLet_e hf ev9
    refine lv_lstore_n (lv' := [(1, .long v9), (0, .ref (kt j)), (3, .int x3)]) hx hb dX11_wordOf_29 rfl hl (by decide) rfl (fun ls hl => ?_)
    obtain ⟨v10, ev10⟩ : ∃ y : Int32, y = x3 + 1 := ⟨_, rfl⟩
    replace hf := nLet_e hf ev10
    refine lv_iinc (v := v10) (lv' := [(3, .int v10), (1, .long v9), (0, .ref (kt j))]) hx hb dX11_wordOf_30 hl (k := 2) rfl (by rw [ev10]; rfl) (by decide) rfl (fun ls hl => ?_)
    refine lv_goto (tgt := 4) hx hb dX11_wordOf_33 (by decide) ?_
    exact K4 σ5 v9 v10 H locs ls (lv_sub hl [2, 1, 0] rfl) hP hS hf
def b_X11_wordOf_0 (N : Nat) (j : Nat) (k4 : nS → Int64 → Int32 → Option (Int64 × nS)) (σ : nS) : Option (Int64 × nS) := k4 σ 0 0
set_option maxHeartbeats 4000000 in
set_option maxRecDepth 100000 in
theorem kb_X11_wordOf_0 {p : Program} {l : Launch} {e : Env} {s : State} {m : MethodId} {args : Array Value} {below : List Frame} {meth : Method} {c : Code} {D : va_G} {A : Nat → Prop} {cy : Nat → ClassId} {a kt vt : Nat → Nat} {N : Nat} {j : Nat} (hj : j < 12) (C0 : nCx p s m args meth c cX11_wordOf 4 (some .long) RX11 wsX11_wordOf) (hE : nEn D A cy (Mw cy a) kt vt s) {z : Int64 × nS} {k4 : nS → Int64 → Int32 → Option (Int64 × nS)} (K4 : ∀ (σ : nS) (x1 : Int64) (x3 : Int32) (H : Heap) (locs : List Loc) (ls : Array Slot), lv_has ls 4 [(0, .ref (kt j)), (1, .long x1), (3, .int x3)] → va_P D vwCl ((Mw cy a) σ) H → va_S A s.heap H locs → k4 σ x1 x3 = some z → W p l e ({ frames := 4, cells := 0, slots := 0, locals := 85 } : Room) s m args below meth c H locs 0 0 (nQl below D A (Mw cy a) args s z) (F0 m 4 ls [])) : ∀ (σ : nS) (H : Heap) (locs : List Loc) (ls : Array Slot), lv_has ls 4 [(0, .ref (kt j))] → va_P D vwCl ((Mw cy a) σ) H → va_S A s.heap H locs → b_X11_wordOf_0 N j k4 σ = some z → W p l e ({ frames := 4, cells := 0, slots := 0, locals := 85 } : Room) s m args below meth c H locs 0 0 (nQl below D A (Mw cy a) args s z) (F0 m 0 ls []) := by
  obtain ⟨hx, hb, hr, hml, hown, hts, hlocks⟩ := C0
  intro σ  H locs ls hl hP hS hf
  unfold b_X11_wordOf_0 at hf
  refine lv_lconst (v := 0) hx hb dX11_wordOf_0 (by decide) ?_
  refine lv_lstore_n (lv' := [(1, .long 0), (0, .ref (kt j))]) hx hb dX11_wordOf_1 rfl hl (by decide) rfl (fun ls hl => ?_)
  refine lv_iconst (v := 0) hx hb dX11_wordOf_2 (by decide) ?_
  refine lv_istore_n (lv' := [(3, .int 0), (1, .long 0), (0, .ref (kt j))]) hx hb dX11_wordOf_3 rfl hl (by decide) rfl (fun ls hl => ?_)
  exact K4 σ 0 0 H locs ls (lv_sub hl [2, 1, 0] rfl) hP hS hf
def l_X11_wordOf_4 (N : Nat) (j : Nat) : nS → Int64 → Int32 → Option (Int64 × nS) := nLp (fun _ _ _ => none) (fun again => b_X11_wordOf_4 N j again) N
theorem kl_X11_wordOf_4 {p : Program} {l : Launch} {e : Env} {s : State} {m : MethodId} {args : Array Value} {below : List Frame} {meth : Method} {c : Code} {D : va_G} {A : Nat → Prop} {cy : Nat → ClassId} {a kt vt : Nat → Nat} {N : Nat} {j : Nat} (hj : j < 12) (C0 : nCx p s m args meth c cX11_wordOf 4 (some .long) RX11 wsX11_wordOf) (hE : nEn D A cy (Mw cy a) kt vt s) {z : Int64 × nS} : ∀ (σ : nS) (x1 : Int64) (x3 : Int32) (H : Heap) (locs : List Loc) (ls : Array Slot), lv_has ls 4 [(0, .ref (kt j)), (1, .long x1), (3, .int x3)] → va_P D vwCl ((Mw cy a) σ) H → va_S A s.heap H locs → l_X11_wordOf_4 N j σ x1 x3 = some z → W p l e ({ frames := 4, cells := 0, slots := 0, locals := 85 } : Room) s m args below meth c H locs 0 0 (nQl below D A (Mw cy a) args s z) (F0 m 4 ls []) := by
  have main : ∀ (fu : Nat), ∀ (σ : nS) (x1 : Int64) (x3 : Int32) (H : Heap) (locs : List Loc) (ls : Array Slot), lv_has ls 4 [(0, .ref (kt j)), (1, .long x1), (3, .int x3)] → va_P D vwCl ((Mw cy a) σ) H → va_S A s.heap H locs → nLp (fun _ _ _ => none) (fun again => b_X11_wordOf_4 N j again) fu σ x1 x3 = some z → W p l e ({ frames := 4, cells := 0, slots := 0, locals := 85 } : Room) s m args below meth c H locs 0 0 (nQl below D A (Mw cy a) args s z) (F0 m 4 ls []) := by
    intro fu
    induction fu with
    | zero => intro σ x1 x3 H locs ls hl hP hS hf; cases hf
    | succ fu ih => exact kb_X11_wordOf_4 (N := N) hj C0 hE ih
  exact main N
def l_X11_wordOf_0 (N : Nat) (j : Nat) : nS → Option (Int64 × nS) := b_X11_wordOf_0 N j (l_X11_wordOf_4 N j)
theorem kl_X11_wordOf_0 {p : Program} {l : Launch} {e : Env} {s : State} {m : MethodId} {args : Array Value} {below : List Frame} {meth : Method} {c : Code} {D : va_G} {A : Nat → Prop} {cy : Nat → ClassId} {a kt vt : Nat → Nat} {N : Nat} {j : Nat} (hj : j < 12) (C0 : nCx p s m args meth c cX11_wordOf 4 (some .long) RX11 wsX11_wordOf) (hE : nEn D A cy (Mw cy a) kt vt s) {z : Int64 × nS} : ∀ (σ : nS) (H : Heap) (locs : List Loc) (ls : Array Slot), lv_has ls 4 [(0, .ref (kt j))] → va_P D vwCl ((Mw cy a) σ) H → va_S A s.heap H locs → l_X11_wordOf_0 N j σ = some z → W p l e ({ frames := 4, cells := 0, slots := 0, locals := 85 } : Room) s m args below meth c H locs 0 0 (nQl below D A (Mw cy a) args s z) (F0 m 0 ls []) := by
  exact kb_X11_wordOf_0 (N := N) hj C0 hE (kl_X11_wordOf_4 (N := N) hj C0 hE)
def f_X11_wordOf (N : Nat) (j : Nat) (σ : nS) : Option (Int64 × nS) := l_X11_wordOf_0 N j σ
set_option maxHeartbeats 4000000 in
set_option maxRecDepth 100000 in
theorem c_X11_wordOf {l : Launch} {D : va_G} {A : Nat → Prop} {cy : Nat → ClassId} {a kt vt : Nat → Nat} {N : Nat} {j : Nat} (hj : j < 12) {σ : nS} {r : Int64} {σ' : nS} (hf : f_X11_wordOf N j σ = some (r, σ')) : nMl l yX11_wordOf wsX11_wordOf ({ frames := 4, cells := 0, slots := 0, locals := 85 } : Room) D A cy (Mw cy a) kt vt [.ref (kt j)] σ r σ' := by
  refine Met.ofW (cc := cX11_wordOf) (maxL := 4) (ret := (some .long)) (by decide) rfl ?_
  intro p e s m args below meth c s₁ B hml hv
  obtain ⟨rfl, hP, hE⟩ := hv
  have hl := lv_entry ([.ref (kt j)]) (n := 4) (Nat.le_of_ble_eq_true rfl)
  rw [lg_entry_eq]
  generalize (lg_sl ([.ref (kt j)]) ++ List.replicate (4 - (lg_sl ([.ref (kt j)])).length) Slot.unset).toArray = ls at hl ⊢
  have C0 : nCx p s m _ meth c cX11_wordOf 4 (some .long) RX11 wsX11_wordOf := ⟨B.exec, B.bytes, B.returns, hml, findClass_of_methodNamed B.named, atoms_spec (ws := wsX11_wordOf) B.pre, B.notSynchronized⟩
  exact kl_X11_wordOf_0 (N := N) hj C0 hE (z := (r, σ')) σ  _ _ ls hl hP va_S.rf hf
/-! X11_next -/
set_option maxRecDepth 20000 in
theorem iX11_next_X11 : ∀ w ∈ u_ws RX11 TX11 68, w ∈ wsX11_next := fun _ h => List.mem_cons_of_mem _ (List.mem_append_right _ h)
set_option maxRecDepth 20000 in
theorem qX11_next_163 : Cond.fieldLink RX11 163 RX11 (TX11 21).2.1 (TX11 21).2.2.1 ∈ wsX11_next := by decide +kernel
set_option maxRecDepth 20000 in
theorem qX11_next_169 : Cond.fieldLink RX11 169 RX11 (TX11 23).2.1 (TX11 23).2.2.1 ∈ wsX11_next := by decide +kernel
set_option maxRecDepth 20000 in
theorem qX11_next_170 : Cond.fieldLink RX11 170 RX11 (TX11 22).2.1 (TX11 22).2.2.1 ∈ wsX11_next := by decide +kernel
set_option maxRecDepth 20000 in
theorem qX11_next_184 : Cond.fieldLink RX11 184 RX11 (TX11 24).2.1 (TX11 24).2.2.1 ∈ wsX11_next := by decide +kernel
set_option maxRecDepth 20000 in
theorem qX11_next_177 : Cond.fieldLink RX11 177 RX11 (TX11 26).2.1 (TX11 26).2.2.1 ∈ wsX11_next := by decide +kernel
def b_X11_next_219 (N : Nat) (k177 : nS → Int32 → Option (Int32 × nS)) (σ : nS) (x2 : Int32) : Option (Int32 × nS) := nLet (x2 + 1 : Int32) (fun v1 => nLet ((σ.1 0 21) + (1 : Int32) : Int32) (fun v2 => nLet (wr σ 0 21 v2) (fun σ3 => k177 σ3 v1)))
set_option maxHeartbeats 4000000 in
set_option maxRecDepth 100000 in
theorem kb_X11_next_219 {p : Program} {l : Launch} {e : Env} {s : State} {m : MethodId} {args : Array Value} {below : List Frame} {meth : Method} {c : Code} {D : va_G} {A : Nat → Prop} {cy : Nat → ClassId} {a kt vt : Nat → Nat} {N : Nat}   (C0 : nCx p s m args meth c cX11_next 3 none RX11 wsX11_next) (hE : nEn D A cy (Mw cy a) kt vt s) {z : Int32 × nS} {k177 : nS → Int32 → Option (Int32 × nS)} (K177 : ∀ (σ : nS) (x2 : Int32) (H : Heap) (locs : List Loc) (ls : Array Slot), lv_has ls 3 [(0, .ref (a 0)), (2, .int x2)] → va_P D vwCl ((Mw cy a) σ) H → va_S A s.heap H locs → k177 σ x2 = some z → W p l e ({ frames := 1, cells := 0, slots := 0, locals := 21 } : Room) s m args below meth c H locs 0 0 (nQv below D A (Mw cy a) args s z) (F0 m 177 ls [])) : ∀ (σ : nS) (x2 : Int32) (H : Heap) (locs : List Loc) (ls : Array Slot), lv_has ls 3 [(0, .ref (a 0)), (2, .int x2)] → va_P D vwCl ((Mw cy a) σ) H → va_S A s.heap H locs → b_X11_next_219 N k177 σ x2 = some z → W p l e ({ frames := 1, cells := 0, slots := 0, locals := 21 } : Room) s m args below meth c H locs 0 0 (nQv below D A (Mw cy a) args s z) (F0 m 219 ls []) := by
  obtain ⟨hx, hb, hr, hml, hown, hts, hlocks⟩ := C0
  intro σ x2 H locs ls hl hP hS hf
  unfold b_X11_next_219 at hf
  obtain ⟨v1, ev1⟩ : ∃ y : Int32, y = x2 + 1 := ⟨_, rfl⟩
  replace hf := nLet_e hf ev1
  refine lv_iinc (v := v1) (lv' := [(2, .int v1), (0, .ref (a 0))]) hx hb dX11_next_219 hl (k := 1) rfl (by rw [ev1]; rfl) (by decide) rfl (fun ls hl => ?_)
  refine lv_aload_n hx hb dX11_next_222 rfl (lv_at hl 1 rfl) ?_
  refine lv_dup hx hb dX11_next_223 rfl ?_
  refine nb_get (ci := 11) hx hb hts iX11_next_X11 hown hE hP 0 mbo_0 rfl 21 (by decide) qX11_next_163 rfl rfl dX11_next_224 ?_
  refine lv_iconst (v := 1) hx hb dX11_next_227 (by decide) ?_
  refine lv_iadd hx hb dX11_next_228 ?_
  refine lv_topi (fun v2 ev2 => ?_)
  replace hf := nLet_e hf ev2
  refine nb_put (ci := 11) hx hb hts iX11_next_X11 tyX11 tyX11_ok nmX11 hown hE hP hS 0 mbo_0 rfl 21 (by decide) qX11_next_163 rfl rfl rfl rfl (Nat.le_of_ble_eq_true rfl) dX11_next_229 (mbp_0_21 _) (fun σ3 eσ3 H locs hP hS => ?_)
  replace hf := nLet_e hf eσ3
  refine lv_goto (tgt := 177) hx hb dX11_next_232 (by decide) ?_
  exact K177 σ3 v1 H locs ls (lv_sub hl [1, 0] rfl) hP hS hf
def b_X11_next_135 (N : Nat) (k88 : nS → Int32 → Option (Int32 × nS)) (σ : nS) (x2 : Int32) : Option (Int32 × nS) := nLet (x2 + 1 : Int32) (fun v1 => nLet ((σ.1 0 21) + (1 : Int32) : Int32) (fun v2 => nLet (wr σ 0 21 v2) (fun σ3 => k88 σ3 v1)))
set_option maxHeartbeats 4000000 in
set_option maxRecDepth 100000 in
theorem kb_X11_next_135 {p : Program} {l : Launch} {e : Env} {s : State} {m : MethodId} {args : Array Value} {below : List Frame} {meth : Method} {c : Code} {D : va_G} {A : Nat → Prop} {cy : Nat → ClassId} {a kt vt : Nat → Nat} {N : Nat}   (C0 : nCx p s m args meth c cX11_next 3 none RX11 wsX11_next) (hE : nEn D A cy (Mw cy a) kt vt s) {z : Int32 × nS} {k88 : nS → Int32 → Option (Int32 × nS)} (K88 : ∀ (σ : nS) (x2 : Int32) (H : Heap) (locs : List Loc) (ls : Array Slot), lv_has ls 3 [(0, .ref (a 0)), (2, .int x2)] → va_P D vwCl ((Mw cy a) σ) H → va_S A s.heap H locs → k88 σ x2 = some z → W p l e ({ frames := 1, cells := 0, slots := 0, locals := 21 } : Room) s m args below meth c H locs 0 0 (nQv below D A (Mw cy a) args s z) (F0 m 88 ls [])) : ∀ (σ : nS) (x2 : Int32) (H : Heap) (locs : List Loc) (ls : Array Slot), lv_has ls 3 [(0, .ref (a 0)), (2, .int x2)] → va_P D vwCl ((Mw cy a) σ) H → va_S A s.heap H locs → b_X11_next_135 N k88 σ x2 = some z → W p l e ({ frames := 1, cells := 0, slots := 0, locals := 21 } : Room) s m args below meth c H locs 0 0 (nQv below D A (Mw cy a) args s z) (F0 m 135 ls []) := by
  obtain ⟨hx, hb, hr, hml, hown, hts, hlocks⟩ := C0
  intro σ x2 H locs ls hl hP hS hf
  unfold b_X11_next_135 at hf
  obtain ⟨v1, ev1⟩ : ∃ y : Int32, y = x2 + 1 := ⟨_, rfl⟩
  replace hf := nLet_e hf ev1
  refine lv_iinc (v := v1) (lv' := [(2, .int v1), (0, .ref (a 0))]) hx hb dX11_next_135 hl (k := 1) rfl (by rw [ev1]; rfl) (by decide) rfl (fun ls hl => ?_)
  refine lv_aload_n hx hb dX11_next_138 rfl (lv_at hl 1 rfl) ?_
  refine lv_dup hx hb dX11_next_139 rfl ?_
  refine nb_get (ci := 11) hx hb hts iX11_next_X11 hown hE hP 0 mbo_0 rfl 21 (by decide) qX11_next_163 rfl rfl dX11_next_140 ?_
  refine lv_iconst (v := 1) hx hb dX11_next_143 (by decide) ?_
  refine lv_iadd hx hb dX11_next_144 ?_
  refine lv_topi (fun v2 ev2 => ?_)
  replace hf := nLet_e hf ev2
  refine nb_put (ci := 11) hx hb hts iX11_next_X11 tyX11 tyX11_ok nmX11 hown hE hP hS 0 mbo_0 rfl 21 (by decide) qX11_next_163 rfl rfl rfl rfl (Nat.le_of_ble_eq_true rfl) dX11_next_145 (mbp_0_21 _) (fun σ3 eσ3 H locs hP hS => ?_)
  replace hf := nLet_e hf eσ3
  refine lv_goto (tgt := 88) hx hb dX11_next_148 (by decide) ?_
  exact K88 σ3 v1 H locs ls (lv_sub hl [1, 0] rfl) hP hS hf
def b_X11_next_177 (N : Nat) (k219 : nS → Int32 → Option (Int32 × nS)) (σ : nS) (x2 : Int32) : Option (Int32 × nS) := nBd (f_X11_byteAt N (σ.1 0 21) σ) (fun r1 σ2 => nBd (f_X11_isDigit N r1 σ2) (fun r3 σ4 => (if r3 = 0 then (if (3 : Int32) ≤ x2 then some (0, σ4) else nLet (wr σ4 0 22 3) (fun σ5 => some (0, σ5))) else (if (2 : Int32) ≤ x2 then k219 σ4 x2 else nLet ((10 : Int32) * (σ4.1 0 24) : Int32) (fun v6 => nBd (f_X11_byteAt N (σ4.1 0 21) σ4) (fun r7 σ8 => nLet (v6 + r7 : Int32) (fun v9 => nLet (v9 - (48 : Int32) : Int32) (fun v10 => nLet (wr σ8 0 24 v10) (fun σ11 => k219 σ11 x2)))))))))
set_option maxHeartbeats 4000000 in
set_option maxRecDepth 100000 in
theorem kb_X11_next_177 {p : Program} {l : Launch} {e : Env} {s : State} {m : MethodId} {args : Array Value} {below : List Frame} {meth : Method} {c : Code} {D : va_G} {A : Nat → Prop} {cy : Nat → ClassId} {a kt vt : Nat → Nat} {N : Nat}   (C0 : nCx p s m args meth c cX11_next 3 none RX11 wsX11_next) (hE : nEn D A cy (Mw cy a) kt vt s) {z : Int32 × nS} {k219 : nS → Int32 → Option (Int32 × nS)} (K219 : ∀ (σ : nS) (x2 : Int32) (H : Heap) (locs : List Loc) (ls : Array Slot), lv_has ls 3 [(0, .ref (a 0)), (2, .int x2)] → va_P D vwCl ((Mw cy a) σ) H → va_S A s.heap H locs → k219 σ x2 = some z → W p l e ({ frames := 1, cells := 0, slots := 0, locals := 21 } : Room) s m args below meth c H locs 0 0 (nQv below D A (Mw cy a) args s z) (F0 m 219 ls [])) : ∀ (σ : nS) (x2 : Int32) (H : Heap) (locs : List Loc) (ls : Array Slot), lv_has ls 3 [(0, .ref (a 0)), (2, .int x2)] → va_P D vwCl ((Mw cy a) σ) H → va_S A s.heap H locs → b_X11_next_177 N k219 σ x2 = some z → W p l e ({ frames := 1, cells := 0, slots := 0, locals := 21 } : Room) s m args below meth c H locs 0 0 (nQv below D A (Mw cy a) args s z) (F0 m 177 ls []) := by
  obtain ⟨hx, hb, hr, hml, hown, hts, hlocks⟩ := C0
  intro σ x2 H locs ls hl hP hS hf
  unfold b_X11_next_177 at hf
  refine lv_aload_n hx hb dX11_next_177 rfl (lv_at hl 0 rfl) ?_
  refine lv_aload_n hx hb dX11_next_178 rfl (lv_at hl 0 rfl) ?_
  refine nb_get (ci := 11) hx hb hts iX11_next_X11 hown hE hP 0 mbo_0 rfl 21 (by decide) qX11_next_163 rfl rfl dX11_next_179 ?_
  obtain ⟨r1, σ2, hc2, hf⟩ := nBd_e hf
  refine nb_callVi (As := [.int (σ.1 0 21)]) (rest := []) ⟨hx, hb, hml, hown, hts⟩ (c_X11_byteAt (D := D) (A := A) (cy := cy) (a := a) (kt := kt) (vt := vt) (l := l)  hc2) (cwV 1 hts gX11_next_X11_byteAt rfl rfl rfl (by decide +kernel) ⟨Nat.le_of_ble_eq_true rfl, Nat.le_of_ble_eq_true rfl⟩) hE hP hS mbo_0 rfl rfl hl.1 rfl (Nat.le_of_ble_eq_true rfl) dX11_next_182 (fun H locs hP hS => ?_)
  obtain ⟨r3, σ4, hc4, hf⟩ := nBd_e hf
  refine nb_callSi (As := [.int r1]) (rest := []) ⟨hx, hb, hml, hown, hts⟩ (c_X11_isDigit (D := D) (A := A) (cy := cy) (a := a) (kt := kt) (vt := vt) (l := l)  hc4) (va_cwS 1 hts gX11_next_X11_isDigit rfl rfl rfl (by decide +kernel) ⟨Nat.le_of_ble_eq_true rfl, Nat.le_of_ble_eq_true rfl⟩) hE hP hS rfl hl.1 rfl (Nat.le_of_ble_eq_true rfl) dX11_next_185 (fun H locs hP hS => ?_)
  refine lv_if_eq (tgt := 235) hx hb dX11_next_188 (by decide) (fun hc => ?_) (fun hc => ?_)
  · replace hf := nIf_t hc hf
    refine lv_iload_n hx hb dX11_next_235 rfl (lv_at hl 1 rfl) ?_
    refine lv_iconst (v := 3) hx hb dX11_next_236 (by decide) ?_
    refine lv_icmp_ge (tgt := 269) hx hb dX11_next_237 (by decide) (fun hc => ?_) (fun hc => ?_)
    · replace hf := nIf_t hc hf
      exact nb_vret hx hb hr hlocks hP hS (nSo hf) dX11_next_269
    · replace hf := nIf_f hc hf
      refine lv_aload_n hx hb dX11_next_240 rfl (lv_at hl 0 rfl) ?_
      refine lv_iconst (v := 3) hx hb dX11_next_241 (by decide) ?_
      refine nb_put (ci := 11) hx hb hts iX11_next_X11 tyX11 tyX11_ok nmX11 hown hE hP hS 0 mbo_0 rfl 22 (by decide) qX11_next_170 rfl rfl rfl rfl (Nat.le_of_ble_eq_true rfl) dX11_next_242 (mbp_0_22 _) (fun σ5 eσ5 H locs hP hS => ?_)
      replace hf := nLet_e hf eσ5
      refine lv_goto (tgt := 269) hx hb dX11_next_245 (by decide) ?_
      exact nb_vret hx hb hr hlocks hP hS (nSo hf) dX11_next_269
  · replace hf := nIf_f hc hf
    refine lv_iload_n hx hb dX11_next_191 rfl (lv_at hl 1 rfl) ?_
    refine lv_iconst (v := 2) hx hb dX11_next_192 (by decide) ?_
    refine lv_icmp_ge (tgt := 219) hx hb dX11_next_193 (by decide) (fun hc => ?_) (fun hc => ?_)
    · replace hf := nIf_t hc hf
      exact K219 σ4 x2 H locs ls (lv_sub hl [0, 1] rfl) hP hS hf
    · replace hf := nIf_f hc hf
      refine lv_aload_n hx hb dX11_next_196 rfl (lv_at hl 0 rfl) ?_
      refine lv_bipush (v := 10) hx hb dX11_next_197 (by decide) ?_
      refine lv_aload_n hx hb dX11_next_199 rfl (lv_at hl 0 rfl) ?_
      refine nb_get (ci := 11) hx hb hts iX11_next_X11 hown hE hP 0 mbo_0 rfl 24 (by decide) qX11_next_184 rfl rfl dX11_next_200 ?_
      refine lv_imul hx hb dX11_next_203 ?_
      refine lv_topi (fun v6 ev6 => ?_)
      replace hf := nLet_e hf ev6
      refine lv_aload_n hx hb dX11_next_204 rfl (lv_at hl 0 rfl) ?_
      refine lv_aload_n hx hb dX11_next_205 rfl (lv_at hl 0 rfl) ?_
      refine nb_get (ci := 11) hx hb hts iX11_next_X11 hown hE hP 0 mbo_0 rfl 21 (by decide) qX11_next_163 rfl rfl dX11_next_206 ?_
      obtain ⟨r7, σ8, hc8, hf⟩ := nBd_e hf
      refine nb_callVi (As := [.int (σ4.1 0 21)]) (rest := [.int v6, .ref (a 0)]) ⟨hx, hb, hml, hown, hts⟩ (c_X11_byteAt (D := D) (A := A) (cy := cy) (a := a) (kt := kt) (vt := vt) (l := l)  hc8) (cwV 1 hts gX11_next_X11_byteAt rfl rfl rfl (by decide +kernel) ⟨Nat.le_of_ble_eq_true rfl, Nat.le_of_ble_eq_true rfl⟩) hE hP hS mbo_0 rfl rfl hl.1 rfl (Nat.le_of_ble_eq_true rfl) dX11_next_209 (fun H locs hP hS => ?_)
      refine lv_iadd hx hb dX11_next_212 ?_
      refine lv_topi (fun v9 ev9 => ?_)
      replace hf := nLet_e hf ev9
      refine lv_bipush (v := 48) hx hb dX11_next_213 (by decide) ?_
      refine lv_isub hx hb dX11_next_215 ?_
      refine lv_topi (fun v10 ev10 => ?_)
      replace hf := nLet_e hf ev10
      refine nb_put (ci := 11) hx hb hts iX11_next_X11 tyX11 tyX11_ok nmX11 hown hE hP hS 0 mbo_0 rfl 24 (by decide) qX11_next_184 rfl rfl rfl rfl (Nat.le_of_ble_eq_true rfl) dX11_next_216 (mbp_0_24 _) (fun σ11 eσ11 H locs hP hS => ?_)
      replace hf := nLet_e hf eσ11
      exact K219 σ11 x2 H locs ls (lv_sub hl [0, 1] rfl) hP hS hf
def b_X11_next_88 (N : Nat) (k135 : nS → Int32 → Option (Int32 × nS)) (σ : nS) (x2 : Int32) : Option (Int32 × nS) := nBd (f_X11_byteAt N (σ.1 0 21) σ) (fun r1 σ2 => nBd (f_X11_isLetter N r1 σ2) (fun r3 σ4 => (if r3 = 0 then (if (9 : Int32) ≤ x2 then some (0, σ4) else nLet (wr σ4 0 22 2) (fun σ5 => some (0, σ5))) else (if (8 : Int32) ≤ x2 then k135 σ4 x2 else nLet ((32 : Int64) * (σ4.2 0 26) : Int64) (fun v6 => nBd (f_X11_byteAt N (σ4.1 0 21) σ4) (fun r7 σ8 => nLet (r7 - (97 : Int32) : Int32) (fun v9 => nLet (v9 + (1 : Int32) : Int32) (fun v10 => nLet ((v10).toInt64 : Int64) (fun v11 => nLet (v6 + v11 : Int64) (fun v12 => nLet (wl σ8 0 26 v12) (fun σ13 => k135 σ13 x2)))))))))))
set_option maxHeartbeats 4000000 in
set_option maxRecDepth 100000 in
theorem kb_X11_next_88 {p : Program} {l : Launch} {e : Env} {s : State} {m : MethodId} {args : Array Value} {below : List Frame} {meth : Method} {c : Code} {D : va_G} {A : Nat → Prop} {cy : Nat → ClassId} {a kt vt : Nat → Nat} {N : Nat}   (C0 : nCx p s m args meth c cX11_next 3 none RX11 wsX11_next) (hE : nEn D A cy (Mw cy a) kt vt s) {z : Int32 × nS} {k135 : nS → Int32 → Option (Int32 × nS)} (K135 : ∀ (σ : nS) (x2 : Int32) (H : Heap) (locs : List Loc) (ls : Array Slot), lv_has ls 3 [(0, .ref (a 0)), (2, .int x2)] → va_P D vwCl ((Mw cy a) σ) H → va_S A s.heap H locs → k135 σ x2 = some z → W p l e ({ frames := 1, cells := 0, slots := 0, locals := 21 } : Room) s m args below meth c H locs 0 0 (nQv below D A (Mw cy a) args s z) (F0 m 135 ls [])) : ∀ (σ : nS) (x2 : Int32) (H : Heap) (locs : List Loc) (ls : Array Slot), lv_has ls 3 [(0, .ref (a 0)), (2, .int x2)] → va_P D vwCl ((Mw cy a) σ) H → va_S A s.heap H locs → b_X11_next_88 N k135 σ x2 = some z → W p l e ({ frames := 1, cells := 0, slots := 0, locals := 21 } : Room) s m args below meth c H locs 0 0 (nQv below D A (Mw cy a) args s z) (F0 m 88 ls []) := by
  obtain ⟨hx, hb, hr, hml, hown, hts, hlocks⟩ := C0
  intro σ x2 H locs ls hl hP hS hf
  unfold b_X11_next_88 at hf
  refine lv_aload_n hx hb dX11_next_88 rfl (lv_at hl 0 rfl) ?_
  refine lv_aload_n hx hb dX11_next_89 rfl (lv_at hl 0 rfl) ?_
  refine nb_get (ci := 11) hx hb hts iX11_next_X11 hown hE hP 0 mbo_0 rfl 21 (by decide) qX11_next_163 rfl rfl dX11_next_90 ?_
  obtain ⟨r1, σ2, hc2, hf⟩ := nBd_e hf
  refine nb_callVi (As := [.int (σ.1 0 21)]) (rest := []) ⟨hx, hb, hml, hown, hts⟩ (c_X11_byteAt (D := D) (A := A) (cy := cy) (a := a) (kt := kt) (vt := vt) (l := l)  hc2) (cwV 1 hts gX11_next_X11_byteAt rfl rfl rfl (by decide +kernel) ⟨Nat.le_of_ble_eq_true rfl, Nat.le_of_ble_eq_true rfl⟩) hE hP hS mbo_0 rfl rfl hl.1 rfl (Nat.le_of_ble_eq_true rfl) dX11_next_93 (fun H locs hP hS => ?_)
  obtain ⟨r3, σ4, hc4, hf⟩ := nBd_e hf
  refine nb_callSi (As := [.int r1]) (rest := []) ⟨hx, hb, hml, hown, hts⟩ (c_X11_isLetter (D := D) (A := A) (cy := cy) (a := a) (kt := kt) (vt := vt) (l := l)  hc4) (va_cwS 1 hts gX11_next_X11_isLetter rfl rfl rfl (by decide +kernel) ⟨Nat.le_of_ble_eq_true rfl, Nat.le_of_ble_eq_true rfl⟩) hE hP hS rfl hl.1 rfl (Nat.le_of_ble_eq_true rfl) dX11_next_96 (fun H locs hP hS => ?_)
  refine lv_if_eq (tgt := 151) hx hb dX11_next_99 (by decide) (fun hc => ?_) (fun hc => ?_)
  · replace hf := nIf_t hc hf
    refine lv_iload_n hx hb dX11_next_151 rfl (lv_at hl 1 rfl) ?_
    refine lv_bipush (v := 9) hx hb dX11_next_152 (by decide) ?_
    refine lv_icmp_ge (tgt := 269) hx hb dX11_next_154 (by decide) (fun hc => ?_) (fun hc => ?_)
    · replace hf := nIf_t hc hf
      exact nb_vret hx hb hr hlocks hP hS (nSo hf) dX11_next_269
    · replace hf := nIf_f hc hf
      refine lv_aload_n hx hb dX11_next_157 rfl (lv_at hl 0 rfl) ?_
      refine lv_iconst (v := 2) hx hb dX11_next_158 (by decide) ?_
      refine nb_put (ci := 11) hx hb hts iX11_next_X11 tyX11 tyX11_ok nmX11 hown hE hP hS 0 mbo_0 rfl 22 (by decide) qX11_next_170 rfl rfl rfl rfl (Nat.le_of_ble_eq_true rfl) dX11_next_159 (mbp_0_22 _) (fun σ5 eσ5 H locs hP hS => ?_)
      replace hf := nLet_e hf eσ5
      refine lv_goto (tgt := 269) hx hb dX11_next_162 (by decide) ?_
      exact nb_vret hx hb hr hlocks hP hS (nSo hf) dX11_next_269
  · replace hf := nIf_f hc hf
    refine lv_iload_n hx hb dX11_next_102 rfl (lv_at hl 1 rfl) ?_
    refine lv_bipush (v := 8) hx hb dX11_next_103 (by decide) ?_
    refine lv_icmp_ge (tgt := 135) hx hb dX11_next_105 (by decide) (fun hc => ?_) (fun hc => ?_)
    · replace hf := nIf_t hc hf
      exact K135 σ4 x2 H locs ls (lv_sub hl [0, 1] rfl) hP hS hf
    · replace hf := nIf_f hc hf
      refine lv_aload_n hx hb dX11_next_108 rfl (lv_at hl 0 rfl) ?_
      refine lv_ldc2 (v := 32) hx hb hown (hts (.constantLong RX11 157 32) (by decide +kernel)) dX11_next_109 ?_
      refine lv_aload_n hx hb dX11_next_112 rfl (lv_at hl 0 rfl) ?_
      refine nb_get (ci := 11) hx hb hts iX11_next_X11 hown hE hP 0 mbo_0 rfl 26 (by decide) qX11_next_177 rfl rfl dX11_next_113 ?_
      refine lv_lmul hx hb dX11_next_116 ?_
      refine lv_topl (fun v6 ev6 => ?_)
      replace hf := nLet_e hf ev6
      refine lv_aload_n hx hb dX11_next_117 rfl (lv_at hl 0 rfl) ?_
      refine lv_aload_n hx hb dX11_next_118 rfl (lv_at hl 0 rfl) ?_
      refine nb_get (ci := 11) hx hb hts iX11_next_X11 hown hE hP 0 mbo_0 rfl 21 (by decide) qX11_next_163 rfl rfl dX11_next_119 ?_
      obtain ⟨r7, σ8, hc8, hf⟩ := nBd_e hf
      refine nb_callVi (As := [.int (σ4.1 0 21)]) (rest := [.long v6, .ref (a 0)]) ⟨hx, hb, hml, hown, hts⟩ (c_X11_byteAt (D := D) (A := A) (cy := cy) (a := a) (kt := kt) (vt := vt) (l := l)  hc8) (cwV 1 hts gX11_next_X11_byteAt rfl rfl rfl (by decide +kernel) ⟨Nat.le_of_ble_eq_true rfl, Nat.le_of_ble_eq_true rfl⟩) hE hP hS mbo_0 rfl rfl hl.1 rfl (Nat.le_of_ble_eq_true rfl) dX11_next_122 (fun H locs hP hS => ?_)
      refine lv_bipush (v := 97) hx hb dX11_next_125 (by decide) ?_
      refine lv_isub hx hb dX11_next_127 ?_
      refine lv_topi (fun v9 ev9 => ?_)
      replace hf := nLet_e hf ev9
      refine lv_iconst (v := 1) hx hb dX11_next_128 (by decide) ?_
      refine lv_iadd hx hb dX11_next_129 ?_
      refine lv_topi (fun v10 ev10 => ?_)
      replace hf := nLet_e hf ev10
      refine lv_i2l hx hb dX11_next_130 rfl ?_
      refine lv_topl (fun v11 ev11 => ?_)
      replace hf := nLet_e hf ev11
      refine lv_ladd hx hb dX11_next_131 ?_
      refine lv_topl (fun v12 ev12 => ?_)
      replace hf := nLet_e hf ev12
      refine nb_putL (ci := 11) hx hb hts iX11_next_X11 tyX11 tyX11_ok nmX11 hown hE hP hS 0 mbo_0 rfl 26 (by decide) qX11_next_177 rfl rfl rfl rfl (Nat.le_of_ble_eq_true rfl) dX11_next_132 (mbp_0_26 _) (fun σ13 eσ13 H locs hP hS => ?_)
      replace hf := nLet_e hf eσ13
      exact K135 σ13 x2 H locs ls (lv_sub hl [0, 1] rfl) hP hS hf
def b_X11_next_26 (N : Nat) (k0 : nS → Option (Int32 × nS)) (σ : nS) : Option (Int32 × nS) := nLet ((σ.1 0 21) + (1 : Int32) : Int32) (fun v1 => nLet (wr σ 0 21 v1) (fun σ2 => k0 σ2))
set_option maxHeartbeats 4000000 in
set_option maxRecDepth 100000 in
theorem kb_X11_next_26 {p : Program} {l : Launch} {e : Env} {s : State} {m : MethodId} {args : Array Value} {below : List Frame} {meth : Method} {c : Code} {D : va_G} {A : Nat → Prop} {cy : Nat → ClassId} {a kt vt : Nat → Nat} {N : Nat}   (C0 : nCx p s m args meth c cX11_next 3 none RX11 wsX11_next) (hE : nEn D A cy (Mw cy a) kt vt s) {z : Int32 × nS} {k0 : nS → Option (Int32 × nS)} (K0 : ∀ (σ : nS) (H : Heap) (locs : List Loc) (ls : Array Slot), lv_has ls 3 [(0, .ref (a 0))] → va_P D vwCl ((Mw cy a) σ) H → va_S A s.heap H locs → k0 σ = some z → W p l e ({ frames := 1, cells := 0, slots := 0, locals := 21 } : Room) s m args below meth c H locs 0 0 (nQv below D A (Mw cy a) args s z) (F0 m 0 ls [])) : ∀ (σ : nS) (H : Heap) (locs : List Loc) (ls : Array Slot), lv_has ls 3 [(0, .ref (a 0))] → va_P D vwCl ((Mw cy a) σ) H → va_S A s.heap H locs → b_X11_next_26 N k0 σ = some z → W p l e ({ frames := 1, cells := 0, slots := 0, locals := 21 } : Room) s m args below meth c H locs 0 0 (nQv below D A (Mw cy a) args s z) (F0 m 26 ls []) := by
  obtain ⟨hx, hb, hr, hml, hown, hts, hlocks⟩ := C0
  intro σ  H locs ls hl hP hS hf
  unfold b_X11_next_26 at hf
  refine lv_aload_n hx hb dX11_next_26 rfl (lv_at hl 0 rfl) ?_
  refine lv_dup hx hb dX11_next_27 rfl ?_
  refine nb_get (ci := 11) hx hb hts iX11_next_X11 hown hE hP 0 mbo_0 rfl 21 (by decide) qX11_next_163 rfl rfl dX11_next_28 ?_
  refine lv_iconst (v := 1) hx hb dX11_next_31 (by decide) ?_
  refine lv_iadd hx hb dX11_next_32 ?_
  refine lv_topi (fun v1 ev1 => ?_)
  replace hf := nLet_e hf ev1
  refine nb_put (ci := 11) hx hb hts iX11_next_X11 tyX11 tyX11_ok nmX11 hown hE hP hS 0 mbo_0 rfl 21 (by decide) qX11_next_163 rfl rfl rfl rfl (Nat.le_of_ble_eq_true rfl) dX11_next_33 (mbp_0_21 _) (fun σ2 eσ2 H locs hP hS => ?_)
  replace hf := nLet_e hf eσ2
  refine lv_goto (tgt := 0) hx hb dX11_next_36 (by decide) ?_
  exact K0 σ2 H locs ls (lv_sub hl [0] rfl) hP hS hf
def b_X11_next_0 (N : Nat) (k26 : nS → Option (Int32 × nS)) (k88 : nS → Int32 → Option (Int32 × nS)) (k177 : nS → Int32 → Option (Int32 × nS)) (σ : nS) : Option (Int32 × nS) := nBd (f_X11_byteAt N (σ.1 0 21) σ) (fun r1 σ2 => (if r1 = 32 then k26 σ2 else nBd (f_X11_byteAt N (σ2.1 0 21) σ2) (fun r3 σ4 => (if r3 = 10 then k26 σ4 else nLet (wr σ4 0 23 (σ4.1 0 21)) (fun σ5 => nLet (wr σ5 0 22 0) (fun σ6 => nBd (f_X11_byteAt N (σ6.1 0 21) σ6) (fun r7 σ8 => (if r7 = (-1) then nLet (wr σ8 0 22 1) (fun σ18 => some (0, σ18)) else nBd (f_X11_isLetter N r7 σ8) (fun r9 σ10 => (if r9 = 0 then nBd (f_X11_isDigit N r7 σ10) (fun r11 σ12 => (if r11 = 0 then (if r7 = 59 then nLet (wr σ12 0 22 4) (fun σ13 => nLet ((σ13.1 0 21) + (1 : Int32) : Int32) (fun v14 => nLet (wr σ13 0 21 v14) (fun σ15 => some (0, σ15)))) else some (0, σ12)) else nLet (wr σ12 0 24 0) (fun σ16 => k177 σ16 0))) else nLet (wl σ10 0 26 0) (fun σ17 => k88 σ17 0)))))))))))
set_option maxHeartbeats 4000000 in
set_option maxRecDepth 100000 in
theorem kb_X11_next_0 {p : Program} {l : Launch} {e : Env} {s : State} {m : MethodId} {args : Array Value} {below : List Frame} {meth : Method} {c : Code} {D : va_G} {A : Nat → Prop} {cy : Nat → ClassId} {a kt vt : Nat → Nat} {N : Nat}   (C0 : nCx p s m args meth c cX11_next 3 none RX11 wsX11_next) (hE : nEn D A cy (Mw cy a) kt vt s) {z : Int32 × nS} {k26 : nS → Option (Int32 × nS)} (K26 : ∀ (σ : nS) (H : Heap) (locs : List Loc) (ls : Array Slot), lv_has ls 3 [(0, .ref (a 0))] → va_P D vwCl ((Mw cy a) σ) H → va_S A s.heap H locs → k26 σ = some z → W p l e ({ frames := 1, cells := 0, slots := 0, locals := 21 } : Room) s m args below meth c H locs 0 0 (nQv below D A (Mw cy a) args s z) (F0 m 26 ls [])) {k88 : nS → Int32 → Option (Int32 × nS)} (K88 : ∀ (σ : nS) (x2 : Int32) (H : Heap) (locs : List Loc) (ls : Array Slot), lv_has ls 3 [(0, .ref (a 0)), (2, .int x2)] → va_P D vwCl ((Mw cy a) σ) H → va_S A s.heap H locs → k88 σ x2 = some z → W p l e ({ frames := 1, cells := 0, slots := 0, locals := 21 } : Room) s m args below meth c H locs 0 0 (nQv below D A (Mw cy a) args s z) (F0 m 88 ls [])) {k177 : nS → Int32 → Option (Int32 × nS)} (K177 : ∀ (σ : nS) (x2 : Int32) (H : Heap) (locs : List Loc) (ls : Array Slot), lv_has ls 3 [(0, .ref (a 0)), (2, .int x2)] → va_P D vwCl ((Mw cy a) σ) H → va_S A s.heap H locs → k177 σ x2 = some z → W p l e ({ frames := 1, cells := 0, slots := 0, locals := 21 } : Room) s m args below meth c H locs 0 0 (nQv below D A (Mw cy a) args s z) (F0 m 177 ls [])) : ∀ (σ : nS) (H : Heap) (locs : List Loc) (ls : Array Slot), lv_has ls 3 [(0, .ref (a 0))] → va_P D vwCl ((Mw cy a) σ) H → va_S A s.heap H locs → b_X11_next_0 N k26 k88 k177 σ = some z → W p l e ({ frames := 1, cells := 0, slots := 0, locals := 21 } : Room) s m args below meth c H locs 0 0 (nQv below D A (Mw cy a) args s z) (F0 m 0 ls []) := by
  obtain ⟨hx, hb, hr, hml, hown, hts, hlocks⟩ := C0
  intro σ  H locs ls hl hP hS hf
  unfold b_X11_next_0 at hf
  refine lv_aload_n hx hb dX11_next_0 rfl (lv_at hl 0 rfl) ?_
  refine lv_aload_n hx hb dX11_next_1 rfl (lv_at hl 0 rfl) ?_
  refine nb_get (ci := 11) hx hb hts iX11_next_X11 hown hE hP 0 mbo_0 rfl 21 (by decide) qX11_next_163 rfl rfl dX11_next_2 ?_
  obtain ⟨r1, σ2, hc2, hf⟩ := nBd_e hf
  refine nb_callVi (As := [.int (σ.1 0 21)]) (rest := []) ⟨hx, hb, hml, hown, hts⟩ (c_X11_byteAt (D := D) (A := A) (cy := cy) (a := a) (kt := kt) (vt := vt) (l := l)  hc2) (cwV 1 hts gX11_next_X11_byteAt rfl rfl rfl (by decide +kernel) ⟨Nat.le_of_ble_eq_true rfl, Nat.le_of_ble_eq_true rfl⟩) hE hP hS mbo_0 rfl rfl hl.1 rfl (Nat.le_of_ble_eq_true rfl) dX11_next_5 (fun H locs hP hS => ?_)
  refine lv_bipush (v := 32) hx hb dX11_next_8 (by decide) ?_
  refine lv_icmp_eq (tgt := 26) hx hb dX11_next_10 (by decide) (fun hc => ?_) (fun hc => ?_)
  · replace hf := nIf_t hc hf
    exact K26 σ2 H locs ls (lv_sub hl [0] rfl) hP hS hf
  · replace hf := nIf_f hc hf
    refine lv_aload_n hx hb dX11_next_13 rfl (lv_at hl 0 rfl) ?_
    refine lv_aload_n hx hb dX11_next_14 rfl (lv_at hl 0 rfl) ?_
    refine nb_get (ci := 11) hx hb hts iX11_next_X11 hown hE hP 0 mbo_0 rfl 21 (by decide) qX11_next_163 rfl rfl dX11_next_15 ?_
    obtain ⟨r3, σ4, hc4, hf⟩ := nBd_e hf
    refine nb_callVi (As := [.int (σ2.1 0 21)]) (rest := []) ⟨hx, hb, hml, hown, hts⟩ (c_X11_byteAt (D := D) (A := A) (cy := cy) (a := a) (kt := kt) (vt := vt) (l := l)  hc4) (cwV 1 hts gX11_next_X11_byteAt rfl rfl rfl (by decide +kernel) ⟨Nat.le_of_ble_eq_true rfl, Nat.le_of_ble_eq_true rfl⟩) hE hP hS mbo_0 rfl rfl hl.1 rfl (Nat.le_of_ble_eq_true rfl) dX11_next_18 (fun H locs hP hS => ?_)
    refine lv_bipush (v := 10) hx hb dX11_next_21 (by decide) ?_
    refine lv_icmp_ne (tgt := 39) hx hb dX11_next_23 (by decide) (fun hc => ?_) (fun hc => ?_)
    · replace hf := nIf_f hc hf
      refine lv_aload_n hx hb dX11_next_39 rfl (lv_at hl 0 rfl) ?_
      refine lv_aload_n hx hb dX11_next_40 rfl (lv_at hl 0 rfl) ?_
      refine nb_get (ci := 11) hx hb hts iX11_next_X11 hown hE hP 0 mbo_0 rfl 21 (by decide) qX11_next_163 rfl rfl dX11_next_41 ?_
      refine nb_put (ci := 11) hx hb hts iX11_next_X11 tyX11 tyX11_ok nmX11 hown hE hP hS 0 mbo_0 rfl 23 (by decide) qX11_next_169 rfl rfl rfl rfl (Nat.le_of_ble_eq_true rfl) dX11_next_44 (mbp_0_23 _) (fun σ5 eσ5 H locs hP hS => ?_)
      replace hf := nLet_e hf eσ5
      refine lv_aload_n hx hb dX11_next_47 rfl (lv_at hl 0 rfl) ?_
      refine lv_iconst (v := 0) hx hb dX11_next_48 (by decide) ?_
      refine nb_put (ci := 11) hx hb hts iX11_next_X11 tyX11 tyX11_ok nmX11 hown hE hP hS 0 mbo_0 rfl 22 (by decide) qX11_next_170 rfl rfl rfl rfl (Nat.le_of_ble_eq_true rfl) dX11_next_49 (mbp_0_22 _) (fun σ6 eσ6 H locs hP hS => ?_)
      replace hf := nLet_e hf eσ6
      refine lv_aload_n hx hb dX11_next_52 rfl (lv_at hl 0 rfl) ?_
      refine lv_aload_n hx hb dX11_next_53 rfl (lv_at hl 0 rfl) ?_
      refine nb_get (ci := 11) hx hb hts iX11_next_X11 hown hE hP 0 mbo_0 rfl 21 (by decide) qX11_next_163 rfl rfl dX11_next_54 ?_
      obtain ⟨r7, σ8, hc8, hf⟩ := nBd_e hf
      refine nb_callVi (As := [.int (σ6.1 0 21)]) (rest := []) ⟨hx, hb, hml, hown, hts⟩ (c_X11_byteAt (D := D) (A := A) (cy := cy) (a := a) (kt := kt) (vt := vt) (l := l)  hc8) (cwV 1 hts gX11_next_X11_byteAt rfl rfl rfl (by decide +kernel) ⟨Nat.le_of_ble_eq_true rfl, Nat.le_of_ble_eq_true rfl⟩) hE hP hS mbo_0 rfl rfl hl.1 rfl (Nat.le_of_ble_eq_true rfl) dX11_next_57 (fun H locs hP hS => ?_)
      refine lv_istore_n (lv' := [(1, .int r7), (0, .ref (a 0))]) hx hb dX11_next_60 rfl hl (by decide) rfl (fun ls hl => ?_)
      refine lv_iconst (v := 0) hx hb dX11_next_61 (by decide) ?_
      refine lv_istore_n (lv' := [(2, .int 0), (1, .int r7), (0, .ref (a 0))]) hx hb dX11_next_62 rfl hl (by decide) rfl (fun ls hl => ?_)
      refine lv_iload_n hx hb dX11_next_63 rfl (lv_at hl 1 rfl) ?_
      refine lv_iconst (v := (-1)) hx hb dX11_next_64 (by decide) ?_
      refine lv_icmp_ne (tgt := 76) hx hb dX11_next_65 (by decide) (fun hc => ?_) (fun hc => ?_)
      · replace hf := nIf_f hc hf
        refine lv_iload_n hx hb dX11_next_76 rfl (lv_at hl 1 rfl) ?_
        obtain ⟨r9, σ10, hc10, hf⟩ := nBd_e hf
        refine nb_callSi (As := [.int r7]) (rest := []) ⟨hx, hb, hml, hown, hts⟩ (c_X11_isLetter (D := D) (A := A) (cy := cy) (a := a) (kt := kt) (vt := vt) (l := l)  hc10) (va_cwS 1 hts gX11_next_X11_isLetter rfl rfl rfl (by decide +kernel) ⟨Nat.le_of_ble_eq_true rfl, Nat.le_of_ble_eq_true rfl⟩) hE hP hS rfl hl.1 rfl (Nat.le_of_ble_eq_true rfl) dX11_next_77 (fun H locs hP hS => ?_)
        refine lv_if_eq (tgt := 165) hx hb dX11_next_80 (by decide) (fun hc => ?_) (fun hc => ?_)
        · replace hf := nIf_t hc hf
          refine lv_iload_n hx hb dX11_next_165 rfl (lv_at hl 1 rfl) ?_
          obtain ⟨r11, σ12, hc12, hf⟩ := nBd_e hf
          refine nb_callSi (As := [.int r7]) (rest := []) ⟨hx, hb, hml, hown, hts⟩ (c_X11_isDigit (D := D) (A := A) (cy := cy) (a := a) (kt := kt) (vt := vt) (l := l)  hc12) (va_cwS 1 hts gX11_next_X11_isDigit rfl rfl rfl (by decide +kernel) ⟨Nat.le_of_ble_eq_true rfl, Nat.le_of_ble_eq_true rfl⟩) hE hP hS rfl hl.1 rfl (Nat.le_of_ble_eq_true rfl) dX11_next_166 (fun H locs hP hS => ?_)
          refine lv_if_eq (tgt := 248) hx hb dX11_next_169 (by decide) (fun hc => ?_) (fun hc => ?_)
          · replace hf := nIf_t hc hf
            refine lv_iload_n hx hb dX11_next_248 rfl (lv_at hl 1 rfl) ?_
            refine lv_bipush (v := 59) hx hb dX11_next_249 (by decide) ?_
            refine lv_icmp_ne (tgt := 269) hx hb dX11_next_251 (by decide) (fun hc => ?_) (fun hc => ?_)
            · replace hf := nIf_f hc hf
              exact nb_vret hx hb hr hlocks hP hS (nSo hf) dX11_next_269
            · replace hf := nIf_t hc hf
              refine lv_aload_n hx hb dX11_next_254 rfl (lv_at hl 2 rfl) ?_
              refine lv_iconst (v := 4) hx hb dX11_next_255 (by decide) ?_
              refine nb_put (ci := 11) hx hb hts iX11_next_X11 tyX11 tyX11_ok nmX11 hown hE hP hS 0 mbo_0 rfl 22 (by decide) qX11_next_170 rfl rfl rfl rfl (Nat.le_of_ble_eq_true rfl) dX11_next_256 (mbp_0_22 _) (fun σ13 eσ13 H locs hP hS => ?_)
              replace hf := nLet_e hf eσ13
              refine lv_aload_n hx hb dX11_next_259 rfl (lv_at hl 2 rfl) ?_
              refine lv_dup hx hb dX11_next_260 rfl ?_
              refine nb_get (ci := 11) hx hb hts iX11_next_X11 hown hE hP 0 mbo_0 rfl 21 (by decide) qX11_next_163 rfl rfl dX11_next_261 ?_
              refine lv_iconst (v := 1) hx hb dX11_next_264 (by decide) ?_
              refine lv_iadd hx hb dX11_next_265 ?_
              refine lv_topi (fun v14 ev14 => ?_)
              replace hf := nLet_e hf ev14
              refine nb_put (ci := 11) hx hb hts iX11_next_X11 tyX11 tyX11_ok nmX11 hown hE hP hS 0 mbo_0 rfl 21 (by decide) qX11_next_163 rfl rfl rfl rfl (Nat.le_of_ble_eq_true rfl) dX11_next_266 (mbp_0_21 _) (fun σ15 eσ15 H locs hP hS => ?_)
              replace hf := nLet_e hf eσ15
              exact nb_vret hx hb hr hlocks hP hS (nSo hf) dX11_next_269
          · replace hf := nIf_f hc hf
            refine lv_aload_n hx hb dX11_next_172 rfl (lv_at hl 2 rfl) ?_
            refine lv_iconst (v := 0) hx hb dX11_next_173 (by decide) ?_
            refine nb_put (ci := 11) hx hb hts iX11_next_X11 tyX11 tyX11_ok nmX11 hown hE hP hS 0 mbo_0 rfl 24 (by decide) qX11_next_184 rfl rfl rfl rfl (Nat.le_of_ble_eq_true rfl) dX11_next_174 (mbp_0_24 _) (fun σ16 eσ16 H locs hP hS => ?_)
            replace hf := nLet_e hf eσ16
            exact K177 σ16 0 H locs ls (lv_sub hl [2, 0] rfl) hP hS hf
        · replace hf := nIf_f hc hf
          refine lv_aload_n hx hb dX11_next_83 rfl (lv_at hl 2 rfl) ?_
          refine lv_lconst (v := 0) hx hb dX11_next_84 (by decide) ?_
          refine nb_putL (ci := 11) hx hb hts iX11_next_X11 tyX11 tyX11_ok nmX11 hown hE hP hS 0 mbo_0 rfl 26 (by decide) qX11_next_177 rfl rfl rfl rfl (Nat.le_of_ble_eq_true rfl) dX11_next_85 (mbp_0_26 _) (fun σ17 eσ17 H locs hP hS => ?_)
          replace hf := nLet_e hf eσ17
          exact K88 σ17 0 H locs ls (lv_sub hl [2, 0] rfl) hP hS hf
      · replace hf := nIf_t hc hf
        refine lv_aload_n hx hb dX11_next_68 rfl (lv_at hl 2 rfl) ?_
        refine lv_iconst (v := 1) hx hb dX11_next_69 (by decide) ?_
        refine nb_put (ci := 11) hx hb hts iX11_next_X11 tyX11 tyX11_ok nmX11 hown hE hP hS 0 mbo_0 rfl 22 (by decide) qX11_next_170 rfl rfl rfl rfl (Nat.le_of_ble_eq_true rfl) dX11_next_70 (mbp_0_22 _) (fun σ18 eσ18 H locs hP hS => ?_)
        replace hf := nLet_e hf eσ18
        refine lv_goto (tgt := 269) hx hb dX11_next_73 (by decide) ?_
        exact nb_vret hx hb hr hlocks hP hS (nSo hf) dX11_next_269
    · replace hf := nIf_t hc hf
      exact K26 σ4 H locs ls (lv_sub hl [0] rfl) hP hS hf
def l_X11_next_219 (N : Nat) (k177 : nS → Int32 → Option (Int32 × nS)) : nS → Int32 → Option (Int32 × nS) := b_X11_next_219 N k177
theorem kl_X11_next_219 {p : Program} {l : Launch} {e : Env} {s : State} {m : MethodId} {args : Array Value} {below : List Frame} {meth : Method} {c : Code} {D : va_G} {A : Nat → Prop} {cy : Nat → ClassId} {a kt vt : Nat → Nat} {N : Nat}   (C0 : nCx p s m args meth c cX11_next 3 none RX11 wsX11_next) (hE : nEn D A cy (Mw cy a) kt vt s) {z : Int32 × nS} {k177 : nS → Int32 → Option (Int32 × nS)} (K177 : ∀ (σ : nS) (x2 : Int32) (H : Heap) (locs : List Loc) (ls : Array Slot), lv_has ls 3 [(0, .ref (a 0)), (2, .int x2)] → va_P D vwCl ((Mw cy a) σ) H → va_S A s.heap H locs → k177 σ x2 = some z → W p l e ({ frames := 1, cells := 0, slots := 0, locals := 21 } : Room) s m args below meth c H locs 0 0 (nQv below D A (Mw cy a) args s z) (F0 m 177 ls [])) : ∀ (σ : nS) (x2 : Int32) (H : Heap) (locs : List Loc) (ls : Array Slot), lv_has ls 3 [(0, .ref (a 0)), (2, .int x2)] → va_P D vwCl ((Mw cy a) σ) H → va_S A s.heap H locs → l_X11_next_219 N k177 σ x2 = some z → W p l e ({ frames := 1, cells := 0, slots := 0, locals := 21 } : Room) s m args below meth c H locs 0 0 (nQv below D A (Mw cy a) args s z) (F0 m 219 ls []) := by
  exact kb_X11_next_219 (N := N)  C0 hE K177
def l_X11_next_135 (N : Nat) (k88 : nS → Int32 → Option (Int32 × nS)) : nS → Int32 → Option (Int32 × nS) := b_X11_next_135 N k88
theorem kl_X11_next_135 {p : Program} {l : Launch} {e : Env} {s : State} {m : MethodId} {args : Array Value} {below : List Frame} {meth : Method} {c : Code} {D : va_G} {A : Nat → Prop} {cy : Nat → ClassId} {a kt vt : Nat → Nat} {N : Nat}   (C0 : nCx p s m args meth c cX11_next 3 none RX11 wsX11_next) (hE : nEn D A cy (Mw cy a) kt vt s) {z : Int32 × nS} {k88 : nS → Int32 → Option (Int32 × nS)} (K88 : ∀ (σ : nS) (x2 : Int32) (H : Heap) (locs : List Loc) (ls : Array Slot), lv_has ls 3 [(0, .ref (a 0)), (2, .int x2)] → va_P D vwCl ((Mw cy a) σ) H → va_S A s.heap H locs → k88 σ x2 = some z → W p l e ({ frames := 1, cells := 0, slots := 0, locals := 21 } : Room) s m args below meth c H locs 0 0 (nQv below D A (Mw cy a) args s z) (F0 m 88 ls [])) : ∀ (σ : nS) (x2 : Int32) (H : Heap) (locs : List Loc) (ls : Array Slot), lv_has ls 3 [(0, .ref (a 0)), (2, .int x2)] → va_P D vwCl ((Mw cy a) σ) H → va_S A s.heap H locs → l_X11_next_135 N k88 σ x2 = some z → W p l e ({ frames := 1, cells := 0, slots := 0, locals := 21 } : Room) s m args below meth c H locs 0 0 (nQv below D A (Mw cy a) args s z) (F0 m 135 ls []) := by
  exact kb_X11_next_135 (N := N)  C0 hE K88
def l_X11_next_177 (N : Nat) : nS → Int32 → Option (Int32 × nS) := nLp (fun _ _ => none) (fun again => b_X11_next_177 N (l_X11_next_219 N again)) N
theorem kl_X11_next_177 {p : Program} {l : Launch} {e : Env} {s : State} {m : MethodId} {args : Array Value} {below : List Frame} {meth : Method} {c : Code} {D : va_G} {A : Nat → Prop} {cy : Nat → ClassId} {a kt vt : Nat → Nat} {N : Nat}   (C0 : nCx p s m args meth c cX11_next 3 none RX11 wsX11_next) (hE : nEn D A cy (Mw cy a) kt vt s) {z : Int32 × nS} : ∀ (σ : nS) (x2 : Int32) (H : Heap) (locs : List Loc) (ls : Array Slot), lv_has ls 3 [(0, .ref (a 0)), (2, .int x2)] → va_P D vwCl ((Mw cy a) σ) H → va_S A s.heap H locs → l_X11_next_177 N σ x2 = some z → W p l e ({ frames := 1, cells := 0, slots := 0, locals := 21 } : Room) s m args below meth c H locs 0 0 (nQv below D A (Mw cy a) args s z) (F0 m 177 ls []) := by
  have main : ∀ (fu : Nat), ∀ (σ : nS) (x2 : Int32) (H : Heap) (locs : List Loc) (ls : Array Slot), lv_has ls 3 [(0, .ref (a 0)), (2, .int x2)] → va_P D vwCl ((Mw cy a) σ) H → va_S A s.heap H locs → nLp (fun _ _ => none) (fun again => b_X11_next_177 N (l_X11_next_219 N again)) fu σ x2 = some z → W p l e ({ frames := 1, cells := 0, slots := 0, locals := 21 } : Room) s m args below meth c H locs 0 0 (nQv below D A (Mw cy a) args s z) (F0 m 177 ls []) := by
    intro fu
    induction fu with
    | zero => intro σ x2 H locs ls hl hP hS hf; cases hf
    | succ fu ih => exact kb_X11_next_177 (N := N)  C0 hE (kl_X11_next_219 (N := N)  C0 hE ih)
  exact main N
def l_X11_next_88 (N : Nat) : nS → Int32 → Option (Int32 × nS) := nLp (fun _ _ => none) (fun again => b_X11_next_88 N (l_X11_next_135 N again)) N
theorem kl_X11_next_88 {p : Program} {l : Launch} {e : Env} {s : State} {m : MethodId} {args : Array Value} {below : List Frame} {meth : Method} {c : Code} {D : va_G} {A : Nat → Prop} {cy : Nat → ClassId} {a kt vt : Nat → Nat} {N : Nat}   (C0 : nCx p s m args meth c cX11_next 3 none RX11 wsX11_next) (hE : nEn D A cy (Mw cy a) kt vt s) {z : Int32 × nS} : ∀ (σ : nS) (x2 : Int32) (H : Heap) (locs : List Loc) (ls : Array Slot), lv_has ls 3 [(0, .ref (a 0)), (2, .int x2)] → va_P D vwCl ((Mw cy a) σ) H → va_S A s.heap H locs → l_X11_next_88 N σ x2 = some z → W p l e ({ frames := 1, cells := 0, slots := 0, locals := 21 } : Room) s m args below meth c H locs 0 0 (nQv below D A (Mw cy a) args s z) (F0 m 88 ls []) := by
  have main : ∀ (fu : Nat), ∀ (σ : nS) (x2 : Int32) (H : Heap) (locs : List Loc) (ls : Array Slot), lv_has ls 3 [(0, .ref (a 0)), (2, .int x2)] → va_P D vwCl ((Mw cy a) σ) H → va_S A s.heap H locs → nLp (fun _ _ => none) (fun again => b_X11_next_88 N (l_X11_next_135 N again)) fu σ x2 = some z → W p l e ({ frames := 1, cells := 0, slots := 0, locals := 21 } : Room) s m args below meth c H locs 0 0 (nQv below D A (Mw cy a) args s z) (F0 m 88 ls []) := by
    intro fu
    induction fu with
    | zero => intro σ x2 H locs ls hl hP hS hf; cases hf
    | succ fu ih => exact kb_X11_next_88 (N := N)  C0 hE (kl_X11_next_135 (N := N)  C0 hE ih)
  exact main N
def l_X11_next_26 (N : Nat) (k0 : nS → Option (Int32 × nS)) : nS → Option (Int32 × nS) := b_X11_next_26 N k0
theorem kl_X11_next_26 {p : Program} {l : Launch} {e : Env} {s : State} {m : MethodId} {args : Array Value} {below : List Frame} {meth : Method} {c : Code} {D : va_G} {A : Nat → Prop} {cy : Nat → ClassId} {a kt vt : Nat → Nat} {N : Nat}   (C0 : nCx p s m args meth c cX11_next 3 none RX11 wsX11_next) (hE : nEn D A cy (Mw cy a) kt vt s) {z : Int32 × nS} {k0 : nS → Option (Int32 × nS)} (K0 : ∀ (σ : nS) (H : Heap) (locs : List Loc) (ls : Array Slot), lv_has ls 3 [(0, .ref (a 0))] → va_P D vwCl ((Mw cy a) σ) H → va_S A s.heap H locs → k0 σ = some z → W p l e ({ frames := 1, cells := 0, slots := 0, locals := 21 } : Room) s m args below meth c H locs 0 0 (nQv below D A (Mw cy a) args s z) (F0 m 0 ls [])) : ∀ (σ : nS) (H : Heap) (locs : List Loc) (ls : Array Slot), lv_has ls 3 [(0, .ref (a 0))] → va_P D vwCl ((Mw cy a) σ) H → va_S A s.heap H locs → l_X11_next_26 N k0 σ = some z → W p l e ({ frames := 1, cells := 0, slots := 0, locals := 21 } : Room) s m args below meth c H locs 0 0 (nQv below D A (Mw cy a) args s z) (F0 m 26 ls []) := by
  exact kb_X11_next_26 (N := N)  C0 hE K0
def l_X11_next_0 (N : Nat) : nS → Option (Int32 × nS) := nLp (fun _ => none) (fun again => b_X11_next_0 N (l_X11_next_26 N again) (l_X11_next_88 N) (l_X11_next_177 N)) N
theorem kl_X11_next_0 {p : Program} {l : Launch} {e : Env} {s : State} {m : MethodId} {args : Array Value} {below : List Frame} {meth : Method} {c : Code} {D : va_G} {A : Nat → Prop} {cy : Nat → ClassId} {a kt vt : Nat → Nat} {N : Nat}   (C0 : nCx p s m args meth c cX11_next 3 none RX11 wsX11_next) (hE : nEn D A cy (Mw cy a) kt vt s) {z : Int32 × nS} : ∀ (σ : nS) (H : Heap) (locs : List Loc) (ls : Array Slot), lv_has ls 3 [(0, .ref (a 0))] → va_P D vwCl ((Mw cy a) σ) H → va_S A s.heap H locs → l_X11_next_0 N σ = some z → W p l e ({ frames := 1, cells := 0, slots := 0, locals := 21 } : Room) s m args below meth c H locs 0 0 (nQv below D A (Mw cy a) args s z) (F0 m 0 ls []) := by
  have main : ∀ (fu : Nat), ∀ (σ : nS) (H : Heap) (locs : List Loc) (ls : Array Slot), lv_has ls 3 [(0, .ref (a 0))] → va_P D vwCl ((Mw cy a) σ) H → va_S A s.heap H locs → nLp (fun _ => none) (fun again => b_X11_next_0 N (l_X11_next_26 N again) (l_X11_next_88 N) (l_X11_next_177 N)) fu σ = some z → W p l e ({ frames := 1, cells := 0, slots := 0, locals := 21 } : Room) s m args below meth c H locs 0 0 (nQv below D A (Mw cy a) args s z) (F0 m 0 ls []) := by
    intro fu
    induction fu with
    | zero => intro σ  H locs ls hl hP hS hf; cases hf
    | succ fu ih => exact kb_X11_next_0 (N := N)  C0 hE (kl_X11_next_26 (N := N)  C0 hE ih) (kl_X11_next_88 (N := N)  C0 hE) (kl_X11_next_177 (N := N)  C0 hE)
  exact main N
def f_X11_next (N : Nat) (σ : nS) : Option (Int32 × nS) := l_X11_next_0 N σ
set_option maxHeartbeats 4000000 in
set_option maxRecDepth 100000 in
theorem c_X11_next {l : Launch} {D : va_G} {A : Nat → Prop} {cy : Nat → ClassId} {a kt vt : Nat → Nat} {N : Nat}   {σ : nS} {r : Int32} {σ' : nS} (hf : f_X11_next N σ = some (r, σ')) : nMv l yX11_next wsX11_next ({ frames := 1, cells := 0, slots := 0, locals := 21 } : Room) D A cy (Mw cy a) kt vt [.ref (a 0)] σ σ' := by
  refine Met.ofW (cc := cX11_next) (maxL := 3) (ret := none) (by decide) rfl ?_
  intro p e s m args below meth c s₁ B hml hv
  obtain ⟨rfl, hP, hE⟩ := hv
  have hl := lv_entry ([.ref (a 0)]) (n := 3) (Nat.le_of_ble_eq_true rfl)
  rw [lg_entry_eq]
  generalize (lg_sl ([.ref (a 0)]) ++ List.replicate (3 - (lg_sl ([.ref (a 0)])).length) Slot.unset).toArray = ls at hl ⊢
  have C0 : nCx p s m _ meth c cX11_next 3 none RX11 wsX11_next := ⟨B.exec, B.bytes, B.returns, hml, findClass_of_methodNamed B.named, atoms_spec (ws := wsX11_next) B.pre, B.notSynchronized⟩
  exact kl_X11_next_0 (N := N)  C0 hE (z := (r, σ')) σ  _ _ ls hl hP va_S.rf hf
/-! X11_isWord -/
set_option maxRecDepth 20000 in
theorem iX11_isWord_X11 : ∀ w ∈ u_ws RX11 TX11 68, w ∈ wsX11_isWord := fun _ h => List.mem_cons_of_mem _ (List.mem_append_right _ h)
set_option maxRecDepth 20000 in
theorem qX11_isWord_170 : Cond.fieldLink RX11 170 RX11 (TX11 22).2.1 (TX11 22).2.2.1 ∈ wsX11_isWord := by decide +kernel
set_option maxRecDepth 20000 in
theorem qX11_isWord_177 : Cond.fieldLink RX11 177 RX11 (TX11 26).2.1 (TX11 26).2.2.1 ∈ wsX11_isWord := by decide +kernel
def b_X11_isWord_0 (N : Nat) (j : Nat) (σ : nS) : Option (Int32 × nS) := (if (σ.1 0 22) = 2 then nBd (f_X11_wordOf N j σ) (fun r1 σ2 => nLet (lg_cmp (σ.2 0 26) r1 : Int32) (fun v3 => (if v3 = 0 then some (1, σ2) else some (0, σ2)))) else some (0, σ))
set_option maxHeartbeats 4000000 in
set_option maxRecDepth 100000 in
theorem kb_X11_isWord_0 {p : Program} {l : Launch} {e : Env} {s : State} {m : MethodId} {args : Array Value} {below : List Frame} {meth : Method} {c : Code} {D : va_G} {A : Nat → Prop} {cy : Nat → ClassId} {a kt vt : Nat → Nat} {N : Nat} {j : Nat} (hj : j < 12) (C0 : nCx p s m args meth c cX11_isWord 2 (some .boolean) RX11 wsX11_isWord) (hE : nEn D A cy (Mw cy a) kt vt s) {z : Int32 × nS} : ∀ (σ : nS) (H : Heap) (locs : List Loc) (ls : Array Slot), lv_has ls 2 [(0, .ref (a 0)), (1, .ref (kt j))] → va_P D vwCl ((Mw cy a) σ) H → va_S A s.heap H locs → b_X11_isWord_0 N j σ = some z → W p l e ({ frames := 5, cells := 0, slots := 0, locals := 108 } : Room) s m args below meth c H locs 0 0 (nQi below D A (Mw cy a) args s z) (F0 m 0 ls []) := by
  obtain ⟨hx, hb, hr, hml, hown, hts, hlocks⟩ := C0
  intro σ  H locs ls hl hP hS hf
  unfold b_X11_isWord_0 at hf
  refine lv_aload_n hx hb dX11_isWord_0 rfl (lv_at hl 0 rfl) ?_
  refine nb_get (ci := 11) hx hb hts iX11_isWord_X11 hown hE hP 0 mbo_0 rfl 22 (by decide) qX11_isWord_170 rfl rfl dX11_isWord_1 ?_
  refine lv_iconst (v := 2) hx hb dX11_isWord_4 (by decide) ?_
  refine lv_icmp_ne (tgt := 24) hx hb dX11_isWord_5 (by decide) (fun hc => ?_) (fun hc => ?_)
  · replace hf := nIf_f hc hf
    refine lv_iconst (v := 0) hx hb dX11_isWord_24 (by decide) ?_
    exact nb_zret hx hb hr hlocks hP hS (nSo hf) rfl dX11_isWord_25
  · replace hf := nIf_t hc hf
    refine lv_aload_n hx hb dX11_isWord_8 rfl (lv_at hl 0 rfl) ?_
    refine nb_get (ci := 11) hx hb hts iX11_isWord_X11 hown hE hP 0 mbo_0 rfl 26 (by decide) qX11_isWord_177 rfl rfl dX11_isWord_9 ?_
    refine lv_aload_n hx hb dX11_isWord_12 rfl (lv_at hl 1 rfl) ?_
    obtain ⟨r1, σ2, hc2, hf⟩ := nBd_e hf
    refine nb_callSl (As := [.ref (kt j)]) (rest := [.long (σ.2 0 26)]) ⟨hx, hb, hml, hown, hts⟩ (c_X11_wordOf (D := D) (A := A) (cy := cy) (a := a) (kt := kt) (vt := vt) (l := l) hj hc2) (va_cwS 1 hts gX11_isWord_X11_wordOf rfl rfl rfl (by decide +kernel) ⟨Nat.le_of_ble_eq_true rfl, Nat.le_of_ble_eq_true rfl⟩) hE hP hS rfl hl.1 rfl (Nat.le_of_ble_eq_true rfl) dX11_isWord_13 (fun H locs hP hS => ?_)
    refine W.lcmp hx hb dX11_isWord_16 ?_
    refine lv_topi (fun v3 ev3 => ?_)
    replace hf := nLet_e hf ev3
    refine lv_if_ne (tgt := 24) hx hb dX11_isWord_17 (by decide) (fun hc => ?_) (fun hc => ?_)
    · replace hf := nIf_f hc hf
      refine lv_iconst (v := 0) hx hb dX11_isWord_24 (by decide) ?_
      exact nb_zret hx hb hr hlocks hP hS (nSo hf) rfl dX11_isWord_25
    · replace hf := nIf_t hc hf
      refine lv_iconst (v := 1) hx hb dX11_isWord_20 (by decide) ?_
      refine lv_goto (tgt := 25) hx hb dX11_isWord_21 (by decide) ?_
      exact nb_zret hx hb hr hlocks hP hS (nSo hf) rfl dX11_isWord_25
def l_X11_isWord_0 (N : Nat) (j : Nat) : nS → Option (Int32 × nS) := b_X11_isWord_0 N j
theorem kl_X11_isWord_0 {p : Program} {l : Launch} {e : Env} {s : State} {m : MethodId} {args : Array Value} {below : List Frame} {meth : Method} {c : Code} {D : va_G} {A : Nat → Prop} {cy : Nat → ClassId} {a kt vt : Nat → Nat} {N : Nat} {j : Nat} (hj : j < 12) (C0 : nCx p s m args meth c cX11_isWord 2 (some .boolean) RX11 wsX11_isWord) (hE : nEn D A cy (Mw cy a) kt vt s) {z : Int32 × nS} : ∀ (σ : nS) (H : Heap) (locs : List Loc) (ls : Array Slot), lv_has ls 2 [(0, .ref (a 0)), (1, .ref (kt j))] → va_P D vwCl ((Mw cy a) σ) H → va_S A s.heap H locs → l_X11_isWord_0 N j σ = some z → W p l e ({ frames := 5, cells := 0, slots := 0, locals := 108 } : Room) s m args below meth c H locs 0 0 (nQi below D A (Mw cy a) args s z) (F0 m 0 ls []) := by
  exact kb_X11_isWord_0 (N := N) hj C0 hE
def f_X11_isWord (N : Nat) (j : Nat) (σ : nS) : Option (Int32 × nS) := l_X11_isWord_0 N j σ
set_option maxHeartbeats 4000000 in
set_option maxRecDepth 100000 in
theorem c_X11_isWord {l : Launch} {D : va_G} {A : Nat → Prop} {cy : Nat → ClassId} {a kt vt : Nat → Nat} {N : Nat} {j : Nat} (hj : j < 12) {σ : nS} {r : Int32} {σ' : nS} (hf : f_X11_isWord N j σ = some (r, σ')) : nMi l yX11_isWord wsX11_isWord ({ frames := 5, cells := 0, slots := 0, locals := 108 } : Room) D A cy (Mw cy a) kt vt [.ref (a 0), .ref (kt j)] σ r σ' := by
  refine Met.ofW (cc := cX11_isWord) (maxL := 2) (ret := (some .boolean)) (by decide) rfl ?_
  intro p e s m args below meth c s₁ B hml hv
  obtain ⟨rfl, hP, hE⟩ := hv
  have hl := lv_entry ([.ref (a 0), .ref (kt j)]) (n := 2) (Nat.le_of_ble_eq_true rfl)
  rw [lg_entry_eq]
  generalize (lg_sl ([.ref (a 0), .ref (kt j)]) ++ List.replicate (2 - (lg_sl ([.ref (a 0), .ref (kt j)])).length) Slot.unset).toArray = ls at hl ⊢
  have C0 : nCx p s m _ meth c cX11_isWord 2 (some .boolean) RX11 wsX11_isWord := ⟨B.exec, B.bytes, B.returns, hml, findClass_of_methodNamed B.named, atoms_spec (ws := wsX11_isWord) B.pre, B.notSynchronized⟩
  exact kl_X11_isWord_0 (N := N) hj C0 hE (z := (r, σ')) σ  _ _ ls hl hP va_S.rf hf
