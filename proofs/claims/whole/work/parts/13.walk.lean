/-! X6_start -/
set_option maxRecDepth 20000 in
theorem iX6_start_X6 : ∀ w ∈ u_ws RX6 TX6 12, w ∈ wsX6_start := fun _ h => List.mem_cons_of_mem _ (List.mem_append_left _ (List.mem_append_right _ h))
set_option maxRecDepth 20000 in
theorem qX6_start_11 : Cond.fieldLink RX6 11 RX6 (TX6 0).2.1 (TX6 0).2.2.1 ∈ wsX6_start := by decide +kernel
set_option maxRecDepth 20000 in
theorem qX6_start_15 : Cond.fieldLink RX6 15 RX6 (TX6 2).2.1 (TX6 2).2.2.1 ∈ wsX6_start := by decide +kernel
set_option maxRecDepth 20000 in
theorem qX6_start_19 : Cond.fieldLink RX6 19 RX6 (TX6 3).2.1 (TX6 3).2.2.1 ∈ wsX6_start := by decide +kernel
set_option maxRecDepth 20000 in
theorem qX6_start_22 : Cond.fieldLink RX6 22 RX6 (TX6 4).2.1 (TX6 4).2.2.1 ∈ wsX6_start := by decide +kernel
set_option maxRecDepth 20000 in
theorem qX6_start_25 : Cond.fieldLink RX6 25 RX6 (TX6 5).2.1 (TX6 5).2.2.1 ∈ wsX6_start := by decide +kernel
set_option maxRecDepth 20000 in
theorem qX6_start_28 : Cond.fieldLink RX6 28 RX6 (TX6 6).2.1 (TX6 6).2.2.1 ∈ wsX6_start := by decide +kernel
set_option maxRecDepth 20000 in
theorem qX6_start_31 : Cond.fieldLink RX6 31 RX6 (TX6 7).2.1 (TX6 7).2.2.1 ∈ wsX6_start := by decide +kernel
set_option maxRecDepth 20000 in
theorem qX6_start_34 : Cond.fieldLink RX6 34 RX6 (TX6 8).2.1 (TX6 8).2.2.1 ∈ wsX6_start := by decide +kernel
set_option maxRecDepth 20000 in
theorem qX6_start_37 : Cond.fieldLink RX6 37 RX6 (TX6 9).2.1 (TX6 9).2.2.1 ∈ wsX6_start := by decide +kernel
set_option maxRecDepth 20000 in
theorem qX6_start_40 : Cond.fieldLink RX6 40 RX6 (TX6 10).2.1 (TX6 10).2.2.1 ∈ wsX6_start := by decide +kernel
set_option maxRecDepth 20000 in
theorem qX6_start_43 : Cond.fieldLink RX6 43 RX6 (TX6 11).2.1 (TX6 11).2.2.1 ∈ wsX6_start := by decide +kernel
def b_X6_start_0 (N : Nat) (w : Nat) (σ : nS) (x2 : Int32) (x3 : Int32) (x4 : Int32) (x5 : Int32) : Option (Int32 × nS) := nBd (f_J7_fill_d0a16 N (w + 1) 96 0 σ) (fun r1 σ2 => nLet (wr σ2 w 2 x2) (fun σ3 => nBd (f_X7_allFacts N σ3) (fun r4 σ5 => nLet (x3 &&& r4 : Int32) (fun v6 => nLet (wr σ5 w 3 v6) (fun σ7 => nLet (wr σ7 w 4 x4) (fun σ8 => nLet (wr σ8 w 5 x5) (fun σ9 => nLet (wr σ9 w 6 0) (fun σ10 => nLet (wr σ10 w 7 0) (fun σ11 => nLet (wr σ11 w 8 0) (fun σ12 => nLet (wr σ12 w 9 0) (fun σ13 => nLet (wr σ13 w 10 0) (fun σ14 => nLet (wr σ14 w 11 (-1)) (fun σ15 => some (0, σ15))))))))))))))
set_option maxHeartbeats 4000000 in
set_option maxRecDepth 100000 in
theorem kb_X6_start_0 {p : Program} {l : Launch} {e : Env} {s : State} {m : MethodId} {args : Array Value} {below : List Frame} {meth : Method} {c : Code} {D : va_G} {A : Nat → Prop} {cy : Nat → ClassId} {a kt vt : Nat → Nat} {N : Nat} {w : Nat} (hw : nWk w) (C0 : nCx p s m args meth c cX6_start 6 none RX6 wsX6_start) (hE : nEn D A cy (NBw cy a) kt vt s) {z : Int32 × nS} : ∀ (σ : nS) (x2 : Int32) (x3 : Int32) (x4 : Int32) (x5 : Int32) (H : Heap) (locs : List Loc) (ls : Array Slot), lv_has ls 6 [(0, .ref (a w)), (1, .ref (a 1)), (2, .int x2), (3, .int x3), (4, .int x4), (5, .int x5)] → va_P D vwCl ((NBw cy a) σ) H → va_S A s.heap H locs → b_X6_start_0 N w σ x2 x3 x4 x5 = some z → W p l e ({ frames := 1, cells := 0, slots := 0, locals := 24 } : Room) s m args below meth c H locs 0 0 (nQv below D A (NBw cy a) args s z) (F0 m 0 ls []) := by
  obtain ⟨hx, hb, hr, hml, hown, hts, hlocks⟩ := C0
  intro σ x2 x3 x4 x5 H locs ls hl hP hS hf
  unfold b_X6_start_0 at hf
  refine lv_aload_n hx hb dX6_start_0 rfl (lv_at hl 0 rfl) ?_
  refine nb_get (ci := 6) hx hb hts iX6_start_X6 hown hE hP w (nboW hw) rfl 0 (by decide) qX6_start_11 rfl rfl dX6_start_1 ?_
  refine lv_lconst (v := 0) hx hb dX6_start_4 (by decide) ?_
  obtain ⟨r1, σ2, hc2, hf⟩ := nBd_e hf
  refine nb_callSv (As := [.ref (a (w + 1)), .long 0]) (rest := []) ⟨hx, hb, hml, hown, hts⟩ (c_J7_fill_d0a16 (D := D) (A := A) (cy := cy) (a := a) (kt := kt) (vt := vt) (l := l) (nbrS hw) hc2) (va_cwS 2 hts gX6_start_J7_fill_d0a16 rfl rfl rfl (by decide +kernel) ⟨Nat.le_of_ble_eq_true rfl, Nat.le_of_ble_eq_true rfl⟩) hE hP hS rfl hl.1 rfl (Nat.le_of_ble_eq_true rfl) dX6_start_5 (fun H locs hP hS => ?_)
  refine lv_aload_n hx hb dX6_start_8 rfl (lv_at hl 0 rfl) ?_
  refine lv_iload_n hx hb dX6_start_9 rfl (lv_at hl 2 rfl) ?_
  refine nb_put (ci := 6) hx hb hts iX6_start_X6 tyX6 tyX6_ok nmX6 hown hE hP hS w (nboW hw) rfl 2 (by decide) qX6_start_15 rfl rfl rfl rfl (Nat.le_of_ble_eq_true rfl) dX6_start_10 (nbpW_2 hw _) (fun σ3 eσ3 H locs hP hS => ?_)
  replace hf := nLet_e hf eσ3
  refine lv_aload_n hx hb dX6_start_13 rfl (lv_at hl 0 rfl) ?_
  refine lv_iload_n hx hb dX6_start_14 rfl (lv_at hl 3 rfl) ?_
  refine lv_aload_n hx hb dX6_start_15 rfl (lv_at hl 1 rfl) ?_
  obtain ⟨r4, σ5, hc5, hf⟩ := nBd_e hf
  refine nb_callVi (As := []) (rest := [.int x3, .ref (a w)]) ⟨hx, hb, hml, hown, hts⟩ (c_X7_allFacts (D := D) (A := A) (cy := cy) (a := a) (kt := kt) (vt := vt) (l := l)  hc5) (cwV 0 hts gX6_start_X7_allFacts rfl rfl rfl (by decide +kernel) ⟨Nat.le_of_ble_eq_true rfl, Nat.le_of_ble_eq_true rfl⟩) hE hP hS nbo_1 rfl rfl hl.1 rfl (Nat.le_of_ble_eq_true rfl) dX6_start_16 (fun H locs hP hS => ?_)
  refine lv_iand hx hb dX6_start_19 ?_
  refine lv_topi (fun v6 ev6 => ?_)
  replace hf := nLet_e hf ev6
  refine nb_put (ci := 6) hx hb hts iX6_start_X6 tyX6 tyX6_ok nmX6 hown hE hP hS w (nboW hw) rfl 3 (by decide) qX6_start_19 rfl rfl rfl rfl (Nat.le_of_ble_eq_true rfl) dX6_start_20 (nbpW_3 hw _) (fun σ7 eσ7 H locs hP hS => ?_)
  replace hf := nLet_e hf eσ7
  refine lv_aload_n hx hb dX6_start_23 rfl (lv_at hl 0 rfl) ?_
  refine lv_iload hx hb dX6_start_24 (lv_at hl 4 rfl) ?_
  refine nb_put (ci := 6) hx hb hts iX6_start_X6 tyX6 tyX6_ok nmX6 hown hE hP hS w (nboW hw) rfl 4 (by decide) qX6_start_22 rfl rfl rfl rfl (Nat.le_of_ble_eq_true rfl) dX6_start_26 (nbpW_4 hw _) (fun σ8 eσ8 H locs hP hS => ?_)
  replace hf := nLet_e hf eσ8
  refine lv_aload_n hx hb dX6_start_29 rfl (lv_at hl 0 rfl) ?_
  refine lv_iload hx hb dX6_start_30 (lv_at hl 5 rfl) ?_
  refine nb_put (ci := 6) hx hb hts iX6_start_X6 tyX6 tyX6_ok nmX6 hown hE hP hS w (nboW hw) rfl 5 (by decide) qX6_start_25 rfl rfl rfl rfl (Nat.le_of_ble_eq_true rfl) dX6_start_32 (nbpW_5 hw _) (fun σ9 eσ9 H locs hP hS => ?_)
  replace hf := nLet_e hf eσ9
  refine lv_aload_n hx hb dX6_start_35 rfl (lv_at hl 0 rfl) ?_
  refine lv_iconst (v := 0) hx hb dX6_start_36 (by decide) ?_
  refine nb_put (ci := 6) hx hb hts iX6_start_X6 tyX6 tyX6_ok nmX6 hown hE hP hS w (nboW hw) rfl 6 (by decide) qX6_start_28 rfl rfl rfl rfl (Nat.le_of_ble_eq_true rfl) dX6_start_37 (nbpW_6 hw _) (fun σ10 eσ10 H locs hP hS => ?_)
  replace hf := nLet_e hf eσ10
  refine lv_aload_n hx hb dX6_start_40 rfl (lv_at hl 0 rfl) ?_
  refine lv_iconst (v := 0) hx hb dX6_start_41 (by decide) ?_
  refine nb_put (ci := 6) hx hb hts iX6_start_X6 tyX6 tyX6_ok nmX6 hown hE hP hS w (nboW hw) rfl 7 (by decide) qX6_start_31 rfl rfl rfl rfl (Nat.le_of_ble_eq_true rfl) dX6_start_42 (nbpW_7 hw _) (fun σ11 eσ11 H locs hP hS => ?_)
  replace hf := nLet_e hf eσ11
  refine lv_aload_n hx hb dX6_start_45 rfl (lv_at hl 0 rfl) ?_
  refine lv_iconst (v := 0) hx hb dX6_start_46 (by decide) ?_
  refine nb_put (ci := 6) hx hb hts iX6_start_X6 tyX6 tyX6_ok nmX6 hown hE hP hS w (nboW hw) rfl 8 (by decide) qX6_start_34 rfl rfl rfl rfl (Nat.le_of_ble_eq_true rfl) dX6_start_47 (nbpW_8 hw _) (fun σ12 eσ12 H locs hP hS => ?_)
  replace hf := nLet_e hf eσ12
  refine lv_aload_n hx hb dX6_start_50 rfl (lv_at hl 0 rfl) ?_
  refine lv_iconst (v := 0) hx hb dX6_start_51 (by decide) ?_
  refine nb_put (ci := 6) hx hb hts iX6_start_X6 tyX6 tyX6_ok nmX6 hown hE hP hS w (nboW hw) rfl 9 (by decide) qX6_start_37 rfl rfl rfl rfl (Nat.le_of_ble_eq_true rfl) dX6_start_52 (nbpW_9 hw _) (fun σ13 eσ13 H locs hP hS => ?_)
  replace hf := nLet_e hf eσ13
  refine lv_aload_n hx hb dX6_start_55 rfl (lv_at hl 0 rfl) ?_
  refine lv_iconst (v := 0) hx hb dX6_start_56 (by decide) ?_
  refine nb_put (ci := 6) hx hb hts iX6_start_X6 tyX6 tyX6_ok nmX6 hown hE hP hS w (nboW hw) rfl 10 (by decide) qX6_start_40 rfl rfl rfl rfl (Nat.le_of_ble_eq_true rfl) dX6_start_57 (nbpW_10 hw _) (fun σ14 eσ14 H locs hP hS => ?_)
  replace hf := nLet_e hf eσ14
  refine lv_aload_n hx hb dX6_start_60 rfl (lv_at hl 0 rfl) ?_
  refine lv_iconst (v := (-1)) hx hb dX6_start_61 (by decide) ?_
  refine nb_put (ci := 6) hx hb hts iX6_start_X6 tyX6 tyX6_ok nmX6 hown hE hP hS w (nboW hw) rfl 11 (by decide) qX6_start_43 rfl rfl rfl rfl (Nat.le_of_ble_eq_true rfl) dX6_start_62 (nbpW_11 hw _) (fun σ15 eσ15 H locs hP hS => ?_)
  replace hf := nLet_e hf eσ15
  exact nb_vret hx hb hr hlocks hP hS (nSo hf) dX6_start_65
def l_X6_start_0 (N : Nat) (w : Nat) : nS → Int32 → Int32 → Int32 → Int32 → Option (Int32 × nS) := b_X6_start_0 N w
theorem kl_X6_start_0 {p : Program} {l : Launch} {e : Env} {s : State} {m : MethodId} {args : Array Value} {below : List Frame} {meth : Method} {c : Code} {D : va_G} {A : Nat → Prop} {cy : Nat → ClassId} {a kt vt : Nat → Nat} {N : Nat} {w : Nat} (hw : nWk w) (C0 : nCx p s m args meth c cX6_start 6 none RX6 wsX6_start) (hE : nEn D A cy (NBw cy a) kt vt s) {z : Int32 × nS} : ∀ (σ : nS) (x2 : Int32) (x3 : Int32) (x4 : Int32) (x5 : Int32) (H : Heap) (locs : List Loc) (ls : Array Slot), lv_has ls 6 [(0, .ref (a w)), (1, .ref (a 1)), (2, .int x2), (3, .int x3), (4, .int x4), (5, .int x5)] → va_P D vwCl ((NBw cy a) σ) H → va_S A s.heap H locs → l_X6_start_0 N w σ x2 x3 x4 x5 = some z → W p l e ({ frames := 1, cells := 0, slots := 0, locals := 24 } : Room) s m args below meth c H locs 0 0 (nQv below D A (NBw cy a) args s z) (F0 m 0 ls []) := by
  exact kb_X6_start_0 (N := N) hw C0 hE
def f_X6_start (N : Nat) (w : Nat) (x2 : Int32) (x3 : Int32) (x4 : Int32) (x5 : Int32) (σ : nS) : Option (Int32 × nS) := l_X6_start_0 N w σ x2 x3 x4 x5
set_option maxHeartbeats 4000000 in
set_option maxRecDepth 100000 in
theorem c_X6_start {l : Launch} {D : va_G} {A : Nat → Prop} {cy : Nat → ClassId} {a kt vt : Nat → Nat} {N : Nat} {w : Nat} (hw : nWk w) {x2 : Int32} {x3 : Int32} {x4 : Int32} {x5 : Int32} {σ : nS} {r : Int32} {σ' : nS} (hf : f_X6_start N w x2 x3 x4 x5 σ = some (r, σ')) : nMv l yX6_start wsX6_start ({ frames := 1, cells := 0, slots := 0, locals := 24 } : Room) D A cy (NBw cy a) kt vt [.ref (a w), .ref (a 1), .int x2, .int x3, .int x4, .int x5] σ σ' := by
  refine Met.ofW (cc := cX6_start) (maxL := 6) (ret := none) (by decide) rfl ?_
  intro p e s m args below meth c s₁ B hml hv
  obtain ⟨rfl, hP, hE⟩ := hv
  have hl := lv_entry ([.ref (a w), .ref (a 1), .int x2, .int x3, .int x4, .int x5]) (n := 6) (Nat.le_of_ble_eq_true rfl)
  rw [lg_entry_eq]
  generalize (lg_sl ([.ref (a w), .ref (a 1), .int x2, .int x3, .int x4, .int x5]) ++ List.replicate (6 - (lg_sl ([.ref (a w), .ref (a 1), .int x2, .int x3, .int x4, .int x5])).length) Slot.unset).toArray = ls at hl ⊢
  have C0 : nCx p s m _ meth c cX6_start 6 none RX6 wsX6_start := ⟨B.exec, B.bytes, B.returns, hml, findClass_of_methodNamed B.named, atoms_spec (ws := wsX6_start) B.pre, B.notSynchronized⟩
  exact kl_X6_start_0 (N := N) hw C0 hE (z := (r, σ')) σ x2 x3 x4 x5 _ _ ls hl hP va_S.rf hf

/-! X6_finish -/
set_option maxRecDepth 20000 in
theorem iX6_finish_X6 : ∀ w ∈ u_ws RX6 TX6 12, w ∈ wsX6_finish := fun _ h => List.mem_cons_of_mem _ (List.mem_append_left _ (List.mem_append_right _ h))
set_option maxRecDepth 20000 in
theorem qX6_finish_15 : Cond.fieldLink RX6 15 RX6 (TX6 2).2.1 (TX6 2).2.2.1 ∈ wsX6_finish := by decide +kernel
set_option maxRecDepth 20000 in
theorem qX6_finish_28 : Cond.fieldLink RX6 28 RX6 (TX6 6).2.1 (TX6 6).2.2.1 ∈ wsX6_finish := by decide +kernel
set_option maxRecDepth 20000 in
theorem qX6_finish_19 : Cond.fieldLink RX6 19 RX6 (TX6 3).2.1 (TX6 3).2.2.1 ∈ wsX6_finish := by decide +kernel
set_option maxRecDepth 20000 in
theorem qX6_finish_22 : Cond.fieldLink RX6 22 RX6 (TX6 4).2.1 (TX6 4).2.2.1 ∈ wsX6_finish := by decide +kernel
set_option maxRecDepth 20000 in
theorem qX6_finish_31 : Cond.fieldLink RX6 31 RX6 (TX6 7).2.1 (TX6 7).2.2.1 ∈ wsX6_finish := by decide +kernel
set_option maxRecDepth 20000 in
theorem qX6_finish_34 : Cond.fieldLink RX6 34 RX6 (TX6 8).2.1 (TX6 8).2.2.1 ∈ wsX6_finish := by decide +kernel
set_option maxRecDepth 20000 in
theorem qX6_finish_43 : Cond.fieldLink RX6 43 RX6 (TX6 11).2.1 (TX6 11).2.2.1 ∈ wsX6_finish := by decide +kernel
def b_X6_finish_101 (N : Nat) (w : Nat) (k171 : nS → Int32 → Option (Int32 × nS)) (σ : nS) (y1 : Int32) (y2 : Int32) (y3 : Int32) : Option (Int32 × nS) := nBd (f_X7_cell N y1 y2 y3 σ) (fun r1 σ2 => k171 σ2 r1)
set_option maxHeartbeats 4000000 in
set_option maxRecDepth 100000 in
theorem kb_X6_finish_101 {p : Program} {l : Launch} {e : Env} {s : State} {m : MethodId} {args : Array Value} {below : List Frame} {meth : Method} {c : Code} {D : va_G} {A : Nat → Prop} {cy : Nat → ClassId} {a kt vt : Nat → Nat} {N : Nat} {w : Nat} (hw : nWk w) (C0 : nCx p s m args meth c cX6_finish 6 none RX6 wsX6_finish) (hE : nEn D A cy (NBw cy a) kt vt s) {z : Int32 × nS} {k171 : nS → Int32 → Option (Int32 × nS)} (K171 : ∀ (σ : nS) (x4 : Int32) (H : Heap) (locs : List Loc) (ls : Array Slot), lv_has ls 6 [(0, .ref (a w)), (4, .int x4)] → va_P D vwCl ((NBw cy a) σ) H → va_S A s.heap H locs → k171 σ x4 = some z → W p l e ({ frames := 1, cells := 0, slots := 0, locals := 24 } : Room) s m args below meth c H locs 0 0 (nQv below D A (NBw cy a) args s z) (F0 m 171 ls [])) : ∀ (σ : nS) (y1 : Int32) (y2 : Int32) (y3 : Int32) (H : Heap) (locs : List Loc) (ls : Array Slot), lv_has ls 6 [(0, .ref (a w))] → va_P D vwCl ((NBw cy a) σ) H → va_S A s.heap H locs → b_X6_finish_101 N w k171 σ y1 y2 y3 = some z → W p l e ({ frames := 1, cells := 0, slots := 0, locals := 24 } : Room) s m args below meth c H locs 0 0 (nQv below D A (NBw cy a) args s z) (F0 m 101 ls [.int y3, .int y2, .int y1, .ref (a 1)]) := by
  obtain ⟨hx, hb, hr, hml, hown, hts, hlocks⟩ := C0
  intro σ y1 y2 y3 H locs ls hl hP hS hf
  unfold b_X6_finish_101 at hf
  obtain ⟨r1, σ2, hc2, hf⟩ := nBd_e hf
  refine nb_callVi (As := [.int y1, .int y2, .int y3]) (rest := []) ⟨hx, hb, hml, hown, hts⟩ (c_X7_cell (D := D) (A := A) (cy := cy) (a := a) (kt := kt) (vt := vt) (l := l)  hc2) (cwV 3 hts gX6_finish_X7_cell rfl rfl rfl (by decide +kernel) ⟨Nat.le_of_ble_eq_true rfl, Nat.le_of_ble_eq_true rfl⟩) hE hP hS nbo_1 rfl rfl hl.1 rfl (Nat.le_of_ble_eq_true rfl) dX6_finish_101 (fun H locs hP hS => ?_)
  refine lv_istore (lv' := [(4, .int r1), (0, .ref (a w))]) hx hb dX6_finish_104 hl (by decide) rfl (fun ls hl => ?_)
  refine lv_goto (tgt := 171) hx hb dX6_finish_106 (by decide) ?_
  exact K171 σ2 r1 H locs ls (lv_sub hl [1, 0] rfl) hP hS hf
def b_X6_finish_80 (N : Nat) (w : Nat) (k101 : nS → Int32 → Int32 → Int32 → Option (Int32 × nS)) (σ : nS) (y0 : Int32) : Option (Int32 × nS) := (if y0 = 0 then k101 σ (σ.1 w 2) (σ.1 w 6) 3 else k101 σ (σ.1 w 2) (σ.1 w 6) 2)
set_option maxHeartbeats 4000000 in
set_option maxRecDepth 100000 in
theorem kb_X6_finish_80 {p : Program} {l : Launch} {e : Env} {s : State} {m : MethodId} {args : Array Value} {below : List Frame} {meth : Method} {c : Code} {D : va_G} {A : Nat → Prop} {cy : Nat → ClassId} {a kt vt : Nat → Nat} {N : Nat} {w : Nat} (hw : nWk w) (C0 : nCx p s m args meth c cX6_finish 6 none RX6 wsX6_finish) (hE : nEn D A cy (NBw cy a) kt vt s) {z : Int32 × nS} {k101 : nS → Int32 → Int32 → Int32 → Option (Int32 × nS)} (K101 : ∀ (σ : nS) (y1 : Int32) (y2 : Int32) (y3 : Int32) (H : Heap) (locs : List Loc) (ls : Array Slot), lv_has ls 6 [(0, .ref (a w))] → va_P D vwCl ((NBw cy a) σ) H → va_S A s.heap H locs → k101 σ y1 y2 y3 = some z → W p l e ({ frames := 1, cells := 0, slots := 0, locals := 24 } : Room) s m args below meth c H locs 0 0 (nQv below D A (NBw cy a) args s z) (F0 m 101 ls [.int y3, .int y2, .int y1, .ref (a 1)])) : ∀ (σ : nS) (y0 : Int32) (H : Heap) (locs : List Loc) (ls : Array Slot), lv_has ls 6 [(0, .ref (a w)), (1, .ref (a 1))] → va_P D vwCl ((NBw cy a) σ) H → va_S A s.heap H locs → b_X6_finish_80 N w k101 σ y0 = some z → W p l e ({ frames := 1, cells := 0, slots := 0, locals := 24 } : Room) s m args below meth c H locs 0 0 (nQv below D A (NBw cy a) args s z) (F0 m 80 ls [.int y0]) := by
  obtain ⟨hx, hb, hr, hml, hown, hts, hlocks⟩ := C0
  intro σ y0 H locs ls hl hP hS hf
  unfold b_X6_finish_80 at hf
  refine lv_istore (lv' := [(5, .int y0), (0, .ref (a w)), (1, .ref (a 1))]) hx hb dX6_finish_80 hl (by decide) rfl (fun ls hl => ?_)
  refine lv_aload_n hx hb dX6_finish_82 rfl (lv_at hl 2 rfl) ?_
  refine lv_aload_n hx hb dX6_finish_83 rfl (lv_at hl 1 rfl) ?_
  refine nb_get (ci := 6) hx hb hts iX6_finish_X6 hown hE hP w (nboW hw) rfl 2 (by decide) qX6_finish_15 rfl rfl dX6_finish_84 ?_
  refine lv_aload_n hx hb dX6_finish_87 rfl (lv_at hl 1 rfl) ?_
  refine nb_get (ci := 6) hx hb hts iX6_finish_X6 hown hE hP w (nboW hw) rfl 6 (by decide) qX6_finish_28 rfl rfl dX6_finish_88 ?_
  refine lv_iload hx hb dX6_finish_91 (lv_at hl 0 rfl) ?_
  refine lv_if_eq (tgt := 100) hx hb dX6_finish_93 (by decide) (fun hc => ?_) (fun hc => ?_)
  · replace hf := nIf_t hc hf
    refine lv_iconst (v := 3) hx hb dX6_finish_100 (by decide) ?_
    exact K101 σ (σ.1 w 2) (σ.1 w 6) 3 H locs ls (lv_sub hl [1] rfl) hP hS hf
  · replace hf := nIf_f hc hf
    refine lv_iconst (v := 2) hx hb dX6_finish_96 (by decide) ?_
    refine lv_goto (tgt := 101) hx hb dX6_finish_97 (by decide) ?_
    exact K101 σ (σ.1 w 2) (σ.1 w 6) 2 H locs ls (lv_sub hl [1] rfl) hP hS hf
def b_X6_finish_171 (N : Nat) (w : Nat) (σ : nS) (x4 : Int32) : Option (Int32 × nS) := nLet (wr σ w 7 0) (fun σ1 => (if (σ1.1 w 8) ≤ 5000 then nLet (wr σ1 w 6 x4) (fun σ2 => some (0, σ2)) else nLet (wr σ1 w 11 6) (fun σ3 => some (0, σ3))))
set_option maxHeartbeats 4000000 in
set_option maxRecDepth 100000 in
theorem kb_X6_finish_171 {p : Program} {l : Launch} {e : Env} {s : State} {m : MethodId} {args : Array Value} {below : List Frame} {meth : Method} {c : Code} {D : va_G} {A : Nat → Prop} {cy : Nat → ClassId} {a kt vt : Nat → Nat} {N : Nat} {w : Nat} (hw : nWk w) (C0 : nCx p s m args meth c cX6_finish 6 none RX6 wsX6_finish) (hE : nEn D A cy (NBw cy a) kt vt s) {z : Int32 × nS} : ∀ (σ : nS) (x4 : Int32) (H : Heap) (locs : List Loc) (ls : Array Slot), lv_has ls 6 [(0, .ref (a w)), (4, .int x4)] → va_P D vwCl ((NBw cy a) σ) H → va_S A s.heap H locs → b_X6_finish_171 N w σ x4 = some z → W p l e ({ frames := 1, cells := 0, slots := 0, locals := 24 } : Room) s m args below meth c H locs 0 0 (nQv below D A (NBw cy a) args s z) (F0 m 171 ls []) := by
  obtain ⟨hx, hb, hr, hml, hown, hts, hlocks⟩ := C0
  intro σ x4 H locs ls hl hP hS hf
  unfold b_X6_finish_171 at hf
  refine lv_aload_n hx hb dX6_finish_171 rfl (lv_at hl 0 rfl) ?_
  refine lv_iconst (v := 0) hx hb dX6_finish_172 (by decide) ?_
  refine nb_put (ci := 6) hx hb hts iX6_finish_X6 tyX6 tyX6_ok nmX6 hown hE hP hS w (nboW hw) rfl 7 (by decide) qX6_finish_31 rfl rfl rfl rfl (Nat.le_of_ble_eq_true rfl) dX6_finish_173 (nbpW_7 hw _) (fun σ1 eσ1 H locs hP hS => ?_)
  replace hf := nLet_e hf eσ1
  refine lv_aload_n hx hb dX6_finish_176 rfl (lv_at hl 0 rfl) ?_
  refine nb_get (ci := 6) hx hb hts iX6_finish_X6 hown hE hP w (nboW hw) rfl 8 (by decide) qX6_finish_34 rfl rfl dX6_finish_177 ?_
  refine lv_sipush (v := 5000) hx hb dX6_finish_180 (by decide) ?_
  refine lv_icmp_le (tgt := 195) hx hb dX6_finish_183 (by decide) (fun hc => ?_) (fun hc => ?_)
  · replace hf := nIf_t hc hf
    refine lv_aload_n hx hb dX6_finish_195 rfl (lv_at hl 0 rfl) ?_
    refine lv_iload hx hb dX6_finish_196 (lv_at hl 1 rfl) ?_
    refine nb_put (ci := 6) hx hb hts iX6_finish_X6 tyX6 tyX6_ok nmX6 hown hE hP hS w (nboW hw) rfl 6 (by decide) qX6_finish_28 rfl rfl rfl rfl (Nat.le_of_ble_eq_true rfl) dX6_finish_198 (nbpW_6 hw _) (fun σ2 eσ2 H locs hP hS => ?_)
    replace hf := nLet_e hf eσ2
    exact nb_vret hx hb hr hlocks hP hS (nSo hf) dX6_finish_201
  · replace hf := nIf_f hc hf
    refine lv_aload_n hx hb dX6_finish_186 rfl (lv_at hl 0 rfl) ?_
    refine lv_bipush (v := 6) hx hb dX6_finish_187 (by decide) ?_
    refine nb_put (ci := 6) hx hb hts iX6_finish_X6 tyX6 tyX6_ok nmX6 hown hE hP hS w (nboW hw) rfl 11 (by decide) qX6_finish_43 rfl rfl rfl rfl (Nat.le_of_ble_eq_true rfl) dX6_finish_189 (nbpW_11 hw _) (fun σ3 eσ3 H locs hP hS => ?_)
    replace hf := nLet_e hf eσ3
    refine lv_goto (tgt := 201) hx hb dX6_finish_192 (by decide) ?_
    exact nb_vret hx hb hr hlocks hP hS (nSo hf) dX6_finish_201
def b_X6_finish_0 (N : Nat) (w : Nat) (k80 : nS → Int32 → Option (Int32 × nS)) (k171 : nS → Int32 → Option (Int32 × nS)) (σ : nS) : Option (Int32 × nS) := nBd (f_X7_cell N (σ.1 w 2) (σ.1 w 6) 0 σ) (fun r1 σ2 => nBd (f_X7_cell N (σ2.1 w 2) (σ2.1 w 6) 1 σ2) (fun r3 σ4 => nLet ((σ4.1 w 6) + (1 : Int32) : Int32) (fun v5 => (if r1 = 4 then k171 σ4 r3 else (if r1 = 2 then nBd (f_X7_factOf N r3 σ4) (fun r17 σ18 => nLet ((σ4.1 w 3) >>> (r17 &&& 31) : Int32) (fun v19 => nLet ((σ18.1 w 4) >>> (r3 &&& 31) : Int32) (fun v20 => nLet (v19 ^^^ v20 : Int32) (fun v21 => nLet (v21 &&& (1 : Int32) : Int32) (fun v22 => (if v22 = 1 then k80 σ18 1 else k80 σ18 0)))))) else (if r1 = 0 then nBd (f_X7_cell N (σ4.1 w 2) (σ4.1 w 6) 2 σ4) (fun r11 σ12 => nLet ((1 : Int32) <<< (r11 &&& 31) : Int32) (fun v13 => nLet (v13 ^^^ ((-1) : Int32) : Int32) (fun v14 => nLet ((σ4.1 w 3) &&& v14 : Int32) (fun v15 => nLet (wr σ12 w 3 v15) (fun σ16 => k171 σ16 v5))))) else (if r1 = 1 then nBd (f_X7_cell N (σ4.1 w 2) (σ4.1 w 6) 2 σ4) (fun r6 σ7 => nLet ((1 : Int32) <<< (r6 &&& 31) : Int32) (fun v8 => nLet ((σ4.1 w 3) ||| v8 : Int32) (fun v9 => nLet (wr σ7 w 3 v9) (fun σ10 => k171 σ10 v5)))) else k171 σ4 v5)))))))
set_option maxHeartbeats 4000000 in
set_option maxRecDepth 100000 in
theorem kb_X6_finish_0 {p : Program} {l : Launch} {e : Env} {s : State} {m : MethodId} {args : Array Value} {below : List Frame} {meth : Method} {c : Code} {D : va_G} {A : Nat → Prop} {cy : Nat → ClassId} {a kt vt : Nat → Nat} {N : Nat} {w : Nat} (hw : nWk w) (C0 : nCx p s m args meth c cX6_finish 6 none RX6 wsX6_finish) (hE : nEn D A cy (NBw cy a) kt vt s) {z : Int32 × nS} {k80 : nS → Int32 → Option (Int32 × nS)} (K80 : ∀ (σ : nS) (y0 : Int32) (H : Heap) (locs : List Loc) (ls : Array Slot), lv_has ls 6 [(0, .ref (a w)), (1, .ref (a 1))] → va_P D vwCl ((NBw cy a) σ) H → va_S A s.heap H locs → k80 σ y0 = some z → W p l e ({ frames := 1, cells := 0, slots := 0, locals := 24 } : Room) s m args below meth c H locs 0 0 (nQv below D A (NBw cy a) args s z) (F0 m 80 ls [.int y0])) {k171 : nS → Int32 → Option (Int32 × nS)} (K171 : ∀ (σ : nS) (x4 : Int32) (H : Heap) (locs : List Loc) (ls : Array Slot), lv_has ls 6 [(0, .ref (a w)), (4, .int x4)] → va_P D vwCl ((NBw cy a) σ) H → va_S A s.heap H locs → k171 σ x4 = some z → W p l e ({ frames := 1, cells := 0, slots := 0, locals := 24 } : Room) s m args below meth c H locs 0 0 (nQv below D A (NBw cy a) args s z) (F0 m 171 ls [])) : ∀ (σ : nS) (H : Heap) (locs : List Loc) (ls : Array Slot), lv_has ls 6 [(0, .ref (a w)), (1, .ref (a 1))] → va_P D vwCl ((NBw cy a) σ) H → va_S A s.heap H locs → b_X6_finish_0 N w k80 k171 σ = some z → W p l e ({ frames := 1, cells := 0, slots := 0, locals := 24 } : Room) s m args below meth c H locs 0 0 (nQv below D A (NBw cy a) args s z) (F0 m 0 ls []) := by
  obtain ⟨hx, hb, hr, hml, hown, hts, hlocks⟩ := C0
  intro σ  H locs ls hl hP hS hf
  unfold b_X6_finish_0 at hf
  refine lv_aload_n hx hb dX6_finish_0 rfl (lv_at hl 1 rfl) ?_
  refine lv_aload_n hx hb dX6_finish_1 rfl (lv_at hl 0 rfl) ?_
  refine nb_get (ci := 6) hx hb hts iX6_finish_X6 hown hE hP w (nboW hw) rfl 2 (by decide) qX6_finish_15 rfl rfl dX6_finish_2 ?_
  refine lv_aload_n hx hb dX6_finish_5 rfl (lv_at hl 0 rfl) ?_
  refine nb_get (ci := 6) hx hb hts iX6_finish_X6 hown hE hP w (nboW hw) rfl 6 (by decide) qX6_finish_28 rfl rfl dX6_finish_6 ?_
  refine lv_iconst (v := 0) hx hb dX6_finish_9 (by decide) ?_
  obtain ⟨r1, σ2, hc2, hf⟩ := nBd_e hf
  refine nb_callVi (As := [.int (σ.1 w 2), .int (σ.1 w 6), .int 0]) (rest := []) ⟨hx, hb, hml, hown, hts⟩ (c_X7_cell (D := D) (A := A) (cy := cy) (a := a) (kt := kt) (vt := vt) (l := l)  hc2) (cwV 3 hts gX6_finish_X7_cell rfl rfl rfl (by decide +kernel) ⟨Nat.le_of_ble_eq_true rfl, Nat.le_of_ble_eq_true rfl⟩) hE hP hS nbo_1 rfl rfl hl.1 rfl (Nat.le_of_ble_eq_true rfl) dX6_finish_10 (fun H locs hP hS => ?_)
  refine lv_istore_n (lv' := [(2, .int r1), (0, .ref (a w)), (1, .ref (a 1))]) hx hb dX6_finish_13 rfl hl (by decide) rfl (fun ls hl => ?_)
  refine lv_aload_n hx hb dX6_finish_14 rfl (lv_at hl 2 rfl) ?_
  refine lv_aload_n hx hb dX6_finish_15 rfl (lv_at hl 1 rfl) ?_
  refine nb_get (ci := 6) hx hb hts iX6_finish_X6 hown hE hP w (nboW hw) rfl 2 (by decide) qX6_finish_15 rfl rfl dX6_finish_16 ?_
  refine lv_aload_n hx hb dX6_finish_19 rfl (lv_at hl 1 rfl) ?_
  refine nb_get (ci := 6) hx hb hts iX6_finish_X6 hown hE hP w (nboW hw) rfl 6 (by decide) qX6_finish_28 rfl rfl dX6_finish_20 ?_
  refine lv_iconst (v := 1) hx hb dX6_finish_23 (by decide) ?_
  obtain ⟨r3, σ4, hc4, hf⟩ := nBd_e hf
  refine nb_callVi (As := [.int (σ2.1 w 2), .int (σ2.1 w 6), .int 1]) (rest := []) ⟨hx, hb, hml, hown, hts⟩ (c_X7_cell (D := D) (A := A) (cy := cy) (a := a) (kt := kt) (vt := vt) (l := l)  hc4) (cwV 3 hts gX6_finish_X7_cell rfl rfl rfl (by decide +kernel) ⟨Nat.le_of_ble_eq_true rfl, Nat.le_of_ble_eq_true rfl⟩) hE hP hS nbo_1 rfl rfl hl.1 rfl (Nat.le_of_ble_eq_true rfl) dX6_finish_24 (fun H locs hP hS => ?_)
  refine lv_istore_n (lv' := [(3, .int r3), (2, .int r1), (0, .ref (a w)), (1, .ref (a 1))]) hx hb dX6_finish_27 rfl hl (by decide) rfl (fun ls hl => ?_)
  refine lv_aload_n hx hb dX6_finish_28 rfl (lv_at hl 2 rfl) ?_
  refine nb_get (ci := 6) hx hb hts iX6_finish_X6 hown hE hP w (nboW hw) rfl 6 (by decide) qX6_finish_28 rfl rfl dX6_finish_29 ?_
  refine lv_iconst (v := 1) hx hb dX6_finish_32 (by decide) ?_
  refine lv_iadd hx hb dX6_finish_33 ?_
  refine lv_topi (fun v5 ev5 => ?_)
  replace hf := nLet_e hf ev5
  refine lv_istore (lv' := [(4, .int v5), (3, .int r3), (2, .int r1), (0, .ref (a w)), (1, .ref (a 1))]) hx hb dX6_finish_34 hl (by decide) rfl (fun ls hl => ?_)
  refine lv_iload_n hx hb dX6_finish_36 rfl (lv_at hl 2 rfl) ?_
  refine lv_iconst (v := 4) hx hb dX6_finish_37 (by decide) ?_
  refine lv_icmp_ne (tgt := 47) hx hb dX6_finish_38 (by decide) (fun hc => ?_) (fun hc => ?_)
  · replace hf := nIf_f hc hf
    refine lv_iload_n hx hb dX6_finish_47 rfl (lv_at hl 2 rfl) ?_
    refine lv_iconst (v := 2) hx hb dX6_finish_48 (by decide) ?_
    refine lv_icmp_ne (tgt := 109) hx hb dX6_finish_49 (by decide) (fun hc => ?_) (fun hc => ?_)
    · replace hf := nIf_f hc hf
      refine lv_iload_n hx hb dX6_finish_109 rfl (lv_at hl 2 rfl) ?_
      refine lv_if_ne (tgt := 142) hx hb dX6_finish_110 (by decide) (fun hc => ?_) (fun hc => ?_)
      · replace hf := nIf_f hc hf
        refine lv_iload_n hx hb dX6_finish_142 rfl (lv_at hl 2 rfl) ?_
        refine lv_iconst (v := 1) hx hb dX6_finish_143 (by decide) ?_
        refine lv_icmp_ne (tgt := 171) hx hb dX6_finish_144 (by decide) (fun hc => ?_) (fun hc => ?_)
        · replace hf := nIf_f hc hf
          exact K171 σ4 v5 H locs ls (lv_sub hl [3, 0] rfl) hP hS hf
        · replace hf := nIf_t hc hf
          refine lv_aload_n hx hb dX6_finish_147 rfl (lv_at hl 3 rfl) ?_
          refine lv_dup hx hb dX6_finish_148 rfl ?_
          refine nb_get (ci := 6) hx hb hts iX6_finish_X6 hown hE hP w (nboW hw) rfl 3 (by decide) qX6_finish_19 rfl rfl dX6_finish_149 ?_
          refine lv_iconst (v := 1) hx hb dX6_finish_152 (by decide) ?_
          refine lv_aload_n hx hb dX6_finish_153 rfl (lv_at hl 4 rfl) ?_
          refine lv_aload_n hx hb dX6_finish_154 rfl (lv_at hl 3 rfl) ?_
          refine nb_get (ci := 6) hx hb hts iX6_finish_X6 hown hE hP w (nboW hw) rfl 2 (by decide) qX6_finish_15 rfl rfl dX6_finish_155 ?_
          refine lv_aload_n hx hb dX6_finish_158 rfl (lv_at hl 3 rfl) ?_
          refine nb_get (ci := 6) hx hb hts iX6_finish_X6 hown hE hP w (nboW hw) rfl 6 (by decide) qX6_finish_28 rfl rfl dX6_finish_159 ?_
          refine lv_iconst (v := 2) hx hb dX6_finish_162 (by decide) ?_
          obtain ⟨r6, σ7, hc7, hf⟩ := nBd_e hf
          refine nb_callVi (As := [.int (σ4.1 w 2), .int (σ4.1 w 6), .int 2]) (rest := [.int 1, .int (σ4.1 w 3), .ref (a w)]) ⟨hx, hb, hml, hown, hts⟩ (c_X7_cell (D := D) (A := A) (cy := cy) (a := a) (kt := kt) (vt := vt) (l := l)  hc7) (cwV 3 hts gX6_finish_X7_cell rfl rfl rfl (by decide +kernel) ⟨Nat.le_of_ble_eq_true rfl, Nat.le_of_ble_eq_true rfl⟩) hE hP hS nbo_1 rfl rfl hl.1 rfl (Nat.le_of_ble_eq_true rfl) dX6_finish_163 (fun H locs hP hS => ?_)
          refine lv_ishl hx hb dX6_finish_166 ?_
          refine lv_topi (fun v8 ev8 => ?_)
          replace hf := nLet_e hf ev8
          refine lv_ior hx hb dX6_finish_167 ?_
          refine lv_topi (fun v9 ev9 => ?_)
          replace hf := nLet_e hf ev9
          refine nb_put (ci := 6) hx hb hts iX6_finish_X6 tyX6 tyX6_ok nmX6 hown hE hP hS w (nboW hw) rfl 3 (by decide) qX6_finish_19 rfl rfl rfl rfl (Nat.le_of_ble_eq_true rfl) dX6_finish_168 (nbpW_3 hw _) (fun σ10 eσ10 H locs hP hS => ?_)
          replace hf := nLet_e hf eσ10
          exact K171 σ10 v5 H locs ls (lv_sub hl [3, 0] rfl) hP hS hf
      · replace hf := nIf_t hc hf
        refine lv_aload_n hx hb dX6_finish_113 rfl (lv_at hl 3 rfl) ?_
        refine lv_dup hx hb dX6_finish_114 rfl ?_
        refine nb_get (ci := 6) hx hb hts iX6_finish_X6 hown hE hP w (nboW hw) rfl 3 (by decide) qX6_finish_19 rfl rfl dX6_finish_115 ?_
        refine lv_iconst (v := 1) hx hb dX6_finish_118 (by decide) ?_
        refine lv_aload_n hx hb dX6_finish_119 rfl (lv_at hl 4 rfl) ?_
        refine lv_aload_n hx hb dX6_finish_120 rfl (lv_at hl 3 rfl) ?_
        refine nb_get (ci := 6) hx hb hts iX6_finish_X6 hown hE hP w (nboW hw) rfl 2 (by decide) qX6_finish_15 rfl rfl dX6_finish_121 ?_
        refine lv_aload_n hx hb dX6_finish_124 rfl (lv_at hl 3 rfl) ?_
        refine nb_get (ci := 6) hx hb hts iX6_finish_X6 hown hE hP w (nboW hw) rfl 6 (by decide) qX6_finish_28 rfl rfl dX6_finish_125 ?_
        refine lv_iconst (v := 2) hx hb dX6_finish_128 (by decide) ?_
        obtain ⟨r11, σ12, hc12, hf⟩ := nBd_e hf
        refine nb_callVi (As := [.int (σ4.1 w 2), .int (σ4.1 w 6), .int 2]) (rest := [.int 1, .int (σ4.1 w 3), .ref (a w)]) ⟨hx, hb, hml, hown, hts⟩ (c_X7_cell (D := D) (A := A) (cy := cy) (a := a) (kt := kt) (vt := vt) (l := l)  hc12) (cwV 3 hts gX6_finish_X7_cell rfl rfl rfl (by decide +kernel) ⟨Nat.le_of_ble_eq_true rfl, Nat.le_of_ble_eq_true rfl⟩) hE hP hS nbo_1 rfl rfl hl.1 rfl (Nat.le_of_ble_eq_true rfl) dX6_finish_129 (fun H locs hP hS => ?_)
        refine lv_ishl hx hb dX6_finish_132 ?_
        refine lv_topi (fun v13 ev13 => ?_)
        replace hf := nLet_e hf ev13
        refine lv_iconst (v := (-1)) hx hb dX6_finish_133 (by decide) ?_
        refine lv_ixor hx hb dX6_finish_134 ?_
        refine lv_topi (fun v14 ev14 => ?_)
        replace hf := nLet_e hf ev14
        refine lv_iand hx hb dX6_finish_135 ?_
        refine lv_topi (fun v15 ev15 => ?_)
        replace hf := nLet_e hf ev15
        refine nb_put (ci := 6) hx hb hts iX6_finish_X6 tyX6 tyX6_ok nmX6 hown hE hP hS w (nboW hw) rfl 3 (by decide) qX6_finish_19 rfl rfl rfl rfl (Nat.le_of_ble_eq_true rfl) dX6_finish_136 (nbpW_3 hw _) (fun σ16 eσ16 H locs hP hS => ?_)
        replace hf := nLet_e hf eσ16
        refine lv_goto (tgt := 171) hx hb dX6_finish_139 (by decide) ?_
        exact K171 σ16 v5 H locs ls (lv_sub hl [3, 0] rfl) hP hS hf
    · replace hf := nIf_t hc hf
      refine lv_aload_n hx hb dX6_finish_52 rfl (lv_at hl 3 rfl) ?_
      refine nb_get (ci := 6) hx hb hts iX6_finish_X6 hown hE hP w (nboW hw) rfl 3 (by decide) qX6_finish_19 rfl rfl dX6_finish_53 ?_
      refine lv_aload_n hx hb dX6_finish_56 rfl (lv_at hl 4 rfl) ?_
      refine lv_iload_n hx hb dX6_finish_57 rfl (lv_at hl 1 rfl) ?_
      obtain ⟨r17, σ18, hc18, hf⟩ := nBd_e hf
      refine nb_callVi (As := [.int r3]) (rest := [.int (σ4.1 w 3)]) ⟨hx, hb, hml, hown, hts⟩ (c_X7_factOf (D := D) (A := A) (cy := cy) (a := a) (kt := kt) (vt := vt) (l := l)  hc18) (cwV 1 hts gX6_finish_X7_factOf rfl rfl rfl (by decide +kernel) ⟨Nat.le_of_ble_eq_true rfl, Nat.le_of_ble_eq_true rfl⟩) hE hP hS nbo_1 rfl rfl hl.1 rfl (Nat.le_of_ble_eq_true rfl) dX6_finish_58 (fun H locs hP hS => ?_)
      refine lv_ishr hx hb dX6_finish_61 ?_
      refine lv_topi (fun v19 ev19 => ?_)
      replace hf := nLet_e hf ev19
      refine lv_aload_n hx hb dX6_finish_62 rfl (lv_at hl 3 rfl) ?_
      refine nb_get (ci := 6) hx hb hts iX6_finish_X6 hown hE hP w (nboW hw) rfl 4 (by decide) qX6_finish_22 rfl rfl dX6_finish_63 ?_
      refine lv_iload_n hx hb dX6_finish_66 rfl (lv_at hl 1 rfl) ?_
      refine lv_ishr hx hb dX6_finish_67 ?_
      refine lv_topi (fun v20 ev20 => ?_)
      replace hf := nLet_e hf ev20
      refine lv_ixor hx hb dX6_finish_68 ?_
      refine lv_topi (fun v21 ev21 => ?_)
      replace hf := nLet_e hf ev21
      refine lv_iconst (v := 1) hx hb dX6_finish_69 (by decide) ?_
      refine lv_iand hx hb dX6_finish_70 ?_
      refine lv_topi (fun v22 ev22 => ?_)
      replace hf := nLet_e hf ev22
      refine lv_iconst (v := 1) hx hb dX6_finish_71 (by decide) ?_
      refine lv_icmp_ne (tgt := 79) hx hb dX6_finish_72 (by decide) (fun hc => ?_) (fun hc => ?_)
      · replace hf := nIf_f hc hf
        refine lv_iconst (v := 0) hx hb dX6_finish_79 (by decide) ?_
        exact K80 σ18 0 H locs ls (lv_sub hl [3, 4] rfl) hP hS hf
      · replace hf := nIf_t hc hf
        refine lv_iconst (v := 1) hx hb dX6_finish_75 (by decide) ?_
        refine lv_goto (tgt := 80) hx hb dX6_finish_76 (by decide) ?_
        exact K80 σ18 1 H locs ls (lv_sub hl [3, 4] rfl) hP hS hf
  · replace hf := nIf_t hc hf
    refine lv_iload_n hx hb dX6_finish_41 rfl (lv_at hl 1 rfl) ?_
    refine lv_istore (lv' := [(4, .int r3), (3, .int r3), (2, .int r1), (0, .ref (a w)), (1, .ref (a 1))]) hx hb dX6_finish_42 hl (by decide) rfl (fun ls hl => ?_)
    refine lv_goto (tgt := 171) hx hb dX6_finish_44 (by decide) ?_
    exact K171 σ4 r3 H locs ls (lv_sub hl [3, 0] rfl) hP hS hf
def l_X6_finish_101 (N : Nat) (w : Nat) (k171 : nS → Int32 → Option (Int32 × nS)) : nS → Int32 → Int32 → Int32 → Option (Int32 × nS) := b_X6_finish_101 N w k171
theorem kl_X6_finish_101 {p : Program} {l : Launch} {e : Env} {s : State} {m : MethodId} {args : Array Value} {below : List Frame} {meth : Method} {c : Code} {D : va_G} {A : Nat → Prop} {cy : Nat → ClassId} {a kt vt : Nat → Nat} {N : Nat} {w : Nat} (hw : nWk w) (C0 : nCx p s m args meth c cX6_finish 6 none RX6 wsX6_finish) (hE : nEn D A cy (NBw cy a) kt vt s) {z : Int32 × nS} {k171 : nS → Int32 → Option (Int32 × nS)} (K171 : ∀ (σ : nS) (x4 : Int32) (H : Heap) (locs : List Loc) (ls : Array Slot), lv_has ls 6 [(0, .ref (a w)), (4, .int x4)] → va_P D vwCl ((NBw cy a) σ) H → va_S A s.heap H locs → k171 σ x4 = some z → W p l e ({ frames := 1, cells := 0, slots := 0, locals := 24 } : Room) s m args below meth c H locs 0 0 (nQv below D A (NBw cy a) args s z) (F0 m 171 ls [])) : ∀ (σ : nS) (y1 : Int32) (y2 : Int32) (y3 : Int32) (H : Heap) (locs : List Loc) (ls : Array Slot), lv_has ls 6 [(0, .ref (a w))] → va_P D vwCl ((NBw cy a) σ) H → va_S A s.heap H locs → l_X6_finish_101 N w k171 σ y1 y2 y3 = some z → W p l e ({ frames := 1, cells := 0, slots := 0, locals := 24 } : Room) s m args below meth c H locs 0 0 (nQv below D A (NBw cy a) args s z) (F0 m 101 ls [.int y3, .int y2, .int y1, .ref (a 1)]) := by
  exact kb_X6_finish_101 (N := N) hw C0 hE K171
def l_X6_finish_80 (N : Nat) (w : Nat) (k171 : nS → Int32 → Option (Int32 × nS)) : nS → Int32 → Option (Int32 × nS) := b_X6_finish_80 N w (l_X6_finish_101 N w k171)
theorem kl_X6_finish_80 {p : Program} {l : Launch} {e : Env} {s : State} {m : MethodId} {args : Array Value} {below : List Frame} {meth : Method} {c : Code} {D : va_G} {A : Nat → Prop} {cy : Nat → ClassId} {a kt vt : Nat → Nat} {N : Nat} {w : Nat} (hw : nWk w) (C0 : nCx p s m args meth c cX6_finish 6 none RX6 wsX6_finish) (hE : nEn D A cy (NBw cy a) kt vt s) {z : Int32 × nS} {k171 : nS → Int32 → Option (Int32 × nS)} (K171 : ∀ (σ : nS) (x4 : Int32) (H : Heap) (locs : List Loc) (ls : Array Slot), lv_has ls 6 [(0, .ref (a w)), (4, .int x4)] → va_P D vwCl ((NBw cy a) σ) H → va_S A s.heap H locs → k171 σ x4 = some z → W p l e ({ frames := 1, cells := 0, slots := 0, locals := 24 } : Room) s m args below meth c H locs 0 0 (nQv below D A (NBw cy a) args s z) (F0 m 171 ls [])) : ∀ (σ : nS) (y0 : Int32) (H : Heap) (locs : List Loc) (ls : Array Slot), lv_has ls 6 [(0, .ref (a w)), (1, .ref (a 1))] → va_P D vwCl ((NBw cy a) σ) H → va_S A s.heap H locs → l_X6_finish_80 N w k171 σ y0 = some z → W p l e ({ frames := 1, cells := 0, slots := 0, locals := 24 } : Room) s m args below meth c H locs 0 0 (nQv below D A (NBw cy a) args s z) (F0 m 80 ls [.int y0]) := by
  exact kb_X6_finish_80 (N := N) hw C0 hE (kl_X6_finish_101 (N := N) hw C0 hE K171)
def l_X6_finish_171 (N : Nat) (w : Nat) : nS → Int32 → Option (Int32 × nS) := b_X6_finish_171 N w
theorem kl_X6_finish_171 {p : Program} {l : Launch} {e : Env} {s : State} {m : MethodId} {args : Array Value} {below : List Frame} {meth : Method} {c : Code} {D : va_G} {A : Nat → Prop} {cy : Nat → ClassId} {a kt vt : Nat → Nat} {N : Nat} {w : Nat} (hw : nWk w) (C0 : nCx p s m args meth c cX6_finish 6 none RX6 wsX6_finish) (hE : nEn D A cy (NBw cy a) kt vt s) {z : Int32 × nS} : ∀ (σ : nS) (x4 : Int32) (H : Heap) (locs : List Loc) (ls : Array Slot), lv_has ls 6 [(0, .ref (a w)), (4, .int x4)] → va_P D vwCl ((NBw cy a) σ) H → va_S A s.heap H locs → l_X6_finish_171 N w σ x4 = some z → W p l e ({ frames := 1, cells := 0, slots := 0, locals := 24 } : Room) s m args below meth c H locs 0 0 (nQv below D A (NBw cy a) args s z) (F0 m 171 ls []) := by
  exact kb_X6_finish_171 (N := N) hw C0 hE
def l_X6_finish_0 (N : Nat) (w : Nat) : nS → Option (Int32 × nS) := b_X6_finish_0 N w (l_X6_finish_80 N w (l_X6_finish_171 N w)) (l_X6_finish_171 N w)
theorem kl_X6_finish_0 {p : Program} {l : Launch} {e : Env} {s : State} {m : MethodId} {args : Array Value} {below : List Frame} {meth : Method} {c : Code} {D : va_G} {A : Nat → Prop} {cy : Nat → ClassId} {a kt vt : Nat → Nat} {N : Nat} {w : Nat} (hw : nWk w) (C0 : nCx p s m args meth c cX6_finish 6 none RX6 wsX6_finish) (hE : nEn D A cy (NBw cy a) kt vt s) {z : Int32 × nS} : ∀ (σ : nS) (H : Heap) (locs : List Loc) (ls : Array Slot), lv_has ls 6 [(0, .ref (a w)), (1, .ref (a 1))] → va_P D vwCl ((NBw cy a) σ) H → va_S A s.heap H locs → l_X6_finish_0 N w σ = some z → W p l e ({ frames := 1, cells := 0, slots := 0, locals := 24 } : Room) s m args below meth c H locs 0 0 (nQv below D A (NBw cy a) args s z) (F0 m 0 ls []) := by
  exact kb_X6_finish_0 (N := N) hw C0 hE (kl_X6_finish_80 (N := N) hw C0 hE (kl_X6_finish_171 (N := N) hw C0 hE)) (kl_X6_finish_171 (N := N) hw C0 hE)
def f_X6_finish (N : Nat) (w : Nat) (σ : nS) : Option (Int32 × nS) := l_X6_finish_0 N w σ
set_option maxHeartbeats 4000000 in
set_option maxRecDepth 100000 in
theorem c_X6_finish {l : Launch} {D : va_G} {A : Nat → Prop} {cy : Nat → ClassId} {a kt vt : Nat → Nat} {N : Nat} {w : Nat} (hw : nWk w) {σ : nS} {r : Int32} {σ' : nS} (hf : f_X6_finish N w σ = some (r, σ')) : nMv l yX6_finish wsX6_finish ({ frames := 1, cells := 0, slots := 0, locals := 24 } : Room) D A cy (NBw cy a) kt vt [.ref (a w), .ref (a 1)] σ σ' := by
  refine Met.ofW (cc := cX6_finish) (maxL := 6) (ret := none) (by decide) rfl ?_
  intro p e s m args below meth c s₁ B hml hv
  obtain ⟨rfl, hP, hE⟩ := hv
  have hl := lv_entry ([.ref (a w), .ref (a 1)]) (n := 6) (Nat.le_of_ble_eq_true rfl)
  rw [lg_entry_eq]
  generalize (lg_sl ([.ref (a w), .ref (a 1)]) ++ List.replicate (6 - (lg_sl ([.ref (a w), .ref (a 1)])).length) Slot.unset).toArray = ls at hl ⊢
  have C0 : nCx p s m _ meth c cX6_finish 6 none RX6 wsX6_finish := ⟨B.exec, B.bytes, B.returns, hml, findClass_of_methodNamed B.named, atoms_spec (ws := wsX6_finish) B.pre, B.notSynchronized⟩
  exact kl_X6_finish_0 (N := N) hw C0 hE (z := (r, σ')) σ  _ _ ls hl hP va_S.rf hf

/-! X6_come -/
set_option maxRecDepth 20000 in
theorem iX6_come_X6 : ∀ w ∈ u_ws RX6 TX6 12, w ∈ wsX6_come := fun _ h => List.mem_cons_of_mem _ (List.mem_append_left _ (List.mem_append_right _ h))
set_option maxRecDepth 20000 in
theorem qX6_come_28 : Cond.fieldLink RX6 28 RX6 (TX6 6).2.1 (TX6 6).2.2.1 ∈ wsX6_come := by decide +kernel
set_option maxRecDepth 20000 in
theorem qX6_come_15 : Cond.fieldLink RX6 15 RX6 (TX6 2).2.1 (TX6 2).2.2.1 ∈ wsX6_come := by decide +kernel
set_option maxRecDepth 20000 in
theorem qX6_come_40 : Cond.fieldLink RX6 40 RX6 (TX6 10).2.1 (TX6 10).2.2.1 ∈ wsX6_come := by decide +kernel
set_option maxRecDepth 20000 in
theorem qX6_come_46 : Cond.fieldLink RX6 46 RX6 (TX6 1).2.1 (TX6 1).2.2.1 ∈ wsX6_come := by decide +kernel
set_option maxRecDepth 20000 in
theorem qX6_come_43 : Cond.fieldLink RX6 43 RX6 (TX6 11).2.1 (TX6 11).2.2.1 ∈ wsX6_come := by decide +kernel
set_option maxRecDepth 20000 in
theorem qX6_come_19 : Cond.fieldLink RX6 19 RX6 (TX6 3).2.1 (TX6 3).2.2.1 ∈ wsX6_come := by decide +kernel
set_option maxRecDepth 20000 in
theorem qX6_come_11 : Cond.fieldLink RX6 11 RX6 (TX6 0).2.1 (TX6 0).2.2.1 ∈ wsX6_come := by decide +kernel
def b_X6_come_53 (N : Nat) (w : Nat) (σ : nS) : Option (Int32 × nS) := nLet ((σ.1 w 10) + (1 : Int32) : Int32) (fun v1 => nLet (wr σ w 10 v1) (fun σ2 => nLet ((σ2.1 w 6) * (4 : Int32) : Int32) (fun v3 => nLet ((σ2.1 w 3) >>> ((6 : Int32) &&& 31) : Int32) (fun v4 => nLet (v4 &&& (3 : Int32) : Int32) (fun v5 => nLet (v3 + v5 : Int32) (fun v6 => (if v6 < 0 then some (0, σ2) else nLet (Int32.ofNat 96) (fun v7 => (if v6 < v7 then nLet ((σ2.1 w 3) &&& (63 : Int32) : Int32) (fun v8 => nLet ((1 : Int64) <<< ((v8).toInt64 &&& 63) : Int64) (fun v9 => nIx v6 96 (nLet (σ2.2 (w + 1) (v6).toNatClampNeg) (fun v10 => nLet (v10 &&& v9 : Int64) (fun v11 => nLet (lg_cmp v11 (0 : Int64) : Int32) (fun v12 => (if v12 = 0 then nIx v6 96 (nLet (σ2.2 (w + 1) (v6).toNatClampNeg) (fun v13 => nLet (v13 ||| v9 : Int64) (fun v14 => nIx v6 96 (nLet (wl σ2 (w + 1) (v6).toNatClampNeg v14) (fun σ15 => some (0, σ15)))))) else nLet (wr σ2 w 11 4) (fun σ16 => nIx v6 96 (nLet (σ16.2 (w + 1) (v6).toNatClampNeg) (fun v17 => nLet (v17 ||| v9 : Int64) (fun v18 => nIx v6 96 (nLet (wl σ16 (w + 1) (v6).toNatClampNeg v18) (fun σ19 => some (0, σ19)))))))))))))) else some (0, σ2))))))))))
set_option maxHeartbeats 4000000 in
set_option maxRecDepth 100000 in
theorem kb_X6_come_53 {p : Program} {l : Launch} {e : Env} {s : State} {m : MethodId} {args : Array Value} {below : List Frame} {meth : Method} {c : Code} {D : va_G} {A : Nat → Prop} {cy : Nat → ClassId} {a kt vt : Nat → Nat} {N : Nat} {w : Nat} (hw : nWk w) (C0 : nCx p s m args meth c cX6_come 5 none RX6 wsX6_come) (hE : nEn D A cy (NBw cy a) kt vt s) {z : Int32 × nS} : ∀ (σ : nS) (H : Heap) (locs : List Loc) (ls : Array Slot), lv_has ls 5 [(0, .ref (a w))] → va_P D vwCl ((NBw cy a) σ) H → va_S A s.heap H locs → b_X6_come_53 N w σ = some z → W p l e ({ frames := 1, cells := 0, slots := 0, locals := 21 } : Room) s m args below meth c H locs 0 0 (nQv below D A (NBw cy a) args s z) (F0 m 53 ls []) := by
  obtain ⟨hx, hb, hr, hml, hown, hts, hlocks⟩ := C0
  intro σ  H locs ls hl hP hS hf
  unfold b_X6_come_53 at hf
  refine lv_aload_n hx hb dX6_come_53 rfl (lv_at hl 0 rfl) ?_
  refine lv_dup hx hb dX6_come_54 rfl ?_
  refine nb_get (ci := 6) hx hb hts iX6_come_X6 hown hE hP w (nboW hw) rfl 10 (by decide) qX6_come_40 rfl rfl dX6_come_55 ?_
  refine lv_iconst (v := 1) hx hb dX6_come_58 (by decide) ?_
  refine lv_iadd hx hb dX6_come_59 ?_
  refine lv_topi (fun v1 ev1 => ?_)
  replace hf := nLet_e hf ev1
  refine nb_put (ci := 6) hx hb hts iX6_come_X6 tyX6 tyX6_ok nmX6 hown hE hP hS w (nboW hw) rfl 10 (by decide) qX6_come_40 rfl rfl rfl rfl (Nat.le_of_ble_eq_true rfl) dX6_come_60 (nbpW_10 hw _) (fun σ2 eσ2 H locs hP hS => ?_)
  replace hf := nLet_e hf eσ2
  refine lv_aload_n hx hb dX6_come_63 rfl (lv_at hl 0 rfl) ?_
  refine nb_get (ci := 6) hx hb hts iX6_come_X6 hown hE hP w (nboW hw) rfl 6 (by decide) qX6_come_28 rfl rfl dX6_come_64 ?_
  refine lv_iconst (v := 4) hx hb dX6_come_67 (by decide) ?_
  refine lv_imul hx hb dX6_come_68 ?_
  refine lv_topi (fun v3 ev3 => ?_)
  replace hf := nLet_e hf ev3
  refine lv_aload_n hx hb dX6_come_69 rfl (lv_at hl 0 rfl) ?_
  refine nb_get (ci := 6) hx hb hts iX6_come_X6 hown hE hP w (nboW hw) rfl 3 (by decide) qX6_come_19 rfl rfl dX6_come_70 ?_
  refine lv_bipush (v := 6) hx hb dX6_come_73 (by decide) ?_
  refine lv_ishr hx hb dX6_come_75 ?_
  refine lv_topi (fun v4 ev4 => ?_)
  replace hf := nLet_e hf ev4
  refine lv_iconst (v := 3) hx hb dX6_come_76 (by decide) ?_
  refine lv_iand hx hb dX6_come_77 ?_
  refine lv_topi (fun v5 ev5 => ?_)
  replace hf := nLet_e hf ev5
  refine lv_iadd hx hb dX6_come_78 ?_
  refine lv_topi (fun v6 ev6 => ?_)
  replace hf := nLet_e hf ev6
  refine lv_istore_n (lv' := [(2, .int v6), (0, .ref (a w))]) hx hb dX6_come_79 rfl hl (by decide) rfl (fun ls hl => ?_)
  refine lv_iload_n hx hb dX6_come_80 rfl (lv_at hl 0 rfl) ?_
  refine lv_if_lt (tgt := 93) hx hb dX6_come_81 (by decide) (fun hc => ?_) (fun hc => ?_)
  · replace hf := nIf_t hc hf
    exact nb_vret hx hb hr hlocks hP hS (nSo hf) dX6_come_93
  · replace hf := nIf_f hc hf
    refine lv_iload_n hx hb dX6_come_84 rfl (lv_at hl 0 rfl) ?_
    refine lv_aload_n hx hb dX6_come_85 rfl (lv_at hl 1 rfl) ?_
    refine nb_get (ci := 6) hx hb hts iX6_come_X6 hown hE hP w (nboW hw) rfl 0 (by decide) qX6_come_11 rfl rfl dX6_come_86 ?_
    refine na_alenL hx hb hE hP (nbrS hw) dX6_come_89 ?_
    refine lv_topi (fun v7 ev7 => ?_)
    replace hf := nLet_e hf ev7
    refine lv_icmp_lt (tgt := 94) hx hb dX6_come_90 (by decide) (fun hc => ?_) (fun hc => ?_)
    · replace hf := nIf_t hc hf
      refine lv_lconst (v := 1) hx hb dX6_come_94 (by decide) ?_
      refine lv_aload_n hx hb dX6_come_95 rfl (lv_at hl 1 rfl) ?_
      refine nb_get (ci := 6) hx hb hts iX6_come_X6 hown hE hP w (nboW hw) rfl 3 (by decide) qX6_come_19 rfl rfl dX6_come_96 ?_
      refine lv_bipush (v := 63) hx hb dX6_come_99 (by decide) ?_
      refine lv_iand hx hb dX6_come_101 ?_
      refine lv_topi (fun v8 ev8 => ?_)
      replace hf := nLet_e hf ev8
      refine lv_lshl hx hb dX6_come_102 rfl ?_
      refine lv_topl (fun v9 ev9 => ?_)
      replace hf := nLet_e hf ev9
      refine lv_lstore_n (lv' := [(3, .long v9), (2, .int v6), (0, .ref (a w))]) hx hb dX6_come_103 rfl hl (by decide) rfl (fun ls hl => ?_)
      refine lv_aload_n hx hb dX6_come_104 rfl (lv_at hl 2 rfl) ?_
      refine nb_get (ci := 6) hx hb hts iX6_come_X6 hown hE hP w (nboW hw) rfl 0 (by decide) qX6_come_11 rfl rfl dX6_come_105 ?_
      refine lv_iload_n hx hb dX6_come_108 rfl (lv_at hl 1 rfl) ?_
      obtain ⟨hin, hf⟩ := nIx_e hf
      refine na_lald hx hb hE hP (nbrS hw) hin dX6_come_109 ?_
      refine lv_topl (fun v10 ev10 => ?_)
      replace hf := nLet_e hf ev10
      refine lv_lload_n hx hb dX6_come_110 rfl (lv_at hl 0 rfl) ?_
      refine lv_land hx hb dX6_come_111 ?_
      refine lv_topl (fun v11 ev11 => ?_)
      replace hf := nLet_e hf ev11
      refine lv_lconst (v := 0) hx hb dX6_come_112 (by decide) ?_
      refine W.lcmp hx hb dX6_come_113 ?_
      refine lv_topi (fun v12 ev12 => ?_)
      replace hf := nLet_e hf ev12
      refine lv_if_eq (tgt := 122) hx hb dX6_come_114 (by decide) (fun hc => ?_) (fun hc => ?_)
      · replace hf := nIf_t hc hf
        refine lv_aload_n hx hb dX6_come_122 rfl (lv_at hl 2 rfl) ?_
        refine nb_get (ci := 6) hx hb hts iX6_come_X6 hown hE hP w (nboW hw) rfl 0 (by decide) qX6_come_11 rfl rfl dX6_come_123 ?_
        refine lv_iload_n hx hb dX6_come_126 rfl (lv_at hl 1 rfl) ?_
        refine lv_dup2_11 hx hb dX6_come_127 rfl rfl ?_
        obtain ⟨hin, hf⟩ := nIx_e hf
        refine na_lald hx hb hE hP (nbrS hw) hin dX6_come_128 ?_
        refine lv_topl (fun v13 ev13 => ?_)
        replace hf := nLet_e hf ev13
        refine lv_lload_n hx hb dX6_come_129 rfl (lv_at hl 0 rfl) ?_
        refine lv_lor hx hb dX6_come_130 ?_
        refine lv_topl (fun v14 ev14 => ?_)
        replace hf := nLet_e hf ev14
        obtain ⟨hin, hf⟩ := nIx_e hf
        refine na_last hx hb hE hP hS (nbrS hw) hin dX6_come_131 (fun σ15 eσ15 H locs hP hS => ?_)
        replace hf := nLet_e hf eσ15
        exact nb_vret hx hb hr hlocks hP hS (nSo hf) dX6_come_132
      · replace hf := nIf_f hc hf
        refine lv_aload_n hx hb dX6_come_117 rfl (lv_at hl 2 rfl) ?_
        refine lv_iconst (v := 4) hx hb dX6_come_118 (by decide) ?_
        refine nb_put (ci := 6) hx hb hts iX6_come_X6 tyX6 tyX6_ok nmX6 hown hE hP hS w (nboW hw) rfl 11 (by decide) qX6_come_43 rfl rfl rfl rfl (Nat.le_of_ble_eq_true rfl) dX6_come_119 (nbpW_11 hw _) (fun σ16 eσ16 H locs hP hS => ?_)
        replace hf := nLet_e hf eσ16
        refine lv_aload_n hx hb dX6_come_122 rfl (lv_at hl 2 rfl) ?_
        refine nb_get (ci := 6) hx hb hts iX6_come_X6 hown hE hP w (nboW hw) rfl 0 (by decide) qX6_come_11 rfl rfl dX6_come_123 ?_
        refine lv_iload_n hx hb dX6_come_126 rfl (lv_at hl 1 rfl) ?_
        refine lv_dup2_11 hx hb dX6_come_127 rfl rfl ?_
        obtain ⟨hin, hf⟩ := nIx_e hf
        refine na_lald hx hb hE hP (nbrS hw) hin dX6_come_128 ?_
        refine lv_topl (fun v17 ev17 => ?_)
        replace hf := nLet_e hf ev17
        refine lv_lload_n hx hb dX6_come_129 rfl (lv_at hl 0 rfl) ?_
        refine lv_lor hx hb dX6_come_130 ?_
        refine lv_topl (fun v18 ev18 => ?_)
        replace hf := nLet_e hf ev18
        obtain ⟨hin, hf⟩ := nIx_e hf
        refine na_last hx hb hE hP hS (nbrS hw) hin dX6_come_131 (fun σ19 eσ19 H locs hP hS => ?_)
        replace hf := nLet_e hf eσ19
        exact nb_vret hx hb hr hlocks hP hS (nSo hf) dX6_come_132
    · replace hf := nIf_f hc hf
      exact nb_vret hx hb hr hlocks hP hS (nSo hf) dX6_come_93
def b_X6_come_0 (N : Nat) (w : Nat) (k53 : nS → Option (Int32 × nS)) (σ : nS) : Option (Int32 × nS) := nBd (f_X7_sizeOf N (σ.1 w 2) σ) (fun r1 σ2 => (if (σ.1 w 6) < r1 then (if (σ2.1 w 10) < 0 then k53 σ2 else nLet (Int32.ofNat (nPl w)) (fun v3 => (if v3 ≤ (σ2.1 w 10) then k53 σ2 else nIx (σ2.1 w 10) (nPl w) (nLet (wr σ2 (w + 2) ((σ2.1 w 10)).toNatClampNeg (σ2.1 w 6)) (fun σ4 => k53 σ4))))) else nLet (wr σ2 w 11 5) (fun σ5 => some (0, σ5))))
set_option maxHeartbeats 4000000 in
set_option maxRecDepth 100000 in
theorem kb_X6_come_0 {p : Program} {l : Launch} {e : Env} {s : State} {m : MethodId} {args : Array Value} {below : List Frame} {meth : Method} {c : Code} {D : va_G} {A : Nat → Prop} {cy : Nat → ClassId} {a kt vt : Nat → Nat} {N : Nat} {w : Nat} (hw : nWk w) (C0 : nCx p s m args meth c cX6_come 5 none RX6 wsX6_come) (hE : nEn D A cy (NBw cy a) kt vt s) {z : Int32 × nS} {k53 : nS → Option (Int32 × nS)} (K53 : ∀ (σ : nS) (H : Heap) (locs : List Loc) (ls : Array Slot), lv_has ls 5 [(0, .ref (a w))] → va_P D vwCl ((NBw cy a) σ) H → va_S A s.heap H locs → k53 σ = some z → W p l e ({ frames := 1, cells := 0, slots := 0, locals := 21 } : Room) s m args below meth c H locs 0 0 (nQv below D A (NBw cy a) args s z) (F0 m 53 ls [])) : ∀ (σ : nS) (H : Heap) (locs : List Loc) (ls : Array Slot), lv_has ls 5 [(0, .ref (a w)), (1, .ref (a 1))] → va_P D vwCl ((NBw cy a) σ) H → va_S A s.heap H locs → b_X6_come_0 N w k53 σ = some z → W p l e ({ frames := 1, cells := 0, slots := 0, locals := 21 } : Room) s m args below meth c H locs 0 0 (nQv below D A (NBw cy a) args s z) (F0 m 0 ls []) := by
  obtain ⟨hx, hb, hr, hml, hown, hts, hlocks⟩ := C0
  intro σ  H locs ls hl hP hS hf
  unfold b_X6_come_0 at hf
  refine lv_aload_n hx hb dX6_come_0 rfl (lv_at hl 0 rfl) ?_
  refine nb_get (ci := 6) hx hb hts iX6_come_X6 hown hE hP w (nboW hw) rfl 6 (by decide) qX6_come_28 rfl rfl dX6_come_1 ?_
  refine lv_aload_n hx hb dX6_come_4 rfl (lv_at hl 1 rfl) ?_
  refine lv_aload_n hx hb dX6_come_5 rfl (lv_at hl 0 rfl) ?_
  refine nb_get (ci := 6) hx hb hts iX6_come_X6 hown hE hP w (nboW hw) rfl 2 (by decide) qX6_come_15 rfl rfl dX6_come_6 ?_
  obtain ⟨r1, σ2, hc2, hf⟩ := nBd_e hf
  refine nb_callVi (As := [.int (σ.1 w 2)]) (rest := [.int (σ.1 w 6)]) ⟨hx, hb, hml, hown, hts⟩ (c_X7_sizeOf (D := D) (A := A) (cy := cy) (a := a) (kt := kt) (vt := vt) (l := l)  hc2) (cwV 1 hts gX6_come_X7_sizeOf rfl rfl rfl (by decide +kernel) ⟨Nat.le_of_ble_eq_true rfl, Nat.le_of_ble_eq_true rfl⟩) hE hP hS nbo_1 rfl rfl hl.1 rfl (Nat.le_of_ble_eq_true rfl) dX6_come_9 (fun H locs hP hS => ?_)
  refine lv_icmp_lt (tgt := 21) hx hb dX6_come_12 (by decide) (fun hc => ?_) (fun hc => ?_)
  · replace hf := nIf_t hc hf
    refine lv_aload_n hx hb dX6_come_21 rfl (lv_at hl 0 rfl) ?_
    refine nb_get (ci := 6) hx hb hts iX6_come_X6 hown hE hP w (nboW hw) rfl 10 (by decide) qX6_come_40 rfl rfl dX6_come_22 ?_
    refine lv_if_lt (tgt := 53) hx hb dX6_come_25 (by decide) (fun hc => ?_) (fun hc => ?_)
    · replace hf := nIf_t hc hf
      exact K53 σ2 H locs ls (lv_sub hl [0] rfl) hP hS hf
    · replace hf := nIf_f hc hf
      refine lv_aload_n hx hb dX6_come_28 rfl (lv_at hl 0 rfl) ?_
      refine nb_get (ci := 6) hx hb hts iX6_come_X6 hown hE hP w (nboW hw) rfl 10 (by decide) qX6_come_40 rfl rfl dX6_come_29 ?_
      refine lv_aload_n hx hb dX6_come_32 rfl (lv_at hl 0 rfl) ?_
      refine nb_get (ci := 6) hx hb hts iX6_come_X6 hown hE hP w (nboW hw) rfl 1 (by decide) qX6_come_46 rfl rfl dX6_come_33 ?_
      refine na_alen hx hb hE hP (nbrP hw) dX6_come_36 ?_
      refine lv_topi (fun v3 ev3 => ?_)
      replace hf := nLet_e hf ev3
      refine lv_icmp_ge (tgt := 53) hx hb dX6_come_37 (by decide) (fun hc => ?_) (fun hc => ?_)
      · replace hf := nIf_t hc hf
        exact K53 σ2 H locs ls (lv_sub hl [0] rfl) hP hS hf
      · replace hf := nIf_f hc hf
        refine lv_aload_n hx hb dX6_come_40 rfl (lv_at hl 0 rfl) ?_
        refine nb_get (ci := 6) hx hb hts iX6_come_X6 hown hE hP w (nboW hw) rfl 1 (by decide) qX6_come_46 rfl rfl dX6_come_41 ?_
        refine lv_aload_n hx hb dX6_come_44 rfl (lv_at hl 0 rfl) ?_
        refine nb_get (ci := 6) hx hb hts iX6_come_X6 hown hE hP w (nboW hw) rfl 10 (by decide) qX6_come_40 rfl rfl dX6_come_45 ?_
        refine lv_aload_n hx hb dX6_come_48 rfl (lv_at hl 0 rfl) ?_
        refine nb_get (ci := 6) hx hb hts iX6_come_X6 hown hE hP w (nboW hw) rfl 6 (by decide) qX6_come_28 rfl rfl dX6_come_49 ?_
        obtain ⟨hin, hf⟩ := nIx_e hf
        refine na_iast hx hb hE hP hS (nbrP hw) hin dX6_come_52 (fun σ4 eσ4 H locs hP hS => ?_)
        replace hf := nLet_e hf eσ4
        exact K53 σ4 H locs ls (lv_sub hl [0] rfl) hP hS hf
  · replace hf := nIf_f hc hf
    refine lv_aload_n hx hb dX6_come_15 rfl (lv_at hl 0 rfl) ?_
    refine lv_iconst (v := 5) hx hb dX6_come_16 (by decide) ?_
    refine nb_put (ci := 6) hx hb hts iX6_come_X6 tyX6 tyX6_ok nmX6 hown hE hP hS w (nboW hw) rfl 11 (by decide) qX6_come_43 rfl rfl rfl rfl (Nat.le_of_ble_eq_true rfl) dX6_come_17 (nbpW_11 hw _) (fun σ5 eσ5 H locs hP hS => ?_)
    replace hf := nLet_e hf eσ5
    exact nb_vret hx hb hr hlocks hP hS (nSo hf) dX6_come_20
def l_X6_come_53 (N : Nat) (w : Nat) : nS → Option (Int32 × nS) := b_X6_come_53 N w
theorem kl_X6_come_53 {p : Program} {l : Launch} {e : Env} {s : State} {m : MethodId} {args : Array Value} {below : List Frame} {meth : Method} {c : Code} {D : va_G} {A : Nat → Prop} {cy : Nat → ClassId} {a kt vt : Nat → Nat} {N : Nat} {w : Nat} (hw : nWk w) (C0 : nCx p s m args meth c cX6_come 5 none RX6 wsX6_come) (hE : nEn D A cy (NBw cy a) kt vt s) {z : Int32 × nS} : ∀ (σ : nS) (H : Heap) (locs : List Loc) (ls : Array Slot), lv_has ls 5 [(0, .ref (a w))] → va_P D vwCl ((NBw cy a) σ) H → va_S A s.heap H locs → l_X6_come_53 N w σ = some z → W p l e ({ frames := 1, cells := 0, slots := 0, locals := 21 } : Room) s m args below meth c H locs 0 0 (nQv below D A (NBw cy a) args s z) (F0 m 53 ls []) := by
  exact kb_X6_come_53 (N := N) hw C0 hE
def l_X6_come_0 (N : Nat) (w : Nat) : nS → Option (Int32 × nS) := b_X6_come_0 N w (l_X6_come_53 N w)
theorem kl_X6_come_0 {p : Program} {l : Launch} {e : Env} {s : State} {m : MethodId} {args : Array Value} {below : List Frame} {meth : Method} {c : Code} {D : va_G} {A : Nat → Prop} {cy : Nat → ClassId} {a kt vt : Nat → Nat} {N : Nat} {w : Nat} (hw : nWk w) (C0 : nCx p s m args meth c cX6_come 5 none RX6 wsX6_come) (hE : nEn D A cy (NBw cy a) kt vt s) {z : Int32 × nS} : ∀ (σ : nS) (H : Heap) (locs : List Loc) (ls : Array Slot), lv_has ls 5 [(0, .ref (a w)), (1, .ref (a 1))] → va_P D vwCl ((NBw cy a) σ) H → va_S A s.heap H locs → l_X6_come_0 N w σ = some z → W p l e ({ frames := 1, cells := 0, slots := 0, locals := 21 } : Room) s m args below meth c H locs 0 0 (nQv below D A (NBw cy a) args s z) (F0 m 0 ls []) := by
  exact kb_X6_come_0 (N := N) hw C0 hE (kl_X6_come_53 (N := N) hw C0 hE)
def f_X6_come (N : Nat) (w : Nat) (σ : nS) : Option (Int32 × nS) := l_X6_come_0 N w σ
set_option maxHeartbeats 4000000 in
set_option maxRecDepth 100000 in
theorem c_X6_come {l : Launch} {D : va_G} {A : Nat → Prop} {cy : Nat → ClassId} {a kt vt : Nat → Nat} {N : Nat} {w : Nat} (hw : nWk w) {σ : nS} {r : Int32} {σ' : nS} (hf : f_X6_come N w σ = some (r, σ')) : nMv l yX6_come wsX6_come ({ frames := 1, cells := 0, slots := 0, locals := 21 } : Room) D A cy (NBw cy a) kt vt [.ref (a w), .ref (a 1)] σ σ' := by
  refine Met.ofW (cc := cX6_come) (maxL := 5) (ret := none) (by decide) rfl ?_
  intro p e s m args below meth c s₁ B hml hv
  obtain ⟨rfl, hP, hE⟩ := hv
  have hl := lv_entry ([.ref (a w), .ref (a 1)]) (n := 5) (Nat.le_of_ble_eq_true rfl)
  rw [lg_entry_eq]
  generalize (lg_sl ([.ref (a w), .ref (a 1)]) ++ List.replicate (5 - (lg_sl ([.ref (a w), .ref (a 1)])).length) Slot.unset).toArray = ls at hl ⊢
  have C0 : nCx p s m _ meth c cX6_come 5 none RX6 wsX6_come := ⟨B.exec, B.bytes, B.returns, hml, findClass_of_methodNamed B.named, atoms_spec (ws := wsX6_come) B.pre, B.notSynchronized⟩
  exact kl_X6_come_0 (N := N) hw C0 hE (z := (r, σ')) σ  _ _ ls hl hP va_S.rf hf

/-! X6_beginDo -/
set_option maxRecDepth 20000 in
theorem iX6_beginDo_X6 : ∀ w ∈ u_ws RX6 TX6 12, w ∈ wsX6_beginDo := fun _ h => List.mem_cons_of_mem _ (List.mem_append_left _ (List.mem_append_left _ (List.mem_append_right _ h)))
set_option maxRecDepth 20000 in
theorem qX6_beginDo_15 : Cond.fieldLink RX6 15 RX6 (TX6 2).2.1 (TX6 2).2.2.1 ∈ wsX6_beginDo := by decide +kernel
set_option maxRecDepth 20000 in
theorem qX6_beginDo_28 : Cond.fieldLink RX6 28 RX6 (TX6 6).2.1 (TX6 6).2.2.1 ∈ wsX6_beginDo := by decide +kernel
set_option maxRecDepth 20000 in
theorem qX6_beginDo_25 : Cond.fieldLink RX6 25 RX6 (TX6 5).2.1 (TX6 5).2.2.1 ∈ wsX6_beginDo := by decide +kernel
set_option maxRecDepth 20000 in
theorem qX6_beginDo_34 : Cond.fieldLink RX6 34 RX6 (TX6 8).2.1 (TX6 8).2.2.1 ∈ wsX6_beginDo := by decide +kernel
set_option maxRecDepth 20000 in
theorem qX6_beginDo_19 : Cond.fieldLink RX6 19 RX6 (TX6 3).2.1 (TX6 3).2.2.1 ∈ wsX6_beginDo := by decide +kernel
set_option maxRecDepth 20000 in
theorem qX6_beginDo_43 : Cond.fieldLink RX6 43 RX6 (TX6 11).2.1 (TX6 11).2.2.1 ∈ wsX6_beginDo := by decide +kernel
set_option maxRecDepth 20000 in
theorem qX6_beginDo_37 : Cond.fieldLink RX6 37 RX6 (TX6 9).2.1 (TX6 9).2.2.1 ∈ wsX6_beginDo := by decide +kernel
set_option maxRecDepth 20000 in
theorem qX6_beginDo_31 : Cond.fieldLink RX6 31 RX6 (TX6 7).2.1 (TX6 7).2.2.1 ∈ wsX6_beginDo := by decide +kernel
def b_X6_beginDo_115 (N : Nat) (w : Nat) (σ : nS) (x3 : Int32) : Option (Int32 × nS) := nBd (f_X7_cell N (σ.1 w 2) (σ.1 w 6) 3 σ) (fun r1 σ2 => nLet ((σ.1 w 8) + r1 : Int32) (fun v3 => nLet (wr σ2 w 8 v3) (fun σ4 => nBd (f_X3_take N x3 (σ4.1 w 8) σ4) (fun r5 σ6 => nLet (wr σ6 w 7 2) (fun σ7 => some (0, σ7))))))
set_option maxHeartbeats 4000000 in
set_option maxRecDepth 100000 in
theorem kb_X6_beginDo_115 {p : Program} {l : Launch} {e : Env} {s : State} {m : MethodId} {args : Array Value} {below : List Frame} {meth : Method} {c : Code} {D : va_G} {A : Nat → Prop} {cy : Nat → ClassId} {a kt vt : Nat → Nat} {N : Nat} {w : Nat} (hw : nWk w) (C0 : nCx p s m args meth c cX6_beginDo 5 none RX6 wsX6_beginDo) (hE : nEn D A cy (NBw cy a) kt vt s) {z : Int32 × nS} : ∀ (σ : nS) (x3 : Int32) (H : Heap) (locs : List Loc) (ls : Array Slot), lv_has ls 5 [(0, .ref (a w)), (1, .ref (a 1)), (2, .ref (a 10)), (3, .int x3)] → va_P D vwCl ((NBw cy a) σ) H → va_S A s.heap H locs → b_X6_beginDo_115 N w σ x3 = some z → W p l e ({ frames := 1, cells := 0, slots := 0, locals := 26 } : Room) s m args below meth c H locs 0 0 (nQv below D A (NBw cy a) args s z) (F0 m 115 ls []) := by
  obtain ⟨hx, hb, hr, hml, hown, hts, hlocks⟩ := C0
  intro σ x3 H locs ls hl hP hS hf
  unfold b_X6_beginDo_115 at hf
  refine lv_aload_n hx hb dX6_beginDo_115 rfl (lv_at hl 0 rfl) ?_
  refine lv_dup hx hb dX6_beginDo_116 rfl ?_
  refine nb_get (ci := 6) hx hb hts iX6_beginDo_X6 hown hE hP w (nboW hw) rfl 8 (by decide) qX6_beginDo_34 rfl rfl dX6_beginDo_117 ?_
  refine lv_aload_n hx hb dX6_beginDo_120 rfl (lv_at hl 1 rfl) ?_
  refine lv_aload_n hx hb dX6_beginDo_121 rfl (lv_at hl 0 rfl) ?_
  refine nb_get (ci := 6) hx hb hts iX6_beginDo_X6 hown hE hP w (nboW hw) rfl 2 (by decide) qX6_beginDo_15 rfl rfl dX6_beginDo_122 ?_
  refine lv_aload_n hx hb dX6_beginDo_125 rfl (lv_at hl 0 rfl) ?_
  refine nb_get (ci := 6) hx hb hts iX6_beginDo_X6 hown hE hP w (nboW hw) rfl 6 (by decide) qX6_beginDo_28 rfl rfl dX6_beginDo_126 ?_
  refine lv_iconst (v := 3) hx hb dX6_beginDo_129 (by decide) ?_
  obtain ⟨r1, σ2, hc2, hf⟩ := nBd_e hf
  refine nb_callVi (As := [.int (σ.1 w 2), .int (σ.1 w 6), .int 3]) (rest := [.int (σ.1 w 8), .ref (a w)]) ⟨hx, hb, hml, hown, hts⟩ (c_X7_cell (D := D) (A := A) (cy := cy) (a := a) (kt := kt) (vt := vt) (l := l)  hc2) (cwV 3 hts gX6_beginDo_X7_cell rfl rfl rfl (by decide +kernel) ⟨Nat.le_of_ble_eq_true rfl, Nat.le_of_ble_eq_true rfl⟩) hE hP hS nbo_1 rfl rfl hl.1 rfl (Nat.le_of_ble_eq_true rfl) dX6_beginDo_130 (fun H locs hP hS => ?_)
  refine lv_iadd hx hb dX6_beginDo_133 ?_
  refine lv_topi (fun v3 ev3 => ?_)
  replace hf := nLet_e hf ev3
  refine nb_put (ci := 6) hx hb hts iX6_beginDo_X6 tyX6 tyX6_ok nmX6 hown hE hP hS w (nboW hw) rfl 8 (by decide) qX6_beginDo_34 rfl rfl rfl rfl (Nat.le_of_ble_eq_true rfl) dX6_beginDo_134 (nbpW_8 hw _) (fun σ4 eσ4 H locs hP hS => ?_)
  replace hf := nLet_e hf eσ4
  refine lv_aload_n hx hb dX6_beginDo_137 rfl (lv_at hl 2 rfl) ?_
  refine lv_iload_n hx hb dX6_beginDo_138 rfl (lv_at hl 3 rfl) ?_
  refine lv_aload_n hx hb dX6_beginDo_139 rfl (lv_at hl 0 rfl) ?_
  refine nb_get (ci := 6) hx hb hts iX6_beginDo_X6 hown hE hP w (nboW hw) rfl 8 (by decide) qX6_beginDo_34 rfl rfl dX6_beginDo_140 ?_
  obtain ⟨r5, σ6, hc6, hf⟩ := nBd_e hf
  refine nb_callVv (As := [.int x3, .int (σ4.1 w 8)]) (rest := []) ⟨hx, hb, hml, hown, hts⟩ (c_X3_take (D := D) (A := A) (cy := cy) (a := a) (kt := kt) (vt := vt) (l := l)  hc6) (cwV 2 hts gX6_beginDo_X3_take rfl rfl rfl (by decide +kernel) ⟨Nat.le_of_ble_eq_true rfl, Nat.le_of_ble_eq_true rfl⟩) hE hP hS nbo_10 rfl rfl hl.1 rfl (Nat.le_of_ble_eq_true rfl) dX6_beginDo_143 (fun H locs hP hS => ?_)
  refine lv_aload_n hx hb dX6_beginDo_146 rfl (lv_at hl 0 rfl) ?_
  refine lv_iconst (v := 2) hx hb dX6_beginDo_147 (by decide) ?_
  refine nb_put (ci := 6) hx hb hts iX6_beginDo_X6 tyX6 tyX6_ok nmX6 hown hE hP hS w (nboW hw) rfl 7 (by decide) qX6_beginDo_31 rfl rfl rfl rfl (Nat.le_of_ble_eq_true rfl) dX6_beginDo_148 (nbpW_7 hw _) (fun σ7 eσ7 H locs hP hS => ?_)
  replace hf := nLet_e hf eσ7
  exact nb_vret hx hb hr hlocks hP hS (nSo hf) dX6_beginDo_151
def b_X6_beginDo_0 (N : Nat) (w : Nat) (k115 : nS → Int32 → Option (Int32 × nS)) (σ : nS) : Option (Int32 × nS) := nBd (f_X7_cell N (σ.1 w 2) (σ.1 w 6) 1 σ) (fun r1 σ2 => nBd (f_X3_pick N r1 (σ2.1 w 5) (σ2.1 w 8) σ2) (fun r3 σ4 => nBd (f_X7_cell N (σ4.1 w 2) (σ4.1 w 6) 4 σ4) (fun r5 σ6 => (if r3 = (-1) then nLet (wr σ6 w 11 2) (fun σ15 => some (0, σ15)) else (if r3 = (-2) then nLet ((σ6.1 w 9) + (1 : Int32) : Int32) (fun v10 => nLet (wr σ6 w 9 v10) (fun σ11 => nLet ((σ11.1 w 8) + (1 : Int32) : Int32) (fun v12 => nLet (wr σ11 w 8 v12) (fun σ13 => nLet (wr σ13 w 7 1) (fun σ14 => some (0, σ14)))))) else (if r5 = (-1) then k115 σ6 r3 else nLet ((σ6.1 w 3) >>> (r5 &&& 31) : Int32) (fun v7 => nLet (v7 &&& (1 : Int32) : Int32) (fun v8 => (if v8 = 0 then nLet (wr σ6 w 11 3) (fun σ9 => some (0, σ9)) else k115 σ6 r3)))))))))
set_option maxHeartbeats 4000000 in
set_option maxRecDepth 100000 in
theorem kb_X6_beginDo_0 {p : Program} {l : Launch} {e : Env} {s : State} {m : MethodId} {args : Array Value} {below : List Frame} {meth : Method} {c : Code} {D : va_G} {A : Nat → Prop} {cy : Nat → ClassId} {a kt vt : Nat → Nat} {N : Nat} {w : Nat} (hw : nWk w) (C0 : nCx p s m args meth c cX6_beginDo 5 none RX6 wsX6_beginDo) (hE : nEn D A cy (NBw cy a) kt vt s) {z : Int32 × nS} {k115 : nS → Int32 → Option (Int32 × nS)} (K115 : ∀ (σ : nS) (x3 : Int32) (H : Heap) (locs : List Loc) (ls : Array Slot), lv_has ls 5 [(0, .ref (a w)), (1, .ref (a 1)), (2, .ref (a 10)), (3, .int x3)] → va_P D vwCl ((NBw cy a) σ) H → va_S A s.heap H locs → k115 σ x3 = some z → W p l e ({ frames := 1, cells := 0, slots := 0, locals := 26 } : Room) s m args below meth c H locs 0 0 (nQv below D A (NBw cy a) args s z) (F0 m 115 ls [])) : ∀ (σ : nS) (H : Heap) (locs : List Loc) (ls : Array Slot), lv_has ls 5 [(0, .ref (a w)), (1, .ref (a 1)), (2, .ref (a 10))] → va_P D vwCl ((NBw cy a) σ) H → va_S A s.heap H locs → b_X6_beginDo_0 N w k115 σ = some z → W p l e ({ frames := 1, cells := 0, slots := 0, locals := 26 } : Room) s m args below meth c H locs 0 0 (nQv below D A (NBw cy a) args s z) (F0 m 0 ls []) := by
  obtain ⟨hx, hb, hr, hml, hown, hts, hlocks⟩ := C0
  intro σ  H locs ls hl hP hS hf
  unfold b_X6_beginDo_0 at hf
  refine lv_aload_n hx hb dX6_beginDo_0 rfl (lv_at hl 2 rfl) ?_
  refine lv_aload_n hx hb dX6_beginDo_1 rfl (lv_at hl 1 rfl) ?_
  refine lv_aload_n hx hb dX6_beginDo_2 rfl (lv_at hl 1 rfl) ?_
  refine lv_aload_n hx hb dX6_beginDo_3 rfl (lv_at hl 0 rfl) ?_
  refine nb_get (ci := 6) hx hb hts iX6_beginDo_X6 hown hE hP w (nboW hw) rfl 2 (by decide) qX6_beginDo_15 rfl rfl dX6_beginDo_4 ?_
  refine lv_aload_n hx hb dX6_beginDo_7 rfl (lv_at hl 0 rfl) ?_
  refine nb_get (ci := 6) hx hb hts iX6_beginDo_X6 hown hE hP w (nboW hw) rfl 6 (by decide) qX6_beginDo_28 rfl rfl dX6_beginDo_8 ?_
  refine lv_iconst (v := 1) hx hb dX6_beginDo_11 (by decide) ?_
  obtain ⟨r1, σ2, hc2, hf⟩ := nBd_e hf
  refine nb_callVi (As := [.int (σ.1 w 2), .int (σ.1 w 6), .int 1]) (rest := [.ref (a 1), .ref (a 10)]) ⟨hx, hb, hml, hown, hts⟩ (c_X7_cell (D := D) (A := A) (cy := cy) (a := a) (kt := kt) (vt := vt) (l := l)  hc2) (cwV 3 hts gX6_beginDo_X7_cell rfl rfl rfl (by decide +kernel) ⟨Nat.le_of_ble_eq_true rfl, Nat.le_of_ble_eq_true rfl⟩) hE hP hS nbo_1 rfl rfl hl.1 rfl (Nat.le_of_ble_eq_true rfl) dX6_beginDo_12 (fun H locs hP hS => ?_)
  refine lv_aload_n hx hb dX6_beginDo_15 rfl (lv_at hl 0 rfl) ?_
  refine nb_get (ci := 6) hx hb hts iX6_beginDo_X6 hown hE hP w (nboW hw) rfl 5 (by decide) qX6_beginDo_25 rfl rfl dX6_beginDo_16 ?_
  refine lv_aload_n hx hb dX6_beginDo_19 rfl (lv_at hl 0 rfl) ?_
  refine nb_get (ci := 6) hx hb hts iX6_beginDo_X6 hown hE hP w (nboW hw) rfl 8 (by decide) qX6_beginDo_34 rfl rfl dX6_beginDo_20 ?_
  obtain ⟨r3, σ4, hc4, hf⟩ := nBd_e hf
  refine nb_callVi (As := [.ref (a 1), .int r1, .int (σ2.1 w 5), .int (σ2.1 w 8)]) (rest := []) ⟨hx, hb, hml, hown, hts⟩ (c_X3_pick (D := D) (A := A) (cy := cy) (a := a) (kt := kt) (vt := vt) (l := l)  hc4) (cwV 4 hts gX6_beginDo_X3_pick rfl rfl rfl (by decide +kernel) ⟨Nat.le_of_ble_eq_true rfl, Nat.le_of_ble_eq_true rfl⟩) hE hP hS nbo_10 rfl rfl hl.1 rfl (Nat.le_of_ble_eq_true rfl) dX6_beginDo_23 (fun H locs hP hS => ?_)
  refine lv_istore_n (lv' := [(3, .int r3), (0, .ref (a w)), (1, .ref (a 1)), (2, .ref (a 10))]) hx hb dX6_beginDo_26 rfl hl (by decide) rfl (fun ls hl => ?_)
  refine lv_aload_n hx hb dX6_beginDo_27 rfl (lv_at hl 2 rfl) ?_
  refine lv_aload_n hx hb dX6_beginDo_28 rfl (lv_at hl 1 rfl) ?_
  refine nb_get (ci := 6) hx hb hts iX6_beginDo_X6 hown hE hP w (nboW hw) rfl 2 (by decide) qX6_beginDo_15 rfl rfl dX6_beginDo_29 ?_
  refine lv_aload_n hx hb dX6_beginDo_32 rfl (lv_at hl 1 rfl) ?_
  refine nb_get (ci := 6) hx hb hts iX6_beginDo_X6 hown hE hP w (nboW hw) rfl 6 (by decide) qX6_beginDo_28 rfl rfl dX6_beginDo_33 ?_
  refine lv_iconst (v := 4) hx hb dX6_beginDo_36 (by decide) ?_
  obtain ⟨r5, σ6, hc6, hf⟩ := nBd_e hf
  refine nb_callVi (As := [.int (σ4.1 w 2), .int (σ4.1 w 6), .int 4]) (rest := []) ⟨hx, hb, hml, hown, hts⟩ (c_X7_cell (D := D) (A := A) (cy := cy) (a := a) (kt := kt) (vt := vt) (l := l)  hc6) (cwV 3 hts gX6_beginDo_X7_cell rfl rfl rfl (by decide +kernel) ⟨Nat.le_of_ble_eq_true rfl, Nat.le_of_ble_eq_true rfl⟩) hE hP hS nbo_1 rfl rfl hl.1 rfl (Nat.le_of_ble_eq_true rfl) dX6_beginDo_37 (fun H locs hP hS => ?_)
  refine lv_istore (lv' := [(4, .int r5), (3, .int r3), (0, .ref (a w)), (1, .ref (a 1)), (2, .ref (a 10))]) hx hb dX6_beginDo_40 hl (by decide) rfl (fun ls hl => ?_)
  refine lv_iload_n hx hb dX6_beginDo_42 rfl (lv_at hl 1 rfl) ?_
  refine lv_iconst (v := (-1)) hx hb dX6_beginDo_43 (by decide) ?_
  refine lv_icmp_ne (tgt := 55) hx hb dX6_beginDo_44 (by decide) (fun hc => ?_) (fun hc => ?_)
  · replace hf := nIf_f hc hf
    refine lv_iload_n hx hb dX6_beginDo_55 rfl (lv_at hl 1 rfl) ?_
    refine lv_bipush (v := (-2)) hx hb dX6_beginDo_56 (by decide) ?_
    refine lv_icmp_ne (tgt := 89) hx hb dX6_beginDo_58 (by decide) (fun hc => ?_) (fun hc => ?_)
    · replace hf := nIf_f hc hf
      refine lv_iload hx hb dX6_beginDo_89 (lv_at hl 0 rfl) ?_
      refine lv_iconst (v := (-1)) hx hb dX6_beginDo_91 (by decide) ?_
      refine lv_icmp_eq (tgt := 115) hx hb dX6_beginDo_92 (by decide) (fun hc => ?_) (fun hc => ?_)
      · replace hf := nIf_t hc hf
        exact K115 σ6 r3 H locs ls (lv_sub hl [2, 3, 4, 1] rfl) hP hS hf
      · replace hf := nIf_f hc hf
        refine lv_aload_n hx hb dX6_beginDo_95 rfl (lv_at hl 2 rfl) ?_
        refine nb_get (ci := 6) hx hb hts iX6_beginDo_X6 hown hE hP w (nboW hw) rfl 3 (by decide) qX6_beginDo_19 rfl rfl dX6_beginDo_96 ?_
        refine lv_iload hx hb dX6_beginDo_99 (lv_at hl 0 rfl) ?_
        refine lv_ishr hx hb dX6_beginDo_101 ?_
        refine lv_topi (fun v7 ev7 => ?_)
        replace hf := nLet_e hf ev7
        refine lv_iconst (v := 1) hx hb dX6_beginDo_102 (by decide) ?_
        refine lv_iand hx hb dX6_beginDo_103 ?_
        refine lv_topi (fun v8 ev8 => ?_)
        replace hf := nLet_e hf ev8
        refine lv_if_ne (tgt := 115) hx hb dX6_beginDo_104 (by decide) (fun hc => ?_) (fun hc => ?_)
        · replace hf := nIf_f hc hf
          exact K115 σ6 r3 H locs ls (lv_sub hl [2, 3, 4, 1] rfl) hP hS hf
        · replace hf := nIf_t hc hf
          refine lv_aload_n hx hb dX6_beginDo_107 rfl (lv_at hl 2 rfl) ?_
          refine lv_iconst (v := 3) hx hb dX6_beginDo_108 (by decide) ?_
          refine nb_put (ci := 6) hx hb hts iX6_beginDo_X6 tyX6 tyX6_ok nmX6 hown hE hP hS w (nboW hw) rfl 11 (by decide) qX6_beginDo_43 rfl rfl rfl rfl (Nat.le_of_ble_eq_true rfl) dX6_beginDo_109 (nbpW_11 hw _) (fun σ9 eσ9 H locs hP hS => ?_)
          replace hf := nLet_e hf eσ9
          refine lv_goto (tgt := 151) hx hb dX6_beginDo_112 (by decide) ?_
          exact nb_vret hx hb hr hlocks hP hS (nSo hf) dX6_beginDo_151
    · replace hf := nIf_t hc hf
      refine lv_aload_n hx hb dX6_beginDo_61 rfl (lv_at hl 2 rfl) ?_
      refine lv_dup hx hb dX6_beginDo_62 rfl ?_
      refine nb_get (ci := 6) hx hb hts iX6_beginDo_X6 hown hE hP w (nboW hw) rfl 9 (by decide) qX6_beginDo_37 rfl rfl dX6_beginDo_63 ?_
      refine lv_iconst (v := 1) hx hb dX6_beginDo_66 (by decide) ?_
      refine lv_iadd hx hb dX6_beginDo_67 ?_
      refine lv_topi (fun v10 ev10 => ?_)
      replace hf := nLet_e hf ev10
      refine nb_put (ci := 6) hx hb hts iX6_beginDo_X6 tyX6 tyX6_ok nmX6 hown hE hP hS w (nboW hw) rfl 9 (by decide) qX6_beginDo_37 rfl rfl rfl rfl (Nat.le_of_ble_eq_true rfl) dX6_beginDo_68 (nbpW_9 hw _) (fun σ11 eσ11 H locs hP hS => ?_)
      replace hf := nLet_e hf eσ11
      refine lv_aload_n hx hb dX6_beginDo_71 rfl (lv_at hl 2 rfl) ?_
      refine lv_dup hx hb dX6_beginDo_72 rfl ?_
      refine nb_get (ci := 6) hx hb hts iX6_beginDo_X6 hown hE hP w (nboW hw) rfl 8 (by decide) qX6_beginDo_34 rfl rfl dX6_beginDo_73 ?_
      refine lv_iconst (v := 1) hx hb dX6_beginDo_76 (by decide) ?_
      refine lv_iadd hx hb dX6_beginDo_77 ?_
      refine lv_topi (fun v12 ev12 => ?_)
      replace hf := nLet_e hf ev12
      refine nb_put (ci := 6) hx hb hts iX6_beginDo_X6 tyX6 tyX6_ok nmX6 hown hE hP hS w (nboW hw) rfl 8 (by decide) qX6_beginDo_34 rfl rfl rfl rfl (Nat.le_of_ble_eq_true rfl) dX6_beginDo_78 (nbpW_8 hw _) (fun σ13 eσ13 H locs hP hS => ?_)
      replace hf := nLet_e hf eσ13
      refine lv_aload_n hx hb dX6_beginDo_81 rfl (lv_at hl 2 rfl) ?_
      refine lv_iconst (v := 1) hx hb dX6_beginDo_82 (by decide) ?_
      refine nb_put (ci := 6) hx hb hts iX6_beginDo_X6 tyX6 tyX6_ok nmX6 hown hE hP hS w (nboW hw) rfl 7 (by decide) qX6_beginDo_31 rfl rfl rfl rfl (Nat.le_of_ble_eq_true rfl) dX6_beginDo_83 (nbpW_7 hw _) (fun σ14 eσ14 H locs hP hS => ?_)
      replace hf := nLet_e hf eσ14
      refine lv_goto (tgt := 151) hx hb dX6_beginDo_86 (by decide) ?_
      exact nb_vret hx hb hr hlocks hP hS (nSo hf) dX6_beginDo_151
  · replace hf := nIf_t hc hf
    refine lv_aload_n hx hb dX6_beginDo_47 rfl (lv_at hl 2 rfl) ?_
    refine lv_iconst (v := 2) hx hb dX6_beginDo_48 (by decide) ?_
    refine nb_put (ci := 6) hx hb hts iX6_beginDo_X6 tyX6 tyX6_ok nmX6 hown hE hP hS w (nboW hw) rfl 11 (by decide) qX6_beginDo_43 rfl rfl rfl rfl (Nat.le_of_ble_eq_true rfl) dX6_beginDo_49 (nbpW_11 hw _) (fun σ15 eσ15 H locs hP hS => ?_)
    replace hf := nLet_e hf eσ15
    refine lv_goto (tgt := 151) hx hb dX6_beginDo_52 (by decide) ?_
    exact nb_vret hx hb hr hlocks hP hS (nSo hf) dX6_beginDo_151
def l_X6_beginDo_115 (N : Nat) (w : Nat) : nS → Int32 → Option (Int32 × nS) := b_X6_beginDo_115 N w
theorem kl_X6_beginDo_115 {p : Program} {l : Launch} {e : Env} {s : State} {m : MethodId} {args : Array Value} {below : List Frame} {meth : Method} {c : Code} {D : va_G} {A : Nat → Prop} {cy : Nat → ClassId} {a kt vt : Nat → Nat} {N : Nat} {w : Nat} (hw : nWk w) (C0 : nCx p s m args meth c cX6_beginDo 5 none RX6 wsX6_beginDo) (hE : nEn D A cy (NBw cy a) kt vt s) {z : Int32 × nS} : ∀ (σ : nS) (x3 : Int32) (H : Heap) (locs : List Loc) (ls : Array Slot), lv_has ls 5 [(0, .ref (a w)), (1, .ref (a 1)), (2, .ref (a 10)), (3, .int x3)] → va_P D vwCl ((NBw cy a) σ) H → va_S A s.heap H locs → l_X6_beginDo_115 N w σ x3 = some z → W p l e ({ frames := 1, cells := 0, slots := 0, locals := 26 } : Room) s m args below meth c H locs 0 0 (nQv below D A (NBw cy a) args s z) (F0 m 115 ls []) := by
  exact kb_X6_beginDo_115 (N := N) hw C0 hE
def l_X6_beginDo_0 (N : Nat) (w : Nat) : nS → Option (Int32 × nS) := b_X6_beginDo_0 N w (l_X6_beginDo_115 N w)
theorem kl_X6_beginDo_0 {p : Program} {l : Launch} {e : Env} {s : State} {m : MethodId} {args : Array Value} {below : List Frame} {meth : Method} {c : Code} {D : va_G} {A : Nat → Prop} {cy : Nat → ClassId} {a kt vt : Nat → Nat} {N : Nat} {w : Nat} (hw : nWk w) (C0 : nCx p s m args meth c cX6_beginDo 5 none RX6 wsX6_beginDo) (hE : nEn D A cy (NBw cy a) kt vt s) {z : Int32 × nS} : ∀ (σ : nS) (H : Heap) (locs : List Loc) (ls : Array Slot), lv_has ls 5 [(0, .ref (a w)), (1, .ref (a 1)), (2, .ref (a 10))] → va_P D vwCl ((NBw cy a) σ) H → va_S A s.heap H locs → l_X6_beginDo_0 N w σ = some z → W p l e ({ frames := 1, cells := 0, slots := 0, locals := 26 } : Room) s m args below meth c H locs 0 0 (nQv below D A (NBw cy a) args s z) (F0 m 0 ls []) := by
  exact kb_X6_beginDo_0 (N := N) hw C0 hE (kl_X6_beginDo_115 (N := N) hw C0 hE)
def f_X6_beginDo (N : Nat) (w : Nat) (σ : nS) : Option (Int32 × nS) := l_X6_beginDo_0 N w σ
set_option maxHeartbeats 4000000 in
set_option maxRecDepth 100000 in
theorem c_X6_beginDo {l : Launch} {D : va_G} {A : Nat → Prop} {cy : Nat → ClassId} {a kt vt : Nat → Nat} {N : Nat} {w : Nat} (hw : nWk w) {σ : nS} {r : Int32} {σ' : nS} (hf : f_X6_beginDo N w σ = some (r, σ')) : nMv l yX6_beginDo wsX6_beginDo ({ frames := 1, cells := 0, slots := 0, locals := 26 } : Room) D A cy (NBw cy a) kt vt [.ref (a w), .ref (a 1), .ref (a 10)] σ σ' := by
  refine Met.ofW (cc := cX6_beginDo) (maxL := 5) (ret := none) (by decide) rfl ?_
  intro p e s m args below meth c s₁ B hml hv
  obtain ⟨rfl, hP, hE⟩ := hv
  have hl := lv_entry ([.ref (a w), .ref (a 1), .ref (a 10)]) (n := 5) (Nat.le_of_ble_eq_true rfl)
  rw [lg_entry_eq]
  generalize (lg_sl ([.ref (a w), .ref (a 1), .ref (a 10)]) ++ List.replicate (5 - (lg_sl ([.ref (a w), .ref (a 1), .ref (a 10)])).length) Slot.unset).toArray = ls at hl ⊢
  have C0 : nCx p s m _ meth c cX6_beginDo 5 none RX6 wsX6_beginDo := ⟨B.exec, B.bytes, B.returns, hml, findClass_of_methodNamed B.named, atoms_spec (ws := wsX6_beginDo) B.pre, B.notSynchronized⟩
  exact kl_X6_beginDo_0 (N := N) hw C0 hE (z := (r, σ')) σ  _ _ ls hl hP va_S.rf hf

/-! X6_beginOther -/
set_option maxRecDepth 20000 in
theorem iX6_beginOther_X6 : ∀ w ∈ u_ws RX6 TX6 12, w ∈ wsX6_beginOther := fun _ h => List.mem_cons_of_mem _ (List.mem_append_left _ (List.mem_append_right _ h))
set_option maxRecDepth 20000 in
theorem qX6_beginOther_15 : Cond.fieldLink RX6 15 RX6 (TX6 2).2.1 (TX6 2).2.2.1 ∈ wsX6_beginOther := by decide +kernel
set_option maxRecDepth 20000 in
theorem qX6_beginOther_28 : Cond.fieldLink RX6 28 RX6 (TX6 6).2.1 (TX6 6).2.2.1 ∈ wsX6_beginOther := by decide +kernel
set_option maxRecDepth 20000 in
theorem qX6_beginOther_34 : Cond.fieldLink RX6 34 RX6 (TX6 8).2.1 (TX6 8).2.2.1 ∈ wsX6_beginOther := by decide +kernel
set_option maxRecDepth 20000 in
theorem qX6_beginOther_31 : Cond.fieldLink RX6 31 RX6 (TX6 7).2.1 (TX6 7).2.2.1 ∈ wsX6_beginOther := by decide +kernel
set_option maxRecDepth 20000 in
theorem qX6_beginOther_19 : Cond.fieldLink RX6 19 RX6 (TX6 3).2.1 (TX6 3).2.2.1 ∈ wsX6_beginOther := by decide +kernel
set_option maxRecDepth 20000 in
theorem iX6_beginOther_X7 : ∀ w ∈ u_ws RX7 TX7 9, w ∈ wsX6_beginOther := fun _ h => List.mem_cons_of_mem _ (List.mem_append_right _ h)
set_option maxRecDepth 20000 in
theorem qX6_beginOther_43 : Cond.fieldLink RX6 43 RX6 (TX6 11).2.1 (TX6 11).2.2.1 ∈ wsX6_beginOther := by decide +kernel
def b_X6_beginOther_0 (N : Nat) (w : Nat) (σ : nS) : Option (Int32 × nS) := nBd (f_X7_cell N (σ.1 w 2) (σ.1 w 6) 0 σ) (fun r1 σ2 => (if r1 = 5 then nLet ((σ2.1 w 3) &&& (σ2.1 1 4) : Int32) (fun v14 => (if v14 = 0 then nLet (wr σ2 w 11 0) (fun σ16 => some (0, σ16)) else nLet (wr σ2 w 11 1) (fun σ15 => some (0, σ15)))) else (if r1 = 2 then nLet ((σ2.1 w 8) + (1 : Int32) : Int32) (fun v11 => nLet (wr σ2 w 8 v11) (fun σ12 => nLet (wr σ12 w 7 2) (fun σ13 => some (0, σ13)))) else (if r1 = 3 then nBd (f_X7_cell N (σ2.1 w 2) (σ2.1 w 6) 1 σ2) (fun r6 σ7 => nLet ((σ2.1 w 8) + r6 : Int32) (fun v8 => nLet (wr σ7 w 8 v8) (fun σ9 => nLet (wr σ9 w 7 2) (fun σ10 => some (0, σ10))))) else nLet ((σ2.1 w 8) + (0 : Int32) : Int32) (fun v3 => nLet (wr σ2 w 8 v3) (fun σ4 => nLet (wr σ4 w 7 2) (fun σ5 => some (0, σ5))))))))
set_option maxHeartbeats 4000000 in
set_option maxRecDepth 100000 in
theorem kb_X6_beginOther_0 {p : Program} {l : Launch} {e : Env} {s : State} {m : MethodId} {args : Array Value} {below : List Frame} {meth : Method} {c : Code} {D : va_G} {A : Nat → Prop} {cy : Nat → ClassId} {a kt vt : Nat → Nat} {N : Nat} {w : Nat} (hw : nWk w) (C0 : nCx p s m args meth c cX6_beginOther 3 none RX6 wsX6_beginOther) (hE : nEn D A cy (NBw cy a) kt vt s) {z : Int32 × nS} : ∀ (σ : nS) (H : Heap) (locs : List Loc) (ls : Array Slot), lv_has ls 3 [(0, .ref (a w)), (1, .ref (a 1))] → va_P D vwCl ((NBw cy a) σ) H → va_S A s.heap H locs → b_X6_beginOther_0 N w σ = some z → W p l e ({ frames := 1, cells := 0, slots := 0, locals := 24 } : Room) s m args below meth c H locs 0 0 (nQv below D A (NBw cy a) args s z) (F0 m 0 ls []) := by
  obtain ⟨hx, hb, hr, hml, hown, hts, hlocks⟩ := C0
  intro σ  H locs ls hl hP hS hf
  unfold b_X6_beginOther_0 at hf
  refine lv_aload_n hx hb dX6_beginOther_0 rfl (lv_at hl 1 rfl) ?_
  refine lv_aload_n hx hb dX6_beginOther_1 rfl (lv_at hl 0 rfl) ?_
  refine nb_get (ci := 6) hx hb hts iX6_beginOther_X6 hown hE hP w (nboW hw) rfl 2 (by decide) qX6_beginOther_15 rfl rfl dX6_beginOther_2 ?_
  refine lv_aload_n hx hb dX6_beginOther_5 rfl (lv_at hl 0 rfl) ?_
  refine nb_get (ci := 6) hx hb hts iX6_beginOther_X6 hown hE hP w (nboW hw) rfl 6 (by decide) qX6_beginOther_28 rfl rfl dX6_beginOther_6 ?_
  refine lv_iconst (v := 0) hx hb dX6_beginOther_9 (by decide) ?_
  obtain ⟨r1, σ2, hc2, hf⟩ := nBd_e hf
  refine nb_callVi (As := [.int (σ.1 w 2), .int (σ.1 w 6), .int 0]) (rest := []) ⟨hx, hb, hml, hown, hts⟩ (c_X7_cell (D := D) (A := A) (cy := cy) (a := a) (kt := kt) (vt := vt) (l := l)  hc2) (cwV 3 hts gX6_beginOther_X7_cell rfl rfl rfl (by decide +kernel) ⟨Nat.le_of_ble_eq_true rfl, Nat.le_of_ble_eq_true rfl⟩) hE hP hS nbo_1 rfl rfl hl.1 rfl (Nat.le_of_ble_eq_true rfl) dX6_beginOther_10 (fun H locs hP hS => ?_)
  refine lv_istore_n (lv' := [(2, .int r1), (0, .ref (a w)), (1, .ref (a 1))]) hx hb dX6_beginOther_13 rfl hl (by decide) rfl (fun ls hl => ?_)
  refine lv_iload_n hx hb dX6_beginOther_14 rfl (lv_at hl 0 rfl) ?_
  refine lv_iconst (v := 5) hx hb dX6_beginOther_15 (by decide) ?_
  refine lv_icmp_ne (tgt := 41) hx hb dX6_beginOther_16 (by decide) (fun hc => ?_) (fun hc => ?_)
  · replace hf := nIf_f hc hf
    refine lv_aload_n hx hb dX6_beginOther_41 rfl (lv_at hl 1 rfl) ?_
    refine lv_dup hx hb dX6_beginOther_42 rfl ?_
    refine nb_get (ci := 6) hx hb hts iX6_beginOther_X6 hown hE hP w (nboW hw) rfl 8 (by decide) qX6_beginOther_34 rfl rfl dX6_beginOther_43 ?_
    refine lv_iload_n hx hb dX6_beginOther_46 rfl (lv_at hl 0 rfl) ?_
    refine lv_iconst (v := 2) hx hb dX6_beginOther_47 (by decide) ?_
    refine lv_icmp_ne (tgt := 55) hx hb dX6_beginOther_48 (by decide) (fun hc => ?_) (fun hc => ?_)
    · replace hf := nIf_f hc hf
      refine lv_iload_n hx hb dX6_beginOther_55 rfl (lv_at hl 0 rfl) ?_
      refine lv_iconst (v := 3) hx hb dX6_beginOther_56 (by decide) ?_
      refine lv_icmp_ne (tgt := 76) hx hb dX6_beginOther_57 (by decide) (fun hc => ?_) (fun hc => ?_)
      · replace hf := nIf_f hc hf
        refine lv_iconst (v := 0) hx hb dX6_beginOther_76 (by decide) ?_
        refine lv_iadd hx hb dX6_beginOther_77 ?_
        refine lv_topi (fun v3 ev3 => ?_)
        replace hf := nLet_e hf ev3
        refine nb_put (ci := 6) hx hb hts iX6_beginOther_X6 tyX6 tyX6_ok nmX6 hown hE hP hS w (nboW hw) rfl 8 (by decide) qX6_beginOther_34 rfl rfl rfl rfl (Nat.le_of_ble_eq_true rfl) dX6_beginOther_78 (nbpW_8 hw _) (fun σ4 eσ4 H locs hP hS => ?_)
        replace hf := nLet_e hf eσ4
        refine lv_aload_n hx hb dX6_beginOther_81 rfl (lv_at hl 1 rfl) ?_
        refine lv_iconst (v := 2) hx hb dX6_beginOther_82 (by decide) ?_
        refine nb_put (ci := 6) hx hb hts iX6_beginOther_X6 tyX6 tyX6_ok nmX6 hown hE hP hS w (nboW hw) rfl 7 (by decide) qX6_beginOther_31 rfl rfl rfl rfl (Nat.le_of_ble_eq_true rfl) dX6_beginOther_83 (nbpW_7 hw _) (fun σ5 eσ5 H locs hP hS => ?_)
        replace hf := nLet_e hf eσ5
        exact nb_vret hx hb hr hlocks hP hS (nSo hf) dX6_beginOther_86
      · replace hf := nIf_t hc hf
        refine lv_aload_n hx hb dX6_beginOther_60 rfl (lv_at hl 2 rfl) ?_
        refine lv_aload_n hx hb dX6_beginOther_61 rfl (lv_at hl 1 rfl) ?_
        refine nb_get (ci := 6) hx hb hts iX6_beginOther_X6 hown hE hP w (nboW hw) rfl 2 (by decide) qX6_beginOther_15 rfl rfl dX6_beginOther_62 ?_
        refine lv_aload_n hx hb dX6_beginOther_65 rfl (lv_at hl 1 rfl) ?_
        refine nb_get (ci := 6) hx hb hts iX6_beginOther_X6 hown hE hP w (nboW hw) rfl 6 (by decide) qX6_beginOther_28 rfl rfl dX6_beginOther_66 ?_
        refine lv_iconst (v := 1) hx hb dX6_beginOther_69 (by decide) ?_
        obtain ⟨r6, σ7, hc7, hf⟩ := nBd_e hf
        refine nb_callVi (As := [.int (σ2.1 w 2), .int (σ2.1 w 6), .int 1]) (rest := [.int (σ2.1 w 8), .ref (a w)]) ⟨hx, hb, hml, hown, hts⟩ (c_X7_cell (D := D) (A := A) (cy := cy) (a := a) (kt := kt) (vt := vt) (l := l)  hc7) (cwV 3 hts gX6_beginOther_X7_cell rfl rfl rfl (by decide +kernel) ⟨Nat.le_of_ble_eq_true rfl, Nat.le_of_ble_eq_true rfl⟩) hE hP hS nbo_1 rfl rfl hl.1 rfl (Nat.le_of_ble_eq_true rfl) dX6_beginOther_70 (fun H locs hP hS => ?_)
        refine lv_goto (tgt := 77) hx hb dX6_beginOther_73 (by decide) ?_
        refine lv_iadd hx hb dX6_beginOther_77 ?_
        refine lv_topi (fun v8 ev8 => ?_)
        replace hf := nLet_e hf ev8
        refine nb_put (ci := 6) hx hb hts iX6_beginOther_X6 tyX6 tyX6_ok nmX6 hown hE hP hS w (nboW hw) rfl 8 (by decide) qX6_beginOther_34 rfl rfl rfl rfl (Nat.le_of_ble_eq_true rfl) dX6_beginOther_78 (nbpW_8 hw _) (fun σ9 eσ9 H locs hP hS => ?_)
        replace hf := nLet_e hf eσ9
        refine lv_aload_n hx hb dX6_beginOther_81 rfl (lv_at hl 1 rfl) ?_
        refine lv_iconst (v := 2) hx hb dX6_beginOther_82 (by decide) ?_
        refine nb_put (ci := 6) hx hb hts iX6_beginOther_X6 tyX6 tyX6_ok nmX6 hown hE hP hS w (nboW hw) rfl 7 (by decide) qX6_beginOther_31 rfl rfl rfl rfl (Nat.le_of_ble_eq_true rfl) dX6_beginOther_83 (nbpW_7 hw _) (fun σ10 eσ10 H locs hP hS => ?_)
        replace hf := nLet_e hf eσ10
        exact nb_vret hx hb hr hlocks hP hS (nSo hf) dX6_beginOther_86
    · replace hf := nIf_t hc hf
      refine lv_iconst (v := 1) hx hb dX6_beginOther_51 (by decide) ?_
      refine lv_goto (tgt := 77) hx hb dX6_beginOther_52 (by decide) ?_
      refine lv_iadd hx hb dX6_beginOther_77 ?_
      refine lv_topi (fun v11 ev11 => ?_)
      replace hf := nLet_e hf ev11
      refine nb_put (ci := 6) hx hb hts iX6_beginOther_X6 tyX6 tyX6_ok nmX6 hown hE hP hS w (nboW hw) rfl 8 (by decide) qX6_beginOther_34 rfl rfl rfl rfl (Nat.le_of_ble_eq_true rfl) dX6_beginOther_78 (nbpW_8 hw _) (fun σ12 eσ12 H locs hP hS => ?_)
      replace hf := nLet_e hf eσ12
      refine lv_aload_n hx hb dX6_beginOther_81 rfl (lv_at hl 1 rfl) ?_
      refine lv_iconst (v := 2) hx hb dX6_beginOther_82 (by decide) ?_
      refine nb_put (ci := 6) hx hb hts iX6_beginOther_X6 tyX6 tyX6_ok nmX6 hown hE hP hS w (nboW hw) rfl 7 (by decide) qX6_beginOther_31 rfl rfl rfl rfl (Nat.le_of_ble_eq_true rfl) dX6_beginOther_83 (nbpW_7 hw _) (fun σ13 eσ13 H locs hP hS => ?_)
      replace hf := nLet_e hf eσ13
      exact nb_vret hx hb hr hlocks hP hS (nSo hf) dX6_beginOther_86
  · replace hf := nIf_t hc hf
    refine lv_aload_n hx hb dX6_beginOther_19 rfl (lv_at hl 1 rfl) ?_
    refine lv_aload_n hx hb dX6_beginOther_20 rfl (lv_at hl 1 rfl) ?_
    refine nb_get (ci := 6) hx hb hts iX6_beginOther_X6 hown hE hP w (nboW hw) rfl 3 (by decide) qX6_beginOther_19 rfl rfl dX6_beginOther_21 ?_
    refine lv_aload_n hx hb dX6_beginOther_24 rfl (lv_at hl 2 rfl) ?_
    refine nb_getN (ci := 7) hx hb hts iX6_beginOther_X7 hown hE hP 1 nbo_1 rfl 4 (by decide) (host := RX8) (by decide +kernel) rfl rfl dX6_beginOther_25 ?_
    refine lv_iand hx hb dX6_beginOther_28 ?_
    refine lv_topi (fun v14 ev14 => ?_)
    replace hf := nLet_e hf ev14
    refine lv_if_ne (tgt := 36) hx hb dX6_beginOther_29 (by decide) (fun hc => ?_) (fun hc => ?_)
    · replace hf := nIf_f hc hf
      refine lv_iconst (v := 1) hx hb dX6_beginOther_36 (by decide) ?_
      refine nb_put (ci := 6) hx hb hts iX6_beginOther_X6 tyX6 tyX6_ok nmX6 hown hE hP hS w (nboW hw) rfl 11 (by decide) qX6_beginOther_43 rfl rfl rfl rfl (Nat.le_of_ble_eq_true rfl) dX6_beginOther_37 (nbpW_11 hw _) (fun σ15 eσ15 H locs hP hS => ?_)
      replace hf := nLet_e hf eσ15
      exact nb_vret hx hb hr hlocks hP hS (nSo hf) dX6_beginOther_40
    · replace hf := nIf_t hc hf
      refine lv_iconst (v := 0) hx hb dX6_beginOther_32 (by decide) ?_
      refine lv_goto (tgt := 37) hx hb dX6_beginOther_33 (by decide) ?_
      refine nb_put (ci := 6) hx hb hts iX6_beginOther_X6 tyX6 tyX6_ok nmX6 hown hE hP hS w (nboW hw) rfl 11 (by decide) qX6_beginOther_43 rfl rfl rfl rfl (Nat.le_of_ble_eq_true rfl) dX6_beginOther_37 (nbpW_11 hw _) (fun σ16 eσ16 H locs hP hS => ?_)
      replace hf := nLet_e hf eσ16
      exact nb_vret hx hb hr hlocks hP hS (nSo hf) dX6_beginOther_40
def l_X6_beginOther_0 (N : Nat) (w : Nat) : nS → Option (Int32 × nS) := b_X6_beginOther_0 N w
theorem kl_X6_beginOther_0 {p : Program} {l : Launch} {e : Env} {s : State} {m : MethodId} {args : Array Value} {below : List Frame} {meth : Method} {c : Code} {D : va_G} {A : Nat → Prop} {cy : Nat → ClassId} {a kt vt : Nat → Nat} {N : Nat} {w : Nat} (hw : nWk w) (C0 : nCx p s m args meth c cX6_beginOther 3 none RX6 wsX6_beginOther) (hE : nEn D A cy (NBw cy a) kt vt s) {z : Int32 × nS} : ∀ (σ : nS) (H : Heap) (locs : List Loc) (ls : Array Slot), lv_has ls 3 [(0, .ref (a w)), (1, .ref (a 1))] → va_P D vwCl ((NBw cy a) σ) H → va_S A s.heap H locs → l_X6_beginOther_0 N w σ = some z → W p l e ({ frames := 1, cells := 0, slots := 0, locals := 24 } : Room) s m args below meth c H locs 0 0 (nQv below D A (NBw cy a) args s z) (F0 m 0 ls []) := by
  exact kb_X6_beginOther_0 (N := N) hw C0 hE
def f_X6_beginOther (N : Nat) (w : Nat) (σ : nS) : Option (Int32 × nS) := l_X6_beginOther_0 N w σ
set_option maxHeartbeats 4000000 in
set_option maxRecDepth 100000 in
theorem c_X6_beginOther {l : Launch} {D : va_G} {A : Nat → Prop} {cy : Nat → ClassId} {a kt vt : Nat → Nat} {N : Nat} {w : Nat} (hw : nWk w) {σ : nS} {r : Int32} {σ' : nS} (hf : f_X6_beginOther N w σ = some (r, σ')) : nMv l yX6_beginOther wsX6_beginOther ({ frames := 1, cells := 0, slots := 0, locals := 24 } : Room) D A cy (NBw cy a) kt vt [.ref (a w), .ref (a 1)] σ σ' := by
  refine Met.ofW (cc := cX6_beginOther) (maxL := 3) (ret := none) (by decide) rfl ?_
  intro p e s m args below meth c s₁ B hml hv
  obtain ⟨rfl, hP, hE⟩ := hv
  have hl := lv_entry ([.ref (a w), .ref (a 1)]) (n := 3) (Nat.le_of_ble_eq_true rfl)
  rw [lg_entry_eq]
  generalize (lg_sl ([.ref (a w), .ref (a 1)]) ++ List.replicate (3 - (lg_sl ([.ref (a w), .ref (a 1)])).length) Slot.unset).toArray = ls at hl ⊢
  have C0 : nCx p s m _ meth c cX6_beginOther 3 none RX6 wsX6_beginOther := ⟨B.exec, B.bytes, B.returns, hml, findClass_of_methodNamed B.named, atoms_spec (ws := wsX6_beginOther) B.pre, B.notSynchronized⟩
  exact kl_X6_beginOther_0 (N := N) hw C0 hE (z := (r, σ')) σ  _ _ ls hl hP va_S.rf hf

/-! X6_goOn -/
set_option maxRecDepth 20000 in
theorem iX6_goOn_X6 : ∀ w ∈ u_ws RX6 TX6 12, w ∈ wsX6_goOn := fun _ h => List.mem_cons_of_mem _ (List.mem_append_left _ (List.mem_append_left _ (List.mem_append_right _ h)))
set_option maxRecDepth 20000 in
theorem qX6_goOn_43 : Cond.fieldLink RX6 43 RX6 (TX6 11).2.1 (TX6 11).2.2.1 ∈ wsX6_goOn := by decide +kernel
set_option maxRecDepth 20000 in
theorem qX6_goOn_34 : Cond.fieldLink RX6 34 RX6 (TX6 8).2.1 (TX6 8).2.2.1 ∈ wsX6_goOn := by decide +kernel
set_option maxRecDepth 20000 in
theorem qX6_goOn_31 : Cond.fieldLink RX6 31 RX6 (TX6 7).2.1 (TX6 7).2.2.1 ∈ wsX6_goOn := by decide +kernel
set_option maxRecDepth 20000 in
theorem qX6_goOn_15 : Cond.fieldLink RX6 15 RX6 (TX6 2).2.1 (TX6 2).2.2.1 ∈ wsX6_goOn := by decide +kernel
set_option maxRecDepth 20000 in
theorem qX6_goOn_28 : Cond.fieldLink RX6 28 RX6 (TX6 6).2.1 (TX6 6).2.2.1 ∈ wsX6_goOn := by decide +kernel
def b_X6_goOn_105 (N : Nat) (w : Nat) (k3 : nS → Int32 → Int32 → Option (Int32 × nS)) (σ : nS) (x3 : Int32) (x4 : Int32) : Option (Int32 × nS) := nLet (x4 + 1 : Int32) (fun v1 => k3 σ x3 v1)
set_option maxHeartbeats 4000000 in
set_option maxRecDepth 100000 in
theorem kb_X6_goOn_105 {p : Program} {l : Launch} {e : Env} {s : State} {m : MethodId} {args : Array Value} {below : List Frame} {meth : Method} {c : Code} {D : va_G} {A : Nat → Prop} {cy : Nat → ClassId} {a kt vt : Nat → Nat} {N : Nat} {w : Nat} (hw : nWk w) (C0 : nCx p s m args meth c cX6_goOn 5 none RX6 wsX6_goOn) (hE : nEn D A cy (NBw cy a) kt vt s) {z : Int32 × nS} {k3 : nS → Int32 → Int32 → Option (Int32 × nS)} (K3 : ∀ (σ : nS) (x3 : Int32) (x4 : Int32) (H : Heap) (locs : List Loc) (ls : Array Slot), lv_has ls 5 [(0, .ref (a w)), (1, .ref (a 1)), (2, .ref (a 10)), (3, .int x3), (4, .int x4)] → va_P D vwCl ((NBw cy a) σ) H → va_S A s.heap H locs → k3 σ x3 x4 = some z → W p l e ({ frames := 2, cells := 0, slots := 0, locals := 50 } : Room) s m args below meth c H locs 0 0 (nQv below D A (NBw cy a) args s z) (F0 m 3 ls [])) : ∀ (σ : nS) (x3 : Int32) (x4 : Int32) (H : Heap) (locs : List Loc) (ls : Array Slot), lv_has ls 5 [(0, .ref (a w)), (1, .ref (a 1)), (2, .ref (a 10)), (3, .int x3), (4, .int x4)] → va_P D vwCl ((NBw cy a) σ) H → va_S A s.heap H locs → b_X6_goOn_105 N w k3 σ x3 x4 = some z → W p l e ({ frames := 2, cells := 0, slots := 0, locals := 50 } : Room) s m args below meth c H locs 0 0 (nQv below D A (NBw cy a) args s z) (F0 m 105 ls []) := by
  obtain ⟨hx, hb, hr, hml, hown, hts, hlocks⟩ := C0
  intro σ x3 x4 H locs ls hl hP hS hf
  unfold b_X6_goOn_105 at hf
  obtain ⟨v1, ev1⟩ : ∃ y : Int32, y = x4 + 1 := ⟨_, rfl⟩
  replace hf := nLet_e hf ev1
  refine lv_iinc (v := v1) (lv' := [(4, .int v1), (0, .ref (a w)), (1, .ref (a 1)), (2, .ref (a 10)), (3, .int x3)]) hx hb dX6_goOn_105 hl (k := 4) rfl (by rw [ev1]; rfl) (by decide) rfl (fun ls hl => ?_)
  refine lv_goto (tgt := 3) hx hb dX6_goOn_108 (by decide) ?_
  exact K3 σ x3 v1 H locs ls (lv_sub hl [1, 2, 3, 4, 0] rfl) hP hS hf
def b_X6_goOn_92 (N : Nat) (w : Nat) (k105 : nS → Int32 → Int32 → Option (Int32 × nS)) (σ : nS) (x3 : Int32) (x4 : Int32) : Option (Int32 × nS) := (if (σ.1 w 11) = (-1) then nBd (f_X6_beginOther N w σ) (fun r1 σ2 => k105 σ2 x3 x4) else k105 σ x3 x4)
set_option maxHeartbeats 4000000 in
set_option maxRecDepth 100000 in
theorem kb_X6_goOn_92 {p : Program} {l : Launch} {e : Env} {s : State} {m : MethodId} {args : Array Value} {below : List Frame} {meth : Method} {c : Code} {D : va_G} {A : Nat → Prop} {cy : Nat → ClassId} {a kt vt : Nat → Nat} {N : Nat} {w : Nat} (hw : nWk w) (C0 : nCx p s m args meth c cX6_goOn 5 none RX6 wsX6_goOn) (hE : nEn D A cy (NBw cy a) kt vt s) {z : Int32 × nS} {k105 : nS → Int32 → Int32 → Option (Int32 × nS)} (K105 : ∀ (σ : nS) (x3 : Int32) (x4 : Int32) (H : Heap) (locs : List Loc) (ls : Array Slot), lv_has ls 5 [(0, .ref (a w)), (1, .ref (a 1)), (2, .ref (a 10)), (3, .int x3), (4, .int x4)] → va_P D vwCl ((NBw cy a) σ) H → va_S A s.heap H locs → k105 σ x3 x4 = some z → W p l e ({ frames := 2, cells := 0, slots := 0, locals := 50 } : Room) s m args below meth c H locs 0 0 (nQv below D A (NBw cy a) args s z) (F0 m 105 ls [])) : ∀ (σ : nS) (x3 : Int32) (x4 : Int32) (H : Heap) (locs : List Loc) (ls : Array Slot), lv_has ls 5 [(0, .ref (a w)), (1, .ref (a 1)), (2, .ref (a 10)), (3, .int x3), (4, .int x4)] → va_P D vwCl ((NBw cy a) σ) H → va_S A s.heap H locs → b_X6_goOn_92 N w k105 σ x3 x4 = some z → W p l e ({ frames := 2, cells := 0, slots := 0, locals := 50 } : Room) s m args below meth c H locs 0 0 (nQv below D A (NBw cy a) args s z) (F0 m 92 ls []) := by
  obtain ⟨hx, hb, hr, hml, hown, hts, hlocks⟩ := C0
  intro σ x3 x4 H locs ls hl hP hS hf
  unfold b_X6_goOn_92 at hf
  refine lv_aload_n hx hb dX6_goOn_92 rfl (lv_at hl 0 rfl) ?_
  refine nb_get (ci := 6) hx hb hts iX6_goOn_X6 hown hE hP w (nboW hw) rfl 11 (by decide) qX6_goOn_43 rfl rfl dX6_goOn_93 ?_
  refine lv_iconst (v := (-1)) hx hb dX6_goOn_96 (by decide) ?_
  refine lv_icmp_ne (tgt := 105) hx hb dX6_goOn_97 (by decide) (fun hc => ?_) (fun hc => ?_)
  · replace hf := nIf_f hc hf
    exact K105 σ x3 x4 H locs ls (lv_sub hl [0, 1, 2, 3, 4] rfl) hP hS hf
  · replace hf := nIf_t hc hf
    refine lv_aload_n hx hb dX6_goOn_100 rfl (lv_at hl 0 rfl) ?_
    refine lv_aload_n hx hb dX6_goOn_101 rfl (lv_at hl 1 rfl) ?_
    obtain ⟨r1, σ2, hc2, hf⟩ := nBd_e hf
    refine nb_callVv (As := [.ref (a 1)]) (rest := []) ⟨hx, hb, hml, hown, hts⟩ (c_X6_beginOther (D := D) (A := A) (cy := cy) (a := a) (kt := kt) (vt := vt) (l := l) hw hc2) (cwV 1 hts gX6_goOn_X6_beginOther rfl rfl rfl (by decide +kernel) ⟨Nat.le_of_ble_eq_true rfl, Nat.le_of_ble_eq_true rfl⟩) hE hP hS (nboW hw) rfl rfl hl.1 rfl (Nat.le_of_ble_eq_true rfl) dX6_goOn_102 (fun H locs hP hS => ?_)
    exact K105 σ2 x3 x4 H locs ls (lv_sub hl [0, 1, 2, 3, 4] rfl) hP hS hf
def b_X6_goOn_60 (N : Nat) (w : Nat) (k92 : nS → Int32 → Int32 → Option (Int32 × nS)) (k105 : nS → Int32 → Int32 → Option (Int32 × nS)) (σ : nS) (x3 : Int32) (x4 : Int32) : Option (Int32 × nS) := (if (σ.1 w 11) = (-1) then nBd (f_X7_isDo N (σ.1 w 2) (σ.1 w 6) σ) (fun r1 σ2 => (if r1 = 0 then k92 σ2 x3 x4 else nBd (f_X6_beginDo N w σ2) (fun r3 σ4 => k105 σ4 x3 x4))) else k92 σ x3 x4)
set_option maxHeartbeats 4000000 in
set_option maxRecDepth 100000 in
theorem kb_X6_goOn_60 {p : Program} {l : Launch} {e : Env} {s : State} {m : MethodId} {args : Array Value} {below : List Frame} {meth : Method} {c : Code} {D : va_G} {A : Nat → Prop} {cy : Nat → ClassId} {a kt vt : Nat → Nat} {N : Nat} {w : Nat} (hw : nWk w) (C0 : nCx p s m args meth c cX6_goOn 5 none RX6 wsX6_goOn) (hE : nEn D A cy (NBw cy a) kt vt s) {z : Int32 × nS} {k92 : nS → Int32 → Int32 → Option (Int32 × nS)} (K92 : ∀ (σ : nS) (x3 : Int32) (x4 : Int32) (H : Heap) (locs : List Loc) (ls : Array Slot), lv_has ls 5 [(0, .ref (a w)), (1, .ref (a 1)), (2, .ref (a 10)), (3, .int x3), (4, .int x4)] → va_P D vwCl ((NBw cy a) σ) H → va_S A s.heap H locs → k92 σ x3 x4 = some z → W p l e ({ frames := 2, cells := 0, slots := 0, locals := 50 } : Room) s m args below meth c H locs 0 0 (nQv below D A (NBw cy a) args s z) (F0 m 92 ls [])) {k105 : nS → Int32 → Int32 → Option (Int32 × nS)} (K105 : ∀ (σ : nS) (x3 : Int32) (x4 : Int32) (H : Heap) (locs : List Loc) (ls : Array Slot), lv_has ls 5 [(0, .ref (a w)), (1, .ref (a 1)), (2, .ref (a 10)), (3, .int x3), (4, .int x4)] → va_P D vwCl ((NBw cy a) σ) H → va_S A s.heap H locs → k105 σ x3 x4 = some z → W p l e ({ frames := 2, cells := 0, slots := 0, locals := 50 } : Room) s m args below meth c H locs 0 0 (nQv below D A (NBw cy a) args s z) (F0 m 105 ls [])) : ∀ (σ : nS) (x3 : Int32) (x4 : Int32) (H : Heap) (locs : List Loc) (ls : Array Slot), lv_has ls 5 [(0, .ref (a w)), (1, .ref (a 1)), (2, .ref (a 10)), (3, .int x3), (4, .int x4)] → va_P D vwCl ((NBw cy a) σ) H → va_S A s.heap H locs → b_X6_goOn_60 N w k92 k105 σ x3 x4 = some z → W p l e ({ frames := 2, cells := 0, slots := 0, locals := 50 } : Room) s m args below meth c H locs 0 0 (nQv below D A (NBw cy a) args s z) (F0 m 60 ls []) := by
  obtain ⟨hx, hb, hr, hml, hown, hts, hlocks⟩ := C0
  intro σ x3 x4 H locs ls hl hP hS hf
  unfold b_X6_goOn_60 at hf
  refine lv_aload_n hx hb dX6_goOn_60 rfl (lv_at hl 0 rfl) ?_
  refine nb_get (ci := 6) hx hb hts iX6_goOn_X6 hown hE hP w (nboW hw) rfl 11 (by decide) qX6_goOn_43 rfl rfl dX6_goOn_61 ?_
  refine lv_iconst (v := (-1)) hx hb dX6_goOn_64 (by decide) ?_
  refine lv_icmp_ne (tgt := 92) hx hb dX6_goOn_65 (by decide) (fun hc => ?_) (fun hc => ?_)
  · replace hf := nIf_f hc hf
    exact K92 σ x3 x4 H locs ls (lv_sub hl [0, 1, 2, 3, 4] rfl) hP hS hf
  · replace hf := nIf_t hc hf
    refine lv_aload_n hx hb dX6_goOn_68 rfl (lv_at hl 1 rfl) ?_
    refine lv_aload_n hx hb dX6_goOn_69 rfl (lv_at hl 0 rfl) ?_
    refine nb_get (ci := 6) hx hb hts iX6_goOn_X6 hown hE hP w (nboW hw) rfl 2 (by decide) qX6_goOn_15 rfl rfl dX6_goOn_70 ?_
    refine lv_aload_n hx hb dX6_goOn_73 rfl (lv_at hl 0 rfl) ?_
    refine nb_get (ci := 6) hx hb hts iX6_goOn_X6 hown hE hP w (nboW hw) rfl 6 (by decide) qX6_goOn_28 rfl rfl dX6_goOn_74 ?_
    obtain ⟨r1, σ2, hc2, hf⟩ := nBd_e hf
    refine nb_callVi (As := [.int (σ.1 w 2), .int (σ.1 w 6)]) (rest := []) ⟨hx, hb, hml, hown, hts⟩ (c_X7_isDo (D := D) (A := A) (cy := cy) (a := a) (kt := kt) (vt := vt) (l := l)  hc2) (cwV 2 hts gX6_goOn_X7_isDo rfl rfl rfl (by decide +kernel) ⟨Nat.le_of_ble_eq_true rfl, Nat.le_of_ble_eq_true rfl⟩) hE hP hS nbo_1 rfl rfl hl.1 rfl (Nat.le_of_ble_eq_true rfl) dX6_goOn_77 (fun H locs hP hS => ?_)
    refine lv_if_eq (tgt := 92) hx hb dX6_goOn_80 (by decide) (fun hc => ?_) (fun hc => ?_)
    · replace hf := nIf_t hc hf
      exact K92 σ2 x3 x4 H locs ls (lv_sub hl [0, 1, 2, 3, 4] rfl) hP hS hf
    · replace hf := nIf_f hc hf
      refine lv_aload_n hx hb dX6_goOn_83 rfl (lv_at hl 0 rfl) ?_
      refine lv_aload_n hx hb dX6_goOn_84 rfl (lv_at hl 1 rfl) ?_
      refine lv_aload_n hx hb dX6_goOn_85 rfl (lv_at hl 2 rfl) ?_
      obtain ⟨r3, σ4, hc4, hf⟩ := nBd_e hf
      refine nb_callVv (As := [.ref (a 1), .ref (a 10)]) (rest := []) ⟨hx, hb, hml, hown, hts⟩ (c_X6_beginDo (D := D) (A := A) (cy := cy) (a := a) (kt := kt) (vt := vt) (l := l) hw hc4) (cwV 2 hts gX6_goOn_X6_beginDo rfl rfl rfl (by decide +kernel) ⟨Nat.le_of_ble_eq_true rfl, Nat.le_of_ble_eq_true rfl⟩) hE hP hS (nboW hw) rfl rfl hl.1 rfl (Nat.le_of_ble_eq_true rfl) dX6_goOn_86 (fun H locs hP hS => ?_)
      refine lv_goto (tgt := 105) hx hb dX6_goOn_89 (by decide) ?_
      exact K105 σ4 x3 x4 H locs ls (lv_sub hl [0, 1, 2, 3, 4] rfl) hP hS hf
def b_X6_goOn_40 (N : Nat) (w : Nat) (k60 : nS → Int32 → Int32 → Option (Int32 × nS)) (σ : nS) (x3 : Int32) (x4 : Int32) : Option (Int32 × nS) := (if (σ.1 w 7) = 0 then (if (σ.1 w 11) = (-1) then nBd (f_X6_come N w σ) (fun r1 σ2 => k60 σ2 x3 x4) else k60 σ x3 x4) else k60 σ x3 x4)
set_option maxHeartbeats 4000000 in
set_option maxRecDepth 100000 in
theorem kb_X6_goOn_40 {p : Program} {l : Launch} {e : Env} {s : State} {m : MethodId} {args : Array Value} {below : List Frame} {meth : Method} {c : Code} {D : va_G} {A : Nat → Prop} {cy : Nat → ClassId} {a kt vt : Nat → Nat} {N : Nat} {w : Nat} (hw : nWk w) (C0 : nCx p s m args meth c cX6_goOn 5 none RX6 wsX6_goOn) (hE : nEn D A cy (NBw cy a) kt vt s) {z : Int32 × nS} {k60 : nS → Int32 → Int32 → Option (Int32 × nS)} (K60 : ∀ (σ : nS) (x3 : Int32) (x4 : Int32) (H : Heap) (locs : List Loc) (ls : Array Slot), lv_has ls 5 [(0, .ref (a w)), (1, .ref (a 1)), (2, .ref (a 10)), (3, .int x3), (4, .int x4)] → va_P D vwCl ((NBw cy a) σ) H → va_S A s.heap H locs → k60 σ x3 x4 = some z → W p l e ({ frames := 2, cells := 0, slots := 0, locals := 50 } : Room) s m args below meth c H locs 0 0 (nQv below D A (NBw cy a) args s z) (F0 m 60 ls [])) : ∀ (σ : nS) (x3 : Int32) (x4 : Int32) (H : Heap) (locs : List Loc) (ls : Array Slot), lv_has ls 5 [(0, .ref (a w)), (1, .ref (a 1)), (2, .ref (a 10)), (3, .int x3), (4, .int x4)] → va_P D vwCl ((NBw cy a) σ) H → va_S A s.heap H locs → b_X6_goOn_40 N w k60 σ x3 x4 = some z → W p l e ({ frames := 2, cells := 0, slots := 0, locals := 50 } : Room) s m args below meth c H locs 0 0 (nQv below D A (NBw cy a) args s z) (F0 m 40 ls []) := by
  obtain ⟨hx, hb, hr, hml, hown, hts, hlocks⟩ := C0
  intro σ x3 x4 H locs ls hl hP hS hf
  unfold b_X6_goOn_40 at hf
  refine lv_aload_n hx hb dX6_goOn_40 rfl (lv_at hl 0 rfl) ?_
  refine nb_get (ci := 6) hx hb hts iX6_goOn_X6 hown hE hP w (nboW hw) rfl 7 (by decide) qX6_goOn_31 rfl rfl dX6_goOn_41 ?_
  refine lv_if_ne (tgt := 60) hx hb dX6_goOn_44 (by decide) (fun hc => ?_) (fun hc => ?_)
  · replace hf := nIf_f hc hf
    exact K60 σ x3 x4 H locs ls (lv_sub hl [0, 1, 2, 3, 4] rfl) hP hS hf
  · replace hf := nIf_t hc hf
    refine lv_aload_n hx hb dX6_goOn_47 rfl (lv_at hl 0 rfl) ?_
    refine nb_get (ci := 6) hx hb hts iX6_goOn_X6 hown hE hP w (nboW hw) rfl 11 (by decide) qX6_goOn_43 rfl rfl dX6_goOn_48 ?_
    refine lv_iconst (v := (-1)) hx hb dX6_goOn_51 (by decide) ?_
    refine lv_icmp_ne (tgt := 60) hx hb dX6_goOn_52 (by decide) (fun hc => ?_) (fun hc => ?_)
    · replace hf := nIf_f hc hf
      exact K60 σ x3 x4 H locs ls (lv_sub hl [0, 1, 2, 3, 4] rfl) hP hS hf
    · replace hf := nIf_t hc hf
      refine lv_aload_n hx hb dX6_goOn_55 rfl (lv_at hl 0 rfl) ?_
      refine lv_aload_n hx hb dX6_goOn_56 rfl (lv_at hl 1 rfl) ?_
      obtain ⟨r1, σ2, hc2, hf⟩ := nBd_e hf
      refine nb_callVv (As := [.ref (a 1)]) (rest := []) ⟨hx, hb, hml, hown, hts⟩ (c_X6_come (D := D) (A := A) (cy := cy) (a := a) (kt := kt) (vt := vt) (l := l) hw hc2) (cwV 1 hts gX6_goOn_X6_come rfl rfl rfl (by decide +kernel) ⟨Nat.le_of_ble_eq_true rfl, Nat.le_of_ble_eq_true rfl⟩) hE hP hS (nboW hw) rfl rfl hl.1 rfl (Nat.le_of_ble_eq_true rfl) dX6_goOn_57 (fun H locs hP hS => ?_)
      exact K60 σ2 x3 x4 H locs ls (lv_sub hl [0, 1, 2, 3, 4] rfl) hP hS hf
def b_X6_goOn_3 (N : Nat) (w : Nat) (k40 : nS → Int32 → Int32 → Option (Int32 × nS)) (σ : nS) (x3 : Int32) (x4 : Int32) : Option (Int32 × nS) := (if (6146 : Int32) < x4 then some (0, σ) else (if (σ.1 w 11) = (-1) then (if x3 < (σ.1 w 8) then some (0, σ) else (if (σ.1 w 7) = 2 then nBd (f_X6_finish N w σ) (fun r1 σ2 => k40 σ2 x3 x4) else k40 σ x3 x4)) else some (0, σ)))
set_option maxHeartbeats 4000000 in
set_option maxRecDepth 100000 in
theorem kb_X6_goOn_3 {p : Program} {l : Launch} {e : Env} {s : State} {m : MethodId} {args : Array Value} {below : List Frame} {meth : Method} {c : Code} {D : va_G} {A : Nat → Prop} {cy : Nat → ClassId} {a kt vt : Nat → Nat} {N : Nat} {w : Nat} (hw : nWk w) (C0 : nCx p s m args meth c cX6_goOn 5 none RX6 wsX6_goOn) (hE : nEn D A cy (NBw cy a) kt vt s) {z : Int32 × nS} {k40 : nS → Int32 → Int32 → Option (Int32 × nS)} (K40 : ∀ (σ : nS) (x3 : Int32) (x4 : Int32) (H : Heap) (locs : List Loc) (ls : Array Slot), lv_has ls 5 [(0, .ref (a w)), (1, .ref (a 1)), (2, .ref (a 10)), (3, .int x3), (4, .int x4)] → va_P D vwCl ((NBw cy a) σ) H → va_S A s.heap H locs → k40 σ x3 x4 = some z → W p l e ({ frames := 2, cells := 0, slots := 0, locals := 50 } : Room) s m args below meth c H locs 0 0 (nQv below D A (NBw cy a) args s z) (F0 m 40 ls [])) : ∀ (σ : nS) (x3 : Int32) (x4 : Int32) (H : Heap) (locs : List Loc) (ls : Array Slot), lv_has ls 5 [(0, .ref (a w)), (1, .ref (a 1)), (2, .ref (a 10)), (3, .int x3), (4, .int x4)] → va_P D vwCl ((NBw cy a) σ) H → va_S A s.heap H locs → b_X6_goOn_3 N w k40 σ x3 x4 = some z → W p l e ({ frames := 2, cells := 0, slots := 0, locals := 50 } : Room) s m args below meth c H locs 0 0 (nQv below D A (NBw cy a) args s z) (F0 m 3 ls []) := by
  obtain ⟨hx, hb, hr, hml, hown, hts, hlocks⟩ := C0
  intro σ x3 x4 H locs ls hl hP hS hf
  unfold b_X6_goOn_3 at hf
  refine lv_iload hx hb dX6_goOn_3 (lv_at hl 4 rfl) ?_
  refine lv_sipush (v := 6146) hx hb dX6_goOn_5 (by decide) ?_
  refine lv_icmp_gt (tgt := 111) hx hb dX6_goOn_8 (by decide) (fun hc => ?_) (fun hc => ?_)
  · replace hf := nIf_t hc hf
    exact nb_vret hx hb hr hlocks hP hS (nSo hf) dX6_goOn_111
  · replace hf := nIf_f hc hf
    refine lv_aload_n hx hb dX6_goOn_11 rfl (lv_at hl 0 rfl) ?_
    refine nb_get (ci := 6) hx hb hts iX6_goOn_X6 hown hE hP w (nboW hw) rfl 11 (by decide) qX6_goOn_43 rfl rfl dX6_goOn_12 ?_
    refine lv_iconst (v := (-1)) hx hb dX6_goOn_15 (by decide) ?_
    refine lv_icmp_ne (tgt := 111) hx hb dX6_goOn_16 (by decide) (fun hc => ?_) (fun hc => ?_)
    · replace hf := nIf_f hc hf
      exact nb_vret hx hb hr hlocks hP hS (nSo hf) dX6_goOn_111
    · replace hf := nIf_t hc hf
      refine lv_aload_n hx hb dX6_goOn_19 rfl (lv_at hl 0 rfl) ?_
      refine nb_get (ci := 6) hx hb hts iX6_goOn_X6 hown hE hP w (nboW hw) rfl 8 (by decide) qX6_goOn_34 rfl rfl dX6_goOn_20 ?_
      refine lv_iload_n hx hb dX6_goOn_23 rfl (lv_at hl 3 rfl) ?_
      refine lv_icmp_gt (tgt := 111) hx hb dX6_goOn_24 (by decide) (fun hc => ?_) (fun hc => ?_)
      · replace hf := nIf_t hc hf
        exact nb_vret hx hb hr hlocks hP hS (nSo hf) dX6_goOn_111
      · replace hf := nIf_f hc hf
        refine lv_aload_n hx hb dX6_goOn_27 rfl (lv_at hl 0 rfl) ?_
        refine nb_get (ci := 6) hx hb hts iX6_goOn_X6 hown hE hP w (nboW hw) rfl 7 (by decide) qX6_goOn_31 rfl rfl dX6_goOn_28 ?_
        refine lv_iconst (v := 2) hx hb dX6_goOn_31 (by decide) ?_
        refine lv_icmp_ne (tgt := 40) hx hb dX6_goOn_32 (by decide) (fun hc => ?_) (fun hc => ?_)
        · replace hf := nIf_f hc hf
          exact K40 σ x3 x4 H locs ls (lv_sub hl [0, 1, 2, 3, 4] rfl) hP hS hf
        · replace hf := nIf_t hc hf
          refine lv_aload_n hx hb dX6_goOn_35 rfl (lv_at hl 0 rfl) ?_
          refine lv_aload_n hx hb dX6_goOn_36 rfl (lv_at hl 1 rfl) ?_
          obtain ⟨r1, σ2, hc2, hf⟩ := nBd_e hf
          refine nb_callVv (As := [.ref (a 1)]) (rest := []) ⟨hx, hb, hml, hown, hts⟩ (c_X6_finish (D := D) (A := A) (cy := cy) (a := a) (kt := kt) (vt := vt) (l := l) hw hc2) (cwV 1 hts gX6_goOn_X6_finish rfl rfl rfl (by decide +kernel) ⟨Nat.le_of_ble_eq_true rfl, Nat.le_of_ble_eq_true rfl⟩) hE hP hS (nboW hw) rfl rfl hl.1 rfl (Nat.le_of_ble_eq_true rfl) dX6_goOn_37 (fun H locs hP hS => ?_)
          exact K40 σ2 x3 x4 H locs ls (lv_sub hl [0, 1, 2, 3, 4] rfl) hP hS hf
def b_X6_goOn_0 (N : Nat) (w : Nat) (k3 : nS → Int32 → Int32 → Option (Int32 × nS)) (σ : nS) (x3 : Int32) : Option (Int32 × nS) := k3 σ x3 0
set_option maxHeartbeats 4000000 in
set_option maxRecDepth 100000 in
theorem kb_X6_goOn_0 {p : Program} {l : Launch} {e : Env} {s : State} {m : MethodId} {args : Array Value} {below : List Frame} {meth : Method} {c : Code} {D : va_G} {A : Nat → Prop} {cy : Nat → ClassId} {a kt vt : Nat → Nat} {N : Nat} {w : Nat} (hw : nWk w) (C0 : nCx p s m args meth c cX6_goOn 5 none RX6 wsX6_goOn) (hE : nEn D A cy (NBw cy a) kt vt s) {z : Int32 × nS} {k3 : nS → Int32 → Int32 → Option (Int32 × nS)} (K3 : ∀ (σ : nS) (x3 : Int32) (x4 : Int32) (H : Heap) (locs : List Loc) (ls : Array Slot), lv_has ls 5 [(0, .ref (a w)), (1, .ref (a 1)), (2, .ref (a 10)), (3, .int x3), (4, .int x4)] → va_P D vwCl ((NBw cy a) σ) H → va_S A s.heap H locs → k3 σ x3 x4 = some z → W p l e ({ frames := 2, cells := 0, slots := 0, locals := 50 } : Room) s m args below meth c H locs 0 0 (nQv below D A (NBw cy a) args s z) (F0 m 3 ls [])) : ∀ (σ : nS) (x3 : Int32) (H : Heap) (locs : List Loc) (ls : Array Slot), lv_has ls 5 [(0, .ref (a w)), (1, .ref (a 1)), (2, .ref (a 10)), (3, .int x3)] → va_P D vwCl ((NBw cy a) σ) H → va_S A s.heap H locs → b_X6_goOn_0 N w k3 σ x3 = some z → W p l e ({ frames := 2, cells := 0, slots := 0, locals := 50 } : Room) s m args below meth c H locs 0 0 (nQv below D A (NBw cy a) args s z) (F0 m 0 ls []) := by
  obtain ⟨hx, hb, hr, hml, hown, hts, hlocks⟩ := C0
  intro σ x3 H locs ls hl hP hS hf
  unfold b_X6_goOn_0 at hf
  refine lv_iconst (v := 0) hx hb dX6_goOn_0 (by decide) ?_
  refine lv_istore (lv' := [(4, .int 0), (0, .ref (a w)), (1, .ref (a 1)), (2, .ref (a 10)), (3, .int x3)]) hx hb dX6_goOn_1 hl (by decide) rfl (fun ls hl => ?_)
  exact K3 σ x3 0 H locs ls (lv_sub hl [1, 2, 3, 4, 0] rfl) hP hS hf
def l_X6_goOn_105 (N : Nat) (w : Nat) (k3 : nS → Int32 → Int32 → Option (Int32 × nS)) : nS → Int32 → Int32 → Option (Int32 × nS) := b_X6_goOn_105 N w k3
theorem kl_X6_goOn_105 {p : Program} {l : Launch} {e : Env} {s : State} {m : MethodId} {args : Array Value} {below : List Frame} {meth : Method} {c : Code} {D : va_G} {A : Nat → Prop} {cy : Nat → ClassId} {a kt vt : Nat → Nat} {N : Nat} {w : Nat} (hw : nWk w) (C0 : nCx p s m args meth c cX6_goOn 5 none RX6 wsX6_goOn) (hE : nEn D A cy (NBw cy a) kt vt s) {z : Int32 × nS} {k3 : nS → Int32 → Int32 → Option (Int32 × nS)} (K3 : ∀ (σ : nS) (x3 : Int32) (x4 : Int32) (H : Heap) (locs : List Loc) (ls : Array Slot), lv_has ls 5 [(0, .ref (a w)), (1, .ref (a 1)), (2, .ref (a 10)), (3, .int x3), (4, .int x4)] → va_P D vwCl ((NBw cy a) σ) H → va_S A s.heap H locs → k3 σ x3 x4 = some z → W p l e ({ frames := 2, cells := 0, slots := 0, locals := 50 } : Room) s m args below meth c H locs 0 0 (nQv below D A (NBw cy a) args s z) (F0 m 3 ls [])) : ∀ (σ : nS) (x3 : Int32) (x4 : Int32) (H : Heap) (locs : List Loc) (ls : Array Slot), lv_has ls 5 [(0, .ref (a w)), (1, .ref (a 1)), (2, .ref (a 10)), (3, .int x3), (4, .int x4)] → va_P D vwCl ((NBw cy a) σ) H → va_S A s.heap H locs → l_X6_goOn_105 N w k3 σ x3 x4 = some z → W p l e ({ frames := 2, cells := 0, slots := 0, locals := 50 } : Room) s m args below meth c H locs 0 0 (nQv below D A (NBw cy a) args s z) (F0 m 105 ls []) := by
  exact kb_X6_goOn_105 (N := N) hw C0 hE K3
def l_X6_goOn_92 (N : Nat) (w : Nat) (k105 : nS → Int32 → Int32 → Option (Int32 × nS)) : nS → Int32 → Int32 → Option (Int32 × nS) := b_X6_goOn_92 N w k105
theorem kl_X6_goOn_92 {p : Program} {l : Launch} {e : Env} {s : State} {m : MethodId} {args : Array Value} {below : List Frame} {meth : Method} {c : Code} {D : va_G} {A : Nat → Prop} {cy : Nat → ClassId} {a kt vt : Nat → Nat} {N : Nat} {w : Nat} (hw : nWk w) (C0 : nCx p s m args meth c cX6_goOn 5 none RX6 wsX6_goOn) (hE : nEn D A cy (NBw cy a) kt vt s) {z : Int32 × nS} {k105 : nS → Int32 → Int32 → Option (Int32 × nS)} (K105 : ∀ (σ : nS) (x3 : Int32) (x4 : Int32) (H : Heap) (locs : List Loc) (ls : Array Slot), lv_has ls 5 [(0, .ref (a w)), (1, .ref (a 1)), (2, .ref (a 10)), (3, .int x3), (4, .int x4)] → va_P D vwCl ((NBw cy a) σ) H → va_S A s.heap H locs → k105 σ x3 x4 = some z → W p l e ({ frames := 2, cells := 0, slots := 0, locals := 50 } : Room) s m args below meth c H locs 0 0 (nQv below D A (NBw cy a) args s z) (F0 m 105 ls [])) : ∀ (σ : nS) (x3 : Int32) (x4 : Int32) (H : Heap) (locs : List Loc) (ls : Array Slot), lv_has ls 5 [(0, .ref (a w)), (1, .ref (a 1)), (2, .ref (a 10)), (3, .int x3), (4, .int x4)] → va_P D vwCl ((NBw cy a) σ) H → va_S A s.heap H locs → l_X6_goOn_92 N w k105 σ x3 x4 = some z → W p l e ({ frames := 2, cells := 0, slots := 0, locals := 50 } : Room) s m args below meth c H locs 0 0 (nQv below D A (NBw cy a) args s z) (F0 m 92 ls []) := by
  exact kb_X6_goOn_92 (N := N) hw C0 hE K105
def l_X6_goOn_60 (N : Nat) (w : Nat) (k3 : nS → Int32 → Int32 → Option (Int32 × nS)) : nS → Int32 → Int32 → Option (Int32 × nS) := b_X6_goOn_60 N w (l_X6_goOn_92 N w (l_X6_goOn_105 N w k3)) (l_X6_goOn_105 N w k3)
theorem kl_X6_goOn_60 {p : Program} {l : Launch} {e : Env} {s : State} {m : MethodId} {args : Array Value} {below : List Frame} {meth : Method} {c : Code} {D : va_G} {A : Nat → Prop} {cy : Nat → ClassId} {a kt vt : Nat → Nat} {N : Nat} {w : Nat} (hw : nWk w) (C0 : nCx p s m args meth c cX6_goOn 5 none RX6 wsX6_goOn) (hE : nEn D A cy (NBw cy a) kt vt s) {z : Int32 × nS} {k3 : nS → Int32 → Int32 → Option (Int32 × nS)} (K3 : ∀ (σ : nS) (x3 : Int32) (x4 : Int32) (H : Heap) (locs : List Loc) (ls : Array Slot), lv_has ls 5 [(0, .ref (a w)), (1, .ref (a 1)), (2, .ref (a 10)), (3, .int x3), (4, .int x4)] → va_P D vwCl ((NBw cy a) σ) H → va_S A s.heap H locs → k3 σ x3 x4 = some z → W p l e ({ frames := 2, cells := 0, slots := 0, locals := 50 } : Room) s m args below meth c H locs 0 0 (nQv below D A (NBw cy a) args s z) (F0 m 3 ls [])) : ∀ (σ : nS) (x3 : Int32) (x4 : Int32) (H : Heap) (locs : List Loc) (ls : Array Slot), lv_has ls 5 [(0, .ref (a w)), (1, .ref (a 1)), (2, .ref (a 10)), (3, .int x3), (4, .int x4)] → va_P D vwCl ((NBw cy a) σ) H → va_S A s.heap H locs → l_X6_goOn_60 N w k3 σ x3 x4 = some z → W p l e ({ frames := 2, cells := 0, slots := 0, locals := 50 } : Room) s m args below meth c H locs 0 0 (nQv below D A (NBw cy a) args s z) (F0 m 60 ls []) := by
  exact kb_X6_goOn_60 (N := N) hw C0 hE (kl_X6_goOn_92 (N := N) hw C0 hE (kl_X6_goOn_105 (N := N) hw C0 hE K3)) (kl_X6_goOn_105 (N := N) hw C0 hE K3)
def l_X6_goOn_40 (N : Nat) (w : Nat) (k3 : nS → Int32 → Int32 → Option (Int32 × nS)) : nS → Int32 → Int32 → Option (Int32 × nS) := b_X6_goOn_40 N w (l_X6_goOn_60 N w k3)
theorem kl_X6_goOn_40 {p : Program} {l : Launch} {e : Env} {s : State} {m : MethodId} {args : Array Value} {below : List Frame} {meth : Method} {c : Code} {D : va_G} {A : Nat → Prop} {cy : Nat → ClassId} {a kt vt : Nat → Nat} {N : Nat} {w : Nat} (hw : nWk w) (C0 : nCx p s m args meth c cX6_goOn 5 none RX6 wsX6_goOn) (hE : nEn D A cy (NBw cy a) kt vt s) {z : Int32 × nS} {k3 : nS → Int32 → Int32 → Option (Int32 × nS)} (K3 : ∀ (σ : nS) (x3 : Int32) (x4 : Int32) (H : Heap) (locs : List Loc) (ls : Array Slot), lv_has ls 5 [(0, .ref (a w)), (1, .ref (a 1)), (2, .ref (a 10)), (3, .int x3), (4, .int x4)] → va_P D vwCl ((NBw cy a) σ) H → va_S A s.heap H locs → k3 σ x3 x4 = some z → W p l e ({ frames := 2, cells := 0, slots := 0, locals := 50 } : Room) s m args below meth c H locs 0 0 (nQv below D A (NBw cy a) args s z) (F0 m 3 ls [])) : ∀ (σ : nS) (x3 : Int32) (x4 : Int32) (H : Heap) (locs : List Loc) (ls : Array Slot), lv_has ls 5 [(0, .ref (a w)), (1, .ref (a 1)), (2, .ref (a 10)), (3, .int x3), (4, .int x4)] → va_P D vwCl ((NBw cy a) σ) H → va_S A s.heap H locs → l_X6_goOn_40 N w k3 σ x3 x4 = some z → W p l e ({ frames := 2, cells := 0, slots := 0, locals := 50 } : Room) s m args below meth c H locs 0 0 (nQv below D A (NBw cy a) args s z) (F0 m 40 ls []) := by
  exact kb_X6_goOn_40 (N := N) hw C0 hE (kl_X6_goOn_60 (N := N) hw C0 hE K3)
def l_X6_goOn_3 (N : Nat) (w : Nat) : nS → Int32 → Int32 → Option (Int32 × nS) := nLp (fun _ _ _ => none) (fun again => b_X6_goOn_3 N w (l_X6_goOn_40 N w again)) N
theorem kl_X6_goOn_3 {p : Program} {l : Launch} {e : Env} {s : State} {m : MethodId} {args : Array Value} {below : List Frame} {meth : Method} {c : Code} {D : va_G} {A : Nat → Prop} {cy : Nat → ClassId} {a kt vt : Nat → Nat} {N : Nat} {w : Nat} (hw : nWk w) (C0 : nCx p s m args meth c cX6_goOn 5 none RX6 wsX6_goOn) (hE : nEn D A cy (NBw cy a) kt vt s) {z : Int32 × nS} : ∀ (σ : nS) (x3 : Int32) (x4 : Int32) (H : Heap) (locs : List Loc) (ls : Array Slot), lv_has ls 5 [(0, .ref (a w)), (1, .ref (a 1)), (2, .ref (a 10)), (3, .int x3), (4, .int x4)] → va_P D vwCl ((NBw cy a) σ) H → va_S A s.heap H locs → l_X6_goOn_3 N w σ x3 x4 = some z → W p l e ({ frames := 2, cells := 0, slots := 0, locals := 50 } : Room) s m args below meth c H locs 0 0 (nQv below D A (NBw cy a) args s z) (F0 m 3 ls []) := by
  have main : ∀ (fu : Nat), ∀ (σ : nS) (x3 : Int32) (x4 : Int32) (H : Heap) (locs : List Loc) (ls : Array Slot), lv_has ls 5 [(0, .ref (a w)), (1, .ref (a 1)), (2, .ref (a 10)), (3, .int x3), (4, .int x4)] → va_P D vwCl ((NBw cy a) σ) H → va_S A s.heap H locs → nLp (fun _ _ _ => none) (fun again => b_X6_goOn_3 N w (l_X6_goOn_40 N w again)) fu σ x3 x4 = some z → W p l e ({ frames := 2, cells := 0, slots := 0, locals := 50 } : Room) s m args below meth c H locs 0 0 (nQv below D A (NBw cy a) args s z) (F0 m 3 ls []) := by
    intro fu
    induction fu with
    | zero => intro σ x3 x4 H locs ls hl hP hS hf; cases hf
    | succ fu ih => exact kb_X6_goOn_3 (N := N) hw C0 hE (kl_X6_goOn_40 (N := N) hw C0 hE ih)
  exact main N
def l_X6_goOn_0 (N : Nat) (w : Nat) : nS → Int32 → Option (Int32 × nS) := b_X6_goOn_0 N w (l_X6_goOn_3 N w)
theorem kl_X6_goOn_0 {p : Program} {l : Launch} {e : Env} {s : State} {m : MethodId} {args : Array Value} {below : List Frame} {meth : Method} {c : Code} {D : va_G} {A : Nat → Prop} {cy : Nat → ClassId} {a kt vt : Nat → Nat} {N : Nat} {w : Nat} (hw : nWk w) (C0 : nCx p s m args meth c cX6_goOn 5 none RX6 wsX6_goOn) (hE : nEn D A cy (NBw cy a) kt vt s) {z : Int32 × nS} : ∀ (σ : nS) (x3 : Int32) (H : Heap) (locs : List Loc) (ls : Array Slot), lv_has ls 5 [(0, .ref (a w)), (1, .ref (a 1)), (2, .ref (a 10)), (3, .int x3)] → va_P D vwCl ((NBw cy a) σ) H → va_S A s.heap H locs → l_X6_goOn_0 N w σ x3 = some z → W p l e ({ frames := 2, cells := 0, slots := 0, locals := 50 } : Room) s m args below meth c H locs 0 0 (nQv below D A (NBw cy a) args s z) (F0 m 0 ls []) := by
  exact kb_X6_goOn_0 (N := N) hw C0 hE (kl_X6_goOn_3 (N := N) hw C0 hE)
def f_X6_goOn (N : Nat) (w : Nat) (x3 : Int32) (σ : nS) : Option (Int32 × nS) := l_X6_goOn_0 N w σ x3
set_option maxHeartbeats 4000000 in
set_option maxRecDepth 100000 in
theorem c_X6_goOn {l : Launch} {D : va_G} {A : Nat → Prop} {cy : Nat → ClassId} {a kt vt : Nat → Nat} {N : Nat} {w : Nat} (hw : nWk w) {x3 : Int32} {σ : nS} {r : Int32} {σ' : nS} (hf : f_X6_goOn N w x3 σ = some (r, σ')) : nMv l yX6_goOn wsX6_goOn ({ frames := 2, cells := 0, slots := 0, locals := 50 } : Room) D A cy (NBw cy a) kt vt [.ref (a w), .ref (a 1), .ref (a 10), .int x3] σ σ' := by
  refine Met.ofW (cc := cX6_goOn) (maxL := 5) (ret := none) (by decide) rfl ?_
  intro p e s m args below meth c s₁ B hml hv
  obtain ⟨rfl, hP, hE⟩ := hv
  have hl := lv_entry ([.ref (a w), .ref (a 1), .ref (a 10), .int x3]) (n := 5) (Nat.le_of_ble_eq_true rfl)
  rw [lg_entry_eq]
  generalize (lg_sl ([.ref (a w), .ref (a 1), .ref (a 10), .int x3]) ++ List.replicate (5 - (lg_sl ([.ref (a w), .ref (a 1), .ref (a 10), .int x3])).length) Slot.unset).toArray = ls at hl ⊢
  have C0 : nCx p s m _ meth c cX6_goOn 5 none RX6 wsX6_goOn := ⟨B.exec, B.bytes, B.returns, hml, findClass_of_methodNamed B.named, atoms_spec (ws := wsX6_goOn) B.pre, B.notSynchronized⟩
  exact kl_X6_goOn_0 (N := N) hw C0 hE (z := (r, σ')) σ x3 _ _ ls hl hP va_S.rf hf

/-! X6_about -/
set_option maxRecDepth 20000 in
theorem iX6_about_X6 : ∀ w ∈ u_ws RX6 TX6 12, w ∈ wsX6_about := fun _ h => List.mem_cons_of_mem _ (List.mem_append_right _ h)
set_option maxRecDepth 20000 in
theorem qX6_about_34 : Cond.fieldLink RX6 34 RX6 (TX6 8).2.1 (TX6 8).2.2.1 ∈ wsX6_about := by decide +kernel
set_option maxRecDepth 20000 in
theorem qX6_about_40 : Cond.fieldLink RX6 40 RX6 (TX6 10).2.1 (TX6 10).2.2.1 ∈ wsX6_about := by decide +kernel
set_option maxRecDepth 20000 in
theorem qX6_about_19 : Cond.fieldLink RX6 19 RX6 (TX6 3).2.1 (TX6 3).2.2.1 ∈ wsX6_about := by decide +kernel
set_option maxRecDepth 20000 in
theorem qX6_about_28 : Cond.fieldLink RX6 28 RX6 (TX6 6).2.1 (TX6 6).2.2.1 ∈ wsX6_about := by decide +kernel
def b_X6_about_0 (N : Nat) (w : Nat) (σ : nS) (x1 : Int32) : Option (Int32 × nS) := (if x1 = 0 then some ((σ.1 w 8), σ) else (if x1 = 1 then some ((σ.1 w 10), σ) else (if x1 = 2 then some ((σ.1 w 3), σ) else (if x1 = 3 then some ((σ.1 w 6), σ) else some ((-1), σ)))))
set_option maxHeartbeats 4000000 in
set_option maxRecDepth 100000 in
theorem kb_X6_about_0 {p : Program} {l : Launch} {e : Env} {s : State} {m : MethodId} {args : Array Value} {below : List Frame} {meth : Method} {c : Code} {D : va_G} {A : Nat → Prop} {cy : Nat → ClassId} {a kt vt : Nat → Nat} {N : Nat} {w : Nat} (hw : nWk w) (C0 : nCx p s m args meth c cX6_about 2 (some .int) RX6 wsX6_about) (hE : nEn D A cy (NBw cy a) kt vt s) {z : Int32 × nS} : ∀ (σ : nS) (x1 : Int32) (H : Heap) (locs : List Loc) (ls : Array Slot), lv_has ls 2 [(0, .ref (a w)), (1, .int x1)] → va_P D vwCl ((NBw cy a) σ) H → va_S A s.heap H locs → b_X6_about_0 N w σ x1 = some z → W p l e ({ frames := 0, cells := 0, slots := 0, locals := 0 } : Room) s m args below meth c H locs 0 0 (nQi below D A (NBw cy a) args s z) (F0 m 0 ls []) := by
  obtain ⟨hx, hb, hr, hml, hown, hts, hlocks⟩ := C0
  intro σ x1 H locs ls hl hP hS hf
  unfold b_X6_about_0 at hf
  refine lv_iload_n hx hb dX6_about_0 rfl (lv_at hl 1 rfl) ?_
  by_cases hs0 : x1 = 0
  · replace hf := nIf_t hs0 hf
    refine lv_tableIn (tgt := 32) (off := 31) hx hb dX6_about_1 (by rw [hs0]; decide) (by rw [hs0]; decide) (by rw [hs0]; rfl) (by decide) ?_
    refine lv_aload_n hx hb dX6_about_32 rfl (lv_at hl 0 rfl) ?_
    refine nb_get (ci := 6) hx hb hts iX6_about_X6 hown hE hP w (nboW hw) rfl 8 (by decide) qX6_about_34 rfl rfl dX6_about_33 ?_
    exact nb_iret hx hb hr hlocks hP hS (nSo hf) dX6_about_36
  · replace hf := nIf_f hs0 hf
    by_cases hs1 : x1 = 1
    · replace hf := nIf_t hs1 hf
      refine lv_tableIn (tgt := 37) (off := 36) hx hb dX6_about_1 (by rw [hs1]; decide) (by rw [hs1]; decide) (by rw [hs1]; rfl) (by decide) ?_
      refine lv_aload_n hx hb dX6_about_37 rfl (lv_at hl 0 rfl) ?_
      refine nb_get (ci := 6) hx hb hts iX6_about_X6 hown hE hP w (nboW hw) rfl 10 (by decide) qX6_about_40 rfl rfl dX6_about_38 ?_
      exact nb_iret hx hb hr hlocks hP hS (nSo hf) dX6_about_41
    · replace hf := nIf_f hs1 hf
      by_cases hs2 : x1 = 2
      · replace hf := nIf_t hs2 hf
        refine lv_tableIn (tgt := 42) (off := 41) hx hb dX6_about_1 (by rw [hs2]; decide) (by rw [hs2]; decide) (by rw [hs2]; rfl) (by decide) ?_
        refine lv_aload_n hx hb dX6_about_42 rfl (lv_at hl 0 rfl) ?_
        refine nb_get (ci := 6) hx hb hts iX6_about_X6 hown hE hP w (nboW hw) rfl 3 (by decide) qX6_about_19 rfl rfl dX6_about_43 ?_
        exact nb_iret hx hb hr hlocks hP hS (nSo hf) dX6_about_46
      · replace hf := nIf_f hs2 hf
        by_cases hs3 : x1 = 3
        · replace hf := nIf_t hs3 hf
          refine lv_tableIn (tgt := 47) (off := 46) hx hb dX6_about_1 (by rw [hs3]; decide) (by rw [hs3]; decide) (by rw [hs3]; rfl) (by decide) ?_
          refine lv_aload_n hx hb dX6_about_47 rfl (lv_at hl 0 rfl) ?_
          refine nb_get (ci := 6) hx hb hts iX6_about_X6 hown hE hP w (nboW hw) rfl 6 (by decide) qX6_about_28 rfl rfl dX6_about_48 ?_
          exact nb_iret hx hb hr hlocks hP hS (nSo hf) dX6_about_51
        · replace hf := nIf_f hs3 hf
          have gs0 := nI_ne (z := 0) hs0 (by decide)
          have gs1 := nI_ne (z := 1) hs1 (by decide)
          have gs2 := nI_ne (z := 2) hs2 (by decide)
          have gs3 := nI_ne (z := 3) hs3 (by decide)
          refine lv_tableOut (tgt := 52) hx hb dX6_about_1 (by omega) (by decide) ?_
          refine lv_iconst (v := (-1)) hx hb dX6_about_52 (by decide) ?_
          exact nb_iret hx hb hr hlocks hP hS (nSo hf) dX6_about_53
def l_X6_about_0 (N : Nat) (w : Nat) : nS → Int32 → Option (Int32 × nS) := b_X6_about_0 N w
theorem kl_X6_about_0 {p : Program} {l : Launch} {e : Env} {s : State} {m : MethodId} {args : Array Value} {below : List Frame} {meth : Method} {c : Code} {D : va_G} {A : Nat → Prop} {cy : Nat → ClassId} {a kt vt : Nat → Nat} {N : Nat} {w : Nat} (hw : nWk w) (C0 : nCx p s m args meth c cX6_about 2 (some .int) RX6 wsX6_about) (hE : nEn D A cy (NBw cy a) kt vt s) {z : Int32 × nS} : ∀ (σ : nS) (x1 : Int32) (H : Heap) (locs : List Loc) (ls : Array Slot), lv_has ls 2 [(0, .ref (a w)), (1, .int x1)] → va_P D vwCl ((NBw cy a) σ) H → va_S A s.heap H locs → l_X6_about_0 N w σ x1 = some z → W p l e ({ frames := 0, cells := 0, slots := 0, locals := 0 } : Room) s m args below meth c H locs 0 0 (nQi below D A (NBw cy a) args s z) (F0 m 0 ls []) := by
  exact kb_X6_about_0 (N := N) hw C0 hE
def f_X6_about (N : Nat) (w : Nat) (x1 : Int32) (σ : nS) : Option (Int32 × nS) := l_X6_about_0 N w σ x1
set_option maxHeartbeats 4000000 in
set_option maxRecDepth 100000 in
theorem c_X6_about {l : Launch} {D : va_G} {A : Nat → Prop} {cy : Nat → ClassId} {a kt vt : Nat → Nat} {N : Nat} {w : Nat} (hw : nWk w) {x1 : Int32} {σ : nS} {r : Int32} {σ' : nS} (hf : f_X6_about N w x1 σ = some (r, σ')) : nMi l yX6_about wsX6_about ({ frames := 0, cells := 0, slots := 0, locals := 0 } : Room) D A cy (NBw cy a) kt vt [.ref (a w), .int x1] σ r σ' := by
  refine Met.ofW (cc := cX6_about) (maxL := 2) (ret := (some .int)) (by decide) rfl ?_
  intro p e s m args below meth c s₁ B hml hv
  obtain ⟨rfl, hP, hE⟩ := hv
  have hl := lv_entry ([.ref (a w), .int x1]) (n := 2) (Nat.le_of_ble_eq_true rfl)
  rw [lg_entry_eq]
  generalize (lg_sl ([.ref (a w), .int x1]) ++ List.replicate (2 - (lg_sl ([.ref (a w), .int x1])).length) Slot.unset).toArray = ls at hl ⊢
  have C0 : nCx p s m _ meth c cX6_about 2 (some .int) RX6 wsX6_about := ⟨B.exec, B.bytes, B.returns, hml, findClass_of_methodNamed B.named, atoms_spec (ws := wsX6_about) B.pre, B.notSynchronized⟩
  exact kl_X6_about_0 (N := N) hw C0 hE (z := (r, σ')) σ x1 _ _ ls hl hP va_S.rf hf

/-! X6_pathAt -/
set_option maxRecDepth 20000 in
theorem iX6_pathAt_X6 : ∀ w ∈ u_ws RX6 TX6 12, w ∈ wsX6_pathAt := fun _ h => List.mem_cons_of_mem _ (List.mem_append_right _ h)
set_option maxRecDepth 20000 in
theorem qX6_pathAt_40 : Cond.fieldLink RX6 40 RX6 (TX6 10).2.1 (TX6 10).2.2.1 ∈ wsX6_pathAt := by decide +kernel
set_option maxRecDepth 20000 in
theorem qX6_pathAt_46 : Cond.fieldLink RX6 46 RX6 (TX6 1).2.1 (TX6 1).2.2.1 ∈ wsX6_pathAt := by decide +kernel
def b_X6_pathAt_0 (N : Nat) (w : Nat) (σ : nS) (x1 : Int32) : Option (Int32 × nS) := (if x1 < 0 then some ((-1), σ) else (if (σ.1 w 10) ≤ x1 then some ((-1), σ) else nLet (Int32.ofNat (nPl w)) (fun v1 => (if v1 ≤ x1 then some ((-1), σ) else nIx x1 (nPl w) (nLet (σ.1 (w + 2) (x1).toNatClampNeg) (fun v2 => some (v2, σ)))))))
set_option maxHeartbeats 4000000 in
set_option maxRecDepth 100000 in
theorem kb_X6_pathAt_0 {p : Program} {l : Launch} {e : Env} {s : State} {m : MethodId} {args : Array Value} {below : List Frame} {meth : Method} {c : Code} {D : va_G} {A : Nat → Prop} {cy : Nat → ClassId} {a kt vt : Nat → Nat} {N : Nat} {w : Nat} (hw : nWk w) (C0 : nCx p s m args meth c cX6_pathAt 2 (some .int) RX6 wsX6_pathAt) (hE : nEn D A cy (NBw cy a) kt vt s) {z : Int32 × nS} : ∀ (σ : nS) (x1 : Int32) (H : Heap) (locs : List Loc) (ls : Array Slot), lv_has ls 2 [(0, .ref (a w)), (1, .int x1)] → va_P D vwCl ((NBw cy a) σ) H → va_S A s.heap H locs → b_X6_pathAt_0 N w σ x1 = some z → W p l e ({ frames := 0, cells := 0, slots := 0, locals := 0 } : Room) s m args below meth c H locs 0 0 (nQi below D A (NBw cy a) args s z) (F0 m 0 ls []) := by
  obtain ⟨hx, hb, hr, hml, hown, hts, hlocks⟩ := C0
  intro σ x1 H locs ls hl hP hS hf
  unfold b_X6_pathAt_0 at hf
  refine lv_iload_n hx hb dX6_pathAt_0 rfl (lv_at hl 1 rfl) ?_
  refine lv_if_lt (tgt := 30) hx hb dX6_pathAt_1 (by decide) (fun hc => ?_) (fun hc => ?_)
  · replace hf := nIf_t hc hf
    refine lv_iconst (v := (-1)) hx hb dX6_pathAt_30 (by decide) ?_
    exact nb_iret hx hb hr hlocks hP hS (nSo hf) dX6_pathAt_31
  · replace hf := nIf_f hc hf
    refine lv_iload_n hx hb dX6_pathAt_4 rfl (lv_at hl 1 rfl) ?_
    refine lv_aload_n hx hb dX6_pathAt_5 rfl (lv_at hl 0 rfl) ?_
    refine nb_get (ci := 6) hx hb hts iX6_pathAt_X6 hown hE hP w (nboW hw) rfl 10 (by decide) qX6_pathAt_40 rfl rfl dX6_pathAt_6 ?_
    refine lv_icmp_ge (tgt := 30) hx hb dX6_pathAt_9 (by decide) (fun hc => ?_) (fun hc => ?_)
    · replace hf := nIf_t hc hf
      refine lv_iconst (v := (-1)) hx hb dX6_pathAt_30 (by decide) ?_
      exact nb_iret hx hb hr hlocks hP hS (nSo hf) dX6_pathAt_31
    · replace hf := nIf_f hc hf
      refine lv_iload_n hx hb dX6_pathAt_12 rfl (lv_at hl 1 rfl) ?_
      refine lv_aload_n hx hb dX6_pathAt_13 rfl (lv_at hl 0 rfl) ?_
      refine nb_get (ci := 6) hx hb hts iX6_pathAt_X6 hown hE hP w (nboW hw) rfl 1 (by decide) qX6_pathAt_46 rfl rfl dX6_pathAt_14 ?_
      refine na_alen hx hb hE hP (nbrP hw) dX6_pathAt_17 ?_
      refine lv_topi (fun v1 ev1 => ?_)
      replace hf := nLet_e hf ev1
      refine lv_icmp_ge (tgt := 30) hx hb dX6_pathAt_18 (by decide) (fun hc => ?_) (fun hc => ?_)
      · replace hf := nIf_t hc hf
        refine lv_iconst (v := (-1)) hx hb dX6_pathAt_30 (by decide) ?_
        exact nb_iret hx hb hr hlocks hP hS (nSo hf) dX6_pathAt_31
      · replace hf := nIf_f hc hf
        refine lv_aload_n hx hb dX6_pathAt_21 rfl (lv_at hl 0 rfl) ?_
        refine nb_get (ci := 6) hx hb hts iX6_pathAt_X6 hown hE hP w (nboW hw) rfl 1 (by decide) qX6_pathAt_46 rfl rfl dX6_pathAt_22 ?_
        refine lv_iload_n hx hb dX6_pathAt_25 rfl (lv_at hl 1 rfl) ?_
        obtain ⟨hin, hf⟩ := nIx_e hf
        refine na_iald hx hb hE hP (nbrP hw) hin dX6_pathAt_26 ?_
        refine lv_topi (fun v2 ev2 => ?_)
        replace hf := nLet_e hf ev2
        refine lv_goto (tgt := 31) hx hb dX6_pathAt_27 (by decide) ?_
        exact nb_iret hx hb hr hlocks hP hS (nSo hf) dX6_pathAt_31
def l_X6_pathAt_0 (N : Nat) (w : Nat) : nS → Int32 → Option (Int32 × nS) := b_X6_pathAt_0 N w
theorem kl_X6_pathAt_0 {p : Program} {l : Launch} {e : Env} {s : State} {m : MethodId} {args : Array Value} {below : List Frame} {meth : Method} {c : Code} {D : va_G} {A : Nat → Prop} {cy : Nat → ClassId} {a kt vt : Nat → Nat} {N : Nat} {w : Nat} (hw : nWk w) (C0 : nCx p s m args meth c cX6_pathAt 2 (some .int) RX6 wsX6_pathAt) (hE : nEn D A cy (NBw cy a) kt vt s) {z : Int32 × nS} : ∀ (σ : nS) (x1 : Int32) (H : Heap) (locs : List Loc) (ls : Array Slot), lv_has ls 2 [(0, .ref (a w)), (1, .int x1)] → va_P D vwCl ((NBw cy a) σ) H → va_S A s.heap H locs → l_X6_pathAt_0 N w σ x1 = some z → W p l e ({ frames := 0, cells := 0, slots := 0, locals := 0 } : Room) s m args below meth c H locs 0 0 (nQi below D A (NBw cy a) args s z) (F0 m 0 ls []) := by
  exact kb_X6_pathAt_0 (N := N) hw C0 hE
def f_X6_pathAt (N : Nat) (w : Nat) (x1 : Int32) (σ : nS) : Option (Int32 × nS) := l_X6_pathAt_0 N w σ x1
set_option maxHeartbeats 4000000 in
set_option maxRecDepth 100000 in
theorem c_X6_pathAt {l : Launch} {D : va_G} {A : Nat → Prop} {cy : Nat → ClassId} {a kt vt : Nat → Nat} {N : Nat} {w : Nat} (hw : nWk w) {x1 : Int32} {σ : nS} {r : Int32} {σ' : nS} (hf : f_X6_pathAt N w x1 σ = some (r, σ')) : nMi l yX6_pathAt wsX6_pathAt ({ frames := 0, cells := 0, slots := 0, locals := 0 } : Room) D A cy (NBw cy a) kt vt [.ref (a w), .int x1] σ r σ' := by
  refine Met.ofW (cc := cX6_pathAt) (maxL := 2) (ret := (some .int)) (by decide) rfl ?_
  intro p e s m args below meth c s₁ B hml hv
  obtain ⟨rfl, hP, hE⟩ := hv
  have hl := lv_entry ([.ref (a w), .int x1]) (n := 2) (Nat.le_of_ble_eq_true rfl)
  rw [lg_entry_eq]
  generalize (lg_sl ([.ref (a w), .int x1]) ++ List.replicate (2 - (lg_sl ([.ref (a w), .int x1])).length) Slot.unset).toArray = ls at hl ⊢
  have C0 : nCx p s m _ meth c cX6_pathAt 2 (some .int) RX6 wsX6_pathAt := ⟨B.exec, B.bytes, B.returns, hml, findClass_of_methodNamed B.named, atoms_spec (ws := wsX6_pathAt) B.pre, B.notSynchronized⟩
  exact kl_X6_pathAt_0 (N := N) hw C0 hE (z := (r, σ')) σ x1 _ _ ls hl hP va_S.rf hf

/-! X2_isFull -/
set_option maxRecDepth 20000 in
theorem iX2_isFull_X2 : ∀ w ∈ u_ws RX2 TX2 5, w ∈ wsX2_isFull := fun _ h => List.mem_cons_of_mem _ (List.mem_append_right _ h)
set_option maxRecDepth 20000 in
theorem qX2_isFull_18 : Cond.fieldLink RX2 18 RX2 (TX2 2).2.1 (TX2 2).2.2.1 ∈ wsX2_isFull := by decide +kernel
set_option maxRecDepth 20000 in
theorem qX2_isFull_9 : Cond.fieldLink RX2 9 RX2 (TX2 0).2.1 (TX2 0).2.2.1 ∈ wsX2_isFull := by decide +kernel
def b_X2_isFull_0 (N : Nat) (σ : nS) : Option (Int32 × nS) := nLet (Int32.ofNat 200) (fun v1 => (if (σ.1 20 2) < v1 then some (0, σ) else some (1, σ)))
set_option maxHeartbeats 4000000 in
set_option maxRecDepth 100000 in
theorem kb_X2_isFull_0 {p : Program} {l : Launch} {e : Env} {s : State} {m : MethodId} {args : Array Value} {below : List Frame} {meth : Method} {c : Code} {D : va_G} {A : Nat → Prop} {cy : Nat → ClassId} {a kt vt : Nat → Nat} {N : Nat}   (C0 : nCx p s m args meth c cX2_isFull 1 (some .boolean) RX2 wsX2_isFull) (hE : nEn D A cy (NBw cy a) kt vt s) {z : Int32 × nS} : ∀ (σ : nS) (H : Heap) (locs : List Loc) (ls : Array Slot), lv_has ls 1 [(0, .ref (a 20))] → va_P D vwCl ((NBw cy a) σ) H → va_S A s.heap H locs → b_X2_isFull_0 N σ = some z → W p l e ({ frames := 0, cells := 0, slots := 0, locals := 0 } : Room) s m args below meth c H locs 0 0 (nQi below D A (NBw cy a) args s z) (F0 m 0 ls []) := by
  obtain ⟨hx, hb, hr, hml, hown, hts, hlocks⟩ := C0
  intro σ  H locs ls hl hP hS hf
  unfold b_X2_isFull_0 at hf
  refine lv_aload_n hx hb dX2_isFull_0 rfl (lv_at hl 0 rfl) ?_
  refine nb_get (ci := 2) hx hb hts iX2_isFull_X2 hown hE hP 20 nbo_20 rfl 2 (by decide) qX2_isFull_18 rfl rfl dX2_isFull_1 ?_
  refine lv_aload_n hx hb dX2_isFull_4 rfl (lv_at hl 0 rfl) ?_
  refine nb_get (ci := 2) hx hb hts iX2_isFull_X2 hown hE hP 20 nbo_20 rfl 0 (by decide) qX2_isFull_9 rfl rfl dX2_isFull_5 ?_
  refine na_alen hx hb hE hP nbr_21 dX2_isFull_8 ?_
  refine lv_topi (fun v1 ev1 => ?_)
  replace hf := nLet_e hf ev1
  refine lv_icmp_lt (tgt := 16) hx hb dX2_isFull_9 (by decide) (fun hc => ?_) (fun hc => ?_)
  · replace hf := nIf_t hc hf
    refine lv_iconst (v := 0) hx hb dX2_isFull_16 (by decide) ?_
    exact nb_zret hx hb hr hlocks hP hS (nSo hf) rfl dX2_isFull_17
  · replace hf := nIf_f hc hf
    refine lv_iconst (v := 1) hx hb dX2_isFull_12 (by decide) ?_
    refine lv_goto (tgt := 17) hx hb dX2_isFull_13 (by decide) ?_
    exact nb_zret hx hb hr hlocks hP hS (nSo hf) rfl dX2_isFull_17
def l_X2_isFull_0 (N : Nat) : nS → Option (Int32 × nS) := b_X2_isFull_0 N
theorem kl_X2_isFull_0 {p : Program} {l : Launch} {e : Env} {s : State} {m : MethodId} {args : Array Value} {below : List Frame} {meth : Method} {c : Code} {D : va_G} {A : Nat → Prop} {cy : Nat → ClassId} {a kt vt : Nat → Nat} {N : Nat}   (C0 : nCx p s m args meth c cX2_isFull 1 (some .boolean) RX2 wsX2_isFull) (hE : nEn D A cy (NBw cy a) kt vt s) {z : Int32 × nS} : ∀ (σ : nS) (H : Heap) (locs : List Loc) (ls : Array Slot), lv_has ls 1 [(0, .ref (a 20))] → va_P D vwCl ((NBw cy a) σ) H → va_S A s.heap H locs → l_X2_isFull_0 N σ = some z → W p l e ({ frames := 0, cells := 0, slots := 0, locals := 0 } : Room) s m args below meth c H locs 0 0 (nQi below D A (NBw cy a) args s z) (F0 m 0 ls []) := by
  exact kb_X2_isFull_0 (N := N)  C0 hE
def f_X2_isFull (N : Nat) (σ : nS) : Option (Int32 × nS) := l_X2_isFull_0 N σ
set_option maxHeartbeats 4000000 in
set_option maxRecDepth 100000 in
theorem c_X2_isFull {l : Launch} {D : va_G} {A : Nat → Prop} {cy : Nat → ClassId} {a kt vt : Nat → Nat} {N : Nat}   {σ : nS} {r : Int32} {σ' : nS} (hf : f_X2_isFull N σ = some (r, σ')) : nMi l yX2_isFull wsX2_isFull ({ frames := 0, cells := 0, slots := 0, locals := 0 } : Room) D A cy (NBw cy a) kt vt [.ref (a 20)] σ r σ' := by
  refine Met.ofW (cc := cX2_isFull) (maxL := 1) (ret := (some .boolean)) (by decide) rfl ?_
  intro p e s m args below meth c s₁ B hml hv
  obtain ⟨rfl, hP, hE⟩ := hv
  have hl := lv_entry ([.ref (a 20)]) (n := 1) (Nat.le_of_ble_eq_true rfl)
  rw [lg_entry_eq]
  generalize (lg_sl ([.ref (a 20)]) ++ List.replicate (1 - (lg_sl ([.ref (a 20)])).length) Slot.unset).toArray = ls at hl ⊢
  have C0 : nCx p s m _ meth c cX2_isFull 1 (some .boolean) RX2 wsX2_isFull := ⟨B.exec, B.bytes, B.returns, hml, findClass_of_methodNamed B.named, atoms_spec (ws := wsX2_isFull) B.pre, B.notSynchronized⟩
  exact kl_X2_isFull_0 (N := N)  C0 hE (z := (r, σ')) σ  _ _ ls hl hP va_S.rf hf

/-! X2_write -/
set_option maxRecDepth 20000 in
theorem iX2_write_X2 : ∀ w ∈ u_ws RX2 TX2 5, w ∈ wsX2_write := fun _ h => List.mem_cons_of_mem _ (List.mem_append_right _ h)
set_option maxRecDepth 20000 in
theorem qX2_write_18 : Cond.fieldLink RX2 18 RX2 (TX2 2).2.1 (TX2 2).2.2.1 ∈ wsX2_write := by decide +kernel
set_option maxRecDepth 20000 in
theorem qX2_write_9 : Cond.fieldLink RX2 9 RX2 (TX2 0).2.1 (TX2 0).2.2.1 ∈ wsX2_write := by decide +kernel
def b_X2_write_0 (N : Nat) (σ : nS) (x1 : Int32) : Option (Int32 × nS) := (if (σ.1 20 2) < 0 then some (0, σ) else nLet (Int32.ofNat 200) (fun v1 => (if v1 ≤ (σ.1 20 2) then some (0, σ) else nIx (σ.1 20 2) 200 (nLet (wr σ 21 ((σ.1 20 2)).toNatClampNeg x1) (fun σ2 => nLet ((σ2.1 20 2) + (1 : Int32) : Int32) (fun v3 => nLet (wr σ2 20 2 v3) (fun σ4 => some (0, σ4))))))))
set_option maxHeartbeats 4000000 in
set_option maxRecDepth 100000 in
theorem kb_X2_write_0 {p : Program} {l : Launch} {e : Env} {s : State} {m : MethodId} {args : Array Value} {below : List Frame} {meth : Method} {c : Code} {D : va_G} {A : Nat → Prop} {cy : Nat → ClassId} {a kt vt : Nat → Nat} {N : Nat}   (C0 : nCx p s m args meth c cX2_write 2 none RX2 wsX2_write) (hE : nEn D A cy (NBw cy a) kt vt s) {z : Int32 × nS} : ∀ (σ : nS) (x1 : Int32) (H : Heap) (locs : List Loc) (ls : Array Slot), lv_has ls 2 [(0, .ref (a 20)), (1, .int x1)] → va_P D vwCl ((NBw cy a) σ) H → va_S A s.heap H locs → b_X2_write_0 N σ x1 = some z → W p l e ({ frames := 0, cells := 0, slots := 0, locals := 0 } : Room) s m args below meth c H locs 0 0 (nQv below D A (NBw cy a) args s z) (F0 m 0 ls []) := by
  obtain ⟨hx, hb, hr, hml, hown, hts, hlocks⟩ := C0
  intro σ x1 H locs ls hl hP hS hf
  unfold b_X2_write_0 at hf
  refine lv_aload_n hx hb dX2_write_0 rfl (lv_at hl 0 rfl) ?_
  refine nb_get (ci := 2) hx hb hts iX2_write_X2 hown hE hP 20 nbo_20 rfl 2 (by decide) qX2_write_18 rfl rfl dX2_write_1 ?_
  refine lv_if_lt (tgt := 39) hx hb dX2_write_4 (by decide) (fun hc => ?_) (fun hc => ?_)
  · replace hf := nIf_t hc hf
    exact nb_vret hx hb hr hlocks hP hS (nSo hf) dX2_write_39
  · replace hf := nIf_f hc hf
    refine lv_aload_n hx hb dX2_write_7 rfl (lv_at hl 0 rfl) ?_
    refine nb_get (ci := 2) hx hb hts iX2_write_X2 hown hE hP 20 nbo_20 rfl 2 (by decide) qX2_write_18 rfl rfl dX2_write_8 ?_
    refine lv_aload_n hx hb dX2_write_11 rfl (lv_at hl 0 rfl) ?_
    refine nb_get (ci := 2) hx hb hts iX2_write_X2 hown hE hP 20 nbo_20 rfl 0 (by decide) qX2_write_9 rfl rfl dX2_write_12 ?_
    refine na_alen hx hb hE hP nbr_21 dX2_write_15 ?_
    refine lv_topi (fun v1 ev1 => ?_)
    replace hf := nLet_e hf ev1
    refine lv_icmp_ge (tgt := 39) hx hb dX2_write_16 (by decide) (fun hc => ?_) (fun hc => ?_)
    · replace hf := nIf_t hc hf
      exact nb_vret hx hb hr hlocks hP hS (nSo hf) dX2_write_39
    · replace hf := nIf_f hc hf
      refine lv_aload_n hx hb dX2_write_19 rfl (lv_at hl 0 rfl) ?_
      refine nb_get (ci := 2) hx hb hts iX2_write_X2 hown hE hP 20 nbo_20 rfl 0 (by decide) qX2_write_9 rfl rfl dX2_write_20 ?_
      refine lv_aload_n hx hb dX2_write_23 rfl (lv_at hl 0 rfl) ?_
      refine nb_get (ci := 2) hx hb hts iX2_write_X2 hown hE hP 20 nbo_20 rfl 2 (by decide) qX2_write_18 rfl rfl dX2_write_24 ?_
      refine lv_iload_n hx hb dX2_write_27 rfl (lv_at hl 1 rfl) ?_
      obtain ⟨hin, hf⟩ := nIx_e hf
      refine na_iast hx hb hE hP hS nbr_21 hin dX2_write_28 (fun σ2 eσ2 H locs hP hS => ?_)
      replace hf := nLet_e hf eσ2
      refine lv_aload_n hx hb dX2_write_29 rfl (lv_at hl 0 rfl) ?_
      refine lv_dup hx hb dX2_write_30 rfl ?_
      refine nb_get (ci := 2) hx hb hts iX2_write_X2 hown hE hP 20 nbo_20 rfl 2 (by decide) qX2_write_18 rfl rfl dX2_write_31 ?_
      refine lv_iconst (v := 1) hx hb dX2_write_34 (by decide) ?_
      refine lv_iadd hx hb dX2_write_35 ?_
      refine lv_topi (fun v3 ev3 => ?_)
      replace hf := nLet_e hf ev3
      refine nb_put (ci := 2) hx hb hts iX2_write_X2 tyX2 tyX2_ok nmX2 hown hE hP hS 20 nbo_20 rfl 2 (by decide) qX2_write_18 rfl rfl rfl rfl (Nat.le_of_ble_eq_true rfl) dX2_write_36 (nbp_20_2 _) (fun σ4 eσ4 H locs hP hS => ?_)
      replace hf := nLet_e hf eσ4
      exact nb_vret hx hb hr hlocks hP hS (nSo hf) dX2_write_39
def l_X2_write_0 (N : Nat) : nS → Int32 → Option (Int32 × nS) := b_X2_write_0 N
theorem kl_X2_write_0 {p : Program} {l : Launch} {e : Env} {s : State} {m : MethodId} {args : Array Value} {below : List Frame} {meth : Method} {c : Code} {D : va_G} {A : Nat → Prop} {cy : Nat → ClassId} {a kt vt : Nat → Nat} {N : Nat}   (C0 : nCx p s m args meth c cX2_write 2 none RX2 wsX2_write) (hE : nEn D A cy (NBw cy a) kt vt s) {z : Int32 × nS} : ∀ (σ : nS) (x1 : Int32) (H : Heap) (locs : List Loc) (ls : Array Slot), lv_has ls 2 [(0, .ref (a 20)), (1, .int x1)] → va_P D vwCl ((NBw cy a) σ) H → va_S A s.heap H locs → l_X2_write_0 N σ x1 = some z → W p l e ({ frames := 0, cells := 0, slots := 0, locals := 0 } : Room) s m args below meth c H locs 0 0 (nQv below D A (NBw cy a) args s z) (F0 m 0 ls []) := by
  exact kb_X2_write_0 (N := N)  C0 hE
def f_X2_write (N : Nat) (x1 : Int32) (σ : nS) : Option (Int32 × nS) := l_X2_write_0 N σ x1
set_option maxHeartbeats 4000000 in
set_option maxRecDepth 100000 in
theorem c_X2_write {l : Launch} {D : va_G} {A : Nat → Prop} {cy : Nat → ClassId} {a kt vt : Nat → Nat} {N : Nat}   {x1 : Int32} {σ : nS} {r : Int32} {σ' : nS} (hf : f_X2_write N x1 σ = some (r, σ')) : nMv l yX2_write wsX2_write ({ frames := 0, cells := 0, slots := 0, locals := 0 } : Room) D A cy (NBw cy a) kt vt [.ref (a 20), .int x1] σ σ' := by
  refine Met.ofW (cc := cX2_write) (maxL := 2) (ret := none) (by decide) rfl ?_
  intro p e s m args below meth c s₁ B hml hv
  obtain ⟨rfl, hP, hE⟩ := hv
  have hl := lv_entry ([.ref (a 20), .int x1]) (n := 2) (Nat.le_of_ble_eq_true rfl)
  rw [lg_entry_eq]
  generalize (lg_sl ([.ref (a 20), .int x1]) ++ List.replicate (2 - (lg_sl ([.ref (a 20), .int x1])).length) Slot.unset).toArray = ls at hl ⊢
  have C0 : nCx p s m _ meth c cX2_write 2 none RX2 wsX2_write := ⟨B.exec, B.bytes, B.returns, hml, findClass_of_methodNamed B.named, atoms_spec (ws := wsX2_write) B.pre, B.notSynchronized⟩
  exact kl_X2_write_0 (N := N)  C0 hE (z := (r, σ')) σ x1 _ _ ls hl hP va_S.rf hf

/-! X2_extend -/
set_option maxRecDepth 20000 in
theorem iX2_extend_X2 : ∀ w ∈ u_ws RX2 TX2 5, w ∈ wsX2_extend := fun _ h => List.mem_cons_of_mem _ (List.mem_append_right _ h)
set_option maxRecDepth 20000 in
theorem qX2_extend_18 : Cond.fieldLink RX2 18 RX2 (TX2 2).2.1 (TX2 2).2.2.1 ∈ wsX2_extend := by decide +kernel
set_option maxRecDepth 20000 in
theorem qX2_extend_9 : Cond.fieldLink RX2 9 RX2 (TX2 0).2.1 (TX2 0).2.2.1 ∈ wsX2_extend := by decide +kernel
set_option maxRecDepth 20000 in
theorem qX2_extend_15 : Cond.fieldLink RX2 15 RX2 (TX2 1).2.1 (TX2 1).2.2.1 ∈ wsX2_extend := by decide +kernel
def b_X2_extend_76 (N : Nat) (k4 : nS → Int32 → Int32 → Int32 → Option (Int32 × nS)) (σ : nS) (x1 : Int32) (x3 : Int32) (x4 : Int32) (y1 : Int32) (y2 : Int32) : Option (Int32 × nS) := nIx y1 201 (nLet (wr σ 22 (y1).toNatClampNeg y2) (fun σ1 => nLet (x3 + 1 : Int32) (fun v2 => k4 σ1 x1 x4 v2)))
set_option maxHeartbeats 4000000 in
set_option maxRecDepth 100000 in
theorem kb_X2_extend_76 {p : Program} {l : Launch} {e : Env} {s : State} {m : MethodId} {args : Array Value} {below : List Frame} {meth : Method} {c : Code} {D : va_G} {A : Nat → Prop} {cy : Nat → ClassId} {a kt vt : Nat → Nat} {N : Nat}   (C0 : nCx p s m args meth c cX2_extend 5 none RX2 wsX2_extend) (hE : nEn D A cy (NBw cy a) kt vt s) {z : Int32 × nS} {k4 : nS → Int32 → Int32 → Int32 → Option (Int32 × nS)} (K4 : ∀ (σ : nS) (x1 : Int32) (x2 : Int32) (x3 : Int32) (H : Heap) (locs : List Loc) (ls : Array Slot), lv_has ls 5 [(0, .ref (a 20)), (1, .int x1), (2, .int x2), (3, .int x3)] → va_P D vwCl ((NBw cy a) σ) H → va_S A s.heap H locs → k4 σ x1 x2 x3 = some z → W p l e ({ frames := 1, cells := 0, slots := 0, locals := 21 } : Room) s m args below meth c H locs 0 0 (nQv below D A (NBw cy a) args s z) (F0 m 4 ls [])) : ∀ (σ : nS) (x1 : Int32) (x3 : Int32) (x4 : Int32) (y1 : Int32) (y2 : Int32) (H : Heap) (locs : List Loc) (ls : Array Slot), lv_has ls 5 [(0, .ref (a 20)), (1, .int x1), (3, .int x3), (4, .int x4)] → va_P D vwCl ((NBw cy a) σ) H → va_S A s.heap H locs → b_X2_extend_76 N k4 σ x1 x3 x4 y1 y2 = some z → W p l e ({ frames := 1, cells := 0, slots := 0, locals := 21 } : Room) s m args below meth c H locs 0 0 (nQv below D A (NBw cy a) args s z) (F0 m 76 ls [.int y2, .int y1, .ref (a 22)]) := by
  obtain ⟨hx, hb, hr, hml, hown, hts, hlocks⟩ := C0
  intro σ x1 x3 x4 y1 y2 H locs ls hl hP hS hf
  unfold b_X2_extend_76 at hf
  obtain ⟨hin, hf⟩ := nIx_e hf
  refine na_iast hx hb hE hP hS nbr_22 hin dX2_extend_76 (fun σ1 eσ1 H locs hP hS => ?_)
  replace hf := nLet_e hf eσ1
  refine lv_iload hx hb dX2_extend_77 (lv_at hl 3 rfl) ?_
  refine lv_istore_n (lv' := [(2, .int x4), (0, .ref (a 20)), (1, .int x1), (3, .int x3), (4, .int x4)]) hx hb dX2_extend_79 rfl hl (by decide) rfl (fun ls hl => ?_)
  obtain ⟨v2, ev2⟩ : ∃ y : Int32, y = x3 + 1 := ⟨_, rfl⟩
  replace hf := nLet_e hf ev2
  refine lv_iinc (v := v2) (lv' := [(3, .int v2), (2, .int x4), (0, .ref (a 20)), (1, .int x1), (4, .int x4)]) hx hb dX2_extend_80 hl (k := 3) rfl (by rw [ev2]; rfl) (by decide) rfl (fun ls hl => ?_)
  refine lv_goto (tgt := 4) hx hb dX2_extend_83 (by decide) ?_
  exact K4 σ1 x1 x4 v2 H locs ls (lv_sub hl [2, 3, 1, 0] rfl) hP hS hf
def b_X2_extend_4 (N : Nat) (k76 : nS → Int32 → Int32 → Int32 → Int32 → Int32 → Option (Int32 × nS)) (σ : nS) (x1 : Int32) (x2 : Int32) (x3 : Int32) : Option (Int32 × nS) := (if (σ.1 20 2) ≤ x3 then some (0, σ) else nLet (Int32.ofNat 200) (fun v1 => (if v1 ≤ x3 then some (0, σ) else nLet (x3 + (1 : Int32) : Int32) (fun v2 => nLet (Int32.ofNat 201) (fun v3 => (if v3 ≤ v2 then some (0, σ) else nLet (x3 + (1 : Int32) : Int32) (fun v4 => nIx v4 201 (nLet (σ.1 22 (v4).toNatClampNeg) (fun v5 => nLet (x3 + (1 : Int32) : Int32) (fun v6 => nIx x3 200 (nLet (σ.1 21 (x3).toNatClampNeg) (fun v7 => (if v7 = x1 then nLet (x2 + (1 : Int32) : Int32) (fun v10 => k76 σ x1 x3 v5 v6 v10) else nIx x3 201 (nLet (σ.1 22 (x3).toNatClampNeg) (fun v8 => nLet (if v5 < v8 then v8 else v5) (fun v9 => k76 σ x1 x3 v5 v6 v9))))))))))))))))
set_option maxHeartbeats 4000000 in
set_option maxRecDepth 100000 in
theorem kb_X2_extend_4 {p : Program} {l : Launch} {e : Env} {s : State} {m : MethodId} {args : Array Value} {below : List Frame} {meth : Method} {c : Code} {D : va_G} {A : Nat → Prop} {cy : Nat → ClassId} {a kt vt : Nat → Nat} {N : Nat}   (C0 : nCx p s m args meth c cX2_extend 5 none RX2 wsX2_extend) (hE : nEn D A cy (NBw cy a) kt vt s) {z : Int32 × nS} {k76 : nS → Int32 → Int32 → Int32 → Int32 → Int32 → Option (Int32 × nS)} (K76 : ∀ (σ : nS) (x1 : Int32) (x3 : Int32) (x4 : Int32) (y1 : Int32) (y2 : Int32) (H : Heap) (locs : List Loc) (ls : Array Slot), lv_has ls 5 [(0, .ref (a 20)), (1, .int x1), (3, .int x3), (4, .int x4)] → va_P D vwCl ((NBw cy a) σ) H → va_S A s.heap H locs → k76 σ x1 x3 x4 y1 y2 = some z → W p l e ({ frames := 1, cells := 0, slots := 0, locals := 21 } : Room) s m args below meth c H locs 0 0 (nQv below D A (NBw cy a) args s z) (F0 m 76 ls [.int y2, .int y1, .ref (a 22)])) : ∀ (σ : nS) (x1 : Int32) (x2 : Int32) (x3 : Int32) (H : Heap) (locs : List Loc) (ls : Array Slot), lv_has ls 5 [(0, .ref (a 20)), (1, .int x1), (2, .int x2), (3, .int x3)] → va_P D vwCl ((NBw cy a) σ) H → va_S A s.heap H locs → b_X2_extend_4 N k76 σ x1 x2 x3 = some z → W p l e ({ frames := 1, cells := 0, slots := 0, locals := 21 } : Room) s m args below meth c H locs 0 0 (nQv below D A (NBw cy a) args s z) (F0 m 4 ls []) := by
  obtain ⟨hx, hb, hr, hml, hown, hts, hlocks⟩ := C0
  intro σ x1 x2 x3 H locs ls hl hP hS hf
  unfold b_X2_extend_4 at hf
  refine lv_iload_n hx hb dX2_extend_4 rfl (lv_at hl 3 rfl) ?_
  refine lv_aload_n hx hb dX2_extend_5 rfl (lv_at hl 0 rfl) ?_
  refine nb_get (ci := 2) hx hb hts iX2_extend_X2 hown hE hP 20 nbo_20 rfl 2 (by decide) qX2_extend_18 rfl rfl dX2_extend_6 ?_
  refine lv_icmp_ge (tgt := 86) hx hb dX2_extend_9 (by decide) (fun hc => ?_) (fun hc => ?_)
  · replace hf := nIf_t hc hf
    exact nb_vret hx hb hr hlocks hP hS (nSo hf) dX2_extend_86
  · replace hf := nIf_f hc hf
    refine lv_iload_n hx hb dX2_extend_12 rfl (lv_at hl 3 rfl) ?_
    refine lv_aload_n hx hb dX2_extend_13 rfl (lv_at hl 0 rfl) ?_
    refine nb_get (ci := 2) hx hb hts iX2_extend_X2 hown hE hP 20 nbo_20 rfl 0 (by decide) qX2_extend_9 rfl rfl dX2_extend_14 ?_
    refine na_alen hx hb hE hP nbr_21 dX2_extend_17 ?_
    refine lv_topi (fun v1 ev1 => ?_)
    replace hf := nLet_e hf ev1
    refine lv_icmp_ge (tgt := 86) hx hb dX2_extend_18 (by decide) (fun hc => ?_) (fun hc => ?_)
    · replace hf := nIf_t hc hf
      exact nb_vret hx hb hr hlocks hP hS (nSo hf) dX2_extend_86
    · replace hf := nIf_f hc hf
      refine lv_iload_n hx hb dX2_extend_21 rfl (lv_at hl 3 rfl) ?_
      refine lv_iconst (v := 1) hx hb dX2_extend_22 (by decide) ?_
      refine lv_iadd hx hb dX2_extend_23 ?_
      refine lv_topi (fun v2 ev2 => ?_)
      replace hf := nLet_e hf ev2
      refine lv_aload_n hx hb dX2_extend_24 rfl (lv_at hl 0 rfl) ?_
      refine nb_get (ci := 2) hx hb hts iX2_extend_X2 hown hE hP 20 nbo_20 rfl 1 (by decide) qX2_extend_15 rfl rfl dX2_extend_25 ?_
      refine na_alen hx hb hE hP nbr_22 dX2_extend_28 ?_
      refine lv_topi (fun v3 ev3 => ?_)
      replace hf := nLet_e hf ev3
      refine lv_icmp_ge (tgt := 86) hx hb dX2_extend_29 (by decide) (fun hc => ?_) (fun hc => ?_)
      · replace hf := nIf_t hc hf
        exact nb_vret hx hb hr hlocks hP hS (nSo hf) dX2_extend_86
      · replace hf := nIf_f hc hf
        refine lv_aload_n hx hb dX2_extend_32 rfl (lv_at hl 0 rfl) ?_
        refine nb_get (ci := 2) hx hb hts iX2_extend_X2 hown hE hP 20 nbo_20 rfl 1 (by decide) qX2_extend_15 rfl rfl dX2_extend_33 ?_
        refine lv_iload_n hx hb dX2_extend_36 rfl (lv_at hl 3 rfl) ?_
        refine lv_iconst (v := 1) hx hb dX2_extend_37 (by decide) ?_
        refine lv_iadd hx hb dX2_extend_38 ?_
        refine lv_topi (fun v4 ev4 => ?_)
        replace hf := nLet_e hf ev4
        obtain ⟨hin, hf⟩ := nIx_e hf
        refine na_iald hx hb hE hP nbr_22 hin dX2_extend_39 ?_
        refine lv_topi (fun v5 ev5 => ?_)
        replace hf := nLet_e hf ev5
        refine lv_istore (lv' := [(4, .int v5), (0, .ref (a 20)), (1, .int x1), (2, .int x2), (3, .int x3)]) hx hb dX2_extend_40 hl (by decide) rfl (fun ls hl => ?_)
        refine lv_aload_n hx hb dX2_extend_42 rfl (lv_at hl 1 rfl) ?_
        refine nb_get (ci := 2) hx hb hts iX2_extend_X2 hown hE hP 20 nbo_20 rfl 1 (by decide) qX2_extend_15 rfl rfl dX2_extend_43 ?_
        refine lv_iload_n hx hb dX2_extend_46 rfl (lv_at hl 4 rfl) ?_
        refine lv_iconst (v := 1) hx hb dX2_extend_47 (by decide) ?_
        refine lv_iadd hx hb dX2_extend_48 ?_
        refine lv_topi (fun v6 ev6 => ?_)
        replace hf := nLet_e hf ev6
        refine lv_aload_n hx hb dX2_extend_49 rfl (lv_at hl 1 rfl) ?_
        refine nb_get (ci := 2) hx hb hts iX2_extend_X2 hown hE hP 20 nbo_20 rfl 0 (by decide) qX2_extend_9 rfl rfl dX2_extend_50 ?_
        refine lv_iload_n hx hb dX2_extend_53 rfl (lv_at hl 4 rfl) ?_
        obtain ⟨hin, hf⟩ := nIx_e hf
        refine na_iald hx hb hE hP nbr_21 hin dX2_extend_54 ?_
        refine lv_topi (fun v7 ev7 => ?_)
        replace hf := nLet_e hf ev7
        refine lv_iload_n hx hb dX2_extend_55 rfl (lv_at hl 2 rfl) ?_
        refine lv_icmp_ne (tgt := 65) hx hb dX2_extend_56 (by decide) (fun hc => ?_) (fun hc => ?_)
        · replace hf := nIf_f hc hf
          refine lv_iload hx hb dX2_extend_65 (lv_at hl 0 rfl) ?_
          refine lv_aload_n hx hb dX2_extend_67 rfl (lv_at hl 1 rfl) ?_
          refine nb_get (ci := 2) hx hb hts iX2_extend_X2 hown hE hP 20 nbo_20 rfl 1 (by decide) qX2_extend_15 rfl rfl dX2_extend_68 ?_
          refine lv_iload_n hx hb dX2_extend_71 rfl (lv_at hl 4 rfl) ?_
          obtain ⟨hin, hf⟩ := nIx_e hf
          refine na_iald hx hb hE hP nbr_22 hin dX2_extend_72 ?_
          refine lv_topi (fun v8 ev8 => ?_)
          replace hf := nLet_e hf ev8
          refine va_mmax hx hb (hml.trans hl.1.symm) hown (hts (.methodLink RX2 53 Lib.Math.max.name) (by decide +kernel)) (hts (.static Lib.Math.max.name) (by decide +kernel)) (hts (.initialized "java/lang/Math") (by decide +kernel)) (hts (.code Lib.Math.max.name Lib.Math.max.code 2 (some .int)) (by decide +kernel)) (Nat.le_of_ble_eq_true rfl) (Nat.le_of_ble_eq_true rfl) (Nat.zero_le _) (Nat.zero_le _) dX2_extend_73 ?_
          refine lv_topi (fun v9 ev9 => ?_)
          replace hf := nLet_e hf ev9
          exact K76 σ x1 x3 v5 v6 v9 H locs ls (lv_sub hl [1, 2, 4, 0] rfl) hP hS hf
        · replace hf := nIf_t hc hf
          refine lv_iload_n hx hb dX2_extend_59 rfl (lv_at hl 3 rfl) ?_
          refine lv_iconst (v := 1) hx hb dX2_extend_60 (by decide) ?_
          refine lv_iadd hx hb dX2_extend_61 ?_
          refine lv_topi (fun v10 ev10 => ?_)
          replace hf := nLet_e hf ev10
          refine lv_goto (tgt := 76) hx hb dX2_extend_62 (by decide) ?_
          exact K76 σ x1 x3 v5 v6 v10 H locs ls (lv_sub hl [1, 2, 4, 0] rfl) hP hS hf
def b_X2_extend_0 (N : Nat) (k4 : nS → Int32 → Int32 → Int32 → Option (Int32 × nS)) (σ : nS) (x1 : Int32) : Option (Int32 × nS) := k4 σ x1 0 0
set_option maxHeartbeats 4000000 in
set_option maxRecDepth 100000 in
theorem kb_X2_extend_0 {p : Program} {l : Launch} {e : Env} {s : State} {m : MethodId} {args : Array Value} {below : List Frame} {meth : Method} {c : Code} {D : va_G} {A : Nat → Prop} {cy : Nat → ClassId} {a kt vt : Nat → Nat} {N : Nat}   (C0 : nCx p s m args meth c cX2_extend 5 none RX2 wsX2_extend) (hE : nEn D A cy (NBw cy a) kt vt s) {z : Int32 × nS} {k4 : nS → Int32 → Int32 → Int32 → Option (Int32 × nS)} (K4 : ∀ (σ : nS) (x1 : Int32) (x2 : Int32) (x3 : Int32) (H : Heap) (locs : List Loc) (ls : Array Slot), lv_has ls 5 [(0, .ref (a 20)), (1, .int x1), (2, .int x2), (3, .int x3)] → va_P D vwCl ((NBw cy a) σ) H → va_S A s.heap H locs → k4 σ x1 x2 x3 = some z → W p l e ({ frames := 1, cells := 0, slots := 0, locals := 21 } : Room) s m args below meth c H locs 0 0 (nQv below D A (NBw cy a) args s z) (F0 m 4 ls [])) : ∀ (σ : nS) (x1 : Int32) (H : Heap) (locs : List Loc) (ls : Array Slot), lv_has ls 5 [(0, .ref (a 20)), (1, .int x1)] → va_P D vwCl ((NBw cy a) σ) H → va_S A s.heap H locs → b_X2_extend_0 N k4 σ x1 = some z → W p l e ({ frames := 1, cells := 0, slots := 0, locals := 21 } : Room) s m args below meth c H locs 0 0 (nQv below D A (NBw cy a) args s z) (F0 m 0 ls []) := by
  obtain ⟨hx, hb, hr, hml, hown, hts, hlocks⟩ := C0
  intro σ x1 H locs ls hl hP hS hf
  unfold b_X2_extend_0 at hf
  refine lv_iconst (v := 0) hx hb dX2_extend_0 (by decide) ?_
  refine lv_istore_n (lv' := [(2, .int 0), (0, .ref (a 20)), (1, .int x1)]) hx hb dX2_extend_1 rfl hl (by decide) rfl (fun ls hl => ?_)
  refine lv_iconst (v := 0) hx hb dX2_extend_2 (by decide) ?_
  refine lv_istore_n (lv' := [(3, .int 0), (2, .int 0), (0, .ref (a 20)), (1, .int x1)]) hx hb dX2_extend_3 rfl hl (by decide) rfl (fun ls hl => ?_)
  exact K4 σ x1 0 0 H locs ls (lv_sub hl [2, 3, 1, 0] rfl) hP hS hf
def l_X2_extend_76 (N : Nat) (k4 : nS → Int32 → Int32 → Int32 → Option (Int32 × nS)) : nS → Int32 → Int32 → Int32 → Int32 → Int32 → Option (Int32 × nS) := b_X2_extend_76 N k4
theorem kl_X2_extend_76 {p : Program} {l : Launch} {e : Env} {s : State} {m : MethodId} {args : Array Value} {below : List Frame} {meth : Method} {c : Code} {D : va_G} {A : Nat → Prop} {cy : Nat → ClassId} {a kt vt : Nat → Nat} {N : Nat}   (C0 : nCx p s m args meth c cX2_extend 5 none RX2 wsX2_extend) (hE : nEn D A cy (NBw cy a) kt vt s) {z : Int32 × nS} {k4 : nS → Int32 → Int32 → Int32 → Option (Int32 × nS)} (K4 : ∀ (σ : nS) (x1 : Int32) (x2 : Int32) (x3 : Int32) (H : Heap) (locs : List Loc) (ls : Array Slot), lv_has ls 5 [(0, .ref (a 20)), (1, .int x1), (2, .int x2), (3, .int x3)] → va_P D vwCl ((NBw cy a) σ) H → va_S A s.heap H locs → k4 σ x1 x2 x3 = some z → W p l e ({ frames := 1, cells := 0, slots := 0, locals := 21 } : Room) s m args below meth c H locs 0 0 (nQv below D A (NBw cy a) args s z) (F0 m 4 ls [])) : ∀ (σ : nS) (x1 : Int32) (x3 : Int32) (x4 : Int32) (y1 : Int32) (y2 : Int32) (H : Heap) (locs : List Loc) (ls : Array Slot), lv_has ls 5 [(0, .ref (a 20)), (1, .int x1), (3, .int x3), (4, .int x4)] → va_P D vwCl ((NBw cy a) σ) H → va_S A s.heap H locs → l_X2_extend_76 N k4 σ x1 x3 x4 y1 y2 = some z → W p l e ({ frames := 1, cells := 0, slots := 0, locals := 21 } : Room) s m args below meth c H locs 0 0 (nQv below D A (NBw cy a) args s z) (F0 m 76 ls [.int y2, .int y1, .ref (a 22)]) := by
  exact kb_X2_extend_76 (N := N)  C0 hE K4
def l_X2_extend_4 (N : Nat) : nS → Int32 → Int32 → Int32 → Option (Int32 × nS) := nLp (fun _ _ _ _ => none) (fun again => b_X2_extend_4 N (l_X2_extend_76 N again)) N
theorem kl_X2_extend_4 {p : Program} {l : Launch} {e : Env} {s : State} {m : MethodId} {args : Array Value} {below : List Frame} {meth : Method} {c : Code} {D : va_G} {A : Nat → Prop} {cy : Nat → ClassId} {a kt vt : Nat → Nat} {N : Nat}   (C0 : nCx p s m args meth c cX2_extend 5 none RX2 wsX2_extend) (hE : nEn D A cy (NBw cy a) kt vt s) {z : Int32 × nS} : ∀ (σ : nS) (x1 : Int32) (x2 : Int32) (x3 : Int32) (H : Heap) (locs : List Loc) (ls : Array Slot), lv_has ls 5 [(0, .ref (a 20)), (1, .int x1), (2, .int x2), (3, .int x3)] → va_P D vwCl ((NBw cy a) σ) H → va_S A s.heap H locs → l_X2_extend_4 N σ x1 x2 x3 = some z → W p l e ({ frames := 1, cells := 0, slots := 0, locals := 21 } : Room) s m args below meth c H locs 0 0 (nQv below D A (NBw cy a) args s z) (F0 m 4 ls []) := by
  have main : ∀ (fu : Nat), ∀ (σ : nS) (x1 : Int32) (x2 : Int32) (x3 : Int32) (H : Heap) (locs : List Loc) (ls : Array Slot), lv_has ls 5 [(0, .ref (a 20)), (1, .int x1), (2, .int x2), (3, .int x3)] → va_P D vwCl ((NBw cy a) σ) H → va_S A s.heap H locs → nLp (fun _ _ _ _ => none) (fun again => b_X2_extend_4 N (l_X2_extend_76 N again)) fu σ x1 x2 x3 = some z → W p l e ({ frames := 1, cells := 0, slots := 0, locals := 21 } : Room) s m args below meth c H locs 0 0 (nQv below D A (NBw cy a) args s z) (F0 m 4 ls []) := by
    intro fu
    induction fu with
    | zero => intro σ x1 x2 x3 H locs ls hl hP hS hf; cases hf
    | succ fu ih => exact kb_X2_extend_4 (N := N)  C0 hE (kl_X2_extend_76 (N := N)  C0 hE ih)
  exact main N
def l_X2_extend_0 (N : Nat) : nS → Int32 → Option (Int32 × nS) := b_X2_extend_0 N (l_X2_extend_4 N)
theorem kl_X2_extend_0 {p : Program} {l : Launch} {e : Env} {s : State} {m : MethodId} {args : Array Value} {below : List Frame} {meth : Method} {c : Code} {D : va_G} {A : Nat → Prop} {cy : Nat → ClassId} {a kt vt : Nat → Nat} {N : Nat}   (C0 : nCx p s m args meth c cX2_extend 5 none RX2 wsX2_extend) (hE : nEn D A cy (NBw cy a) kt vt s) {z : Int32 × nS} : ∀ (σ : nS) (x1 : Int32) (H : Heap) (locs : List Loc) (ls : Array Slot), lv_has ls 5 [(0, .ref (a 20)), (1, .int x1)] → va_P D vwCl ((NBw cy a) σ) H → va_S A s.heap H locs → l_X2_extend_0 N σ x1 = some z → W p l e ({ frames := 1, cells := 0, slots := 0, locals := 21 } : Room) s m args below meth c H locs 0 0 (nQv below D A (NBw cy a) args s z) (F0 m 0 ls []) := by
  exact kb_X2_extend_0 (N := N)  C0 hE (kl_X2_extend_4 (N := N)  C0 hE)
def f_X2_extend (N : Nat) (x1 : Int32) (σ : nS) : Option (Int32 × nS) := l_X2_extend_0 N σ x1
set_option maxHeartbeats 4000000 in
set_option maxRecDepth 100000 in
theorem c_X2_extend {l : Launch} {D : va_G} {A : Nat → Prop} {cy : Nat → ClassId} {a kt vt : Nat → Nat} {N : Nat}   {x1 : Int32} {σ : nS} {r : Int32} {σ' : nS} (hf : f_X2_extend N x1 σ = some (r, σ')) : nMv l yX2_extend wsX2_extend ({ frames := 1, cells := 0, slots := 0, locals := 21 } : Room) D A cy (NBw cy a) kt vt [.ref (a 20), .int x1] σ σ' := by
  refine Met.ofW (cc := cX2_extend) (maxL := 5) (ret := none) (by decide) rfl ?_
  intro p e s m args below meth c s₁ B hml hv
  obtain ⟨rfl, hP, hE⟩ := hv
  have hl := lv_entry ([.ref (a 20), .int x1]) (n := 5) (Nat.le_of_ble_eq_true rfl)
  rw [lg_entry_eq]
  generalize (lg_sl ([.ref (a 20), .int x1]) ++ List.replicate (5 - (lg_sl ([.ref (a 20), .int x1])).length) Slot.unset).toArray = ls at hl ⊢
  have C0 : nCx p s m _ meth c cX2_extend 5 none RX2 wsX2_extend := ⟨B.exec, B.bytes, B.returns, hml, findClass_of_methodNamed B.named, atoms_spec (ws := wsX2_extend) B.pre, B.notSynchronized⟩
  exact kl_X2_extend_0 (N := N)  C0 hE (z := (r, σ')) σ x1 _ _ ls hl hP va_S.rf hf

/-! X2_layBeside -/
set_option maxRecDepth 20000 in
theorem iX2_layBeside_X6 : ∀ w ∈ u_ws RX6 TX6 12, w ∈ wsX2_layBeside := fun _ h => List.mem_cons_of_mem _ (List.mem_append_left _ (List.mem_append_right _ h))
set_option maxRecDepth 20000 in
theorem iX2_layBeside_X2 : ∀ w ∈ u_ws RX2 TX2 5, w ∈ wsX2_layBeside := fun _ h => List.mem_cons_of_mem _ (List.mem_append_right _ h)
set_option maxRecDepth 20000 in
theorem qX2_layBeside_15 : Cond.fieldLink RX2 15 RX2 (TX2 1).2.1 (TX2 1).2.2.1 ∈ wsX2_layBeside := by decide +kernel
set_option maxRecDepth 20000 in
theorem qX2_layBeside_18 : Cond.fieldLink RX2 18 RX2 (TX2 2).2.1 (TX2 2).2.2.1 ∈ wsX2_layBeside := by decide +kernel
set_option maxRecDepth 20000 in
theorem qX2_layBeside_22 : Cond.fieldLink RX2 22 RX2 (TX2 3).2.1 (TX2 3).2.2.1 ∈ wsX2_layBeside := by decide +kernel
set_option maxRecDepth 20000 in
theorem qX2_layBeside_25 : Cond.fieldLink RX2 25 RX2 (TX2 4).2.1 (TX2 4).2.2.1 ∈ wsX2_layBeside := by decide +kernel
def b_X2_layBeside_73 (N : Nat) (σ : nS) (x2 : Int32) (y0 : Int32) : Option (Int32 × nS) := nLet (x2 - y0 : Int32) (fun v1 => nLet (wr σ 20 3 v1) (fun σ2 => nLet ((σ2.1 20 2) - y0 : Int32) (fun v3 => nLet (wr σ2 20 4 v3) (fun σ4 => some (y0, σ4)))))
set_option maxHeartbeats 4000000 in
set_option maxRecDepth 100000 in
theorem kb_X2_layBeside_73 {p : Program} {l : Launch} {e : Env} {s : State} {m : MethodId} {args : Array Value} {below : List Frame} {meth : Method} {c : Code} {D : va_G} {A : Nat → Prop} {cy : Nat → ClassId} {a kt vt : Nat → Nat} {N : Nat}   (C0 : nCx p s m args meth c cX2_layBeside 4 (some .int) RX2 wsX2_layBeside) (hE : nEn D A cy (NBw cy a) kt vt s) {z : Int32 × nS} : ∀ (σ : nS) (x2 : Int32) (y0 : Int32) (H : Heap) (locs : List Loc) (ls : Array Slot), lv_has ls 4 [(0, .ref (a 20)), (2, .int x2)] → va_P D vwCl ((NBw cy a) σ) H → va_S A s.heap H locs → b_X2_layBeside_73 N σ x2 y0 = some z → W p l e ({ frames := 2, cells := 0, slots := 0, locals := 45 } : Room) s m args below meth c H locs 0 0 (nQi below D A (NBw cy a) args s z) (F0 m 73 ls [.int y0]) := by
  obtain ⟨hx, hb, hr, hml, hown, hts, hlocks⟩ := C0
  intro σ x2 y0 H locs ls hl hP hS hf
  unfold b_X2_layBeside_73 at hf
  refine lv_istore_n (lv' := [(3, .int y0), (0, .ref (a 20)), (2, .int x2)]) hx hb dX2_layBeside_73 rfl hl (by decide) rfl (fun ls hl => ?_)
  refine lv_aload_n hx hb dX2_layBeside_74 rfl (lv_at hl 1 rfl) ?_
  refine lv_iload_n hx hb dX2_layBeside_75 rfl (lv_at hl 2 rfl) ?_
  refine lv_iload_n hx hb dX2_layBeside_76 rfl (lv_at hl 0 rfl) ?_
  refine lv_isub hx hb dX2_layBeside_77 ?_
  refine lv_topi (fun v1 ev1 => ?_)
  replace hf := nLet_e hf ev1
  refine nb_put (ci := 2) hx hb hts iX2_layBeside_X2 tyX2 tyX2_ok nmX2 hown hE hP hS 20 nbo_20 rfl 3 (by decide) qX2_layBeside_22 rfl rfl rfl rfl (Nat.le_of_ble_eq_true rfl) dX2_layBeside_78 (nbp_20_3 _) (fun σ2 eσ2 H locs hP hS => ?_)
  replace hf := nLet_e hf eσ2
  refine lv_aload_n hx hb dX2_layBeside_81 rfl (lv_at hl 1 rfl) ?_
  refine lv_aload_n hx hb dX2_layBeside_82 rfl (lv_at hl 1 rfl) ?_
  refine nb_get (ci := 2) hx hb hts iX2_layBeside_X2 hown hE hP 20 nbo_20 rfl 2 (by decide) qX2_layBeside_18 rfl rfl dX2_layBeside_83 ?_
  refine lv_iload_n hx hb dX2_layBeside_86 rfl (lv_at hl 0 rfl) ?_
  refine lv_isub hx hb dX2_layBeside_87 ?_
  refine lv_topi (fun v3 ev3 => ?_)
  replace hf := nLet_e hf ev3
  refine nb_put (ci := 2) hx hb hts iX2_layBeside_X2 tyX2 tyX2_ok nmX2 hown hE hP hS 20 nbo_20 rfl 4 (by decide) qX2_layBeside_25 rfl rfl rfl rfl (Nat.le_of_ble_eq_true rfl) dX2_layBeside_88 (nbp_20_4 _) (fun σ4 eσ4 H locs hP hS => ?_)
  replace hf := nLet_e hf eσ4
  refine lv_iload_n hx hb dX2_layBeside_91 rfl (lv_at hl 0 rfl) ?_
  exact nb_iret hx hb hr hlocks hP hS (nSo hf) dX2_layBeside_92
def b_X2_layBeside_72 (N : Nat) (k73 : nS → Int32 → Int32 → Option (Int32 × nS)) (σ : nS) (x2 : Int32) : Option (Int32 × nS) := k73 σ x2 0
set_option maxHeartbeats 4000000 in
set_option maxRecDepth 100000 in
theorem kb_X2_layBeside_72 {p : Program} {l : Launch} {e : Env} {s : State} {m : MethodId} {args : Array Value} {below : List Frame} {meth : Method} {c : Code} {D : va_G} {A : Nat → Prop} {cy : Nat → ClassId} {a kt vt : Nat → Nat} {N : Nat}   (C0 : nCx p s m args meth c cX2_layBeside 4 (some .int) RX2 wsX2_layBeside) (hE : nEn D A cy (NBw cy a) kt vt s) {z : Int32 × nS} {k73 : nS → Int32 → Int32 → Option (Int32 × nS)} (K73 : ∀ (σ : nS) (x2 : Int32) (y0 : Int32) (H : Heap) (locs : List Loc) (ls : Array Slot), lv_has ls 4 [(0, .ref (a 20)), (2, .int x2)] → va_P D vwCl ((NBw cy a) σ) H → va_S A s.heap H locs → k73 σ x2 y0 = some z → W p l e ({ frames := 2, cells := 0, slots := 0, locals := 45 } : Room) s m args below meth c H locs 0 0 (nQi below D A (NBw cy a) args s z) (F0 m 73 ls [.int y0])) : ∀ (σ : nS) (x2 : Int32) (H : Heap) (locs : List Loc) (ls : Array Slot), lv_has ls 4 [(0, .ref (a 20)), (2, .int x2)] → va_P D vwCl ((NBw cy a) σ) H → va_S A s.heap H locs → b_X2_layBeside_72 N k73 σ x2 = some z → W p l e ({ frames := 2, cells := 0, slots := 0, locals := 45 } : Room) s m args below meth c H locs 0 0 (nQi below D A (NBw cy a) args s z) (F0 m 72 ls []) := by
  obtain ⟨hx, hb, hr, hml, hown, hts, hlocks⟩ := C0
  intro σ x2 H locs ls hl hP hS hf
  unfold b_X2_layBeside_72 at hf
  refine lv_iconst (v := 0) hx hb dX2_layBeside_72 (by decide) ?_
  exact K73 σ x2 0 H locs ls (lv_sub hl [0, 1] rfl) hP hS hf
def b_X2_layBeside_21 (N : Nat) (k21 : nS → Int32 → Int32 → Option (Int32 × nS)) (k72 : nS → Int32 → Option (Int32 × nS)) (k73 : nS → Int32 → Int32 → Option (Int32 × nS)) (σ : nS) (x2 : Int32) (x3 : Int32) : Option (Int32 × nS) := (if x2 ≤ x3 then (if (σ.1 20 2) < 0 then k72 σ x2 else nLet (Int32.ofNat 201) (fun v1 => (if v1 ≤ (σ.1 20 2) then k72 σ x2 else nIx (σ.1 20 2) 201 (nLet (σ.1 22 ((σ.1 20 2)).toNatClampNeg) (fun v2 => k73 σ x2 v2))))) else nBd (f_X6_pathAt N 24 x3 σ) (fun r3 σ4 => nBd (f_X2_extend N r3 σ4) (fun r5 σ6 => nLet (x3 + 1 : Int32) (fun v7 => k21 σ6 x2 v7))))
set_option maxHeartbeats 4000000 in
set_option maxRecDepth 100000 in
theorem kb_X2_layBeside_21 {p : Program} {l : Launch} {e : Env} {s : State} {m : MethodId} {args : Array Value} {below : List Frame} {meth : Method} {c : Code} {D : va_G} {A : Nat → Prop} {cy : Nat → ClassId} {a kt vt : Nat → Nat} {N : Nat}   (C0 : nCx p s m args meth c cX2_layBeside 4 (some .int) RX2 wsX2_layBeside) (hE : nEn D A cy (NBw cy a) kt vt s) {z : Int32 × nS} {k21 : nS → Int32 → Int32 → Option (Int32 × nS)} (K21 : ∀ (σ : nS) (x2 : Int32) (x3 : Int32) (H : Heap) (locs : List Loc) (ls : Array Slot), lv_has ls 4 [(0, .ref (a 20)), (1, .ref (a 24)), (2, .int x2), (3, .int x3)] → va_P D vwCl ((NBw cy a) σ) H → va_S A s.heap H locs → k21 σ x2 x3 = some z → W p l e ({ frames := 2, cells := 0, slots := 0, locals := 45 } : Room) s m args below meth c H locs 0 0 (nQi below D A (NBw cy a) args s z) (F0 m 21 ls [])) {k72 : nS → Int32 → Option (Int32 × nS)} (K72 : ∀ (σ : nS) (x2 : Int32) (H : Heap) (locs : List Loc) (ls : Array Slot), lv_has ls 4 [(0, .ref (a 20)), (2, .int x2)] → va_P D vwCl ((NBw cy a) σ) H → va_S A s.heap H locs → k72 σ x2 = some z → W p l e ({ frames := 2, cells := 0, slots := 0, locals := 45 } : Room) s m args below meth c H locs 0 0 (nQi below D A (NBw cy a) args s z) (F0 m 72 ls [])) {k73 : nS → Int32 → Int32 → Option (Int32 × nS)} (K73 : ∀ (σ : nS) (x2 : Int32) (y0 : Int32) (H : Heap) (locs : List Loc) (ls : Array Slot), lv_has ls 4 [(0, .ref (a 20)), (2, .int x2)] → va_P D vwCl ((NBw cy a) σ) H → va_S A s.heap H locs → k73 σ x2 y0 = some z → W p l e ({ frames := 2, cells := 0, slots := 0, locals := 45 } : Room) s m args below meth c H locs 0 0 (nQi below D A (NBw cy a) args s z) (F0 m 73 ls [.int y0])) : ∀ (σ : nS) (x2 : Int32) (x3 : Int32) (H : Heap) (locs : List Loc) (ls : Array Slot), lv_has ls 4 [(0, .ref (a 20)), (1, .ref (a 24)), (2, .int x2), (3, .int x3)] → va_P D vwCl ((NBw cy a) σ) H → va_S A s.heap H locs → b_X2_layBeside_21 N k21 k72 k73 σ x2 x3 = some z → W p l e ({ frames := 2, cells := 0, slots := 0, locals := 45 } : Room) s m args below meth c H locs 0 0 (nQi below D A (NBw cy a) args s z) (F0 m 21 ls []) := by
  obtain ⟨hx, hb, hr, hml, hown, hts, hlocks⟩ := C0
  intro σ x2 x3 H locs ls hl hP hS hf
  unfold b_X2_layBeside_21 at hf
  refine lv_iload_n hx hb dX2_layBeside_21 rfl (lv_at hl 3 rfl) ?_
  refine lv_iload_n hx hb dX2_layBeside_22 rfl (lv_at hl 2 rfl) ?_
  refine lv_icmp_ge (tgt := 41) hx hb dX2_layBeside_23 (by decide) (fun hc => ?_) (fun hc => ?_)
  · replace hf := nIf_t hc hf
    refine lv_aload_n hx hb dX2_layBeside_41 rfl (lv_at hl 0 rfl) ?_
    refine nb_get (ci := 2) hx hb hts iX2_layBeside_X2 hown hE hP 20 nbo_20 rfl 2 (by decide) qX2_layBeside_18 rfl rfl dX2_layBeside_42 ?_
    refine lv_if_lt (tgt := 72) hx hb dX2_layBeside_45 (by decide) (fun hc => ?_) (fun hc => ?_)
    · replace hf := nIf_t hc hf
      exact K72 σ x2 H locs ls (lv_sub hl [0, 2] rfl) hP hS hf
    · replace hf := nIf_f hc hf
      refine lv_aload_n hx hb dX2_layBeside_48 rfl (lv_at hl 0 rfl) ?_
      refine nb_get (ci := 2) hx hb hts iX2_layBeside_X2 hown hE hP 20 nbo_20 rfl 2 (by decide) qX2_layBeside_18 rfl rfl dX2_layBeside_49 ?_
      refine lv_aload_n hx hb dX2_layBeside_52 rfl (lv_at hl 0 rfl) ?_
      refine nb_get (ci := 2) hx hb hts iX2_layBeside_X2 hown hE hP 20 nbo_20 rfl 1 (by decide) qX2_layBeside_15 rfl rfl dX2_layBeside_53 ?_
      refine na_alen hx hb hE hP nbr_22 dX2_layBeside_56 ?_
      refine lv_topi (fun v1 ev1 => ?_)
      replace hf := nLet_e hf ev1
      refine lv_icmp_ge (tgt := 72) hx hb dX2_layBeside_57 (by decide) (fun hc => ?_) (fun hc => ?_)
      · replace hf := nIf_t hc hf
        exact K72 σ x2 H locs ls (lv_sub hl [0, 2] rfl) hP hS hf
      · replace hf := nIf_f hc hf
        refine lv_aload_n hx hb dX2_layBeside_60 rfl (lv_at hl 0 rfl) ?_
        refine nb_get (ci := 2) hx hb hts iX2_layBeside_X2 hown hE hP 20 nbo_20 rfl 1 (by decide) qX2_layBeside_15 rfl rfl dX2_layBeside_61 ?_
        refine lv_aload_n hx hb dX2_layBeside_64 rfl (lv_at hl 0 rfl) ?_
        refine nb_get (ci := 2) hx hb hts iX2_layBeside_X2 hown hE hP 20 nbo_20 rfl 2 (by decide) qX2_layBeside_18 rfl rfl dX2_layBeside_65 ?_
        obtain ⟨hin, hf⟩ := nIx_e hf
        refine na_iald hx hb hE hP nbr_22 hin dX2_layBeside_68 ?_
        refine lv_topi (fun v2 ev2 => ?_)
        replace hf := nLet_e hf ev2
        refine lv_goto (tgt := 73) hx hb dX2_layBeside_69 (by decide) ?_
        exact K73 σ x2 v2 H locs ls (lv_sub hl [0, 2] rfl) hP hS hf
  · replace hf := nIf_f hc hf
    refine lv_aload_n hx hb dX2_layBeside_26 rfl (lv_at hl 0 rfl) ?_
    refine lv_aload_n hx hb dX2_layBeside_27 rfl (lv_at hl 1 rfl) ?_
    refine lv_iload_n hx hb dX2_layBeside_28 rfl (lv_at hl 3 rfl) ?_
    obtain ⟨r3, σ4, hc4, hf⟩ := nBd_e hf
    refine nb_callVi (As := [.int x3]) (rest := [.ref (a 20)]) ⟨hx, hb, hml, hown, hts⟩ (c_X6_pathAt (D := D) (A := A) (cy := cy) (a := a) (kt := kt) (vt := vt) (l := l) nWk_24 hc4) (cwV 1 hts gX2_layBeside_X6_pathAt rfl rfl rfl (by decide +kernel) ⟨Nat.le_of_ble_eq_true rfl, Nat.le_of_ble_eq_true rfl⟩) hE hP hS (nboW nWk_24) rfl rfl hl.1 rfl (Nat.le_of_ble_eq_true rfl) dX2_layBeside_29 (fun H locs hP hS => ?_)
    obtain ⟨r5, σ6, hc6, hf⟩ := nBd_e hf
    refine nb_callVv (As := [.int r3]) (rest := []) ⟨hx, hb, hml, hown, hts⟩ (c_X2_extend (D := D) (A := A) (cy := cy) (a := a) (kt := kt) (vt := vt) (l := l)  hc6) (cwV 1 hts gX2_layBeside_X2_extend rfl rfl rfl (by decide +kernel) ⟨Nat.le_of_ble_eq_true rfl, Nat.le_of_ble_eq_true rfl⟩) hE hP hS nbo_20 rfl rfl hl.1 rfl (Nat.le_of_ble_eq_true rfl) dX2_layBeside_32 (fun H locs hP hS => ?_)
    obtain ⟨v7, ev7⟩ : ∃ y : Int32, y = x3 + 1 := ⟨_, rfl⟩
    replace hf := nLet_e hf ev7
    refine lv_iinc (v := v7) (lv' := [(3, .int v7), (0, .ref (a 20)), (1, .ref (a 24)), (2, .int x2)]) hx hb dX2_layBeside_35 hl (k := 3) rfl (by rw [ev7]; rfl) (by decide) rfl (fun ls hl => ?_)
    refine lv_goto (tgt := 21) hx hb dX2_layBeside_38 (by decide) ?_
    exact K21 σ6 x2 v7 H locs ls (lv_sub hl [1, 2, 3, 0] rfl) hP hS hf
def b_X2_layBeside_0 (N : Nat) (k21 : nS → Int32 → Int32 → Option (Int32 × nS)) (σ : nS) : Option (Int32 × nS) := nLet (if (300 : Int32) < (σ.1 24 10) then (300 : Int32) else (σ.1 24 10)) (fun v1 => nBd (f_J7_fill_53178 N 22 201 0 σ) (fun r2 σ3 => k21 σ3 v1 0))
set_option maxHeartbeats 4000000 in
set_option maxRecDepth 100000 in
theorem kb_X2_layBeside_0 {p : Program} {l : Launch} {e : Env} {s : State} {m : MethodId} {args : Array Value} {below : List Frame} {meth : Method} {c : Code} {D : va_G} {A : Nat → Prop} {cy : Nat → ClassId} {a kt vt : Nat → Nat} {N : Nat}   (C0 : nCx p s m args meth c cX2_layBeside 4 (some .int) RX2 wsX2_layBeside) (hE : nEn D A cy (NBw cy a) kt vt s) {z : Int32 × nS} {k21 : nS → Int32 → Int32 → Option (Int32 × nS)} (K21 : ∀ (σ : nS) (x2 : Int32) (x3 : Int32) (H : Heap) (locs : List Loc) (ls : Array Slot), lv_has ls 4 [(0, .ref (a 20)), (1, .ref (a 24)), (2, .int x2), (3, .int x3)] → va_P D vwCl ((NBw cy a) σ) H → va_S A s.heap H locs → k21 σ x2 x3 = some z → W p l e ({ frames := 2, cells := 0, slots := 0, locals := 45 } : Room) s m args below meth c H locs 0 0 (nQi below D A (NBw cy a) args s z) (F0 m 21 ls [])) : ∀ (σ : nS) (H : Heap) (locs : List Loc) (ls : Array Slot), lv_has ls 4 [(0, .ref (a 20)), (1, .ref (a 24))] → va_P D vwCl ((NBw cy a) σ) H → va_S A s.heap H locs → b_X2_layBeside_0 N k21 σ = some z → W p l e ({ frames := 2, cells := 0, slots := 0, locals := 45 } : Room) s m args below meth c H locs 0 0 (nQi below D A (NBw cy a) args s z) (F0 m 0 ls []) := by
  obtain ⟨hx, hb, hr, hml, hown, hts, hlocks⟩ := C0
  intro σ  H locs ls hl hP hS hf
  unfold b_X2_layBeside_0 at hf
  refine lv_aload_n hx hb dX2_layBeside_0 rfl (lv_at hl 1 rfl) ?_
  refine nb_getN (ci := 6) hx hb hts iX2_layBeside_X6 hown hE hP 24 (nboW nWk_24) rfl 10 (by decide) (host := RX8) (by decide +kernel) rfl rfl dX2_layBeside_1 ?_
  refine lv_sipush (v := 300) hx hb dX2_layBeside_4 (by decide) ?_
  refine va_mmin hx hb (hml.trans hl.1.symm) hown (hts (.methodLink RX2 33 Lib.Math.min.name) (by decide +kernel)) (hts (.static Lib.Math.min.name) (by decide +kernel)) (hts (.initialized "java/lang/Math") (by decide +kernel)) (hts (.code Lib.Math.min.name Lib.Math.min.code 2 (some .int)) (by decide +kernel)) (Nat.le_of_ble_eq_true rfl) (Nat.le_of_ble_eq_true rfl) (Nat.zero_le _) (Nat.zero_le _) dX2_layBeside_7 ?_
  refine lv_topi (fun v1 ev1 => ?_)
  replace hf := nLet_e hf ev1
  refine lv_istore_n (lv' := [(2, .int v1), (0, .ref (a 20)), (1, .ref (a 24))]) hx hb dX2_layBeside_10 rfl hl (by decide) rfl (fun ls hl => ?_)
  refine lv_aload_n hx hb dX2_layBeside_11 rfl (lv_at hl 1 rfl) ?_
  refine nb_get (ci := 2) hx hb hts iX2_layBeside_X2 hown hE hP 20 nbo_20 rfl 1 (by decide) qX2_layBeside_15 rfl rfl dX2_layBeside_12 ?_
  refine lv_iconst (v := 0) hx hb dX2_layBeside_15 (by decide) ?_
  obtain ⟨r2, σ3, hc3, hf⟩ := nBd_e hf
  refine nb_callSv (As := [.ref (a 22), .int 0]) (rest := []) ⟨hx, hb, hml, hown, hts⟩ (c_J7_fill_53178 (D := D) (A := A) (cy := cy) (a := a) (kt := kt) (vt := vt) (l := l) nbr_22 hc3) (va_cwS 2 hts gX2_layBeside_J7_fill_53178 rfl rfl rfl (by decide +kernel) ⟨Nat.le_of_ble_eq_true rfl, Nat.le_of_ble_eq_true rfl⟩) hE hP hS rfl hl.1 rfl (Nat.le_of_ble_eq_true rfl) dX2_layBeside_16 (fun H locs hP hS => ?_)
  refine lv_iconst (v := 0) hx hb dX2_layBeside_19 (by decide) ?_
  refine lv_istore_n (lv' := [(3, .int 0), (2, .int v1), (0, .ref (a 20)), (1, .ref (a 24))]) hx hb dX2_layBeside_20 rfl hl (by decide) rfl (fun ls hl => ?_)
  exact K21 σ3 v1 0 H locs ls (lv_sub hl [2, 3, 1, 0] rfl) hP hS hf
def l_X2_layBeside_73 (N : Nat) : nS → Int32 → Int32 → Option (Int32 × nS) := b_X2_layBeside_73 N
theorem kl_X2_layBeside_73 {p : Program} {l : Launch} {e : Env} {s : State} {m : MethodId} {args : Array Value} {below : List Frame} {meth : Method} {c : Code} {D : va_G} {A : Nat → Prop} {cy : Nat → ClassId} {a kt vt : Nat → Nat} {N : Nat}   (C0 : nCx p s m args meth c cX2_layBeside 4 (some .int) RX2 wsX2_layBeside) (hE : nEn D A cy (NBw cy a) kt vt s) {z : Int32 × nS} : ∀ (σ : nS) (x2 : Int32) (y0 : Int32) (H : Heap) (locs : List Loc) (ls : Array Slot), lv_has ls 4 [(0, .ref (a 20)), (2, .int x2)] → va_P D vwCl ((NBw cy a) σ) H → va_S A s.heap H locs → l_X2_layBeside_73 N σ x2 y0 = some z → W p l e ({ frames := 2, cells := 0, slots := 0, locals := 45 } : Room) s m args below meth c H locs 0 0 (nQi below D A (NBw cy a) args s z) (F0 m 73 ls [.int y0]) := by
  exact kb_X2_layBeside_73 (N := N)  C0 hE
def l_X2_layBeside_72 (N : Nat) (k73 : nS → Int32 → Int32 → Option (Int32 × nS)) : nS → Int32 → Option (Int32 × nS) := b_X2_layBeside_72 N k73
theorem kl_X2_layBeside_72 {p : Program} {l : Launch} {e : Env} {s : State} {m : MethodId} {args : Array Value} {below : List Frame} {meth : Method} {c : Code} {D : va_G} {A : Nat → Prop} {cy : Nat → ClassId} {a kt vt : Nat → Nat} {N : Nat}   (C0 : nCx p s m args meth c cX2_layBeside 4 (some .int) RX2 wsX2_layBeside) (hE : nEn D A cy (NBw cy a) kt vt s) {z : Int32 × nS} {k73 : nS → Int32 → Int32 → Option (Int32 × nS)} (K73 : ∀ (σ : nS) (x2 : Int32) (y0 : Int32) (H : Heap) (locs : List Loc) (ls : Array Slot), lv_has ls 4 [(0, .ref (a 20)), (2, .int x2)] → va_P D vwCl ((NBw cy a) σ) H → va_S A s.heap H locs → k73 σ x2 y0 = some z → W p l e ({ frames := 2, cells := 0, slots := 0, locals := 45 } : Room) s m args below meth c H locs 0 0 (nQi below D A (NBw cy a) args s z) (F0 m 73 ls [.int y0])) : ∀ (σ : nS) (x2 : Int32) (H : Heap) (locs : List Loc) (ls : Array Slot), lv_has ls 4 [(0, .ref (a 20)), (2, .int x2)] → va_P D vwCl ((NBw cy a) σ) H → va_S A s.heap H locs → l_X2_layBeside_72 N k73 σ x2 = some z → W p l e ({ frames := 2, cells := 0, slots := 0, locals := 45 } : Room) s m args below meth c H locs 0 0 (nQi below D A (NBw cy a) args s z) (F0 m 72 ls []) := by
  exact kb_X2_layBeside_72 (N := N)  C0 hE K73
def l_X2_layBeside_21 (N : Nat) : nS → Int32 → Int32 → Option (Int32 × nS) := nLp (fun _ _ _ => none) (fun again => b_X2_layBeside_21 N again (l_X2_layBeside_72 N (l_X2_layBeside_73 N)) (l_X2_layBeside_73 N)) N
theorem kl_X2_layBeside_21 {p : Program} {l : Launch} {e : Env} {s : State} {m : MethodId} {args : Array Value} {below : List Frame} {meth : Method} {c : Code} {D : va_G} {A : Nat → Prop} {cy : Nat → ClassId} {a kt vt : Nat → Nat} {N : Nat}   (C0 : nCx p s m args meth c cX2_layBeside 4 (some .int) RX2 wsX2_layBeside) (hE : nEn D A cy (NBw cy a) kt vt s) {z : Int32 × nS} : ∀ (σ : nS) (x2 : Int32) (x3 : Int32) (H : Heap) (locs : List Loc) (ls : Array Slot), lv_has ls 4 [(0, .ref (a 20)), (1, .ref (a 24)), (2, .int x2), (3, .int x3)] → va_P D vwCl ((NBw cy a) σ) H → va_S A s.heap H locs → l_X2_layBeside_21 N σ x2 x3 = some z → W p l e ({ frames := 2, cells := 0, slots := 0, locals := 45 } : Room) s m args below meth c H locs 0 0 (nQi below D A (NBw cy a) args s z) (F0 m 21 ls []) := by
  have main : ∀ (fu : Nat), ∀ (σ : nS) (x2 : Int32) (x3 : Int32) (H : Heap) (locs : List Loc) (ls : Array Slot), lv_has ls 4 [(0, .ref (a 20)), (1, .ref (a 24)), (2, .int x2), (3, .int x3)] → va_P D vwCl ((NBw cy a) σ) H → va_S A s.heap H locs → nLp (fun _ _ _ => none) (fun again => b_X2_layBeside_21 N again (l_X2_layBeside_72 N (l_X2_layBeside_73 N)) (l_X2_layBeside_73 N)) fu σ x2 x3 = some z → W p l e ({ frames := 2, cells := 0, slots := 0, locals := 45 } : Room) s m args below meth c H locs 0 0 (nQi below D A (NBw cy a) args s z) (F0 m 21 ls []) := by
    intro fu
    induction fu with
    | zero => intro σ x2 x3 H locs ls hl hP hS hf; cases hf
    | succ fu ih => exact kb_X2_layBeside_21 (N := N)  C0 hE ih (kl_X2_layBeside_72 (N := N)  C0 hE (kl_X2_layBeside_73 (N := N)  C0 hE)) (kl_X2_layBeside_73 (N := N)  C0 hE)
  exact main N
def l_X2_layBeside_0 (N : Nat) : nS → Option (Int32 × nS) := b_X2_layBeside_0 N (l_X2_layBeside_21 N)
theorem kl_X2_layBeside_0 {p : Program} {l : Launch} {e : Env} {s : State} {m : MethodId} {args : Array Value} {below : List Frame} {meth : Method} {c : Code} {D : va_G} {A : Nat → Prop} {cy : Nat → ClassId} {a kt vt : Nat → Nat} {N : Nat}   (C0 : nCx p s m args meth c cX2_layBeside 4 (some .int) RX2 wsX2_layBeside) (hE : nEn D A cy (NBw cy a) kt vt s) {z : Int32 × nS} : ∀ (σ : nS) (H : Heap) (locs : List Loc) (ls : Array Slot), lv_has ls 4 [(0, .ref (a 20)), (1, .ref (a 24))] → va_P D vwCl ((NBw cy a) σ) H → va_S A s.heap H locs → l_X2_layBeside_0 N σ = some z → W p l e ({ frames := 2, cells := 0, slots := 0, locals := 45 } : Room) s m args below meth c H locs 0 0 (nQi below D A (NBw cy a) args s z) (F0 m 0 ls []) := by
  exact kb_X2_layBeside_0 (N := N)  C0 hE (kl_X2_layBeside_21 (N := N)  C0 hE)
def f_X2_layBeside (N : Nat) (σ : nS) : Option (Int32 × nS) := l_X2_layBeside_0 N σ
set_option maxHeartbeats 4000000 in
set_option maxRecDepth 100000 in
theorem c_X2_layBeside {l : Launch} {D : va_G} {A : Nat → Prop} {cy : Nat → ClassId} {a kt vt : Nat → Nat} {N : Nat}   {σ : nS} {r : Int32} {σ' : nS} (hf : f_X2_layBeside N σ = some (r, σ')) : nMi l yX2_layBeside wsX2_layBeside ({ frames := 2, cells := 0, slots := 0, locals := 45 } : Room) D A cy (NBw cy a) kt vt [.ref (a 20), .ref (a 24)] σ r σ' := by
  refine Met.ofW (cc := cX2_layBeside) (maxL := 4) (ret := (some .int)) (by decide) rfl ?_
  intro p e s m args below meth c s₁ B hml hv
  obtain ⟨rfl, hP, hE⟩ := hv
  have hl := lv_entry ([.ref (a 20), .ref (a 24)]) (n := 4) (Nat.le_of_ble_eq_true rfl)
  rw [lg_entry_eq]
  generalize (lg_sl ([.ref (a 20), .ref (a 24)]) ++ List.replicate (4 - (lg_sl ([.ref (a 20), .ref (a 24)])).length) Slot.unset).toArray = ls at hl ⊢
  have C0 : nCx p s m _ meth c cX2_layBeside 4 (some .int) RX2 wsX2_layBeside := ⟨B.exec, B.bytes, B.returns, hml, findClass_of_methodNamed B.named, atoms_spec (ws := wsX2_layBeside) B.pre, B.notSynchronized⟩
  exact kl_X2_layBeside_0 (N := N)  C0 hE (z := (r, σ')) σ  _ _ ls hl hP va_S.rf hf
