/-! X8_tryRow -/
set_option maxRecDepth 20000 in
theorem iX8_tryRow_X8 : ∀ w ∈ u_ws RX8 TX8 13, w ∈ wsX8_tryRow := fun _ h => List.mem_cons_of_mem _ (List.mem_append_left _ (List.mem_append_left _ (List.mem_append_left _ (List.mem_append_right _ h))))
set_option maxRecDepth 20000 in
theorem qX8_tryRow_39 : Cond.fieldLink RX8 39 RX8 (TX8 4).2.1 (TX8 4).2.2.1 ∈ wsX8_tryRow := by decide +kernel
set_option maxRecDepth 20000 in
theorem qX8_tryRow_12 : Cond.fieldLink RX8 12 RX8 (TX8 0).2.1 (TX8 0).2.2.1 ∈ wsX8_tryRow := by decide +kernel
set_option maxRecDepth 20000 in
theorem qX8_tryRow_26 : Cond.fieldLink RX8 26 RX8 (TX8 2).2.1 (TX8 2).2.2.1 ∈ wsX8_tryRow := by decide +kernel
set_option maxRecDepth 20000 in
theorem iX8_tryRow_X6 : ∀ w ∈ u_ws RX6 TX6 12, w ∈ wsX8_tryRow := fun _ h => List.mem_cons_of_mem _ (List.mem_append_left _ (List.mem_append_left _ (List.mem_append_right _ h)))
def b_X8_tryRow_0 (N : Nat) (σ : nS) (x1 : Int32) (x2 : Int32) : Option (Int32 × nS) := nLet (x2 &&& (255 : Int32) : Int32) (fun v1 => nLet (x2 >>> ((8 : Int32) &&& 31) : Int32) (fun v2 => nLet (v2 &&& (255 : Int32) : Int32) (fun v3 => nLet (x2 >>> ((16 : Int32) &&& 31) : Int32) (fun v4 => nLet (v4 &&& (255 : Int32) : Int32) (fun v5 => nBd (f_X6_start N 27 x1 v1 v3 v5 σ) (fun r6 σ7 => nBd (f_X3_rest N σ7) (fun r8 σ9 => nBd (f_X6_goOn N 27 5240 σ9) (fun r10 σ11 => some ((σ11.1 27 11), σ11)))))))))
set_option maxHeartbeats 4000000 in
set_option maxRecDepth 100000 in
theorem kb_X8_tryRow_0 {p : Program} {l : Launch} {e : Env} {s : State} {m : MethodId} {args : Array Value} {below : List Frame} {meth : Method} {c : Code} {D : va_G} {A : Nat → Prop} {cy : Nat → ClassId} {a kt vt : Nat → Nat} {N : Nat}   (C0 : nCx p s m args meth c cX8_tryRow 3 (some .int) RX8 wsX8_tryRow) (hE : nEn D A cy (NBw cy a) kt vt s) {z : Int32 × nS} : ∀ (σ : nS) (x1 : Int32) (x2 : Int32) (H : Heap) (locs : List Loc) (ls : Array Slot), lv_has ls 3 [(0, .ref (a 0)), (1, .int x1), (2, .int x2)] → va_P D vwCl ((NBw cy a) σ) H → va_S A s.heap H locs → b_X8_tryRow_0 N σ x1 x2 = some z → W p l e ({ frames := 3, cells := 0, slots := 0, locals := 74 } : Room) s m args below meth c H locs 0 0 (nQi below D A (NBw cy a) args s z) (F0 m 0 ls []) := by
  obtain ⟨hx, hb, hr, hml, hown, hts, hlocks⟩ := C0
  intro σ x1 x2 H locs ls hl hP hS hf
  unfold b_X8_tryRow_0 at hf
  refine lv_aload_n hx hb dX8_tryRow_0 rfl (lv_at hl 0 rfl) ?_
  refine nb_get (ci := 8) hx hb hts iX8_tryRow_X8 hown hE hP 0 nbo_0 rfl 4 (by decide) qX8_tryRow_39 rfl rfl dX8_tryRow_1 ?_
  refine lv_aload_n hx hb dX8_tryRow_4 rfl (lv_at hl 0 rfl) ?_
  refine nb_get (ci := 8) hx hb hts iX8_tryRow_X8 hown hE hP 0 nbo_0 rfl 0 (by decide) qX8_tryRow_12 rfl rfl dX8_tryRow_5 ?_
  refine lv_iload_n hx hb dX8_tryRow_8 rfl (lv_at hl 1 rfl) ?_
  refine lv_iload_n hx hb dX8_tryRow_9 rfl (lv_at hl 2 rfl) ?_
  refine lv_sipush (v := 255) hx hb dX8_tryRow_10 (by decide) ?_
  refine lv_iand hx hb dX8_tryRow_13 ?_
  refine lv_topi (fun v1 ev1 => ?_)
  replace hf := nLet_e hf ev1
  refine lv_iload_n hx hb dX8_tryRow_14 rfl (lv_at hl 2 rfl) ?_
  refine lv_bipush (v := 8) hx hb dX8_tryRow_15 (by decide) ?_
  refine lv_ishr hx hb dX8_tryRow_17 ?_
  refine lv_topi (fun v2 ev2 => ?_)
  replace hf := nLet_e hf ev2
  refine lv_sipush (v := 255) hx hb dX8_tryRow_18 (by decide) ?_
  refine lv_iand hx hb dX8_tryRow_21 ?_
  refine lv_topi (fun v3 ev3 => ?_)
  replace hf := nLet_e hf ev3
  refine lv_iload_n hx hb dX8_tryRow_22 rfl (lv_at hl 2 rfl) ?_
  refine lv_bipush (v := 16) hx hb dX8_tryRow_23 (by decide) ?_
  refine lv_ishr hx hb dX8_tryRow_25 ?_
  refine lv_topi (fun v4 ev4 => ?_)
  replace hf := nLet_e hf ev4
  refine lv_sipush (v := 255) hx hb dX8_tryRow_26 (by decide) ?_
  refine lv_iand hx hb dX8_tryRow_29 ?_
  refine lv_topi (fun v5 ev5 => ?_)
  replace hf := nLet_e hf ev5
  obtain ⟨r6, σ7, hc7, hf⟩ := nBd_e hf
  refine nb_callVv (As := [.ref (a 1), .int x1, .int v1, .int v3, .int v5]) (rest := []) ⟨hx, hb, hml, hown, hts⟩ (c_X6_start (D := D) (A := A) (cy := cy) (a := a) (kt := kt) (vt := vt) (l := l) nWk_27 hc7) (cwV 5 hts gX8_tryRow_X6_start rfl rfl rfl (by decide +kernel) ⟨Nat.le_of_ble_eq_true rfl, Nat.le_of_ble_eq_true rfl⟩) hE hP hS (nboW nWk_27) rfl rfl hl.1 rfl (Nat.le_of_ble_eq_true rfl) dX8_tryRow_30 (fun H locs hP hS => ?_)
  refine lv_aload_n hx hb dX8_tryRow_33 rfl (lv_at hl 0 rfl) ?_
  refine nb_get (ci := 8) hx hb hts iX8_tryRow_X8 hown hE hP 0 nbo_0 rfl 2 (by decide) qX8_tryRow_26 rfl rfl dX8_tryRow_34 ?_
  obtain ⟨r8, σ9, hc9, hf⟩ := nBd_e hf
  refine nb_callVv (As := []) (rest := []) ⟨hx, hb, hml, hown, hts⟩ (c_X3_rest (D := D) (A := A) (cy := cy) (a := a) (kt := kt) (vt := vt) (l := l)  hc9) (cwV 0 hts gX8_tryRow_X3_rest rfl rfl rfl (by decide +kernel) ⟨Nat.le_of_ble_eq_true rfl, Nat.le_of_ble_eq_true rfl⟩) hE hP hS nbo_10 rfl rfl hl.1 rfl (Nat.le_of_ble_eq_true rfl) dX8_tryRow_37 (fun H locs hP hS => ?_)
  refine lv_aload_n hx hb dX8_tryRow_40 rfl (lv_at hl 0 rfl) ?_
  refine nb_get (ci := 8) hx hb hts iX8_tryRow_X8 hown hE hP 0 nbo_0 rfl 4 (by decide) qX8_tryRow_39 rfl rfl dX8_tryRow_41 ?_
  refine lv_aload_n hx hb dX8_tryRow_44 rfl (lv_at hl 0 rfl) ?_
  refine nb_get (ci := 8) hx hb hts iX8_tryRow_X8 hown hE hP 0 nbo_0 rfl 0 (by decide) qX8_tryRow_12 rfl rfl dX8_tryRow_45 ?_
  refine lv_aload_n hx hb dX8_tryRow_48 rfl (lv_at hl 0 rfl) ?_
  refine nb_get (ci := 8) hx hb hts iX8_tryRow_X8 hown hE hP 0 nbo_0 rfl 2 (by decide) qX8_tryRow_26 rfl rfl dX8_tryRow_49 ?_
  refine lv_sipush (v := 5240) hx hb dX8_tryRow_52 (by decide) ?_
  obtain ⟨r10, σ11, hc11, hf⟩ := nBd_e hf
  refine nb_callVv (As := [.ref (a 1), .ref (a 10), .int 5240]) (rest := []) ⟨hx, hb, hml, hown, hts⟩ (c_X6_goOn (D := D) (A := A) (cy := cy) (a := a) (kt := kt) (vt := vt) (l := l) nWk_27 hc11) (cwV 3 hts gX8_tryRow_X6_goOn rfl rfl rfl (by decide +kernel) ⟨Nat.le_of_ble_eq_true rfl, Nat.le_of_ble_eq_true rfl⟩) hE hP hS (nboW nWk_27) rfl rfl hl.1 rfl (Nat.le_of_ble_eq_true rfl) dX8_tryRow_55 (fun H locs hP hS => ?_)
  refine lv_aload_n hx hb dX8_tryRow_58 rfl (lv_at hl 0 rfl) ?_
  refine nb_get (ci := 8) hx hb hts iX8_tryRow_X8 hown hE hP 0 nbo_0 rfl 4 (by decide) qX8_tryRow_39 rfl rfl dX8_tryRow_59 ?_
  refine nb_getN (ci := 6) hx hb hts iX8_tryRow_X6 hown hE hP 27 (nboW nWk_27) rfl 11 (by decide) (host := RX8) (by decide +kernel) rfl rfl dX8_tryRow_62 ?_
  exact nb_iret hx hb hr hlocks hP hS (nSo hf) dX8_tryRow_65
def l_X8_tryRow_0 (N : Nat) : nS → Int32 → Int32 → Option (Int32 × nS) := b_X8_tryRow_0 N
theorem kl_X8_tryRow_0 {p : Program} {l : Launch} {e : Env} {s : State} {m : MethodId} {args : Array Value} {below : List Frame} {meth : Method} {c : Code} {D : va_G} {A : Nat → Prop} {cy : Nat → ClassId} {a kt vt : Nat → Nat} {N : Nat}   (C0 : nCx p s m args meth c cX8_tryRow 3 (some .int) RX8 wsX8_tryRow) (hE : nEn D A cy (NBw cy a) kt vt s) {z : Int32 × nS} : ∀ (σ : nS) (x1 : Int32) (x2 : Int32) (H : Heap) (locs : List Loc) (ls : Array Slot), lv_has ls 3 [(0, .ref (a 0)), (1, .int x1), (2, .int x2)] → va_P D vwCl ((NBw cy a) σ) H → va_S A s.heap H locs → l_X8_tryRow_0 N σ x1 x2 = some z → W p l e ({ frames := 3, cells := 0, slots := 0, locals := 74 } : Room) s m args below meth c H locs 0 0 (nQi below D A (NBw cy a) args s z) (F0 m 0 ls []) := by
  exact kb_X8_tryRow_0 (N := N)  C0 hE
def f_X8_tryRow (N : Nat) (x1 : Int32) (x2 : Int32) (σ : nS) : Option (Int32 × nS) := l_X8_tryRow_0 N σ x1 x2
set_option maxHeartbeats 4000000 in
set_option maxRecDepth 100000 in
theorem c_X8_tryRow {l : Launch} {D : va_G} {A : Nat → Prop} {cy : Nat → ClassId} {a kt vt : Nat → Nat} {N : Nat}   {x1 : Int32} {x2 : Int32} {σ : nS} {r : Int32} {σ' : nS} (hf : f_X8_tryRow N x1 x2 σ = some (r, σ')) : nMi l yX8_tryRow wsX8_tryRow ({ frames := 3, cells := 0, slots := 0, locals := 74 } : Room) D A cy (NBw cy a) kt vt [.ref (a 0), .int x1, .int x2] σ r σ' := by
  refine Met.ofW (cc := cX8_tryRow) (maxL := 3) (ret := (some .int)) (by decide) rfl ?_
  intro p e s m args below meth c s₁ B hml hv
  obtain ⟨rfl, hP, hE⟩ := hv
  have hl := lv_entry ([.ref (a 0), .int x1, .int x2]) (n := 3) (Nat.le_of_ble_eq_true rfl)
  rw [lg_entry_eq]
  generalize (lg_sl ([.ref (a 0), .int x1, .int x2]) ++ List.replicate (3 - (lg_sl ([.ref (a 0), .int x1, .int x2])).length) Slot.unset).toArray = ls at hl ⊢
  have C0 : nCx p s m _ meth c cX8_tryRow 3 (some .int) RX8 wsX8_tryRow := ⟨B.exec, B.bytes, B.returns, hml, findClass_of_methodNamed B.named, atoms_spec (ws := wsX8_tryRow) B.pre, B.notSynchronized⟩
  exact kl_X8_tryRow_0 (N := N)  C0 hE (z := (r, σ')) σ x1 x2 _ _ ls hl hP va_S.rf hf

/-! X8_all -/
set_option maxRecDepth 20000 in
theorem iX8_all_X8 : ∀ w ∈ u_ws RX8 TX8 13, w ∈ wsX8_all := fun _ h => List.mem_cons_of_mem _ (List.mem_append_left _ (List.mem_append_left _ (List.mem_append_left _ (List.mem_append_left _ (List.mem_append_left _ (List.mem_append_right _ h))))))
set_option maxRecDepth 20000 in
theorem qX8_all_12 : Cond.fieldLink RX8 12 RX8 (TX8 0).2.1 (TX8 0).2.2.1 ∈ wsX8_all := by decide +kernel
set_option maxRecDepth 20000 in
theorem qX8_all_51 : Cond.fieldLink RX8 51 RX8 (TX8 7).2.1 (TX8 7).2.2.1 ∈ wsX8_all := by decide +kernel
set_option maxRecDepth 20000 in
theorem qX8_all_58 : Cond.fieldLink RX8 58 RX8 (TX8 8).2.1 (TX8 8).2.2.1 ∈ wsX8_all := by decide +kernel
set_option maxRecDepth 20000 in
theorem iX8_all_X5 : ∀ w ∈ u_ws RX5 TX5 11, w ∈ wsX8_all := fun _ h => List.mem_cons_of_mem _ (List.mem_append_left _ (List.mem_append_left _ (List.mem_append_left _ (List.mem_append_left _ (List.mem_append_right _ h)))))
set_option maxRecDepth 20000 in
theorem qX8_all_39 : Cond.fieldLink RX8 39 RX8 (TX8 4).2.1 (TX8 4).2.2.1 ∈ wsX8_all := by decide +kernel
set_option maxRecDepth 20000 in
theorem iX8_all_X6 : ∀ w ∈ u_ws RX6 TX6 12, w ∈ wsX8_all := fun _ h => List.mem_cons_of_mem _ (List.mem_append_left _ (List.mem_append_left _ (List.mem_append_left _ (List.mem_append_right _ h))))
def b_X8_all_101 (N : Nat) (k101 : nS → Int32 → Int32 → Int32 → Option (Int32 × nS)) (σ : nS) (x1 : Int32) (x6 : Int32) (x7 : Int32) : Option (Int32 × nS) := (if x6 ≤ x7 then nBd (f_X8_accept N (σ.1 16 5) σ) (fun r1 σ2 => some (r1, σ2)) else nBd (f_X5_rowAt N x7 σ) (fun r3 σ4 => nBd (f_X8_tryRow N x1 r3 σ4) (fun r5 σ6 => nBd (f_X5_add N x7 r5 (σ6.1 27 8) σ6) (fun r7 σ8 => nLet (x7 + 1 : Int32) (fun v9 => k101 σ8 x1 x6 v9)))))
set_option maxHeartbeats 4000000 in
set_option maxRecDepth 100000 in
theorem kb_X8_all_101 {p : Program} {l : Launch} {e : Env} {s : State} {m : MethodId} {args : Array Value} {below : List Frame} {meth : Method} {c : Code} {D : va_G} {A : Nat → Prop} {cy : Nat → ClassId} {a kt vt : Nat → Nat} {N : Nat}   (C0 : nCx p s m args meth c cX8_all 9 (some .int) RX8 wsX8_all) (hE : nEn D A cy (NBw cy a) kt vt s) {z : Int32 × nS} {k101 : nS → Int32 → Int32 → Int32 → Option (Int32 × nS)} (K101 : ∀ (σ : nS) (x1 : Int32) (x6 : Int32) (x7 : Int32) (H : Heap) (locs : List Loc) (ls : Array Slot), lv_has ls 9 [(0, .ref (a 0)), (1, .int x1), (6, .int x6), (7, .int x7)] → va_P D vwCl ((NBw cy a) σ) H → va_S A s.heap H locs → k101 σ x1 x6 x7 = some z → W p l e ({ frames := 4, cells := 0, slots := 0, locals := 96 } : Room) s m args below meth c H locs 0 0 (nQi below D A (NBw cy a) args s z) (F0 m 101 ls [])) : ∀ (σ : nS) (x1 : Int32) (x6 : Int32) (x7 : Int32) (H : Heap) (locs : List Loc) (ls : Array Slot), lv_has ls 9 [(0, .ref (a 0)), (1, .int x1), (6, .int x6), (7, .int x7)] → va_P D vwCl ((NBw cy a) σ) H → va_S A s.heap H locs → b_X8_all_101 N k101 σ x1 x6 x7 = some z → W p l e ({ frames := 4, cells := 0, slots := 0, locals := 96 } : Room) s m args below meth c H locs 0 0 (nQi below D A (NBw cy a) args s z) (F0 m 101 ls []) := by
  obtain ⟨hx, hb, hr, hml, hown, hts, hlocks⟩ := C0
  intro σ x1 x6 x7 H locs ls hl hP hS hf
  unfold b_X8_all_101 at hf
  refine lv_iload hx hb dX8_all_101 (lv_at hl 3 rfl) ?_
  refine lv_iload hx hb dX8_all_103 (lv_at hl 2 rfl) ?_
  refine lv_icmp_ge (tgt := 148) hx hb dX8_all_105 (by decide) (fun hc => ?_) (fun hc => ?_)
  · replace hf := nIf_t hc hf
    refine lv_aload_n hx hb dX8_all_148 rfl (lv_at hl 0 rfl) ?_
    refine lv_aload_n hx hb dX8_all_149 rfl (lv_at hl 0 rfl) ?_
    refine nb_get (ci := 8) hx hb hts iX8_all_X8 hown hE hP 0 nbo_0 rfl 8 (by decide) qX8_all_58 rfl rfl dX8_all_150 ?_
    refine nb_getN (ci := 5) hx hb hts iX8_all_X5 hown hE hP 16 nbo_16 rfl 5 (by decide) (host := RX8) (by decide +kernel) rfl rfl dX8_all_153 ?_
    obtain ⟨r1, σ2, hc2, hf⟩ := nBd_e hf
    refine nb_callVi (As := [.int (σ.1 16 5)]) (rest := []) ⟨hx, hb, hml, hown, hts⟩ (c_X8_accept (D := D) (A := A) (cy := cy) (a := a) (kt := kt) (vt := vt) (l := l)  hc2) (cwV 1 hts gX8_all_X8_accept rfl rfl rfl (by decide +kernel) ⟨Nat.le_of_ble_eq_true rfl, Nat.le_of_ble_eq_true rfl⟩) hE hP hS nbo_0 rfl rfl hl.1 rfl (Nat.le_of_ble_eq_true rfl) dX8_all_156 (fun H locs hP hS => ?_)
    exact nb_iret hx hb hr hlocks hP hS (nSo hf) dX8_all_159
  · replace hf := nIf_f hc hf
    refine lv_aload_n hx hb dX8_all_108 rfl (lv_at hl 0 rfl) ?_
    refine lv_iload_n hx hb dX8_all_109 rfl (lv_at hl 1 rfl) ?_
    refine lv_aload_n hx hb dX8_all_110 rfl (lv_at hl 0 rfl) ?_
    refine nb_get (ci := 8) hx hb hts iX8_all_X8 hown hE hP 0 nbo_0 rfl 8 (by decide) qX8_all_58 rfl rfl dX8_all_111 ?_
    refine lv_iload hx hb dX8_all_114 (lv_at hl 3 rfl) ?_
    obtain ⟨r3, σ4, hc4, hf⟩ := nBd_e hf
    refine nb_callVi (As := [.int x7]) (rest := [.int x1, .ref (a 0)]) ⟨hx, hb, hml, hown, hts⟩ (c_X5_rowAt (D := D) (A := A) (cy := cy) (a := a) (kt := kt) (vt := vt) (l := l)  hc4) (cwV 1 hts gX8_all_X5_rowAt rfl rfl rfl (by decide +kernel) ⟨Nat.le_of_ble_eq_true rfl, Nat.le_of_ble_eq_true rfl⟩) hE hP hS nbo_16 rfl rfl hl.1 rfl (Nat.le_of_ble_eq_true rfl) dX8_all_116 (fun H locs hP hS => ?_)
    obtain ⟨r5, σ6, hc6, hf⟩ := nBd_e hf
    refine nb_callVi (As := [.int x1, .int r3]) (rest := []) ⟨hx, hb, hml, hown, hts⟩ (c_X8_tryRow (D := D) (A := A) (cy := cy) (a := a) (kt := kt) (vt := vt) (l := l)  hc6) (cwV 2 hts gX8_all_X8_tryRow rfl rfl rfl (by decide +kernel) ⟨Nat.le_of_ble_eq_true rfl, Nat.le_of_ble_eq_true rfl⟩) hE hP hS nbo_0 rfl rfl hl.1 rfl (Nat.le_of_ble_eq_true rfl) dX8_all_119 (fun H locs hP hS => ?_)
    refine lv_istore (lv' := [(8, .int r5), (0, .ref (a 0)), (1, .int x1), (6, .int x6), (7, .int x7)]) hx hb dX8_all_122 hl (by decide) rfl (fun ls hl => ?_)
    refine lv_aload_n hx hb dX8_all_124 rfl (lv_at hl 1 rfl) ?_
    refine nb_get (ci := 8) hx hb hts iX8_all_X8 hown hE hP 0 nbo_0 rfl 8 (by decide) qX8_all_58 rfl rfl dX8_all_125 ?_
    refine lv_iload hx hb dX8_all_128 (lv_at hl 4 rfl) ?_
    refine lv_iload hx hb dX8_all_130 (lv_at hl 0 rfl) ?_
    refine lv_aload_n hx hb dX8_all_132 rfl (lv_at hl 1 rfl) ?_
    refine nb_get (ci := 8) hx hb hts iX8_all_X8 hown hE hP 0 nbo_0 rfl 4 (by decide) qX8_all_39 rfl rfl dX8_all_133 ?_
    refine nb_getN (ci := 6) hx hb hts iX8_all_X6 hown hE hP 27 (nboW nWk_27) rfl 8 (by decide) (host := RX8) (by decide +kernel) rfl rfl dX8_all_136 ?_
    obtain ⟨r7, σ8, hc8, hf⟩ := nBd_e hf
    refine nb_callVv (As := [.int x7, .int r5, .int (σ6.1 27 8)]) (rest := []) ⟨hx, hb, hml, hown, hts⟩ (c_X5_add (D := D) (A := A) (cy := cy) (a := a) (kt := kt) (vt := vt) (l := l)  hc8) (cwV 3 hts gX8_all_X5_add rfl rfl rfl (by decide +kernel) ⟨Nat.le_of_ble_eq_true rfl, Nat.le_of_ble_eq_true rfl⟩) hE hP hS nbo_16 rfl rfl hl.1 rfl (Nat.le_of_ble_eq_true rfl) dX8_all_139 (fun H locs hP hS => ?_)
    obtain ⟨v9, ev9⟩ : ∃ y : Int32, y = x7 + 1 := ⟨_, rfl⟩
    replace hf := nLet_e hf ev9
    refine lv_iinc (v := v9) (lv' := [(7, .int v9), (8, .int r5), (0, .ref (a 0)), (1, .int x1), (6, .int x6)]) hx hb dX8_all_142 hl (k := 4) rfl (by rw [ev9]; rfl) (by decide) rfl (fun ls hl => ?_)
    refine lv_goto (tgt := 101) hx hb dX8_all_145 (by decide) ?_
    exact K101 σ8 x1 x6 v9 H locs ls (lv_sub hl [2, 3, 4, 0] rfl) hP hS hf
def b_X8_all_0 (N : Nat) (k101 : nS → Int32 → Int32 → Int32 → Option (Int32 × nS)) (σ : nS) (x1 : Int32) (x2 : Int32) (x3 : Int32) (x4 : Int32) (x5 : Int32) : Option (Int32 × nS) := nBd (f_X7_hasBook N x1 σ) (fun r1 σ2 => (if r1 = 0 then nBd (f_X8_refuse N 1 σ2) (fun r19 σ20 => some (r19, σ20)) else nBd (f_X8_areBits N x2 σ2) (fun r3 σ4 => (if r3 = 0 then nBd (f_X8_refuse N 2 σ4) (fun r5 σ6 => some (r5, σ6)) else nBd (f_X8_areMosts N x3 x4 x5 σ4) (fun r7 σ8 => (if r7 = 0 then nBd (f_X8_refuse N 2 σ8) (fun r17 σ18 => some (r17, σ18)) else nBd (f_X0_prepare N x2 x3 x4 x5 σ8) (fun r9 σ10 => (if r9 ≤ 500 then nBd (f_X0_writeTo N 17 500 σ10) (fun r11 σ12 => nBd (f_X5_start N x1 r9 σ12) (fun r13 σ14 => k101 σ14 x1 r9 0)) else nBd (f_X8_refuse N 3 σ10) (fun r15 σ16 => some (r15, σ16))))))))))
set_option maxHeartbeats 4000000 in
set_option maxRecDepth 100000 in
theorem kb_X8_all_0 {p : Program} {l : Launch} {e : Env} {s : State} {m : MethodId} {args : Array Value} {below : List Frame} {meth : Method} {c : Code} {D : va_G} {A : Nat → Prop} {cy : Nat → ClassId} {a kt vt : Nat → Nat} {N : Nat}   (C0 : nCx p s m args meth c cX8_all 9 (some .int) RX8 wsX8_all) (hE : nEn D A cy (NBw cy a) kt vt s) {z : Int32 × nS} {k101 : nS → Int32 → Int32 → Int32 → Option (Int32 × nS)} (K101 : ∀ (σ : nS) (x1 : Int32) (x6 : Int32) (x7 : Int32) (H : Heap) (locs : List Loc) (ls : Array Slot), lv_has ls 9 [(0, .ref (a 0)), (1, .int x1), (6, .int x6), (7, .int x7)] → va_P D vwCl ((NBw cy a) σ) H → va_S A s.heap H locs → k101 σ x1 x6 x7 = some z → W p l e ({ frames := 4, cells := 0, slots := 0, locals := 96 } : Room) s m args below meth c H locs 0 0 (nQi below D A (NBw cy a) args s z) (F0 m 101 ls [])) : ∀ (σ : nS) (x1 : Int32) (x2 : Int32) (x3 : Int32) (x4 : Int32) (x5 : Int32) (H : Heap) (locs : List Loc) (ls : Array Slot), lv_has ls 9 [(0, .ref (a 0)), (1, .int x1), (2, .int x2), (3, .int x3), (4, .int x4), (5, .int x5)] → va_P D vwCl ((NBw cy a) σ) H → va_S A s.heap H locs → b_X8_all_0 N k101 σ x1 x2 x3 x4 x5 = some z → W p l e ({ frames := 4, cells := 0, slots := 0, locals := 96 } : Room) s m args below meth c H locs 0 0 (nQi below D A (NBw cy a) args s z) (F0 m 0 ls []) := by
  obtain ⟨hx, hb, hr, hml, hown, hts, hlocks⟩ := C0
  intro σ x1 x2 x3 x4 x5 H locs ls hl hP hS hf
  unfold b_X8_all_0 at hf
  refine lv_aload_n hx hb dX8_all_0 rfl (lv_at hl 0 rfl) ?_
  refine nb_get (ci := 8) hx hb hts iX8_all_X8 hown hE hP 0 nbo_0 rfl 0 (by decide) qX8_all_12 rfl rfl dX8_all_1 ?_
  refine lv_iload_n hx hb dX8_all_4 rfl (lv_at hl 1 rfl) ?_
  obtain ⟨r1, σ2, hc2, hf⟩ := nBd_e hf
  refine nb_callVi (As := [.int x1]) (rest := []) ⟨hx, hb, hml, hown, hts⟩ (c_X7_hasBook (D := D) (A := A) (cy := cy) (a := a) (kt := kt) (vt := vt) (l := l)  hc2) (cwV 1 hts gX8_all_X7_hasBook rfl rfl rfl (by decide +kernel) ⟨Nat.le_of_ble_eq_true rfl, Nat.le_of_ble_eq_true rfl⟩) hE hP hS nbo_1 rfl rfl hl.1 rfl (Nat.le_of_ble_eq_true rfl) dX8_all_5 (fun H locs hP hS => ?_)
  refine lv_if_ne (tgt := 17) hx hb dX8_all_8 (by decide) (fun hc => ?_) (fun hc => ?_)
  · replace hf := nIf_f hc hf
    refine lv_iload_n hx hb dX8_all_17 rfl (lv_at hl 2 rfl) ?_
    obtain ⟨r3, σ4, hc4, hf⟩ := nBd_e hf
    refine nb_callSi (As := [.int x2]) (rest := []) ⟨hx, hb, hml, hown, hts⟩ (c_X8_areBits (D := D) (A := A) (cy := cy) (a := a) (kt := kt) (vt := vt) (l := l)  hc4) (va_cwS 1 hts gX8_all_X8_areBits rfl rfl rfl (by decide +kernel) ⟨Nat.le_of_ble_eq_true rfl, Nat.le_of_ble_eq_true rfl⟩) hE hP hS rfl hl.1 rfl (Nat.le_of_ble_eq_true rfl) dX8_all_18 (fun H locs hP hS => ?_)
    refine lv_if_eq (tgt := 35) hx hb dX8_all_21 (by decide) (fun hc => ?_) (fun hc => ?_)
    · replace hf := nIf_t hc hf
      refine lv_aload_n hx hb dX8_all_35 rfl (lv_at hl 0 rfl) ?_
      refine lv_iconst (v := 2) hx hb dX8_all_36 (by decide) ?_
      obtain ⟨r5, σ6, hc6, hf⟩ := nBd_e hf
      refine nb_callVi (As := [.int 2]) (rest := []) ⟨hx, hb, hml, hown, hts⟩ (c_X8_refuse (D := D) (A := A) (cy := cy) (a := a) (kt := kt) (vt := vt) (l := l)  hc6) (cwV 1 hts gX8_all_X8_refuse rfl rfl rfl (by decide +kernel) ⟨Nat.le_of_ble_eq_true rfl, Nat.le_of_ble_eq_true rfl⟩) hE hP hS nbo_0 rfl rfl hl.1 rfl (Nat.le_of_ble_eq_true rfl) dX8_all_37 (fun H locs hP hS => ?_)
      exact nb_iret hx hb hr hlocks hP hS (nSo hf) dX8_all_40
    · replace hf := nIf_f hc hf
      refine lv_iload_n hx hb dX8_all_24 rfl (lv_at hl 3 rfl) ?_
      refine lv_iload hx hb dX8_all_25 (lv_at hl 4 rfl) ?_
      refine lv_iload hx hb dX8_all_27 (lv_at hl 5 rfl) ?_
      obtain ⟨r7, σ8, hc8, hf⟩ := nBd_e hf
      refine nb_callSi (As := [.int x3, .int x4, .int x5]) (rest := []) ⟨hx, hb, hml, hown, hts⟩ (c_X8_areMosts (D := D) (A := A) (cy := cy) (a := a) (kt := kt) (vt := vt) (l := l)  hc8) (va_cwS 3 hts gX8_all_X8_areMosts rfl rfl rfl (by decide +kernel) ⟨Nat.le_of_ble_eq_true rfl, Nat.le_of_ble_eq_true rfl⟩) hE hP hS rfl hl.1 rfl (Nat.le_of_ble_eq_true rfl) dX8_all_29 (fun H locs hP hS => ?_)
      refine lv_if_ne (tgt := 41) hx hb dX8_all_32 (by decide) (fun hc => ?_) (fun hc => ?_)
      · replace hf := nIf_f hc hf
        refine lv_aload_n hx hb dX8_all_41 rfl (lv_at hl 0 rfl) ?_
        refine nb_get (ci := 8) hx hb hts iX8_all_X8 hown hE hP 0 nbo_0 rfl 7 (by decide) qX8_all_51 rfl rfl dX8_all_42 ?_
        refine lv_aload_n hx hb dX8_all_45 rfl (lv_at hl 0 rfl) ?_
        refine nb_get (ci := 8) hx hb hts iX8_all_X8 hown hE hP 0 nbo_0 rfl 0 (by decide) qX8_all_12 rfl rfl dX8_all_46 ?_
        refine lv_iload_n hx hb dX8_all_49 rfl (lv_at hl 2 rfl) ?_
        refine lv_iload_n hx hb dX8_all_50 rfl (lv_at hl 3 rfl) ?_
        refine lv_iload hx hb dX8_all_51 (lv_at hl 4 rfl) ?_
        refine lv_iload hx hb dX8_all_53 (lv_at hl 5 rfl) ?_
        obtain ⟨r9, σ10, hc10, hf⟩ := nBd_e hf
        refine nb_callVi (As := [.ref (a 1), .int x2, .int x3, .int x4, .int x5]) (rest := []) ⟨hx, hb, hml, hown, hts⟩ (c_X0_prepare (D := D) (A := A) (cy := cy) (a := a) (kt := kt) (vt := vt) (l := l)  hc10) (cwV 5 hts gX8_all_X0_prepare rfl rfl rfl (by decide +kernel) ⟨Nat.le_of_ble_eq_true rfl, Nat.le_of_ble_eq_true rfl⟩) hE hP hS nbo_12 rfl rfl hl.1 rfl (Nat.le_of_ble_eq_true rfl) dX8_all_55 (fun H locs hP hS => ?_)
        refine lv_istore (lv' := [(6, .int r9), (0, .ref (a 0)), (1, .int x1), (2, .int x2), (3, .int x3), (4, .int x4), (5, .int x5)]) hx hb dX8_all_58 hl (by decide) rfl (fun ls hl => ?_)
        refine lv_iload hx hb dX8_all_60 (lv_at hl 0 rfl) ?_
        refine lv_sipush (v := 500) hx hb dX8_all_62 (by decide) ?_
        refine lv_icmp_le (tgt := 74) hx hb dX8_all_65 (by decide) (fun hc => ?_) (fun hc => ?_)
        · replace hf := nIf_t hc hf
          refine lv_aload_n hx hb dX8_all_74 rfl (lv_at hl 1 rfl) ?_
          refine nb_get (ci := 8) hx hb hts iX8_all_X8 hown hE hP 0 nbo_0 rfl 7 (by decide) qX8_all_51 rfl rfl dX8_all_75 ?_
          refine lv_aload_n hx hb dX8_all_78 rfl (lv_at hl 1 rfl) ?_
          refine nb_get (ci := 8) hx hb hts iX8_all_X8 hown hE hP 0 nbo_0 rfl 8 (by decide) qX8_all_58 rfl rfl dX8_all_79 ?_
          refine nb_getN (ci := 5) hx hb hts iX8_all_X5 hown hE hP 16 nbo_16 rfl 0 (by decide) (host := RX8) (by decide +kernel) rfl rfl dX8_all_82 ?_
          obtain ⟨r11, σ12, hc12, hf⟩ := nBd_e hf
          refine nb_callVv (As := [.ref (a 17)]) (rest := []) ⟨hx, hb, hml, hown, hts⟩ (c_X0_writeTo (D := D) (A := A) (cy := cy) (a := a) (kt := kt) (vt := vt) (l := l) nbr_17 hc12) (cwV 1 hts gX8_all_X0_writeTo rfl rfl rfl (by decide +kernel) ⟨Nat.le_of_ble_eq_true rfl, Nat.le_of_ble_eq_true rfl⟩) hE hP hS nbo_12 rfl rfl hl.1 rfl (Nat.le_of_ble_eq_true rfl) dX8_all_85 (fun H locs hP hS => ?_)
          refine lv_aload_n hx hb dX8_all_88 rfl (lv_at hl 1 rfl) ?_
          refine nb_get (ci := 8) hx hb hts iX8_all_X8 hown hE hP 0 nbo_0 rfl 8 (by decide) qX8_all_58 rfl rfl dX8_all_89 ?_
          refine lv_iload_n hx hb dX8_all_92 rfl (lv_at hl 2 rfl) ?_
          refine lv_iload hx hb dX8_all_93 (lv_at hl 0 rfl) ?_
          obtain ⟨r13, σ14, hc14, hf⟩ := nBd_e hf
          refine nb_callVv (As := [.int x1, .int r9]) (rest := []) ⟨hx, hb, hml, hown, hts⟩ (c_X5_start (D := D) (A := A) (cy := cy) (a := a) (kt := kt) (vt := vt) (l := l)  hc14) (cwV 2 hts gX8_all_X5_start rfl rfl rfl (by decide +kernel) ⟨Nat.le_of_ble_eq_true rfl, Nat.le_of_ble_eq_true rfl⟩) hE hP hS nbo_16 rfl rfl hl.1 rfl (Nat.le_of_ble_eq_true rfl) dX8_all_95 (fun H locs hP hS => ?_)
          refine lv_iconst (v := 0) hx hb dX8_all_98 (by decide) ?_
          refine lv_istore (lv' := [(7, .int 0), (6, .int r9), (0, .ref (a 0)), (1, .int x1), (2, .int x2), (3, .int x3), (4, .int x4), (5, .int x5)]) hx hb dX8_all_99 hl (by decide) rfl (fun ls hl => ?_)
          exact K101 σ14 x1 r9 0 H locs ls (lv_sub hl [2, 3, 1, 0] rfl) hP hS hf
        · replace hf := nIf_f hc hf
          refine lv_aload_n hx hb dX8_all_68 rfl (lv_at hl 1 rfl) ?_
          refine lv_iconst (v := 3) hx hb dX8_all_69 (by decide) ?_
          obtain ⟨r15, σ16, hc16, hf⟩ := nBd_e hf
          refine nb_callVi (As := [.int 3]) (rest := []) ⟨hx, hb, hml, hown, hts⟩ (c_X8_refuse (D := D) (A := A) (cy := cy) (a := a) (kt := kt) (vt := vt) (l := l)  hc16) (cwV 1 hts gX8_all_X8_refuse rfl rfl rfl (by decide +kernel) ⟨Nat.le_of_ble_eq_true rfl, Nat.le_of_ble_eq_true rfl⟩) hE hP hS nbo_0 rfl rfl hl.1 rfl (Nat.le_of_ble_eq_true rfl) dX8_all_70 (fun H locs hP hS => ?_)
          exact nb_iret hx hb hr hlocks hP hS (nSo hf) dX8_all_73
      · replace hf := nIf_t hc hf
        refine lv_aload_n hx hb dX8_all_35 rfl (lv_at hl 0 rfl) ?_
        refine lv_iconst (v := 2) hx hb dX8_all_36 (by decide) ?_
        obtain ⟨r17, σ18, hc18, hf⟩ := nBd_e hf
        refine nb_callVi (As := [.int 2]) (rest := []) ⟨hx, hb, hml, hown, hts⟩ (c_X8_refuse (D := D) (A := A) (cy := cy) (a := a) (kt := kt) (vt := vt) (l := l)  hc18) (cwV 1 hts gX8_all_X8_refuse rfl rfl rfl (by decide +kernel) ⟨Nat.le_of_ble_eq_true rfl, Nat.le_of_ble_eq_true rfl⟩) hE hP hS nbo_0 rfl rfl hl.1 rfl (Nat.le_of_ble_eq_true rfl) dX8_all_37 (fun H locs hP hS => ?_)
        exact nb_iret hx hb hr hlocks hP hS (nSo hf) dX8_all_40
  · replace hf := nIf_t hc hf
    refine lv_aload_n hx hb dX8_all_11 rfl (lv_at hl 0 rfl) ?_
    refine lv_iconst (v := 1) hx hb dX8_all_12 (by decide) ?_
    obtain ⟨r19, σ20, hc20, hf⟩ := nBd_e hf
    refine nb_callVi (As := [.int 1]) (rest := []) ⟨hx, hb, hml, hown, hts⟩ (c_X8_refuse (D := D) (A := A) (cy := cy) (a := a) (kt := kt) (vt := vt) (l := l)  hc20) (cwV 1 hts gX8_all_X8_refuse rfl rfl rfl (by decide +kernel) ⟨Nat.le_of_ble_eq_true rfl, Nat.le_of_ble_eq_true rfl⟩) hE hP hS nbo_0 rfl rfl hl.1 rfl (Nat.le_of_ble_eq_true rfl) dX8_all_13 (fun H locs hP hS => ?_)
    exact nb_iret hx hb hr hlocks hP hS (nSo hf) dX8_all_16
def l_X8_all_101 (N : Nat) : nS → Int32 → Int32 → Int32 → Option (Int32 × nS) := nLp (fun _ _ _ _ => none) (fun again => b_X8_all_101 N again) N
theorem kl_X8_all_101 {p : Program} {l : Launch} {e : Env} {s : State} {m : MethodId} {args : Array Value} {below : List Frame} {meth : Method} {c : Code} {D : va_G} {A : Nat → Prop} {cy : Nat → ClassId} {a kt vt : Nat → Nat} {N : Nat}   (C0 : nCx p s m args meth c cX8_all 9 (some .int) RX8 wsX8_all) (hE : nEn D A cy (NBw cy a) kt vt s) {z : Int32 × nS} : ∀ (σ : nS) (x1 : Int32) (x6 : Int32) (x7 : Int32) (H : Heap) (locs : List Loc) (ls : Array Slot), lv_has ls 9 [(0, .ref (a 0)), (1, .int x1), (6, .int x6), (7, .int x7)] → va_P D vwCl ((NBw cy a) σ) H → va_S A s.heap H locs → l_X8_all_101 N σ x1 x6 x7 = some z → W p l e ({ frames := 4, cells := 0, slots := 0, locals := 96 } : Room) s m args below meth c H locs 0 0 (nQi below D A (NBw cy a) args s z) (F0 m 101 ls []) := by
  have main : ∀ (fu : Nat), ∀ (σ : nS) (x1 : Int32) (x6 : Int32) (x7 : Int32) (H : Heap) (locs : List Loc) (ls : Array Slot), lv_has ls 9 [(0, .ref (a 0)), (1, .int x1), (6, .int x6), (7, .int x7)] → va_P D vwCl ((NBw cy a) σ) H → va_S A s.heap H locs → nLp (fun _ _ _ _ => none) (fun again => b_X8_all_101 N again) fu σ x1 x6 x7 = some z → W p l e ({ frames := 4, cells := 0, slots := 0, locals := 96 } : Room) s m args below meth c H locs 0 0 (nQi below D A (NBw cy a) args s z) (F0 m 101 ls []) := by
    intro fu
    induction fu with
    | zero => intro σ x1 x6 x7 H locs ls hl hP hS hf; cases hf
    | succ fu ih => exact kb_X8_all_101 (N := N)  C0 hE ih
  exact main N
def l_X8_all_0 (N : Nat) : nS → Int32 → Int32 → Int32 → Int32 → Int32 → Option (Int32 × nS) := b_X8_all_0 N (l_X8_all_101 N)
theorem kl_X8_all_0 {p : Program} {l : Launch} {e : Env} {s : State} {m : MethodId} {args : Array Value} {below : List Frame} {meth : Method} {c : Code} {D : va_G} {A : Nat → Prop} {cy : Nat → ClassId} {a kt vt : Nat → Nat} {N : Nat}   (C0 : nCx p s m args meth c cX8_all 9 (some .int) RX8 wsX8_all) (hE : nEn D A cy (NBw cy a) kt vt s) {z : Int32 × nS} : ∀ (σ : nS) (x1 : Int32) (x2 : Int32) (x3 : Int32) (x4 : Int32) (x5 : Int32) (H : Heap) (locs : List Loc) (ls : Array Slot), lv_has ls 9 [(0, .ref (a 0)), (1, .int x1), (2, .int x2), (3, .int x3), (4, .int x4), (5, .int x5)] → va_P D vwCl ((NBw cy a) σ) H → va_S A s.heap H locs → l_X8_all_0 N σ x1 x2 x3 x4 x5 = some z → W p l e ({ frames := 4, cells := 0, slots := 0, locals := 96 } : Room) s m args below meth c H locs 0 0 (nQi below D A (NBw cy a) args s z) (F0 m 0 ls []) := by
  exact kb_X8_all_0 (N := N)  C0 hE (kl_X8_all_101 (N := N)  C0 hE)
def f_X8_all (N : Nat) (x1 : Int32) (x2 : Int32) (x3 : Int32) (x4 : Int32) (x5 : Int32) (σ : nS) : Option (Int32 × nS) := l_X8_all_0 N σ x1 x2 x3 x4 x5
set_option maxHeartbeats 4000000 in
set_option maxRecDepth 100000 in
theorem c_X8_all {l : Launch} {D : va_G} {A : Nat → Prop} {cy : Nat → ClassId} {a kt vt : Nat → Nat} {N : Nat}   {x1 : Int32} {x2 : Int32} {x3 : Int32} {x4 : Int32} {x5 : Int32} {σ : nS} {r : Int32} {σ' : nS} (hf : f_X8_all N x1 x2 x3 x4 x5 σ = some (r, σ')) : nMi l yX8_all wsX8_all ({ frames := 4, cells := 0, slots := 0, locals := 96 } : Room) D A cy (NBw cy a) kt vt [.ref (a 0), .int x1, .int x2, .int x3, .int x4, .int x5] σ r σ' := by
  refine Met.ofW (cc := cX8_all) (maxL := 9) (ret := (some .int)) (by decide) rfl ?_
  intro p e s m args below meth c s₁ B hml hv
  obtain ⟨rfl, hP, hE⟩ := hv
  have hl := lv_entry ([.ref (a 0), .int x1, .int x2, .int x3, .int x4, .int x5]) (n := 9) (Nat.le_of_ble_eq_true rfl)
  rw [lg_entry_eq]
  generalize (lg_sl ([.ref (a 0), .int x1, .int x2, .int x3, .int x4, .int x5]) ++ List.replicate (9 - (lg_sl ([.ref (a 0), .int x1, .int x2, .int x3, .int x4, .int x5])).length) Slot.unset).toArray = ls at hl ⊢
  have C0 : nCx p s m _ meth c cX8_all 9 (some .int) RX8 wsX8_all := ⟨B.exec, B.bytes, B.returns, hml, findClass_of_methodNamed B.named, atoms_spec (ws := wsX8_all) B.pre, B.notSynchronized⟩
  exact kl_X8_all_0 (N := N)  C0 hE (z := (r, σ')) σ x1 x2 x3 x4 x5 _ _ ls hl hP va_S.rf hf

/-! X8_countMends -/
set_option maxRecDepth 20000 in
theorem iX8_countMends_X8 : ∀ w ∈ u_ws RX8 TX8 13, w ∈ wsX8_countMends := fun _ h => List.mem_cons_of_mem _ (List.mem_append_left _ (List.mem_append_right _ h))
set_option maxRecDepth 20000 in
theorem qX8_countMends_12 : Cond.fieldLink RX8 12 RX8 (TX8 0).2.1 (TX8 0).2.2.1 ∈ wsX8_countMends := by decide +kernel
set_option maxRecDepth 20000 in
theorem iX8_countMends_X7 : ∀ w ∈ u_ws RX7 TX7 9, w ∈ wsX8_countMends := fun _ h => List.mem_cons_of_mem _ (List.mem_append_right _ h)
def b_X8_countMends_55 (N : Nat) (k14 : nS → Int32 → Int32 → Int32 → Int32 → Option (Int32 × nS)) (σ : nS) (x1 : Int32) (x2 : Int32) (x4 : Int32) (y0 : Int32) (y1 : Int32) : Option (Int32 × nS) := nLet (y0 + y1 : Int32) (fun v1 => nLet (x4 + 1 : Int32) (fun v2 => k14 σ x1 x2 v1 v2))
set_option maxHeartbeats 4000000 in
set_option maxRecDepth 100000 in
theorem kb_X8_countMends_55 {p : Program} {l : Launch} {e : Env} {s : State} {m : MethodId} {args : Array Value} {below : List Frame} {meth : Method} {c : Code} {D : va_G} {A : Nat → Prop} {cy : Nat → ClassId} {a kt vt : Nat → Nat} {N : Nat}   (C0 : nCx p s m args meth c cX8_countMends 6 (some .int) RX8 wsX8_countMends) (hE : nEn D A cy (NBw cy a) kt vt s) {z : Int32 × nS} {k14 : nS → Int32 → Int32 → Int32 → Int32 → Option (Int32 × nS)} (K14 : ∀ (σ : nS) (x1 : Int32) (x2 : Int32) (x3 : Int32) (x4 : Int32) (H : Heap) (locs : List Loc) (ls : Array Slot), lv_has ls 6 [(0, .ref (a 0)), (1, .int x1), (2, .int x2), (3, .int x3), (4, .int x4)] → va_P D vwCl ((NBw cy a) σ) H → va_S A s.heap H locs → k14 σ x1 x2 x3 x4 = some z → W p l e ({ frames := 1, cells := 0, slots := 0, locals := 24 } : Room) s m args below meth c H locs 0 0 (nQi below D A (NBw cy a) args s z) (F0 m 14 ls [])) : ∀ (σ : nS) (x1 : Int32) (x2 : Int32) (x4 : Int32) (y0 : Int32) (y1 : Int32) (H : Heap) (locs : List Loc) (ls : Array Slot), lv_has ls 6 [(0, .ref (a 0)), (1, .int x1), (2, .int x2), (4, .int x4)] → va_P D vwCl ((NBw cy a) σ) H → va_S A s.heap H locs → b_X8_countMends_55 N k14 σ x1 x2 x4 y0 y1 = some z → W p l e ({ frames := 1, cells := 0, slots := 0, locals := 24 } : Room) s m args below meth c H locs 0 0 (nQi below D A (NBw cy a) args s z) (F0 m 55 ls [.int y1, .int y0]) := by
  obtain ⟨hx, hb, hr, hml, hown, hts, hlocks⟩ := C0
  intro σ x1 x2 x4 y0 y1 H locs ls hl hP hS hf
  unfold b_X8_countMends_55 at hf
  refine lv_iadd hx hb dX8_countMends_55 ?_
  refine lv_topi (fun v1 ev1 => ?_)
  replace hf := nLet_e hf ev1
  refine lv_istore_n (lv' := [(3, .int v1), (0, .ref (a 0)), (1, .int x1), (2, .int x2), (4, .int x4)]) hx hb dX8_countMends_56 rfl hl (by decide) rfl (fun ls hl => ?_)
  obtain ⟨v2, ev2⟩ : ∃ y : Int32, y = x4 + 1 := ⟨_, rfl⟩
  replace hf := nLet_e hf ev2
  refine lv_iinc (v := v2) (lv' := [(4, .int v2), (3, .int v1), (0, .ref (a 0)), (1, .int x1), (2, .int x2)]) hx hb dX8_countMends_57 hl (k := 4) rfl (by rw [ev2]; rfl) (by decide) rfl (fun ls hl => ?_)
  refine lv_goto (tgt := 14) hx hb dX8_countMends_60 (by decide) ?_
  exact K14 σ x1 x2 v1 v2 H locs ls (lv_sub hl [2, 3, 4, 1, 0] rfl) hP hS hf
def b_X8_countMends_73 (N : Nat) (k73 : nS → Int32 → Int32 → Option (Int32 × nS)) (σ : nS) (x4 : Int32) (x5 : Int32) : Option (Int32 × nS) := (if (σ.1 1 2) ≤ x5 then some (x4, σ) else nBd (f_X7_skillsOf N x5 σ) (fun r1 σ2 => nBd (f_J6_bitCount_0f7a4 N r1 σ2) (fun r3 σ4 => nLet ((8 : Int32) - r3 : Int32) (fun v5 => nLet (x4 + v5 : Int32) (fun v6 => nLet (x5 + 1 : Int32) (fun v7 => k73 σ4 v6 v7))))))
set_option maxHeartbeats 4000000 in
set_option maxRecDepth 100000 in
theorem kb_X8_countMends_73 {p : Program} {l : Launch} {e : Env} {s : State} {m : MethodId} {args : Array Value} {below : List Frame} {meth : Method} {c : Code} {D : va_G} {A : Nat → Prop} {cy : Nat → ClassId} {a kt vt : Nat → Nat} {N : Nat}   (C0 : nCx p s m args meth c cX8_countMends 6 (some .int) RX8 wsX8_countMends) (hE : nEn D A cy (NBw cy a) kt vt s) {z : Int32 × nS} {k73 : nS → Int32 → Int32 → Option (Int32 × nS)} (K73 : ∀ (σ : nS) (x4 : Int32) (x5 : Int32) (H : Heap) (locs : List Loc) (ls : Array Slot), lv_has ls 6 [(0, .ref (a 0)), (4, .int x4), (5, .int x5)] → va_P D vwCl ((NBw cy a) σ) H → va_S A s.heap H locs → k73 σ x4 x5 = some z → W p l e ({ frames := 1, cells := 0, slots := 0, locals := 24 } : Room) s m args below meth c H locs 0 0 (nQi below D A (NBw cy a) args s z) (F0 m 73 ls [])) : ∀ (σ : nS) (x4 : Int32) (x5 : Int32) (H : Heap) (locs : List Loc) (ls : Array Slot), lv_has ls 6 [(0, .ref (a 0)), (4, .int x4), (5, .int x5)] → va_P D vwCl ((NBw cy a) σ) H → va_S A s.heap H locs → b_X8_countMends_73 N k73 σ x4 x5 = some z → W p l e ({ frames := 1, cells := 0, slots := 0, locals := 24 } : Room) s m args below meth c H locs 0 0 (nQi below D A (NBw cy a) args s z) (F0 m 73 ls []) := by
  obtain ⟨hx, hb, hr, hml, hown, hts, hlocks⟩ := C0
  intro σ x4 x5 H locs ls hl hP hS hf
  unfold b_X8_countMends_73 at hf
  refine lv_iload hx hb dX8_countMends_73 (lv_at hl 2 rfl) ?_
  refine lv_aload_n hx hb dX8_countMends_75 rfl (lv_at hl 0 rfl) ?_
  refine nb_get (ci := 8) hx hb hts iX8_countMends_X8 hown hE hP 0 nbo_0 rfl 0 (by decide) qX8_countMends_12 rfl rfl dX8_countMends_76 ?_
  refine nb_getN (ci := 7) hx hb hts iX8_countMends_X7 hown hE hP 1 nbo_1 rfl 2 (by decide) (host := RX8) (by decide +kernel) rfl rfl dX8_countMends_79 ?_
  refine lv_icmp_ge (tgt := 111) hx hb dX8_countMends_82 (by decide) (fun hc => ?_) (fun hc => ?_)
  · replace hf := nIf_t hc hf
    refine lv_iload hx hb dX8_countMends_111 (lv_at hl 1 rfl) ?_
    exact nb_iret hx hb hr hlocks hP hS (nSo hf) dX8_countMends_113
  · replace hf := nIf_f hc hf
    refine lv_iload hx hb dX8_countMends_85 (lv_at hl 1 rfl) ?_
    refine lv_bipush (v := 8) hx hb dX8_countMends_87 (by decide) ?_
    refine lv_aload_n hx hb dX8_countMends_89 rfl (lv_at hl 0 rfl) ?_
    refine nb_get (ci := 8) hx hb hts iX8_countMends_X8 hown hE hP 0 nbo_0 rfl 0 (by decide) qX8_countMends_12 rfl rfl dX8_countMends_90 ?_
    refine lv_iload hx hb dX8_countMends_93 (lv_at hl 2 rfl) ?_
    obtain ⟨r1, σ2, hc2, hf⟩ := nBd_e hf
    refine nb_callVi (As := [.int x5]) (rest := [.int 8, .int x4]) ⟨hx, hb, hml, hown, hts⟩ (c_X7_skillsOf (D := D) (A := A) (cy := cy) (a := a) (kt := kt) (vt := vt) (l := l)  hc2) (cwV 1 hts gX8_countMends_X7_skillsOf rfl rfl rfl (by decide +kernel) ⟨Nat.le_of_ble_eq_true rfl, Nat.le_of_ble_eq_true rfl⟩) hE hP hS nbo_1 rfl rfl hl.1 rfl (Nat.le_of_ble_eq_true rfl) dX8_countMends_95 (fun H locs hP hS => ?_)
    obtain ⟨r3, σ4, hc4, hf⟩ := nBd_e hf
    refine nb_callSi (As := [.int r1]) (rest := [.int 8, .int x4]) ⟨hx, hb, hml, hown, hts⟩ (c_J6_bitCount_0f7a4 (X := (NBw cy a)) (D := D) (A := A) (cy := cy) (kt := kt) (vt := vt) (l := l)  hc4) (va_cwS 1 hts gX8_countMends_J6_bitCount_0f7a4 rfl rfl rfl (by decide +kernel) ⟨Nat.le_of_ble_eq_true rfl, Nat.le_of_ble_eq_true rfl⟩) hE hP hS rfl hl.1 rfl (Nat.le_of_ble_eq_true rfl) dX8_countMends_98 (fun H locs hP hS => ?_)
    refine lv_isub hx hb dX8_countMends_101 ?_
    refine lv_topi (fun v5 ev5 => ?_)
    replace hf := nLet_e hf ev5
    refine lv_iadd hx hb dX8_countMends_102 ?_
    refine lv_topi (fun v6 ev6 => ?_)
    replace hf := nLet_e hf ev6
    refine lv_istore (lv' := [(4, .int v6), (0, .ref (a 0)), (5, .int x5)]) hx hb dX8_countMends_103 hl (by decide) rfl (fun ls hl => ?_)
    obtain ⟨v7, ev7⟩ : ∃ y : Int32, y = x5 + 1 := ⟨_, rfl⟩
    replace hf := nLet_e hf ev7
    refine lv_iinc (v := v7) (lv' := [(5, .int v7), (4, .int v6), (0, .ref (a 0))]) hx hb dX8_countMends_105 hl (k := 2) rfl (by rw [ev7]; rfl) (by decide) rfl (fun ls hl => ?_)
    refine lv_goto (tgt := 73) hx hb dX8_countMends_108 (by decide) ?_
    exact K73 σ4 v6 v7 H locs ls (lv_sub hl [2, 1, 0] rfl) hP hS hf
def b_X8_countMends_14 (N : Nat) (k55 : nS → Int32 → Int32 → Int32 → Int32 → Int32 → Option (Int32 × nS)) (k73 : nS → Int32 → Int32 → Option (Int32 × nS)) (σ : nS) (x1 : Int32) (x2 : Int32) (x3 : Int32) (x4 : Int32) : Option (Int32 × nS) := (if x2 ≤ x4 then nLet (x2 - (1 : Int32) : Int32) (fun v1 => nLet (x3 * v1 : Int32) (fun v2 => k73 σ v2 0)) else nBd (f_X7_cell N x1 x4 0 σ) (fun r3 σ4 => (if r3 = 2 then k55 σ4 x1 x2 x4 x3 2 else (if r3 = 4 then k55 σ4 x1 x2 x4 x3 1 else k55 σ4 x1 x2 x4 x3 0))))
set_option maxHeartbeats 4000000 in
set_option maxRecDepth 100000 in
theorem kb_X8_countMends_14 {p : Program} {l : Launch} {e : Env} {s : State} {m : MethodId} {args : Array Value} {below : List Frame} {meth : Method} {c : Code} {D : va_G} {A : Nat → Prop} {cy : Nat → ClassId} {a kt vt : Nat → Nat} {N : Nat}   (C0 : nCx p s m args meth c cX8_countMends 6 (some .int) RX8 wsX8_countMends) (hE : nEn D A cy (NBw cy a) kt vt s) {z : Int32 × nS} {k55 : nS → Int32 → Int32 → Int32 → Int32 → Int32 → Option (Int32 × nS)} (K55 : ∀ (σ : nS) (x1 : Int32) (x2 : Int32) (x4 : Int32) (y0 : Int32) (y1 : Int32) (H : Heap) (locs : List Loc) (ls : Array Slot), lv_has ls 6 [(0, .ref (a 0)), (1, .int x1), (2, .int x2), (4, .int x4)] → va_P D vwCl ((NBw cy a) σ) H → va_S A s.heap H locs → k55 σ x1 x2 x4 y0 y1 = some z → W p l e ({ frames := 1, cells := 0, slots := 0, locals := 24 } : Room) s m args below meth c H locs 0 0 (nQi below D A (NBw cy a) args s z) (F0 m 55 ls [.int y1, .int y0])) {k73 : nS → Int32 → Int32 → Option (Int32 × nS)} (K73 : ∀ (σ : nS) (x4 : Int32) (x5 : Int32) (H : Heap) (locs : List Loc) (ls : Array Slot), lv_has ls 6 [(0, .ref (a 0)), (4, .int x4), (5, .int x5)] → va_P D vwCl ((NBw cy a) σ) H → va_S A s.heap H locs → k73 σ x4 x5 = some z → W p l e ({ frames := 1, cells := 0, slots := 0, locals := 24 } : Room) s m args below meth c H locs 0 0 (nQi below D A (NBw cy a) args s z) (F0 m 73 ls [])) : ∀ (σ : nS) (x1 : Int32) (x2 : Int32) (x3 : Int32) (x4 : Int32) (H : Heap) (locs : List Loc) (ls : Array Slot), lv_has ls 6 [(0, .ref (a 0)), (1, .int x1), (2, .int x2), (3, .int x3), (4, .int x4)] → va_P D vwCl ((NBw cy a) σ) H → va_S A s.heap H locs → b_X8_countMends_14 N k55 k73 σ x1 x2 x3 x4 = some z → W p l e ({ frames := 1, cells := 0, slots := 0, locals := 24 } : Room) s m args below meth c H locs 0 0 (nQi below D A (NBw cy a) args s z) (F0 m 14 ls []) := by
  obtain ⟨hx, hb, hr, hml, hown, hts, hlocks⟩ := C0
  intro σ x1 x2 x3 x4 H locs ls hl hP hS hf
  unfold b_X8_countMends_14 at hf
  refine lv_iload hx hb dX8_countMends_14 (lv_at hl 4 rfl) ?_
  refine lv_iload_n hx hb dX8_countMends_16 rfl (lv_at hl 2 rfl) ?_
  refine lv_icmp_ge (tgt := 63) hx hb dX8_countMends_17 (by decide) (fun hc => ?_) (fun hc => ?_)
  · replace hf := nIf_t hc hf
    refine lv_iload_n hx hb dX8_countMends_63 rfl (lv_at hl 3 rfl) ?_
    refine lv_iload_n hx hb dX8_countMends_64 rfl (lv_at hl 2 rfl) ?_
    refine lv_iconst (v := 1) hx hb dX8_countMends_65 (by decide) ?_
    refine lv_isub hx hb dX8_countMends_66 ?_
    refine lv_topi (fun v1 ev1 => ?_)
    replace hf := nLet_e hf ev1
    refine lv_imul hx hb dX8_countMends_67 ?_
    refine lv_topi (fun v2 ev2 => ?_)
    replace hf := nLet_e hf ev2
    refine lv_istore (lv' := [(4, .int v2), (0, .ref (a 0)), (1, .int x1), (2, .int x2), (3, .int x3)]) hx hb dX8_countMends_68 hl (by decide) rfl (fun ls hl => ?_)
    refine lv_iconst (v := 0) hx hb dX8_countMends_70 (by decide) ?_
    refine lv_istore (lv' := [(5, .int 0), (4, .int v2), (0, .ref (a 0)), (1, .int x1), (2, .int x2), (3, .int x3)]) hx hb dX8_countMends_71 hl (by decide) rfl (fun ls hl => ?_)
    exact K73 σ v2 0 H locs ls (lv_sub hl [2, 1, 0] rfl) hP hS hf
  · replace hf := nIf_f hc hf
    refine lv_aload_n hx hb dX8_countMends_20 rfl (lv_at hl 0 rfl) ?_
    refine nb_get (ci := 8) hx hb hts iX8_countMends_X8 hown hE hP 0 nbo_0 rfl 0 (by decide) qX8_countMends_12 rfl rfl dX8_countMends_21 ?_
    refine lv_iload_n hx hb dX8_countMends_24 rfl (lv_at hl 1 rfl) ?_
    refine lv_iload hx hb dX8_countMends_25 (lv_at hl 4 rfl) ?_
    refine lv_iconst (v := 0) hx hb dX8_countMends_27 (by decide) ?_
    obtain ⟨r3, σ4, hc4, hf⟩ := nBd_e hf
    refine nb_callVi (As := [.int x1, .int x4, .int 0]) (rest := []) ⟨hx, hb, hml, hown, hts⟩ (c_X7_cell (D := D) (A := A) (cy := cy) (a := a) (kt := kt) (vt := vt) (l := l)  hc4) (cwV 3 hts gX8_countMends_X7_cell rfl rfl rfl (by decide +kernel) ⟨Nat.le_of_ble_eq_true rfl, Nat.le_of_ble_eq_true rfl⟩) hE hP hS nbo_1 rfl rfl hl.1 rfl (Nat.le_of_ble_eq_true rfl) dX8_countMends_28 (fun H locs hP hS => ?_)
    refine lv_istore (lv' := [(5, .int r3), (0, .ref (a 0)), (1, .int x1), (2, .int x2), (3, .int x3), (4, .int x4)]) hx hb dX8_countMends_31 hl (by decide) rfl (fun ls hl => ?_)
    refine lv_iload_n hx hb dX8_countMends_33 rfl (lv_at hl 4 rfl) ?_
    refine lv_iload hx hb dX8_countMends_34 (lv_at hl 0 rfl) ?_
    refine lv_iconst (v := 2) hx hb dX8_countMends_36 (by decide) ?_
    refine lv_icmp_ne (tgt := 44) hx hb dX8_countMends_37 (by decide) (fun hc => ?_) (fun hc => ?_)
    · replace hf := nIf_f hc hf
      refine lv_iload hx hb dX8_countMends_44 (lv_at hl 0 rfl) ?_
      refine lv_iconst (v := 4) hx hb dX8_countMends_46 (by decide) ?_
      refine lv_icmp_ne (tgt := 54) hx hb dX8_countMends_47 (by decide) (fun hc => ?_) (fun hc => ?_)
      · replace hf := nIf_f hc hf
        refine lv_iconst (v := 0) hx hb dX8_countMends_54 (by decide) ?_
        exact K55 σ4 x1 x2 x4 x3 0 H locs ls (lv_sub hl [1, 2, 3, 5] rfl) hP hS hf
      · replace hf := nIf_t hc hf
        refine lv_iconst (v := 1) hx hb dX8_countMends_50 (by decide) ?_
        refine lv_goto (tgt := 55) hx hb dX8_countMends_51 (by decide) ?_
        exact K55 σ4 x1 x2 x4 x3 1 H locs ls (lv_sub hl [1, 2, 3, 5] rfl) hP hS hf
    · replace hf := nIf_t hc hf
      refine lv_iconst (v := 2) hx hb dX8_countMends_40 (by decide) ?_
      refine lv_goto (tgt := 55) hx hb dX8_countMends_41 (by decide) ?_
      exact K55 σ4 x1 x2 x4 x3 2 H locs ls (lv_sub hl [1, 2, 3, 5] rfl) hP hS hf
def b_X8_countMends_0 (N : Nat) (k14 : nS → Int32 → Int32 → Int32 → Int32 → Option (Int32 × nS)) (σ : nS) (x1 : Int32) : Option (Int32 × nS) := nBd (f_X7_sizeOf N x1 σ) (fun r1 σ2 => k14 σ2 x1 r1 0 0)
set_option maxHeartbeats 4000000 in
set_option maxRecDepth 100000 in
theorem kb_X8_countMends_0 {p : Program} {l : Launch} {e : Env} {s : State} {m : MethodId} {args : Array Value} {below : List Frame} {meth : Method} {c : Code} {D : va_G} {A : Nat → Prop} {cy : Nat → ClassId} {a kt vt : Nat → Nat} {N : Nat}   (C0 : nCx p s m args meth c cX8_countMends 6 (some .int) RX8 wsX8_countMends) (hE : nEn D A cy (NBw cy a) kt vt s) {z : Int32 × nS} {k14 : nS → Int32 → Int32 → Int32 → Int32 → Option (Int32 × nS)} (K14 : ∀ (σ : nS) (x1 : Int32) (x2 : Int32) (x3 : Int32) (x4 : Int32) (H : Heap) (locs : List Loc) (ls : Array Slot), lv_has ls 6 [(0, .ref (a 0)), (1, .int x1), (2, .int x2), (3, .int x3), (4, .int x4)] → va_P D vwCl ((NBw cy a) σ) H → va_S A s.heap H locs → k14 σ x1 x2 x3 x4 = some z → W p l e ({ frames := 1, cells := 0, slots := 0, locals := 24 } : Room) s m args below meth c H locs 0 0 (nQi below D A (NBw cy a) args s z) (F0 m 14 ls [])) : ∀ (σ : nS) (x1 : Int32) (H : Heap) (locs : List Loc) (ls : Array Slot), lv_has ls 6 [(0, .ref (a 0)), (1, .int x1)] → va_P D vwCl ((NBw cy a) σ) H → va_S A s.heap H locs → b_X8_countMends_0 N k14 σ x1 = some z → W p l e ({ frames := 1, cells := 0, slots := 0, locals := 24 } : Room) s m args below meth c H locs 0 0 (nQi below D A (NBw cy a) args s z) (F0 m 0 ls []) := by
  obtain ⟨hx, hb, hr, hml, hown, hts, hlocks⟩ := C0
  intro σ x1 H locs ls hl hP hS hf
  unfold b_X8_countMends_0 at hf
  refine lv_aload_n hx hb dX8_countMends_0 rfl (lv_at hl 0 rfl) ?_
  refine nb_get (ci := 8) hx hb hts iX8_countMends_X8 hown hE hP 0 nbo_0 rfl 0 (by decide) qX8_countMends_12 rfl rfl dX8_countMends_1 ?_
  refine lv_iload_n hx hb dX8_countMends_4 rfl (lv_at hl 1 rfl) ?_
  obtain ⟨r1, σ2, hc2, hf⟩ := nBd_e hf
  refine nb_callVi (As := [.int x1]) (rest := []) ⟨hx, hb, hml, hown, hts⟩ (c_X7_sizeOf (D := D) (A := A) (cy := cy) (a := a) (kt := kt) (vt := vt) (l := l)  hc2) (cwV 1 hts gX8_countMends_X7_sizeOf rfl rfl rfl (by decide +kernel) ⟨Nat.le_of_ble_eq_true rfl, Nat.le_of_ble_eq_true rfl⟩) hE hP hS nbo_1 rfl rfl hl.1 rfl (Nat.le_of_ble_eq_true rfl) dX8_countMends_5 (fun H locs hP hS => ?_)
  refine lv_istore_n (lv' := [(2, .int r1), (0, .ref (a 0)), (1, .int x1)]) hx hb dX8_countMends_8 rfl hl (by decide) rfl (fun ls hl => ?_)
  refine lv_iconst (v := 0) hx hb dX8_countMends_9 (by decide) ?_
  refine lv_istore_n (lv' := [(3, .int 0), (2, .int r1), (0, .ref (a 0)), (1, .int x1)]) hx hb dX8_countMends_10 rfl hl (by decide) rfl (fun ls hl => ?_)
  refine lv_iconst (v := 0) hx hb dX8_countMends_11 (by decide) ?_
  refine lv_istore (lv' := [(4, .int 0), (3, .int 0), (2, .int r1), (0, .ref (a 0)), (1, .int x1)]) hx hb dX8_countMends_12 hl (by decide) rfl (fun ls hl => ?_)
  exact K14 σ2 x1 r1 0 0 H locs ls (lv_sub hl [3, 4, 2, 1, 0] rfl) hP hS hf
def l_X8_countMends_55 (N : Nat) (k14 : nS → Int32 → Int32 → Int32 → Int32 → Option (Int32 × nS)) : nS → Int32 → Int32 → Int32 → Int32 → Int32 → Option (Int32 × nS) := b_X8_countMends_55 N k14
theorem kl_X8_countMends_55 {p : Program} {l : Launch} {e : Env} {s : State} {m : MethodId} {args : Array Value} {below : List Frame} {meth : Method} {c : Code} {D : va_G} {A : Nat → Prop} {cy : Nat → ClassId} {a kt vt : Nat → Nat} {N : Nat}   (C0 : nCx p s m args meth c cX8_countMends 6 (some .int) RX8 wsX8_countMends) (hE : nEn D A cy (NBw cy a) kt vt s) {z : Int32 × nS} {k14 : nS → Int32 → Int32 → Int32 → Int32 → Option (Int32 × nS)} (K14 : ∀ (σ : nS) (x1 : Int32) (x2 : Int32) (x3 : Int32) (x4 : Int32) (H : Heap) (locs : List Loc) (ls : Array Slot), lv_has ls 6 [(0, .ref (a 0)), (1, .int x1), (2, .int x2), (3, .int x3), (4, .int x4)] → va_P D vwCl ((NBw cy a) σ) H → va_S A s.heap H locs → k14 σ x1 x2 x3 x4 = some z → W p l e ({ frames := 1, cells := 0, slots := 0, locals := 24 } : Room) s m args below meth c H locs 0 0 (nQi below D A (NBw cy a) args s z) (F0 m 14 ls [])) : ∀ (σ : nS) (x1 : Int32) (x2 : Int32) (x4 : Int32) (y0 : Int32) (y1 : Int32) (H : Heap) (locs : List Loc) (ls : Array Slot), lv_has ls 6 [(0, .ref (a 0)), (1, .int x1), (2, .int x2), (4, .int x4)] → va_P D vwCl ((NBw cy a) σ) H → va_S A s.heap H locs → l_X8_countMends_55 N k14 σ x1 x2 x4 y0 y1 = some z → W p l e ({ frames := 1, cells := 0, slots := 0, locals := 24 } : Room) s m args below meth c H locs 0 0 (nQi below D A (NBw cy a) args s z) (F0 m 55 ls [.int y1, .int y0]) := by
  exact kb_X8_countMends_55 (N := N)  C0 hE K14
def l_X8_countMends_73 (N : Nat) : nS → Int32 → Int32 → Option (Int32 × nS) := nLp (fun _ _ _ => none) (fun again => b_X8_countMends_73 N again) N
theorem kl_X8_countMends_73 {p : Program} {l : Launch} {e : Env} {s : State} {m : MethodId} {args : Array Value} {below : List Frame} {meth : Method} {c : Code} {D : va_G} {A : Nat → Prop} {cy : Nat → ClassId} {a kt vt : Nat → Nat} {N : Nat}   (C0 : nCx p s m args meth c cX8_countMends 6 (some .int) RX8 wsX8_countMends) (hE : nEn D A cy (NBw cy a) kt vt s) {z : Int32 × nS} : ∀ (σ : nS) (x4 : Int32) (x5 : Int32) (H : Heap) (locs : List Loc) (ls : Array Slot), lv_has ls 6 [(0, .ref (a 0)), (4, .int x4), (5, .int x5)] → va_P D vwCl ((NBw cy a) σ) H → va_S A s.heap H locs → l_X8_countMends_73 N σ x4 x5 = some z → W p l e ({ frames := 1, cells := 0, slots := 0, locals := 24 } : Room) s m args below meth c H locs 0 0 (nQi below D A (NBw cy a) args s z) (F0 m 73 ls []) := by
  have main : ∀ (fu : Nat), ∀ (σ : nS) (x4 : Int32) (x5 : Int32) (H : Heap) (locs : List Loc) (ls : Array Slot), lv_has ls 6 [(0, .ref (a 0)), (4, .int x4), (5, .int x5)] → va_P D vwCl ((NBw cy a) σ) H → va_S A s.heap H locs → nLp (fun _ _ _ => none) (fun again => b_X8_countMends_73 N again) fu σ x4 x5 = some z → W p l e ({ frames := 1, cells := 0, slots := 0, locals := 24 } : Room) s m args below meth c H locs 0 0 (nQi below D A (NBw cy a) args s z) (F0 m 73 ls []) := by
    intro fu
    induction fu with
    | zero => intro σ x4 x5 H locs ls hl hP hS hf; cases hf
    | succ fu ih => exact kb_X8_countMends_73 (N := N)  C0 hE ih
  exact main N
def l_X8_countMends_14 (N : Nat) : nS → Int32 → Int32 → Int32 → Int32 → Option (Int32 × nS) := nLp (fun _ _ _ _ _ => none) (fun again => b_X8_countMends_14 N (l_X8_countMends_55 N again) (l_X8_countMends_73 N)) N
theorem kl_X8_countMends_14 {p : Program} {l : Launch} {e : Env} {s : State} {m : MethodId} {args : Array Value} {below : List Frame} {meth : Method} {c : Code} {D : va_G} {A : Nat → Prop} {cy : Nat → ClassId} {a kt vt : Nat → Nat} {N : Nat}   (C0 : nCx p s m args meth c cX8_countMends 6 (some .int) RX8 wsX8_countMends) (hE : nEn D A cy (NBw cy a) kt vt s) {z : Int32 × nS} : ∀ (σ : nS) (x1 : Int32) (x2 : Int32) (x3 : Int32) (x4 : Int32) (H : Heap) (locs : List Loc) (ls : Array Slot), lv_has ls 6 [(0, .ref (a 0)), (1, .int x1), (2, .int x2), (3, .int x3), (4, .int x4)] → va_P D vwCl ((NBw cy a) σ) H → va_S A s.heap H locs → l_X8_countMends_14 N σ x1 x2 x3 x4 = some z → W p l e ({ frames := 1, cells := 0, slots := 0, locals := 24 } : Room) s m args below meth c H locs 0 0 (nQi below D A (NBw cy a) args s z) (F0 m 14 ls []) := by
  have main : ∀ (fu : Nat), ∀ (σ : nS) (x1 : Int32) (x2 : Int32) (x3 : Int32) (x4 : Int32) (H : Heap) (locs : List Loc) (ls : Array Slot), lv_has ls 6 [(0, .ref (a 0)), (1, .int x1), (2, .int x2), (3, .int x3), (4, .int x4)] → va_P D vwCl ((NBw cy a) σ) H → va_S A s.heap H locs → nLp (fun _ _ _ _ _ => none) (fun again => b_X8_countMends_14 N (l_X8_countMends_55 N again) (l_X8_countMends_73 N)) fu σ x1 x2 x3 x4 = some z → W p l e ({ frames := 1, cells := 0, slots := 0, locals := 24 } : Room) s m args below meth c H locs 0 0 (nQi below D A (NBw cy a) args s z) (F0 m 14 ls []) := by
    intro fu
    induction fu with
    | zero => intro σ x1 x2 x3 x4 H locs ls hl hP hS hf; cases hf
    | succ fu ih => exact kb_X8_countMends_14 (N := N)  C0 hE (kl_X8_countMends_55 (N := N)  C0 hE ih) (kl_X8_countMends_73 (N := N)  C0 hE)
  exact main N
def l_X8_countMends_0 (N : Nat) : nS → Int32 → Option (Int32 × nS) := b_X8_countMends_0 N (l_X8_countMends_14 N)
theorem kl_X8_countMends_0 {p : Program} {l : Launch} {e : Env} {s : State} {m : MethodId} {args : Array Value} {below : List Frame} {meth : Method} {c : Code} {D : va_G} {A : Nat → Prop} {cy : Nat → ClassId} {a kt vt : Nat → Nat} {N : Nat}   (C0 : nCx p s m args meth c cX8_countMends 6 (some .int) RX8 wsX8_countMends) (hE : nEn D A cy (NBw cy a) kt vt s) {z : Int32 × nS} : ∀ (σ : nS) (x1 : Int32) (H : Heap) (locs : List Loc) (ls : Array Slot), lv_has ls 6 [(0, .ref (a 0)), (1, .int x1)] → va_P D vwCl ((NBw cy a) σ) H → va_S A s.heap H locs → l_X8_countMends_0 N σ x1 = some z → W p l e ({ frames := 1, cells := 0, slots := 0, locals := 24 } : Room) s m args below meth c H locs 0 0 (nQi below D A (NBw cy a) args s z) (F0 m 0 ls []) := by
  exact kb_X8_countMends_0 (N := N)  C0 hE (kl_X8_countMends_14 (N := N)  C0 hE)
def f_X8_countMends (N : Nat) (x1 : Int32) (σ : nS) : Option (Int32 × nS) := l_X8_countMends_0 N σ x1
set_option maxHeartbeats 4000000 in
set_option maxRecDepth 100000 in
theorem c_X8_countMends {l : Launch} {D : va_G} {A : Nat → Prop} {cy : Nat → ClassId} {a kt vt : Nat → Nat} {N : Nat}   {x1 : Int32} {σ : nS} {r : Int32} {σ' : nS} (hf : f_X8_countMends N x1 σ = some (r, σ')) : nMi l yX8_countMends wsX8_countMends ({ frames := 1, cells := 0, slots := 0, locals := 24 } : Room) D A cy (NBw cy a) kt vt [.ref (a 0), .int x1] σ r σ' := by
  refine Met.ofW (cc := cX8_countMends) (maxL := 6) (ret := (some .int)) (by decide) rfl ?_
  intro p e s m args below meth c s₁ B hml hv
  obtain ⟨rfl, hP, hE⟩ := hv
  have hl := lv_entry ([.ref (a 0), .int x1]) (n := 6) (Nat.le_of_ble_eq_true rfl)
  rw [lg_entry_eq]
  generalize (lg_sl ([.ref (a 0), .int x1]) ++ List.replicate (6 - (lg_sl ([.ref (a 0), .int x1])).length) Slot.unset).toArray = ls at hl ⊢
  have C0 : nCx p s m _ meth c cX8_countMends 6 (some .int) RX8 wsX8_countMends := ⟨B.exec, B.bytes, B.returns, hml, findClass_of_methodNamed B.named, atoms_spec (ws := wsX8_countMends) B.pre, B.notSynchronized⟩
  exact kl_X8_countMends_0 (N := N)  C0 hE (z := (r, σ')) σ x1 _ _ ls hl hP va_S.rf hf

/-! X8_allCalm -/
set_option maxRecDepth 20000 in
theorem iX8_allCalm_X8 : ∀ w ∈ u_ws RX8 TX8 13, w ∈ wsX8_allCalm := fun _ h => List.mem_cons_of_mem _ (List.mem_append_left _ (List.mem_append_left _ (List.mem_append_left _ (List.mem_append_left _ (List.mem_append_right _ h)))))
set_option maxRecDepth 20000 in
theorem qX8_allCalm_58 : Cond.fieldLink RX8 58 RX8 (TX8 8).2.1 (TX8 8).2.2.1 ∈ wsX8_allCalm := by decide +kernel
set_option maxRecDepth 20000 in
theorem iX8_allCalm_X5 : ∀ w ∈ u_ws RX5 TX5 11, w ∈ wsX8_allCalm := fun _ h => List.mem_cons_of_mem _ (List.mem_append_left _ (List.mem_append_left _ (List.mem_append_left _ (List.mem_append_right _ h))))
def b_X8_allCalm_2 (N : Nat) (k2 : nS → Int32 → Option (Int32 × nS)) (σ : nS) (x1 : Int32) : Option (Int32 × nS) := (if (σ.1 16 4) ≤ x1 then some (1, σ) else nBd (f_X5_rowAt N x1 σ) (fun r1 σ2 => nBd (f_X8_tryRow N (σ.1 16 3) r1 σ2) (fun r3 σ4 => (if r3 = 0 then nLet (x1 + 1 : Int32) (fun v5 => k2 σ4 v5) else some (0, σ4)))))
set_option maxHeartbeats 4000000 in
set_option maxRecDepth 100000 in
theorem kb_X8_allCalm_2 {p : Program} {l : Launch} {e : Env} {s : State} {m : MethodId} {args : Array Value} {below : List Frame} {meth : Method} {c : Code} {D : va_G} {A : Nat → Prop} {cy : Nat → ClassId} {a kt vt : Nat → Nat} {N : Nat}   (C0 : nCx p s m args meth c cX8_allCalm 2 (some .boolean) RX8 wsX8_allCalm) (hE : nEn D A cy (NBw cy a) kt vt s) {z : Int32 × nS} {k2 : nS → Int32 → Option (Int32 × nS)} (K2 : ∀ (σ : nS) (x1 : Int32) (H : Heap) (locs : List Loc) (ls : Array Slot), lv_has ls 2 [(0, .ref (a 0)), (1, .int x1)] → va_P D vwCl ((NBw cy a) σ) H → va_S A s.heap H locs → k2 σ x1 = some z → W p l e ({ frames := 4, cells := 0, slots := 0, locals := 96 } : Room) s m args below meth c H locs 0 0 (nQi below D A (NBw cy a) args s z) (F0 m 2 ls [])) : ∀ (σ : nS) (x1 : Int32) (H : Heap) (locs : List Loc) (ls : Array Slot), lv_has ls 2 [(0, .ref (a 0)), (1, .int x1)] → va_P D vwCl ((NBw cy a) σ) H → va_S A s.heap H locs → b_X8_allCalm_2 N k2 σ x1 = some z → W p l e ({ frames := 4, cells := 0, slots := 0, locals := 96 } : Room) s m args below meth c H locs 0 0 (nQi below D A (NBw cy a) args s z) (F0 m 2 ls []) := by
  obtain ⟨hx, hb, hr, hml, hown, hts, hlocks⟩ := C0
  intro σ x1 H locs ls hl hP hS hf
  unfold b_X8_allCalm_2 at hf
  refine lv_iload_n hx hb dX8_allCalm_2 rfl (lv_at hl 1 rfl) ?_
  refine lv_aload_n hx hb dX8_allCalm_3 rfl (lv_at hl 0 rfl) ?_
  refine nb_get (ci := 8) hx hb hts iX8_allCalm_X8 hown hE hP 0 nbo_0 rfl 8 (by decide) qX8_allCalm_58 rfl rfl dX8_allCalm_4 ?_
  refine nb_getN (ci := 5) hx hb hts iX8_allCalm_X5 hown hE hP 16 nbo_16 rfl 4 (by decide) (host := RX8) (by decide +kernel) rfl rfl dX8_allCalm_7 ?_
  refine lv_icmp_ge (tgt := 43) hx hb dX8_allCalm_10 (by decide) (fun hc => ?_) (fun hc => ?_)
  · replace hf := nIf_t hc hf
    refine lv_iconst (v := 1) hx hb dX8_allCalm_43 (by decide) ?_
    exact nb_zret hx hb hr hlocks hP hS (nSo hf) rfl dX8_allCalm_44
  · replace hf := nIf_f hc hf
    refine lv_aload_n hx hb dX8_allCalm_13 rfl (lv_at hl 0 rfl) ?_
    refine lv_aload_n hx hb dX8_allCalm_14 rfl (lv_at hl 0 rfl) ?_
    refine nb_get (ci := 8) hx hb hts iX8_allCalm_X8 hown hE hP 0 nbo_0 rfl 8 (by decide) qX8_allCalm_58 rfl rfl dX8_allCalm_15 ?_
    refine nb_getN (ci := 5) hx hb hts iX8_allCalm_X5 hown hE hP 16 nbo_16 rfl 3 (by decide) (host := RX8) (by decide +kernel) rfl rfl dX8_allCalm_18 ?_
    refine lv_aload_n hx hb dX8_allCalm_21 rfl (lv_at hl 0 rfl) ?_
    refine nb_get (ci := 8) hx hb hts iX8_allCalm_X8 hown hE hP 0 nbo_0 rfl 8 (by decide) qX8_allCalm_58 rfl rfl dX8_allCalm_22 ?_
    refine lv_iload_n hx hb dX8_allCalm_25 rfl (lv_at hl 1 rfl) ?_
    obtain ⟨r1, σ2, hc2, hf⟩ := nBd_e hf
    refine nb_callVi (As := [.int x1]) (rest := [.int (σ.1 16 3), .ref (a 0)]) ⟨hx, hb, hml, hown, hts⟩ (c_X5_rowAt (D := D) (A := A) (cy := cy) (a := a) (kt := kt) (vt := vt) (l := l)  hc2) (cwV 1 hts gX8_allCalm_X5_rowAt rfl rfl rfl (by decide +kernel) ⟨Nat.le_of_ble_eq_true rfl, Nat.le_of_ble_eq_true rfl⟩) hE hP hS nbo_16 rfl rfl hl.1 rfl (Nat.le_of_ble_eq_true rfl) dX8_allCalm_26 (fun H locs hP hS => ?_)
    obtain ⟨r3, σ4, hc4, hf⟩ := nBd_e hf
    refine nb_callVi (As := [.int (σ.1 16 3), .int r1]) (rest := []) ⟨hx, hb, hml, hown, hts⟩ (c_X8_tryRow (D := D) (A := A) (cy := cy) (a := a) (kt := kt) (vt := vt) (l := l)  hc4) (cwV 2 hts gX8_allCalm_X8_tryRow rfl rfl rfl (by decide +kernel) ⟨Nat.le_of_ble_eq_true rfl, Nat.le_of_ble_eq_true rfl⟩) hE hP hS nbo_0 rfl rfl hl.1 rfl (Nat.le_of_ble_eq_true rfl) dX8_allCalm_29 (fun H locs hP hS => ?_)
    refine lv_if_eq (tgt := 37) hx hb dX8_allCalm_32 (by decide) (fun hc => ?_) (fun hc => ?_)
    · replace hf := nIf_t hc hf
      obtain ⟨v5, ev5⟩ : ∃ y : Int32, y = x1 + 1 := ⟨_, rfl⟩
      replace hf := nLet_e hf ev5
      refine lv_iinc (v := v5) (lv' := [(1, .int v5), (0, .ref (a 0))]) hx hb dX8_allCalm_37 hl (k := 1) rfl (by rw [ev5]; rfl) (by decide) rfl (fun ls hl => ?_)
      refine lv_goto (tgt := 2) hx hb dX8_allCalm_40 (by decide) ?_
      exact K2 σ4 v5 H locs ls (lv_sub hl [1, 0] rfl) hP hS hf
    · replace hf := nIf_f hc hf
      refine lv_iconst (v := 0) hx hb dX8_allCalm_35 (by decide) ?_
      exact nb_zret hx hb hr hlocks hP hS (nSo hf) rfl dX8_allCalm_36
def b_X8_allCalm_0 (N : Nat) (k2 : nS → Int32 → Option (Int32 × nS)) (σ : nS) : Option (Int32 × nS) := k2 σ 0
set_option maxHeartbeats 4000000 in
set_option maxRecDepth 100000 in
theorem kb_X8_allCalm_0 {p : Program} {l : Launch} {e : Env} {s : State} {m : MethodId} {args : Array Value} {below : List Frame} {meth : Method} {c : Code} {D : va_G} {A : Nat → Prop} {cy : Nat → ClassId} {a kt vt : Nat → Nat} {N : Nat}   (C0 : nCx p s m args meth c cX8_allCalm 2 (some .boolean) RX8 wsX8_allCalm) (hE : nEn D A cy (NBw cy a) kt vt s) {z : Int32 × nS} {k2 : nS → Int32 → Option (Int32 × nS)} (K2 : ∀ (σ : nS) (x1 : Int32) (H : Heap) (locs : List Loc) (ls : Array Slot), lv_has ls 2 [(0, .ref (a 0)), (1, .int x1)] → va_P D vwCl ((NBw cy a) σ) H → va_S A s.heap H locs → k2 σ x1 = some z → W p l e ({ frames := 4, cells := 0, slots := 0, locals := 96 } : Room) s m args below meth c H locs 0 0 (nQi below D A (NBw cy a) args s z) (F0 m 2 ls [])) : ∀ (σ : nS) (H : Heap) (locs : List Loc) (ls : Array Slot), lv_has ls 2 [(0, .ref (a 0))] → va_P D vwCl ((NBw cy a) σ) H → va_S A s.heap H locs → b_X8_allCalm_0 N k2 σ = some z → W p l e ({ frames := 4, cells := 0, slots := 0, locals := 96 } : Room) s m args below meth c H locs 0 0 (nQi below D A (NBw cy a) args s z) (F0 m 0 ls []) := by
  obtain ⟨hx, hb, hr, hml, hown, hts, hlocks⟩ := C0
  intro σ  H locs ls hl hP hS hf
  unfold b_X8_allCalm_0 at hf
  refine lv_iconst (v := 0) hx hb dX8_allCalm_0 (by decide) ?_
  refine lv_istore_n (lv' := [(1, .int 0), (0, .ref (a 0))]) hx hb dX8_allCalm_1 rfl hl (by decide) rfl (fun ls hl => ?_)
  exact K2 σ 0 H locs ls (lv_sub hl [1, 0] rfl) hP hS hf
def l_X8_allCalm_2 (N : Nat) : nS → Int32 → Option (Int32 × nS) := nLp (fun _ _ => none) (fun again => b_X8_allCalm_2 N again) N
theorem kl_X8_allCalm_2 {p : Program} {l : Launch} {e : Env} {s : State} {m : MethodId} {args : Array Value} {below : List Frame} {meth : Method} {c : Code} {D : va_G} {A : Nat → Prop} {cy : Nat → ClassId} {a kt vt : Nat → Nat} {N : Nat}   (C0 : nCx p s m args meth c cX8_allCalm 2 (some .boolean) RX8 wsX8_allCalm) (hE : nEn D A cy (NBw cy a) kt vt s) {z : Int32 × nS} : ∀ (σ : nS) (x1 : Int32) (H : Heap) (locs : List Loc) (ls : Array Slot), lv_has ls 2 [(0, .ref (a 0)), (1, .int x1)] → va_P D vwCl ((NBw cy a) σ) H → va_S A s.heap H locs → l_X8_allCalm_2 N σ x1 = some z → W p l e ({ frames := 4, cells := 0, slots := 0, locals := 96 } : Room) s m args below meth c H locs 0 0 (nQi below D A (NBw cy a) args s z) (F0 m 2 ls []) := by
  have main : ∀ (fu : Nat), ∀ (σ : nS) (x1 : Int32) (H : Heap) (locs : List Loc) (ls : Array Slot), lv_has ls 2 [(0, .ref (a 0)), (1, .int x1)] → va_P D vwCl ((NBw cy a) σ) H → va_S A s.heap H locs → nLp (fun _ _ => none) (fun again => b_X8_allCalm_2 N again) fu σ x1 = some z → W p l e ({ frames := 4, cells := 0, slots := 0, locals := 96 } : Room) s m args below meth c H locs 0 0 (nQi below D A (NBw cy a) args s z) (F0 m 2 ls []) := by
    intro fu
    induction fu with
    | zero => intro σ x1 H locs ls hl hP hS hf; cases hf
    | succ fu ih => exact kb_X8_allCalm_2 (N := N)  C0 hE ih
  exact main N
def l_X8_allCalm_0 (N : Nat) : nS → Option (Int32 × nS) := b_X8_allCalm_0 N (l_X8_allCalm_2 N)
theorem kl_X8_allCalm_0 {p : Program} {l : Launch} {e : Env} {s : State} {m : MethodId} {args : Array Value} {below : List Frame} {meth : Method} {c : Code} {D : va_G} {A : Nat → Prop} {cy : Nat → ClassId} {a kt vt : Nat → Nat} {N : Nat}   (C0 : nCx p s m args meth c cX8_allCalm 2 (some .boolean) RX8 wsX8_allCalm) (hE : nEn D A cy (NBw cy a) kt vt s) {z : Int32 × nS} : ∀ (σ : nS) (H : Heap) (locs : List Loc) (ls : Array Slot), lv_has ls 2 [(0, .ref (a 0))] → va_P D vwCl ((NBw cy a) σ) H → va_S A s.heap H locs → l_X8_allCalm_0 N σ = some z → W p l e ({ frames := 4, cells := 0, slots := 0, locals := 96 } : Room) s m args below meth c H locs 0 0 (nQi below D A (NBw cy a) args s z) (F0 m 0 ls []) := by
  exact kb_X8_allCalm_0 (N := N)  C0 hE (kl_X8_allCalm_2 (N := N)  C0 hE)
def f_X8_allCalm (N : Nat) (σ : nS) : Option (Int32 × nS) := l_X8_allCalm_0 N σ
set_option maxHeartbeats 4000000 in
set_option maxRecDepth 100000 in
theorem c_X8_allCalm {l : Launch} {D : va_G} {A : Nat → Prop} {cy : Nat → ClassId} {a kt vt : Nat → Nat} {N : Nat}   {σ : nS} {r : Int32} {σ' : nS} (hf : f_X8_allCalm N σ = some (r, σ')) : nMi l yX8_allCalm wsX8_allCalm ({ frames := 4, cells := 0, slots := 0, locals := 96 } : Room) D A cy (NBw cy a) kt vt [.ref (a 0)] σ r σ' := by
  refine Met.ofW (cc := cX8_allCalm) (maxL := 2) (ret := (some .boolean)) (by decide) rfl ?_
  intro p e s m args below meth c s₁ B hml hv
  obtain ⟨rfl, hP, hE⟩ := hv
  have hl := lv_entry ([.ref (a 0)]) (n := 2) (Nat.le_of_ble_eq_true rfl)
  rw [lg_entry_eq]
  generalize (lg_sl ([.ref (a 0)]) ++ List.replicate (2 - (lg_sl ([.ref (a 0)])).length) Slot.unset).toArray = ls at hl ⊢
  have C0 : nCx p s m _ meth c cX8_allCalm 2 (some .boolean) RX8 wsX8_allCalm := ⟨B.exec, B.bytes, B.returns, hml, findClass_of_methodNamed B.named, atoms_spec (ws := wsX8_allCalm) B.pre, B.notSynchronized⟩
  exact kl_X8_allCalm_0 (N := N)  C0 hE (z := (r, σ')) σ  _ _ ls hl hP va_S.rf hf

/-! X8_tryTargets -/
set_option maxRecDepth 20000 in
theorem iX8_tryTargets_X8 : ∀ w ∈ u_ws RX8 TX8 13, w ∈ wsX8_tryTargets := fun _ h => List.mem_cons_of_mem _ (List.mem_append_left _ (List.mem_append_left _ (List.mem_append_left _ (List.mem_append_left _ (List.mem_append_left _ (List.mem_append_right _ h))))))
set_option maxRecDepth 20000 in
theorem qX8_tryTargets_12 : Cond.fieldLink RX8 12 RX8 (TX8 0).2.1 (TX8 0).2.2.1 ∈ wsX8_tryTargets := by decide +kernel
set_option maxRecDepth 20000 in
theorem qX8_tryTargets_58 : Cond.fieldLink RX8 58 RX8 (TX8 8).2.1 (TX8 8).2.2.1 ∈ wsX8_tryTargets := by decide +kernel
set_option maxRecDepth 20000 in
theorem iX8_tryTargets_X5 : ∀ w ∈ u_ws RX5 TX5 11, w ∈ wsX8_tryTargets := fun _ h => List.mem_cons_of_mem _ (List.mem_append_left _ (List.mem_append_left _ (List.mem_append_left _ (List.mem_append_left _ (List.mem_append_right _ h)))))
set_option maxRecDepth 20000 in
theorem qX8_tryTargets_65 : Cond.fieldLink RX8 65 RX8 (TX8 9).2.1 (TX8 9).2.2.1 ∈ wsX8_tryTargets := by decide +kernel
def b_X8_tryTargets_83 (N : Nat) (k21 : nS → Int32 → Int32 → Int32 → Int32 → Int32 → Option (Int32 × nS)) (σ : nS) (x1 : Int32) (x2 : Int32) (x3 : Int32) (x4 : Int32) (x5 : Int32) : Option (Int32 × nS) := nLet (x5 + 1 : Int32) (fun v1 => k21 σ x1 x2 x3 x4 v1)
set_option maxHeartbeats 4000000 in
set_option maxRecDepth 100000 in
theorem kb_X8_tryTargets_83 {p : Program} {l : Launch} {e : Env} {s : State} {m : MethodId} {args : Array Value} {below : List Frame} {meth : Method} {c : Code} {D : va_G} {A : Nat → Prop} {cy : Nat → ClassId} {a kt vt : Nat → Nat} {N : Nat}   (C0 : nCx p s m args meth c cX8_tryTargets 6 none RX8 wsX8_tryTargets) (hE : nEn D A cy (NBw cy a) kt vt s) {z : Int32 × nS} {k21 : nS → Int32 → Int32 → Int32 → Int32 → Int32 → Option (Int32 × nS)} (K21 : ∀ (σ : nS) (x1 : Int32) (x2 : Int32) (x3 : Int32) (x4 : Int32) (x5 : Int32) (H : Heap) (locs : List Loc) (ls : Array Slot), lv_has ls 6 [(0, .ref (a 0)), (1, .int x1), (2, .int x2), (3, .int x3), (4, .int x4), (5, .int x5)] → va_P D vwCl ((NBw cy a) σ) H → va_S A s.heap H locs → k21 σ x1 x2 x3 x4 x5 = some z → W p l e ({ frames := 5, cells := 0, slots := 0, locals := 117 } : Room) s m args below meth c H locs 0 0 (nQv below D A (NBw cy a) args s z) (F0 m 21 ls [])) : ∀ (σ : nS) (x1 : Int32) (x2 : Int32) (x3 : Int32) (x4 : Int32) (x5 : Int32) (H : Heap) (locs : List Loc) (ls : Array Slot), lv_has ls 6 [(0, .ref (a 0)), (1, .int x1), (2, .int x2), (3, .int x3), (4, .int x4), (5, .int x5)] → va_P D vwCl ((NBw cy a) σ) H → va_S A s.heap H locs → b_X8_tryTargets_83 N k21 σ x1 x2 x3 x4 x5 = some z → W p l e ({ frames := 5, cells := 0, slots := 0, locals := 117 } : Room) s m args below meth c H locs 0 0 (nQv below D A (NBw cy a) args s z) (F0 m 83 ls []) := by
  obtain ⟨hx, hb, hr, hml, hown, hts, hlocks⟩ := C0
  intro σ x1 x2 x3 x4 x5 H locs ls hl hP hS hf
  unfold b_X8_tryTargets_83 at hf
  obtain ⟨v1, ev1⟩ : ∃ y : Int32, y = x5 + 1 := ⟨_, rfl⟩
  replace hf := nLet_e hf ev1
  refine lv_iinc (v := v1) (lv' := [(5, .int v1), (0, .ref (a 0)), (1, .int x1), (2, .int x2), (3, .int x3), (4, .int x4)]) hx hb dX8_tryTargets_83 hl (k := 5) rfl (by rw [ev1]; rfl) (by decide) rfl (fun ls hl => ?_)
  refine lv_goto (tgt := 21) hx hb dX8_tryTargets_86 (by decide) ?_
  exact K21 σ x1 x2 x3 x4 v1 H locs ls (lv_sub hl [1, 2, 3, 4, 5, 0] rfl) hP hS hf
def b_X8_tryTargets_21 (N : Nat) (k83 : nS → Int32 → Int32 → Int32 → Int32 → Int32 → Option (Int32 × nS)) (σ : nS) (x1 : Int32) (x2 : Int32) (x3 : Int32) (x4 : Int32) (x5 : Int32) : Option (Int32 × nS) := nBd (f_X7_sizeOf N (σ.1 16 3) σ) (fun r1 σ2 => (if r1 ≤ x5 then nBd (f_X7_setCell N (σ2.1 16 3) x2 x3 x4 σ2) (fun r3 σ4 => some (0, σ4)) else nBd (f_X7_setCell N (σ2.1 16 3) x2 x3 x5 σ2) (fun r5 σ6 => (if x5 = x4 then k83 σ6 x1 x2 x3 x4 x5 else nBd (f_X8_allCalm N σ6) (fun r7 σ8 => (if r7 = 0 then k83 σ8 x1 x2 x3 x4 x5 else nBd (f_X1_add N x1 x2 x5 σ8) (fun r9 σ10 => k83 σ10 x1 x2 x3 x4 x5)))))))
set_option maxHeartbeats 4000000 in
set_option maxRecDepth 100000 in
theorem kb_X8_tryTargets_21 {p : Program} {l : Launch} {e : Env} {s : State} {m : MethodId} {args : Array Value} {below : List Frame} {meth : Method} {c : Code} {D : va_G} {A : Nat → Prop} {cy : Nat → ClassId} {a kt vt : Nat → Nat} {N : Nat}   (C0 : nCx p s m args meth c cX8_tryTargets 6 none RX8 wsX8_tryTargets) (hE : nEn D A cy (NBw cy a) kt vt s) {z : Int32 × nS} {k83 : nS → Int32 → Int32 → Int32 → Int32 → Int32 → Option (Int32 × nS)} (K83 : ∀ (σ : nS) (x1 : Int32) (x2 : Int32) (x3 : Int32) (x4 : Int32) (x5 : Int32) (H : Heap) (locs : List Loc) (ls : Array Slot), lv_has ls 6 [(0, .ref (a 0)), (1, .int x1), (2, .int x2), (3, .int x3), (4, .int x4), (5, .int x5)] → va_P D vwCl ((NBw cy a) σ) H → va_S A s.heap H locs → k83 σ x1 x2 x3 x4 x5 = some z → W p l e ({ frames := 5, cells := 0, slots := 0, locals := 117 } : Room) s m args below meth c H locs 0 0 (nQv below D A (NBw cy a) args s z) (F0 m 83 ls [])) : ∀ (σ : nS) (x1 : Int32) (x2 : Int32) (x3 : Int32) (x4 : Int32) (x5 : Int32) (H : Heap) (locs : List Loc) (ls : Array Slot), lv_has ls 6 [(0, .ref (a 0)), (1, .int x1), (2, .int x2), (3, .int x3), (4, .int x4), (5, .int x5)] → va_P D vwCl ((NBw cy a) σ) H → va_S A s.heap H locs → b_X8_tryTargets_21 N k83 σ x1 x2 x3 x4 x5 = some z → W p l e ({ frames := 5, cells := 0, slots := 0, locals := 117 } : Room) s m args below meth c H locs 0 0 (nQv below D A (NBw cy a) args s z) (F0 m 21 ls []) := by
  obtain ⟨hx, hb, hr, hml, hown, hts, hlocks⟩ := C0
  intro σ x1 x2 x3 x4 x5 H locs ls hl hP hS hf
  unfold b_X8_tryTargets_21 at hf
  refine lv_iload hx hb dX8_tryTargets_21 (lv_at hl 5 rfl) ?_
  refine lv_aload_n hx hb dX8_tryTargets_23 rfl (lv_at hl 0 rfl) ?_
  refine nb_get (ci := 8) hx hb hts iX8_tryTargets_X8 hown hE hP 0 nbo_0 rfl 0 (by decide) qX8_tryTargets_12 rfl rfl dX8_tryTargets_24 ?_
  refine lv_aload_n hx hb dX8_tryTargets_27 rfl (lv_at hl 0 rfl) ?_
  refine nb_get (ci := 8) hx hb hts iX8_tryTargets_X8 hown hE hP 0 nbo_0 rfl 8 (by decide) qX8_tryTargets_58 rfl rfl dX8_tryTargets_28 ?_
  refine nb_getN (ci := 5) hx hb hts iX8_tryTargets_X5 hown hE hP 16 nbo_16 rfl 3 (by decide) (host := RX8) (by decide +kernel) rfl rfl dX8_tryTargets_31 ?_
  obtain ⟨r1, σ2, hc2, hf⟩ := nBd_e hf
  refine nb_callVi (As := [.int (σ.1 16 3)]) (rest := [.int x5]) ⟨hx, hb, hml, hown, hts⟩ (c_X7_sizeOf (D := D) (A := A) (cy := cy) (a := a) (kt := kt) (vt := vt) (l := l)  hc2) (cwV 1 hts gX8_tryTargets_X7_sizeOf rfl rfl rfl (by decide +kernel) ⟨Nat.le_of_ble_eq_true rfl, Nat.le_of_ble_eq_true rfl⟩) hE hP hS nbo_1 rfl rfl hl.1 rfl (Nat.le_of_ble_eq_true rfl) dX8_tryTargets_34 (fun H locs hP hS => ?_)
  refine lv_icmp_ge (tgt := 89) hx hb dX8_tryTargets_37 (by decide) (fun hc => ?_) (fun hc => ?_)
  · replace hf := nIf_t hc hf
    refine lv_aload_n hx hb dX8_tryTargets_89 rfl (lv_at hl 0 rfl) ?_
    refine nb_get (ci := 8) hx hb hts iX8_tryTargets_X8 hown hE hP 0 nbo_0 rfl 0 (by decide) qX8_tryTargets_12 rfl rfl dX8_tryTargets_90 ?_
    refine lv_aload_n hx hb dX8_tryTargets_93 rfl (lv_at hl 0 rfl) ?_
    refine nb_get (ci := 8) hx hb hts iX8_tryTargets_X8 hown hE hP 0 nbo_0 rfl 8 (by decide) qX8_tryTargets_58 rfl rfl dX8_tryTargets_94 ?_
    refine nb_getN (ci := 5) hx hb hts iX8_tryTargets_X5 hown hE hP 16 nbo_16 rfl 3 (by decide) (host := RX8) (by decide +kernel) rfl rfl dX8_tryTargets_97 ?_
    refine lv_iload_n hx hb dX8_tryTargets_100 rfl (lv_at hl 2 rfl) ?_
    refine lv_iload_n hx hb dX8_tryTargets_101 rfl (lv_at hl 3 rfl) ?_
    refine lv_iload hx hb dX8_tryTargets_102 (lv_at hl 4 rfl) ?_
    obtain ⟨r3, σ4, hc4, hf⟩ := nBd_e hf
    refine nb_callVv (As := [.int (σ2.1 16 3), .int x2, .int x3, .int x4]) (rest := []) ⟨hx, hb, hml, hown, hts⟩ (c_X7_setCell (D := D) (A := A) (cy := cy) (a := a) (kt := kt) (vt := vt) (l := l)  hc4) (cwV 4 hts gX8_tryTargets_X7_setCell rfl rfl rfl (by decide +kernel) ⟨Nat.le_of_ble_eq_true rfl, Nat.le_of_ble_eq_true rfl⟩) hE hP hS nbo_1 rfl rfl hl.1 rfl (Nat.le_of_ble_eq_true rfl) dX8_tryTargets_104 (fun H locs hP hS => ?_)
    exact nb_vret hx hb hr hlocks hP hS (nSo hf) dX8_tryTargets_107
  · replace hf := nIf_f hc hf
    refine lv_aload_n hx hb dX8_tryTargets_40 rfl (lv_at hl 0 rfl) ?_
    refine nb_get (ci := 8) hx hb hts iX8_tryTargets_X8 hown hE hP 0 nbo_0 rfl 0 (by decide) qX8_tryTargets_12 rfl rfl dX8_tryTargets_41 ?_
    refine lv_aload_n hx hb dX8_tryTargets_44 rfl (lv_at hl 0 rfl) ?_
    refine nb_get (ci := 8) hx hb hts iX8_tryTargets_X8 hown hE hP 0 nbo_0 rfl 8 (by decide) qX8_tryTargets_58 rfl rfl dX8_tryTargets_45 ?_
    refine nb_getN (ci := 5) hx hb hts iX8_tryTargets_X5 hown hE hP 16 nbo_16 rfl 3 (by decide) (host := RX8) (by decide +kernel) rfl rfl dX8_tryTargets_48 ?_
    refine lv_iload_n hx hb dX8_tryTargets_51 rfl (lv_at hl 2 rfl) ?_
    refine lv_iload_n hx hb dX8_tryTargets_52 rfl (lv_at hl 3 rfl) ?_
    refine lv_iload hx hb dX8_tryTargets_53 (lv_at hl 5 rfl) ?_
    obtain ⟨r5, σ6, hc6, hf⟩ := nBd_e hf
    refine nb_callVv (As := [.int (σ2.1 16 3), .int x2, .int x3, .int x5]) (rest := []) ⟨hx, hb, hml, hown, hts⟩ (c_X7_setCell (D := D) (A := A) (cy := cy) (a := a) (kt := kt) (vt := vt) (l := l)  hc6) (cwV 4 hts gX8_tryTargets_X7_setCell rfl rfl rfl (by decide +kernel) ⟨Nat.le_of_ble_eq_true rfl, Nat.le_of_ble_eq_true rfl⟩) hE hP hS nbo_1 rfl rfl hl.1 rfl (Nat.le_of_ble_eq_true rfl) dX8_tryTargets_55 (fun H locs hP hS => ?_)
    refine lv_iload hx hb dX8_tryTargets_58 (lv_at hl 5 rfl) ?_
    refine lv_iload hx hb dX8_tryTargets_60 (lv_at hl 4 rfl) ?_
    refine lv_icmp_eq (tgt := 83) hx hb dX8_tryTargets_62 (by decide) (fun hc => ?_) (fun hc => ?_)
    · replace hf := nIf_t hc hf
      exact K83 σ6 x1 x2 x3 x4 x5 H locs ls (lv_sub hl [0, 1, 2, 3, 4, 5] rfl) hP hS hf
    · replace hf := nIf_f hc hf
      refine lv_aload_n hx hb dX8_tryTargets_65 rfl (lv_at hl 0 rfl) ?_
      obtain ⟨r7, σ8, hc8, hf⟩ := nBd_e hf
      refine nb_callVi (As := []) (rest := []) ⟨hx, hb, hml, hown, hts⟩ (c_X8_allCalm (D := D) (A := A) (cy := cy) (a := a) (kt := kt) (vt := vt) (l := l)  hc8) (cwV 0 hts gX8_tryTargets_X8_allCalm rfl rfl rfl (by decide +kernel) ⟨Nat.le_of_ble_eq_true rfl, Nat.le_of_ble_eq_true rfl⟩) hE hP hS nbo_0 rfl rfl hl.1 rfl (Nat.le_of_ble_eq_true rfl) dX8_tryTargets_66 (fun H locs hP hS => ?_)
      refine lv_if_eq (tgt := 83) hx hb dX8_tryTargets_69 (by decide) (fun hc => ?_) (fun hc => ?_)
      · replace hf := nIf_t hc hf
        exact K83 σ8 x1 x2 x3 x4 x5 H locs ls (lv_sub hl [0, 1, 2, 3, 4, 5] rfl) hP hS hf
      · replace hf := nIf_f hc hf
        refine lv_aload_n hx hb dX8_tryTargets_72 rfl (lv_at hl 0 rfl) ?_
        refine nb_get (ci := 8) hx hb hts iX8_tryTargets_X8 hown hE hP 0 nbo_0 rfl 9 (by decide) qX8_tryTargets_65 rfl rfl dX8_tryTargets_73 ?_
        refine lv_iload_n hx hb dX8_tryTargets_76 rfl (lv_at hl 1 rfl) ?_
        refine lv_iload_n hx hb dX8_tryTargets_77 rfl (lv_at hl 2 rfl) ?_
        refine lv_iload hx hb dX8_tryTargets_78 (lv_at hl 5 rfl) ?_
        obtain ⟨r9, σ10, hc10, hf⟩ := nBd_e hf
        refine nb_callVv (As := [.int x1, .int x2, .int x5]) (rest := []) ⟨hx, hb, hml, hown, hts⟩ (c_X1_add (D := D) (A := A) (cy := cy) (a := a) (kt := kt) (vt := vt) (l := l)  hc10) (cwV 3 hts gX8_tryTargets_X1_add rfl rfl rfl (by decide +kernel) ⟨Nat.le_of_ble_eq_true rfl, Nat.le_of_ble_eq_true rfl⟩) hE hP hS nbo_19 rfl rfl hl.1 rfl (Nat.le_of_ble_eq_true rfl) dX8_tryTargets_80 (fun H locs hP hS => ?_)
        exact K83 σ10 x1 x2 x3 x4 x5 H locs ls (lv_sub hl [0, 1, 2, 3, 4, 5] rfl) hP hS hf
def b_X8_tryTargets_0 (N : Nat) (k21 : nS → Int32 → Int32 → Int32 → Int32 → Int32 → Option (Int32 × nS)) (σ : nS) (x1 : Int32) (x2 : Int32) (x3 : Int32) : Option (Int32 × nS) := nBd (f_X7_cell N (σ.1 16 3) x2 x3 σ) (fun r1 σ2 => k21 σ2 x1 x2 x3 r1 0)
set_option maxHeartbeats 4000000 in
set_option maxRecDepth 100000 in
theorem kb_X8_tryTargets_0 {p : Program} {l : Launch} {e : Env} {s : State} {m : MethodId} {args : Array Value} {below : List Frame} {meth : Method} {c : Code} {D : va_G} {A : Nat → Prop} {cy : Nat → ClassId} {a kt vt : Nat → Nat} {N : Nat}   (C0 : nCx p s m args meth c cX8_tryTargets 6 none RX8 wsX8_tryTargets) (hE : nEn D A cy (NBw cy a) kt vt s) {z : Int32 × nS} {k21 : nS → Int32 → Int32 → Int32 → Int32 → Int32 → Option (Int32 × nS)} (K21 : ∀ (σ : nS) (x1 : Int32) (x2 : Int32) (x3 : Int32) (x4 : Int32) (x5 : Int32) (H : Heap) (locs : List Loc) (ls : Array Slot), lv_has ls 6 [(0, .ref (a 0)), (1, .int x1), (2, .int x2), (3, .int x3), (4, .int x4), (5, .int x5)] → va_P D vwCl ((NBw cy a) σ) H → va_S A s.heap H locs → k21 σ x1 x2 x3 x4 x5 = some z → W p l e ({ frames := 5, cells := 0, slots := 0, locals := 117 } : Room) s m args below meth c H locs 0 0 (nQv below D A (NBw cy a) args s z) (F0 m 21 ls [])) : ∀ (σ : nS) (x1 : Int32) (x2 : Int32) (x3 : Int32) (H : Heap) (locs : List Loc) (ls : Array Slot), lv_has ls 6 [(0, .ref (a 0)), (1, .int x1), (2, .int x2), (3, .int x3)] → va_P D vwCl ((NBw cy a) σ) H → va_S A s.heap H locs → b_X8_tryTargets_0 N k21 σ x1 x2 x3 = some z → W p l e ({ frames := 5, cells := 0, slots := 0, locals := 117 } : Room) s m args below meth c H locs 0 0 (nQv below D A (NBw cy a) args s z) (F0 m 0 ls []) := by
  obtain ⟨hx, hb, hr, hml, hown, hts, hlocks⟩ := C0
  intro σ x1 x2 x3 H locs ls hl hP hS hf
  unfold b_X8_tryTargets_0 at hf
  refine lv_aload_n hx hb dX8_tryTargets_0 rfl (lv_at hl 0 rfl) ?_
  refine nb_get (ci := 8) hx hb hts iX8_tryTargets_X8 hown hE hP 0 nbo_0 rfl 0 (by decide) qX8_tryTargets_12 rfl rfl dX8_tryTargets_1 ?_
  refine lv_aload_n hx hb dX8_tryTargets_4 rfl (lv_at hl 0 rfl) ?_
  refine nb_get (ci := 8) hx hb hts iX8_tryTargets_X8 hown hE hP 0 nbo_0 rfl 8 (by decide) qX8_tryTargets_58 rfl rfl dX8_tryTargets_5 ?_
  refine nb_getN (ci := 5) hx hb hts iX8_tryTargets_X5 hown hE hP 16 nbo_16 rfl 3 (by decide) (host := RX8) (by decide +kernel) rfl rfl dX8_tryTargets_8 ?_
  refine lv_iload_n hx hb dX8_tryTargets_11 rfl (lv_at hl 2 rfl) ?_
  refine lv_iload_n hx hb dX8_tryTargets_12 rfl (lv_at hl 3 rfl) ?_
  obtain ⟨r1, σ2, hc2, hf⟩ := nBd_e hf
  refine nb_callVi (As := [.int (σ.1 16 3), .int x2, .int x3]) (rest := []) ⟨hx, hb, hml, hown, hts⟩ (c_X7_cell (D := D) (A := A) (cy := cy) (a := a) (kt := kt) (vt := vt) (l := l)  hc2) (cwV 3 hts gX8_tryTargets_X7_cell rfl rfl rfl (by decide +kernel) ⟨Nat.le_of_ble_eq_true rfl, Nat.le_of_ble_eq_true rfl⟩) hE hP hS nbo_1 rfl rfl hl.1 rfl (Nat.le_of_ble_eq_true rfl) dX8_tryTargets_13 (fun H locs hP hS => ?_)
  refine lv_istore (lv' := [(4, .int r1), (0, .ref (a 0)), (1, .int x1), (2, .int x2), (3, .int x3)]) hx hb dX8_tryTargets_16 hl (by decide) rfl (fun ls hl => ?_)
  refine lv_iconst (v := 0) hx hb dX8_tryTargets_18 (by decide) ?_
  refine lv_istore (lv' := [(5, .int 0), (4, .int r1), (0, .ref (a 0)), (1, .int x1), (2, .int x2), (3, .int x3)]) hx hb dX8_tryTargets_19 hl (by decide) rfl (fun ls hl => ?_)
  exact K21 σ2 x1 x2 x3 r1 0 H locs ls (lv_sub hl [2, 3, 4, 5, 1, 0] rfl) hP hS hf
def l_X8_tryTargets_83 (N : Nat) (k21 : nS → Int32 → Int32 → Int32 → Int32 → Int32 → Option (Int32 × nS)) : nS → Int32 → Int32 → Int32 → Int32 → Int32 → Option (Int32 × nS) := b_X8_tryTargets_83 N k21
theorem kl_X8_tryTargets_83 {p : Program} {l : Launch} {e : Env} {s : State} {m : MethodId} {args : Array Value} {below : List Frame} {meth : Method} {c : Code} {D : va_G} {A : Nat → Prop} {cy : Nat → ClassId} {a kt vt : Nat → Nat} {N : Nat}   (C0 : nCx p s m args meth c cX8_tryTargets 6 none RX8 wsX8_tryTargets) (hE : nEn D A cy (NBw cy a) kt vt s) {z : Int32 × nS} {k21 : nS → Int32 → Int32 → Int32 → Int32 → Int32 → Option (Int32 × nS)} (K21 : ∀ (σ : nS) (x1 : Int32) (x2 : Int32) (x3 : Int32) (x4 : Int32) (x5 : Int32) (H : Heap) (locs : List Loc) (ls : Array Slot), lv_has ls 6 [(0, .ref (a 0)), (1, .int x1), (2, .int x2), (3, .int x3), (4, .int x4), (5, .int x5)] → va_P D vwCl ((NBw cy a) σ) H → va_S A s.heap H locs → k21 σ x1 x2 x3 x4 x5 = some z → W p l e ({ frames := 5, cells := 0, slots := 0, locals := 117 } : Room) s m args below meth c H locs 0 0 (nQv below D A (NBw cy a) args s z) (F0 m 21 ls [])) : ∀ (σ : nS) (x1 : Int32) (x2 : Int32) (x3 : Int32) (x4 : Int32) (x5 : Int32) (H : Heap) (locs : List Loc) (ls : Array Slot), lv_has ls 6 [(0, .ref (a 0)), (1, .int x1), (2, .int x2), (3, .int x3), (4, .int x4), (5, .int x5)] → va_P D vwCl ((NBw cy a) σ) H → va_S A s.heap H locs → l_X8_tryTargets_83 N k21 σ x1 x2 x3 x4 x5 = some z → W p l e ({ frames := 5, cells := 0, slots := 0, locals := 117 } : Room) s m args below meth c H locs 0 0 (nQv below D A (NBw cy a) args s z) (F0 m 83 ls []) := by
  exact kb_X8_tryTargets_83 (N := N)  C0 hE K21
def l_X8_tryTargets_21 (N : Nat) : nS → Int32 → Int32 → Int32 → Int32 → Int32 → Option (Int32 × nS) := nLp (fun _ _ _ _ _ _ => none) (fun again => b_X8_tryTargets_21 N (l_X8_tryTargets_83 N again)) N
theorem kl_X8_tryTargets_21 {p : Program} {l : Launch} {e : Env} {s : State} {m : MethodId} {args : Array Value} {below : List Frame} {meth : Method} {c : Code} {D : va_G} {A : Nat → Prop} {cy : Nat → ClassId} {a kt vt : Nat → Nat} {N : Nat}   (C0 : nCx p s m args meth c cX8_tryTargets 6 none RX8 wsX8_tryTargets) (hE : nEn D A cy (NBw cy a) kt vt s) {z : Int32 × nS} : ∀ (σ : nS) (x1 : Int32) (x2 : Int32) (x3 : Int32) (x4 : Int32) (x5 : Int32) (H : Heap) (locs : List Loc) (ls : Array Slot), lv_has ls 6 [(0, .ref (a 0)), (1, .int x1), (2, .int x2), (3, .int x3), (4, .int x4), (5, .int x5)] → va_P D vwCl ((NBw cy a) σ) H → va_S A s.heap H locs → l_X8_tryTargets_21 N σ x1 x2 x3 x4 x5 = some z → W p l e ({ frames := 5, cells := 0, slots := 0, locals := 117 } : Room) s m args below meth c H locs 0 0 (nQv below D A (NBw cy a) args s z) (F0 m 21 ls []) := by
  have main : ∀ (fu : Nat), ∀ (σ : nS) (x1 : Int32) (x2 : Int32) (x3 : Int32) (x4 : Int32) (x5 : Int32) (H : Heap) (locs : List Loc) (ls : Array Slot), lv_has ls 6 [(0, .ref (a 0)), (1, .int x1), (2, .int x2), (3, .int x3), (4, .int x4), (5, .int x5)] → va_P D vwCl ((NBw cy a) σ) H → va_S A s.heap H locs → nLp (fun _ _ _ _ _ _ => none) (fun again => b_X8_tryTargets_21 N (l_X8_tryTargets_83 N again)) fu σ x1 x2 x3 x4 x5 = some z → W p l e ({ frames := 5, cells := 0, slots := 0, locals := 117 } : Room) s m args below meth c H locs 0 0 (nQv below D A (NBw cy a) args s z) (F0 m 21 ls []) := by
    intro fu
    induction fu with
    | zero => intro σ x1 x2 x3 x4 x5 H locs ls hl hP hS hf; cases hf
    | succ fu ih => exact kb_X8_tryTargets_21 (N := N)  C0 hE (kl_X8_tryTargets_83 (N := N)  C0 hE ih)
  exact main N
def l_X8_tryTargets_0 (N : Nat) : nS → Int32 → Int32 → Int32 → Option (Int32 × nS) := b_X8_tryTargets_0 N (l_X8_tryTargets_21 N)
theorem kl_X8_tryTargets_0 {p : Program} {l : Launch} {e : Env} {s : State} {m : MethodId} {args : Array Value} {below : List Frame} {meth : Method} {c : Code} {D : va_G} {A : Nat → Prop} {cy : Nat → ClassId} {a kt vt : Nat → Nat} {N : Nat}   (C0 : nCx p s m args meth c cX8_tryTargets 6 none RX8 wsX8_tryTargets) (hE : nEn D A cy (NBw cy a) kt vt s) {z : Int32 × nS} : ∀ (σ : nS) (x1 : Int32) (x2 : Int32) (x3 : Int32) (H : Heap) (locs : List Loc) (ls : Array Slot), lv_has ls 6 [(0, .ref (a 0)), (1, .int x1), (2, .int x2), (3, .int x3)] → va_P D vwCl ((NBw cy a) σ) H → va_S A s.heap H locs → l_X8_tryTargets_0 N σ x1 x2 x3 = some z → W p l e ({ frames := 5, cells := 0, slots := 0, locals := 117 } : Room) s m args below meth c H locs 0 0 (nQv below D A (NBw cy a) args s z) (F0 m 0 ls []) := by
  exact kb_X8_tryTargets_0 (N := N)  C0 hE (kl_X8_tryTargets_21 (N := N)  C0 hE)
def f_X8_tryTargets (N : Nat) (x1 : Int32) (x2 : Int32) (x3 : Int32) (σ : nS) : Option (Int32 × nS) := l_X8_tryTargets_0 N σ x1 x2 x3
set_option maxHeartbeats 4000000 in
set_option maxRecDepth 100000 in
theorem c_X8_tryTargets {l : Launch} {D : va_G} {A : Nat → Prop} {cy : Nat → ClassId} {a kt vt : Nat → Nat} {N : Nat}   {x1 : Int32} {x2 : Int32} {x3 : Int32} {σ : nS} {r : Int32} {σ' : nS} (hf : f_X8_tryTargets N x1 x2 x3 σ = some (r, σ')) : nMv l yX8_tryTargets wsX8_tryTargets ({ frames := 5, cells := 0, slots := 0, locals := 117 } : Room) D A cy (NBw cy a) kt vt [.ref (a 0), .int x1, .int x2, .int x3] σ σ' := by
  refine Met.ofW (cc := cX8_tryTargets) (maxL := 6) (ret := none) (by decide) rfl ?_
  intro p e s m args below meth c s₁ B hml hv
  obtain ⟨rfl, hP, hE⟩ := hv
  have hl := lv_entry ([.ref (a 0), .int x1, .int x2, .int x3]) (n := 6) (Nat.le_of_ble_eq_true rfl)
  rw [lg_entry_eq]
  generalize (lg_sl ([.ref (a 0), .int x1, .int x2, .int x3]) ++ List.replicate (6 - (lg_sl ([.ref (a 0), .int x1, .int x2, .int x3])).length) Slot.unset).toArray = ls at hl ⊢
  have C0 : nCx p s m _ meth c cX8_tryTargets 6 none RX8 wsX8_tryTargets := ⟨B.exec, B.bytes, B.returns, hml, findClass_of_methodNamed B.named, atoms_spec (ws := wsX8_tryTargets) B.pre, B.notSynchronized⟩
  exact kl_X8_tryTargets_0 (N := N)  C0 hE (z := (r, σ')) σ x1 x2 x3 _ _ ls hl hP va_S.rf hf

/-! X8_trySkills -/
set_option maxRecDepth 20000 in
theorem iX8_trySkills_X8 : ∀ w ∈ u_ws RX8 TX8 13, w ∈ wsX8_trySkills := fun _ h => List.mem_cons_of_mem _ (List.mem_append_left _ (List.mem_append_left _ (List.mem_append_left _ (List.mem_append_left _ (List.mem_append_left _ (List.mem_append_right _ h))))))
set_option maxRecDepth 20000 in
theorem qX8_trySkills_12 : Cond.fieldLink RX8 12 RX8 (TX8 0).2.1 (TX8 0).2.2.1 ∈ wsX8_trySkills := by decide +kernel
set_option maxRecDepth 20000 in
theorem qX8_trySkills_65 : Cond.fieldLink RX8 65 RX8 (TX8 9).2.1 (TX8 9).2.2.1 ∈ wsX8_trySkills := by decide +kernel
def b_X8_trySkills_57 (N : Nat) (k11 : nS → Int32 → Int32 → Int32 → Option (Int32 × nS)) (σ : nS) (x1 : Int32) (x2 : Int32) (x3 : Int32) : Option (Int32 × nS) := nLet (x3 + 1 : Int32) (fun v1 => k11 σ x1 x2 v1)
set_option maxHeartbeats 4000000 in
set_option maxRecDepth 100000 in
theorem kb_X8_trySkills_57 {p : Program} {l : Launch} {e : Env} {s : State} {m : MethodId} {args : Array Value} {below : List Frame} {meth : Method} {c : Code} {D : va_G} {A : Nat → Prop} {cy : Nat → ClassId} {a kt vt : Nat → Nat} {N : Nat}   (C0 : nCx p s m args meth c cX8_trySkills 5 none RX8 wsX8_trySkills) (hE : nEn D A cy (NBw cy a) kt vt s) {z : Int32 × nS} {k11 : nS → Int32 → Int32 → Int32 → Option (Int32 × nS)} (K11 : ∀ (σ : nS) (x1 : Int32) (x2 : Int32) (x3 : Int32) (H : Heap) (locs : List Loc) (ls : Array Slot), lv_has ls 5 [(0, .ref (a 0)), (1, .int x1), (2, .int x2), (3, .int x3)] → va_P D vwCl ((NBw cy a) σ) H → va_S A s.heap H locs → k11 σ x1 x2 x3 = some z → W p l e ({ frames := 5, cells := 0, slots := 0, locals := 117 } : Room) s m args below meth c H locs 0 0 (nQv below D A (NBw cy a) args s z) (F0 m 11 ls [])) : ∀ (σ : nS) (x1 : Int32) (x2 : Int32) (x3 : Int32) (H : Heap) (locs : List Loc) (ls : Array Slot), lv_has ls 5 [(0, .ref (a 0)), (1, .int x1), (2, .int x2), (3, .int x3)] → va_P D vwCl ((NBw cy a) σ) H → va_S A s.heap H locs → b_X8_trySkills_57 N k11 σ x1 x2 x3 = some z → W p l e ({ frames := 5, cells := 0, slots := 0, locals := 117 } : Room) s m args below meth c H locs 0 0 (nQv below D A (NBw cy a) args s z) (F0 m 57 ls []) := by
  obtain ⟨hx, hb, hr, hml, hown, hts, hlocks⟩ := C0
  intro σ x1 x2 x3 H locs ls hl hP hS hf
  unfold b_X8_trySkills_57 at hf
  obtain ⟨v1, ev1⟩ : ∃ y : Int32, y = x3 + 1 := ⟨_, rfl⟩
  replace hf := nLet_e hf ev1
  refine lv_iinc (v := v1) (lv' := [(3, .int v1), (0, .ref (a 0)), (1, .int x1), (2, .int x2)]) hx hb dX8_trySkills_57 hl (k := 3) rfl (by rw [ev1]; rfl) (by decide) rfl (fun ls hl => ?_)
  refine lv_goto (tgt := 11) hx hb dX8_trySkills_60 (by decide) ?_
  exact K11 σ x1 x2 v1 H locs ls (lv_sub hl [1, 2, 3, 0] rfl) hP hS hf
def b_X8_trySkills_11 (N : Nat) (k57 : nS → Int32 → Int32 → Int32 → Option (Int32 × nS)) (σ : nS) (x1 : Int32) (x2 : Int32) (x3 : Int32) : Option (Int32 × nS) := (if (8 : Int32) ≤ x3 then nBd (f_X7_setSkills N x1 x2 σ) (fun r1 σ2 => some (0, σ2)) else nLet ((1 : Int32) <<< (x3 &&& 31) : Int32) (fun v3 => nLet (x2 ||| v3 : Int32) (fun v4 => nBd (f_X7_setSkills N x1 v4 σ) (fun r5 σ6 => (if v4 = x2 then k57 σ6 x1 x2 x3 else nBd (f_X8_allCalm N σ6) (fun r7 σ8 => (if r7 = 0 then k57 σ8 x1 x2 x3 else nBd (f_X1_add N 3 x1 x3 σ8) (fun r9 σ10 => k57 σ10 x1 x2 x3))))))))
set_option maxHeartbeats 4000000 in
set_option maxRecDepth 100000 in
theorem kb_X8_trySkills_11 {p : Program} {l : Launch} {e : Env} {s : State} {m : MethodId} {args : Array Value} {below : List Frame} {meth : Method} {c : Code} {D : va_G} {A : Nat → Prop} {cy : Nat → ClassId} {a kt vt : Nat → Nat} {N : Nat}   (C0 : nCx p s m args meth c cX8_trySkills 5 none RX8 wsX8_trySkills) (hE : nEn D A cy (NBw cy a) kt vt s) {z : Int32 × nS} {k57 : nS → Int32 → Int32 → Int32 → Option (Int32 × nS)} (K57 : ∀ (σ : nS) (x1 : Int32) (x2 : Int32) (x3 : Int32) (H : Heap) (locs : List Loc) (ls : Array Slot), lv_has ls 5 [(0, .ref (a 0)), (1, .int x1), (2, .int x2), (3, .int x3)] → va_P D vwCl ((NBw cy a) σ) H → va_S A s.heap H locs → k57 σ x1 x2 x3 = some z → W p l e ({ frames := 5, cells := 0, slots := 0, locals := 117 } : Room) s m args below meth c H locs 0 0 (nQv below D A (NBw cy a) args s z) (F0 m 57 ls [])) : ∀ (σ : nS) (x1 : Int32) (x2 : Int32) (x3 : Int32) (H : Heap) (locs : List Loc) (ls : Array Slot), lv_has ls 5 [(0, .ref (a 0)), (1, .int x1), (2, .int x2), (3, .int x3)] → va_P D vwCl ((NBw cy a) σ) H → va_S A s.heap H locs → b_X8_trySkills_11 N k57 σ x1 x2 x3 = some z → W p l e ({ frames := 5, cells := 0, slots := 0, locals := 117 } : Room) s m args below meth c H locs 0 0 (nQv below D A (NBw cy a) args s z) (F0 m 11 ls []) := by
  obtain ⟨hx, hb, hr, hml, hown, hts, hlocks⟩ := C0
  intro σ x1 x2 x3 H locs ls hl hP hS hf
  unfold b_X8_trySkills_11 at hf
  refine lv_iload_n hx hb dX8_trySkills_11 rfl (lv_at hl 3 rfl) ?_
  refine lv_bipush (v := 8) hx hb dX8_trySkills_12 (by decide) ?_
  refine lv_icmp_ge (tgt := 63) hx hb dX8_trySkills_14 (by decide) (fun hc => ?_) (fun hc => ?_)
  · replace hf := nIf_t hc hf
    refine lv_aload_n hx hb dX8_trySkills_63 rfl (lv_at hl 0 rfl) ?_
    refine nb_get (ci := 8) hx hb hts iX8_trySkills_X8 hown hE hP 0 nbo_0 rfl 0 (by decide) qX8_trySkills_12 rfl rfl dX8_trySkills_64 ?_
    refine lv_iload_n hx hb dX8_trySkills_67 rfl (lv_at hl 1 rfl) ?_
    refine lv_iload_n hx hb dX8_trySkills_68 rfl (lv_at hl 2 rfl) ?_
    obtain ⟨r1, σ2, hc2, hf⟩ := nBd_e hf
    refine nb_callVv (As := [.int x1, .int x2]) (rest := []) ⟨hx, hb, hml, hown, hts⟩ (c_X7_setSkills (D := D) (A := A) (cy := cy) (a := a) (kt := kt) (vt := vt) (l := l)  hc2) (cwV 2 hts gX8_trySkills_X7_setSkills rfl rfl rfl (by decide +kernel) ⟨Nat.le_of_ble_eq_true rfl, Nat.le_of_ble_eq_true rfl⟩) hE hP hS nbo_1 rfl rfl hl.1 rfl (Nat.le_of_ble_eq_true rfl) dX8_trySkills_69 (fun H locs hP hS => ?_)
    exact nb_vret hx hb hr hlocks hP hS (nSo hf) dX8_trySkills_72
  · replace hf := nIf_f hc hf
    refine lv_iload_n hx hb dX8_trySkills_17 rfl (lv_at hl 2 rfl) ?_
    refine lv_iconst (v := 1) hx hb dX8_trySkills_18 (by decide) ?_
    refine lv_iload_n hx hb dX8_trySkills_19 rfl (lv_at hl 3 rfl) ?_
    refine lv_ishl hx hb dX8_trySkills_20 ?_
    refine lv_topi (fun v3 ev3 => ?_)
    replace hf := nLet_e hf ev3
    refine lv_ior hx hb dX8_trySkills_21 ?_
    refine lv_topi (fun v4 ev4 => ?_)
    replace hf := nLet_e hf ev4
    refine lv_istore (lv' := [(4, .int v4), (0, .ref (a 0)), (1, .int x1), (2, .int x2), (3, .int x3)]) hx hb dX8_trySkills_22 hl (by decide) rfl (fun ls hl => ?_)
    refine lv_aload_n hx hb dX8_trySkills_24 rfl (lv_at hl 1 rfl) ?_
    refine nb_get (ci := 8) hx hb hts iX8_trySkills_X8 hown hE hP 0 nbo_0 rfl 0 (by decide) qX8_trySkills_12 rfl rfl dX8_trySkills_25 ?_
    refine lv_iload_n hx hb dX8_trySkills_28 rfl (lv_at hl 2 rfl) ?_
    refine lv_iload hx hb dX8_trySkills_29 (lv_at hl 0 rfl) ?_
    obtain ⟨r5, σ6, hc6, hf⟩ := nBd_e hf
    refine nb_callVv (As := [.int x1, .int v4]) (rest := []) ⟨hx, hb, hml, hown, hts⟩ (c_X7_setSkills (D := D) (A := A) (cy := cy) (a := a) (kt := kt) (vt := vt) (l := l)  hc6) (cwV 2 hts gX8_trySkills_X7_setSkills rfl rfl rfl (by decide +kernel) ⟨Nat.le_of_ble_eq_true rfl, Nat.le_of_ble_eq_true rfl⟩) hE hP hS nbo_1 rfl rfl hl.1 rfl (Nat.le_of_ble_eq_true rfl) dX8_trySkills_31 (fun H locs hP hS => ?_)
    refine lv_iload hx hb dX8_trySkills_34 (lv_at hl 0 rfl) ?_
    refine lv_iload_n hx hb dX8_trySkills_36 rfl (lv_at hl 3 rfl) ?_
    refine lv_icmp_eq (tgt := 57) hx hb dX8_trySkills_37 (by decide) (fun hc => ?_) (fun hc => ?_)
    · replace hf := nIf_t hc hf
      exact K57 σ6 x1 x2 x3 H locs ls (lv_sub hl [1, 2, 3, 4] rfl) hP hS hf
    · replace hf := nIf_f hc hf
      refine lv_aload_n hx hb dX8_trySkills_40 rfl (lv_at hl 1 rfl) ?_
      obtain ⟨r7, σ8, hc8, hf⟩ := nBd_e hf
      refine nb_callVi (As := []) (rest := []) ⟨hx, hb, hml, hown, hts⟩ (c_X8_allCalm (D := D) (A := A) (cy := cy) (a := a) (kt := kt) (vt := vt) (l := l)  hc8) (cwV 0 hts gX8_trySkills_X8_allCalm rfl rfl rfl (by decide +kernel) ⟨Nat.le_of_ble_eq_true rfl, Nat.le_of_ble_eq_true rfl⟩) hE hP hS nbo_0 rfl rfl hl.1 rfl (Nat.le_of_ble_eq_true rfl) dX8_trySkills_41 (fun H locs hP hS => ?_)
      refine lv_if_eq (tgt := 57) hx hb dX8_trySkills_44 (by decide) (fun hc => ?_) (fun hc => ?_)
      · replace hf := nIf_t hc hf
        exact K57 σ8 x1 x2 x3 H locs ls (lv_sub hl [1, 2, 3, 4] rfl) hP hS hf
      · replace hf := nIf_f hc hf
        refine lv_aload_n hx hb dX8_trySkills_47 rfl (lv_at hl 1 rfl) ?_
        refine nb_get (ci := 8) hx hb hts iX8_trySkills_X8 hown hE hP 0 nbo_0 rfl 9 (by decide) qX8_trySkills_65 rfl rfl dX8_trySkills_48 ?_
        refine lv_iconst (v := 3) hx hb dX8_trySkills_51 (by decide) ?_
        refine lv_iload_n hx hb dX8_trySkills_52 rfl (lv_at hl 2 rfl) ?_
        refine lv_iload_n hx hb dX8_trySkills_53 rfl (lv_at hl 4 rfl) ?_
        obtain ⟨r9, σ10, hc10, hf⟩ := nBd_e hf
        refine nb_callVv (As := [.int 3, .int x1, .int x3]) (rest := []) ⟨hx, hb, hml, hown, hts⟩ (c_X1_add (D := D) (A := A) (cy := cy) (a := a) (kt := kt) (vt := vt) (l := l)  hc10) (cwV 3 hts gX8_trySkills_X1_add rfl rfl rfl (by decide +kernel) ⟨Nat.le_of_ble_eq_true rfl, Nat.le_of_ble_eq_true rfl⟩) hE hP hS nbo_19 rfl rfl hl.1 rfl (Nat.le_of_ble_eq_true rfl) dX8_trySkills_54 (fun H locs hP hS => ?_)
        exact K57 σ10 x1 x2 x3 H locs ls (lv_sub hl [1, 2, 3, 4] rfl) hP hS hf
def b_X8_trySkills_0 (N : Nat) (k11 : nS → Int32 → Int32 → Int32 → Option (Int32 × nS)) (σ : nS) (x1 : Int32) : Option (Int32 × nS) := nBd (f_X7_skillsOf N x1 σ) (fun r1 σ2 => k11 σ2 x1 r1 0)
set_option maxHeartbeats 4000000 in
set_option maxRecDepth 100000 in
theorem kb_X8_trySkills_0 {p : Program} {l : Launch} {e : Env} {s : State} {m : MethodId} {args : Array Value} {below : List Frame} {meth : Method} {c : Code} {D : va_G} {A : Nat → Prop} {cy : Nat → ClassId} {a kt vt : Nat → Nat} {N : Nat}   (C0 : nCx p s m args meth c cX8_trySkills 5 none RX8 wsX8_trySkills) (hE : nEn D A cy (NBw cy a) kt vt s) {z : Int32 × nS} {k11 : nS → Int32 → Int32 → Int32 → Option (Int32 × nS)} (K11 : ∀ (σ : nS) (x1 : Int32) (x2 : Int32) (x3 : Int32) (H : Heap) (locs : List Loc) (ls : Array Slot), lv_has ls 5 [(0, .ref (a 0)), (1, .int x1), (2, .int x2), (3, .int x3)] → va_P D vwCl ((NBw cy a) σ) H → va_S A s.heap H locs → k11 σ x1 x2 x3 = some z → W p l e ({ frames := 5, cells := 0, slots := 0, locals := 117 } : Room) s m args below meth c H locs 0 0 (nQv below D A (NBw cy a) args s z) (F0 m 11 ls [])) : ∀ (σ : nS) (x1 : Int32) (H : Heap) (locs : List Loc) (ls : Array Slot), lv_has ls 5 [(0, .ref (a 0)), (1, .int x1)] → va_P D vwCl ((NBw cy a) σ) H → va_S A s.heap H locs → b_X8_trySkills_0 N k11 σ x1 = some z → W p l e ({ frames := 5, cells := 0, slots := 0, locals := 117 } : Room) s m args below meth c H locs 0 0 (nQv below D A (NBw cy a) args s z) (F0 m 0 ls []) := by
  obtain ⟨hx, hb, hr, hml, hown, hts, hlocks⟩ := C0
  intro σ x1 H locs ls hl hP hS hf
  unfold b_X8_trySkills_0 at hf
  refine lv_aload_n hx hb dX8_trySkills_0 rfl (lv_at hl 0 rfl) ?_
  refine nb_get (ci := 8) hx hb hts iX8_trySkills_X8 hown hE hP 0 nbo_0 rfl 0 (by decide) qX8_trySkills_12 rfl rfl dX8_trySkills_1 ?_
  refine lv_iload_n hx hb dX8_trySkills_4 rfl (lv_at hl 1 rfl) ?_
  obtain ⟨r1, σ2, hc2, hf⟩ := nBd_e hf
  refine nb_callVi (As := [.int x1]) (rest := []) ⟨hx, hb, hml, hown, hts⟩ (c_X7_skillsOf (D := D) (A := A) (cy := cy) (a := a) (kt := kt) (vt := vt) (l := l)  hc2) (cwV 1 hts gX8_trySkills_X7_skillsOf rfl rfl rfl (by decide +kernel) ⟨Nat.le_of_ble_eq_true rfl, Nat.le_of_ble_eq_true rfl⟩) hE hP hS nbo_1 rfl rfl hl.1 rfl (Nat.le_of_ble_eq_true rfl) dX8_trySkills_5 (fun H locs hP hS => ?_)
  refine lv_istore_n (lv' := [(2, .int r1), (0, .ref (a 0)), (1, .int x1)]) hx hb dX8_trySkills_8 rfl hl (by decide) rfl (fun ls hl => ?_)
  refine lv_iconst (v := 0) hx hb dX8_trySkills_9 (by decide) ?_
  refine lv_istore_n (lv' := [(3, .int 0), (2, .int r1), (0, .ref (a 0)), (1, .int x1)]) hx hb dX8_trySkills_10 rfl hl (by decide) rfl (fun ls hl => ?_)
  exact K11 σ2 x1 r1 0 H locs ls (lv_sub hl [2, 3, 1, 0] rfl) hP hS hf
def l_X8_trySkills_57 (N : Nat) (k11 : nS → Int32 → Int32 → Int32 → Option (Int32 × nS)) : nS → Int32 → Int32 → Int32 → Option (Int32 × nS) := b_X8_trySkills_57 N k11
theorem kl_X8_trySkills_57 {p : Program} {l : Launch} {e : Env} {s : State} {m : MethodId} {args : Array Value} {below : List Frame} {meth : Method} {c : Code} {D : va_G} {A : Nat → Prop} {cy : Nat → ClassId} {a kt vt : Nat → Nat} {N : Nat}   (C0 : nCx p s m args meth c cX8_trySkills 5 none RX8 wsX8_trySkills) (hE : nEn D A cy (NBw cy a) kt vt s) {z : Int32 × nS} {k11 : nS → Int32 → Int32 → Int32 → Option (Int32 × nS)} (K11 : ∀ (σ : nS) (x1 : Int32) (x2 : Int32) (x3 : Int32) (H : Heap) (locs : List Loc) (ls : Array Slot), lv_has ls 5 [(0, .ref (a 0)), (1, .int x1), (2, .int x2), (3, .int x3)] → va_P D vwCl ((NBw cy a) σ) H → va_S A s.heap H locs → k11 σ x1 x2 x3 = some z → W p l e ({ frames := 5, cells := 0, slots := 0, locals := 117 } : Room) s m args below meth c H locs 0 0 (nQv below D A (NBw cy a) args s z) (F0 m 11 ls [])) : ∀ (σ : nS) (x1 : Int32) (x2 : Int32) (x3 : Int32) (H : Heap) (locs : List Loc) (ls : Array Slot), lv_has ls 5 [(0, .ref (a 0)), (1, .int x1), (2, .int x2), (3, .int x3)] → va_P D vwCl ((NBw cy a) σ) H → va_S A s.heap H locs → l_X8_trySkills_57 N k11 σ x1 x2 x3 = some z → W p l e ({ frames := 5, cells := 0, slots := 0, locals := 117 } : Room) s m args below meth c H locs 0 0 (nQv below D A (NBw cy a) args s z) (F0 m 57 ls []) := by
  exact kb_X8_trySkills_57 (N := N)  C0 hE K11
def l_X8_trySkills_11 (N : Nat) : nS → Int32 → Int32 → Int32 → Option (Int32 × nS) := nLp (fun _ _ _ _ => none) (fun again => b_X8_trySkills_11 N (l_X8_trySkills_57 N again)) N
theorem kl_X8_trySkills_11 {p : Program} {l : Launch} {e : Env} {s : State} {m : MethodId} {args : Array Value} {below : List Frame} {meth : Method} {c : Code} {D : va_G} {A : Nat → Prop} {cy : Nat → ClassId} {a kt vt : Nat → Nat} {N : Nat}   (C0 : nCx p s m args meth c cX8_trySkills 5 none RX8 wsX8_trySkills) (hE : nEn D A cy (NBw cy a) kt vt s) {z : Int32 × nS} : ∀ (σ : nS) (x1 : Int32) (x2 : Int32) (x3 : Int32) (H : Heap) (locs : List Loc) (ls : Array Slot), lv_has ls 5 [(0, .ref (a 0)), (1, .int x1), (2, .int x2), (3, .int x3)] → va_P D vwCl ((NBw cy a) σ) H → va_S A s.heap H locs → l_X8_trySkills_11 N σ x1 x2 x3 = some z → W p l e ({ frames := 5, cells := 0, slots := 0, locals := 117 } : Room) s m args below meth c H locs 0 0 (nQv below D A (NBw cy a) args s z) (F0 m 11 ls []) := by
  have main : ∀ (fu : Nat), ∀ (σ : nS) (x1 : Int32) (x2 : Int32) (x3 : Int32) (H : Heap) (locs : List Loc) (ls : Array Slot), lv_has ls 5 [(0, .ref (a 0)), (1, .int x1), (2, .int x2), (3, .int x3)] → va_P D vwCl ((NBw cy a) σ) H → va_S A s.heap H locs → nLp (fun _ _ _ _ => none) (fun again => b_X8_trySkills_11 N (l_X8_trySkills_57 N again)) fu σ x1 x2 x3 = some z → W p l e ({ frames := 5, cells := 0, slots := 0, locals := 117 } : Room) s m args below meth c H locs 0 0 (nQv below D A (NBw cy a) args s z) (F0 m 11 ls []) := by
    intro fu
    induction fu with
    | zero => intro σ x1 x2 x3 H locs ls hl hP hS hf; cases hf
    | succ fu ih => exact kb_X8_trySkills_11 (N := N)  C0 hE (kl_X8_trySkills_57 (N := N)  C0 hE ih)
  exact main N
def l_X8_trySkills_0 (N : Nat) : nS → Int32 → Option (Int32 × nS) := b_X8_trySkills_0 N (l_X8_trySkills_11 N)
theorem kl_X8_trySkills_0 {p : Program} {l : Launch} {e : Env} {s : State} {m : MethodId} {args : Array Value} {below : List Frame} {meth : Method} {c : Code} {D : va_G} {A : Nat → Prop} {cy : Nat → ClassId} {a kt vt : Nat → Nat} {N : Nat}   (C0 : nCx p s m args meth c cX8_trySkills 5 none RX8 wsX8_trySkills) (hE : nEn D A cy (NBw cy a) kt vt s) {z : Int32 × nS} : ∀ (σ : nS) (x1 : Int32) (H : Heap) (locs : List Loc) (ls : Array Slot), lv_has ls 5 [(0, .ref (a 0)), (1, .int x1)] → va_P D vwCl ((NBw cy a) σ) H → va_S A s.heap H locs → l_X8_trySkills_0 N σ x1 = some z → W p l e ({ frames := 5, cells := 0, slots := 0, locals := 117 } : Room) s m args below meth c H locs 0 0 (nQv below D A (NBw cy a) args s z) (F0 m 0 ls []) := by
  exact kb_X8_trySkills_0 (N := N)  C0 hE (kl_X8_trySkills_11 (N := N)  C0 hE)
def f_X8_trySkills (N : Nat) (x1 : Int32) (σ : nS) : Option (Int32 × nS) := l_X8_trySkills_0 N σ x1
set_option maxHeartbeats 4000000 in
set_option maxRecDepth 100000 in
theorem c_X8_trySkills {l : Launch} {D : va_G} {A : Nat → Prop} {cy : Nat → ClassId} {a kt vt : Nat → Nat} {N : Nat}   {x1 : Int32} {σ : nS} {r : Int32} {σ' : nS} (hf : f_X8_trySkills N x1 σ = some (r, σ')) : nMv l yX8_trySkills wsX8_trySkills ({ frames := 5, cells := 0, slots := 0, locals := 117 } : Room) D A cy (NBw cy a) kt vt [.ref (a 0), .int x1] σ σ' := by
  refine Met.ofW (cc := cX8_trySkills) (maxL := 5) (ret := none) (by decide) rfl ?_
  intro p e s m args below meth c s₁ B hml hv
  obtain ⟨rfl, hP, hE⟩ := hv
  have hl := lv_entry ([.ref (a 0), .int x1]) (n := 5) (Nat.le_of_ble_eq_true rfl)
  rw [lg_entry_eq]
  generalize (lg_sl ([.ref (a 0), .int x1]) ++ List.replicate (5 - (lg_sl ([.ref (a 0), .int x1])).length) Slot.unset).toArray = ls at hl ⊢
  have C0 : nCx p s m _ meth c cX8_trySkills 5 none RX8 wsX8_trySkills := ⟨B.exec, B.bytes, B.returns, hml, findClass_of_methodNamed B.named, atoms_spec (ws := wsX8_trySkills) B.pre, B.notSynchronized⟩
  exact kl_X8_trySkills_0 (N := N)  C0 hE (z := (r, σ')) σ x1 _ _ ls hl hP va_S.rf hf

/-! X8_mends -/
set_option maxRecDepth 20000 in
theorem iX8_mends_X8 : ∀ w ∈ u_ws RX8 TX8 13, w ∈ wsX8_mends := fun _ h => List.mem_cons_of_mem _ (List.mem_append_left _ (List.mem_append_left _ (List.mem_append_left _ (List.mem_append_left _ (List.mem_append_left _ (List.mem_append_right _ h))))))
set_option maxRecDepth 20000 in
theorem qX8_mends_58 : Cond.fieldLink RX8 58 RX8 (TX8 8).2.1 (TX8 8).2.2.1 ∈ wsX8_mends := by decide +kernel
set_option maxRecDepth 20000 in
theorem iX8_mends_X5 : ∀ w ∈ u_ws RX5 TX5 11, w ∈ wsX8_mends := fun _ h => List.mem_cons_of_mem _ (List.mem_append_left _ (List.mem_append_left _ (List.mem_append_left _ (List.mem_append_left _ (List.mem_append_right _ h)))))
set_option maxRecDepth 20000 in
theorem qX8_mends_65 : Cond.fieldLink RX8 65 RX8 (TX8 9).2.1 (TX8 9).2.2.1 ∈ wsX8_mends := by decide +kernel
set_option maxRecDepth 20000 in
theorem qX8_mends_12 : Cond.fieldLink RX8 12 RX8 (TX8 0).2.1 (TX8 0).2.2.1 ∈ wsX8_mends := by decide +kernel
set_option maxRecDepth 20000 in
theorem iX8_mends_X7 : ∀ w ∈ u_ws RX7 TX7 9, w ∈ wsX8_mends := fun _ h => List.mem_cons_of_mem _ (List.mem_append_left _ (List.mem_append_left _ (List.mem_append_left _ (List.mem_append_right _ h))))
set_option maxRecDepth 20000 in
theorem iX8_mends_X1 : ∀ w ∈ u_ws RX1 TX1 4, w ∈ wsX8_mends := fun _ h => List.mem_cons_of_mem _ (List.mem_append_left _ (List.mem_append_left _ (List.mem_append_right _ h)))
def b_X8_mends_151 (N : Nat) (k82 : nS → Int32 → Option (Int32 × nS)) (σ : nS) (x1 : Int32) : Option (Int32 × nS) := nLet (x1 + 1 : Int32) (fun v1 => k82 σ v1)
set_option maxHeartbeats 4000000 in
set_option maxRecDepth 100000 in
theorem kb_X8_mends_151 {p : Program} {l : Launch} {e : Env} {s : State} {m : MethodId} {args : Array Value} {below : List Frame} {meth : Method} {c : Code} {D : va_G} {A : Nat → Prop} {cy : Nat → ClassId} {a kt vt : Nat → Nat} {N : Nat}   (C0 : nCx p s m args meth c cX8_mends 3 (some .int) RX8 wsX8_mends) (hE : nEn D A cy (NBw cy a) kt vt s) {z : Int32 × nS} {k82 : nS → Int32 → Option (Int32 × nS)} (K82 : ∀ (σ : nS) (x1 : Int32) (H : Heap) (locs : List Loc) (ls : Array Slot), lv_has ls 3 [(0, .ref (a 0)), (1, .int x1)] → va_P D vwCl ((NBw cy a) σ) H → va_S A s.heap H locs → k82 σ x1 = some z → W p l e ({ frames := 6, cells := 0, slots := 0, locals := 142 } : Room) s m args below meth c H locs 0 0 (nQi below D A (NBw cy a) args s z) (F0 m 82 ls [])) : ∀ (σ : nS) (x1 : Int32) (H : Heap) (locs : List Loc) (ls : Array Slot), lv_has ls 3 [(0, .ref (a 0)), (1, .int x1)] → va_P D vwCl ((NBw cy a) σ) H → va_S A s.heap H locs → b_X8_mends_151 N k82 σ x1 = some z → W p l e ({ frames := 6, cells := 0, slots := 0, locals := 142 } : Room) s m args below meth c H locs 0 0 (nQi below D A (NBw cy a) args s z) (F0 m 151 ls []) := by
  obtain ⟨hx, hb, hr, hml, hown, hts, hlocks⟩ := C0
  intro σ x1 H locs ls hl hP hS hf
  unfold b_X8_mends_151 at hf
  obtain ⟨v1, ev1⟩ : ∃ y : Int32, y = x1 + 1 := ⟨_, rfl⟩
  replace hf := nLet_e hf ev1
  refine lv_iinc (v := v1) (lv' := [(1, .int v1), (0, .ref (a 0))]) hx hb dX8_mends_151 hl (k := 1) rfl (by rw [ev1]; rfl) (by decide) rfl (fun ls hl => ?_)
  refine lv_goto (tgt := 82) hx hb dX8_mends_154 (by decide) ?_
  exact K82 σ v1 H locs ls (lv_sub hl [1, 0] rfl) hP hS hf
def b_X8_mends_159 (N : Nat) (k159 : nS → Int32 → Option (Int32 × nS)) (σ : nS) (x1 : Int32) : Option (Int32 × nS) := (if (σ.1 1 2) ≤ x1 then nBd (f_X8_accept N (σ.1 19 0) σ) (fun r1 σ2 => some (r1, σ2)) else nBd (f_X8_trySkills N x1 σ) (fun r3 σ4 => nLet (x1 + 1 : Int32) (fun v5 => k159 σ4 v5)))
set_option maxHeartbeats 4000000 in
set_option maxRecDepth 100000 in
theorem kb_X8_mends_159 {p : Program} {l : Launch} {e : Env} {s : State} {m : MethodId} {args : Array Value} {below : List Frame} {meth : Method} {c : Code} {D : va_G} {A : Nat → Prop} {cy : Nat → ClassId} {a kt vt : Nat → Nat} {N : Nat}   (C0 : nCx p s m args meth c cX8_mends 3 (some .int) RX8 wsX8_mends) (hE : nEn D A cy (NBw cy a) kt vt s) {z : Int32 × nS} {k159 : nS → Int32 → Option (Int32 × nS)} (K159 : ∀ (σ : nS) (x1 : Int32) (H : Heap) (locs : List Loc) (ls : Array Slot), lv_has ls 3 [(0, .ref (a 0)), (1, .int x1)] → va_P D vwCl ((NBw cy a) σ) H → va_S A s.heap H locs → k159 σ x1 = some z → W p l e ({ frames := 6, cells := 0, slots := 0, locals := 142 } : Room) s m args below meth c H locs 0 0 (nQi below D A (NBw cy a) args s z) (F0 m 159 ls [])) : ∀ (σ : nS) (x1 : Int32) (H : Heap) (locs : List Loc) (ls : Array Slot), lv_has ls 3 [(0, .ref (a 0)), (1, .int x1)] → va_P D vwCl ((NBw cy a) σ) H → va_S A s.heap H locs → b_X8_mends_159 N k159 σ x1 = some z → W p l e ({ frames := 6, cells := 0, slots := 0, locals := 142 } : Room) s m args below meth c H locs 0 0 (nQi below D A (NBw cy a) args s z) (F0 m 159 ls []) := by
  obtain ⟨hx, hb, hr, hml, hown, hts, hlocks⟩ := C0
  intro σ x1 H locs ls hl hP hS hf
  unfold b_X8_mends_159 at hf
  refine lv_iload_n hx hb dX8_mends_159 rfl (lv_at hl 1 rfl) ?_
  refine lv_aload_n hx hb dX8_mends_160 rfl (lv_at hl 0 rfl) ?_
  refine nb_get (ci := 8) hx hb hts iX8_mends_X8 hown hE hP 0 nbo_0 rfl 0 (by decide) qX8_mends_12 rfl rfl dX8_mends_161 ?_
  refine nb_getN (ci := 7) hx hb hts iX8_mends_X7 hown hE hP 1 nbo_1 rfl 2 (by decide) (host := RX8) (by decide +kernel) rfl rfl dX8_mends_164 ?_
  refine lv_icmp_ge (tgt := 181) hx hb dX8_mends_167 (by decide) (fun hc => ?_) (fun hc => ?_)
  · replace hf := nIf_t hc hf
    refine lv_aload_n hx hb dX8_mends_181 rfl (lv_at hl 0 rfl) ?_
    refine lv_aload_n hx hb dX8_mends_182 rfl (lv_at hl 0 rfl) ?_
    refine nb_get (ci := 8) hx hb hts iX8_mends_X8 hown hE hP 0 nbo_0 rfl 9 (by decide) qX8_mends_65 rfl rfl dX8_mends_183 ?_
    refine nb_getN (ci := 1) hx hb hts iX8_mends_X1 hown hE hP 19 nbo_19 rfl 0 (by decide) (host := RX8) (by decide +kernel) rfl rfl dX8_mends_186 ?_
    obtain ⟨r1, σ2, hc2, hf⟩ := nBd_e hf
    refine nb_callVi (As := [.int (σ.1 19 0)]) (rest := []) ⟨hx, hb, hml, hown, hts⟩ (c_X8_accept (D := D) (A := A) (cy := cy) (a := a) (kt := kt) (vt := vt) (l := l)  hc2) (cwV 1 hts gX8_mends_X8_accept rfl rfl rfl (by decide +kernel) ⟨Nat.le_of_ble_eq_true rfl, Nat.le_of_ble_eq_true rfl⟩) hE hP hS nbo_0 rfl rfl hl.1 rfl (Nat.le_of_ble_eq_true rfl) dX8_mends_189 (fun H locs hP hS => ?_)
    exact nb_iret hx hb hr hlocks hP hS (nSo hf) dX8_mends_192
  · replace hf := nIf_f hc hf
    refine lv_aload_n hx hb dX8_mends_170 rfl (lv_at hl 0 rfl) ?_
    refine lv_iload_n hx hb dX8_mends_171 rfl (lv_at hl 1 rfl) ?_
    obtain ⟨r3, σ4, hc4, hf⟩ := nBd_e hf
    refine nb_callVv (As := [.int x1]) (rest := []) ⟨hx, hb, hml, hown, hts⟩ (c_X8_trySkills (D := D) (A := A) (cy := cy) (a := a) (kt := kt) (vt := vt) (l := l)  hc4) (cwV 1 hts gX8_mends_X8_trySkills rfl rfl rfl (by decide +kernel) ⟨Nat.le_of_ble_eq_true rfl, Nat.le_of_ble_eq_true rfl⟩) hE hP hS nbo_0 rfl rfl hl.1 rfl (Nat.le_of_ble_eq_true rfl) dX8_mends_172 (fun H locs hP hS => ?_)
    obtain ⟨v5, ev5⟩ : ∃ y : Int32, y = x1 + 1 := ⟨_, rfl⟩
    replace hf := nLet_e hf ev5
    refine lv_iinc (v := v5) (lv' := [(1, .int v5), (0, .ref (a 0))]) hx hb dX8_mends_175 hl (k := 1) rfl (by rw [ev5]; rfl) (by decide) rfl (fun ls hl => ?_)
    refine lv_goto (tgt := 159) hx hb dX8_mends_178 (by decide) ?_
    exact K159 σ4 v5 H locs ls (lv_sub hl [1, 0] rfl) hP hS hf
def b_X8_mends_82 (N : Nat) (k151 : nS → Int32 → Option (Int32 × nS)) (k159 : nS → Int32 → Option (Int32 × nS)) (σ : nS) (x1 : Int32) : Option (Int32 × nS) := nBd (f_X7_sizeOf N (σ.1 16 3) σ) (fun r1 σ2 => (if r1 ≤ x1 then k159 σ2 0 else nBd (f_X7_cell N (σ2.1 16 3) x1 0 σ2) (fun r3 σ4 => (if r3 = 2 then nBd (f_X8_tryTargets N 0 x1 2 σ4) (fun r7 σ8 => nBd (f_X8_tryTargets N 1 x1 3 σ8) (fun r9 σ10 => k151 σ10 x1)) else (if r3 = 4 then nBd (f_X8_tryTargets N 2 x1 1 σ4) (fun r5 σ6 => k151 σ6 x1) else k151 σ4 x1)))))
set_option maxHeartbeats 4000000 in
set_option maxRecDepth 100000 in
theorem kb_X8_mends_82 {p : Program} {l : Launch} {e : Env} {s : State} {m : MethodId} {args : Array Value} {below : List Frame} {meth : Method} {c : Code} {D : va_G} {A : Nat → Prop} {cy : Nat → ClassId} {a kt vt : Nat → Nat} {N : Nat}   (C0 : nCx p s m args meth c cX8_mends 3 (some .int) RX8 wsX8_mends) (hE : nEn D A cy (NBw cy a) kt vt s) {z : Int32 × nS} {k151 : nS → Int32 → Option (Int32 × nS)} (K151 : ∀ (σ : nS) (x1 : Int32) (H : Heap) (locs : List Loc) (ls : Array Slot), lv_has ls 3 [(0, .ref (a 0)), (1, .int x1)] → va_P D vwCl ((NBw cy a) σ) H → va_S A s.heap H locs → k151 σ x1 = some z → W p l e ({ frames := 6, cells := 0, slots := 0, locals := 142 } : Room) s m args below meth c H locs 0 0 (nQi below D A (NBw cy a) args s z) (F0 m 151 ls [])) {k159 : nS → Int32 → Option (Int32 × nS)} (K159 : ∀ (σ : nS) (x1 : Int32) (H : Heap) (locs : List Loc) (ls : Array Slot), lv_has ls 3 [(0, .ref (a 0)), (1, .int x1)] → va_P D vwCl ((NBw cy a) σ) H → va_S A s.heap H locs → k159 σ x1 = some z → W p l e ({ frames := 6, cells := 0, slots := 0, locals := 142 } : Room) s m args below meth c H locs 0 0 (nQi below D A (NBw cy a) args s z) (F0 m 159 ls [])) : ∀ (σ : nS) (x1 : Int32) (H : Heap) (locs : List Loc) (ls : Array Slot), lv_has ls 3 [(0, .ref (a 0)), (1, .int x1)] → va_P D vwCl ((NBw cy a) σ) H → va_S A s.heap H locs → b_X8_mends_82 N k151 k159 σ x1 = some z → W p l e ({ frames := 6, cells := 0, slots := 0, locals := 142 } : Room) s m args below meth c H locs 0 0 (nQi below D A (NBw cy a) args s z) (F0 m 82 ls []) := by
  obtain ⟨hx, hb, hr, hml, hown, hts, hlocks⟩ := C0
  intro σ x1 H locs ls hl hP hS hf
  unfold b_X8_mends_82 at hf
  refine lv_iload_n hx hb dX8_mends_82 rfl (lv_at hl 1 rfl) ?_
  refine lv_aload_n hx hb dX8_mends_83 rfl (lv_at hl 0 rfl) ?_
  refine nb_get (ci := 8) hx hb hts iX8_mends_X8 hown hE hP 0 nbo_0 rfl 0 (by decide) qX8_mends_12 rfl rfl dX8_mends_84 ?_
  refine lv_aload_n hx hb dX8_mends_87 rfl (lv_at hl 0 rfl) ?_
  refine nb_get (ci := 8) hx hb hts iX8_mends_X8 hown hE hP 0 nbo_0 rfl 8 (by decide) qX8_mends_58 rfl rfl dX8_mends_88 ?_
  refine nb_getN (ci := 5) hx hb hts iX8_mends_X5 hown hE hP 16 nbo_16 rfl 3 (by decide) (host := RX8) (by decide +kernel) rfl rfl dX8_mends_91 ?_
  obtain ⟨r1, σ2, hc2, hf⟩ := nBd_e hf
  refine nb_callVi (As := [.int (σ.1 16 3)]) (rest := [.int x1]) ⟨hx, hb, hml, hown, hts⟩ (c_X7_sizeOf (D := D) (A := A) (cy := cy) (a := a) (kt := kt) (vt := vt) (l := l)  hc2) (cwV 1 hts gX8_mends_X7_sizeOf rfl rfl rfl (by decide +kernel) ⟨Nat.le_of_ble_eq_true rfl, Nat.le_of_ble_eq_true rfl⟩) hE hP hS nbo_1 rfl rfl hl.1 rfl (Nat.le_of_ble_eq_true rfl) dX8_mends_94 (fun H locs hP hS => ?_)
  refine lv_icmp_ge (tgt := 157) hx hb dX8_mends_97 (by decide) (fun hc => ?_) (fun hc => ?_)
  · replace hf := nIf_t hc hf
    refine lv_iconst (v := 0) hx hb dX8_mends_157 (by decide) ?_
    refine lv_istore_n (lv' := [(1, .int 0), (0, .ref (a 0))]) hx hb dX8_mends_158 rfl hl (by decide) rfl (fun ls hl => ?_)
    exact K159 σ2 0 H locs ls (lv_sub hl [1, 0] rfl) hP hS hf
  · replace hf := nIf_f hc hf
    refine lv_aload_n hx hb dX8_mends_100 rfl (lv_at hl 0 rfl) ?_
    refine nb_get (ci := 8) hx hb hts iX8_mends_X8 hown hE hP 0 nbo_0 rfl 0 (by decide) qX8_mends_12 rfl rfl dX8_mends_101 ?_
    refine lv_aload_n hx hb dX8_mends_104 rfl (lv_at hl 0 rfl) ?_
    refine nb_get (ci := 8) hx hb hts iX8_mends_X8 hown hE hP 0 nbo_0 rfl 8 (by decide) qX8_mends_58 rfl rfl dX8_mends_105 ?_
    refine nb_getN (ci := 5) hx hb hts iX8_mends_X5 hown hE hP 16 nbo_16 rfl 3 (by decide) (host := RX8) (by decide +kernel) rfl rfl dX8_mends_108 ?_
    refine lv_iload_n hx hb dX8_mends_111 rfl (lv_at hl 1 rfl) ?_
    refine lv_iconst (v := 0) hx hb dX8_mends_112 (by decide) ?_
    obtain ⟨r3, σ4, hc4, hf⟩ := nBd_e hf
    refine nb_callVi (As := [.int (σ2.1 16 3), .int x1, .int 0]) (rest := []) ⟨hx, hb, hml, hown, hts⟩ (c_X7_cell (D := D) (A := A) (cy := cy) (a := a) (kt := kt) (vt := vt) (l := l)  hc4) (cwV 3 hts gX8_mends_X7_cell rfl rfl rfl (by decide +kernel) ⟨Nat.le_of_ble_eq_true rfl, Nat.le_of_ble_eq_true rfl⟩) hE hP hS nbo_1 rfl rfl hl.1 rfl (Nat.le_of_ble_eq_true rfl) dX8_mends_113 (fun H locs hP hS => ?_)
    refine lv_istore_n (lv' := [(2, .int r3), (0, .ref (a 0)), (1, .int x1)]) hx hb dX8_mends_116 rfl hl (by decide) rfl (fun ls hl => ?_)
    refine lv_iload_n hx hb dX8_mends_117 rfl (lv_at hl 0 rfl) ?_
    refine lv_iconst (v := 2) hx hb dX8_mends_118 (by decide) ?_
    refine lv_icmp_ne (tgt := 139) hx hb dX8_mends_119 (by decide) (fun hc => ?_) (fun hc => ?_)
    · replace hf := nIf_f hc hf
      refine lv_iload_n hx hb dX8_mends_139 rfl (lv_at hl 0 rfl) ?_
      refine lv_iconst (v := 4) hx hb dX8_mends_140 (by decide) ?_
      refine lv_icmp_ne (tgt := 151) hx hb dX8_mends_141 (by decide) (fun hc => ?_) (fun hc => ?_)
      · replace hf := nIf_f hc hf
        exact K151 σ4 x1 H locs ls (lv_sub hl [1, 2] rfl) hP hS hf
      · replace hf := nIf_t hc hf
        refine lv_aload_n hx hb dX8_mends_144 rfl (lv_at hl 1 rfl) ?_
        refine lv_iconst (v := 2) hx hb dX8_mends_145 (by decide) ?_
        refine lv_iload_n hx hb dX8_mends_146 rfl (lv_at hl 2 rfl) ?_
        refine lv_iconst (v := 1) hx hb dX8_mends_147 (by decide) ?_
        obtain ⟨r5, σ6, hc6, hf⟩ := nBd_e hf
        refine nb_callVv (As := [.int 2, .int x1, .int 1]) (rest := []) ⟨hx, hb, hml, hown, hts⟩ (c_X8_tryTargets (D := D) (A := A) (cy := cy) (a := a) (kt := kt) (vt := vt) (l := l)  hc6) (cwV 3 hts gX8_mends_X8_tryTargets rfl rfl rfl (by decide +kernel) ⟨Nat.le_of_ble_eq_true rfl, Nat.le_of_ble_eq_true rfl⟩) hE hP hS nbo_0 rfl rfl hl.1 rfl (Nat.le_of_ble_eq_true rfl) dX8_mends_148 (fun H locs hP hS => ?_)
        exact K151 σ6 x1 H locs ls (lv_sub hl [1, 2] rfl) hP hS hf
    · replace hf := nIf_t hc hf
      refine lv_aload_n hx hb dX8_mends_122 rfl (lv_at hl 1 rfl) ?_
      refine lv_iconst (v := 0) hx hb dX8_mends_123 (by decide) ?_
      refine lv_iload_n hx hb dX8_mends_124 rfl (lv_at hl 2 rfl) ?_
      refine lv_iconst (v := 2) hx hb dX8_mends_125 (by decide) ?_
      obtain ⟨r7, σ8, hc8, hf⟩ := nBd_e hf
      refine nb_callVv (As := [.int 0, .int x1, .int 2]) (rest := []) ⟨hx, hb, hml, hown, hts⟩ (c_X8_tryTargets (D := D) (A := A) (cy := cy) (a := a) (kt := kt) (vt := vt) (l := l)  hc8) (cwV 3 hts gX8_mends_X8_tryTargets rfl rfl rfl (by decide +kernel) ⟨Nat.le_of_ble_eq_true rfl, Nat.le_of_ble_eq_true rfl⟩) hE hP hS nbo_0 rfl rfl hl.1 rfl (Nat.le_of_ble_eq_true rfl) dX8_mends_126 (fun H locs hP hS => ?_)
      refine lv_aload_n hx hb dX8_mends_129 rfl (lv_at hl 1 rfl) ?_
      refine lv_iconst (v := 1) hx hb dX8_mends_130 (by decide) ?_
      refine lv_iload_n hx hb dX8_mends_131 rfl (lv_at hl 2 rfl) ?_
      refine lv_iconst (v := 3) hx hb dX8_mends_132 (by decide) ?_
      obtain ⟨r9, σ10, hc10, hf⟩ := nBd_e hf
      refine nb_callVv (As := [.int 1, .int x1, .int 3]) (rest := []) ⟨hx, hb, hml, hown, hts⟩ (c_X8_tryTargets (D := D) (A := A) (cy := cy) (a := a) (kt := kt) (vt := vt) (l := l)  hc10) (cwV 3 hts gX8_mends_X8_tryTargets rfl rfl rfl (by decide +kernel) ⟨Nat.le_of_ble_eq_true rfl, Nat.le_of_ble_eq_true rfl⟩) hE hP hS nbo_0 rfl rfl hl.1 rfl (Nat.le_of_ble_eq_true rfl) dX8_mends_133 (fun H locs hP hS => ?_)
      refine lv_goto (tgt := 151) hx hb dX8_mends_136 (by decide) ?_
      exact K151 σ10 x1 H locs ls (lv_sub hl [1, 2] rfl) hP hS hf
def b_X8_mends_57 (N : Nat) (k82 : nS → Int32 → Option (Int32 × nS)) (σ : nS) : Option (Int32 × nS) := nBd (f_X1_forget N σ) (fun r1 σ2 => (if (σ2.1 16 5) = 0 then nBd (f_X8_accept N 0 σ2) (fun r3 σ4 => some (r3, σ4)) else k82 σ2 0))
set_option maxHeartbeats 4000000 in
set_option maxRecDepth 100000 in
theorem kb_X8_mends_57 {p : Program} {l : Launch} {e : Env} {s : State} {m : MethodId} {args : Array Value} {below : List Frame} {meth : Method} {c : Code} {D : va_G} {A : Nat → Prop} {cy : Nat → ClassId} {a kt vt : Nat → Nat} {N : Nat}   (C0 : nCx p s m args meth c cX8_mends 3 (some .int) RX8 wsX8_mends) (hE : nEn D A cy (NBw cy a) kt vt s) {z : Int32 × nS} {k82 : nS → Int32 → Option (Int32 × nS)} (K82 : ∀ (σ : nS) (x1 : Int32) (H : Heap) (locs : List Loc) (ls : Array Slot), lv_has ls 3 [(0, .ref (a 0)), (1, .int x1)] → va_P D vwCl ((NBw cy a) σ) H → va_S A s.heap H locs → k82 σ x1 = some z → W p l e ({ frames := 6, cells := 0, slots := 0, locals := 142 } : Room) s m args below meth c H locs 0 0 (nQi below D A (NBw cy a) args s z) (F0 m 82 ls [])) : ∀ (σ : nS) (H : Heap) (locs : List Loc) (ls : Array Slot), lv_has ls 3 [(0, .ref (a 0))] → va_P D vwCl ((NBw cy a) σ) H → va_S A s.heap H locs → b_X8_mends_57 N k82 σ = some z → W p l e ({ frames := 6, cells := 0, slots := 0, locals := 142 } : Room) s m args below meth c H locs 0 0 (nQi below D A (NBw cy a) args s z) (F0 m 57 ls []) := by
  obtain ⟨hx, hb, hr, hml, hown, hts, hlocks⟩ := C0
  intro σ  H locs ls hl hP hS hf
  unfold b_X8_mends_57 at hf
  refine lv_aload_n hx hb dX8_mends_57 rfl (lv_at hl 0 rfl) ?_
  refine nb_get (ci := 8) hx hb hts iX8_mends_X8 hown hE hP 0 nbo_0 rfl 9 (by decide) qX8_mends_65 rfl rfl dX8_mends_58 ?_
  obtain ⟨r1, σ2, hc2, hf⟩ := nBd_e hf
  refine nb_callVv (As := []) (rest := []) ⟨hx, hb, hml, hown, hts⟩ (c_X1_forget (D := D) (A := A) (cy := cy) (a := a) (kt := kt) (vt := vt) (l := l)  hc2) (cwV 0 hts gX8_mends_X1_forget rfl rfl rfl (by decide +kernel) ⟨Nat.le_of_ble_eq_true rfl, Nat.le_of_ble_eq_true rfl⟩) hE hP hS nbo_19 rfl rfl hl.1 rfl (Nat.le_of_ble_eq_true rfl) dX8_mends_61 (fun H locs hP hS => ?_)
  refine lv_aload_n hx hb dX8_mends_64 rfl (lv_at hl 0 rfl) ?_
  refine nb_get (ci := 8) hx hb hts iX8_mends_X8 hown hE hP 0 nbo_0 rfl 8 (by decide) qX8_mends_58 rfl rfl dX8_mends_65 ?_
  refine nb_getN (ci := 5) hx hb hts iX8_mends_X5 hown hE hP 16 nbo_16 rfl 5 (by decide) (host := RX8) (by decide +kernel) rfl rfl dX8_mends_68 ?_
  refine lv_if_ne (tgt := 80) hx hb dX8_mends_71 (by decide) (fun hc => ?_) (fun hc => ?_)
  · replace hf := nIf_f hc hf
    refine lv_iconst (v := 0) hx hb dX8_mends_80 (by decide) ?_
    refine lv_istore_n (lv' := [(1, .int 0), (0, .ref (a 0))]) hx hb dX8_mends_81 rfl hl (by decide) rfl (fun ls hl => ?_)
    exact K82 σ2 0 H locs ls (lv_sub hl [1, 0] rfl) hP hS hf
  · replace hf := nIf_t hc hf
    refine lv_aload_n hx hb dX8_mends_74 rfl (lv_at hl 0 rfl) ?_
    refine lv_iconst (v := 0) hx hb dX8_mends_75 (by decide) ?_
    obtain ⟨r3, σ4, hc4, hf⟩ := nBd_e hf
    refine nb_callVi (As := [.int 0]) (rest := []) ⟨hx, hb, hml, hown, hts⟩ (c_X8_accept (D := D) (A := A) (cy := cy) (a := a) (kt := kt) (vt := vt) (l := l)  hc4) (cwV 1 hts gX8_mends_X8_accept rfl rfl rfl (by decide +kernel) ⟨Nat.le_of_ble_eq_true rfl, Nat.le_of_ble_eq_true rfl⟩) hE hP hS nbo_0 rfl rfl hl.1 rfl (Nat.le_of_ble_eq_true rfl) dX8_mends_76 (fun H locs hP hS => ?_)
    exact nb_iret hx hb hr hlocks hP hS (nSo hf) dX8_mends_79
def b_X8_mends_0 (N : Nat) (k57 : nS → Option (Int32 × nS)) (σ : nS) : Option (Int32 × nS) := (if (σ.1 16 2) = 0 then nBd (f_X8_refuse N 5 σ) (fun r6 σ7 => some (r6, σ7)) else (if (σ.1 16 5) ≤ 0 then k57 σ else nBd (f_X8_countMends N (σ.1 16 3) σ) (fun r1 σ2 => nLet (r1 * (σ2.1 16 4) : Int32) (fun v3 => (if v3 ≤ 20000 then k57 σ2 else nBd (f_X8_refuse N 3 σ2) (fun r4 σ5 => some (r4, σ5)))))))
set_option maxHeartbeats 4000000 in
set_option maxRecDepth 100000 in
theorem kb_X8_mends_0 {p : Program} {l : Launch} {e : Env} {s : State} {m : MethodId} {args : Array Value} {below : List Frame} {meth : Method} {c : Code} {D : va_G} {A : Nat → Prop} {cy : Nat → ClassId} {a kt vt : Nat → Nat} {N : Nat}   (C0 : nCx p s m args meth c cX8_mends 3 (some .int) RX8 wsX8_mends) (hE : nEn D A cy (NBw cy a) kt vt s) {z : Int32 × nS} {k57 : nS → Option (Int32 × nS)} (K57 : ∀ (σ : nS) (H : Heap) (locs : List Loc) (ls : Array Slot), lv_has ls 3 [(0, .ref (a 0))] → va_P D vwCl ((NBw cy a) σ) H → va_S A s.heap H locs → k57 σ = some z → W p l e ({ frames := 6, cells := 0, slots := 0, locals := 142 } : Room) s m args below meth c H locs 0 0 (nQi below D A (NBw cy a) args s z) (F0 m 57 ls [])) : ∀ (σ : nS) (H : Heap) (locs : List Loc) (ls : Array Slot), lv_has ls 3 [(0, .ref (a 0))] → va_P D vwCl ((NBw cy a) σ) H → va_S A s.heap H locs → b_X8_mends_0 N k57 σ = some z → W p l e ({ frames := 6, cells := 0, slots := 0, locals := 142 } : Room) s m args below meth c H locs 0 0 (nQi below D A (NBw cy a) args s z) (F0 m 0 ls []) := by
  obtain ⟨hx, hb, hr, hml, hown, hts, hlocks⟩ := C0
  intro σ  H locs ls hl hP hS hf
  unfold b_X8_mends_0 at hf
  refine lv_aload_n hx hb dX8_mends_0 rfl (lv_at hl 0 rfl) ?_
  refine nb_get (ci := 8) hx hb hts iX8_mends_X8 hown hE hP 0 nbo_0 rfl 8 (by decide) qX8_mends_58 rfl rfl dX8_mends_1 ?_
  refine nb_getN (ci := 5) hx hb hts iX8_mends_X5 hown hE hP 16 nbo_16 rfl 2 (by decide) (host := RX8) (by decide +kernel) rfl rfl dX8_mends_4 ?_
  refine lv_if_ne (tgt := 16) hx hb dX8_mends_7 (by decide) (fun hc => ?_) (fun hc => ?_)
  · replace hf := nIf_f hc hf
    refine lv_aload_n hx hb dX8_mends_16 rfl (lv_at hl 0 rfl) ?_
    refine nb_get (ci := 8) hx hb hts iX8_mends_X8 hown hE hP 0 nbo_0 rfl 8 (by decide) qX8_mends_58 rfl rfl dX8_mends_17 ?_
    refine nb_getN (ci := 5) hx hb hts iX8_mends_X5 hown hE hP 16 nbo_16 rfl 5 (by decide) (host := RX8) (by decide +kernel) rfl rfl dX8_mends_20 ?_
    refine lv_if_le (tgt := 57) hx hb dX8_mends_23 (by decide) (fun hc => ?_) (fun hc => ?_)
    · replace hf := nIf_t hc hf
      exact K57 σ H locs ls (lv_sub hl [0] rfl) hP hS hf
    · replace hf := nIf_f hc hf
      refine lv_aload_n hx hb dX8_mends_26 rfl (lv_at hl 0 rfl) ?_
      refine lv_aload_n hx hb dX8_mends_27 rfl (lv_at hl 0 rfl) ?_
      refine nb_get (ci := 8) hx hb hts iX8_mends_X8 hown hE hP 0 nbo_0 rfl 8 (by decide) qX8_mends_58 rfl rfl dX8_mends_28 ?_
      refine nb_getN (ci := 5) hx hb hts iX8_mends_X5 hown hE hP 16 nbo_16 rfl 3 (by decide) (host := RX8) (by decide +kernel) rfl rfl dX8_mends_31 ?_
      obtain ⟨r1, σ2, hc2, hf⟩ := nBd_e hf
      refine nb_callVi (As := [.int (σ.1 16 3)]) (rest := []) ⟨hx, hb, hml, hown, hts⟩ (c_X8_countMends (D := D) (A := A) (cy := cy) (a := a) (kt := kt) (vt := vt) (l := l)  hc2) (cwV 1 hts gX8_mends_X8_countMends rfl rfl rfl (by decide +kernel) ⟨Nat.le_of_ble_eq_true rfl, Nat.le_of_ble_eq_true rfl⟩) hE hP hS nbo_0 rfl rfl hl.1 rfl (Nat.le_of_ble_eq_true rfl) dX8_mends_34 (fun H locs hP hS => ?_)
      refine lv_aload_n hx hb dX8_mends_37 rfl (lv_at hl 0 rfl) ?_
      refine nb_get (ci := 8) hx hb hts iX8_mends_X8 hown hE hP 0 nbo_0 rfl 8 (by decide) qX8_mends_58 rfl rfl dX8_mends_38 ?_
      refine nb_getN (ci := 5) hx hb hts iX8_mends_X5 hown hE hP 16 nbo_16 rfl 4 (by decide) (host := RX8) (by decide +kernel) rfl rfl dX8_mends_41 ?_
      refine lv_imul hx hb dX8_mends_44 ?_
      refine lv_topi (fun v3 ev3 => ?_)
      replace hf := nLet_e hf ev3
      refine lv_sipush (v := 20000) hx hb dX8_mends_45 (by decide) ?_
      refine lv_icmp_le (tgt := 57) hx hb dX8_mends_48 (by decide) (fun hc => ?_) (fun hc => ?_)
      · replace hf := nIf_t hc hf
        exact K57 σ2 H locs ls (lv_sub hl [0] rfl) hP hS hf
      · replace hf := nIf_f hc hf
        refine lv_aload_n hx hb dX8_mends_51 rfl (lv_at hl 0 rfl) ?_
        refine lv_iconst (v := 3) hx hb dX8_mends_52 (by decide) ?_
        obtain ⟨r4, σ5, hc5, hf⟩ := nBd_e hf
        refine nb_callVi (As := [.int 3]) (rest := []) ⟨hx, hb, hml, hown, hts⟩ (c_X8_refuse (D := D) (A := A) (cy := cy) (a := a) (kt := kt) (vt := vt) (l := l)  hc5) (cwV 1 hts gX8_mends_X8_refuse rfl rfl rfl (by decide +kernel) ⟨Nat.le_of_ble_eq_true rfl, Nat.le_of_ble_eq_true rfl⟩) hE hP hS nbo_0 rfl rfl hl.1 rfl (Nat.le_of_ble_eq_true rfl) dX8_mends_53 (fun H locs hP hS => ?_)
        exact nb_iret hx hb hr hlocks hP hS (nSo hf) dX8_mends_56
  · replace hf := nIf_t hc hf
    refine lv_aload_n hx hb dX8_mends_10 rfl (lv_at hl 0 rfl) ?_
    refine lv_iconst (v := 5) hx hb dX8_mends_11 (by decide) ?_
    obtain ⟨r6, σ7, hc7, hf⟩ := nBd_e hf
    refine nb_callVi (As := [.int 5]) (rest := []) ⟨hx, hb, hml, hown, hts⟩ (c_X8_refuse (D := D) (A := A) (cy := cy) (a := a) (kt := kt) (vt := vt) (l := l)  hc7) (cwV 1 hts gX8_mends_X8_refuse rfl rfl rfl (by decide +kernel) ⟨Nat.le_of_ble_eq_true rfl, Nat.le_of_ble_eq_true rfl⟩) hE hP hS nbo_0 rfl rfl hl.1 rfl (Nat.le_of_ble_eq_true rfl) dX8_mends_12 (fun H locs hP hS => ?_)
    exact nb_iret hx hb hr hlocks hP hS (nSo hf) dX8_mends_15
def l_X8_mends_151 (N : Nat) (k82 : nS → Int32 → Option (Int32 × nS)) : nS → Int32 → Option (Int32 × nS) := b_X8_mends_151 N k82
theorem kl_X8_mends_151 {p : Program} {l : Launch} {e : Env} {s : State} {m : MethodId} {args : Array Value} {below : List Frame} {meth : Method} {c : Code} {D : va_G} {A : Nat → Prop} {cy : Nat → ClassId} {a kt vt : Nat → Nat} {N : Nat}   (C0 : nCx p s m args meth c cX8_mends 3 (some .int) RX8 wsX8_mends) (hE : nEn D A cy (NBw cy a) kt vt s) {z : Int32 × nS} {k82 : nS → Int32 → Option (Int32 × nS)} (K82 : ∀ (σ : nS) (x1 : Int32) (H : Heap) (locs : List Loc) (ls : Array Slot), lv_has ls 3 [(0, .ref (a 0)), (1, .int x1)] → va_P D vwCl ((NBw cy a) σ) H → va_S A s.heap H locs → k82 σ x1 = some z → W p l e ({ frames := 6, cells := 0, slots := 0, locals := 142 } : Room) s m args below meth c H locs 0 0 (nQi below D A (NBw cy a) args s z) (F0 m 82 ls [])) : ∀ (σ : nS) (x1 : Int32) (H : Heap) (locs : List Loc) (ls : Array Slot), lv_has ls 3 [(0, .ref (a 0)), (1, .int x1)] → va_P D vwCl ((NBw cy a) σ) H → va_S A s.heap H locs → l_X8_mends_151 N k82 σ x1 = some z → W p l e ({ frames := 6, cells := 0, slots := 0, locals := 142 } : Room) s m args below meth c H locs 0 0 (nQi below D A (NBw cy a) args s z) (F0 m 151 ls []) := by
  exact kb_X8_mends_151 (N := N)  C0 hE K82
def l_X8_mends_159 (N : Nat) : nS → Int32 → Option (Int32 × nS) := nLp (fun _ _ => none) (fun again => b_X8_mends_159 N again) N
theorem kl_X8_mends_159 {p : Program} {l : Launch} {e : Env} {s : State} {m : MethodId} {args : Array Value} {below : List Frame} {meth : Method} {c : Code} {D : va_G} {A : Nat → Prop} {cy : Nat → ClassId} {a kt vt : Nat → Nat} {N : Nat}   (C0 : nCx p s m args meth c cX8_mends 3 (some .int) RX8 wsX8_mends) (hE : nEn D A cy (NBw cy a) kt vt s) {z : Int32 × nS} : ∀ (σ : nS) (x1 : Int32) (H : Heap) (locs : List Loc) (ls : Array Slot), lv_has ls 3 [(0, .ref (a 0)), (1, .int x1)] → va_P D vwCl ((NBw cy a) σ) H → va_S A s.heap H locs → l_X8_mends_159 N σ x1 = some z → W p l e ({ frames := 6, cells := 0, slots := 0, locals := 142 } : Room) s m args below meth c H locs 0 0 (nQi below D A (NBw cy a) args s z) (F0 m 159 ls []) := by
  have main : ∀ (fu : Nat), ∀ (σ : nS) (x1 : Int32) (H : Heap) (locs : List Loc) (ls : Array Slot), lv_has ls 3 [(0, .ref (a 0)), (1, .int x1)] → va_P D vwCl ((NBw cy a) σ) H → va_S A s.heap H locs → nLp (fun _ _ => none) (fun again => b_X8_mends_159 N again) fu σ x1 = some z → W p l e ({ frames := 6, cells := 0, slots := 0, locals := 142 } : Room) s m args below meth c H locs 0 0 (nQi below D A (NBw cy a) args s z) (F0 m 159 ls []) := by
    intro fu
    induction fu with
    | zero => intro σ x1 H locs ls hl hP hS hf; cases hf
    | succ fu ih => exact kb_X8_mends_159 (N := N)  C0 hE ih
  exact main N
def l_X8_mends_82 (N : Nat) : nS → Int32 → Option (Int32 × nS) := nLp (fun _ _ => none) (fun again => b_X8_mends_82 N (l_X8_mends_151 N again) (l_X8_mends_159 N)) N
theorem kl_X8_mends_82 {p : Program} {l : Launch} {e : Env} {s : State} {m : MethodId} {args : Array Value} {below : List Frame} {meth : Method} {c : Code} {D : va_G} {A : Nat → Prop} {cy : Nat → ClassId} {a kt vt : Nat → Nat} {N : Nat}   (C0 : nCx p s m args meth c cX8_mends 3 (some .int) RX8 wsX8_mends) (hE : nEn D A cy (NBw cy a) kt vt s) {z : Int32 × nS} : ∀ (σ : nS) (x1 : Int32) (H : Heap) (locs : List Loc) (ls : Array Slot), lv_has ls 3 [(0, .ref (a 0)), (1, .int x1)] → va_P D vwCl ((NBw cy a) σ) H → va_S A s.heap H locs → l_X8_mends_82 N σ x1 = some z → W p l e ({ frames := 6, cells := 0, slots := 0, locals := 142 } : Room) s m args below meth c H locs 0 0 (nQi below D A (NBw cy a) args s z) (F0 m 82 ls []) := by
  have main : ∀ (fu : Nat), ∀ (σ : nS) (x1 : Int32) (H : Heap) (locs : List Loc) (ls : Array Slot), lv_has ls 3 [(0, .ref (a 0)), (1, .int x1)] → va_P D vwCl ((NBw cy a) σ) H → va_S A s.heap H locs → nLp (fun _ _ => none) (fun again => b_X8_mends_82 N (l_X8_mends_151 N again) (l_X8_mends_159 N)) fu σ x1 = some z → W p l e ({ frames := 6, cells := 0, slots := 0, locals := 142 } : Room) s m args below meth c H locs 0 0 (nQi below D A (NBw cy a) args s z) (F0 m 82 ls []) := by
    intro fu
    induction fu with
    | zero => intro σ x1 H locs ls hl hP hS hf; cases hf
    | succ fu ih => exact kb_X8_mends_82 (N := N)  C0 hE (kl_X8_mends_151 (N := N)  C0 hE ih) (kl_X8_mends_159 (N := N)  C0 hE)
  exact main N
def l_X8_mends_57 (N : Nat) : nS → Option (Int32 × nS) := b_X8_mends_57 N (l_X8_mends_82 N)
theorem kl_X8_mends_57 {p : Program} {l : Launch} {e : Env} {s : State} {m : MethodId} {args : Array Value} {below : List Frame} {meth : Method} {c : Code} {D : va_G} {A : Nat → Prop} {cy : Nat → ClassId} {a kt vt : Nat → Nat} {N : Nat}   (C0 : nCx p s m args meth c cX8_mends 3 (some .int) RX8 wsX8_mends) (hE : nEn D A cy (NBw cy a) kt vt s) {z : Int32 × nS} : ∀ (σ : nS) (H : Heap) (locs : List Loc) (ls : Array Slot), lv_has ls 3 [(0, .ref (a 0))] → va_P D vwCl ((NBw cy a) σ) H → va_S A s.heap H locs → l_X8_mends_57 N σ = some z → W p l e ({ frames := 6, cells := 0, slots := 0, locals := 142 } : Room) s m args below meth c H locs 0 0 (nQi below D A (NBw cy a) args s z) (F0 m 57 ls []) := by
  exact kb_X8_mends_57 (N := N)  C0 hE (kl_X8_mends_82 (N := N)  C0 hE)
def l_X8_mends_0 (N : Nat) : nS → Option (Int32 × nS) := b_X8_mends_0 N (l_X8_mends_57 N)
theorem kl_X8_mends_0 {p : Program} {l : Launch} {e : Env} {s : State} {m : MethodId} {args : Array Value} {below : List Frame} {meth : Method} {c : Code} {D : va_G} {A : Nat → Prop} {cy : Nat → ClassId} {a kt vt : Nat → Nat} {N : Nat}   (C0 : nCx p s m args meth c cX8_mends 3 (some .int) RX8 wsX8_mends) (hE : nEn D A cy (NBw cy a) kt vt s) {z : Int32 × nS} : ∀ (σ : nS) (H : Heap) (locs : List Loc) (ls : Array Slot), lv_has ls 3 [(0, .ref (a 0))] → va_P D vwCl ((NBw cy a) σ) H → va_S A s.heap H locs → l_X8_mends_0 N σ = some z → W p l e ({ frames := 6, cells := 0, slots := 0, locals := 142 } : Room) s m args below meth c H locs 0 0 (nQi below D A (NBw cy a) args s z) (F0 m 0 ls []) := by
  exact kb_X8_mends_0 (N := N)  C0 hE (kl_X8_mends_57 (N := N)  C0 hE)
def f_X8_mends (N : Nat) (σ : nS) : Option (Int32 × nS) := l_X8_mends_0 N σ
set_option maxHeartbeats 4000000 in
set_option maxRecDepth 100000 in
theorem c_X8_mends {l : Launch} {D : va_G} {A : Nat → Prop} {cy : Nat → ClassId} {a kt vt : Nat → Nat} {N : Nat}   {σ : nS} {r : Int32} {σ' : nS} (hf : f_X8_mends N σ = some (r, σ')) : nMi l yX8_mends wsX8_mends ({ frames := 6, cells := 0, slots := 0, locals := 142 } : Room) D A cy (NBw cy a) kt vt [.ref (a 0)] σ r σ' := by
  refine Met.ofW (cc := cX8_mends) (maxL := 3) (ret := (some .int)) (by decide) rfl ?_
  intro p e s m args below meth c s₁ B hml hv
  obtain ⟨rfl, hP, hE⟩ := hv
  have hl := lv_entry ([.ref (a 0)]) (n := 3) (Nat.le_of_ble_eq_true rfl)
  rw [lg_entry_eq]
  generalize (lg_sl ([.ref (a 0)]) ++ List.replicate (3 - (lg_sl ([.ref (a 0)])).length) Slot.unset).toArray = ls at hl ⊢
  have C0 : nCx p s m _ meth c cX8_mends 3 (some .int) RX8 wsX8_mends := ⟨B.exec, B.bytes, B.returns, hml, findClass_of_methodNamed B.named, atoms_spec (ws := wsX8_mends) B.pre, B.notSynchronized⟩
  exact kl_X8_mends_0 (N := N)  C0 hE (z := (r, σ')) σ  _ _ ls hl hP va_S.rf hf

/-! X8_nights -/
set_option maxRecDepth 20000 in
theorem iX8_nights_X8 : ∀ w ∈ u_ws RX8 TX8 13, w ∈ wsX8_nights := fun _ h => List.mem_cons_of_mem _ (List.mem_append_left _ (List.mem_append_left _ (List.mem_append_left _ (List.mem_append_right _ h))))
set_option maxRecDepth 20000 in
theorem qX8_nights_12 : Cond.fieldLink RX8 12 RX8 (TX8 0).2.1 (TX8 0).2.2.1 ∈ wsX8_nights := by decide +kernel
set_option maxRecDepth 20000 in
theorem qX8_nights_42 : Cond.fieldLink RX8 42 RX8 (TX8 5).2.1 (TX8 5).2.2.1 ∈ wsX8_nights := by decide +kernel
set_option maxRecDepth 20000 in
theorem qX8_nights_45 : Cond.fieldLink RX8 45 RX8 (TX8 6).2.1 (TX8 6).2.2.1 ∈ wsX8_nights := by decide +kernel
set_option maxRecDepth 20000 in
theorem qX8_nights_26 : Cond.fieldLink RX8 26 RX8 (TX8 2).2.1 (TX8 2).2.2.1 ∈ wsX8_nights := by decide +kernel
set_option maxRecDepth 20000 in
theorem iX8_nights_X6 : ∀ w ∈ u_ws RX6 TX6 12, w ∈ wsX8_nights := fun _ h => List.mem_cons_of_mem _ (List.mem_append_left _ (List.mem_append_left _ (List.mem_append_right _ h)))
def b_X8_nights_148 (N : Nat) (k118 : nS → Int32 → Option (Int32 × nS)) (σ : nS) (x8 : Int32) : Option (Int32 × nS) := nBd (f_X6_goOn N 30 x8 σ) (fun r1 σ2 => nBd (f_X6_goOn N 33 x8 σ2) (fun r3 σ4 => nLet (x8 + 1 : Int32) (fun v5 => k118 σ4 v5)))
set_option maxHeartbeats 4000000 in
set_option maxRecDepth 100000 in
theorem kb_X8_nights_148 {p : Program} {l : Launch} {e : Env} {s : State} {m : MethodId} {args : Array Value} {below : List Frame} {meth : Method} {c : Code} {D : va_G} {A : Nat → Prop} {cy : Nat → ClassId} {a kt vt : Nat → Nat} {N : Nat}   (C0 : nCx p s m args meth c cX8_nights 9 (some .int) RX8 wsX8_nights) (hE : nEn D A cy (NBw cy a) kt vt s) {z : Int32 × nS} {k118 : nS → Int32 → Option (Int32 × nS)} (K118 : ∀ (σ : nS) (x8 : Int32) (H : Heap) (locs : List Loc) (ls : Array Slot), lv_has ls 9 [(0, .ref (a 0)), (8, .int x8)] → va_P D vwCl ((NBw cy a) σ) H → va_S A s.heap H locs → k118 σ x8 = some z → W p l e ({ frames := 3, cells := 0, slots := 0, locals := 74 } : Room) s m args below meth c H locs 0 0 (nQi below D A (NBw cy a) args s z) (F0 m 118 ls [])) : ∀ (σ : nS) (x8 : Int32) (H : Heap) (locs : List Loc) (ls : Array Slot), lv_has ls 9 [(0, .ref (a 0)), (8, .int x8)] → va_P D vwCl ((NBw cy a) σ) H → va_S A s.heap H locs → b_X8_nights_148 N k118 σ x8 = some z → W p l e ({ frames := 3, cells := 0, slots := 0, locals := 74 } : Room) s m args below meth c H locs 0 0 (nQi below D A (NBw cy a) args s z) (F0 m 148 ls []) := by
  obtain ⟨hx, hb, hr, hml, hown, hts, hlocks⟩ := C0
  intro σ x8 H locs ls hl hP hS hf
  unfold b_X8_nights_148 at hf
  refine lv_aload_n hx hb dX8_nights_148 rfl (lv_at hl 0 rfl) ?_
  refine nb_get (ci := 8) hx hb hts iX8_nights_X8 hown hE hP 0 nbo_0 rfl 5 (by decide) qX8_nights_42 rfl rfl dX8_nights_149 ?_
  refine lv_aload_n hx hb dX8_nights_152 rfl (lv_at hl 0 rfl) ?_
  refine nb_get (ci := 8) hx hb hts iX8_nights_X8 hown hE hP 0 nbo_0 rfl 0 (by decide) qX8_nights_12 rfl rfl dX8_nights_153 ?_
  refine lv_aload_n hx hb dX8_nights_156 rfl (lv_at hl 0 rfl) ?_
  refine nb_get (ci := 8) hx hb hts iX8_nights_X8 hown hE hP 0 nbo_0 rfl 2 (by decide) qX8_nights_26 rfl rfl dX8_nights_157 ?_
  refine lv_iload hx hb dX8_nights_160 (lv_at hl 1 rfl) ?_
  obtain ⟨r1, σ2, hc2, hf⟩ := nBd_e hf
  refine nb_callVv (As := [.ref (a 1), .ref (a 10), .int x8]) (rest := []) ⟨hx, hb, hml, hown, hts⟩ (c_X6_goOn (D := D) (A := A) (cy := cy) (a := a) (kt := kt) (vt := vt) (l := l) nWk_30 hc2) (cwV 3 hts gX8_nights_X6_goOn rfl rfl rfl (by decide +kernel) ⟨Nat.le_of_ble_eq_true rfl, Nat.le_of_ble_eq_true rfl⟩) hE hP hS (nboW nWk_30) rfl rfl hl.1 rfl (Nat.le_of_ble_eq_true rfl) dX8_nights_162 (fun H locs hP hS => ?_)
  refine lv_aload_n hx hb dX8_nights_165 rfl (lv_at hl 0 rfl) ?_
  refine nb_get (ci := 8) hx hb hts iX8_nights_X8 hown hE hP 0 nbo_0 rfl 6 (by decide) qX8_nights_45 rfl rfl dX8_nights_166 ?_
  refine lv_aload_n hx hb dX8_nights_169 rfl (lv_at hl 0 rfl) ?_
  refine nb_get (ci := 8) hx hb hts iX8_nights_X8 hown hE hP 0 nbo_0 rfl 0 (by decide) qX8_nights_12 rfl rfl dX8_nights_170 ?_
  refine lv_aload_n hx hb dX8_nights_173 rfl (lv_at hl 0 rfl) ?_
  refine nb_get (ci := 8) hx hb hts iX8_nights_X8 hown hE hP 0 nbo_0 rfl 2 (by decide) qX8_nights_26 rfl rfl dX8_nights_174 ?_
  refine lv_iload hx hb dX8_nights_177 (lv_at hl 1 rfl) ?_
  obtain ⟨r3, σ4, hc4, hf⟩ := nBd_e hf
  refine nb_callVv (As := [.ref (a 1), .ref (a 10), .int x8]) (rest := []) ⟨hx, hb, hml, hown, hts⟩ (c_X6_goOn (D := D) (A := A) (cy := cy) (a := a) (kt := kt) (vt := vt) (l := l) nWk_33 hc4) (cwV 3 hts gX8_nights_X6_goOn rfl rfl rfl (by decide +kernel) ⟨Nat.le_of_ble_eq_true rfl, Nat.le_of_ble_eq_true rfl⟩) hE hP hS (nboW nWk_33) rfl rfl hl.1 rfl (Nat.le_of_ble_eq_true rfl) dX8_nights_179 (fun H locs hP hS => ?_)
  obtain ⟨v5, ev5⟩ : ∃ y : Int32, y = x8 + 1 := ⟨_, rfl⟩
  replace hf := nLet_e hf ev5
  refine lv_iinc (v := v5) (lv' := [(8, .int v5), (0, .ref (a 0))]) hx hb dX8_nights_182 hl (k := 1) rfl (by rw [ev5]; rfl) (by decide) rfl (fun ls hl => ?_)
  refine lv_goto (tgt := 118) hx hb dX8_nights_185 (by decide) ?_
  exact K118 σ4 v5 H locs ls (lv_sub hl [1, 0] rfl) hP hS hf
def b_X8_nights_188 (N : Nat) (σ : nS) : Option (Int32 × nS) := nLet (if (σ.1 30 8) < (σ.1 33 8) then (σ.1 33 8) else (σ.1 30 8)) (fun v1 => nBd (f_X8_accept N v1 σ) (fun r2 σ3 => some (r2, σ3)))
set_option maxHeartbeats 4000000 in
set_option maxRecDepth 100000 in
theorem kb_X8_nights_188 {p : Program} {l : Launch} {e : Env} {s : State} {m : MethodId} {args : Array Value} {below : List Frame} {meth : Method} {c : Code} {D : va_G} {A : Nat → Prop} {cy : Nat → ClassId} {a kt vt : Nat → Nat} {N : Nat}   (C0 : nCx p s m args meth c cX8_nights 9 (some .int) RX8 wsX8_nights) (hE : nEn D A cy (NBw cy a) kt vt s) {z : Int32 × nS} : ∀ (σ : nS) (H : Heap) (locs : List Loc) (ls : Array Slot), lv_has ls 9 [(0, .ref (a 0))] → va_P D vwCl ((NBw cy a) σ) H → va_S A s.heap H locs → b_X8_nights_188 N σ = some z → W p l e ({ frames := 3, cells := 0, slots := 0, locals := 74 } : Room) s m args below meth c H locs 0 0 (nQi below D A (NBw cy a) args s z) (F0 m 188 ls []) := by
  obtain ⟨hx, hb, hr, hml, hown, hts, hlocks⟩ := C0
  intro σ  H locs ls hl hP hS hf
  unfold b_X8_nights_188 at hf
  refine lv_aload_n hx hb dX8_nights_188 rfl (lv_at hl 0 rfl) ?_
  refine lv_aload_n hx hb dX8_nights_189 rfl (lv_at hl 0 rfl) ?_
  refine nb_get (ci := 8) hx hb hts iX8_nights_X8 hown hE hP 0 nbo_0 rfl 5 (by decide) qX8_nights_42 rfl rfl dX8_nights_190 ?_
  refine nb_getN (ci := 6) hx hb hts iX8_nights_X6 hown hE hP 30 (nboW nWk_30) rfl 8 (by decide) (host := RX8) (by decide +kernel) rfl rfl dX8_nights_193 ?_
  refine lv_aload_n hx hb dX8_nights_196 rfl (lv_at hl 0 rfl) ?_
  refine nb_get (ci := 8) hx hb hts iX8_nights_X8 hown hE hP 0 nbo_0 rfl 6 (by decide) qX8_nights_45 rfl rfl dX8_nights_197 ?_
  refine nb_getN (ci := 6) hx hb hts iX8_nights_X6 hown hE hP 33 (nboW nWk_33) rfl 8 (by decide) (host := RX8) (by decide +kernel) rfl rfl dX8_nights_200 ?_
  refine va_mmax hx hb (hml.trans hl.1.symm) hown (hts (.methodLink RX8 261 Lib.Math.max.name) (by decide +kernel)) (hts (.static Lib.Math.max.name) (by decide +kernel)) (hts (.initialized "java/lang/Math") (by decide +kernel)) (hts (.code Lib.Math.max.name Lib.Math.max.code 2 (some .int)) (by decide +kernel)) (Nat.le_of_ble_eq_true rfl) (Nat.le_of_ble_eq_true rfl) (Nat.zero_le _) (Nat.zero_le _) dX8_nights_203 ?_
  refine lv_topi (fun v1 ev1 => ?_)
  replace hf := nLet_e hf ev1
  obtain ⟨r2, σ3, hc3, hf⟩ := nBd_e hf
  refine nb_callVi (As := [.int v1]) (rest := []) ⟨hx, hb, hml, hown, hts⟩ (c_X8_accept (D := D) (A := A) (cy := cy) (a := a) (kt := kt) (vt := vt) (l := l)  hc3) (cwV 1 hts gX8_nights_X8_accept rfl rfl rfl (by decide +kernel) ⟨Nat.le_of_ble_eq_true rfl, Nat.le_of_ble_eq_true rfl⟩) hE hP hS nbo_0 rfl rfl hl.1 rfl (Nat.le_of_ble_eq_true rfl) dX8_nights_206 (fun H locs hP hS => ?_)
  exact nb_iret hx hb hr hlocks hP hS (nSo hf) dX8_nights_209
def b_X8_nights_118 (N : Nat) (k148 : nS → Int32 → Option (Int32 × nS)) (k188 : nS → Option (Int32 × nS)) (σ : nS) (x8 : Int32) : Option (Int32 × nS) := (if (5240 : Int32) < x8 then k188 σ else (if (σ.1 30 11) = (-1) then k148 σ x8 else (if (σ.1 33 11) = (-1) then k148 σ x8 else k188 σ)))
set_option maxHeartbeats 4000000 in
set_option maxRecDepth 100000 in
theorem kb_X8_nights_118 {p : Program} {l : Launch} {e : Env} {s : State} {m : MethodId} {args : Array Value} {below : List Frame} {meth : Method} {c : Code} {D : va_G} {A : Nat → Prop} {cy : Nat → ClassId} {a kt vt : Nat → Nat} {N : Nat}   (C0 : nCx p s m args meth c cX8_nights 9 (some .int) RX8 wsX8_nights) (hE : nEn D A cy (NBw cy a) kt vt s) {z : Int32 × nS} {k148 : nS → Int32 → Option (Int32 × nS)} (K148 : ∀ (σ : nS) (x8 : Int32) (H : Heap) (locs : List Loc) (ls : Array Slot), lv_has ls 9 [(0, .ref (a 0)), (8, .int x8)] → va_P D vwCl ((NBw cy a) σ) H → va_S A s.heap H locs → k148 σ x8 = some z → W p l e ({ frames := 3, cells := 0, slots := 0, locals := 74 } : Room) s m args below meth c H locs 0 0 (nQi below D A (NBw cy a) args s z) (F0 m 148 ls [])) {k188 : nS → Option (Int32 × nS)} (K188 : ∀ (σ : nS) (H : Heap) (locs : List Loc) (ls : Array Slot), lv_has ls 9 [(0, .ref (a 0))] → va_P D vwCl ((NBw cy a) σ) H → va_S A s.heap H locs → k188 σ = some z → W p l e ({ frames := 3, cells := 0, slots := 0, locals := 74 } : Room) s m args below meth c H locs 0 0 (nQi below D A (NBw cy a) args s z) (F0 m 188 ls [])) : ∀ (σ : nS) (x8 : Int32) (H : Heap) (locs : List Loc) (ls : Array Slot), lv_has ls 9 [(0, .ref (a 0)), (8, .int x8)] → va_P D vwCl ((NBw cy a) σ) H → va_S A s.heap H locs → b_X8_nights_118 N k148 k188 σ x8 = some z → W p l e ({ frames := 3, cells := 0, slots := 0, locals := 74 } : Room) s m args below meth c H locs 0 0 (nQi below D A (NBw cy a) args s z) (F0 m 118 ls []) := by
  obtain ⟨hx, hb, hr, hml, hown, hts, hlocks⟩ := C0
  intro σ x8 H locs ls hl hP hS hf
  unfold b_X8_nights_118 at hf
  refine lv_iload hx hb dX8_nights_118 (lv_at hl 1 rfl) ?_
  refine lv_sipush (v := 5240) hx hb dX8_nights_120 (by decide) ?_
  refine lv_icmp_gt (tgt := 188) hx hb dX8_nights_123 (by decide) (fun hc => ?_) (fun hc => ?_)
  · replace hf := nIf_t hc hf
    exact K188 σ H locs ls (lv_sub hl [0] rfl) hP hS hf
  · replace hf := nIf_f hc hf
    refine lv_aload_n hx hb dX8_nights_126 rfl (lv_at hl 0 rfl) ?_
    refine nb_get (ci := 8) hx hb hts iX8_nights_X8 hown hE hP 0 nbo_0 rfl 5 (by decide) qX8_nights_42 rfl rfl dX8_nights_127 ?_
    refine nb_getN (ci := 6) hx hb hts iX8_nights_X6 hown hE hP 30 (nboW nWk_30) rfl 11 (by decide) (host := RX8) (by decide +kernel) rfl rfl dX8_nights_130 ?_
    refine lv_iconst (v := (-1)) hx hb dX8_nights_133 (by decide) ?_
    refine lv_icmp_eq (tgt := 148) hx hb dX8_nights_134 (by decide) (fun hc => ?_) (fun hc => ?_)
    · replace hf := nIf_t hc hf
      exact K148 σ x8 H locs ls (lv_sub hl [0, 1] rfl) hP hS hf
    · replace hf := nIf_f hc hf
      refine lv_aload_n hx hb dX8_nights_137 rfl (lv_at hl 0 rfl) ?_
      refine nb_get (ci := 8) hx hb hts iX8_nights_X8 hown hE hP 0 nbo_0 rfl 6 (by decide) qX8_nights_45 rfl rfl dX8_nights_138 ?_
      refine nb_getN (ci := 6) hx hb hts iX8_nights_X6 hown hE hP 33 (nboW nWk_33) rfl 11 (by decide) (host := RX8) (by decide +kernel) rfl rfl dX8_nights_141 ?_
      refine lv_iconst (v := (-1)) hx hb dX8_nights_144 (by decide) ?_
      refine lv_icmp_ne (tgt := 188) hx hb dX8_nights_145 (by decide) (fun hc => ?_) (fun hc => ?_)
      · replace hf := nIf_f hc hf
        exact K188 σ H locs ls (lv_sub hl [0] rfl) hP hS hf
      · replace hf := nIf_t hc hf
        exact K148 σ x8 H locs ls (lv_sub hl [0, 1] rfl) hP hS hf
def b_X8_nights_0 (N : Nat) (k118 : nS → Int32 → Option (Int32 × nS)) (σ : nS) (x1 : Int32) (x2 : Int32) (x3 : Int32) (x4 : Int32) (x5 : Int32) (x6 : Int32) (x7 : Int32) : Option (Int32 × nS) := nBd (f_X7_hasBook N x1 σ) (fun r1 σ2 => (if r1 = 0 then nBd (f_X8_refuse N 1 σ2) (fun r3 σ4 => some (r3, σ4)) else nBd (f_X7_hasBook N x4 σ2) (fun r5 σ6 => (if r5 = 0 then nBd (f_X8_refuse N 1 σ6) (fun r33 σ34 => some (r33, σ34)) else nBd (f_X8_areBits N x2 σ6) (fun r7 σ8 => (if r7 = 0 then nBd (f_X8_refuse N 2 σ8) (fun r9 σ10 => some (r9, σ10)) else nBd (f_X8_areBits N x3 σ8) (fun r11 σ12 => (if r11 = 0 then nBd (f_X8_refuse N 2 σ12) (fun r13 σ14 => some (r13, σ14)) else nBd (f_X8_areBits N x5 σ12) (fun r15 σ16 => (if r15 = 0 then nBd (f_X8_refuse N 2 σ16) (fun r17 σ18 => some (r17, σ18)) else nBd (f_X8_areBits N x6 σ16) (fun r19 σ20 => (if r19 = 0 then nBd (f_X8_refuse N 2 σ20) (fun r21 σ22 => some (r21, σ22)) else nBd (f_X8_areBits N x7 σ20) (fun r23 σ24 => (if r23 = 0 then nBd (f_X8_refuse N 2 σ24) (fun r31 σ32 => some (r31, σ32)) else nBd (f_X6_start N 30 x1 x2 x3 x7 σ24) (fun r25 σ26 => nBd (f_X6_start N 33 x4 x5 x6 x7 σ26) (fun r27 σ28 => nBd (f_X3_rest N σ28) (fun r29 σ30 => k118 σ30 0)))))))))))))))))
set_option maxHeartbeats 4000000 in
set_option maxRecDepth 100000 in
theorem kb_X8_nights_0 {p : Program} {l : Launch} {e : Env} {s : State} {m : MethodId} {args : Array Value} {below : List Frame} {meth : Method} {c : Code} {D : va_G} {A : Nat → Prop} {cy : Nat → ClassId} {a kt vt : Nat → Nat} {N : Nat}   (C0 : nCx p s m args meth c cX8_nights 9 (some .int) RX8 wsX8_nights) (hE : nEn D A cy (NBw cy a) kt vt s) {z : Int32 × nS} {k118 : nS → Int32 → Option (Int32 × nS)} (K118 : ∀ (σ : nS) (x8 : Int32) (H : Heap) (locs : List Loc) (ls : Array Slot), lv_has ls 9 [(0, .ref (a 0)), (8, .int x8)] → va_P D vwCl ((NBw cy a) σ) H → va_S A s.heap H locs → k118 σ x8 = some z → W p l e ({ frames := 3, cells := 0, slots := 0, locals := 74 } : Room) s m args below meth c H locs 0 0 (nQi below D A (NBw cy a) args s z) (F0 m 118 ls [])) : ∀ (σ : nS) (x1 : Int32) (x2 : Int32) (x3 : Int32) (x4 : Int32) (x5 : Int32) (x6 : Int32) (x7 : Int32) (H : Heap) (locs : List Loc) (ls : Array Slot), lv_has ls 9 [(0, .ref (a 0)), (1, .int x1), (2, .int x2), (3, .int x3), (4, .int x4), (5, .int x5), (6, .int x6), (7, .int x7)] → va_P D vwCl ((NBw cy a) σ) H → va_S A s.heap H locs → b_X8_nights_0 N k118 σ x1 x2 x3 x4 x5 x6 x7 = some z → W p l e ({ frames := 3, cells := 0, slots := 0, locals := 74 } : Room) s m args below meth c H locs 0 0 (nQi below D A (NBw cy a) args s z) (F0 m 0 ls []) := by
  obtain ⟨hx, hb, hr, hml, hown, hts, hlocks⟩ := C0
  intro σ x1 x2 x3 x4 x5 x6 x7 H locs ls hl hP hS hf
  unfold b_X8_nights_0 at hf
  refine lv_aload_n hx hb dX8_nights_0 rfl (lv_at hl 0 rfl) ?_
  refine nb_get (ci := 8) hx hb hts iX8_nights_X8 hown hE hP 0 nbo_0 rfl 0 (by decide) qX8_nights_12 rfl rfl dX8_nights_1 ?_
  refine lv_iload_n hx hb dX8_nights_4 rfl (lv_at hl 1 rfl) ?_
  obtain ⟨r1, σ2, hc2, hf⟩ := nBd_e hf
  refine nb_callVi (As := [.int x1]) (rest := []) ⟨hx, hb, hml, hown, hts⟩ (c_X7_hasBook (D := D) (A := A) (cy := cy) (a := a) (kt := kt) (vt := vt) (l := l)  hc2) (cwV 1 hts gX8_nights_X7_hasBook rfl rfl rfl (by decide +kernel) ⟨Nat.le_of_ble_eq_true rfl, Nat.le_of_ble_eq_true rfl⟩) hE hP hS nbo_1 rfl rfl hl.1 rfl (Nat.le_of_ble_eq_true rfl) dX8_nights_5 (fun H locs hP hS => ?_)
  refine lv_if_eq (tgt := 23) hx hb dX8_nights_8 (by decide) (fun hc => ?_) (fun hc => ?_)
  · replace hf := nIf_t hc hf
    refine lv_aload_n hx hb dX8_nights_23 rfl (lv_at hl 0 rfl) ?_
    refine lv_iconst (v := 1) hx hb dX8_nights_24 (by decide) ?_
    obtain ⟨r3, σ4, hc4, hf⟩ := nBd_e hf
    refine nb_callVi (As := [.int 1]) (rest := []) ⟨hx, hb, hml, hown, hts⟩ (c_X8_refuse (D := D) (A := A) (cy := cy) (a := a) (kt := kt) (vt := vt) (l := l)  hc4) (cwV 1 hts gX8_nights_X8_refuse rfl rfl rfl (by decide +kernel) ⟨Nat.le_of_ble_eq_true rfl, Nat.le_of_ble_eq_true rfl⟩) hE hP hS nbo_0 rfl rfl hl.1 rfl (Nat.le_of_ble_eq_true rfl) dX8_nights_25 (fun H locs hP hS => ?_)
    exact nb_iret hx hb hr hlocks hP hS (nSo hf) dX8_nights_28
  · replace hf := nIf_f hc hf
    refine lv_aload_n hx hb dX8_nights_11 rfl (lv_at hl 0 rfl) ?_
    refine nb_get (ci := 8) hx hb hts iX8_nights_X8 hown hE hP 0 nbo_0 rfl 0 (by decide) qX8_nights_12 rfl rfl dX8_nights_12 ?_
    refine lv_iload hx hb dX8_nights_15 (lv_at hl 4 rfl) ?_
    obtain ⟨r5, σ6, hc6, hf⟩ := nBd_e hf
    refine nb_callVi (As := [.int x4]) (rest := []) ⟨hx, hb, hml, hown, hts⟩ (c_X7_hasBook (D := D) (A := A) (cy := cy) (a := a) (kt := kt) (vt := vt) (l := l)  hc6) (cwV 1 hts gX8_nights_X7_hasBook rfl rfl rfl (by decide +kernel) ⟨Nat.le_of_ble_eq_true rfl, Nat.le_of_ble_eq_true rfl⟩) hE hP hS nbo_1 rfl rfl hl.1 rfl (Nat.le_of_ble_eq_true rfl) dX8_nights_17 (fun H locs hP hS => ?_)
    refine lv_if_ne (tgt := 29) hx hb dX8_nights_20 (by decide) (fun hc => ?_) (fun hc => ?_)
    · replace hf := nIf_f hc hf
      refine lv_iload_n hx hb dX8_nights_29 rfl (lv_at hl 2 rfl) ?_
      obtain ⟨r7, σ8, hc8, hf⟩ := nBd_e hf
      refine nb_callSi (As := [.int x2]) (rest := []) ⟨hx, hb, hml, hown, hts⟩ (c_X8_areBits (D := D) (A := A) (cy := cy) (a := a) (kt := kt) (vt := vt) (l := l)  hc8) (va_cwS 1 hts gX8_nights_X8_areBits rfl rfl rfl (by decide +kernel) ⟨Nat.le_of_ble_eq_true rfl, Nat.le_of_ble_eq_true rfl⟩) hE hP hS rfl hl.1 rfl (Nat.le_of_ble_eq_true rfl) dX8_nights_30 (fun H locs hP hS => ?_)
      refine lv_if_eq (tgt := 67) hx hb dX8_nights_33 (by decide) (fun hc => ?_) (fun hc => ?_)
      · replace hf := nIf_t hc hf
        refine lv_aload_n hx hb dX8_nights_67 rfl (lv_at hl 0 rfl) ?_
        refine lv_iconst (v := 2) hx hb dX8_nights_68 (by decide) ?_
        obtain ⟨r9, σ10, hc10, hf⟩ := nBd_e hf
        refine nb_callVi (As := [.int 2]) (rest := []) ⟨hx, hb, hml, hown, hts⟩ (c_X8_refuse (D := D) (A := A) (cy := cy) (a := a) (kt := kt) (vt := vt) (l := l)  hc10) (cwV 1 hts gX8_nights_X8_refuse rfl rfl rfl (by decide +kernel) ⟨Nat.le_of_ble_eq_true rfl, Nat.le_of_ble_eq_true rfl⟩) hE hP hS nbo_0 rfl rfl hl.1 rfl (Nat.le_of_ble_eq_true rfl) dX8_nights_69 (fun H locs hP hS => ?_)
        exact nb_iret hx hb hr hlocks hP hS (nSo hf) dX8_nights_72
      · replace hf := nIf_f hc hf
        refine lv_iload_n hx hb dX8_nights_36 rfl (lv_at hl 3 rfl) ?_
        obtain ⟨r11, σ12, hc12, hf⟩ := nBd_e hf
        refine nb_callSi (As := [.int x3]) (rest := []) ⟨hx, hb, hml, hown, hts⟩ (c_X8_areBits (D := D) (A := A) (cy := cy) (a := a) (kt := kt) (vt := vt) (l := l)  hc12) (va_cwS 1 hts gX8_nights_X8_areBits rfl rfl rfl (by decide +kernel) ⟨Nat.le_of_ble_eq_true rfl, Nat.le_of_ble_eq_true rfl⟩) hE hP hS rfl hl.1 rfl (Nat.le_of_ble_eq_true rfl) dX8_nights_37 (fun H locs hP hS => ?_)
        refine lv_if_eq (tgt := 67) hx hb dX8_nights_40 (by decide) (fun hc => ?_) (fun hc => ?_)
        · replace hf := nIf_t hc hf
          refine lv_aload_n hx hb dX8_nights_67 rfl (lv_at hl 0 rfl) ?_
          refine lv_iconst (v := 2) hx hb dX8_nights_68 (by decide) ?_
          obtain ⟨r13, σ14, hc14, hf⟩ := nBd_e hf
          refine nb_callVi (As := [.int 2]) (rest := []) ⟨hx, hb, hml, hown, hts⟩ (c_X8_refuse (D := D) (A := A) (cy := cy) (a := a) (kt := kt) (vt := vt) (l := l)  hc14) (cwV 1 hts gX8_nights_X8_refuse rfl rfl rfl (by decide +kernel) ⟨Nat.le_of_ble_eq_true rfl, Nat.le_of_ble_eq_true rfl⟩) hE hP hS nbo_0 rfl rfl hl.1 rfl (Nat.le_of_ble_eq_true rfl) dX8_nights_69 (fun H locs hP hS => ?_)
          exact nb_iret hx hb hr hlocks hP hS (nSo hf) dX8_nights_72
        · replace hf := nIf_f hc hf
          refine lv_iload hx hb dX8_nights_43 (lv_at hl 5 rfl) ?_
          obtain ⟨r15, σ16, hc16, hf⟩ := nBd_e hf
          refine nb_callSi (As := [.int x5]) (rest := []) ⟨hx, hb, hml, hown, hts⟩ (c_X8_areBits (D := D) (A := A) (cy := cy) (a := a) (kt := kt) (vt := vt) (l := l)  hc16) (va_cwS 1 hts gX8_nights_X8_areBits rfl rfl rfl (by decide +kernel) ⟨Nat.le_of_ble_eq_true rfl, Nat.le_of_ble_eq_true rfl⟩) hE hP hS rfl hl.1 rfl (Nat.le_of_ble_eq_true rfl) dX8_nights_45 (fun H locs hP hS => ?_)
          refine lv_if_eq (tgt := 67) hx hb dX8_nights_48 (by decide) (fun hc => ?_) (fun hc => ?_)
          · replace hf := nIf_t hc hf
            refine lv_aload_n hx hb dX8_nights_67 rfl (lv_at hl 0 rfl) ?_
            refine lv_iconst (v := 2) hx hb dX8_nights_68 (by decide) ?_
            obtain ⟨r17, σ18, hc18, hf⟩ := nBd_e hf
            refine nb_callVi (As := [.int 2]) (rest := []) ⟨hx, hb, hml, hown, hts⟩ (c_X8_refuse (D := D) (A := A) (cy := cy) (a := a) (kt := kt) (vt := vt) (l := l)  hc18) (cwV 1 hts gX8_nights_X8_refuse rfl rfl rfl (by decide +kernel) ⟨Nat.le_of_ble_eq_true rfl, Nat.le_of_ble_eq_true rfl⟩) hE hP hS nbo_0 rfl rfl hl.1 rfl (Nat.le_of_ble_eq_true rfl) dX8_nights_69 (fun H locs hP hS => ?_)
            exact nb_iret hx hb hr hlocks hP hS (nSo hf) dX8_nights_72
          · replace hf := nIf_f hc hf
            refine lv_iload hx hb dX8_nights_51 (lv_at hl 6 rfl) ?_
            obtain ⟨r19, σ20, hc20, hf⟩ := nBd_e hf
            refine nb_callSi (As := [.int x6]) (rest := []) ⟨hx, hb, hml, hown, hts⟩ (c_X8_areBits (D := D) (A := A) (cy := cy) (a := a) (kt := kt) (vt := vt) (l := l)  hc20) (va_cwS 1 hts gX8_nights_X8_areBits rfl rfl rfl (by decide +kernel) ⟨Nat.le_of_ble_eq_true rfl, Nat.le_of_ble_eq_true rfl⟩) hE hP hS rfl hl.1 rfl (Nat.le_of_ble_eq_true rfl) dX8_nights_53 (fun H locs hP hS => ?_)
            refine lv_if_eq (tgt := 67) hx hb dX8_nights_56 (by decide) (fun hc => ?_) (fun hc => ?_)
            · replace hf := nIf_t hc hf
              refine lv_aload_n hx hb dX8_nights_67 rfl (lv_at hl 0 rfl) ?_
              refine lv_iconst (v := 2) hx hb dX8_nights_68 (by decide) ?_
              obtain ⟨r21, σ22, hc22, hf⟩ := nBd_e hf
              refine nb_callVi (As := [.int 2]) (rest := []) ⟨hx, hb, hml, hown, hts⟩ (c_X8_refuse (D := D) (A := A) (cy := cy) (a := a) (kt := kt) (vt := vt) (l := l)  hc22) (cwV 1 hts gX8_nights_X8_refuse rfl rfl rfl (by decide +kernel) ⟨Nat.le_of_ble_eq_true rfl, Nat.le_of_ble_eq_true rfl⟩) hE hP hS nbo_0 rfl rfl hl.1 rfl (Nat.le_of_ble_eq_true rfl) dX8_nights_69 (fun H locs hP hS => ?_)
              exact nb_iret hx hb hr hlocks hP hS (nSo hf) dX8_nights_72
            · replace hf := nIf_f hc hf
              refine lv_iload hx hb dX8_nights_59 (lv_at hl 7 rfl) ?_
              obtain ⟨r23, σ24, hc24, hf⟩ := nBd_e hf
              refine nb_callSi (As := [.int x7]) (rest := []) ⟨hx, hb, hml, hown, hts⟩ (c_X8_areBits (D := D) (A := A) (cy := cy) (a := a) (kt := kt) (vt := vt) (l := l)  hc24) (va_cwS 1 hts gX8_nights_X8_areBits rfl rfl rfl (by decide +kernel) ⟨Nat.le_of_ble_eq_true rfl, Nat.le_of_ble_eq_true rfl⟩) hE hP hS rfl hl.1 rfl (Nat.le_of_ble_eq_true rfl) dX8_nights_61 (fun H locs hP hS => ?_)
              refine lv_if_ne (tgt := 73) hx hb dX8_nights_64 (by decide) (fun hc => ?_) (fun hc => ?_)
              · replace hf := nIf_f hc hf
                refine lv_aload_n hx hb dX8_nights_73 rfl (lv_at hl 0 rfl) ?_
                refine nb_get (ci := 8) hx hb hts iX8_nights_X8 hown hE hP 0 nbo_0 rfl 5 (by decide) qX8_nights_42 rfl rfl dX8_nights_74 ?_
                refine lv_aload_n hx hb dX8_nights_77 rfl (lv_at hl 0 rfl) ?_
                refine nb_get (ci := 8) hx hb hts iX8_nights_X8 hown hE hP 0 nbo_0 rfl 0 (by decide) qX8_nights_12 rfl rfl dX8_nights_78 ?_
                refine lv_iload_n hx hb dX8_nights_81 rfl (lv_at hl 1 rfl) ?_
                refine lv_iload_n hx hb dX8_nights_82 rfl (lv_at hl 2 rfl) ?_
                refine lv_iload_n hx hb dX8_nights_83 rfl (lv_at hl 3 rfl) ?_
                refine lv_iload hx hb dX8_nights_84 (lv_at hl 7 rfl) ?_
                obtain ⟨r25, σ26, hc26, hf⟩ := nBd_e hf
                refine nb_callVv (As := [.ref (a 1), .int x1, .int x2, .int x3, .int x7]) (rest := []) ⟨hx, hb, hml, hown, hts⟩ (c_X6_start (D := D) (A := A) (cy := cy) (a := a) (kt := kt) (vt := vt) (l := l) nWk_30 hc26) (cwV 5 hts gX8_nights_X6_start rfl rfl rfl (by decide +kernel) ⟨Nat.le_of_ble_eq_true rfl, Nat.le_of_ble_eq_true rfl⟩) hE hP hS (nboW nWk_30) rfl rfl hl.1 rfl (Nat.le_of_ble_eq_true rfl) dX8_nights_86 (fun H locs hP hS => ?_)
                refine lv_aload_n hx hb dX8_nights_89 rfl (lv_at hl 0 rfl) ?_
                refine nb_get (ci := 8) hx hb hts iX8_nights_X8 hown hE hP 0 nbo_0 rfl 6 (by decide) qX8_nights_45 rfl rfl dX8_nights_90 ?_
                refine lv_aload_n hx hb dX8_nights_93 rfl (lv_at hl 0 rfl) ?_
                refine nb_get (ci := 8) hx hb hts iX8_nights_X8 hown hE hP 0 nbo_0 rfl 0 (by decide) qX8_nights_12 rfl rfl dX8_nights_94 ?_
                refine lv_iload hx hb dX8_nights_97 (lv_at hl 4 rfl) ?_
                refine lv_iload hx hb dX8_nights_99 (lv_at hl 5 rfl) ?_
                refine lv_iload hx hb dX8_nights_101 (lv_at hl 6 rfl) ?_
                refine lv_iload hx hb dX8_nights_103 (lv_at hl 7 rfl) ?_
                obtain ⟨r27, σ28, hc28, hf⟩ := nBd_e hf
                refine nb_callVv (As := [.ref (a 1), .int x4, .int x5, .int x6, .int x7]) (rest := []) ⟨hx, hb, hml, hown, hts⟩ (c_X6_start (D := D) (A := A) (cy := cy) (a := a) (kt := kt) (vt := vt) (l := l) nWk_33 hc28) (cwV 5 hts gX8_nights_X6_start rfl rfl rfl (by decide +kernel) ⟨Nat.le_of_ble_eq_true rfl, Nat.le_of_ble_eq_true rfl⟩) hE hP hS (nboW nWk_33) rfl rfl hl.1 rfl (Nat.le_of_ble_eq_true rfl) dX8_nights_105 (fun H locs hP hS => ?_)
                refine lv_aload_n hx hb dX8_nights_108 rfl (lv_at hl 0 rfl) ?_
                refine nb_get (ci := 8) hx hb hts iX8_nights_X8 hown hE hP 0 nbo_0 rfl 2 (by decide) qX8_nights_26 rfl rfl dX8_nights_109 ?_
                obtain ⟨r29, σ30, hc30, hf⟩ := nBd_e hf
                refine nb_callVv (As := []) (rest := []) ⟨hx, hb, hml, hown, hts⟩ (c_X3_rest (D := D) (A := A) (cy := cy) (a := a) (kt := kt) (vt := vt) (l := l)  hc30) (cwV 0 hts gX8_nights_X3_rest rfl rfl rfl (by decide +kernel) ⟨Nat.le_of_ble_eq_true rfl, Nat.le_of_ble_eq_true rfl⟩) hE hP hS nbo_10 rfl rfl hl.1 rfl (Nat.le_of_ble_eq_true rfl) dX8_nights_112 (fun H locs hP hS => ?_)
                refine lv_iconst (v := 0) hx hb dX8_nights_115 (by decide) ?_
                refine lv_istore (lv' := [(8, .int 0), (0, .ref (a 0)), (1, .int x1), (2, .int x2), (3, .int x3), (4, .int x4), (5, .int x5), (6, .int x6), (7, .int x7)]) hx hb dX8_nights_116 hl (by decide) rfl (fun ls hl => ?_)
                exact K118 σ30 0 H locs ls (lv_sub hl [1, 0] rfl) hP hS hf
              · replace hf := nIf_t hc hf
                refine lv_aload_n hx hb dX8_nights_67 rfl (lv_at hl 0 rfl) ?_
                refine lv_iconst (v := 2) hx hb dX8_nights_68 (by decide) ?_
                obtain ⟨r31, σ32, hc32, hf⟩ := nBd_e hf
                refine nb_callVi (As := [.int 2]) (rest := []) ⟨hx, hb, hml, hown, hts⟩ (c_X8_refuse (D := D) (A := A) (cy := cy) (a := a) (kt := kt) (vt := vt) (l := l)  hc32) (cwV 1 hts gX8_nights_X8_refuse rfl rfl rfl (by decide +kernel) ⟨Nat.le_of_ble_eq_true rfl, Nat.le_of_ble_eq_true rfl⟩) hE hP hS nbo_0 rfl rfl hl.1 rfl (Nat.le_of_ble_eq_true rfl) dX8_nights_69 (fun H locs hP hS => ?_)
                exact nb_iret hx hb hr hlocks hP hS (nSo hf) dX8_nights_72
    · replace hf := nIf_t hc hf
      refine lv_aload_n hx hb dX8_nights_23 rfl (lv_at hl 0 rfl) ?_
      refine lv_iconst (v := 1) hx hb dX8_nights_24 (by decide) ?_
      obtain ⟨r33, σ34, hc34, hf⟩ := nBd_e hf
      refine nb_callVi (As := [.int 1]) (rest := []) ⟨hx, hb, hml, hown, hts⟩ (c_X8_refuse (D := D) (A := A) (cy := cy) (a := a) (kt := kt) (vt := vt) (l := l)  hc34) (cwV 1 hts gX8_nights_X8_refuse rfl rfl rfl (by decide +kernel) ⟨Nat.le_of_ble_eq_true rfl, Nat.le_of_ble_eq_true rfl⟩) hE hP hS nbo_0 rfl rfl hl.1 rfl (Nat.le_of_ble_eq_true rfl) dX8_nights_25 (fun H locs hP hS => ?_)
      exact nb_iret hx hb hr hlocks hP hS (nSo hf) dX8_nights_28
def l_X8_nights_148 (N : Nat) (k118 : nS → Int32 → Option (Int32 × nS)) : nS → Int32 → Option (Int32 × nS) := b_X8_nights_148 N k118
theorem kl_X8_nights_148 {p : Program} {l : Launch} {e : Env} {s : State} {m : MethodId} {args : Array Value} {below : List Frame} {meth : Method} {c : Code} {D : va_G} {A : Nat → Prop} {cy : Nat → ClassId} {a kt vt : Nat → Nat} {N : Nat}   (C0 : nCx p s m args meth c cX8_nights 9 (some .int) RX8 wsX8_nights) (hE : nEn D A cy (NBw cy a) kt vt s) {z : Int32 × nS} {k118 : nS → Int32 → Option (Int32 × nS)} (K118 : ∀ (σ : nS) (x8 : Int32) (H : Heap) (locs : List Loc) (ls : Array Slot), lv_has ls 9 [(0, .ref (a 0)), (8, .int x8)] → va_P D vwCl ((NBw cy a) σ) H → va_S A s.heap H locs → k118 σ x8 = some z → W p l e ({ frames := 3, cells := 0, slots := 0, locals := 74 } : Room) s m args below meth c H locs 0 0 (nQi below D A (NBw cy a) args s z) (F0 m 118 ls [])) : ∀ (σ : nS) (x8 : Int32) (H : Heap) (locs : List Loc) (ls : Array Slot), lv_has ls 9 [(0, .ref (a 0)), (8, .int x8)] → va_P D vwCl ((NBw cy a) σ) H → va_S A s.heap H locs → l_X8_nights_148 N k118 σ x8 = some z → W p l e ({ frames := 3, cells := 0, slots := 0, locals := 74 } : Room) s m args below meth c H locs 0 0 (nQi below D A (NBw cy a) args s z) (F0 m 148 ls []) := by
  exact kb_X8_nights_148 (N := N)  C0 hE K118
def l_X8_nights_188 (N : Nat) : nS → Option (Int32 × nS) := b_X8_nights_188 N
theorem kl_X8_nights_188 {p : Program} {l : Launch} {e : Env} {s : State} {m : MethodId} {args : Array Value} {below : List Frame} {meth : Method} {c : Code} {D : va_G} {A : Nat → Prop} {cy : Nat → ClassId} {a kt vt : Nat → Nat} {N : Nat}   (C0 : nCx p s m args meth c cX8_nights 9 (some .int) RX8 wsX8_nights) (hE : nEn D A cy (NBw cy a) kt vt s) {z : Int32 × nS} : ∀ (σ : nS) (H : Heap) (locs : List Loc) (ls : Array Slot), lv_has ls 9 [(0, .ref (a 0))] → va_P D vwCl ((NBw cy a) σ) H → va_S A s.heap H locs → l_X8_nights_188 N σ = some z → W p l e ({ frames := 3, cells := 0, slots := 0, locals := 74 } : Room) s m args below meth c H locs 0 0 (nQi below D A (NBw cy a) args s z) (F0 m 188 ls []) := by
  exact kb_X8_nights_188 (N := N)  C0 hE
def l_X8_nights_118 (N : Nat) : nS → Int32 → Option (Int32 × nS) := nLp (fun _ _ => none) (fun again => b_X8_nights_118 N (l_X8_nights_148 N again) (l_X8_nights_188 N)) N
theorem kl_X8_nights_118 {p : Program} {l : Launch} {e : Env} {s : State} {m : MethodId} {args : Array Value} {below : List Frame} {meth : Method} {c : Code} {D : va_G} {A : Nat → Prop} {cy : Nat → ClassId} {a kt vt : Nat → Nat} {N : Nat}   (C0 : nCx p s m args meth c cX8_nights 9 (some .int) RX8 wsX8_nights) (hE : nEn D A cy (NBw cy a) kt vt s) {z : Int32 × nS} : ∀ (σ : nS) (x8 : Int32) (H : Heap) (locs : List Loc) (ls : Array Slot), lv_has ls 9 [(0, .ref (a 0)), (8, .int x8)] → va_P D vwCl ((NBw cy a) σ) H → va_S A s.heap H locs → l_X8_nights_118 N σ x8 = some z → W p l e ({ frames := 3, cells := 0, slots := 0, locals := 74 } : Room) s m args below meth c H locs 0 0 (nQi below D A (NBw cy a) args s z) (F0 m 118 ls []) := by
  have main : ∀ (fu : Nat), ∀ (σ : nS) (x8 : Int32) (H : Heap) (locs : List Loc) (ls : Array Slot), lv_has ls 9 [(0, .ref (a 0)), (8, .int x8)] → va_P D vwCl ((NBw cy a) σ) H → va_S A s.heap H locs → nLp (fun _ _ => none) (fun again => b_X8_nights_118 N (l_X8_nights_148 N again) (l_X8_nights_188 N)) fu σ x8 = some z → W p l e ({ frames := 3, cells := 0, slots := 0, locals := 74 } : Room) s m args below meth c H locs 0 0 (nQi below D A (NBw cy a) args s z) (F0 m 118 ls []) := by
    intro fu
    induction fu with
    | zero => intro σ x8 H locs ls hl hP hS hf; cases hf
    | succ fu ih => exact kb_X8_nights_118 (N := N)  C0 hE (kl_X8_nights_148 (N := N)  C0 hE ih) (kl_X8_nights_188 (N := N)  C0 hE)
  exact main N
def l_X8_nights_0 (N : Nat) : nS → Int32 → Int32 → Int32 → Int32 → Int32 → Int32 → Int32 → Option (Int32 × nS) := b_X8_nights_0 N (l_X8_nights_118 N)
theorem kl_X8_nights_0 {p : Program} {l : Launch} {e : Env} {s : State} {m : MethodId} {args : Array Value} {below : List Frame} {meth : Method} {c : Code} {D : va_G} {A : Nat → Prop} {cy : Nat → ClassId} {a kt vt : Nat → Nat} {N : Nat}   (C0 : nCx p s m args meth c cX8_nights 9 (some .int) RX8 wsX8_nights) (hE : nEn D A cy (NBw cy a) kt vt s) {z : Int32 × nS} : ∀ (σ : nS) (x1 : Int32) (x2 : Int32) (x3 : Int32) (x4 : Int32) (x5 : Int32) (x6 : Int32) (x7 : Int32) (H : Heap) (locs : List Loc) (ls : Array Slot), lv_has ls 9 [(0, .ref (a 0)), (1, .int x1), (2, .int x2), (3, .int x3), (4, .int x4), (5, .int x5), (6, .int x6), (7, .int x7)] → va_P D vwCl ((NBw cy a) σ) H → va_S A s.heap H locs → l_X8_nights_0 N σ x1 x2 x3 x4 x5 x6 x7 = some z → W p l e ({ frames := 3, cells := 0, slots := 0, locals := 74 } : Room) s m args below meth c H locs 0 0 (nQi below D A (NBw cy a) args s z) (F0 m 0 ls []) := by
  exact kb_X8_nights_0 (N := N)  C0 hE (kl_X8_nights_118 (N := N)  C0 hE)
def f_X8_nights (N : Nat) (x1 : Int32) (x2 : Int32) (x3 : Int32) (x4 : Int32) (x5 : Int32) (x6 : Int32) (x7 : Int32) (σ : nS) : Option (Int32 × nS) := l_X8_nights_0 N σ x1 x2 x3 x4 x5 x6 x7
set_option maxHeartbeats 4000000 in
set_option maxRecDepth 100000 in
theorem c_X8_nights {l : Launch} {D : va_G} {A : Nat → Prop} {cy : Nat → ClassId} {a kt vt : Nat → Nat} {N : Nat}   {x1 : Int32} {x2 : Int32} {x3 : Int32} {x4 : Int32} {x5 : Int32} {x6 : Int32} {x7 : Int32} {σ : nS} {r : Int32} {σ' : nS} (hf : f_X8_nights N x1 x2 x3 x4 x5 x6 x7 σ = some (r, σ')) : nMi l yX8_nights wsX8_nights ({ frames := 3, cells := 0, slots := 0, locals := 74 } : Room) D A cy (NBw cy a) kt vt [.ref (a 0), .int x1, .int x2, .int x3, .int x4, .int x5, .int x6, .int x7] σ r σ' := by
  refine Met.ofW (cc := cX8_nights) (maxL := 9) (ret := (some .int)) (by decide) rfl ?_
  intro p e s m args below meth c s₁ B hml hv
  obtain ⟨rfl, hP, hE⟩ := hv
  have hl := lv_entry ([.ref (a 0), .int x1, .int x2, .int x3, .int x4, .int x5, .int x6, .int x7]) (n := 9) (Nat.le_of_ble_eq_true rfl)
  rw [lg_entry_eq]
  generalize (lg_sl ([.ref (a 0), .int x1, .int x2, .int x3, .int x4, .int x5, .int x6, .int x7]) ++ List.replicate (9 - (lg_sl ([.ref (a 0), .int x1, .int x2, .int x3, .int x4, .int x5, .int x6, .int x7])).length) Slot.unset).toArray = ls at hl ⊢
  have C0 : nCx p s m _ meth c cX8_nights 9 (some .int) RX8 wsX8_nights := ⟨B.exec, B.bytes, B.returns, hml, findClass_of_methodNamed B.named, atoms_spec (ws := wsX8_nights) B.pre, B.notSynchronized⟩
  exact kl_X8_nights_0 (N := N)  C0 hE (z := (r, σ')) σ x1 x2 x3 x4 x5 x6 x7 _ _ ls hl hP va_S.rf hf

/-! X8_isUnlike -/
set_option maxRecDepth 20000 in
theorem iX8_isUnlike_X8 : ∀ w ∈ u_ws RX8 TX8 13, w ∈ wsX8_isUnlike := fun _ h => List.mem_cons_of_mem _ (List.mem_append_left _ (List.mem_append_left _ (List.mem_append_left _ (List.mem_append_right _ h))))
set_option maxRecDepth 20000 in
theorem qX8_isUnlike_39 : Cond.fieldLink RX8 39 RX8 (TX8 4).2.1 (TX8 4).2.2.1 ∈ wsX8_isUnlike := by decide +kernel
set_option maxRecDepth 20000 in
theorem iX8_isUnlike_X6 : ∀ w ∈ u_ws RX6 TX6 12, w ∈ wsX8_isUnlike := fun _ h => List.mem_cons_of_mem _ (List.mem_append_left _ (List.mem_append_left _ (List.mem_append_right _ h)))
def b_X8_isUnlike_0 (N : Nat) (σ : nS) (x1 : Int32) (x2 : Int32) (x3 : Int32) : Option (Int32 × nS) := nBd (f_X8_tryRow N x1 x3 σ) (fun r1 σ2 => nBd (f_X8_tryRow N x2 x3 σ2) (fun r3 σ4 => (if r3 = r1 then (if r1 = 0 then (if (σ4.1 27 8) = (σ2.1 27 8) then some (0, σ4) else some (1, σ4)) else some (0, σ4)) else some (1, σ4))))
set_option maxHeartbeats 4000000 in
set_option maxRecDepth 100000 in
theorem kb_X8_isUnlike_0 {p : Program} {l : Launch} {e : Env} {s : State} {m : MethodId} {args : Array Value} {below : List Frame} {meth : Method} {c : Code} {D : va_G} {A : Nat → Prop} {cy : Nat → ClassId} {a kt vt : Nat → Nat} {N : Nat}   (C0 : nCx p s m args meth c cX8_isUnlike 6 (some .boolean) RX8 wsX8_isUnlike) (hE : nEn D A cy (NBw cy a) kt vt s) {z : Int32 × nS} : ∀ (σ : nS) (x1 : Int32) (x2 : Int32) (x3 : Int32) (H : Heap) (locs : List Loc) (ls : Array Slot), lv_has ls 6 [(0, .ref (a 0)), (1, .int x1), (2, .int x2), (3, .int x3)] → va_P D vwCl ((NBw cy a) σ) H → va_S A s.heap H locs → b_X8_isUnlike_0 N σ x1 x2 x3 = some z → W p l e ({ frames := 4, cells := 0, slots := 0, locals := 96 } : Room) s m args below meth c H locs 0 0 (nQi below D A (NBw cy a) args s z) (F0 m 0 ls []) := by
  obtain ⟨hx, hb, hr, hml, hown, hts, hlocks⟩ := C0
  intro σ x1 x2 x3 H locs ls hl hP hS hf
  unfold b_X8_isUnlike_0 at hf
  refine lv_aload_n hx hb dX8_isUnlike_0 rfl (lv_at hl 0 rfl) ?_
  refine lv_iload_n hx hb dX8_isUnlike_1 rfl (lv_at hl 1 rfl) ?_
  refine lv_iload_n hx hb dX8_isUnlike_2 rfl (lv_at hl 3 rfl) ?_
  obtain ⟨r1, σ2, hc2, hf⟩ := nBd_e hf
  refine nb_callVi (As := [.int x1, .int x3]) (rest := []) ⟨hx, hb, hml, hown, hts⟩ (c_X8_tryRow (D := D) (A := A) (cy := cy) (a := a) (kt := kt) (vt := vt) (l := l)  hc2) (cwV 2 hts gX8_isUnlike_X8_tryRow rfl rfl rfl (by decide +kernel) ⟨Nat.le_of_ble_eq_true rfl, Nat.le_of_ble_eq_true rfl⟩) hE hP hS nbo_0 rfl rfl hl.1 rfl (Nat.le_of_ble_eq_true rfl) dX8_isUnlike_3 (fun H locs hP hS => ?_)
  refine lv_istore (lv' := [(4, .int r1), (0, .ref (a 0)), (1, .int x1), (2, .int x2), (3, .int x3)]) hx hb dX8_isUnlike_6 hl (by decide) rfl (fun ls hl => ?_)
  refine lv_aload_n hx hb dX8_isUnlike_8 rfl (lv_at hl 1 rfl) ?_
  refine nb_get (ci := 8) hx hb hts iX8_isUnlike_X8 hown hE hP 0 nbo_0 rfl 4 (by decide) qX8_isUnlike_39 rfl rfl dX8_isUnlike_9 ?_
  refine nb_getN (ci := 6) hx hb hts iX8_isUnlike_X6 hown hE hP 27 (nboW nWk_27) rfl 8 (by decide) (host := RX8) (by decide +kernel) rfl rfl dX8_isUnlike_12 ?_
  refine lv_istore (lv' := [(5, .int (σ2.1 27 8)), (4, .int r1), (0, .ref (a 0)), (1, .int x1), (2, .int x2), (3, .int x3)]) hx hb dX8_isUnlike_15 hl (by decide) rfl (fun ls hl => ?_)
  refine lv_aload_n hx hb dX8_isUnlike_17 rfl (lv_at hl 2 rfl) ?_
  refine lv_iload_n hx hb dX8_isUnlike_18 rfl (lv_at hl 4 rfl) ?_
  refine lv_iload_n hx hb dX8_isUnlike_19 rfl (lv_at hl 5 rfl) ?_
  obtain ⟨r3, σ4, hc4, hf⟩ := nBd_e hf
  refine nb_callVi (As := [.int x2, .int x3]) (rest := []) ⟨hx, hb, hml, hown, hts⟩ (c_X8_tryRow (D := D) (A := A) (cy := cy) (a := a) (kt := kt) (vt := vt) (l := l)  hc4) (cwV 2 hts gX8_isUnlike_X8_tryRow rfl rfl rfl (by decide +kernel) ⟨Nat.le_of_ble_eq_true rfl, Nat.le_of_ble_eq_true rfl⟩) hE hP hS nbo_0 rfl rfl hl.1 rfl (Nat.le_of_ble_eq_true rfl) dX8_isUnlike_20 (fun H locs hP hS => ?_)
  refine lv_iload hx hb dX8_isUnlike_23 (lv_at hl 1 rfl) ?_
  refine lv_icmp_ne (tgt := 45) hx hb dX8_isUnlike_25 (by decide) (fun hc => ?_) (fun hc => ?_)
  · replace hf := nIf_f hc hf
    refine lv_iconst (v := 1) hx hb dX8_isUnlike_45 (by decide) ?_
    refine lv_goto (tgt := 50) hx hb dX8_isUnlike_46 (by decide) ?_
    exact nb_zret hx hb hr hlocks hP hS (nSo hf) rfl dX8_isUnlike_50
  · replace hf := nIf_t hc hf
    refine lv_iload hx hb dX8_isUnlike_28 (lv_at hl 1 rfl) ?_
    refine lv_if_ne (tgt := 49) hx hb dX8_isUnlike_30 (by decide) (fun hc => ?_) (fun hc => ?_)
    · replace hf := nIf_f hc hf
      refine lv_iconst (v := 0) hx hb dX8_isUnlike_49 (by decide) ?_
      exact nb_zret hx hb hr hlocks hP hS (nSo hf) rfl dX8_isUnlike_50
    · replace hf := nIf_t hc hf
      refine lv_aload_n hx hb dX8_isUnlike_33 rfl (lv_at hl 2 rfl) ?_
      refine nb_get (ci := 8) hx hb hts iX8_isUnlike_X8 hown hE hP 0 nbo_0 rfl 4 (by decide) qX8_isUnlike_39 rfl rfl dX8_isUnlike_34 ?_
      refine nb_getN (ci := 6) hx hb hts iX8_isUnlike_X6 hown hE hP 27 (nboW nWk_27) rfl 8 (by decide) (host := RX8) (by decide +kernel) rfl rfl dX8_isUnlike_37 ?_
      refine lv_iload hx hb dX8_isUnlike_40 (lv_at hl 0 rfl) ?_
      refine lv_icmp_eq (tgt := 49) hx hb dX8_isUnlike_42 (by decide) (fun hc => ?_) (fun hc => ?_)
      · replace hf := nIf_t hc hf
        refine lv_iconst (v := 0) hx hb dX8_isUnlike_49 (by decide) ?_
        exact nb_zret hx hb hr hlocks hP hS (nSo hf) rfl dX8_isUnlike_50
      · replace hf := nIf_f hc hf
        refine lv_iconst (v := 1) hx hb dX8_isUnlike_45 (by decide) ?_
        refine lv_goto (tgt := 50) hx hb dX8_isUnlike_46 (by decide) ?_
        exact nb_zret hx hb hr hlocks hP hS (nSo hf) rfl dX8_isUnlike_50
def l_X8_isUnlike_0 (N : Nat) : nS → Int32 → Int32 → Int32 → Option (Int32 × nS) := b_X8_isUnlike_0 N
theorem kl_X8_isUnlike_0 {p : Program} {l : Launch} {e : Env} {s : State} {m : MethodId} {args : Array Value} {below : List Frame} {meth : Method} {c : Code} {D : va_G} {A : Nat → Prop} {cy : Nat → ClassId} {a kt vt : Nat → Nat} {N : Nat}   (C0 : nCx p s m args meth c cX8_isUnlike 6 (some .boolean) RX8 wsX8_isUnlike) (hE : nEn D A cy (NBw cy a) kt vt s) {z : Int32 × nS} : ∀ (σ : nS) (x1 : Int32) (x2 : Int32) (x3 : Int32) (H : Heap) (locs : List Loc) (ls : Array Slot), lv_has ls 6 [(0, .ref (a 0)), (1, .int x1), (2, .int x2), (3, .int x3)] → va_P D vwCl ((NBw cy a) σ) H → va_S A s.heap H locs → l_X8_isUnlike_0 N σ x1 x2 x3 = some z → W p l e ({ frames := 4, cells := 0, slots := 0, locals := 96 } : Room) s m args below meth c H locs 0 0 (nQi below D A (NBw cy a) args s z) (F0 m 0 ls []) := by
  exact kb_X8_isUnlike_0 (N := N)  C0 hE
def f_X8_isUnlike (N : Nat) (x1 : Int32) (x2 : Int32) (x3 : Int32) (σ : nS) : Option (Int32 × nS) := l_X8_isUnlike_0 N σ x1 x2 x3
set_option maxHeartbeats 4000000 in
set_option maxRecDepth 100000 in
theorem c_X8_isUnlike {l : Launch} {D : va_G} {A : Nat → Prop} {cy : Nat → ClassId} {a kt vt : Nat → Nat} {N : Nat}   {x1 : Int32} {x2 : Int32} {x3 : Int32} {σ : nS} {r : Int32} {σ' : nS} (hf : f_X8_isUnlike N x1 x2 x3 σ = some (r, σ')) : nMi l yX8_isUnlike wsX8_isUnlike ({ frames := 4, cells := 0, slots := 0, locals := 96 } : Room) D A cy (NBw cy a) kt vt [.ref (a 0), .int x1, .int x2, .int x3] σ r σ' := by
  refine Met.ofW (cc := cX8_isUnlike) (maxL := 6) (ret := (some .boolean)) (by decide) rfl ?_
  intro p e s m args below meth c s₁ B hml hv
  obtain ⟨rfl, hP, hE⟩ := hv
  have hl := lv_entry ([.ref (a 0), .int x1, .int x2, .int x3]) (n := 6) (Nat.le_of_ble_eq_true rfl)
  rw [lg_entry_eq]
  generalize (lg_sl ([.ref (a 0), .int x1, .int x2, .int x3]) ++ List.replicate (6 - (lg_sl ([.ref (a 0), .int x1, .int x2, .int x3])).length) Slot.unset).toArray = ls at hl ⊢
  have C0 : nCx p s m _ meth c cX8_isUnlike 6 (some .boolean) RX8 wsX8_isUnlike := ⟨B.exec, B.bytes, B.returns, hml, findClass_of_methodNamed B.named, atoms_spec (ws := wsX8_isUnlike) B.pre, B.notSynchronized⟩
  exact kl_X8_isUnlike_0 (N := N)  C0 hE (z := (r, σ')) σ x1 x2 x3 _ _ ls hl hP va_S.rf hf

/-! X8_differ -/
set_option maxRecDepth 20000 in
theorem iX8_differ_X8 : ∀ w ∈ u_ws RX8 TX8 13, w ∈ wsX8_differ := fun _ h => List.mem_cons_of_mem _ (List.mem_append_left _ (List.mem_append_left _ (List.mem_append_left _ (List.mem_append_left _ (List.mem_append_right _ h)))))
set_option maxRecDepth 20000 in
theorem qX8_differ_12 : Cond.fieldLink RX8 12 RX8 (TX8 0).2.1 (TX8 0).2.2.1 ∈ wsX8_differ := by decide +kernel
set_option maxRecDepth 20000 in
theorem qX8_differ_51 : Cond.fieldLink RX8 51 RX8 (TX8 7).2.1 (TX8 7).2.2.1 ∈ wsX8_differ := by decide +kernel
set_option maxRecDepth 20000 in
theorem qX8_differ_76 : Cond.fieldLink RX8 76 RX8 (TX8 11).2.1 (TX8 11).2.2.1 ∈ wsX8_differ := by decide +kernel
def b_X8_differ_140 (N : Nat) (k104 : nS → Int32 → Int32 → Int32 → Int32 → Int32 → Option (Int32 × nS)) (σ : nS) (x1 : Int32) (x2 : Int32) (x7 : Int32) (x8 : Int32) (x9 : Int32) : Option (Int32 × nS) := nLet (x9 + 1 : Int32) (fun v1 => k104 σ x1 x2 x7 x8 v1)
set_option maxHeartbeats 4000000 in
set_option maxRecDepth 100000 in
theorem kb_X8_differ_140 {p : Program} {l : Launch} {e : Env} {s : State} {m : MethodId} {args : Array Value} {below : List Frame} {meth : Method} {c : Code} {D : va_G} {A : Nat → Prop} {cy : Nat → ClassId} {a kt vt : Nat → Nat} {N : Nat}   (C0 : nCx p s m args meth c cX8_differ 10 (some .int) RX8 wsX8_differ) (hE : nEn D A cy (NBw cy a) kt vt s) {z : Int32 × nS} {k104 : nS → Int32 → Int32 → Int32 → Int32 → Int32 → Option (Int32 × nS)} (K104 : ∀ (σ : nS) (x1 : Int32) (x2 : Int32) (x7 : Int32) (x8 : Int32) (x9 : Int32) (H : Heap) (locs : List Loc) (ls : Array Slot), lv_has ls 10 [(0, .ref (a 0)), (1, .int x1), (2, .int x2), (7, .int x7), (8, .int x8), (9, .int x9)] → va_P D vwCl ((NBw cy a) σ) H → va_S A s.heap H locs → k104 σ x1 x2 x7 x8 x9 = some z → W p l e ({ frames := 5, cells := 0, slots := 0, locals := 121 } : Room) s m args below meth c H locs 0 0 (nQi below D A (NBw cy a) args s z) (F0 m 104 ls [])) : ∀ (σ : nS) (x1 : Int32) (x2 : Int32) (x7 : Int32) (x8 : Int32) (x9 : Int32) (H : Heap) (locs : List Loc) (ls : Array Slot), lv_has ls 10 [(0, .ref (a 0)), (1, .int x1), (2, .int x2), (7, .int x7), (8, .int x8), (9, .int x9)] → va_P D vwCl ((NBw cy a) σ) H → va_S A s.heap H locs → b_X8_differ_140 N k104 σ x1 x2 x7 x8 x9 = some z → W p l e ({ frames := 5, cells := 0, slots := 0, locals := 121 } : Room) s m args below meth c H locs 0 0 (nQi below D A (NBw cy a) args s z) (F0 m 140 ls []) := by
  obtain ⟨hx, hb, hr, hml, hown, hts, hlocks⟩ := C0
  intro σ x1 x2 x7 x8 x9 H locs ls hl hP hS hf
  unfold b_X8_differ_140 at hf
  obtain ⟨v1, ev1⟩ : ∃ y : Int32, y = x9 + 1 := ⟨_, rfl⟩
  replace hf := nLet_e hf ev1
  refine lv_iinc (v := v1) (lv' := [(9, .int v1), (0, .ref (a 0)), (1, .int x1), (2, .int x2), (7, .int x7), (8, .int x8)]) hx hb dX8_differ_140 hl (k := 5) rfl (by rw [ev1]; rfl) (by decide) rfl (fun ls hl => ?_)
  refine lv_goto (tgt := 104) hx hb dX8_differ_143 (by decide) ?_
  exact K104 σ x1 x2 x7 x8 v1 H locs ls (lv_sub hl [1, 2, 3, 4, 5, 0] rfl) hP hS hf
def b_X8_differ_104 (N : Nat) (k140 : nS → Int32 → Int32 → Int32 → Int32 → Int32 → Option (Int32 × nS)) (σ : nS) (x1 : Int32) (x2 : Int32) (x7 : Int32) (x8 : Int32) (x9 : Int32) : Option (Int32 × nS) := (if x7 ≤ x9 then nBd (f_X8_accept N x8 σ) (fun r1 σ2 => some (r1, σ2)) else nLet (Int32.ofNat 500) (fun v3 => (if v3 ≤ x9 then nBd (f_X8_accept N x8 σ) (fun r4 σ5 => some (r4, σ5)) else nIx x9 500 (nLet (σ.1 23 (x9).toNatClampNeg) (fun v6 => nBd (f_X8_isUnlike N x1 x2 v6 σ) (fun r7 σ8 => (if r7 = 0 then k140 σ8 x1 x2 x7 x8 x9 else nLet (x8 + 1 : Int32) (fun v9 => k140 σ8 x1 x2 x7 v9 x9))))))))
set_option maxHeartbeats 4000000 in
set_option maxRecDepth 100000 in
theorem kb_X8_differ_104 {p : Program} {l : Launch} {e : Env} {s : State} {m : MethodId} {args : Array Value} {below : List Frame} {meth : Method} {c : Code} {D : va_G} {A : Nat → Prop} {cy : Nat → ClassId} {a kt vt : Nat → Nat} {N : Nat}   (C0 : nCx p s m args meth c cX8_differ 10 (some .int) RX8 wsX8_differ) (hE : nEn D A cy (NBw cy a) kt vt s) {z : Int32 × nS} {k140 : nS → Int32 → Int32 → Int32 → Int32 → Int32 → Option (Int32 × nS)} (K140 : ∀ (σ : nS) (x1 : Int32) (x2 : Int32) (x7 : Int32) (x8 : Int32) (x9 : Int32) (H : Heap) (locs : List Loc) (ls : Array Slot), lv_has ls 10 [(0, .ref (a 0)), (1, .int x1), (2, .int x2), (7, .int x7), (8, .int x8), (9, .int x9)] → va_P D vwCl ((NBw cy a) σ) H → va_S A s.heap H locs → k140 σ x1 x2 x7 x8 x9 = some z → W p l e ({ frames := 5, cells := 0, slots := 0, locals := 121 } : Room) s m args below meth c H locs 0 0 (nQi below D A (NBw cy a) args s z) (F0 m 140 ls [])) : ∀ (σ : nS) (x1 : Int32) (x2 : Int32) (x7 : Int32) (x8 : Int32) (x9 : Int32) (H : Heap) (locs : List Loc) (ls : Array Slot), lv_has ls 10 [(0, .ref (a 0)), (1, .int x1), (2, .int x2), (7, .int x7), (8, .int x8), (9, .int x9)] → va_P D vwCl ((NBw cy a) σ) H → va_S A s.heap H locs → b_X8_differ_104 N k140 σ x1 x2 x7 x8 x9 = some z → W p l e ({ frames := 5, cells := 0, slots := 0, locals := 121 } : Room) s m args below meth c H locs 0 0 (nQi below D A (NBw cy a) args s z) (F0 m 104 ls []) := by
  obtain ⟨hx, hb, hr, hml, hown, hts, hlocks⟩ := C0
  intro σ x1 x2 x7 x8 x9 H locs ls hl hP hS hf
  unfold b_X8_differ_104 at hf
  refine lv_iload hx hb dX8_differ_104 (lv_at hl 5 rfl) ?_
  refine lv_iload hx hb dX8_differ_106 (lv_at hl 3 rfl) ?_
  refine lv_icmp_ge (tgt := 146) hx hb dX8_differ_108 (by decide) (fun hc => ?_) (fun hc => ?_)
  · replace hf := nIf_t hc hf
    refine lv_aload_n hx hb dX8_differ_146 rfl (lv_at hl 0 rfl) ?_
    refine lv_iload hx hb dX8_differ_147 (lv_at hl 4 rfl) ?_
    obtain ⟨r1, σ2, hc2, hf⟩ := nBd_e hf
    refine nb_callVi (As := [.int x8]) (rest := []) ⟨hx, hb, hml, hown, hts⟩ (c_X8_accept (D := D) (A := A) (cy := cy) (a := a) (kt := kt) (vt := vt) (l := l)  hc2) (cwV 1 hts gX8_differ_X8_accept rfl rfl rfl (by decide +kernel) ⟨Nat.le_of_ble_eq_true rfl, Nat.le_of_ble_eq_true rfl⟩) hE hP hS nbo_0 rfl rfl hl.1 rfl (Nat.le_of_ble_eq_true rfl) dX8_differ_149 (fun H locs hP hS => ?_)
    exact nb_iret hx hb hr hlocks hP hS (nSo hf) dX8_differ_152
  · replace hf := nIf_f hc hf
    refine lv_iload hx hb dX8_differ_111 (lv_at hl 5 rfl) ?_
    refine lv_aload_n hx hb dX8_differ_113 rfl (lv_at hl 0 rfl) ?_
    refine nb_get (ci := 8) hx hb hts iX8_differ_X8 hown hE hP 0 nbo_0 rfl 11 (by decide) qX8_differ_76 rfl rfl dX8_differ_114 ?_
    refine na_alen hx hb hE hP nbr_23 dX8_differ_117 ?_
    refine lv_topi (fun v3 ev3 => ?_)
    replace hf := nLet_e hf ev3
    refine lv_icmp_ge (tgt := 146) hx hb dX8_differ_118 (by decide) (fun hc => ?_) (fun hc => ?_)
    · replace hf := nIf_t hc hf
      refine lv_aload_n hx hb dX8_differ_146 rfl (lv_at hl 0 rfl) ?_
      refine lv_iload hx hb dX8_differ_147 (lv_at hl 4 rfl) ?_
      obtain ⟨r4, σ5, hc5, hf⟩ := nBd_e hf
      refine nb_callVi (As := [.int x8]) (rest := []) ⟨hx, hb, hml, hown, hts⟩ (c_X8_accept (D := D) (A := A) (cy := cy) (a := a) (kt := kt) (vt := vt) (l := l)  hc5) (cwV 1 hts gX8_differ_X8_accept rfl rfl rfl (by decide +kernel) ⟨Nat.le_of_ble_eq_true rfl, Nat.le_of_ble_eq_true rfl⟩) hE hP hS nbo_0 rfl rfl hl.1 rfl (Nat.le_of_ble_eq_true rfl) dX8_differ_149 (fun H locs hP hS => ?_)
      exact nb_iret hx hb hr hlocks hP hS (nSo hf) dX8_differ_152
    · replace hf := nIf_f hc hf
      refine lv_aload_n hx hb dX8_differ_121 rfl (lv_at hl 0 rfl) ?_
      refine lv_iload_n hx hb dX8_differ_122 rfl (lv_at hl 1 rfl) ?_
      refine lv_iload_n hx hb dX8_differ_123 rfl (lv_at hl 2 rfl) ?_
      refine lv_aload_n hx hb dX8_differ_124 rfl (lv_at hl 0 rfl) ?_
      refine nb_get (ci := 8) hx hb hts iX8_differ_X8 hown hE hP 0 nbo_0 rfl 11 (by decide) qX8_differ_76 rfl rfl dX8_differ_125 ?_
      refine lv_iload hx hb dX8_differ_128 (lv_at hl 5 rfl) ?_
      obtain ⟨hin, hf⟩ := nIx_e hf
      refine na_iald hx hb hE hP nbr_23 hin dX8_differ_130 ?_
      refine lv_topi (fun v6 ev6 => ?_)
      replace hf := nLet_e hf ev6
      obtain ⟨r7, σ8, hc8, hf⟩ := nBd_e hf
      refine nb_callVi (As := [.int x1, .int x2, .int v6]) (rest := []) ⟨hx, hb, hml, hown, hts⟩ (c_X8_isUnlike (D := D) (A := A) (cy := cy) (a := a) (kt := kt) (vt := vt) (l := l)  hc8) (cwV 3 hts gX8_differ_X8_isUnlike rfl rfl rfl (by decide +kernel) ⟨Nat.le_of_ble_eq_true rfl, Nat.le_of_ble_eq_true rfl⟩) hE hP hS nbo_0 rfl rfl hl.1 rfl (Nat.le_of_ble_eq_true rfl) dX8_differ_131 (fun H locs hP hS => ?_)
      refine lv_if_eq (tgt := 140) hx hb dX8_differ_134 (by decide) (fun hc => ?_) (fun hc => ?_)
      · replace hf := nIf_t hc hf
        exact K140 σ8 x1 x2 x7 x8 x9 H locs ls (lv_sub hl [0, 1, 2, 3, 4, 5] rfl) hP hS hf
      · replace hf := nIf_f hc hf
        obtain ⟨v9, ev9⟩ : ∃ y : Int32, y = x8 + 1 := ⟨_, rfl⟩
        replace hf := nLet_e hf ev9
        refine lv_iinc (v := v9) (lv' := [(8, .int v9), (0, .ref (a 0)), (1, .int x1), (2, .int x2), (7, .int x7), (9, .int x9)]) hx hb dX8_differ_137 hl (k := 4) rfl (by rw [ev9]; rfl) (by decide) rfl (fun ls hl => ?_)
        exact K140 σ8 x1 x2 x7 v9 x9 H locs ls (lv_sub hl [1, 2, 3, 4, 0, 5] rfl) hP hS hf
def b_X8_differ_0 (N : Nat) (k104 : nS → Int32 → Int32 → Int32 → Int32 → Int32 → Option (Int32 × nS)) (σ : nS) (x1 : Int32) (x2 : Int32) (x3 : Int32) (x4 : Int32) (x5 : Int32) (x6 : Int32) : Option (Int32 × nS) := nBd (f_X7_hasBook N x1 σ) (fun r1 σ2 => (if r1 = 0 then nBd (f_X8_refuse N 1 σ2) (fun r3 σ4 => some (r3, σ4)) else nBd (f_X7_hasBook N x2 σ2) (fun r5 σ6 => (if r5 = 0 then nBd (f_X8_refuse N 1 σ6) (fun r21 σ22 => some (r21, σ22)) else nBd (f_X8_areBits N x3 σ6) (fun r7 σ8 => (if r7 = 0 then nBd (f_X8_refuse N 2 σ8) (fun r9 σ10 => some (r9, σ10)) else nBd (f_X8_areMosts N x4 x5 x6 σ8) (fun r11 σ12 => (if r11 = 0 then nBd (f_X8_refuse N 2 σ12) (fun r19 σ20 => some (r19, σ20)) else nBd (f_X0_prepare N x3 x4 x5 x6 σ12) (fun r13 σ14 => (if r13 ≤ 500 then nBd (f_X0_writeTo N 23 500 σ14) (fun r15 σ16 => k104 σ16 x1 x2 r13 0 0) else nBd (f_X8_refuse N 3 σ14) (fun r17 σ18 => some (r17, σ18))))))))))))
set_option maxHeartbeats 4000000 in
set_option maxRecDepth 100000 in
theorem kb_X8_differ_0 {p : Program} {l : Launch} {e : Env} {s : State} {m : MethodId} {args : Array Value} {below : List Frame} {meth : Method} {c : Code} {D : va_G} {A : Nat → Prop} {cy : Nat → ClassId} {a kt vt : Nat → Nat} {N : Nat}   (C0 : nCx p s m args meth c cX8_differ 10 (some .int) RX8 wsX8_differ) (hE : nEn D A cy (NBw cy a) kt vt s) {z : Int32 × nS} {k104 : nS → Int32 → Int32 → Int32 → Int32 → Int32 → Option (Int32 × nS)} (K104 : ∀ (σ : nS) (x1 : Int32) (x2 : Int32) (x7 : Int32) (x8 : Int32) (x9 : Int32) (H : Heap) (locs : List Loc) (ls : Array Slot), lv_has ls 10 [(0, .ref (a 0)), (1, .int x1), (2, .int x2), (7, .int x7), (8, .int x8), (9, .int x9)] → va_P D vwCl ((NBw cy a) σ) H → va_S A s.heap H locs → k104 σ x1 x2 x7 x8 x9 = some z → W p l e ({ frames := 5, cells := 0, slots := 0, locals := 121 } : Room) s m args below meth c H locs 0 0 (nQi below D A (NBw cy a) args s z) (F0 m 104 ls [])) : ∀ (σ : nS) (x1 : Int32) (x2 : Int32) (x3 : Int32) (x4 : Int32) (x5 : Int32) (x6 : Int32) (H : Heap) (locs : List Loc) (ls : Array Slot), lv_has ls 10 [(0, .ref (a 0)), (1, .int x1), (2, .int x2), (3, .int x3), (4, .int x4), (5, .int x5), (6, .int x6)] → va_P D vwCl ((NBw cy a) σ) H → va_S A s.heap H locs → b_X8_differ_0 N k104 σ x1 x2 x3 x4 x5 x6 = some z → W p l e ({ frames := 5, cells := 0, slots := 0, locals := 121 } : Room) s m args below meth c H locs 0 0 (nQi below D A (NBw cy a) args s z) (F0 m 0 ls []) := by
  obtain ⟨hx, hb, hr, hml, hown, hts, hlocks⟩ := C0
  intro σ x1 x2 x3 x4 x5 x6 H locs ls hl hP hS hf
  unfold b_X8_differ_0 at hf
  refine lv_aload_n hx hb dX8_differ_0 rfl (lv_at hl 0 rfl) ?_
  refine nb_get (ci := 8) hx hb hts iX8_differ_X8 hown hE hP 0 nbo_0 rfl 0 (by decide) qX8_differ_12 rfl rfl dX8_differ_1 ?_
  refine lv_iload_n hx hb dX8_differ_4 rfl (lv_at hl 1 rfl) ?_
  obtain ⟨r1, σ2, hc2, hf⟩ := nBd_e hf
  refine nb_callVi (As := [.int x1]) (rest := []) ⟨hx, hb, hml, hown, hts⟩ (c_X7_hasBook (D := D) (A := A) (cy := cy) (a := a) (kt := kt) (vt := vt) (l := l)  hc2) (cwV 1 hts gX8_differ_X7_hasBook rfl rfl rfl (by decide +kernel) ⟨Nat.le_of_ble_eq_true rfl, Nat.le_of_ble_eq_true rfl⟩) hE hP hS nbo_1 rfl rfl hl.1 rfl (Nat.le_of_ble_eq_true rfl) dX8_differ_5 (fun H locs hP hS => ?_)
  refine lv_if_eq (tgt := 22) hx hb dX8_differ_8 (by decide) (fun hc => ?_) (fun hc => ?_)
  · replace hf := nIf_t hc hf
    refine lv_aload_n hx hb dX8_differ_22 rfl (lv_at hl 0 rfl) ?_
    refine lv_iconst (v := 1) hx hb dX8_differ_23 (by decide) ?_
    obtain ⟨r3, σ4, hc4, hf⟩ := nBd_e hf
    refine nb_callVi (As := [.int 1]) (rest := []) ⟨hx, hb, hml, hown, hts⟩ (c_X8_refuse (D := D) (A := A) (cy := cy) (a := a) (kt := kt) (vt := vt) (l := l)  hc4) (cwV 1 hts gX8_differ_X8_refuse rfl rfl rfl (by decide +kernel) ⟨Nat.le_of_ble_eq_true rfl, Nat.le_of_ble_eq_true rfl⟩) hE hP hS nbo_0 rfl rfl hl.1 rfl (Nat.le_of_ble_eq_true rfl) dX8_differ_24 (fun H locs hP hS => ?_)
    exact nb_iret hx hb hr hlocks hP hS (nSo hf) dX8_differ_27
  · replace hf := nIf_f hc hf
    refine lv_aload_n hx hb dX8_differ_11 rfl (lv_at hl 0 rfl) ?_
    refine nb_get (ci := 8) hx hb hts iX8_differ_X8 hown hE hP 0 nbo_0 rfl 0 (by decide) qX8_differ_12 rfl rfl dX8_differ_12 ?_
    refine lv_iload_n hx hb dX8_differ_15 rfl (lv_at hl 2 rfl) ?_
    obtain ⟨r5, σ6, hc6, hf⟩ := nBd_e hf
    refine nb_callVi (As := [.int x2]) (rest := []) ⟨hx, hb, hml, hown, hts⟩ (c_X7_hasBook (D := D) (A := A) (cy := cy) (a := a) (kt := kt) (vt := vt) (l := l)  hc6) (cwV 1 hts gX8_differ_X7_hasBook rfl rfl rfl (by decide +kernel) ⟨Nat.le_of_ble_eq_true rfl, Nat.le_of_ble_eq_true rfl⟩) hE hP hS nbo_1 rfl rfl hl.1 rfl (Nat.le_of_ble_eq_true rfl) dX8_differ_16 (fun H locs hP hS => ?_)
    refine lv_if_ne (tgt := 28) hx hb dX8_differ_19 (by decide) (fun hc => ?_) (fun hc => ?_)
    · replace hf := nIf_f hc hf
      refine lv_iload_n hx hb dX8_differ_28 rfl (lv_at hl 3 rfl) ?_
      obtain ⟨r7, σ8, hc8, hf⟩ := nBd_e hf
      refine nb_callSi (As := [.int x3]) (rest := []) ⟨hx, hb, hml, hown, hts⟩ (c_X8_areBits (D := D) (A := A) (cy := cy) (a := a) (kt := kt) (vt := vt) (l := l)  hc8) (va_cwS 1 hts gX8_differ_X8_areBits rfl rfl rfl (by decide +kernel) ⟨Nat.le_of_ble_eq_true rfl, Nat.le_of_ble_eq_true rfl⟩) hE hP hS rfl hl.1 rfl (Nat.le_of_ble_eq_true rfl) dX8_differ_29 (fun H locs hP hS => ?_)
      refine lv_if_eq (tgt := 47) hx hb dX8_differ_32 (by decide) (fun hc => ?_) (fun hc => ?_)
      · replace hf := nIf_t hc hf
        refine lv_aload_n hx hb dX8_differ_47 rfl (lv_at hl 0 rfl) ?_
        refine lv_iconst (v := 2) hx hb dX8_differ_48 (by decide) ?_
        obtain ⟨r9, σ10, hc10, hf⟩ := nBd_e hf
        refine nb_callVi (As := [.int 2]) (rest := []) ⟨hx, hb, hml, hown, hts⟩ (c_X8_refuse (D := D) (A := A) (cy := cy) (a := a) (kt := kt) (vt := vt) (l := l)  hc10) (cwV 1 hts gX8_differ_X8_refuse rfl rfl rfl (by decide +kernel) ⟨Nat.le_of_ble_eq_true rfl, Nat.le_of_ble_eq_true rfl⟩) hE hP hS nbo_0 rfl rfl hl.1 rfl (Nat.le_of_ble_eq_true rfl) dX8_differ_49 (fun H locs hP hS => ?_)
        exact nb_iret hx hb hr hlocks hP hS (nSo hf) dX8_differ_52
      · replace hf := nIf_f hc hf
        refine lv_iload hx hb dX8_differ_35 (lv_at hl 4 rfl) ?_
        refine lv_iload hx hb dX8_differ_37 (lv_at hl 5 rfl) ?_
        refine lv_iload hx hb dX8_differ_39 (lv_at hl 6 rfl) ?_
        obtain ⟨r11, σ12, hc12, hf⟩ := nBd_e hf
        refine nb_callSi (As := [.int x4, .int x5, .int x6]) (rest := []) ⟨hx, hb, hml, hown, hts⟩ (c_X8_areMosts (D := D) (A := A) (cy := cy) (a := a) (kt := kt) (vt := vt) (l := l)  hc12) (va_cwS 3 hts gX8_differ_X8_areMosts rfl rfl rfl (by decide +kernel) ⟨Nat.le_of_ble_eq_true rfl, Nat.le_of_ble_eq_true rfl⟩) hE hP hS rfl hl.1 rfl (Nat.le_of_ble_eq_true rfl) dX8_differ_41 (fun H locs hP hS => ?_)
        refine lv_if_ne (tgt := 53) hx hb dX8_differ_44 (by decide) (fun hc => ?_) (fun hc => ?_)
        · replace hf := nIf_f hc hf
          refine lv_aload_n hx hb dX8_differ_53 rfl (lv_at hl 0 rfl) ?_
          refine nb_get (ci := 8) hx hb hts iX8_differ_X8 hown hE hP 0 nbo_0 rfl 7 (by decide) qX8_differ_51 rfl rfl dX8_differ_54 ?_
          refine lv_aload_n hx hb dX8_differ_57 rfl (lv_at hl 0 rfl) ?_
          refine nb_get (ci := 8) hx hb hts iX8_differ_X8 hown hE hP 0 nbo_0 rfl 0 (by decide) qX8_differ_12 rfl rfl dX8_differ_58 ?_
          refine lv_iload_n hx hb dX8_differ_61 rfl (lv_at hl 3 rfl) ?_
          refine lv_iload hx hb dX8_differ_62 (lv_at hl 4 rfl) ?_
          refine lv_iload hx hb dX8_differ_64 (lv_at hl 5 rfl) ?_
          refine lv_iload hx hb dX8_differ_66 (lv_at hl 6 rfl) ?_
          obtain ⟨r13, σ14, hc14, hf⟩ := nBd_e hf
          refine nb_callVi (As := [.ref (a 1), .int x3, .int x4, .int x5, .int x6]) (rest := []) ⟨hx, hb, hml, hown, hts⟩ (c_X0_prepare (D := D) (A := A) (cy := cy) (a := a) (kt := kt) (vt := vt) (l := l)  hc14) (cwV 5 hts gX8_differ_X0_prepare rfl rfl rfl (by decide +kernel) ⟨Nat.le_of_ble_eq_true rfl, Nat.le_of_ble_eq_true rfl⟩) hE hP hS nbo_12 rfl rfl hl.1 rfl (Nat.le_of_ble_eq_true rfl) dX8_differ_68 (fun H locs hP hS => ?_)
          refine lv_istore (lv' := [(7, .int r13), (0, .ref (a 0)), (1, .int x1), (2, .int x2), (3, .int x3), (4, .int x4), (5, .int x5), (6, .int x6)]) hx hb dX8_differ_71 hl (by decide) rfl (fun ls hl => ?_)
          refine lv_iload hx hb dX8_differ_73 (lv_at hl 0 rfl) ?_
          refine lv_sipush (v := 500) hx hb dX8_differ_75 (by decide) ?_
          refine lv_icmp_le (tgt := 87) hx hb dX8_differ_78 (by decide) (fun hc => ?_) (fun hc => ?_)
          · replace hf := nIf_t hc hf
            refine lv_aload_n hx hb dX8_differ_87 rfl (lv_at hl 1 rfl) ?_
            refine nb_get (ci := 8) hx hb hts iX8_differ_X8 hown hE hP 0 nbo_0 rfl 7 (by decide) qX8_differ_51 rfl rfl dX8_differ_88 ?_
            refine lv_aload_n hx hb dX8_differ_91 rfl (lv_at hl 1 rfl) ?_
            refine nb_get (ci := 8) hx hb hts iX8_differ_X8 hown hE hP 0 nbo_0 rfl 11 (by decide) qX8_differ_76 rfl rfl dX8_differ_92 ?_
            obtain ⟨r15, σ16, hc16, hf⟩ := nBd_e hf
            refine nb_callVv (As := [.ref (a 23)]) (rest := []) ⟨hx, hb, hml, hown, hts⟩ (c_X0_writeTo (D := D) (A := A) (cy := cy) (a := a) (kt := kt) (vt := vt) (l := l) nbr_23 hc16) (cwV 1 hts gX8_differ_X0_writeTo rfl rfl rfl (by decide +kernel) ⟨Nat.le_of_ble_eq_true rfl, Nat.le_of_ble_eq_true rfl⟩) hE hP hS nbo_12 rfl rfl hl.1 rfl (Nat.le_of_ble_eq_true rfl) dX8_differ_95 (fun H locs hP hS => ?_)
            refine lv_iconst (v := 0) hx hb dX8_differ_98 (by decide) ?_
            refine lv_istore (lv' := [(8, .int 0), (7, .int r13), (0, .ref (a 0)), (1, .int x1), (2, .int x2), (3, .int x3), (4, .int x4), (5, .int x5), (6, .int x6)]) hx hb dX8_differ_99 hl (by decide) rfl (fun ls hl => ?_)
            refine lv_iconst (v := 0) hx hb dX8_differ_101 (by decide) ?_
            refine lv_istore (lv' := [(9, .int 0), (8, .int 0), (7, .int r13), (0, .ref (a 0)), (1, .int x1), (2, .int x2), (3, .int x3), (4, .int x4), (5, .int x5), (6, .int x6)]) hx hb dX8_differ_102 hl (by decide) rfl (fun ls hl => ?_)
            exact K104 σ16 x1 x2 r13 0 0 H locs ls (lv_sub hl [3, 4, 5, 2, 1, 0] rfl) hP hS hf
          · replace hf := nIf_f hc hf
            refine lv_aload_n hx hb dX8_differ_81 rfl (lv_at hl 1 rfl) ?_
            refine lv_iconst (v := 3) hx hb dX8_differ_82 (by decide) ?_
            obtain ⟨r17, σ18, hc18, hf⟩ := nBd_e hf
            refine nb_callVi (As := [.int 3]) (rest := []) ⟨hx, hb, hml, hown, hts⟩ (c_X8_refuse (D := D) (A := A) (cy := cy) (a := a) (kt := kt) (vt := vt) (l := l)  hc18) (cwV 1 hts gX8_differ_X8_refuse rfl rfl rfl (by decide +kernel) ⟨Nat.le_of_ble_eq_true rfl, Nat.le_of_ble_eq_true rfl⟩) hE hP hS nbo_0 rfl rfl hl.1 rfl (Nat.le_of_ble_eq_true rfl) dX8_differ_83 (fun H locs hP hS => ?_)
            exact nb_iret hx hb hr hlocks hP hS (nSo hf) dX8_differ_86
        · replace hf := nIf_t hc hf
          refine lv_aload_n hx hb dX8_differ_47 rfl (lv_at hl 0 rfl) ?_
          refine lv_iconst (v := 2) hx hb dX8_differ_48 (by decide) ?_
          obtain ⟨r19, σ20, hc20, hf⟩ := nBd_e hf
          refine nb_callVi (As := [.int 2]) (rest := []) ⟨hx, hb, hml, hown, hts⟩ (c_X8_refuse (D := D) (A := A) (cy := cy) (a := a) (kt := kt) (vt := vt) (l := l)  hc20) (cwV 1 hts gX8_differ_X8_refuse rfl rfl rfl (by decide +kernel) ⟨Nat.le_of_ble_eq_true rfl, Nat.le_of_ble_eq_true rfl⟩) hE hP hS nbo_0 rfl rfl hl.1 rfl (Nat.le_of_ble_eq_true rfl) dX8_differ_49 (fun H locs hP hS => ?_)
          exact nb_iret hx hb hr hlocks hP hS (nSo hf) dX8_differ_52
    · replace hf := nIf_t hc hf
      refine lv_aload_n hx hb dX8_differ_22 rfl (lv_at hl 0 rfl) ?_
      refine lv_iconst (v := 1) hx hb dX8_differ_23 (by decide) ?_
      obtain ⟨r21, σ22, hc22, hf⟩ := nBd_e hf
      refine nb_callVi (As := [.int 1]) (rest := []) ⟨hx, hb, hml, hown, hts⟩ (c_X8_refuse (D := D) (A := A) (cy := cy) (a := a) (kt := kt) (vt := vt) (l := l)  hc22) (cwV 1 hts gX8_differ_X8_refuse rfl rfl rfl (by decide +kernel) ⟨Nat.le_of_ble_eq_true rfl, Nat.le_of_ble_eq_true rfl⟩) hE hP hS nbo_0 rfl rfl hl.1 rfl (Nat.le_of_ble_eq_true rfl) dX8_differ_24 (fun H locs hP hS => ?_)
      exact nb_iret hx hb hr hlocks hP hS (nSo hf) dX8_differ_27
def l_X8_differ_140 (N : Nat) (k104 : nS → Int32 → Int32 → Int32 → Int32 → Int32 → Option (Int32 × nS)) : nS → Int32 → Int32 → Int32 → Int32 → Int32 → Option (Int32 × nS) := b_X8_differ_140 N k104
theorem kl_X8_differ_140 {p : Program} {l : Launch} {e : Env} {s : State} {m : MethodId} {args : Array Value} {below : List Frame} {meth : Method} {c : Code} {D : va_G} {A : Nat → Prop} {cy : Nat → ClassId} {a kt vt : Nat → Nat} {N : Nat}   (C0 : nCx p s m args meth c cX8_differ 10 (some .int) RX8 wsX8_differ) (hE : nEn D A cy (NBw cy a) kt vt s) {z : Int32 × nS} {k104 : nS → Int32 → Int32 → Int32 → Int32 → Int32 → Option (Int32 × nS)} (K104 : ∀ (σ : nS) (x1 : Int32) (x2 : Int32) (x7 : Int32) (x8 : Int32) (x9 : Int32) (H : Heap) (locs : List Loc) (ls : Array Slot), lv_has ls 10 [(0, .ref (a 0)), (1, .int x1), (2, .int x2), (7, .int x7), (8, .int x8), (9, .int x9)] → va_P D vwCl ((NBw cy a) σ) H → va_S A s.heap H locs → k104 σ x1 x2 x7 x8 x9 = some z → W p l e ({ frames := 5, cells := 0, slots := 0, locals := 121 } : Room) s m args below meth c H locs 0 0 (nQi below D A (NBw cy a) args s z) (F0 m 104 ls [])) : ∀ (σ : nS) (x1 : Int32) (x2 : Int32) (x7 : Int32) (x8 : Int32) (x9 : Int32) (H : Heap) (locs : List Loc) (ls : Array Slot), lv_has ls 10 [(0, .ref (a 0)), (1, .int x1), (2, .int x2), (7, .int x7), (8, .int x8), (9, .int x9)] → va_P D vwCl ((NBw cy a) σ) H → va_S A s.heap H locs → l_X8_differ_140 N k104 σ x1 x2 x7 x8 x9 = some z → W p l e ({ frames := 5, cells := 0, slots := 0, locals := 121 } : Room) s m args below meth c H locs 0 0 (nQi below D A (NBw cy a) args s z) (F0 m 140 ls []) := by
  exact kb_X8_differ_140 (N := N)  C0 hE K104
def l_X8_differ_104 (N : Nat) : nS → Int32 → Int32 → Int32 → Int32 → Int32 → Option (Int32 × nS) := nLp (fun _ _ _ _ _ _ => none) (fun again => b_X8_differ_104 N (l_X8_differ_140 N again)) N
theorem kl_X8_differ_104 {p : Program} {l : Launch} {e : Env} {s : State} {m : MethodId} {args : Array Value} {below : List Frame} {meth : Method} {c : Code} {D : va_G} {A : Nat → Prop} {cy : Nat → ClassId} {a kt vt : Nat → Nat} {N : Nat}   (C0 : nCx p s m args meth c cX8_differ 10 (some .int) RX8 wsX8_differ) (hE : nEn D A cy (NBw cy a) kt vt s) {z : Int32 × nS} : ∀ (σ : nS) (x1 : Int32) (x2 : Int32) (x7 : Int32) (x8 : Int32) (x9 : Int32) (H : Heap) (locs : List Loc) (ls : Array Slot), lv_has ls 10 [(0, .ref (a 0)), (1, .int x1), (2, .int x2), (7, .int x7), (8, .int x8), (9, .int x9)] → va_P D vwCl ((NBw cy a) σ) H → va_S A s.heap H locs → l_X8_differ_104 N σ x1 x2 x7 x8 x9 = some z → W p l e ({ frames := 5, cells := 0, slots := 0, locals := 121 } : Room) s m args below meth c H locs 0 0 (nQi below D A (NBw cy a) args s z) (F0 m 104 ls []) := by
  have main : ∀ (fu : Nat), ∀ (σ : nS) (x1 : Int32) (x2 : Int32) (x7 : Int32) (x8 : Int32) (x9 : Int32) (H : Heap) (locs : List Loc) (ls : Array Slot), lv_has ls 10 [(0, .ref (a 0)), (1, .int x1), (2, .int x2), (7, .int x7), (8, .int x8), (9, .int x9)] → va_P D vwCl ((NBw cy a) σ) H → va_S A s.heap H locs → nLp (fun _ _ _ _ _ _ => none) (fun again => b_X8_differ_104 N (l_X8_differ_140 N again)) fu σ x1 x2 x7 x8 x9 = some z → W p l e ({ frames := 5, cells := 0, slots := 0, locals := 121 } : Room) s m args below meth c H locs 0 0 (nQi below D A (NBw cy a) args s z) (F0 m 104 ls []) := by
    intro fu
    induction fu with
    | zero => intro σ x1 x2 x7 x8 x9 H locs ls hl hP hS hf; cases hf
    | succ fu ih => exact kb_X8_differ_104 (N := N)  C0 hE (kl_X8_differ_140 (N := N)  C0 hE ih)
  exact main N
def l_X8_differ_0 (N : Nat) : nS → Int32 → Int32 → Int32 → Int32 → Int32 → Int32 → Option (Int32 × nS) := b_X8_differ_0 N (l_X8_differ_104 N)
theorem kl_X8_differ_0 {p : Program} {l : Launch} {e : Env} {s : State} {m : MethodId} {args : Array Value} {below : List Frame} {meth : Method} {c : Code} {D : va_G} {A : Nat → Prop} {cy : Nat → ClassId} {a kt vt : Nat → Nat} {N : Nat}   (C0 : nCx p s m args meth c cX8_differ 10 (some .int) RX8 wsX8_differ) (hE : nEn D A cy (NBw cy a) kt vt s) {z : Int32 × nS} : ∀ (σ : nS) (x1 : Int32) (x2 : Int32) (x3 : Int32) (x4 : Int32) (x5 : Int32) (x6 : Int32) (H : Heap) (locs : List Loc) (ls : Array Slot), lv_has ls 10 [(0, .ref (a 0)), (1, .int x1), (2, .int x2), (3, .int x3), (4, .int x4), (5, .int x5), (6, .int x6)] → va_P D vwCl ((NBw cy a) σ) H → va_S A s.heap H locs → l_X8_differ_0 N σ x1 x2 x3 x4 x5 x6 = some z → W p l e ({ frames := 5, cells := 0, slots := 0, locals := 121 } : Room) s m args below meth c H locs 0 0 (nQi below D A (NBw cy a) args s z) (F0 m 0 ls []) := by
  exact kb_X8_differ_0 (N := N)  C0 hE (kl_X8_differ_104 (N := N)  C0 hE)
def f_X8_differ (N : Nat) (x1 : Int32) (x2 : Int32) (x3 : Int32) (x4 : Int32) (x5 : Int32) (x6 : Int32) (σ : nS) : Option (Int32 × nS) := l_X8_differ_0 N σ x1 x2 x3 x4 x5 x6
set_option maxHeartbeats 4000000 in
set_option maxRecDepth 100000 in
theorem c_X8_differ {l : Launch} {D : va_G} {A : Nat → Prop} {cy : Nat → ClassId} {a kt vt : Nat → Nat} {N : Nat}   {x1 : Int32} {x2 : Int32} {x3 : Int32} {x4 : Int32} {x5 : Int32} {x6 : Int32} {σ : nS} {r : Int32} {σ' : nS} (hf : f_X8_differ N x1 x2 x3 x4 x5 x6 σ = some (r, σ')) : nMi l yX8_differ wsX8_differ ({ frames := 5, cells := 0, slots := 0, locals := 121 } : Room) D A cy (NBw cy a) kt vt [.ref (a 0), .int x1, .int x2, .int x3, .int x4, .int x5, .int x6] σ r σ' := by
  refine Met.ofW (cc := cX8_differ) (maxL := 10) (ret := (some .int)) (by decide) rfl ?_
  intro p e s m args below meth c s₁ B hml hv
  obtain ⟨rfl, hP, hE⟩ := hv
  have hl := lv_entry ([.ref (a 0), .int x1, .int x2, .int x3, .int x4, .int x5, .int x6]) (n := 10) (Nat.le_of_ble_eq_true rfl)
  rw [lg_entry_eq]
  generalize (lg_sl ([.ref (a 0), .int x1, .int x2, .int x3, .int x4, .int x5, .int x6]) ++ List.replicate (10 - (lg_sl ([.ref (a 0), .int x1, .int x2, .int x3, .int x4, .int x5, .int x6])).length) Slot.unset).toArray = ls at hl ⊢
  have C0 : nCx p s m _ meth c cX8_differ 10 (some .int) RX8 wsX8_differ := ⟨B.exec, B.bytes, B.returns, hml, findClass_of_methodNamed B.named, atoms_spec (ws := wsX8_differ) B.pre, B.notSynchronized⟩
  exact kl_X8_differ_0 (N := N)  C0 hE (z := (r, σ')) σ x1 x2 x3 x4 x5 x6 _ _ ls hl hP va_S.rf hf
