/-! X11_look -/
set_option maxRecDepth 20000 in
theorem iX11_look_X11 : ∀ w ∈ u_ws RX11 TX11 68, w ∈ wsX11_look := fun _ h => List.mem_cons_of_mem _ (List.mem_append_right _ h)
set_option maxRecDepth 20000 in
theorem qX11_look_117 : Cond.fieldLink RX11 117 RX11 (TX11 0).2.1 (TX11 0).2.2.1 ∈ wsX11_look := by decide +kernel
set_option maxRecDepth 20000 in
theorem qX11_look_23 : Cond.fieldLink RX11 23 RX11 (TX11 11).2.1 (TX11 11).2.2.1 ∈ wsX11_look := by decide +kernel
set_option maxRecDepth 20000 in
theorem qX11_look_26 : Cond.fieldLink RX11 26 RX11 (TX11 12).2.1 (TX11 12).2.2.1 ∈ wsX11_look := by decide +kernel
set_option maxRecDepth 20000 in
theorem qX11_look_29 : Cond.fieldLink RX11 29 RX11 (TX11 13).2.1 (TX11 13).2.2.1 ∈ wsX11_look := by decide +kernel
set_option maxRecDepth 20000 in
theorem qX11_look_82 : Cond.fieldLink RX11 82 RX11 (TX11 54).2.1 (TX11 54).2.2.1 ∈ wsX11_look := by decide +kernel
def b_X11_look_70 (N : Nat) (σ : nS) (x2 : Int32) (y0 : Int32) : Option (Int32 × nS) := nIx x2 24 (nLet (σ.1 21 (x2).toNatClampNeg) (fun v1 => (if v1 = 0 then (if y0 = 0 then nLet ((0 : Int32) + (0 : Int32) : Int32) (fun v2 => some (v2, σ)) else nLet ((0 : Int32) + (2 : Int32) : Int32) (fun v3 => some (v3, σ))) else (if y0 = 0 then nLet ((1 : Int32) + (0 : Int32) : Int32) (fun v4 => some (v4, σ)) else nLet ((1 : Int32) + (2 : Int32) : Int32) (fun v5 => some (v5, σ))))))
set_option maxHeartbeats 4000000 in
set_option maxRecDepth 100000 in
theorem kb_X11_look_70 {p : Program} {l : Launch} {e : Env} {s : State} {m : MethodId} {args : Array Value} {below : List Frame} {meth : Method} {c : Code} {D : va_G} {A : Nat → Prop} {cy : Nat → ClassId} {a kt vt : Nat → Nat} {N : Nat}   (C0 : nCx p s m args meth c cX11_look 5 (some .int) RX11 wsX11_look) (hE : nEn D A cy (Mw cy a) kt vt s) {z : Int32 × nS} : ∀ (σ : nS) (x2 : Int32) (y0 : Int32) (H : Heap) (locs : List Loc) (ls : Array Slot), lv_has ls 5 [(0, .ref (a 0)), (2, .int x2)] → va_P D vwCl ((Mw cy a) σ) H → va_S A s.heap H locs → b_X11_look_70 N σ x2 y0 = some z → W p l e ({ frames := 1, cells := 0, slots := 0, locals := 26 } : Room) s m args below meth c H locs 0 0 (nQi below D A (Mw cy a) args s z) (F0 m 70 ls [.int y0]) := by
  obtain ⟨hx, hb, hr, hml, hown, hts, hlocks⟩ := C0
  intro σ x2 y0 H locs ls hl hP hS hf
  unfold b_X11_look_70 at hf
  refine lv_istore (lv' := [(4, .int y0), (0, .ref (a 0)), (2, .int x2)]) hx hb dX11_look_70 hl (by decide) rfl (fun ls hl => ?_)
  refine lv_aload_n hx hb dX11_look_72 rfl (lv_at hl 1 rfl) ?_
  refine nb_get (ci := 11) hx hb hts iX11_look_X11 hown hE hP 0 mbo_0 rfl 54 (by decide) qX11_look_82 rfl rfl dX11_look_73 ?_
  refine lv_iload_n hx hb dX11_look_76 rfl (lv_at hl 2 rfl) ?_
  obtain ⟨hin, hf⟩ := nIx_e hf
  refine na_zald hx hb hE hP mbr_21 hin dX11_look_77 ?_
  refine lv_topi (fun v1 ev1 => ?_)
  replace hf := nLet_e hf ev1
  refine lv_if_eq (tgt := 85) hx hb dX11_look_78 (by decide) (fun hc => ?_) (fun hc => ?_)
  · replace hf := nIf_t hc hf
    refine lv_iconst (v := 0) hx hb dX11_look_85 (by decide) ?_
    refine lv_iload hx hb dX11_look_86 (lv_at hl 0 rfl) ?_
    refine lv_if_eq (tgt := 95) hx hb dX11_look_88 (by decide) (fun hc => ?_) (fun hc => ?_)
    · replace hf := nIf_t hc hf
      refine lv_iconst (v := 0) hx hb dX11_look_95 (by decide) ?_
      refine lv_iadd hx hb dX11_look_96 ?_
      refine lv_topi (fun v2 ev2 => ?_)
      replace hf := nLet_e hf ev2
      exact nb_iret hx hb hr hlocks hP hS (nSo hf) dX11_look_97
    · replace hf := nIf_f hc hf
      refine lv_iconst (v := 2) hx hb dX11_look_91 (by decide) ?_
      refine lv_goto (tgt := 96) hx hb dX11_look_92 (by decide) ?_
      refine lv_iadd hx hb dX11_look_96 ?_
      refine lv_topi (fun v3 ev3 => ?_)
      replace hf := nLet_e hf ev3
      exact nb_iret hx hb hr hlocks hP hS (nSo hf) dX11_look_97
  · replace hf := nIf_f hc hf
    refine lv_iconst (v := 1) hx hb dX11_look_81 (by decide) ?_
    refine lv_goto (tgt := 86) hx hb dX11_look_82 (by decide) ?_
    refine lv_iload hx hb dX11_look_86 (lv_at hl 0 rfl) ?_
    refine lv_if_eq (tgt := 95) hx hb dX11_look_88 (by decide) (fun hc => ?_) (fun hc => ?_)
    · replace hf := nIf_t hc hf
      refine lv_iconst (v := 0) hx hb dX11_look_95 (by decide) ?_
      refine lv_iadd hx hb dX11_look_96 ?_
      refine lv_topi (fun v4 ev4 => ?_)
      replace hf := nLet_e hf ev4
      exact nb_iret hx hb hr hlocks hP hS (nSo hf) dX11_look_97
    · replace hf := nIf_f hc hf
      refine lv_iconst (v := 2) hx hb dX11_look_91 (by decide) ?_
      refine lv_goto (tgt := 96) hx hb dX11_look_92 (by decide) ?_
      refine lv_iadd hx hb dX11_look_96 ?_
      refine lv_topi (fun v5 ev5 => ?_)
      replace hf := nLet_e hf ev5
      exact nb_iret hx hb hr hlocks hP hS (nSo hf) dX11_look_97
def b_X11_look_65 (N : Nat) (k70 : nS → Int32 → Int32 → Option (Int32 × nS)) (σ : nS) (x2 : Int32) : Option (Int32 × nS) := k70 σ x2 1
set_option maxHeartbeats 4000000 in
set_option maxRecDepth 100000 in
theorem kb_X11_look_65 {p : Program} {l : Launch} {e : Env} {s : State} {m : MethodId} {args : Array Value} {below : List Frame} {meth : Method} {c : Code} {D : va_G} {A : Nat → Prop} {cy : Nat → ClassId} {a kt vt : Nat → Nat} {N : Nat}   (C0 : nCx p s m args meth c cX11_look 5 (some .int) RX11 wsX11_look) (hE : nEn D A cy (Mw cy a) kt vt s) {z : Int32 × nS} {k70 : nS → Int32 → Int32 → Option (Int32 × nS)} (K70 : ∀ (σ : nS) (x2 : Int32) (y0 : Int32) (H : Heap) (locs : List Loc) (ls : Array Slot), lv_has ls 5 [(0, .ref (a 0)), (2, .int x2)] → va_P D vwCl ((Mw cy a) σ) H → va_S A s.heap H locs → k70 σ x2 y0 = some z → W p l e ({ frames := 1, cells := 0, slots := 0, locals := 26 } : Room) s m args below meth c H locs 0 0 (nQi below D A (Mw cy a) args s z) (F0 m 70 ls [.int y0])) : ∀ (σ : nS) (x2 : Int32) (H : Heap) (locs : List Loc) (ls : Array Slot), lv_has ls 5 [(0, .ref (a 0)), (2, .int x2)] → va_P D vwCl ((Mw cy a) σ) H → va_S A s.heap H locs → b_X11_look_65 N k70 σ x2 = some z → W p l e ({ frames := 1, cells := 0, slots := 0, locals := 26 } : Room) s m args below meth c H locs 0 0 (nQi below D A (Mw cy a) args s z) (F0 m 65 ls []) := by
  obtain ⟨hx, hb, hr, hml, hown, hts, hlocks⟩ := C0
  intro σ x2 H locs ls hl hP hS hf
  unfold b_X11_look_65 at hf
  refine lv_iconst (v := 1) hx hb dX11_look_65 (by decide) ?_
  refine lv_goto (tgt := 70) hx hb dX11_look_66 (by decide) ?_
  exact K70 σ x2 1 H locs ls (lv_sub hl [0, 1] rfl) hP hS hf
def b_X11_look_0 (N : Nat) (k65 : nS → Int32 → Option (Int32 × nS)) (k70 : nS → Int32 → Int32 → Option (Int32 × nS)) (σ : nS) (x1 : Int32) (x2 : Int32) : Option (Int32 × nS) := nLet (wr σ 0 0 0) (fun σ1 => nBd (f_X11_isBook N x1 σ1) (fun r2 σ3 => (if r2 = 0 then some ((-1), σ3) else (if x2 < 0 then some ((-1), σ3) else nIx x1 5 (nLet (σ3.1 3 (x1).toNatClampNeg) (fun v4 => (if x2 < v4 then nBd (f_X11_reaches N x1 σ3) (fun r5 σ6 => nLet ((24 : Int32) * x1 : Int32) (fun v7 => nLet (v7 + x2 : Int32) (fun v8 => nIx v8 120 (nLet (σ6.1 4 (v8).toNatClampNeg) (fun v9 => (if (1 : Int32) < v9 then k65 σ6 x2 else nIx v8 120 (nLet (σ6.1 5 (v8).toNatClampNeg) (fun v10 => nBd (f_X11_isThere N v10 0 σ6) (fun r11 σ12 => (if r11 = 0 then k70 σ12 x2 0 else k65 σ12 x2)))))))))) else some ((-1), σ3))))))))
set_option maxHeartbeats 4000000 in
set_option maxRecDepth 100000 in
theorem kb_X11_look_0 {p : Program} {l : Launch} {e : Env} {s : State} {m : MethodId} {args : Array Value} {below : List Frame} {meth : Method} {c : Code} {D : va_G} {A : Nat → Prop} {cy : Nat → ClassId} {a kt vt : Nat → Nat} {N : Nat}   (C0 : nCx p s m args meth c cX11_look 5 (some .int) RX11 wsX11_look) (hE : nEn D A cy (Mw cy a) kt vt s) {z : Int32 × nS} {k65 : nS → Int32 → Option (Int32 × nS)} (K65 : ∀ (σ : nS) (x2 : Int32) (H : Heap) (locs : List Loc) (ls : Array Slot), lv_has ls 5 [(0, .ref (a 0)), (2, .int x2)] → va_P D vwCl ((Mw cy a) σ) H → va_S A s.heap H locs → k65 σ x2 = some z → W p l e ({ frames := 1, cells := 0, slots := 0, locals := 26 } : Room) s m args below meth c H locs 0 0 (nQi below D A (Mw cy a) args s z) (F0 m 65 ls [])) {k70 : nS → Int32 → Int32 → Option (Int32 × nS)} (K70 : ∀ (σ : nS) (x2 : Int32) (y0 : Int32) (H : Heap) (locs : List Loc) (ls : Array Slot), lv_has ls 5 [(0, .ref (a 0)), (2, .int x2)] → va_P D vwCl ((Mw cy a) σ) H → va_S A s.heap H locs → k70 σ x2 y0 = some z → W p l e ({ frames := 1, cells := 0, slots := 0, locals := 26 } : Room) s m args below meth c H locs 0 0 (nQi below D A (Mw cy a) args s z) (F0 m 70 ls [.int y0])) : ∀ (σ : nS) (x1 : Int32) (x2 : Int32) (H : Heap) (locs : List Loc) (ls : Array Slot), lv_has ls 5 [(0, .ref (a 0)), (1, .int x1), (2, .int x2)] → va_P D vwCl ((Mw cy a) σ) H → va_S A s.heap H locs → b_X11_look_0 N k65 k70 σ x1 x2 = some z → W p l e ({ frames := 1, cells := 0, slots := 0, locals := 26 } : Room) s m args below meth c H locs 0 0 (nQi below D A (Mw cy a) args s z) (F0 m 0 ls []) := by
  obtain ⟨hx, hb, hr, hml, hown, hts, hlocks⟩ := C0
  intro σ x1 x2 H locs ls hl hP hS hf
  unfold b_X11_look_0 at hf
  refine lv_aload_n hx hb dX11_look_0 rfl (lv_at hl 0 rfl) ?_
  refine lv_iconst (v := 0) hx hb dX11_look_1 (by decide) ?_
  refine nb_put (ci := 11) hx hb hts iX11_look_X11 tyX11 tyX11_ok nmX11 hown hE hP hS 0 mbo_0 rfl 0 (by decide) qX11_look_117 rfl rfl rfl rfl (Nat.le_of_ble_eq_true rfl) dX11_look_2 (mbp_0_0 _) (fun σ1 eσ1 H locs hP hS => ?_)
  replace hf := nLet_e hf eσ1
  refine lv_aload_n hx hb dX11_look_5 rfl (lv_at hl 0 rfl) ?_
  refine lv_iload_n hx hb dX11_look_6 rfl (lv_at hl 1 rfl) ?_
  obtain ⟨r2, σ3, hc3, hf⟩ := nBd_e hf
  refine nb_callVi (As := [.int x1]) (rest := []) ⟨hx, hb, hml, hown, hts⟩ (c_X11_isBook (D := D) (A := A) (cy := cy) (a := a) (kt := kt) (vt := vt) (l := l)  hc3) (cwV 1 hts gX11_look_X11_isBook rfl rfl rfl (by decide +kernel) ⟨Nat.le_of_ble_eq_true rfl, Nat.le_of_ble_eq_true rfl⟩) hE hP hS mbo_0 rfl rfl hl.1 rfl (Nat.le_of_ble_eq_true rfl) dX11_look_7 (fun H locs hP hS => ?_)
  refine lv_if_eq (tgt := 27) hx hb dX11_look_10 (by decide) (fun hc => ?_) (fun hc => ?_)
  · replace hf := nIf_t hc hf
    refine lv_iconst (v := (-1)) hx hb dX11_look_27 (by decide) ?_
    exact nb_iret hx hb hr hlocks hP hS (nSo hf) dX11_look_28
  · replace hf := nIf_f hc hf
    refine lv_iload_n hx hb dX11_look_13 rfl (lv_at hl 2 rfl) ?_
    refine lv_if_lt (tgt := 27) hx hb dX11_look_14 (by decide) (fun hc => ?_) (fun hc => ?_)
    · replace hf := nIf_t hc hf
      refine lv_iconst (v := (-1)) hx hb dX11_look_27 (by decide) ?_
      exact nb_iret hx hb hr hlocks hP hS (nSo hf) dX11_look_28
    · replace hf := nIf_f hc hf
      refine lv_iload_n hx hb dX11_look_17 rfl (lv_at hl 2 rfl) ?_
      refine lv_aload_n hx hb dX11_look_18 rfl (lv_at hl 0 rfl) ?_
      refine nb_get (ci := 11) hx hb hts iX11_look_X11 hown hE hP 0 mbo_0 rfl 11 (by decide) qX11_look_23 rfl rfl dX11_look_19 ?_
      refine lv_iload_n hx hb dX11_look_22 rfl (lv_at hl 1 rfl) ?_
      obtain ⟨hin, hf⟩ := nIx_e hf
      refine na_iald hx hb hE hP mbr_3 hin dX11_look_23 ?_
      refine lv_topi (fun v4 ev4 => ?_)
      replace hf := nLet_e hf ev4
      refine lv_icmp_lt (tgt := 29) hx hb dX11_look_24 (by decide) (fun hc => ?_) (fun hc => ?_)
      · replace hf := nIf_t hc hf
        refine lv_aload_n hx hb dX11_look_29 rfl (lv_at hl 0 rfl) ?_
        refine lv_iload_n hx hb dX11_look_30 rfl (lv_at hl 1 rfl) ?_
        obtain ⟨r5, σ6, hc6, hf⟩ := nBd_e hf
        refine nb_callVv (As := [.int x1]) (rest := []) ⟨hx, hb, hml, hown, hts⟩ (c_X11_reaches (D := D) (A := A) (cy := cy) (a := a) (kt := kt) (vt := vt) (l := l)  hc6) (cwV 1 hts gX11_look_X11_reaches rfl rfl rfl (by decide +kernel) ⟨Nat.le_of_ble_eq_true rfl, Nat.le_of_ble_eq_true rfl⟩) hE hP hS mbo_0 rfl rfl hl.1 rfl (Nat.le_of_ble_eq_true rfl) dX11_look_31 (fun H locs hP hS => ?_)
        refine lv_bipush (v := 24) hx hb dX11_look_34 (by decide) ?_
        refine lv_iload_n hx hb dX11_look_36 rfl (lv_at hl 1 rfl) ?_
        refine lv_imul hx hb dX11_look_37 ?_
        refine lv_topi (fun v7 ev7 => ?_)
        replace hf := nLet_e hf ev7
        refine lv_iload_n hx hb dX11_look_38 rfl (lv_at hl 2 rfl) ?_
        refine lv_iadd hx hb dX11_look_39 ?_
        refine lv_topi (fun v8 ev8 => ?_)
        replace hf := nLet_e hf ev8
        refine lv_istore_n (lv' := [(3, .int v8), (0, .ref (a 0)), (1, .int x1), (2, .int x2)]) hx hb dX11_look_40 rfl hl (by decide) rfl (fun ls hl => ?_)
        refine lv_aload_n hx hb dX11_look_41 rfl (lv_at hl 1 rfl) ?_
        refine nb_get (ci := 11) hx hb hts iX11_look_X11 hown hE hP 0 mbo_0 rfl 12 (by decide) qX11_look_26 rfl rfl dX11_look_42 ?_
        refine lv_iload_n hx hb dX11_look_45 rfl (lv_at hl 0 rfl) ?_
        obtain ⟨hin, hf⟩ := nIx_e hf
        refine na_iald hx hb hE hP mbr_4 hin dX11_look_46 ?_
        refine lv_topi (fun v9 ev9 => ?_)
        replace hf := nLet_e hf ev9
        refine lv_iconst (v := 1) hx hb dX11_look_47 (by decide) ?_
        refine lv_icmp_gt (tgt := 65) hx hb dX11_look_48 (by decide) (fun hc => ?_) (fun hc => ?_)
        · replace hf := nIf_t hc hf
          exact K65 σ6 x2 H locs ls (lv_sub hl [1, 3] rfl) hP hS hf
        · replace hf := nIf_f hc hf
          refine lv_aload_n hx hb dX11_look_51 rfl (lv_at hl 1 rfl) ?_
          refine lv_aload_n hx hb dX11_look_52 rfl (lv_at hl 1 rfl) ?_
          refine nb_get (ci := 11) hx hb hts iX11_look_X11 hown hE hP 0 mbo_0 rfl 13 (by decide) qX11_look_29 rfl rfl dX11_look_53 ?_
          refine lv_iload_n hx hb dX11_look_56 rfl (lv_at hl 0 rfl) ?_
          obtain ⟨hin, hf⟩ := nIx_e hf
          refine na_iald hx hb hE hP mbr_5 hin dX11_look_57 ?_
          refine lv_topi (fun v10 ev10 => ?_)
          replace hf := nLet_e hf ev10
          refine lv_iconst (v := 0) hx hb dX11_look_58 (by decide) ?_
          obtain ⟨r11, σ12, hc12, hf⟩ := nBd_e hf
          refine nb_callVi (As := [.int v10, .int 0]) (rest := []) ⟨hx, hb, hml, hown, hts⟩ (c_X11_isThere (D := D) (A := A) (cy := cy) (a := a) (kt := kt) (vt := vt) (l := l)  hc12) (cwV 2 hts gX11_look_X11_isThere rfl rfl rfl (by decide +kernel) ⟨Nat.le_of_ble_eq_true rfl, Nat.le_of_ble_eq_true rfl⟩) hE hP hS mbo_0 rfl rfl hl.1 rfl (Nat.le_of_ble_eq_true rfl) dX11_look_59 (fun H locs hP hS => ?_)
          refine lv_if_eq (tgt := 69) hx hb dX11_look_62 (by decide) (fun hc => ?_) (fun hc => ?_)
          · replace hf := nIf_t hc hf
            refine lv_iconst (v := 0) hx hb dX11_look_69 (by decide) ?_
            exact K70 σ12 x2 0 H locs ls (lv_sub hl [1, 3] rfl) hP hS hf
          · replace hf := nIf_f hc hf
            exact K65 σ12 x2 H locs ls (lv_sub hl [1, 3] rfl) hP hS hf
      · replace hf := nIf_f hc hf
        refine lv_iconst (v := (-1)) hx hb dX11_look_27 (by decide) ?_
        exact nb_iret hx hb hr hlocks hP hS (nSo hf) dX11_look_28
def l_X11_look_70 (N : Nat) : nS → Int32 → Int32 → Option (Int32 × nS) := b_X11_look_70 N
theorem kl_X11_look_70 {p : Program} {l : Launch} {e : Env} {s : State} {m : MethodId} {args : Array Value} {below : List Frame} {meth : Method} {c : Code} {D : va_G} {A : Nat → Prop} {cy : Nat → ClassId} {a kt vt : Nat → Nat} {N : Nat}   (C0 : nCx p s m args meth c cX11_look 5 (some .int) RX11 wsX11_look) (hE : nEn D A cy (Mw cy a) kt vt s) {z : Int32 × nS} : ∀ (σ : nS) (x2 : Int32) (y0 : Int32) (H : Heap) (locs : List Loc) (ls : Array Slot), lv_has ls 5 [(0, .ref (a 0)), (2, .int x2)] → va_P D vwCl ((Mw cy a) σ) H → va_S A s.heap H locs → l_X11_look_70 N σ x2 y0 = some z → W p l e ({ frames := 1, cells := 0, slots := 0, locals := 26 } : Room) s m args below meth c H locs 0 0 (nQi below D A (Mw cy a) args s z) (F0 m 70 ls [.int y0]) := by
  exact kb_X11_look_70 (N := N)  C0 hE
def l_X11_look_65 (N : Nat) (k70 : nS → Int32 → Int32 → Option (Int32 × nS)) : nS → Int32 → Option (Int32 × nS) := b_X11_look_65 N k70
theorem kl_X11_look_65 {p : Program} {l : Launch} {e : Env} {s : State} {m : MethodId} {args : Array Value} {below : List Frame} {meth : Method} {c : Code} {D : va_G} {A : Nat → Prop} {cy : Nat → ClassId} {a kt vt : Nat → Nat} {N : Nat}   (C0 : nCx p s m args meth c cX11_look 5 (some .int) RX11 wsX11_look) (hE : nEn D A cy (Mw cy a) kt vt s) {z : Int32 × nS} {k70 : nS → Int32 → Int32 → Option (Int32 × nS)} (K70 : ∀ (σ : nS) (x2 : Int32) (y0 : Int32) (H : Heap) (locs : List Loc) (ls : Array Slot), lv_has ls 5 [(0, .ref (a 0)), (2, .int x2)] → va_P D vwCl ((Mw cy a) σ) H → va_S A s.heap H locs → k70 σ x2 y0 = some z → W p l e ({ frames := 1, cells := 0, slots := 0, locals := 26 } : Room) s m args below meth c H locs 0 0 (nQi below D A (Mw cy a) args s z) (F0 m 70 ls [.int y0])) : ∀ (σ : nS) (x2 : Int32) (H : Heap) (locs : List Loc) (ls : Array Slot), lv_has ls 5 [(0, .ref (a 0)), (2, .int x2)] → va_P D vwCl ((Mw cy a) σ) H → va_S A s.heap H locs → l_X11_look_65 N k70 σ x2 = some z → W p l e ({ frames := 1, cells := 0, slots := 0, locals := 26 } : Room) s m args below meth c H locs 0 0 (nQi below D A (Mw cy a) args s z) (F0 m 65 ls []) := by
  exact kb_X11_look_65 (N := N)  C0 hE K70
def l_X11_look_0 (N : Nat) : nS → Int32 → Int32 → Option (Int32 × nS) := b_X11_look_0 N (l_X11_look_65 N (l_X11_look_70 N)) (l_X11_look_70 N)
theorem kl_X11_look_0 {p : Program} {l : Launch} {e : Env} {s : State} {m : MethodId} {args : Array Value} {below : List Frame} {meth : Method} {c : Code} {D : va_G} {A : Nat → Prop} {cy : Nat → ClassId} {a kt vt : Nat → Nat} {N : Nat}   (C0 : nCx p s m args meth c cX11_look 5 (some .int) RX11 wsX11_look) (hE : nEn D A cy (Mw cy a) kt vt s) {z : Int32 × nS} : ∀ (σ : nS) (x1 : Int32) (x2 : Int32) (H : Heap) (locs : List Loc) (ls : Array Slot), lv_has ls 5 [(0, .ref (a 0)), (1, .int x1), (2, .int x2)] → va_P D vwCl ((Mw cy a) σ) H → va_S A s.heap H locs → l_X11_look_0 N σ x1 x2 = some z → W p l e ({ frames := 1, cells := 0, slots := 0, locals := 26 } : Room) s m args below meth c H locs 0 0 (nQi below D A (Mw cy a) args s z) (F0 m 0 ls []) := by
  exact kb_X11_look_0 (N := N)  C0 hE (kl_X11_look_65 (N := N)  C0 hE (kl_X11_look_70 (N := N)  C0 hE)) (kl_X11_look_70 (N := N)  C0 hE)
def f_X11_look (N : Nat) (x1 : Int32) (x2 : Int32) (σ : nS) : Option (Int32 × nS) := l_X11_look_0 N σ x1 x2
set_option maxHeartbeats 4000000 in
set_option maxRecDepth 100000 in
theorem c_X11_look {l : Launch} {D : va_G} {A : Nat → Prop} {cy : Nat → ClassId} {a kt vt : Nat → Nat} {N : Nat}   {x1 : Int32} {x2 : Int32} {σ : nS} {r : Int32} {σ' : nS} (hf : f_X11_look N x1 x2 σ = some (r, σ')) : nMi l yX11_look wsX11_look ({ frames := 1, cells := 0, slots := 0, locals := 26 } : Room) D A cy (Mw cy a) kt vt [.ref (a 0), .int x1, .int x2] σ r σ' := by
  refine Met.ofW (cc := cX11_look) (maxL := 5) (ret := (some .int)) (by decide) rfl ?_
  intro p e s m args below meth c s₁ B hml hv
  obtain ⟨rfl, hP, hE⟩ := hv
  have hl := lv_entry ([.ref (a 0), .int x1, .int x2]) (n := 5) (Nat.le_of_ble_eq_true rfl)
  rw [lg_entry_eq]
  generalize (lg_sl ([.ref (a 0), .int x1, .int x2]) ++ List.replicate (5 - (lg_sl ([.ref (a 0), .int x1, .int x2])).length) Slot.unset).toArray = ls at hl ⊢
  have C0 : nCx p s m _ meth c cX11_look 5 (some .int) RX11 wsX11_look := ⟨B.exec, B.bytes, B.returns, hml, findClass_of_methodNamed B.named, atoms_spec (ws := wsX11_look) B.pre, B.notSynchronized⟩
  exact kl_X11_look_0 (N := N)  C0 hE (z := (r, σ')) σ x1 x2 _ _ ls hl hP va_S.rf hf
/-! X11_cures -/
set_option maxRecDepth 20000 in
theorem iX11_cures_X11 : ∀ w ∈ u_ws RX11 TX11 68, w ∈ wsX11_cures := fun _ h => List.mem_cons_of_mem _ (List.mem_append_right _ h)
set_option maxRecDepth 20000 in
theorem qX11_cures_331 : Cond.fieldLink RX11 331 RX11 (TX11 49).2.1 (TX11 49).2.2.1 ∈ wsX11_cures := by decide +kernel
set_option maxRecDepth 20000 in
theorem qX11_cures_328 : Cond.fieldLink RX11 328 RX11 (TX11 48).2.1 (TX11 48).2.2.1 ∈ wsX11_cures := by decide +kernel
set_option maxRecDepth 20000 in
theorem qX11_cures_73 : Cond.fieldLink RX11 73 RX11 (TX11 51).2.1 (TX11 51).2.2.1 ∈ wsX11_cures := by decide +kernel
def b_X11_cures_38 (N : Nat) (k4 : nS → Int32 → Int32 → Option (Int32 × nS)) (σ : nS) (x2 : Int32) (y0 : Int32) : Option (Int32 × nS) := nLet (x2 + 1 : Int32) (fun v1 => k4 σ y0 v1)
set_option maxHeartbeats 4000000 in
set_option maxRecDepth 100000 in
theorem kb_X11_cures_38 {p : Program} {l : Launch} {e : Env} {s : State} {m : MethodId} {args : Array Value} {below : List Frame} {meth : Method} {c : Code} {D : va_G} {A : Nat → Prop} {cy : Nat → ClassId} {a kt vt : Nat → Nat} {N : Nat}   (C0 : nCx p s m args meth c cX11_cures 3 (some .boolean) RX11 wsX11_cures) (hE : nEn D A cy (Mw cy a) kt vt s) {z : Int32 × nS} {k4 : nS → Int32 → Int32 → Option (Int32 × nS)} (K4 : ∀ (σ : nS) (x1 : Int32) (x2 : Int32) (H : Heap) (locs : List Loc) (ls : Array Slot), lv_has ls 3 [(0, .ref (a 0)), (1, .int x1), (2, .int x2)] → va_P D vwCl ((Mw cy a) σ) H → va_S A s.heap H locs → k4 σ x1 x2 = some z → W p l e ({ frames := 4, cells := 0, slots := 0, locals := 89 } : Room) s m args below meth c H locs 0 0 (nQi below D A (Mw cy a) args s z) (F0 m 4 ls [])) : ∀ (σ : nS) (x2 : Int32) (y0 : Int32) (H : Heap) (locs : List Loc) (ls : Array Slot), lv_has ls 3 [(0, .ref (a 0)), (2, .int x2)] → va_P D vwCl ((Mw cy a) σ) H → va_S A s.heap H locs → b_X11_cures_38 N k4 σ x2 y0 = some z → W p l e ({ frames := 4, cells := 0, slots := 0, locals := 89 } : Room) s m args below meth c H locs 0 0 (nQi below D A (Mw cy a) args s z) (F0 m 38 ls [.int y0]) := by
  obtain ⟨hx, hb, hr, hml, hown, hts, hlocks⟩ := C0
  intro σ x2 y0 H locs ls hl hP hS hf
  unfold b_X11_cures_38 at hf
  refine lv_istore_n (lv' := [(1, .int y0), (0, .ref (a 0)), (2, .int x2)]) hx hb dX11_cures_38 rfl hl (by decide) rfl (fun ls hl => ?_)
  obtain ⟨v1, ev1⟩ : ∃ y : Int32, y = x2 + 1 := ⟨_, rfl⟩
  replace hf := nLet_e hf ev1
  refine lv_iinc (v := v1) (lv' := [(2, .int v1), (1, .int y0), (0, .ref (a 0))]) hx hb dX11_cures_39 hl (k := 2) rfl (by rw [ev1]; rfl) (by decide) rfl (fun ls hl => ?_)
  refine lv_goto (tgt := 4) hx hb dX11_cures_42 (by decide) ?_
  exact K4 σ y0 v1 H locs ls (lv_sub hl [2, 1, 0] rfl) hP hS hf
def b_X11_cures_4 (N : Nat) (k38 : nS → Int32 → Int32 → Option (Int32 × nS)) (σ : nS) (x1 : Int32) (x2 : Int32) : Option (Int32 × nS) := (if (σ.1 0 49) ≤ x2 then nZ x1 (some (x1, σ)) else (if x1 = 0 then nZ x1 (some (x1, σ)) else nIx x2 500 (nLet (σ.1 18 (x2).toNatClampNeg) (fun v1 => nBd (f_X11_playsChoice N (σ.1 0 48) v1 σ) (fun r2 σ3 => (if r2 = 0 then k38 σ3 x2 1 else k38 σ3 x2 0))))))
set_option maxHeartbeats 4000000 in
set_option maxRecDepth 100000 in
theorem kb_X11_cures_4 {p : Program} {l : Launch} {e : Env} {s : State} {m : MethodId} {args : Array Value} {below : List Frame} {meth : Method} {c : Code} {D : va_G} {A : Nat → Prop} {cy : Nat → ClassId} {a kt vt : Nat → Nat} {N : Nat}   (C0 : nCx p s m args meth c cX11_cures 3 (some .boolean) RX11 wsX11_cures) (hE : nEn D A cy (Mw cy a) kt vt s) {z : Int32 × nS} {k38 : nS → Int32 → Int32 → Option (Int32 × nS)} (K38 : ∀ (σ : nS) (x2 : Int32) (y0 : Int32) (H : Heap) (locs : List Loc) (ls : Array Slot), lv_has ls 3 [(0, .ref (a 0)), (2, .int x2)] → va_P D vwCl ((Mw cy a) σ) H → va_S A s.heap H locs → k38 σ x2 y0 = some z → W p l e ({ frames := 4, cells := 0, slots := 0, locals := 89 } : Room) s m args below meth c H locs 0 0 (nQi below D A (Mw cy a) args s z) (F0 m 38 ls [.int y0])) : ∀ (σ : nS) (x1 : Int32) (x2 : Int32) (H : Heap) (locs : List Loc) (ls : Array Slot), lv_has ls 3 [(0, .ref (a 0)), (1, .int x1), (2, .int x2)] → va_P D vwCl ((Mw cy a) σ) H → va_S A s.heap H locs → b_X11_cures_4 N k38 σ x1 x2 = some z → W p l e ({ frames := 4, cells := 0, slots := 0, locals := 89 } : Room) s m args below meth c H locs 0 0 (nQi below D A (Mw cy a) args s z) (F0 m 4 ls []) := by
  obtain ⟨hx, hb, hr, hml, hown, hts, hlocks⟩ := C0
  intro σ x1 x2 H locs ls hl hP hS hf
  unfold b_X11_cures_4 at hf
  refine lv_iload_n hx hb dX11_cures_4 rfl (lv_at hl 2 rfl) ?_
  refine lv_aload_n hx hb dX11_cures_5 rfl (lv_at hl 0 rfl) ?_
  refine nb_get (ci := 11) hx hb hts iX11_cures_X11 hown hE hP 0 mbo_0 rfl 49 (by decide) qX11_cures_331 rfl rfl dX11_cures_6 ?_
  refine lv_icmp_ge (tgt := 45) hx hb dX11_cures_9 (by decide) (fun hc => ?_) (fun hc => ?_)
  · replace hf := nIf_t hc hf
    refine lv_iload_n hx hb dX11_cures_45 rfl (lv_at hl 1 rfl) ?_
    obtain ⟨hz, hf⟩ := nZ_e hf
    exact nb_zret hx hb hr hlocks hP hS (nSo hf) hz dX11_cures_46
  · replace hf := nIf_f hc hf
    refine lv_iload_n hx hb dX11_cures_12 rfl (lv_at hl 1 rfl) ?_
    refine lv_if_eq (tgt := 45) hx hb dX11_cures_13 (by decide) (fun hc => ?_) (fun hc => ?_)
    · replace hf := nIf_t hc hf
      refine lv_iload_n hx hb dX11_cures_45 rfl (lv_at hl 1 rfl) ?_
      obtain ⟨hz, hf⟩ := nZ_e hf
      exact nb_zret hx hb hr hlocks hP hS (nSo hf) hz dX11_cures_46
    · replace hf := nIf_f hc hf
      refine lv_aload_n hx hb dX11_cures_16 rfl (lv_at hl 0 rfl) ?_
      refine lv_aload_n hx hb dX11_cures_17 rfl (lv_at hl 0 rfl) ?_
      refine nb_get (ci := 11) hx hb hts iX11_cures_X11 hown hE hP 0 mbo_0 rfl 48 (by decide) qX11_cures_328 rfl rfl dX11_cures_18 ?_
      refine lv_aload_n hx hb dX11_cures_21 rfl (lv_at hl 0 rfl) ?_
      refine nb_get (ci := 11) hx hb hts iX11_cures_X11 hown hE hP 0 mbo_0 rfl 51 (by decide) qX11_cures_73 rfl rfl dX11_cures_22 ?_
      refine lv_iload_n hx hb dX11_cures_25 rfl (lv_at hl 2 rfl) ?_
      obtain ⟨hin, hf⟩ := nIx_e hf
      refine na_iald hx hb hE hP mbr_18 hin dX11_cures_26 ?_
      refine lv_topi (fun v1 ev1 => ?_)
      replace hf := nLet_e hf ev1
      obtain ⟨r2, σ3, hc3, hf⟩ := nBd_e hf
      refine nb_callVi (As := [.int (σ.1 0 48), .int v1]) (rest := []) ⟨hx, hb, hml, hown, hts⟩ (c_X11_playsChoice (D := D) (A := A) (cy := cy) (a := a) (kt := kt) (vt := vt) (l := l)  hc3) (cwV 2 hts gX11_cures_X11_playsChoice rfl rfl rfl (by decide +kernel) ⟨Nat.le_of_ble_eq_true rfl, Nat.le_of_ble_eq_true rfl⟩) hE hP hS mbo_0 rfl rfl hl.1 rfl (Nat.le_of_ble_eq_true rfl) dX11_cures_27 (fun H locs hP hS => ?_)
      refine lv_if_ne (tgt := 37) hx hb dX11_cures_30 (by decide) (fun hc => ?_) (fun hc => ?_)
      · replace hf := nIf_f hc hf
        refine lv_iconst (v := 0) hx hb dX11_cures_37 (by decide) ?_
        exact K38 σ3 x2 0 H locs ls (lv_sub hl [0, 2] rfl) hP hS hf
      · replace hf := nIf_t hc hf
        refine lv_iconst (v := 1) hx hb dX11_cures_33 (by decide) ?_
        refine lv_goto (tgt := 38) hx hb dX11_cures_34 (by decide) ?_
        exact K38 σ3 x2 1 H locs ls (lv_sub hl [0, 2] rfl) hP hS hf
def b_X11_cures_0 (N : Nat) (k4 : nS → Int32 → Int32 → Option (Int32 × nS)) (σ : nS) : Option (Int32 × nS) := k4 σ 1 0
set_option maxHeartbeats 4000000 in
set_option maxRecDepth 100000 in
theorem kb_X11_cures_0 {p : Program} {l : Launch} {e : Env} {s : State} {m : MethodId} {args : Array Value} {below : List Frame} {meth : Method} {c : Code} {D : va_G} {A : Nat → Prop} {cy : Nat → ClassId} {a kt vt : Nat → Nat} {N : Nat}   (C0 : nCx p s m args meth c cX11_cures 3 (some .boolean) RX11 wsX11_cures) (hE : nEn D A cy (Mw cy a) kt vt s) {z : Int32 × nS} {k4 : nS → Int32 → Int32 → Option (Int32 × nS)} (K4 : ∀ (σ : nS) (x1 : Int32) (x2 : Int32) (H : Heap) (locs : List Loc) (ls : Array Slot), lv_has ls 3 [(0, .ref (a 0)), (1, .int x1), (2, .int x2)] → va_P D vwCl ((Mw cy a) σ) H → va_S A s.heap H locs → k4 σ x1 x2 = some z → W p l e ({ frames := 4, cells := 0, slots := 0, locals := 89 } : Room) s m args below meth c H locs 0 0 (nQi below D A (Mw cy a) args s z) (F0 m 4 ls [])) : ∀ (σ : nS) (H : Heap) (locs : List Loc) (ls : Array Slot), lv_has ls 3 [(0, .ref (a 0))] → va_P D vwCl ((Mw cy a) σ) H → va_S A s.heap H locs → b_X11_cures_0 N k4 σ = some z → W p l e ({ frames := 4, cells := 0, slots := 0, locals := 89 } : Room) s m args below meth c H locs 0 0 (nQi below D A (Mw cy a) args s z) (F0 m 0 ls []) := by
  obtain ⟨hx, hb, hr, hml, hown, hts, hlocks⟩ := C0
  intro σ  H locs ls hl hP hS hf
  unfold b_X11_cures_0 at hf
  refine lv_iconst (v := 1) hx hb dX11_cures_0 (by decide) ?_
  refine lv_istore_n (lv' := [(1, .int 1), (0, .ref (a 0))]) hx hb dX11_cures_1 rfl hl (by decide) rfl (fun ls hl => ?_)
  refine lv_iconst (v := 0) hx hb dX11_cures_2 (by decide) ?_
  refine lv_istore_n (lv' := [(2, .int 0), (1, .int 1), (0, .ref (a 0))]) hx hb dX11_cures_3 rfl hl (by decide) rfl (fun ls hl => ?_)
  exact K4 σ 1 0 H locs ls (lv_sub hl [2, 1, 0] rfl) hP hS hf
def l_X11_cures_38 (N : Nat) (k4 : nS → Int32 → Int32 → Option (Int32 × nS)) : nS → Int32 → Int32 → Option (Int32 × nS) := b_X11_cures_38 N k4
theorem kl_X11_cures_38 {p : Program} {l : Launch} {e : Env} {s : State} {m : MethodId} {args : Array Value} {below : List Frame} {meth : Method} {c : Code} {D : va_G} {A : Nat → Prop} {cy : Nat → ClassId} {a kt vt : Nat → Nat} {N : Nat}   (C0 : nCx p s m args meth c cX11_cures 3 (some .boolean) RX11 wsX11_cures) (hE : nEn D A cy (Mw cy a) kt vt s) {z : Int32 × nS} {k4 : nS → Int32 → Int32 → Option (Int32 × nS)} (K4 : ∀ (σ : nS) (x1 : Int32) (x2 : Int32) (H : Heap) (locs : List Loc) (ls : Array Slot), lv_has ls 3 [(0, .ref (a 0)), (1, .int x1), (2, .int x2)] → va_P D vwCl ((Mw cy a) σ) H → va_S A s.heap H locs → k4 σ x1 x2 = some z → W p l e ({ frames := 4, cells := 0, slots := 0, locals := 89 } : Room) s m args below meth c H locs 0 0 (nQi below D A (Mw cy a) args s z) (F0 m 4 ls [])) : ∀ (σ : nS) (x2 : Int32) (y0 : Int32) (H : Heap) (locs : List Loc) (ls : Array Slot), lv_has ls 3 [(0, .ref (a 0)), (2, .int x2)] → va_P D vwCl ((Mw cy a) σ) H → va_S A s.heap H locs → l_X11_cures_38 N k4 σ x2 y0 = some z → W p l e ({ frames := 4, cells := 0, slots := 0, locals := 89 } : Room) s m args below meth c H locs 0 0 (nQi below D A (Mw cy a) args s z) (F0 m 38 ls [.int y0]) := by
  exact kb_X11_cures_38 (N := N)  C0 hE K4
def l_X11_cures_4 (N : Nat) : nS → Int32 → Int32 → Option (Int32 × nS) := nLp (fun _ _ _ => none) (fun again => b_X11_cures_4 N (l_X11_cures_38 N again)) N
theorem kl_X11_cures_4 {p : Program} {l : Launch} {e : Env} {s : State} {m : MethodId} {args : Array Value} {below : List Frame} {meth : Method} {c : Code} {D : va_G} {A : Nat → Prop} {cy : Nat → ClassId} {a kt vt : Nat → Nat} {N : Nat}   (C0 : nCx p s m args meth c cX11_cures 3 (some .boolean) RX11 wsX11_cures) (hE : nEn D A cy (Mw cy a) kt vt s) {z : Int32 × nS} : ∀ (σ : nS) (x1 : Int32) (x2 : Int32) (H : Heap) (locs : List Loc) (ls : Array Slot), lv_has ls 3 [(0, .ref (a 0)), (1, .int x1), (2, .int x2)] → va_P D vwCl ((Mw cy a) σ) H → va_S A s.heap H locs → l_X11_cures_4 N σ x1 x2 = some z → W p l e ({ frames := 4, cells := 0, slots := 0, locals := 89 } : Room) s m args below meth c H locs 0 0 (nQi below D A (Mw cy a) args s z) (F0 m 4 ls []) := by
  have main : ∀ (fu : Nat), ∀ (σ : nS) (x1 : Int32) (x2 : Int32) (H : Heap) (locs : List Loc) (ls : Array Slot), lv_has ls 3 [(0, .ref (a 0)), (1, .int x1), (2, .int x2)] → va_P D vwCl ((Mw cy a) σ) H → va_S A s.heap H locs → nLp (fun _ _ _ => none) (fun again => b_X11_cures_4 N (l_X11_cures_38 N again)) fu σ x1 x2 = some z → W p l e ({ frames := 4, cells := 0, slots := 0, locals := 89 } : Room) s m args below meth c H locs 0 0 (nQi below D A (Mw cy a) args s z) (F0 m 4 ls []) := by
    intro fu
    induction fu with
    | zero => intro σ x1 x2 H locs ls hl hP hS hf; cases hf
    | succ fu ih => exact kb_X11_cures_4 (N := N)  C0 hE (kl_X11_cures_38 (N := N)  C0 hE ih)
  exact main N
def l_X11_cures_0 (N : Nat) : nS → Option (Int32 × nS) := b_X11_cures_0 N (l_X11_cures_4 N)
theorem kl_X11_cures_0 {p : Program} {l : Launch} {e : Env} {s : State} {m : MethodId} {args : Array Value} {below : List Frame} {meth : Method} {c : Code} {D : va_G} {A : Nat → Prop} {cy : Nat → ClassId} {a kt vt : Nat → Nat} {N : Nat}   (C0 : nCx p s m args meth c cX11_cures 3 (some .boolean) RX11 wsX11_cures) (hE : nEn D A cy (Mw cy a) kt vt s) {z : Int32 × nS} : ∀ (σ : nS) (H : Heap) (locs : List Loc) (ls : Array Slot), lv_has ls 3 [(0, .ref (a 0))] → va_P D vwCl ((Mw cy a) σ) H → va_S A s.heap H locs → l_X11_cures_0 N σ = some z → W p l e ({ frames := 4, cells := 0, slots := 0, locals := 89 } : Room) s m args below meth c H locs 0 0 (nQi below D A (Mw cy a) args s z) (F0 m 0 ls []) := by
  exact kb_X11_cures_0 (N := N)  C0 hE (kl_X11_cures_4 (N := N)  C0 hE)
def f_X11_cures (N : Nat) (σ : nS) : Option (Int32 × nS) := l_X11_cures_0 N σ
set_option maxHeartbeats 4000000 in
set_option maxRecDepth 100000 in
theorem c_X11_cures {l : Launch} {D : va_G} {A : Nat → Prop} {cy : Nat → ClassId} {a kt vt : Nat → Nat} {N : Nat}   {σ : nS} {r : Int32} {σ' : nS} (hf : f_X11_cures N σ = some (r, σ')) : nMi l yX11_cures wsX11_cures ({ frames := 4, cells := 0, slots := 0, locals := 89 } : Room) D A cy (Mw cy a) kt vt [.ref (a 0)] σ r σ' := by
  refine Met.ofW (cc := cX11_cures) (maxL := 3) (ret := (some .boolean)) (by decide) rfl ?_
  intro p e s m args below meth c s₁ B hml hv
  obtain ⟨rfl, hP, hE⟩ := hv
  have hl := lv_entry ([.ref (a 0)]) (n := 3) (Nat.le_of_ble_eq_true rfl)
  rw [lg_entry_eq]
  generalize (lg_sl ([.ref (a 0)]) ++ List.replicate (3 - (lg_sl ([.ref (a 0)])).length) Slot.unset).toArray = ls at hl ⊢
  have C0 : nCx p s m _ meth c cX11_cures 3 (some .boolean) RX11 wsX11_cures := ⟨B.exec, B.bytes, B.returns, hml, findClass_of_methodNamed B.named, atoms_spec (ws := wsX11_cures) B.pre, B.notSynchronized⟩
  exact kl_X11_cures_0 (N := N)  C0 hE (z := (r, σ')) σ  _ _ ls hl hP va_S.rf hf
/-! X11_cured -/
set_option maxRecDepth 20000 in
theorem iX11_cured_X11 : ∀ w ∈ u_ws RX11 TX11 68, w ∈ wsX11_cured := fun _ h => List.mem_cons_of_mem _ (List.mem_append_right _ h)
set_option maxRecDepth 20000 in
theorem qX11_cured_344 : Cond.fieldLink RX11 344 RX11 (TX11 57).2.1 (TX11 57).2.2.1 ∈ wsX11_cured := by decide +kernel
set_option maxRecDepth 20000 in
theorem qX11_cured_86 : Cond.fieldLink RX11 86 RX11 (TX11 55).2.1 (TX11 55).2.2.1 ∈ wsX11_cured := by decide +kernel
def b_X11_cured_0 (N : Nat) (σ : nS) (x1 : Int32) (x2 : Int32) (x3 : Int32) : Option (Int32 × nS) := (if (σ.1 0 57) = 0 then nIx 0 3 (nLet (wr σ 22 (0 : Int32).toNatClampNeg x1) (fun σ3 => nIx 1 3 (nLet (wr σ3 22 (1 : Int32).toNatClampNeg x2) (fun σ4 => nIx 2 3 (nLet (wr σ4 22 (2 : Int32).toNatClampNeg x3) (fun σ5 => nLet ((σ5.1 0 57) + (1 : Int32) : Int32) (fun v6 => nLet (wr σ5 0 57 v6) (fun σ7 => some (0, σ7))))))))) else nLet ((σ.1 0 57) + (1 : Int32) : Int32) (fun v1 => nLet (wr σ 0 57 v1) (fun σ2 => some (0, σ2))))
set_option maxHeartbeats 4000000 in
set_option maxRecDepth 100000 in
theorem kb_X11_cured_0 {p : Program} {l : Launch} {e : Env} {s : State} {m : MethodId} {args : Array Value} {below : List Frame} {meth : Method} {c : Code} {D : va_G} {A : Nat → Prop} {cy : Nat → ClassId} {a kt vt : Nat → Nat} {N : Nat}   (C0 : nCx p s m args meth c cX11_cured 4 none RX11 wsX11_cured) (hE : nEn D A cy (Mw cy a) kt vt s) {z : Int32 × nS} : ∀ (σ : nS) (x1 : Int32) (x2 : Int32) (x3 : Int32) (H : Heap) (locs : List Loc) (ls : Array Slot), lv_has ls 4 [(0, .ref (a 0)), (1, .int x1), (2, .int x2), (3, .int x3)] → va_P D vwCl ((Mw cy a) σ) H → va_S A s.heap H locs → b_X11_cured_0 N σ x1 x2 x3 = some z → W p l e ({ frames := 0, cells := 0, slots := 0, locals := 0 } : Room) s m args below meth c H locs 0 0 (nQv below D A (Mw cy a) args s z) (F0 m 0 ls []) := by
  obtain ⟨hx, hb, hr, hml, hown, hts, hlocks⟩ := C0
  intro σ x1 x2 x3 H locs ls hl hP hS hf
  unfold b_X11_cured_0 at hf
  refine lv_aload_n hx hb dX11_cured_0 rfl (lv_at hl 0 rfl) ?_
  refine nb_get (ci := 11) hx hb hts iX11_cured_X11 hown hE hP 0 mbo_0 rfl 57 (by decide) qX11_cured_344 rfl rfl dX11_cured_1 ?_
  refine lv_if_ne (tgt := 28) hx hb dX11_cured_4 (by decide) (fun hc => ?_) (fun hc => ?_)
  · replace hf := nIf_f hc hf
    refine lv_aload_n hx hb dX11_cured_28 rfl (lv_at hl 0 rfl) ?_
    refine lv_dup hx hb dX11_cured_29 rfl ?_
    refine nb_get (ci := 11) hx hb hts iX11_cured_X11 hown hE hP 0 mbo_0 rfl 57 (by decide) qX11_cured_344 rfl rfl dX11_cured_30 ?_
    refine lv_iconst (v := 1) hx hb dX11_cured_33 (by decide) ?_
    refine lv_iadd hx hb dX11_cured_34 ?_
    refine lv_topi (fun v1 ev1 => ?_)
    replace hf := nLet_e hf ev1
    refine nb_put (ci := 11) hx hb hts iX11_cured_X11 tyX11 tyX11_ok nmX11 hown hE hP hS 0 mbo_0 rfl 57 (by decide) qX11_cured_344 rfl rfl rfl rfl (Nat.le_of_ble_eq_true rfl) dX11_cured_35 (mbp_0_57 _) (fun σ2 eσ2 H locs hP hS => ?_)
    replace hf := nLet_e hf eσ2
    exact nb_vret hx hb hr hlocks hP hS (nSo hf) dX11_cured_38
  · replace hf := nIf_t hc hf
    refine lv_aload_n hx hb dX11_cured_7 rfl (lv_at hl 0 rfl) ?_
    refine nb_get (ci := 11) hx hb hts iX11_cured_X11 hown hE hP 0 mbo_0 rfl 55 (by decide) qX11_cured_86 rfl rfl dX11_cured_8 ?_
    refine lv_iconst (v := 0) hx hb dX11_cured_11 (by decide) ?_
    refine lv_iload_n hx hb dX11_cured_12 rfl (lv_at hl 1 rfl) ?_
    obtain ⟨hin, hf⟩ := nIx_e hf
    refine na_iast hx hb hE hP hS mbr_22 hin dX11_cured_13 (fun σ3 eσ3 H locs hP hS => ?_)
    replace hf := nLet_e hf eσ3
    refine lv_aload_n hx hb dX11_cured_14 rfl (lv_at hl 0 rfl) ?_
    refine nb_get (ci := 11) hx hb hts iX11_cured_X11 hown hE hP 0 mbo_0 rfl 55 (by decide) qX11_cured_86 rfl rfl dX11_cured_15 ?_
    refine lv_iconst (v := 1) hx hb dX11_cured_18 (by decide) ?_
    refine lv_iload_n hx hb dX11_cured_19 rfl (lv_at hl 2 rfl) ?_
    obtain ⟨hin, hf⟩ := nIx_e hf
    refine na_iast hx hb hE hP hS mbr_22 hin dX11_cured_20 (fun σ4 eσ4 H locs hP hS => ?_)
    replace hf := nLet_e hf eσ4
    refine lv_aload_n hx hb dX11_cured_21 rfl (lv_at hl 0 rfl) ?_
    refine nb_get (ci := 11) hx hb hts iX11_cured_X11 hown hE hP 0 mbo_0 rfl 55 (by decide) qX11_cured_86 rfl rfl dX11_cured_22 ?_
    refine lv_iconst (v := 2) hx hb dX11_cured_25 (by decide) ?_
    refine lv_iload_n hx hb dX11_cured_26 rfl (lv_at hl 3 rfl) ?_
    obtain ⟨hin, hf⟩ := nIx_e hf
    refine na_iast hx hb hE hP hS mbr_22 hin dX11_cured_27 (fun σ5 eσ5 H locs hP hS => ?_)
    replace hf := nLet_e hf eσ5
    refine lv_aload_n hx hb dX11_cured_28 rfl (lv_at hl 0 rfl) ?_
    refine lv_dup hx hb dX11_cured_29 rfl ?_
    refine nb_get (ci := 11) hx hb hts iX11_cured_X11 hown hE hP 0 mbo_0 rfl 57 (by decide) qX11_cured_344 rfl rfl dX11_cured_30 ?_
    refine lv_iconst (v := 1) hx hb dX11_cured_33 (by decide) ?_
    refine lv_iadd hx hb dX11_cured_34 ?_
    refine lv_topi (fun v6 ev6 => ?_)
    replace hf := nLet_e hf ev6
    refine nb_put (ci := 11) hx hb hts iX11_cured_X11 tyX11 tyX11_ok nmX11 hown hE hP hS 0 mbo_0 rfl 57 (by decide) qX11_cured_344 rfl rfl rfl rfl (Nat.le_of_ble_eq_true rfl) dX11_cured_35 (mbp_0_57 _) (fun σ7 eσ7 H locs hP hS => ?_)
    replace hf := nLet_e hf eσ7
    exact nb_vret hx hb hr hlocks hP hS (nSo hf) dX11_cured_38
def l_X11_cured_0 (N : Nat) : nS → Int32 → Int32 → Int32 → Option (Int32 × nS) := b_X11_cured_0 N
theorem kl_X11_cured_0 {p : Program} {l : Launch} {e : Env} {s : State} {m : MethodId} {args : Array Value} {below : List Frame} {meth : Method} {c : Code} {D : va_G} {A : Nat → Prop} {cy : Nat → ClassId} {a kt vt : Nat → Nat} {N : Nat}   (C0 : nCx p s m args meth c cX11_cured 4 none RX11 wsX11_cured) (hE : nEn D A cy (Mw cy a) kt vt s) {z : Int32 × nS} : ∀ (σ : nS) (x1 : Int32) (x2 : Int32) (x3 : Int32) (H : Heap) (locs : List Loc) (ls : Array Slot), lv_has ls 4 [(0, .ref (a 0)), (1, .int x1), (2, .int x2), (3, .int x3)] → va_P D vwCl ((Mw cy a) σ) H → va_S A s.heap H locs → l_X11_cured_0 N σ x1 x2 x3 = some z → W p l e ({ frames := 0, cells := 0, slots := 0, locals := 0 } : Room) s m args below meth c H locs 0 0 (nQv below D A (Mw cy a) args s z) (F0 m 0 ls []) := by
  exact kb_X11_cured_0 (N := N)  C0 hE
def f_X11_cured (N : Nat) (x1 : Int32) (x2 : Int32) (x3 : Int32) (σ : nS) : Option (Int32 × nS) := l_X11_cured_0 N σ x1 x2 x3
set_option maxHeartbeats 4000000 in
set_option maxRecDepth 100000 in
theorem c_X11_cured {l : Launch} {D : va_G} {A : Nat → Prop} {cy : Nat → ClassId} {a kt vt : Nat → Nat} {N : Nat}   {x1 : Int32} {x2 : Int32} {x3 : Int32} {σ : nS} {r : Int32} {σ' : nS} (hf : f_X11_cured N x1 x2 x3 σ = some (r, σ')) : nMv l yX11_cured wsX11_cured ({ frames := 0, cells := 0, slots := 0, locals := 0 } : Room) D A cy (Mw cy a) kt vt [.ref (a 0), .int x1, .int x2, .int x3] σ σ' := by
  refine Met.ofW (cc := cX11_cured) (maxL := 4) (ret := none) (by decide) rfl ?_
  intro p e s m args below meth c s₁ B hml hv
  obtain ⟨rfl, hP, hE⟩ := hv
  have hl := lv_entry ([.ref (a 0), .int x1, .int x2, .int x3]) (n := 4) (Nat.le_of_ble_eq_true rfl)
  rw [lg_entry_eq]
  generalize (lg_sl ([.ref (a 0), .int x1, .int x2, .int x3]) ++ List.replicate (4 - (lg_sl ([.ref (a 0), .int x1, .int x2, .int x3])).length) Slot.unset).toArray = ls at hl ⊢
  have C0 : nCx p s m _ meth c cX11_cured 4 none RX11 wsX11_cured := ⟨B.exec, B.bytes, B.returns, hml, findClass_of_methodNamed B.named, atoms_spec (ws := wsX11_cured) B.pre, B.notSynchronized⟩
  exact kl_X11_cured_0 (N := N)  C0 hE (z := (r, σ')) σ x1 x2 x3 _ _ ls hl hP va_S.rf hf
/-! X11_targets -/
set_option maxRecDepth 20000 in
theorem iX11_targets_X11 : ∀ w ∈ u_ws RX11 TX11 68, w ∈ wsX11_targets := fun _ h => List.mem_cons_of_mem _ (List.mem_append_right _ h)
set_option maxRecDepth 20000 in
theorem qX11_targets_23 : Cond.fieldLink RX11 23 RX11 (TX11 11).2.1 (TX11 11).2.2.1 ∈ wsX11_targets := by decide +kernel
set_option maxRecDepth 20000 in
theorem qX11_targets_328 : Cond.fieldLink RX11 328 RX11 (TX11 48).2.1 (TX11 48).2.2.1 ∈ wsX11_targets := by decide +kernel
def b_X11_targets_54 (N : Nat) (q : Nat) (k9 : nS → Int32 → Int32 → Int32 → Int32 → Int32 → Option (Int32 × nS)) (σ : nS) (x1 : Int32) (x2 : Int32) (x4 : Int32) (x5 : Int32) (x6 : Int32) : Option (Int32 × nS) := nLet (x6 + 1 : Int32) (fun v1 => k9 σ x1 x2 x4 x5 v1)
set_option maxHeartbeats 4000000 in
set_option maxRecDepth 100000 in
theorem kb_X11_targets_54 {p : Program} {l : Launch} {e : Env} {s : State} {m : MethodId} {args : Array Value} {below : List Frame} {meth : Method} {c : Code} {D : va_G} {A : Nat → Prop} {cy : Nat → ClassId} {a kt vt : Nat → Nat} {N : Nat} {q : Nat} (hq : nAr 0 (Mw cy a) cy a q 120) (C0 : nCx p s m args meth c cX11_targets 7 none RX11 wsX11_targets) (hE : nEn D A cy (Mw cy a) kt vt s) {z : Int32 × nS} {k9 : nS → Int32 → Int32 → Int32 → Int32 → Int32 → Option (Int32 × nS)} (K9 : ∀ (σ : nS) (x1 : Int32) (x2 : Int32) (x4 : Int32) (x5 : Int32) (x6 : Int32) (H : Heap) (locs : List Loc) (ls : Array Slot), lv_has ls 7 [(0, .ref (a 0)), (1, .int x1), (2, .int x2), (3, .ref (a q)), (4, .int x4), (5, .int x5), (6, .int x6)] → va_P D vwCl ((Mw cy a) σ) H → va_S A s.heap H locs → k9 σ x1 x2 x4 x5 x6 = some z → W p l e ({ frames := 5, cells := 0, slots := 0, locals := 111 } : Room) s m args below meth c H locs 0 0 (nQv below D A (Mw cy a) args s z) (F0 m 9 ls [])) : ∀ (σ : nS) (x1 : Int32) (x2 : Int32) (x4 : Int32) (x5 : Int32) (x6 : Int32) (H : Heap) (locs : List Loc) (ls : Array Slot), lv_has ls 7 [(0, .ref (a 0)), (1, .int x1), (2, .int x2), (3, .ref (a q)), (4, .int x4), (5, .int x5), (6, .int x6)] → va_P D vwCl ((Mw cy a) σ) H → va_S A s.heap H locs → b_X11_targets_54 N q k9 σ x1 x2 x4 x5 x6 = some z → W p l e ({ frames := 5, cells := 0, slots := 0, locals := 111 } : Room) s m args below meth c H locs 0 0 (nQv below D A (Mw cy a) args s z) (F0 m 54 ls []) := by
  obtain ⟨hx, hb, hr, hml, hown, hts, hlocks⟩ := C0
  intro σ x1 x2 x4 x5 x6 H locs ls hl hP hS hf
  unfold b_X11_targets_54 at hf
  obtain ⟨v1, ev1⟩ : ∃ y : Int32, y = x6 + 1 := ⟨_, rfl⟩
  replace hf := nLet_e hf ev1
  refine lv_iinc (v := v1) (lv' := [(6, .int v1), (0, .ref (a 0)), (1, .int x1), (2, .int x2), (3, .ref (a q)), (4, .int x4), (5, .int x5)]) hx hb dX11_targets_54 hl (k := 6) rfl (by rw [ev1]; rfl) (by decide) rfl (fun ls hl => ?_)
  refine lv_goto (tgt := 9) hx hb dX11_targets_57 (by decide) ?_
  exact K9 σ x1 x2 x4 x5 v1 H locs ls (lv_sub hl [1, 2, 3, 4, 5, 6, 0] rfl) hP hS hf
def b_X11_targets_9 (N : Nat) (q : Nat) (k54 : nS → Int32 → Int32 → Int32 → Int32 → Int32 → Option (Int32 × nS)) (σ : nS) (x1 : Int32) (x2 : Int32) (x4 : Int32) (x5 : Int32) (x6 : Int32) : Option (Int32 × nS) := nIx (σ.1 0 48) 5 (nLet (σ.1 3 ((σ.1 0 48)).toNatClampNeg) (fun v1 => (if v1 ≤ x6 then nIx x4 120 (nLet (wr σ q (x4).toNatClampNeg x5) (fun σ2 => some (0, σ2))) else (if x6 = x5 then k54 σ x1 x2 x4 x5 x6 else nIx x4 120 (nLet (wr σ q (x4).toNatClampNeg x6) (fun σ3 => nBd (f_X11_cures N σ3) (fun r4 σ5 => (if r4 = 0 then k54 σ5 x1 x2 x4 x5 x6 else nBd (f_X11_cured N x1 x2 x6 σ5) (fun r6 σ7 => k54 σ7 x1 x2 x4 x5 x6)))))))))
set_option maxHeartbeats 4000000 in
set_option maxRecDepth 100000 in
theorem kb_X11_targets_9 {p : Program} {l : Launch} {e : Env} {s : State} {m : MethodId} {args : Array Value} {below : List Frame} {meth : Method} {c : Code} {D : va_G} {A : Nat → Prop} {cy : Nat → ClassId} {a kt vt : Nat → Nat} {N : Nat} {q : Nat} (hq : nAr 0 (Mw cy a) cy a q 120) (C0 : nCx p s m args meth c cX11_targets 7 none RX11 wsX11_targets) (hE : nEn D A cy (Mw cy a) kt vt s) {z : Int32 × nS} {k54 : nS → Int32 → Int32 → Int32 → Int32 → Int32 → Option (Int32 × nS)} (K54 : ∀ (σ : nS) (x1 : Int32) (x2 : Int32) (x4 : Int32) (x5 : Int32) (x6 : Int32) (H : Heap) (locs : List Loc) (ls : Array Slot), lv_has ls 7 [(0, .ref (a 0)), (1, .int x1), (2, .int x2), (3, .ref (a q)), (4, .int x4), (5, .int x5), (6, .int x6)] → va_P D vwCl ((Mw cy a) σ) H → va_S A s.heap H locs → k54 σ x1 x2 x4 x5 x6 = some z → W p l e ({ frames := 5, cells := 0, slots := 0, locals := 111 } : Room) s m args below meth c H locs 0 0 (nQv below D A (Mw cy a) args s z) (F0 m 54 ls [])) : ∀ (σ : nS) (x1 : Int32) (x2 : Int32) (x4 : Int32) (x5 : Int32) (x6 : Int32) (H : Heap) (locs : List Loc) (ls : Array Slot), lv_has ls 7 [(0, .ref (a 0)), (1, .int x1), (2, .int x2), (3, .ref (a q)), (4, .int x4), (5, .int x5), (6, .int x6)] → va_P D vwCl ((Mw cy a) σ) H → va_S A s.heap H locs → b_X11_targets_9 N q k54 σ x1 x2 x4 x5 x6 = some z → W p l e ({ frames := 5, cells := 0, slots := 0, locals := 111 } : Room) s m args below meth c H locs 0 0 (nQv below D A (Mw cy a) args s z) (F0 m 9 ls []) := by
  obtain ⟨hx, hb, hr, hml, hown, hts, hlocks⟩ := C0
  intro σ x1 x2 x4 x5 x6 H locs ls hl hP hS hf
  unfold b_X11_targets_9 at hf
  refine lv_iload hx hb dX11_targets_9 (lv_at hl 6 rfl) ?_
  refine lv_aload_n hx hb dX11_targets_11 rfl (lv_at hl 0 rfl) ?_
  refine nb_get (ci := 11) hx hb hts iX11_targets_X11 hown hE hP 0 mbo_0 rfl 11 (by decide) qX11_targets_23 rfl rfl dX11_targets_12 ?_
  refine lv_aload_n hx hb dX11_targets_15 rfl (lv_at hl 0 rfl) ?_
  refine nb_get (ci := 11) hx hb hts iX11_targets_X11 hown hE hP 0 mbo_0 rfl 48 (by decide) qX11_targets_328 rfl rfl dX11_targets_16 ?_
  obtain ⟨hin, hf⟩ := nIx_e hf
  refine na_iald hx hb hE hP mbr_3 hin dX11_targets_19 ?_
  refine lv_topi (fun v1 ev1 => ?_)
  replace hf := nLet_e hf ev1
  refine lv_icmp_ge (tgt := 60) hx hb dX11_targets_20 (by decide) (fun hc => ?_) (fun hc => ?_)
  · replace hf := nIf_t hc hf
    refine lv_aload_n hx hb dX11_targets_60 rfl (lv_at hl 3 rfl) ?_
    refine lv_iload hx hb dX11_targets_61 (lv_at hl 4 rfl) ?_
    refine lv_iload hx hb dX11_targets_63 (lv_at hl 5 rfl) ?_
    obtain ⟨hin, hf⟩ := nIx_e hf
    refine na_iast hx hb hE hP hS hq hin dX11_targets_65 (fun σ2 eσ2 H locs hP hS => ?_)
    replace hf := nLet_e hf eσ2
    exact nb_vret hx hb hr hlocks hP hS (nSo hf) dX11_targets_66
  · replace hf := nIf_f hc hf
    refine lv_iload hx hb dX11_targets_23 (lv_at hl 6 rfl) ?_
    refine lv_iload hx hb dX11_targets_25 (lv_at hl 5 rfl) ?_
    refine lv_icmp_ne (tgt := 33) hx hb dX11_targets_27 (by decide) (fun hc => ?_) (fun hc => ?_)
    · replace hf := nIf_f hc hf
      refine lv_aload_n hx hb dX11_targets_33 rfl (lv_at hl 3 rfl) ?_
      refine lv_iload hx hb dX11_targets_34 (lv_at hl 4 rfl) ?_
      refine lv_iload hx hb dX11_targets_36 (lv_at hl 6 rfl) ?_
      obtain ⟨hin, hf⟩ := nIx_e hf
      refine na_iast hx hb hE hP hS hq hin dX11_targets_38 (fun σ3 eσ3 H locs hP hS => ?_)
      replace hf := nLet_e hf eσ3
      refine lv_aload_n hx hb dX11_targets_39 rfl (lv_at hl 0 rfl) ?_
      obtain ⟨r4, σ5, hc5, hf⟩ := nBd_e hf
      refine nb_callVi (As := []) (rest := []) ⟨hx, hb, hml, hown, hts⟩ (c_X11_cures (D := D) (A := A) (cy := cy) (a := a) (kt := kt) (vt := vt) (l := l)  hc5) (cwV 0 hts gX11_targets_X11_cures rfl rfl rfl (by decide +kernel) ⟨Nat.le_of_ble_eq_true rfl, Nat.le_of_ble_eq_true rfl⟩) hE hP hS mbo_0 rfl rfl hl.1 rfl (Nat.le_of_ble_eq_true rfl) dX11_targets_40 (fun H locs hP hS => ?_)
      refine lv_if_eq (tgt := 54) hx hb dX11_targets_43 (by decide) (fun hc => ?_) (fun hc => ?_)
      · replace hf := nIf_t hc hf
        exact K54 σ5 x1 x2 x4 x5 x6 H locs ls (lv_sub hl [0, 1, 2, 3, 4, 5, 6] rfl) hP hS hf
      · replace hf := nIf_f hc hf
        refine lv_aload_n hx hb dX11_targets_46 rfl (lv_at hl 0 rfl) ?_
        refine lv_iload_n hx hb dX11_targets_47 rfl (lv_at hl 1 rfl) ?_
        refine lv_iload_n hx hb dX11_targets_48 rfl (lv_at hl 2 rfl) ?_
        refine lv_iload hx hb dX11_targets_49 (lv_at hl 6 rfl) ?_
        obtain ⟨r6, σ7, hc7, hf⟩ := nBd_e hf
        refine nb_callVv (As := [.int x1, .int x2, .int x6]) (rest := []) ⟨hx, hb, hml, hown, hts⟩ (c_X11_cured (D := D) (A := A) (cy := cy) (a := a) (kt := kt) (vt := vt) (l := l)  hc7) (cwV 3 hts gX11_targets_X11_cured rfl rfl rfl (by decide +kernel) ⟨Nat.le_of_ble_eq_true rfl, Nat.le_of_ble_eq_true rfl⟩) hE hP hS mbo_0 rfl rfl hl.1 rfl (Nat.le_of_ble_eq_true rfl) dX11_targets_51 (fun H locs hP hS => ?_)
        exact K54 σ7 x1 x2 x4 x5 x6 H locs ls (lv_sub hl [0, 1, 2, 3, 4, 5, 6] rfl) hP hS hf
    · replace hf := nIf_t hc hf
      refine lv_goto (tgt := 54) hx hb dX11_targets_30 (by decide) ?_
      exact K54 σ x1 x2 x4 x5 x6 H locs ls (lv_sub hl [0, 1, 2, 3, 4, 5, 6] rfl) hP hS hf
def b_X11_targets_0 (N : Nat) (q : Nat) (k9 : nS → Int32 → Int32 → Int32 → Int32 → Int32 → Option (Int32 × nS)) (σ : nS) (x1 : Int32) (x2 : Int32) (x4 : Int32) : Option (Int32 × nS) := nIx x4 120 (nLet (σ.1 q (x4).toNatClampNeg) (fun v1 => k9 σ x1 x2 x4 v1 0))
set_option maxHeartbeats 4000000 in
set_option maxRecDepth 100000 in
theorem kb_X11_targets_0 {p : Program} {l : Launch} {e : Env} {s : State} {m : MethodId} {args : Array Value} {below : List Frame} {meth : Method} {c : Code} {D : va_G} {A : Nat → Prop} {cy : Nat → ClassId} {a kt vt : Nat → Nat} {N : Nat} {q : Nat} (hq : nAr 0 (Mw cy a) cy a q 120) (C0 : nCx p s m args meth c cX11_targets 7 none RX11 wsX11_targets) (hE : nEn D A cy (Mw cy a) kt vt s) {z : Int32 × nS} {k9 : nS → Int32 → Int32 → Int32 → Int32 → Int32 → Option (Int32 × nS)} (K9 : ∀ (σ : nS) (x1 : Int32) (x2 : Int32) (x4 : Int32) (x5 : Int32) (x6 : Int32) (H : Heap) (locs : List Loc) (ls : Array Slot), lv_has ls 7 [(0, .ref (a 0)), (1, .int x1), (2, .int x2), (3, .ref (a q)), (4, .int x4), (5, .int x5), (6, .int x6)] → va_P D vwCl ((Mw cy a) σ) H → va_S A s.heap H locs → k9 σ x1 x2 x4 x5 x6 = some z → W p l e ({ frames := 5, cells := 0, slots := 0, locals := 111 } : Room) s m args below meth c H locs 0 0 (nQv below D A (Mw cy a) args s z) (F0 m 9 ls [])) : ∀ (σ : nS) (x1 : Int32) (x2 : Int32) (x4 : Int32) (H : Heap) (locs : List Loc) (ls : Array Slot), lv_has ls 7 [(0, .ref (a 0)), (1, .int x1), (2, .int x2), (3, .ref (a q)), (4, .int x4)] → va_P D vwCl ((Mw cy a) σ) H → va_S A s.heap H locs → b_X11_targets_0 N q k9 σ x1 x2 x4 = some z → W p l e ({ frames := 5, cells := 0, slots := 0, locals := 111 } : Room) s m args below meth c H locs 0 0 (nQv below D A (Mw cy a) args s z) (F0 m 0 ls []) := by
  obtain ⟨hx, hb, hr, hml, hown, hts, hlocks⟩ := C0
  intro σ x1 x2 x4 H locs ls hl hP hS hf
  unfold b_X11_targets_0 at hf
  refine lv_aload_n hx hb dX11_targets_0 rfl (lv_at hl 3 rfl) ?_
  refine lv_iload hx hb dX11_targets_1 (lv_at hl 4 rfl) ?_
  obtain ⟨hin, hf⟩ := nIx_e hf
  refine na_iald hx hb hE hP hq hin dX11_targets_3 ?_
  refine lv_topi (fun v1 ev1 => ?_)
  replace hf := nLet_e hf ev1
  refine lv_istore (lv' := [(5, .int v1), (0, .ref (a 0)), (1, .int x1), (2, .int x2), (3, .ref (a q)), (4, .int x4)]) hx hb dX11_targets_4 hl (by decide) rfl (fun ls hl => ?_)
  refine lv_iconst (v := 0) hx hb dX11_targets_6 (by decide) ?_
  refine lv_istore (lv' := [(6, .int 0), (5, .int v1), (0, .ref (a 0)), (1, .int x1), (2, .int x2), (3, .ref (a q)), (4, .int x4)]) hx hb dX11_targets_7 hl (by decide) rfl (fun ls hl => ?_)
  exact K9 σ x1 x2 x4 v1 0 H locs ls (lv_sub hl [2, 3, 4, 5, 6, 1, 0] rfl) hP hS hf
def l_X11_targets_54 (N : Nat) (q : Nat) (k9 : nS → Int32 → Int32 → Int32 → Int32 → Int32 → Option (Int32 × nS)) : nS → Int32 → Int32 → Int32 → Int32 → Int32 → Option (Int32 × nS) := b_X11_targets_54 N q k9
theorem kl_X11_targets_54 {p : Program} {l : Launch} {e : Env} {s : State} {m : MethodId} {args : Array Value} {below : List Frame} {meth : Method} {c : Code} {D : va_G} {A : Nat → Prop} {cy : Nat → ClassId} {a kt vt : Nat → Nat} {N : Nat} {q : Nat} (hq : nAr 0 (Mw cy a) cy a q 120) (C0 : nCx p s m args meth c cX11_targets 7 none RX11 wsX11_targets) (hE : nEn D A cy (Mw cy a) kt vt s) {z : Int32 × nS} {k9 : nS → Int32 → Int32 → Int32 → Int32 → Int32 → Option (Int32 × nS)} (K9 : ∀ (σ : nS) (x1 : Int32) (x2 : Int32) (x4 : Int32) (x5 : Int32) (x6 : Int32) (H : Heap) (locs : List Loc) (ls : Array Slot), lv_has ls 7 [(0, .ref (a 0)), (1, .int x1), (2, .int x2), (3, .ref (a q)), (4, .int x4), (5, .int x5), (6, .int x6)] → va_P D vwCl ((Mw cy a) σ) H → va_S A s.heap H locs → k9 σ x1 x2 x4 x5 x6 = some z → W p l e ({ frames := 5, cells := 0, slots := 0, locals := 111 } : Room) s m args below meth c H locs 0 0 (nQv below D A (Mw cy a) args s z) (F0 m 9 ls [])) : ∀ (σ : nS) (x1 : Int32) (x2 : Int32) (x4 : Int32) (x5 : Int32) (x6 : Int32) (H : Heap) (locs : List Loc) (ls : Array Slot), lv_has ls 7 [(0, .ref (a 0)), (1, .int x1), (2, .int x2), (3, .ref (a q)), (4, .int x4), (5, .int x5), (6, .int x6)] → va_P D vwCl ((Mw cy a) σ) H → va_S A s.heap H locs → l_X11_targets_54 N q k9 σ x1 x2 x4 x5 x6 = some z → W p l e ({ frames := 5, cells := 0, slots := 0, locals := 111 } : Room) s m args below meth c H locs 0 0 (nQv below D A (Mw cy a) args s z) (F0 m 54 ls []) := by
  exact kb_X11_targets_54 (N := N) hq C0 hE K9
def l_X11_targets_9 (N : Nat) (q : Nat) : nS → Int32 → Int32 → Int32 → Int32 → Int32 → Option (Int32 × nS) := nLp (fun _ _ _ _ _ _ => none) (fun again => b_X11_targets_9 N q (l_X11_targets_54 N q again)) N
theorem kl_X11_targets_9 {p : Program} {l : Launch} {e : Env} {s : State} {m : MethodId} {args : Array Value} {below : List Frame} {meth : Method} {c : Code} {D : va_G} {A : Nat → Prop} {cy : Nat → ClassId} {a kt vt : Nat → Nat} {N : Nat} {q : Nat} (hq : nAr 0 (Mw cy a) cy a q 120) (C0 : nCx p s m args meth c cX11_targets 7 none RX11 wsX11_targets) (hE : nEn D A cy (Mw cy a) kt vt s) {z : Int32 × nS} : ∀ (σ : nS) (x1 : Int32) (x2 : Int32) (x4 : Int32) (x5 : Int32) (x6 : Int32) (H : Heap) (locs : List Loc) (ls : Array Slot), lv_has ls 7 [(0, .ref (a 0)), (1, .int x1), (2, .int x2), (3, .ref (a q)), (4, .int x4), (5, .int x5), (6, .int x6)] → va_P D vwCl ((Mw cy a) σ) H → va_S A s.heap H locs → l_X11_targets_9 N q σ x1 x2 x4 x5 x6 = some z → W p l e ({ frames := 5, cells := 0, slots := 0, locals := 111 } : Room) s m args below meth c H locs 0 0 (nQv below D A (Mw cy a) args s z) (F0 m 9 ls []) := by
  have main : ∀ (fu : Nat), ∀ (σ : nS) (x1 : Int32) (x2 : Int32) (x4 : Int32) (x5 : Int32) (x6 : Int32) (H : Heap) (locs : List Loc) (ls : Array Slot), lv_has ls 7 [(0, .ref (a 0)), (1, .int x1), (2, .int x2), (3, .ref (a q)), (4, .int x4), (5, .int x5), (6, .int x6)] → va_P D vwCl ((Mw cy a) σ) H → va_S A s.heap H locs → nLp (fun _ _ _ _ _ _ => none) (fun again => b_X11_targets_9 N q (l_X11_targets_54 N q again)) fu σ x1 x2 x4 x5 x6 = some z → W p l e ({ frames := 5, cells := 0, slots := 0, locals := 111 } : Room) s m args below meth c H locs 0 0 (nQv below D A (Mw cy a) args s z) (F0 m 9 ls []) := by
    intro fu
    induction fu with
    | zero => intro σ x1 x2 x4 x5 x6 H locs ls hl hP hS hf; cases hf
    | succ fu ih => exact kb_X11_targets_9 (N := N) hq C0 hE (kl_X11_targets_54 (N := N) hq C0 hE ih)
  exact main N
def l_X11_targets_0 (N : Nat) (q : Nat) : nS → Int32 → Int32 → Int32 → Option (Int32 × nS) := b_X11_targets_0 N q (l_X11_targets_9 N q)
theorem kl_X11_targets_0 {p : Program} {l : Launch} {e : Env} {s : State} {m : MethodId} {args : Array Value} {below : List Frame} {meth : Method} {c : Code} {D : va_G} {A : Nat → Prop} {cy : Nat → ClassId} {a kt vt : Nat → Nat} {N : Nat} {q : Nat} (hq : nAr 0 (Mw cy a) cy a q 120) (C0 : nCx p s m args meth c cX11_targets 7 none RX11 wsX11_targets) (hE : nEn D A cy (Mw cy a) kt vt s) {z : Int32 × nS} : ∀ (σ : nS) (x1 : Int32) (x2 : Int32) (x4 : Int32) (H : Heap) (locs : List Loc) (ls : Array Slot), lv_has ls 7 [(0, .ref (a 0)), (1, .int x1), (2, .int x2), (3, .ref (a q)), (4, .int x4)] → va_P D vwCl ((Mw cy a) σ) H → va_S A s.heap H locs → l_X11_targets_0 N q σ x1 x2 x4 = some z → W p l e ({ frames := 5, cells := 0, slots := 0, locals := 111 } : Room) s m args below meth c H locs 0 0 (nQv below D A (Mw cy a) args s z) (F0 m 0 ls []) := by
  exact kb_X11_targets_0 (N := N) hq C0 hE (kl_X11_targets_9 (N := N) hq C0 hE)
def f_X11_targets (N : Nat) (q : Nat) (x1 : Int32) (x2 : Int32) (x4 : Int32) (σ : nS) : Option (Int32 × nS) := l_X11_targets_0 N q σ x1 x2 x4
set_option maxHeartbeats 4000000 in
set_option maxRecDepth 100000 in
theorem c_X11_targets {l : Launch} {D : va_G} {A : Nat → Prop} {cy : Nat → ClassId} {a kt vt : Nat → Nat} {N : Nat} {q : Nat} (hq : nAr 0 (Mw cy a) cy a q 120) {x1 : Int32} {x2 : Int32} {x4 : Int32} {σ : nS} {r : Int32} {σ' : nS} (hf : f_X11_targets N q x1 x2 x4 σ = some (r, σ')) : nMv l yX11_targets wsX11_targets ({ frames := 5, cells := 0, slots := 0, locals := 111 } : Room) D A cy (Mw cy a) kt vt [.ref (a 0), .int x1, .int x2, .ref (a q), .int x4] σ σ' := by
  refine Met.ofW (cc := cX11_targets) (maxL := 7) (ret := none) (by decide) rfl ?_
  intro p e s m args below meth c s₁ B hml hv
  obtain ⟨rfl, hP, hE⟩ := hv
  have hl := lv_entry ([.ref (a 0), .int x1, .int x2, .ref (a q), .int x4]) (n := 7) (Nat.le_of_ble_eq_true rfl)
  rw [lg_entry_eq]
  generalize (lg_sl ([.ref (a 0), .int x1, .int x2, .ref (a q), .int x4]) ++ List.replicate (7 - (lg_sl ([.ref (a 0), .int x1, .int x2, .ref (a q), .int x4])).length) Slot.unset).toArray = ls at hl ⊢
  have C0 : nCx p s m _ meth c cX11_targets 7 none RX11 wsX11_targets := ⟨B.exec, B.bytes, B.returns, hml, findClass_of_methodNamed B.named, atoms_spec (ws := wsX11_targets) B.pre, B.notSynchronized⟩
  exact kl_X11_targets_0 (N := N) hq C0 hE (z := (r, σ')) σ x1 x2 x4 _ _ ls hl hP va_S.rf hf
/-! X11_mends -/
set_option maxRecDepth 20000 in
theorem iX11_mends_X11 : ∀ w ∈ u_ws RX11 TX11 68, w ∈ wsX11_mends := fun _ h => List.mem_cons_of_mem _ (List.mem_append_right _ h)
set_option maxRecDepth 20000 in
theorem qX11_mends_117 : Cond.fieldLink RX11 117 RX11 (TX11 0).2.1 (TX11 0).2.2.1 ∈ wsX11_mends := by decide +kernel
set_option maxRecDepth 20000 in
theorem qX11_mends_325 : Cond.fieldLink RX11 325 RX11 (TX11 47).2.1 (TX11 47).2.2.1 ∈ wsX11_mends := by decide +kernel
set_option maxRecDepth 20000 in
theorem qX11_mends_23 : Cond.fieldLink RX11 23 RX11 (TX11 11).2.1 (TX11 11).2.2.1 ∈ wsX11_mends := by decide +kernel
set_option maxRecDepth 20000 in
theorem qX11_mends_328 : Cond.fieldLink RX11 328 RX11 (TX11 48).2.1 (TX11 48).2.2.1 ∈ wsX11_mends := by decide +kernel
set_option maxRecDepth 20000 in
theorem qX11_mends_26 : Cond.fieldLink RX11 26 RX11 (TX11 12).2.1 (TX11 12).2.2.1 ∈ wsX11_mends := by decide +kernel
set_option maxRecDepth 20000 in
theorem qX11_mends_140 : Cond.fieldLink RX11 140 RX11 (TX11 6).2.1 (TX11 6).2.2.1 ∈ wsX11_mends := by decide +kernel
set_option maxRecDepth 20000 in
theorem qX11_mends_334 : Cond.fieldLink RX11 334 RX11 (TX11 50).2.1 (TX11 50).2.2.1 ∈ wsX11_mends := by decide +kernel
set_option maxRecDepth 20000 in
theorem qX11_mends_331 : Cond.fieldLink RX11 331 RX11 (TX11 49).2.1 (TX11 49).2.2.1 ∈ wsX11_mends := by decide +kernel
set_option maxRecDepth 20000 in
theorem qX11_mends_20 : Cond.fieldLink RX11 20 RX11 (TX11 10).2.1 (TX11 10).2.2.1 ∈ wsX11_mends := by decide +kernel
set_option maxRecDepth 20000 in
theorem qX11_mends_344 : Cond.fieldLink RX11 344 RX11 (TX11 57).2.1 (TX11 57).2.2.1 ∈ wsX11_mends := by decide +kernel
set_option maxRecDepth 20000 in
theorem qX11_mends_29 : Cond.fieldLink RX11 29 RX11 (TX11 13).2.1 (TX11 13).2.2.1 ∈ wsX11_mends := by decide +kernel
set_option maxRecDepth 20000 in
theorem qX11_mends_32 : Cond.fieldLink RX11 32 RX11 (TX11 14).2.1 (TX11 14).2.2.1 ∈ wsX11_mends := by decide +kernel
set_option maxRecDepth 20000 in
theorem qX11_mends_35 : Cond.fieldLink RX11 35 RX11 (TX11 15).2.1 (TX11 15).2.2.1 ∈ wsX11_mends := by decide +kernel
set_option maxRecDepth 20000 in
theorem qX11_mends_358 : Cond.fieldLink RX11 358 RX11 (TX11 56).2.1 (TX11 56).2.2.1 ∈ wsX11_mends := by decide +kernel
def b_X11_mends_334 (N : Nat) (k287 : nS → Int32 → Int32 → Int32 → Option (Int32 × nS)) (σ : nS) (x2 : Int32) (x3 : Int32) (x4 : Int32) : Option (Int32 × nS) := nLet (x4 + 1 : Int32) (fun v1 => k287 σ x2 x3 v1)
set_option maxHeartbeats 4000000 in
set_option maxRecDepth 100000 in
theorem kb_X11_mends_334 {p : Program} {l : Launch} {e : Env} {s : State} {m : MethodId} {args : Array Value} {below : List Frame} {meth : Method} {c : Code} {D : va_G} {A : Nat → Prop} {cy : Nat → ClassId} {a kt vt : Nat → Nat} {N : Nat}   (C0 : nCx p s m args meth c cX11_mends 5 (some .int) RX11 wsX11_mends) (hE : nEn D A cy (Mw cy a) kt vt s) {z : Int32 × nS} {k287 : nS → Int32 → Int32 → Int32 → Option (Int32 × nS)} (K287 : ∀ (σ : nS) (x2 : Int32) (x3 : Int32) (x4 : Int32) (H : Heap) (locs : List Loc) (ls : Array Slot), lv_has ls 5 [(0, .ref (a 0)), (2, .int x2), (3, .int x3), (4, .int x4)] → va_P D vwCl ((Mw cy a) σ) H → va_S A s.heap H locs → k287 σ x2 x3 x4 = some z → W p l e ({ frames := 6, cells := 0, slots := 0, locals := 137 } : Room) s m args below meth c H locs 0 0 (nQi below D A (Mw cy a) args s z) (F0 m 287 ls [])) : ∀ (σ : nS) (x2 : Int32) (x3 : Int32) (x4 : Int32) (H : Heap) (locs : List Loc) (ls : Array Slot), lv_has ls 5 [(0, .ref (a 0)), (2, .int x2), (3, .int x3), (4, .int x4)] → va_P D vwCl ((Mw cy a) σ) H → va_S A s.heap H locs → b_X11_mends_334 N k287 σ x2 x3 x4 = some z → W p l e ({ frames := 6, cells := 0, slots := 0, locals := 137 } : Room) s m args below meth c H locs 0 0 (nQi below D A (Mw cy a) args s z) (F0 m 334 ls []) := by
  obtain ⟨hx, hb, hr, hml, hown, hts, hlocks⟩ := C0
  intro σ x2 x3 x4 H locs ls hl hP hS hf
  unfold b_X11_mends_334 at hf
  obtain ⟨v1, ev1⟩ : ∃ y : Int32, y = x4 + 1 := ⟨_, rfl⟩
  replace hf := nLet_e hf ev1
  refine lv_iinc (v := v1) (lv' := [(4, .int v1), (0, .ref (a 0)), (2, .int x2), (3, .int x3)]) hx hb dX11_mends_334 hl (k := 3) rfl (by rw [ev1]; rfl) (by decide) rfl (fun ls hl => ?_)
  refine lv_goto (tgt := 287) hx hb dX11_mends_337 (by decide) ?_
  exact K287 σ x2 x3 v1 H locs ls (lv_sub hl [1, 2, 3, 0] rfl) hP hS hf
def b_X11_mends_287 (N : Nat) (k262 : nS → Int32 → Option (Int32 × nS)) (k334 : nS → Int32 → Int32 → Int32 → Option (Int32 × nS)) (σ : nS) (x2 : Int32) (x3 : Int32) (x4 : Int32) : Option (Int32 × nS) := (if (8 : Int32) ≤ x4 then nIx x2 4 (nLet (wr σ 2 (x2).toNatClampNeg x3) (fun σ1 => nLet (x2 + 1 : Int32) (fun v2 => k262 σ1 v2))) else nLet (x3 >>> (x4 &&& 31) : Int32) (fun v3 => nLet (v3 &&& (1 : Int32) : Int32) (fun v4 => (if v4 = 1 then k334 σ x2 x3 x4 else nLet ((1 : Int32) <<< (x4 &&& 31) : Int32) (fun v5 => nLet (x3 ||| v5 : Int32) (fun v6 => nIx x2 4 (nLet (wr σ 2 (x2).toNatClampNeg v6) (fun σ7 => nBd (f_X11_cures N σ7) (fun r8 σ9 => (if r8 = 0 then k334 σ9 x2 x3 x4 else nBd (f_X11_cured N 3 x2 x4 σ9) (fun r10 σ11 => k334 σ11 x2 x3 x4)))))))))))
set_option maxHeartbeats 4000000 in
set_option maxRecDepth 100000 in
theorem kb_X11_mends_287 {p : Program} {l : Launch} {e : Env} {s : State} {m : MethodId} {args : Array Value} {below : List Frame} {meth : Method} {c : Code} {D : va_G} {A : Nat → Prop} {cy : Nat → ClassId} {a kt vt : Nat → Nat} {N : Nat}   (C0 : nCx p s m args meth c cX11_mends 5 (some .int) RX11 wsX11_mends) (hE : nEn D A cy (Mw cy a) kt vt s) {z : Int32 × nS} {k262 : nS → Int32 → Option (Int32 × nS)} (K262 : ∀ (σ : nS) (x2 : Int32) (H : Heap) (locs : List Loc) (ls : Array Slot), lv_has ls 5 [(0, .ref (a 0)), (2, .int x2)] → va_P D vwCl ((Mw cy a) σ) H → va_S A s.heap H locs → k262 σ x2 = some z → W p l e ({ frames := 6, cells := 0, slots := 0, locals := 137 } : Room) s m args below meth c H locs 0 0 (nQi below D A (Mw cy a) args s z) (F0 m 262 ls [])) {k334 : nS → Int32 → Int32 → Int32 → Option (Int32 × nS)} (K334 : ∀ (σ : nS) (x2 : Int32) (x3 : Int32) (x4 : Int32) (H : Heap) (locs : List Loc) (ls : Array Slot), lv_has ls 5 [(0, .ref (a 0)), (2, .int x2), (3, .int x3), (4, .int x4)] → va_P D vwCl ((Mw cy a) σ) H → va_S A s.heap H locs → k334 σ x2 x3 x4 = some z → W p l e ({ frames := 6, cells := 0, slots := 0, locals := 137 } : Room) s m args below meth c H locs 0 0 (nQi below D A (Mw cy a) args s z) (F0 m 334 ls [])) : ∀ (σ : nS) (x2 : Int32) (x3 : Int32) (x4 : Int32) (H : Heap) (locs : List Loc) (ls : Array Slot), lv_has ls 5 [(0, .ref (a 0)), (2, .int x2), (3, .int x3), (4, .int x4)] → va_P D vwCl ((Mw cy a) σ) H → va_S A s.heap H locs → b_X11_mends_287 N k262 k334 σ x2 x3 x4 = some z → W p l e ({ frames := 6, cells := 0, slots := 0, locals := 137 } : Room) s m args below meth c H locs 0 0 (nQi below D A (Mw cy a) args s z) (F0 m 287 ls []) := by
  obtain ⟨hx, hb, hr, hml, hown, hts, hlocks⟩ := C0
  intro σ x2 x3 x4 H locs ls hl hP hS hf
  unfold b_X11_mends_287 at hf
  refine lv_iload hx hb dX11_mends_287 (lv_at hl 3 rfl) ?_
  refine lv_bipush (v := 8) hx hb dX11_mends_289 (by decide) ?_
  refine lv_icmp_ge (tgt := 340) hx hb dX11_mends_291 (by decide) (fun hc => ?_) (fun hc => ?_)
  · replace hf := nIf_t hc hf
    refine lv_aload_n hx hb dX11_mends_340 rfl (lv_at hl 0 rfl) ?_
    refine nb_get (ci := 11) hx hb hts iX11_mends_X11 hown hE hP 0 mbo_0 rfl 10 (by decide) qX11_mends_20 rfl rfl dX11_mends_341 ?_
    refine lv_iload_n hx hb dX11_mends_344 rfl (lv_at hl 1 rfl) ?_
    refine lv_iload_n hx hb dX11_mends_345 rfl (lv_at hl 2 rfl) ?_
    obtain ⟨hin, hf⟩ := nIx_e hf
    refine na_iast hx hb hE hP hS mbr_2 hin dX11_mends_346 (fun σ1 eσ1 H locs hP hS => ?_)
    replace hf := nLet_e hf eσ1
    obtain ⟨v2, ev2⟩ : ∃ y : Int32, y = x2 + 1 := ⟨_, rfl⟩
    replace hf := nLet_e hf ev2
    refine lv_iinc (v := v2) (lv' := [(2, .int v2), (0, .ref (a 0)), (3, .int x3), (4, .int x4)]) hx hb dX11_mends_347 hl (k := 1) rfl (by rw [ev2]; rfl) (by decide) rfl (fun ls hl => ?_)
    refine lv_goto (tgt := 262) hx hb dX11_mends_350 (by decide) ?_
    exact K262 σ1 v2 H locs ls (lv_sub hl [1, 0] rfl) hP hS hf
  · replace hf := nIf_f hc hf
    refine lv_iload_n hx hb dX11_mends_294 rfl (lv_at hl 2 rfl) ?_
    refine lv_iload hx hb dX11_mends_295 (lv_at hl 3 rfl) ?_
    refine lv_ishr hx hb dX11_mends_297 ?_
    refine lv_topi (fun v3 ev3 => ?_)
    replace hf := nLet_e hf ev3
    refine lv_iconst (v := 1) hx hb dX11_mends_298 (by decide) ?_
    refine lv_iand hx hb dX11_mends_299 ?_
    refine lv_topi (fun v4 ev4 => ?_)
    replace hf := nLet_e hf ev4
    refine lv_iconst (v := 1) hx hb dX11_mends_300 (by decide) ?_
    refine lv_icmp_ne (tgt := 307) hx hb dX11_mends_301 (by decide) (fun hc => ?_) (fun hc => ?_)
    · replace hf := nIf_f hc hf
      refine lv_aload_n hx hb dX11_mends_307 rfl (lv_at hl 0 rfl) ?_
      refine nb_get (ci := 11) hx hb hts iX11_mends_X11 hown hE hP 0 mbo_0 rfl 10 (by decide) qX11_mends_20 rfl rfl dX11_mends_308 ?_
      refine lv_iload_n hx hb dX11_mends_311 rfl (lv_at hl 1 rfl) ?_
      refine lv_iload_n hx hb dX11_mends_312 rfl (lv_at hl 2 rfl) ?_
      refine lv_iconst (v := 1) hx hb dX11_mends_313 (by decide) ?_
      refine lv_iload hx hb dX11_mends_314 (lv_at hl 3 rfl) ?_
      refine lv_ishl hx hb dX11_mends_316 ?_
      refine lv_topi (fun v5 ev5 => ?_)
      replace hf := nLet_e hf ev5
      refine lv_ior hx hb dX11_mends_317 ?_
      refine lv_topi (fun v6 ev6 => ?_)
      replace hf := nLet_e hf ev6
      obtain ⟨hin, hf⟩ := nIx_e hf
      refine na_iast hx hb hE hP hS mbr_2 hin dX11_mends_318 (fun σ7 eσ7 H locs hP hS => ?_)
      replace hf := nLet_e hf eσ7
      refine lv_aload_n hx hb dX11_mends_319 rfl (lv_at hl 0 rfl) ?_
      obtain ⟨r8, σ9, hc9, hf⟩ := nBd_e hf
      refine nb_callVi (As := []) (rest := []) ⟨hx, hb, hml, hown, hts⟩ (c_X11_cures (D := D) (A := A) (cy := cy) (a := a) (kt := kt) (vt := vt) (l := l)  hc9) (cwV 0 hts gX11_mends_X11_cures rfl rfl rfl (by decide +kernel) ⟨Nat.le_of_ble_eq_true rfl, Nat.le_of_ble_eq_true rfl⟩) hE hP hS mbo_0 rfl rfl hl.1 rfl (Nat.le_of_ble_eq_true rfl) dX11_mends_320 (fun H locs hP hS => ?_)
      refine lv_if_eq (tgt := 334) hx hb dX11_mends_323 (by decide) (fun hc => ?_) (fun hc => ?_)
      · replace hf := nIf_t hc hf
        exact K334 σ9 x2 x3 x4 H locs ls (lv_sub hl [0, 1, 2, 3] rfl) hP hS hf
      · replace hf := nIf_f hc hf
        refine lv_aload_n hx hb dX11_mends_326 rfl (lv_at hl 0 rfl) ?_
        refine lv_iconst (v := 3) hx hb dX11_mends_327 (by decide) ?_
        refine lv_iload_n hx hb dX11_mends_328 rfl (lv_at hl 1 rfl) ?_
        refine lv_iload hx hb dX11_mends_329 (lv_at hl 3 rfl) ?_
        obtain ⟨r10, σ11, hc11, hf⟩ := nBd_e hf
        refine nb_callVv (As := [.int 3, .int x2, .int x4]) (rest := []) ⟨hx, hb, hml, hown, hts⟩ (c_X11_cured (D := D) (A := A) (cy := cy) (a := a) (kt := kt) (vt := vt) (l := l)  hc11) (cwV 3 hts gX11_mends_X11_cured rfl rfl rfl (by decide +kernel) ⟨Nat.le_of_ble_eq_true rfl, Nat.le_of_ble_eq_true rfl⟩) hE hP hS mbo_0 rfl rfl hl.1 rfl (Nat.le_of_ble_eq_true rfl) dX11_mends_331 (fun H locs hP hS => ?_)
        exact K334 σ11 x2 x3 x4 H locs ls (lv_sub hl [0, 1, 2, 3] rfl) hP hS hf
    · replace hf := nIf_t hc hf
      refine lv_goto (tgt := 334) hx hb dX11_mends_304 (by decide) ?_
      exact K334 σ x2 x3 x4 H locs ls (lv_sub hl [0, 1, 2, 3] rfl) hP hS hf
def b_X11_mends_254 (N : Nat) (k168 : nS → Int32 → Option (Int32 × nS)) (σ : nS) (x2 : Int32) : Option (Int32 × nS) := nLet (x2 + 1 : Int32) (fun v1 => k168 σ v1)
set_option maxHeartbeats 4000000 in
set_option maxRecDepth 100000 in
theorem kb_X11_mends_254 {p : Program} {l : Launch} {e : Env} {s : State} {m : MethodId} {args : Array Value} {below : List Frame} {meth : Method} {c : Code} {D : va_G} {A : Nat → Prop} {cy : Nat → ClassId} {a kt vt : Nat → Nat} {N : Nat}   (C0 : nCx p s m args meth c cX11_mends 5 (some .int) RX11 wsX11_mends) (hE : nEn D A cy (Mw cy a) kt vt s) {z : Int32 × nS} {k168 : nS → Int32 → Option (Int32 × nS)} (K168 : ∀ (σ : nS) (x2 : Int32) (H : Heap) (locs : List Loc) (ls : Array Slot), lv_has ls 5 [(0, .ref (a 0)), (2, .int x2)] → va_P D vwCl ((Mw cy a) σ) H → va_S A s.heap H locs → k168 σ x2 = some z → W p l e ({ frames := 6, cells := 0, slots := 0, locals := 137 } : Room) s m args below meth c H locs 0 0 (nQi below D A (Mw cy a) args s z) (F0 m 168 ls [])) : ∀ (σ : nS) (x2 : Int32) (H : Heap) (locs : List Loc) (ls : Array Slot), lv_has ls 5 [(0, .ref (a 0)), (2, .int x2)] → va_P D vwCl ((Mw cy a) σ) H → va_S A s.heap H locs → b_X11_mends_254 N k168 σ x2 = some z → W p l e ({ frames := 6, cells := 0, slots := 0, locals := 137 } : Room) s m args below meth c H locs 0 0 (nQi below D A (Mw cy a) args s z) (F0 m 254 ls []) := by
  obtain ⟨hx, hb, hr, hml, hown, hts, hlocks⟩ := C0
  intro σ x2 H locs ls hl hP hS hf
  unfold b_X11_mends_254 at hf
  obtain ⟨v1, ev1⟩ : ∃ y : Int32, y = x2 + 1 := ⟨_, rfl⟩
  replace hf := nLet_e hf ev1
  refine lv_iinc (v := v1) (lv' := [(2, .int v1), (0, .ref (a 0))]) hx hb dX11_mends_254 hl (k := 1) rfl (by rw [ev1]; rfl) (by decide) rfl (fun ls hl => ?_)
  refine lv_goto (tgt := 168) hx hb dX11_mends_257 (by decide) ?_
  exact K168 σ v1 H locs ls (lv_sub hl [1, 0] rfl) hP hS hf
def b_X11_mends_353 (N : Nat) (σ : nS) : Option (Int32 × nS) := (if (σ.1 0 57) ≤ 0 then nLet (wr σ 0 56 0) (fun σ1 => nBd (f_X11_done N (σ1.1 0 57) σ1) (fun r2 σ3 => some (r2, σ3))) else nLet (wr σ 0 56 1) (fun σ4 => nBd (f_X11_done N (σ4.1 0 57) σ4) (fun r5 σ6 => some (r5, σ6))))
set_option maxHeartbeats 4000000 in
set_option maxRecDepth 100000 in
theorem kb_X11_mends_353 {p : Program} {l : Launch} {e : Env} {s : State} {m : MethodId} {args : Array Value} {below : List Frame} {meth : Method} {c : Code} {D : va_G} {A : Nat → Prop} {cy : Nat → ClassId} {a kt vt : Nat → Nat} {N : Nat}   (C0 : nCx p s m args meth c cX11_mends 5 (some .int) RX11 wsX11_mends) (hE : nEn D A cy (Mw cy a) kt vt s) {z : Int32 × nS} : ∀ (σ : nS) (H : Heap) (locs : List Loc) (ls : Array Slot), lv_has ls 5 [(0, .ref (a 0))] → va_P D vwCl ((Mw cy a) σ) H → va_S A s.heap H locs → b_X11_mends_353 N σ = some z → W p l e ({ frames := 6, cells := 0, slots := 0, locals := 137 } : Room) s m args below meth c H locs 0 0 (nQi below D A (Mw cy a) args s z) (F0 m 353 ls []) := by
  obtain ⟨hx, hb, hr, hml, hown, hts, hlocks⟩ := C0
  intro σ  H locs ls hl hP hS hf
  unfold b_X11_mends_353 at hf
  refine lv_aload_n hx hb dX11_mends_353 rfl (lv_at hl 0 rfl) ?_
  refine lv_aload_n hx hb dX11_mends_354 rfl (lv_at hl 0 rfl) ?_
  refine nb_get (ci := 11) hx hb hts iX11_mends_X11 hown hE hP 0 mbo_0 rfl 57 (by decide) qX11_mends_344 rfl rfl dX11_mends_355 ?_
  refine lv_if_le (tgt := 365) hx hb dX11_mends_358 (by decide) (fun hc => ?_) (fun hc => ?_)
  · replace hf := nIf_t hc hf
    refine lv_iconst (v := 0) hx hb dX11_mends_365 (by decide) ?_
    refine nb_put (ci := 11) hx hb hts iX11_mends_X11 tyX11 tyX11_ok nmX11 hown hE hP hS 0 mbo_0 rfl 56 (by decide) qX11_mends_358 rfl rfl rfl rfl (Nat.le_of_ble_eq_true rfl) dX11_mends_366 (mbp_0_56 _) (fun σ1 eσ1 H locs hP hS => ?_)
    replace hf := nLet_e hf eσ1
    refine lv_aload_n hx hb dX11_mends_369 rfl (lv_at hl 0 rfl) ?_
    refine lv_aload_n hx hb dX11_mends_370 rfl (lv_at hl 0 rfl) ?_
    refine nb_get (ci := 11) hx hb hts iX11_mends_X11 hown hE hP 0 mbo_0 rfl 57 (by decide) qX11_mends_344 rfl rfl dX11_mends_371 ?_
    obtain ⟨r2, σ3, hc3, hf⟩ := nBd_e hf
    refine nb_callVi (As := [.int (σ1.1 0 57)]) (rest := []) ⟨hx, hb, hml, hown, hts⟩ (c_X11_done (D := D) (A := A) (cy := cy) (a := a) (kt := kt) (vt := vt) (l := l)  hc3) (cwV 1 hts gX11_mends_X11_done rfl rfl rfl (by decide +kernel) ⟨Nat.le_of_ble_eq_true rfl, Nat.le_of_ble_eq_true rfl⟩) hE hP hS mbo_0 rfl rfl hl.1 rfl (Nat.le_of_ble_eq_true rfl) dX11_mends_374 (fun H locs hP hS => ?_)
    exact nb_iret hx hb hr hlocks hP hS (nSo hf) dX11_mends_377
  · replace hf := nIf_f hc hf
    refine lv_iconst (v := 1) hx hb dX11_mends_361 (by decide) ?_
    refine lv_goto (tgt := 366) hx hb dX11_mends_362 (by decide) ?_
    refine nb_put (ci := 11) hx hb hts iX11_mends_X11 tyX11 tyX11_ok nmX11 hown hE hP hS 0 mbo_0 rfl 56 (by decide) qX11_mends_358 rfl rfl rfl rfl (Nat.le_of_ble_eq_true rfl) dX11_mends_366 (mbp_0_56 _) (fun σ4 eσ4 H locs hP hS => ?_)
    replace hf := nLet_e hf eσ4
    refine lv_aload_n hx hb dX11_mends_369 rfl (lv_at hl 0 rfl) ?_
    refine lv_aload_n hx hb dX11_mends_370 rfl (lv_at hl 0 rfl) ?_
    refine nb_get (ci := 11) hx hb hts iX11_mends_X11 hown hE hP 0 mbo_0 rfl 57 (by decide) qX11_mends_344 rfl rfl dX11_mends_371 ?_
    obtain ⟨r5, σ6, hc6, hf⟩ := nBd_e hf
    refine nb_callVi (As := [.int (σ4.1 0 57)]) (rest := []) ⟨hx, hb, hml, hown, hts⟩ (c_X11_done (D := D) (A := A) (cy := cy) (a := a) (kt := kt) (vt := vt) (l := l)  hc6) (cwV 1 hts gX11_mends_X11_done rfl rfl rfl (by decide +kernel) ⟨Nat.le_of_ble_eq_true rfl, Nat.le_of_ble_eq_true rfl⟩) hE hP hS mbo_0 rfl rfl hl.1 rfl (Nat.le_of_ble_eq_true rfl) dX11_mends_374 (fun H locs hP hS => ?_)
    exact nb_iret hx hb hr hlocks hP hS (nSo hf) dX11_mends_377
def b_X11_mends_262 (N : Nat) (k287 : nS → Int32 → Int32 → Int32 → Option (Int32 × nS)) (k353 : nS → Option (Int32 × nS)) (σ : nS) (x2 : Int32) : Option (Int32 × nS) := (if (σ.1 0 6) ≤ x2 then k353 σ else (if (σ.1 0 50) ≤ 0 then k353 σ else nIx x2 4 (nLet (σ.1 2 (x2).toNatClampNeg) (fun v1 => k287 σ x2 v1 0))))
set_option maxHeartbeats 4000000 in
set_option maxRecDepth 100000 in
theorem kb_X11_mends_262 {p : Program} {l : Launch} {e : Env} {s : State} {m : MethodId} {args : Array Value} {below : List Frame} {meth : Method} {c : Code} {D : va_G} {A : Nat → Prop} {cy : Nat → ClassId} {a kt vt : Nat → Nat} {N : Nat}   (C0 : nCx p s m args meth c cX11_mends 5 (some .int) RX11 wsX11_mends) (hE : nEn D A cy (Mw cy a) kt vt s) {z : Int32 × nS} {k287 : nS → Int32 → Int32 → Int32 → Option (Int32 × nS)} (K287 : ∀ (σ : nS) (x2 : Int32) (x3 : Int32) (x4 : Int32) (H : Heap) (locs : List Loc) (ls : Array Slot), lv_has ls 5 [(0, .ref (a 0)), (2, .int x2), (3, .int x3), (4, .int x4)] → va_P D vwCl ((Mw cy a) σ) H → va_S A s.heap H locs → k287 σ x2 x3 x4 = some z → W p l e ({ frames := 6, cells := 0, slots := 0, locals := 137 } : Room) s m args below meth c H locs 0 0 (nQi below D A (Mw cy a) args s z) (F0 m 287 ls [])) {k353 : nS → Option (Int32 × nS)} (K353 : ∀ (σ : nS) (H : Heap) (locs : List Loc) (ls : Array Slot), lv_has ls 5 [(0, .ref (a 0))] → va_P D vwCl ((Mw cy a) σ) H → va_S A s.heap H locs → k353 σ = some z → W p l e ({ frames := 6, cells := 0, slots := 0, locals := 137 } : Room) s m args below meth c H locs 0 0 (nQi below D A (Mw cy a) args s z) (F0 m 353 ls [])) : ∀ (σ : nS) (x2 : Int32) (H : Heap) (locs : List Loc) (ls : Array Slot), lv_has ls 5 [(0, .ref (a 0)), (2, .int x2)] → va_P D vwCl ((Mw cy a) σ) H → va_S A s.heap H locs → b_X11_mends_262 N k287 k353 σ x2 = some z → W p l e ({ frames := 6, cells := 0, slots := 0, locals := 137 } : Room) s m args below meth c H locs 0 0 (nQi below D A (Mw cy a) args s z) (F0 m 262 ls []) := by
  obtain ⟨hx, hb, hr, hml, hown, hts, hlocks⟩ := C0
  intro σ x2 H locs ls hl hP hS hf
  unfold b_X11_mends_262 at hf
  refine lv_iload_n hx hb dX11_mends_262 rfl (lv_at hl 1 rfl) ?_
  refine lv_aload_n hx hb dX11_mends_263 rfl (lv_at hl 0 rfl) ?_
  refine nb_get (ci := 11) hx hb hts iX11_mends_X11 hown hE hP 0 mbo_0 rfl 6 (by decide) qX11_mends_140 rfl rfl dX11_mends_264 ?_
  refine lv_icmp_ge (tgt := 353) hx hb dX11_mends_267 (by decide) (fun hc => ?_) (fun hc => ?_)
  · replace hf := nIf_t hc hf
    exact K353 σ H locs ls (lv_sub hl [0] rfl) hP hS hf
  · replace hf := nIf_f hc hf
    refine lv_aload_n hx hb dX11_mends_270 rfl (lv_at hl 0 rfl) ?_
    refine nb_get (ci := 11) hx hb hts iX11_mends_X11 hown hE hP 0 mbo_0 rfl 50 (by decide) qX11_mends_334 rfl rfl dX11_mends_271 ?_
    refine lv_if_le (tgt := 353) hx hb dX11_mends_274 (by decide) (fun hc => ?_) (fun hc => ?_)
    · replace hf := nIf_t hc hf
      exact K353 σ H locs ls (lv_sub hl [0] rfl) hP hS hf
    · replace hf := nIf_f hc hf
      refine lv_aload_n hx hb dX11_mends_277 rfl (lv_at hl 0 rfl) ?_
      refine nb_get (ci := 11) hx hb hts iX11_mends_X11 hown hE hP 0 mbo_0 rfl 10 (by decide) qX11_mends_20 rfl rfl dX11_mends_278 ?_
      refine lv_iload_n hx hb dX11_mends_281 rfl (lv_at hl 1 rfl) ?_
      obtain ⟨hin, hf⟩ := nIx_e hf
      refine na_iald hx hb hE hP mbr_2 hin dX11_mends_282 ?_
      refine lv_topi (fun v1 ev1 => ?_)
      replace hf := nLet_e hf ev1
      refine lv_istore_n (lv' := [(3, .int v1), (0, .ref (a 0)), (2, .int x2)]) hx hb dX11_mends_283 rfl hl (by decide) rfl (fun ls hl => ?_)
      refine lv_iconst (v := 0) hx hb dX11_mends_284 (by decide) ?_
      refine lv_istore (lv' := [(4, .int 0), (3, .int v1), (0, .ref (a 0)), (2, .int x2)]) hx hb dX11_mends_285 hl (by decide) rfl (fun ls hl => ?_)
      exact K287 σ x2 v1 0 H locs ls (lv_sub hl [2, 3, 1, 0] rfl) hP hS hf
def b_X11_mends_260 (N : Nat) (k262 : nS → Int32 → Option (Int32 × nS)) (σ : nS) : Option (Int32 × nS) := k262 σ 0
set_option maxHeartbeats 4000000 in
set_option maxRecDepth 100000 in
theorem kb_X11_mends_260 {p : Program} {l : Launch} {e : Env} {s : State} {m : MethodId} {args : Array Value} {below : List Frame} {meth : Method} {c : Code} {D : va_G} {A : Nat → Prop} {cy : Nat → ClassId} {a kt vt : Nat → Nat} {N : Nat}   (C0 : nCx p s m args meth c cX11_mends 5 (some .int) RX11 wsX11_mends) (hE : nEn D A cy (Mw cy a) kt vt s) {z : Int32 × nS} {k262 : nS → Int32 → Option (Int32 × nS)} (K262 : ∀ (σ : nS) (x2 : Int32) (H : Heap) (locs : List Loc) (ls : Array Slot), lv_has ls 5 [(0, .ref (a 0)), (2, .int x2)] → va_P D vwCl ((Mw cy a) σ) H → va_S A s.heap H locs → k262 σ x2 = some z → W p l e ({ frames := 6, cells := 0, slots := 0, locals := 137 } : Room) s m args below meth c H locs 0 0 (nQi below D A (Mw cy a) args s z) (F0 m 262 ls [])) : ∀ (σ : nS) (H : Heap) (locs : List Loc) (ls : Array Slot), lv_has ls 5 [(0, .ref (a 0))] → va_P D vwCl ((Mw cy a) σ) H → va_S A s.heap H locs → b_X11_mends_260 N k262 σ = some z → W p l e ({ frames := 6, cells := 0, slots := 0, locals := 137 } : Room) s m args below meth c H locs 0 0 (nQi below D A (Mw cy a) args s z) (F0 m 260 ls []) := by
  obtain ⟨hx, hb, hr, hml, hown, hts, hlocks⟩ := C0
  intro σ  H locs ls hl hP hS hf
  unfold b_X11_mends_260 at hf
  refine lv_iconst (v := 0) hx hb dX11_mends_260 (by decide) ?_
  refine lv_istore_n (lv' := [(2, .int 0), (0, .ref (a 0))]) hx hb dX11_mends_261 rfl hl (by decide) rfl (fun ls hl => ?_)
  exact K262 σ 0 H locs ls (lv_sub hl [1, 0] rfl) hP hS hf
def b_X11_mends_168 (N : Nat) (k254 : nS → Int32 → Option (Int32 × nS)) (k260 : nS → Option (Int32 × nS)) (σ : nS) (x2 : Int32) : Option (Int32 × nS) := nIx (σ.1 0 48) 5 (nLet (σ.1 3 ((σ.1 0 48)).toNatClampNeg) (fun v1 => (if v1 ≤ x2 then k260 σ else (if (σ.1 0 50) ≤ 0 then k260 σ else nLet ((24 : Int32) * (σ.1 0 48) : Int32) (fun v2 => nLet (v2 + x2 : Int32) (fun v3 => nIx v3 120 (nLet (σ.1 4 (v3).toNatClampNeg) (fun v4 => (if v4 = 2 then nBd (f_X11_targets N 6 0 x2 v3 σ) (fun r8 σ9 => nBd (f_X11_targets N 7 1 x2 v3 σ9) (fun r10 σ11 => k254 σ11 x2)) else nIx v3 120 (nLet (σ.1 4 (v3).toNatClampNeg) (fun v5 => (if v5 = 4 then nBd (f_X11_targets N 5 2 x2 v3 σ) (fun r6 σ7 => k254 σ7 x2) else k254 σ x2))))))))))))
set_option maxHeartbeats 4000000 in
set_option maxRecDepth 100000 in
theorem kb_X11_mends_168 {p : Program} {l : Launch} {e : Env} {s : State} {m : MethodId} {args : Array Value} {below : List Frame} {meth : Method} {c : Code} {D : va_G} {A : Nat → Prop} {cy : Nat → ClassId} {a kt vt : Nat → Nat} {N : Nat}   (C0 : nCx p s m args meth c cX11_mends 5 (some .int) RX11 wsX11_mends) (hE : nEn D A cy (Mw cy a) kt vt s) {z : Int32 × nS} {k254 : nS → Int32 → Option (Int32 × nS)} (K254 : ∀ (σ : nS) (x2 : Int32) (H : Heap) (locs : List Loc) (ls : Array Slot), lv_has ls 5 [(0, .ref (a 0)), (2, .int x2)] → va_P D vwCl ((Mw cy a) σ) H → va_S A s.heap H locs → k254 σ x2 = some z → W p l e ({ frames := 6, cells := 0, slots := 0, locals := 137 } : Room) s m args below meth c H locs 0 0 (nQi below D A (Mw cy a) args s z) (F0 m 254 ls [])) {k260 : nS → Option (Int32 × nS)} (K260 : ∀ (σ : nS) (H : Heap) (locs : List Loc) (ls : Array Slot), lv_has ls 5 [(0, .ref (a 0))] → va_P D vwCl ((Mw cy a) σ) H → va_S A s.heap H locs → k260 σ = some z → W p l e ({ frames := 6, cells := 0, slots := 0, locals := 137 } : Room) s m args below meth c H locs 0 0 (nQi below D A (Mw cy a) args s z) (F0 m 260 ls [])) : ∀ (σ : nS) (x2 : Int32) (H : Heap) (locs : List Loc) (ls : Array Slot), lv_has ls 5 [(0, .ref (a 0)), (2, .int x2)] → va_P D vwCl ((Mw cy a) σ) H → va_S A s.heap H locs → b_X11_mends_168 N k254 k260 σ x2 = some z → W p l e ({ frames := 6, cells := 0, slots := 0, locals := 137 } : Room) s m args below meth c H locs 0 0 (nQi below D A (Mw cy a) args s z) (F0 m 168 ls []) := by
  obtain ⟨hx, hb, hr, hml, hown, hts, hlocks⟩ := C0
  intro σ x2 H locs ls hl hP hS hf
  unfold b_X11_mends_168 at hf
  refine lv_iload_n hx hb dX11_mends_168 rfl (lv_at hl 1 rfl) ?_
  refine lv_aload_n hx hb dX11_mends_169 rfl (lv_at hl 0 rfl) ?_
  refine nb_get (ci := 11) hx hb hts iX11_mends_X11 hown hE hP 0 mbo_0 rfl 11 (by decide) qX11_mends_23 rfl rfl dX11_mends_170 ?_
  refine lv_aload_n hx hb dX11_mends_173 rfl (lv_at hl 0 rfl) ?_
  refine nb_get (ci := 11) hx hb hts iX11_mends_X11 hown hE hP 0 mbo_0 rfl 48 (by decide) qX11_mends_328 rfl rfl dX11_mends_174 ?_
  obtain ⟨hin, hf⟩ := nIx_e hf
  refine na_iald hx hb hE hP mbr_3 hin dX11_mends_177 ?_
  refine lv_topi (fun v1 ev1 => ?_)
  replace hf := nLet_e hf ev1
  refine lv_icmp_ge (tgt := 260) hx hb dX11_mends_178 (by decide) (fun hc => ?_) (fun hc => ?_)
  · replace hf := nIf_t hc hf
    exact K260 σ H locs ls (lv_sub hl [0] rfl) hP hS hf
  · replace hf := nIf_f hc hf
    refine lv_aload_n hx hb dX11_mends_181 rfl (lv_at hl 0 rfl) ?_
    refine nb_get (ci := 11) hx hb hts iX11_mends_X11 hown hE hP 0 mbo_0 rfl 50 (by decide) qX11_mends_334 rfl rfl dX11_mends_182 ?_
    refine lv_if_le (tgt := 260) hx hb dX11_mends_185 (by decide) (fun hc => ?_) (fun hc => ?_)
    · replace hf := nIf_t hc hf
      exact K260 σ H locs ls (lv_sub hl [0] rfl) hP hS hf
    · replace hf := nIf_f hc hf
      refine lv_bipush (v := 24) hx hb dX11_mends_188 (by decide) ?_
      refine lv_aload_n hx hb dX11_mends_190 rfl (lv_at hl 0 rfl) ?_
      refine nb_get (ci := 11) hx hb hts iX11_mends_X11 hown hE hP 0 mbo_0 rfl 48 (by decide) qX11_mends_328 rfl rfl dX11_mends_191 ?_
      refine lv_imul hx hb dX11_mends_194 ?_
      refine lv_topi (fun v2 ev2 => ?_)
      replace hf := nLet_e hf ev2
      refine lv_iload_n hx hb dX11_mends_195 rfl (lv_at hl 1 rfl) ?_
      refine lv_iadd hx hb dX11_mends_196 ?_
      refine lv_topi (fun v3 ev3 => ?_)
      replace hf := nLet_e hf ev3
      refine lv_istore_n (lv' := [(3, .int v3), (0, .ref (a 0)), (2, .int x2)]) hx hb dX11_mends_197 rfl hl (by decide) rfl (fun ls hl => ?_)
      refine lv_aload_n hx hb dX11_mends_198 rfl (lv_at hl 1 rfl) ?_
      refine nb_get (ci := 11) hx hb hts iX11_mends_X11 hown hE hP 0 mbo_0 rfl 12 (by decide) qX11_mends_26 rfl rfl dX11_mends_199 ?_
      refine lv_iload_n hx hb dX11_mends_202 rfl (lv_at hl 0 rfl) ?_
      obtain ⟨hin, hf⟩ := nIx_e hf
      refine na_iald hx hb hE hP mbr_4 hin dX11_mends_203 ?_
      refine lv_topi (fun v4 ev4 => ?_)
      replace hf := nLet_e hf ev4
      refine lv_iconst (v := 2) hx hb dX11_mends_204 (by decide) ?_
      refine lv_icmp_ne (tgt := 233) hx hb dX11_mends_205 (by decide) (fun hc => ?_) (fun hc => ?_)
      · replace hf := nIf_f hc hf
        refine lv_aload_n hx hb dX11_mends_233 rfl (lv_at hl 1 rfl) ?_
        refine nb_get (ci := 11) hx hb hts iX11_mends_X11 hown hE hP 0 mbo_0 rfl 12 (by decide) qX11_mends_26 rfl rfl dX11_mends_234 ?_
        refine lv_iload_n hx hb dX11_mends_237 rfl (lv_at hl 0 rfl) ?_
        obtain ⟨hin, hf⟩ := nIx_e hf
        refine na_iald hx hb hE hP mbr_4 hin dX11_mends_238 ?_
        refine lv_topi (fun v5 ev5 => ?_)
        replace hf := nLet_e hf ev5
        refine lv_iconst (v := 4) hx hb dX11_mends_239 (by decide) ?_
        refine lv_icmp_ne (tgt := 254) hx hb dX11_mends_240 (by decide) (fun hc => ?_) (fun hc => ?_)
        · replace hf := nIf_f hc hf
          exact K254 σ x2 H locs ls (lv_sub hl [1, 2] rfl) hP hS hf
        · replace hf := nIf_t hc hf
          refine lv_aload_n hx hb dX11_mends_243 rfl (lv_at hl 1 rfl) ?_
          refine lv_iconst (v := 2) hx hb dX11_mends_244 (by decide) ?_
          refine lv_iload_n hx hb dX11_mends_245 rfl (lv_at hl 2 rfl) ?_
          refine lv_aload_n hx hb dX11_mends_246 rfl (lv_at hl 1 rfl) ?_
          refine nb_get (ci := 11) hx hb hts iX11_mends_X11 hown hE hP 0 mbo_0 rfl 13 (by decide) qX11_mends_29 rfl rfl dX11_mends_247 ?_
          refine lv_iload_n hx hb dX11_mends_250 rfl (lv_at hl 0 rfl) ?_
          obtain ⟨r6, σ7, hc7, hf⟩ := nBd_e hf
          refine nb_callVv (As := [.int 2, .int x2, .ref (a 5), .int v3]) (rest := []) ⟨hx, hb, hml, hown, hts⟩ (c_X11_targets (D := D) (A := A) (cy := cy) (a := a) (kt := kt) (vt := vt) (l := l) mbr_5 hc7) (cwV 4 hts gX11_mends_X11_targets rfl rfl rfl (by decide +kernel) ⟨Nat.le_of_ble_eq_true rfl, Nat.le_of_ble_eq_true rfl⟩) hE hP hS mbo_0 rfl rfl hl.1 rfl (Nat.le_of_ble_eq_true rfl) dX11_mends_251 (fun H locs hP hS => ?_)
          exact K254 σ7 x2 H locs ls (lv_sub hl [1, 2] rfl) hP hS hf
      · replace hf := nIf_t hc hf
        refine lv_aload_n hx hb dX11_mends_208 rfl (lv_at hl 1 rfl) ?_
        refine lv_iconst (v := 0) hx hb dX11_mends_209 (by decide) ?_
        refine lv_iload_n hx hb dX11_mends_210 rfl (lv_at hl 2 rfl) ?_
        refine lv_aload_n hx hb dX11_mends_211 rfl (lv_at hl 1 rfl) ?_
        refine nb_get (ci := 11) hx hb hts iX11_mends_X11 hown hE hP 0 mbo_0 rfl 14 (by decide) qX11_mends_32 rfl rfl dX11_mends_212 ?_
        refine lv_iload_n hx hb dX11_mends_215 rfl (lv_at hl 0 rfl) ?_
        obtain ⟨r8, σ9, hc9, hf⟩ := nBd_e hf
        refine nb_callVv (As := [.int 0, .int x2, .ref (a 6), .int v3]) (rest := []) ⟨hx, hb, hml, hown, hts⟩ (c_X11_targets (D := D) (A := A) (cy := cy) (a := a) (kt := kt) (vt := vt) (l := l) mbr_6 hc9) (cwV 4 hts gX11_mends_X11_targets rfl rfl rfl (by decide +kernel) ⟨Nat.le_of_ble_eq_true rfl, Nat.le_of_ble_eq_true rfl⟩) hE hP hS mbo_0 rfl rfl hl.1 rfl (Nat.le_of_ble_eq_true rfl) dX11_mends_216 (fun H locs hP hS => ?_)
        refine lv_aload_n hx hb dX11_mends_219 rfl (lv_at hl 1 rfl) ?_
        refine lv_iconst (v := 1) hx hb dX11_mends_220 (by decide) ?_
        refine lv_iload_n hx hb dX11_mends_221 rfl (lv_at hl 2 rfl) ?_
        refine lv_aload_n hx hb dX11_mends_222 rfl (lv_at hl 1 rfl) ?_
        refine nb_get (ci := 11) hx hb hts iX11_mends_X11 hown hE hP 0 mbo_0 rfl 15 (by decide) qX11_mends_35 rfl rfl dX11_mends_223 ?_
        refine lv_iload_n hx hb dX11_mends_226 rfl (lv_at hl 0 rfl) ?_
        obtain ⟨r10, σ11, hc11, hf⟩ := nBd_e hf
        refine nb_callVv (As := [.int 1, .int x2, .ref (a 7), .int v3]) (rest := []) ⟨hx, hb, hml, hown, hts⟩ (c_X11_targets (D := D) (A := A) (cy := cy) (a := a) (kt := kt) (vt := vt) (l := l) mbr_7 hc11) (cwV 4 hts gX11_mends_X11_targets rfl rfl rfl (by decide +kernel) ⟨Nat.le_of_ble_eq_true rfl, Nat.le_of_ble_eq_true rfl⟩) hE hP hS mbo_0 rfl rfl hl.1 rfl (Nat.le_of_ble_eq_true rfl) dX11_mends_227 (fun H locs hP hS => ?_)
        refine lv_goto (tgt := 254) hx hb dX11_mends_230 (by decide) ?_
        exact K254 σ11 x2 H locs ls (lv_sub hl [1, 2] rfl) hP hS hf
def b_X11_mends_97 (N : Nat) (k22 : nS → Int32 → Int32 → Option (Int32 × nS)) (σ : nS) (x2 : Int32) (y0 : Int32) (y1 : Int32) : Option (Int32 × nS) := nLet (y0 + y1 : Int32) (fun v1 => nLet (x2 + 1 : Int32) (fun v2 => k22 σ v1 v2))
set_option maxHeartbeats 4000000 in
set_option maxRecDepth 100000 in
theorem kb_X11_mends_97 {p : Program} {l : Launch} {e : Env} {s : State} {m : MethodId} {args : Array Value} {below : List Frame} {meth : Method} {c : Code} {D : va_G} {A : Nat → Prop} {cy : Nat → ClassId} {a kt vt : Nat → Nat} {N : Nat}   (C0 : nCx p s m args meth c cX11_mends 5 (some .int) RX11 wsX11_mends) (hE : nEn D A cy (Mw cy a) kt vt s) {z : Int32 × nS} {k22 : nS → Int32 → Int32 → Option (Int32 × nS)} (K22 : ∀ (σ : nS) (x1 : Int32) (x2 : Int32) (H : Heap) (locs : List Loc) (ls : Array Slot), lv_has ls 5 [(0, .ref (a 0)), (1, .int x1), (2, .int x2)] → va_P D vwCl ((Mw cy a) σ) H → va_S A s.heap H locs → k22 σ x1 x2 = some z → W p l e ({ frames := 6, cells := 0, slots := 0, locals := 137 } : Room) s m args below meth c H locs 0 0 (nQi below D A (Mw cy a) args s z) (F0 m 22 ls [])) : ∀ (σ : nS) (x2 : Int32) (y0 : Int32) (y1 : Int32) (H : Heap) (locs : List Loc) (ls : Array Slot), lv_has ls 5 [(0, .ref (a 0)), (2, .int x2)] → va_P D vwCl ((Mw cy a) σ) H → va_S A s.heap H locs → b_X11_mends_97 N k22 σ x2 y0 y1 = some z → W p l e ({ frames := 6, cells := 0, slots := 0, locals := 137 } : Room) s m args below meth c H locs 0 0 (nQi below D A (Mw cy a) args s z) (F0 m 97 ls [.int y1, .int y0]) := by
  obtain ⟨hx, hb, hr, hml, hown, hts, hlocks⟩ := C0
  intro σ x2 y0 y1 H locs ls hl hP hS hf
  unfold b_X11_mends_97 at hf
  refine lv_iadd hx hb dX11_mends_97 ?_
  refine lv_topi (fun v1 ev1 => ?_)
  replace hf := nLet_e hf ev1
  refine lv_istore_n (lv' := [(1, .int v1), (0, .ref (a 0)), (2, .int x2)]) hx hb dX11_mends_98 rfl hl (by decide) rfl (fun ls hl => ?_)
  obtain ⟨v2, ev2⟩ : ∃ y : Int32, y = x2 + 1 := ⟨_, rfl⟩
  replace hf := nLet_e hf ev2
  refine lv_iinc (v := v2) (lv' := [(2, .int v2), (1, .int v1), (0, .ref (a 0))]) hx hb dX11_mends_99 hl (k := 2) rfl (by rw [ev2]; rfl) (by decide) rfl (fun ls hl => ?_)
  refine lv_goto (tgt := 22) hx hb dX11_mends_102 (by decide) ?_
  exact K22 σ v1 v2 H locs ls (lv_sub hl [2, 1, 0] rfl) hP hS hf
def b_X11_mends_161 (N : Nat) (k168 : nS → Int32 → Option (Int32 × nS)) (σ : nS) : Option (Int32 × nS) := nLet (wr σ 0 57 0) (fun σ1 => k168 σ1 0)
set_option maxHeartbeats 4000000 in
set_option maxRecDepth 100000 in
theorem kb_X11_mends_161 {p : Program} {l : Launch} {e : Env} {s : State} {m : MethodId} {args : Array Value} {below : List Frame} {meth : Method} {c : Code} {D : va_G} {A : Nat → Prop} {cy : Nat → ClassId} {a kt vt : Nat → Nat} {N : Nat}   (C0 : nCx p s m args meth c cX11_mends 5 (some .int) RX11 wsX11_mends) (hE : nEn D A cy (Mw cy a) kt vt s) {z : Int32 × nS} {k168 : nS → Int32 → Option (Int32 × nS)} (K168 : ∀ (σ : nS) (x2 : Int32) (H : Heap) (locs : List Loc) (ls : Array Slot), lv_has ls 5 [(0, .ref (a 0)), (2, .int x2)] → va_P D vwCl ((Mw cy a) σ) H → va_S A s.heap H locs → k168 σ x2 = some z → W p l e ({ frames := 6, cells := 0, slots := 0, locals := 137 } : Room) s m args below meth c H locs 0 0 (nQi below D A (Mw cy a) args s z) (F0 m 168 ls [])) : ∀ (σ : nS) (H : Heap) (locs : List Loc) (ls : Array Slot), lv_has ls 5 [(0, .ref (a 0))] → va_P D vwCl ((Mw cy a) σ) H → va_S A s.heap H locs → b_X11_mends_161 N k168 σ = some z → W p l e ({ frames := 6, cells := 0, slots := 0, locals := 137 } : Room) s m args below meth c H locs 0 0 (nQi below D A (Mw cy a) args s z) (F0 m 161 ls []) := by
  obtain ⟨hx, hb, hr, hml, hown, hts, hlocks⟩ := C0
  intro σ  H locs ls hl hP hS hf
  unfold b_X11_mends_161 at hf
  refine lv_aload_n hx hb dX11_mends_161 rfl (lv_at hl 0 rfl) ?_
  refine lv_iconst (v := 0) hx hb dX11_mends_162 (by decide) ?_
  refine nb_put (ci := 11) hx hb hts iX11_mends_X11 tyX11 tyX11_ok nmX11 hown hE hP hS 0 mbo_0 rfl 57 (by decide) qX11_mends_344 rfl rfl rfl rfl (Nat.le_of_ble_eq_true rfl) dX11_mends_163 (mbp_0_57 _) (fun σ1 eσ1 H locs hP hS => ?_)
  replace hf := nLet_e hf eσ1
  refine lv_iconst (v := 0) hx hb dX11_mends_166 (by decide) ?_
  refine lv_istore_n (lv' := [(2, .int 0), (0, .ref (a 0))]) hx hb dX11_mends_167 rfl hl (by decide) rfl (fun ls hl => ?_)
  exact K168 σ1 0 H locs ls (lv_sub hl [1, 0] rfl) hP hS hf
def b_X11_mends_107 (N : Nat) (k107 : nS → Int32 → Int32 → Option (Int32 × nS)) (k161 : nS → Option (Int32 × nS)) (σ : nS) (x1 : Int32) (x2 : Int32) : Option (Int32 × nS) := (if (σ.1 0 6) ≤ x2 then (if (σ.1 0 50) ≤ 0 then k161 σ else nLet (x1 * (σ.1 0 49) : Int32) (fun v1 => (if v1 ≤ 20000 then k161 σ else nBd (f_X11_refused N 3 σ) (fun r2 σ3 => some (r2, σ3))))) else nIx x2 4 (nLet (σ.1 2 (x2).toNatClampNeg) (fun v4 => nBd (f_X11_bits N v4 σ) (fun r5 σ6 => nLet ((8 : Int32) - r5 : Int32) (fun v7 => nLet (x1 + v7 : Int32) (fun v8 => nLet (x2 + 1 : Int32) (fun v9 => k107 σ6 v8 v9)))))))
set_option maxHeartbeats 4000000 in
set_option maxRecDepth 100000 in
theorem kb_X11_mends_107 {p : Program} {l : Launch} {e : Env} {s : State} {m : MethodId} {args : Array Value} {below : List Frame} {meth : Method} {c : Code} {D : va_G} {A : Nat → Prop} {cy : Nat → ClassId} {a kt vt : Nat → Nat} {N : Nat}   (C0 : nCx p s m args meth c cX11_mends 5 (some .int) RX11 wsX11_mends) (hE : nEn D A cy (Mw cy a) kt vt s) {z : Int32 × nS} {k107 : nS → Int32 → Int32 → Option (Int32 × nS)} (K107 : ∀ (σ : nS) (x1 : Int32) (x2 : Int32) (H : Heap) (locs : List Loc) (ls : Array Slot), lv_has ls 5 [(0, .ref (a 0)), (1, .int x1), (2, .int x2)] → va_P D vwCl ((Mw cy a) σ) H → va_S A s.heap H locs → k107 σ x1 x2 = some z → W p l e ({ frames := 6, cells := 0, slots := 0, locals := 137 } : Room) s m args below meth c H locs 0 0 (nQi below D A (Mw cy a) args s z) (F0 m 107 ls [])) {k161 : nS → Option (Int32 × nS)} (K161 : ∀ (σ : nS) (H : Heap) (locs : List Loc) (ls : Array Slot), lv_has ls 5 [(0, .ref (a 0))] → va_P D vwCl ((Mw cy a) σ) H → va_S A s.heap H locs → k161 σ = some z → W p l e ({ frames := 6, cells := 0, slots := 0, locals := 137 } : Room) s m args below meth c H locs 0 0 (nQi below D A (Mw cy a) args s z) (F0 m 161 ls [])) : ∀ (σ : nS) (x1 : Int32) (x2 : Int32) (H : Heap) (locs : List Loc) (ls : Array Slot), lv_has ls 5 [(0, .ref (a 0)), (1, .int x1), (2, .int x2)] → va_P D vwCl ((Mw cy a) σ) H → va_S A s.heap H locs → b_X11_mends_107 N k107 k161 σ x1 x2 = some z → W p l e ({ frames := 6, cells := 0, slots := 0, locals := 137 } : Room) s m args below meth c H locs 0 0 (nQi below D A (Mw cy a) args s z) (F0 m 107 ls []) := by
  obtain ⟨hx, hb, hr, hml, hown, hts, hlocks⟩ := C0
  intro σ x1 x2 H locs ls hl hP hS hf
  unfold b_X11_mends_107 at hf
  refine lv_iload_n hx hb dX11_mends_107 rfl (lv_at hl 2 rfl) ?_
  refine lv_aload_n hx hb dX11_mends_108 rfl (lv_at hl 0 rfl) ?_
  refine nb_get (ci := 11) hx hb hts iX11_mends_X11 hown hE hP 0 mbo_0 rfl 6 (by decide) qX11_mends_140 rfl rfl dX11_mends_109 ?_
  refine lv_icmp_ge (tgt := 136) hx hb dX11_mends_112 (by decide) (fun hc => ?_) (fun hc => ?_)
  · replace hf := nIf_t hc hf
    refine lv_aload_n hx hb dX11_mends_136 rfl (lv_at hl 0 rfl) ?_
    refine nb_get (ci := 11) hx hb hts iX11_mends_X11 hown hE hP 0 mbo_0 rfl 50 (by decide) qX11_mends_334 rfl rfl dX11_mends_137 ?_
    refine lv_if_le (tgt := 161) hx hb dX11_mends_140 (by decide) (fun hc => ?_) (fun hc => ?_)
    · replace hf := nIf_t hc hf
      exact K161 σ H locs ls (lv_sub hl [0] rfl) hP hS hf
    · replace hf := nIf_f hc hf
      refine lv_iload_n hx hb dX11_mends_143 rfl (lv_at hl 1 rfl) ?_
      refine lv_aload_n hx hb dX11_mends_144 rfl (lv_at hl 0 rfl) ?_
      refine nb_get (ci := 11) hx hb hts iX11_mends_X11 hown hE hP 0 mbo_0 rfl 49 (by decide) qX11_mends_331 rfl rfl dX11_mends_145 ?_
      refine lv_imul hx hb dX11_mends_148 ?_
      refine lv_topi (fun v1 ev1 => ?_)
      replace hf := nLet_e hf ev1
      refine lv_sipush (v := 20000) hx hb dX11_mends_149 (by decide) ?_
      refine lv_icmp_le (tgt := 161) hx hb dX11_mends_152 (by decide) (fun hc => ?_) (fun hc => ?_)
      · replace hf := nIf_t hc hf
        exact K161 σ H locs ls (lv_sub hl [0] rfl) hP hS hf
      · replace hf := nIf_f hc hf
        refine lv_aload_n hx hb dX11_mends_155 rfl (lv_at hl 0 rfl) ?_
        refine lv_iconst (v := 3) hx hb dX11_mends_156 (by decide) ?_
        obtain ⟨r2, σ3, hc3, hf⟩ := nBd_e hf
        refine nb_callVi (As := [.int 3]) (rest := []) ⟨hx, hb, hml, hown, hts⟩ (c_X11_refused (D := D) (A := A) (cy := cy) (a := a) (kt := kt) (vt := vt) (l := l)  hc3) (cwV 1 hts gX11_mends_X11_refused rfl rfl rfl (by decide +kernel) ⟨Nat.le_of_ble_eq_true rfl, Nat.le_of_ble_eq_true rfl⟩) hE hP hS mbo_0 rfl rfl hl.1 rfl (Nat.le_of_ble_eq_true rfl) dX11_mends_157 (fun H locs hP hS => ?_)
        exact nb_iret hx hb hr hlocks hP hS (nSo hf) dX11_mends_160
  · replace hf := nIf_f hc hf
    refine lv_iload_n hx hb dX11_mends_115 rfl (lv_at hl 1 rfl) ?_
    refine lv_bipush (v := 8) hx hb dX11_mends_116 (by decide) ?_
    refine lv_aload_n hx hb dX11_mends_118 rfl (lv_at hl 0 rfl) ?_
    refine nb_get (ci := 11) hx hb hts iX11_mends_X11 hown hE hP 0 mbo_0 rfl 10 (by decide) qX11_mends_20 rfl rfl dX11_mends_119 ?_
    refine lv_iload_n hx hb dX11_mends_122 rfl (lv_at hl 2 rfl) ?_
    obtain ⟨hin, hf⟩ := nIx_e hf
    refine na_iald hx hb hE hP mbr_2 hin dX11_mends_123 ?_
    refine lv_topi (fun v4 ev4 => ?_)
    replace hf := nLet_e hf ev4
    obtain ⟨r5, σ6, hc6, hf⟩ := nBd_e hf
    refine nb_callSi (As := [.int v4]) (rest := [.int 8, .int x1]) ⟨hx, hb, hml, hown, hts⟩ (c_X11_bits (D := D) (A := A) (cy := cy) (a := a) (kt := kt) (vt := vt) (l := l)  hc6) (va_cwS 1 hts gX11_mends_X11_bits rfl rfl rfl (by decide +kernel) ⟨Nat.le_of_ble_eq_true rfl, Nat.le_of_ble_eq_true rfl⟩) hE hP hS rfl hl.1 rfl (Nat.le_of_ble_eq_true rfl) dX11_mends_124 (fun H locs hP hS => ?_)
    refine lv_isub hx hb dX11_mends_127 ?_
    refine lv_topi (fun v7 ev7 => ?_)
    replace hf := nLet_e hf ev7
    refine lv_iadd hx hb dX11_mends_128 ?_
    refine lv_topi (fun v8 ev8 => ?_)
    replace hf := nLet_e hf ev8
    refine lv_istore_n (lv' := [(1, .int v8), (0, .ref (a 0)), (2, .int x2)]) hx hb dX11_mends_129 rfl hl (by decide) rfl (fun ls hl => ?_)
    obtain ⟨v9, ev9⟩ : ∃ y : Int32, y = x2 + 1 := ⟨_, rfl⟩
    replace hf := nLet_e hf ev9
    refine lv_iinc (v := v9) (lv' := [(2, .int v9), (1, .int v8), (0, .ref (a 0))]) hx hb dX11_mends_130 hl (k := 2) rfl (by rw [ev9]; rfl) (by decide) rfl (fun ls hl => ?_)
    refine lv_goto (tgt := 107) hx hb dX11_mends_133 (by decide) ?_
    exact K107 σ6 v8 v9 H locs ls (lv_sub hl [2, 1, 0] rfl) hP hS hf
def b_X11_mends_22 (N : Nat) (k97 : nS → Int32 → Int32 → Int32 → Option (Int32 × nS)) (k107 : nS → Int32 → Int32 → Option (Int32 × nS)) (σ : nS) (x1 : Int32) (x2 : Int32) : Option (Int32 × nS) := nIx (σ.1 0 48) 5 (nLet (σ.1 3 ((σ.1 0 48)).toNatClampNeg) (fun v1 => (if v1 ≤ x2 then k107 σ x1 0 else nLet ((24 : Int32) * (σ.1 0 48) : Int32) (fun v2 => nLet (v2 + x2 : Int32) (fun v3 => nIx v3 120 (nLet (σ.1 4 (v3).toNatClampNeg) (fun v4 => (if v4 = 2 then nIx (σ.1 0 48) 5 (nLet (σ.1 3 ((σ.1 0 48)).toNatClampNeg) (fun v8 => nLet (v8 - (1 : Int32) : Int32) (fun v9 => nLet ((2 : Int32) * v9 : Int32) (fun v10 => k97 σ x2 x1 v10)))) else nIx v3 120 (nLet (σ.1 4 (v3).toNatClampNeg) (fun v5 => (if v5 = 4 then nIx (σ.1 0 48) 5 (nLet (σ.1 3 ((σ.1 0 48)).toNatClampNeg) (fun v6 => nLet (v6 - (1 : Int32) : Int32) (fun v7 => k97 σ x2 x1 v7))) else k97 σ x2 x1 0)))))))))))
set_option maxHeartbeats 4000000 in
set_option maxRecDepth 100000 in
theorem kb_X11_mends_22 {p : Program} {l : Launch} {e : Env} {s : State} {m : MethodId} {args : Array Value} {below : List Frame} {meth : Method} {c : Code} {D : va_G} {A : Nat → Prop} {cy : Nat → ClassId} {a kt vt : Nat → Nat} {N : Nat}   (C0 : nCx p s m args meth c cX11_mends 5 (some .int) RX11 wsX11_mends) (hE : nEn D A cy (Mw cy a) kt vt s) {z : Int32 × nS} {k97 : nS → Int32 → Int32 → Int32 → Option (Int32 × nS)} (K97 : ∀ (σ : nS) (x2 : Int32) (y0 : Int32) (y1 : Int32) (H : Heap) (locs : List Loc) (ls : Array Slot), lv_has ls 5 [(0, .ref (a 0)), (2, .int x2)] → va_P D vwCl ((Mw cy a) σ) H → va_S A s.heap H locs → k97 σ x2 y0 y1 = some z → W p l e ({ frames := 6, cells := 0, slots := 0, locals := 137 } : Room) s m args below meth c H locs 0 0 (nQi below D A (Mw cy a) args s z) (F0 m 97 ls [.int y1, .int y0])) {k107 : nS → Int32 → Int32 → Option (Int32 × nS)} (K107 : ∀ (σ : nS) (x1 : Int32) (x2 : Int32) (H : Heap) (locs : List Loc) (ls : Array Slot), lv_has ls 5 [(0, .ref (a 0)), (1, .int x1), (2, .int x2)] → va_P D vwCl ((Mw cy a) σ) H → va_S A s.heap H locs → k107 σ x1 x2 = some z → W p l e ({ frames := 6, cells := 0, slots := 0, locals := 137 } : Room) s m args below meth c H locs 0 0 (nQi below D A (Mw cy a) args s z) (F0 m 107 ls [])) : ∀ (σ : nS) (x1 : Int32) (x2 : Int32) (H : Heap) (locs : List Loc) (ls : Array Slot), lv_has ls 5 [(0, .ref (a 0)), (1, .int x1), (2, .int x2)] → va_P D vwCl ((Mw cy a) σ) H → va_S A s.heap H locs → b_X11_mends_22 N k97 k107 σ x1 x2 = some z → W p l e ({ frames := 6, cells := 0, slots := 0, locals := 137 } : Room) s m args below meth c H locs 0 0 (nQi below D A (Mw cy a) args s z) (F0 m 22 ls []) := by
  obtain ⟨hx, hb, hr, hml, hown, hts, hlocks⟩ := C0
  intro σ x1 x2 H locs ls hl hP hS hf
  unfold b_X11_mends_22 at hf
  refine lv_iload_n hx hb dX11_mends_22 rfl (lv_at hl 2 rfl) ?_
  refine lv_aload_n hx hb dX11_mends_23 rfl (lv_at hl 0 rfl) ?_
  refine nb_get (ci := 11) hx hb hts iX11_mends_X11 hown hE hP 0 mbo_0 rfl 11 (by decide) qX11_mends_23 rfl rfl dX11_mends_24 ?_
  refine lv_aload_n hx hb dX11_mends_27 rfl (lv_at hl 0 rfl) ?_
  refine nb_get (ci := 11) hx hb hts iX11_mends_X11 hown hE hP 0 mbo_0 rfl 48 (by decide) qX11_mends_328 rfl rfl dX11_mends_28 ?_
  obtain ⟨hin, hf⟩ := nIx_e hf
  refine na_iald hx hb hE hP mbr_3 hin dX11_mends_31 ?_
  refine lv_topi (fun v1 ev1 => ?_)
  replace hf := nLet_e hf ev1
  refine lv_icmp_ge (tgt := 105) hx hb dX11_mends_32 (by decide) (fun hc => ?_) (fun hc => ?_)
  · replace hf := nIf_t hc hf
    refine lv_iconst (v := 0) hx hb dX11_mends_105 (by decide) ?_
    refine lv_istore_n (lv' := [(2, .int 0), (0, .ref (a 0)), (1, .int x1)]) hx hb dX11_mends_106 rfl hl (by decide) rfl (fun ls hl => ?_)
    exact K107 σ x1 0 H locs ls (lv_sub hl [1, 2, 0] rfl) hP hS hf
  · replace hf := nIf_f hc hf
    refine lv_bipush (v := 24) hx hb dX11_mends_35 (by decide) ?_
    refine lv_aload_n hx hb dX11_mends_37 rfl (lv_at hl 0 rfl) ?_
    refine nb_get (ci := 11) hx hb hts iX11_mends_X11 hown hE hP 0 mbo_0 rfl 48 (by decide) qX11_mends_328 rfl rfl dX11_mends_38 ?_
    refine lv_imul hx hb dX11_mends_41 ?_
    refine lv_topi (fun v2 ev2 => ?_)
    replace hf := nLet_e hf ev2
    refine lv_iload_n hx hb dX11_mends_42 rfl (lv_at hl 2 rfl) ?_
    refine lv_iadd hx hb dX11_mends_43 ?_
    refine lv_topi (fun v3 ev3 => ?_)
    replace hf := nLet_e hf ev3
    refine lv_istore_n (lv' := [(3, .int v3), (0, .ref (a 0)), (1, .int x1), (2, .int x2)]) hx hb dX11_mends_44 rfl hl (by decide) rfl (fun ls hl => ?_)
    refine lv_iload_n hx hb dX11_mends_45 rfl (lv_at hl 2 rfl) ?_
    refine lv_aload_n hx hb dX11_mends_46 rfl (lv_at hl 1 rfl) ?_
    refine nb_get (ci := 11) hx hb hts iX11_mends_X11 hown hE hP 0 mbo_0 rfl 12 (by decide) qX11_mends_26 rfl rfl dX11_mends_47 ?_
    refine lv_iload_n hx hb dX11_mends_50 rfl (lv_at hl 0 rfl) ?_
    obtain ⟨hin, hf⟩ := nIx_e hf
    refine na_iald hx hb hE hP mbr_4 hin dX11_mends_51 ?_
    refine lv_topi (fun v4 ev4 => ?_)
    replace hf := nLet_e hf ev4
    refine lv_iconst (v := 2) hx hb dX11_mends_52 (by decide) ?_
    refine lv_icmp_ne (tgt := 72) hx hb dX11_mends_53 (by decide) (fun hc => ?_) (fun hc => ?_)
    · replace hf := nIf_f hc hf
      refine lv_aload_n hx hb dX11_mends_72 rfl (lv_at hl 1 rfl) ?_
      refine nb_get (ci := 11) hx hb hts iX11_mends_X11 hown hE hP 0 mbo_0 rfl 12 (by decide) qX11_mends_26 rfl rfl dX11_mends_73 ?_
      refine lv_iload_n hx hb dX11_mends_76 rfl (lv_at hl 0 rfl) ?_
      obtain ⟨hin, hf⟩ := nIx_e hf
      refine na_iald hx hb hE hP mbr_4 hin dX11_mends_77 ?_
      refine lv_topi (fun v5 ev5 => ?_)
      replace hf := nLet_e hf ev5
      refine lv_iconst (v := 4) hx hb dX11_mends_78 (by decide) ?_
      refine lv_icmp_ne (tgt := 96) hx hb dX11_mends_79 (by decide) (fun hc => ?_) (fun hc => ?_)
      · replace hf := nIf_f hc hf
        refine lv_iconst (v := 0) hx hb dX11_mends_96 (by decide) ?_
        exact K97 σ x2 x1 0 H locs ls (lv_sub hl [1, 3] rfl) hP hS hf
      · replace hf := nIf_t hc hf
        refine lv_aload_n hx hb dX11_mends_82 rfl (lv_at hl 1 rfl) ?_
        refine nb_get (ci := 11) hx hb hts iX11_mends_X11 hown hE hP 0 mbo_0 rfl 11 (by decide) qX11_mends_23 rfl rfl dX11_mends_83 ?_
        refine lv_aload_n hx hb dX11_mends_86 rfl (lv_at hl 1 rfl) ?_
        refine nb_get (ci := 11) hx hb hts iX11_mends_X11 hown hE hP 0 mbo_0 rfl 48 (by decide) qX11_mends_328 rfl rfl dX11_mends_87 ?_
        obtain ⟨hin, hf⟩ := nIx_e hf
        refine na_iald hx hb hE hP mbr_3 hin dX11_mends_90 ?_
        refine lv_topi (fun v6 ev6 => ?_)
        replace hf := nLet_e hf ev6
        refine lv_iconst (v := 1) hx hb dX11_mends_91 (by decide) ?_
        refine lv_isub hx hb dX11_mends_92 ?_
        refine lv_topi (fun v7 ev7 => ?_)
        replace hf := nLet_e hf ev7
        refine lv_goto (tgt := 97) hx hb dX11_mends_93 (by decide) ?_
        exact K97 σ x2 x1 v7 H locs ls (lv_sub hl [1, 3] rfl) hP hS hf
    · replace hf := nIf_t hc hf
      refine lv_iconst (v := 2) hx hb dX11_mends_56 (by decide) ?_
      refine lv_aload_n hx hb dX11_mends_57 rfl (lv_at hl 1 rfl) ?_
      refine nb_get (ci := 11) hx hb hts iX11_mends_X11 hown hE hP 0 mbo_0 rfl 11 (by decide) qX11_mends_23 rfl rfl dX11_mends_58 ?_
      refine lv_aload_n hx hb dX11_mends_61 rfl (lv_at hl 1 rfl) ?_
      refine nb_get (ci := 11) hx hb hts iX11_mends_X11 hown hE hP 0 mbo_0 rfl 48 (by decide) qX11_mends_328 rfl rfl dX11_mends_62 ?_
      obtain ⟨hin, hf⟩ := nIx_e hf
      refine na_iald hx hb hE hP mbr_3 hin dX11_mends_65 ?_
      refine lv_topi (fun v8 ev8 => ?_)
      replace hf := nLet_e hf ev8
      refine lv_iconst (v := 1) hx hb dX11_mends_66 (by decide) ?_
      refine lv_isub hx hb dX11_mends_67 ?_
      refine lv_topi (fun v9 ev9 => ?_)
      replace hf := nLet_e hf ev9
      refine lv_imul hx hb dX11_mends_68 ?_
      refine lv_topi (fun v10 ev10 => ?_)
      replace hf := nLet_e hf ev10
      refine lv_goto (tgt := 97) hx hb dX11_mends_69 (by decide) ?_
      exact K97 σ x2 x1 v10 H locs ls (lv_sub hl [1, 3] rfl) hP hS hf
def b_X11_mends_0 (N : Nat) (k22 : nS → Int32 → Int32 → Option (Int32 × nS)) (σ : nS) : Option (Int32 × nS) := nLet (wr σ 0 0 0) (fun σ1 => (if (σ1.1 0 47) = 0 then nBd (f_X11_refused N 5 σ1) (fun r2 σ3 => some (r2, σ3)) else k22 σ1 0 0))
set_option maxHeartbeats 4000000 in
set_option maxRecDepth 100000 in
theorem kb_X11_mends_0 {p : Program} {l : Launch} {e : Env} {s : State} {m : MethodId} {args : Array Value} {below : List Frame} {meth : Method} {c : Code} {D : va_G} {A : Nat → Prop} {cy : Nat → ClassId} {a kt vt : Nat → Nat} {N : Nat}   (C0 : nCx p s m args meth c cX11_mends 5 (some .int) RX11 wsX11_mends) (hE : nEn D A cy (Mw cy a) kt vt s) {z : Int32 × nS} {k22 : nS → Int32 → Int32 → Option (Int32 × nS)} (K22 : ∀ (σ : nS) (x1 : Int32) (x2 : Int32) (H : Heap) (locs : List Loc) (ls : Array Slot), lv_has ls 5 [(0, .ref (a 0)), (1, .int x1), (2, .int x2)] → va_P D vwCl ((Mw cy a) σ) H → va_S A s.heap H locs → k22 σ x1 x2 = some z → W p l e ({ frames := 6, cells := 0, slots := 0, locals := 137 } : Room) s m args below meth c H locs 0 0 (nQi below D A (Mw cy a) args s z) (F0 m 22 ls [])) : ∀ (σ : nS) (H : Heap) (locs : List Loc) (ls : Array Slot), lv_has ls 5 [(0, .ref (a 0))] → va_P D vwCl ((Mw cy a) σ) H → va_S A s.heap H locs → b_X11_mends_0 N k22 σ = some z → W p l e ({ frames := 6, cells := 0, slots := 0, locals := 137 } : Room) s m args below meth c H locs 0 0 (nQi below D A (Mw cy a) args s z) (F0 m 0 ls []) := by
  obtain ⟨hx, hb, hr, hml, hown, hts, hlocks⟩ := C0
  intro σ  H locs ls hl hP hS hf
  unfold b_X11_mends_0 at hf
  refine lv_aload_n hx hb dX11_mends_0 rfl (lv_at hl 0 rfl) ?_
  refine lv_iconst (v := 0) hx hb dX11_mends_1 (by decide) ?_
  refine nb_put (ci := 11) hx hb hts iX11_mends_X11 tyX11 tyX11_ok nmX11 hown hE hP hS 0 mbo_0 rfl 0 (by decide) qX11_mends_117 rfl rfl rfl rfl (Nat.le_of_ble_eq_true rfl) dX11_mends_2 (mbp_0_0 _) (fun σ1 eσ1 H locs hP hS => ?_)
  replace hf := nLet_e hf eσ1
  refine lv_aload_n hx hb dX11_mends_5 rfl (lv_at hl 0 rfl) ?_
  refine nb_get (ci := 11) hx hb hts iX11_mends_X11 hown hE hP 0 mbo_0 rfl 47 (by decide) qX11_mends_325 rfl rfl dX11_mends_6 ?_
  refine lv_if_ne (tgt := 18) hx hb dX11_mends_9 (by decide) (fun hc => ?_) (fun hc => ?_)
  · replace hf := nIf_f hc hf
    refine lv_iconst (v := 0) hx hb dX11_mends_18 (by decide) ?_
    refine lv_istore_n (lv' := [(1, .int 0), (0, .ref (a 0))]) hx hb dX11_mends_19 rfl hl (by decide) rfl (fun ls hl => ?_)
    refine lv_iconst (v := 0) hx hb dX11_mends_20 (by decide) ?_
    refine lv_istore_n (lv' := [(2, .int 0), (1, .int 0), (0, .ref (a 0))]) hx hb dX11_mends_21 rfl hl (by decide) rfl (fun ls hl => ?_)
    exact K22 σ1 0 0 H locs ls (lv_sub hl [2, 1, 0] rfl) hP hS hf
  · replace hf := nIf_t hc hf
    refine lv_aload_n hx hb dX11_mends_12 rfl (lv_at hl 0 rfl) ?_
    refine lv_iconst (v := 5) hx hb dX11_mends_13 (by decide) ?_
    obtain ⟨r2, σ3, hc3, hf⟩ := nBd_e hf
    refine nb_callVi (As := [.int 5]) (rest := []) ⟨hx, hb, hml, hown, hts⟩ (c_X11_refused (D := D) (A := A) (cy := cy) (a := a) (kt := kt) (vt := vt) (l := l)  hc3) (cwV 1 hts gX11_mends_X11_refused rfl rfl rfl (by decide +kernel) ⟨Nat.le_of_ble_eq_true rfl, Nat.le_of_ble_eq_true rfl⟩) hE hP hS mbo_0 rfl rfl hl.1 rfl (Nat.le_of_ble_eq_true rfl) dX11_mends_14 (fun H locs hP hS => ?_)
    exact nb_iret hx hb hr hlocks hP hS (nSo hf) dX11_mends_17
def l_X11_mends_334 (N : Nat) (k287 : nS → Int32 → Int32 → Int32 → Option (Int32 × nS)) : nS → Int32 → Int32 → Int32 → Option (Int32 × nS) := b_X11_mends_334 N k287
theorem kl_X11_mends_334 {p : Program} {l : Launch} {e : Env} {s : State} {m : MethodId} {args : Array Value} {below : List Frame} {meth : Method} {c : Code} {D : va_G} {A : Nat → Prop} {cy : Nat → ClassId} {a kt vt : Nat → Nat} {N : Nat}   (C0 : nCx p s m args meth c cX11_mends 5 (some .int) RX11 wsX11_mends) (hE : nEn D A cy (Mw cy a) kt vt s) {z : Int32 × nS} {k287 : nS → Int32 → Int32 → Int32 → Option (Int32 × nS)} (K287 : ∀ (σ : nS) (x2 : Int32) (x3 : Int32) (x4 : Int32) (H : Heap) (locs : List Loc) (ls : Array Slot), lv_has ls 5 [(0, .ref (a 0)), (2, .int x2), (3, .int x3), (4, .int x4)] → va_P D vwCl ((Mw cy a) σ) H → va_S A s.heap H locs → k287 σ x2 x3 x4 = some z → W p l e ({ frames := 6, cells := 0, slots := 0, locals := 137 } : Room) s m args below meth c H locs 0 0 (nQi below D A (Mw cy a) args s z) (F0 m 287 ls [])) : ∀ (σ : nS) (x2 : Int32) (x3 : Int32) (x4 : Int32) (H : Heap) (locs : List Loc) (ls : Array Slot), lv_has ls 5 [(0, .ref (a 0)), (2, .int x2), (3, .int x3), (4, .int x4)] → va_P D vwCl ((Mw cy a) σ) H → va_S A s.heap H locs → l_X11_mends_334 N k287 σ x2 x3 x4 = some z → W p l e ({ frames := 6, cells := 0, slots := 0, locals := 137 } : Room) s m args below meth c H locs 0 0 (nQi below D A (Mw cy a) args s z) (F0 m 334 ls []) := by
  exact kb_X11_mends_334 (N := N)  C0 hE K287
def l_X11_mends_287 (N : Nat) (k262 : nS → Int32 → Option (Int32 × nS)) : nS → Int32 → Int32 → Int32 → Option (Int32 × nS) := nLp (fun _ _ _ _ => none) (fun again => b_X11_mends_287 N k262 (l_X11_mends_334 N again)) N
theorem kl_X11_mends_287 {p : Program} {l : Launch} {e : Env} {s : State} {m : MethodId} {args : Array Value} {below : List Frame} {meth : Method} {c : Code} {D : va_G} {A : Nat → Prop} {cy : Nat → ClassId} {a kt vt : Nat → Nat} {N : Nat}   (C0 : nCx p s m args meth c cX11_mends 5 (some .int) RX11 wsX11_mends) (hE : nEn D A cy (Mw cy a) kt vt s) {z : Int32 × nS} {k262 : nS → Int32 → Option (Int32 × nS)} (K262 : ∀ (σ : nS) (x2 : Int32) (H : Heap) (locs : List Loc) (ls : Array Slot), lv_has ls 5 [(0, .ref (a 0)), (2, .int x2)] → va_P D vwCl ((Mw cy a) σ) H → va_S A s.heap H locs → k262 σ x2 = some z → W p l e ({ frames := 6, cells := 0, slots := 0, locals := 137 } : Room) s m args below meth c H locs 0 0 (nQi below D A (Mw cy a) args s z) (F0 m 262 ls [])) : ∀ (σ : nS) (x2 : Int32) (x3 : Int32) (x4 : Int32) (H : Heap) (locs : List Loc) (ls : Array Slot), lv_has ls 5 [(0, .ref (a 0)), (2, .int x2), (3, .int x3), (4, .int x4)] → va_P D vwCl ((Mw cy a) σ) H → va_S A s.heap H locs → l_X11_mends_287 N k262 σ x2 x3 x4 = some z → W p l e ({ frames := 6, cells := 0, slots := 0, locals := 137 } : Room) s m args below meth c H locs 0 0 (nQi below D A (Mw cy a) args s z) (F0 m 287 ls []) := by
  have main : ∀ (fu : Nat), ∀ (σ : nS) (x2 : Int32) (x3 : Int32) (x4 : Int32) (H : Heap) (locs : List Loc) (ls : Array Slot), lv_has ls 5 [(0, .ref (a 0)), (2, .int x2), (3, .int x3), (4, .int x4)] → va_P D vwCl ((Mw cy a) σ) H → va_S A s.heap H locs → nLp (fun _ _ _ _ => none) (fun again => b_X11_mends_287 N k262 (l_X11_mends_334 N again)) fu σ x2 x3 x4 = some z → W p l e ({ frames := 6, cells := 0, slots := 0, locals := 137 } : Room) s m args below meth c H locs 0 0 (nQi below D A (Mw cy a) args s z) (F0 m 287 ls []) := by
    intro fu
    induction fu with
    | zero => intro σ x2 x3 x4 H locs ls hl hP hS hf; cases hf
    | succ fu ih => exact kb_X11_mends_287 (N := N)  C0 hE K262 (kl_X11_mends_334 (N := N)  C0 hE ih)
  exact main N
def l_X11_mends_254 (N : Nat) (k168 : nS → Int32 → Option (Int32 × nS)) : nS → Int32 → Option (Int32 × nS) := b_X11_mends_254 N k168
theorem kl_X11_mends_254 {p : Program} {l : Launch} {e : Env} {s : State} {m : MethodId} {args : Array Value} {below : List Frame} {meth : Method} {c : Code} {D : va_G} {A : Nat → Prop} {cy : Nat → ClassId} {a kt vt : Nat → Nat} {N : Nat}   (C0 : nCx p s m args meth c cX11_mends 5 (some .int) RX11 wsX11_mends) (hE : nEn D A cy (Mw cy a) kt vt s) {z : Int32 × nS} {k168 : nS → Int32 → Option (Int32 × nS)} (K168 : ∀ (σ : nS) (x2 : Int32) (H : Heap) (locs : List Loc) (ls : Array Slot), lv_has ls 5 [(0, .ref (a 0)), (2, .int x2)] → va_P D vwCl ((Mw cy a) σ) H → va_S A s.heap H locs → k168 σ x2 = some z → W p l e ({ frames := 6, cells := 0, slots := 0, locals := 137 } : Room) s m args below meth c H locs 0 0 (nQi below D A (Mw cy a) args s z) (F0 m 168 ls [])) : ∀ (σ : nS) (x2 : Int32) (H : Heap) (locs : List Loc) (ls : Array Slot), lv_has ls 5 [(0, .ref (a 0)), (2, .int x2)] → va_P D vwCl ((Mw cy a) σ) H → va_S A s.heap H locs → l_X11_mends_254 N k168 σ x2 = some z → W p l e ({ frames := 6, cells := 0, slots := 0, locals := 137 } : Room) s m args below meth c H locs 0 0 (nQi below D A (Mw cy a) args s z) (F0 m 254 ls []) := by
  exact kb_X11_mends_254 (N := N)  C0 hE K168
def l_X11_mends_353 (N : Nat) : nS → Option (Int32 × nS) := b_X11_mends_353 N
theorem kl_X11_mends_353 {p : Program} {l : Launch} {e : Env} {s : State} {m : MethodId} {args : Array Value} {below : List Frame} {meth : Method} {c : Code} {D : va_G} {A : Nat → Prop} {cy : Nat → ClassId} {a kt vt : Nat → Nat} {N : Nat}   (C0 : nCx p s m args meth c cX11_mends 5 (some .int) RX11 wsX11_mends) (hE : nEn D A cy (Mw cy a) kt vt s) {z : Int32 × nS} : ∀ (σ : nS) (H : Heap) (locs : List Loc) (ls : Array Slot), lv_has ls 5 [(0, .ref (a 0))] → va_P D vwCl ((Mw cy a) σ) H → va_S A s.heap H locs → l_X11_mends_353 N σ = some z → W p l e ({ frames := 6, cells := 0, slots := 0, locals := 137 } : Room) s m args below meth c H locs 0 0 (nQi below D A (Mw cy a) args s z) (F0 m 353 ls []) := by
  exact kb_X11_mends_353 (N := N)  C0 hE
def l_X11_mends_262 (N : Nat) : nS → Int32 → Option (Int32 × nS) := nLp (fun _ _ => none) (fun again => b_X11_mends_262 N (l_X11_mends_287 N again) (l_X11_mends_353 N)) N
theorem kl_X11_mends_262 {p : Program} {l : Launch} {e : Env} {s : State} {m : MethodId} {args : Array Value} {below : List Frame} {meth : Method} {c : Code} {D : va_G} {A : Nat → Prop} {cy : Nat → ClassId} {a kt vt : Nat → Nat} {N : Nat}   (C0 : nCx p s m args meth c cX11_mends 5 (some .int) RX11 wsX11_mends) (hE : nEn D A cy (Mw cy a) kt vt s) {z : Int32 × nS} : ∀ (σ : nS) (x2 : Int32) (H : Heap) (locs : List Loc) (ls : Array Slot), lv_has ls 5 [(0, .ref (a 0)), (2, .int x2)] → va_P D vwCl ((Mw cy a) σ) H → va_S A s.heap H locs → l_X11_mends_262 N σ x2 = some z → W p l e ({ frames := 6, cells := 0, slots := 0, locals := 137 } : Room) s m args below meth c H locs 0 0 (nQi below D A (Mw cy a) args s z) (F0 m 262 ls []) := by
  have main : ∀ (fu : Nat), ∀ (σ : nS) (x2 : Int32) (H : Heap) (locs : List Loc) (ls : Array Slot), lv_has ls 5 [(0, .ref (a 0)), (2, .int x2)] → va_P D vwCl ((Mw cy a) σ) H → va_S A s.heap H locs → nLp (fun _ _ => none) (fun again => b_X11_mends_262 N (l_X11_mends_287 N again) (l_X11_mends_353 N)) fu σ x2 = some z → W p l e ({ frames := 6, cells := 0, slots := 0, locals := 137 } : Room) s m args below meth c H locs 0 0 (nQi below D A (Mw cy a) args s z) (F0 m 262 ls []) := by
    intro fu
    induction fu with
    | zero => intro σ x2 H locs ls hl hP hS hf; cases hf
    | succ fu ih => exact kb_X11_mends_262 (N := N)  C0 hE (kl_X11_mends_287 (N := N)  C0 hE ih) (kl_X11_mends_353 (N := N)  C0 hE)
  exact main N
def l_X11_mends_260 (N : Nat) : nS → Option (Int32 × nS) := b_X11_mends_260 N (l_X11_mends_262 N)
theorem kl_X11_mends_260 {p : Program} {l : Launch} {e : Env} {s : State} {m : MethodId} {args : Array Value} {below : List Frame} {meth : Method} {c : Code} {D : va_G} {A : Nat → Prop} {cy : Nat → ClassId} {a kt vt : Nat → Nat} {N : Nat}   (C0 : nCx p s m args meth c cX11_mends 5 (some .int) RX11 wsX11_mends) (hE : nEn D A cy (Mw cy a) kt vt s) {z : Int32 × nS} : ∀ (σ : nS) (H : Heap) (locs : List Loc) (ls : Array Slot), lv_has ls 5 [(0, .ref (a 0))] → va_P D vwCl ((Mw cy a) σ) H → va_S A s.heap H locs → l_X11_mends_260 N σ = some z → W p l e ({ frames := 6, cells := 0, slots := 0, locals := 137 } : Room) s m args below meth c H locs 0 0 (nQi below D A (Mw cy a) args s z) (F0 m 260 ls []) := by
  exact kb_X11_mends_260 (N := N)  C0 hE (kl_X11_mends_262 (N := N)  C0 hE)
def l_X11_mends_168 (N : Nat) : nS → Int32 → Option (Int32 × nS) := nLp (fun _ _ => none) (fun again => b_X11_mends_168 N (l_X11_mends_254 N again) (l_X11_mends_260 N)) N
theorem kl_X11_mends_168 {p : Program} {l : Launch} {e : Env} {s : State} {m : MethodId} {args : Array Value} {below : List Frame} {meth : Method} {c : Code} {D : va_G} {A : Nat → Prop} {cy : Nat → ClassId} {a kt vt : Nat → Nat} {N : Nat}   (C0 : nCx p s m args meth c cX11_mends 5 (some .int) RX11 wsX11_mends) (hE : nEn D A cy (Mw cy a) kt vt s) {z : Int32 × nS} : ∀ (σ : nS) (x2 : Int32) (H : Heap) (locs : List Loc) (ls : Array Slot), lv_has ls 5 [(0, .ref (a 0)), (2, .int x2)] → va_P D vwCl ((Mw cy a) σ) H → va_S A s.heap H locs → l_X11_mends_168 N σ x2 = some z → W p l e ({ frames := 6, cells := 0, slots := 0, locals := 137 } : Room) s m args below meth c H locs 0 0 (nQi below D A (Mw cy a) args s z) (F0 m 168 ls []) := by
  have main : ∀ (fu : Nat), ∀ (σ : nS) (x2 : Int32) (H : Heap) (locs : List Loc) (ls : Array Slot), lv_has ls 5 [(0, .ref (a 0)), (2, .int x2)] → va_P D vwCl ((Mw cy a) σ) H → va_S A s.heap H locs → nLp (fun _ _ => none) (fun again => b_X11_mends_168 N (l_X11_mends_254 N again) (l_X11_mends_260 N)) fu σ x2 = some z → W p l e ({ frames := 6, cells := 0, slots := 0, locals := 137 } : Room) s m args below meth c H locs 0 0 (nQi below D A (Mw cy a) args s z) (F0 m 168 ls []) := by
    intro fu
    induction fu with
    | zero => intro σ x2 H locs ls hl hP hS hf; cases hf
    | succ fu ih => exact kb_X11_mends_168 (N := N)  C0 hE (kl_X11_mends_254 (N := N)  C0 hE ih) (kl_X11_mends_260 (N := N)  C0 hE)
  exact main N
def l_X11_mends_97 (N : Nat) (k22 : nS → Int32 → Int32 → Option (Int32 × nS)) : nS → Int32 → Int32 → Int32 → Option (Int32 × nS) := b_X11_mends_97 N k22
theorem kl_X11_mends_97 {p : Program} {l : Launch} {e : Env} {s : State} {m : MethodId} {args : Array Value} {below : List Frame} {meth : Method} {c : Code} {D : va_G} {A : Nat → Prop} {cy : Nat → ClassId} {a kt vt : Nat → Nat} {N : Nat}   (C0 : nCx p s m args meth c cX11_mends 5 (some .int) RX11 wsX11_mends) (hE : nEn D A cy (Mw cy a) kt vt s) {z : Int32 × nS} {k22 : nS → Int32 → Int32 → Option (Int32 × nS)} (K22 : ∀ (σ : nS) (x1 : Int32) (x2 : Int32) (H : Heap) (locs : List Loc) (ls : Array Slot), lv_has ls 5 [(0, .ref (a 0)), (1, .int x1), (2, .int x2)] → va_P D vwCl ((Mw cy a) σ) H → va_S A s.heap H locs → k22 σ x1 x2 = some z → W p l e ({ frames := 6, cells := 0, slots := 0, locals := 137 } : Room) s m args below meth c H locs 0 0 (nQi below D A (Mw cy a) args s z) (F0 m 22 ls [])) : ∀ (σ : nS) (x2 : Int32) (y0 : Int32) (y1 : Int32) (H : Heap) (locs : List Loc) (ls : Array Slot), lv_has ls 5 [(0, .ref (a 0)), (2, .int x2)] → va_P D vwCl ((Mw cy a) σ) H → va_S A s.heap H locs → l_X11_mends_97 N k22 σ x2 y0 y1 = some z → W p l e ({ frames := 6, cells := 0, slots := 0, locals := 137 } : Room) s m args below meth c H locs 0 0 (nQi below D A (Mw cy a) args s z) (F0 m 97 ls [.int y1, .int y0]) := by
  exact kb_X11_mends_97 (N := N)  C0 hE K22
def l_X11_mends_161 (N : Nat) : nS → Option (Int32 × nS) := b_X11_mends_161 N (l_X11_mends_168 N)
theorem kl_X11_mends_161 {p : Program} {l : Launch} {e : Env} {s : State} {m : MethodId} {args : Array Value} {below : List Frame} {meth : Method} {c : Code} {D : va_G} {A : Nat → Prop} {cy : Nat → ClassId} {a kt vt : Nat → Nat} {N : Nat}   (C0 : nCx p s m args meth c cX11_mends 5 (some .int) RX11 wsX11_mends) (hE : nEn D A cy (Mw cy a) kt vt s) {z : Int32 × nS} : ∀ (σ : nS) (H : Heap) (locs : List Loc) (ls : Array Slot), lv_has ls 5 [(0, .ref (a 0))] → va_P D vwCl ((Mw cy a) σ) H → va_S A s.heap H locs → l_X11_mends_161 N σ = some z → W p l e ({ frames := 6, cells := 0, slots := 0, locals := 137 } : Room) s m args below meth c H locs 0 0 (nQi below D A (Mw cy a) args s z) (F0 m 161 ls []) := by
  exact kb_X11_mends_161 (N := N)  C0 hE (kl_X11_mends_168 (N := N)  C0 hE)
def l_X11_mends_107 (N : Nat) : nS → Int32 → Int32 → Option (Int32 × nS) := nLp (fun _ _ _ => none) (fun again => b_X11_mends_107 N again (l_X11_mends_161 N)) N
theorem kl_X11_mends_107 {p : Program} {l : Launch} {e : Env} {s : State} {m : MethodId} {args : Array Value} {below : List Frame} {meth : Method} {c : Code} {D : va_G} {A : Nat → Prop} {cy : Nat → ClassId} {a kt vt : Nat → Nat} {N : Nat}   (C0 : nCx p s m args meth c cX11_mends 5 (some .int) RX11 wsX11_mends) (hE : nEn D A cy (Mw cy a) kt vt s) {z : Int32 × nS} : ∀ (σ : nS) (x1 : Int32) (x2 : Int32) (H : Heap) (locs : List Loc) (ls : Array Slot), lv_has ls 5 [(0, .ref (a 0)), (1, .int x1), (2, .int x2)] → va_P D vwCl ((Mw cy a) σ) H → va_S A s.heap H locs → l_X11_mends_107 N σ x1 x2 = some z → W p l e ({ frames := 6, cells := 0, slots := 0, locals := 137 } : Room) s m args below meth c H locs 0 0 (nQi below D A (Mw cy a) args s z) (F0 m 107 ls []) := by
  have main : ∀ (fu : Nat), ∀ (σ : nS) (x1 : Int32) (x2 : Int32) (H : Heap) (locs : List Loc) (ls : Array Slot), lv_has ls 5 [(0, .ref (a 0)), (1, .int x1), (2, .int x2)] → va_P D vwCl ((Mw cy a) σ) H → va_S A s.heap H locs → nLp (fun _ _ _ => none) (fun again => b_X11_mends_107 N again (l_X11_mends_161 N)) fu σ x1 x2 = some z → W p l e ({ frames := 6, cells := 0, slots := 0, locals := 137 } : Room) s m args below meth c H locs 0 0 (nQi below D A (Mw cy a) args s z) (F0 m 107 ls []) := by
    intro fu
    induction fu with
    | zero => intro σ x1 x2 H locs ls hl hP hS hf; cases hf
    | succ fu ih => exact kb_X11_mends_107 (N := N)  C0 hE ih (kl_X11_mends_161 (N := N)  C0 hE)
  exact main N
def l_X11_mends_22 (N : Nat) : nS → Int32 → Int32 → Option (Int32 × nS) := nLp (fun _ _ _ => none) (fun again => b_X11_mends_22 N (l_X11_mends_97 N again) (l_X11_mends_107 N)) N
theorem kl_X11_mends_22 {p : Program} {l : Launch} {e : Env} {s : State} {m : MethodId} {args : Array Value} {below : List Frame} {meth : Method} {c : Code} {D : va_G} {A : Nat → Prop} {cy : Nat → ClassId} {a kt vt : Nat → Nat} {N : Nat}   (C0 : nCx p s m args meth c cX11_mends 5 (some .int) RX11 wsX11_mends) (hE : nEn D A cy (Mw cy a) kt vt s) {z : Int32 × nS} : ∀ (σ : nS) (x1 : Int32) (x2 : Int32) (H : Heap) (locs : List Loc) (ls : Array Slot), lv_has ls 5 [(0, .ref (a 0)), (1, .int x1), (2, .int x2)] → va_P D vwCl ((Mw cy a) σ) H → va_S A s.heap H locs → l_X11_mends_22 N σ x1 x2 = some z → W p l e ({ frames := 6, cells := 0, slots := 0, locals := 137 } : Room) s m args below meth c H locs 0 0 (nQi below D A (Mw cy a) args s z) (F0 m 22 ls []) := by
  have main : ∀ (fu : Nat), ∀ (σ : nS) (x1 : Int32) (x2 : Int32) (H : Heap) (locs : List Loc) (ls : Array Slot), lv_has ls 5 [(0, .ref (a 0)), (1, .int x1), (2, .int x2)] → va_P D vwCl ((Mw cy a) σ) H → va_S A s.heap H locs → nLp (fun _ _ _ => none) (fun again => b_X11_mends_22 N (l_X11_mends_97 N again) (l_X11_mends_107 N)) fu σ x1 x2 = some z → W p l e ({ frames := 6, cells := 0, slots := 0, locals := 137 } : Room) s m args below meth c H locs 0 0 (nQi below D A (Mw cy a) args s z) (F0 m 22 ls []) := by
    intro fu
    induction fu with
    | zero => intro σ x1 x2 H locs ls hl hP hS hf; cases hf
    | succ fu ih => exact kb_X11_mends_22 (N := N)  C0 hE (kl_X11_mends_97 (N := N)  C0 hE ih) (kl_X11_mends_107 (N := N)  C0 hE)
  exact main N
def l_X11_mends_0 (N : Nat) : nS → Option (Int32 × nS) := b_X11_mends_0 N (l_X11_mends_22 N)
theorem kl_X11_mends_0 {p : Program} {l : Launch} {e : Env} {s : State} {m : MethodId} {args : Array Value} {below : List Frame} {meth : Method} {c : Code} {D : va_G} {A : Nat → Prop} {cy : Nat → ClassId} {a kt vt : Nat → Nat} {N : Nat}   (C0 : nCx p s m args meth c cX11_mends 5 (some .int) RX11 wsX11_mends) (hE : nEn D A cy (Mw cy a) kt vt s) {z : Int32 × nS} : ∀ (σ : nS) (H : Heap) (locs : List Loc) (ls : Array Slot), lv_has ls 5 [(0, .ref (a 0))] → va_P D vwCl ((Mw cy a) σ) H → va_S A s.heap H locs → l_X11_mends_0 N σ = some z → W p l e ({ frames := 6, cells := 0, slots := 0, locals := 137 } : Room) s m args below meth c H locs 0 0 (nQi below D A (Mw cy a) args s z) (F0 m 0 ls []) := by
  exact kb_X11_mends_0 (N := N)  C0 hE (kl_X11_mends_22 (N := N)  C0 hE)
def f_X11_mends (N : Nat) (σ : nS) : Option (Int32 × nS) := l_X11_mends_0 N σ
set_option maxHeartbeats 4000000 in
set_option maxRecDepth 100000 in
theorem c_X11_mends {l : Launch} {D : va_G} {A : Nat → Prop} {cy : Nat → ClassId} {a kt vt : Nat → Nat} {N : Nat}   {σ : nS} {r : Int32} {σ' : nS} (hf : f_X11_mends N σ = some (r, σ')) : nMi l yX11_mends wsX11_mends ({ frames := 6, cells := 0, slots := 0, locals := 137 } : Room) D A cy (Mw cy a) kt vt [.ref (a 0)] σ r σ' := by
  refine Met.ofW (cc := cX11_mends) (maxL := 5) (ret := (some .int)) (by decide) rfl ?_
  intro p e s m args below meth c s₁ B hml hv
  obtain ⟨rfl, hP, hE⟩ := hv
  have hl := lv_entry ([.ref (a 0)]) (n := 5) (Nat.le_of_ble_eq_true rfl)
  rw [lg_entry_eq]
  generalize (lg_sl ([.ref (a 0)]) ++ List.replicate (5 - (lg_sl ([.ref (a 0)])).length) Slot.unset).toArray = ls at hl ⊢
  have C0 : nCx p s m _ meth c cX11_mends 5 (some .int) RX11 wsX11_mends := ⟨B.exec, B.bytes, B.returns, hml, findClass_of_methodNamed B.named, atoms_spec (ws := wsX11_mends) B.pre, B.notSynchronized⟩
  exact kl_X11_mends_0 (N := N)  C0 hE (z := (r, σ')) σ  _ _ ls hl hP va_S.rf hf
/-! X11_mend -/
set_option maxRecDepth 20000 in
theorem iX11_mend_X11 : ∀ w ∈ u_ws RX11 TX11 68, w ∈ wsX11_mend := fun _ h => List.mem_cons_of_mem _ (List.mem_append_right _ h)
set_option maxRecDepth 20000 in
theorem qX11_mend_117 : Cond.fieldLink RX11 117 RX11 (TX11 0).2.1 (TX11 0).2.2.1 ∈ wsX11_mend := by decide +kernel
set_option maxRecDepth 20000 in
theorem qX11_mend_358 : Cond.fieldLink RX11 358 RX11 (TX11 56).2.1 (TX11 56).2.2.1 ∈ wsX11_mend := by decide +kernel
set_option maxRecDepth 20000 in
theorem qX11_mend_86 : Cond.fieldLink RX11 86 RX11 (TX11 55).2.1 (TX11 55).2.2.1 ∈ wsX11_mend := by decide +kernel
def b_X11_mend_0 (N : Nat) (σ : nS) (x1 : Int32) : Option (Int32 × nS) := nLet (wr σ 0 0 0) (fun σ1 => (if (σ1.1 0 56) = 0 then some ((-1), σ1) else nBd (f_X11_in N x1 0 2 σ1) (fun r2 σ3 => (if r2 = 0 then some ((-1), σ3) else nIx x1 3 (nLet (σ3.1 22 (x1).toNatClampNeg) (fun v4 => some (v4, σ3)))))))
set_option maxHeartbeats 4000000 in
set_option maxRecDepth 100000 in
theorem kb_X11_mend_0 {p : Program} {l : Launch} {e : Env} {s : State} {m : MethodId} {args : Array Value} {below : List Frame} {meth : Method} {c : Code} {D : va_G} {A : Nat → Prop} {cy : Nat → ClassId} {a kt vt : Nat → Nat} {N : Nat}   (C0 : nCx p s m args meth c cX11_mend 2 (some .int) RX11 wsX11_mend) (hE : nEn D A cy (Mw cy a) kt vt s) {z : Int32 × nS} : ∀ (σ : nS) (x1 : Int32) (H : Heap) (locs : List Loc) (ls : Array Slot), lv_has ls 2 [(0, .ref (a 0)), (1, .int x1)] → va_P D vwCl ((Mw cy a) σ) H → va_S A s.heap H locs → b_X11_mend_0 N σ x1 = some z → W p l e ({ frames := 1, cells := 0, slots := 0, locals := 22 } : Room) s m args below meth c H locs 0 0 (nQi below D A (Mw cy a) args s z) (F0 m 0 ls []) := by
  obtain ⟨hx, hb, hr, hml, hown, hts, hlocks⟩ := C0
  intro σ x1 H locs ls hl hP hS hf
  unfold b_X11_mend_0 at hf
  refine lv_aload_n hx hb dX11_mend_0 rfl (lv_at hl 0 rfl) ?_
  refine lv_iconst (v := 0) hx hb dX11_mend_1 (by decide) ?_
  refine nb_put (ci := 11) hx hb hts iX11_mend_X11 tyX11 tyX11_ok nmX11 hown hE hP hS 0 mbo_0 rfl 0 (by decide) qX11_mend_117 rfl rfl rfl rfl (Nat.le_of_ble_eq_true rfl) dX11_mend_2 (mbp_0_0 _) (fun σ1 eσ1 H locs hP hS => ?_)
  replace hf := nLet_e hf eσ1
  refine lv_aload_n hx hb dX11_mend_5 rfl (lv_at hl 0 rfl) ?_
  refine nb_get (ci := 11) hx hb hts iX11_mend_X11 hown hE hP 0 mbo_0 rfl 56 (by decide) qX11_mend_358 rfl rfl dX11_mend_6 ?_
  refine lv_if_eq (tgt := 30) hx hb dX11_mend_9 (by decide) (fun hc => ?_) (fun hc => ?_)
  · replace hf := nIf_t hc hf
    refine lv_iconst (v := (-1)) hx hb dX11_mend_30 (by decide) ?_
    exact nb_iret hx hb hr hlocks hP hS (nSo hf) dX11_mend_31
  · replace hf := nIf_f hc hf
    refine lv_iload_n hx hb dX11_mend_12 rfl (lv_at hl 1 rfl) ?_
    refine lv_iconst (v := 0) hx hb dX11_mend_13 (by decide) ?_
    refine lv_iconst (v := 2) hx hb dX11_mend_14 (by decide) ?_
    obtain ⟨r2, σ3, hc3, hf⟩ := nBd_e hf
    refine nb_callSi (As := [.int x1, .int 0, .int 2]) (rest := []) ⟨hx, hb, hml, hown, hts⟩ (c_X11_in (D := D) (A := A) (cy := cy) (a := a) (kt := kt) (vt := vt) (l := l)  hc3) (va_cwS 3 hts gX11_mend_X11_in rfl rfl rfl (by decide +kernel) ⟨Nat.le_of_ble_eq_true rfl, Nat.le_of_ble_eq_true rfl⟩) hE hP hS rfl hl.1 rfl (Nat.le_of_ble_eq_true rfl) dX11_mend_15 (fun H locs hP hS => ?_)
    refine lv_if_eq (tgt := 30) hx hb dX11_mend_18 (by decide) (fun hc => ?_) (fun hc => ?_)
    · replace hf := nIf_t hc hf
      refine lv_iconst (v := (-1)) hx hb dX11_mend_30 (by decide) ?_
      exact nb_iret hx hb hr hlocks hP hS (nSo hf) dX11_mend_31
    · replace hf := nIf_f hc hf
      refine lv_aload_n hx hb dX11_mend_21 rfl (lv_at hl 0 rfl) ?_
      refine nb_get (ci := 11) hx hb hts iX11_mend_X11 hown hE hP 0 mbo_0 rfl 55 (by decide) qX11_mend_86 rfl rfl dX11_mend_22 ?_
      refine lv_iload_n hx hb dX11_mend_25 rfl (lv_at hl 1 rfl) ?_
      obtain ⟨hin, hf⟩ := nIx_e hf
      refine na_iald hx hb hE hP mbr_22 hin dX11_mend_26 ?_
      refine lv_topi (fun v4 ev4 => ?_)
      replace hf := nLet_e hf ev4
      refine lv_goto (tgt := 31) hx hb dX11_mend_27 (by decide) ?_
      exact nb_iret hx hb hr hlocks hP hS (nSo hf) dX11_mend_31
def l_X11_mend_0 (N : Nat) : nS → Int32 → Option (Int32 × nS) := b_X11_mend_0 N
theorem kl_X11_mend_0 {p : Program} {l : Launch} {e : Env} {s : State} {m : MethodId} {args : Array Value} {below : List Frame} {meth : Method} {c : Code} {D : va_G} {A : Nat → Prop} {cy : Nat → ClassId} {a kt vt : Nat → Nat} {N : Nat}   (C0 : nCx p s m args meth c cX11_mend 2 (some .int) RX11 wsX11_mend) (hE : nEn D A cy (Mw cy a) kt vt s) {z : Int32 × nS} : ∀ (σ : nS) (x1 : Int32) (H : Heap) (locs : List Loc) (ls : Array Slot), lv_has ls 2 [(0, .ref (a 0)), (1, .int x1)] → va_P D vwCl ((Mw cy a) σ) H → va_S A s.heap H locs → l_X11_mend_0 N σ x1 = some z → W p l e ({ frames := 1, cells := 0, slots := 0, locals := 22 } : Room) s m args below meth c H locs 0 0 (nQi below D A (Mw cy a) args s z) (F0 m 0 ls []) := by
  exact kb_X11_mend_0 (N := N)  C0 hE
def f_X11_mend (N : Nat) (x1 : Int32) (σ : nS) : Option (Int32 × nS) := l_X11_mend_0 N σ x1
set_option maxHeartbeats 4000000 in
set_option maxRecDepth 100000 in
theorem c_X11_mend {l : Launch} {D : va_G} {A : Nat → Prop} {cy : Nat → ClassId} {a kt vt : Nat → Nat} {N : Nat}   {x1 : Int32} {σ : nS} {r : Int32} {σ' : nS} (hf : f_X11_mend N x1 σ = some (r, σ')) : nMi l yX11_mend wsX11_mend ({ frames := 1, cells := 0, slots := 0, locals := 22 } : Room) D A cy (Mw cy a) kt vt [.ref (a 0), .int x1] σ r σ' := by
  refine Met.ofW (cc := cX11_mend) (maxL := 2) (ret := (some .int)) (by decide) rfl ?_
  intro p e s m args below meth c s₁ B hml hv
  obtain ⟨rfl, hP, hE⟩ := hv
  have hl := lv_entry ([.ref (a 0), .int x1]) (n := 2) (Nat.le_of_ble_eq_true rfl)
  rw [lg_entry_eq]
  generalize (lg_sl ([.ref (a 0), .int x1]) ++ List.replicate (2 - (lg_sl ([.ref (a 0), .int x1])).length) Slot.unset).toArray = ls at hl ⊢
  have C0 : nCx p s m _ meth c cX11_mend 2 (some .int) RX11 wsX11_mend := ⟨B.exec, B.bytes, B.returns, hml, findClass_of_methodNamed B.named, atoms_spec (ws := wsX11_mend) B.pre, B.notSynchronized⟩
  exact kl_X11_mend_0 (N := N)  C0 hE (z := (r, σ')) σ x1 _ _ ls hl hP va_S.rf hf
/-! X11_comesTo -/
set_option maxRecDepth 20000 in
theorem iX11_comesTo_X9 : ∀ w ∈ u_ws RX9 TX9 11, w ∈ wsX11_comesTo := fun _ h => List.mem_cons_of_mem _ (List.mem_append_left _ (List.mem_append_right _ h))
set_option maxRecDepth 20000 in
theorem iX11_comesTo_X11 : ∀ w ∈ u_ws RX11 TX11 68, w ∈ wsX11_comesTo := fun _ h => List.mem_cons_of_mem _ (List.mem_append_right _ h)
set_option maxRecDepth 20000 in
theorem qX11_comesTo_23 : Cond.fieldLink RX11 23 RX11 (TX11 11).2.1 (TX11 11).2.2.1 ∈ wsX11_comesTo := by decide +kernel
set_option maxRecDepth 20000 in
theorem qX11_comesTo_257 : Cond.fieldLink RX11 257 RX11 (TX11 31).2.1 (TX11 31).2.2.1 ∈ wsX11_comesTo := by decide +kernel
def b_X11_comesTo_51 (N : Nat) (n : Nat) (q : Nat) (σ : nS) : Option (Int32 × nS) := nLet ((256 : Int32) * (σ.1 n 1) : Int32) (fun v1 => nLet (v1 + (σ.1 n 3) : Int32) (fun v2 => nIx v2 6144 (nLet (wr σ q (v2).toNatClampNeg (σ.1 0 31)) (fun σ3 => some (0, σ3)))))
set_option maxHeartbeats 4000000 in
set_option maxRecDepth 100000 in
theorem kb_X11_comesTo_51 {p : Program} {l : Launch} {e : Env} {s : State} {m : MethodId} {args : Array Value} {below : List Frame} {meth : Method} {c : Code} {D : va_G} {A : Nat → Prop} {cy : Nat → ClassId} {a kt vt : Nat → Nat} {N : Nat} {n : Nat} {q : Nat} (hn : nNt n) (hq : nAr 0 (Mw cy a) cy a q 6144) (C0 : nCx p s m args meth c cX11_comesTo 4 none RX11 wsX11_comesTo) (hE : nEn D A cy (Mw cy a) kt vt s) {z : Int32 × nS} : ∀ (σ : nS) (H : Heap) (locs : List Loc) (ls : Array Slot), lv_has ls 4 [(0, .ref (a 0)), (1, .ref (a n)), (2, .ref (a q))] → va_P D vwCl ((Mw cy a) σ) H → va_S A s.heap H locs → b_X11_comesTo_51 N n q σ = some z → W p l e ({ frames := 1, cells := 0, slots := 0, locals := 22 } : Room) s m args below meth c H locs 0 0 (nQv below D A (Mw cy a) args s z) (F0 m 51 ls []) := by
  obtain ⟨hx, hb, hr, hml, hown, hts, hlocks⟩ := C0
  intro σ  H locs ls hl hP hS hf
  unfold b_X11_comesTo_51 at hf
  refine lv_aload_n hx hb dX11_comesTo_51 rfl (lv_at hl 2 rfl) ?_
  refine lv_sipush (v := 256) hx hb dX11_comesTo_52 (by decide) ?_
  refine lv_aload_n hx hb dX11_comesTo_55 rfl (lv_at hl 1 rfl) ?_
  refine nb_getN (ci := 9) hx hb hts iX11_comesTo_X9 hown hE hP n (mboN hn) rfl 1 (by decide) (host := RX11) (by decide +kernel) rfl rfl dX11_comesTo_56 ?_
  refine lv_imul hx hb dX11_comesTo_59 ?_
  refine lv_topi (fun v1 ev1 => ?_)
  replace hf := nLet_e hf ev1
  refine lv_aload_n hx hb dX11_comesTo_60 rfl (lv_at hl 1 rfl) ?_
  refine nb_getN (ci := 9) hx hb hts iX11_comesTo_X9 hown hE hP n (mboN hn) rfl 3 (by decide) (host := RX11) (by decide +kernel) rfl rfl dX11_comesTo_61 ?_
  refine lv_iadd hx hb dX11_comesTo_64 ?_
  refine lv_topi (fun v2 ev2 => ?_)
  replace hf := nLet_e hf ev2
  refine lv_aload_n hx hb dX11_comesTo_65 rfl (lv_at hl 0 rfl) ?_
  refine nb_get (ci := 11) hx hb hts iX11_comesTo_X11 hown hE hP 0 mbo_0 rfl 31 (by decide) qX11_comesTo_257 rfl rfl dX11_comesTo_66 ?_
  obtain ⟨hin, hf⟩ := nIx_e hf
  refine na_iast hx hb hE hP hS hq hin dX11_comesTo_69 (fun σ3 eσ3 H locs hP hS => ?_)
  replace hf := nLet_e hf eσ3
  exact nb_vret hx hb hr hlocks hP hS (nSo hf) dX11_comesTo_70
def b_X11_comesTo_0 (N : Nat) (n : Nat) (q : Nat) (k51 : nS → Option (Int32 × nS)) (σ : nS) (x3 : Int32) : Option (Int32 × nS) := nIx (σ.1 n 0) 5 (nLet (σ.1 3 ((σ.1 n 0)).toNatClampNeg) (fun v1 => (if (σ.1 n 1) = v1 then nBd (f_X9_ends N n 5 x3 σ) (fun r7 σ8 => some (0, σ8)) else nLet ((256 : Int32) * (σ.1 n 1) : Int32) (fun v2 => nLet (v2 + (σ.1 n 3) : Int32) (fun v3 => nIx v3 6144 (nLet (σ.1 q (v3).toNatClampNeg) (fun v4 => (if v4 = (σ.1 0 31) then nBd (f_X9_ends N n 4 x3 σ) (fun r5 σ6 => k51 σ6) else k51 σ))))))))
set_option maxHeartbeats 4000000 in
set_option maxRecDepth 100000 in
theorem kb_X11_comesTo_0 {p : Program} {l : Launch} {e : Env} {s : State} {m : MethodId} {args : Array Value} {below : List Frame} {meth : Method} {c : Code} {D : va_G} {A : Nat → Prop} {cy : Nat → ClassId} {a kt vt : Nat → Nat} {N : Nat} {n : Nat} {q : Nat} (hn : nNt n) (hq : nAr 0 (Mw cy a) cy a q 6144) (C0 : nCx p s m args meth c cX11_comesTo 4 none RX11 wsX11_comesTo) (hE : nEn D A cy (Mw cy a) kt vt s) {z : Int32 × nS} {k51 : nS → Option (Int32 × nS)} (K51 : ∀ (σ : nS) (H : Heap) (locs : List Loc) (ls : Array Slot), lv_has ls 4 [(0, .ref (a 0)), (1, .ref (a n)), (2, .ref (a q))] → va_P D vwCl ((Mw cy a) σ) H → va_S A s.heap H locs → k51 σ = some z → W p l e ({ frames := 1, cells := 0, slots := 0, locals := 22 } : Room) s m args below meth c H locs 0 0 (nQv below D A (Mw cy a) args s z) (F0 m 51 ls [])) : ∀ (σ : nS) (x3 : Int32) (H : Heap) (locs : List Loc) (ls : Array Slot), lv_has ls 4 [(0, .ref (a 0)), (1, .ref (a n)), (2, .ref (a q)), (3, .int x3)] → va_P D vwCl ((Mw cy a) σ) H → va_S A s.heap H locs → b_X11_comesTo_0 N n q k51 σ x3 = some z → W p l e ({ frames := 1, cells := 0, slots := 0, locals := 22 } : Room) s m args below meth c H locs 0 0 (nQv below D A (Mw cy a) args s z) (F0 m 0 ls []) := by
  obtain ⟨hx, hb, hr, hml, hown, hts, hlocks⟩ := C0
  intro σ x3 H locs ls hl hP hS hf
  unfold b_X11_comesTo_0 at hf
  refine lv_aload_n hx hb dX11_comesTo_0 rfl (lv_at hl 1 rfl) ?_
  refine nb_getN (ci := 9) hx hb hts iX11_comesTo_X9 hown hE hP n (mboN hn) rfl 1 (by decide) (host := RX11) (by decide +kernel) rfl rfl dX11_comesTo_1 ?_
  refine lv_aload_n hx hb dX11_comesTo_4 rfl (lv_at hl 0 rfl) ?_
  refine nb_get (ci := 11) hx hb hts iX11_comesTo_X11 hown hE hP 0 mbo_0 rfl 11 (by decide) qX11_comesTo_23 rfl rfl dX11_comesTo_5 ?_
  refine lv_aload_n hx hb dX11_comesTo_8 rfl (lv_at hl 1 rfl) ?_
  refine nb_getN (ci := 9) hx hb hts iX11_comesTo_X9 hown hE hP n (mboN hn) rfl 0 (by decide) (host := RX11) (by decide +kernel) rfl rfl dX11_comesTo_9 ?_
  obtain ⟨hin, hf⟩ := nIx_e hf
  refine na_iald hx hb hE hP mbr_3 hin dX11_comesTo_12 ?_
  refine lv_topi (fun v1 ev1 => ?_)
  replace hf := nLet_e hf ev1
  refine lv_icmp_ne (tgt := 23) hx hb dX11_comesTo_13 (by decide) (fun hc => ?_) (fun hc => ?_)
  · replace hf := nIf_f hc hf
    refine lv_aload_n hx hb dX11_comesTo_23 rfl (lv_at hl 2 rfl) ?_
    refine lv_sipush (v := 256) hx hb dX11_comesTo_24 (by decide) ?_
    refine lv_aload_n hx hb dX11_comesTo_27 rfl (lv_at hl 1 rfl) ?_
    refine nb_getN (ci := 9) hx hb hts iX11_comesTo_X9 hown hE hP n (mboN hn) rfl 1 (by decide) (host := RX11) (by decide +kernel) rfl rfl dX11_comesTo_28 ?_
    refine lv_imul hx hb dX11_comesTo_31 ?_
    refine lv_topi (fun v2 ev2 => ?_)
    replace hf := nLet_e hf ev2
    refine lv_aload_n hx hb dX11_comesTo_32 rfl (lv_at hl 1 rfl) ?_
    refine nb_getN (ci := 9) hx hb hts iX11_comesTo_X9 hown hE hP n (mboN hn) rfl 3 (by decide) (host := RX11) (by decide +kernel) rfl rfl dX11_comesTo_33 ?_
    refine lv_iadd hx hb dX11_comesTo_36 ?_
    refine lv_topi (fun v3 ev3 => ?_)
    replace hf := nLet_e hf ev3
    obtain ⟨hin, hf⟩ := nIx_e hf
    refine na_iald hx hb hE hP hq hin dX11_comesTo_37 ?_
    refine lv_topi (fun v4 ev4 => ?_)
    replace hf := nLet_e hf ev4
    refine lv_aload_n hx hb dX11_comesTo_38 rfl (lv_at hl 0 rfl) ?_
    refine nb_get (ci := 11) hx hb hts iX11_comesTo_X11 hown hE hP 0 mbo_0 rfl 31 (by decide) qX11_comesTo_257 rfl rfl dX11_comesTo_39 ?_
    refine lv_icmp_ne (tgt := 51) hx hb dX11_comesTo_42 (by decide) (fun hc => ?_) (fun hc => ?_)
    · replace hf := nIf_f hc hf
      exact K51 σ H locs ls (lv_sub hl [0, 1, 2] rfl) hP hS hf
    · replace hf := nIf_t hc hf
      refine lv_aload_n hx hb dX11_comesTo_45 rfl (lv_at hl 1 rfl) ?_
      refine lv_iconst (v := 4) hx hb dX11_comesTo_46 (by decide) ?_
      refine lv_iload_n hx hb dX11_comesTo_47 rfl (lv_at hl 3 rfl) ?_
      obtain ⟨r5, σ6, hc6, hf⟩ := nBd_e hf
      refine nb_callVv (As := [.int 4, .int x3]) (rest := []) ⟨hx, hb, hml, hown, hts⟩ (c_X9_ends (D := D) (A := A) (cy := cy) (a := a) (kt := kt) (vt := vt) (l := l) hn hc6) (cwV 2 hts gX11_comesTo_X9_ends rfl rfl rfl (by decide +kernel) ⟨Nat.le_of_ble_eq_true rfl, Nat.le_of_ble_eq_true rfl⟩) hE hP hS (mboN hn) rfl rfl hl.1 rfl (Nat.le_of_ble_eq_true rfl) dX11_comesTo_48 (fun H locs hP hS => ?_)
      exact K51 σ6 H locs ls (lv_sub hl [0, 1, 2] rfl) hP hS hf
  · replace hf := nIf_t hc hf
    refine lv_aload_n hx hb dX11_comesTo_16 rfl (lv_at hl 1 rfl) ?_
    refine lv_iconst (v := 5) hx hb dX11_comesTo_17 (by decide) ?_
    refine lv_iload_n hx hb dX11_comesTo_18 rfl (lv_at hl 3 rfl) ?_
    obtain ⟨r7, σ8, hc8, hf⟩ := nBd_e hf
    refine nb_callVv (As := [.int 5, .int x3]) (rest := []) ⟨hx, hb, hml, hown, hts⟩ (c_X9_ends (D := D) (A := A) (cy := cy) (a := a) (kt := kt) (vt := vt) (l := l) hn hc8) (cwV 2 hts gX11_comesTo_X9_ends rfl rfl rfl (by decide +kernel) ⟨Nat.le_of_ble_eq_true rfl, Nat.le_of_ble_eq_true rfl⟩) hE hP hS (mboN hn) rfl rfl hl.1 rfl (Nat.le_of_ble_eq_true rfl) dX11_comesTo_19 (fun H locs hP hS => ?_)
    exact nb_vret hx hb hr hlocks hP hS (nSo hf) dX11_comesTo_22
def l_X11_comesTo_51 (N : Nat) (n : Nat) (q : Nat) : nS → Option (Int32 × nS) := b_X11_comesTo_51 N n q
theorem kl_X11_comesTo_51 {p : Program} {l : Launch} {e : Env} {s : State} {m : MethodId} {args : Array Value} {below : List Frame} {meth : Method} {c : Code} {D : va_G} {A : Nat → Prop} {cy : Nat → ClassId} {a kt vt : Nat → Nat} {N : Nat} {n : Nat} {q : Nat} (hn : nNt n) (hq : nAr 0 (Mw cy a) cy a q 6144) (C0 : nCx p s m args meth c cX11_comesTo 4 none RX11 wsX11_comesTo) (hE : nEn D A cy (Mw cy a) kt vt s) {z : Int32 × nS} : ∀ (σ : nS) (H : Heap) (locs : List Loc) (ls : Array Slot), lv_has ls 4 [(0, .ref (a 0)), (1, .ref (a n)), (2, .ref (a q))] → va_P D vwCl ((Mw cy a) σ) H → va_S A s.heap H locs → l_X11_comesTo_51 N n q σ = some z → W p l e ({ frames := 1, cells := 0, slots := 0, locals := 22 } : Room) s m args below meth c H locs 0 0 (nQv below D A (Mw cy a) args s z) (F0 m 51 ls []) := by
  exact kb_X11_comesTo_51 (N := N) hn hq C0 hE
def l_X11_comesTo_0 (N : Nat) (n : Nat) (q : Nat) : nS → Int32 → Option (Int32 × nS) := b_X11_comesTo_0 N n q (l_X11_comesTo_51 N n q)
theorem kl_X11_comesTo_0 {p : Program} {l : Launch} {e : Env} {s : State} {m : MethodId} {args : Array Value} {below : List Frame} {meth : Method} {c : Code} {D : va_G} {A : Nat → Prop} {cy : Nat → ClassId} {a kt vt : Nat → Nat} {N : Nat} {n : Nat} {q : Nat} (hn : nNt n) (hq : nAr 0 (Mw cy a) cy a q 6144) (C0 : nCx p s m args meth c cX11_comesTo 4 none RX11 wsX11_comesTo) (hE : nEn D A cy (Mw cy a) kt vt s) {z : Int32 × nS} : ∀ (σ : nS) (x3 : Int32) (H : Heap) (locs : List Loc) (ls : Array Slot), lv_has ls 4 [(0, .ref (a 0)), (1, .ref (a n)), (2, .ref (a q)), (3, .int x3)] → va_P D vwCl ((Mw cy a) σ) H → va_S A s.heap H locs → l_X11_comesTo_0 N n q σ x3 = some z → W p l e ({ frames := 1, cells := 0, slots := 0, locals := 22 } : Room) s m args below meth c H locs 0 0 (nQv below D A (Mw cy a) args s z) (F0 m 0 ls []) := by
  exact kb_X11_comesTo_0 (N := N) hn hq C0 hE (kl_X11_comesTo_51 (N := N) hn hq C0 hE)
def f_X11_comesTo (N : Nat) (n : Nat) (q : Nat) (x3 : Int32) (σ : nS) : Option (Int32 × nS) := l_X11_comesTo_0 N n q σ x3
set_option maxHeartbeats 4000000 in
set_option maxRecDepth 100000 in
theorem c_X11_comesTo {l : Launch} {D : va_G} {A : Nat → Prop} {cy : Nat → ClassId} {a kt vt : Nat → Nat} {N : Nat} {n : Nat} {q : Nat} (hn : nNt n) (hq : nAr 0 (Mw cy a) cy a q 6144) {x3 : Int32} {σ : nS} {r : Int32} {σ' : nS} (hf : f_X11_comesTo N n q x3 σ = some (r, σ')) : nMv l yX11_comesTo wsX11_comesTo ({ frames := 1, cells := 0, slots := 0, locals := 22 } : Room) D A cy (Mw cy a) kt vt [.ref (a 0), .ref (a n), .ref (a q), .int x3] σ σ' := by
  refine Met.ofW (cc := cX11_comesTo) (maxL := 4) (ret := none) (by decide) rfl ?_
  intro p e s m args below meth c s₁ B hml hv
  obtain ⟨rfl, hP, hE⟩ := hv
  have hl := lv_entry ([.ref (a 0), .ref (a n), .ref (a q), .int x3]) (n := 4) (Nat.le_of_ble_eq_true rfl)
  rw [lg_entry_eq]
  generalize (lg_sl ([.ref (a 0), .ref (a n), .ref (a q), .int x3]) ++ List.replicate (4 - (lg_sl ([.ref (a 0), .ref (a n), .ref (a q), .int x3])).length) Slot.unset).toArray = ls at hl ⊢
  have C0 : nCx p s m _ meth c cX11_comesTo 4 none RX11 wsX11_comesTo := ⟨B.exec, B.bytes, B.returns, hml, findClass_of_methodNamed B.named, atoms_spec (ws := wsX11_comesTo) B.pre, B.notSynchronized⟩
  exact kl_X11_comesTo_0 (N := N) hn hq C0 hE (z := (r, σ')) σ x3 _ _ ls hl hP va_S.rf hf
