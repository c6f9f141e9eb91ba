/-! X11_areBits -/
def b_X11_areBits_0 (N : Nat) (σ : nS) (x0 : Int32) (x1 : Int32) (x2 : Int32) : Option (Int32 × nS) := nBd (f_X11_in N x0 0 255 σ) (fun r1 σ2 => (if r1 = 0 then some (0, σ2) else nBd (f_X11_in N x1 0 255 σ2) (fun r3 σ4 => (if r3 = 0 then some (0, σ4) else nBd (f_X11_in N x2 0 255 σ4) (fun r5 σ6 => (if r5 = 0 then some (0, σ6) else some (1, σ6)))))))
set_option maxHeartbeats 4000000 in
set_option maxRecDepth 100000 in
theorem kb_X11_areBits_0 {p : Program} {l : Launch} {e : Env} {s : State} {m : MethodId} {args : Array Value} {below : List Frame} {meth : Method} {c : Code} {D : va_G} {A : Nat → Prop} {cy : Nat → ClassId} {a kt vt : Nat → Nat} {N : Nat}   (C0 : nCx p s m args meth c cX11_areBits 3 (some .boolean) RX11 wsX11_areBits) (hE : nEn D A cy (Mw cy a) kt vt s) {z : Int32 × nS} : ∀ (σ : nS) (x0 : Int32) (x1 : Int32) (x2 : Int32) (H : Heap) (locs : List Loc) (ls : Array Slot), lv_has ls 3 [(0, .int x0), (1, .int x1), (2, .int x2)] → va_P D vwCl ((Mw cy a) σ) H → va_S A s.heap H locs → b_X11_areBits_0 N σ x0 x1 x2 = some z → W p l e ({ frames := 1, cells := 0, slots := 0, locals := 22 } : Room) s m args below meth c H locs 0 0 (nQi below D A (Mw cy a) args s z) (F0 m 0 ls []) := by
  obtain ⟨hx, hb, hr, hml, hown, hts, hlocks⟩ := C0
  intro σ x0 x1 x2 H locs ls hl hP hS hf
  unfold b_X11_areBits_0 at hf
  refine lv_iload_n hx hb dX11_areBits_0 rfl (lv_at hl 0 rfl) ?_
  refine lv_iconst (v := 0) hx hb dX11_areBits_1 (by decide) ?_
  refine lv_sipush (v := 255) hx hb dX11_areBits_2 (by decide) ?_
  obtain ⟨r1, σ2, hc2, hf⟩ := nBd_e hf
  refine nb_callSi (As := [.int x0, .int 0, .int 255]) (rest := []) ⟨hx, hb, hml, hown, hts⟩ (c_X11_in (D := D) (A := A) (cy := cy) (a := a) (kt := kt) (vt := vt) (l := l)  hc2) (va_cwS 3 hts gX11_areBits_X11_in rfl rfl rfl (by decide +kernel) ⟨Nat.le_of_ble_eq_true rfl, Nat.le_of_ble_eq_true rfl⟩) hE hP hS rfl hl.1 rfl (Nat.le_of_ble_eq_true rfl) dX11_areBits_5 (fun H locs hP hS => ?_)
  refine lv_if_eq (tgt := 37) hx hb dX11_areBits_8 (by decide) (fun hc => ?_) (fun hc => ?_)
  · replace hf := nIf_t hc hf
    refine lv_iconst (v := 0) hx hb dX11_areBits_37 (by decide) ?_
    exact nb_zret hx hb hr hlocks hP hS (nSo hf) rfl dX11_areBits_38
  · replace hf := nIf_f hc hf
    refine lv_iload_n hx hb dX11_areBits_11 rfl (lv_at hl 1 rfl) ?_
    refine lv_iconst (v := 0) hx hb dX11_areBits_12 (by decide) ?_
    refine lv_sipush (v := 255) hx hb dX11_areBits_13 (by decide) ?_
    obtain ⟨r3, σ4, hc4, hf⟩ := nBd_e hf
    refine nb_callSi (As := [.int x1, .int 0, .int 255]) (rest := []) ⟨hx, hb, hml, hown, hts⟩ (c_X11_in (D := D) (A := A) (cy := cy) (a := a) (kt := kt) (vt := vt) (l := l)  hc4) (va_cwS 3 hts gX11_areBits_X11_in rfl rfl rfl (by decide +kernel) ⟨Nat.le_of_ble_eq_true rfl, Nat.le_of_ble_eq_true rfl⟩) hE hP hS rfl hl.1 rfl (Nat.le_of_ble_eq_true rfl) dX11_areBits_16 (fun H locs hP hS => ?_)
    refine lv_if_eq (tgt := 37) hx hb dX11_areBits_19 (by decide) (fun hc => ?_) (fun hc => ?_)
    · replace hf := nIf_t hc hf
      refine lv_iconst (v := 0) hx hb dX11_areBits_37 (by decide) ?_
      exact nb_zret hx hb hr hlocks hP hS (nSo hf) rfl dX11_areBits_38
    · replace hf := nIf_f hc hf
      refine lv_iload_n hx hb dX11_areBits_22 rfl (lv_at hl 2 rfl) ?_
      refine lv_iconst (v := 0) hx hb dX11_areBits_23 (by decide) ?_
      refine lv_sipush (v := 255) hx hb dX11_areBits_24 (by decide) ?_
      obtain ⟨r5, σ6, hc6, hf⟩ := nBd_e hf
      refine nb_callSi (As := [.int x2, .int 0, .int 255]) (rest := []) ⟨hx, hb, hml, hown, hts⟩ (c_X11_in (D := D) (A := A) (cy := cy) (a := a) (kt := kt) (vt := vt) (l := l)  hc6) (va_cwS 3 hts gX11_areBits_X11_in rfl rfl rfl (by decide +kernel) ⟨Nat.le_of_ble_eq_true rfl, Nat.le_of_ble_eq_true rfl⟩) hE hP hS rfl hl.1 rfl (Nat.le_of_ble_eq_true rfl) dX11_areBits_27 (fun H locs hP hS => ?_)
      refine lv_if_eq (tgt := 37) hx hb dX11_areBits_30 (by decide) (fun hc => ?_) (fun hc => ?_)
      · replace hf := nIf_t hc hf
        refine lv_iconst (v := 0) hx hb dX11_areBits_37 (by decide) ?_
        exact nb_zret hx hb hr hlocks hP hS (nSo hf) rfl dX11_areBits_38
      · replace hf := nIf_f hc hf
        refine lv_iconst (v := 1) hx hb dX11_areBits_33 (by decide) ?_
        refine lv_goto (tgt := 38) hx hb dX11_areBits_34 (by decide) ?_
        exact nb_zret hx hb hr hlocks hP hS (nSo hf) rfl dX11_areBits_38
def l_X11_areBits_0 (N : Nat) : nS → Int32 → Int32 → Int32 → Option (Int32 × nS) := b_X11_areBits_0 N
theorem kl_X11_areBits_0 {p : Program} {l : Launch} {e : Env} {s : State} {m : MethodId} {args : Array Value} {below : List Frame} {meth : Method} {c : Code} {D : va_G} {A : Nat → Prop} {cy : Nat → ClassId} {a kt vt : Nat → Nat} {N : Nat}   (C0 : nCx p s m args meth c cX11_areBits 3 (some .boolean) RX11 wsX11_areBits) (hE : nEn D A cy (Mw cy a) kt vt s) {z : Int32 × nS} : ∀ (σ : nS) (x0 : Int32) (x1 : Int32) (x2 : Int32) (H : Heap) (locs : List Loc) (ls : Array Slot), lv_has ls 3 [(0, .int x0), (1, .int x1), (2, .int x2)] → va_P D vwCl ((Mw cy a) σ) H → va_S A s.heap H locs → l_X11_areBits_0 N σ x0 x1 x2 = some z → W p l e ({ frames := 1, cells := 0, slots := 0, locals := 22 } : Room) s m args below meth c H locs 0 0 (nQi below D A (Mw cy a) args s z) (F0 m 0 ls []) := by
  exact kb_X11_areBits_0 (N := N)  C0 hE
def f_X11_areBits (N : Nat) (x0 : Int32) (x1 : Int32) (x2 : Int32) (σ : nS) : Option (Int32 × nS) := l_X11_areBits_0 N σ x0 x1 x2
set_option maxHeartbeats 4000000 in
set_option maxRecDepth 100000 in
theorem c_X11_areBits {l : Launch} {D : va_G} {A : Nat → Prop} {cy : Nat → ClassId} {a kt vt : Nat → Nat} {N : Nat}   {x0 : Int32} {x1 : Int32} {x2 : Int32} {σ : nS} {r : Int32} {σ' : nS} (hf : f_X11_areBits N x0 x1 x2 σ = some (r, σ')) : nMi l yX11_areBits wsX11_areBits ({ frames := 1, cells := 0, slots := 0, locals := 22 } : Room) D A cy (Mw cy a) kt vt [.int x0, .int x1, .int x2] σ r σ' := by
  refine Met.ofW (cc := cX11_areBits) (maxL := 3) (ret := (some .boolean)) (by decide) rfl ?_
  intro p e s m args below meth c s₁ B hml hv
  obtain ⟨rfl, hP, hE⟩ := hv
  have hl := lv_entry ([.int x0, .int x1, .int x2]) (n := 3) (Nat.le_of_ble_eq_true rfl)
  rw [lg_entry_eq]
  generalize (lg_sl ([.int x0, .int x1, .int x2]) ++ List.replicate (3 - (lg_sl ([.int x0, .int x1, .int x2])).length) Slot.unset).toArray = ls at hl ⊢
  have C0 : nCx p s m _ meth c cX11_areBits 3 (some .boolean) RX11 wsX11_areBits := ⟨B.exec, B.bytes, B.returns, hml, findClass_of_methodNamed B.named, atoms_spec (ws := wsX11_areBits) B.pre, B.notSynchronized⟩
  exact kl_X11_areBits_0 (N := N)  C0 hE (z := (r, σ')) σ x0 x1 x2 _ _ ls hl hP va_S.rf hf
/-! X11_play -/
set_option maxRecDepth 20000 in
theorem iX11_play_X11 : ∀ w ∈ u_ws RX11 TX11 68, w ∈ wsX11_play := fun _ h => List.mem_cons_of_mem _ (List.mem_append_right _ h)
set_option maxRecDepth 20000 in
theorem qX11_play_117 : Cond.fieldLink RX11 117 RX11 (TX11 0).2.1 (TX11 0).2.2.1 ∈ wsX11_play := by decide +kernel
set_option maxRecDepth 20000 in
theorem qX11_play_295 : Cond.fieldLink RX11 295 RX11 (TX11 38).2.1 (TX11 38).2.2.1 ∈ wsX11_play := by decide +kernel
set_option maxRecDepth 20000 in
theorem qX11_play_298 : Cond.fieldLink RX11 298 RX11 (TX11 37).2.1 (TX11 37).2.2.1 ∈ wsX11_play := by decide +kernel
set_option maxRecDepth 20000 in
theorem qX11_play_263 : Cond.fieldLink RX11 263 RX11 (TX11 33).2.1 (TX11 33).2.2.1 ∈ wsX11_play := by decide +kernel
set_option maxRecDepth 20000 in
theorem qX11_play_302 : Cond.fieldLink RX11 302 RX11 (TX11 39).2.1 (TX11 39).2.2.1 ∈ wsX11_play := by decide +kernel
set_option maxRecDepth 20000 in
theorem qX11_play_266 : Cond.fieldLink RX11 266 RX11 (TX11 34).2.1 (TX11 34).2.2.1 ∈ wsX11_play := by decide +kernel
set_option maxRecDepth 20000 in
theorem qX11_play_305 : Cond.fieldLink RX11 305 RX11 (TX11 40).2.1 (TX11 40).2.2.1 ∈ wsX11_play := by decide +kernel
set_option maxRecDepth 20000 in
theorem qX11_play_260 : Cond.fieldLink RX11 260 RX11 (TX11 35).2.1 (TX11 35).2.2.1 ∈ wsX11_play := by decide +kernel
set_option maxRecDepth 20000 in
theorem qX11_play_308 : Cond.fieldLink RX11 308 RX11 (TX11 41).2.1 (TX11 41).2.2.1 ∈ wsX11_play := by decide +kernel
set_option maxRecDepth 20000 in
theorem qX11_play_272 : Cond.fieldLink RX11 272 RX11 (TX11 36).2.1 (TX11 36).2.2.1 ∈ wsX11_play := by decide +kernel
set_option maxRecDepth 20000 in
theorem qX11_play_311 : Cond.fieldLink RX11 311 RX11 (TX11 42).2.1 (TX11 42).2.2.1 ∈ wsX11_play := by decide +kernel
set_option maxRecDepth 20000 in
theorem qX11_play_64 : Cond.fieldLink RX11 64 RX11 (TX11 43).2.1 (TX11 43).2.2.1 ∈ wsX11_play := by decide +kernel
set_option maxRecDepth 20000 in
theorem qX11_play_61 : Cond.fieldLink RX11 61 RX11 (TX11 30).2.1 (TX11 30).2.2.1 ∈ wsX11_play := by decide +kernel
def b_X11_play_88 (N : Nat) (k88 : nS → Int32 → Option (Int32 × nS)) (σ : nS) (x5 : Int32) : Option (Int32 × nS) := (if (σ.1 0 34) ≤ x5 then nBd (f_X11_done N (σ.1 0 38) σ) (fun r1 σ2 => some (r1, σ2)) else (if (2000 : Int32) ≤ x5 then nBd (f_X11_done N (σ.1 0 38) σ) (fun r3 σ4 => some (r3, σ4)) else nIx x5 2000 (nLet (σ.1 14 (x5).toNatClampNeg) (fun v5 => nIx x5 2000 (nLet (wr σ 15 (x5).toNatClampNeg v5) (fun σ6 => nLet (x5 + 1 : Int32) (fun v7 => k88 σ6 v7)))))))
set_option maxHeartbeats 4000000 in
set_option maxRecDepth 100000 in
theorem kb_X11_play_88 {p : Program} {l : Launch} {e : Env} {s : State} {m : MethodId} {args : Array Value} {below : List Frame} {meth : Method} {c : Code} {D : va_G} {A : Nat → Prop} {cy : Nat → ClassId} {a kt vt : Nat → Nat} {N : Nat}   (C0 : nCx p s m args meth c cX11_play 6 (some .int) RX11 wsX11_play) (hE : nEn D A cy (Mw cy a) kt vt s) {z : Int32 × nS} {k88 : nS → Int32 → Option (Int32 × nS)} (K88 : ∀ (σ : nS) (x5 : Int32) (H : Heap) (locs : List Loc) (ls : Array Slot), lv_has ls 6 [(0, .ref (a 0)), (5, .int x5)] → va_P D vwCl ((Mw cy a) σ) H → va_S A s.heap H locs → k88 σ x5 = some z → W p l e ({ frames := 3, cells := 0, slots := 0, locals := 67 } : Room) s m args below meth c H locs 0 0 (nQi below D A (Mw cy a) args s z) (F0 m 88 ls [])) : ∀ (σ : nS) (x5 : Int32) (H : Heap) (locs : List Loc) (ls : Array Slot), lv_has ls 6 [(0, .ref (a 0)), (5, .int x5)] → va_P D vwCl ((Mw cy a) σ) H → va_S A s.heap H locs → b_X11_play_88 N k88 σ x5 = some z → W p l e ({ frames := 3, cells := 0, slots := 0, locals := 67 } : Room) s m args below meth c H locs 0 0 (nQi below D A (Mw cy a) args s z) (F0 m 88 ls []) := by
  obtain ⟨hx, hb, hr, hml, hown, hts, hlocks⟩ := C0
  intro σ x5 H locs ls hl hP hS hf
  unfold b_X11_play_88 at hf
  refine lv_iload hx hb dX11_play_88 (lv_at hl 1 rfl) ?_
  refine lv_aload_n hx hb dX11_play_90 rfl (lv_at hl 0 rfl) ?_
  refine nb_get (ci := 11) hx hb hts iX11_play_X11 hown hE hP 0 mbo_0 rfl 34 (by decide) qX11_play_266 rfl rfl dX11_play_91 ?_
  refine lv_icmp_ge (tgt := 125) hx hb dX11_play_94 (by decide) (fun hc => ?_) (fun hc => ?_)
  · replace hf := nIf_t hc hf
    refine lv_aload_n hx hb dX11_play_125 rfl (lv_at hl 0 rfl) ?_
    refine lv_aload_n hx hb dX11_play_126 rfl (lv_at hl 0 rfl) ?_
    refine nb_get (ci := 11) hx hb hts iX11_play_X11 hown hE hP 0 mbo_0 rfl 38 (by decide) qX11_play_295 rfl rfl dX11_play_127 ?_
    obtain ⟨r1, σ2, hc2, hf⟩ := nBd_e hf
    refine nb_callVi (As := [.int (σ.1 0 38)]) (rest := []) ⟨hx, hb, hml, hown, hts⟩ (c_X11_done (D := D) (A := A) (cy := cy) (a := a) (kt := kt) (vt := vt) (l := l)  hc2) (cwV 1 hts gX11_play_X11_done rfl rfl rfl (by decide +kernel) ⟨Nat.le_of_ble_eq_true rfl, Nat.le_of_ble_eq_true rfl⟩) hE hP hS mbo_0 rfl rfl hl.1 rfl (Nat.le_of_ble_eq_true rfl) dX11_play_130 (fun H locs hP hS => ?_)
    exact nb_iret hx hb hr hlocks hP hS (nSo hf) dX11_play_133
  · replace hf := nIf_f hc hf
    refine lv_iload hx hb dX11_play_97 (lv_at hl 1 rfl) ?_
    refine lv_sipush (v := 2000) hx hb dX11_play_99 (by decide) ?_
    refine lv_icmp_ge (tgt := 125) hx hb dX11_play_102 (by decide) (fun hc => ?_) (fun hc => ?_)
    · replace hf := nIf_t hc hf
      refine lv_aload_n hx hb dX11_play_125 rfl (lv_at hl 0 rfl) ?_
      refine lv_aload_n hx hb dX11_play_126 rfl (lv_at hl 0 rfl) ?_
      refine nb_get (ci := 11) hx hb hts iX11_play_X11 hown hE hP 0 mbo_0 rfl 38 (by decide) qX11_play_295 rfl rfl dX11_play_127 ?_
      obtain ⟨r3, σ4, hc4, hf⟩ := nBd_e hf
      refine nb_callVi (As := [.int (σ.1 0 38)]) (rest := []) ⟨hx, hb, hml, hown, hts⟩ (c_X11_done (D := D) (A := A) (cy := cy) (a := a) (kt := kt) (vt := vt) (l := l)  hc4) (cwV 1 hts gX11_play_X11_done rfl rfl rfl (by decide +kernel) ⟨Nat.le_of_ble_eq_true rfl, Nat.le_of_ble_eq_true rfl⟩) hE hP hS mbo_0 rfl rfl hl.1 rfl (Nat.le_of_ble_eq_true rfl) dX11_play_130 (fun H locs hP hS => ?_)
      exact nb_iret hx hb hr hlocks hP hS (nSo hf) dX11_play_133
    · replace hf := nIf_f hc hf
      refine lv_aload_n hx hb dX11_play_105 rfl (lv_at hl 0 rfl) ?_
      refine nb_get (ci := 11) hx hb hts iX11_play_X11 hown hE hP 0 mbo_0 rfl 43 (by decide) qX11_play_64 rfl rfl dX11_play_106 ?_
      refine lv_iload hx hb dX11_play_109 (lv_at hl 1 rfl) ?_
      refine lv_aload_n hx hb dX11_play_111 rfl (lv_at hl 0 rfl) ?_
      refine nb_get (ci := 11) hx hb hts iX11_play_X11 hown hE hP 0 mbo_0 rfl 30 (by decide) qX11_play_61 rfl rfl dX11_play_112 ?_
      refine lv_iload hx hb dX11_play_115 (lv_at hl 1 rfl) ?_
      obtain ⟨hin, hf⟩ := nIx_e hf
      refine na_iald hx hb hE hP mbr_14 hin dX11_play_117 ?_
      refine lv_topi (fun v5 ev5 => ?_)
      replace hf := nLet_e hf ev5
      obtain ⟨hin, hf⟩ := nIx_e hf
      refine na_iast hx hb hE hP hS mbr_15 hin dX11_play_118 (fun σ6 eσ6 H locs hP hS => ?_)
      replace hf := nLet_e hf eσ6
      obtain ⟨v7, ev7⟩ : ∃ y : Int32, y = x5 + 1 := ⟨_, rfl⟩
      replace hf := nLet_e hf ev7
      refine lv_iinc (v := v7) (lv' := [(5, .int v7), (0, .ref (a 0))]) hx hb dX11_play_119 hl (k := 1) rfl (by rw [ev7]; rfl) (by decide) rfl (fun ls hl => ?_)
      refine lv_goto (tgt := 88) hx hb dX11_play_122 (by decide) ?_
      exact K88 σ6 v7 H locs ls (lv_sub hl [1, 0] rfl) hP hS hf
def b_X11_play_0 (N : Nat) (k88 : nS → Int32 → Option (Int32 × nS)) (σ : nS) (x1 : Int32) (x2 : Int32) (x3 : Int32) (x4 : Int32) : Option (Int32 × nS) := nLet (wr σ 0 0 0) (fun σ1 => nBd (f_X11_isBook N x1 σ1) (fun r2 σ3 => (if r2 = 0 then nBd (f_X11_refused N 1 σ3) (fun r16 σ17 => some (r16, σ17)) else nBd (f_X11_areBits N x2 x3 x4 σ3) (fun r4 σ5 => (if r4 = 0 then nBd (f_X11_refused N 2 σ5) (fun r14 σ15 => some (r14, σ15)) else nBd (f_X11_plays N x1 x2 x3 x4 σ5) (fun r6 σ7 => nLet (wr σ7 0 38 r6) (fun σ8 => nLet (wr σ8 0 37 1) (fun σ9 => nLet (wr σ9 0 39 (σ9.1 0 33)) (fun σ10 => nLet (wr σ10 0 40 (σ10.1 0 34)) (fun σ11 => nLet (wr σ11 0 41 (σ11.1 0 35)) (fun σ12 => nLet (wr σ12 0 42 (σ12.1 0 36)) (fun σ13 => k88 σ13 0))))))))))))
set_option maxHeartbeats 4000000 in
set_option maxRecDepth 100000 in
theorem kb_X11_play_0 {p : Program} {l : Launch} {e : Env} {s : State} {m : MethodId} {args : Array Value} {below : List Frame} {meth : Method} {c : Code} {D : va_G} {A : Nat → Prop} {cy : Nat → ClassId} {a kt vt : Nat → Nat} {N : Nat}   (C0 : nCx p s m args meth c cX11_play 6 (some .int) RX11 wsX11_play) (hE : nEn D A cy (Mw cy a) kt vt s) {z : Int32 × nS} {k88 : nS → Int32 → Option (Int32 × nS)} (K88 : ∀ (σ : nS) (x5 : Int32) (H : Heap) (locs : List Loc) (ls : Array Slot), lv_has ls 6 [(0, .ref (a 0)), (5, .int x5)] → va_P D vwCl ((Mw cy a) σ) H → va_S A s.heap H locs → k88 σ x5 = some z → W p l e ({ frames := 3, cells := 0, slots := 0, locals := 67 } : Room) s m args below meth c H locs 0 0 (nQi below D A (Mw cy a) args s z) (F0 m 88 ls [])) : ∀ (σ : nS) (x1 : Int32) (x2 : Int32) (x3 : Int32) (x4 : Int32) (H : Heap) (locs : List Loc) (ls : Array Slot), lv_has ls 6 [(0, .ref (a 0)), (1, .int x1), (2, .int x2), (3, .int x3), (4, .int x4)] → va_P D vwCl ((Mw cy a) σ) H → va_S A s.heap H locs → b_X11_play_0 N k88 σ x1 x2 x3 x4 = some z → W p l e ({ frames := 3, cells := 0, slots := 0, locals := 67 } : Room) s m args below meth c H locs 0 0 (nQi below D A (Mw cy a) args s z) (F0 m 0 ls []) := by
  obtain ⟨hx, hb, hr, hml, hown, hts, hlocks⟩ := C0
  intro σ x1 x2 x3 x4 H locs ls hl hP hS hf
  unfold b_X11_play_0 at hf
  refine lv_aload_n hx hb dX11_play_0 rfl (lv_at hl 0 rfl) ?_
  refine lv_iconst (v := 0) hx hb dX11_play_1 (by decide) ?_
  refine nb_put (ci := 11) hx hb hts iX11_play_X11 tyX11 tyX11_ok nmX11 hown hE hP hS 0 mbo_0 rfl 0 (by decide) qX11_play_117 rfl rfl rfl rfl (Nat.le_of_ble_eq_true rfl) dX11_play_2 (mbp_0_0 _) (fun σ1 eσ1 H locs hP hS => ?_)
  replace hf := nLet_e hf eσ1
  refine lv_aload_n hx hb dX11_play_5 rfl (lv_at hl 0 rfl) ?_
  refine lv_iload_n hx hb dX11_play_6 rfl (lv_at hl 1 rfl) ?_
  obtain ⟨r2, σ3, hc3, hf⟩ := nBd_e hf
  refine nb_callVi (As := [.int x1]) (rest := []) ⟨hx, hb, hml, hown, hts⟩ (c_X11_isBook (D := D) (A := A) (cy := cy) (a := a) (kt := kt) (vt := vt) (l := l)  hc3) (cwV 1 hts gX11_play_X11_isBook rfl rfl rfl (by decide +kernel) ⟨Nat.le_of_ble_eq_true rfl, Nat.le_of_ble_eq_true rfl⟩) hE hP hS mbo_0 rfl rfl hl.1 rfl (Nat.le_of_ble_eq_true rfl) dX11_play_7 (fun H locs hP hS => ?_)
  refine lv_if_ne (tgt := 19) hx hb dX11_play_10 (by decide) (fun hc => ?_) (fun hc => ?_)
  · replace hf := nIf_f hc hf
    refine lv_iload_n hx hb dX11_play_19 rfl (lv_at hl 2 rfl) ?_
    refine lv_iload_n hx hb dX11_play_20 rfl (lv_at hl 3 rfl) ?_
    refine lv_iload hx hb dX11_play_21 (lv_at hl 4 rfl) ?_
    obtain ⟨r4, σ5, hc5, hf⟩ := nBd_e hf
    refine nb_callSi (As := [.int x2, .int x3, .int x4]) (rest := []) ⟨hx, hb, hml, hown, hts⟩ (c_X11_areBits (D := D) (A := A) (cy := cy) (a := a) (kt := kt) (vt := vt) (l := l)  hc5) (va_cwS 3 hts gX11_play_X11_areBits rfl rfl rfl (by decide +kernel) ⟨Nat.le_of_ble_eq_true rfl, Nat.le_of_ble_eq_true rfl⟩) hE hP hS rfl hl.1 rfl (Nat.le_of_ble_eq_true rfl) dX11_play_23 (fun H locs hP hS => ?_)
    refine lv_if_ne (tgt := 35) hx hb dX11_play_26 (by decide) (fun hc => ?_) (fun hc => ?_)
    · replace hf := nIf_f hc hf
      refine lv_aload_n hx hb dX11_play_35 rfl (lv_at hl 0 rfl) ?_
      refine lv_aload_n hx hb dX11_play_36 rfl (lv_at hl 0 rfl) ?_
      refine lv_iload_n hx hb dX11_play_37 rfl (lv_at hl 1 rfl) ?_
      refine lv_iload_n hx hb dX11_play_38 rfl (lv_at hl 2 rfl) ?_
      refine lv_iload_n hx hb dX11_play_39 rfl (lv_at hl 3 rfl) ?_
      refine lv_iload hx hb dX11_play_40 (lv_at hl 4 rfl) ?_
      obtain ⟨r6, σ7, hc7, hf⟩ := nBd_e hf
      refine nb_callVi (As := [.int x1, .int x2, .int x3, .int x4]) (rest := [.ref (a 0)]) ⟨hx, hb, hml, hown, hts⟩ (c_X11_plays (D := D) (A := A) (cy := cy) (a := a) (kt := kt) (vt := vt) (l := l)  hc7) (cwV 4 hts gX11_play_X11_plays rfl rfl rfl (by decide +kernel) ⟨Nat.le_of_ble_eq_true rfl, Nat.le_of_ble_eq_true rfl⟩) hE hP hS mbo_0 rfl rfl hl.1 rfl (Nat.le_of_ble_eq_true rfl) dX11_play_42 (fun H locs hP hS => ?_)
      refine nb_put (ci := 11) hx hb hts iX11_play_X11 tyX11 tyX11_ok nmX11 hown hE hP hS 0 mbo_0 rfl 38 (by decide) qX11_play_295 rfl rfl rfl rfl (Nat.le_of_ble_eq_true rfl) dX11_play_45 (mbp_0_38 _) (fun σ8 eσ8 H locs hP hS => ?_)
      replace hf := nLet_e hf eσ8
      refine lv_aload_n hx hb dX11_play_48 rfl (lv_at hl 0 rfl) ?_
      refine lv_iconst (v := 1) hx hb dX11_play_49 (by decide) ?_
      refine nb_put (ci := 11) hx hb hts iX11_play_X11 tyX11 tyX11_ok nmX11 hown hE hP hS 0 mbo_0 rfl 37 (by decide) qX11_play_298 rfl rfl rfl rfl (Nat.le_of_ble_eq_true rfl) dX11_play_50 (mbp_0_37 _) (fun σ9 eσ9 H locs hP hS => ?_)
      replace hf := nLet_e hf eσ9
      refine lv_aload_n hx hb dX11_play_53 rfl (lv_at hl 0 rfl) ?_
      refine lv_aload_n hx hb dX11_play_54 rfl (lv_at hl 0 rfl) ?_
      refine nb_get (ci := 11) hx hb hts iX11_play_X11 hown hE hP 0 mbo_0 rfl 33 (by decide) qX11_play_263 rfl rfl dX11_play_55 ?_
      refine nb_put (ci := 11) hx hb hts iX11_play_X11 tyX11 tyX11_ok nmX11 hown hE hP hS 0 mbo_0 rfl 39 (by decide) qX11_play_302 rfl rfl rfl rfl (Nat.le_of_ble_eq_true rfl) dX11_play_58 (mbp_0_39 _) (fun σ10 eσ10 H locs hP hS => ?_)
      replace hf := nLet_e hf eσ10
      refine lv_aload_n hx hb dX11_play_61 rfl (lv_at hl 0 rfl) ?_
      refine lv_aload_n hx hb dX11_play_62 rfl (lv_at hl 0 rfl) ?_
      refine nb_get (ci := 11) hx hb hts iX11_play_X11 hown hE hP 0 mbo_0 rfl 34 (by decide) qX11_play_266 rfl rfl dX11_play_63 ?_
      refine nb_put (ci := 11) hx hb hts iX11_play_X11 tyX11 tyX11_ok nmX11 hown hE hP hS 0 mbo_0 rfl 40 (by decide) qX11_play_305 rfl rfl rfl rfl (Nat.le_of_ble_eq_true rfl) dX11_play_66 (mbp_0_40 _) (fun σ11 eσ11 H locs hP hS => ?_)
      replace hf := nLet_e hf eσ11
      refine lv_aload_n hx hb dX11_play_69 rfl (lv_at hl 0 rfl) ?_
      refine lv_aload_n hx hb dX11_play_70 rfl (lv_at hl 0 rfl) ?_
      refine nb_get (ci := 11) hx hb hts iX11_play_X11 hown hE hP 0 mbo_0 rfl 35 (by decide) qX11_play_260 rfl rfl dX11_play_71 ?_
      refine nb_put (ci := 11) hx hb hts iX11_play_X11 tyX11 tyX11_ok nmX11 hown hE hP hS 0 mbo_0 rfl 41 (by decide) qX11_play_308 rfl rfl rfl rfl (Nat.le_of_ble_eq_true rfl) dX11_play_74 (mbp_0_41 _) (fun σ12 eσ12 H locs hP hS => ?_)
      replace hf := nLet_e hf eσ12
      refine lv_aload_n hx hb dX11_play_77 rfl (lv_at hl 0 rfl) ?_
      refine lv_aload_n hx hb dX11_play_78 rfl (lv_at hl 0 rfl) ?_
      refine nb_get (ci := 11) hx hb hts iX11_play_X11 hown hE hP 0 mbo_0 rfl 36 (by decide) qX11_play_272 rfl rfl dX11_play_79 ?_
      refine nb_put (ci := 11) hx hb hts iX11_play_X11 tyX11 tyX11_ok nmX11 hown hE hP hS 0 mbo_0 rfl 42 (by decide) qX11_play_311 rfl rfl rfl rfl (Nat.le_of_ble_eq_true rfl) dX11_play_82 (mbp_0_42 _) (fun σ13 eσ13 H locs hP hS => ?_)
      replace hf := nLet_e hf eσ13
      refine lv_iconst (v := 0) hx hb dX11_play_85 (by decide) ?_
      refine lv_istore (lv' := [(5, .int 0), (0, .ref (a 0)), (1, .int x1), (2, .int x2), (3, .int x3), (4, .int x4)]) hx hb dX11_play_86 hl (by decide) rfl (fun ls hl => ?_)
      exact K88 σ13 0 H locs ls (lv_sub hl [1, 0] rfl) hP hS hf
    · replace hf := nIf_t hc hf
      refine lv_aload_n hx hb dX11_play_29 rfl (lv_at hl 0 rfl) ?_
      refine lv_iconst (v := 2) hx hb dX11_play_30 (by decide) ?_
      obtain ⟨r14, σ15, hc15, hf⟩ := nBd_e hf
      refine nb_callVi (As := [.int 2]) (rest := []) ⟨hx, hb, hml, hown, hts⟩ (c_X11_refused (D := D) (A := A) (cy := cy) (a := a) (kt := kt) (vt := vt) (l := l)  hc15) (cwV 1 hts gX11_play_X11_refused rfl rfl rfl (by decide +kernel) ⟨Nat.le_of_ble_eq_true rfl, Nat.le_of_ble_eq_true rfl⟩) hE hP hS mbo_0 rfl rfl hl.1 rfl (Nat.le_of_ble_eq_true rfl) dX11_play_31 (fun H locs hP hS => ?_)
      exact nb_iret hx hb hr hlocks hP hS (nSo hf) dX11_play_34
  · replace hf := nIf_t hc hf
    refine lv_aload_n hx hb dX11_play_13 rfl (lv_at hl 0 rfl) ?_
    refine lv_iconst (v := 1) hx hb dX11_play_14 (by decide) ?_
    obtain ⟨r16, σ17, hc17, hf⟩ := nBd_e hf
    refine nb_callVi (As := [.int 1]) (rest := []) ⟨hx, hb, hml, hown, hts⟩ (c_X11_refused (D := D) (A := A) (cy := cy) (a := a) (kt := kt) (vt := vt) (l := l)  hc17) (cwV 1 hts gX11_play_X11_refused rfl rfl rfl (by decide +kernel) ⟨Nat.le_of_ble_eq_true rfl, Nat.le_of_ble_eq_true rfl⟩) hE hP hS mbo_0 rfl rfl hl.1 rfl (Nat.le_of_ble_eq_true rfl) dX11_play_15 (fun H locs hP hS => ?_)
    exact nb_iret hx hb hr hlocks hP hS (nSo hf) dX11_play_18
def l_X11_play_88 (N : Nat) : nS → Int32 → Option (Int32 × nS) := nLp (fun _ _ => none) (fun again => b_X11_play_88 N again) N
theorem kl_X11_play_88 {p : Program} {l : Launch} {e : Env} {s : State} {m : MethodId} {args : Array Value} {below : List Frame} {meth : Method} {c : Code} {D : va_G} {A : Nat → Prop} {cy : Nat → ClassId} {a kt vt : Nat → Nat} {N : Nat}   (C0 : nCx p s m args meth c cX11_play 6 (some .int) RX11 wsX11_play) (hE : nEn D A cy (Mw cy a) kt vt s) {z : Int32 × nS} : ∀ (σ : nS) (x5 : Int32) (H : Heap) (locs : List Loc) (ls : Array Slot), lv_has ls 6 [(0, .ref (a 0)), (5, .int x5)] → va_P D vwCl ((Mw cy a) σ) H → va_S A s.heap H locs → l_X11_play_88 N σ x5 = some z → W p l e ({ frames := 3, cells := 0, slots := 0, locals := 67 } : Room) s m args below meth c H locs 0 0 (nQi below D A (Mw cy a) args s z) (F0 m 88 ls []) := by
  have main : ∀ (fu : Nat), ∀ (σ : nS) (x5 : Int32) (H : Heap) (locs : List Loc) (ls : Array Slot), lv_has ls 6 [(0, .ref (a 0)), (5, .int x5)] → va_P D vwCl ((Mw cy a) σ) H → va_S A s.heap H locs → nLp (fun _ _ => none) (fun again => b_X11_play_88 N again) fu σ x5 = some z → W p l e ({ frames := 3, cells := 0, slots := 0, locals := 67 } : Room) s m args below meth c H locs 0 0 (nQi below D A (Mw cy a) args s z) (F0 m 88 ls []) := by
    intro fu
    induction fu with
    | zero => intro σ x5 H locs ls hl hP hS hf; cases hf
    | succ fu ih => exact kb_X11_play_88 (N := N)  C0 hE ih
  exact main N
def l_X11_play_0 (N : Nat) : nS → Int32 → Int32 → Int32 → Int32 → Option (Int32 × nS) := b_X11_play_0 N (l_X11_play_88 N)
theorem kl_X11_play_0 {p : Program} {l : Launch} {e : Env} {s : State} {m : MethodId} {args : Array Value} {below : List Frame} {meth : Method} {c : Code} {D : va_G} {A : Nat → Prop} {cy : Nat → ClassId} {a kt vt : Nat → Nat} {N : Nat}   (C0 : nCx p s m args meth c cX11_play 6 (some .int) RX11 wsX11_play) (hE : nEn D A cy (Mw cy a) kt vt s) {z : Int32 × nS} : ∀ (σ : nS) (x1 : Int32) (x2 : Int32) (x3 : Int32) (x4 : Int32) (H : Heap) (locs : List Loc) (ls : Array Slot), lv_has ls 6 [(0, .ref (a 0)), (1, .int x1), (2, .int x2), (3, .int x3), (4, .int x4)] → va_P D vwCl ((Mw cy a) σ) H → va_S A s.heap H locs → l_X11_play_0 N σ x1 x2 x3 x4 = some z → W p l e ({ frames := 3, cells := 0, slots := 0, locals := 67 } : Room) s m args below meth c H locs 0 0 (nQi below D A (Mw cy a) args s z) (F0 m 0 ls []) := by
  exact kb_X11_play_0 (N := N)  C0 hE (kl_X11_play_88 (N := N)  C0 hE)
def f_X11_play (N : Nat) (x1 : Int32) (x2 : Int32) (x3 : Int32) (x4 : Int32) (σ : nS) : Option (Int32 × nS) := l_X11_play_0 N σ x1 x2 x3 x4
set_option maxHeartbeats 4000000 in
set_option maxRecDepth 100000 in
theorem c_X11_play {l : Launch} {D : va_G} {A : Nat → Prop} {cy : Nat → ClassId} {a kt vt : Nat → Nat} {N : Nat}   {x1 : Int32} {x2 : Int32} {x3 : Int32} {x4 : Int32} {σ : nS} {r : Int32} {σ' : nS} (hf : f_X11_play N x1 x2 x3 x4 σ = some (r, σ')) : nMi l yX11_play wsX11_play ({ frames := 3, cells := 0, slots := 0, locals := 67 } : Room) D A cy (Mw cy a) kt vt [.ref (a 0), .int x1, .int x2, .int x3, .int x4] σ r σ' := by
  refine Met.ofW (cc := cX11_play) (maxL := 6) (ret := (some .int)) (by decide) rfl ?_
  intro p e s m args below meth c s₁ B hml hv
  obtain ⟨rfl, hP, hE⟩ := hv
  have hl := lv_entry ([.ref (a 0), .int x1, .int x2, .int x3, .int x4]) (n := 6) (Nat.le_of_ble_eq_true rfl)
  rw [lg_entry_eq]
  generalize (lg_sl ([.ref (a 0), .int x1, .int x2, .int x3, .int x4]) ++ List.replicate (6 - (lg_sl ([.ref (a 0), .int x1, .int x2, .int x3, .int x4])).length) Slot.unset).toArray = ls at hl ⊢
  have C0 : nCx p s m _ meth c cX11_play 6 (some .int) RX11 wsX11_play := ⟨B.exec, B.bytes, B.returns, hml, findClass_of_methodNamed B.named, atoms_spec (ws := wsX11_play) B.pre, B.notSynchronized⟩
  exact kl_X11_play_0 (N := N)  C0 hE (z := (r, σ')) σ x1 x2 x3 x4 _ _ ls hl hP va_S.rf hf
/-! X11_played -/
set_option maxRecDepth 20000 in
theorem iX11_played_X11 : ∀ w ∈ u_ws RX11 TX11 68, w ∈ wsX11_played := fun _ h => List.mem_cons_of_mem _ (List.mem_append_right _ h)
set_option maxRecDepth 20000 in
theorem qX11_played_117 : Cond.fieldLink RX11 117 RX11 (TX11 0).2.1 (TX11 0).2.2.1 ∈ wsX11_played := by decide +kernel
set_option maxRecDepth 20000 in
theorem qX11_played_298 : Cond.fieldLink RX11 298 RX11 (TX11 37).2.1 (TX11 37).2.2.1 ∈ wsX11_played := by decide +kernel
set_option maxRecDepth 20000 in
theorem qX11_played_120 : Cond.fieldLink RX11 120 RX11 (TX11 1).2.1 (TX11 1).2.2.1 ∈ wsX11_played := by decide +kernel
set_option maxRecDepth 20000 in
theorem qX11_played_9 : Cond.fieldLink RX11 9 RX11 (TX11 2).2.1 (TX11 2).2.2.1 ∈ wsX11_played := by decide +kernel
set_option maxRecDepth 20000 in
theorem qX11_played_302 : Cond.fieldLink RX11 302 RX11 (TX11 39).2.1 (TX11 39).2.2.1 ∈ wsX11_played := by decide +kernel
set_option maxRecDepth 20000 in
theorem qX11_played_305 : Cond.fieldLink RX11 305 RX11 (TX11 40).2.1 (TX11 40).2.2.1 ∈ wsX11_played := by decide +kernel
set_option maxRecDepth 20000 in
theorem qX11_played_308 : Cond.fieldLink RX11 308 RX11 (TX11 41).2.1 (TX11 41).2.2.1 ∈ wsX11_played := by decide +kernel
set_option maxRecDepth 20000 in
theorem qX11_played_311 : Cond.fieldLink RX11 311 RX11 (TX11 42).2.1 (TX11 42).2.2.1 ∈ wsX11_played := by decide +kernel
def b_X11_played_0 (N : Nat) (σ : nS) (x1 : Int32) : Option (Int32 × nS) := nLet (wr σ 0 0 0) (fun σ1 => (if (σ1.1 0 37) = 0 then nBd (f_X11_refused N 5 σ1) (fun r4 σ5 => some (r4, σ5)) else nLet (wr σ1 0 1 0) (fun σ2 => nLet (wr σ2 0 2 (-1)) (fun σ3 => (if x1 = 0 then some ((σ3.1 0 39), σ3) else (if x1 = 1 then some ((σ3.1 0 40), σ3) else (if x1 = 2 then some ((σ3.1 0 41), σ3) else (if x1 = 3 then some ((σ3.1 0 42), σ3) else some ((-1), σ3)))))))))
set_option maxHeartbeats 4000000 in
set_option maxRecDepth 100000 in
theorem kb_X11_played_0 {p : Program} {l : Launch} {e : Env} {s : State} {m : MethodId} {args : Array Value} {below : List Frame} {meth : Method} {c : Code} {D : va_G} {A : Nat → Prop} {cy : Nat → ClassId} {a kt vt : Nat → Nat} {N : Nat}   (C0 : nCx p s m args meth c cX11_played 2 (some .int) RX11 wsX11_played) (hE : nEn D A cy (Mw cy a) kt vt s) {z : Int32 × nS} : ∀ (σ : nS) (x1 : Int32) (H : Heap) (locs : List Loc) (ls : Array Slot), lv_has ls 2 [(0, .ref (a 0)), (1, .int x1)] → va_P D vwCl ((Mw cy a) σ) H → va_S A s.heap H locs → b_X11_played_0 N σ x1 = some z → W p l e ({ frames := 1, cells := 0, slots := 0, locals := 21 } : Room) s m args below meth c H locs 0 0 (nQi below D A (Mw cy a) args s z) (F0 m 0 ls []) := by
  obtain ⟨hx, hb, hr, hml, hown, hts, hlocks⟩ := C0
  intro σ x1 H locs ls hl hP hS hf
  unfold b_X11_played_0 at hf
  refine lv_aload_n hx hb dX11_played_0 rfl (lv_at hl 0 rfl) ?_
  refine lv_iconst (v := 0) hx hb dX11_played_1 (by decide) ?_
  refine nb_put (ci := 11) hx hb hts iX11_played_X11 tyX11 tyX11_ok nmX11 hown hE hP hS 0 mbo_0 rfl 0 (by decide) qX11_played_117 rfl rfl rfl rfl (Nat.le_of_ble_eq_true rfl) dX11_played_2 (mbp_0_0 _) (fun σ1 eσ1 H locs hP hS => ?_)
  replace hf := nLet_e hf eσ1
  refine lv_aload_n hx hb dX11_played_5 rfl (lv_at hl 0 rfl) ?_
  refine nb_get (ci := 11) hx hb hts iX11_played_X11 hown hE hP 0 mbo_0 rfl 37 (by decide) qX11_played_298 rfl rfl dX11_played_6 ?_
  refine lv_if_ne (tgt := 18) hx hb dX11_played_9 (by decide) (fun hc => ?_) (fun hc => ?_)
  · replace hf := nIf_f hc hf
    refine lv_aload_n hx hb dX11_played_18 rfl (lv_at hl 0 rfl) ?_
    refine lv_iconst (v := 0) hx hb dX11_played_19 (by decide) ?_
    refine nb_put (ci := 11) hx hb hts iX11_played_X11 tyX11 tyX11_ok nmX11 hown hE hP hS 0 mbo_0 rfl 1 (by decide) qX11_played_120 rfl rfl rfl rfl (Nat.le_of_ble_eq_true rfl) dX11_played_20 (mbp_0_1 _) (fun σ2 eσ2 H locs hP hS => ?_)
    replace hf := nLet_e hf eσ2
    refine lv_aload_n hx hb dX11_played_23 rfl (lv_at hl 0 rfl) ?_
    refine lv_iconst (v := (-1)) hx hb dX11_played_24 (by decide) ?_
    refine nb_put (ci := 11) hx hb hts iX11_played_X11 tyX11 tyX11_ok nmX11 hown hE hP hS 0 mbo_0 rfl 2 (by decide) qX11_played_9 rfl rfl rfl rfl (Nat.le_of_ble_eq_true rfl) dX11_played_25 (mbp_0_2 _) (fun σ3 eσ3 H locs hP hS => ?_)
    replace hf := nLet_e hf eσ3
    refine lv_iload_n hx hb dX11_played_28 rfl (lv_at hl 1 rfl) ?_
    by_cases hs0 : x1 = 0
    · replace hf := nIf_t hs0 hf
      refine lv_tableIn (tgt := 60) (off := 31) hx hb dX11_played_29 (by rw [hs0]; decide) (by rw [hs0]; decide) (by rw [hs0]; rfl) (by decide) ?_
      refine lv_aload_n hx hb dX11_played_60 rfl (lv_at hl 0 rfl) ?_
      refine nb_get (ci := 11) hx hb hts iX11_played_X11 hown hE hP 0 mbo_0 rfl 39 (by decide) qX11_played_302 rfl rfl dX11_played_61 ?_
      exact nb_iret hx hb hr hlocks hP hS (nSo hf) dX11_played_64
    · replace hf := nIf_f hs0 hf
      by_cases hs1 : x1 = 1
      · replace hf := nIf_t hs1 hf
        refine lv_tableIn (tgt := 65) (off := 36) hx hb dX11_played_29 (by rw [hs1]; decide) (by rw [hs1]; decide) (by rw [hs1]; rfl) (by decide) ?_
        refine lv_aload_n hx hb dX11_played_65 rfl (lv_at hl 0 rfl) ?_
        refine nb_get (ci := 11) hx hb hts iX11_played_X11 hown hE hP 0 mbo_0 rfl 40 (by decide) qX11_played_305 rfl rfl dX11_played_66 ?_
        exact nb_iret hx hb hr hlocks hP hS (nSo hf) dX11_played_69
      · replace hf := nIf_f hs1 hf
        by_cases hs2 : x1 = 2
        · replace hf := nIf_t hs2 hf
          refine lv_tableIn (tgt := 70) (off := 41) hx hb dX11_played_29 (by rw [hs2]; decide) (by rw [hs2]; decide) (by rw [hs2]; rfl) (by decide) ?_
          refine lv_aload_n hx hb dX11_played_70 rfl (lv_at hl 0 rfl) ?_
          refine nb_get (ci := 11) hx hb hts iX11_played_X11 hown hE hP 0 mbo_0 rfl 41 (by decide) qX11_played_308 rfl rfl dX11_played_71 ?_
          exact nb_iret hx hb hr hlocks hP hS (nSo hf) dX11_played_74
        · replace hf := nIf_f hs2 hf
          by_cases hs3 : x1 = 3
          · replace hf := nIf_t hs3 hf
            refine lv_tableIn (tgt := 75) (off := 46) hx hb dX11_played_29 (by rw [hs3]; decide) (by rw [hs3]; decide) (by rw [hs3]; rfl) (by decide) ?_
            refine lv_aload_n hx hb dX11_played_75 rfl (lv_at hl 0 rfl) ?_
            refine nb_get (ci := 11) hx hb hts iX11_played_X11 hown hE hP 0 mbo_0 rfl 42 (by decide) qX11_played_311 rfl rfl dX11_played_76 ?_
            exact nb_iret hx hb hr hlocks hP hS (nSo hf) dX11_played_79
          · replace hf := nIf_f hs3 hf
            have gs0 := nI_ne (z := 0) hs0 (by decide)
            have gs1 := nI_ne (z := 1) hs1 (by decide)
            have gs2 := nI_ne (z := 2) hs2 (by decide)
            have gs3 := nI_ne (z := 3) hs3 (by decide)
            refine lv_tableOut (tgt := 80) hx hb dX11_played_29 (by omega) (by decide) ?_
            refine lv_iconst (v := (-1)) hx hb dX11_played_80 (by decide) ?_
            exact nb_iret hx hb hr hlocks hP hS (nSo hf) dX11_played_81
  · replace hf := nIf_t hc hf
    refine lv_aload_n hx hb dX11_played_12 rfl (lv_at hl 0 rfl) ?_
    refine lv_iconst (v := 5) hx hb dX11_played_13 (by decide) ?_
    obtain ⟨r4, σ5, hc5, hf⟩ := nBd_e hf
    refine nb_callVi (As := [.int 5]) (rest := []) ⟨hx, hb, hml, hown, hts⟩ (c_X11_refused (D := D) (A := A) (cy := cy) (a := a) (kt := kt) (vt := vt) (l := l)  hc5) (cwV 1 hts gX11_played_X11_refused rfl rfl rfl (by decide +kernel) ⟨Nat.le_of_ble_eq_true rfl, Nat.le_of_ble_eq_true rfl⟩) hE hP hS mbo_0 rfl rfl hl.1 rfl (Nat.le_of_ble_eq_true rfl) dX11_played_14 (fun H locs hP hS => ?_)
    exact nb_iret hx hb hr hlocks hP hS (nSo hf) dX11_played_17
def l_X11_played_0 (N : Nat) : nS → Int32 → Option (Int32 × nS) := b_X11_played_0 N
theorem kl_X11_played_0 {p : Program} {l : Launch} {e : Env} {s : State} {m : MethodId} {args : Array Value} {below : List Frame} {meth : Method} {c : Code} {D : va_G} {A : Nat → Prop} {cy : Nat → ClassId} {a kt vt : Nat → Nat} {N : Nat}   (C0 : nCx p s m args meth c cX11_played 2 (some .int) RX11 wsX11_played) (hE : nEn D A cy (Mw cy a) kt vt s) {z : Int32 × nS} : ∀ (σ : nS) (x1 : Int32) (H : Heap) (locs : List Loc) (ls : Array Slot), lv_has ls 2 [(0, .ref (a 0)), (1, .int x1)] → va_P D vwCl ((Mw cy a) σ) H → va_S A s.heap H locs → l_X11_played_0 N σ x1 = some z → W p l e ({ frames := 1, cells := 0, slots := 0, locals := 21 } : Room) s m args below meth c H locs 0 0 (nQi below D A (Mw cy a) args s z) (F0 m 0 ls []) := by
  exact kb_X11_played_0 (N := N)  C0 hE
def f_X11_played (N : Nat) (x1 : Int32) (σ : nS) : Option (Int32 × nS) := l_X11_played_0 N σ x1
set_option maxHeartbeats 4000000 in
set_option maxRecDepth 100000 in
theorem c_X11_played {l : Launch} {D : va_G} {A : Nat → Prop} {cy : Nat → ClassId} {a kt vt : Nat → Nat} {N : Nat}   {x1 : Int32} {σ : nS} {r : Int32} {σ' : nS} (hf : f_X11_played N x1 σ = some (r, σ')) : nMi l yX11_played wsX11_played ({ frames := 1, cells := 0, slots := 0, locals := 21 } : Room) D A cy (Mw cy a) kt vt [.ref (a 0), .int x1] σ r σ' := by
  refine Met.ofW (cc := cX11_played) (maxL := 2) (ret := (some .int)) (by decide) rfl ?_
  intro p e s m args below meth c s₁ B hml hv
  obtain ⟨rfl, hP, hE⟩ := hv
  have hl := lv_entry ([.ref (a 0), .int x1]) (n := 2) (Nat.le_of_ble_eq_true rfl)
  rw [lg_entry_eq]
  generalize (lg_sl ([.ref (a 0), .int x1]) ++ List.replicate (2 - (lg_sl ([.ref (a 0), .int x1])).length) Slot.unset).toArray = ls at hl ⊢
  have C0 : nCx p s m _ meth c cX11_played 2 (some .int) RX11 wsX11_played := ⟨B.exec, B.bytes, B.returns, hml, findClass_of_methodNamed B.named, atoms_spec (ws := wsX11_played) B.pre, B.notSynchronized⟩
  exact kl_X11_played_0 (N := N)  C0 hE (z := (r, σ')) σ x1 _ _ ls hl hP va_S.rf hf
/-! X11_path -/
set_option maxRecDepth 20000 in
theorem iX11_path_X11 : ∀ w ∈ u_ws RX11 TX11 68, w ∈ wsX11_path := fun _ h => List.mem_cons_of_mem _ (List.mem_append_right _ h)
set_option maxRecDepth 20000 in
theorem qX11_path_117 : Cond.fieldLink RX11 117 RX11 (TX11 0).2.1 (TX11 0).2.2.1 ∈ wsX11_path := by decide +kernel
set_option maxRecDepth 20000 in
theorem qX11_path_298 : Cond.fieldLink RX11 298 RX11 (TX11 37).2.1 (TX11 37).2.2.1 ∈ wsX11_path := by decide +kernel
set_option maxRecDepth 20000 in
theorem qX11_path_305 : Cond.fieldLink RX11 305 RX11 (TX11 40).2.1 (TX11 40).2.2.1 ∈ wsX11_path := by decide +kernel
set_option maxRecDepth 20000 in
theorem qX11_path_64 : Cond.fieldLink RX11 64 RX11 (TX11 43).2.1 (TX11 43).2.2.1 ∈ wsX11_path := by decide +kernel
def b_X11_path_0 (N : Nat) (σ : nS) (x1 : Int32) : Option (Int32 × nS) := nLet (wr σ 0 0 0) (fun σ1 => (if (σ1.1 0 37) = 0 then some ((-1), σ1) else (if x1 < 0 then some ((-1), σ1) else (if (σ1.1 0 40) ≤ x1 then some ((-1), σ1) else (if (2000 : Int32) ≤ x1 then some ((-1), σ1) else nIx x1 2000 (nLet (σ1.1 15 (x1).toNatClampNeg) (fun v2 => some (v2, σ1))))))))
set_option maxHeartbeats 4000000 in
set_option maxRecDepth 100000 in
theorem kb_X11_path_0 {p : Program} {l : Launch} {e : Env} {s : State} {m : MethodId} {args : Array Value} {below : List Frame} {meth : Method} {c : Code} {D : va_G} {A : Nat → Prop} {cy : Nat → ClassId} {a kt vt : Nat → Nat} {N : Nat}   (C0 : nCx p s m args meth c cX11_path 2 (some .int) RX11 wsX11_path) (hE : nEn D A cy (Mw cy a) kt vt s) {z : Int32 × nS} : ∀ (σ : nS) (x1 : Int32) (H : Heap) (locs : List Loc) (ls : Array Slot), lv_has ls 2 [(0, .ref (a 0)), (1, .int x1)] → va_P D vwCl ((Mw cy a) σ) H → va_S A s.heap H locs → b_X11_path_0 N σ x1 = some z → W p l e ({ frames := 0, cells := 0, slots := 0, locals := 0 } : Room) s m args below meth c H locs 0 0 (nQi below D A (Mw cy a) args s z) (F0 m 0 ls []) := by
  obtain ⟨hx, hb, hr, hml, hown, hts, hlocks⟩ := C0
  intro σ x1 H locs ls hl hP hS hf
  unfold b_X11_path_0 at hf
  refine lv_aload_n hx hb dX11_path_0 rfl (lv_at hl 0 rfl) ?_
  refine lv_iconst (v := 0) hx hb dX11_path_1 (by decide) ?_
  refine nb_put (ci := 11) hx hb hts iX11_path_X11 tyX11 tyX11_ok nmX11 hown hE hP hS 0 mbo_0 rfl 0 (by decide) qX11_path_117 rfl rfl rfl rfl (Nat.le_of_ble_eq_true rfl) dX11_path_2 (mbp_0_0 _) (fun σ1 eσ1 H locs hP hS => ?_)
  replace hf := nLet_e hf eσ1
  refine lv_aload_n hx hb dX11_path_5 rfl (lv_at hl 0 rfl) ?_
  refine nb_get (ci := 11) hx hb hts iX11_path_X11 hown hE hP 0 mbo_0 rfl 37 (by decide) qX11_path_298 rfl rfl dX11_path_6 ?_
  refine lv_if_eq (tgt := 40) hx hb dX11_path_9 (by decide) (fun hc => ?_) (fun hc => ?_)
  · replace hf := nIf_t hc hf
    refine lv_iconst (v := (-1)) hx hb dX11_path_40 (by decide) ?_
    exact nb_iret hx hb hr hlocks hP hS (nSo hf) dX11_path_41
  · replace hf := nIf_f hc hf
    refine lv_iload_n hx hb dX11_path_12 rfl (lv_at hl 1 rfl) ?_
    refine lv_if_lt (tgt := 40) hx hb dX11_path_13 (by decide) (fun hc => ?_) (fun hc => ?_)
    · replace hf := nIf_t hc hf
      refine lv_iconst (v := (-1)) hx hb dX11_path_40 (by decide) ?_
      exact nb_iret hx hb hr hlocks hP hS (nSo hf) dX11_path_41
    · replace hf := nIf_f hc hf
      refine lv_iload_n hx hb dX11_path_16 rfl (lv_at hl 1 rfl) ?_
      refine lv_aload_n hx hb dX11_path_17 rfl (lv_at hl 0 rfl) ?_
      refine nb_get (ci := 11) hx hb hts iX11_path_X11 hown hE hP 0 mbo_0 rfl 40 (by decide) qX11_path_305 rfl rfl dX11_path_18 ?_
      refine lv_icmp_ge (tgt := 40) hx hb dX11_path_21 (by decide) (fun hc => ?_) (fun hc => ?_)
      · replace hf := nIf_t hc hf
        refine lv_iconst (v := (-1)) hx hb dX11_path_40 (by decide) ?_
        exact nb_iret hx hb hr hlocks hP hS (nSo hf) dX11_path_41
      · replace hf := nIf_f hc hf
        refine lv_iload_n hx hb dX11_path_24 rfl (lv_at hl 1 rfl) ?_
        refine lv_sipush (v := 2000) hx hb dX11_path_25 (by decide) ?_
        refine lv_icmp_ge (tgt := 40) hx hb dX11_path_28 (by decide) (fun hc => ?_) (fun hc => ?_)
        · replace hf := nIf_t hc hf
          refine lv_iconst (v := (-1)) hx hb dX11_path_40 (by decide) ?_
          exact nb_iret hx hb hr hlocks hP hS (nSo hf) dX11_path_41
        · replace hf := nIf_f hc hf
          refine lv_aload_n hx hb dX11_path_31 rfl (lv_at hl 0 rfl) ?_
          refine nb_get (ci := 11) hx hb hts iX11_path_X11 hown hE hP 0 mbo_0 rfl 43 (by decide) qX11_path_64 rfl rfl dX11_path_32 ?_
          refine lv_iload_n hx hb dX11_path_35 rfl (lv_at hl 1 rfl) ?_
          obtain ⟨hin, hf⟩ := nIx_e hf
          refine na_iald hx hb hE hP mbr_15 hin dX11_path_36 ?_
          refine lv_topi (fun v2 ev2 => ?_)
          replace hf := nLet_e hf ev2
          refine lv_goto (tgt := 41) hx hb dX11_path_37 (by decide) ?_
          exact nb_iret hx hb hr hlocks hP hS (nSo hf) dX11_path_41
def l_X11_path_0 (N : Nat) : nS → Int32 → Option (Int32 × nS) := b_X11_path_0 N
theorem kl_X11_path_0 {p : Program} {l : Launch} {e : Env} {s : State} {m : MethodId} {args : Array Value} {below : List Frame} {meth : Method} {c : Code} {D : va_G} {A : Nat → Prop} {cy : Nat → ClassId} {a kt vt : Nat → Nat} {N : Nat}   (C0 : nCx p s m args meth c cX11_path 2 (some .int) RX11 wsX11_path) (hE : nEn D A cy (Mw cy a) kt vt s) {z : Int32 × nS} : ∀ (σ : nS) (x1 : Int32) (H : Heap) (locs : List Loc) (ls : Array Slot), lv_has ls 2 [(0, .ref (a 0)), (1, .int x1)] → va_P D vwCl ((Mw cy a) σ) H → va_S A s.heap H locs → l_X11_path_0 N σ x1 = some z → W p l e ({ frames := 0, cells := 0, slots := 0, locals := 0 } : Room) s m args below meth c H locs 0 0 (nQi below D A (Mw cy a) args s z) (F0 m 0 ls []) := by
  exact kb_X11_path_0 (N := N)  C0 hE
def f_X11_path (N : Nat) (x1 : Int32) (σ : nS) : Option (Int32 × nS) := l_X11_path_0 N σ x1
set_option maxHeartbeats 4000000 in
set_option maxRecDepth 100000 in
theorem c_X11_path {l : Launch} {D : va_G} {A : Nat → Prop} {cy : Nat → ClassId} {a kt vt : Nat → Nat} {N : Nat}   {x1 : Int32} {σ : nS} {r : Int32} {σ' : nS} (hf : f_X11_path N x1 σ = some (r, σ')) : nMi l yX11_path wsX11_path ({ frames := 0, cells := 0, slots := 0, locals := 0 } : Room) D A cy (Mw cy a) kt vt [.ref (a 0), .int x1] σ r σ' := by
  refine Met.ofW (cc := cX11_path) (maxL := 2) (ret := (some .int)) (by decide) rfl ?_
  intro p e s m args below meth c s₁ B hml hv
  obtain ⟨rfl, hP, hE⟩ := hv
  have hl := lv_entry ([.ref (a 0), .int x1]) (n := 2) (Nat.le_of_ble_eq_true rfl)
  rw [lg_entry_eq]
  generalize (lg_sl ([.ref (a 0), .int x1]) ++ List.replicate (2 - (lg_sl ([.ref (a 0), .int x1])).length) Slot.unset).toArray = ls at hl ⊢
  have C0 : nCx p s m _ meth c cX11_path 2 (some .int) RX11 wsX11_path := ⟨B.exec, B.bytes, B.returns, hml, findClass_of_methodNamed B.named, atoms_spec (ws := wsX11_path) B.pre, B.notSynchronized⟩
  exact kl_X11_path_0 (N := N)  C0 hE (z := (r, σ')) σ x1 _ _ ls hl hP va_S.rf hf
/-! X11_chooses -/
set_option maxRecDepth 20000 in
theorem iX11_chooses_X11 : ∀ w ∈ u_ws RX11 TX11 68, w ∈ wsX11_chooses := fun _ h => List.mem_cons_of_mem _ (List.mem_append_right _ h)
set_option maxRecDepth 20000 in
theorem qX11_chooses_314 : Cond.fieldLink RX11 314 RX11 (TX11 46).2.1 (TX11 46).2.2.1 ∈ wsX11_chooses := by decide +kernel
set_option maxRecDepth 20000 in
theorem qX11_chooses_140 : Cond.fieldLink RX11 140 RX11 (TX11 6).2.1 (TX11 6).2.2.1 ∈ wsX11_chooses := by decide +kernel
set_option maxRecDepth 20000 in
theorem qX11_chooses_133 : Cond.fieldLink RX11 133 RX11 (TX11 5).2.1 (TX11 5).2.2.1 ∈ wsX11_chooses := by decide +kernel
set_option maxRecDepth 20000 in
theorem qX11_chooses_67 : Cond.fieldLink RX11 67 RX11 (TX11 44).2.1 (TX11 44).2.2.1 ∈ wsX11_chooses := by decide +kernel
set_option maxRecDepth 20000 in
theorem qX11_chooses_70 : Cond.fieldLink RX11 70 RX11 (TX11 45).2.1 (TX11 45).2.2.1 ∈ wsX11_chooses := by decide +kernel
def b_X11_chooses_145 (N : Nat) (k69 : nS → Int32 → Int32 → Int32 → Int32 → Int32 → Int32 → Int32 → Option (Int32 × nS)) (σ : nS) (x2 : Int32) (x3 : Int32) (x4 : Int32) (x5 : Int32) (x6 : Int32) (x7 : Int32) (x8 : Int32) : Option (Int32 × nS) := nLet (x8 + 1 : Int32) (fun v1 => k69 σ x2 x3 x4 x5 x6 x7 v1)
set_option maxHeartbeats 4000000 in
set_option maxRecDepth 100000 in
theorem kb_X11_chooses_145 {p : Program} {l : Launch} {e : Env} {s : State} {m : MethodId} {args : Array Value} {below : List Frame} {meth : Method} {c : Code} {D : va_G} {A : Nat → Prop} {cy : Nat → ClassId} {a kt vt : Nat → Nat} {N : Nat}   (C0 : nCx p s m args meth c cX11_chooses 9 (some .boolean) RX11 wsX11_chooses) (hE : nEn D A cy (Mw cy a) kt vt s) {z : Int32 × nS} {k69 : nS → Int32 → Int32 → Int32 → Int32 → Int32 → Int32 → Int32 → Option (Int32 × nS)} (K69 : ∀ (σ : nS) (x2 : Int32) (x3 : Int32) (x4 : Int32) (x5 : Int32) (x6 : Int32) (x7 : Int32) (x8 : Int32) (H : Heap) (locs : List Loc) (ls : Array Slot), lv_has ls 9 [(0, .ref (a 0)), (2, .int x2), (3, .int x3), (4, .int x4), (5, .int x5), (6, .int x6), (7, .int x7), (8, .int x8)] → va_P D vwCl ((Mw cy a) σ) H → va_S A s.heap H locs → k69 σ x2 x3 x4 x5 x6 x7 x8 = some z → W p l e ({ frames := 1, cells := 0, slots := 0, locals := 22 } : Room) s m args below meth c H locs 0 0 (nQi below D A (Mw cy a) args s z) (F0 m 69 ls [])) : ∀ (σ : nS) (x2 : Int32) (x3 : Int32) (x4 : Int32) (x5 : Int32) (x6 : Int32) (x7 : Int32) (x8 : Int32) (H : Heap) (locs : List Loc) (ls : Array Slot), lv_has ls 9 [(0, .ref (a 0)), (2, .int x2), (3, .int x3), (4, .int x4), (5, .int x5), (6, .int x6), (7, .int x7), (8, .int x8)] → va_P D vwCl ((Mw cy a) σ) H → va_S A s.heap H locs → b_X11_chooses_145 N k69 σ x2 x3 x4 x5 x6 x7 x8 = some z → W p l e ({ frames := 1, cells := 0, slots := 0, locals := 22 } : Room) s m args below meth c H locs 0 0 (nQi below D A (Mw cy a) args s z) (F0 m 145 ls []) := by
  obtain ⟨hx, hb, hr, hml, hown, hts, hlocks⟩ := C0
  intro σ x2 x3 x4 x5 x6 x7 x8 H locs ls hl hP hS hf
  unfold b_X11_chooses_145 at hf
  obtain ⟨v1, ev1⟩ : ∃ y : Int32, y = x8 + 1 := ⟨_, rfl⟩
  replace hf := nLet_e hf ev1
  refine lv_iinc (v := v1) (lv' := [(8, .int v1), (0, .ref (a 0)), (2, .int x2), (3, .int x3), (4, .int x4), (5, .int x5), (6, .int x6), (7, .int x7)]) hx hb dX11_chooses_145 hl (k := 7) rfl (by rw [ev1]; rfl) (by decide) rfl (fun ls hl => ?_)
  refine lv_goto (tgt := 69) hx hb dX11_chooses_148 (by decide) ?_
  exact K69 σ x2 x3 x4 x5 x6 x7 v1 H locs ls (lv_sub hl [1, 2, 3, 4, 5, 6, 7, 0] rfl) hP hS hf
def b_X11_chooses_223 (N : Nat) (k179 : nS → Int32 → Int32 → Int32 → Option (Int32 × nS)) (σ : nS) (x6 : Int32) (x7 : Int32) (x8 : Int32) : Option (Int32 × nS) := nLet (x8 + 1 : Int32) (fun v1 => k179 σ x6 x7 v1)
set_option maxHeartbeats 4000000 in
set_option maxRecDepth 100000 in
theorem kb_X11_chooses_223 {p : Program} {l : Launch} {e : Env} {s : State} {m : MethodId} {args : Array Value} {below : List Frame} {meth : Method} {c : Code} {D : va_G} {A : Nat → Prop} {cy : Nat → ClassId} {a kt vt : Nat → Nat} {N : Nat}   (C0 : nCx p s m args meth c cX11_chooses 9 (some .boolean) RX11 wsX11_chooses) (hE : nEn D A cy (Mw cy a) kt vt s) {z : Int32 × nS} {k179 : nS → Int32 → Int32 → Int32 → Option (Int32 × nS)} (K179 : ∀ (σ : nS) (x6 : Int32) (x7 : Int32) (x8 : Int32) (H : Heap) (locs : List Loc) (ls : Array Slot), lv_has ls 9 [(0, .ref (a 0)), (6, .int x6), (7, .int x7), (8, .int x8)] → va_P D vwCl ((Mw cy a) σ) H → va_S A s.heap H locs → k179 σ x6 x7 x8 = some z → W p l e ({ frames := 1, cells := 0, slots := 0, locals := 22 } : Room) s m args below meth c H locs 0 0 (nQi below D A (Mw cy a) args s z) (F0 m 179 ls [])) : ∀ (σ : nS) (x6 : Int32) (x7 : Int32) (x8 : Int32) (H : Heap) (locs : List Loc) (ls : Array Slot), lv_has ls 9 [(0, .ref (a 0)), (6, .int x6), (7, .int x7), (8, .int x8)] → va_P D vwCl ((Mw cy a) σ) H → va_S A s.heap H locs → b_X11_chooses_223 N k179 σ x6 x7 x8 = some z → W p l e ({ frames := 1, cells := 0, slots := 0, locals := 22 } : Room) s m args below meth c H locs 0 0 (nQi below D A (Mw cy a) args s z) (F0 m 223 ls []) := by
  obtain ⟨hx, hb, hr, hml, hown, hts, hlocks⟩ := C0
  intro σ x6 x7 x8 H locs ls hl hP hS hf
  unfold b_X11_chooses_223 at hf
  obtain ⟨v1, ev1⟩ : ∃ y : Int32, y = x8 + 1 := ⟨_, rfl⟩
  replace hf := nLet_e hf ev1
  refine lv_iinc (v := v1) (lv' := [(8, .int v1), (0, .ref (a 0)), (6, .int x6), (7, .int x7)]) hx hb dX11_chooses_223 hl (k := 3) rfl (by rw [ev1]; rfl) (by decide) rfl (fun ls hl => ?_)
  refine lv_goto (tgt := 179) hx hb dX11_chooses_226 (by decide) ?_
  exact K179 σ x6 x7 v1 H locs ls (lv_sub hl [1, 2, 3, 0] rfl) hP hS hf
def b_X11_chooses_69 (N : Nat) (k145 : nS → Int32 → Int32 → Int32 → Int32 → Int32 → Int32 → Int32 → Option (Int32 × nS)) (k151 : nS → Int32 → Int32 → Int32 → Int32 → Int32 → Int32 → Option (Int32 × nS)) (σ : nS) (x2 : Int32) (x3 : Int32) (x4 : Int32) (x5 : Int32) (x6 : Int32) (x7 : Int32) (x8 : Int32) : Option (Int32 × nS) := (if x5 < x8 then k151 σ x2 x3 x4 x5 x6 x7 else nLet (x5 ^^^ ((-1) : Int32) : Int32) (fun v1 => nLet (x8 &&& v1 : Int32) (fun v2 => (if v2 = 0 then nBd (f_X11_bits N x8 σ) (fun r3 σ4 => (if r3 ≤ x2 then (if (σ4.1 0 46) = 500 then some (0, σ4) else nLet ((256 : Int32) * x7 : Int32) (fun v5 => nLet (x8 + v5 : Int32) (fun v6 => nLet ((65536 : Int32) * x6 : Int32) (fun v7 => nLet (v6 + v7 : Int32) (fun v8 => nIx (σ4.1 0 46) 501 (nLet (wr σ4 16 ((σ4.1 0 46)).toNatClampNeg v8) (fun σ9 => nLet ((σ9.1 0 46) + (1 : Int32) : Int32) (fun v10 => nLet (wr σ9 0 46 v10) (fun σ11 => k145 σ11 x2 x3 x4 x5 x6 x7 x8))))))))) else k145 σ4 x2 x3 x4 x5 x6 x7 x8)) else k145 σ x2 x3 x4 x5 x6 x7 x8))))
set_option maxHeartbeats 4000000 in
set_option maxRecDepth 100000 in
theorem kb_X11_chooses_69 {p : Program} {l : Launch} {e : Env} {s : State} {m : MethodId} {args : Array Value} {below : List Frame} {meth : Method} {c : Code} {D : va_G} {A : Nat → Prop} {cy : Nat → ClassId} {a kt vt : Nat → Nat} {N : Nat}   (C0 : nCx p s m args meth c cX11_chooses 9 (some .boolean) RX11 wsX11_chooses) (hE : nEn D A cy (Mw cy a) kt vt s) {z : Int32 × nS} {k145 : nS → Int32 → Int32 → Int32 → Int32 → Int32 → Int32 → Int32 → Option (Int32 × nS)} (K145 : ∀ (σ : nS) (x2 : Int32) (x3 : Int32) (x4 : Int32) (x5 : Int32) (x6 : Int32) (x7 : Int32) (x8 : Int32) (H : Heap) (locs : List Loc) (ls : Array Slot), lv_has ls 9 [(0, .ref (a 0)), (2, .int x2), (3, .int x3), (4, .int x4), (5, .int x5), (6, .int x6), (7, .int x7), (8, .int x8)] → va_P D vwCl ((Mw cy a) σ) H → va_S A s.heap H locs → k145 σ x2 x3 x4 x5 x6 x7 x8 = some z → W p l e ({ frames := 1, cells := 0, slots := 0, locals := 22 } : Room) s m args below meth c H locs 0 0 (nQi below D A (Mw cy a) args s z) (F0 m 145 ls [])) {k151 : nS → Int32 → Int32 → Int32 → Int32 → Int32 → Int32 → Option (Int32 × nS)} (K151 : ∀ (σ : nS) (x2 : Int32) (x3 : Int32) (x4 : Int32) (x5 : Int32) (x6 : Int32) (x7 : Int32) (H : Heap) (locs : List Loc) (ls : Array Slot), lv_has ls 9 [(0, .ref (a 0)), (2, .int x2), (3, .int x3), (4, .int x4), (5, .int x5), (6, .int x6), (7, .int x7)] → va_P D vwCl ((Mw cy a) σ) H → va_S A s.heap H locs → k151 σ x2 x3 x4 x5 x6 x7 = some z → W p l e ({ frames := 1, cells := 0, slots := 0, locals := 22 } : Room) s m args below meth c H locs 0 0 (nQi below D A (Mw cy a) args s z) (F0 m 151 ls [])) : ∀ (σ : nS) (x2 : Int32) (x3 : Int32) (x4 : Int32) (x5 : Int32) (x6 : Int32) (x7 : Int32) (x8 : Int32) (H : Heap) (locs : List Loc) (ls : Array Slot), lv_has ls 9 [(0, .ref (a 0)), (2, .int x2), (3, .int x3), (4, .int x4), (5, .int x5), (6, .int x6), (7, .int x7), (8, .int x8)] → va_P D vwCl ((Mw cy a) σ) H → va_S A s.heap H locs → b_X11_chooses_69 N k145 k151 σ x2 x3 x4 x5 x6 x7 x8 = some z → W p l e ({ frames := 1, cells := 0, slots := 0, locals := 22 } : Room) s m args below meth c H locs 0 0 (nQi below D A (Mw cy a) args s z) (F0 m 69 ls []) := by
  obtain ⟨hx, hb, hr, hml, hown, hts, hlocks⟩ := C0
  intro σ x2 x3 x4 x5 x6 x7 x8 H locs ls hl hP hS hf
  unfold b_X11_chooses_69 at hf
  refine lv_iload hx hb dX11_chooses_69 (lv_at hl 7 rfl) ?_
  refine lv_iload hx hb dX11_chooses_71 (lv_at hl 4 rfl) ?_
  refine lv_icmp_gt (tgt := 151) hx hb dX11_chooses_73 (by decide) (fun hc => ?_) (fun hc => ?_)
  · replace hf := nIf_t hc hf
    exact K151 σ x2 x3 x4 x5 x6 x7 H locs ls (lv_sub hl [0, 1, 2, 3, 4, 5, 6] rfl) hP hS hf
  · replace hf := nIf_f hc hf
    refine lv_iload hx hb dX11_chooses_76 (lv_at hl 7 rfl) ?_
    refine lv_iload hx hb dX11_chooses_78 (lv_at hl 4 rfl) ?_
    refine lv_iconst (v := (-1)) hx hb dX11_chooses_80 (by decide) ?_
    refine lv_ixor hx hb dX11_chooses_81 ?_
    refine lv_topi (fun v1 ev1 => ?_)
    replace hf := nLet_e hf ev1
    refine lv_iand hx hb dX11_chooses_82 ?_
    refine lv_topi (fun v2 ev2 => ?_)
    replace hf := nLet_e hf ev2
    refine lv_if_ne (tgt := 145) hx hb dX11_chooses_83 (by decide) (fun hc => ?_) (fun hc => ?_)
    · replace hf := nIf_f hc hf
      exact K145 σ x2 x3 x4 x5 x6 x7 x8 H locs ls (lv_sub hl [0, 1, 2, 3, 4, 5, 6, 7] rfl) hP hS hf
    · replace hf := nIf_t hc hf
      refine lv_iload hx hb dX11_chooses_86 (lv_at hl 7 rfl) ?_
      obtain ⟨r3, σ4, hc4, hf⟩ := nBd_e hf
      refine nb_callSi (As := [.int x8]) (rest := []) ⟨hx, hb, hml, hown, hts⟩ (c_X11_bits (D := D) (A := A) (cy := cy) (a := a) (kt := kt) (vt := vt) (l := l)  hc4) (va_cwS 1 hts gX11_chooses_X11_bits rfl rfl rfl (by decide +kernel) ⟨Nat.le_of_ble_eq_true rfl, Nat.le_of_ble_eq_true rfl⟩) hE hP hS rfl hl.1 rfl (Nat.le_of_ble_eq_true rfl) dX11_chooses_88 (fun H locs hP hS => ?_)
      refine lv_iload_n hx hb dX11_chooses_91 rfl (lv_at hl 1 rfl) ?_
      refine lv_icmp_le (tgt := 98) hx hb dX11_chooses_92 (by decide) (fun hc => ?_) (fun hc => ?_)
      · replace hf := nIf_t hc hf
        refine lv_aload_n hx hb dX11_chooses_98 rfl (lv_at hl 0 rfl) ?_
        refine nb_get (ci := 11) hx hb hts iX11_chooses_X11 hown hE hP 0 mbo_0 rfl 46 (by decide) qX11_chooses_314 rfl rfl dX11_chooses_99 ?_
        refine lv_sipush (v := 500) hx hb dX11_chooses_102 (by decide) ?_
        refine lv_icmp_ne (tgt := 110) hx hb dX11_chooses_105 (by decide) (fun hc => ?_) (fun hc => ?_)
        · replace hf := nIf_f hc hf
          refine lv_aload_n hx hb dX11_chooses_110 rfl (lv_at hl 0 rfl) ?_
          refine nb_get (ci := 11) hx hb hts iX11_chooses_X11 hown hE hP 0 mbo_0 rfl 44 (by decide) qX11_chooses_67 rfl rfl dX11_chooses_111 ?_
          refine lv_aload_n hx hb dX11_chooses_114 rfl (lv_at hl 0 rfl) ?_
          refine nb_get (ci := 11) hx hb hts iX11_chooses_X11 hown hE hP 0 mbo_0 rfl 46 (by decide) qX11_chooses_314 rfl rfl dX11_chooses_115 ?_
          refine lv_iload hx hb dX11_chooses_118 (lv_at hl 7 rfl) ?_
          refine lv_sipush (v := 256) hx hb dX11_chooses_120 (by decide) ?_
          refine lv_iload hx hb dX11_chooses_123 (lv_at hl 6 rfl) ?_
          refine lv_imul hx hb dX11_chooses_125 ?_
          refine lv_topi (fun v5 ev5 => ?_)
          replace hf := nLet_e hf ev5
          refine lv_iadd hx hb dX11_chooses_126 ?_
          refine lv_topi (fun v6 ev6 => ?_)
          replace hf := nLet_e hf ev6
          refine lv_ldcw (v := 65536) hx hb hown (hts (.constant RX11 320 65536) (by decide +kernel)) dX11_chooses_127 ?_
          refine lv_iload hx hb dX11_chooses_130 (lv_at hl 5 rfl) ?_
          refine lv_imul hx hb dX11_chooses_132 ?_
          refine lv_topi (fun v7 ev7 => ?_)
          replace hf := nLet_e hf ev7
          refine lv_iadd hx hb dX11_chooses_133 ?_
          refine lv_topi (fun v8 ev8 => ?_)
          replace hf := nLet_e hf ev8
          obtain ⟨hin, hf⟩ := nIx_e hf
          refine na_iast hx hb hE hP hS mbr_16 hin dX11_chooses_134 (fun σ9 eσ9 H locs hP hS => ?_)
          replace hf := nLet_e hf eσ9
          refine lv_aload_n hx hb dX11_chooses_135 rfl (lv_at hl 0 rfl) ?_
          refine lv_dup hx hb dX11_chooses_136 rfl ?_
          refine nb_get (ci := 11) hx hb hts iX11_chooses_X11 hown hE hP 0 mbo_0 rfl 46 (by decide) qX11_chooses_314 rfl rfl dX11_chooses_137 ?_
          refine lv_iconst (v := 1) hx hb dX11_chooses_140 (by decide) ?_
          refine lv_iadd hx hb dX11_chooses_141 ?_
          refine lv_topi (fun v10 ev10 => ?_)
          replace hf := nLet_e hf ev10
          refine nb_put (ci := 11) hx hb hts iX11_chooses_X11 tyX11 tyX11_ok nmX11 hown hE hP hS 0 mbo_0 rfl 46 (by decide) qX11_chooses_314 rfl rfl rfl rfl (Nat.le_of_ble_eq_true rfl) dX11_chooses_142 (mbp_0_46 _) (fun σ11 eσ11 H locs hP hS => ?_)
          replace hf := nLet_e hf eσ11
          exact K145 σ11 x2 x3 x4 x5 x6 x7 x8 H locs ls (lv_sub hl [0, 1, 2, 3, 4, 5, 6, 7] rfl) hP hS hf
        · replace hf := nIf_t hc hf
          refine lv_iconst (v := 0) hx hb dX11_chooses_108 (by decide) ?_
          exact nb_zret hx hb hr hlocks hP hS (nSo hf) rfl dX11_chooses_109
      · replace hf := nIf_f hc hf
        refine lv_goto (tgt := 145) hx hb dX11_chooses_95 (by decide) ?_
        exact K145 σ4 x2 x3 x4 x5 x6 x7 x8 H locs ls (lv_sub hl [0, 1, 2, 3, 4, 5, 6, 7] rfl) hP hS hf
def b_X11_chooses_151 (N : Nat) (k43 : nS → Int32 → Int32 → Int32 → Int32 → Int32 → Int32 → Option (Int32 × nS)) (σ : nS) (x2 : Int32) (x3 : Int32) (x4 : Int32) (x5 : Int32) (x6 : Int32) (x7 : Int32) : Option (Int32 × nS) := nLet (x7 + 1 : Int32) (fun v1 => k43 σ x2 x3 x4 x5 x6 v1)
set_option maxHeartbeats 4000000 in
set_option maxRecDepth 100000 in
theorem kb_X11_chooses_151 {p : Program} {l : Launch} {e : Env} {s : State} {m : MethodId} {args : Array Value} {below : List Frame} {meth : Method} {c : Code} {D : va_G} {A : Nat → Prop} {cy : Nat → ClassId} {a kt vt : Nat → Nat} {N : Nat}   (C0 : nCx p s m args meth c cX11_chooses 9 (some .boolean) RX11 wsX11_chooses) (hE : nEn D A cy (Mw cy a) kt vt s) {z : Int32 × nS} {k43 : nS → Int32 → Int32 → Int32 → Int32 → Int32 → Int32 → Option (Int32 × nS)} (K43 : ∀ (σ : nS) (x2 : Int32) (x3 : Int32) (x4 : Int32) (x5 : Int32) (x6 : Int32) (x7 : Int32) (H : Heap) (locs : List Loc) (ls : Array Slot), lv_has ls 9 [(0, .ref (a 0)), (2, .int x2), (3, .int x3), (4, .int x4), (5, .int x5), (6, .int x6), (7, .int x7)] → va_P D vwCl ((Mw cy a) σ) H → va_S A s.heap H locs → k43 σ x2 x3 x4 x5 x6 x7 = some z → W p l e ({ frames := 1, cells := 0, slots := 0, locals := 22 } : Room) s m args below meth c H locs 0 0 (nQi below D A (Mw cy a) args s z) (F0 m 43 ls [])) : ∀ (σ : nS) (x2 : Int32) (x3 : Int32) (x4 : Int32) (x5 : Int32) (x6 : Int32) (x7 : Int32) (H : Heap) (locs : List Loc) (ls : Array Slot), lv_has ls 9 [(0, .ref (a 0)), (2, .int x2), (3, .int x3), (4, .int x4), (5, .int x5), (6, .int x6), (7, .int x7)] → va_P D vwCl ((Mw cy a) σ) H → va_S A s.heap H locs → b_X11_chooses_151 N k43 σ x2 x3 x4 x5 x6 x7 = some z → W p l e ({ frames := 1, cells := 0, slots := 0, locals := 22 } : Room) s m args below meth c H locs 0 0 (nQi below D A (Mw cy a) args s z) (F0 m 151 ls []) := by
  obtain ⟨hx, hb, hr, hml, hown, hts, hlocks⟩ := C0
  intro σ x2 x3 x4 x5 x6 x7 H locs ls hl hP hS hf
  unfold b_X11_chooses_151 at hf
  obtain ⟨v1, ev1⟩ : ∃ y : Int32, y = x7 + 1 := ⟨_, rfl⟩
  replace hf := nLet_e hf ev1
  refine lv_iinc (v := v1) (lv' := [(7, .int v1), (0, .ref (a 0)), (2, .int x2), (3, .int x3), (4, .int x4), (5, .int x5), (6, .int x6)]) hx hb dX11_chooses_151 hl (k := 6) rfl (by rw [ev1]; rfl) (by decide) rfl (fun ls hl => ?_)
  refine lv_goto (tgt := 43) hx hb dX11_chooses_154 (by decide) ?_
  exact K43 σ x2 x3 x4 x5 x6 v1 H locs ls (lv_sub hl [1, 2, 3, 4, 5, 6, 0] rfl) hP hS hf
def b_X11_chooses_238 (N : Nat) (k238 : nS → Int32 → Option (Int32 × nS)) (σ : nS) (x7 : Int32) : Option (Int32 × nS) := (if (σ.1 0 46) ≤ x7 then some (1, σ) else nIx x7 501 (nLet (σ.1 17 (x7).toNatClampNeg) (fun v1 => nIx x7 501 (nLet (wr σ 16 (x7).toNatClampNeg v1) (fun σ2 => nLet (x7 + 1 : Int32) (fun v3 => k238 σ2 v3))))))
set_option maxHeartbeats 4000000 in
set_option maxRecDepth 100000 in
theorem kb_X11_chooses_238 {p : Program} {l : Launch} {e : Env} {s : State} {m : MethodId} {args : Array Value} {below : List Frame} {meth : Method} {c : Code} {D : va_G} {A : Nat → Prop} {cy : Nat → ClassId} {a kt vt : Nat → Nat} {N : Nat}   (C0 : nCx p s m args meth c cX11_chooses 9 (some .boolean) RX11 wsX11_chooses) (hE : nEn D A cy (Mw cy a) kt vt s) {z : Int32 × nS} {k238 : nS → Int32 → Option (Int32 × nS)} (K238 : ∀ (σ : nS) (x7 : Int32) (H : Heap) (locs : List Loc) (ls : Array Slot), lv_has ls 9 [(0, .ref (a 0)), (7, .int x7)] → va_P D vwCl ((Mw cy a) σ) H → va_S A s.heap H locs → k238 σ x7 = some z → W p l e ({ frames := 1, cells := 0, slots := 0, locals := 22 } : Room) s m args below meth c H locs 0 0 (nQi below D A (Mw cy a) args s z) (F0 m 238 ls [])) : ∀ (σ : nS) (x7 : Int32) (H : Heap) (locs : List Loc) (ls : Array Slot), lv_has ls 9 [(0, .ref (a 0)), (7, .int x7)] → va_P D vwCl ((Mw cy a) σ) H → va_S A s.heap H locs → b_X11_chooses_238 N k238 σ x7 = some z → W p l e ({ frames := 1, cells := 0, slots := 0, locals := 22 } : Room) s m args below meth c H locs 0 0 (nQi below D A (Mw cy a) args s z) (F0 m 238 ls []) := by
  obtain ⟨hx, hb, hr, hml, hown, hts, hlocks⟩ := C0
  intro σ x7 H locs ls hl hP hS hf
  unfold b_X11_chooses_238 at hf
  refine lv_iload hx hb dX11_chooses_238 (lv_at hl 1 rfl) ?_
  refine lv_aload_n hx hb dX11_chooses_240 rfl (lv_at hl 0 rfl) ?_
  refine nb_get (ci := 11) hx hb hts iX11_chooses_X11 hown hE hP 0 mbo_0 rfl 46 (by decide) qX11_chooses_314 rfl rfl dX11_chooses_241 ?_
  refine lv_icmp_ge (tgt := 267) hx hb dX11_chooses_244 (by decide) (fun hc => ?_) (fun hc => ?_)
  · replace hf := nIf_t hc hf
    refine lv_iconst (v := 1) hx hb dX11_chooses_267 (by decide) ?_
    exact nb_zret hx hb hr hlocks hP hS (nSo hf) rfl dX11_chooses_268
  · replace hf := nIf_f hc hf
    refine lv_aload_n hx hb dX11_chooses_247 rfl (lv_at hl 0 rfl) ?_
    refine nb_get (ci := 11) hx hb hts iX11_chooses_X11 hown hE hP 0 mbo_0 rfl 44 (by decide) qX11_chooses_67 rfl rfl dX11_chooses_248 ?_
    refine lv_iload hx hb dX11_chooses_251 (lv_at hl 1 rfl) ?_
    refine lv_aload_n hx hb dX11_chooses_253 rfl (lv_at hl 0 rfl) ?_
    refine nb_get (ci := 11) hx hb hts iX11_chooses_X11 hown hE hP 0 mbo_0 rfl 45 (by decide) qX11_chooses_70 rfl rfl dX11_chooses_254 ?_
    refine lv_iload hx hb dX11_chooses_257 (lv_at hl 1 rfl) ?_
    obtain ⟨hin, hf⟩ := nIx_e hf
    refine na_iald hx hb hE hP mbr_17 hin dX11_chooses_259 ?_
    refine lv_topi (fun v1 ev1 => ?_)
    replace hf := nLet_e hf ev1
    obtain ⟨hin, hf⟩ := nIx_e hf
    refine na_iast hx hb hE hP hS mbr_16 hin dX11_chooses_260 (fun σ2 eσ2 H locs hP hS => ?_)
    replace hf := nLet_e hf eσ2
    obtain ⟨v3, ev3⟩ : ∃ y : Int32, y = x7 + 1 := ⟨_, rfl⟩
    replace hf := nLet_e hf ev3
    refine lv_iinc (v := v3) (lv' := [(7, .int v3), (0, .ref (a 0))]) hx hb dX11_chooses_261 hl (k := 1) rfl (by rw [ev3]; rfl) (by decide) rfl (fun ls hl => ?_)
    refine lv_goto (tgt := 238) hx hb dX11_chooses_264 (by decide) ?_
    exact K238 σ2 v3 H locs ls (lv_sub hl [1, 0] rfl) hP hS hf
def b_X11_chooses_179 (N : Nat) (k169 : nS → Int32 → Int32 → Option (Int32 × nS)) (k223 : nS → Int32 → Int32 → Int32 → Option (Int32 × nS)) (σ : nS) (x6 : Int32) (x7 : Int32) (x8 : Int32) : Option (Int32 × nS) := (if (σ.1 0 46) ≤ x8 then nLet (x7 + 1 : Int32) (fun v1 => k169 σ x6 v1) else nIx x8 501 (nLet (σ.1 16 (x8).toNatClampNeg) (fun v2 => nBd (f_X11_bits N v2 σ) (fun r3 σ4 => (if r3 = x7 then nIx x8 501 (nLet (σ4.1 16 (x8).toNatClampNeg) (fun v5 => nIx x6 501 (nLet (wr σ4 17 (x6).toNatClampNeg v5) (fun σ6 => nLet (x6 + 1 : Int32) (fun v7 => k223 σ6 v7 x7 x8))))) else k223 σ4 x6 x7 x8)))))
set_option maxHeartbeats 4000000 in
set_option maxRecDepth 100000 in
theorem kb_X11_chooses_179 {p : Program} {l : Launch} {e : Env} {s : State} {m : MethodId} {args : Array Value} {below : List Frame} {meth : Method} {c : Code} {D : va_G} {A : Nat → Prop} {cy : Nat → ClassId} {a kt vt : Nat → Nat} {N : Nat}   (C0 : nCx p s m args meth c cX11_chooses 9 (some .boolean) RX11 wsX11_chooses) (hE : nEn D A cy (Mw cy a) kt vt s) {z : Int32 × nS} {k169 : nS → Int32 → Int32 → Option (Int32 × nS)} (K169 : ∀ (σ : nS) (x6 : Int32) (x7 : Int32) (H : Heap) (locs : List Loc) (ls : Array Slot), lv_has ls 9 [(0, .ref (a 0)), (6, .int x6), (7, .int x7)] → va_P D vwCl ((Mw cy a) σ) H → va_S A s.heap H locs → k169 σ x6 x7 = some z → W p l e ({ frames := 1, cells := 0, slots := 0, locals := 22 } : Room) s m args below meth c H locs 0 0 (nQi below D A (Mw cy a) args s z) (F0 m 169 ls [])) {k223 : nS → Int32 → Int32 → Int32 → Option (Int32 × nS)} (K223 : ∀ (σ : nS) (x6 : Int32) (x7 : Int32) (x8 : Int32) (H : Heap) (locs : List Loc) (ls : Array Slot), lv_has ls 9 [(0, .ref (a 0)), (6, .int x6), (7, .int x7), (8, .int x8)] → va_P D vwCl ((Mw cy a) σ) H → va_S A s.heap H locs → k223 σ x6 x7 x8 = some z → W p l e ({ frames := 1, cells := 0, slots := 0, locals := 22 } : Room) s m args below meth c H locs 0 0 (nQi below D A (Mw cy a) args s z) (F0 m 223 ls [])) : ∀ (σ : nS) (x6 : Int32) (x7 : Int32) (x8 : Int32) (H : Heap) (locs : List Loc) (ls : Array Slot), lv_has ls 9 [(0, .ref (a 0)), (6, .int x6), (7, .int x7), (8, .int x8)] → va_P D vwCl ((Mw cy a) σ) H → va_S A s.heap H locs → b_X11_chooses_179 N k169 k223 σ x6 x7 x8 = some z → W p l e ({ frames := 1, cells := 0, slots := 0, locals := 22 } : Room) s m args below meth c H locs 0 0 (nQi below D A (Mw cy a) args s z) (F0 m 179 ls []) := by
  obtain ⟨hx, hb, hr, hml, hown, hts, hlocks⟩ := C0
  intro σ x6 x7 x8 H locs ls hl hP hS hf
  unfold b_X11_chooses_179 at hf
  refine lv_iload hx hb dX11_chooses_179 (lv_at hl 3 rfl) ?_
  refine lv_aload_n hx hb dX11_chooses_181 rfl (lv_at hl 0 rfl) ?_
  refine nb_get (ci := 11) hx hb hts iX11_chooses_X11 hown hE hP 0 mbo_0 rfl 46 (by decide) qX11_chooses_314 rfl rfl dX11_chooses_182 ?_
  refine lv_icmp_ge (tgt := 229) hx hb dX11_chooses_185 (by decide) (fun hc => ?_) (fun hc => ?_)
  · replace hf := nIf_t hc hf
    obtain ⟨v1, ev1⟩ : ∃ y : Int32, y = x7 + 1 := ⟨_, rfl⟩
    replace hf := nLet_e hf ev1
    refine lv_iinc (v := v1) (lv' := [(7, .int v1), (0, .ref (a 0)), (6, .int x6), (8, .int x8)]) hx hb dX11_chooses_229 hl (k := 2) rfl (by rw [ev1]; rfl) (by decide) rfl (fun ls hl => ?_)
    refine lv_goto (tgt := 169) hx hb dX11_chooses_232 (by decide) ?_
    exact K169 σ x6 v1 H locs ls (lv_sub hl [1, 2, 0] rfl) hP hS hf
  · replace hf := nIf_f hc hf
    refine lv_aload_n hx hb dX11_chooses_188 rfl (lv_at hl 0 rfl) ?_
    refine nb_get (ci := 11) hx hb hts iX11_chooses_X11 hown hE hP 0 mbo_0 rfl 44 (by decide) qX11_chooses_67 rfl rfl dX11_chooses_189 ?_
    refine lv_iload hx hb dX11_chooses_192 (lv_at hl 3 rfl) ?_
    obtain ⟨hin, hf⟩ := nIx_e hf
    refine na_iald hx hb hE hP mbr_16 hin dX11_chooses_194 ?_
    refine lv_topi (fun v2 ev2 => ?_)
    replace hf := nLet_e hf ev2
    obtain ⟨r3, σ4, hc4, hf⟩ := nBd_e hf
    refine nb_callSi (As := [.int v2]) (rest := []) ⟨hx, hb, hml, hown, hts⟩ (c_X11_bits (D := D) (A := A) (cy := cy) (a := a) (kt := kt) (vt := vt) (l := l)  hc4) (va_cwS 1 hts gX11_chooses_X11_bits rfl rfl rfl (by decide +kernel) ⟨Nat.le_of_ble_eq_true rfl, Nat.le_of_ble_eq_true rfl⟩) hE hP hS rfl hl.1 rfl (Nat.le_of_ble_eq_true rfl) dX11_chooses_195 (fun H locs hP hS => ?_)
    refine lv_iload hx hb dX11_chooses_198 (lv_at hl 2 rfl) ?_
    refine lv_icmp_eq (tgt := 206) hx hb dX11_chooses_200 (by decide) (fun hc => ?_) (fun hc => ?_)
    · replace hf := nIf_t hc hf
      refine lv_aload_n hx hb dX11_chooses_206 rfl (lv_at hl 0 rfl) ?_
      refine nb_get (ci := 11) hx hb hts iX11_chooses_X11 hown hE hP 0 mbo_0 rfl 45 (by decide) qX11_chooses_70 rfl rfl dX11_chooses_207 ?_
      refine lv_iload hx hb dX11_chooses_210 (lv_at hl 1 rfl) ?_
      refine lv_aload_n hx hb dX11_chooses_212 rfl (lv_at hl 0 rfl) ?_
      refine nb_get (ci := 11) hx hb hts iX11_chooses_X11 hown hE hP 0 mbo_0 rfl 44 (by decide) qX11_chooses_67 rfl rfl dX11_chooses_213 ?_
      refine lv_iload hx hb dX11_chooses_216 (lv_at hl 3 rfl) ?_
      obtain ⟨hin, hf⟩ := nIx_e hf
      refine na_iald hx hb hE hP mbr_16 hin dX11_chooses_218 ?_
      refine lv_topi (fun v5 ev5 => ?_)
      replace hf := nLet_e hf ev5
      obtain ⟨hin, hf⟩ := nIx_e hf
      refine na_iast hx hb hE hP hS mbr_17 hin dX11_chooses_219 (fun σ6 eσ6 H locs hP hS => ?_)
      replace hf := nLet_e hf eσ6
      obtain ⟨v7, ev7⟩ : ∃ y : Int32, y = x6 + 1 := ⟨_, rfl⟩
      replace hf := nLet_e hf ev7
      refine lv_iinc (v := v7) (lv' := [(6, .int v7), (0, .ref (a 0)), (7, .int x7), (8, .int x8)]) hx hb dX11_chooses_220 hl (k := 1) rfl (by rw [ev7]; rfl) (by decide) rfl (fun ls hl => ?_)
      exact K223 σ6 v7 x7 x8 H locs ls (lv_sub hl [1, 0, 2, 3] rfl) hP hS hf
    · replace hf := nIf_f hc hf
      refine lv_goto (tgt := 223) hx hb dX11_chooses_203 (by decide) ?_
      exact K223 σ4 x6 x7 x8 H locs ls (lv_sub hl [0, 1, 2, 3] rfl) hP hS hf
def b_X11_chooses_43 (N : Nat) (k69 : nS → Int32 → Int32 → Int32 → Int32 → Int32 → Int32 → Int32 → Option (Int32 × nS)) (k151 : nS → Int32 → Int32 → Int32 → Int32 → Int32 → Int32 → Option (Int32 × nS)) (k157 : nS → Int32 → Int32 → Int32 → Int32 → Int32 → Option (Int32 × nS)) (σ : nS) (x2 : Int32) (x3 : Int32) (x4 : Int32) (x5 : Int32) (x6 : Int32) (x7 : Int32) : Option (Int32 × nS) := nLet ((1 : Int32) <<< ((σ.1 0 5) &&& 31) : Int32) (fun v1 => (if v1 ≤ x7 then k157 σ x2 x3 x4 x5 x6 else nBd (f_X11_bits N x7 σ) (fun r2 σ3 => (if r2 ≤ x3 then k69 σ3 x2 x3 x4 x5 x6 x7 0 else k151 σ3 x2 x3 x4 x5 x6 x7))))
set_option maxHeartbeats 4000000 in
set_option maxRecDepth 100000 in
theorem kb_X11_chooses_43 {p : Program} {l : Launch} {e : Env} {s : State} {m : MethodId} {args : Array Value} {below : List Frame} {meth : Method} {c : Code} {D : va_G} {A : Nat → Prop} {cy : Nat → ClassId} {a kt vt : Nat → Nat} {N : Nat}   (C0 : nCx p s m args meth c cX11_chooses 9 (some .boolean) RX11 wsX11_chooses) (hE : nEn D A cy (Mw cy a) kt vt s) {z : Int32 × nS} {k69 : nS → Int32 → Int32 → Int32 → Int32 → Int32 → Int32 → Int32 → Option (Int32 × nS)} (K69 : ∀ (σ : nS) (x2 : Int32) (x3 : Int32) (x4 : Int32) (x5 : Int32) (x6 : Int32) (x7 : Int32) (x8 : Int32) (H : Heap) (locs : List Loc) (ls : Array Slot), lv_has ls 9 [(0, .ref (a 0)), (2, .int x2), (3, .int x3), (4, .int x4), (5, .int x5), (6, .int x6), (7, .int x7), (8, .int x8)] → va_P D vwCl ((Mw cy a) σ) H → va_S A s.heap H locs → k69 σ x2 x3 x4 x5 x6 x7 x8 = some z → W p l e ({ frames := 1, cells := 0, slots := 0, locals := 22 } : Room) s m args below meth c H locs 0 0 (nQi below D A (Mw cy a) args s z) (F0 m 69 ls [])) {k151 : nS → Int32 → Int32 → Int32 → Int32 → Int32 → Int32 → Option (Int32 × nS)} (K151 : ∀ (σ : nS) (x2 : Int32) (x3 : Int32) (x4 : Int32) (x5 : Int32) (x6 : Int32) (x7 : Int32) (H : Heap) (locs : List Loc) (ls : Array Slot), lv_has ls 9 [(0, .ref (a 0)), (2, .int x2), (3, .int x3), (4, .int x4), (5, .int x5), (6, .int x6), (7, .int x7)] → va_P D vwCl ((Mw cy a) σ) H → va_S A s.heap H locs → k151 σ x2 x3 x4 x5 x6 x7 = some z → W p l e ({ frames := 1, cells := 0, slots := 0, locals := 22 } : Room) s m args below meth c H locs 0 0 (nQi below D A (Mw cy a) args s z) (F0 m 151 ls [])) {k157 : nS → Int32 → Int32 → Int32 → Int32 → Int32 → Option (Int32 × nS)} (K157 : ∀ (σ : nS) (x2 : Int32) (x3 : Int32) (x4 : Int32) (x5 : Int32) (x6 : Int32) (H : Heap) (locs : List Loc) (ls : Array Slot), lv_has ls 9 [(0, .ref (a 0)), (2, .int x2), (3, .int x3), (4, .int x4), (5, .int x5), (6, .int x6)] → va_P D vwCl ((Mw cy a) σ) H → va_S A s.heap H locs → k157 σ x2 x3 x4 x5 x6 = some z → W p l e ({ frames := 1, cells := 0, slots := 0, locals := 22 } : Room) s m args below meth c H locs 0 0 (nQi below D A (Mw cy a) args s z) (F0 m 157 ls [])) : ∀ (σ : nS) (x2 : Int32) (x3 : Int32) (x4 : Int32) (x5 : Int32) (x6 : Int32) (x7 : Int32) (H : Heap) (locs : List Loc) (ls : Array Slot), lv_has ls 9 [(0, .ref (a 0)), (2, .int x2), (3, .int x3), (4, .int x4), (5, .int x5), (6, .int x6), (7, .int x7)] → va_P D vwCl ((Mw cy a) σ) H → va_S A s.heap H locs → b_X11_chooses_43 N k69 k151 k157 σ x2 x3 x4 x5 x6 x7 = some z → W p l e ({ frames := 1, cells := 0, slots := 0, locals := 22 } : Room) s m args below meth c H locs 0 0 (nQi below D A (Mw cy a) args s z) (F0 m 43 ls []) := by
  obtain ⟨hx, hb, hr, hml, hown, hts, hlocks⟩ := C0
  intro σ x2 x3 x4 x5 x6 x7 H locs ls hl hP hS hf
  unfold b_X11_chooses_43 at hf
  refine lv_iload hx hb dX11_chooses_43 (lv_at hl 6 rfl) ?_
  refine lv_iconst (v := 1) hx hb dX11_chooses_45 (by decide) ?_
  refine lv_aload_n hx hb dX11_chooses_46 rfl (lv_at hl 0 rfl) ?_
  refine nb_get (ci := 11) hx hb hts iX11_chooses_X11 hown hE hP 0 mbo_0 rfl 5 (by decide) qX11_chooses_133 rfl rfl dX11_chooses_47 ?_
  refine lv_ishl hx hb dX11_chooses_50 ?_
  refine lv_topi (fun v1 ev1 => ?_)
  replace hf := nLet_e hf ev1
  refine lv_icmp_ge (tgt := 157) hx hb dX11_chooses_51 (by decide) (fun hc => ?_) (fun hc => ?_)
  · replace hf := nIf_t hc hf
    exact K157 σ x2 x3 x4 x5 x6 H locs ls (lv_sub hl [0, 1, 2, 3, 4, 5] rfl) hP hS hf
  · replace hf := nIf_f hc hf
    refine lv_iload hx hb dX11_chooses_54 (lv_at hl 6 rfl) ?_
    obtain ⟨r2, σ3, hc3, hf⟩ := nBd_e hf
    refine nb_callSi (As := [.int x7]) (rest := []) ⟨hx, hb, hml, hown, hts⟩ (c_X11_bits (D := D) (A := A) (cy := cy) (a := a) (kt := kt) (vt := vt) (l := l)  hc3) (va_cwS 1 hts gX11_chooses_X11_bits rfl rfl rfl (by decide +kernel) ⟨Nat.le_of_ble_eq_true rfl, Nat.le_of_ble_eq_true rfl⟩) hE hP hS rfl hl.1 rfl (Nat.le_of_ble_eq_true rfl) dX11_chooses_56 (fun H locs hP hS => ?_)
    refine lv_iload_n hx hb dX11_chooses_59 rfl (lv_at hl 2 rfl) ?_
    refine lv_icmp_le (tgt := 66) hx hb dX11_chooses_60 (by decide) (fun hc => ?_) (fun hc => ?_)
    · replace hf := nIf_t hc hf
      refine lv_iconst (v := 0) hx hb dX11_chooses_66 (by decide) ?_
      refine lv_istore (lv' := [(8, .int 0), (0, .ref (a 0)), (2, .int x2), (3, .int x3), (4, .int x4), (5, .int x5), (6, .int x6), (7, .int x7)]) hx hb dX11_chooses_67 hl (by decide) rfl (fun ls hl => ?_)
      exact K69 σ3 x2 x3 x4 x5 x6 x7 0 H locs ls (lv_sub hl [1, 2, 3, 4, 5, 6, 7, 0] rfl) hP hS hf
    · replace hf := nIf_f hc hf
      refine lv_goto (tgt := 151) hx hb dX11_chooses_63 (by decide) ?_
      exact K151 σ3 x2 x3 x4 x5 x6 x7 H locs ls (lv_sub hl [0, 1, 2, 3, 4, 5, 6] rfl) hP hS hf
def b_X11_chooses_169 (N : Nat) (k179 : nS → Int32 → Int32 → Int32 → Option (Int32 × nS)) (k238 : nS → Int32 → Option (Int32 × nS)) (σ : nS) (x6 : Int32) (x7 : Int32) : Option (Int32 × nS) := (if (20 : Int32) < x7 then k238 σ 0 else k179 σ x6 x7 0)
set_option maxHeartbeats 4000000 in
set_option maxRecDepth 100000 in
theorem kb_X11_chooses_169 {p : Program} {l : Launch} {e : Env} {s : State} {m : MethodId} {args : Array Value} {below : List Frame} {meth : Method} {c : Code} {D : va_G} {A : Nat → Prop} {cy : Nat → ClassId} {a kt vt : Nat → Nat} {N : Nat}   (C0 : nCx p s m args meth c cX11_chooses 9 (some .boolean) RX11 wsX11_chooses) (hE : nEn D A cy (Mw cy a) kt vt s) {z : Int32 × nS} {k179 : nS → Int32 → Int32 → Int32 → Option (Int32 × nS)} (K179 : ∀ (σ : nS) (x6 : Int32) (x7 : Int32) (x8 : Int32) (H : Heap) (locs : List Loc) (ls : Array Slot), lv_has ls 9 [(0, .ref (a 0)), (6, .int x6), (7, .int x7), (8, .int x8)] → va_P D vwCl ((Mw cy a) σ) H → va_S A s.heap H locs → k179 σ x6 x7 x8 = some z → W p l e ({ frames := 1, cells := 0, slots := 0, locals := 22 } : Room) s m args below meth c H locs 0 0 (nQi below D A (Mw cy a) args s z) (F0 m 179 ls [])) {k238 : nS → Int32 → Option (Int32 × nS)} (K238 : ∀ (σ : nS) (x7 : Int32) (H : Heap) (locs : List Loc) (ls : Array Slot), lv_has ls 9 [(0, .ref (a 0)), (7, .int x7)] → va_P D vwCl ((Mw cy a) σ) H → va_S A s.heap H locs → k238 σ x7 = some z → W p l e ({ frames := 1, cells := 0, slots := 0, locals := 22 } : Room) s m args below meth c H locs 0 0 (nQi below D A (Mw cy a) args s z) (F0 m 238 ls [])) : ∀ (σ : nS) (x6 : Int32) (x7 : Int32) (H : Heap) (locs : List Loc) (ls : Array Slot), lv_has ls 9 [(0, .ref (a 0)), (6, .int x6), (7, .int x7)] → va_P D vwCl ((Mw cy a) σ) H → va_S A s.heap H locs → b_X11_chooses_169 N k179 k238 σ x6 x7 = some z → W p l e ({ frames := 1, cells := 0, slots := 0, locals := 22 } : Room) s m args below meth c H locs 0 0 (nQi below D A (Mw cy a) args s z) (F0 m 169 ls []) := by
  obtain ⟨hx, hb, hr, hml, hown, hts, hlocks⟩ := C0
  intro σ x6 x7 H locs ls hl hP hS hf
  unfold b_X11_chooses_169 at hf
  refine lv_iload hx hb dX11_chooses_169 (lv_at hl 2 rfl) ?_
  refine lv_bipush (v := 20) hx hb dX11_chooses_171 (by decide) ?_
  refine lv_icmp_gt (tgt := 235) hx hb dX11_chooses_173 (by decide) (fun hc => ?_) (fun hc => ?_)
  · replace hf := nIf_t hc hf
    refine lv_iconst (v := 0) hx hb dX11_chooses_235 (by decide) ?_
    refine lv_istore (lv' := [(7, .int 0), (0, .ref (a 0)), (6, .int x6)]) hx hb dX11_chooses_236 hl (by decide) rfl (fun ls hl => ?_)
    exact K238 σ 0 H locs ls (lv_sub hl [1, 0] rfl) hP hS hf
  · replace hf := nIf_f hc hf
    refine lv_iconst (v := 0) hx hb dX11_chooses_176 (by decide) ?_
    refine lv_istore (lv' := [(8, .int 0), (0, .ref (a 0)), (6, .int x6), (7, .int x7)]) hx hb dX11_chooses_177 hl (by decide) rfl (fun ls hl => ?_)
    exact K179 σ x6 x7 0 H locs ls (lv_sub hl [1, 2, 3, 0] rfl) hP hS hf
def b_X11_chooses_157 (N : Nat) (k16 : nS → Int32 → Int32 → Int32 → Int32 → Int32 → Option (Int32 × nS)) (σ : nS) (x2 : Int32) (x3 : Int32) (x4 : Int32) (x5 : Int32) (x6 : Int32) : Option (Int32 × nS) := nLet (x6 + 1 : Int32) (fun v1 => k16 σ x2 x3 x4 x5 v1)
set_option maxHeartbeats 4000000 in
set_option maxRecDepth 100000 in
theorem kb_X11_chooses_157 {p : Program} {l : Launch} {e : Env} {s : State} {m : MethodId} {args : Array Value} {below : List Frame} {meth : Method} {c : Code} {D : va_G} {A : Nat → Prop} {cy : Nat → ClassId} {a kt vt : Nat → Nat} {N : Nat}   (C0 : nCx p s m args meth c cX11_chooses 9 (some .boolean) RX11 wsX11_chooses) (hE : nEn D A cy (Mw cy a) kt vt s) {z : Int32 × nS} {k16 : nS → Int32 → Int32 → Int32 → Int32 → Int32 → Option (Int32 × nS)} (K16 : ∀ (σ : nS) (x2 : Int32) (x3 : Int32) (x4 : Int32) (x5 : Int32) (x6 : Int32) (H : Heap) (locs : List Loc) (ls : Array Slot), lv_has ls 9 [(0, .ref (a 0)), (2, .int x2), (3, .int x3), (4, .int x4), (5, .int x5), (6, .int x6)] → va_P D vwCl ((Mw cy a) σ) H → va_S A s.heap H locs → k16 σ x2 x3 x4 x5 x6 = some z → W p l e ({ frames := 1, cells := 0, slots := 0, locals := 22 } : Room) s m args below meth c H locs 0 0 (nQi below D A (Mw cy a) args s z) (F0 m 16 ls [])) : ∀ (σ : nS) (x2 : Int32) (x3 : Int32) (x4 : Int32) (x5 : Int32) (x6 : Int32) (H : Heap) (locs : List Loc) (ls : Array Slot), lv_has ls 9 [(0, .ref (a 0)), (2, .int x2), (3, .int x3), (4, .int x4), (5, .int x5), (6, .int x6)] → va_P D vwCl ((Mw cy a) σ) H → va_S A s.heap H locs → b_X11_chooses_157 N k16 σ x2 x3 x4 x5 x6 = some z → W p l e ({ frames := 1, cells := 0, slots := 0, locals := 22 } : Room) s m args below meth c H locs 0 0 (nQi below D A (Mw cy a) args s z) (F0 m 157 ls []) := by
  obtain ⟨hx, hb, hr, hml, hown, hts, hlocks⟩ := C0
  intro σ x2 x3 x4 x5 x6 H locs ls hl hP hS hf
  unfold b_X11_chooses_157 at hf
  obtain ⟨v1, ev1⟩ : ∃ y : Int32, y = x6 + 1 := ⟨_, rfl⟩
  replace hf := nLet_e hf ev1
  refine lv_iinc (v := v1) (lv' := [(6, .int v1), (0, .ref (a 0)), (2, .int x2), (3, .int x3), (4, .int x4), (5, .int x5)]) hx hb dX11_chooses_157 hl (k := 5) rfl (by rw [ev1]; rfl) (by decide) rfl (fun ls hl => ?_)
  refine lv_goto (tgt := 16) hx hb dX11_chooses_160 (by decide) ?_
  exact K16 σ x2 x3 x4 x5 v1 H locs ls (lv_sub hl [1, 2, 3, 4, 5, 0] rfl) hP hS hf
def b_X11_chooses_16 (N : Nat) (k43 : nS → Int32 → Int32 → Int32 → Int32 → Int32 → Int32 → Option (Int32 × nS)) (k157 : nS → Int32 → Int32 → Int32 → Int32 → Int32 → Option (Int32 × nS)) (k169 : nS → Int32 → Int32 → Option (Int32 × nS)) (σ : nS) (x2 : Int32) (x3 : Int32) (x4 : Int32) (x5 : Int32) (x6 : Int32) : Option (Int32 × nS) := nLet ((1 : Int32) <<< ((σ.1 0 6) &&& 31) : Int32) (fun v1 => (if v1 ≤ x6 then k169 σ 0 0 else nBd (f_X11_bits N x6 σ) (fun r2 σ3 => (if r2 ≤ x4 then k43 σ3 x2 x3 x4 x5 x6 0 else k157 σ3 x2 x3 x4 x5 x6))))
set_option maxHeartbeats 4000000 in
set_option maxRecDepth 100000 in
theorem kb_X11_chooses_16 {p : Program} {l : Launch} {e : Env} {s : State} {m : MethodId} {args : Array Value} {below : List Frame} {meth : Method} {c : Code} {D : va_G} {A : Nat → Prop} {cy : Nat → ClassId} {a kt vt : Nat → Nat} {N : Nat}   (C0 : nCx p s m args meth c cX11_chooses 9 (some .boolean) RX11 wsX11_chooses) (hE : nEn D A cy (Mw cy a) kt vt s) {z : Int32 × nS} {k43 : nS → Int32 → Int32 → Int32 → Int32 → Int32 → Int32 → Option (Int32 × nS)} (K43 : ∀ (σ : nS) (x2 : Int32) (x3 : Int32) (x4 : Int32) (x5 : Int32) (x6 : Int32) (x7 : Int32) (H : Heap) (locs : List Loc) (ls : Array Slot), lv_has ls 9 [(0, .ref (a 0)), (2, .int x2), (3, .int x3), (4, .int x4), (5, .int x5), (6, .int x6), (7, .int x7)] → va_P D vwCl ((Mw cy a) σ) H → va_S A s.heap H locs → k43 σ x2 x3 x4 x5 x6 x7 = some z → W p l e ({ frames := 1, cells := 0, slots := 0, locals := 22 } : Room) s m args below meth c H locs 0 0 (nQi below D A (Mw cy a) args s z) (F0 m 43 ls [])) {k157 : nS → Int32 → Int32 → Int32 → Int32 → Int32 → Option (Int32 × nS)} (K157 : ∀ (σ : nS) (x2 : Int32) (x3 : Int32) (x4 : Int32) (x5 : Int32) (x6 : Int32) (H : Heap) (locs : List Loc) (ls : Array Slot), lv_has ls 9 [(0, .ref (a 0)), (2, .int x2), (3, .int x3), (4, .int x4), (5, .int x5), (6, .int x6)] → va_P D vwCl ((Mw cy a) σ) H → va_S A s.heap H locs → k157 σ x2 x3 x4 x5 x6 = some z → W p l e ({ frames := 1, cells := 0, slots := 0, locals := 22 } : Room) s m args below meth c H locs 0 0 (nQi below D A (Mw cy a) args s z) (F0 m 157 ls [])) {k169 : nS → Int32 → Int32 → Option (Int32 × nS)} (K169 : ∀ (σ : nS) (x6 : Int32) (x7 : Int32) (H : Heap) (locs : List Loc) (ls : Array Slot), lv_has ls 9 [(0, .ref (a 0)), (6, .int x6), (7, .int x7)] → va_P D vwCl ((Mw cy a) σ) H → va_S A s.heap H locs → k169 σ x6 x7 = some z → W p l e ({ frames := 1, cells := 0, slots := 0, locals := 22 } : Room) s m args below meth c H locs 0 0 (nQi below D A (Mw cy a) args s z) (F0 m 169 ls [])) : ∀ (σ : nS) (x2 : Int32) (x3 : Int32) (x4 : Int32) (x5 : Int32) (x6 : Int32) (H : Heap) (locs : List Loc) (ls : Array Slot), lv_has ls 9 [(0, .ref (a 0)), (2, .int x2), (3, .int x3), (4, .int x4), (5, .int x5), (6, .int x6)] → va_P D vwCl ((Mw cy a) σ) H → va_S A s.heap H locs → b_X11_chooses_16 N k43 k157 k169 σ x2 x3 x4 x5 x6 = some z → W p l e ({ frames := 1, cells := 0, slots := 0, locals := 22 } : Room) s m args below meth c H locs 0 0 (nQi below D A (Mw cy a) args s z) (F0 m 16 ls []) := by
  obtain ⟨hx, hb, hr, hml, hown, hts, hlocks⟩ := C0
  intro σ x2 x3 x4 x5 x6 H locs ls hl hP hS hf
  unfold b_X11_chooses_16 at hf
  refine lv_iload hx hb dX11_chooses_16 (lv_at hl 5 rfl) ?_
  refine lv_iconst (v := 1) hx hb dX11_chooses_18 (by decide) ?_
  refine lv_aload_n hx hb dX11_chooses_19 rfl (lv_at hl 0 rfl) ?_
  refine nb_get (ci := 11) hx hb hts iX11_chooses_X11 hown hE hP 0 mbo_0 rfl 6 (by decide) qX11_chooses_140 rfl rfl dX11_chooses_20 ?_
  refine lv_ishl hx hb dX11_chooses_23 ?_
  refine lv_topi (fun v1 ev1 => ?_)
  replace hf := nLet_e hf ev1
  refine lv_icmp_ge (tgt := 163) hx hb dX11_chooses_24 (by decide) (fun hc => ?_) (fun hc => ?_)
  · replace hf := nIf_t hc hf
    refine lv_iconst (v := 0) hx hb dX11_chooses_163 (by decide) ?_
    refine lv_istore (lv' := [(6, .int 0), (0, .ref (a 0)), (2, .int x2), (3, .int x3), (4, .int x4), (5, .int x5)]) hx hb dX11_chooses_164 hl (by decide) rfl (fun ls hl => ?_)
    refine lv_iconst (v := 0) hx hb dX11_chooses_166 (by decide) ?_
    refine lv_istore (lv' := [(7, .int 0), (6, .int 0), (0, .ref (a 0)), (2, .int x2), (3, .int x3), (4, .int x4), (5, .int x5)]) hx hb dX11_chooses_167 hl (by decide) rfl (fun ls hl => ?_)
    exact K169 σ 0 0 H locs ls (lv_sub hl [2, 1, 0] rfl) hP hS hf
  · replace hf := nIf_f hc hf
    refine lv_iload hx hb dX11_chooses_27 (lv_at hl 5 rfl) ?_
    obtain ⟨r2, σ3, hc3, hf⟩ := nBd_e hf
    refine nb_callSi (As := [.int x6]) (rest := []) ⟨hx, hb, hml, hown, hts⟩ (c_X11_bits (D := D) (A := A) (cy := cy) (a := a) (kt := kt) (vt := vt) (l := l)  hc3) (va_cwS 1 hts gX11_chooses_X11_bits rfl rfl rfl (by decide +kernel) ⟨Nat.le_of_ble_eq_true rfl, Nat.le_of_ble_eq_true rfl⟩) hE hP hS rfl hl.1 rfl (Nat.le_of_ble_eq_true rfl) dX11_chooses_29 (fun H locs hP hS => ?_)
    refine lv_iload hx hb dX11_chooses_32 (lv_at hl 3 rfl) ?_
    refine lv_icmp_le (tgt := 40) hx hb dX11_chooses_34 (by decide) (fun hc => ?_) (fun hc => ?_)
    · replace hf := nIf_t hc hf
      refine lv_iconst (v := 0) hx hb dX11_chooses_40 (by decide) ?_
      refine lv_istore (lv' := [(7, .int 0), (0, .ref (a 0)), (2, .int x2), (3, .int x3), (4, .int x4), (5, .int x5), (6, .int x6)]) hx hb dX11_chooses_41 hl (by decide) rfl (fun ls hl => ?_)
      exact K43 σ3 x2 x3 x4 x5 x6 0 H locs ls (lv_sub hl [1, 2, 3, 4, 5, 6, 0] rfl) hP hS hf
    · replace hf := nIf_f hc hf
      refine lv_goto (tgt := 157) hx hb dX11_chooses_37 (by decide) ?_
      exact K157 σ3 x2 x3 x4 x5 x6 H locs ls (lv_sub hl [0, 1, 2, 3, 4, 5] rfl) hP hS hf
def b_X11_chooses_0 (N : Nat) (k16 : nS → Int32 → Int32 → Int32 → Int32 → Int32 → Option (Int32 × nS)) (σ : nS) (x1 : Int32) (x2 : Int32) (x3 : Int32) (x4 : Int32) : Option (Int32 × nS) := nLet (wr σ 0 46 0) (fun σ1 => nBd (f_X11_allFacts N σ1) (fun r2 σ3 => nLet (x1 &&& r2 : Int32) (fun v4 => k16 σ3 x2 x3 x4 v4 0)))
set_option maxHeartbeats 4000000 in
set_option maxRecDepth 100000 in
theorem kb_X11_chooses_0 {p : Program} {l : Launch} {e : Env} {s : State} {m : MethodId} {args : Array Value} {below : List Frame} {meth : Method} {c : Code} {D : va_G} {A : Nat → Prop} {cy : Nat → ClassId} {a kt vt : Nat → Nat} {N : Nat}   (C0 : nCx p s m args meth c cX11_chooses 9 (some .boolean) RX11 wsX11_chooses) (hE : nEn D A cy (Mw cy a) kt vt s) {z : Int32 × nS} {k16 : nS → Int32 → Int32 → Int32 → Int32 → Int32 → Option (Int32 × nS)} (K16 : ∀ (σ : nS) (x2 : Int32) (x3 : Int32) (x4 : Int32) (x5 : Int32) (x6 : Int32) (H : Heap) (locs : List Loc) (ls : Array Slot), lv_has ls 9 [(0, .ref (a 0)), (2, .int x2), (3, .int x3), (4, .int x4), (5, .int x5), (6, .int x6)] → va_P D vwCl ((Mw cy a) σ) H → va_S A s.heap H locs → k16 σ x2 x3 x4 x5 x6 = some z → W p l e ({ frames := 1, cells := 0, slots := 0, locals := 22 } : Room) s m args below meth c H locs 0 0 (nQi below D A (Mw cy a) args s z) (F0 m 16 ls [])) : ∀ (σ : nS) (x1 : Int32) (x2 : Int32) (x3 : Int32) (x4 : Int32) (H : Heap) (locs : List Loc) (ls : Array Slot), lv_has ls 9 [(0, .ref (a 0)), (1, .int x1), (2, .int x2), (3, .int x3), (4, .int x4)] → va_P D vwCl ((Mw cy a) σ) H → va_S A s.heap H locs → b_X11_chooses_0 N k16 σ x1 x2 x3 x4 = some z → W p l e ({ frames := 1, cells := 0, slots := 0, locals := 22 } : Room) s m args below meth c H locs 0 0 (nQi below D A (Mw cy a) args s z) (F0 m 0 ls []) := by
  obtain ⟨hx, hb, hr, hml, hown, hts, hlocks⟩ := C0
  intro σ x1 x2 x3 x4 H locs ls hl hP hS hf
  unfold b_X11_chooses_0 at hf
  refine lv_aload_n hx hb dX11_chooses_0 rfl (lv_at hl 0 rfl) ?_
  refine lv_iconst (v := 0) hx hb dX11_chooses_1 (by decide) ?_
  refine nb_put (ci := 11) hx hb hts iX11_chooses_X11 tyX11 tyX11_ok nmX11 hown hE hP hS 0 mbo_0 rfl 46 (by decide) qX11_chooses_314 rfl rfl rfl rfl (Nat.le_of_ble_eq_true rfl) dX11_chooses_2 (mbp_0_46 _) (fun σ1 eσ1 H locs hP hS => ?_)
  replace hf := nLet_e hf eσ1
  refine lv_iload_n hx hb dX11_chooses_5 rfl (lv_at hl 1 rfl) ?_
  refine lv_aload_n hx hb dX11_chooses_6 rfl (lv_at hl 0 rfl) ?_
  obtain ⟨r2, σ3, hc3, hf⟩ := nBd_e hf
  refine nb_callVi (As := []) (rest := [.int x1]) ⟨hx, hb, hml, hown, hts⟩ (c_X11_allFacts (D := D) (A := A) (cy := cy) (a := a) (kt := kt) (vt := vt) (l := l)  hc3) (cwV 0 hts gX11_chooses_X11_allFacts rfl rfl rfl (by decide +kernel) ⟨Nat.le_of_ble_eq_true rfl, Nat.le_of_ble_eq_true rfl⟩) hE hP hS mbo_0 rfl rfl hl.1 rfl (Nat.le_of_ble_eq_true rfl) dX11_chooses_7 (fun H locs hP hS => ?_)
  refine lv_iand hx hb dX11_chooses_10 ?_
  refine lv_topi (fun v4 ev4 => ?_)
  replace hf := nLet_e hf ev4
  refine lv_istore (lv' := [(5, .int v4), (0, .ref (a 0)), (1, .int x1), (2, .int x2), (3, .int x3), (4, .int x4)]) hx hb dX11_chooses_11 hl (by decide) rfl (fun ls hl => ?_)
  refine lv_iconst (v := 0) hx hb dX11_chooses_13 (by decide) ?_
  refine lv_istore (lv' := [(6, .int 0), (5, .int v4), (0, .ref (a 0)), (1, .int x1), (2, .int x2), (3, .int x3), (4, .int x4)]) hx hb dX11_chooses_14 hl (by decide) rfl (fun ls hl => ?_)
  exact K16 σ3 x2 x3 x4 v4 0 H locs ls (lv_sub hl [2, 4, 5, 6, 1, 0] rfl) hP hS hf
def l_X11_chooses_145 (N : Nat) (k69 : nS → Int32 → Int32 → Int32 → Int32 → Int32 → Int32 → Int32 → Option (Int32 × nS)) : nS → Int32 → Int32 → Int32 → Int32 → Int32 → Int32 → Int32 → Option (Int32 × nS) := b_X11_chooses_145 N k69
theorem kl_X11_chooses_145 {p : Program} {l : Launch} {e : Env} {s : State} {m : MethodId} {args : Array Value} {below : List Frame} {meth : Method} {c : Code} {D : va_G} {A : Nat → Prop} {cy : Nat → ClassId} {a kt vt : Nat → Nat} {N : Nat}   (C0 : nCx p s m args meth c cX11_chooses 9 (some .boolean) RX11 wsX11_chooses) (hE : nEn D A cy (Mw cy a) kt vt s) {z : Int32 × nS} {k69 : nS → Int32 → Int32 → Int32 → Int32 → Int32 → Int32 → Int32 → Option (Int32 × nS)} (K69 : ∀ (σ : nS) (x2 : Int32) (x3 : Int32) (x4 : Int32) (x5 : Int32) (x6 : Int32) (x7 : Int32) (x8 : Int32) (H : Heap) (locs : List Loc) (ls : Array Slot), lv_has ls 9 [(0, .ref (a 0)), (2, .int x2), (3, .int x3), (4, .int x4), (5, .int x5), (6, .int x6), (7, .int x7), (8, .int x8)] → va_P D vwCl ((Mw cy a) σ) H → va_S A s.heap H locs → k69 σ x2 x3 x4 x5 x6 x7 x8 = some z → W p l e ({ frames := 1, cells := 0, slots := 0, locals := 22 } : Room) s m args below meth c H locs 0 0 (nQi below D A (Mw cy a) args s z) (F0 m 69 ls [])) : ∀ (σ : nS) (x2 : Int32) (x3 : Int32) (x4 : Int32) (x5 : Int32) (x6 : Int32) (x7 : Int32) (x8 : Int32) (H : Heap) (locs : List Loc) (ls : Array Slot), lv_has ls 9 [(0, .ref (a 0)), (2, .int x2), (3, .int x3), (4, .int x4), (5, .int x5), (6, .int x6), (7, .int x7), (8, .int x8)] → va_P D vwCl ((Mw cy a) σ) H → va_S A s.heap H locs → l_X11_chooses_145 N k69 σ x2 x3 x4 x5 x6 x7 x8 = some z → W p l e ({ frames := 1, cells := 0, slots := 0, locals := 22 } : Room) s m args below meth c H locs 0 0 (nQi below D A (Mw cy a) args s z) (F0 m 145 ls []) := by
  exact kb_X11_chooses_145 (N := N)  C0 hE K69
def l_X11_chooses_223 (N : Nat) (k179 : nS → Int32 → Int32 → Int32 → Option (Int32 × nS)) : nS → Int32 → Int32 → Int32 → Option (Int32 × nS) := b_X11_chooses_223 N k179
theorem kl_X11_chooses_223 {p : Program} {l : Launch} {e : Env} {s : State} {m : MethodId} {args : Array Value} {below : List Frame} {meth : Method} {c : Code} {D : va_G} {A : Nat → Prop} {cy : Nat → ClassId} {a kt vt : Nat → Nat} {N : Nat}   (C0 : nCx p s m args meth c cX11_chooses 9 (some .boolean) RX11 wsX11_chooses) (hE : nEn D A cy (Mw cy a) kt vt s) {z : Int32 × nS} {k179 : nS → Int32 → Int32 → Int32 → Option (Int32 × nS)} (K179 : ∀ (σ : nS) (x6 : Int32) (x7 : Int32) (x8 : Int32) (H : Heap) (locs : List Loc) (ls : Array Slot), lv_has ls 9 [(0, .ref (a 0)), (6, .int x6), (7, .int x7), (8, .int x8)] → va_P D vwCl ((Mw cy a) σ) H → va_S A s.heap H locs → k179 σ x6 x7 x8 = some z → W p l e ({ frames := 1, cells := 0, slots := 0, locals := 22 } : Room) s m args below meth c H locs 0 0 (nQi below D A (Mw cy a) args s z) (F0 m 179 ls [])) : ∀ (σ : nS) (x6 : Int32) (x7 : Int32) (x8 : Int32) (H : Heap) (locs : List Loc) (ls : Array Slot), lv_has ls 9 [(0, .ref (a 0)), (6, .int x6), (7, .int x7), (8, .int x8)] → va_P D vwCl ((Mw cy a) σ) H → va_S A s.heap H locs → l_X11_chooses_223 N k179 σ x6 x7 x8 = some z → W p l e ({ frames := 1, cells := 0, slots := 0, locals := 22 } : Room) s m args below meth c H locs 0 0 (nQi below D A (Mw cy a) args s z) (F0 m 223 ls []) := by
  exact kb_X11_chooses_223 (N := N)  C0 hE K179
def l_X11_chooses_69 (N : Nat) (k151 : nS → Int32 → Int32 → Int32 → Int32 → Int32 → Int32 → Option (Int32 × nS)) : nS → Int32 → Int32 → Int32 → Int32 → Int32 → Int32 → Int32 → Option (Int32 × nS) := nLp (fun _ _ _ _ _ _ _ _ => none) (fun again => b_X11_chooses_69 N (l_X11_chooses_145 N again) k151) N
theorem kl_X11_chooses_69 {p : Program} {l : Launch} {e : Env} {s : State} {m : MethodId} {args : Array Value} {below : List Frame} {meth : Method} {c : Code} {D : va_G} {A : Nat → Prop} {cy : Nat → ClassId} {a kt vt : Nat → Nat} {N : Nat}   (C0 : nCx p s m args meth c cX11_chooses 9 (some .boolean) RX11 wsX11_chooses) (hE : nEn D A cy (Mw cy a) kt vt s) {z : Int32 × nS} {k151 : nS → Int32 → Int32 → Int32 → Int32 → Int32 → Int32 → Option (Int32 × nS)} (K151 : ∀ (σ : nS) (x2 : Int32) (x3 : Int32) (x4 : Int32) (x5 : Int32) (x6 : Int32) (x7 : Int32) (H : Heap) (locs : List Loc) (ls : Array Slot), lv_has ls 9 [(0, .ref (a 0)), (2, .int x2), (3, .int x3), (4, .int x4), (5, .int x5), (6, .int x6), (7, .int x7)] → va_P D vwCl ((Mw cy a) σ) H → va_S A s.heap H locs → k151 σ x2 x3 x4 x5 x6 x7 = some z → W p l e ({ frames := 1, cells := 0, slots := 0, locals := 22 } : Room) s m args below meth c H locs 0 0 (nQi below D A (Mw cy a) args s z) (F0 m 151 ls [])) : ∀ (σ : nS) (x2 : Int32) (x3 : Int32) (x4 : Int32) (x5 : Int32) (x6 : Int32) (x7 : Int32) (x8 : Int32) (H : Heap) (locs : List Loc) (ls : Array Slot), lv_has ls 9 [(0, .ref (a 0)), (2, .int x2), (3, .int x3), (4, .int x4), (5, .int x5), (6, .int x6), (7, .int x7), (8, .int x8)] → va_P D vwCl ((Mw cy a) σ) H → va_S A s.heap H locs → l_X11_chooses_69 N k151 σ x2 x3 x4 x5 x6 x7 x8 = some z → W p l e ({ frames := 1, cells := 0, slots := 0, locals := 22 } : Room) s m args below meth c H locs 0 0 (nQi below D A (Mw cy a) args s z) (F0 m 69 ls []) := by
  have main : ∀ (fu : Nat), ∀ (σ : nS) (x2 : Int32) (x3 : Int32) (x4 : Int32) (x5 : Int32) (x6 : Int32) (x7 : Int32) (x8 : Int32) (H : Heap) (locs : List Loc) (ls : Array Slot), lv_has ls 9 [(0, .ref (a 0)), (2, .int x2), (3, .int x3), (4, .int x4), (5, .int x5), (6, .int x6), (7, .int x7), (8, .int x8)] → va_P D vwCl ((Mw cy a) σ) H → va_S A s.heap H locs → nLp (fun _ _ _ _ _ _ _ _ => none) (fun again => b_X11_chooses_69 N (l_X11_chooses_145 N again) k151) fu σ x2 x3 x4 x5 x6 x7 x8 = some z → W p l e ({ frames := 1, cells := 0, slots := 0, locals := 22 } : Room) s m args below meth c H locs 0 0 (nQi below D A (Mw cy a) args s z) (F0 m 69 ls []) := by
    intro fu
    induction fu with
    | zero => intro σ x2 x3 x4 x5 x6 x7 x8 H locs ls hl hP hS hf; cases hf
    | succ fu ih => exact kb_X11_chooses_69 (N := N)  C0 hE (kl_X11_chooses_145 (N := N)  C0 hE ih) K151
  exact main N
def l_X11_chooses_151 (N : Nat) (k43 : nS → Int32 → Int32 → Int32 → Int32 → Int32 → Int32 → Option (Int32 × nS)) : nS → Int32 → Int32 → Int32 → Int32 → Int32 → Int32 → Option (Int32 × nS) := b_X11_chooses_151 N k43
theorem kl_X11_chooses_151 {p : Program} {l : Launch} {e : Env} {s : State} {m : MethodId} {args : Array Value} {below : List Frame} {meth : Method} {c : Code} {D : va_G} {A : Nat → Prop} {cy : Nat → ClassId} {a kt vt : Nat → Nat} {N : Nat}   (C0 : nCx p s m args meth c cX11_chooses 9 (some .boolean) RX11 wsX11_chooses) (hE : nEn D A cy (Mw cy a) kt vt s) {z : Int32 × nS} {k43 : nS → Int32 → Int32 → Int32 → Int32 → Int32 → Int32 → Option (Int32 × nS)} (K43 : ∀ (σ : nS) (x2 : Int32) (x3 : Int32) (x4 : Int32) (x5 : Int32) (x6 : Int32) (x7 : Int32) (H : Heap) (locs : List Loc) (ls : Array Slot), lv_has ls 9 [(0, .ref (a 0)), (2, .int x2), (3, .int x3), (4, .int x4), (5, .int x5), (6, .int x6), (7, .int x7)] → va_P D vwCl ((Mw cy a) σ) H → va_S A s.heap H locs → k43 σ x2 x3 x4 x5 x6 x7 = some z → W p l e ({ frames := 1, cells := 0, slots := 0, locals := 22 } : Room) s m args below meth c H locs 0 0 (nQi below D A (Mw cy a) args s z) (F0 m 43 ls [])) : ∀ (σ : nS) (x2 : Int32) (x3 : Int32) (x4 : Int32) (x5 : Int32) (x6 : Int32) (x7 : Int32) (H : Heap) (locs : List Loc) (ls : Array Slot), lv_has ls 9 [(0, .ref (a 0)), (2, .int x2), (3, .int x3), (4, .int x4), (5, .int x5), (6, .int x6), (7, .int x7)] → va_P D vwCl ((Mw cy a) σ) H → va_S A s.heap H locs → l_X11_chooses_151 N k43 σ x2 x3 x4 x5 x6 x7 = some z → W p l e ({ frames := 1, cells := 0, slots := 0, locals := 22 } : Room) s m args below meth c H locs 0 0 (nQi below D A (Mw cy a) args s z) (F0 m 151 ls []) := by
  exact kb_X11_chooses_151 (N := N)  C0 hE K43
def l_X11_chooses_238 (N : Nat) : nS → Int32 → Option (Int32 × nS) := nLp (fun _ _ => none) (fun again => b_X11_chooses_238 N again) N
theorem kl_X11_chooses_238 {p : Program} {l : Launch} {e : Env} {s : State} {m : MethodId} {args : Array Value} {below : List Frame} {meth : Method} {c : Code} {D : va_G} {A : Nat → Prop} {cy : Nat → ClassId} {a kt vt : Nat → Nat} {N : Nat}   (C0 : nCx p s m args meth c cX11_chooses 9 (some .boolean) RX11 wsX11_chooses) (hE : nEn D A cy (Mw cy a) kt vt s) {z : Int32 × nS} : ∀ (σ : nS) (x7 : Int32) (H : Heap) (locs : List Loc) (ls : Array Slot), lv_has ls 9 [(0, .ref (a 0)), (7, .int x7)] → va_P D vwCl ((Mw cy a) σ) H → va_S A s.heap H locs → l_X11_chooses_238 N σ x7 = some z → W p l e ({ frames := 1, cells := 0, slots := 0, locals := 22 } : Room) s m args below meth c H locs 0 0 (nQi below D A (Mw cy a) args s z) (F0 m 238 ls []) := by
  have main : ∀ (fu : Nat), ∀ (σ : nS) (x7 : Int32) (H : Heap) (locs : List Loc) (ls : Array Slot), lv_has ls 9 [(0, .ref (a 0)), (7, .int x7)] → va_P D vwCl ((Mw cy a) σ) H → va_S A s.heap H locs → nLp (fun _ _ => none) (fun again => b_X11_chooses_238 N again) fu σ x7 = some z → W p l e ({ frames := 1, cells := 0, slots := 0, locals := 22 } : Room) s m args below meth c H locs 0 0 (nQi below D A (Mw cy a) args s z) (F0 m 238 ls []) := by
    intro fu
    induction fu with
    | zero => intro σ x7 H locs ls hl hP hS hf; cases hf
    | succ fu ih => exact kb_X11_chooses_238 (N := N)  C0 hE ih
  exact main N
def l_X11_chooses_179 (N : Nat) (k169 : nS → Int32 → Int32 → Option (Int32 × nS)) : nS → Int32 → Int32 → Int32 → Option (Int32 × nS) := nLp (fun _ _ _ _ => none) (fun again => b_X11_chooses_179 N k169 (l_X11_chooses_223 N again)) N
theorem kl_X11_chooses_179 {p : Program} {l : Launch} {e : Env} {s : State} {m : MethodId} {args : Array Value} {below : List Frame} {meth : Method} {c : Code} {D : va_G} {A : Nat → Prop} {cy : Nat → ClassId} {a kt vt : Nat → Nat} {N : Nat}   (C0 : nCx p s m args meth c cX11_chooses 9 (some .boolean) RX11 wsX11_chooses) (hE : nEn D A cy (Mw cy a) kt vt s) {z : Int32 × nS} {k169 : nS → Int32 → Int32 → Option (Int32 × nS)} (K169 : ∀ (σ : nS) (x6 : Int32) (x7 : Int32) (H : Heap) (locs : List Loc) (ls : Array Slot), lv_has ls 9 [(0, .ref (a 0)), (6, .int x6), (7, .int x7)] → va_P D vwCl ((Mw cy a) σ) H → va_S A s.heap H locs → k169 σ x6 x7 = some z → W p l e ({ frames := 1, cells := 0, slots := 0, locals := 22 } : Room) s m args below meth c H locs 0 0 (nQi below D A (Mw cy a) args s z) (F0 m 169 ls [])) : ∀ (σ : nS) (x6 : Int32) (x7 : Int32) (x8 : Int32) (H : Heap) (locs : List Loc) (ls : Array Slot), lv_has ls 9 [(0, .ref (a 0)), (6, .int x6), (7, .int x7), (8, .int x8)] → va_P D vwCl ((Mw cy a) σ) H → va_S A s.heap H locs → l_X11_chooses_179 N k169 σ x6 x7 x8 = some z → W p l e ({ frames := 1, cells := 0, slots := 0, locals := 22 } : Room) s m args below meth c H locs 0 0 (nQi below D A (Mw cy a) args s z) (F0 m 179 ls []) := by
  have main : ∀ (fu : Nat), ∀ (σ : nS) (x6 : Int32) (x7 : Int32) (x8 : Int32) (H : Heap) (locs : List Loc) (ls : Array Slot), lv_has ls 9 [(0, .ref (a 0)), (6, .int x6), (7, .int x7), (8, .int x8)] → va_P D vwCl ((Mw cy a) σ) H → va_S A s.heap H locs → nLp (fun _ _ _ _ => none) (fun again => b_X11_chooses_179 N k169 (l_X11_chooses_223 N again)) fu σ x6 x7 x8 = some z → W p l e ({ frames := 1, cells := 0, slots := 0, locals := 22 } : Room) s m args below meth c H locs 0 0 (nQi below D A (Mw cy a) args s z) (F0 m 179 ls []) := by
    intro fu
    induction fu with
    | zero => intro σ x6 x7 x8 H locs ls hl hP hS hf; cases hf
    | succ fu ih => exact kb_X11_chooses_179 (N := N)  C0 hE K169 (kl_X11_chooses_223 (N := N)  C0 hE ih)
  exact main N
def l_X11_chooses_43 (N : Nat) (k157 : nS → Int32 → Int32 → Int32 → Int32 → Int32 → Option (Int32 × nS)) : nS → Int32 → Int32 → Int32 → Int32 → Int32 → Int32 → Option (Int32 × nS) := nLp (fun _ _ _ _ _ _ _ => none) (fun again => b_X11_chooses_43 N (l_X11_chooses_69 N (l_X11_chooses_151 N again)) (l_X11_chooses_151 N again) k157) N
theorem kl_X11_chooses_43 {p : Program} {l : Launch} {e : Env} {s : State} {m : MethodId} {args : Array Value} {below : List Frame} {meth : Method} {c : Code} {D : va_G} {A : Nat → Prop} {cy : Nat → ClassId} {a kt vt : Nat → Nat} {N : Nat}   (C0 : nCx p s m args meth c cX11_chooses 9 (some .boolean) RX11 wsX11_chooses) (hE : nEn D A cy (Mw cy a) kt vt s) {z : Int32 × nS} {k157 : nS → Int32 → Int32 → Int32 → Int32 → Int32 → Option (Int32 × nS)} (K157 : ∀ (σ : nS) (x2 : Int32) (x3 : Int32) (x4 : Int32) (x5 : Int32) (x6 : Int32) (H : Heap) (locs : List Loc) (ls : Array Slot), lv_has ls 9 [(0, .ref (a 0)), (2, .int x2), (3, .int x3), (4, .int x4), (5, .int x5), (6, .int x6)] → va_P D vwCl ((Mw cy a) σ) H → va_S A s.heap H locs → k157 σ x2 x3 x4 x5 x6 = some z → W p l e ({ frames := 1, cells := 0, slots := 0, locals := 22 } : Room) s m args below meth c H locs 0 0 (nQi below D A (Mw cy a) args s z) (F0 m 157 ls [])) : ∀ (σ : nS) (x2 : Int32) (x3 : Int32) (x4 : Int32) (x5 : Int32) (x6 : Int32) (x7 : Int32) (H : Heap) (locs : List Loc) (ls : Array Slot), lv_has ls 9 [(0, .ref (a 0)), (2, .int x2), (3, .int x3), (4, .int x4), (5, .int x5), (6, .int x6), (7, .int x7)] → va_P D vwCl ((Mw cy a) σ) H → va_S A s.heap H locs → l_X11_chooses_43 N k157 σ x2 x3 x4 x5 x6 x7 = some z → W p l e ({ frames := 1, cells := 0, slots := 0, locals := 22 } : Room) s m args below meth c H locs 0 0 (nQi below D A (Mw cy a) args s z) (F0 m 43 ls []) := by
  have main : ∀ (fu : Nat), ∀ (σ : nS) (x2 : Int32) (x3 : Int32) (x4 : Int32) (x5 : Int32) (x6 : Int32) (x7 : Int32) (H : Heap) (locs : List Loc) (ls : Array Slot), lv_has ls 9 [(0, .ref (a 0)), (2, .int x2), (3, .int x3), (4, .int x4), (5, .int x5), (6, .int x6), (7, .int x7)] → va_P D vwCl ((Mw cy a) σ) H → va_S A s.heap H locs → nLp (fun _ _ _ _ _ _ _ => none) (fun again => b_X11_chooses_43 N (l_X11_chooses_69 N (l_X11_chooses_151 N again)) (l_X11_chooses_151 N again) k157) fu σ x2 x3 x4 x5 x6 x7 = some z → W p l e ({ frames := 1, cells := 0, slots := 0, locals := 22 } : Room) s m args below meth c H locs 0 0 (nQi below D A (Mw cy a) args s z) (F0 m 43 ls []) := by
    intro fu
    induction fu with
    | zero => intro σ x2 x3 x4 x5 x6 x7 H locs ls hl hP hS hf; cases hf
    | succ fu ih => exact kb_X11_chooses_43 (N := N)  C0 hE (kl_X11_chooses_69 (N := N)  C0 hE (kl_X11_chooses_151 (N := N)  C0 hE ih)) (kl_X11_chooses_151 (N := N)  C0 hE ih) K157
  exact main N
def l_X11_chooses_169 (N : Nat) : nS → Int32 → Int32 → Option (Int32 × nS) := nLp (fun _ _ _ => none) (fun again => b_X11_chooses_169 N (l_X11_chooses_179 N again) (l_X11_chooses_238 N)) N
theorem kl_X11_chooses_169 {p : Program} {l : Launch} {e : Env} {s : State} {m : MethodId} {args : Array Value} {below : List Frame} {meth : Method} {c : Code} {D : va_G} {A : Nat → Prop} {cy : Nat → ClassId} {a kt vt : Nat → Nat} {N : Nat}   (C0 : nCx p s m args meth c cX11_chooses 9 (some .boolean) RX11 wsX11_chooses) (hE : nEn D A cy (Mw cy a) kt vt s) {z : Int32 × nS} : ∀ (σ : nS) (x6 : Int32) (x7 : Int32) (H : Heap) (locs : List Loc) (ls : Array Slot), lv_has ls 9 [(0, .ref (a 0)), (6, .int x6), (7, .int x7)] → va_P D vwCl ((Mw cy a) σ) H → va_S A s.heap H locs → l_X11_chooses_169 N σ x6 x7 = some z → W p l e ({ frames := 1, cells := 0, slots := 0, locals := 22 } : Room) s m args below meth c H locs 0 0 (nQi below D A (Mw cy a) args s z) (F0 m 169 ls []) := by
  have main : ∀ (fu : Nat), ∀ (σ : nS) (x6 : Int32) (x7 : Int32) (H : Heap) (locs : List Loc) (ls : Array Slot), lv_has ls 9 [(0, .ref (a 0)), (6, .int x6), (7, .int x7)] → va_P D vwCl ((Mw cy a) σ) H → va_S A s.heap H locs → nLp (fun _ _ _ => none) (fun again => b_X11_chooses_169 N (l_X11_chooses_179 N again) (l_X11_chooses_238 N)) fu σ x6 x7 = some z → W p l e ({ frames := 1, cells := 0, slots := 0, locals := 22 } : Room) s m args below meth c H locs 0 0 (nQi below D A (Mw cy a) args s z) (F0 m 169 ls []) := by
    intro fu
    induction fu with
    | zero => intro σ x6 x7 H locs ls hl hP hS hf; cases hf
    | succ fu ih => exact kb_X11_chooses_169 (N := N)  C0 hE (kl_X11_chooses_179 (N := N)  C0 hE ih) (kl_X11_chooses_238 (N := N)  C0 hE)
  exact main N
def l_X11_chooses_157 (N : Nat) (k16 : nS → Int32 → Int32 → Int32 → Int32 → Int32 → Option (Int32 × nS)) : nS → Int32 → Int32 → Int32 → Int32 → Int32 → Option (Int32 × nS) := b_X11_chooses_157 N k16
theorem kl_X11_chooses_157 {p : Program} {l : Launch} {e : Env} {s : State} {m : MethodId} {args : Array Value} {below : List Frame} {meth : Method} {c : Code} {D : va_G} {A : Nat → Prop} {cy : Nat → ClassId} {a kt vt : Nat → Nat} {N : Nat}   (C0 : nCx p s m args meth c cX11_chooses 9 (some .boolean) RX11 wsX11_chooses) (hE : nEn D A cy (Mw cy a) kt vt s) {z : Int32 × nS} {k16 : nS → Int32 → Int32 → Int32 → Int32 → Int32 → Option (Int32 × nS)} (K16 : ∀ (σ : nS) (x2 : Int32) (x3 : Int32) (x4 : Int32) (x5 : Int32) (x6 : Int32) (H : Heap) (locs : List Loc) (ls : Array Slot), lv_has ls 9 [(0, .ref (a 0)), (2, .int x2), (3, .int x3), (4, .int x4), (5, .int x5), (6, .int x6)] → va_P D vwCl ((Mw cy a) σ) H → va_S A s.heap H locs → k16 σ x2 x3 x4 x5 x6 = some z → W p l e ({ frames := 1, cells := 0, slots := 0, locals := 22 } : Room) s m args below meth c H locs 0 0 (nQi below D A (Mw cy a) args s z) (F0 m 16 ls [])) : ∀ (σ : nS) (x2 : Int32) (x3 : Int32) (x4 : Int32) (x5 : Int32) (x6 : Int32) (H : Heap) (locs : List Loc) (ls : Array Slot), lv_has ls 9 [(0, .ref (a 0)), (2, .int x2), (3, .int x3), (4, .int x4), (5, .int x5), (6, .int x6)] → va_P D vwCl ((Mw cy a) σ) H → va_S A s.heap H locs → l_X11_chooses_157 N k16 σ x2 x3 x4 x5 x6 = some z → W p l e ({ frames := 1, cells := 0, slots := 0, locals := 22 } : Room) s m args below meth c H locs 0 0 (nQi below D A (Mw cy a) args s z) (F0 m 157 ls []) := by
  exact kb_X11_chooses_157 (N := N)  C0 hE K16
def l_X11_chooses_16 (N : Nat) : nS → Int32 → Int32 → Int32 → Int32 → Int32 → Option (Int32 × nS) := nLp (fun _ _ _ _ _ _ => none) (fun again => b_X11_chooses_16 N (l_X11_chooses_43 N (l_X11_chooses_157 N again)) (l_X11_chooses_157 N again) (l_X11_chooses_169 N)) N
theorem kl_X11_chooses_16 {p : Program} {l : Launch} {e : Env} {s : State} {m : MethodId} {args : Array Value} {below : List Frame} {meth : Method} {c : Code} {D : va_G} {A : Nat → Prop} {cy : Nat → ClassId} {a kt vt : Nat → Nat} {N : Nat}   (C0 : nCx p s m args meth c cX11_chooses 9 (some .boolean) RX11 wsX11_chooses) (hE : nEn D A cy (Mw cy a) kt vt s) {z : Int32 × nS} : ∀ (σ : nS) (x2 : Int32) (x3 : Int32) (x4 : Int32) (x5 : Int32) (x6 : Int32) (H : Heap) (locs : List Loc) (ls : Array Slot), lv_has ls 9 [(0, .ref (a 0)), (2, .int x2), (3, .int x3), (4, .int x4), (5, .int x5), (6, .int x6)] → va_P D vwCl ((Mw cy a) σ) H → va_S A s.heap H locs → l_X11_chooses_16 N σ x2 x3 x4 x5 x6 = some z → W p l e ({ frames := 1, cells := 0, slots := 0, locals := 22 } : Room) s m args below meth c H locs 0 0 (nQi below D A (Mw cy a) args s z) (F0 m 16 ls []) := by
  have main : ∀ (fu : Nat), ∀ (σ : nS) (x2 : Int32) (x3 : Int32) (x4 : Int32) (x5 : Int32) (x6 : Int32) (H : Heap) (locs : List Loc) (ls : Array Slot), lv_has ls 9 [(0, .ref (a 0)), (2, .int x2), (3, .int x3), (4, .int x4), (5, .int x5), (6, .int x6)] → va_P D vwCl ((Mw cy a) σ) H → va_S A s.heap H locs → nLp (fun _ _ _ _ _ _ => none) (fun again => b_X11_chooses_16 N (l_X11_chooses_43 N (l_X11_chooses_157 N again)) (l_X11_chooses_157 N again) (l_X11_chooses_169 N)) fu σ x2 x3 x4 x5 x6 = some z → W p l e ({ frames := 1, cells := 0, slots := 0, locals := 22 } : Room) s m args below meth c H locs 0 0 (nQi below D A (Mw cy a) args s z) (F0 m 16 ls []) := by
    intro fu
    induction fu with
    | zero => intro σ x2 x3 x4 x5 x6 H locs ls hl hP hS hf; cases hf
    | succ fu ih => exact kb_X11_chooses_16 (N := N)  C0 hE (kl_X11_chooses_43 (N := N)  C0 hE (kl_X11_chooses_157 (N := N)  C0 hE ih)) (kl_X11_chooses_157 (N := N)  C0 hE ih) (kl_X11_chooses_169 (N := N)  C0 hE)
  exact main N
def l_X11_chooses_0 (N : Nat) : nS → Int32 → Int32 → Int32 → Int32 → Option (Int32 × nS) := b_X11_chooses_0 N (l_X11_chooses_16 N)
theorem kl_X11_chooses_0 {p : Program} {l : Launch} {e : Env} {s : State} {m : MethodId} {args : Array Value} {below : List Frame} {meth : Method} {c : Code} {D : va_G} {A : Nat → Prop} {cy : Nat → ClassId} {a kt vt : Nat → Nat} {N : Nat}   (C0 : nCx p s m args meth c cX11_chooses 9 (some .boolean) RX11 wsX11_chooses) (hE : nEn D A cy (Mw cy a) kt vt s) {z : Int32 × nS} : ∀ (σ : nS) (x1 : Int32) (x2 : Int32) (x3 : Int32) (x4 : Int32) (H : Heap) (locs : List Loc) (ls : Array Slot), lv_has ls 9 [(0, .ref (a 0)), (1, .int x1), (2, .int x2), (3, .int x3), (4, .int x4)] → va_P D vwCl ((Mw cy a) σ) H → va_S A s.heap H locs → l_X11_chooses_0 N σ x1 x2 x3 x4 = some z → W p l e ({ frames := 1, cells := 0, slots := 0, locals := 22 } : Room) s m args below meth c H locs 0 0 (nQi below D A (Mw cy a) args s z) (F0 m 0 ls []) := by
  exact kb_X11_chooses_0 (N := N)  C0 hE (kl_X11_chooses_16 (N := N)  C0 hE)
def f_X11_chooses (N : Nat) (x1 : Int32) (x2 : Int32) (x3 : Int32) (x4 : Int32) (σ : nS) : Option (Int32 × nS) := l_X11_chooses_0 N σ x1 x2 x3 x4
set_option maxHeartbeats 4000000 in
set_option maxRecDepth 100000 in
theorem c_X11_chooses {l : Launch} {D : va_G} {A : Nat → Prop} {cy : Nat → ClassId} {a kt vt : Nat → Nat} {N : Nat}   {x1 : Int32} {x2 : Int32} {x3 : Int32} {x4 : Int32} {σ : nS} {r : Int32} {σ' : nS} (hf : f_X11_chooses N x1 x2 x3 x4 σ = some (r, σ')) : nMi l yX11_chooses wsX11_chooses ({ frames := 1, cells := 0, slots := 0, locals := 22 } : Room) D A cy (Mw cy a) kt vt [.ref (a 0), .int x1, .int x2, .int x3, .int x4] σ r σ' := by
  refine Met.ofW (cc := cX11_chooses) (maxL := 9) (ret := (some .boolean)) (by decide) rfl ?_
  intro p e s m args below meth c s₁ B hml hv
  obtain ⟨rfl, hP, hE⟩ := hv
  have hl := lv_entry ([.ref (a 0), .int x1, .int x2, .int x3, .int x4]) (n := 9) (Nat.le_of_ble_eq_true rfl)
  rw [lg_entry_eq]
  generalize (lg_sl ([.ref (a 0), .int x1, .int x2, .int x3, .int x4]) ++ List.replicate (9 - (lg_sl ([.ref (a 0), .int x1, .int x2, .int x3, .int x4])).length) Slot.unset).toArray = ls at hl ⊢
  have C0 : nCx p s m _ meth c cX11_chooses 9 (some .boolean) RX11 wsX11_chooses := ⟨B.exec, B.bytes, B.returns, hml, findClass_of_methodNamed B.named, atoms_spec (ws := wsX11_chooses) B.pre, B.notSynchronized⟩
  exact kl_X11_chooses_0 (N := N)  C0 hE (z := (r, σ')) σ x1 x2 x3 x4 _ _ ls hl hP va_S.rf hf
/-! X11_playsChoice -/
def b_X11_playsChoice_0 (N : Nat) (σ : nS) (x1 : Int32) (x2 : Int32) : Option (Int32 × nS) := nLet (x2 &&& (255 : Int32) : Int32) (fun v1 => nLet (x2 >>> ((8 : Int32) &&& 31) : Int32) (fun v2 => nLet (v2 &&& (255 : Int32) : Int32) (fun v3 => nLet (x2 >>> ((16 : Int32) &&& 31) : Int32) (fun v4 => nBd (f_X11_plays N x1 v1 v3 v4 σ) (fun r5 σ6 => some (r5, σ6))))))
set_option maxHeartbeats 4000000 in
set_option maxRecDepth 100000 in
theorem kb_X11_playsChoice_0 {p : Program} {l : Launch} {e : Env} {s : State} {m : MethodId} {args : Array Value} {below : List Frame} {meth : Method} {c : Code} {D : va_G} {A : Nat → Prop} {cy : Nat → ClassId} {a kt vt : Nat → Nat} {N : Nat}   (C0 : nCx p s m args meth c cX11_playsChoice 3 (some .int) RX11 wsX11_playsChoice) (hE : nEn D A cy (Mw cy a) kt vt s) {z : Int32 × nS} : ∀ (σ : nS) (x1 : Int32) (x2 : Int32) (H : Heap) (locs : List Loc) (ls : Array Slot), lv_has ls 3 [(0, .ref (a 0)), (1, .int x1), (2, .int x2)] → va_P D vwCl ((Mw cy a) σ) H → va_S A s.heap H locs → b_X11_playsChoice_0 N σ x1 x2 = some z → W p l e ({ frames := 3, cells := 0, slots := 0, locals := 67 } : Room) s m args below meth c H locs 0 0 (nQi below D A (Mw cy a) args s z) (F0 m 0 ls []) := by
  obtain ⟨hx, hb, hr, hml, hown, hts, hlocks⟩ := C0
  intro σ x1 x2 H locs ls hl hP hS hf
  unfold b_X11_playsChoice_0 at hf
  refine lv_aload_n hx hb dX11_playsChoice_0 rfl (lv_at hl 0 rfl) ?_
  refine lv_iload_n hx hb dX11_playsChoice_1 rfl (lv_at hl 1 rfl) ?_
  refine lv_iload_n hx hb dX11_playsChoice_2 rfl (lv_at hl 2 rfl) ?_
  refine lv_sipush (v := 255) hx hb dX11_playsChoice_3 (by decide) ?_
  refine lv_iand hx hb dX11_playsChoice_6 ?_
  refine lv_topi (fun v1 ev1 => ?_)
  replace hf := nLet_e hf ev1
  refine lv_iload_n hx hb dX11_playsChoice_7 rfl (lv_at hl 2 rfl) ?_
  refine lv_bipush (v := 8) hx hb dX11_playsChoice_8 (by decide) ?_
  refine lv_ishr hx hb dX11_playsChoice_10 ?_
  refine lv_topi (fun v2 ev2 => ?_)
  replace hf := nLet_e hf ev2
  refine lv_sipush (v := 255) hx hb dX11_playsChoice_11 (by decide) ?_
  refine lv_iand hx hb dX11_playsChoice_14 ?_
  refine lv_topi (fun v3 ev3 => ?_)
  replace hf := nLet_e hf ev3
  refine lv_iload_n hx hb dX11_playsChoice_15 rfl (lv_at hl 2 rfl) ?_
  refine lv_bipush (v := 16) hx hb dX11_playsChoice_16 (by decide) ?_
  refine lv_ishr hx hb dX11_playsChoice_18 ?_
  refine lv_topi (fun v4 ev4 => ?_)
  replace hf := nLet_e hf ev4
  obtain ⟨r5, σ6, hc6, hf⟩ := nBd_e hf
  refine nb_callVi (As := [.int x1, .int v1, .int v3, .int v4]) (rest := []) ⟨hx, hb, hml, hown, hts⟩ (c_X11_plays (D := D) (A := A) (cy := cy) (a := a) (kt := kt) (vt := vt) (l := l)  hc6) (cwV 4 hts gX11_playsChoice_X11_plays rfl rfl rfl (by decide +kernel) ⟨Nat.le_of_ble_eq_true rfl, Nat.le_of_ble_eq_true rfl⟩) hE hP hS mbo_0 rfl rfl hl.1 rfl (Nat.le_of_ble_eq_true rfl) dX11_playsChoice_19 (fun H locs hP hS => ?_)
  exact nb_iret hx hb hr hlocks hP hS (nSo hf) dX11_playsChoice_22
def l_X11_playsChoice_0 (N : Nat) : nS → Int32 → Int32 → Option (Int32 × nS) := b_X11_playsChoice_0 N
theorem kl_X11_playsChoice_0 {p : Program} {l : Launch} {e : Env} {s : State} {m : MethodId} {args : Array Value} {below : List Frame} {meth : Method} {c : Code} {D : va_G} {A : Nat → Prop} {cy : Nat → ClassId} {a kt vt : Nat → Nat} {N : Nat}   (C0 : nCx p s m args meth c cX11_playsChoice 3 (some .int) RX11 wsX11_playsChoice) (hE : nEn D A cy (Mw cy a) kt vt s) {z : Int32 × nS} : ∀ (σ : nS) (x1 : Int32) (x2 : Int32) (H : Heap) (locs : List Loc) (ls : Array Slot), lv_has ls 3 [(0, .ref (a 0)), (1, .int x1), (2, .int x2)] → va_P D vwCl ((Mw cy a) σ) H → va_S A s.heap H locs → l_X11_playsChoice_0 N σ x1 x2 = some z → W p l e ({ frames := 3, cells := 0, slots := 0, locals := 67 } : Room) s m args below meth c H locs 0 0 (nQi below D A (Mw cy a) args s z) (F0 m 0 ls []) := by
  exact kb_X11_playsChoice_0 (N := N)  C0 hE
def f_X11_playsChoice (N : Nat) (x1 : Int32) (x2 : Int32) (σ : nS) : Option (Int32 × nS) := l_X11_playsChoice_0 N σ x1 x2
set_option maxHeartbeats 4000000 in
set_option maxRecDepth 100000 in
theorem c_X11_playsChoice {l : Launch} {D : va_G} {A : Nat → Prop} {cy : Nat → ClassId} {a kt vt : Nat → Nat} {N : Nat}   {x1 : Int32} {x2 : Int32} {σ : nS} {r : Int32} {σ' : nS} (hf : f_X11_playsChoice N x1 x2 σ = some (r, σ')) : nMi l yX11_playsChoice wsX11_playsChoice ({ frames := 3, cells := 0, slots := 0, locals := 67 } : Room) D A cy (Mw cy a) kt vt [.ref (a 0), .int x1, .int x2] σ r σ' := by
  refine Met.ofW (cc := cX11_playsChoice) (maxL := 3) (ret := (some .int)) (by decide) rfl ?_
  intro p e s m args below meth c s₁ B hml hv
  obtain ⟨rfl, hP, hE⟩ := hv
  have hl := lv_entry ([.ref (a 0), .int x1, .int x2]) (n := 3) (Nat.le_of_ble_eq_true rfl)
  rw [lg_entry_eq]
  generalize (lg_sl ([.ref (a 0), .int x1, .int x2]) ++ List.replicate (3 - (lg_sl ([.ref (a 0), .int x1, .int x2])).length) Slot.unset).toArray = ls at hl ⊢
  have C0 : nCx p s m _ meth c cX11_playsChoice 3 (some .int) RX11 wsX11_playsChoice := ⟨B.exec, B.bytes, B.returns, hml, findClass_of_methodNamed B.named, atoms_spec (ws := wsX11_playsChoice) B.pre, B.notSynchronized⟩
  exact kl_X11_playsChoice_0 (N := N)  C0 hE (z := (r, σ')) σ x1 x2 _ _ ls hl hP va_S.rf hf
