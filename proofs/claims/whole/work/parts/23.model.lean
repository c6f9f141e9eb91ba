/-! X11_all -/
set_option maxRecDepth 20000 in
theorem iX11_all_X11 : ∀ w ∈ u_ws RX11 TX11 68, w ∈ wsX11_all := fun _ h => List.mem_cons_of_mem _ (List.mem_append_right _ h)
set_option maxRecDepth 20000 in
theorem qX11_all_117 : Cond.fieldLink RX11 117 RX11 (TX11 0).2.1 (TX11 0).2.2.1 ∈ wsX11_all := by decide +kernel
set_option maxRecDepth 20000 in
theorem qX11_all_325 : Cond.fieldLink RX11 325 RX11 (TX11 47).2.1 (TX11 47).2.2.1 ∈ wsX11_all := by decide +kernel
set_option maxRecDepth 20000 in
theorem qX11_all_328 : Cond.fieldLink RX11 328 RX11 (TX11 48).2.1 (TX11 48).2.2.1 ∈ wsX11_all := by decide +kernel
set_option maxRecDepth 20000 in
theorem qX11_all_314 : Cond.fieldLink RX11 314 RX11 (TX11 46).2.1 (TX11 46).2.2.1 ∈ wsX11_all := by decide +kernel
set_option maxRecDepth 20000 in
theorem qX11_all_331 : Cond.fieldLink RX11 331 RX11 (TX11 49).2.1 (TX11 49).2.2.1 ∈ wsX11_all := by decide +kernel
set_option maxRecDepth 20000 in
theorem qX11_all_334 : Cond.fieldLink RX11 334 RX11 (TX11 50).2.1 (TX11 50).2.2.1 ∈ wsX11_all := by decide +kernel
set_option maxRecDepth 20000 in
theorem qX11_all_76 : Cond.fieldLink RX11 76 RX11 (TX11 52).2.1 (TX11 52).2.2.1 ∈ wsX11_all := by decide +kernel
set_option maxRecDepth 20000 in
theorem qX11_all_79 : Cond.fieldLink RX11 79 RX11 (TX11 53).2.1 (TX11 53).2.2.1 ∈ wsX11_all := by decide +kernel
set_option maxRecDepth 20000 in
theorem qX11_all_73 : Cond.fieldLink RX11 73 RX11 (TX11 51).2.1 (TX11 51).2.2.1 ∈ wsX11_all := by decide +kernel
set_option maxRecDepth 20000 in
theorem qX11_all_67 : Cond.fieldLink RX11 67 RX11 (TX11 44).2.1 (TX11 44).2.2.1 ∈ wsX11_all := by decide +kernel
set_option maxRecDepth 20000 in
theorem qX11_all_263 : Cond.fieldLink RX11 263 RX11 (TX11 33).2.1 (TX11 33).2.2.1 ∈ wsX11_all := by decide +kernel
def b_X11_all_257 (N : Nat) (k371 : nS → Int32 → Int32 → Option (Int32 × nS)) (σ : nS) (x1 : Int32) (x6 : Int32) : Option (Int32 × nS) := nIx 2 8 (nLet (σ.1 20 (2 : Int32).toNatClampNeg) (fun v1 => (if (σ.1 0 33) ≤ v1 then k371 σ x1 x6 else nIx 2 8 (nLet (wr σ 20 (2 : Int32).toNatClampNeg (σ.1 0 33)) (fun σ2 => nIx 7 8 (nLet (wr σ2 20 (7 : Int32).toNatClampNeg x6) (fun σ3 => k371 σ3 x1 x6)))))))
set_option maxHeartbeats 4000000 in
set_option maxRecDepth 100000 in
theorem kb_X11_all_257 {p : Program} {l : Launch} {e : Env} {s : State} {m : MethodId} {args : Array Value} {below : List Frame} {meth : Method} {c : Code} {D : va_G} {A : Nat → Prop} {cy : Nat → ClassId} {a kt vt : Nat → Nat} {N : Nat}   (C0 : nCx p s m args meth c cX11_all 8 (some .int) RX11 wsX11_all) (hE : nEn D A cy (Mw cy a) kt vt s) {z : Int32 × nS} {k371 : nS → Int32 → Int32 → Option (Int32 × nS)} (K371 : ∀ (σ : nS) (x1 : Int32) (x6 : Int32) (H : Heap) (locs : List Loc) (ls : Array Slot), lv_has ls 8 [(0, .ref (a 0)), (1, .int x1), (6, .int x6)] → va_P D vwCl ((Mw cy a) σ) H → va_S A s.heap H locs → k371 σ x1 x6 = some z → W p l e ({ frames := 4, cells := 0, slots := 0, locals := 89 } : Room) s m args below meth c H locs 0 0 (nQi below D A (Mw cy a) args s z) (F0 m 371 ls [])) : ∀ (σ : nS) (x1 : Int32) (x6 : Int32) (H : Heap) (locs : List Loc) (ls : Array Slot), lv_has ls 8 [(0, .ref (a 0)), (1, .int x1), (6, .int x6)] → va_P D vwCl ((Mw cy a) σ) H → va_S A s.heap H locs → b_X11_all_257 N k371 σ x1 x6 = some z → W p l e ({ frames := 4, cells := 0, slots := 0, locals := 89 } : Room) s m args below meth c H locs 0 0 (nQi below D A (Mw cy a) args s z) (F0 m 257 ls []) := by
  obtain ⟨hx, hb, hr, hml, hown, hts, hlocks⟩ := C0
  intro σ x1 x6 H locs ls hl hP hS hf
  unfold b_X11_all_257 at hf
  refine lv_aload_n hx hb dX11_all_257 rfl (lv_at hl 0 rfl) ?_
  refine nb_get (ci := 11) hx hb hts iX11_all_X11 hown hE hP 0 mbo_0 rfl 33 (by decide) qX11_all_263 rfl rfl dX11_all_258 ?_
  refine lv_aload_n hx hb dX11_all_261 rfl (lv_at hl 0 rfl) ?_
  refine nb_get (ci := 11) hx hb hts iX11_all_X11 hown hE hP 0 mbo_0 rfl 53 (by decide) qX11_all_79 rfl rfl dX11_all_262 ?_
  refine lv_iconst (v := 2) hx hb dX11_all_265 (by decide) ?_
  obtain ⟨hin, hf⟩ := nIx_e hf
  refine na_iald hx hb hE hP mbr_20 hin dX11_all_266 ?_
  refine lv_topi (fun v1 ev1 => ?_)
  replace hf := nLet_e hf ev1
  refine lv_icmp_le (tgt := 371) hx hb dX11_all_267 (by decide) (fun hc => ?_) (fun hc => ?_)
  · replace hf := nIf_t hc hf
    exact K371 σ x1 x6 H locs ls (lv_sub hl [0, 1, 2] rfl) hP hS hf
  · replace hf := nIf_f hc hf
    refine lv_aload_n hx hb dX11_all_270 rfl (lv_at hl 0 rfl) ?_
    refine nb_get (ci := 11) hx hb hts iX11_all_X11 hown hE hP 0 mbo_0 rfl 53 (by decide) qX11_all_79 rfl rfl dX11_all_271 ?_
    refine lv_iconst (v := 2) hx hb dX11_all_274 (by decide) ?_
    refine lv_aload_n hx hb dX11_all_275 rfl (lv_at hl 0 rfl) ?_
    refine nb_get (ci := 11) hx hb hts iX11_all_X11 hown hE hP 0 mbo_0 rfl 33 (by decide) qX11_all_263 rfl rfl dX11_all_276 ?_
    obtain ⟨hin, hf⟩ := nIx_e hf
    refine na_iast hx hb hE hP hS mbr_20 hin dX11_all_279 (fun σ2 eσ2 H locs hP hS => ?_)
    replace hf := nLet_e hf eσ2
    refine lv_aload_n hx hb dX11_all_280 rfl (lv_at hl 0 rfl) ?_
    refine nb_get (ci := 11) hx hb hts iX11_all_X11 hown hE hP 0 mbo_0 rfl 53 (by decide) qX11_all_79 rfl rfl dX11_all_281 ?_
    refine lv_bipush (v := 7) hx hb dX11_all_284 (by decide) ?_
    refine lv_iload hx hb dX11_all_286 (lv_at hl 2 rfl) ?_
    obtain ⟨hin, hf⟩ := nIx_e hf
    refine na_iast hx hb hE hP hS mbr_20 hin dX11_all_288 (fun σ3 eσ3 H locs hP hS => ?_)
    replace hf := nLet_e hf eσ3
    refine lv_goto (tgt := 371) hx hb dX11_all_289 (by decide) ?_
    exact K371 σ3 x1 x6 H locs ls (lv_sub hl [0, 1, 2] rfl) hP hS hf
def b_X11_all_247 (N : Nat) (k257 : nS → Int32 → Int32 → Option (Int32 × nS)) (σ : nS) (x1 : Int32) (x6 : Int32) : Option (Int32 × nS) := nIx 1 8 (nLet (wr σ 20 (1 : Int32).toNatClampNeg (σ.1 0 33)) (fun σ1 => k257 σ1 x1 x6))
set_option maxHeartbeats 4000000 in
set_option maxRecDepth 100000 in
theorem kb_X11_all_247 {p : Program} {l : Launch} {e : Env} {s : State} {m : MethodId} {args : Array Value} {below : List Frame} {meth : Method} {c : Code} {D : va_G} {A : Nat → Prop} {cy : Nat → ClassId} {a kt vt : Nat → Nat} {N : Nat}   (C0 : nCx p s m args meth c cX11_all 8 (some .int) RX11 wsX11_all) (hE : nEn D A cy (Mw cy a) kt vt s) {z : Int32 × nS} {k257 : nS → Int32 → Int32 → Option (Int32 × nS)} (K257 : ∀ (σ : nS) (x1 : Int32) (x6 : Int32) (H : Heap) (locs : List Loc) (ls : Array Slot), lv_has ls 8 [(0, .ref (a 0)), (1, .int x1), (6, .int x6)] → va_P D vwCl ((Mw cy a) σ) H → va_S A s.heap H locs → k257 σ x1 x6 = some z → W p l e ({ frames := 4, cells := 0, slots := 0, locals := 89 } : Room) s m args below meth c H locs 0 0 (nQi below D A (Mw cy a) args s z) (F0 m 257 ls [])) : ∀ (σ : nS) (x1 : Int32) (x6 : Int32) (H : Heap) (locs : List Loc) (ls : Array Slot), lv_has ls 8 [(0, .ref (a 0)), (1, .int x1), (6, .int x6)] → va_P D vwCl ((Mw cy a) σ) H → va_S A s.heap H locs → b_X11_all_247 N k257 σ x1 x6 = some z → W p l e ({ frames := 4, cells := 0, slots := 0, locals := 89 } : Room) s m args below meth c H locs 0 0 (nQi below D A (Mw cy a) args s z) (F0 m 247 ls []) := by
  obtain ⟨hx, hb, hr, hml, hown, hts, hlocks⟩ := C0
  intro σ x1 x6 H locs ls hl hP hS hf
  unfold b_X11_all_247 at hf
  refine lv_aload_n hx hb dX11_all_247 rfl (lv_at hl 0 rfl) ?_
  refine nb_get (ci := 11) hx hb hts iX11_all_X11 hown hE hP 0 mbo_0 rfl 53 (by decide) qX11_all_79 rfl rfl dX11_all_248 ?_
  refine lv_iconst (v := 1) hx hb dX11_all_251 (by decide) ?_
  refine lv_aload_n hx hb dX11_all_252 rfl (lv_at hl 0 rfl) ?_
  refine nb_get (ci := 11) hx hb hts iX11_all_X11 hown hE hP 0 mbo_0 rfl 33 (by decide) qX11_all_263 rfl rfl dX11_all_253 ?_
  obtain ⟨hin, hf⟩ := nIx_e hf
  refine na_iast hx hb hE hP hS mbr_20 hin dX11_all_256 (fun σ1 eσ1 H locs hP hS => ?_)
  replace hf := nLet_e hf eσ1
  exact K257 σ1 x1 x6 H locs ls (lv_sub hl [0, 1, 2] rfl) hP hS hf
def b_X11_all_361 (N : Nat) (k371 : nS → Int32 → Int32 → Option (Int32 × nS)) (σ : nS) (x1 : Int32) (x6 : Int32) : Option (Int32 × nS) := nLet ((σ.1 0 50) + (1 : Int32) : Int32) (fun v1 => nLet (wr σ 0 50 v1) (fun σ2 => k371 σ2 x1 x6))
set_option maxHeartbeats 4000000 in
set_option maxRecDepth 100000 in
theorem kb_X11_all_361 {p : Program} {l : Launch} {e : Env} {s : State} {m : MethodId} {args : Array Value} {below : List Frame} {meth : Method} {c : Code} {D : va_G} {A : Nat → Prop} {cy : Nat → ClassId} {a kt vt : Nat → Nat} {N : Nat}   (C0 : nCx p s m args meth c cX11_all 8 (some .int) RX11 wsX11_all) (hE : nEn D A cy (Mw cy a) kt vt s) {z : Int32 × nS} {k371 : nS → Int32 → Int32 → Option (Int32 × nS)} (K371 : ∀ (σ : nS) (x1 : Int32) (x6 : Int32) (H : Heap) (locs : List Loc) (ls : Array Slot), lv_has ls 8 [(0, .ref (a 0)), (1, .int x1), (6, .int x6)] → va_P D vwCl ((Mw cy a) σ) H → va_S A s.heap H locs → k371 σ x1 x6 = some z → W p l e ({ frames := 4, cells := 0, slots := 0, locals := 89 } : Room) s m args below meth c H locs 0 0 (nQi below D A (Mw cy a) args s z) (F0 m 371 ls [])) : ∀ (σ : nS) (x1 : Int32) (x6 : Int32) (H : Heap) (locs : List Loc) (ls : Array Slot), lv_has ls 8 [(0, .ref (a 0)), (1, .int x1), (6, .int x6)] → va_P D vwCl ((Mw cy a) σ) H → va_S A s.heap H locs → b_X11_all_361 N k371 σ x1 x6 = some z → W p l e ({ frames := 4, cells := 0, slots := 0, locals := 89 } : Room) s m args below meth c H locs 0 0 (nQi below D A (Mw cy a) args s z) (F0 m 361 ls []) := by
  obtain ⟨hx, hb, hr, hml, hown, hts, hlocks⟩ := C0
  intro σ x1 x6 H locs ls hl hP hS hf
  unfold b_X11_all_361 at hf
  refine lv_aload_n hx hb dX11_all_361 rfl (lv_at hl 0 rfl) ?_
  refine lv_dup hx hb dX11_all_362 rfl ?_
  refine nb_get (ci := 11) hx hb hts iX11_all_X11 hown hE hP 0 mbo_0 rfl 50 (by decide) qX11_all_334 rfl rfl dX11_all_363 ?_
  refine lv_iconst (v := 1) hx hb dX11_all_366 (by decide) ?_
  refine lv_iadd hx hb dX11_all_367 ?_
  refine lv_topi (fun v1 ev1 => ?_)
  replace hf := nLet_e hf ev1
  refine nb_put (ci := 11) hx hb hts iX11_all_X11 tyX11 tyX11_ok nmX11 hown hE hP hS 0 mbo_0 rfl 50 (by decide) qX11_all_334 rfl rfl rfl rfl (Nat.le_of_ble_eq_true rfl) dX11_all_368 (mbp_0_50 _) (fun σ2 eσ2 H locs hP hS => ?_)
  replace hf := nLet_e hf eσ2
  exact K371 σ2 x1 x6 H locs ls (lv_sub hl [0, 1, 2] rfl) hP hS hf
def b_X11_all_371 (N : Nat) (k171 : nS → Int32 → Int32 → Option (Int32 × nS)) (σ : nS) (x1 : Int32) (x6 : Int32) : Option (Int32 × nS) := nLet (x6 + 1 : Int32) (fun v1 => k171 σ x1 v1)
set_option maxHeartbeats 4000000 in
set_option maxRecDepth 100000 in
theorem kb_X11_all_371 {p : Program} {l : Launch} {e : Env} {s : State} {m : MethodId} {args : Array Value} {below : List Frame} {meth : Method} {c : Code} {D : va_G} {A : Nat → Prop} {cy : Nat → ClassId} {a kt vt : Nat → Nat} {N : Nat}   (C0 : nCx p s m args meth c cX11_all 8 (some .int) RX11 wsX11_all) (hE : nEn D A cy (Mw cy a) kt vt s) {z : Int32 × nS} {k171 : nS → Int32 → Int32 → Option (Int32 × nS)} (K171 : ∀ (σ : nS) (x1 : Int32) (x6 : Int32) (H : Heap) (locs : List Loc) (ls : Array Slot), lv_has ls 8 [(0, .ref (a 0)), (1, .int x1), (6, .int x6)] → va_P D vwCl ((Mw cy a) σ) H → va_S A s.heap H locs → k171 σ x1 x6 = some z → W p l e ({ frames := 4, cells := 0, slots := 0, locals := 89 } : Room) s m args below meth c H locs 0 0 (nQi below D A (Mw cy a) args s z) (F0 m 171 ls [])) : ∀ (σ : nS) (x1 : Int32) (x6 : Int32) (H : Heap) (locs : List Loc) (ls : Array Slot), lv_has ls 8 [(0, .ref (a 0)), (1, .int x1), (6, .int x6)] → va_P D vwCl ((Mw cy a) σ) H → va_S A s.heap H locs → b_X11_all_371 N k171 σ x1 x6 = some z → W p l e ({ frames := 4, cells := 0, slots := 0, locals := 89 } : Room) s m args below meth c H locs 0 0 (nQi below D A (Mw cy a) args s z) (F0 m 371 ls []) := by
  obtain ⟨hx, hb, hr, hml, hown, hts, hlocks⟩ := C0
  intro σ x1 x6 H locs ls hl hP hS hf
  unfold b_X11_all_371 at hf
  obtain ⟨v1, ev1⟩ : ∃ y : Int32, y = x6 + 1 := ⟨_, rfl⟩
  replace hf := nLet_e hf ev1
  refine lv_iinc (v := v1) (lv' := [(6, .int v1), (0, .ref (a 0)), (1, .int x1)]) hx hb dX11_all_371 hl (k := 2) rfl (by rw [ev1]; rfl) (by decide) rfl (fun ls hl => ?_)
  refine lv_goto (tgt := 171) hx hb dX11_all_374 (by decide) ?_
  exact K171 σ x1 v1 H locs ls (lv_sub hl [1, 2, 0] rfl) hP hS hf
def b_X11_all_171 (N : Nat) (k247 : nS → Int32 → Int32 → Option (Int32 × nS)) (k257 : nS → Int32 → Int32 → Option (Int32 × nS)) (k361 : nS → Int32 → Int32 → Option (Int32 × nS)) (σ : nS) (x1 : Int32) (x6 : Int32) : Option (Int32 × nS) := (if (σ.1 0 46) ≤ x6 then nBd (f_X11_done N (σ.1 0 50) σ) (fun r1 σ2 => some (r1, σ2)) else nIx x6 501 (nLet (σ.1 16 (x6).toNatClampNeg) (fun v3 => nIx x6 500 (nLet (wr σ 18 (x6).toNatClampNeg v3) (fun σ4 => nIx x6 501 (nLet (σ4.1 16 (x6).toNatClampNeg) (fun v5 => nBd (f_X11_playsChoice N x1 v5 σ4) (fun r6 σ7 => nIx r6 7 (nLet (σ7.1 19 (r6).toNatClampNeg) (fun v8 => nLet (v8 + (1 : Int32) : Int32) (fun v9 => nIx r6 7 (nLet (wr σ7 19 (r6).toNatClampNeg v9) (fun σ10 => (if r6 = 0 then nIx 1 8 (nLet (σ10.1 20 (1 : Int32).toNatClampNeg) (fun v22 => (if v22 = (-1) then k247 σ10 x1 x6 else nIx 1 8 (nLet (σ10.1 20 (1 : Int32).toNatClampNeg) (fun v23 => (if v23 ≤ (σ10.1 0 33) then k257 σ10 x1 x6 else k247 σ10 x1 x6)))))) else (if (σ10.1 0 50) = 0 then nIx x6 501 (nLet (σ10.1 16 (x6).toNatClampNeg) (fun v11 => nLet (v11 &&& (255 : Int32) : Int32) (fun v12 => nIx 3 8 (nLet (wr σ10 20 (3 : Int32).toNatClampNeg v12) (fun σ13 => nIx x6 501 (nLet (σ13.1 16 (x6).toNatClampNeg) (fun v14 => nLet (v14 >>> ((8 : Int32) &&& 31) : Int32) (fun v15 => nLet (v15 &&& (255 : Int32) : Int32) (fun v16 => nIx 4 8 (nLet (wr σ13 20 (4 : Int32).toNatClampNeg v16) (fun σ17 => nIx x6 501 (nLet (σ17.1 16 (x6).toNatClampNeg) (fun v18 => nLet (v18 >>> ((16 : Int32) &&& 31) : Int32) (fun v19 => nIx 5 8 (nLet (wr σ17 20 (5 : Int32).toNatClampNeg v19) (fun σ20 => nIx 6 8 (nLet (wr σ20 20 (6 : Int32).toNatClampNeg r6) (fun σ21 => k361 σ21 x1 x6)))))))))))))))))) else k361 σ10 x1 x6)))))))))))))))
set_option maxHeartbeats 4000000 in
set_option maxRecDepth 100000 in
theorem kb_X11_all_171 {p : Program} {l : Launch} {e : Env} {s : State} {m : MethodId} {args : Array Value} {below : List Frame} {meth : Method} {c : Code} {D : va_G} {A : Nat → Prop} {cy : Nat → ClassId} {a kt vt : Nat → Nat} {N : Nat}   (C0 : nCx p s m args meth c cX11_all 8 (some .int) RX11 wsX11_all) (hE : nEn D A cy (Mw cy a) kt vt s) {z : Int32 × nS} {k247 : nS → Int32 → Int32 → Option (Int32 × nS)} (K247 : ∀ (σ : nS) (x1 : Int32) (x6 : Int32) (H : Heap) (locs : List Loc) (ls : Array Slot), lv_has ls 8 [(0, .ref (a 0)), (1, .int x1), (6, .int x6)] → va_P D vwCl ((Mw cy a) σ) H → va_S A s.heap H locs → k247 σ x1 x6 = some z → W p l e ({ frames := 4, cells := 0, slots := 0, locals := 89 } : Room) s m args below meth c H locs 0 0 (nQi below D A (Mw cy a) args s z) (F0 m 247 ls [])) {k257 : nS → Int32 → Int32 → Option (Int32 × nS)} (K257 : ∀ (σ : nS) (x1 : Int32) (x6 : Int32) (H : Heap) (locs : List Loc) (ls : Array Slot), lv_has ls 8 [(0, .ref (a 0)), (1, .int x1), (6, .int x6)] → va_P D vwCl ((Mw cy a) σ) H → va_S A s.heap H locs → k257 σ x1 x6 = some z → W p l e ({ frames := 4, cells := 0, slots := 0, locals := 89 } : Room) s m args below meth c H locs 0 0 (nQi below D A (Mw cy a) args s z) (F0 m 257 ls [])) {k361 : nS → Int32 → Int32 → Option (Int32 × nS)} (K361 : ∀ (σ : nS) (x1 : Int32) (x6 : Int32) (H : Heap) (locs : List Loc) (ls : Array Slot), lv_has ls 8 [(0, .ref (a 0)), (1, .int x1), (6, .int x6)] → va_P D vwCl ((Mw cy a) σ) H → va_S A s.heap H locs → k361 σ x1 x6 = some z → W p l e ({ frames := 4, cells := 0, slots := 0, locals := 89 } : Room) s m args below meth c H locs 0 0 (nQi below D A (Mw cy a) args s z) (F0 m 361 ls [])) : ∀ (σ : nS) (x1 : Int32) (x6 : Int32) (H : Heap) (locs : List Loc) (ls : Array Slot), lv_has ls 8 [(0, .ref (a 0)), (1, .int x1), (6, .int x6)] → va_P D vwCl ((Mw cy a) σ) H → va_S A s.heap H locs → b_X11_all_171 N k247 k257 k361 σ x1 x6 = some z → W p l e ({ frames := 4, cells := 0, slots := 0, locals := 89 } : Room) s m args below meth c H locs 0 0 (nQi below D A (Mw cy a) args s z) (F0 m 171 ls []) := by
  obtain ⟨hx, hb, hr, hml, hown, hts, hlocks⟩ := C0
  intro σ x1 x6 H locs ls hl hP hS hf
  unfold b_X11_all_171 at hf
  refine lv_iload hx hb dX11_all_171 (lv_at hl 2 rfl) ?_
  refine lv_aload_n hx hb dX11_all_173 rfl (lv_at hl 0 rfl) ?_
  refine nb_get (ci := 11) hx hb hts iX11_all_X11 hown hE hP 0 mbo_0 rfl 46 (by decide) qX11_all_314 rfl rfl dX11_all_174 ?_
  refine lv_icmp_ge (tgt := 377) hx hb dX11_all_177 (by decide) (fun hc => ?_) (fun hc => ?_)
  · replace hf := nIf_t hc hf
    refine lv_aload_n hx hb dX11_all_377 rfl (lv_at hl 0 rfl) ?_
    refine lv_aload_n hx hb dX11_all_378 rfl (lv_at hl 0 rfl) ?_
    refine nb_get (ci := 11) hx hb hts iX11_all_X11 hown hE hP 0 mbo_0 rfl 50 (by decide) qX11_all_334 rfl rfl dX11_all_379 ?_
    obtain ⟨r1, σ2, hc2, hf⟩ := nBd_e hf
    refine nb_callVi (As := [.int (σ.1 0 50)]) (rest := []) ⟨hx, hb, hml, hown, hts⟩ (c_X11_done (D := D) (A := A) (cy := cy) (a := a) (kt := kt) (vt := vt) (l := l)  hc2) (cwV 1 hts gX11_all_X11_done rfl rfl rfl (by decide +kernel) ⟨Nat.le_of_ble_eq_true rfl, Nat.le_of_ble_eq_true rfl⟩) hE hP hS mbo_0 rfl rfl hl.1 rfl (Nat.le_of_ble_eq_true rfl) dX11_all_382 (fun H locs hP hS => ?_)
    exact nb_iret hx hb hr hlocks hP hS (nSo hf) dX11_all_385
  · replace hf := nIf_f hc hf
    refine lv_aload_n hx hb dX11_all_180 rfl (lv_at hl 0 rfl) ?_
    refine nb_get (ci := 11) hx hb hts iX11_all_X11 hown hE hP 0 mbo_0 rfl 51 (by decide) qX11_all_73 rfl rfl dX11_all_181 ?_
    refine lv_iload hx hb dX11_all_184 (lv_at hl 2 rfl) ?_
    refine lv_aload_n hx hb dX11_all_186 rfl (lv_at hl 0 rfl) ?_
    refine nb_get (ci := 11) hx hb hts iX11_all_X11 hown hE hP 0 mbo_0 rfl 44 (by decide) qX11_all_67 rfl rfl dX11_all_187 ?_
    refine lv_iload hx hb dX11_all_190 (lv_at hl 2 rfl) ?_
    obtain ⟨hin, hf⟩ := nIx_e hf
    refine na_iald hx hb hE hP mbr_16 hin dX11_all_192 ?_
    refine lv_topi (fun v3 ev3 => ?_)
    replace hf := nLet_e hf ev3
    obtain ⟨hin, hf⟩ := nIx_e hf
    refine na_iast hx hb hE hP hS mbr_18 hin dX11_all_193 (fun σ4 eσ4 H locs hP hS => ?_)
    replace hf := nLet_e hf eσ4
    refine lv_aload_n hx hb dX11_all_194 rfl (lv_at hl 0 rfl) ?_
    refine lv_iload_n hx hb dX11_all_195 rfl (lv_at hl 1 rfl) ?_
    refine lv_aload_n hx hb dX11_all_196 rfl (lv_at hl 0 rfl) ?_
    refine nb_get (ci := 11) hx hb hts iX11_all_X11 hown hE hP 0 mbo_0 rfl 44 (by decide) qX11_all_67 rfl rfl dX11_all_197 ?_
    refine lv_iload hx hb dX11_all_200 (lv_at hl 2 rfl) ?_
    obtain ⟨hin, hf⟩ := nIx_e hf
    refine na_iald hx hb hE hP mbr_16 hin dX11_all_202 ?_
    refine lv_topi (fun v5 ev5 => ?_)
    replace hf := nLet_e hf ev5
    obtain ⟨r6, σ7, hc7, hf⟩ := nBd_e hf
    refine nb_callVi (As := [.int x1, .int v5]) (rest := []) ⟨hx, hb, hml, hown, hts⟩ (c_X11_playsChoice (D := D) (A := A) (cy := cy) (a := a) (kt := kt) (vt := vt) (l := l)  hc7) (cwV 2 hts gX11_all_X11_playsChoice rfl rfl rfl (by decide +kernel) ⟨Nat.le_of_ble_eq_true rfl, Nat.le_of_ble_eq_true rfl⟩) hE hP hS mbo_0 rfl rfl hl.1 rfl (Nat.le_of_ble_eq_true rfl) dX11_all_203 (fun H locs hP hS => ?_)
    refine lv_istore (lv' := [(7, .int r6), (0, .ref (a 0)), (1, .int x1), (6, .int x6)]) hx hb dX11_all_206 hl (by decide) rfl (fun ls hl => ?_)
    refine lv_aload_n hx hb dX11_all_208 rfl (lv_at hl 1 rfl) ?_
    refine nb_get (ci := 11) hx hb hts iX11_all_X11 hown hE hP 0 mbo_0 rfl 52 (by decide) qX11_all_76 rfl rfl dX11_all_209 ?_
    refine lv_iload hx hb dX11_all_212 (lv_at hl 0 rfl) ?_
    refine lv_dup2_11 hx hb dX11_all_214 rfl rfl ?_
    obtain ⟨hin, hf⟩ := nIx_e hf
    refine na_iald hx hb hE hP mbr_19 hin dX11_all_215 ?_
    refine lv_topi (fun v8 ev8 => ?_)
    replace hf := nLet_e hf ev8
    refine lv_iconst (v := 1) hx hb dX11_all_216 (by decide) ?_
    refine lv_iadd hx hb dX11_all_217 ?_
    refine lv_topi (fun v9 ev9 => ?_)
    replace hf := nLet_e hf ev9
    obtain ⟨hin, hf⟩ := nIx_e hf
    refine na_iast hx hb hE hP hS mbr_19 hin dX11_all_218 (fun σ10 eσ10 H locs hP hS => ?_)
    replace hf := nLet_e hf eσ10
    refine lv_iload hx hb dX11_all_219 (lv_at hl 0 rfl) ?_
    refine lv_if_ne (tgt := 292) hx hb dX11_all_221 (by decide) (fun hc => ?_) (fun hc => ?_)
    · replace hf := nIf_f hc hf
      refine lv_aload_n hx hb dX11_all_292 rfl (lv_at hl 1 rfl) ?_
      refine nb_get (ci := 11) hx hb hts iX11_all_X11 hown hE hP 0 mbo_0 rfl 50 (by decide) qX11_all_334 rfl rfl dX11_all_293 ?_
      refine lv_if_ne (tgt := 361) hx hb dX11_all_296 (by decide) (fun hc => ?_) (fun hc => ?_)
      · replace hf := nIf_f hc hf
        exact K361 σ10 x1 x6 H locs ls (lv_sub hl [1, 2, 3] rfl) hP hS hf
      · replace hf := nIf_t hc hf
        refine lv_aload_n hx hb dX11_all_299 rfl (lv_at hl 1 rfl) ?_
        refine nb_get (ci := 11) hx hb hts iX11_all_X11 hown hE hP 0 mbo_0 rfl 53 (by decide) qX11_all_79 rfl rfl dX11_all_300 ?_
        refine lv_iconst (v := 3) hx hb dX11_all_303 (by decide) ?_
        refine lv_aload_n hx hb dX11_all_304 rfl (lv_at hl 1 rfl) ?_
        refine nb_get (ci := 11) hx hb hts iX11_all_X11 hown hE hP 0 mbo_0 rfl 44 (by decide) qX11_all_67 rfl rfl dX11_all_305 ?_
        refine lv_iload hx hb dX11_all_308 (lv_at hl 3 rfl) ?_
        obtain ⟨hin, hf⟩ := nIx_e hf
        refine na_iald hx hb hE hP mbr_16 hin dX11_all_310 ?_
        refine lv_topi (fun v11 ev11 => ?_)
        replace hf := nLet_e hf ev11
        refine lv_sipush (v := 255) hx hb dX11_all_311 (by decide) ?_
        refine lv_iand hx hb dX11_all_314 ?_
        refine lv_topi (fun v12 ev12 => ?_)
        replace hf := nLet_e hf ev12
        obtain ⟨hin, hf⟩ := nIx_e hf
        refine na_iast hx hb hE hP hS mbr_20 hin dX11_all_315 (fun σ13 eσ13 H locs hP hS => ?_)
        replace hf := nLet_e hf eσ13
        refine lv_aload_n hx hb dX11_all_316 rfl (lv_at hl 1 rfl) ?_
        refine nb_get (ci := 11) hx hb hts iX11_all_X11 hown hE hP 0 mbo_0 rfl 53 (by decide) qX11_all_79 rfl rfl dX11_all_317 ?_
        refine lv_iconst (v := 4) hx hb dX11_all_320 (by decide) ?_
        refine lv_aload_n hx hb dX11_all_321 rfl (lv_at hl 1 rfl) ?_
        refine nb_get (ci := 11) hx hb hts iX11_all_X11 hown hE hP 0 mbo_0 rfl 44 (by decide) qX11_all_67 rfl rfl dX11_all_322 ?_
        refine lv_iload hx hb dX11_all_325 (lv_at hl 3 rfl) ?_
        obtain ⟨hin, hf⟩ := nIx_e hf
        refine na_iald hx hb hE hP mbr_16 hin dX11_all_327 ?_
        refine lv_topi (fun v14 ev14 => ?_)
        replace hf := nLet_e hf ev14
        refine lv_bipush (v := 8) hx hb dX11_all_328 (by decide) ?_
        refine lv_ishr hx hb dX11_all_330 ?_
        refine lv_topi (fun v15 ev15 => ?_)
        replace hf := nLet_e hf ev15
        refine lv_sipush (v := 255) hx hb dX11_all_331 (by decide) ?_
        refine lv_iand hx hb dX11_all_334 ?_
        refine lv_topi (fun v16 ev16 => ?_)
        replace hf := nLet_e hf ev16
        obtain ⟨hin, hf⟩ := nIx_e hf
        refine na_iast hx hb hE hP hS mbr_20 hin dX11_all_335 (fun σ17 eσ17 H locs hP hS => ?_)
        replace hf := nLet_e hf eσ17
        refine lv_aload_n hx hb dX11_all_336 rfl (lv_at hl 1 rfl) ?_
        refine nb_get (ci := 11) hx hb hts iX11_all_X11 hown hE hP 0 mbo_0 rfl 53 (by decide) qX11_all_79 rfl rfl dX11_all_337 ?_
        refine lv_iconst (v := 5) hx hb dX11_all_340 (by decide) ?_
        refine lv_aload_n hx hb dX11_all_341 rfl (lv_at hl 1 rfl) ?_
        refine nb_get (ci := 11) hx hb hts iX11_all_X11 hown hE hP 0 mbo_0 rfl 44 (by decide) qX11_all_67 rfl rfl dX11_all_342 ?_
        refine lv_iload hx hb dX11_all_345 (lv_at hl 3 rfl) ?_
        obtain ⟨hin, hf⟩ := nIx_e hf
        refine na_iald hx hb hE hP mbr_16 hin dX11_all_347 ?_
        refine lv_topi (fun v18 ev18 => ?_)
        replace hf := nLet_e hf ev18
        refine lv_bipush (v := 16) hx hb dX11_all_348 (by decide) ?_
        refine lv_ishr hx hb dX11_all_350 ?_
        refine lv_topi (fun v19 ev19 => ?_)
        replace hf := nLet_e hf ev19
        obtain ⟨hin, hf⟩ := nIx_e hf
        refine na_iast hx hb hE hP hS mbr_20 hin dX11_all_351 (fun σ20 eσ20 H locs hP hS => ?_)
        replace hf := nLet_e hf eσ20
        refine lv_aload_n hx hb dX11_all_352 rfl (lv_at hl 1 rfl) ?_
        refine nb_get (ci := 11) hx hb hts iX11_all_X11 hown hE hP 0 mbo_0 rfl 53 (by decide) qX11_all_79 rfl rfl dX11_all_353 ?_
        refine lv_bipush (v := 6) hx hb dX11_all_356 (by decide) ?_
        refine lv_iload hx hb dX11_all_358 (lv_at hl 0 rfl) ?_
        obtain ⟨hin, hf⟩ := nIx_e hf
        refine na_iast hx hb hE hP hS mbr_20 hin dX11_all_360 (fun σ21 eσ21 H locs hP hS => ?_)
        replace hf := nLet_e hf eσ21
        exact K361 σ21 x1 x6 H locs ls (lv_sub hl [1, 2, 3] rfl) hP hS hf
    · replace hf := nIf_t hc hf
      refine lv_aload_n hx hb dX11_all_224 rfl (lv_at hl 1 rfl) ?_
      refine nb_get (ci := 11) hx hb hts iX11_all_X11 hown hE hP 0 mbo_0 rfl 53 (by decide) qX11_all_79 rfl rfl dX11_all_225 ?_
      refine lv_iconst (v := 1) hx hb dX11_all_228 (by decide) ?_
      obtain ⟨hin, hf⟩ := nIx_e hf
      refine na_iald hx hb hE hP mbr_20 hin dX11_all_229 ?_
      refine lv_topi (fun v22 ev22 => ?_)
      replace hf := nLet_e hf ev22
      refine lv_iconst (v := (-1)) hx hb dX11_all_230 (by decide) ?_
      refine lv_icmp_eq (tgt := 247) hx hb dX11_all_231 (by decide) (fun hc => ?_) (fun hc => ?_)
      · replace hf := nIf_t hc hf
        exact K247 σ10 x1 x6 H locs ls (lv_sub hl [1, 2, 3] rfl) hP hS hf
      · replace hf := nIf_f hc hf
        refine lv_aload_n hx hb dX11_all_234 rfl (lv_at hl 1 rfl) ?_
        refine nb_get (ci := 11) hx hb hts iX11_all_X11 hown hE hP 0 mbo_0 rfl 33 (by decide) qX11_all_263 rfl rfl dX11_all_235 ?_
        refine lv_aload_n hx hb dX11_all_238 rfl (lv_at hl 1 rfl) ?_
        refine nb_get (ci := 11) hx hb hts iX11_all_X11 hown hE hP 0 mbo_0 rfl 53 (by decide) qX11_all_79 rfl rfl dX11_all_239 ?_
        refine lv_iconst (v := 1) hx hb dX11_all_242 (by decide) ?_
        obtain ⟨hin, hf⟩ := nIx_e hf
        refine na_iald hx hb hE hP mbr_20 hin dX11_all_243 ?_
        refine lv_topi (fun v23 ev23 => ?_)
        replace hf := nLet_e hf ev23
        refine lv_icmp_ge (tgt := 257) hx hb dX11_all_244 (by decide) (fun hc => ?_) (fun hc => ?_)
        · replace hf := nIf_t hc hf
          exact K257 σ10 x1 x6 H locs ls (lv_sub hl [1, 2, 3] rfl) hP hS hf
        · replace hf := nIf_f hc hf
          exact K247 σ10 x1 x6 H locs ls (lv_sub hl [1, 2, 3] rfl) hP hS hf
def b_X11_all_137 (N : Nat) (k137 : nS → Int32 → Int32 → Option (Int32 × nS)) (k171 : nS → Int32 → Int32 → Option (Int32 × nS)) (σ : nS) (x1 : Int32) (x6 : Int32) : Option (Int32 × nS) := (if (8 : Int32) ≤ x6 then nIx 0 8 (nLet (wr σ 20 (0 : Int32).toNatClampNeg (σ.1 0 46)) (fun σ1 => k171 σ1 x1 0)) else nIx x6 8 (nLet (wr σ 20 (x6).toNatClampNeg (-1)) (fun σ2 => nLet (x6 + 1 : Int32) (fun v3 => k137 σ2 x1 v3))))
set_option maxHeartbeats 4000000 in
set_option maxRecDepth 100000 in
theorem kb_X11_all_137 {p : Program} {l : Launch} {e : Env} {s : State} {m : MethodId} {args : Array Value} {below : List Frame} {meth : Method} {c : Code} {D : va_G} {A : Nat → Prop} {cy : Nat → ClassId} {a kt vt : Nat → Nat} {N : Nat}   (C0 : nCx p s m args meth c cX11_all 8 (some .int) RX11 wsX11_all) (hE : nEn D A cy (Mw cy a) kt vt s) {z : Int32 × nS} {k137 : nS → Int32 → Int32 → Option (Int32 × nS)} (K137 : ∀ (σ : nS) (x1 : Int32) (x6 : Int32) (H : Heap) (locs : List Loc) (ls : Array Slot), lv_has ls 8 [(0, .ref (a 0)), (1, .int x1), (6, .int x6)] → va_P D vwCl ((Mw cy a) σ) H → va_S A s.heap H locs → k137 σ x1 x6 = some z → W p l e ({ frames := 4, cells := 0, slots := 0, locals := 89 } : Room) s m args below meth c H locs 0 0 (nQi below D A (Mw cy a) args s z) (F0 m 137 ls [])) {k171 : nS → Int32 → Int32 → Option (Int32 × nS)} (K171 : ∀ (σ : nS) (x1 : Int32) (x6 : Int32) (H : Heap) (locs : List Loc) (ls : Array Slot), lv_has ls 8 [(0, .ref (a 0)), (1, .int x1), (6, .int x6)] → va_P D vwCl ((Mw cy a) σ) H → va_S A s.heap H locs → k171 σ x1 x6 = some z → W p l e ({ frames := 4, cells := 0, slots := 0, locals := 89 } : Room) s m args below meth c H locs 0 0 (nQi below D A (Mw cy a) args s z) (F0 m 171 ls [])) : ∀ (σ : nS) (x1 : Int32) (x6 : Int32) (H : Heap) (locs : List Loc) (ls : Array Slot), lv_has ls 8 [(0, .ref (a 0)), (1, .int x1), (6, .int x6)] → va_P D vwCl ((Mw cy a) σ) H → va_S A s.heap H locs → b_X11_all_137 N k137 k171 σ x1 x6 = some z → W p l e ({ frames := 4, cells := 0, slots := 0, locals := 89 } : Room) s m args below meth c H locs 0 0 (nQi below D A (Mw cy a) args s z) (F0 m 137 ls []) := by
  obtain ⟨hx, hb, hr, hml, hown, hts, hlocks⟩ := C0
  intro σ x1 x6 H locs ls hl hP hS hf
  unfold b_X11_all_137 at hf
  refine lv_iload hx hb dX11_all_137 (lv_at hl 2 rfl) ?_
  refine lv_bipush (v := 8) hx hb dX11_all_139 (by decide) ?_
  refine lv_icmp_ge (tgt := 158) hx hb dX11_all_141 (by decide) (fun hc => ?_) (fun hc => ?_)
  · replace hf := nIf_t hc hf
    refine lv_aload_n hx hb dX11_all_158 rfl (lv_at hl 0 rfl) ?_
    refine nb_get (ci := 11) hx hb hts iX11_all_X11 hown hE hP 0 mbo_0 rfl 53 (by decide) qX11_all_79 rfl rfl dX11_all_159 ?_
    refine lv_iconst (v := 0) hx hb dX11_all_162 (by decide) ?_
    refine lv_aload_n hx hb dX11_all_163 rfl (lv_at hl 0 rfl) ?_
    refine nb_get (ci := 11) hx hb hts iX11_all_X11 hown hE hP 0 mbo_0 rfl 46 (by decide) qX11_all_314 rfl rfl dX11_all_164 ?_
    obtain ⟨hin, hf⟩ := nIx_e hf
    refine na_iast hx hb hE hP hS mbr_20 hin dX11_all_167 (fun σ1 eσ1 H locs hP hS => ?_)
    replace hf := nLet_e hf eσ1
    refine lv_iconst (v := 0) hx hb dX11_all_168 (by decide) ?_
    refine lv_istore (lv' := [(6, .int 0), (0, .ref (a 0)), (1, .int x1)]) hx hb dX11_all_169 hl (by decide) rfl (fun ls hl => ?_)
    exact K171 σ1 x1 0 H locs ls (lv_sub hl [1, 2, 0] rfl) hP hS hf
  · replace hf := nIf_f hc hf
    refine lv_aload_n hx hb dX11_all_144 rfl (lv_at hl 0 rfl) ?_
    refine nb_get (ci := 11) hx hb hts iX11_all_X11 hown hE hP 0 mbo_0 rfl 53 (by decide) qX11_all_79 rfl rfl dX11_all_145 ?_
    refine lv_iload hx hb dX11_all_148 (lv_at hl 2 rfl) ?_
    refine lv_iconst (v := (-1)) hx hb dX11_all_150 (by decide) ?_
    obtain ⟨hin, hf⟩ := nIx_e hf
    refine na_iast hx hb hE hP hS mbr_20 hin dX11_all_151 (fun σ2 eσ2 H locs hP hS => ?_)
    replace hf := nLet_e hf eσ2
    obtain ⟨v3, ev3⟩ : ∃ y : Int32, y = x6 + 1 := ⟨_, rfl⟩
    replace hf := nLet_e hf ev3
    refine lv_iinc (v := v3) (lv' := [(6, .int v3), (0, .ref (a 0)), (1, .int x1)]) hx hb dX11_all_152 hl (k := 2) rfl (by rw [ev3]; rfl) (by decide) rfl (fun ls hl => ?_)
    refine lv_goto (tgt := 137) hx hb dX11_all_155 (by decide) ?_
    exact K137 σ2 x1 v3 H locs ls (lv_sub hl [1, 2, 0] rfl) hP hS hf
def b_X11_all_113 (N : Nat) (k113 : nS → Int32 → Int32 → Option (Int32 × nS)) (k137 : nS → Int32 → Int32 → Option (Int32 × nS)) (σ : nS) (x1 : Int32) (x6 : Int32) : Option (Int32 × nS) := (if (7 : Int32) ≤ x6 then k137 σ x1 0 else nIx x6 7 (nLet (wr σ 19 (x6).toNatClampNeg 0) (fun σ1 => nLet (x6 + 1 : Int32) (fun v2 => k113 σ1 x1 v2))))
set_option maxHeartbeats 4000000 in
set_option maxRecDepth 100000 in
theorem kb_X11_all_113 {p : Program} {l : Launch} {e : Env} {s : State} {m : MethodId} {args : Array Value} {below : List Frame} {meth : Method} {c : Code} {D : va_G} {A : Nat → Prop} {cy : Nat → ClassId} {a kt vt : Nat → Nat} {N : Nat}   (C0 : nCx p s m args meth c cX11_all 8 (some .int) RX11 wsX11_all) (hE : nEn D A cy (Mw cy a) kt vt s) {z : Int32 × nS} {k113 : nS → Int32 → Int32 → Option (Int32 × nS)} (K113 : ∀ (σ : nS) (x1 : Int32) (x6 : Int32) (H : Heap) (locs : List Loc) (ls : Array Slot), lv_has ls 8 [(0, .ref (a 0)), (1, .int x1), (6, .int x6)] → va_P D vwCl ((Mw cy a) σ) H → va_S A s.heap H locs → k113 σ x1 x6 = some z → W p l e ({ frames := 4, cells := 0, slots := 0, locals := 89 } : Room) s m args below meth c H locs 0 0 (nQi below D A (Mw cy a) args s z) (F0 m 113 ls [])) {k137 : nS → Int32 → Int32 → Option (Int32 × nS)} (K137 : ∀ (σ : nS) (x1 : Int32) (x6 : Int32) (H : Heap) (locs : List Loc) (ls : Array Slot), lv_has ls 8 [(0, .ref (a 0)), (1, .int x1), (6, .int x6)] → va_P D vwCl ((Mw cy a) σ) H → va_S A s.heap H locs → k137 σ x1 x6 = some z → W p l e ({ frames := 4, cells := 0, slots := 0, locals := 89 } : Room) s m args below meth c H locs 0 0 (nQi below D A (Mw cy a) args s z) (F0 m 137 ls [])) : ∀ (σ : nS) (x1 : Int32) (x6 : Int32) (H : Heap) (locs : List Loc) (ls : Array Slot), lv_has ls 8 [(0, .ref (a 0)), (1, .int x1), (6, .int x6)] → va_P D vwCl ((Mw cy a) σ) H → va_S A s.heap H locs → b_X11_all_113 N k113 k137 σ x1 x6 = some z → W p l e ({ frames := 4, cells := 0, slots := 0, locals := 89 } : Room) s m args below meth c H locs 0 0 (nQi below D A (Mw cy a) args s z) (F0 m 113 ls []) := by
  obtain ⟨hx, hb, hr, hml, hown, hts, hlocks⟩ := C0
  intro σ x1 x6 H locs ls hl hP hS hf
  unfold b_X11_all_113 at hf
  refine lv_iload hx hb dX11_all_113 (lv_at hl 2 rfl) ?_
  refine lv_bipush (v := 7) hx hb dX11_all_115 (by decide) ?_
  refine lv_icmp_ge (tgt := 134) hx hb dX11_all_117 (by decide) (fun hc => ?_) (fun hc => ?_)
  · replace hf := nIf_t hc hf
    refine lv_iconst (v := 0) hx hb dX11_all_134 (by decide) ?_
    refine lv_istore (lv' := [(6, .int 0), (0, .ref (a 0)), (1, .int x1)]) hx hb dX11_all_135 hl (by decide) rfl (fun ls hl => ?_)
    exact K137 σ x1 0 H locs ls (lv_sub hl [1, 2, 0] rfl) hP hS hf
  · replace hf := nIf_f hc hf
    refine lv_aload_n hx hb dX11_all_120 rfl (lv_at hl 0 rfl) ?_
    refine nb_get (ci := 11) hx hb hts iX11_all_X11 hown hE hP 0 mbo_0 rfl 52 (by decide) qX11_all_76 rfl rfl dX11_all_121 ?_
    refine lv_iload hx hb dX11_all_124 (lv_at hl 2 rfl) ?_
    refine lv_iconst (v := 0) hx hb dX11_all_126 (by decide) ?_
    obtain ⟨hin, hf⟩ := nIx_e hf
    refine na_iast hx hb hE hP hS mbr_19 hin dX11_all_127 (fun σ1 eσ1 H locs hP hS => ?_)
    replace hf := nLet_e hf eσ1
    obtain ⟨v2, ev2⟩ : ∃ y : Int32, y = x6 + 1 := ⟨_, rfl⟩
    replace hf := nLet_e hf ev2
    refine lv_iinc (v := v2) (lv' := [(6, .int v2), (0, .ref (a 0)), (1, .int x1)]) hx hb dX11_all_128 hl (k := 2) rfl (by rw [ev2]; rfl) (by decide) rfl (fun ls hl => ?_)
    refine lv_goto (tgt := 113) hx hb dX11_all_131 (by decide) ?_
    exact K113 σ1 x1 v2 H locs ls (lv_sub hl [1, 2, 0] rfl) hP hS hf
def b_X11_all_0 (N : Nat) (k113 : nS → Int32 → Int32 → Option (Int32 × nS)) (σ : nS) (x1 : Int32) (x2 : Int32) (x3 : Int32) (x4 : Int32) (x5 : Int32) : Option (Int32 × nS) := nLet (wr σ 0 0 0) (fun σ1 => nBd (f_X11_isBook N x1 σ1) (fun r2 σ3 => (if r2 = 0 then nBd (f_X11_refused N 1 σ3) (fun r28 σ29 => some (r28, σ29)) else nBd (f_X11_in N x2 0 255 σ3) (fun r4 σ5 => (if r4 = 0 then nBd (f_X11_refused N 2 σ5) (fun r6 σ7 => some (r6, σ7)) else nBd (f_X11_in N x3 0 8 σ5) (fun r8 σ9 => (if r8 = 0 then nBd (f_X11_refused N 2 σ9) (fun r10 σ11 => some (r10, σ11)) else nBd (f_X11_in N x4 0 8 σ9) (fun r12 σ13 => (if r12 = 0 then nBd (f_X11_refused N 2 σ13) (fun r14 σ15 => some (r14, σ15)) else nBd (f_X11_in N x5 0 8 σ13) (fun r16 σ17 => (if r16 = 0 then nBd (f_X11_refused N 2 σ17) (fun r26 σ27 => some (r26, σ27)) else nBd (f_X11_chooses N x2 x3 x4 x5 σ17) (fun r18 σ19 => (if r18 = 0 then nBd (f_X11_refused N 3 σ19) (fun r24 σ25 => some (r24, σ25)) else nLet (wr σ19 0 47 1) (fun σ20 => nLet (wr σ20 0 48 x1) (fun σ21 => nLet (wr σ21 0 49 (σ21.1 0 46)) (fun σ22 => nLet (wr σ22 0 50 0) (fun σ23 => k113 σ23 x1 0)))))))))))))))))
set_option maxHeartbeats 4000000 in
set_option maxRecDepth 100000 in
theorem kb_X11_all_0 {p : Program} {l : Launch} {e : Env} {s : State} {m : MethodId} {args : Array Value} {below : List Frame} {meth : Method} {c : Code} {D : va_G} {A : Nat → Prop} {cy : Nat → ClassId} {a kt vt : Nat → Nat} {N : Nat}   (C0 : nCx p s m args meth c cX11_all 8 (some .int) RX11 wsX11_all) (hE : nEn D A cy (Mw cy a) kt vt s) {z : Int32 × nS} {k113 : nS → Int32 → Int32 → Option (Int32 × nS)} (K113 : ∀ (σ : nS) (x1 : Int32) (x6 : Int32) (H : Heap) (locs : List Loc) (ls : Array Slot), lv_has ls 8 [(0, .ref (a 0)), (1, .int x1), (6, .int x6)] → va_P D vwCl ((Mw cy a) σ) H → va_S A s.heap H locs → k113 σ x1 x6 = some z → W p l e ({ frames := 4, cells := 0, slots := 0, locals := 89 } : Room) s m args below meth c H locs 0 0 (nQi below D A (Mw cy a) args s z) (F0 m 113 ls [])) : ∀ (σ : nS) (x1 : Int32) (x2 : Int32) (x3 : Int32) (x4 : Int32) (x5 : Int32) (H : Heap) (locs : List Loc) (ls : Array Slot), lv_has ls 8 [(0, .ref (a 0)), (1, .int x1), (2, .int x2), (3, .int x3), (4, .int x4), (5, .int x5)] → va_P D vwCl ((Mw cy a) σ) H → va_S A s.heap H locs → b_X11_all_0 N k113 σ x1 x2 x3 x4 x5 = some z → W p l e ({ frames := 4, cells := 0, slots := 0, locals := 89 } : Room) s m args below meth c H locs 0 0 (nQi below D A (Mw cy a) args s z) (F0 m 0 ls []) := by
  obtain ⟨hx, hb, hr, hml, hown, hts, hlocks⟩ := C0
  intro σ x1 x2 x3 x4 x5 H locs ls hl hP hS hf
  unfold b_X11_all_0 at hf
  refine lv_aload_n hx hb dX11_all_0 rfl (lv_at hl 0 rfl) ?_
  refine lv_iconst (v := 0) hx hb dX11_all_1 (by decide) ?_
  refine nb_put (ci := 11) hx hb hts iX11_all_X11 tyX11 tyX11_ok nmX11 hown hE hP hS 0 mbo_0 rfl 0 (by decide) qX11_all_117 rfl rfl rfl rfl (Nat.le_of_ble_eq_true rfl) dX11_all_2 (mbp_0_0 _) (fun σ1 eσ1 H locs hP hS => ?_)
  replace hf := nLet_e hf eσ1
  refine lv_aload_n hx hb dX11_all_5 rfl (lv_at hl 0 rfl) ?_
  refine lv_iload_n hx hb dX11_all_6 rfl (lv_at hl 1 rfl) ?_
  obtain ⟨r2, σ3, hc3, hf⟩ := nBd_e hf
  refine nb_callVi (As := [.int x1]) (rest := []) ⟨hx, hb, hml, hown, hts⟩ (c_X11_isBook (D := D) (A := A) (cy := cy) (a := a) (kt := kt) (vt := vt) (l := l)  hc3) (cwV 1 hts gX11_all_X11_isBook rfl rfl rfl (by decide +kernel) ⟨Nat.le_of_ble_eq_true rfl, Nat.le_of_ble_eq_true rfl⟩) hE hP hS mbo_0 rfl rfl hl.1 rfl (Nat.le_of_ble_eq_true rfl) dX11_all_7 (fun H locs hP hS => ?_)
  refine lv_if_ne (tgt := 19) hx hb dX11_all_10 (by decide) (fun hc => ?_) (fun hc => ?_)
  · replace hf := nIf_f hc hf
    refine lv_iload_n hx hb dX11_all_19 rfl (lv_at hl 2 rfl) ?_
    refine lv_iconst (v := 0) hx hb dX11_all_20 (by decide) ?_
    refine lv_sipush (v := 255) hx hb dX11_all_21 (by decide) ?_
    obtain ⟨r4, σ5, hc5, hf⟩ := nBd_e hf
    refine nb_callSi (As := [.int x2, .int 0, .int 255]) (rest := []) ⟨hx, hb, hml, hown, hts⟩ (c_X11_in (D := D) (A := A) (cy := cy) (a := a) (kt := kt) (vt := vt) (l := l)  hc5) (va_cwS 3 hts gX11_all_X11_in rfl rfl rfl (by decide +kernel) ⟨Nat.le_of_ble_eq_true rfl, Nat.le_of_ble_eq_true rfl⟩) hE hP hS rfl hl.1 rfl (Nat.le_of_ble_eq_true rfl) dX11_all_24 (fun H locs hP hS => ?_)
    refine lv_if_eq (tgt := 62) hx hb dX11_all_27 (by decide) (fun hc => ?_) (fun hc => ?_)
    · replace hf := nIf_t hc hf
      refine lv_aload_n hx hb dX11_all_62 rfl (lv_at hl 0 rfl) ?_
      refine lv_iconst (v := 2) hx hb dX11_all_63 (by decide) ?_
      obtain ⟨r6, σ7, hc7, hf⟩ := nBd_e hf
      refine nb_callVi (As := [.int 2]) (rest := []) ⟨hx, hb, hml, hown, hts⟩ (c_X11_refused (D := D) (A := A) (cy := cy) (a := a) (kt := kt) (vt := vt) (l := l)  hc7) (cwV 1 hts gX11_all_X11_refused rfl rfl rfl (by decide +kernel) ⟨Nat.le_of_ble_eq_true rfl, Nat.le_of_ble_eq_true rfl⟩) hE hP hS mbo_0 rfl rfl hl.1 rfl (Nat.le_of_ble_eq_true rfl) dX11_all_64 (fun H locs hP hS => ?_)
      exact nb_iret hx hb hr hlocks hP hS (nSo hf) dX11_all_67
    · replace hf := nIf_f hc hf
      refine lv_iload_n hx hb dX11_all_30 rfl (lv_at hl 3 rfl) ?_
      refine lv_iconst (v := 0) hx hb dX11_all_31 (by decide) ?_
      refine lv_bipush (v := 8) hx hb dX11_all_32 (by decide) ?_
      obtain ⟨r8, σ9, hc9, hf⟩ := nBd_e hf
      refine nb_callSi (As := [.int x3, .int 0, .int 8]) (rest := []) ⟨hx, hb, hml, hown, hts⟩ (c_X11_in (D := D) (A := A) (cy := cy) (a := a) (kt := kt) (vt := vt) (l := l)  hc9) (va_cwS 3 hts gX11_all_X11_in rfl rfl rfl (by decide +kernel) ⟨Nat.le_of_ble_eq_true rfl, Nat.le_of_ble_eq_true rfl⟩) hE hP hS rfl hl.1 rfl (Nat.le_of_ble_eq_true rfl) dX11_all_34 (fun H locs hP hS => ?_)
      refine lv_if_eq (tgt := 62) hx hb dX11_all_37 (by decide) (fun hc => ?_) (fun hc => ?_)
      · replace hf := nIf_t hc hf
        refine lv_aload_n hx hb dX11_all_62 rfl (lv_at hl 0 rfl) ?_
        refine lv_iconst (v := 2) hx hb dX11_all_63 (by decide) ?_
        obtain ⟨r10, σ11, hc11, hf⟩ := nBd_e hf
        refine nb_callVi (As := [.int 2]) (rest := []) ⟨hx, hb, hml, hown, hts⟩ (c_X11_refused (D := D) (A := A) (cy := cy) (a := a) (kt := kt) (vt := vt) (l := l)  hc11) (cwV 1 hts gX11_all_X11_refused rfl rfl rfl (by decide +kernel) ⟨Nat.le_of_ble_eq_true rfl, Nat.le_of_ble_eq_true rfl⟩) hE hP hS mbo_0 rfl rfl hl.1 rfl (Nat.le_of_ble_eq_true rfl) dX11_all_64 (fun H locs hP hS => ?_)
        exact nb_iret hx hb hr hlocks hP hS (nSo hf) dX11_all_67
      · replace hf := nIf_f hc hf
        refine lv_iload hx hb dX11_all_40 (lv_at hl 4 rfl) ?_
        refine lv_iconst (v := 0) hx hb dX11_all_42 (by decide) ?_
        refine lv_bipush (v := 8) hx hb dX11_all_43 (by decide) ?_
        obtain ⟨r12, σ13, hc13, hf⟩ := nBd_e hf
        refine nb_callSi (As := [.int x4, .int 0, .int 8]) (rest := []) ⟨hx, hb, hml, hown, hts⟩ (c_X11_in (D := D) (A := A) (cy := cy) (a := a) (kt := kt) (vt := vt) (l := l)  hc13) (va_cwS 3 hts gX11_all_X11_in rfl rfl rfl (by decide +kernel) ⟨Nat.le_of_ble_eq_true rfl, Nat.le_of_ble_eq_true rfl⟩) hE hP hS rfl hl.1 rfl (Nat.le_of_ble_eq_true rfl) dX11_all_45 (fun H locs hP hS => ?_)
        refine lv_if_eq (tgt := 62) hx hb dX11_all_48 (by decide) (fun hc => ?_) (fun hc => ?_)
        · replace hf := nIf_t hc hf
          refine lv_aload_n hx hb dX11_all_62 rfl (lv_at hl 0 rfl) ?_
          refine lv_iconst (v := 2) hx hb dX11_all_63 (by decide) ?_
          obtain ⟨r14, σ15, hc15, hf⟩ := nBd_e hf
          refine nb_callVi (As := [.int 2]) (rest := []) ⟨hx, hb, hml, hown, hts⟩ (c_X11_refused (D := D) (A := A) (cy := cy) (a := a) (kt := kt) (vt := vt) (l := l)  hc15) (cwV 1 hts gX11_all_X11_refused rfl rfl rfl (by decide +kernel) ⟨Nat.le_of_ble_eq_true rfl, Nat.le_of_ble_eq_true rfl⟩) hE hP hS mbo_0 rfl rfl hl.1 rfl (Nat.le_of_ble_eq_true rfl) dX11_all_64 (fun H locs hP hS => ?_)
          exact nb_iret hx hb hr hlocks hP hS (nSo hf) dX11_all_67
        · replace hf := nIf_f hc hf
          refine lv_iload hx hb dX11_all_51 (lv_at hl 5 rfl) ?_
          refine lv_iconst (v := 0) hx hb dX11_all_53 (by decide) ?_
          refine lv_bipush (v := 8) hx hb dX11_all_54 (by decide) ?_
          obtain ⟨r16, σ17, hc17, hf⟩ := nBd_e hf
          refine nb_callSi (As := [.int x5, .int 0, .int 8]) (rest := []) ⟨hx, hb, hml, hown, hts⟩ (c_X11_in (D := D) (A := A) (cy := cy) (a := a) (kt := kt) (vt := vt) (l := l)  hc17) (va_cwS 3 hts gX11_all_X11_in rfl rfl rfl (by decide +kernel) ⟨Nat.le_of_ble_eq_true rfl, Nat.le_of_ble_eq_true rfl⟩) hE hP hS rfl hl.1 rfl (Nat.le_of_ble_eq_true rfl) dX11_all_56 (fun H locs hP hS => ?_)
          refine lv_if_ne (tgt := 68) hx hb dX11_all_59 (by decide) (fun hc => ?_) (fun hc => ?_)
          · replace hf := nIf_f hc hf
            refine lv_aload_n hx hb dX11_all_68 rfl (lv_at hl 0 rfl) ?_
            refine lv_iload_n hx hb dX11_all_69 rfl (lv_at hl 2 rfl) ?_
            refine lv_iload_n hx hb dX11_all_70 rfl (lv_at hl 3 rfl) ?_
            refine lv_iload hx hb dX11_all_71 (lv_at hl 4 rfl) ?_
            refine lv_iload hx hb dX11_all_73 (lv_at hl 5 rfl) ?_
            obtain ⟨r18, σ19, hc19, hf⟩ := nBd_e hf
            refine nb_callVi (As := [.int x2, .int x3, .int x4, .int x5]) (rest := []) ⟨hx, hb, hml, hown, hts⟩ (c_X11_chooses (D := D) (A := A) (cy := cy) (a := a) (kt := kt) (vt := vt) (l := l)  hc19) (cwV 4 hts gX11_all_X11_chooses rfl rfl rfl (by decide +kernel) ⟨Nat.le_of_ble_eq_true rfl, Nat.le_of_ble_eq_true rfl⟩) hE hP hS mbo_0 rfl rfl hl.1 rfl (Nat.le_of_ble_eq_true rfl) dX11_all_75 (fun H locs hP hS => ?_)
            refine lv_if_ne (tgt := 87) hx hb dX11_all_78 (by decide) (fun hc => ?_) (fun hc => ?_)
            · replace hf := nIf_f hc hf
              refine lv_aload_n hx hb dX11_all_87 rfl (lv_at hl 0 rfl) ?_
              refine lv_iconst (v := 1) hx hb dX11_all_88 (by decide) ?_
              refine nb_put (ci := 11) hx hb hts iX11_all_X11 tyX11 tyX11_ok nmX11 hown hE hP hS 0 mbo_0 rfl 47 (by decide) qX11_all_325 rfl rfl rfl rfl (Nat.le_of_ble_eq_true rfl) dX11_all_89 (mbp_0_47 _) (fun σ20 eσ20 H locs hP hS => ?_)
              replace hf := nLet_e hf eσ20
              refine lv_aload_n hx hb dX11_all_92 rfl (lv_at hl 0 rfl) ?_
              refine lv_iload_n hx hb dX11_all_93 rfl (lv_at hl 1 rfl) ?_
              refine nb_put (ci := 11) hx hb hts iX11_all_X11 tyX11 tyX11_ok nmX11 hown hE hP hS 0 mbo_0 rfl 48 (by decide) qX11_all_328 rfl rfl rfl rfl (Nat.le_of_ble_eq_true rfl) dX11_all_94 (mbp_0_48 _) (fun σ21 eσ21 H locs hP hS => ?_)
              replace hf := nLet_e hf eσ21
              refine lv_aload_n hx hb dX11_all_97 rfl (lv_at hl 0 rfl) ?_
              refine lv_aload_n hx hb dX11_all_98 rfl (lv_at hl 0 rfl) ?_
              refine nb_get (ci := 11) hx hb hts iX11_all_X11 hown hE hP 0 mbo_0 rfl 46 (by decide) qX11_all_314 rfl rfl dX11_all_99 ?_
              refine nb_put (ci := 11) hx hb hts iX11_all_X11 tyX11 tyX11_ok nmX11 hown hE hP hS 0 mbo_0 rfl 49 (by decide) qX11_all_331 rfl rfl rfl rfl (Nat.le_of_ble_eq_true rfl) dX11_all_102 (mbp_0_49 _) (fun σ22 eσ22 H locs hP hS => ?_)
              replace hf := nLet_e hf eσ22
              refine lv_aload_n hx hb dX11_all_105 rfl (lv_at hl 0 rfl) ?_
              refine lv_iconst (v := 0) hx hb dX11_all_106 (by decide) ?_
              refine nb_put (ci := 11) hx hb hts iX11_all_X11 tyX11 tyX11_ok nmX11 hown hE hP hS 0 mbo_0 rfl 50 (by decide) qX11_all_334 rfl rfl rfl rfl (Nat.le_of_ble_eq_true rfl) dX11_all_107 (mbp_0_50 _) (fun σ23 eσ23 H locs hP hS => ?_)
              replace hf := nLet_e hf eσ23
              refine lv_iconst (v := 0) hx hb dX11_all_110 (by decide) ?_
              refine lv_istore (lv' := [(6, .int 0), (0, .ref (a 0)), (1, .int x1), (2, .int x2), (3, .int x3), (4, .int x4), (5, .int x5)]) hx hb dX11_all_111 hl (by decide) rfl (fun ls hl => ?_)
              exact K113 σ23 x1 0 H locs ls (lv_sub hl [1, 2, 0] rfl) hP hS hf
            · replace hf := nIf_t hc hf
              refine lv_aload_n hx hb dX11_all_81 rfl (lv_at hl 0 rfl) ?_
              refine lv_iconst (v := 3) hx hb dX11_all_82 (by decide) ?_
              obtain ⟨r24, σ25, hc25, hf⟩ := nBd_e hf
              refine nb_callVi (As := [.int 3]) (rest := []) ⟨hx, hb, hml, hown, hts⟩ (c_X11_refused (D := D) (A := A) (cy := cy) (a := a) (kt := kt) (vt := vt) (l := l)  hc25) (cwV 1 hts gX11_all_X11_refused rfl rfl rfl (by decide +kernel) ⟨Nat.le_of_ble_eq_true rfl, Nat.le_of_ble_eq_true rfl⟩) hE hP hS mbo_0 rfl rfl hl.1 rfl (Nat.le_of_ble_eq_true rfl) dX11_all_83 (fun H locs hP hS => ?_)
              exact nb_iret hx hb hr hlocks hP hS (nSo hf) dX11_all_86
          · replace hf := nIf_t hc hf
            refine lv_aload_n hx hb dX11_all_62 rfl (lv_at hl 0 rfl) ?_
            refine lv_iconst (v := 2) hx hb dX11_all_63 (by decide) ?_
            obtain ⟨r26, σ27, hc27, hf⟩ := nBd_e hf
            refine nb_callVi (As := [.int 2]) (rest := []) ⟨hx, hb, hml, hown, hts⟩ (c_X11_refused (D := D) (A := A) (cy := cy) (a := a) (kt := kt) (vt := vt) (l := l)  hc27) (cwV 1 hts gX11_all_X11_refused rfl rfl rfl (by decide +kernel) ⟨Nat.le_of_ble_eq_true rfl, Nat.le_of_ble_eq_true rfl⟩) hE hP hS mbo_0 rfl rfl hl.1 rfl (Nat.le_of_ble_eq_true rfl) dX11_all_64 (fun H locs hP hS => ?_)
            exact nb_iret hx hb hr hlocks hP hS (nSo hf) dX11_all_67
  · replace hf := nIf_t hc hf
    refine lv_aload_n hx hb dX11_all_13 rfl (lv_at hl 0 rfl) ?_
    refine lv_iconst (v := 1) hx hb dX11_all_14 (by decide) ?_
    obtain ⟨r28, σ29, hc29, hf⟩ := nBd_e hf
    refine nb_callVi (As := [.int 1]) (rest := []) ⟨hx, hb, hml, hown, hts⟩ (c_X11_refused (D := D) (A := A) (cy := cy) (a := a) (kt := kt) (vt := vt) (l := l)  hc29) (cwV 1 hts gX11_all_X11_refused rfl rfl rfl (by decide +kernel) ⟨Nat.le_of_ble_eq_true rfl, Nat.le_of_ble_eq_true rfl⟩) hE hP hS mbo_0 rfl rfl hl.1 rfl (Nat.le_of_ble_eq_true rfl) dX11_all_15 (fun H locs hP hS => ?_)
    exact nb_iret hx hb hr hlocks hP hS (nSo hf) dX11_all_18
def l_X11_all_257 (N : Nat) (k371 : nS → Int32 → Int32 → Option (Int32 × nS)) : nS → Int32 → Int32 → Option (Int32 × nS) := b_X11_all_257 N k371
theorem kl_X11_all_257 {p : Program} {l : Launch} {e : Env} {s : State} {m : MethodId} {args : Array Value} {below : List Frame} {meth : Method} {c : Code} {D : va_G} {A : Nat → Prop} {cy : Nat → ClassId} {a kt vt : Nat → Nat} {N : Nat}   (C0 : nCx p s m args meth c cX11_all 8 (some .int) RX11 wsX11_all) (hE : nEn D A cy (Mw cy a) kt vt s) {z : Int32 × nS} {k371 : nS → Int32 → Int32 → Option (Int32 × nS)} (K371 : ∀ (σ : nS) (x1 : Int32) (x6 : Int32) (H : Heap) (locs : List Loc) (ls : Array Slot), lv_has ls 8 [(0, .ref (a 0)), (1, .int x1), (6, .int x6)] → va_P D vwCl ((Mw cy a) σ) H → va_S A s.heap H locs → k371 σ x1 x6 = some z → W p l e ({ frames := 4, cells := 0, slots := 0, locals := 89 } : Room) s m args below meth c H locs 0 0 (nQi below D A (Mw cy a) args s z) (F0 m 371 ls [])) : ∀ (σ : nS) (x1 : Int32) (x6 : Int32) (H : Heap) (locs : List Loc) (ls : Array Slot), lv_has ls 8 [(0, .ref (a 0)), (1, .int x1), (6, .int x6)] → va_P D vwCl ((Mw cy a) σ) H → va_S A s.heap H locs → l_X11_all_257 N k371 σ x1 x6 = some z → W p l e ({ frames := 4, cells := 0, slots := 0, locals := 89 } : Room) s m args below meth c H locs 0 0 (nQi below D A (Mw cy a) args s z) (F0 m 257 ls []) := by
  exact kb_X11_all_257 (N := N)  C0 hE K371
def l_X11_all_247 (N : Nat) (k257 : nS → Int32 → Int32 → Option (Int32 × nS)) : nS → Int32 → Int32 → Option (Int32 × nS) := b_X11_all_247 N k257
theorem kl_X11_all_247 {p : Program} {l : Launch} {e : Env} {s : State} {m : MethodId} {args : Array Value} {below : List Frame} {meth : Method} {c : Code} {D : va_G} {A : Nat → Prop} {cy : Nat → ClassId} {a kt vt : Nat → Nat} {N : Nat}   (C0 : nCx p s m args meth c cX11_all 8 (some .int) RX11 wsX11_all) (hE : nEn D A cy (Mw cy a) kt vt s) {z : Int32 × nS} {k257 : nS → Int32 → Int32 → Option (Int32 × nS)} (K257 : ∀ (σ : nS) (x1 : Int32) (x6 : Int32) (H : Heap) (locs : List Loc) (ls : Array Slot), lv_has ls 8 [(0, .ref (a 0)), (1, .int x1), (6, .int x6)] → va_P D vwCl ((Mw cy a) σ) H → va_S A s.heap H locs → k257 σ x1 x6 = some z → W p l e ({ frames := 4, cells := 0, slots := 0, locals := 89 } : Room) s m args below meth c H locs 0 0 (nQi below D A (Mw cy a) args s z) (F0 m 257 ls [])) : ∀ (σ : nS) (x1 : Int32) (x6 : Int32) (H : Heap) (locs : List Loc) (ls : Array Slot), lv_has ls 8 [(0, .ref (a 0)), (1, .int x1), (6, .int x6)] → va_P D vwCl ((Mw cy a) σ) H → va_S A s.heap H locs → l_X11_all_247 N k257 σ x1 x6 = some z → W p l e ({ frames := 4, cells := 0, slots := 0, locals := 89 } : Room) s m args below meth c H locs 0 0 (nQi below D A (Mw cy a) args s z) (F0 m 247 ls []) := by
  exact kb_X11_all_247 (N := N)  C0 hE K257
def l_X11_all_361 (N : Nat) (k371 : nS → Int32 → Int32 → Option (Int32 × nS)) : nS → Int32 → Int32 → Option (Int32 × nS) := b_X11_all_361 N k371
theorem kl_X11_all_361 {p : Program} {l : Launch} {e : Env} {s : State} {m : MethodId} {args : Array Value} {below : List Frame} {meth : Method} {c : Code} {D : va_G} {A : Nat → Prop} {cy : Nat → ClassId} {a kt vt : Nat → Nat} {N : Nat}   (C0 : nCx p s m args meth c cX11_all 8 (some .int) RX11 wsX11_all) (hE : nEn D A cy (Mw cy a) kt vt s) {z : Int32 × nS} {k371 : nS → Int32 → Int32 → Option (Int32 × nS)} (K371 : ∀ (σ : nS) (x1 : Int32) (x6 : Int32) (H : Heap) (locs : List Loc) (ls : Array Slot), lv_has ls 8 [(0, .ref (a 0)), (1, .int x1), (6, .int x6)] → va_P D vwCl ((Mw cy a) σ) H → va_S A s.heap H locs → k371 σ x1 x6 = some z → W p l e ({ frames := 4, cells := 0, slots := 0, locals := 89 } : Room) s m args below meth c H locs 0 0 (nQi below D A (Mw cy a) args s z) (F0 m 371 ls [])) : ∀ (σ : nS) (x1 : Int32) (x6 : Int32) (H : Heap) (locs : List Loc) (ls : Array Slot), lv_has ls 8 [(0, .ref (a 0)), (1, .int x1), (6, .int x6)] → va_P D vwCl ((Mw cy a) σ) H → va_S A s.heap H locs → l_X11_all_361 N k371 σ x1 x6 = some z → W p l e ({ frames := 4, cells := 0, slots := 0, locals := 89 } : Room) s m args below meth c H locs 0 0 (nQi below D A (Mw cy a) args s z) (F0 m 361 ls []) := by
  exact kb_X11_all_361 (N := N)  C0 hE K371
def l_X11_all_371 (N : Nat) (k171 : nS → Int32 → Int32 → Option (Int32 × nS)) : nS → Int32 → Int32 → Option (Int32 × nS) := b_X11_all_371 N k171
theorem kl_X11_all_371 {p : Program} {l : Launch} {e : Env} {s : State} {m : MethodId} {args : Array Value} {below : List Frame} {meth : Method} {c : Code} {D : va_G} {A : Nat → Prop} {cy : Nat → ClassId} {a kt vt : Nat → Nat} {N : Nat}   (C0 : nCx p s m args meth c cX11_all 8 (some .int) RX11 wsX11_all) (hE : nEn D A cy (Mw cy a) kt vt s) {z : Int32 × nS} {k171 : nS → Int32 → Int32 → Option (Int32 × nS)} (K171 : ∀ (σ : nS) (x1 : Int32) (x6 : Int32) (H : Heap) (locs : List Loc) (ls : Array Slot), lv_has ls 8 [(0, .ref (a 0)), (1, .int x1), (6, .int x6)] → va_P D vwCl ((Mw cy a) σ) H → va_S A s.heap H locs → k171 σ x1 x6 = some z → W p l e ({ frames := 4, cells := 0, slots := 0, locals := 89 } : Room) s m args below meth c H locs 0 0 (nQi below D A (Mw cy a) args s z) (F0 m 171 ls [])) : ∀ (σ : nS) (x1 : Int32) (x6 : Int32) (H : Heap) (locs : List Loc) (ls : Array Slot), lv_has ls 8 [(0, .ref (a 0)), (1, .int x1), (6, .int x6)] → va_P D vwCl ((Mw cy a) σ) H → va_S A s.heap H locs → l_X11_all_371 N k171 σ x1 x6 = some z → W p l e ({ frames := 4, cells := 0, slots := 0, locals := 89 } : Room) s m args below meth c H locs 0 0 (nQi below D A (Mw cy a) args s z) (F0 m 371 ls []) := by
  exact kb_X11_all_371 (N := N)  C0 hE K171
def l_X11_all_171 (N : Nat) : nS → Int32 → Int32 → Option (Int32 × nS) := nLp (fun _ _ _ => none) (fun again => b_X11_all_171 N (l_X11_all_247 N (l_X11_all_257 N (l_X11_all_371 N again))) (l_X11_all_257 N (l_X11_all_371 N again)) (l_X11_all_361 N (l_X11_all_371 N again))) N
theorem kl_X11_all_171 {p : Program} {l : Launch} {e : Env} {s : State} {m : MethodId} {args : Array Value} {below : List Frame} {meth : Method} {c : Code} {D : va_G} {A : Nat → Prop} {cy : Nat → ClassId} {a kt vt : Nat → Nat} {N : Nat}   (C0 : nCx p s m args meth c cX11_all 8 (some .int) RX11 wsX11_all) (hE : nEn D A cy (Mw cy a) kt vt s) {z : Int32 × nS} : ∀ (σ : nS) (x1 : Int32) (x6 : Int32) (H : Heap) (locs : List Loc) (ls : Array Slot), lv_has ls 8 [(0, .ref (a 0)), (1, .int x1), (6, .int x6)] → va_P D vwCl ((Mw cy a) σ) H → va_S A s.heap H locs → l_X11_all_171 N σ x1 x6 = some z → W p l e ({ frames := 4, cells := 0, slots := 0, locals := 89 } : Room) s m args below meth c H locs 0 0 (nQi below D A (Mw cy a) args s z) (F0 m 171 ls []) := by
  have main : ∀ (fu : Nat), ∀ (σ : nS) (x1 : Int32) (x6 : Int32) (H : Heap) (locs : List Loc) (ls : Array Slot), lv_has ls 8 [(0, .ref (a 0)), (1, .int x1), (6, .int x6)] → va_P D vwCl ((Mw cy a) σ) H → va_S A s.heap H locs → nLp (fun _ _ _ => none) (fun again => b_X11_all_171 N (l_X11_all_247 N (l_X11_all_257 N (l_X11_all_371 N again))) (l_X11_all_257 N (l_X11_all_371 N again)) (l_X11_all_361 N (l_X11_all_371 N again))) fu σ x1 x6 = some z → W p l e ({ frames := 4, cells := 0, slots := 0, locals := 89 } : Room) s m args below meth c H locs 0 0 (nQi below D A (Mw cy a) args s z) (F0 m 171 ls []) := by
    intro fu
    induction fu with
    | zero => intro σ x1 x6 H locs ls hl hP hS hf; cases hf
    | succ fu ih => exact kb_X11_all_171 (N := N)  C0 hE (kl_X11_all_247 (N := N)  C0 hE (kl_X11_all_257 (N := N)  C0 hE (kl_X11_all_371 (N := N)  C0 hE ih))) (kl_X11_all_257 (N := N)  C0 hE (kl_X11_all_371 (N := N)  C0 hE ih)) (kl_X11_all_361 (N := N)  C0 hE (kl_X11_all_371 (N := N)  C0 hE ih))
  exact main N
def l_X11_all_137 (N : Nat) : nS → Int32 → Int32 → Option (Int32 × nS) := nLp (fun _ _ _ => none) (fun again => b_X11_all_137 N again (l_X11_all_171 N)) N
theorem kl_X11_all_137 {p : Program} {l : Launch} {e : Env} {s : State} {m : MethodId} {args : Array Value} {below : List Frame} {meth : Method} {c : Code} {D : va_G} {A : Nat → Prop} {cy : Nat → ClassId} {a kt vt : Nat → Nat} {N : Nat}   (C0 : nCx p s m args meth c cX11_all 8 (some .int) RX11 wsX11_all) (hE : nEn D A cy (Mw cy a) kt vt s) {z : Int32 × nS} : ∀ (σ : nS) (x1 : Int32) (x6 : Int32) (H : Heap) (locs : List Loc) (ls : Array Slot), lv_has ls 8 [(0, .ref (a 0)), (1, .int x1), (6, .int x6)] → va_P D vwCl ((Mw cy a) σ) H → va_S A s.heap H locs → l_X11_all_137 N σ x1 x6 = some z → W p l e ({ frames := 4, cells := 0, slots := 0, locals := 89 } : Room) s m args below meth c H locs 0 0 (nQi below D A (Mw cy a) args s z) (F0 m 137 ls []) := by
  have main : ∀ (fu : Nat), ∀ (σ : nS) (x1 : Int32) (x6 : Int32) (H : Heap) (locs : List Loc) (ls : Array Slot), lv_has ls 8 [(0, .ref (a 0)), (1, .int x1), (6, .int x6)] → va_P D vwCl ((Mw cy a) σ) H → va_S A s.heap H locs → nLp (fun _ _ _ => none) (fun again => b_X11_all_137 N again (l_X11_all_171 N)) fu σ x1 x6 = some z → W p l e ({ frames := 4, cells := 0, slots := 0, locals := 89 } : Room) s m args below meth c H locs 0 0 (nQi below D A (Mw cy a) args s z) (F0 m 137 ls []) := by
    intro fu
    induction fu with
    | zero => intro σ x1 x6 H locs ls hl hP hS hf; cases hf
    | succ fu ih => exact kb_X11_all_137 (N := N)  C0 hE ih (kl_X11_all_171 (N := N)  C0 hE)
  exact main N
def l_X11_all_113 (N : Nat) : nS → Int32 → Int32 → Option (Int32 × nS) := nLp (fun _ _ _ => none) (fun again => b_X11_all_113 N again (l_X11_all_137 N)) N
theorem kl_X11_all_113 {p : Program} {l : Launch} {e : Env} {s : State} {m : MethodId} {args : Array Value} {below : List Frame} {meth : Method} {c : Code} {D : va_G} {A : Nat → Prop} {cy : Nat → ClassId} {a kt vt : Nat → Nat} {N : Nat}   (C0 : nCx p s m args meth c cX11_all 8 (some .int) RX11 wsX11_all) (hE : nEn D A cy (Mw cy a) kt vt s) {z : Int32 × nS} : ∀ (σ : nS) (x1 : Int32) (x6 : Int32) (H : Heap) (locs : List Loc) (ls : Array Slot), lv_has ls 8 [(0, .ref (a 0)), (1, .int x1), (6, .int x6)] → va_P D vwCl ((Mw cy a) σ) H → va_S A s.heap H locs → l_X11_all_113 N σ x1 x6 = some z → W p l e ({ frames := 4, cells := 0, slots := 0, locals := 89 } : Room) s m args below meth c H locs 0 0 (nQi below D A (Mw cy a) args s z) (F0 m 113 ls []) := by
  have main : ∀ (fu : Nat), ∀ (σ : nS) (x1 : Int32) (x6 : Int32) (H : Heap) (locs : List Loc) (ls : Array Slot), lv_has ls 8 [(0, .ref (a 0)), (1, .int x1), (6, .int x6)] → va_P D vwCl ((Mw cy a) σ) H → va_S A s.heap H locs → nLp (fun _ _ _ => none) (fun again => b_X11_all_113 N again (l_X11_all_137 N)) fu σ x1 x6 = some z → W p l e ({ frames := 4, cells := 0, slots := 0, locals := 89 } : Room) s m args below meth c H locs 0 0 (nQi below D A (Mw cy a) args s z) (F0 m 113 ls []) := by
    intro fu
    induction fu with
    | zero => intro σ x1 x6 H locs ls hl hP hS hf; cases hf
    | succ fu ih => exact kb_X11_all_113 (N := N)  C0 hE ih (kl_X11_all_137 (N := N)  C0 hE)
  exact main N
def l_X11_all_0 (N : Nat) : nS → Int32 → Int32 → Int32 → Int32 → Int32 → Option (Int32 × nS) := b_X11_all_0 N (l_X11_all_113 N)
theorem kl_X11_all_0 {p : Program} {l : Launch} {e : Env} {s : State} {m : MethodId} {args : Array Value} {below : List Frame} {meth : Method} {c : Code} {D : va_G} {A : Nat → Prop} {cy : Nat → ClassId} {a kt vt : Nat → Nat} {N : Nat}   (C0 : nCx p s m args meth c cX11_all 8 (some .int) RX11 wsX11_all) (hE : nEn D A cy (Mw cy a) kt vt s) {z : Int32 × nS} : ∀ (σ : nS) (x1 : Int32) (x2 : Int32) (x3 : Int32) (x4 : Int32) (x5 : Int32) (H : Heap) (locs : List Loc) (ls : Array Slot), lv_has ls 8 [(0, .ref (a 0)), (1, .int x1), (2, .int x2), (3, .int x3), (4, .int x4), (5, .int x5)] → va_P D vwCl ((Mw cy a) σ) H → va_S A s.heap H locs → l_X11_all_0 N σ x1 x2 x3 x4 x5 = some z → W p l e ({ frames := 4, cells := 0, slots := 0, locals := 89 } : Room) s m args below meth c H locs 0 0 (nQi below D A (Mw cy a) args s z) (F0 m 0 ls []) := by
  exact kb_X11_all_0 (N := N)  C0 hE (kl_X11_all_113 (N := N)  C0 hE)
def f_X11_all (N : Nat) (x1 : Int32) (x2 : Int32) (x3 : Int32) (x4 : Int32) (x5 : Int32) (σ : nS) : Option (Int32 × nS) := l_X11_all_0 N σ x1 x2 x3 x4 x5
set_option maxHeartbeats 4000000 in
set_option maxRecDepth 100000 in
theorem c_X11_all {l : Launch} {D : va_G} {A : Nat → Prop} {cy : Nat → ClassId} {a kt vt : Nat → Nat} {N : Nat}   {x1 : Int32} {x2 : Int32} {x3 : Int32} {x4 : Int32} {x5 : Int32} {σ : nS} {r : Int32} {σ' : nS} (hf : f_X11_all N x1 x2 x3 x4 x5 σ = some (r, σ')) : nMi l yX11_all wsX11_all ({ frames := 4, cells := 0, slots := 0, locals := 89 } : Room) D A cy (Mw cy a) kt vt [.ref (a 0), .int x1, .int x2, .int x3, .int x4, .int x5] σ r σ' := by
  refine Met.ofW (cc := cX11_all) (maxL := 8) (ret := (some .int)) (by decide) rfl ?_
  intro p e s m args below meth c s₁ B hml hv
  obtain ⟨rfl, hP, hE⟩ := hv
  have hl := lv_entry ([.ref (a 0), .int x1, .int x2, .int x3, .int x4, .int x5]) (n := 8) (Nat.le_of_ble_eq_true rfl)
  rw [lg_entry_eq]
  generalize (lg_sl ([.ref (a 0), .int x1, .int x2, .int x3, .int x4, .int x5]) ++ List.replicate (8 - (lg_sl ([.ref (a 0), .int x1, .int x2, .int x3, .int x4, .int x5])).length) Slot.unset).toArray = ls at hl ⊢
  have C0 : nCx p s m _ meth c cX11_all 8 (some .int) RX11 wsX11_all := ⟨B.exec, B.bytes, B.returns, hml, findClass_of_methodNamed B.named, atoms_spec (ws := wsX11_all) B.pre, B.notSynchronized⟩
  exact kl_X11_all_0 (N := N)  C0 hE (z := (r, σ')) σ x1 x2 x3 x4 x5 _ _ ls hl hP va_S.rf hf
/-! X11_ended -/
set_option maxRecDepth 20000 in
theorem iX11_ended_X11 : ∀ w ∈ u_ws RX11 TX11 68, w ∈ wsX11_ended := fun _ h => List.mem_cons_of_mem _ (List.mem_append_right _ h)
set_option maxRecDepth 20000 in
theorem qX11_ended_117 : Cond.fieldLink RX11 117 RX11 (TX11 0).2.1 (TX11 0).2.2.1 ∈ wsX11_ended := by decide +kernel
set_option maxRecDepth 20000 in
theorem qX11_ended_325 : Cond.fieldLink RX11 325 RX11 (TX11 47).2.1 (TX11 47).2.2.1 ∈ wsX11_ended := by decide +kernel
set_option maxRecDepth 20000 in
theorem qX11_ended_76 : Cond.fieldLink RX11 76 RX11 (TX11 52).2.1 (TX11 52).2.2.1 ∈ wsX11_ended := by decide +kernel
def b_X11_ended_0 (N : Nat) (σ : nS) (x1 : Int32) : Option (Int32 × nS) := nLet (wr σ 0 0 0) (fun σ1 => (if (σ1.1 0 47) = 0 then some ((-1), σ1) else nBd (f_X11_in N x1 0 6 σ1) (fun r2 σ3 => (if r2 = 0 then some ((-1), σ3) else nIx x1 7 (nLet (σ3.1 19 (x1).toNatClampNeg) (fun v4 => some (v4, σ3)))))))
set_option maxHeartbeats 4000000 in
set_option maxRecDepth 100000 in
theorem kb_X11_ended_0 {p : Program} {l : Launch} {e : Env} {s : State} {m : MethodId} {args : Array Value} {below : List Frame} {meth : Method} {c : Code} {D : va_G} {A : Nat → Prop} {cy : Nat → ClassId} {a kt vt : Nat → Nat} {N : Nat}   (C0 : nCx p s m args meth c cX11_ended 2 (some .int) RX11 wsX11_ended) (hE : nEn D A cy (Mw cy a) kt vt s) {z : Int32 × nS} : ∀ (σ : nS) (x1 : Int32) (H : Heap) (locs : List Loc) (ls : Array Slot), lv_has ls 2 [(0, .ref (a 0)), (1, .int x1)] → va_P D vwCl ((Mw cy a) σ) H → va_S A s.heap H locs → b_X11_ended_0 N σ x1 = some z → W p l e ({ frames := 1, cells := 0, slots := 0, locals := 22 } : Room) s m args below meth c H locs 0 0 (nQi below D A (Mw cy a) args s z) (F0 m 0 ls []) := by
  obtain ⟨hx, hb, hr, hml, hown, hts, hlocks⟩ := C0
  intro σ x1 H locs ls hl hP hS hf
  unfold b_X11_ended_0 at hf
  refine lv_aload_n hx hb dX11_ended_0 rfl (lv_at hl 0 rfl) ?_
  refine lv_iconst (v := 0) hx hb dX11_ended_1 (by decide) ?_
  refine nb_put (ci := 11) hx hb hts iX11_ended_X11 tyX11 tyX11_ok nmX11 hown hE hP hS 0 mbo_0 rfl 0 (by decide) qX11_ended_117 rfl rfl rfl rfl (Nat.le_of_ble_eq_true rfl) dX11_ended_2 (mbp_0_0 _) (fun σ1 eσ1 H locs hP hS => ?_)
  replace hf := nLet_e hf eσ1
  refine lv_aload_n hx hb dX11_ended_5 rfl (lv_at hl 0 rfl) ?_
  refine nb_get (ci := 11) hx hb hts iX11_ended_X11 hown hE hP 0 mbo_0 rfl 47 (by decide) qX11_ended_325 rfl rfl dX11_ended_6 ?_
  refine lv_if_eq (tgt := 31) hx hb dX11_ended_9 (by decide) (fun hc => ?_) (fun hc => ?_)
  · replace hf := nIf_t hc hf
    refine lv_iconst (v := (-1)) hx hb dX11_ended_31 (by decide) ?_
    exact nb_iret hx hb hr hlocks hP hS (nSo hf) dX11_ended_32
  · replace hf := nIf_f hc hf
    refine lv_iload_n hx hb dX11_ended_12 rfl (lv_at hl 1 rfl) ?_
    refine lv_iconst (v := 0) hx hb dX11_ended_13 (by decide) ?_
    refine lv_bipush (v := 6) hx hb dX11_ended_14 (by decide) ?_
    obtain ⟨r2, σ3, hc3, hf⟩ := nBd_e hf
    refine nb_callSi (As := [.int x1, .int 0, .int 6]) (rest := []) ⟨hx, hb, hml, hown, hts⟩ (c_X11_in (D := D) (A := A) (cy := cy) (a := a) (kt := kt) (vt := vt) (l := l)  hc3) (va_cwS 3 hts gX11_ended_X11_in rfl rfl rfl (by decide +kernel) ⟨Nat.le_of_ble_eq_true rfl, Nat.le_of_ble_eq_true rfl⟩) hE hP hS rfl hl.1 rfl (Nat.le_of_ble_eq_true rfl) dX11_ended_16 (fun H locs hP hS => ?_)
    refine lv_if_eq (tgt := 31) hx hb dX11_ended_19 (by decide) (fun hc => ?_) (fun hc => ?_)
    · replace hf := nIf_t hc hf
      refine lv_iconst (v := (-1)) hx hb dX11_ended_31 (by decide) ?_
      exact nb_iret hx hb hr hlocks hP hS (nSo hf) dX11_ended_32
    · replace hf := nIf_f hc hf
      refine lv_aload_n hx hb dX11_ended_22 rfl (lv_at hl 0 rfl) ?_
      refine nb_get (ci := 11) hx hb hts iX11_ended_X11 hown hE hP 0 mbo_0 rfl 52 (by decide) qX11_ended_76 rfl rfl dX11_ended_23 ?_
      refine lv_iload_n hx hb dX11_ended_26 rfl (lv_at hl 1 rfl) ?_
      obtain ⟨hin, hf⟩ := nIx_e hf
      refine na_iald hx hb hE hP mbr_19 hin dX11_ended_27 ?_
      refine lv_topi (fun v4 ev4 => ?_)
      replace hf := nLet_e hf ev4
      refine lv_goto (tgt := 32) hx hb dX11_ended_28 (by decide) ?_
      exact nb_iret hx hb hr hlocks hP hS (nSo hf) dX11_ended_32
def l_X11_ended_0 (N : Nat) : nS → Int32 → Option (Int32 × nS) := b_X11_ended_0 N
theorem kl_X11_ended_0 {p : Program} {l : Launch} {e : Env} {s : State} {m : MethodId} {args : Array Value} {below : List Frame} {meth : Method} {c : Code} {D : va_G} {A : Nat → Prop} {cy : Nat → ClassId} {a kt vt : Nat → Nat} {N : Nat}   (C0 : nCx p s m args meth c cX11_ended 2 (some .int) RX11 wsX11_ended) (hE : nEn D A cy (Mw cy a) kt vt s) {z : Int32 × nS} : ∀ (σ : nS) (x1 : Int32) (H : Heap) (locs : List Loc) (ls : Array Slot), lv_has ls 2 [(0, .ref (a 0)), (1, .int x1)] → va_P D vwCl ((Mw cy a) σ) H → va_S A s.heap H locs → l_X11_ended_0 N σ x1 = some z → W p l e ({ frames := 1, cells := 0, slots := 0, locals := 22 } : Room) s m args below meth c H locs 0 0 (nQi below D A (Mw cy a) args s z) (F0 m 0 ls []) := by
  exact kb_X11_ended_0 (N := N)  C0 hE
def f_X11_ended (N : Nat) (x1 : Int32) (σ : nS) : Option (Int32 × nS) := l_X11_ended_0 N σ x1
set_option maxHeartbeats 4000000 in
set_option maxRecDepth 100000 in
theorem c_X11_ended {l : Launch} {D : va_G} {A : Nat → Prop} {cy : Nat → ClassId} {a kt vt : Nat → Nat} {N : Nat}   {x1 : Int32} {σ : nS} {r : Int32} {σ' : nS} (hf : f_X11_ended N x1 σ = some (r, σ')) : nMi l yX11_ended wsX11_ended ({ frames := 1, cells := 0, slots := 0, locals := 22 } : Room) D A cy (Mw cy a) kt vt [.ref (a 0), .int x1] σ r σ' := by
  refine Met.ofW (cc := cX11_ended) (maxL := 2) (ret := (some .int)) (by decide) rfl ?_
  intro p e s m args below meth c s₁ B hml hv
  obtain ⟨rfl, hP, hE⟩ := hv
  have hl := lv_entry ([.ref (a 0), .int x1]) (n := 2) (Nat.le_of_ble_eq_true rfl)
  rw [lg_entry_eq]
  generalize (lg_sl ([.ref (a 0), .int x1]) ++ List.replicate (2 - (lg_sl ([.ref (a 0), .int x1])).length) Slot.unset).toArray = ls at hl ⊢
  have C0 : nCx p s m _ meth c cX11_ended 2 (some .int) RX11 wsX11_ended := ⟨B.exec, B.bytes, B.returns, hml, findClass_of_methodNamed B.named, atoms_spec (ws := wsX11_ended) B.pre, B.notSynchronized⟩
  exact kl_X11_ended_0 (N := N)  C0 hE (z := (r, σ')) σ x1 _ _ ls hl hP va_S.rf hf
/-! X11_allOf -/
set_option maxRecDepth 20000 in
theorem iX11_allOf_X11 : ∀ w ∈ u_ws RX11 TX11 68, w ∈ wsX11_allOf := fun _ h => List.mem_cons_of_mem _ (List.mem_append_right _ h)
set_option maxRecDepth 20000 in
theorem qX11_allOf_117 : Cond.fieldLink RX11 117 RX11 (TX11 0).2.1 (TX11 0).2.2.1 ∈ wsX11_allOf := by decide +kernel
set_option maxRecDepth 20000 in
theorem qX11_allOf_325 : Cond.fieldLink RX11 325 RX11 (TX11 47).2.1 (TX11 47).2.2.1 ∈ wsX11_allOf := by decide +kernel
set_option maxRecDepth 20000 in
theorem qX11_allOf_79 : Cond.fieldLink RX11 79 RX11 (TX11 53).2.1 (TX11 53).2.2.1 ∈ wsX11_allOf := by decide +kernel
def b_X11_allOf_0 (N : Nat) (σ : nS) (x1 : Int32) : Option (Int32 × nS) := nLet (wr σ 0 0 0) (fun σ1 => (if (σ1.1 0 47) = 0 then some ((-1), σ1) else nBd (f_X11_in N x1 0 7 σ1) (fun r2 σ3 => (if r2 = 0 then some ((-1), σ3) else nIx x1 8 (nLet (σ3.1 20 (x1).toNatClampNeg) (fun v4 => some (v4, σ3)))))))
set_option maxHeartbeats 4000000 in
set_option maxRecDepth 100000 in
theorem kb_X11_allOf_0 {p : Program} {l : Launch} {e : Env} {s : State} {m : MethodId} {args : Array Value} {below : List Frame} {meth : Method} {c : Code} {D : va_G} {A : Nat → Prop} {cy : Nat → ClassId} {a kt vt : Nat → Nat} {N : Nat}   (C0 : nCx p s m args meth c cX11_allOf 2 (some .int) RX11 wsX11_allOf) (hE : nEn D A cy (Mw cy a) kt vt s) {z : Int32 × nS} : ∀ (σ : nS) (x1 : Int32) (H : Heap) (locs : List Loc) (ls : Array Slot), lv_has ls 2 [(0, .ref (a 0)), (1, .int x1)] → va_P D vwCl ((Mw cy a) σ) H → va_S A s.heap H locs → b_X11_allOf_0 N σ x1 = some z → W p l e ({ frames := 1, cells := 0, slots := 0, locals := 22 } : Room) s m args below meth c H locs 0 0 (nQi below D A (Mw cy a) args s z) (F0 m 0 ls []) := by
  obtain ⟨hx, hb, hr, hml, hown, hts, hlocks⟩ := C0
  intro σ x1 H locs ls hl hP hS hf
  unfold b_X11_allOf_0 at hf
  refine lv_aload_n hx hb dX11_allOf_0 rfl (lv_at hl 0 rfl) ?_
  refine lv_iconst (v := 0) hx hb dX11_allOf_1 (by decide) ?_
  refine nb_put (ci := 11) hx hb hts iX11_allOf_X11 tyX11 tyX11_ok nmX11 hown hE hP hS 0 mbo_0 rfl 0 (by decide) qX11_allOf_117 rfl rfl rfl rfl (Nat.le_of_ble_eq_true rfl) dX11_allOf_2 (mbp_0_0 _) (fun σ1 eσ1 H locs hP hS => ?_)
  replace hf := nLet_e hf eσ1
  refine lv_aload_n hx hb dX11_allOf_5 rfl (lv_at hl 0 rfl) ?_
  refine nb_get (ci := 11) hx hb hts iX11_allOf_X11 hown hE hP 0 mbo_0 rfl 47 (by decide) qX11_allOf_325 rfl rfl dX11_allOf_6 ?_
  refine lv_if_eq (tgt := 31) hx hb dX11_allOf_9 (by decide) (fun hc => ?_) (fun hc => ?_)
  · replace hf := nIf_t hc hf
    refine lv_iconst (v := (-1)) hx hb dX11_allOf_31 (by decide) ?_
    exact nb_iret hx hb hr hlocks hP hS (nSo hf) dX11_allOf_32
  · replace hf := nIf_f hc hf
    refine lv_iload_n hx hb dX11_allOf_12 rfl (lv_at hl 1 rfl) ?_
    refine lv_iconst (v := 0) hx hb dX11_allOf_13 (by decide) ?_
    refine lv_bipush (v := 7) hx hb dX11_allOf_14 (by decide) ?_
    obtain ⟨r2, σ3, hc3, hf⟩ := nBd_e hf
    refine nb_callSi (As := [.int x1, .int 0, .int 7]) (rest := []) ⟨hx, hb, hml, hown, hts⟩ (c_X11_in (D := D) (A := A) (cy := cy) (a := a) (kt := kt) (vt := vt) (l := l)  hc3) (va_cwS 3 hts gX11_allOf_X11_in rfl rfl rfl (by decide +kernel) ⟨Nat.le_of_ble_eq_true rfl, Nat.le_of_ble_eq_true rfl⟩) hE hP hS rfl hl.1 rfl (Nat.le_of_ble_eq_true rfl) dX11_allOf_16 (fun H locs hP hS => ?_)
    refine lv_if_eq (tgt := 31) hx hb dX11_allOf_19 (by decide) (fun hc => ?_) (fun hc => ?_)
    · replace hf := nIf_t hc hf
      refine lv_iconst (v := (-1)) hx hb dX11_allOf_31 (by decide) ?_
      exact nb_iret hx hb hr hlocks hP hS (nSo hf) dX11_allOf_32
    · replace hf := nIf_f hc hf
      refine lv_aload_n hx hb dX11_allOf_22 rfl (lv_at hl 0 rfl) ?_
      refine nb_get (ci := 11) hx hb hts iX11_allOf_X11 hown hE hP 0 mbo_0 rfl 53 (by decide) qX11_allOf_79 rfl rfl dX11_allOf_23 ?_
      refine lv_iload_n hx hb dX11_allOf_26 rfl (lv_at hl 1 rfl) ?_
      obtain ⟨hin, hf⟩ := nIx_e hf
      refine na_iald hx hb hE hP mbr_20 hin dX11_allOf_27 ?_
      refine lv_topi (fun v4 ev4 => ?_)
      replace hf := nLet_e hf ev4
      refine lv_goto (tgt := 32) hx hb dX11_allOf_28 (by decide) ?_
      exact nb_iret hx hb hr hlocks hP hS (nSo hf) dX11_allOf_32
def l_X11_allOf_0 (N : Nat) : nS → Int32 → Option (Int32 × nS) := b_X11_allOf_0 N
theorem kl_X11_allOf_0 {p : Program} {l : Launch} {e : Env} {s : State} {m : MethodId} {args : Array Value} {below : List Frame} {meth : Method} {c : Code} {D : va_G} {A : Nat → Prop} {cy : Nat → ClassId} {a kt vt : Nat → Nat} {N : Nat}   (C0 : nCx p s m args meth c cX11_allOf 2 (some .int) RX11 wsX11_allOf) (hE : nEn D A cy (Mw cy a) kt vt s) {z : Int32 × nS} : ∀ (σ : nS) (x1 : Int32) (H : Heap) (locs : List Loc) (ls : Array Slot), lv_has ls 2 [(0, .ref (a 0)), (1, .int x1)] → va_P D vwCl ((Mw cy a) σ) H → va_S A s.heap H locs → l_X11_allOf_0 N σ x1 = some z → W p l e ({ frames := 1, cells := 0, slots := 0, locals := 22 } : Room) s m args below meth c H locs 0 0 (nQi below D A (Mw cy a) args s z) (F0 m 0 ls []) := by
  exact kb_X11_allOf_0 (N := N)  C0 hE
def f_X11_allOf (N : Nat) (x1 : Int32) (σ : nS) : Option (Int32 × nS) := l_X11_allOf_0 N σ x1
set_option maxHeartbeats 4000000 in
set_option maxRecDepth 100000 in
theorem c_X11_allOf {l : Launch} {D : va_G} {A : Nat → Prop} {cy : Nat → ClassId} {a kt vt : Nat → Nat} {N : Nat}   {x1 : Int32} {σ : nS} {r : Int32} {σ' : nS} (hf : f_X11_allOf N x1 σ = some (r, σ')) : nMi l yX11_allOf wsX11_allOf ({ frames := 1, cells := 0, slots := 0, locals := 22 } : Room) D A cy (Mw cy a) kt vt [.ref (a 0), .int x1] σ r σ' := by
  refine Met.ofW (cc := cX11_allOf) (maxL := 2) (ret := (some .int)) (by decide) rfl ?_
  intro p e s m args below meth c s₁ B hml hv
  obtain ⟨rfl, hP, hE⟩ := hv
  have hl := lv_entry ([.ref (a 0), .int x1]) (n := 2) (Nat.le_of_ble_eq_true rfl)
  rw [lg_entry_eq]
  generalize (lg_sl ([.ref (a 0), .int x1]) ++ List.replicate (2 - (lg_sl ([.ref (a 0), .int x1])).length) Slot.unset).toArray = ls at hl ⊢
  have C0 : nCx p s m _ meth c cX11_allOf 2 (some .int) RX11 wsX11_allOf := ⟨B.exec, B.bytes, B.returns, hml, findClass_of_methodNamed B.named, atoms_spec (ws := wsX11_allOf) B.pre, B.notSynchronized⟩
  exact kl_X11_allOf_0 (N := N)  C0 hE (z := (r, σ')) σ x1 _ _ ls hl hP va_S.rf hf
/-! X11_reaches -/
set_option maxRecDepth 20000 in
theorem iX11_reaches_X11 : ∀ w ∈ u_ws RX11 TX11 68, w ∈ wsX11_reaches := fun _ h => List.mem_cons_of_mem _ (List.mem_append_right _ h)
set_option maxRecDepth 20000 in
theorem qX11_reaches_82 : Cond.fieldLink RX11 82 RX11 (TX11 54).2.1 (TX11 54).2.2.1 ∈ wsX11_reaches := by decide +kernel
set_option maxRecDepth 20000 in
theorem qX11_reaches_23 : Cond.fieldLink RX11 23 RX11 (TX11 11).2.1 (TX11 11).2.2.1 ∈ wsX11_reaches := by decide +kernel
set_option maxRecDepth 20000 in
theorem qX11_reaches_26 : Cond.fieldLink RX11 26 RX11 (TX11 12).2.1 (TX11 12).2.2.1 ∈ wsX11_reaches := by decide +kernel
set_option maxRecDepth 20000 in
theorem qX11_reaches_29 : Cond.fieldLink RX11 29 RX11 (TX11 13).2.1 (TX11 13).2.2.1 ∈ wsX11_reaches := by decide +kernel
set_option maxRecDepth 20000 in
theorem qX11_reaches_32 : Cond.fieldLink RX11 32 RX11 (TX11 14).2.1 (TX11 14).2.2.1 ∈ wsX11_reaches := by decide +kernel
set_option maxRecDepth 20000 in
theorem qX11_reaches_35 : Cond.fieldLink RX11 35 RX11 (TX11 15).2.1 (TX11 15).2.2.1 ∈ wsX11_reaches := by decide +kernel
def b_X11_reaches_206 (N : Nat) (k207 : nS → Int32 → Int32 → Int32 → Int32 → Int32 → Option (Int32 × nS)) (σ : nS) (x1 : Int32) (x3 : Int32) (x5 : Int32) (x6 : Int32) : Option (Int32 × nS) := k207 σ x1 x3 x5 x6 0
set_option maxHeartbeats 4000000 in
set_option maxRecDepth 100000 in
theorem kb_X11_reaches_206 {p : Program} {l : Launch} {e : Env} {s : State} {m : MethodId} {args : Array Value} {below : List Frame} {meth : Method} {c : Code} {D : va_G} {A : Nat → Prop} {cy : Nat → ClassId} {a kt vt : Nat → Nat} {N : Nat}   (C0 : nCx p s m args meth c cX11_reaches 7 none RX11 wsX11_reaches) (hE : nEn D A cy (Mw cy a) kt vt s) {z : Int32 × nS} {k207 : nS → Int32 → Int32 → Int32 → Int32 → Int32 → Option (Int32 × nS)} (K207 : ∀ (σ : nS) (x1 : Int32) (x3 : Int32) (x5 : Int32) (x6 : Int32) (y0 : Int32) (H : Heap) (locs : List Loc) (ls : Array Slot), lv_has ls 7 [(0, .ref (a 0)), (1, .int x1), (3, .int x3), (5, .int x5), (6, .int x6)] → va_P D vwCl ((Mw cy a) σ) H → va_S A s.heap H locs → k207 σ x1 x3 x5 x6 y0 = some z → W p l e ({ frames := 0, cells := 0, slots := 0, locals := 0 } : Room) s m args below meth c H locs 0 0 (nQv below D A (Mw cy a) args s z) (F0 m 207 ls [.int y0])) : ∀ (σ : nS) (x1 : Int32) (x3 : Int32) (x5 : Int32) (x6 : Int32) (H : Heap) (locs : List Loc) (ls : Array Slot), lv_has ls 7 [(0, .ref (a 0)), (1, .int x1), (3, .int x3), (5, .int x5), (6, .int x6)] → va_P D vwCl ((Mw cy a) σ) H → va_S A s.heap H locs → b_X11_reaches_206 N k207 σ x1 x3 x5 x6 = some z → W p l e ({ frames := 0, cells := 0, slots := 0, locals := 0 } : Room) s m args below meth c H locs 0 0 (nQv below D A (Mw cy a) args s z) (F0 m 206 ls []) := by
  obtain ⟨hx, hb, hr, hml, hown, hts, hlocks⟩ := C0
  intro σ x1 x3 x5 x6 H locs ls hl hP hS hf
  unfold b_X11_reaches_206 at hf
  refine lv_iconst (v := 0) hx hb dX11_reaches_206 (by decide) ?_
  exact K207 σ x1 x3 x5 x6 0 H locs ls (lv_sub hl [0, 1, 2, 3, 4] rfl) hP hS hf
def b_X11_reaches_227 (N : Nat) (k246 : nS → Int32 → Int32 → Int32 → Option (Int32 × nS)) (σ : nS) (x1 : Int32) (x2 : Int32) (x3 : Int32) (x6 : Int32) : Option (Int32 × nS) := nIx x1 5 (nLet (σ.1 3 (x1).toNatClampNeg) (fun v1 => (if v1 ≤ x6 then k246 σ x1 x2 x3 else nIx x6 24 (nLet (wr σ 21 (x6).toNatClampNeg (vp_nar .boolean 1)) (fun σ2 => k246 σ2 x1 x2 x3)))))
set_option maxHeartbeats 4000000 in
set_option maxRecDepth 100000 in
theorem kb_X11_reaches_227 {p : Program} {l : Launch} {e : Env} {s : State} {m : MethodId} {args : Array Value} {below : List Frame} {meth : Method} {c : Code} {D : va_G} {A : Nat → Prop} {cy : Nat → ClassId} {a kt vt : Nat → Nat} {N : Nat}   (C0 : nCx p s m args meth c cX11_reaches 7 none RX11 wsX11_reaches) (hE : nEn D A cy (Mw cy a) kt vt s) {z : Int32 × nS} {k246 : nS → Int32 → Int32 → Int32 → Option (Int32 × nS)} (K246 : ∀ (σ : nS) (x1 : Int32) (x2 : Int32) (x3 : Int32) (H : Heap) (locs : List Loc) (ls : Array Slot), lv_has ls 7 [(0, .ref (a 0)), (1, .int x1), (2, .int x2), (3, .int x3)] → va_P D vwCl ((Mw cy a) σ) H → va_S A s.heap H locs → k246 σ x1 x2 x3 = some z → W p l e ({ frames := 0, cells := 0, slots := 0, locals := 0 } : Room) s m args below meth c H locs 0 0 (nQv below D A (Mw cy a) args s z) (F0 m 246 ls [])) : ∀ (σ : nS) (x1 : Int32) (x2 : Int32) (x3 : Int32) (x6 : Int32) (H : Heap) (locs : List Loc) (ls : Array Slot), lv_has ls 7 [(0, .ref (a 0)), (1, .int x1), (2, .int x2), (3, .int x3), (6, .int x6)] → va_P D vwCl ((Mw cy a) σ) H → va_S A s.heap H locs → b_X11_reaches_227 N k246 σ x1 x2 x3 x6 = some z → W p l e ({ frames := 0, cells := 0, slots := 0, locals := 0 } : Room) s m args below meth c H locs 0 0 (nQv below D A (Mw cy a) args s z) (F0 m 227 ls []) := by
  obtain ⟨hx, hb, hr, hml, hown, hts, hlocks⟩ := C0
  intro σ x1 x2 x3 x6 H locs ls hl hP hS hf
  unfold b_X11_reaches_227 at hf
  refine lv_iload hx hb dX11_reaches_227 (lv_at hl 4 rfl) ?_
  refine lv_aload_n hx hb dX11_reaches_229 rfl (lv_at hl 0 rfl) ?_
  refine nb_get (ci := 11) hx hb hts iX11_reaches_X11 hown hE hP 0 mbo_0 rfl 11 (by decide) qX11_reaches_23 rfl rfl dX11_reaches_230 ?_
  refine lv_iload_n hx hb dX11_reaches_233 rfl (lv_at hl 1 rfl) ?_
  obtain ⟨hin, hf⟩ := nIx_e hf
  refine na_iald hx hb hE hP mbr_3 hin dX11_reaches_234 ?_
  refine lv_topi (fun v1 ev1 => ?_)
  replace hf := nLet_e hf ev1
  refine lv_icmp_ge (tgt := 246) hx hb dX11_reaches_235 (by decide) (fun hc => ?_) (fun hc => ?_)
  · replace hf := nIf_t hc hf
    exact K246 σ x1 x2 x3 H locs ls (lv_sub hl [0, 1, 2, 3] rfl) hP hS hf
  · replace hf := nIf_f hc hf
    refine lv_aload_n hx hb dX11_reaches_238 rfl (lv_at hl 0 rfl) ?_
    refine nb_get (ci := 11) hx hb hts iX11_reaches_X11 hown hE hP 0 mbo_0 rfl 54 (by decide) qX11_reaches_82 rfl rfl dX11_reaches_239 ?_
    refine lv_iload hx hb dX11_reaches_242 (lv_at hl 4 rfl) ?_
    refine lv_iconst (v := 1) hx hb dX11_reaches_244 (by decide) ?_
    obtain ⟨hin, hf⟩ := nIx_e hf
    refine na_zast hx hb hE hP hS mbr_21 hin dX11_reaches_245 (fun σ2 eσ2 H locs hP hS => ?_)
    replace hf := nLet_e hf eσ2
    exact K246 σ2 x1 x2 x3 H locs ls (lv_sub hl [0, 1, 2, 3] rfl) hP hS hf
def b_X11_reaches_181 (N : Nat) (k202 : nS → Int32 → Int32 → Int32 → Int32 → Option (Int32 × nS)) (k206 : nS → Int32 → Int32 → Int32 → Int32 → Option (Int32 × nS)) (σ : nS) (x1 : Int32) (x3 : Int32) (x5 : Int32) (x6 : Int32) : Option (Int32 × nS) := nIx x1 5 (nLet (σ.1 3 (x1).toNatClampNeg) (fun v1 => (if v1 ≤ x6 then k206 σ x1 x3 x5 x6 else nIx x6 24 (nLet (σ.1 21 (x6).toNatClampNeg) (fun v2 => (if v2 = 0 then k202 σ x1 x3 x5 x6 else k206 σ x1 x3 x5 x6))))))
set_option maxHeartbeats 4000000 in
set_option maxRecDepth 100000 in
theorem kb_X11_reaches_181 {p : Program} {l : Launch} {e : Env} {s : State} {m : MethodId} {args : Array Value} {below : List Frame} {meth : Method} {c : Code} {D : va_G} {A : Nat → Prop} {cy : Nat → ClassId} {a kt vt : Nat → Nat} {N : Nat}   (C0 : nCx p s m args meth c cX11_reaches 7 none RX11 wsX11_reaches) (hE : nEn D A cy (Mw cy a) kt vt s) {z : Int32 × nS} {k202 : nS → Int32 → Int32 → Int32 → Int32 → Option (Int32 × nS)} (K202 : ∀ (σ : nS) (x1 : Int32) (x3 : Int32) (x5 : Int32) (x6 : Int32) (H : Heap) (locs : List Loc) (ls : Array Slot), lv_has ls 7 [(0, .ref (a 0)), (1, .int x1), (3, .int x3), (5, .int x5), (6, .int x6)] → va_P D vwCl ((Mw cy a) σ) H → va_S A s.heap H locs → k202 σ x1 x3 x5 x6 = some z → W p l e ({ frames := 0, cells := 0, slots := 0, locals := 0 } : Room) s m args below meth c H locs 0 0 (nQv below D A (Mw cy a) args s z) (F0 m 202 ls [])) {k206 : nS → Int32 → Int32 → Int32 → Int32 → Option (Int32 × nS)} (K206 : ∀ (σ : nS) (x1 : Int32) (x3 : Int32) (x5 : Int32) (x6 : Int32) (H : Heap) (locs : List Loc) (ls : Array Slot), lv_has ls 7 [(0, .ref (a 0)), (1, .int x1), (3, .int x3), (5, .int x5), (6, .int x6)] → va_P D vwCl ((Mw cy a) σ) H → va_S A s.heap H locs → k206 σ x1 x3 x5 x6 = some z → W p l e ({ frames := 0, cells := 0, slots := 0, locals := 0 } : Room) s m args below meth c H locs 0 0 (nQv below D A (Mw cy a) args s z) (F0 m 206 ls [])) : ∀ (σ : nS) (x1 : Int32) (x3 : Int32) (x5 : Int32) (x6 : Int32) (H : Heap) (locs : List Loc) (ls : Array Slot), lv_has ls 7 [(0, .ref (a 0)), (1, .int x1), (3, .int x3), (5, .int x5), (6, .int x6)] → va_P D vwCl ((Mw cy a) σ) H → va_S A s.heap H locs → b_X11_reaches_181 N k202 k206 σ x1 x3 x5 x6 = some z → W p l e ({ frames := 0, cells := 0, slots := 0, locals := 0 } : Room) s m args below meth c H locs 0 0 (nQv below D A (Mw cy a) args s z) (F0 m 181 ls []) := by
  obtain ⟨hx, hb, hr, hml, hown, hts, hlocks⟩ := C0
  intro σ x1 x3 x5 x6 H locs ls hl hP hS hf
  unfold b_X11_reaches_181 at hf
  refine lv_iload hx hb dX11_reaches_181 (lv_at hl 4 rfl) ?_
  refine lv_aload_n hx hb dX11_reaches_183 rfl (lv_at hl 0 rfl) ?_
  refine nb_get (ci := 11) hx hb hts iX11_reaches_X11 hown hE hP 0 mbo_0 rfl 11 (by decide) qX11_reaches_23 rfl rfl dX11_reaches_184 ?_
  refine lv_iload_n hx hb dX11_reaches_187 rfl (lv_at hl 1 rfl) ?_
  obtain ⟨hin, hf⟩ := nIx_e hf
  refine na_iald hx hb hE hP mbr_3 hin dX11_reaches_188 ?_
  refine lv_topi (fun v1 ev1 => ?_)
  replace hf := nLet_e hf ev1
  refine lv_icmp_ge (tgt := 206) hx hb dX11_reaches_189 (by decide) (fun hc => ?_) (fun hc => ?_)
  · replace hf := nIf_t hc hf
    exact K206 σ x1 x3 x5 x6 H locs ls (lv_sub hl [0, 1, 2, 3, 4] rfl) hP hS hf
  · replace hf := nIf_f hc hf
    refine lv_aload_n hx hb dX11_reaches_192 rfl (lv_at hl 0 rfl) ?_
    refine nb_get (ci := 11) hx hb hts iX11_reaches_X11 hown hE hP 0 mbo_0 rfl 54 (by decide) qX11_reaches_82 rfl rfl dX11_reaches_193 ?_
    refine lv_iload hx hb dX11_reaches_196 (lv_at hl 4 rfl) ?_
    obtain ⟨hin, hf⟩ := nIx_e hf
    refine na_zald hx hb hE hP mbr_21 hin dX11_reaches_198 ?_
    refine lv_topi (fun v2 ev2 => ?_)
    replace hf := nLet_e hf ev2
    refine lv_if_ne (tgt := 206) hx hb dX11_reaches_199 (by decide) (fun hc => ?_) (fun hc => ?_)
    · replace hf := nIf_f hc hf
      exact K206 σ x1 x3 x5 x6 H locs ls (lv_sub hl [0, 1, 2, 3, 4] rfl) hP hS hf
    · replace hf := nIf_t hc hf
      exact K202 σ x1 x3 x5 x6 H locs ls (lv_sub hl [0, 1, 2, 3, 4] rfl) hP hS hf
def b_X11_reaches_207 (N : Nat) (k227 : nS → Int32 → Int32 → Int32 → Int32 → Option (Int32 × nS)) (σ : nS) (x1 : Int32) (x3 : Int32) (x5 : Int32) (x6 : Int32) (y0 : Int32) : Option (Int32 × nS) := nIx x1 5 (nLet (σ.1 3 (x1).toNatClampNeg) (fun v1 => (if v1 ≤ x5 then k227 σ x1 y0 x3 x6 else nIx x5 24 (nLet (wr σ 21 (x5).toNatClampNeg (vp_nar .boolean 1)) (fun σ2 => k227 σ2 x1 y0 x3 x6)))))
set_option maxHeartbeats 4000000 in
set_option maxRecDepth 100000 in
theorem kb_X11_reaches_207 {p : Program} {l : Launch} {e : Env} {s : State} {m : MethodId} {args : Array Value} {below : List Frame} {meth : Method} {c : Code} {D : va_G} {A : Nat → Prop} {cy : Nat → ClassId} {a kt vt : Nat → Nat} {N : Nat}   (C0 : nCx p s m args meth c cX11_reaches 7 none RX11 wsX11_reaches) (hE : nEn D A cy (Mw cy a) kt vt s) {z : Int32 × nS} {k227 : nS → Int32 → Int32 → Int32 → Int32 → Option (Int32 × nS)} (K227 : ∀ (σ : nS) (x1 : Int32) (x2 : Int32) (x3 : Int32) (x6 : Int32) (H : Heap) (locs : List Loc) (ls : Array Slot), lv_has ls 7 [(0, .ref (a 0)), (1, .int x1), (2, .int x2), (3, .int x3), (6, .int x6)] → va_P D vwCl ((Mw cy a) σ) H → va_S A s.heap H locs → k227 σ x1 x2 x3 x6 = some z → W p l e ({ frames := 0, cells := 0, slots := 0, locals := 0 } : Room) s m args below meth c H locs 0 0 (nQv below D A (Mw cy a) args s z) (F0 m 227 ls [])) : ∀ (σ : nS) (x1 : Int32) (x3 : Int32) (x5 : Int32) (x6 : Int32) (y0 : Int32) (H : Heap) (locs : List Loc) (ls : Array Slot), lv_has ls 7 [(0, .ref (a 0)), (1, .int x1), (3, .int x3), (5, .int x5), (6, .int x6)] → va_P D vwCl ((Mw cy a) σ) H → va_S A s.heap H locs → b_X11_reaches_207 N k227 σ x1 x3 x5 x6 y0 = some z → W p l e ({ frames := 0, cells := 0, slots := 0, locals := 0 } : Room) s m args below meth c H locs 0 0 (nQv below D A (Mw cy a) args s z) (F0 m 207 ls [.int y0]) := by
  obtain ⟨hx, hb, hr, hml, hown, hts, hlocks⟩ := C0
  intro σ x1 x3 x5 x6 y0 H locs ls hl hP hS hf
  unfold b_X11_reaches_207 at hf
  refine lv_istore_n (lv' := [(2, .int y0), (0, .ref (a 0)), (1, .int x1), (3, .int x3), (5, .int x5), (6, .int x6)]) hx hb dX11_reaches_207 rfl hl (by decide) rfl (fun ls hl => ?_)
  refine lv_iload hx hb dX11_reaches_208 (lv_at hl 4 rfl) ?_
  refine lv_aload_n hx hb dX11_reaches_210 rfl (lv_at hl 1 rfl) ?_
  refine nb_get (ci := 11) hx hb hts iX11_reaches_X11 hown hE hP 0 mbo_0 rfl 11 (by decide) qX11_reaches_23 rfl rfl dX11_reaches_211 ?_
  refine lv_iload_n hx hb dX11_reaches_214 rfl (lv_at hl 2 rfl) ?_
  obtain ⟨hin, hf⟩ := nIx_e hf
  refine na_iald hx hb hE hP mbr_3 hin dX11_reaches_215 ?_
  refine lv_topi (fun v1 ev1 => ?_)
  replace hf := nLet_e hf ev1
  refine lv_icmp_ge (tgt := 227) hx hb dX11_reaches_216 (by decide) (fun hc => ?_) (fun hc => ?_)
  · replace hf := nIf_t hc hf
    exact K227 σ x1 y0 x3 x6 H locs ls (lv_sub hl [1, 2, 0, 3, 5] rfl) hP hS hf
  · replace hf := nIf_f hc hf
    refine lv_aload_n hx hb dX11_reaches_219 rfl (lv_at hl 1 rfl) ?_
    refine nb_get (ci := 11) hx hb hts iX11_reaches_X11 hown hE hP 0 mbo_0 rfl 54 (by decide) qX11_reaches_82 rfl rfl dX11_reaches_220 ?_
    refine lv_iload hx hb dX11_reaches_223 (lv_at hl 4 rfl) ?_
    refine lv_iconst (v := 1) hx hb dX11_reaches_225 (by decide) ?_
    obtain ⟨hin, hf⟩ := nIx_e hf
    refine na_zast hx hb hE hP hS mbr_21 hin dX11_reaches_226 (fun σ2 eσ2 H locs hP hS => ?_)
    replace hf := nLet_e hf eσ2
    exact K227 σ2 x1 y0 x3 x6 H locs ls (lv_sub hl [1, 2, 0, 3, 5] rfl) hP hS hf
def b_X11_reaches_202 (N : Nat) (k207 : nS → Int32 → Int32 → Int32 → Int32 → Int32 → Option (Int32 × nS)) (σ : nS) (x1 : Int32) (x3 : Int32) (x5 : Int32) (x6 : Int32) : Option (Int32 × nS) := k207 σ x1 x3 x5 x6 1
set_option maxHeartbeats 4000000 in
set_option maxRecDepth 100000 in
theorem kb_X11_reaches_202 {p : Program} {l : Launch} {e : Env} {s : State} {m : MethodId} {args : Array Value} {below : List Frame} {meth : Method} {c : Code} {D : va_G} {A : Nat → Prop} {cy : Nat → ClassId} {a kt vt : Nat → Nat} {N : Nat}   (C0 : nCx p s m args meth c cX11_reaches 7 none RX11 wsX11_reaches) (hE : nEn D A cy (Mw cy a) kt vt s) {z : Int32 × nS} {k207 : nS → Int32 → Int32 → Int32 → Int32 → Int32 → Option (Int32 × nS)} (K207 : ∀ (σ : nS) (x1 : Int32) (x3 : Int32) (x5 : Int32) (x6 : Int32) (y0 : Int32) (H : Heap) (locs : List Loc) (ls : Array Slot), lv_has ls 7 [(0, .ref (a 0)), (1, .int x1), (3, .int x3), (5, .int x5), (6, .int x6)] → va_P D vwCl ((Mw cy a) σ) H → va_S A s.heap H locs → k207 σ x1 x3 x5 x6 y0 = some z → W p l e ({ frames := 0, cells := 0, slots := 0, locals := 0 } : Room) s m args below meth c H locs 0 0 (nQv below D A (Mw cy a) args s z) (F0 m 207 ls [.int y0])) : ∀ (σ : nS) (x1 : Int32) (x3 : Int32) (x5 : Int32) (x6 : Int32) (H : Heap) (locs : List Loc) (ls : Array Slot), lv_has ls 7 [(0, .ref (a 0)), (1, .int x1), (3, .int x3), (5, .int x5), (6, .int x6)] → va_P D vwCl ((Mw cy a) σ) H → va_S A s.heap H locs → b_X11_reaches_202 N k207 σ x1 x3 x5 x6 = some z → W p l e ({ frames := 0, cells := 0, slots := 0, locals := 0 } : Room) s m args below meth c H locs 0 0 (nQv below D A (Mw cy a) args s z) (F0 m 202 ls []) := by
  obtain ⟨hx, hb, hr, hml, hown, hts, hlocks⟩ := C0
  intro σ x1 x3 x5 x6 H locs ls hl hP hS hf
  unfold b_X11_reaches_202 at hf
  refine lv_iconst (v := 1) hx hb dX11_reaches_202 (by decide) ?_
  refine lv_goto (tgt := 207) hx hb dX11_reaches_203 (by decide) ?_
  exact K207 σ x1 x3 x5 x6 1 H locs ls (lv_sub hl [0, 1, 2, 3, 4] rfl) hP hS hf
def b_X11_reaches_154 (N : Nat) (k181 : nS → Int32 → Int32 → Int32 → Int32 → Option (Int32 × nS)) (k202 : nS → Int32 → Int32 → Int32 → Int32 → Option (Int32 × nS)) (σ : nS) (x1 : Int32) (x2 : Int32) (x3 : Int32) (x5 : Int32) (y0 : Int32) : Option (Int32 × nS) := (if x2 = 0 then nIx x1 5 (nLet (σ.1 3 (x1).toNatClampNeg) (fun v1 => (if v1 ≤ x5 then k181 σ x1 x3 x5 y0 else nIx x5 24 (nLet (σ.1 21 (x5).toNatClampNeg) (fun v2 => (if v2 = 0 then k202 σ x1 x3 x5 y0 else k181 σ x1 x3 x5 y0)))))) else k202 σ x1 x3 x5 y0)
set_option maxHeartbeats 4000000 in
set_option maxRecDepth 100000 in
theorem kb_X11_reaches_154 {p : Program} {l : Launch} {e : Env} {s : State} {m : MethodId} {args : Array Value} {below : List Frame} {meth : Method} {c : Code} {D : va_G} {A : Nat → Prop} {cy : Nat → ClassId} {a kt vt : Nat → Nat} {N : Nat}   (C0 : nCx p s m args meth c cX11_reaches 7 none RX11 wsX11_reaches) (hE : nEn D A cy (Mw cy a) kt vt s) {z : Int32 × nS} {k181 : nS → Int32 → Int32 → Int32 → Int32 → Option (Int32 × nS)} (K181 : ∀ (σ : nS) (x1 : Int32) (x3 : Int32) (x5 : Int32) (x6 : Int32) (H : Heap) (locs : List Loc) (ls : Array Slot), lv_has ls 7 [(0, .ref (a 0)), (1, .int x1), (3, .int x3), (5, .int x5), (6, .int x6)] → va_P D vwCl ((Mw cy a) σ) H → va_S A s.heap H locs → k181 σ x1 x3 x5 x6 = some z → W p l e ({ frames := 0, cells := 0, slots := 0, locals := 0 } : Room) s m args below meth c H locs 0 0 (nQv below D A (Mw cy a) args s z) (F0 m 181 ls [])) {k202 : nS → Int32 → Int32 → Int32 → Int32 → Option (Int32 × nS)} (K202 : ∀ (σ : nS) (x1 : Int32) (x3 : Int32) (x5 : Int32) (x6 : Int32) (H : Heap) (locs : List Loc) (ls : Array Slot), lv_has ls 7 [(0, .ref (a 0)), (1, .int x1), (3, .int x3), (5, .int x5), (6, .int x6)] → va_P D vwCl ((Mw cy a) σ) H → va_S A s.heap H locs → k202 σ x1 x3 x5 x6 = some z → W p l e ({ frames := 0, cells := 0, slots := 0, locals := 0 } : Room) s m args below meth c H locs 0 0 (nQv below D A (Mw cy a) args s z) (F0 m 202 ls [])) : ∀ (σ : nS) (x1 : Int32) (x2 : Int32) (x3 : Int32) (x5 : Int32) (y0 : Int32) (H : Heap) (locs : List Loc) (ls : Array Slot), lv_has ls 7 [(0, .ref (a 0)), (1, .int x1), (2, .int x2), (3, .int x3), (5, .int x5)] → va_P D vwCl ((Mw cy a) σ) H → va_S A s.heap H locs → b_X11_reaches_154 N k181 k202 σ x1 x2 x3 x5 y0 = some z → W p l e ({ frames := 0, cells := 0, slots := 0, locals := 0 } : Room) s m args below meth c H locs 0 0 (nQv below D A (Mw cy a) args s z) (F0 m 154 ls [.int y0]) := by
  obtain ⟨hx, hb, hr, hml, hown, hts, hlocks⟩ := C0
  intro σ x1 x2 x3 x5 y0 H locs ls hl hP hS hf
  unfold b_X11_reaches_154 at hf
  refine lv_istore (lv' := [(6, .int y0), (0, .ref (a 0)), (1, .int x1), (2, .int x2), (3, .int x3), (5, .int x5)]) hx hb dX11_reaches_154 hl (by decide) rfl (fun ls hl => ?_)
  refine lv_iload_n hx hb dX11_reaches_156 rfl (lv_at hl 3 rfl) ?_
  refine lv_if_ne (tgt := 202) hx hb dX11_reaches_157 (by decide) (fun hc => ?_) (fun hc => ?_)
  · replace hf := nIf_f hc hf
    exact K202 σ x1 x3 x5 y0 H locs ls (lv_sub hl [1, 2, 4, 5, 0] rfl) hP hS hf
  · replace hf := nIf_t hc hf
    refine lv_iload hx hb dX11_reaches_160 (lv_at hl 5 rfl) ?_
    refine lv_aload_n hx hb dX11_reaches_162 rfl (lv_at hl 1 rfl) ?_
    refine nb_get (ci := 11) hx hb hts iX11_reaches_X11 hown hE hP 0 mbo_0 rfl 11 (by decide) qX11_reaches_23 rfl rfl dX11_reaches_163 ?_
    refine lv_iload_n hx hb dX11_reaches_166 rfl (lv_at hl 2 rfl) ?_
    obtain ⟨hin, hf⟩ := nIx_e hf
    refine na_iald hx hb hE hP mbr_3 hin dX11_reaches_167 ?_
    refine lv_topi (fun v1 ev1 => ?_)
    replace hf := nLet_e hf ev1
    refine lv_icmp_ge (tgt := 181) hx hb dX11_reaches_168 (by decide) (fun hc => ?_) (fun hc => ?_)
    · replace hf := nIf_t hc hf
      exact K181 σ x1 x3 x5 y0 H locs ls (lv_sub hl [1, 2, 4, 5, 0] rfl) hP hS hf
    · replace hf := nIf_f hc hf
      refine lv_aload_n hx hb dX11_reaches_171 rfl (lv_at hl 1 rfl) ?_
      refine nb_get (ci := 11) hx hb hts iX11_reaches_X11 hown hE hP 0 mbo_0 rfl 54 (by decide) qX11_reaches_82 rfl rfl dX11_reaches_172 ?_
      refine lv_iload hx hb dX11_reaches_175 (lv_at hl 5 rfl) ?_
      obtain ⟨hin, hf⟩ := nIx_e hf
      refine na_zald hx hb hE hP mbr_21 hin dX11_reaches_177 ?_
      refine lv_topi (fun v2 ev2 => ?_)
      replace hf := nLet_e hf ev2
      refine lv_if_eq (tgt := 202) hx hb dX11_reaches_178 (by decide) (fun hc => ?_) (fun hc => ?_)
      · replace hf := nIf_t hc hf
        exact K202 σ x1 x3 x5 y0 H locs ls (lv_sub hl [1, 2, 4, 5, 0] rfl) hP hS hf
      · replace hf := nIf_f hc hf
        exact K181 σ x1 x3 x5 y0 H locs ls (lv_sub hl [1, 2, 4, 5, 0] rfl) hP hS hf
def b_X11_reaches_129 (N : Nat) (k154 : nS → Int32 → Int32 → Int32 → Int32 → Int32 → Option (Int32 × nS)) (σ : nS) (x1 : Int32) (x2 : Int32) (x3 : Int32) (x4 : Int32) (y0 : Int32) : Option (Int32 × nS) := nIx x4 120 (nLet (σ.1 4 (x4).toNatClampNeg) (fun v1 => (if v1 = 2 then nIx x4 120 (nLet (σ.1 7 (x4).toNatClampNeg) (fun v2 => k154 σ x1 x2 x3 y0 v2)) else k154 σ x1 x2 x3 y0 y0)))
set_option maxHeartbeats 4000000 in
set_option maxRecDepth 100000 in
theorem kb_X11_reaches_129 {p : Program} {l : Launch} {e : Env} {s : State} {m : MethodId} {args : Array Value} {below : List Frame} {meth : Method} {c : Code} {D : va_G} {A : Nat → Prop} {cy : Nat → ClassId} {a kt vt : Nat → Nat} {N : Nat}   (C0 : nCx p s m args meth c cX11_reaches 7 none RX11 wsX11_reaches) (hE : nEn D A cy (Mw cy a) kt vt s) {z : Int32 × nS} {k154 : nS → Int32 → Int32 → Int32 → Int32 → Int32 → Option (Int32 × nS)} (K154 : ∀ (σ : nS) (x1 : Int32) (x2 : Int32) (x3 : Int32) (x5 : Int32) (y0 : Int32) (H : Heap) (locs : List Loc) (ls : Array Slot), lv_has ls 7 [(0, .ref (a 0)), (1, .int x1), (2, .int x2), (3, .int x3), (5, .int x5)] → va_P D vwCl ((Mw cy a) σ) H → va_S A s.heap H locs → k154 σ x1 x2 x3 x5 y0 = some z → W p l e ({ frames := 0, cells := 0, slots := 0, locals := 0 } : Room) s m args below meth c H locs 0 0 (nQv below D A (Mw cy a) args s z) (F0 m 154 ls [.int y0])) : ∀ (σ : nS) (x1 : Int32) (x2 : Int32) (x3 : Int32) (x4 : Int32) (y0 : Int32) (H : Heap) (locs : List Loc) (ls : Array Slot), lv_has ls 7 [(0, .ref (a 0)), (1, .int x1), (2, .int x2), (3, .int x3), (4, .int x4)] → va_P D vwCl ((Mw cy a) σ) H → va_S A s.heap H locs → b_X11_reaches_129 N k154 σ x1 x2 x3 x4 y0 = some z → W p l e ({ frames := 0, cells := 0, slots := 0, locals := 0 } : Room) s m args below meth c H locs 0 0 (nQv below D A (Mw cy a) args s z) (F0 m 129 ls [.int y0]) := by
  obtain ⟨hx, hb, hr, hml, hown, hts, hlocks⟩ := C0
  intro σ x1 x2 x3 x4 y0 H locs ls hl hP hS hf
  unfold b_X11_reaches_129 at hf
  refine lv_istore (lv' := [(5, .int y0), (0, .ref (a 0)), (1, .int x1), (2, .int x2), (3, .int x3), (4, .int x4)]) hx hb dX11_reaches_129 hl (by decide) rfl (fun ls hl => ?_)
  refine lv_aload_n hx hb dX11_reaches_131 rfl (lv_at hl 1 rfl) ?_
  refine nb_get (ci := 11) hx hb hts iX11_reaches_X11 hown hE hP 0 mbo_0 rfl 12 (by decide) qX11_reaches_26 rfl rfl dX11_reaches_132 ?_
  refine lv_iload hx hb dX11_reaches_135 (lv_at hl 5 rfl) ?_
  obtain ⟨hin, hf⟩ := nIx_e hf
  refine na_iald hx hb hE hP mbr_4 hin dX11_reaches_137 ?_
  refine lv_topi (fun v1 ev1 => ?_)
  replace hf := nLet_e hf ev1
  refine lv_iconst (v := 2) hx hb dX11_reaches_138 (by decide) ?_
  refine lv_icmp_ne (tgt := 152) hx hb dX11_reaches_139 (by decide) (fun hc => ?_) (fun hc => ?_)
  · replace hf := nIf_f hc hf
    refine lv_iload hx hb dX11_reaches_152 (lv_at hl 0 rfl) ?_
    exact K154 σ x1 x2 x3 y0 y0 H locs ls (lv_sub hl [1, 2, 3, 4, 0] rfl) hP hS hf
  · replace hf := nIf_t hc hf
    refine lv_aload_n hx hb dX11_reaches_142 rfl (lv_at hl 1 rfl) ?_
    refine nb_get (ci := 11) hx hb hts iX11_reaches_X11 hown hE hP 0 mbo_0 rfl 15 (by decide) qX11_reaches_35 rfl rfl dX11_reaches_143 ?_
    refine lv_iload hx hb dX11_reaches_146 (lv_at hl 5 rfl) ?_
    obtain ⟨hin, hf⟩ := nIx_e hf
    refine na_iald hx hb hE hP mbr_7 hin dX11_reaches_148 ?_
    refine lv_topi (fun v2 ev2 => ?_)
    replace hf := nLet_e hf ev2
    refine lv_goto (tgt := 154) hx hb dX11_reaches_149 (by decide) ?_
    exact K154 σ x1 x2 x3 y0 v2 H locs ls (lv_sub hl [1, 2, 3, 4, 0] rfl) hP hS hf
def b_X11_reaches_246 (N : Nat) (k39 : nS → Int32 → Int32 → Int32 → Option (Int32 × nS)) (σ : nS) (x1 : Int32) (x2 : Int32) (x3 : Int32) : Option (Int32 × nS) := nLet (x3 + 1 : Int32) (fun v1 => k39 σ x1 x2 v1)
set_option maxHeartbeats 4000000 in
set_option maxRecDepth 100000 in
theorem kb_X11_reaches_246 {p : Program} {l : Launch} {e : Env} {s : State} {m : MethodId} {args : Array Value} {below : List Frame} {meth : Method} {c : Code} {D : va_G} {A : Nat → Prop} {cy : Nat → ClassId} {a kt vt : Nat → Nat} {N : Nat}   (C0 : nCx p s m args meth c cX11_reaches 7 none RX11 wsX11_reaches) (hE : nEn D A cy (Mw cy a) kt vt s) {z : Int32 × nS} {k39 : nS → Int32 → Int32 → Int32 → Option (Int32 × nS)} (K39 : ∀ (σ : nS) (x1 : Int32) (x2 : Int32) (x3 : Int32) (H : Heap) (locs : List Loc) (ls : Array Slot), lv_has ls 7 [(0, .ref (a 0)), (1, .int x1), (2, .int x2), (3, .int x3)] → va_P D vwCl ((Mw cy a) σ) H → va_S A s.heap H locs → k39 σ x1 x2 x3 = some z → W p l e ({ frames := 0, cells := 0, slots := 0, locals := 0 } : Room) s m args below meth c H locs 0 0 (nQv below D A (Mw cy a) args s z) (F0 m 39 ls [])) : ∀ (σ : nS) (x1 : Int32) (x2 : Int32) (x3 : Int32) (H : Heap) (locs : List Loc) (ls : Array Slot), lv_has ls 7 [(0, .ref (a 0)), (1, .int x1), (2, .int x2), (3, .int x3)] → va_P D vwCl ((Mw cy a) σ) H → va_S A s.heap H locs → b_X11_reaches_246 N k39 σ x1 x2 x3 = some z → W p l e ({ frames := 0, cells := 0, slots := 0, locals := 0 } : Room) s m args below meth c H locs 0 0 (nQv below D A (Mw cy a) args s z) (F0 m 246 ls []) := by
  obtain ⟨hx, hb, hr, hml, hown, hts, hlocks⟩ := C0
  intro σ x1 x2 x3 H locs ls hl hP hS hf
  unfold b_X11_reaches_246 at hf
  obtain ⟨v1, ev1⟩ : ∃ y : Int32, y = x3 + 1 := ⟨_, rfl⟩
  replace hf := nLet_e hf ev1
  refine lv_iinc (v := v1) (lv' := [(3, .int v1), (0, .ref (a 0)), (1, .int x1), (2, .int x2)]) hx hb dX11_reaches_246 hl (k := 3) rfl (by rw [ev1]; rfl) (by decide) rfl (fun ls hl => ?_)
  refine lv_goto (tgt := 39) hx hb dX11_reaches_249 (by decide) ?_
  exact K39 σ x1 x2 v1 H locs ls (lv_sub hl [1, 2, 3, 0] rfl) hP hS hf
def b_X11_reaches_39 (N : Nat) (k31 : nS → Int32 → Int32 → Option (Int32 × nS)) (k129 : nS → Int32 → Int32 → Int32 → Int32 → Int32 → Option (Int32 × nS)) (k246 : nS → Int32 → Int32 → Int32 → Option (Int32 × nS)) (σ : nS) (x1 : Int32) (x2 : Int32) (x3 : Int32) : Option (Int32 × nS) := nIx x1 5 (nLet (σ.1 3 (x1).toNatClampNeg) (fun v1 => (if v1 ≤ x3 then k31 σ x1 x2 else nIx x3 24 (nLet (σ.1 21 (x3).toNatClampNeg) (fun v2 => (if v2 = 0 then k246 σ x1 x2 x3 else nLet ((24 : Int32) * x1 : Int32) (fun v3 => nLet (v3 + x3 : Int32) (fun v4 => nIx v4 120 (nLet (σ.1 4 (v4).toNatClampNeg) (fun v5 => (if v5 = 2 then nIx v4 120 (nLet (σ.1 6 (v4).toNatClampNeg) (fun v10 => k129 σ x1 x2 x3 v4 v10)) else nIx v4 120 (nLet (σ.1 4 (v4).toNatClampNeg) (fun v6 => (if v6 = 4 then nIx v4 120 (nLet (σ.1 5 (v4).toNatClampNeg) (fun v9 => k129 σ x1 x2 x3 v4 v9)) else nIx v4 120 (nLet (σ.1 4 (v4).toNatClampNeg) (fun v7 => (if v7 = 5 then k129 σ x1 x2 x3 v4 x3 else nLet (x3 + (1 : Int32) : Int32) (fun v8 => k129 σ x1 x2 x3 v4 v8))))))))))))))))))
set_option maxHeartbeats 4000000 in
set_option maxRecDepth 100000 in
theorem kb_X11_reaches_39 {p : Program} {l : Launch} {e : Env} {s : State} {m : MethodId} {args : Array Value} {below : List Frame} {meth : Method} {c : Code} {D : va_G} {A : Nat → Prop} {cy : Nat → ClassId} {a kt vt : Nat → Nat} {N : Nat}   (C0 : nCx p s m args meth c cX11_reaches 7 none RX11 wsX11_reaches) (hE : nEn D A cy (Mw cy a) kt vt s) {z : Int32 × nS} {k31 : nS → Int32 → Int32 → Option (Int32 × nS)} (K31 : ∀ (σ : nS) (x1 : Int32) (x2 : Int32) (H : Heap) (locs : List Loc) (ls : Array Slot), lv_has ls 7 [(0, .ref (a 0)), (1, .int x1), (2, .int x2)] → va_P D vwCl ((Mw cy a) σ) H → va_S A s.heap H locs → k31 σ x1 x2 = some z → W p l e ({ frames := 0, cells := 0, slots := 0, locals := 0 } : Room) s m args below meth c H locs 0 0 (nQv below D A (Mw cy a) args s z) (F0 m 31 ls [])) {k129 : nS → Int32 → Int32 → Int32 → Int32 → Int32 → Option (Int32 × nS)} (K129 : ∀ (σ : nS) (x1 : Int32) (x2 : Int32) (x3 : Int32) (x4 : Int32) (y0 : Int32) (H : Heap) (locs : List Loc) (ls : Array Slot), lv_has ls 7 [(0, .ref (a 0)), (1, .int x1), (2, .int x2), (3, .int x3), (4, .int x4)] → va_P D vwCl ((Mw cy a) σ) H → va_S A s.heap H locs → k129 σ x1 x2 x3 x4 y0 = some z → W p l e ({ frames := 0, cells := 0, slots := 0, locals := 0 } : Room) s m args below meth c H locs 0 0 (nQv below D A (Mw cy a) args s z) (F0 m 129 ls [.int y0])) {k246 : nS → Int32 → Int32 → Int32 → Option (Int32 × nS)} (K246 : ∀ (σ : nS) (x1 : Int32) (x2 : Int32) (x3 : Int32) (H : Heap) (locs : List Loc) (ls : Array Slot), lv_has ls 7 [(0, .ref (a 0)), (1, .int x1), (2, .int x2), (3, .int x3)] → va_P D vwCl ((Mw cy a) σ) H → va_S A s.heap H locs → k246 σ x1 x2 x3 = some z → W p l e ({ frames := 0, cells := 0, slots := 0, locals := 0 } : Room) s m args below meth c H locs 0 0 (nQv below D A (Mw cy a) args s z) (F0 m 246 ls [])) : ∀ (σ : nS) (x1 : Int32) (x2 : Int32) (x3 : Int32) (H : Heap) (locs : List Loc) (ls : Array Slot), lv_has ls 7 [(0, .ref (a 0)), (1, .int x1), (2, .int x2), (3, .int x3)] → va_P D vwCl ((Mw cy a) σ) H → va_S A s.heap H locs → b_X11_reaches_39 N k31 k129 k246 σ x1 x2 x3 = some z → W p l e ({ frames := 0, cells := 0, slots := 0, locals := 0 } : Room) s m args below meth c H locs 0 0 (nQv below D A (Mw cy a) args s z) (F0 m 39 ls []) := by
  obtain ⟨hx, hb, hr, hml, hown, hts, hlocks⟩ := C0
  intro σ x1 x2 x3 H locs ls hl hP hS hf
  unfold b_X11_reaches_39 at hf
  refine lv_iload_n hx hb dX11_reaches_39 rfl (lv_at hl 3 rfl) ?_
  refine lv_aload_n hx hb dX11_reaches_40 rfl (lv_at hl 0 rfl) ?_
  refine nb_get (ci := 11) hx hb hts iX11_reaches_X11 hown hE hP 0 mbo_0 rfl 11 (by decide) qX11_reaches_23 rfl rfl dX11_reaches_41 ?_
  refine lv_iload_n hx hb dX11_reaches_44 rfl (lv_at hl 1 rfl) ?_
  obtain ⟨hin, hf⟩ := nIx_e hf
  refine na_iald hx hb hE hP mbr_3 hin dX11_reaches_45 ?_
  refine lv_topi (fun v1 ev1 => ?_)
  replace hf := nLet_e hf ev1
  refine lv_icmp_ge (tgt := 252) hx hb dX11_reaches_46 (by decide) (fun hc => ?_) (fun hc => ?_)
  · replace hf := nIf_t hc hf
    refine lv_goto (tgt := 31) hx hb dX11_reaches_252 (by decide) ?_
    exact K31 σ x1 x2 H locs ls (lv_sub hl [0, 1, 2] rfl) hP hS hf
  · replace hf := nIf_f hc hf
    refine lv_aload_n hx hb dX11_reaches_49 rfl (lv_at hl 0 rfl) ?_
    refine nb_get (ci := 11) hx hb hts iX11_reaches_X11 hown hE hP 0 mbo_0 rfl 54 (by decide) qX11_reaches_82 rfl rfl dX11_reaches_50 ?_
    refine lv_iload_n hx hb dX11_reaches_53 rfl (lv_at hl 3 rfl) ?_
    obtain ⟨hin, hf⟩ := nIx_e hf
    refine na_zald hx hb hE hP mbr_21 hin dX11_reaches_54 ?_
    refine lv_topi (fun v2 ev2 => ?_)
    replace hf := nLet_e hf ev2
    refine lv_if_ne (tgt := 61) hx hb dX11_reaches_55 (by decide) (fun hc => ?_) (fun hc => ?_)
    · replace hf := nIf_f hc hf
      refine lv_bipush (v := 24) hx hb dX11_reaches_61 (by decide) ?_
      refine lv_iload_n hx hb dX11_reaches_63 rfl (lv_at hl 1 rfl) ?_
      refine lv_imul hx hb dX11_reaches_64 ?_
      refine lv_topi (fun v3 ev3 => ?_)
      replace hf := nLet_e hf ev3
      refine lv_iload_n hx hb dX11_reaches_65 rfl (lv_at hl 3 rfl) ?_
      refine lv_iadd hx hb dX11_reaches_66 ?_
      refine lv_topi (fun v4 ev4 => ?_)
      replace hf := nLet_e hf ev4
      refine lv_istore (lv' := [(4, .int v4), (0, .ref (a 0)), (1, .int x1), (2, .int x2), (3, .int x3)]) hx hb dX11_reaches_67 hl (by decide) rfl (fun ls hl => ?_)
      refine lv_aload_n hx hb dX11_reaches_69 rfl (lv_at hl 1 rfl) ?_
      refine nb_get (ci := 11) hx hb hts iX11_reaches_X11 hown hE hP 0 mbo_0 rfl 12 (by decide) qX11_reaches_26 rfl rfl dX11_reaches_70 ?_
      refine lv_iload hx hb dX11_reaches_73 (lv_at hl 0 rfl) ?_
      obtain ⟨hin, hf⟩ := nIx_e hf
      refine na_iald hx hb hE hP mbr_4 hin dX11_reaches_75 ?_
      refine lv_topi (fun v5 ev5 => ?_)
      replace hf := nLet_e hf ev5
      refine lv_iconst (v := 2) hx hb dX11_reaches_76 (by decide) ?_
      refine lv_icmp_ne (tgt := 90) hx hb dX11_reaches_77 (by decide) (fun hc => ?_) (fun hc => ?_)
      · replace hf := nIf_f hc hf
        refine lv_aload_n hx hb dX11_reaches_90 rfl (lv_at hl 1 rfl) ?_
        refine nb_get (ci := 11) hx hb hts iX11_reaches_X11 hown hE hP 0 mbo_0 rfl 12 (by decide) qX11_reaches_26 rfl rfl dX11_reaches_91 ?_
        refine lv_iload hx hb dX11_reaches_94 (lv_at hl 0 rfl) ?_
        obtain ⟨hin, hf⟩ := nIx_e hf
        refine na_iald hx hb hE hP mbr_4 hin dX11_reaches_96 ?_
        refine lv_topi (fun v6 ev6 => ?_)
        replace hf := nLet_e hf ev6
        refine lv_iconst (v := 4) hx hb dX11_reaches_97 (by decide) ?_
        refine lv_icmp_ne (tgt := 111) hx hb dX11_reaches_98 (by decide) (fun hc => ?_) (fun hc => ?_)
        · replace hf := nIf_f hc hf
          refine lv_aload_n hx hb dX11_reaches_111 rfl (lv_at hl 1 rfl) ?_
          refine nb_get (ci := 11) hx hb hts iX11_reaches_X11 hown hE hP 0 mbo_0 rfl 12 (by decide) qX11_reaches_26 rfl rfl dX11_reaches_112 ?_
          refine lv_iload hx hb dX11_reaches_115 (lv_at hl 0 rfl) ?_
          obtain ⟨hin, hf⟩ := nIx_e hf
          refine na_iald hx hb hE hP mbr_4 hin dX11_reaches_117 ?_
          refine lv_topi (fun v7 ev7 => ?_)
          replace hf := nLet_e hf ev7
          refine lv_iconst (v := 5) hx hb dX11_reaches_118 (by decide) ?_
          refine lv_icmp_ne (tgt := 126) hx hb dX11_reaches_119 (by decide) (fun hc => ?_) (fun hc => ?_)
          · replace hf := nIf_f hc hf
            refine lv_iload_n hx hb dX11_reaches_126 rfl (lv_at hl 4 rfl) ?_
            refine lv_iconst (v := 1) hx hb dX11_reaches_127 (by decide) ?_
            refine lv_iadd hx hb dX11_reaches_128 ?_
            refine lv_topi (fun v8 ev8 => ?_)
            replace hf := nLet_e hf ev8
            exact K129 σ x1 x2 x3 v4 v8 H locs ls (lv_sub hl [1, 2, 3, 4, 0] rfl) hP hS hf
          · replace hf := nIf_t hc hf
            refine lv_iload_n hx hb dX11_reaches_122 rfl (lv_at hl 4 rfl) ?_
            refine lv_goto (tgt := 129) hx hb dX11_reaches_123 (by decide) ?_
            exact K129 σ x1 x2 x3 v4 x3 H locs ls (lv_sub hl [1, 2, 3, 4, 0] rfl) hP hS hf
        · replace hf := nIf_t hc hf
          refine lv_aload_n hx hb dX11_reaches_101 rfl (lv_at hl 1 rfl) ?_
          refine nb_get (ci := 11) hx hb hts iX11_reaches_X11 hown hE hP 0 mbo_0 rfl 13 (by decide) qX11_reaches_29 rfl rfl dX11_reaches_102 ?_
          refine lv_iload hx hb dX11_reaches_105 (lv_at hl 0 rfl) ?_
          obtain ⟨hin, hf⟩ := nIx_e hf
          refine na_iald hx hb hE hP mbr_5 hin dX11_reaches_107 ?_
          refine lv_topi (fun v9 ev9 => ?_)
          replace hf := nLet_e hf ev9
          refine lv_goto (tgt := 129) hx hb dX11_reaches_108 (by decide) ?_
          exact K129 σ x1 x2 x3 v4 v9 H locs ls (lv_sub hl [1, 2, 3, 4, 0] rfl) hP hS hf
      · replace hf := nIf_t hc hf
        refine lv_aload_n hx hb dX11_reaches_80 rfl (lv_at hl 1 rfl) ?_
        refine nb_get (ci := 11) hx hb hts iX11_reaches_X11 hown hE hP 0 mbo_0 rfl 14 (by decide) qX11_reaches_32 rfl rfl dX11_reaches_81 ?_
        refine lv_iload hx hb dX11_reaches_84 (lv_at hl 0 rfl) ?_
        obtain ⟨hin, hf⟩ := nIx_e hf
        refine na_iald hx hb hE hP mbr_6 hin dX11_reaches_86 ?_
        refine lv_topi (fun v10 ev10 => ?_)
        replace hf := nLet_e hf ev10
        refine lv_goto (tgt := 129) hx hb dX11_reaches_87 (by decide) ?_
        exact K129 σ x1 x2 x3 v4 v10 H locs ls (lv_sub hl [1, 2, 3, 4, 0] rfl) hP hS hf
    · replace hf := nIf_t hc hf
      refine lv_goto (tgt := 246) hx hb dX11_reaches_58 (by decide) ?_
      exact K246 σ x1 x2 x3 H locs ls (lv_sub hl [0, 1, 2, 3] rfl) hP hS hf
def b_X11_reaches_22 (N : Nat) (k2 : nS → Int32 → Int32 → Option (Int32 × nS)) (σ : nS) (x1 : Int32) (x2 : Int32) (y1 : Int32) (y2 : Int32) : Option (Int32 × nS) := nIx y1 24 (nLet (wr σ 21 (y1).toNatClampNeg (vp_nar .boolean y2)) (fun σ1 => nLet (x2 + 1 : Int32) (fun v2 => k2 σ1 x1 v2)))
set_option maxHeartbeats 4000000 in
set_option maxRecDepth 100000 in
theorem kb_X11_reaches_22 {p : Program} {l : Launch} {e : Env} {s : State} {m : MethodId} {args : Array Value} {below : List Frame} {meth : Method} {c : Code} {D : va_G} {A : Nat → Prop} {cy : Nat → ClassId} {a kt vt : Nat → Nat} {N : Nat}   (C0 : nCx p s m args meth c cX11_reaches 7 none RX11 wsX11_reaches) (hE : nEn D A cy (Mw cy a) kt vt s) {z : Int32 × nS} {k2 : nS → Int32 → Int32 → Option (Int32 × nS)} (K2 : ∀ (σ : nS) (x1 : Int32) (x2 : Int32) (H : Heap) (locs : List Loc) (ls : Array Slot), lv_has ls 7 [(0, .ref (a 0)), (1, .int x1), (2, .int x2)] → va_P D vwCl ((Mw cy a) σ) H → va_S A s.heap H locs → k2 σ x1 x2 = some z → W p l e ({ frames := 0, cells := 0, slots := 0, locals := 0 } : Room) s m args below meth c H locs 0 0 (nQv below D A (Mw cy a) args s z) (F0 m 2 ls [])) : ∀ (σ : nS) (x1 : Int32) (x2 : Int32) (y1 : Int32) (y2 : Int32) (H : Heap) (locs : List Loc) (ls : Array Slot), lv_has ls 7 [(0, .ref (a 0)), (1, .int x1), (2, .int x2)] → va_P D vwCl ((Mw cy a) σ) H → va_S A s.heap H locs → b_X11_reaches_22 N k2 σ x1 x2 y1 y2 = some z → W p l e ({ frames := 0, cells := 0, slots := 0, locals := 0 } : Room) s m args below meth c H locs 0 0 (nQv below D A (Mw cy a) args s z) (F0 m 22 ls [.int y2, .int y1, .ref (a 21)]) := by
  obtain ⟨hx, hb, hr, hml, hown, hts, hlocks⟩ := C0
  intro σ x1 x2 y1 y2 H locs ls hl hP hS hf
  unfold b_X11_reaches_22 at hf
  obtain ⟨hin, hf⟩ := nIx_e hf
  refine na_zast hx hb hE hP hS mbr_21 hin dX11_reaches_22 (fun σ1 eσ1 H locs hP hS => ?_)
  replace hf := nLet_e hf eσ1
  obtain ⟨v2, ev2⟩ : ∃ y : Int32, y = x2 + 1 := ⟨_, rfl⟩
  replace hf := nLet_e hf ev2
  refine lv_iinc (v := v2) (lv' := [(2, .int v2), (0, .ref (a 0)), (1, .int x1)]) hx hb dX11_reaches_23 hl (k := 2) rfl (by rw [ev2]; rfl) (by decide) rfl (fun ls hl => ?_)
  refine lv_goto (tgt := 2) hx hb dX11_reaches_26 (by decide) ?_
  exact K2 σ1 x1 v2 H locs ls (lv_sub hl [1, 2, 0] rfl) hP hS hf
def b_X11_reaches_31 (N : Nat) (k39 : nS → Int32 → Int32 → Int32 → Option (Int32 × nS)) (σ : nS) (x1 : Int32) (x2 : Int32) : Option (Int32 × nS) := (if x2 = 0 then some (0, σ) else k39 σ x1 0 0)
set_option maxHeartbeats 4000000 in
set_option maxRecDepth 100000 in
theorem kb_X11_reaches_31 {p : Program} {l : Launch} {e : Env} {s : State} {m : MethodId} {args : Array Value} {below : List Frame} {meth : Method} {c : Code} {D : va_G} {A : Nat → Prop} {cy : Nat → ClassId} {a kt vt : Nat → Nat} {N : Nat}   (C0 : nCx p s m args meth c cX11_reaches 7 none RX11 wsX11_reaches) (hE : nEn D A cy (Mw cy a) kt vt s) {z : Int32 × nS} {k39 : nS → Int32 → Int32 → Int32 → Option (Int32 × nS)} (K39 : ∀ (σ : nS) (x1 : Int32) (x2 : Int32) (x3 : Int32) (H : Heap) (locs : List Loc) (ls : Array Slot), lv_has ls 7 [(0, .ref (a 0)), (1, .int x1), (2, .int x2), (3, .int x3)] → va_P D vwCl ((Mw cy a) σ) H → va_S A s.heap H locs → k39 σ x1 x2 x3 = some z → W p l e ({ frames := 0, cells := 0, slots := 0, locals := 0 } : Room) s m args below meth c H locs 0 0 (nQv below D A (Mw cy a) args s z) (F0 m 39 ls [])) : ∀ (σ : nS) (x1 : Int32) (x2 : Int32) (H : Heap) (locs : List Loc) (ls : Array Slot), lv_has ls 7 [(0, .ref (a 0)), (1, .int x1), (2, .int x2)] → va_P D vwCl ((Mw cy a) σ) H → va_S A s.heap H locs → b_X11_reaches_31 N k39 σ x1 x2 = some z → W p l e ({ frames := 0, cells := 0, slots := 0, locals := 0 } : Room) s m args below meth c H locs 0 0 (nQv below D A (Mw cy a) args s z) (F0 m 31 ls []) := by
  obtain ⟨hx, hb, hr, hml, hown, hts, hlocks⟩ := C0
  intro σ x1 x2 H locs ls hl hP hS hf
  unfold b_X11_reaches_31 at hf
  refine lv_iload_n hx hb dX11_reaches_31 rfl (lv_at hl 2 rfl) ?_
  refine lv_if_eq (tgt := 255) hx hb dX11_reaches_32 (by decide) (fun hc => ?_) (fun hc => ?_)
  · replace hf := nIf_t hc hf
    exact nb_vret hx hb hr hlocks hP hS (nSo hf) dX11_reaches_255
  · replace hf := nIf_f hc hf
    refine lv_iconst (v := 0) hx hb dX11_reaches_35 (by decide) ?_
    refine lv_istore_n (lv' := [(2, .int 0), (0, .ref (a 0)), (1, .int x1)]) hx hb dX11_reaches_36 rfl hl (by decide) rfl (fun ls hl => ?_)
    refine lv_iconst (v := 0) hx hb dX11_reaches_37 (by decide) ?_
    refine lv_istore_n (lv' := [(3, .int 0), (2, .int 0), (0, .ref (a 0)), (1, .int x1)]) hx hb dX11_reaches_38 rfl hl (by decide) rfl (fun ls hl => ?_)
    exact K39 σ x1 0 0 H locs ls (lv_sub hl [2, 3, 1, 0] rfl) hP hS hf
def b_X11_reaches_2 (N : Nat) (k22 : nS → Int32 → Int32 → Int32 → Int32 → Option (Int32 × nS)) (k31 : nS → Int32 → Int32 → Option (Int32 × nS)) (σ : nS) (x1 : Int32) (x2 : Int32) : Option (Int32 × nS) := (if (24 : Int32) ≤ x2 then k31 σ x1 1 else (if x2 = 0 then k22 σ x1 x2 x2 1 else k22 σ x1 x2 x2 0))
set_option maxHeartbeats 4000000 in
set_option maxRecDepth 100000 in
theorem kb_X11_reaches_2 {p : Program} {l : Launch} {e : Env} {s : State} {m : MethodId} {args : Array Value} {below : List Frame} {meth : Method} {c : Code} {D : va_G} {A : Nat → Prop} {cy : Nat → ClassId} {a kt vt : Nat → Nat} {N : Nat}   (C0 : nCx p s m args meth c cX11_reaches 7 none RX11 wsX11_reaches) (hE : nEn D A cy (Mw cy a) kt vt s) {z : Int32 × nS} {k22 : nS → Int32 → Int32 → Int32 → Int32 → Option (Int32 × nS)} (K22 : ∀ (σ : nS) (x1 : Int32) (x2 : Int32) (y1 : Int32) (y2 : Int32) (H : Heap) (locs : List Loc) (ls : Array Slot), lv_has ls 7 [(0, .ref (a 0)), (1, .int x1), (2, .int x2)] → va_P D vwCl ((Mw cy a) σ) H → va_S A s.heap H locs → k22 σ x1 x2 y1 y2 = some z → W p l e ({ frames := 0, cells := 0, slots := 0, locals := 0 } : Room) s m args below meth c H locs 0 0 (nQv below D A (Mw cy a) args s z) (F0 m 22 ls [.int y2, .int y1, .ref (a 21)])) {k31 : nS → Int32 → Int32 → Option (Int32 × nS)} (K31 : ∀ (σ : nS) (x1 : Int32) (x2 : Int32) (H : Heap) (locs : List Loc) (ls : Array Slot), lv_has ls 7 [(0, .ref (a 0)), (1, .int x1), (2, .int x2)] → va_P D vwCl ((Mw cy a) σ) H → va_S A s.heap H locs → k31 σ x1 x2 = some z → W p l e ({ frames := 0, cells := 0, slots := 0, locals := 0 } : Room) s m args below meth c H locs 0 0 (nQv below D A (Mw cy a) args s z) (F0 m 31 ls [])) : ∀ (σ : nS) (x1 : Int32) (x2 : Int32) (H : Heap) (locs : List Loc) (ls : Array Slot), lv_has ls 7 [(0, .ref (a 0)), (1, .int x1), (2, .int x2)] → va_P D vwCl ((Mw cy a) σ) H → va_S A s.heap H locs → b_X11_reaches_2 N k22 k31 σ x1 x2 = some z → W p l e ({ frames := 0, cells := 0, slots := 0, locals := 0 } : Room) s m args below meth c H locs 0 0 (nQv below D A (Mw cy a) args s z) (F0 m 2 ls []) := by
  obtain ⟨hx, hb, hr, hml, hown, hts, hlocks⟩ := C0
  intro σ x1 x2 H locs ls hl hP hS hf
  unfold b_X11_reaches_2 at hf
  refine lv_iload_n hx hb dX11_reaches_2 rfl (lv_at hl 2 rfl) ?_
  refine lv_bipush (v := 24) hx hb dX11_reaches_3 (by decide) ?_
  refine lv_icmp_ge (tgt := 29) hx hb dX11_reaches_5 (by decide) (fun hc => ?_) (fun hc => ?_)
  · replace hf := nIf_t hc hf
    refine lv_iconst (v := 1) hx hb dX11_reaches_29 (by decide) ?_
    refine lv_istore_n (lv' := [(2, .int 1), (0, .ref (a 0)), (1, .int x1)]) hx hb dX11_reaches_30 rfl hl (by decide) rfl (fun ls hl => ?_)
    exact K31 σ x1 1 H locs ls (lv_sub hl [1, 2, 0] rfl) hP hS hf
  · replace hf := nIf_f hc hf
    refine lv_aload_n hx hb dX11_reaches_8 rfl (lv_at hl 0 rfl) ?_
    refine nb_get (ci := 11) hx hb hts iX11_reaches_X11 hown hE hP 0 mbo_0 rfl 54 (by decide) qX11_reaches_82 rfl rfl dX11_reaches_9 ?_
    refine lv_iload_n hx hb dX11_reaches_12 rfl (lv_at hl 2 rfl) ?_
    refine lv_iload_n hx hb dX11_reaches_13 rfl (lv_at hl 2 rfl) ?_
    refine lv_if_ne (tgt := 21) hx hb dX11_reaches_14 (by decide) (fun hc => ?_) (fun hc => ?_)
    · replace hf := nIf_f hc hf
      refine lv_iconst (v := 0) hx hb dX11_reaches_21 (by decide) ?_
      exact K22 σ x1 x2 x2 0 H locs ls (lv_sub hl [0, 1, 2] rfl) hP hS hf
    · replace hf := nIf_t hc hf
      refine lv_iconst (v := 1) hx hb dX11_reaches_17 (by decide) ?_
      refine lv_goto (tgt := 22) hx hb dX11_reaches_18 (by decide) ?_
      exact K22 σ x1 x2 x2 1 H locs ls (lv_sub hl [0, 1, 2] rfl) hP hS hf
def b_X11_reaches_0 (N : Nat) (k2 : nS → Int32 → Int32 → Option (Int32 × nS)) (σ : nS) (x1 : Int32) : Option (Int32 × nS) := k2 σ x1 0
set_option maxHeartbeats 4000000 in
set_option maxRecDepth 100000 in
theorem kb_X11_reaches_0 {p : Program} {l : Launch} {e : Env} {s : State} {m : MethodId} {args : Array Value} {below : List Frame} {meth : Method} {c : Code} {D : va_G} {A : Nat → Prop} {cy : Nat → ClassId} {a kt vt : Nat → Nat} {N : Nat}   (C0 : nCx p s m args meth c cX11_reaches 7 none RX11 wsX11_reaches) (hE : nEn D A cy (Mw cy a) kt vt s) {z : Int32 × nS} {k2 : nS → Int32 → Int32 → Option (Int32 × nS)} (K2 : ∀ (σ : nS) (x1 : Int32) (x2 : Int32) (H : Heap) (locs : List Loc) (ls : Array Slot), lv_has ls 7 [(0, .ref (a 0)), (1, .int x1), (2, .int x2)] → va_P D vwCl ((Mw cy a) σ) H → va_S A s.heap H locs → k2 σ x1 x2 = some z → W p l e ({ frames := 0, cells := 0, slots := 0, locals := 0 } : Room) s m args below meth c H locs 0 0 (nQv below D A (Mw cy a) args s z) (F0 m 2 ls [])) : ∀ (σ : nS) (x1 : Int32) (H : Heap) (locs : List Loc) (ls : Array Slot), lv_has ls 7 [(0, .ref (a 0)), (1, .int x1)] → va_P D vwCl ((Mw cy a) σ) H → va_S A s.heap H locs → b_X11_reaches_0 N k2 σ x1 = some z → W p l e ({ frames := 0, cells := 0, slots := 0, locals := 0 } : Room) s m args below meth c H locs 0 0 (nQv below D A (Mw cy a) args s z) (F0 m 0 ls []) := by
  obtain ⟨hx, hb, hr, hml, hown, hts, hlocks⟩ := C0
  intro σ x1 H locs ls hl hP hS hf
  unfold b_X11_reaches_0 at hf
  refine lv_iconst (v := 0) hx hb dX11_reaches_0 (by decide) ?_
  refine lv_istore_n (lv' := [(2, .int 0), (0, .ref (a 0)), (1, .int x1)]) hx hb dX11_reaches_1 rfl hl (by decide) rfl (fun ls hl => ?_)
  exact K2 σ x1 0 H locs ls (lv_sub hl [1, 2, 0] rfl) hP hS hf
def l_X11_reaches_206 (N : Nat) (k207 : nS → Int32 → Int32 → Int32 → Int32 → Int32 → Option (Int32 × nS)) : nS → Int32 → Int32 → Int32 → Int32 → Option (Int32 × nS) := b_X11_reaches_206 N k207
theorem kl_X11_reaches_206 {p : Program} {l : Launch} {e : Env} {s : State} {m : MethodId} {args : Array Value} {below : List Frame} {meth : Method} {c : Code} {D : va_G} {A : Nat → Prop} {cy : Nat → ClassId} {a kt vt : Nat → Nat} {N : Nat}   (C0 : nCx p s m args meth c cX11_reaches 7 none RX11 wsX11_reaches) (hE : nEn D A cy (Mw cy a) kt vt s) {z : Int32 × nS} {k207 : nS → Int32 → Int32 → Int32 → Int32 → Int32 → Option (Int32 × nS)} (K207 : ∀ (σ : nS) (x1 : Int32) (x3 : Int32) (x5 : Int32) (x6 : Int32) (y0 : Int32) (H : Heap) (locs : List Loc) (ls : Array Slot), lv_has ls 7 [(0, .ref (a 0)), (1, .int x1), (3, .int x3), (5, .int x5), (6, .int x6)] → va_P D vwCl ((Mw cy a) σ) H → va_S A s.heap H locs → k207 σ x1 x3 x5 x6 y0 = some z → W p l e ({ frames := 0, cells := 0, slots := 0, locals := 0 } : Room) s m args below meth c H locs 0 0 (nQv below D A (Mw cy a) args s z) (F0 m 207 ls [.int y0])) : ∀ (σ : nS) (x1 : Int32) (x3 : Int32) (x5 : Int32) (x6 : Int32) (H : Heap) (locs : List Loc) (ls : Array Slot), lv_has ls 7 [(0, .ref (a 0)), (1, .int x1), (3, .int x3), (5, .int x5), (6, .int x6)] → va_P D vwCl ((Mw cy a) σ) H → va_S A s.heap H locs → l_X11_reaches_206 N k207 σ x1 x3 x5 x6 = some z → W p l e ({ frames := 0, cells := 0, slots := 0, locals := 0 } : Room) s m args below meth c H locs 0 0 (nQv below D A (Mw cy a) args s z) (F0 m 206 ls []) := by
  exact kb_X11_reaches_206 (N := N)  C0 hE K207
def l_X11_reaches_227 (N : Nat) (k246 : nS → Int32 → Int32 → Int32 → Option (Int32 × nS)) : nS → Int32 → Int32 → Int32 → Int32 → Option (Int32 × nS) := b_X11_reaches_227 N k246
theorem kl_X11_reaches_227 {p : Program} {l : Launch} {e : Env} {s : State} {m : MethodId} {args : Array Value} {below : List Frame} {meth : Method} {c : Code} {D : va_G} {A : Nat → Prop} {cy : Nat → ClassId} {a kt vt : Nat → Nat} {N : Nat}   (C0 : nCx p s m args meth c cX11_reaches 7 none RX11 wsX11_reaches) (hE : nEn D A cy (Mw cy a) kt vt s) {z : Int32 × nS} {k246 : nS → Int32 → Int32 → Int32 → Option (Int32 × nS)} (K246 : ∀ (σ : nS) (x1 : Int32) (x2 : Int32) (x3 : Int32) (H : Heap) (locs : List Loc) (ls : Array Slot), lv_has ls 7 [(0, .ref (a 0)), (1, .int x1), (2, .int x2), (3, .int x3)] → va_P D vwCl ((Mw cy a) σ) H → va_S A s.heap H locs → k246 σ x1 x2 x3 = some z → W p l e ({ frames := 0, cells := 0, slots := 0, locals := 0 } : Room) s m args below meth c H locs 0 0 (nQv below D A (Mw cy a) args s z) (F0 m 246 ls [])) : ∀ (σ : nS) (x1 : Int32) (x2 : Int32) (x3 : Int32) (x6 : Int32) (H : Heap) (locs : List Loc) (ls : Array Slot), lv_has ls 7 [(0, .ref (a 0)), (1, .int x1), (2, .int x2), (3, .int x3), (6, .int x6)] → va_P D vwCl ((Mw cy a) σ) H → va_S A s.heap H locs → l_X11_reaches_227 N k246 σ x1 x2 x3 x6 = some z → W p l e ({ frames := 0, cells := 0, slots := 0, locals := 0 } : Room) s m args below meth c H locs 0 0 (nQv below D A (Mw cy a) args s z) (F0 m 227 ls []) := by
  exact kb_X11_reaches_227 (N := N)  C0 hE K246
def l_X11_reaches_181 (N : Nat) (k202 : nS → Int32 → Int32 → Int32 → Int32 → Option (Int32 × nS)) (k207 : nS → Int32 → Int32 → Int32 → Int32 → Int32 → Option (Int32 × nS)) : nS → Int32 → Int32 → Int32 → Int32 → Option (Int32 × nS) := b_X11_reaches_181 N k202 (l_X11_reaches_206 N k207)
theorem kl_X11_reaches_181 {p : Program} {l : Launch} {e : Env} {s : State} {m : MethodId} {args : Array Value} {below : List Frame} {meth : Method} {c : Code} {D : va_G} {A : Nat → Prop} {cy : Nat → ClassId} {a kt vt : Nat → Nat} {N : Nat}   (C0 : nCx p s m args meth c cX11_reaches 7 none RX11 wsX11_reaches) (hE : nEn D A cy (Mw cy a) kt vt s) {z : Int32 × nS} {k202 : nS → Int32 → Int32 → Int32 → Int32 → Option (Int32 × nS)} (K202 : ∀ (σ : nS) (x1 : Int32) (x3 : Int32) (x5 : Int32) (x6 : Int32) (H : Heap) (locs : List Loc) (ls : Array Slot), lv_has ls 7 [(0, .ref (a 0)), (1, .int x1), (3, .int x3), (5, .int x5), (6, .int x6)] → va_P D vwCl ((Mw cy a) σ) H → va_S A s.heap H locs → k202 σ x1 x3 x5 x6 = some z → W p l e ({ frames := 0, cells := 0, slots := 0, locals := 0 } : Room) s m args below meth c H locs 0 0 (nQv below D A (Mw cy a) args s z) (F0 m 202 ls [])) {k207 : nS → Int32 → Int32 → Int32 → Int32 → Int32 → Option (Int32 × nS)} (K207 : ∀ (σ : nS) (x1 : Int32) (x3 : Int32) (x5 : Int32) (x6 : Int32) (y0 : Int32) (H : Heap) (locs : List Loc) (ls : Array Slot), lv_has ls 7 [(0, .ref (a 0)), (1, .int x1), (3, .int x3), (5, .int x5), (6, .int x6)] → va_P D vwCl ((Mw cy a) σ) H → va_S A s.heap H locs → k207 σ x1 x3 x5 x6 y0 = some z → W p l e ({ frames := 0, cells := 0, slots := 0, locals := 0 } : Room) s m args below meth c H locs 0 0 (nQv below D A (Mw cy a) args s z) (F0 m 207 ls [.int y0])) : ∀ (σ : nS) (x1 : Int32) (x3 : Int32) (x5 : Int32) (x6 : Int32) (H : Heap) (locs : List Loc) (ls : Array Slot), lv_has ls 7 [(0, .ref (a 0)), (1, .int x1), (3, .int x3), (5, .int x5), (6, .int x6)] → va_P D vwCl ((Mw cy a) σ) H → va_S A s.heap H locs → l_X11_reaches_181 N k202 k207 σ x1 x3 x5 x6 = some z → W p l e ({ frames := 0, cells := 0, slots := 0, locals := 0 } : Room) s m args below meth c H locs 0 0 (nQv below D A (Mw cy a) args s z) (F0 m 181 ls []) := by
  exact kb_X11_reaches_181 (N := N)  C0 hE K202 (kl_X11_reaches_206 (N := N)  C0 hE K207)
def l_X11_reaches_207 (N : Nat) (k246 : nS → Int32 → Int32 → Int32 → Option (Int32 × nS)) : nS → Int32 → Int32 → Int32 → Int32 → Int32 → Option (Int32 × nS) := b_X11_reaches_207 N (l_X11_reaches_227 N k246)
theorem kl_X11_reaches_207 {p : Program} {l : Launch} {e : Env} {s : State} {m : MethodId} {args : Array Value} {below : List Frame} {meth : Method} {c : Code} {D : va_G} {A : Nat → Prop} {cy : Nat → ClassId} {a kt vt : Nat → Nat} {N : Nat}   (C0 : nCx p s m args meth c cX11_reaches 7 none RX11 wsX11_reaches) (hE : nEn D A cy (Mw cy a) kt vt s) {z : Int32 × nS} {k246 : nS → Int32 → Int32 → Int32 → Option (Int32 × nS)} (K246 : ∀ (σ : nS) (x1 : Int32) (x2 : Int32) (x3 : Int32) (H : Heap) (locs : List Loc) (ls : Array Slot), lv_has ls 7 [(0, .ref (a 0)), (1, .int x1), (2, .int x2), (3, .int x3)] → va_P D vwCl ((Mw cy a) σ) H → va_S A s.heap H locs → k246 σ x1 x2 x3 = some z → W p l e ({ frames := 0, cells := 0, slots := 0, locals := 0 } : Room) s m args below meth c H locs 0 0 (nQv below D A (Mw cy a) args s z) (F0 m 246 ls [])) : ∀ (σ : nS) (x1 : Int32) (x3 : Int32) (x5 : Int32) (x6 : Int32) (y0 : Int32) (H : Heap) (locs : List Loc) (ls : Array Slot), lv_has ls 7 [(0, .ref (a 0)), (1, .int x1), (3, .int x3), (5, .int x5), (6, .int x6)] → va_P D vwCl ((Mw cy a) σ) H → va_S A s.heap H locs → l_X11_reaches_207 N k246 σ x1 x3 x5 x6 y0 = some z → W p l e ({ frames := 0, cells := 0, slots := 0, locals := 0 } : Room) s m args below meth c H locs 0 0 (nQv below D A (Mw cy a) args s z) (F0 m 207 ls [.int y0]) := by
  exact kb_X11_reaches_207 (N := N)  C0 hE (kl_X11_reaches_227 (N := N)  C0 hE K246)
def l_X11_reaches_202 (N : Nat) (k207 : nS → Int32 → Int32 → Int32 → Int32 → Int32 → Option (Int32 × nS)) : nS → Int32 → Int32 → Int32 → Int32 → Option (Int32 × nS) := b_X11_reaches_202 N k207
theorem kl_X11_reaches_202 {p : Program} {l : Launch} {e : Env} {s : State} {m : MethodId} {args : Array Value} {below : List Frame} {meth : Method} {c : Code} {D : va_G} {A : Nat → Prop} {cy : Nat → ClassId} {a kt vt : Nat → Nat} {N : Nat}   (C0 : nCx p s m args meth c cX11_reaches 7 none RX11 wsX11_reaches) (hE : nEn D A cy (Mw cy a) kt vt s) {z : Int32 × nS} {k207 : nS → Int32 → Int32 → Int32 → Int32 → Int32 → Option (Int32 × nS)} (K207 : ∀ (σ : nS) (x1 : Int32) (x3 : Int32) (x5 : Int32) (x6 : Int32) (y0 : Int32) (H : Heap) (locs : List Loc) (ls : Array Slot), lv_has ls 7 [(0, .ref (a 0)), (1, .int x1), (3, .int x3), (5, .int x5), (6, .int x6)] → va_P D vwCl ((Mw cy a) σ) H → va_S A s.heap H locs → k207 σ x1 x3 x5 x6 y0 = some z → W p l e ({ frames := 0, cells := 0, slots := 0, locals := 0 } : Room) s m args below meth c H locs 0 0 (nQv below D A (Mw cy a) args s z) (F0 m 207 ls [.int y0])) : ∀ (σ : nS) (x1 : Int32) (x3 : Int32) (x5 : Int32) (x6 : Int32) (H : Heap) (locs : List Loc) (ls : Array Slot), lv_has ls 7 [(0, .ref (a 0)), (1, .int x1), (3, .int x3), (5, .int x5), (6, .int x6)] → va_P D vwCl ((Mw cy a) σ) H → va_S A s.heap H locs → l_X11_reaches_202 N k207 σ x1 x3 x5 x6 = some z → W p l e ({ frames := 0, cells := 0, slots := 0, locals := 0 } : Room) s m args below meth c H locs 0 0 (nQv below D A (Mw cy a) args s z) (F0 m 202 ls []) := by
  exact kb_X11_reaches_202 (N := N)  C0 hE K207
def l_X11_reaches_154 (N : Nat) (k246 : nS → Int32 → Int32 → Int32 → Option (Int32 × nS)) : nS → Int32 → Int32 → Int32 → Int32 → Int32 → Option (Int32 × nS) := b_X11_reaches_154 N (l_X11_reaches_181 N (l_X11_reaches_202 N (l_X11_reaches_207 N k246)) (l_X11_reaches_207 N k246)) (l_X11_reaches_202 N (l_X11_reaches_207 N k246))
theorem kl_X11_reaches_154 {p : Program} {l : Launch} {e : Env} {s : State} {m : MethodId} {args : Array Value} {below : List Frame} {meth : Method} {c : Code} {D : va_G} {A : Nat → Prop} {cy : Nat → ClassId} {a kt vt : Nat → Nat} {N : Nat}   (C0 : nCx p s m args meth c cX11_reaches 7 none RX11 wsX11_reaches) (hE : nEn D A cy (Mw cy a) kt vt s) {z : Int32 × nS} {k246 : nS → Int32 → Int32 → Int32 → Option (Int32 × nS)} (K246 : ∀ (σ : nS) (x1 : Int32) (x2 : Int32) (x3 : Int32) (H : Heap) (locs : List Loc) (ls : Array Slot), lv_has ls 7 [(0, .ref (a 0)), (1, .int x1), (2, .int x2), (3, .int x3)] → va_P D vwCl ((Mw cy a) σ) H → va_S A s.heap H locs → k246 σ x1 x2 x3 = some z → W p l e ({ frames := 0, cells := 0, slots := 0, locals := 0 } : Room) s m args below meth c H locs 0 0 (nQv below D A (Mw cy a) args s z) (F0 m 246 ls [])) : ∀ (σ : nS) (x1 : Int32) (x2 : Int32) (x3 : Int32) (x5 : Int32) (y0 : Int32) (H : Heap) (locs : List Loc) (ls : Array Slot), lv_has ls 7 [(0, .ref (a 0)), (1, .int x1), (2, .int x2), (3, .int x3), (5, .int x5)] → va_P D vwCl ((Mw cy a) σ) H → va_S A s.heap H locs → l_X11_reaches_154 N k246 σ x1 x2 x3 x5 y0 = some z → W p l e ({ frames := 0, cells := 0, slots := 0, locals := 0 } : Room) s m args below meth c H locs 0 0 (nQv below D A (Mw cy a) args s z) (F0 m 154 ls [.int y0]) := by
  exact kb_X11_reaches_154 (N := N)  C0 hE (kl_X11_reaches_181 (N := N)  C0 hE (kl_X11_reaches_202 (N := N)  C0 hE (kl_X11_reaches_207 (N := N)  C0 hE K246)) (kl_X11_reaches_207 (N := N)  C0 hE K246)) (kl_X11_reaches_202 (N := N)  C0 hE (kl_X11_reaches_207 (N := N)  C0 hE K246))
def l_X11_reaches_129 (N : Nat) (k246 : nS → Int32 → Int32 → Int32 → Option (Int32 × nS)) : nS → Int32 → Int32 → Int32 → Int32 → Int32 → Option (Int32 × nS) := b_X11_reaches_129 N (l_X11_reaches_154 N k246)
theorem kl_X11_reaches_129 {p : Program} {l : Launch} {e : Env} {s : State} {m : MethodId} {args : Array Value} {below : List Frame} {meth : Method} {c : Code} {D : va_G} {A : Nat → Prop} {cy : Nat → ClassId} {a kt vt : Nat → Nat} {N : Nat}   (C0 : nCx p s m args meth c cX11_reaches 7 none RX11 wsX11_reaches) (hE : nEn D A cy (Mw cy a) kt vt s) {z : Int32 × nS} {k246 : nS → Int32 → Int32 → Int32 → Option (Int32 × nS)} (K246 : ∀ (σ : nS) (x1 : Int32) (x2 : Int32) (x3 : Int32) (H : Heap) (locs : List Loc) (ls : Array Slot), lv_has ls 7 [(0, .ref (a 0)), (1, .int x1), (2, .int x2), (3, .int x3)] → va_P D vwCl ((Mw cy a) σ) H → va_S A s.heap H locs → k246 σ x1 x2 x3 = some z → W p l e ({ frames := 0, cells := 0, slots := 0, locals := 0 } : Room) s m args below meth c H locs 0 0 (nQv below D A (Mw cy a) args s z) (F0 m 246 ls [])) : ∀ (σ : nS) (x1 : Int32) (x2 : Int32) (x3 : Int32) (x4 : Int32) (y0 : Int32) (H : Heap) (locs : List Loc) (ls : Array Slot), lv_has ls 7 [(0, .ref (a 0)), (1, .int x1), (2, .int x2), (3, .int x3), (4, .int x4)] → va_P D vwCl ((Mw cy a) σ) H → va_S A s.heap H locs → l_X11_reaches_129 N k246 σ x1 x2 x3 x4 y0 = some z → W p l e ({ frames := 0, cells := 0, slots := 0, locals := 0 } : Room) s m args below meth c H locs 0 0 (nQv below D A (Mw cy a) args s z) (F0 m 129 ls [.int y0]) := by
  exact kb_X11_reaches_129 (N := N)  C0 hE (kl_X11_reaches_154 (N := N)  C0 hE K246)
def l_X11_reaches_246 (N : Nat) (k39 : nS → Int32 → Int32 → Int32 → Option (Int32 × nS)) : nS → Int32 → Int32 → Int32 → Option (Int32 × nS) := b_X11_reaches_246 N k39
theorem kl_X11_reaches_246 {p : Program} {l : Launch} {e : Env} {s : State} {m : MethodId} {args : Array Value} {below : List Frame} {meth : Method} {c : Code} {D : va_G} {A : Nat → Prop} {cy : Nat → ClassId} {a kt vt : Nat → Nat} {N : Nat}   (C0 : nCx p s m args meth c cX11_reaches 7 none RX11 wsX11_reaches) (hE : nEn D A cy (Mw cy a) kt vt s) {z : Int32 × nS} {k39 : nS → Int32 → Int32 → Int32 → Option (Int32 × nS)} (K39 : ∀ (σ : nS) (x1 : Int32) (x2 : Int32) (x3 : Int32) (H : Heap) (locs : List Loc) (ls : Array Slot), lv_has ls 7 [(0, .ref (a 0)), (1, .int x1), (2, .int x2), (3, .int x3)] → va_P D vwCl ((Mw cy a) σ) H → va_S A s.heap H locs → k39 σ x1 x2 x3 = some z → W p l e ({ frames := 0, cells := 0, slots := 0, locals := 0 } : Room) s m args below meth c H locs 0 0 (nQv below D A (Mw cy a) args s z) (F0 m 39 ls [])) : ∀ (σ : nS) (x1 : Int32) (x2 : Int32) (x3 : Int32) (H : Heap) (locs : List Loc) (ls : Array Slot), lv_has ls 7 [(0, .ref (a 0)), (1, .int x1), (2, .int x2), (3, .int x3)] → va_P D vwCl ((Mw cy a) σ) H → va_S A s.heap H locs → l_X11_reaches_246 N k39 σ x1 x2 x3 = some z → W p l e ({ frames := 0, cells := 0, slots := 0, locals := 0 } : Room) s m args below meth c H locs 0 0 (nQv below D A (Mw cy a) args s z) (F0 m 246 ls []) := by
  exact kb_X11_reaches_246 (N := N)  C0 hE K39
def l_X11_reaches_39 (N : Nat) (k31 : nS → Int32 → Int32 → Option (Int32 × nS)) : nS → Int32 → Int32 → Int32 → Option (Int32 × nS) := nLp (fun _ _ _ _ => none) (fun again => b_X11_reaches_39 N k31 (l_X11_reaches_129 N (l_X11_reaches_246 N again)) (l_X11_reaches_246 N again)) N
theorem kl_X11_reaches_39 {p : Program} {l : Launch} {e : Env} {s : State} {m : MethodId} {args : Array Value} {below : List Frame} {meth : Method} {c : Code} {D : va_G} {A : Nat → Prop} {cy : Nat → ClassId} {a kt vt : Nat → Nat} {N : Nat}   (C0 : nCx p s m args meth c cX11_reaches 7 none RX11 wsX11_reaches) (hE : nEn D A cy (Mw cy a) kt vt s) {z : Int32 × nS} {k31 : nS → Int32 → Int32 → Option (Int32 × nS)} (K31 : ∀ (σ : nS) (x1 : Int32) (x2 : Int32) (H : Heap) (locs : List Loc) (ls : Array Slot), lv_has ls 7 [(0, .ref (a 0)), (1, .int x1), (2, .int x2)] → va_P D vwCl ((Mw cy a) σ) H → va_S A s.heap H locs → k31 σ x1 x2 = some z → W p l e ({ frames := 0, cells := 0, slots := 0, locals := 0 } : Room) s m args below meth c H locs 0 0 (nQv below D A (Mw cy a) args s z) (F0 m 31 ls [])) : ∀ (σ : nS) (x1 : Int32) (x2 : Int32) (x3 : Int32) (H : Heap) (locs : List Loc) (ls : Array Slot), lv_has ls 7 [(0, .ref (a 0)), (1, .int x1), (2, .int x2), (3, .int x3)] → va_P D vwCl ((Mw cy a) σ) H → va_S A s.heap H locs → l_X11_reaches_39 N k31 σ x1 x2 x3 = some z → W p l e ({ frames := 0, cells := 0, slots := 0, locals := 0 } : Room) s m args below meth c H locs 0 0 (nQv below D A (Mw cy a) args s z) (F0 m 39 ls []) := by
  have main : ∀ (fu : Nat), ∀ (σ : nS) (x1 : Int32) (x2 : Int32) (x3 : Int32) (H : Heap) (locs : List Loc) (ls : Array Slot), lv_has ls 7 [(0, .ref (a 0)), (1, .int x1), (2, .int x2), (3, .int x3)] → va_P D vwCl ((Mw cy a) σ) H → va_S A s.heap H locs → nLp (fun _ _ _ _ => none) (fun again => b_X11_reaches_39 N k31 (l_X11_reaches_129 N (l_X11_reaches_246 N again)) (l_X11_reaches_246 N again)) fu σ x1 x2 x3 = some z → W p l e ({ frames := 0, cells := 0, slots := 0, locals := 0 } : Room) s m args below meth c H locs 0 0 (nQv below D A (Mw cy a) args s z) (F0 m 39 ls []) := by
    intro fu
    induction fu with
    | zero => intro σ x1 x2 x3 H locs ls hl hP hS hf; cases hf
    | succ fu ih => exact kb_X11_reaches_39 (N := N)  C0 hE K31 (kl_X11_reaches_129 (N := N)  C0 hE (kl_X11_reaches_246 (N := N)  C0 hE ih)) (kl_X11_reaches_246 (N := N)  C0 hE ih)
  exact main N
def l_X11_reaches_22 (N : Nat) (k2 : nS → Int32 → Int32 → Option (Int32 × nS)) : nS → Int32 → Int32 → Int32 → Int32 → Option (Int32 × nS) := b_X11_reaches_22 N k2
theorem kl_X11_reaches_22 {p : Program} {l : Launch} {e : Env} {s : State} {m : MethodId} {args : Array Value} {below : List Frame} {meth : Method} {c : Code} {D : va_G} {A : Nat → Prop} {cy : Nat → ClassId} {a kt vt : Nat → Nat} {N : Nat}   (C0 : nCx p s m args meth c cX11_reaches 7 none RX11 wsX11_reaches) (hE : nEn D A cy (Mw cy a) kt vt s) {z : Int32 × nS} {k2 : nS → Int32 → Int32 → Option (Int32 × nS)} (K2 : ∀ (σ : nS) (x1 : Int32) (x2 : Int32) (H : Heap) (locs : List Loc) (ls : Array Slot), lv_has ls 7 [(0, .ref (a 0)), (1, .int x1), (2, .int x2)] → va_P D vwCl ((Mw cy a) σ) H → va_S A s.heap H locs → k2 σ x1 x2 = some z → W p l e ({ frames := 0, cells := 0, slots := 0, locals := 0 } : Room) s m args below meth c H locs 0 0 (nQv below D A (Mw cy a) args s z) (F0 m 2 ls [])) : ∀ (σ : nS) (x1 : Int32) (x2 : Int32) (y1 : Int32) (y2 : Int32) (H : Heap) (locs : List Loc) (ls : Array Slot), lv_has ls 7 [(0, .ref (a 0)), (1, .int x1), (2, .int x2)] → va_P D vwCl ((Mw cy a) σ) H → va_S A s.heap H locs → l_X11_reaches_22 N k2 σ x1 x2 y1 y2 = some z → W p l e ({ frames := 0, cells := 0, slots := 0, locals := 0 } : Room) s m args below meth c H locs 0 0 (nQv below D A (Mw cy a) args s z) (F0 m 22 ls [.int y2, .int y1, .ref (a 21)]) := by
  exact kb_X11_reaches_22 (N := N)  C0 hE K2
def l_X11_reaches_31 (N : Nat) : nS → Int32 → Int32 → Option (Int32 × nS) := nLp (fun _ _ _ => none) (fun again => b_X11_reaches_31 N (l_X11_reaches_39 N again)) N
theorem kl_X11_reaches_31 {p : Program} {l : Launch} {e : Env} {s : State} {m : MethodId} {args : Array Value} {below : List Frame} {meth : Method} {c : Code} {D : va_G} {A : Nat → Prop} {cy : Nat → ClassId} {a kt vt : Nat → Nat} {N : Nat}   (C0 : nCx p s m args meth c cX11_reaches 7 none RX11 wsX11_reaches) (hE : nEn D A cy (Mw cy a) kt vt s) {z : Int32 × nS} : ∀ (σ : nS) (x1 : Int32) (x2 : Int32) (H : Heap) (locs : List Loc) (ls : Array Slot), lv_has ls 7 [(0, .ref (a 0)), (1, .int x1), (2, .int x2)] → va_P D vwCl ((Mw cy a) σ) H → va_S A s.heap H locs → l_X11_reaches_31 N σ x1 x2 = some z → W p l e ({ frames := 0, cells := 0, slots := 0, locals := 0 } : Room) s m args below meth c H locs 0 0 (nQv below D A (Mw cy a) args s z) (F0 m 31 ls []) := by
  have main : ∀ (fu : Nat), ∀ (σ : nS) (x1 : Int32) (x2 : Int32) (H : Heap) (locs : List Loc) (ls : Array Slot), lv_has ls 7 [(0, .ref (a 0)), (1, .int x1), (2, .int x2)] → va_P D vwCl ((Mw cy a) σ) H → va_S A s.heap H locs → nLp (fun _ _ _ => none) (fun again => b_X11_reaches_31 N (l_X11_reaches_39 N again)) fu σ x1 x2 = some z → W p l e ({ frames := 0, cells := 0, slots := 0, locals := 0 } : Room) s m args below meth c H locs 0 0 (nQv below D A (Mw cy a) args s z) (F0 m 31 ls []) := by
    intro fu
    induction fu with
    | zero => intro σ x1 x2 H locs ls hl hP hS hf; cases hf
    | succ fu ih => exact kb_X11_reaches_31 (N := N)  C0 hE (kl_X11_reaches_39 (N := N)  C0 hE ih)
  exact main N
def l_X11_reaches_2 (N : Nat) : nS → Int32 → Int32 → Option (Int32 × nS) := nLp (fun _ _ _ => none) (fun again => b_X11_reaches_2 N (l_X11_reaches_22 N again) (l_X11_reaches_31 N)) N
theorem kl_X11_reaches_2 {p : Program} {l : Launch} {e : Env} {s : State} {m : MethodId} {args : Array Value} {below : List Frame} {meth : Method} {c : Code} {D : va_G} {A : Nat → Prop} {cy : Nat → ClassId} {a kt vt : Nat → Nat} {N : Nat}   (C0 : nCx p s m args meth c cX11_reaches 7 none RX11 wsX11_reaches) (hE : nEn D A cy (Mw cy a) kt vt s) {z : Int32 × nS} : ∀ (σ : nS) (x1 : Int32) (x2 : Int32) (H : Heap) (locs : List Loc) (ls : Array Slot), lv_has ls 7 [(0, .ref (a 0)), (1, .int x1), (2, .int x2)] → va_P D vwCl ((Mw cy a) σ) H → va_S A s.heap H locs → l_X11_reaches_2 N σ x1 x2 = some z → W p l e ({ frames := 0, cells := 0, slots := 0, locals := 0 } : Room) s m args below meth c H locs 0 0 (nQv below D A (Mw cy a) args s z) (F0 m 2 ls []) := by
  have main : ∀ (fu : Nat), ∀ (σ : nS) (x1 : Int32) (x2 : Int32) (H : Heap) (locs : List Loc) (ls : Array Slot), lv_has ls 7 [(0, .ref (a 0)), (1, .int x1), (2, .int x2)] → va_P D vwCl ((Mw cy a) σ) H → va_S A s.heap H locs → nLp (fun _ _ _ => none) (fun again => b_X11_reaches_2 N (l_X11_reaches_22 N again) (l_X11_reaches_31 N)) fu σ x1 x2 = some z → W p l e ({ frames := 0, cells := 0, slots := 0, locals := 0 } : Room) s m args below meth c H locs 0 0 (nQv below D A (Mw cy a) args s z) (F0 m 2 ls []) := by
    intro fu
    induction fu with
    | zero => intro σ x1 x2 H locs ls hl hP hS hf; cases hf
    | succ fu ih => exact kb_X11_reaches_2 (N := N)  C0 hE (kl_X11_reaches_22 (N := N)  C0 hE ih) (kl_X11_reaches_31 (N := N)  C0 hE)
  exact main N
def l_X11_reaches_0 (N : Nat) : nS → Int32 → Option (Int32 × nS) := b_X11_reaches_0 N (l_X11_reaches_2 N)
theorem kl_X11_reaches_0 {p : Program} {l : Launch} {e : Env} {s : State} {m : MethodId} {args : Array Value} {below : List Frame} {meth : Method} {c : Code} {D : va_G} {A : Nat → Prop} {cy : Nat → ClassId} {a kt vt : Nat → Nat} {N : Nat}   (C0 : nCx p s m args meth c cX11_reaches 7 none RX11 wsX11_reaches) (hE : nEn D A cy (Mw cy a) kt vt s) {z : Int32 × nS} : ∀ (σ : nS) (x1 : Int32) (H : Heap) (locs : List Loc) (ls : Array Slot), lv_has ls 7 [(0, .ref (a 0)), (1, .int x1)] → va_P D vwCl ((Mw cy a) σ) H → va_S A s.heap H locs → l_X11_reaches_0 N σ x1 = some z → W p l e ({ frames := 0, cells := 0, slots := 0, locals := 0 } : Room) s m args below meth c H locs 0 0 (nQv below D A (Mw cy a) args s z) (F0 m 0 ls []) := by
  exact kb_X11_reaches_0 (N := N)  C0 hE (kl_X11_reaches_2 (N := N)  C0 hE)
def f_X11_reaches (N : Nat) (x1 : Int32) (σ : nS) : Option (Int32 × nS) := l_X11_reaches_0 N σ x1
set_option maxHeartbeats 4000000 in
set_option maxRecDepth 100000 in
theorem c_X11_reaches {l : Launch} {D : va_G} {A : Nat → Prop} {cy : Nat → ClassId} {a kt vt : Nat → Nat} {N : Nat}   {x1 : Int32} {σ : nS} {r : Int32} {σ' : nS} (hf : f_X11_reaches N x1 σ = some (r, σ')) : nMv l yX11_reaches wsX11_reaches ({ frames := 0, cells := 0, slots := 0, locals := 0 } : Room) D A cy (Mw cy a) kt vt [.ref (a 0), .int x1] σ σ' := by
  refine Met.ofW (cc := cX11_reaches) (maxL := 7) (ret := none) (by decide) rfl ?_
  intro p e s m args below meth c s₁ B hml hv
  obtain ⟨rfl, hP, hE⟩ := hv
  have hl := lv_entry ([.ref (a 0), .int x1]) (n := 7) (Nat.le_of_ble_eq_true rfl)
  rw [lg_entry_eq]
  generalize (lg_sl ([.ref (a 0), .int x1]) ++ List.replicate (7 - (lg_sl ([.ref (a 0), .int x1])).length) Slot.unset).toArray = ls at hl ⊢
  have C0 : nCx p s m _ meth c cX11_reaches 7 none RX11 wsX11_reaches := ⟨B.exec, B.bytes, B.returns, hml, findClass_of_methodNamed B.named, atoms_spec (ws := wsX11_reaches) B.pre, B.notSynchronized⟩
  exact kl_X11_reaches_0 (N := N)  C0 hE (z := (r, σ')) σ x1 _ _ ls hl hP va_S.rf hf
/-! X11_idle -/
set_option maxRecDepth 20000 in
theorem iX11_idle_X11 : ∀ w ∈ u_ws RX11 TX11 68, w ∈ wsX11_idle := fun _ h => List.mem_cons_of_mem _ (List.mem_append_right _ h)
set_option maxRecDepth 20000 in
theorem qX11_idle_117 : Cond.fieldLink RX11 117 RX11 (TX11 0).2.1 (TX11 0).2.2.1 ∈ wsX11_idle := by decide +kernel
set_option maxRecDepth 20000 in
theorem qX11_idle_23 : Cond.fieldLink RX11 23 RX11 (TX11 11).2.1 (TX11 11).2.2.1 ∈ wsX11_idle := by decide +kernel
set_option maxRecDepth 20000 in
theorem qX11_idle_82 : Cond.fieldLink RX11 82 RX11 (TX11 54).2.1 (TX11 54).2.2.1 ∈ wsX11_idle := by decide +kernel
def b_X11_idle_49 (N : Nat) (k24 : nS → Int32 → Int32 → Int32 → Option (Int32 × nS)) (σ : nS) (x1 : Int32) (x3 : Int32) (y0 : Int32) (y1 : Int32) : Option (Int32 × nS) := nLet (y0 + y1 : Int32) (fun v1 => nLet (x3 + 1 : Int32) (fun v2 => k24 σ x1 v1 v2))
set_option maxHeartbeats 4000000 in
set_option maxRecDepth 100000 in
theorem kb_X11_idle_49 {p : Program} {l : Launch} {e : Env} {s : State} {m : MethodId} {args : Array Value} {below : List Frame} {meth : Method} {c : Code} {D : va_G} {A : Nat → Prop} {cy : Nat → ClassId} {a kt vt : Nat → Nat} {N : Nat}   (C0 : nCx p s m args meth c cX11_idle 4 (some .int) RX11 wsX11_idle) (hE : nEn D A cy (Mw cy a) kt vt s) {z : Int32 × nS} {k24 : nS → Int32 → Int32 → Int32 → Option (Int32 × nS)} (K24 : ∀ (σ : nS) (x1 : Int32) (x2 : Int32) (x3 : Int32) (H : Heap) (locs : List Loc) (ls : Array Slot), lv_has ls 4 [(0, .ref (a 0)), (1, .int x1), (2, .int x2), (3, .int x3)] → va_P D vwCl ((Mw cy a) σ) H → va_S A s.heap H locs → k24 σ x1 x2 x3 = some z → W p l e ({ frames := 1, cells := 0, slots := 0, locals := 26 } : Room) s m args below meth c H locs 0 0 (nQi below D A (Mw cy a) args s z) (F0 m 24 ls [])) : ∀ (σ : nS) (x1 : Int32) (x3 : Int32) (y0 : Int32) (y1 : Int32) (H : Heap) (locs : List Loc) (ls : Array Slot), lv_has ls 4 [(0, .ref (a 0)), (1, .int x1), (3, .int x3)] → va_P D vwCl ((Mw cy a) σ) H → va_S A s.heap H locs → b_X11_idle_49 N k24 σ x1 x3 y0 y1 = some z → W p l e ({ frames := 1, cells := 0, slots := 0, locals := 26 } : Room) s m args below meth c H locs 0 0 (nQi below D A (Mw cy a) args s z) (F0 m 49 ls [.int y1, .int y0]) := by
  obtain ⟨hx, hb, hr, hml, hown, hts, hlocks⟩ := C0
  intro σ x1 x3 y0 y1 H locs ls hl hP hS hf
  unfold b_X11_idle_49 at hf
  refine lv_iadd hx hb dX11_idle_49 ?_
  refine lv_topi (fun v1 ev1 => ?_)
  replace hf := nLet_e hf ev1
  refine lv_istore_n (lv' := [(2, .int v1), (0, .ref (a 0)), (1, .int x1), (3, .int x3)]) hx hb dX11_idle_50 rfl hl (by decide) rfl (fun ls hl => ?_)
  obtain ⟨v2, ev2⟩ : ∃ y : Int32, y = x3 + 1 := ⟨_, rfl⟩
  replace hf := nLet_e hf ev2
  refine lv_iinc (v := v2) (lv' := [(3, .int v2), (2, .int v1), (0, .ref (a 0)), (1, .int x1)]) hx hb dX11_idle_51 hl (k := 3) rfl (by rw [ev2]; rfl) (by decide) rfl (fun ls hl => ?_)
  refine lv_goto (tgt := 24) hx hb dX11_idle_54 (by decide) ?_
  exact K24 σ x1 v1 v2 H locs ls (lv_sub hl [2, 3, 1, 0] rfl) hP hS hf
def b_X11_idle_24 (N : Nat) (k49 : nS → Int32 → Int32 → Int32 → Int32 → Option (Int32 × nS)) (σ : nS) (x1 : Int32) (x2 : Int32) (x3 : Int32) : Option (Int32 × nS) := nIx x1 5 (nLet (σ.1 3 (x1).toNatClampNeg) (fun v1 => (if v1 ≤ x3 then some (x2, σ) else nIx x3 24 (nLet (σ.1 21 (x3).toNatClampNeg) (fun v2 => (if v2 = 0 then k49 σ x1 x3 x2 1 else k49 σ x1 x3 x2 0))))))
set_option maxHeartbeats 4000000 in
set_option maxRecDepth 100000 in
theorem kb_X11_idle_24 {p : Program} {l : Launch} {e : Env} {s : State} {m : MethodId} {args : Array Value} {below : List Frame} {meth : Method} {c : Code} {D : va_G} {A : Nat → Prop} {cy : Nat → ClassId} {a kt vt : Nat → Nat} {N : Nat}   (C0 : nCx p s m args meth c cX11_idle 4 (some .int) RX11 wsX11_idle) (hE : nEn D A cy (Mw cy a) kt vt s) {z : Int32 × nS} {k49 : nS → Int32 → Int32 → Int32 → Int32 → Option (Int32 × nS)} (K49 : ∀ (σ : nS) (x1 : Int32) (x3 : Int32) (y0 : Int32) (y1 : Int32) (H : Heap) (locs : List Loc) (ls : Array Slot), lv_has ls 4 [(0, .ref (a 0)), (1, .int x1), (3, .int x3)] → va_P D vwCl ((Mw cy a) σ) H → va_S A s.heap H locs → k49 σ x1 x3 y0 y1 = some z → W p l e ({ frames := 1, cells := 0, slots := 0, locals := 26 } : Room) s m args below meth c H locs 0 0 (nQi below D A (Mw cy a) args s z) (F0 m 49 ls [.int y1, .int y0])) : ∀ (σ : nS) (x1 : Int32) (x2 : Int32) (x3 : Int32) (H : Heap) (locs : List Loc) (ls : Array Slot), lv_has ls 4 [(0, .ref (a 0)), (1, .int x1), (2, .int x2), (3, .int x3)] → va_P D vwCl ((Mw cy a) σ) H → va_S A s.heap H locs → b_X11_idle_24 N k49 σ x1 x2 x3 = some z → W p l e ({ frames := 1, cells := 0, slots := 0, locals := 26 } : Room) s m args below meth c H locs 0 0 (nQi below D A (Mw cy a) args s z) (F0 m 24 ls []) := by
  obtain ⟨hx, hb, hr, hml, hown, hts, hlocks⟩ := C0
  intro σ x1 x2 x3 H locs ls hl hP hS hf
  unfold b_X11_idle_24 at hf
  refine lv_iload_n hx hb dX11_idle_24 rfl (lv_at hl 3 rfl) ?_
  refine lv_aload_n hx hb dX11_idle_25 rfl (lv_at hl 0 rfl) ?_
  refine nb_get (ci := 11) hx hb hts iX11_idle_X11 hown hE hP 0 mbo_0 rfl 11 (by decide) qX11_idle_23 rfl rfl dX11_idle_26 ?_
  refine lv_iload_n hx hb dX11_idle_29 rfl (lv_at hl 1 rfl) ?_
  obtain ⟨hin, hf⟩ := nIx_e hf
  refine na_iald hx hb hE hP mbr_3 hin dX11_idle_30 ?_
  refine lv_topi (fun v1 ev1 => ?_)
  replace hf := nLet_e hf ev1
  refine lv_icmp_ge (tgt := 57) hx hb dX11_idle_31 (by decide) (fun hc => ?_) (fun hc => ?_)
  · replace hf := nIf_t hc hf
    refine lv_iload_n hx hb dX11_idle_57 rfl (lv_at hl 2 rfl) ?_
    exact nb_iret hx hb hr hlocks hP hS (nSo hf) dX11_idle_58
  · replace hf := nIf_f hc hf
    refine lv_iload_n hx hb dX11_idle_34 rfl (lv_at hl 2 rfl) ?_
    refine lv_aload_n hx hb dX11_idle_35 rfl (lv_at hl 0 rfl) ?_
    refine nb_get (ci := 11) hx hb hts iX11_idle_X11 hown hE hP 0 mbo_0 rfl 54 (by decide) qX11_idle_82 rfl rfl dX11_idle_36 ?_
    refine lv_iload_n hx hb dX11_idle_39 rfl (lv_at hl 3 rfl) ?_
    obtain ⟨hin, hf⟩ := nIx_e hf
    refine na_zald hx hb hE hP mbr_21 hin dX11_idle_40 ?_
    refine lv_topi (fun v2 ev2 => ?_)
    replace hf := nLet_e hf ev2
    refine lv_if_eq (tgt := 48) hx hb dX11_idle_41 (by decide) (fun hc => ?_) (fun hc => ?_)
    · replace hf := nIf_t hc hf
      refine lv_iconst (v := 1) hx hb dX11_idle_48 (by decide) ?_
      exact K49 σ x1 x3 x2 1 H locs ls (lv_sub hl [0, 1, 3] rfl) hP hS hf
    · replace hf := nIf_f hc hf
      refine lv_iconst (v := 0) hx hb dX11_idle_44 (by decide) ?_
      refine lv_goto (tgt := 49) hx hb dX11_idle_45 (by decide) ?_
      exact K49 σ x1 x3 x2 0 H locs ls (lv_sub hl [0, 1, 3] rfl) hP hS hf
def b_X11_idle_0 (N : Nat) (k24 : nS → Int32 → Int32 → Int32 → Option (Int32 × nS)) (σ : nS) (x1 : Int32) : Option (Int32 × nS) := nLet (wr σ 0 0 0) (fun σ1 => nBd (f_X11_isBook N x1 σ1) (fun r2 σ3 => (if r2 = 0 then some ((-1), σ3) else nBd (f_X11_reaches N x1 σ3) (fun r4 σ5 => k24 σ5 x1 0 0))))
set_option maxHeartbeats 4000000 in
set_option maxRecDepth 100000 in
theorem kb_X11_idle_0 {p : Program} {l : Launch} {e : Env} {s : State} {m : MethodId} {args : Array Value} {below : List Frame} {meth : Method} {c : Code} {D : va_G} {A : Nat → Prop} {cy : Nat → ClassId} {a kt vt : Nat → Nat} {N : Nat}   (C0 : nCx p s m args meth c cX11_idle 4 (some .int) RX11 wsX11_idle) (hE : nEn D A cy (Mw cy a) kt vt s) {z : Int32 × nS} {k24 : nS → Int32 → Int32 → Int32 → Option (Int32 × nS)} (K24 : ∀ (σ : nS) (x1 : Int32) (x2 : Int32) (x3 : Int32) (H : Heap) (locs : List Loc) (ls : Array Slot), lv_has ls 4 [(0, .ref (a 0)), (1, .int x1), (2, .int x2), (3, .int x3)] → va_P D vwCl ((Mw cy a) σ) H → va_S A s.heap H locs → k24 σ x1 x2 x3 = some z → W p l e ({ frames := 1, cells := 0, slots := 0, locals := 26 } : Room) s m args below meth c H locs 0 0 (nQi below D A (Mw cy a) args s z) (F0 m 24 ls [])) : ∀ (σ : nS) (x1 : Int32) (H : Heap) (locs : List Loc) (ls : Array Slot), lv_has ls 4 [(0, .ref (a 0)), (1, .int x1)] → va_P D vwCl ((Mw cy a) σ) H → va_S A s.heap H locs → b_X11_idle_0 N k24 σ x1 = some z → W p l e ({ frames := 1, cells := 0, slots := 0, locals := 26 } : Room) s m args below meth c H locs 0 0 (nQi below D A (Mw cy a) args s z) (F0 m 0 ls []) := by
  obtain ⟨hx, hb, hr, hml, hown, hts, hlocks⟩ := C0
  intro σ x1 H locs ls hl hP hS hf
  unfold b_X11_idle_0 at hf
  refine lv_aload_n hx hb dX11_idle_0 rfl (lv_at hl 0 rfl) ?_
  refine lv_iconst (v := 0) hx hb dX11_idle_1 (by decide) ?_
  refine nb_put (ci := 11) hx hb hts iX11_idle_X11 tyX11 tyX11_ok nmX11 hown hE hP hS 0 mbo_0 rfl 0 (by decide) qX11_idle_117 rfl rfl rfl rfl (Nat.le_of_ble_eq_true rfl) dX11_idle_2 (mbp_0_0 _) (fun σ1 eσ1 H locs hP hS => ?_)
  replace hf := nLet_e hf eσ1
  refine lv_aload_n hx hb dX11_idle_5 rfl (lv_at hl 0 rfl) ?_
  refine lv_iload_n hx hb dX11_idle_6 rfl (lv_at hl 1 rfl) ?_
  obtain ⟨r2, σ3, hc3, hf⟩ := nBd_e hf
  refine nb_callVi (As := [.int x1]) (rest := []) ⟨hx, hb, hml, hown, hts⟩ (c_X11_isBook (D := D) (A := A) (cy := cy) (a := a) (kt := kt) (vt := vt) (l := l)  hc3) (cwV 1 hts gX11_idle_X11_isBook rfl rfl rfl (by decide +kernel) ⟨Nat.le_of_ble_eq_true rfl, Nat.le_of_ble_eq_true rfl⟩) hE hP hS mbo_0 rfl rfl hl.1 rfl (Nat.le_of_ble_eq_true rfl) dX11_idle_7 (fun H locs hP hS => ?_)
  refine lv_if_ne (tgt := 15) hx hb dX11_idle_10 (by decide) (fun hc => ?_) (fun hc => ?_)
  · replace hf := nIf_f hc hf
    refine lv_aload_n hx hb dX11_idle_15 rfl (lv_at hl 0 rfl) ?_
    refine lv_iload_n hx hb dX11_idle_16 rfl (lv_at hl 1 rfl) ?_
    obtain ⟨r4, σ5, hc5, hf⟩ := nBd_e hf
    refine nb_callVv (As := [.int x1]) (rest := []) ⟨hx, hb, hml, hown, hts⟩ (c_X11_reaches (D := D) (A := A) (cy := cy) (a := a) (kt := kt) (vt := vt) (l := l)  hc5) (cwV 1 hts gX11_idle_X11_reaches rfl rfl rfl (by decide +kernel) ⟨Nat.le_of_ble_eq_true rfl, Nat.le_of_ble_eq_true rfl⟩) hE hP hS mbo_0 rfl rfl hl.1 rfl (Nat.le_of_ble_eq_true rfl) dX11_idle_17 (fun H locs hP hS => ?_)
    refine lv_iconst (v := 0) hx hb dX11_idle_20 (by decide) ?_
    refine lv_istore_n (lv' := [(2, .int 0), (0, .ref (a 0)), (1, .int x1)]) hx hb dX11_idle_21 rfl hl (by decide) rfl (fun ls hl => ?_)
    refine lv_iconst (v := 0) hx hb dX11_idle_22 (by decide) ?_
    refine lv_istore_n (lv' := [(3, .int 0), (2, .int 0), (0, .ref (a 0)), (1, .int x1)]) hx hb dX11_idle_23 rfl hl (by decide) rfl (fun ls hl => ?_)
    exact K24 σ5 x1 0 0 H locs ls (lv_sub hl [2, 3, 1, 0] rfl) hP hS hf
  · replace hf := nIf_t hc hf
    refine lv_iconst (v := (-1)) hx hb dX11_idle_13 (by decide) ?_
    exact nb_iret hx hb hr hlocks hP hS (nSo hf) dX11_idle_14
def l_X11_idle_49 (N : Nat) (k24 : nS → Int32 → Int32 → Int32 → Option (Int32 × nS)) : nS → Int32 → Int32 → Int32 → Int32 → Option (Int32 × nS) := b_X11_idle_49 N k24
theorem kl_X11_idle_49 {p : Program} {l : Launch} {e : Env} {s : State} {m : MethodId} {args : Array Value} {below : List Frame} {meth : Method} {c : Code} {D : va_G} {A : Nat → Prop} {cy : Nat → ClassId} {a kt vt : Nat → Nat} {N : Nat}   (C0 : nCx p s m args meth c cX11_idle 4 (some .int) RX11 wsX11_idle) (hE : nEn D A cy (Mw cy a) kt vt s) {z : Int32 × nS} {k24 : nS → Int32 → Int32 → Int32 → Option (Int32 × nS)} (K24 : ∀ (σ : nS) (x1 : Int32) (x2 : Int32) (x3 : Int32) (H : Heap) (locs : List Loc) (ls : Array Slot), lv_has ls 4 [(0, .ref (a 0)), (1, .int x1), (2, .int x2), (3, .int x3)] → va_P D vwCl ((Mw cy a) σ) H → va_S A s.heap H locs → k24 σ x1 x2 x3 = some z → W p l e ({ frames := 1, cells := 0, slots := 0, locals := 26 } : Room) s m args below meth c H locs 0 0 (nQi below D A (Mw cy a) args s z) (F0 m 24 ls [])) : ∀ (σ : nS) (x1 : Int32) (x3 : Int32) (y0 : Int32) (y1 : Int32) (H : Heap) (locs : List Loc) (ls : Array Slot), lv_has ls 4 [(0, .ref (a 0)), (1, .int x1), (3, .int x3)] → va_P D vwCl ((Mw cy a) σ) H → va_S A s.heap H locs → l_X11_idle_49 N k24 σ x1 x3 y0 y1 = some z → W p l e ({ frames := 1, cells := 0, slots := 0, locals := 26 } : Room) s m args below meth c H locs 0 0 (nQi below D A (Mw cy a) args s z) (F0 m 49 ls [.int y1, .int y0]) := by
  exact kb_X11_idle_49 (N := N)  C0 hE K24
def l_X11_idle_24 (N : Nat) : nS → Int32 → Int32 → Int32 → Option (Int32 × nS) := nLp (fun _ _ _ _ => none) (fun again => b_X11_idle_24 N (l_X11_idle_49 N again)) N
theorem kl_X11_idle_24 {p : Program} {l : Launch} {e : Env} {s : State} {m : MethodId} {args : Array Value} {below : List Frame} {meth : Method} {c : Code} {D : va_G} {A : Nat → Prop} {cy : Nat → ClassId} {a kt vt : Nat → Nat} {N : Nat}   (C0 : nCx p s m args meth c cX11_idle 4 (some .int) RX11 wsX11_idle) (hE : nEn D A cy (Mw cy a) kt vt s) {z : Int32 × nS} : ∀ (σ : nS) (x1 : Int32) (x2 : Int32) (x3 : Int32) (H : Heap) (locs : List Loc) (ls : Array Slot), lv_has ls 4 [(0, .ref (a 0)), (1, .int x1), (2, .int x2), (3, .int x3)] → va_P D vwCl ((Mw cy a) σ) H → va_S A s.heap H locs → l_X11_idle_24 N σ x1 x2 x3 = some z → W p l e ({ frames := 1, cells := 0, slots := 0, locals := 26 } : Room) s m args below meth c H locs 0 0 (nQi below D A (Mw cy a) args s z) (F0 m 24 ls []) := by
  have main : ∀ (fu : Nat), ∀ (σ : nS) (x1 : Int32) (x2 : Int32) (x3 : Int32) (H : Heap) (locs : List Loc) (ls : Array Slot), lv_has ls 4 [(0, .ref (a 0)), (1, .int x1), (2, .int x2), (3, .int x3)] → va_P D vwCl ((Mw cy a) σ) H → va_S A s.heap H locs → nLp (fun _ _ _ _ => none) (fun again => b_X11_idle_24 N (l_X11_idle_49 N again)) fu σ x1 x2 x3 = some z → W p l e ({ frames := 1, cells := 0, slots := 0, locals := 26 } : Room) s m args below meth c H locs 0 0 (nQi below D A (Mw cy a) args s z) (F0 m 24 ls []) := by
    intro fu
    induction fu with
    | zero => intro σ x1 x2 x3 H locs ls hl hP hS hf; cases hf
    | succ fu ih => exact kb_X11_idle_24 (N := N)  C0 hE (kl_X11_idle_49 (N := N)  C0 hE ih)
  exact main N
def l_X11_idle_0 (N : Nat) : nS → Int32 → Option (Int32 × nS) := b_X11_idle_0 N (l_X11_idle_24 N)
theorem kl_X11_idle_0 {p : Program} {l : Launch} {e : Env} {s : State} {m : MethodId} {args : Array Value} {below : List Frame} {meth : Method} {c : Code} {D : va_G} {A : Nat → Prop} {cy : Nat → ClassId} {a kt vt : Nat → Nat} {N : Nat}   (C0 : nCx p s m args meth c cX11_idle 4 (some .int) RX11 wsX11_idle) (hE : nEn D A cy (Mw cy a) kt vt s) {z : Int32 × nS} : ∀ (σ : nS) (x1 : Int32) (H : Heap) (locs : List Loc) (ls : Array Slot), lv_has ls 4 [(0, .ref (a 0)), (1, .int x1)] → va_P D vwCl ((Mw cy a) σ) H → va_S A s.heap H locs → l_X11_idle_0 N σ x1 = some z → W p l e ({ frames := 1, cells := 0, slots := 0, locals := 26 } : Room) s m args below meth c H locs 0 0 (nQi below D A (Mw cy a) args s z) (F0 m 0 ls []) := by
  exact kb_X11_idle_0 (N := N)  C0 hE (kl_X11_idle_24 (N := N)  C0 hE)
def f_X11_idle (N : Nat) (x1 : Int32) (σ : nS) : Option (Int32 × nS) := l_X11_idle_0 N σ x1
set_option maxHeartbeats 4000000 in
set_option maxRecDepth 100000 in
theorem c_X11_idle {l : Launch} {D : va_G} {A : Nat → Prop} {cy : Nat → ClassId} {a kt vt : Nat → Nat} {N : Nat}   {x1 : Int32} {σ : nS} {r : Int32} {σ' : nS} (hf : f_X11_idle N x1 σ = some (r, σ')) : nMi l yX11_idle wsX11_idle ({ frames := 1, cells := 0, slots := 0, locals := 26 } : Room) D A cy (Mw cy a) kt vt [.ref (a 0), .int x1] σ r σ' := by
  refine Met.ofW (cc := cX11_idle) (maxL := 4) (ret := (some .int)) (by decide) rfl ?_
  intro p e s m args below meth c s₁ B hml hv
  obtain ⟨rfl, hP, hE⟩ := hv
  have hl := lv_entry ([.ref (a 0), .int x1]) (n := 4) (Nat.le_of_ble_eq_true rfl)
  rw [lg_entry_eq]
  generalize (lg_sl ([.ref (a 0), .int x1]) ++ List.replicate (4 - (lg_sl ([.ref (a 0), .int x1])).length) Slot.unset).toArray = ls at hl ⊢
  have C0 : nCx p s m _ meth c cX11_idle 4 (some .int) RX11 wsX11_idle := ⟨B.exec, B.bytes, B.returns, hml, findClass_of_methodNamed B.named, atoms_spec (ws := wsX11_idle) B.pre, B.notSynchronized⟩
  exact kl_X11_idle_0 (N := N)  C0 hE (z := (r, σ')) σ x1 _ _ ls hl hP va_S.rf hf
