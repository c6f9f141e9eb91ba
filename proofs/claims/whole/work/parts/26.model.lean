/-! X11_laid -/
set_option maxRecDepth 20000 in
theorem iX11_laid_X11 : ∀ w ∈ u_ws RX11 TX11 68, w ∈ wsX11_laid := fun _ h => List.mem_cons_of_mem _ (List.mem_append_right _ h)
set_option maxRecDepth 20000 in
theorem qX11_laid_117 : Cond.fieldLink RX11 117 RX11 (TX11 0).2.1 (TX11 0).2.2.1 ∈ wsX11_laid := by decide +kernel
set_option maxRecDepth 20000 in
theorem qX11_laid_298 : Cond.fieldLink RX11 298 RX11 (TX11 37).2.1 (TX11 37).2.2.1 ∈ wsX11_laid := by decide +kernel
set_option maxRecDepth 20000 in
theorem qX11_laid_305 : Cond.fieldLink RX11 305 RX11 (TX11 40).2.1 (TX11 40).2.2.1 ∈ wsX11_laid := by decide +kernel
set_option maxRecDepth 20000 in
theorem qX11_laid_420 : Cond.fieldLink RX11 420 RX11 (TX11 65).2.1 (TX11 65).2.2.1 ∈ wsX11_laid := by decide +kernel
set_option maxRecDepth 20000 in
theorem qX11_laid_105 : Cond.fieldLink RX11 105 RX11 (TX11 63).2.1 (TX11 63).2.2.1 ∈ wsX11_laid := by decide +kernel
set_option maxRecDepth 20000 in
theorem qX11_laid_111 : Cond.fieldLink RX11 111 RX11 (TX11 66).2.1 (TX11 66).2.2.1 ∈ wsX11_laid := by decide +kernel
set_option maxRecDepth 20000 in
theorem qX11_laid_114 : Cond.fieldLink RX11 114 RX11 (TX11 67).2.1 (TX11 67).2.2.1 ∈ wsX11_laid := by decide +kernel
set_option maxRecDepth 20000 in
theorem qX11_laid_108 : Cond.fieldLink RX11 108 RX11 (TX11 64).2.1 (TX11 64).2.2.1 ∈ wsX11_laid := by decide +kernel
set_option maxRecDepth 20000 in
theorem qX11_laid_102 : Cond.fieldLink RX11 102 RX11 (TX11 62).2.1 (TX11 62).2.2.1 ∈ wsX11_laid := by decide +kernel
set_option maxRecDepth 20000 in
theorem qX11_laid_64 : Cond.fieldLink RX11 64 RX11 (TX11 43).2.1 (TX11 43).2.2.1 ∈ wsX11_laid := by decide +kernel
def b_X11_laid_128 (N : Nat) (k68 : nS → Int32 → Int32 → Int32 → Option (Int32 × nS)) (σ : nS) (x1 : Int32) (x2 : Int32) (x3 : Int32) (y1 : Int32) (y2 : Int32) : Option (Int32 × nS) := nIx y1 201 (nLet (wr σ 28 (y1).toNatClampNeg y2) (fun σ1 => nLet (x3 + 1 : Int32) (fun v2 => k68 σ1 x1 x2 v2)))
set_option maxHeartbeats 4000000 in
set_option maxRecDepth 100000 in
theorem kb_X11_laid_128 {p : Program} {l : Launch} {e : Env} {s : State} {m : MethodId} {args : Array Value} {below : List Frame} {meth : Method} {c : Code} {D : va_G} {A : Nat → Prop} {cy : Nat → ClassId} {a kt vt : Nat → Nat} {N : Nat}   (C0 : nCx p s m args meth c cX11_laid 4 (some .int) RX11 wsX11_laid) (hE : nEn D A cy (Mw cy a) kt vt s) {z : Int32 × nS} {k68 : nS → Int32 → Int32 → Int32 → Option (Int32 × nS)} (K68 : ∀ (σ : nS) (x1 : Int32) (x2 : Int32) (x3 : Int32) (H : Heap) (locs : List Loc) (ls : Array Slot), lv_has ls 4 [(0, .ref (a 0)), (1, .int x1), (2, .int x2), (3, .int x3)] → va_P D vwCl ((Mw cy a) σ) H → va_S A s.heap H locs → k68 σ x1 x2 x3 = some z → W p l e ({ frames := 1, cells := 0, slots := 0, locals := 21 } : Room) s m args below meth c H locs 0 0 (nQi below D A (Mw cy a) args s z) (F0 m 68 ls [])) : ∀ (σ : nS) (x1 : Int32) (x2 : Int32) (x3 : Int32) (y1 : Int32) (y2 : Int32) (H : Heap) (locs : List Loc) (ls : Array Slot), lv_has ls 4 [(0, .ref (a 0)), (1, .int x1), (2, .int x2), (3, .int x3)] → va_P D vwCl ((Mw cy a) σ) H → va_S A s.heap H locs → b_X11_laid_128 N k68 σ x1 x2 x3 y1 y2 = some z → W p l e ({ frames := 1, cells := 0, slots := 0, locals := 21 } : Room) s m args below meth c H locs 0 0 (nQi below D A (Mw cy a) args s z) (F0 m 128 ls [.int y2, .int y1, .ref (a 28)]) := by
  obtain ⟨hx, hb, hr, hml, hown, hts, hlocks⟩ := C0
  intro σ x1 x2 x3 y1 y2 H locs ls hl hP hS hf
  unfold b_X11_laid_128 at hf
  obtain ⟨hin, hf⟩ := nIx_e hf
  refine na_iast hx hb hE hP hS mbr_28 hin dX11_laid_128 (fun σ1 eσ1 H locs hP hS => ?_)
  replace hf := nLet_e hf eσ1
  obtain ⟨v2, ev2⟩ : ∃ y : Int32, y = x3 + 1 := ⟨_, rfl⟩
  replace hf := nLet_e hf ev2
  refine lv_iinc (v := v2) (lv' := [(3, .int v2), (0, .ref (a 0)), (1, .int x1), (2, .int x2)]) hx hb dX11_laid_129 hl (k := 3) rfl (by rw [ev2]; rfl) (by decide) rfl (fun ls hl => ?_)
  refine lv_goto (tgt := 68) hx hb dX11_laid_132 (by decide) ?_
  exact K68 σ1 x1 x2 v2 H locs ls (lv_sub hl [1, 2, 3, 0] rfl) hP hS hf
def b_X11_laid_137 (N : Nat) (k54 : nS → Int32 → Int32 → Option (Int32 × nS)) (k137 : nS → Int32 → Int32 → Int32 → Option (Int32 × nS)) (σ : nS) (x1 : Int32) (x2 : Int32) (x3 : Int32) : Option (Int32 × nS) := (if (σ.1 0 65) < x3 then nLet (x2 + 1 : Int32) (fun v1 => k54 σ x1 v1) else nIx x3 201 (nLet (σ.1 28 (x3).toNatClampNeg) (fun v2 => nIx x3 201 (nLet (wr σ 27 (x3).toNatClampNeg v2) (fun σ3 => nLet (x3 + 1 : Int32) (fun v4 => k137 σ3 x1 x2 v4))))))
set_option maxHeartbeats 4000000 in
set_option maxRecDepth 100000 in
theorem kb_X11_laid_137 {p : Program} {l : Launch} {e : Env} {s : State} {m : MethodId} {args : Array Value} {below : List Frame} {meth : Method} {c : Code} {D : va_G} {A : Nat → Prop} {cy : Nat → ClassId} {a kt vt : Nat → Nat} {N : Nat}   (C0 : nCx p s m args meth c cX11_laid 4 (some .int) RX11 wsX11_laid) (hE : nEn D A cy (Mw cy a) kt vt s) {z : Int32 × nS} {k54 : nS → Int32 → Int32 → Option (Int32 × nS)} (K54 : ∀ (σ : nS) (x1 : Int32) (x2 : Int32) (H : Heap) (locs : List Loc) (ls : Array Slot), lv_has ls 4 [(0, .ref (a 0)), (1, .int x1), (2, .int x2)] → va_P D vwCl ((Mw cy a) σ) H → va_S A s.heap H locs → k54 σ x1 x2 = some z → W p l e ({ frames := 1, cells := 0, slots := 0, locals := 21 } : Room) s m args below meth c H locs 0 0 (nQi below D A (Mw cy a) args s z) (F0 m 54 ls [])) {k137 : nS → Int32 → Int32 → Int32 → Option (Int32 × nS)} (K137 : ∀ (σ : nS) (x1 : Int32) (x2 : Int32) (x3 : Int32) (H : Heap) (locs : List Loc) (ls : Array Slot), lv_has ls 4 [(0, .ref (a 0)), (1, .int x1), (2, .int x2), (3, .int x3)] → va_P D vwCl ((Mw cy a) σ) H → va_S A s.heap H locs → k137 σ x1 x2 x3 = some z → W p l e ({ frames := 1, cells := 0, slots := 0, locals := 21 } : Room) s m args below meth c H locs 0 0 (nQi below D A (Mw cy a) args s z) (F0 m 137 ls [])) : ∀ (σ : nS) (x1 : Int32) (x2 : Int32) (x3 : Int32) (H : Heap) (locs : List Loc) (ls : Array Slot), lv_has ls 4 [(0, .ref (a 0)), (1, .int x1), (2, .int x2), (3, .int x3)] → va_P D vwCl ((Mw cy a) σ) H → va_S A s.heap H locs → b_X11_laid_137 N k54 k137 σ x1 x2 x3 = some z → W p l e ({ frames := 1, cells := 0, slots := 0, locals := 21 } : Room) s m args below meth c H locs 0 0 (nQi below D A (Mw cy a) args s z) (F0 m 137 ls []) := by
  obtain ⟨hx, hb, hr, hml, hown, hts, hlocks⟩ := C0
  intro σ x1 x2 x3 H locs ls hl hP hS hf
  unfold b_X11_laid_137 at hf
  refine lv_iload_n hx hb dX11_laid_137 rfl (lv_at hl 3 rfl) ?_
  refine lv_aload_n hx hb dX11_laid_138 rfl (lv_at hl 0 rfl) ?_
  refine nb_get (ci := 11) hx hb hts iX11_laid_X11 hown hE hP 0 mbo_0 rfl 65 (by decide) qX11_laid_420 rfl rfl dX11_laid_139 ?_
  refine lv_icmp_gt (tgt := 163) hx hb dX11_laid_142 (by decide) (fun hc => ?_) (fun hc => ?_)
  · replace hf := nIf_t hc hf
    obtain ⟨v1, ev1⟩ : ∃ y : Int32, y = x2 + 1 := ⟨_, rfl⟩
    replace hf := nLet_e hf ev1
    refine lv_iinc (v := v1) (lv' := [(2, .int v1), (0, .ref (a 0)), (1, .int x1), (3, .int x3)]) hx hb dX11_laid_163 hl (k := 2) rfl (by rw [ev1]; rfl) (by decide) rfl (fun ls hl => ?_)
    refine lv_goto (tgt := 54) hx hb dX11_laid_166 (by decide) ?_
    exact K54 σ x1 v1 H locs ls (lv_sub hl [1, 2, 0] rfl) hP hS hf
  · replace hf := nIf_f hc hf
    refine lv_aload_n hx hb dX11_laid_145 rfl (lv_at hl 0 rfl) ?_
    refine nb_get (ci := 11) hx hb hts iX11_laid_X11 hown hE hP 0 mbo_0 rfl 63 (by decide) qX11_laid_105 rfl rfl dX11_laid_146 ?_
    refine lv_iload_n hx hb dX11_laid_149 rfl (lv_at hl 3 rfl) ?_
    refine lv_aload_n hx hb dX11_laid_150 rfl (lv_at hl 0 rfl) ?_
    refine nb_get (ci := 11) hx hb hts iX11_laid_X11 hown hE hP 0 mbo_0 rfl 64 (by decide) qX11_laid_108 rfl rfl dX11_laid_151 ?_
    refine lv_iload_n hx hb dX11_laid_154 rfl (lv_at hl 3 rfl) ?_
    obtain ⟨hin, hf⟩ := nIx_e hf
    refine na_iald hx hb hE hP mbr_28 hin dX11_laid_155 ?_
    refine lv_topi (fun v2 ev2 => ?_)
    replace hf := nLet_e hf ev2
    obtain ⟨hin, hf⟩ := nIx_e hf
    refine na_iast hx hb hE hP hS mbr_27 hin dX11_laid_156 (fun σ3 eσ3 H locs hP hS => ?_)
    replace hf := nLet_e hf eσ3
    obtain ⟨v4, ev4⟩ : ∃ y : Int32, y = x3 + 1 := ⟨_, rfl⟩
    replace hf := nLet_e hf ev4
    refine lv_iinc (v := v4) (lv' := [(3, .int v4), (0, .ref (a 0)), (1, .int x1), (2, .int x2)]) hx hb dX11_laid_157 hl (k := 3) rfl (by rw [ev4]; rfl) (by decide) rfl (fun ls hl => ?_)
    refine lv_goto (tgt := 137) hx hb dX11_laid_160 (by decide) ?_
    exact K137 σ3 x1 x2 v4 H locs ls (lv_sub hl [1, 2, 3, 0] rfl) hP hS hf
def b_X11_laid_68 (N : Nat) (k128 : nS → Int32 → Int32 → Int32 → Int32 → Int32 → Option (Int32 × nS)) (k137 : nS → Int32 → Int32 → Int32 → Option (Int32 × nS)) (σ : nS) (x1 : Int32) (x2 : Int32) (x3 : Int32) : Option (Int32 × nS) := (if (σ.1 0 65) < x3 then k137 σ x1 x2 0 else nLet (x3 - (1 : Int32) : Int32) (fun v1 => nIx v1 200 (nLet (σ.1 26 (v1).toNatClampNeg) (fun v2 => nIx x2 2000 (nLet (σ.1 15 (x2).toNatClampNeg) (fun v3 => (if v2 = v3 then nLet (x3 - (1 : Int32) : Int32) (fun v8 => nIx v8 201 (nLet (σ.1 27 (v8).toNatClampNeg) (fun v9 => nLet (v9 + (1 : Int32) : Int32) (fun v10 => k128 σ x1 x2 x3 x3 v10)))) else nIx x3 201 (nLet (σ.1 27 (x3).toNatClampNeg) (fun v4 => nLet (x3 - (1 : Int32) : Int32) (fun v5 => nIx v5 201 (nLet (σ.1 28 (v5).toNatClampNeg) (fun v6 => nLet (if v4 < v6 then v6 else v4) (fun v7 => k128 σ x1 x2 x3 x3 v7)))))))))))))
set_option maxHeartbeats 4000000 in
set_option maxRecDepth 100000 in
theorem kb_X11_laid_68 {p : Program} {l : Launch} {e : Env} {s : State} {m : MethodId} {args : Array Value} {below : List Frame} {meth : Method} {c : Code} {D : va_G} {A : Nat → Prop} {cy : Nat → ClassId} {a kt vt : Nat → Nat} {N : Nat}   (C0 : nCx p s m args meth c cX11_laid 4 (some .int) RX11 wsX11_laid) (hE : nEn D A cy (Mw cy a) kt vt s) {z : Int32 × nS} {k128 : nS → Int32 → Int32 → Int32 → Int32 → Int32 → Option (Int32 × nS)} (K128 : ∀ (σ : nS) (x1 : Int32) (x2 : Int32) (x3 : Int32) (y1 : Int32) (y2 : Int32) (H : Heap) (locs : List Loc) (ls : Array Slot), lv_has ls 4 [(0, .ref (a 0)), (1, .int x1), (2, .int x2), (3, .int x3)] → va_P D vwCl ((Mw cy a) σ) H → va_S A s.heap H locs → k128 σ x1 x2 x3 y1 y2 = some z → W p l e ({ frames := 1, cells := 0, slots := 0, locals := 21 } : Room) s m args below meth c H locs 0 0 (nQi below D A (Mw cy a) args s z) (F0 m 128 ls [.int y2, .int y1, .ref (a 28)])) {k137 : nS → Int32 → Int32 → Int32 → Option (Int32 × nS)} (K137 : ∀ (σ : nS) (x1 : Int32) (x2 : Int32) (x3 : Int32) (H : Heap) (locs : List Loc) (ls : Array Slot), lv_has ls 4 [(0, .ref (a 0)), (1, .int x1), (2, .int x2), (3, .int x3)] → va_P D vwCl ((Mw cy a) σ) H → va_S A s.heap H locs → k137 σ x1 x2 x3 = some z → W p l e ({ frames := 1, cells := 0, slots := 0, locals := 21 } : Room) s m args below meth c H locs 0 0 (nQi below D A (Mw cy a) args s z) (F0 m 137 ls [])) : ∀ (σ : nS) (x1 : Int32) (x2 : Int32) (x3 : Int32) (H : Heap) (locs : List Loc) (ls : Array Slot), lv_has ls 4 [(0, .ref (a 0)), (1, .int x1), (2, .int x2), (3, .int x3)] → va_P D vwCl ((Mw cy a) σ) H → va_S A s.heap H locs → b_X11_laid_68 N k128 k137 σ x1 x2 x3 = some z → W p l e ({ frames := 1, cells := 0, slots := 0, locals := 21 } : Room) s m args below meth c H locs 0 0 (nQi below D A (Mw cy a) args s z) (F0 m 68 ls []) := by
  obtain ⟨hx, hb, hr, hml, hown, hts, hlocks⟩ := C0
  intro σ x1 x2 x3 H locs ls hl hP hS hf
  unfold b_X11_laid_68 at hf
  refine lv_iload_n hx hb dX11_laid_68 rfl (lv_at hl 3 rfl) ?_
  refine lv_aload_n hx hb dX11_laid_69 rfl (lv_at hl 0 rfl) ?_
  refine nb_get (ci := 11) hx hb hts iX11_laid_X11 hown hE hP 0 mbo_0 rfl 65 (by decide) qX11_laid_420 rfl rfl dX11_laid_70 ?_
  refine lv_icmp_gt (tgt := 135) hx hb dX11_laid_73 (by decide) (fun hc => ?_) (fun hc => ?_)
  · replace hf := nIf_t hc hf
    refine lv_iconst (v := 0) hx hb dX11_laid_135 (by decide) ?_
    refine lv_istore_n (lv' := [(3, .int 0), (0, .ref (a 0)), (1, .int x1), (2, .int x2)]) hx hb dX11_laid_136 rfl hl (by decide) rfl (fun ls hl => ?_)
    exact K137 σ x1 x2 0 H locs ls (lv_sub hl [1, 2, 3, 0] rfl) hP hS hf
  · replace hf := nIf_f hc hf
    refine lv_aload_n hx hb dX11_laid_76 rfl (lv_at hl 0 rfl) ?_
    refine nb_get (ci := 11) hx hb hts iX11_laid_X11 hown hE hP 0 mbo_0 rfl 64 (by decide) qX11_laid_108 rfl rfl dX11_laid_77 ?_
    refine lv_iload_n hx hb dX11_laid_80 rfl (lv_at hl 3 rfl) ?_
    refine lv_aload_n hx hb dX11_laid_81 rfl (lv_at hl 0 rfl) ?_
    refine nb_get (ci := 11) hx hb hts iX11_laid_X11 hown hE hP 0 mbo_0 rfl 62 (by decide) qX11_laid_102 rfl rfl dX11_laid_82 ?_
    refine lv_iload_n hx hb dX11_laid_85 rfl (lv_at hl 3 rfl) ?_
    refine lv_iconst (v := 1) hx hb dX11_laid_86 (by decide) ?_
    refine lv_isub hx hb dX11_laid_87 ?_
    refine lv_topi (fun v1 ev1 => ?_)
    replace hf := nLet_e hf ev1
    obtain ⟨hin, hf⟩ := nIx_e hf
    refine na_iald hx hb hE hP mbr_26 hin dX11_laid_88 ?_
    refine lv_topi (fun v2 ev2 => ?_)
    replace hf := nLet_e hf ev2
    refine lv_aload_n hx hb dX11_laid_89 rfl (lv_at hl 0 rfl) ?_
    refine nb_get (ci := 11) hx hb hts iX11_laid_X11 hown hE hP 0 mbo_0 rfl 43 (by decide) qX11_laid_64 rfl rfl dX11_laid_90 ?_
    refine lv_iload_n hx hb dX11_laid_93 rfl (lv_at hl 2 rfl) ?_
    obtain ⟨hin, hf⟩ := nIx_e hf
    refine na_iald hx hb hE hP mbr_15 hin dX11_laid_94 ?_
    refine lv_topi (fun v3 ev3 => ?_)
    replace hf := nLet_e hf ev3
    refine lv_icmp_ne (tgt := 111) hx hb dX11_laid_95 (by decide) (fun hc => ?_) (fun hc => ?_)
    · replace hf := nIf_f hc hf
      refine lv_aload_n hx hb dX11_laid_111 rfl (lv_at hl 0 rfl) ?_
      refine nb_get (ci := 11) hx hb hts iX11_laid_X11 hown hE hP 0 mbo_0 rfl 63 (by decide) qX11_laid_105 rfl rfl dX11_laid_112 ?_
      refine lv_iload_n hx hb dX11_laid_115 rfl (lv_at hl 3 rfl) ?_
      obtain ⟨hin, hf⟩ := nIx_e hf
      refine na_iald hx hb hE hP mbr_27 hin dX11_laid_116 ?_
      refine lv_topi (fun v4 ev4 => ?_)
      replace hf := nLet_e hf ev4
      refine lv_aload_n hx hb dX11_laid_117 rfl (lv_at hl 0 rfl) ?_
      refine nb_get (ci := 11) hx hb hts iX11_laid_X11 hown hE hP 0 mbo_0 rfl 64 (by decide) qX11_laid_108 rfl rfl dX11_laid_118 ?_
      refine lv_iload_n hx hb dX11_laid_121 rfl (lv_at hl 3 rfl) ?_
      refine lv_iconst (v := 1) hx hb dX11_laid_122 (by decide) ?_
      refine lv_isub hx hb dX11_laid_123 ?_
      refine lv_topi (fun v5 ev5 => ?_)
      replace hf := nLet_e hf ev5
      obtain ⟨hin, hf⟩ := nIx_e hf
      refine na_iald hx hb hE hP mbr_28 hin dX11_laid_124 ?_
      refine lv_topi (fun v6 ev6 => ?_)
      replace hf := nLet_e hf ev6
      refine va_mmax hx hb (hml.trans hl.1.symm) hown (hts (.methodLink RX11 415 Lib.Math.max.name) (by decide +kernel)) (hts (.static Lib.Math.max.name) (by decide +kernel)) (hts (.initialized "java/lang/Math") (by decide +kernel)) (hts (.code Lib.Math.max.name Lib.Math.max.code 2 (some .int)) (by decide +kernel)) (Nat.le_of_ble_eq_true rfl) (Nat.le_of_ble_eq_true rfl) (Nat.zero_le _) (Nat.zero_le _) dX11_laid_125 ?_
      refine lv_topi (fun v7 ev7 => ?_)
      replace hf := nLet_e hf ev7
      exact K128 σ x1 x2 x3 x3 v7 H locs ls (lv_sub hl [0, 1, 2, 3] rfl) hP hS hf
    · replace hf := nIf_t hc hf
      refine lv_aload_n hx hb dX11_laid_98 rfl (lv_at hl 0 rfl) ?_
      refine nb_get (ci := 11) hx hb hts iX11_laid_X11 hown hE hP 0 mbo_0 rfl 63 (by decide) qX11_laid_105 rfl rfl dX11_laid_99 ?_
      refine lv_iload_n hx hb dX11_laid_102 rfl (lv_at hl 3 rfl) ?_
      refine lv_iconst (v := 1) hx hb dX11_laid_103 (by decide) ?_
      refine lv_isub hx hb dX11_laid_104 ?_
      refine lv_topi (fun v8 ev8 => ?_)
      replace hf := nLet_e hf ev8
      obtain ⟨hin, hf⟩ := nIx_e hf
      refine na_iald hx hb hE hP mbr_27 hin dX11_laid_105 ?_
      refine lv_topi (fun v9 ev9 => ?_)
      replace hf := nLet_e hf ev9
      refine lv_iconst (v := 1) hx hb dX11_laid_106 (by decide) ?_
      refine lv_iadd hx hb dX11_laid_107 ?_
      refine lv_topi (fun v10 ev10 => ?_)
      replace hf := nLet_e hf ev10
      refine lv_goto (tgt := 128) hx hb dX11_laid_108 (by decide) ?_
      exact K128 σ x1 x2 x3 x3 v10 H locs ls (lv_sub hl [0, 1, 2, 3] rfl) hP hS hf
def b_X11_laid_54 (N : Nat) (k68 : nS → Int32 → Int32 → Int32 → Option (Int32 × nS)) (σ : nS) (x1 : Int32) (x2 : Int32) : Option (Int32 × nS) := (if x1 ≤ x2 then nIx (σ.1 0 65) 201 (nLet (σ.1 27 ((σ.1 0 65)).toNatClampNeg) (fun v1 => nLet (x1 - v1 : Int32) (fun v2 => nLet (wr σ 0 66 v2) (fun σ3 => nIx (σ3.1 0 65) 201 (nLet (σ3.1 27 ((σ3.1 0 65)).toNatClampNeg) (fun v4 => nLet ((σ3.1 0 65) - v4 : Int32) (fun v5 => nLet (wr σ3 0 67 v5) (fun σ6 => nIx (σ6.1 0 65) 201 (nLet (σ6.1 27 ((σ6.1 0 65)).toNatClampNeg) (fun v7 => nBd (f_X11_done N v7 σ6) (fun r8 σ9 => some (r8, σ9)))))))))))) else nIx 0 201 (nLet (wr σ 28 (0 : Int32).toNatClampNeg 0) (fun σ10 => k68 σ10 x1 x2 1)))
set_option maxHeartbeats 4000000 in
set_option maxRecDepth 100000 in
theorem kb_X11_laid_54 {p : Program} {l : Launch} {e : Env} {s : State} {m : MethodId} {args : Array Value} {below : List Frame} {meth : Method} {c : Code} {D : va_G} {A : Nat → Prop} {cy : Nat → ClassId} {a kt vt : Nat → Nat} {N : Nat}   (C0 : nCx p s m args meth c cX11_laid 4 (some .int) RX11 wsX11_laid) (hE : nEn D A cy (Mw cy a) kt vt s) {z : Int32 × nS} {k68 : nS → Int32 → Int32 → Int32 → Option (Int32 × nS)} (K68 : ∀ (σ : nS) (x1 : Int32) (x2 : Int32) (x3 : Int32) (H : Heap) (locs : List Loc) (ls : Array Slot), lv_has ls 4 [(0, .ref (a 0)), (1, .int x1), (2, .int x2), (3, .int x3)] → va_P D vwCl ((Mw cy a) σ) H → va_S A s.heap H locs → k68 σ x1 x2 x3 = some z → W p l e ({ frames := 1, cells := 0, slots := 0, locals := 21 } : Room) s m args below meth c H locs 0 0 (nQi below D A (Mw cy a) args s z) (F0 m 68 ls [])) : ∀ (σ : nS) (x1 : Int32) (x2 : Int32) (H : Heap) (locs : List Loc) (ls : Array Slot), lv_has ls 4 [(0, .ref (a 0)), (1, .int x1), (2, .int x2)] → va_P D vwCl ((Mw cy a) σ) H → va_S A s.heap H locs → b_X11_laid_54 N k68 σ x1 x2 = some z → W p l e ({ frames := 1, cells := 0, slots := 0, locals := 21 } : Room) s m args below meth c H locs 0 0 (nQi below D A (Mw cy a) args s z) (F0 m 54 ls []) := by
  obtain ⟨hx, hb, hr, hml, hown, hts, hlocks⟩ := C0
  intro σ x1 x2 H locs ls hl hP hS hf
  unfold b_X11_laid_54 at hf
  refine lv_iload_n hx hb dX11_laid_54 rfl (lv_at hl 2 rfl) ?_
  refine lv_iload_n hx hb dX11_laid_55 rfl (lv_at hl 1 rfl) ?_
  refine lv_icmp_ge (tgt := 169) hx hb dX11_laid_56 (by decide) (fun hc => ?_) (fun hc => ?_)
  · replace hf := nIf_t hc hf
    refine lv_aload_n hx hb dX11_laid_169 rfl (lv_at hl 0 rfl) ?_
    refine lv_iload_n hx hb dX11_laid_170 rfl (lv_at hl 1 rfl) ?_
    refine lv_aload_n hx hb dX11_laid_171 rfl (lv_at hl 0 rfl) ?_
    refine nb_get (ci := 11) hx hb hts iX11_laid_X11 hown hE hP 0 mbo_0 rfl 63 (by decide) qX11_laid_105 rfl rfl dX11_laid_172 ?_
    refine lv_aload_n hx hb dX11_laid_175 rfl (lv_at hl 0 rfl) ?_
    refine nb_get (ci := 11) hx hb hts iX11_laid_X11 hown hE hP 0 mbo_0 rfl 65 (by decide) qX11_laid_420 rfl rfl dX11_laid_176 ?_
    obtain ⟨hin, hf⟩ := nIx_e hf
    refine na_iald hx hb hE hP mbr_27 hin dX11_laid_179 ?_
    refine lv_topi (fun v1 ev1 => ?_)
    replace hf := nLet_e hf ev1
    refine lv_isub hx hb dX11_laid_180 ?_
    refine lv_topi (fun v2 ev2 => ?_)
    replace hf := nLet_e hf ev2
    refine nb_put (ci := 11) hx hb hts iX11_laid_X11 tyX11 tyX11_ok nmX11 hown hE hP hS 0 mbo_0 rfl 66 (by decide) qX11_laid_111 rfl rfl rfl rfl (Nat.le_of_ble_eq_true rfl) dX11_laid_181 (mbp_0_66 _) (fun σ3 eσ3 H locs hP hS => ?_)
    replace hf := nLet_e hf eσ3
    refine lv_aload_n hx hb dX11_laid_184 rfl (lv_at hl 0 rfl) ?_
    refine lv_aload_n hx hb dX11_laid_185 rfl (lv_at hl 0 rfl) ?_
    refine nb_get (ci := 11) hx hb hts iX11_laid_X11 hown hE hP 0 mbo_0 rfl 65 (by decide) qX11_laid_420 rfl rfl dX11_laid_186 ?_
    refine lv_aload_n hx hb dX11_laid_189 rfl (lv_at hl 0 rfl) ?_
    refine nb_get (ci := 11) hx hb hts iX11_laid_X11 hown hE hP 0 mbo_0 rfl 63 (by decide) qX11_laid_105 rfl rfl dX11_laid_190 ?_
    refine lv_aload_n hx hb dX11_laid_193 rfl (lv_at hl 0 rfl) ?_
    refine nb_get (ci := 11) hx hb hts iX11_laid_X11 hown hE hP 0 mbo_0 rfl 65 (by decide) qX11_laid_420 rfl rfl dX11_laid_194 ?_
    obtain ⟨hin, hf⟩ := nIx_e hf
    refine na_iald hx hb hE hP mbr_27 hin dX11_laid_197 ?_
    refine lv_topi (fun v4 ev4 => ?_)
    replace hf := nLet_e hf ev4
    refine lv_isub hx hb dX11_laid_198 ?_
    refine lv_topi (fun v5 ev5 => ?_)
    replace hf := nLet_e hf ev5
    refine nb_put (ci := 11) hx hb hts iX11_laid_X11 tyX11 tyX11_ok nmX11 hown hE hP hS 0 mbo_0 rfl 67 (by decide) qX11_laid_114 rfl rfl rfl rfl (Nat.le_of_ble_eq_true rfl) dX11_laid_199 (mbp_0_67 _) (fun σ6 eσ6 H locs hP hS => ?_)
    replace hf := nLet_e hf eσ6
    refine lv_aload_n hx hb dX11_laid_202 rfl (lv_at hl 0 rfl) ?_
    refine lv_aload_n hx hb dX11_laid_203 rfl (lv_at hl 0 rfl) ?_
    refine nb_get (ci := 11) hx hb hts iX11_laid_X11 hown hE hP 0 mbo_0 rfl 63 (by decide) qX11_laid_105 rfl rfl dX11_laid_204 ?_
    refine lv_aload_n hx hb dX11_laid_207 rfl (lv_at hl 0 rfl) ?_
    refine nb_get (ci := 11) hx hb hts iX11_laid_X11 hown hE hP 0 mbo_0 rfl 65 (by decide) qX11_laid_420 rfl rfl dX11_laid_208 ?_
    obtain ⟨hin, hf⟩ := nIx_e hf
    refine na_iald hx hb hE hP mbr_27 hin dX11_laid_211 ?_
    refine lv_topi (fun v7 ev7 => ?_)
    replace hf := nLet_e hf ev7
    obtain ⟨r8, σ9, hc9, hf⟩ := nBd_e hf
    refine nb_callVi (As := [.int v7]) (rest := []) ⟨hx, hb, hml, hown, hts⟩ (c_X11_done (D := D) (A := A) (cy := cy) (a := a) (kt := kt) (vt := vt) (l := l)  hc9) (cwV 1 hts gX11_laid_X11_done rfl rfl rfl (by decide +kernel) ⟨Nat.le_of_ble_eq_true rfl, Nat.le_of_ble_eq_true rfl⟩) hE hP hS mbo_0 rfl rfl hl.1 rfl (Nat.le_of_ble_eq_true rfl) dX11_laid_212 (fun H locs hP hS => ?_)
    exact nb_iret hx hb hr hlocks hP hS (nSo hf) dX11_laid_215
  · replace hf := nIf_f hc hf
    refine lv_aload_n hx hb dX11_laid_59 rfl (lv_at hl 0 rfl) ?_
    refine nb_get (ci := 11) hx hb hts iX11_laid_X11 hown hE hP 0 mbo_0 rfl 64 (by decide) qX11_laid_108 rfl rfl dX11_laid_60 ?_
    refine lv_iconst (v := 0) hx hb dX11_laid_63 (by decide) ?_
    refine lv_iconst (v := 0) hx hb dX11_laid_64 (by decide) ?_
    obtain ⟨hin, hf⟩ := nIx_e hf
    refine na_iast hx hb hE hP hS mbr_28 hin dX11_laid_65 (fun σ10 eσ10 H locs hP hS => ?_)
    replace hf := nLet_e hf eσ10
    refine lv_iconst (v := 1) hx hb dX11_laid_66 (by decide) ?_
    refine lv_istore_n (lv' := [(3, .int 1), (0, .ref (a 0)), (1, .int x1), (2, .int x2)]) hx hb dX11_laid_67 rfl hl (by decide) rfl (fun ls hl => ?_)
    exact K68 σ10 x1 x2 1 H locs ls (lv_sub hl [1, 2, 3, 0] rfl) hP hS hf
def b_X11_laid_31 (N : Nat) (k31 : nS → Int32 → Int32 → Option (Int32 × nS)) (k54 : nS → Int32 → Int32 → Option (Int32 × nS)) (σ : nS) (x1 : Int32) (x2 : Int32) : Option (Int32 × nS) := (if (σ.1 0 65) < x2 then k54 σ x1 0 else nIx x2 201 (nLet (wr σ 27 (x2).toNatClampNeg 0) (fun σ1 => nLet (x2 + 1 : Int32) (fun v2 => k31 σ1 x1 v2))))
set_option maxHeartbeats 4000000 in
set_option maxRecDepth 100000 in
theorem kb_X11_laid_31 {p : Program} {l : Launch} {e : Env} {s : State} {m : MethodId} {args : Array Value} {below : List Frame} {meth : Method} {c : Code} {D : va_G} {A : Nat → Prop} {cy : Nat → ClassId} {a kt vt : Nat → Nat} {N : Nat}   (C0 : nCx p s m args meth c cX11_laid 4 (some .int) RX11 wsX11_laid) (hE : nEn D A cy (Mw cy a) kt vt s) {z : Int32 × nS} {k31 : nS → Int32 → Int32 → Option (Int32 × nS)} (K31 : ∀ (σ : nS) (x1 : Int32) (x2 : Int32) (H : Heap) (locs : List Loc) (ls : Array Slot), lv_has ls 4 [(0, .ref (a 0)), (1, .int x1), (2, .int x2)] → va_P D vwCl ((Mw cy a) σ) H → va_S A s.heap H locs → k31 σ x1 x2 = some z → W p l e ({ frames := 1, cells := 0, slots := 0, locals := 21 } : Room) s m args below meth c H locs 0 0 (nQi below D A (Mw cy a) args s z) (F0 m 31 ls [])) {k54 : nS → Int32 → Int32 → Option (Int32 × nS)} (K54 : ∀ (σ : nS) (x1 : Int32) (x2 : Int32) (H : Heap) (locs : List Loc) (ls : Array Slot), lv_has ls 4 [(0, .ref (a 0)), (1, .int x1), (2, .int x2)] → va_P D vwCl ((Mw cy a) σ) H → va_S A s.heap H locs → k54 σ x1 x2 = some z → W p l e ({ frames := 1, cells := 0, slots := 0, locals := 21 } : Room) s m args below meth c H locs 0 0 (nQi below D A (Mw cy a) args s z) (F0 m 54 ls [])) : ∀ (σ : nS) (x1 : Int32) (x2 : Int32) (H : Heap) (locs : List Loc) (ls : Array Slot), lv_has ls 4 [(0, .ref (a 0)), (1, .int x1), (2, .int x2)] → va_P D vwCl ((Mw cy a) σ) H → va_S A s.heap H locs → b_X11_laid_31 N k31 k54 σ x1 x2 = some z → W p l e ({ frames := 1, cells := 0, slots := 0, locals := 21 } : Room) s m args below meth c H locs 0 0 (nQi below D A (Mw cy a) args s z) (F0 m 31 ls []) := by
  obtain ⟨hx, hb, hr, hml, hown, hts, hlocks⟩ := C0
  intro σ x1 x2 H locs ls hl hP hS hf
  unfold b_X11_laid_31 at hf
  refine lv_iload_n hx hb dX11_laid_31 rfl (lv_at hl 2 rfl) ?_
  refine lv_aload_n hx hb dX11_laid_32 rfl (lv_at hl 0 rfl) ?_
  refine nb_get (ci := 11) hx hb hts iX11_laid_X11 hown hE hP 0 mbo_0 rfl 65 (by decide) qX11_laid_420 rfl rfl dX11_laid_33 ?_
  refine lv_icmp_gt (tgt := 52) hx hb dX11_laid_36 (by decide) (fun hc => ?_) (fun hc => ?_)
  · replace hf := nIf_t hc hf
    refine lv_iconst (v := 0) hx hb dX11_laid_52 (by decide) ?_
    refine lv_istore_n (lv' := [(2, .int 0), (0, .ref (a 0)), (1, .int x1)]) hx hb dX11_laid_53 rfl hl (by decide) rfl (fun ls hl => ?_)
    exact K54 σ x1 0 H locs ls (lv_sub hl [1, 2, 0] rfl) hP hS hf
  · replace hf := nIf_f hc hf
    refine lv_aload_n hx hb dX11_laid_39 rfl (lv_at hl 0 rfl) ?_
    refine nb_get (ci := 11) hx hb hts iX11_laid_X11 hown hE hP 0 mbo_0 rfl 63 (by decide) qX11_laid_105 rfl rfl dX11_laid_40 ?_
    refine lv_iload_n hx hb dX11_laid_43 rfl (lv_at hl 2 rfl) ?_
    refine lv_iconst (v := 0) hx hb dX11_laid_44 (by decide) ?_
    obtain ⟨hin, hf⟩ := nIx_e hf
    refine na_iast hx hb hE hP hS mbr_27 hin dX11_laid_45 (fun σ1 eσ1 H locs hP hS => ?_)
    replace hf := nLet_e hf eσ1
    obtain ⟨v2, ev2⟩ : ∃ y : Int32, y = x2 + 1 := ⟨_, rfl⟩
    replace hf := nLet_e hf ev2
    refine lv_iinc (v := v2) (lv' := [(2, .int v2), (0, .ref (a 0)), (1, .int x1)]) hx hb dX11_laid_46 hl (k := 2) rfl (by rw [ev2]; rfl) (by decide) rfl (fun ls hl => ?_)
    refine lv_goto (tgt := 31) hx hb dX11_laid_49 (by decide) ?_
    exact K31 σ1 x1 v2 H locs ls (lv_sub hl [1, 2, 0] rfl) hP hS hf
def b_X11_laid_0 (N : Nat) (k31 : nS → Int32 → Int32 → Option (Int32 × nS)) (σ : nS) : Option (Int32 × nS) := nLet (wr σ 0 0 0) (fun σ1 => (if (σ1.1 0 37) = 0 then nBd (f_X11_refused N 5 σ1) (fun r3 σ4 => some (r3, σ4)) else nLet (if (300 : Int32) < (σ1.1 0 40) then (300 : Int32) else (σ1.1 0 40)) (fun v2 => k31 σ1 v2 0)))
set_option maxHeartbeats 4000000 in
set_option maxRecDepth 100000 in
theorem kb_X11_laid_0 {p : Program} {l : Launch} {e : Env} {s : State} {m : MethodId} {args : Array Value} {below : List Frame} {meth : Method} {c : Code} {D : va_G} {A : Nat → Prop} {cy : Nat → ClassId} {a kt vt : Nat → Nat} {N : Nat}   (C0 : nCx p s m args meth c cX11_laid 4 (some .int) RX11 wsX11_laid) (hE : nEn D A cy (Mw cy a) kt vt s) {z : Int32 × nS} {k31 : nS → Int32 → Int32 → Option (Int32 × nS)} (K31 : ∀ (σ : nS) (x1 : Int32) (x2 : Int32) (H : Heap) (locs : List Loc) (ls : Array Slot), lv_has ls 4 [(0, .ref (a 0)), (1, .int x1), (2, .int x2)] → va_P D vwCl ((Mw cy a) σ) H → va_S A s.heap H locs → k31 σ x1 x2 = some z → W p l e ({ frames := 1, cells := 0, slots := 0, locals := 21 } : Room) s m args below meth c H locs 0 0 (nQi below D A (Mw cy a) args s z) (F0 m 31 ls [])) : ∀ (σ : nS) (H : Heap) (locs : List Loc) (ls : Array Slot), lv_has ls 4 [(0, .ref (a 0))] → va_P D vwCl ((Mw cy a) σ) H → va_S A s.heap H locs → b_X11_laid_0 N k31 σ = some z → W p l e ({ frames := 1, cells := 0, slots := 0, locals := 21 } : Room) s m args below meth c H locs 0 0 (nQi below D A (Mw cy a) args s z) (F0 m 0 ls []) := by
  obtain ⟨hx, hb, hr, hml, hown, hts, hlocks⟩ := C0
  intro σ  H locs ls hl hP hS hf
  unfold b_X11_laid_0 at hf
  refine lv_aload_n hx hb dX11_laid_0 rfl (lv_at hl 0 rfl) ?_
  refine lv_iconst (v := 0) hx hb dX11_laid_1 (by decide) ?_
  refine nb_put (ci := 11) hx hb hts iX11_laid_X11 tyX11 tyX11_ok nmX11 hown hE hP hS 0 mbo_0 rfl 0 (by decide) qX11_laid_117 rfl rfl rfl rfl (Nat.le_of_ble_eq_true rfl) dX11_laid_2 (mbp_0_0 _) (fun σ1 eσ1 H locs hP hS => ?_)
  replace hf := nLet_e hf eσ1
  refine lv_aload_n hx hb dX11_laid_5 rfl (lv_at hl 0 rfl) ?_
  refine nb_get (ci := 11) hx hb hts iX11_laid_X11 hown hE hP 0 mbo_0 rfl 37 (by decide) qX11_laid_298 rfl rfl dX11_laid_6 ?_
  refine lv_if_ne (tgt := 18) hx hb dX11_laid_9 (by decide) (fun hc => ?_) (fun hc => ?_)
  · replace hf := nIf_f hc hf
    refine lv_aload_n hx hb dX11_laid_18 rfl (lv_at hl 0 rfl) ?_
    refine nb_get (ci := 11) hx hb hts iX11_laid_X11 hown hE hP 0 mbo_0 rfl 40 (by decide) qX11_laid_305 rfl rfl dX11_laid_19 ?_
    refine lv_sipush (v := 300) hx hb dX11_laid_22 (by decide) ?_
    refine va_mmin hx hb (hml.trans hl.1.symm) hown (hts (.methodLink RX11 423 Lib.Math.min.name) (by decide +kernel)) (hts (.static Lib.Math.min.name) (by decide +kernel)) (hts (.initialized "java/lang/Math") (by decide +kernel)) (hts (.code Lib.Math.min.name Lib.Math.min.code 2 (some .int)) (by decide +kernel)) (Nat.le_of_ble_eq_true rfl) (Nat.le_of_ble_eq_true rfl) (Nat.zero_le _) (Nat.zero_le _) dX11_laid_25 ?_
    refine lv_topi (fun v2 ev2 => ?_)
    replace hf := nLet_e hf ev2
    refine lv_istore_n (lv' := [(1, .int v2), (0, .ref (a 0))]) hx hb dX11_laid_28 rfl hl (by decide) rfl (fun ls hl => ?_)
    refine lv_iconst (v := 0) hx hb dX11_laid_29 (by decide) ?_
    refine lv_istore_n (lv' := [(2, .int 0), (1, .int v2), (0, .ref (a 0))]) hx hb dX11_laid_30 rfl hl (by decide) rfl (fun ls hl => ?_)
    exact K31 σ1 v2 0 H locs ls (lv_sub hl [2, 1, 0] rfl) hP hS hf
  · replace hf := nIf_t hc hf
    refine lv_aload_n hx hb dX11_laid_12 rfl (lv_at hl 0 rfl) ?_
    refine lv_iconst (v := 5) hx hb dX11_laid_13 (by decide) ?_
    obtain ⟨r3, σ4, hc4, hf⟩ := nBd_e hf
    refine nb_callVi (As := [.int 5]) (rest := []) ⟨hx, hb, hml, hown, hts⟩ (c_X11_refused (D := D) (A := A) (cy := cy) (a := a) (kt := kt) (vt := vt) (l := l)  hc4) (cwV 1 hts gX11_laid_X11_refused rfl rfl rfl (by decide +kernel) ⟨Nat.le_of_ble_eq_true rfl, Nat.le_of_ble_eq_true rfl⟩) hE hP hS mbo_0 rfl rfl hl.1 rfl (Nat.le_of_ble_eq_true rfl) dX11_laid_14 (fun H locs hP hS => ?_)
    exact nb_iret hx hb hr hlocks hP hS (nSo hf) dX11_laid_17
def l_X11_laid_128 (N : Nat) (k68 : nS → Int32 → Int32 → Int32 → Option (Int32 × nS)) : nS → Int32 → Int32 → Int32 → Int32 → Int32 → Option (Int32 × nS) := b_X11_laid_128 N k68
theorem kl_X11_laid_128 {p : Program} {l : Launch} {e : Env} {s : State} {m : MethodId} {args : Array Value} {below : List Frame} {meth : Method} {c : Code} {D : va_G} {A : Nat → Prop} {cy : Nat → ClassId} {a kt vt : Nat → Nat} {N : Nat}   (C0 : nCx p s m args meth c cX11_laid 4 (some .int) RX11 wsX11_laid) (hE : nEn D A cy (Mw cy a) kt vt s) {z : Int32 × nS} {k68 : nS → Int32 → Int32 → Int32 → Option (Int32 × nS)} (K68 : ∀ (σ : nS) (x1 : Int32) (x2 : Int32) (x3 : Int32) (H : Heap) (locs : List Loc) (ls : Array Slot), lv_has ls 4 [(0, .ref (a 0)), (1, .int x1), (2, .int x2), (3, .int x3)] → va_P D vwCl ((Mw cy a) σ) H → va_S A s.heap H locs → k68 σ x1 x2 x3 = some z → W p l e ({ frames := 1, cells := 0, slots := 0, locals := 21 } : Room) s m args below meth c H locs 0 0 (nQi below D A (Mw cy a) args s z) (F0 m 68 ls [])) : ∀ (σ : nS) (x1 : Int32) (x2 : Int32) (x3 : Int32) (y1 : Int32) (y2 : Int32) (H : Heap) (locs : List Loc) (ls : Array Slot), lv_has ls 4 [(0, .ref (a 0)), (1, .int x1), (2, .int x2), (3, .int x3)] → va_P D vwCl ((Mw cy a) σ) H → va_S A s.heap H locs → l_X11_laid_128 N k68 σ x1 x2 x3 y1 y2 = some z → W p l e ({ frames := 1, cells := 0, slots := 0, locals := 21 } : Room) s m args below meth c H locs 0 0 (nQi below D A (Mw cy a) args s z) (F0 m 128 ls [.int y2, .int y1, .ref (a 28)]) := by
  exact kb_X11_laid_128 (N := N)  C0 hE K68
def l_X11_laid_137 (N : Nat) (k54 : nS → Int32 → Int32 → Option (Int32 × nS)) : nS → Int32 → Int32 → Int32 → Option (Int32 × nS) := nLp (fun _ _ _ _ => none) (fun again => b_X11_laid_137 N k54 again) N
theorem kl_X11_laid_137 {p : Program} {l : Launch} {e : Env} {s : State} {m : MethodId} {args : Array Value} {below : List Frame} {meth : Method} {c : Code} {D : va_G} {A : Nat → Prop} {cy : Nat → ClassId} {a kt vt : Nat → Nat} {N : Nat}   (C0 : nCx p s m args meth c cX11_laid 4 (some .int) RX11 wsX11_laid) (hE : nEn D A cy (Mw cy a) kt vt s) {z : Int32 × nS} {k54 : nS → Int32 → Int32 → Option (Int32 × nS)} (K54 : ∀ (σ : nS) (x1 : Int32) (x2 : Int32) (H : Heap) (locs : List Loc) (ls : Array Slot), lv_has ls 4 [(0, .ref (a 0)), (1, .int x1), (2, .int x2)] → va_P D vwCl ((Mw cy a) σ) H → va_S A s.heap H locs → k54 σ x1 x2 = some z → W p l e ({ frames := 1, cells := 0, slots := 0, locals := 21 } : Room) s m args below meth c H locs 0 0 (nQi below D A (Mw cy a) args s z) (F0 m 54 ls [])) : ∀ (σ : nS) (x1 : Int32) (x2 : Int32) (x3 : Int32) (H : Heap) (locs : List Loc) (ls : Array Slot), lv_has ls 4 [(0, .ref (a 0)), (1, .int x1), (2, .int x2), (3, .int x3)] → va_P D vwCl ((Mw cy a) σ) H → va_S A s.heap H locs → l_X11_laid_137 N k54 σ x1 x2 x3 = some z → W p l e ({ frames := 1, cells := 0, slots := 0, locals := 21 } : Room) s m args below meth c H locs 0 0 (nQi below D A (Mw cy a) args s z) (F0 m 137 ls []) := by
  have main : ∀ (fu : Nat), ∀ (σ : nS) (x1 : Int32) (x2 : Int32) (x3 : Int32) (H : Heap) (locs : List Loc) (ls : Array Slot), lv_has ls 4 [(0, .ref (a 0)), (1, .int x1), (2, .int x2), (3, .int x3)] → va_P D vwCl ((Mw cy a) σ) H → va_S A s.heap H locs → nLp (fun _ _ _ _ => none) (fun again => b_X11_laid_137 N k54 again) fu σ x1 x2 x3 = some z → W p l e ({ frames := 1, cells := 0, slots := 0, locals := 21 } : Room) s m args below meth c H locs 0 0 (nQi below D A (Mw cy a) args s z) (F0 m 137 ls []) := by
    intro fu
    induction fu with
    | zero => intro σ x1 x2 x3 H locs ls hl hP hS hf; cases hf
    | succ fu ih => exact kb_X11_laid_137 (N := N)  C0 hE K54 ih
  exact main N
def l_X11_laid_68 (N : Nat) (k54 : nS → Int32 → Int32 → Option (Int32 × nS)) : nS → Int32 → Int32 → Int32 → Option (Int32 × nS) := nLp (fun _ _ _ _ => none) (fun again => b_X11_laid_68 N (l_X11_laid_128 N again) (l_X11_laid_137 N k54)) N
theorem kl_X11_laid_68 {p : Program} {l : Launch} {e : Env} {s : State} {m : MethodId} {args : Array Value} {below : List Frame} {meth : Method} {c : Code} {D : va_G} {A : Nat → Prop} {cy : Nat → ClassId} {a kt vt : Nat → Nat} {N : Nat}   (C0 : nCx p s m args meth c cX11_laid 4 (some .int) RX11 wsX11_laid) (hE : nEn D A cy (Mw cy a) kt vt s) {z : Int32 × nS} {k54 : nS → Int32 → Int32 → Option (Int32 × nS)} (K54 : ∀ (σ : nS) (x1 : Int32) (x2 : Int32) (H : Heap) (locs : List Loc) (ls : Array Slot), lv_has ls 4 [(0, .ref (a 0)), (1, .int x1), (2, .int x2)] → va_P D vwCl ((Mw cy a) σ) H → va_S A s.heap H locs → k54 σ x1 x2 = some z → W p l e ({ frames := 1, cells := 0, slots := 0, locals := 21 } : Room) s m args below meth c H locs 0 0 (nQi below D A (Mw cy a) args s z) (F0 m 54 ls [])) : ∀ (σ : nS) (x1 : Int32) (x2 : Int32) (x3 : Int32) (H : Heap) (locs : List Loc) (ls : Array Slot), lv_has ls 4 [(0, .ref (a 0)), (1, .int x1), (2, .int x2), (3, .int x3)] → va_P D vwCl ((Mw cy a) σ) H → va_S A s.heap H locs → l_X11_laid_68 N k54 σ x1 x2 x3 = some z → W p l e ({ frames := 1, cells := 0, slots := 0, locals := 21 } : Room) s m args below meth c H locs 0 0 (nQi below D A (Mw cy a) args s z) (F0 m 68 ls []) := by
  have main : ∀ (fu : Nat), ∀ (σ : nS) (x1 : Int32) (x2 : Int32) (x3 : Int32) (H : Heap) (locs : List Loc) (ls : Array Slot), lv_has ls 4 [(0, .ref (a 0)), (1, .int x1), (2, .int x2), (3, .int x3)] → va_P D vwCl ((Mw cy a) σ) H → va_S A s.heap H locs → nLp (fun _ _ _ _ => none) (fun again => b_X11_laid_68 N (l_X11_laid_128 N again) (l_X11_laid_137 N k54)) fu σ x1 x2 x3 = some z → W p l e ({ frames := 1, cells := 0, slots := 0, locals := 21 } : Room) s m args below meth c H locs 0 0 (nQi below D A (Mw cy a) args s z) (F0 m 68 ls []) := by
    intro fu
    induction fu with
    | zero => intro σ x1 x2 x3 H locs ls hl hP hS hf; cases hf
    | succ fu ih => exact kb_X11_laid_68 (N := N)  C0 hE (kl_X11_laid_128 (N := N)  C0 hE ih) (kl_X11_laid_137 (N := N)  C0 hE K54)
  exact main N
def l_X11_laid_54 (N : Nat) : nS → Int32 → Int32 → Option (Int32 × nS) := nLp (fun _ _ _ => none) (fun again => b_X11_laid_54 N (l_X11_laid_68 N again)) N
theorem kl_X11_laid_54 {p : Program} {l : Launch} {e : Env} {s : State} {m : MethodId} {args : Array Value} {below : List Frame} {meth : Method} {c : Code} {D : va_G} {A : Nat → Prop} {cy : Nat → ClassId} {a kt vt : Nat → Nat} {N : Nat}   (C0 : nCx p s m args meth c cX11_laid 4 (some .int) RX11 wsX11_laid) (hE : nEn D A cy (Mw cy a) kt vt s) {z : Int32 × nS} : ∀ (σ : nS) (x1 : Int32) (x2 : Int32) (H : Heap) (locs : List Loc) (ls : Array Slot), lv_has ls 4 [(0, .ref (a 0)), (1, .int x1), (2, .int x2)] → va_P D vwCl ((Mw cy a) σ) H → va_S A s.heap H locs → l_X11_laid_54 N σ x1 x2 = some z → W p l e ({ frames := 1, cells := 0, slots := 0, locals := 21 } : Room) s m args below meth c H locs 0 0 (nQi below D A (Mw cy a) args s z) (F0 m 54 ls []) := by
  have main : ∀ (fu : Nat), ∀ (σ : nS) (x1 : Int32) (x2 : Int32) (H : Heap) (locs : List Loc) (ls : Array Slot), lv_has ls 4 [(0, .ref (a 0)), (1, .int x1), (2, .int x2)] → va_P D vwCl ((Mw cy a) σ) H → va_S A s.heap H locs → nLp (fun _ _ _ => none) (fun again => b_X11_laid_54 N (l_X11_laid_68 N again)) fu σ x1 x2 = some z → W p l e ({ frames := 1, cells := 0, slots := 0, locals := 21 } : Room) s m args below meth c H locs 0 0 (nQi below D A (Mw cy a) args s z) (F0 m 54 ls []) := by
    intro fu
    induction fu with
    | zero => intro σ x1 x2 H locs ls hl hP hS hf; cases hf
    | succ fu ih => exact kb_X11_laid_54 (N := N)  C0 hE (kl_X11_laid_68 (N := N)  C0 hE ih)
  exact main N
def l_X11_laid_31 (N : Nat) : nS → Int32 → Int32 → Option (Int32 × nS) := nLp (fun _ _ _ => none) (fun again => b_X11_laid_31 N again (l_X11_laid_54 N)) N
theorem kl_X11_laid_31 {p : Program} {l : Launch} {e : Env} {s : State} {m : MethodId} {args : Array Value} {below : List Frame} {meth : Method} {c : Code} {D : va_G} {A : Nat → Prop} {cy : Nat → ClassId} {a kt vt : Nat → Nat} {N : Nat}   (C0 : nCx p s m args meth c cX11_laid 4 (some .int) RX11 wsX11_laid) (hE : nEn D A cy (Mw cy a) kt vt s) {z : Int32 × nS} : ∀ (σ : nS) (x1 : Int32) (x2 : Int32) (H : Heap) (locs : List Loc) (ls : Array Slot), lv_has ls 4 [(0, .ref (a 0)), (1, .int x1), (2, .int x2)] → va_P D vwCl ((Mw cy a) σ) H → va_S A s.heap H locs → l_X11_laid_31 N σ x1 x2 = some z → W p l e ({ frames := 1, cells := 0, slots := 0, locals := 21 } : Room) s m args below meth c H locs 0 0 (nQi below D A (Mw cy a) args s z) (F0 m 31 ls []) := by
  have main : ∀ (fu : Nat), ∀ (σ : nS) (x1 : Int32) (x2 : Int32) (H : Heap) (locs : List Loc) (ls : Array Slot), lv_has ls 4 [(0, .ref (a 0)), (1, .int x1), (2, .int x2)] → va_P D vwCl ((Mw cy a) σ) H → va_S A s.heap H locs → nLp (fun _ _ _ => none) (fun again => b_X11_laid_31 N again (l_X11_laid_54 N)) fu σ x1 x2 = some z → W p l e ({ frames := 1, cells := 0, slots := 0, locals := 21 } : Room) s m args below meth c H locs 0 0 (nQi below D A (Mw cy a) args s z) (F0 m 31 ls []) := by
    intro fu
    induction fu with
    | zero => intro σ x1 x2 H locs ls hl hP hS hf; cases hf
    | succ fu ih => exact kb_X11_laid_31 (N := N)  C0 hE ih (kl_X11_laid_54 (N := N)  C0 hE)
  exact main N
def l_X11_laid_0 (N : Nat) : nS → Option (Int32 × nS) := b_X11_laid_0 N (l_X11_laid_31 N)
theorem kl_X11_laid_0 {p : Program} {l : Launch} {e : Env} {s : State} {m : MethodId} {args : Array Value} {below : List Frame} {meth : Method} {c : Code} {D : va_G} {A : Nat → Prop} {cy : Nat → ClassId} {a kt vt : Nat → Nat} {N : Nat}   (C0 : nCx p s m args meth c cX11_laid 4 (some .int) RX11 wsX11_laid) (hE : nEn D A cy (Mw cy a) kt vt s) {z : Int32 × nS} : ∀ (σ : nS) (H : Heap) (locs : List Loc) (ls : Array Slot), lv_has ls 4 [(0, .ref (a 0))] → va_P D vwCl ((Mw cy a) σ) H → va_S A s.heap H locs → l_X11_laid_0 N σ = some z → W p l e ({ frames := 1, cells := 0, slots := 0, locals := 21 } : Room) s m args below meth c H locs 0 0 (nQi below D A (Mw cy a) args s z) (F0 m 0 ls []) := by
  exact kb_X11_laid_0 (N := N)  C0 hE (kl_X11_laid_31 (N := N)  C0 hE)
def f_X11_laid (N : Nat) (σ : nS) : Option (Int32 × nS) := l_X11_laid_0 N σ
set_option maxHeartbeats 4000000 in
set_option maxRecDepth 100000 in
theorem c_X11_laid {l : Launch} {D : va_G} {A : Nat → Prop} {cy : Nat → ClassId} {a kt vt : Nat → Nat} {N : Nat}   {σ : nS} {r : Int32} {σ' : nS} (hf : f_X11_laid N σ = some (r, σ')) : nMi l yX11_laid wsX11_laid ({ frames := 1, cells := 0, slots := 0, locals := 21 } : Room) D A cy (Mw cy a) kt vt [.ref (a 0)] σ r σ' := by
  refine Met.ofW (cc := cX11_laid) (maxL := 4) (ret := (some .int)) (by decide) rfl ?_
  intro p e s m args below meth c s₁ B hml hv
  obtain ⟨rfl, hP, hE⟩ := hv
  have hl := lv_entry ([.ref (a 0)]) (n := 4) (Nat.le_of_ble_eq_true rfl)
  rw [lg_entry_eq]
  generalize (lg_sl ([.ref (a 0)]) ++ List.replicate (4 - (lg_sl ([.ref (a 0)])).length) Slot.unset).toArray = ls at hl ⊢
  have C0 : nCx p s m _ meth c cX11_laid 4 (some .int) RX11 wsX11_laid := ⟨B.exec, B.bytes, B.returns, hml, findClass_of_methodNamed B.named, atoms_spec (ws := wsX11_laid) B.pre, B.notSynchronized⟩
  exact kl_X11_laid_0 (N := N)  C0 hE (z := (r, σ')) σ  _ _ ls hl hP va_S.rf hf
/-! X11_apart -/
set_option maxRecDepth 20000 in
theorem iX11_apart_X11 : ∀ w ∈ u_ws RX11 TX11 68, w ∈ wsX11_apart := fun _ h => List.mem_cons_of_mem _ (List.mem_append_right _ h)
set_option maxRecDepth 20000 in
theorem qX11_apart_117 : Cond.fieldLink RX11 117 RX11 (TX11 0).2.1 (TX11 0).2.2.1 ∈ wsX11_apart := by decide +kernel
set_option maxRecDepth 20000 in
theorem qX11_apart_111 : Cond.fieldLink RX11 111 RX11 (TX11 66).2.1 (TX11 66).2.2.1 ∈ wsX11_apart := by decide +kernel
set_option maxRecDepth 20000 in
theorem qX11_apart_114 : Cond.fieldLink RX11 114 RX11 (TX11 67).2.1 (TX11 67).2.2.1 ∈ wsX11_apart := by decide +kernel
def b_X11_apart_0 (N : Nat) (σ : nS) (x1 : Int32) : Option (Int32 × nS) := nLet (wr σ 0 0 0) (fun σ1 => (if x1 = 0 then some ((σ1.1 0 66), σ1) else some ((σ1.1 0 67), σ1)))
set_option maxHeartbeats 4000000 in
set_option maxRecDepth 100000 in
theorem kb_X11_apart_0 {p : Program} {l : Launch} {e : Env} {s : State} {m : MethodId} {args : Array Value} {below : List Frame} {meth : Method} {c : Code} {D : va_G} {A : Nat → Prop} {cy : Nat → ClassId} {a kt vt : Nat → Nat} {N : Nat}   (C0 : nCx p s m args meth c cX11_apart 2 (some .int) RX11 wsX11_apart) (hE : nEn D A cy (Mw cy a) kt vt s) {z : Int32 × nS} : ∀ (σ : nS) (x1 : Int32) (H : Heap) (locs : List Loc) (ls : Array Slot), lv_has ls 2 [(0, .ref (a 0)), (1, .int x1)] → va_P D vwCl ((Mw cy a) σ) H → va_S A s.heap H locs → b_X11_apart_0 N σ x1 = some z → W p l e ({ frames := 0, cells := 0, slots := 0, locals := 0 } : Room) s m args below meth c H locs 0 0 (nQi below D A (Mw cy a) args s z) (F0 m 0 ls []) := by
  obtain ⟨hx, hb, hr, hml, hown, hts, hlocks⟩ := C0
  intro σ x1 H locs ls hl hP hS hf
  unfold b_X11_apart_0 at hf
  refine lv_aload_n hx hb dX11_apart_0 rfl (lv_at hl 0 rfl) ?_
  refine lv_iconst (v := 0) hx hb dX11_apart_1 (by decide) ?_
  refine nb_put (ci := 11) hx hb hts iX11_apart_X11 tyX11 tyX11_ok nmX11 hown hE hP hS 0 mbo_0 rfl 0 (by decide) qX11_apart_117 rfl rfl rfl rfl (Nat.le_of_ble_eq_true rfl) dX11_apart_2 (mbp_0_0 _) (fun σ1 eσ1 H locs hP hS => ?_)
  replace hf := nLet_e hf eσ1
  refine lv_iload_n hx hb dX11_apart_5 rfl (lv_at hl 1 rfl) ?_
  refine lv_if_eq (tgt := 16) hx hb dX11_apart_6 (by decide) (fun hc => ?_) (fun hc => ?_)
  · replace hf := nIf_t hc hf
    refine lv_aload_n hx hb dX11_apart_16 rfl (lv_at hl 0 rfl) ?_
    refine nb_get (ci := 11) hx hb hts iX11_apart_X11 hown hE hP 0 mbo_0 rfl 66 (by decide) qX11_apart_111 rfl rfl dX11_apart_17 ?_
    exact nb_iret hx hb hr hlocks hP hS (nSo hf) dX11_apart_20
  · replace hf := nIf_f hc hf
    refine lv_aload_n hx hb dX11_apart_9 rfl (lv_at hl 0 rfl) ?_
    refine nb_get (ci := 11) hx hb hts iX11_apart_X11 hown hE hP 0 mbo_0 rfl 67 (by decide) qX11_apart_114 rfl rfl dX11_apart_10 ?_
    refine lv_goto (tgt := 20) hx hb dX11_apart_13 (by decide) ?_
    exact nb_iret hx hb hr hlocks hP hS (nSo hf) dX11_apart_20
def l_X11_apart_0 (N : Nat) : nS → Int32 → Option (Int32 × nS) := b_X11_apart_0 N
theorem kl_X11_apart_0 {p : Program} {l : Launch} {e : Env} {s : State} {m : MethodId} {args : Array Value} {below : List Frame} {meth : Method} {c : Code} {D : va_G} {A : Nat → Prop} {cy : Nat → ClassId} {a kt vt : Nat → Nat} {N : Nat}   (C0 : nCx p s m args meth c cX11_apart 2 (some .int) RX11 wsX11_apart) (hE : nEn D A cy (Mw cy a) kt vt s) {z : Int32 × nS} : ∀ (σ : nS) (x1 : Int32) (H : Heap) (locs : List Loc) (ls : Array Slot), lv_has ls 2 [(0, .ref (a 0)), (1, .int x1)] → va_P D vwCl ((Mw cy a) σ) H → va_S A s.heap H locs → l_X11_apart_0 N σ x1 = some z → W p l e ({ frames := 0, cells := 0, slots := 0, locals := 0 } : Room) s m args below meth c H locs 0 0 (nQi below D A (Mw cy a) args s z) (F0 m 0 ls []) := by
  exact kb_X11_apart_0 (N := N)  C0 hE
def f_X11_apart (N : Nat) (x1 : Int32) (σ : nS) : Option (Int32 × nS) := l_X11_apart_0 N σ x1
set_option maxHeartbeats 4000000 in
set_option maxRecDepth 100000 in
theorem c_X11_apart {l : Launch} {D : va_G} {A : Nat → Prop} {cy : Nat → ClassId} {a kt vt : Nat → Nat} {N : Nat}   {x1 : Int32} {σ : nS} {r : Int32} {σ' : nS} (hf : f_X11_apart N x1 σ = some (r, σ')) : nMi l yX11_apart wsX11_apart ({ frames := 0, cells := 0, slots := 0, locals := 0 } : Room) D A cy (Mw cy a) kt vt [.ref (a 0), .int x1] σ r σ' := by
  refine Met.ofW (cc := cX11_apart) (maxL := 2) (ret := (some .int)) (by decide) rfl ?_
  intro p e s m args below meth c s₁ B hml hv
  obtain ⟨rfl, hP, hE⟩ := hv
  have hl := lv_entry ([.ref (a 0), .int x1]) (n := 2) (Nat.le_of_ble_eq_true rfl)
  rw [lg_entry_eq]
  generalize (lg_sl ([.ref (a 0), .int x1]) ++ List.replicate (2 - (lg_sl ([.ref (a 0), .int x1])).length) Slot.unset).toArray = ls at hl ⊢
  have C0 : nCx p s m _ meth c cX11_apart 2 (some .int) RX11 wsX11_apart := ⟨B.exec, B.bytes, B.returns, hml, findClass_of_methodNamed B.named, atoms_spec (ws := wsX11_apart) B.pre, B.notSynchronized⟩
  exact kl_X11_apart_0 (N := N)  C0 hE (z := (r, σ')) σ x1 _ _ ls hl hP va_S.rf hf
/-! X11_differ -/
set_option maxRecDepth 20000 in
theorem iX11_differ_X11 : ∀ w ∈ u_ws RX11 TX11 68, w ∈ wsX11_differ := fun _ h => List.mem_cons_of_mem _ (List.mem_append_right _ h)
set_option maxRecDepth 20000 in
theorem qX11_differ_117 : Cond.fieldLink RX11 117 RX11 (TX11 0).2.1 (TX11 0).2.2.1 ∈ wsX11_differ := by decide +kernel
set_option maxRecDepth 20000 in
theorem qX11_differ_314 : Cond.fieldLink RX11 314 RX11 (TX11 46).2.1 (TX11 46).2.2.1 ∈ wsX11_differ := by decide +kernel
set_option maxRecDepth 20000 in
theorem qX11_differ_67 : Cond.fieldLink RX11 67 RX11 (TX11 44).2.1 (TX11 44).2.2.1 ∈ wsX11_differ := by decide +kernel
set_option maxRecDepth 20000 in
theorem qX11_differ_263 : Cond.fieldLink RX11 263 RX11 (TX11 33).2.1 (TX11 33).2.2.1 ∈ wsX11_differ := by decide +kernel
def b_X11_differ_173 (N : Nat) (k174 : nS → Int32 → Int32 → Int32 → Int32 → Int32 → Option (Int32 × nS)) (σ : nS) (x1 : Int32) (x2 : Int32) (x8 : Int32) (y0 : Int32) : Option (Int32 × nS) := k174 σ x1 x2 x8 y0 0
set_option maxHeartbeats 4000000 in
set_option maxRecDepth 100000 in
theorem kb_X11_differ_173 {p : Program} {l : Launch} {e : Env} {s : State} {m : MethodId} {args : Array Value} {below : List Frame} {meth : Method} {c : Code} {D : va_G} {A : Nat → Prop} {cy : Nat → ClassId} {a kt vt : Nat → Nat} {N : Nat}   (C0 : nCx p s m args meth c cX11_differ 12 (some .int) RX11 wsX11_differ) (hE : nEn D A cy (Mw cy a) kt vt s) {z : Int32 × nS} {k174 : nS → Int32 → Int32 → Int32 → Int32 → Int32 → Option (Int32 × nS)} (K174 : ∀ (σ : nS) (x1 : Int32) (x2 : Int32) (x8 : Int32) (y0 : Int32) (y1 : Int32) (H : Heap) (locs : List Loc) (ls : Array Slot), lv_has ls 12 [(0, .ref (a 0)), (1, .int x1), (2, .int x2), (8, .int x8)] → va_P D vwCl ((Mw cy a) σ) H → va_S A s.heap H locs → k174 σ x1 x2 x8 y0 y1 = some z → W p l e ({ frames := 4, cells := 0, slots := 0, locals := 89 } : Room) s m args below meth c H locs 0 0 (nQi below D A (Mw cy a) args s z) (F0 m 174 ls [.int y1, .int y0])) : ∀ (σ : nS) (x1 : Int32) (x2 : Int32) (x8 : Int32) (y0 : Int32) (H : Heap) (locs : List Loc) (ls : Array Slot), lv_has ls 12 [(0, .ref (a 0)), (1, .int x1), (2, .int x2), (8, .int x8)] → va_P D vwCl ((Mw cy a) σ) H → va_S A s.heap H locs → b_X11_differ_173 N k174 σ x1 x2 x8 y0 = some z → W p l e ({ frames := 4, cells := 0, slots := 0, locals := 89 } : Room) s m args below meth c H locs 0 0 (nQi below D A (Mw cy a) args s z) (F0 m 173 ls [.int y0]) := by
  obtain ⟨hx, hb, hr, hml, hown, hts, hlocks⟩ := C0
  intro σ x1 x2 x8 y0 H locs ls hl hP hS hf
  unfold b_X11_differ_173 at hf
  refine lv_iconst (v := 0) hx hb dX11_differ_173 (by decide) ?_
  exact K174 σ x1 x2 x8 y0 0 H locs ls (lv_sub hl [0, 1, 2, 3] rfl) hP hS hf
def b_X11_differ_174 (N : Nat) (k103 : nS → Int32 → Int32 → Int32 → Int32 → Option (Int32 × nS)) (σ : nS) (x1 : Int32) (x2 : Int32) (x8 : Int32) (y0 : Int32) (y1 : Int32) : Option (Int32 × nS) := nLet (y0 + y1 : Int32) (fun v1 => nLet (x8 + 1 : Int32) (fun v2 => k103 σ x1 x2 v1 v2))
set_option maxHeartbeats 4000000 in
set_option maxRecDepth 100000 in
theorem kb_X11_differ_174 {p : Program} {l : Launch} {e : Env} {s : State} {m : MethodId} {args : Array Value} {below : List Frame} {meth : Method} {c : Code} {D : va_G} {A : Nat → Prop} {cy : Nat → ClassId} {a kt vt : Nat → Nat} {N : Nat}   (C0 : nCx p s m args meth c cX11_differ 12 (some .int) RX11 wsX11_differ) (hE : nEn D A cy (Mw cy a) kt vt s) {z : Int32 × nS} {k103 : nS → Int32 → Int32 → Int32 → Int32 → Option (Int32 × nS)} (K103 : ∀ (σ : nS) (x1 : Int32) (x2 : Int32) (x7 : Int32) (x8 : Int32) (H : Heap) (locs : List Loc) (ls : Array Slot), lv_has ls 12 [(0, .ref (a 0)), (1, .int x1), (2, .int x2), (7, .int x7), (8, .int x8)] → va_P D vwCl ((Mw cy a) σ) H → va_S A s.heap H locs → k103 σ x1 x2 x7 x8 = some z → W p l e ({ frames := 4, cells := 0, slots := 0, locals := 89 } : Room) s m args below meth c H locs 0 0 (nQi below D A (Mw cy a) args s z) (F0 m 103 ls [])) : ∀ (σ : nS) (x1 : Int32) (x2 : Int32) (x8 : Int32) (y0 : Int32) (y1 : Int32) (H : Heap) (locs : List Loc) (ls : Array Slot), lv_has ls 12 [(0, .ref (a 0)), (1, .int x1), (2, .int x2), (8, .int x8)] → va_P D vwCl ((Mw cy a) σ) H → va_S A s.heap H locs → b_X11_differ_174 N k103 σ x1 x2 x8 y0 y1 = some z → W p l e ({ frames := 4, cells := 0, slots := 0, locals := 89 } : Room) s m args below meth c H locs 0 0 (nQi below D A (Mw cy a) args s z) (F0 m 174 ls [.int y1, .int y0]) := by
  obtain ⟨hx, hb, hr, hml, hown, hts, hlocks⟩ := C0
  intro σ x1 x2 x8 y0 y1 H locs ls hl hP hS hf
  unfold b_X11_differ_174 at hf
  refine lv_iadd hx hb dX11_differ_174 ?_
  refine lv_topi (fun v1 ev1 => ?_)
  replace hf := nLet_e hf ev1
  refine lv_istore (lv' := [(7, .int v1), (0, .ref (a 0)), (1, .int x1), (2, .int x2), (8, .int x8)]) hx hb dX11_differ_175 hl (by decide) rfl (fun ls hl => ?_)
  obtain ⟨v2, ev2⟩ : ∃ y : Int32, y = x8 + 1 := ⟨_, rfl⟩
  replace hf := nLet_e hf ev2
  refine lv_iinc (v := v2) (lv' := [(8, .int v2), (7, .int v1), (0, .ref (a 0)), (1, .int x1), (2, .int x2)]) hx hb dX11_differ_177 hl (k := 4) rfl (by rw [ev2]; rfl) (by decide) rfl (fun ls hl => ?_)
  refine lv_goto (tgt := 103) hx hb dX11_differ_180 (by decide) ?_
  exact K103 σ x1 x2 v1 v2 H locs ls (lv_sub hl [2, 3, 4, 1, 0] rfl) hP hS hf
def b_X11_differ_169 (N : Nat) (k174 : nS → Int32 → Int32 → Int32 → Int32 → Int32 → Option (Int32 × nS)) (σ : nS) (x1 : Int32) (x2 : Int32) (x8 : Int32) (y0 : Int32) : Option (Int32 × nS) := k174 σ x1 x2 x8 y0 1
set_option maxHeartbeats 4000000 in
set_option maxRecDepth 100000 in
theorem kb_X11_differ_169 {p : Program} {l : Launch} {e : Env} {s : State} {m : MethodId} {args : Array Value} {below : List Frame} {meth : Method} {c : Code} {D : va_G} {A : Nat → Prop} {cy : Nat → ClassId} {a kt vt : Nat → Nat} {N : Nat}   (C0 : nCx p s m args meth c cX11_differ 12 (some .int) RX11 wsX11_differ) (hE : nEn D A cy (Mw cy a) kt vt s) {z : Int32 × nS} {k174 : nS → Int32 → Int32 → Int32 → Int32 → Int32 → Option (Int32 × nS)} (K174 : ∀ (σ : nS) (x1 : Int32) (x2 : Int32) (x8 : Int32) (y0 : Int32) (y1 : Int32) (H : Heap) (locs : List Loc) (ls : Array Slot), lv_has ls 12 [(0, .ref (a 0)), (1, .int x1), (2, .int x2), (8, .int x8)] → va_P D vwCl ((Mw cy a) σ) H → va_S A s.heap H locs → k174 σ x1 x2 x8 y0 y1 = some z → W p l e ({ frames := 4, cells := 0, slots := 0, locals := 89 } : Room) s m args below meth c H locs 0 0 (nQi below D A (Mw cy a) args s z) (F0 m 174 ls [.int y1, .int y0])) : ∀ (σ : nS) (x1 : Int32) (x2 : Int32) (x8 : Int32) (y0 : Int32) (H : Heap) (locs : List Loc) (ls : Array Slot), lv_has ls 12 [(0, .ref (a 0)), (1, .int x1), (2, .int x2), (8, .int x8)] → va_P D vwCl ((Mw cy a) σ) H → va_S A s.heap H locs → b_X11_differ_169 N k174 σ x1 x2 x8 y0 = some z → W p l e ({ frames := 4, cells := 0, slots := 0, locals := 89 } : Room) s m args below meth c H locs 0 0 (nQi below D A (Mw cy a) args s z) (F0 m 169 ls [.int y0]) := by
  obtain ⟨hx, hb, hr, hml, hown, hts, hlocks⟩ := C0
  intro σ x1 x2 x8 y0 H locs ls hl hP hS hf
  unfold b_X11_differ_169 at hf
  refine lv_iconst (v := 1) hx hb dX11_differ_169 (by decide) ?_
  refine lv_goto (tgt := 174) hx hb dX11_differ_170 (by decide) ?_
  exact K174 σ x1 x2 x8 y0 1 H locs ls (lv_sub hl [0, 1, 2, 3] rfl) hP hS hf
def b_X11_differ_103 (N : Nat) (k169 : nS → Int32 → Int32 → Int32 → Int32 → Option (Int32 × nS)) (k173 : nS → Int32 → Int32 → Int32 → Int32 → Option (Int32 × nS)) (σ : nS) (x1 : Int32) (x2 : Int32) (x7 : Int32) (x8 : Int32) : Option (Int32 × nS) := (if (σ.1 0 46) ≤ x8 then nBd (f_X11_done N x7 σ) (fun r1 σ2 => some (r1, σ2)) else nIx x8 501 (nLet (σ.1 16 (x8).toNatClampNeg) (fun v3 => nBd (f_X11_playsChoice N x1 v3 σ) (fun r4 σ5 => nIx x8 501 (nLet (σ5.1 16 (x8).toNatClampNeg) (fun v6 => nBd (f_X11_playsChoice N x2 v6 σ5) (fun r7 σ8 => (if r4 = r7 then (if r4 = 0 then (if (σ5.1 0 33) = (σ8.1 0 33) then k173 σ8 x1 x2 x8 x7 else k169 σ8 x1 x2 x8 x7) else k173 σ8 x1 x2 x8 x7) else k169 σ8 x1 x2 x8 x7))))))))
set_option maxHeartbeats 4000000 in
set_option maxRecDepth 100000 in
theorem kb_X11_differ_103 {p : Program} {l : Launch} {e : Env} {s : State} {m : MethodId} {args : Array Value} {below : List Frame} {meth : Method} {c : Code} {D : va_G} {A : Nat → Prop} {cy : Nat → ClassId} {a kt vt : Nat → Nat} {N : Nat}   (C0 : nCx p s m args meth c cX11_differ 12 (some .int) RX11 wsX11_differ) (hE : nEn D A cy (Mw cy a) kt vt s) {z : Int32 × nS} {k169 : nS → Int32 → Int32 → Int32 → Int32 → Option (Int32 × nS)} (K169 : ∀ (σ : nS) (x1 : Int32) (x2 : Int32) (x8 : Int32) (y0 : Int32) (H : Heap) (locs : List Loc) (ls : Array Slot), lv_has ls 12 [(0, .ref (a 0)), (1, .int x1), (2, .int x2), (8, .int x8)] → va_P D vwCl ((Mw cy a) σ) H → va_S A s.heap H locs → k169 σ x1 x2 x8 y0 = some z → W p l e ({ frames := 4, cells := 0, slots := 0, locals := 89 } : Room) s m args below meth c H locs 0 0 (nQi below D A (Mw cy a) args s z) (F0 m 169 ls [.int y0])) {k173 : nS → Int32 → Int32 → Int32 → Int32 → Option (Int32 × nS)} (K173 : ∀ (σ : nS) (x1 : Int32) (x2 : Int32) (x8 : Int32) (y0 : Int32) (H : Heap) (locs : List Loc) (ls : Array Slot), lv_has ls 12 [(0, .ref (a 0)), (1, .int x1), (2, .int x2), (8, .int x8)] → va_P D vwCl ((Mw cy a) σ) H → va_S A s.heap H locs → k173 σ x1 x2 x8 y0 = some z → W p l e ({ frames := 4, cells := 0, slots := 0, locals := 89 } : Room) s m args below meth c H locs 0 0 (nQi below D A (Mw cy a) args s z) (F0 m 173 ls [.int y0])) : ∀ (σ : nS) (x1 : Int32) (x2 : Int32) (x7 : Int32) (x8 : Int32) (H : Heap) (locs : List Loc) (ls : Array Slot), lv_has ls 12 [(0, .ref (a 0)), (1, .int x1), (2, .int x2), (7, .int x7), (8, .int x8)] → va_P D vwCl ((Mw cy a) σ) H → va_S A s.heap H locs → b_X11_differ_103 N k169 k173 σ x1 x2 x7 x8 = some z → W p l e ({ frames := 4, cells := 0, slots := 0, locals := 89 } : Room) s m args below meth c H locs 0 0 (nQi below D A (Mw cy a) args s z) (F0 m 103 ls []) := by
  obtain ⟨hx, hb, hr, hml, hown, hts, hlocks⟩ := C0
  intro σ x1 x2 x7 x8 H locs ls hl hP hS hf
  unfold b_X11_differ_103 at hf
  refine lv_iload hx hb dX11_differ_103 (lv_at hl 4 rfl) ?_
  refine lv_aload_n hx hb dX11_differ_105 rfl (lv_at hl 0 rfl) ?_
  refine nb_get (ci := 11) hx hb hts iX11_differ_X11 hown hE hP 0 mbo_0 rfl 46 (by decide) qX11_differ_314 rfl rfl dX11_differ_106 ?_
  refine lv_icmp_ge (tgt := 183) hx hb dX11_differ_109 (by decide) (fun hc => ?_) (fun hc => ?_)
  · replace hf := nIf_t hc hf
    refine lv_aload_n hx hb dX11_differ_183 rfl (lv_at hl 0 rfl) ?_
    refine lv_iload hx hb dX11_differ_184 (lv_at hl 3 rfl) ?_
    obtain ⟨r1, σ2, hc2, hf⟩ := nBd_e hf
    refine nb_callVi (As := [.int x7]) (rest := []) ⟨hx, hb, hml, hown, hts⟩ (c_X11_done (D := D) (A := A) (cy := cy) (a := a) (kt := kt) (vt := vt) (l := l)  hc2) (cwV 1 hts gX11_differ_X11_done rfl rfl rfl (by decide +kernel) ⟨Nat.le_of_ble_eq_true rfl, Nat.le_of_ble_eq_true rfl⟩) hE hP hS mbo_0 rfl rfl hl.1 rfl (Nat.le_of_ble_eq_true rfl) dX11_differ_186 (fun H locs hP hS => ?_)
    exact nb_iret hx hb hr hlocks hP hS (nSo hf) dX11_differ_189
  · replace hf := nIf_f hc hf
    refine lv_aload_n hx hb dX11_differ_112 rfl (lv_at hl 0 rfl) ?_
    refine lv_iload_n hx hb dX11_differ_113 rfl (lv_at hl 1 rfl) ?_
    refine lv_aload_n hx hb dX11_differ_114 rfl (lv_at hl 0 rfl) ?_
    refine nb_get (ci := 11) hx hb hts iX11_differ_X11 hown hE hP 0 mbo_0 rfl 44 (by decide) qX11_differ_67 rfl rfl dX11_differ_115 ?_
    refine lv_iload hx hb dX11_differ_118 (lv_at hl 4 rfl) ?_
    obtain ⟨hin, hf⟩ := nIx_e hf
    refine na_iald hx hb hE hP mbr_16 hin dX11_differ_120 ?_
    refine lv_topi (fun v3 ev3 => ?_)
    replace hf := nLet_e hf ev3
    obtain ⟨r4, σ5, hc5, hf⟩ := nBd_e hf
    refine nb_callVi (As := [.int x1, .int v3]) (rest := []) ⟨hx, hb, hml, hown, hts⟩ (c_X11_playsChoice (D := D) (A := A) (cy := cy) (a := a) (kt := kt) (vt := vt) (l := l)  hc5) (cwV 2 hts gX11_differ_X11_playsChoice rfl rfl rfl (by decide +kernel) ⟨Nat.le_of_ble_eq_true rfl, Nat.le_of_ble_eq_true rfl⟩) hE hP hS mbo_0 rfl rfl hl.1 rfl (Nat.le_of_ble_eq_true rfl) dX11_differ_121 (fun H locs hP hS => ?_)
    refine lv_istore (lv' := [(9, .int r4), (0, .ref (a 0)), (1, .int x1), (2, .int x2), (7, .int x7), (8, .int x8)]) hx hb dX11_differ_124 hl (by decide) rfl (fun ls hl => ?_)
    refine lv_aload_n hx hb dX11_differ_126 rfl (lv_at hl 1 rfl) ?_
    refine nb_get (ci := 11) hx hb hts iX11_differ_X11 hown hE hP 0 mbo_0 rfl 33 (by decide) qX11_differ_263 rfl rfl dX11_differ_127 ?_
    refine lv_istore (lv' := [(10, .int (σ5.1 0 33)), (9, .int r4), (0, .ref (a 0)), (1, .int x1), (2, .int x2), (7, .int x7), (8, .int x8)]) hx hb dX11_differ_130 hl (by decide) rfl (fun ls hl => ?_)
    refine lv_aload_n hx hb dX11_differ_132 rfl (lv_at hl 2 rfl) ?_
    refine lv_iload_n hx hb dX11_differ_133 rfl (lv_at hl 4 rfl) ?_
    refine lv_aload_n hx hb dX11_differ_134 rfl (lv_at hl 2 rfl) ?_
    refine nb_get (ci := 11) hx hb hts iX11_differ_X11 hown hE hP 0 mbo_0 rfl 44 (by decide) qX11_differ_67 rfl rfl dX11_differ_135 ?_
    refine lv_iload hx hb dX11_differ_138 (lv_at hl 6 rfl) ?_
    obtain ⟨hin, hf⟩ := nIx_e hf
    refine na_iald hx hb hE hP mbr_16 hin dX11_differ_140 ?_
    refine lv_topi (fun v6 ev6 => ?_)
    replace hf := nLet_e hf ev6
    obtain ⟨r7, σ8, hc8, hf⟩ := nBd_e hf
    refine nb_callVi (As := [.int x2, .int v6]) (rest := []) ⟨hx, hb, hml, hown, hts⟩ (c_X11_playsChoice (D := D) (A := A) (cy := cy) (a := a) (kt := kt) (vt := vt) (l := l)  hc8) (cwV 2 hts gX11_differ_X11_playsChoice rfl rfl rfl (by decide +kernel) ⟨Nat.le_of_ble_eq_true rfl, Nat.le_of_ble_eq_true rfl⟩) hE hP hS mbo_0 rfl rfl hl.1 rfl (Nat.le_of_ble_eq_true rfl) dX11_differ_141 (fun H locs hP hS => ?_)
    refine lv_istore (lv' := [(11, .int r7), (10, .int (σ5.1 0 33)), (9, .int r4), (0, .ref (a 0)), (1, .int x1), (2, .int x2), (7, .int x7), (8, .int x8)]) hx hb dX11_differ_144 hl (by decide) rfl (fun ls hl => ?_)
    refine lv_iload hx hb dX11_differ_146 (lv_at hl 6 rfl) ?_
    refine lv_iload hx hb dX11_differ_148 (lv_at hl 2 rfl) ?_
    refine lv_iload hx hb dX11_differ_150 (lv_at hl 0 rfl) ?_
    refine lv_icmp_ne (tgt := 169) hx hb dX11_differ_152 (by decide) (fun hc => ?_) (fun hc => ?_)
    · replace hf := nIf_f hc hf
      exact K169 σ8 x1 x2 x8 x7 H locs ls (lv_sub hl [3, 4, 5, 7] rfl) hP hS hf
    · replace hf := nIf_t hc hf
      refine lv_iload hx hb dX11_differ_155 (lv_at hl 2 rfl) ?_
      refine lv_if_ne (tgt := 173) hx hb dX11_differ_157 (by decide) (fun hc => ?_) (fun hc => ?_)
      · replace hf := nIf_f hc hf
        exact K173 σ8 x1 x2 x8 x7 H locs ls (lv_sub hl [3, 4, 5, 7] rfl) hP hS hf
      · replace hf := nIf_t hc hf
        refine lv_iload hx hb dX11_differ_160 (lv_at hl 1 rfl) ?_
        refine lv_aload_n hx hb dX11_differ_162 rfl (lv_at hl 3 rfl) ?_
        refine nb_get (ci := 11) hx hb hts iX11_differ_X11 hown hE hP 0 mbo_0 rfl 33 (by decide) qX11_differ_263 rfl rfl dX11_differ_163 ?_
        refine lv_icmp_eq (tgt := 173) hx hb dX11_differ_166 (by decide) (fun hc => ?_) (fun hc => ?_)
        · replace hf := nIf_t hc hf
          exact K173 σ8 x1 x2 x8 x7 H locs ls (lv_sub hl [3, 4, 5, 7] rfl) hP hS hf
        · replace hf := nIf_f hc hf
          exact K169 σ8 x1 x2 x8 x7 H locs ls (lv_sub hl [3, 4, 5, 7] rfl) hP hS hf
def b_X11_differ_0 (N : Nat) (k103 : nS → Int32 → Int32 → Int32 → Int32 → Option (Int32 × nS)) (σ : nS) (x1 : Int32) (x2 : Int32) (x3 : Int32) (x4 : Int32) (x5 : Int32) (x6 : Int32) : Option (Int32 × nS) := nLet (wr σ 0 0 0) (fun σ1 => nBd (f_X11_isBook N x1 σ1) (fun r2 σ3 => (if r2 = 0 then nBd (f_X11_refused N 1 σ3) (fun r4 σ5 => some (r4, σ5)) else nBd (f_X11_isBook N x2 σ3) (fun r6 σ7 => (if r6 = 0 then nBd (f_X11_refused N 1 σ7) (fun r28 σ29 => some (r28, σ29)) else nBd (f_X11_in N x3 0 255 σ7) (fun r8 σ9 => (if r8 = 0 then nBd (f_X11_refused N 2 σ9) (fun r10 σ11 => some (r10, σ11)) else nBd (f_X11_in N x4 0 8 σ9) (fun r12 σ13 => (if r12 = 0 then nBd (f_X11_refused N 2 σ13) (fun r14 σ15 => some (r14, σ15)) else nBd (f_X11_in N x5 0 8 σ13) (fun r16 σ17 => (if r16 = 0 then nBd (f_X11_refused N 2 σ17) (fun r18 σ19 => some (r18, σ19)) else nBd (f_X11_in N x6 0 8 σ17) (fun r20 σ21 => (if r20 = 0 then nBd (f_X11_refused N 2 σ21) (fun r26 σ27 => some (r26, σ27)) else nBd (f_X11_chooses N x3 x4 x5 x6 σ21) (fun r22 σ23 => (if r22 = 0 then nBd (f_X11_refused N 3 σ23) (fun r24 σ25 => some (r24, σ25)) else k103 σ23 x1 x2 0 0)))))))))))))))
set_option maxHeartbeats 4000000 in
set_option maxRecDepth 100000 in
theorem kb_X11_differ_0 {p : Program} {l : Launch} {e : Env} {s : State} {m : MethodId} {args : Array Value} {below : List Frame} {meth : Method} {c : Code} {D : va_G} {A : Nat → Prop} {cy : Nat → ClassId} {a kt vt : Nat → Nat} {N : Nat}   (C0 : nCx p s m args meth c cX11_differ 12 (some .int) RX11 wsX11_differ) (hE : nEn D A cy (Mw cy a) kt vt s) {z : Int32 × nS} {k103 : nS → Int32 → Int32 → Int32 → Int32 → Option (Int32 × nS)} (K103 : ∀ (σ : nS) (x1 : Int32) (x2 : Int32) (x7 : Int32) (x8 : Int32) (H : Heap) (locs : List Loc) (ls : Array Slot), lv_has ls 12 [(0, .ref (a 0)), (1, .int x1), (2, .int x2), (7, .int x7), (8, .int x8)] → va_P D vwCl ((Mw cy a) σ) H → va_S A s.heap H locs → k103 σ x1 x2 x7 x8 = some z → W p l e ({ frames := 4, cells := 0, slots := 0, locals := 89 } : Room) s m args below meth c H locs 0 0 (nQi below D A (Mw cy a) args s z) (F0 m 103 ls [])) : ∀ (σ : nS) (x1 : Int32) (x2 : Int32) (x3 : Int32) (x4 : Int32) (x5 : Int32) (x6 : Int32) (H : Heap) (locs : List Loc) (ls : Array Slot), lv_has ls 12 [(0, .ref (a 0)), (1, .int x1), (2, .int x2), (3, .int x3), (4, .int x4), (5, .int x5), (6, .int x6)] → va_P D vwCl ((Mw cy a) σ) H → va_S A s.heap H locs → b_X11_differ_0 N k103 σ x1 x2 x3 x4 x5 x6 = some z → W p l e ({ frames := 4, cells := 0, slots := 0, locals := 89 } : Room) s m args below meth c H locs 0 0 (nQi below D A (Mw cy a) args s z) (F0 m 0 ls []) := by
  obtain ⟨hx, hb, hr, hml, hown, hts, hlocks⟩ := C0
  intro σ x1 x2 x3 x4 x5 x6 H locs ls hl hP hS hf
  unfold b_X11_differ_0 at hf
  refine lv_aload_n hx hb dX11_differ_0 rfl (lv_at hl 0 rfl) ?_
  refine lv_iconst (v := 0) hx hb dX11_differ_1 (by decide) ?_
  refine nb_put (ci := 11) hx hb hts iX11_differ_X11 tyX11 tyX11_ok nmX11 hown hE hP hS 0 mbo_0 rfl 0 (by decide) qX11_differ_117 rfl rfl rfl rfl (Nat.le_of_ble_eq_true rfl) dX11_differ_2 (mbp_0_0 _) (fun σ1 eσ1 H locs hP hS => ?_)
  replace hf := nLet_e hf eσ1
  refine lv_aload_n hx hb dX11_differ_5 rfl (lv_at hl 0 rfl) ?_
  refine lv_iload_n hx hb dX11_differ_6 rfl (lv_at hl 1 rfl) ?_
  obtain ⟨r2, σ3, hc3, hf⟩ := nBd_e hf
  refine nb_callVi (As := [.int x1]) (rest := []) ⟨hx, hb, hml, hown, hts⟩ (c_X11_isBook (D := D) (A := A) (cy := cy) (a := a) (kt := kt) (vt := vt) (l := l)  hc3) (cwV 1 hts gX11_differ_X11_isBook rfl rfl rfl (by decide +kernel) ⟨Nat.le_of_ble_eq_true rfl, Nat.le_of_ble_eq_true rfl⟩) hE hP hS mbo_0 rfl rfl hl.1 rfl (Nat.le_of_ble_eq_true rfl) dX11_differ_7 (fun H locs hP hS => ?_)
  refine lv_if_eq (tgt := 21) hx hb dX11_differ_10 (by decide) (fun hc => ?_) (fun hc => ?_)
  · replace hf := nIf_t hc hf
    refine lv_aload_n hx hb dX11_differ_21 rfl (lv_at hl 0 rfl) ?_
    refine lv_iconst (v := 1) hx hb dX11_differ_22 (by decide) ?_
    obtain ⟨r4, σ5, hc5, hf⟩ := nBd_e hf
    refine nb_callVi (As := [.int 1]) (rest := []) ⟨hx, hb, hml, hown, hts⟩ (c_X11_refused (D := D) (A := A) (cy := cy) (a := a) (kt := kt) (vt := vt) (l := l)  hc5) (cwV 1 hts gX11_differ_X11_refused rfl rfl rfl (by decide +kernel) ⟨Nat.le_of_ble_eq_true rfl, Nat.le_of_ble_eq_true rfl⟩) hE hP hS mbo_0 rfl rfl hl.1 rfl (Nat.le_of_ble_eq_true rfl) dX11_differ_23 (fun H locs hP hS => ?_)
    exact nb_iret hx hb hr hlocks hP hS (nSo hf) dX11_differ_26
  · replace hf := nIf_f hc hf
    refine lv_aload_n hx hb dX11_differ_13 rfl (lv_at hl 0 rfl) ?_
    refine lv_iload_n hx hb dX11_differ_14 rfl (lv_at hl 2 rfl) ?_
    obtain ⟨r6, σ7, hc7, hf⟩ := nBd_e hf
    refine nb_callVi (As := [.int x2]) (rest := []) ⟨hx, hb, hml, hown, hts⟩ (c_X11_isBook (D := D) (A := A) (cy := cy) (a := a) (kt := kt) (vt := vt) (l := l)  hc7) (cwV 1 hts gX11_differ_X11_isBook rfl rfl rfl (by decide +kernel) ⟨Nat.le_of_ble_eq_true rfl, Nat.le_of_ble_eq_true rfl⟩) hE hP hS mbo_0 rfl rfl hl.1 rfl (Nat.le_of_ble_eq_true rfl) dX11_differ_15 (fun H locs hP hS => ?_)
    refine lv_if_ne (tgt := 27) hx hb dX11_differ_18 (by decide) (fun hc => ?_) (fun hc => ?_)
    · replace hf := nIf_f hc hf
      refine lv_iload_n hx hb dX11_differ_27 rfl (lv_at hl 3 rfl) ?_
      refine lv_iconst (v := 0) hx hb dX11_differ_28 (by decide) ?_
      refine lv_sipush (v := 255) hx hb dX11_differ_29 (by decide) ?_
      obtain ⟨r8, σ9, hc9, hf⟩ := nBd_e hf
      refine nb_callSi (As := [.int x3, .int 0, .int 255]) (rest := []) ⟨hx, hb, hml, hown, hts⟩ (c_X11_in (D := D) (A := A) (cy := cy) (a := a) (kt := kt) (vt := vt) (l := l)  hc9) (va_cwS 3 hts gX11_differ_X11_in rfl rfl rfl (by decide +kernel) ⟨Nat.le_of_ble_eq_true rfl, Nat.le_of_ble_eq_true rfl⟩) hE hP hS rfl hl.1 rfl (Nat.le_of_ble_eq_true rfl) dX11_differ_32 (fun H locs hP hS => ?_)
      refine lv_if_eq (tgt := 71) hx hb dX11_differ_35 (by decide) (fun hc => ?_) (fun hc => ?_)
      · replace hf := nIf_t hc hf
        refine lv_aload_n hx hb dX11_differ_71 rfl (lv_at hl 0 rfl) ?_
        refine lv_iconst (v := 2) hx hb dX11_differ_72 (by decide) ?_
        obtain ⟨r10, σ11, hc11, hf⟩ := nBd_e hf
        refine nb_callVi (As := [.int 2]) (rest := []) ⟨hx, hb, hml, hown, hts⟩ (c_X11_refused (D := D) (A := A) (cy := cy) (a := a) (kt := kt) (vt := vt) (l := l)  hc11) (cwV 1 hts gX11_differ_X11_refused rfl rfl rfl (by decide +kernel) ⟨Nat.le_of_ble_eq_true rfl, Nat.le_of_ble_eq_true rfl⟩) hE hP hS mbo_0 rfl rfl hl.1 rfl (Nat.le_of_ble_eq_true rfl) dX11_differ_73 (fun H locs hP hS => ?_)
        exact nb_iret hx hb hr hlocks hP hS (nSo hf) dX11_differ_76
      · replace hf := nIf_f hc hf
        refine lv_iload hx hb dX11_differ_38 (lv_at hl 4 rfl) ?_
        refine lv_iconst (v := 0) hx hb dX11_differ_40 (by decide) ?_
        refine lv_bipush (v := 8) hx hb dX11_differ_41 (by decide) ?_
        obtain ⟨r12, σ13, hc13, hf⟩ := nBd_e hf
        refine nb_callSi (As := [.int x4, .int 0, .int 8]) (rest := []) ⟨hx, hb, hml, hown, hts⟩ (c_X11_in (D := D) (A := A) (cy := cy) (a := a) (kt := kt) (vt := vt) (l := l)  hc13) (va_cwS 3 hts gX11_differ_X11_in rfl rfl rfl (by decide +kernel) ⟨Nat.le_of_ble_eq_true rfl, Nat.le_of_ble_eq_true rfl⟩) hE hP hS rfl hl.1 rfl (Nat.le_of_ble_eq_true rfl) dX11_differ_43 (fun H locs hP hS => ?_)
        refine lv_if_eq (tgt := 71) hx hb dX11_differ_46 (by decide) (fun hc => ?_) (fun hc => ?_)
        · replace hf := nIf_t hc hf
          refine lv_aload_n hx hb dX11_differ_71 rfl (lv_at hl 0 rfl) ?_
          refine lv_iconst (v := 2) hx hb dX11_differ_72 (by decide) ?_
          obtain ⟨r14, σ15, hc15, hf⟩ := nBd_e hf
          refine nb_callVi (As := [.int 2]) (rest := []) ⟨hx, hb, hml, hown, hts⟩ (c_X11_refused (D := D) (A := A) (cy := cy) (a := a) (kt := kt) (vt := vt) (l := l)  hc15) (cwV 1 hts gX11_differ_X11_refused rfl rfl rfl (by decide +kernel) ⟨Nat.le_of_ble_eq_true rfl, Nat.le_of_ble_eq_true rfl⟩) hE hP hS mbo_0 rfl rfl hl.1 rfl (Nat.le_of_ble_eq_true rfl) dX11_differ_73 (fun H locs hP hS => ?_)
          exact nb_iret hx hb hr hlocks hP hS (nSo hf) dX11_differ_76
        · replace hf := nIf_f hc hf
          refine lv_iload hx hb dX11_differ_49 (lv_at hl 5 rfl) ?_
          refine lv_iconst (v := 0) hx hb dX11_differ_51 (by decide) ?_
          refine lv_bipush (v := 8) hx hb dX11_differ_52 (by decide) ?_
          obtain ⟨r16, σ17, hc17, hf⟩ := nBd_e hf
          refine nb_callSi (As := [.int x5, .int 0, .int 8]) (rest := []) ⟨hx, hb, hml, hown, hts⟩ (c_X11_in (D := D) (A := A) (cy := cy) (a := a) (kt := kt) (vt := vt) (l := l)  hc17) (va_cwS 3 hts gX11_differ_X11_in rfl rfl rfl (by decide +kernel) ⟨Nat.le_of_ble_eq_true rfl, Nat.le_of_ble_eq_true rfl⟩) hE hP hS rfl hl.1 rfl (Nat.le_of_ble_eq_true rfl) dX11_differ_54 (fun H locs hP hS => ?_)
          refine lv_if_eq (tgt := 71) hx hb dX11_differ_57 (by decide) (fun hc => ?_) (fun hc => ?_)
          · replace hf := nIf_t hc hf
            refine lv_aload_n hx hb dX11_differ_71 rfl (lv_at hl 0 rfl) ?_
            refine lv_iconst (v := 2) hx hb dX11_differ_72 (by decide) ?_
            obtain ⟨r18, σ19, hc19, hf⟩ := nBd_e hf
            refine nb_callVi (As := [.int 2]) (rest := []) ⟨hx, hb, hml, hown, hts⟩ (c_X11_refused (D := D) (A := A) (cy := cy) (a := a) (kt := kt) (vt := vt) (l := l)  hc19) (cwV 1 hts gX11_differ_X11_refused rfl rfl rfl (by decide +kernel) ⟨Nat.le_of_ble_eq_true rfl, Nat.le_of_ble_eq_true rfl⟩) hE hP hS mbo_0 rfl rfl hl.1 rfl (Nat.le_of_ble_eq_true rfl) dX11_differ_73 (fun H locs hP hS => ?_)
            exact nb_iret hx hb hr hlocks hP hS (nSo hf) dX11_differ_76
          · replace hf := nIf_f hc hf
            refine lv_iload hx hb dX11_differ_60 (lv_at hl 6 rfl) ?_
            refine lv_iconst (v := 0) hx hb dX11_differ_62 (by decide) ?_
            refine lv_bipush (v := 8) hx hb dX11_differ_63 (by decide) ?_
            obtain ⟨r20, σ21, hc21, hf⟩ := nBd_e hf
            refine nb_callSi (As := [.int x6, .int 0, .int 8]) (rest := []) ⟨hx, hb, hml, hown, hts⟩ (c_X11_in (D := D) (A := A) (cy := cy) (a := a) (kt := kt) (vt := vt) (l := l)  hc21) (va_cwS 3 hts gX11_differ_X11_in rfl rfl rfl (by decide +kernel) ⟨Nat.le_of_ble_eq_true rfl, Nat.le_of_ble_eq_true rfl⟩) hE hP hS rfl hl.1 rfl (Nat.le_of_ble_eq_true rfl) dX11_differ_65 (fun H locs hP hS => ?_)
            refine lv_if_ne (tgt := 77) hx hb dX11_differ_68 (by decide) (fun hc => ?_) (fun hc => ?_)
            · replace hf := nIf_f hc hf
              refine lv_aload_n hx hb dX11_differ_77 rfl (lv_at hl 0 rfl) ?_
              refine lv_iload_n hx hb dX11_differ_78 rfl (lv_at hl 3 rfl) ?_
              refine lv_iload hx hb dX11_differ_79 (lv_at hl 4 rfl) ?_
              refine lv_iload hx hb dX11_differ_81 (lv_at hl 5 rfl) ?_
              refine lv_iload hx hb dX11_differ_83 (lv_at hl 6 rfl) ?_
              obtain ⟨r22, σ23, hc23, hf⟩ := nBd_e hf
              refine nb_callVi (As := [.int x3, .int x4, .int x5, .int x6]) (rest := []) ⟨hx, hb, hml, hown, hts⟩ (c_X11_chooses (D := D) (A := A) (cy := cy) (a := a) (kt := kt) (vt := vt) (l := l)  hc23) (cwV 4 hts gX11_differ_X11_chooses rfl rfl rfl (by decide +kernel) ⟨Nat.le_of_ble_eq_true rfl, Nat.le_of_ble_eq_true rfl⟩) hE hP hS mbo_0 rfl rfl hl.1 rfl (Nat.le_of_ble_eq_true rfl) dX11_differ_85 (fun H locs hP hS => ?_)
              refine lv_if_ne (tgt := 97) hx hb dX11_differ_88 (by decide) (fun hc => ?_) (fun hc => ?_)
              · replace hf := nIf_f hc hf
                refine lv_iconst (v := 0) hx hb dX11_differ_97 (by decide) ?_
                refine lv_istore (lv' := [(7, .int 0), (0, .ref (a 0)), (1, .int x1), (2, .int x2), (3, .int x3), (4, .int x4), (5, .int x5), (6, .int x6)]) hx hb dX11_differ_98 hl (by decide) rfl (fun ls hl => ?_)
                refine lv_iconst (v := 0) hx hb dX11_differ_100 (by decide) ?_
                refine lv_istore (lv' := [(8, .int 0), (7, .int 0), (0, .ref (a 0)), (1, .int x1), (2, .int x2), (3, .int x3), (4, .int x4), (5, .int x5), (6, .int x6)]) hx hb dX11_differ_101 hl (by decide) rfl (fun ls hl => ?_)
                exact K103 σ23 x1 x2 0 0 H locs ls (lv_sub hl [2, 3, 4, 1, 0] rfl) hP hS hf
              · replace hf := nIf_t hc hf
                refine lv_aload_n hx hb dX11_differ_91 rfl (lv_at hl 0 rfl) ?_
                refine lv_iconst (v := 3) hx hb dX11_differ_92 (by decide) ?_
                obtain ⟨r24, σ25, hc25, hf⟩ := nBd_e hf
                refine nb_callVi (As := [.int 3]) (rest := []) ⟨hx, hb, hml, hown, hts⟩ (c_X11_refused (D := D) (A := A) (cy := cy) (a := a) (kt := kt) (vt := vt) (l := l)  hc25) (cwV 1 hts gX11_differ_X11_refused rfl rfl rfl (by decide +kernel) ⟨Nat.le_of_ble_eq_true rfl, Nat.le_of_ble_eq_true rfl⟩) hE hP hS mbo_0 rfl rfl hl.1 rfl (Nat.le_of_ble_eq_true rfl) dX11_differ_93 (fun H locs hP hS => ?_)
                exact nb_iret hx hb hr hlocks hP hS (nSo hf) dX11_differ_96
            · replace hf := nIf_t hc hf
              refine lv_aload_n hx hb dX11_differ_71 rfl (lv_at hl 0 rfl) ?_
              refine lv_iconst (v := 2) hx hb dX11_differ_72 (by decide) ?_
              obtain ⟨r26, σ27, hc27, hf⟩ := nBd_e hf
              refine nb_callVi (As := [.int 2]) (rest := []) ⟨hx, hb, hml, hown, hts⟩ (c_X11_refused (D := D) (A := A) (cy := cy) (a := a) (kt := kt) (vt := vt) (l := l)  hc27) (cwV 1 hts gX11_differ_X11_refused rfl rfl rfl (by decide +kernel) ⟨Nat.le_of_ble_eq_true rfl, Nat.le_of_ble_eq_true rfl⟩) hE hP hS mbo_0 rfl rfl hl.1 rfl (Nat.le_of_ble_eq_true rfl) dX11_differ_73 (fun H locs hP hS => ?_)
              exact nb_iret hx hb hr hlocks hP hS (nSo hf) dX11_differ_76
    · replace hf := nIf_t hc hf
      refine lv_aload_n hx hb dX11_differ_21 rfl (lv_at hl 0 rfl) ?_
      refine lv_iconst (v := 1) hx hb dX11_differ_22 (by decide) ?_
      obtain ⟨r28, σ29, hc29, hf⟩ := nBd_e hf
      refine nb_callVi (As := [.int 1]) (rest := []) ⟨hx, hb, hml, hown, hts⟩ (c_X11_refused (D := D) (A := A) (cy := cy) (a := a) (kt := kt) (vt := vt) (l := l)  hc29) (cwV 1 hts gX11_differ_X11_refused rfl rfl rfl (by decide +kernel) ⟨Nat.le_of_ble_eq_true rfl, Nat.le_of_ble_eq_true rfl⟩) hE hP hS mbo_0 rfl rfl hl.1 rfl (Nat.le_of_ble_eq_true rfl) dX11_differ_23 (fun H locs hP hS => ?_)
      exact nb_iret hx hb hr hlocks hP hS (nSo hf) dX11_differ_26
def l_X11_differ_173 (N : Nat) (k174 : nS → Int32 → Int32 → Int32 → Int32 → Int32 → Option (Int32 × nS)) : nS → Int32 → Int32 → Int32 → Int32 → Option (Int32 × nS) := b_X11_differ_173 N k174
theorem kl_X11_differ_173 {p : Program} {l : Launch} {e : Env} {s : State} {m : MethodId} {args : Array Value} {below : List Frame} {meth : Method} {c : Code} {D : va_G} {A : Nat → Prop} {cy : Nat → ClassId} {a kt vt : Nat → Nat} {N : Nat}   (C0 : nCx p s m args meth c cX11_differ 12 (some .int) RX11 wsX11_differ) (hE : nEn D A cy (Mw cy a) kt vt s) {z : Int32 × nS} {k174 : nS → Int32 → Int32 → Int32 → Int32 → Int32 → Option (Int32 × nS)} (K174 : ∀ (σ : nS) (x1 : Int32) (x2 : Int32) (x8 : Int32) (y0 : Int32) (y1 : Int32) (H : Heap) (locs : List Loc) (ls : Array Slot), lv_has ls 12 [(0, .ref (a 0)), (1, .int x1), (2, .int x2), (8, .int x8)] → va_P D vwCl ((Mw cy a) σ) H → va_S A s.heap H locs → k174 σ x1 x2 x8 y0 y1 = some z → W p l e ({ frames := 4, cells := 0, slots := 0, locals := 89 } : Room) s m args below meth c H locs 0 0 (nQi below D A (Mw cy a) args s z) (F0 m 174 ls [.int y1, .int y0])) : ∀ (σ : nS) (x1 : Int32) (x2 : Int32) (x8 : Int32) (y0 : Int32) (H : Heap) (locs : List Loc) (ls : Array Slot), lv_has ls 12 [(0, .ref (a 0)), (1, .int x1), (2, .int x2), (8, .int x8)] → va_P D vwCl ((Mw cy a) σ) H → va_S A s.heap H locs → l_X11_differ_173 N k174 σ x1 x2 x8 y0 = some z → W p l e ({ frames := 4, cells := 0, slots := 0, locals := 89 } : Room) s m args below meth c H locs 0 0 (nQi below D A (Mw cy a) args s z) (F0 m 173 ls [.int y0]) := by
  exact kb_X11_differ_173 (N := N)  C0 hE K174
def l_X11_differ_174 (N : Nat) (k103 : nS → Int32 → Int32 → Int32 → Int32 → Option (Int32 × nS)) : nS → Int32 → Int32 → Int32 → Int32 → Int32 → Option (Int32 × nS) := b_X11_differ_174 N k103
theorem kl_X11_differ_174 {p : Program} {l : Launch} {e : Env} {s : State} {m : MethodId} {args : Array Value} {below : List Frame} {meth : Method} {c : Code} {D : va_G} {A : Nat → Prop} {cy : Nat → ClassId} {a kt vt : Nat → Nat} {N : Nat}   (C0 : nCx p s m args meth c cX11_differ 12 (some .int) RX11 wsX11_differ) (hE : nEn D A cy (Mw cy a) kt vt s) {z : Int32 × nS} {k103 : nS → Int32 → Int32 → Int32 → Int32 → Option (Int32 × nS)} (K103 : ∀ (σ : nS) (x1 : Int32) (x2 : Int32) (x7 : Int32) (x8 : Int32) (H : Heap) (locs : List Loc) (ls : Array Slot), lv_has ls 12 [(0, .ref (a 0)), (1, .int x1), (2, .int x2), (7, .int x7), (8, .int x8)] → va_P D vwCl ((Mw cy a) σ) H → va_S A s.heap H locs → k103 σ x1 x2 x7 x8 = some z → W p l e ({ frames := 4, cells := 0, slots := 0, locals := 89 } : Room) s m args below meth c H locs 0 0 (nQi below D A (Mw cy a) args s z) (F0 m 103 ls [])) : ∀ (σ : nS) (x1 : Int32) (x2 : Int32) (x8 : Int32) (y0 : Int32) (y1 : Int32) (H : Heap) (locs : List Loc) (ls : Array Slot), lv_has ls 12 [(0, .ref (a 0)), (1, .int x1), (2, .int x2), (8, .int x8)] → va_P D vwCl ((Mw cy a) σ) H → va_S A s.heap H locs → l_X11_differ_174 N k103 σ x1 x2 x8 y0 y1 = some z → W p l e ({ frames := 4, cells := 0, slots := 0, locals := 89 } : Room) s m args below meth c H locs 0 0 (nQi below D A (Mw cy a) args s z) (F0 m 174 ls [.int y1, .int y0]) := by
  exact kb_X11_differ_174 (N := N)  C0 hE K103
def l_X11_differ_169 (N : Nat) (k174 : nS → Int32 → Int32 → Int32 → Int32 → Int32 → Option (Int32 × nS)) : nS → Int32 → Int32 → Int32 → Int32 → Option (Int32 × nS) := b_X11_differ_169 N k174
theorem kl_X11_differ_169 {p : Program} {l : Launch} {e : Env} {s : State} {m : MethodId} {args : Array Value} {below : List Frame} {meth : Method} {c : Code} {D : va_G} {A : Nat → Prop} {cy : Nat → ClassId} {a kt vt : Nat → Nat} {N : Nat}   (C0 : nCx p s m args meth c cX11_differ 12 (some .int) RX11 wsX11_differ) (hE : nEn D A cy (Mw cy a) kt vt s) {z : Int32 × nS} {k174 : nS → Int32 → Int32 → Int32 → Int32 → Int32 → Option (Int32 × nS)} (K174 : ∀ (σ : nS) (x1 : Int32) (x2 : Int32) (x8 : Int32) (y0 : Int32) (y1 : Int32) (H : Heap) (locs : List Loc) (ls : Array Slot), lv_has ls 12 [(0, .ref (a 0)), (1, .int x1), (2, .int x2), (8, .int x8)] → va_P D vwCl ((Mw cy a) σ) H → va_S A s.heap H locs → k174 σ x1 x2 x8 y0 y1 = some z → W p l e ({ frames := 4, cells := 0, slots := 0, locals := 89 } : Room) s m args below meth c H locs 0 0 (nQi below D A (Mw cy a) args s z) (F0 m 174 ls [.int y1, .int y0])) : ∀ (σ : nS) (x1 : Int32) (x2 : Int32) (x8 : Int32) (y0 : Int32) (H : Heap) (locs : List Loc) (ls : Array Slot), lv_has ls 12 [(0, .ref (a 0)), (1, .int x1), (2, .int x2), (8, .int x8)] → va_P D vwCl ((Mw cy a) σ) H → va_S A s.heap H locs → l_X11_differ_169 N k174 σ x1 x2 x8 y0 = some z → W p l e ({ frames := 4, cells := 0, slots := 0, locals := 89 } : Room) s m args below meth c H locs 0 0 (nQi below D A (Mw cy a) args s z) (F0 m 169 ls [.int y0]) := by
  exact kb_X11_differ_169 (N := N)  C0 hE K174
def l_X11_differ_103 (N : Nat) : nS → Int32 → Int32 → Int32 → Int32 → Option (Int32 × nS) := nLp (fun _ _ _ _ _ => none) (fun again => b_X11_differ_103 N (l_X11_differ_169 N (l_X11_differ_174 N again)) (l_X11_differ_173 N (l_X11_differ_174 N again))) N
theorem kl_X11_differ_103 {p : Program} {l : Launch} {e : Env} {s : State} {m : MethodId} {args : Array Value} {below : List Frame} {meth : Method} {c : Code} {D : va_G} {A : Nat → Prop} {cy : Nat → ClassId} {a kt vt : Nat → Nat} {N : Nat}   (C0 : nCx p s m args meth c cX11_differ 12 (some .int) RX11 wsX11_differ) (hE : nEn D A cy (Mw cy a) kt vt s) {z : Int32 × nS} : ∀ (σ : nS) (x1 : Int32) (x2 : Int32) (x7 : Int32) (x8 : Int32) (H : Heap) (locs : List Loc) (ls : Array Slot), lv_has ls 12 [(0, .ref (a 0)), (1, .int x1), (2, .int x2), (7, .int x7), (8, .int x8)] → va_P D vwCl ((Mw cy a) σ) H → va_S A s.heap H locs → l_X11_differ_103 N σ x1 x2 x7 x8 = some z → W p l e ({ frames := 4, cells := 0, slots := 0, locals := 89 } : Room) s m args below meth c H locs 0 0 (nQi below D A (Mw cy a) args s z) (F0 m 103 ls []) := by
  have main : ∀ (fu : Nat), ∀ (σ : nS) (x1 : Int32) (x2 : Int32) (x7 : Int32) (x8 : Int32) (H : Heap) (locs : List Loc) (ls : Array Slot), lv_has ls 12 [(0, .ref (a 0)), (1, .int x1), (2, .int x2), (7, .int x7), (8, .int x8)] → va_P D vwCl ((Mw cy a) σ) H → va_S A s.heap H locs → nLp (fun _ _ _ _ _ => none) (fun again => b_X11_differ_103 N (l_X11_differ_169 N (l_X11_differ_174 N again)) (l_X11_differ_173 N (l_X11_differ_174 N again))) fu σ x1 x2 x7 x8 = some z → W p l e ({ frames := 4, cells := 0, slots := 0, locals := 89 } : Room) s m args below meth c H locs 0 0 (nQi below D A (Mw cy a) args s z) (F0 m 103 ls []) := by
    intro fu
    induction fu with
    | zero => intro σ x1 x2 x7 x8 H locs ls hl hP hS hf; cases hf
    | succ fu ih => exact kb_X11_differ_103 (N := N)  C0 hE (kl_X11_differ_169 (N := N)  C0 hE (kl_X11_differ_174 (N := N)  C0 hE ih)) (kl_X11_differ_173 (N := N)  C0 hE (kl_X11_differ_174 (N := N)  C0 hE ih))
  exact main N
def l_X11_differ_0 (N : Nat) : nS → Int32 → Int32 → Int32 → Int32 → Int32 → Int32 → Option (Int32 × nS) := b_X11_differ_0 N (l_X11_differ_103 N)
theorem kl_X11_differ_0 {p : Program} {l : Launch} {e : Env} {s : State} {m : MethodId} {args : Array Value} {below : List Frame} {meth : Method} {c : Code} {D : va_G} {A : Nat → Prop} {cy : Nat → ClassId} {a kt vt : Nat → Nat} {N : Nat}   (C0 : nCx p s m args meth c cX11_differ 12 (some .int) RX11 wsX11_differ) (hE : nEn D A cy (Mw cy a) kt vt s) {z : Int32 × nS} : ∀ (σ : nS) (x1 : Int32) (x2 : Int32) (x3 : Int32) (x4 : Int32) (x5 : Int32) (x6 : Int32) (H : Heap) (locs : List Loc) (ls : Array Slot), lv_has ls 12 [(0, .ref (a 0)), (1, .int x1), (2, .int x2), (3, .int x3), (4, .int x4), (5, .int x5), (6, .int x6)] → va_P D vwCl ((Mw cy a) σ) H → va_S A s.heap H locs → l_X11_differ_0 N σ x1 x2 x3 x4 x5 x6 = some z → W p l e ({ frames := 4, cells := 0, slots := 0, locals := 89 } : Room) s m args below meth c H locs 0 0 (nQi below D A (Mw cy a) args s z) (F0 m 0 ls []) := by
  exact kb_X11_differ_0 (N := N)  C0 hE (kl_X11_differ_103 (N := N)  C0 hE)
def f_X11_differ (N : Nat) (x1 : Int32) (x2 : Int32) (x3 : Int32) (x4 : Int32) (x5 : Int32) (x6 : Int32) (σ : nS) : Option (Int32 × nS) := l_X11_differ_0 N σ x1 x2 x3 x4 x5 x6
set_option maxHeartbeats 4000000 in
set_option maxRecDepth 100000 in
theorem c_X11_differ {l : Launch} {D : va_G} {A : Nat → Prop} {cy : Nat → ClassId} {a kt vt : Nat → Nat} {N : Nat}   {x1 : Int32} {x2 : Int32} {x3 : Int32} {x4 : Int32} {x5 : Int32} {x6 : Int32} {σ : nS} {r : Int32} {σ' : nS} (hf : f_X11_differ N x1 x2 x3 x4 x5 x6 σ = some (r, σ')) : nMi l yX11_differ wsX11_differ ({ frames := 4, cells := 0, slots := 0, locals := 89 } : Room) D A cy (Mw cy a) kt vt [.ref (a 0), .int x1, .int x2, .int x3, .int x4, .int x5, .int x6] σ r σ' := by
  refine Met.ofW (cc := cX11_differ) (maxL := 12) (ret := (some .int)) (by decide) rfl ?_
  intro p e s m args below meth c s₁ B hml hv
  obtain ⟨rfl, hP, hE⟩ := hv
  have hl := lv_entry ([.ref (a 0), .int x1, .int x2, .int x3, .int x4, .int x5, .int x6]) (n := 12) (Nat.le_of_ble_eq_true rfl)
  rw [lg_entry_eq]
  generalize (lg_sl ([.ref (a 0), .int x1, .int x2, .int x3, .int x4, .int x5, .int x6]) ++ List.replicate (12 - (lg_sl ([.ref (a 0), .int x1, .int x2, .int x3, .int x4, .int x5, .int x6])).length) Slot.unset).toArray = ls at hl ⊢
  have C0 : nCx p s m _ meth c cX11_differ 12 (some .int) RX11 wsX11_differ := ⟨B.exec, B.bytes, B.returns, hml, findClass_of_methodNamed B.named, atoms_spec (ws := wsX11_differ) B.pre, B.notSynchronized⟩
  exact kl_X11_differ_0 (N := N)  C0 hE (z := (r, σ')) σ x1 x2 x3 x4 x5 x6 _ _ ls hl hP va_S.rf hf
/-! X11_count -/
set_option maxRecDepth 20000 in
theorem iX11_count_X11 : ∀ w ∈ u_ws RX11 TX11 68, w ∈ wsX11_count := fun _ h => List.mem_cons_of_mem _ (List.mem_append_right _ h)
set_option maxRecDepth 20000 in
theorem qX11_count_117 : Cond.fieldLink RX11 117 RX11 (TX11 0).2.1 (TX11 0).2.2.1 ∈ wsX11_count := by decide +kernel
set_option maxRecDepth 20000 in
theorem qX11_count_123 : Cond.fieldLink RX11 123 RX11 (TX11 4).2.1 (TX11 4).2.2.1 ∈ wsX11_count := by decide +kernel
set_option maxRecDepth 20000 in
theorem qX11_count_133 : Cond.fieldLink RX11 133 RX11 (TX11 5).2.1 (TX11 5).2.2.1 ∈ wsX11_count := by decide +kernel
set_option maxRecDepth 20000 in
theorem qX11_count_140 : Cond.fieldLink RX11 140 RX11 (TX11 6).2.1 (TX11 6).2.2.1 ∈ wsX11_count := by decide +kernel
set_option maxRecDepth 20000 in
theorem qX11_count_201 : Cond.fieldLink RX11 201 RX11 (TX11 7).2.1 (TX11 7).2.2.1 ∈ wsX11_count := by decide +kernel
set_option maxRecDepth 20000 in
theorem qX11_count_420 : Cond.fieldLink RX11 420 RX11 (TX11 65).2.1 (TX11 65).2.2.1 ∈ wsX11_count := by decide +kernel
set_option maxRecDepth 20000 in
theorem qX11_count_242 : Cond.fieldLink RX11 242 RX11 (TX11 19).2.1 (TX11 19).2.2.1 ∈ wsX11_count := by decide +kernel
def b_X11_count_0 (N : Nat) (σ : nS) (x1 : Int32) : Option (Int32 × nS) := nLet (wr σ 0 0 0) (fun σ1 => (if x1 = 0 then some ((σ1.1 0 4), σ1) else (if x1 = 1 then some ((σ1.1 0 5), σ1) else (if x1 = 2 then some ((σ1.1 0 6), σ1) else (if x1 = 3 then some ((σ1.1 0 7), σ1) else (if x1 = 4 then some ((σ1.1 0 65), σ1) else (if x1 = 5 then some ((σ1.1 0 19), σ1) else some ((-1), σ1))))))))
set_option maxHeartbeats 4000000 in
set_option maxRecDepth 100000 in
theorem kb_X11_count_0 {p : Program} {l : Launch} {e : Env} {s : State} {m : MethodId} {args : Array Value} {below : List Frame} {meth : Method} {c : Code} {D : va_G} {A : Nat → Prop} {cy : Nat → ClassId} {a kt vt : Nat → Nat} {N : Nat}   (C0 : nCx p s m args meth c cX11_count 2 (some .int) RX11 wsX11_count) (hE : nEn D A cy (Mw cy a) kt vt s) {z : Int32 × nS} : ∀ (σ : nS) (x1 : Int32) (H : Heap) (locs : List Loc) (ls : Array Slot), lv_has ls 2 [(0, .ref (a 0)), (1, .int x1)] → va_P D vwCl ((Mw cy a) σ) H → va_S A s.heap H locs → b_X11_count_0 N σ x1 = some z → W p l e ({ frames := 0, cells := 0, slots := 0, locals := 0 } : Room) s m args below meth c H locs 0 0 (nQi below D A (Mw cy a) args s z) (F0 m 0 ls []) := by
  obtain ⟨hx, hb, hr, hml, hown, hts, hlocks⟩ := C0
  intro σ x1 H locs ls hl hP hS hf
  unfold b_X11_count_0 at hf
  refine lv_aload_n hx hb dX11_count_0 rfl (lv_at hl 0 rfl) ?_
  refine lv_iconst (v := 0) hx hb dX11_count_1 (by decide) ?_
  refine nb_put (ci := 11) hx hb hts iX11_count_X11 tyX11 tyX11_ok nmX11 hown hE hP hS 0 mbo_0 rfl 0 (by decide) qX11_count_117 rfl rfl rfl rfl (Nat.le_of_ble_eq_true rfl) dX11_count_2 (mbp_0_0 _) (fun σ1 eσ1 H locs hP hS => ?_)
  replace hf := nLet_e hf eσ1
  refine lv_iload_n hx hb dX11_count_5 rfl (lv_at hl 1 rfl) ?_
  by_cases hs0 : x1 = 0
  · replace hf := nIf_t hs0 hf
    refine lv_tableIn (tgt := 44) (off := 38) hx hb dX11_count_6 (by rw [hs0]; decide) (by rw [hs0]; decide) (by rw [hs0]; rfl) (by decide) ?_
    refine lv_aload_n hx hb dX11_count_44 rfl (lv_at hl 0 rfl) ?_
    refine nb_get (ci := 11) hx hb hts iX11_count_X11 hown hE hP 0 mbo_0 rfl 4 (by decide) qX11_count_123 rfl rfl dX11_count_45 ?_
    exact nb_iret hx hb hr hlocks hP hS (nSo hf) dX11_count_48
  · replace hf := nIf_f hs0 hf
    by_cases hs1 : x1 = 1
    · replace hf := nIf_t hs1 hf
      refine lv_tableIn (tgt := 49) (off := 43) hx hb dX11_count_6 (by rw [hs1]; decide) (by rw [hs1]; decide) (by rw [hs1]; rfl) (by decide) ?_
      refine lv_aload_n hx hb dX11_count_49 rfl (lv_at hl 0 rfl) ?_
      refine nb_get (ci := 11) hx hb hts iX11_count_X11 hown hE hP 0 mbo_0 rfl 5 (by decide) qX11_count_133 rfl rfl dX11_count_50 ?_
      exact nb_iret hx hb hr hlocks hP hS (nSo hf) dX11_count_53
    · replace hf := nIf_f hs1 hf
      by_cases hs2 : x1 = 2
      · replace hf := nIf_t hs2 hf
        refine lv_tableIn (tgt := 54) (off := 48) hx hb dX11_count_6 (by rw [hs2]; decide) (by rw [hs2]; decide) (by rw [hs2]; rfl) (by decide) ?_
        refine lv_aload_n hx hb dX11_count_54 rfl (lv_at hl 0 rfl) ?_
        refine nb_get (ci := 11) hx hb hts iX11_count_X11 hown hE hP 0 mbo_0 rfl 6 (by decide) qX11_count_140 rfl rfl dX11_count_55 ?_
        exact nb_iret hx hb hr hlocks hP hS (nSo hf) dX11_count_58
      · replace hf := nIf_f hs2 hf
        by_cases hs3 : x1 = 3
        · replace hf := nIf_t hs3 hf
          refine lv_tableIn (tgt := 59) (off := 53) hx hb dX11_count_6 (by rw [hs3]; decide) (by rw [hs3]; decide) (by rw [hs3]; rfl) (by decide) ?_
          refine lv_aload_n hx hb dX11_count_59 rfl (lv_at hl 0 rfl) ?_
          refine nb_get (ci := 11) hx hb hts iX11_count_X11 hown hE hP 0 mbo_0 rfl 7 (by decide) qX11_count_201 rfl rfl dX11_count_60 ?_
          exact nb_iret hx hb hr hlocks hP hS (nSo hf) dX11_count_63
        · replace hf := nIf_f hs3 hf
          by_cases hs4 : x1 = 4
          · replace hf := nIf_t hs4 hf
            refine lv_tableIn (tgt := 64) (off := 58) hx hb dX11_count_6 (by rw [hs4]; decide) (by rw [hs4]; decide) (by rw [hs4]; rfl) (by decide) ?_
            refine lv_aload_n hx hb dX11_count_64 rfl (lv_at hl 0 rfl) ?_
            refine nb_get (ci := 11) hx hb hts iX11_count_X11 hown hE hP 0 mbo_0 rfl 65 (by decide) qX11_count_420 rfl rfl dX11_count_65 ?_
            exact nb_iret hx hb hr hlocks hP hS (nSo hf) dX11_count_68
          · replace hf := nIf_f hs4 hf
            by_cases hs5 : x1 = 5
            · replace hf := nIf_t hs5 hf
              refine lv_tableIn (tgt := 69) (off := 63) hx hb dX11_count_6 (by rw [hs5]; decide) (by rw [hs5]; decide) (by rw [hs5]; rfl) (by decide) ?_
              refine lv_aload_n hx hb dX11_count_69 rfl (lv_at hl 0 rfl) ?_
              refine nb_get (ci := 11) hx hb hts iX11_count_X11 hown hE hP 0 mbo_0 rfl 19 (by decide) qX11_count_242 rfl rfl dX11_count_70 ?_
              exact nb_iret hx hb hr hlocks hP hS (nSo hf) dX11_count_73
            · replace hf := nIf_f hs5 hf
              have gs0 := nI_ne (z := 0) hs0 (by decide)
              have gs1 := nI_ne (z := 1) hs1 (by decide)
              have gs2 := nI_ne (z := 2) hs2 (by decide)
              have gs3 := nI_ne (z := 3) hs3 (by decide)
              have gs4 := nI_ne (z := 4) hs4 (by decide)
              have gs5 := nI_ne (z := 5) hs5 (by decide)
              refine lv_tableOut (tgt := 74) hx hb dX11_count_6 (by omega) (by decide) ?_
              refine lv_iconst (v := (-1)) hx hb dX11_count_74 (by decide) ?_
              exact nb_iret hx hb hr hlocks hP hS (nSo hf) dX11_count_75
def l_X11_count_0 (N : Nat) : nS → Int32 → Option (Int32 × nS) := b_X11_count_0 N
theorem kl_X11_count_0 {p : Program} {l : Launch} {e : Env} {s : State} {m : MethodId} {args : Array Value} {below : List Frame} {meth : Method} {c : Code} {D : va_G} {A : Nat → Prop} {cy : Nat → ClassId} {a kt vt : Nat → Nat} {N : Nat}   (C0 : nCx p s m args meth c cX11_count 2 (some .int) RX11 wsX11_count) (hE : nEn D A cy (Mw cy a) kt vt s) {z : Int32 × nS} : ∀ (σ : nS) (x1 : Int32) (H : Heap) (locs : List Loc) (ls : Array Slot), lv_has ls 2 [(0, .ref (a 0)), (1, .int x1)] → va_P D vwCl ((Mw cy a) σ) H → va_S A s.heap H locs → l_X11_count_0 N σ x1 = some z → W p l e ({ frames := 0, cells := 0, slots := 0, locals := 0 } : Room) s m args below meth c H locs 0 0 (nQi below D A (Mw cy a) args s z) (F0 m 0 ls []) := by
  exact kb_X11_count_0 (N := N)  C0 hE
def f_X11_count (N : Nat) (x1 : Int32) (σ : nS) : Option (Int32 × nS) := l_X11_count_0 N σ x1
set_option maxHeartbeats 4000000 in
set_option maxRecDepth 100000 in
theorem c_X11_count {l : Launch} {D : va_G} {A : Nat → Prop} {cy : Nat → ClassId} {a kt vt : Nat → Nat} {N : Nat}   {x1 : Int32} {σ : nS} {r : Int32} {σ' : nS} (hf : f_X11_count N x1 σ = some (r, σ')) : nMi l yX11_count wsX11_count ({ frames := 0, cells := 0, slots := 0, locals := 0 } : Room) D A cy (Mw cy a) kt vt [.ref (a 0), .int x1] σ r σ' := by
  refine Met.ofW (cc := cX11_count) (maxL := 2) (ret := (some .int)) (by decide) rfl ?_
  intro p e s m args below meth c s₁ B hml hv
  obtain ⟨rfl, hP, hE⟩ := hv
  have hl := lv_entry ([.ref (a 0), .int x1]) (n := 2) (Nat.le_of_ble_eq_true rfl)
  rw [lg_entry_eq]
  generalize (lg_sl ([.ref (a 0), .int x1]) ++ List.replicate (2 - (lg_sl ([.ref (a 0), .int x1])).length) Slot.unset).toArray = ls at hl ⊢
  have C0 : nCx p s m _ meth c cX11_count 2 (some .int) RX11 wsX11_count := ⟨B.exec, B.bytes, B.returns, hml, findClass_of_methodNamed B.named, atoms_spec (ws := wsX11_count) B.pre, B.notSynchronized⟩
  exact kl_X11_count_0 (N := N)  C0 hE (z := (r, σ')) σ x1 _ _ ls hl hP va_S.rf hf
/-! X11_trouble -/
set_option maxRecDepth 20000 in
theorem iX11_trouble_X11 : ∀ w ∈ u_ws RX11 TX11 68, w ∈ wsX11_trouble := fun _ h => List.mem_cons_of_mem _ (List.mem_append_right _ h)
set_option maxRecDepth 20000 in
theorem qX11_trouble_117 : Cond.fieldLink RX11 117 RX11 (TX11 0).2.1 (TX11 0).2.2.1 ∈ wsX11_trouble := by decide +kernel
set_option maxRecDepth 20000 in
theorem qX11_trouble_120 : Cond.fieldLink RX11 120 RX11 (TX11 1).2.1 (TX11 1).2.2.1 ∈ wsX11_trouble := by decide +kernel
def b_X11_trouble_0 (N : Nat) (σ : nS) : Option (Int32 × nS) := nLet (wr σ 0 0 0) (fun σ1 => some ((σ1.1 0 1), σ1))
set_option maxHeartbeats 4000000 in
set_option maxRecDepth 100000 in
theorem kb_X11_trouble_0 {p : Program} {l : Launch} {e : Env} {s : State} {m : MethodId} {args : Array Value} {below : List Frame} {meth : Method} {c : Code} {D : va_G} {A : Nat → Prop} {cy : Nat → ClassId} {a kt vt : Nat → Nat} {N : Nat}   (C0 : nCx p s m args meth c cX11_trouble 1 (some .int) RX11 wsX11_trouble) (hE : nEn D A cy (Mw cy a) kt vt s) {z : Int32 × nS} : ∀ (σ : nS) (H : Heap) (locs : List Loc) (ls : Array Slot), lv_has ls 1 [(0, .ref (a 0))] → va_P D vwCl ((Mw cy a) σ) H → va_S A s.heap H locs → b_X11_trouble_0 N σ = some z → W p l e ({ frames := 0, cells := 0, slots := 0, locals := 0 } : Room) s m args below meth c H locs 0 0 (nQi below D A (Mw cy a) args s z) (F0 m 0 ls []) := by
  obtain ⟨hx, hb, hr, hml, hown, hts, hlocks⟩ := C0
  intro σ  H locs ls hl hP hS hf
  unfold b_X11_trouble_0 at hf
  refine lv_aload_n hx hb dX11_trouble_0 rfl (lv_at hl 0 rfl) ?_
  refine lv_iconst (v := 0) hx hb dX11_trouble_1 (by decide) ?_
  refine nb_put (ci := 11) hx hb hts iX11_trouble_X11 tyX11 tyX11_ok nmX11 hown hE hP hS 0 mbo_0 rfl 0 (by decide) qX11_trouble_117 rfl rfl rfl rfl (Nat.le_of_ble_eq_true rfl) dX11_trouble_2 (mbp_0_0 _) (fun σ1 eσ1 H locs hP hS => ?_)
  replace hf := nLet_e hf eσ1
  refine lv_aload_n hx hb dX11_trouble_5 rfl (lv_at hl 0 rfl) ?_
  refine nb_get (ci := 11) hx hb hts iX11_trouble_X11 hown hE hP 0 mbo_0 rfl 1 (by decide) qX11_trouble_120 rfl rfl dX11_trouble_6 ?_
  exact nb_iret hx hb hr hlocks hP hS (nSo hf) dX11_trouble_9
def l_X11_trouble_0 (N : Nat) : nS → Option (Int32 × nS) := b_X11_trouble_0 N
theorem kl_X11_trouble_0 {p : Program} {l : Launch} {e : Env} {s : State} {m : MethodId} {args : Array Value} {below : List Frame} {meth : Method} {c : Code} {D : va_G} {A : Nat → Prop} {cy : Nat → ClassId} {a kt vt : Nat → Nat} {N : Nat}   (C0 : nCx p s m args meth c cX11_trouble 1 (some .int) RX11 wsX11_trouble) (hE : nEn D A cy (Mw cy a) kt vt s) {z : Int32 × nS} : ∀ (σ : nS) (H : Heap) (locs : List Loc) (ls : Array Slot), lv_has ls 1 [(0, .ref (a 0))] → va_P D vwCl ((Mw cy a) σ) H → va_S A s.heap H locs → l_X11_trouble_0 N σ = some z → W p l e ({ frames := 0, cells := 0, slots := 0, locals := 0 } : Room) s m args below meth c H locs 0 0 (nQi below D A (Mw cy a) args s z) (F0 m 0 ls []) := by
  exact kb_X11_trouble_0 (N := N)  C0 hE
def f_X11_trouble (N : Nat) (σ : nS) : Option (Int32 × nS) := l_X11_trouble_0 N σ
set_option maxHeartbeats 4000000 in
set_option maxRecDepth 100000 in
theorem c_X11_trouble {l : Launch} {D : va_G} {A : Nat → Prop} {cy : Nat → ClassId} {a kt vt : Nat → Nat} {N : Nat}   {σ : nS} {r : Int32} {σ' : nS} (hf : f_X11_trouble N σ = some (r, σ')) : nMi l yX11_trouble wsX11_trouble ({ frames := 0, cells := 0, slots := 0, locals := 0 } : Room) D A cy (Mw cy a) kt vt [.ref (a 0)] σ r σ' := by
  refine Met.ofW (cc := cX11_trouble) (maxL := 1) (ret := (some .int)) (by decide) rfl ?_
  intro p e s m args below meth c s₁ B hml hv
  obtain ⟨rfl, hP, hE⟩ := hv
  have hl := lv_entry ([.ref (a 0)]) (n := 1) (Nat.le_of_ble_eq_true rfl)
  rw [lg_entry_eq]
  generalize (lg_sl ([.ref (a 0)]) ++ List.replicate (1 - (lg_sl ([.ref (a 0)])).length) Slot.unset).toArray = ls at hl ⊢
  have C0 : nCx p s m _ meth c cX11_trouble 1 (some .int) RX11 wsX11_trouble := ⟨B.exec, B.bytes, B.returns, hml, findClass_of_methodNamed B.named, atoms_spec (ws := wsX11_trouble) B.pre, B.notSynchronized⟩
  exact kl_X11_trouble_0 (N := N)  C0 hE (z := (r, σ')) σ  _ _ ls hl hP va_S.rf hf
