/-! X11_hands -/
set_option maxRecDepth 20000 in
theorem iX11_hands_X11 : ∀ w ∈ u_ws RX11 TX11 68, w ∈ wsX11_hands := fun _ h => List.mem_cons_of_mem _ (List.mem_append_left _ (List.mem_append_right _ h))
set_option maxRecDepth 20000 in
theorem qX11_hands_29 : Cond.fieldLink RX11 29 RX11 (TX11 13).2.1 (TX11 13).2.2.1 ∈ wsX11_hands := by decide +kernel
set_option maxRecDepth 20000 in
theorem qX11_hands_140 : Cond.fieldLink RX11 140 RX11 (TX11 6).2.1 (TX11 6).2.2.1 ∈ wsX11_hands := by decide +kernel
set_option maxRecDepth 20000 in
theorem qX11_hands_38 : Cond.fieldLink RX11 38 RX11 (TX11 16).2.1 (TX11 16).2.2.1 ∈ wsX11_hands := by decide +kernel
set_option maxRecDepth 20000 in
theorem iX11_hands_X9 : ∀ w ∈ u_ws RX9 TX9 11, w ∈ wsX11_hands := fun _ h => List.mem_cons_of_mem _ (List.mem_append_right _ h)
set_option maxRecDepth 20000 in
theorem qX11_hands_20 : Cond.fieldLink RX11 20 RX11 (TX11 10).2.1 (TX11 10).2.2.1 ∈ wsX11_hands := by decide +kernel
set_option maxRecDepth 20000 in
theorem qX11_hands_99 : Cond.fieldLink RX11 99 RX11 (TX11 60).2.1 (TX11 60).2.2.1 ∈ wsX11_hands := by decide +kernel
set_option maxRecDepth 20000 in
theorem qX11_hands_35 : Cond.fieldLink RX11 35 RX11 (TX11 15).2.1 (TX11 15).2.2.1 ∈ wsX11_hands := by decide +kernel
def b_X11_hands_148 (N : Nat) (n : Nat) (σ : nS) (x2 : Int32) (x3 : Int32) (x5 : Int32) : Option (Int32 × nS) := nIx x2 120 (nLet (σ.1 7 (x2).toNatClampNeg) (fun v1 => nLet (x3 + v1 : Int32) (fun v2 => nIx x5 4 (nLet (wr σ 25 (x5).toNatClampNeg v2) (fun σ3 => nIx x2 120 (nLet (σ3.1 7 (x2).toNatClampNeg) (fun v4 => nLet ((σ3.1 n 1) + (1 : Int32) : Int32) (fun v5 => nBd (f_X9_takes N n v4 v5 x3 σ3) (fun r6 σ7 => some (0, σ7))))))))))
set_option maxHeartbeats 4000000 in
set_option maxRecDepth 100000 in
theorem kb_X11_hands_148 {p : Program} {l : Launch} {e : Env} {s : State} {m : MethodId} {args : Array Value} {below : List Frame} {meth : Method} {c : Code} {D : va_G} {A : Nat → Prop} {cy : Nat → ClassId} {a kt vt : Nat → Nat} {N : Nat} {n : Nat} (hn : nNt n) (C0 : nCx p s m args meth c cX11_hands 7 none RX11 wsX11_hands) (hE : nEn D A cy (Mw cy a) kt vt s) {z : Int32 × nS} : ∀ (σ : nS) (x2 : Int32) (x3 : Int32) (x5 : Int32) (H : Heap) (locs : List Loc) (ls : Array Slot), lv_has ls 7 [(0, .ref (a 0)), (1, .ref (a n)), (2, .int x2), (3, .int x3), (5, .int x5)] → va_P D vwCl ((Mw cy a) σ) H → va_S A s.heap H locs → b_X11_hands_148 N n σ x2 x3 x5 = some z → W p l e ({ frames := 1, cells := 0, slots := 0, locals := 24 } : Room) s m args below meth c H locs 0 0 (nQv below D A (Mw cy a) args s z) (F0 m 148 ls []) := by
  obtain ⟨hx, hb, hr, hml, hown, hts, hlocks⟩ := C0
  intro σ x2 x3 x5 H locs ls hl hP hS hf
  unfold b_X11_hands_148 at hf
  refine lv_aload_n hx hb dX11_hands_148 rfl (lv_at hl 0 rfl) ?_
  refine nb_get (ci := 11) hx hb hts iX11_hands_X11 hown hE hP 0 mbo_0 rfl 60 (by decide) qX11_hands_99 rfl rfl dX11_hands_149 ?_
  refine lv_iload hx hb dX11_hands_152 (lv_at hl 4 rfl) ?_
  refine lv_iload_n hx hb dX11_hands_154 rfl (lv_at hl 3 rfl) ?_
  refine lv_aload_n hx hb dX11_hands_155 rfl (lv_at hl 0 rfl) ?_
  refine nb_get (ci := 11) hx hb hts iX11_hands_X11 hown hE hP 0 mbo_0 rfl 15 (by decide) qX11_hands_35 rfl rfl dX11_hands_156 ?_
  refine lv_iload_n hx hb dX11_hands_159 rfl (lv_at hl 2 rfl) ?_
  obtain ⟨hin, hf⟩ := nIx_e hf
  refine na_iald hx hb hE hP mbr_7 hin dX11_hands_160 ?_
  refine lv_topi (fun v1 ev1 => ?_)
  replace hf := nLet_e hf ev1
  refine lv_iadd hx hb dX11_hands_161 ?_
  refine lv_topi (fun v2 ev2 => ?_)
  replace hf := nLet_e hf ev2
  obtain ⟨hin, hf⟩ := nIx_e hf
  refine na_iast hx hb hE hP hS mbr_25 hin dX11_hands_162 (fun σ3 eσ3 H locs hP hS => ?_)
  replace hf := nLet_e hf eσ3
  refine lv_aload_n hx hb dX11_hands_163 rfl (lv_at hl 1 rfl) ?_
  refine lv_aload_n hx hb dX11_hands_164 rfl (lv_at hl 0 rfl) ?_
  refine nb_get (ci := 11) hx hb hts iX11_hands_X11 hown hE hP 0 mbo_0 rfl 15 (by decide) qX11_hands_35 rfl rfl dX11_hands_165 ?_
  refine lv_iload_n hx hb dX11_hands_168 rfl (lv_at hl 2 rfl) ?_
  obtain ⟨hin, hf⟩ := nIx_e hf
  refine na_iald hx hb hE hP mbr_7 hin dX11_hands_169 ?_
  refine lv_topi (fun v4 ev4 => ?_)
  replace hf := nLet_e hf ev4
  refine lv_aload_n hx hb dX11_hands_170 rfl (lv_at hl 1 rfl) ?_
  refine nb_getN (ci := 9) hx hb hts iX11_hands_X9 hown hE hP n (mboN hn) rfl 1 (by decide) (host := RX11) (by decide +kernel) rfl rfl dX11_hands_171 ?_
  refine lv_iconst (v := 1) hx hb dX11_hands_174 (by decide) ?_
  refine lv_iadd hx hb dX11_hands_175 ?_
  refine lv_topi (fun v5 ev5 => ?_)
  replace hf := nLet_e hf ev5
  refine lv_iload_n hx hb dX11_hands_176 rfl (lv_at hl 3 rfl) ?_
  obtain ⟨r6, σ7, hc7, hf⟩ := nBd_e hf
  refine nb_callVv (As := [.int v4, .int v5, .int x3]) (rest := []) ⟨hx, hb, hml, hown, hts⟩ (c_X9_takes (D := D) (A := A) (cy := cy) (a := a) (kt := kt) (vt := vt) (l := l) hn hc7) (cwV 3 hts gX11_hands_X9_takes rfl rfl rfl (by decide +kernel) ⟨Nat.le_of_ble_eq_true rfl, Nat.le_of_ble_eq_true rfl⟩) hE hP hS (mboN hn) rfl rfl hl.1 rfl (Nat.le_of_ble_eq_true rfl) dX11_hands_177 (fun H locs hP hS => ?_)
  exact nb_vret hx hb hr hlocks hP hS (nSo hf) dX11_hands_180
def b_X11_hands_83 (N : Nat) (n : Nat) (k33 : nS → Int32 → Int32 → Int32 → Int32 → Int32 → Option (Int32 × nS)) (σ : nS) (x2 : Int32) (x3 : Int32) (x4 : Int32) (x5 : Int32) (x6 : Int32) : Option (Int32 × nS) := nLet (x6 + (-1) : Int32) (fun v1 => k33 σ x2 x3 x4 x5 v1)
set_option maxHeartbeats 4000000 in
set_option maxRecDepth 100000 in
theorem kb_X11_hands_83 {p : Program} {l : Launch} {e : Env} {s : State} {m : MethodId} {args : Array Value} {below : List Frame} {meth : Method} {c : Code} {D : va_G} {A : Nat → Prop} {cy : Nat → ClassId} {a kt vt : Nat → Nat} {N : Nat} {n : Nat} (hn : nNt n) (C0 : nCx p s m args meth c cX11_hands 7 none RX11 wsX11_hands) (hE : nEn D A cy (Mw cy a) kt vt s) {z : Int32 × nS} {k33 : nS → Int32 → Int32 → Int32 → Int32 → Int32 → Option (Int32 × nS)} (K33 : ∀ (σ : nS) (x2 : Int32) (x3 : Int32) (x4 : Int32) (x5 : Int32) (x6 : Int32) (H : Heap) (locs : List Loc) (ls : Array Slot), lv_has ls 7 [(0, .ref (a 0)), (1, .ref (a n)), (2, .int x2), (3, .int x3), (4, .int x4), (5, .int x5), (6, .int x6)] → va_P D vwCl ((Mw cy a) σ) H → va_S A s.heap H locs → k33 σ x2 x3 x4 x5 x6 = some z → W p l e ({ frames := 1, cells := 0, slots := 0, locals := 24 } : Room) s m args below meth c H locs 0 0 (nQv below D A (Mw cy a) args s z) (F0 m 33 ls [])) : ∀ (σ : nS) (x2 : Int32) (x3 : Int32) (x4 : Int32) (x5 : Int32) (x6 : Int32) (H : Heap) (locs : List Loc) (ls : Array Slot), lv_has ls 7 [(0, .ref (a 0)), (1, .ref (a n)), (2, .int x2), (3, .int x3), (4, .int x4), (5, .int x5), (6, .int x6)] → va_P D vwCl ((Mw cy a) σ) H → va_S A s.heap H locs → b_X11_hands_83 N n k33 σ x2 x3 x4 x5 x6 = some z → W p l e ({ frames := 1, cells := 0, slots := 0, locals := 24 } : Room) s m args below meth c H locs 0 0 (nQv below D A (Mw cy a) args s z) (F0 m 83 ls []) := by
  obtain ⟨hx, hb, hr, hml, hown, hts, hlocks⟩ := C0
  intro σ x2 x3 x4 x5 x6 H locs ls hl hP hS hf
  unfold b_X11_hands_83 at hf
  obtain ⟨v1, ev1⟩ : ∃ y : Int32, y = x6 + (-1) := ⟨_, rfl⟩
  replace hf := nLet_e hf ev1
  refine lv_iinc (v := v1) (lv' := [(6, .int v1), (0, .ref (a 0)), (1, .ref (a n)), (2, .int x2), (3, .int x3), (4, .int x4), (5, .int x5)]) hx hb dX11_hands_83 hl (k := 6) rfl (by rw [ev1]; rfl) (by decide) rfl (fun ls hl => ?_)
  refine lv_goto (tgt := 33) hx hb dX11_hands_86 (by decide) ?_
  exact K33 σ x2 x3 x4 x5 v1 H locs ls (lv_sub hl [1, 2, 3, 4, 5, 6, 0] rfl) hP hS hf
def b_X11_hands_33 (N : Nat) (n : Nat) (k83 : nS → Int32 → Int32 → Int32 → Int32 → Int32 → Option (Int32 × nS)) (k148 : nS → Int32 → Int32 → Int32 → Option (Int32 × nS)) (σ : nS) (x2 : Int32) (x3 : Int32) (x4 : Int32) (x5 : Int32) (x6 : Int32) : Option (Int32 × nS) := (if x6 < 0 then (if x5 = (-1) then nLet (wr σ n 10 1) (fun σ7 => nLet ((σ7.1 n 8) + (1 : Int32) : Int32) (fun v8 => nLet (wr σ7 n 8 v8) (fun σ9 => some (0, σ9)))) else nIx x2 120 (nLet (σ.1 8 (x2).toNatClampNeg) (fun v1 => (if v1 = (-1) then k148 σ x2 x3 x5 else nIx x2 120 (nLet (σ.1 8 (x2).toNatClampNeg) (fun v2 => nLet ((σ.1 n 3) >>> (v2 &&& 31) : Int32) (fun v3 => nLet (v3 &&& (1 : Int32) : Int32) (fun v4 => (if v4 = 0 then nBd (f_X9_ends N n 3 x3 σ) (fun r5 σ6 => some (0, σ6)) else k148 σ x2 x3 x5))))))))) else nLet (x4 >>> (x6 &&& 31) : Int32) (fun v10 => nLet (v10 &&& (1 : Int32) : Int32) (fun v11 => (if v11 = 0 then nIx x6 4 (nLet (σ.1 2 (x6).toNatClampNeg) (fun v12 => nIx x2 120 (nLet (σ.1 5 (x2).toNatClampNeg) (fun v13 => nLet (v12 >>> (v13 &&& 31) : Int32) (fun v14 => nLet (v14 &&& (1 : Int32) : Int32) (fun v15 => (if v15 = 1 then nIx x6 4 (nLet (σ.1 25 (x6).toNatClampNeg) (fun v16 => (if x3 < v16 then k83 σ x2 x3 x4 x5 x6 else k83 σ x2 x3 x4 x6 x6))) else k83 σ x2 x3 x4 x5 x6))))))) else k83 σ x2 x3 x4 x5 x6))))
set_option maxHeartbeats 4000000 in
set_option maxRecDepth 100000 in
theorem kb_X11_hands_33 {p : Program} {l : Launch} {e : Env} {s : State} {m : MethodId} {args : Array Value} {below : List Frame} {meth : Method} {c : Code} {D : va_G} {A : Nat → Prop} {cy : Nat → ClassId} {a kt vt : Nat → Nat} {N : Nat} {n : Nat} (hn : nNt n) (C0 : nCx p s m args meth c cX11_hands 7 none RX11 wsX11_hands) (hE : nEn D A cy (Mw cy a) kt vt s) {z : Int32 × nS} {k83 : nS → Int32 → Int32 → Int32 → Int32 → Int32 → Option (Int32 × nS)} (K83 : ∀ (σ : nS) (x2 : Int32) (x3 : Int32) (x4 : Int32) (x5 : Int32) (x6 : Int32) (H : Heap) (locs : List Loc) (ls : Array Slot), lv_has ls 7 [(0, .ref (a 0)), (1, .ref (a n)), (2, .int x2), (3, .int x3), (4, .int x4), (5, .int x5), (6, .int x6)] → va_P D vwCl ((Mw cy a) σ) H → va_S A s.heap H locs → k83 σ x2 x3 x4 x5 x6 = some z → W p l e ({ frames := 1, cells := 0, slots := 0, locals := 24 } : Room) s m args below meth c H locs 0 0 (nQv below D A (Mw cy a) args s z) (F0 m 83 ls [])) {k148 : nS → Int32 → Int32 → Int32 → Option (Int32 × nS)} (K148 : ∀ (σ : nS) (x2 : Int32) (x3 : Int32) (x5 : Int32) (H : Heap) (locs : List Loc) (ls : Array Slot), lv_has ls 7 [(0, .ref (a 0)), (1, .ref (a n)), (2, .int x2), (3, .int x3), (5, .int x5)] → va_P D vwCl ((Mw cy a) σ) H → va_S A s.heap H locs → k148 σ x2 x3 x5 = some z → W p l e ({ frames := 1, cells := 0, slots := 0, locals := 24 } : Room) s m args below meth c H locs 0 0 (nQv below D A (Mw cy a) args s z) (F0 m 148 ls [])) : ∀ (σ : nS) (x2 : Int32) (x3 : Int32) (x4 : Int32) (x5 : Int32) (x6 : Int32) (H : Heap) (locs : List Loc) (ls : Array Slot), lv_has ls 7 [(0, .ref (a 0)), (1, .ref (a n)), (2, .int x2), (3, .int x3), (4, .int x4), (5, .int x5), (6, .int x6)] → va_P D vwCl ((Mw cy a) σ) H → va_S A s.heap H locs → b_X11_hands_33 N n k83 k148 σ x2 x3 x4 x5 x6 = some z → W p l e ({ frames := 1, cells := 0, slots := 0, locals := 24 } : Room) s m args below meth c H locs 0 0 (nQv below D A (Mw cy a) args s z) (F0 m 33 ls []) := by
  obtain ⟨hx, hb, hr, hml, hown, hts, hlocks⟩ := C0
  intro σ x2 x3 x4 x5 x6 H locs ls hl hP hS hf
  unfold b_X11_hands_33 at hf
  refine lv_iload hx hb dX11_hands_33 (lv_at hl 6 rfl) ?_
  refine lv_if_lt (tgt := 89) hx hb dX11_hands_35 (by decide) (fun hc => ?_) (fun hc => ?_)
  · replace hf := nIf_t hc hf
    refine lv_iload hx hb dX11_hands_89 (lv_at hl 5 rfl) ?_
    refine lv_iconst (v := (-1)) hx hb dX11_hands_91 (by decide) ?_
    refine lv_icmp_ne (tgt := 113) hx hb dX11_hands_92 (by decide) (fun hc => ?_) (fun hc => ?_)
    · replace hf := nIf_f hc hf
      refine lv_aload_n hx hb dX11_hands_113 rfl (lv_at hl 0 rfl) ?_
      refine nb_get (ci := 11) hx hb hts iX11_hands_X11 hown hE hP 0 mbo_0 rfl 16 (by decide) qX11_hands_38 rfl rfl dX11_hands_114 ?_
      refine lv_iload_n hx hb dX11_hands_117 rfl (lv_at hl 2 rfl) ?_
      obtain ⟨hin, hf⟩ := nIx_e hf
      refine na_iald hx hb hE hP mbr_8 hin dX11_hands_118 ?_
      refine lv_topi (fun v1 ev1 => ?_)
      replace hf := nLet_e hf ev1
      refine lv_iconst (v := (-1)) hx hb dX11_hands_119 (by decide) ?_
      refine lv_icmp_eq (tgt := 148) hx hb dX11_hands_120 (by decide) (fun hc => ?_) (fun hc => ?_)
      · replace hf := nIf_t hc hf
        exact K148 σ x2 x3 x5 H locs ls (lv_sub hl [0, 1, 2, 3, 5] rfl) hP hS hf
      · replace hf := nIf_f hc hf
        refine lv_aload_n hx hb dX11_hands_123 rfl (lv_at hl 1 rfl) ?_
        refine nb_getN (ci := 9) hx hb hts iX11_hands_X9 hown hE hP n (mboN hn) rfl 3 (by decide) (host := RX11) (by decide +kernel) rfl rfl dX11_hands_124 ?_
        refine lv_aload_n hx hb dX11_hands_127 rfl (lv_at hl 0 rfl) ?_
        refine nb_get (ci := 11) hx hb hts iX11_hands_X11 hown hE hP 0 mbo_0 rfl 16 (by decide) qX11_hands_38 rfl rfl dX11_hands_128 ?_
        refine lv_iload_n hx hb dX11_hands_131 rfl (lv_at hl 2 rfl) ?_
        obtain ⟨hin, hf⟩ := nIx_e hf
        refine na_iald hx hb hE hP mbr_8 hin dX11_hands_132 ?_
        refine lv_topi (fun v2 ev2 => ?_)
        replace hf := nLet_e hf ev2
        refine lv_ishr hx hb dX11_hands_133 ?_
        refine lv_topi (fun v3 ev3 => ?_)
        replace hf := nLet_e hf ev3
        refine lv_iconst (v := 1) hx hb dX11_hands_134 (by decide) ?_
        refine lv_iand hx hb dX11_hands_135 ?_
        refine lv_topi (fun v4 ev4 => ?_)
        replace hf := nLet_e hf ev4
        refine lv_if_ne (tgt := 148) hx hb dX11_hands_136 (by decide) (fun hc => ?_) (fun hc => ?_)
        · replace hf := nIf_f hc hf
          exact K148 σ x2 x3 x5 H locs ls (lv_sub hl [0, 1, 2, 3, 5] rfl) hP hS hf
        · replace hf := nIf_t hc hf
          refine lv_aload_n hx hb dX11_hands_139 rfl (lv_at hl 1 rfl) ?_
          refine lv_iconst (v := 3) hx hb dX11_hands_140 (by decide) ?_
          refine lv_iload_n hx hb dX11_hands_141 rfl (lv_at hl 3 rfl) ?_
          obtain ⟨r5, σ6, hc6, hf⟩ := nBd_e hf
          refine nb_callVv (As := [.int 3, .int x3]) (rest := []) ⟨hx, hb, hml, hown, hts⟩ (c_X9_ends (D := D) (A := A) (cy := cy) (a := a) (kt := kt) (vt := vt) (l := l) hn hc6) (cwV 2 hts gX11_hands_X9_ends rfl rfl rfl (by decide +kernel) ⟨Nat.le_of_ble_eq_true rfl, Nat.le_of_ble_eq_true rfl⟩) hE hP hS (mboN hn) rfl rfl hl.1 rfl (Nat.le_of_ble_eq_true rfl) dX11_hands_142 (fun H locs hP hS => ?_)
          refine lv_goto (tgt := 180) hx hb dX11_hands_145 (by decide) ?_
          exact nb_vret hx hb hr hlocks hP hS (nSo hf) dX11_hands_180
    · replace hf := nIf_t hc hf
      refine lv_aload_n hx hb dX11_hands_95 rfl (lv_at hl 1 rfl) ?_
      refine lv_iconst (v := 1) hx hb dX11_hands_96 (by decide) ?_
      refine nb_putN (ci := 9) hx hb hts iX11_hands_X9 tyX9 tyX9_ok nmX9 hown hE hP hS n (mboN hn) rfl 10 (by decide) (host := RX11) (by decide +kernel) rfl rfl rfl rfl (Nat.le_of_ble_eq_true rfl) dX11_hands_97 (mbpN_10 hn _) (fun σ7 eσ7 H locs hP hS => ?_)
      replace hf := nLet_e hf eσ7
      refine lv_aload_n hx hb dX11_hands_100 rfl (lv_at hl 1 rfl) ?_
      refine lv_dup hx hb dX11_hands_101 rfl ?_
      refine nb_getN (ci := 9) hx hb hts iX11_hands_X9 hown hE hP n (mboN hn) rfl 8 (by decide) (host := RX11) (by decide +kernel) rfl rfl dX11_hands_102 ?_
      refine lv_iconst (v := 1) hx hb dX11_hands_105 (by decide) ?_
      refine lv_iadd hx hb dX11_hands_106 ?_
      refine lv_topi (fun v8 ev8 => ?_)
      replace hf := nLet_e hf ev8
      refine nb_putN (ci := 9) hx hb hts iX11_hands_X9 tyX9 tyX9_ok nmX9 hown hE hP hS n (mboN hn) rfl 8 (by decide) (host := RX11) (by decide +kernel) rfl rfl rfl rfl (Nat.le_of_ble_eq_true rfl) dX11_hands_107 (mbpN_8 hn _) (fun σ9 eσ9 H locs hP hS => ?_)
      replace hf := nLet_e hf eσ9
      refine lv_goto (tgt := 180) hx hb dX11_hands_110 (by decide) ?_
      exact nb_vret hx hb hr hlocks hP hS (nSo hf) dX11_hands_180
  · replace hf := nIf_f hc hf
    refine lv_iload hx hb dX11_hands_38 (lv_at hl 4 rfl) ?_
    refine lv_iload hx hb dX11_hands_40 (lv_at hl 6 rfl) ?_
    refine lv_ishr hx hb dX11_hands_42 ?_
    refine lv_topi (fun v10 ev10 => ?_)
    replace hf := nLet_e hf ev10
    refine lv_iconst (v := 1) hx hb dX11_hands_43 (by decide) ?_
    refine lv_iand hx hb dX11_hands_44 ?_
    refine lv_topi (fun v11 ev11 => ?_)
    replace hf := nLet_e hf ev11
    refine lv_if_ne (tgt := 83) hx hb dX11_hands_45 (by decide) (fun hc => ?_) (fun hc => ?_)
    · replace hf := nIf_f hc hf
      exact K83 σ x2 x3 x4 x5 x6 H locs ls (lv_sub hl [0, 1, 2, 3, 4, 5, 6] rfl) hP hS hf
    · replace hf := nIf_t hc hf
      refine lv_aload_n hx hb dX11_hands_48 rfl (lv_at hl 0 rfl) ?_
      refine nb_get (ci := 11) hx hb hts iX11_hands_X11 hown hE hP 0 mbo_0 rfl 10 (by decide) qX11_hands_20 rfl rfl dX11_hands_49 ?_
      refine lv_iload hx hb dX11_hands_52 (lv_at hl 6 rfl) ?_
      obtain ⟨hin, hf⟩ := nIx_e hf
      refine na_iald hx hb hE hP mbr_2 hin dX11_hands_54 ?_
      refine lv_topi (fun v12 ev12 => ?_)
      replace hf := nLet_e hf ev12
      refine lv_aload_n hx hb dX11_hands_55 rfl (lv_at hl 0 rfl) ?_
      refine nb_get (ci := 11) hx hb hts iX11_hands_X11 hown hE hP 0 mbo_0 rfl 13 (by decide) qX11_hands_29 rfl rfl dX11_hands_56 ?_
      refine lv_iload_n hx hb dX11_hands_59 rfl (lv_at hl 2 rfl) ?_
      obtain ⟨hin, hf⟩ := nIx_e hf
      refine na_iald hx hb hE hP mbr_5 hin dX11_hands_60 ?_
      refine lv_topi (fun v13 ev13 => ?_)
      replace hf := nLet_e hf ev13
      refine lv_ishr hx hb dX11_hands_61 ?_
      refine lv_topi (fun v14 ev14 => ?_)
      replace hf := nLet_e hf ev14
      refine lv_iconst (v := 1) hx hb dX11_hands_62 (by decide) ?_
      refine lv_iand hx hb dX11_hands_63 ?_
      refine lv_topi (fun v15 ev15 => ?_)
      replace hf := nLet_e hf ev15
      refine lv_iconst (v := 1) hx hb dX11_hands_64 (by decide) ?_
      refine lv_icmp_ne (tgt := 83) hx hb dX11_hands_65 (by decide) (fun hc => ?_) (fun hc => ?_)
      · replace hf := nIf_f hc hf
        exact K83 σ x2 x3 x4 x5 x6 H locs ls (lv_sub hl [0, 1, 2, 3, 4, 5, 6] rfl) hP hS hf
      · replace hf := nIf_t hc hf
        refine lv_aload_n hx hb dX11_hands_68 rfl (lv_at hl 0 rfl) ?_
        refine nb_get (ci := 11) hx hb hts iX11_hands_X11 hown hE hP 0 mbo_0 rfl 60 (by decide) qX11_hands_99 rfl rfl dX11_hands_69 ?_
        refine lv_iload hx hb dX11_hands_72 (lv_at hl 6 rfl) ?_
        obtain ⟨hin, hf⟩ := nIx_e hf
        refine na_iald hx hb hE hP mbr_25 hin dX11_hands_74 ?_
        refine lv_topi (fun v16 ev16 => ?_)
        replace hf := nLet_e hf ev16
        refine lv_iload_n hx hb dX11_hands_75 rfl (lv_at hl 3 rfl) ?_
        refine lv_icmp_gt (tgt := 83) hx hb dX11_hands_76 (by decide) (fun hc => ?_) (fun hc => ?_)
        · replace hf := nIf_t hc hf
          exact K83 σ x2 x3 x4 x5 x6 H locs ls (lv_sub hl [0, 1, 2, 3, 4, 5, 6] rfl) hP hS hf
        · replace hf := nIf_f hc hf
          refine lv_iload hx hb dX11_hands_79 (lv_at hl 6 rfl) ?_
          refine lv_istore (lv' := [(5, .int x6), (0, .ref (a 0)), (1, .ref (a n)), (2, .int x2), (3, .int x3), (4, .int x4), (6, .int x6)]) hx hb dX11_hands_81 hl (by decide) rfl (fun ls hl => ?_)
          exact K83 σ x2 x3 x4 x6 x6 H locs ls (lv_sub hl [1, 2, 3, 4, 5, 0, 6] rfl) hP hS hf
def b_X11_hands_0 (N : Nat) (n : Nat) (k33 : nS → Int32 → Int32 → Int32 → Int32 → Int32 → Option (Int32 × nS)) (σ : nS) (x2 : Int32) (x3 : Int32) (x4 : Int32) : Option (Int32 × nS) := nIx x2 120 (nLet (σ.1 5 (x2).toNatClampNeg) (fun v1 => nBd (f_X11_isThere N v1 x4 σ) (fun r2 σ3 => (if r2 = 0 then nBd (f_X9_ends N n 2 x3 σ3) (fun r5 σ6 => some (0, σ6)) else nLet ((σ3.1 0 6) - (1 : Int32) : Int32) (fun v4 => k33 σ3 x2 x3 x4 (-1) v4)))))
set_option maxHeartbeats 4000000 in
set_option maxRecDepth 100000 in
theorem kb_X11_hands_0 {p : Program} {l : Launch} {e : Env} {s : State} {m : MethodId} {args : Array Value} {below : List Frame} {meth : Method} {c : Code} {D : va_G} {A : Nat → Prop} {cy : Nat → ClassId} {a kt vt : Nat → Nat} {N : Nat} {n : Nat} (hn : nNt n) (C0 : nCx p s m args meth c cX11_hands 7 none RX11 wsX11_hands) (hE : nEn D A cy (Mw cy a) kt vt s) {z : Int32 × nS} {k33 : nS → Int32 → Int32 → Int32 → Int32 → Int32 → Option (Int32 × nS)} (K33 : ∀ (σ : nS) (x2 : Int32) (x3 : Int32) (x4 : Int32) (x5 : Int32) (x6 : Int32) (H : Heap) (locs : List Loc) (ls : Array Slot), lv_has ls 7 [(0, .ref (a 0)), (1, .ref (a n)), (2, .int x2), (3, .int x3), (4, .int x4), (5, .int x5), (6, .int x6)] → va_P D vwCl ((Mw cy a) σ) H → va_S A s.heap H locs → k33 σ x2 x3 x4 x5 x6 = some z → W p l e ({ frames := 1, cells := 0, slots := 0, locals := 24 } : Room) s m args below meth c H locs 0 0 (nQv below D A (Mw cy a) args s z) (F0 m 33 ls [])) : ∀ (σ : nS) (x2 : Int32) (x3 : Int32) (x4 : Int32) (H : Heap) (locs : List Loc) (ls : Array Slot), lv_has ls 7 [(0, .ref (a 0)), (1, .ref (a n)), (2, .int x2), (3, .int x3), (4, .int x4)] → va_P D vwCl ((Mw cy a) σ) H → va_S A s.heap H locs → b_X11_hands_0 N n k33 σ x2 x3 x4 = some z → W p l e ({ frames := 1, cells := 0, slots := 0, locals := 24 } : Room) s m args below meth c H locs 0 0 (nQv below D A (Mw cy a) args s z) (F0 m 0 ls []) := by
  obtain ⟨hx, hb, hr, hml, hown, hts, hlocks⟩ := C0
  intro σ x2 x3 x4 H locs ls hl hP hS hf
  unfold b_X11_hands_0 at hf
  refine lv_aload_n hx hb dX11_hands_0 rfl (lv_at hl 0 rfl) ?_
  refine lv_aload_n hx hb dX11_hands_1 rfl (lv_at hl 0 rfl) ?_
  refine nb_get (ci := 11) hx hb hts iX11_hands_X11 hown hE hP 0 mbo_0 rfl 13 (by decide) qX11_hands_29 rfl rfl dX11_hands_2 ?_
  refine lv_iload_n hx hb dX11_hands_5 rfl (lv_at hl 2 rfl) ?_
  obtain ⟨hin, hf⟩ := nIx_e hf
  refine na_iald hx hb hE hP mbr_5 hin dX11_hands_6 ?_
  refine lv_topi (fun v1 ev1 => ?_)
  replace hf := nLet_e hf ev1
  refine lv_iload hx hb dX11_hands_7 (lv_at hl 4 rfl) ?_
  obtain ⟨r2, σ3, hc3, hf⟩ := nBd_e hf
  refine nb_callVi (As := [.int v1, .int x4]) (rest := []) ⟨hx, hb, hml, hown, hts⟩ (c_X11_isThere (D := D) (A := A) (cy := cy) (a := a) (kt := kt) (vt := vt) (l := l)  hc3) (cwV 2 hts gX11_hands_X11_isThere rfl rfl rfl (by decide +kernel) ⟨Nat.le_of_ble_eq_true rfl, Nat.le_of_ble_eq_true rfl⟩) hE hP hS mbo_0 rfl rfl hl.1 rfl (Nat.le_of_ble_eq_true rfl) dX11_hands_9 (fun H locs hP hS => ?_)
  refine lv_if_ne (tgt := 22) hx hb dX11_hands_12 (by decide) (fun hc => ?_) (fun hc => ?_)
  · replace hf := nIf_f hc hf
    refine lv_iconst (v := (-1)) hx hb dX11_hands_22 (by decide) ?_
    refine lv_istore (lv' := [(5, .int (-1)), (0, .ref (a 0)), (1, .ref (a n)), (2, .int x2), (3, .int x3), (4, .int x4)]) hx hb dX11_hands_23 hl (by decide) rfl (fun ls hl => ?_)
    refine lv_aload_n hx hb dX11_hands_25 rfl (lv_at hl 1 rfl) ?_
    refine nb_get (ci := 11) hx hb hts iX11_hands_X11 hown hE hP 0 mbo_0 rfl 6 (by decide) qX11_hands_140 rfl rfl dX11_hands_26 ?_
    refine lv_iconst (v := 1) hx hb dX11_hands_29 (by decide) ?_
    refine lv_isub hx hb dX11_hands_30 ?_
    refine lv_topi (fun v4 ev4 => ?_)
    replace hf := nLet_e hf ev4
    refine lv_istore (lv' := [(6, .int v4), (5, .int (-1)), (0, .ref (a 0)), (1, .ref (a n)), (2, .int x2), (3, .int x3), (4, .int x4)]) hx hb dX11_hands_31 hl (by decide) rfl (fun ls hl => ?_)
    exact K33 σ3 x2 x3 x4 (-1) v4 H locs ls (lv_sub hl [2, 3, 4, 5, 6, 1, 0] rfl) hP hS hf
  · replace hf := nIf_t hc hf
    refine lv_aload_n hx hb dX11_hands_15 rfl (lv_at hl 1 rfl) ?_
    refine lv_iconst (v := 2) hx hb dX11_hands_16 (by decide) ?_
    refine lv_iload_n hx hb dX11_hands_17 rfl (lv_at hl 3 rfl) ?_
    obtain ⟨r5, σ6, hc6, hf⟩ := nBd_e hf
    refine nb_callVv (As := [.int 2, .int x3]) (rest := []) ⟨hx, hb, hml, hown, hts⟩ (c_X9_ends (D := D) (A := A) (cy := cy) (a := a) (kt := kt) (vt := vt) (l := l) hn hc6) (cwV 2 hts gX11_hands_X9_ends rfl rfl rfl (by decide +kernel) ⟨Nat.le_of_ble_eq_true rfl, Nat.le_of_ble_eq_true rfl⟩) hE hP hS (mboN hn) rfl rfl hl.1 rfl (Nat.le_of_ble_eq_true rfl) dX11_hands_18 (fun H locs hP hS => ?_)
    exact nb_vret hx hb hr hlocks hP hS (nSo hf) dX11_hands_21
def l_X11_hands_148 (N : Nat) (n : Nat) : nS → Int32 → Int32 → Int32 → Option (Int32 × nS) := b_X11_hands_148 N n
theorem kl_X11_hands_148 {p : Program} {l : Launch} {e : Env} {s : State} {m : MethodId} {args : Array Value} {below : List Frame} {meth : Method} {c : Code} {D : va_G} {A : Nat → Prop} {cy : Nat → ClassId} {a kt vt : Nat → Nat} {N : Nat} {n : Nat} (hn : nNt n) (C0 : nCx p s m args meth c cX11_hands 7 none RX11 wsX11_hands) (hE : nEn D A cy (Mw cy a) kt vt s) {z : Int32 × nS} : ∀ (σ : nS) (x2 : Int32) (x3 : Int32) (x5 : Int32) (H : Heap) (locs : List Loc) (ls : Array Slot), lv_has ls 7 [(0, .ref (a 0)), (1, .ref (a n)), (2, .int x2), (3, .int x3), (5, .int x5)] → va_P D vwCl ((Mw cy a) σ) H → va_S A s.heap H locs → l_X11_hands_148 N n σ x2 x3 x5 = some z → W p l e ({ frames := 1, cells := 0, slots := 0, locals := 24 } : Room) s m args below meth c H locs 0 0 (nQv below D A (Mw cy a) args s z) (F0 m 148 ls []) := by
  exact kb_X11_hands_148 (N := N) hn C0 hE
def l_X11_hands_83 (N : Nat) (n : Nat) (k33 : nS → Int32 → Int32 → Int32 → Int32 → Int32 → Option (Int32 × nS)) : nS → Int32 → Int32 → Int32 → Int32 → Int32 → Option (Int32 × nS) := b_X11_hands_83 N n k33
theorem kl_X11_hands_83 {p : Program} {l : Launch} {e : Env} {s : State} {m : MethodId} {args : Array Value} {below : List Frame} {meth : Method} {c : Code} {D : va_G} {A : Nat → Prop} {cy : Nat → ClassId} {a kt vt : Nat → Nat} {N : Nat} {n : Nat} (hn : nNt n) (C0 : nCx p s m args meth c cX11_hands 7 none RX11 wsX11_hands) (hE : nEn D A cy (Mw cy a) kt vt s) {z : Int32 × nS} {k33 : nS → Int32 → Int32 → Int32 → Int32 → Int32 → Option (Int32 × nS)} (K33 : ∀ (σ : nS) (x2 : Int32) (x3 : Int32) (x4 : Int32) (x5 : Int32) (x6 : Int32) (H : Heap) (locs : List Loc) (ls : Array Slot), lv_has ls 7 [(0, .ref (a 0)), (1, .ref (a n)), (2, .int x2), (3, .int x3), (4, .int x4), (5, .int x5), (6, .int x6)] → va_P D vwCl ((Mw cy a) σ) H → va_S A s.heap H locs → k33 σ x2 x3 x4 x5 x6 = some z → W p l e ({ frames := 1, cells := 0, slots := 0, locals := 24 } : Room) s m args below meth c H locs 0 0 (nQv below D A (Mw cy a) args s z) (F0 m 33 ls [])) : ∀ (σ : nS) (x2 : Int32) (x3 : Int32) (x4 : Int32) (x5 : Int32) (x6 : Int32) (H : Heap) (locs : List Loc) (ls : Array Slot), lv_has ls 7 [(0, .ref (a 0)), (1, .ref (a n)), (2, .int x2), (3, .int x3), (4, .int x4), (5, .int x5), (6, .int x6)] → va_P D vwCl ((Mw cy a) σ) H → va_S A s.heap H locs → l_X11_hands_83 N n k33 σ x2 x3 x4 x5 x6 = some z → W p l e ({ frames := 1, cells := 0, slots := 0, locals := 24 } : Room) s m args below meth c H locs 0 0 (nQv below D A (Mw cy a) args s z) (F0 m 83 ls []) := by
  exact kb_X11_hands_83 (N := N) hn C0 hE K33
def l_X11_hands_33 (N : Nat) (n : Nat) : nS → Int32 → Int32 → Int32 → Int32 → Int32 → Option (Int32 × nS) := nLp (fun _ _ _ _ _ _ => none) (fun again => b_X11_hands_33 N n (l_X11_hands_83 N n again) (l_X11_hands_148 N n)) N
theorem kl_X11_hands_33 {p : Program} {l : Launch} {e : Env} {s : State} {m : MethodId} {args : Array Value} {below : List Frame} {meth : Method} {c : Code} {D : va_G} {A : Nat → Prop} {cy : Nat → ClassId} {a kt vt : Nat → Nat} {N : Nat} {n : Nat} (hn : nNt n) (C0 : nCx p s m args meth c cX11_hands 7 none RX11 wsX11_hands) (hE : nEn D A cy (Mw cy a) kt vt s) {z : Int32 × nS} : ∀ (σ : nS) (x2 : Int32) (x3 : Int32) (x4 : Int32) (x5 : Int32) (x6 : Int32) (H : Heap) (locs : List Loc) (ls : Array Slot), lv_has ls 7 [(0, .ref (a 0)), (1, .ref (a n)), (2, .int x2), (3, .int x3), (4, .int x4), (5, .int x5), (6, .int x6)] → va_P D vwCl ((Mw cy a) σ) H → va_S A s.heap H locs → l_X11_hands_33 N n σ x2 x3 x4 x5 x6 = some z → W p l e ({ frames := 1, cells := 0, slots := 0, locals := 24 } : Room) s m args below meth c H locs 0 0 (nQv below D A (Mw cy a) args s z) (F0 m 33 ls []) := by
  have main : ∀ (fu : Nat), ∀ (σ : nS) (x2 : Int32) (x3 : Int32) (x4 : Int32) (x5 : Int32) (x6 : Int32) (H : Heap) (locs : List Loc) (ls : Array Slot), lv_has ls 7 [(0, .ref (a 0)), (1, .ref (a n)), (2, .int x2), (3, .int x3), (4, .int x4), (5, .int x5), (6, .int x6)] → va_P D vwCl ((Mw cy a) σ) H → va_S A s.heap H locs → nLp (fun _ _ _ _ _ _ => none) (fun again => b_X11_hands_33 N n (l_X11_hands_83 N n again) (l_X11_hands_148 N n)) fu σ x2 x3 x4 x5 x6 = some z → W p l e ({ frames := 1, cells := 0, slots := 0, locals := 24 } : Room) s m args below meth c H locs 0 0 (nQv below D A (Mw cy a) args s z) (F0 m 33 ls []) := by
    intro fu
    induction fu with
    | zero => intro σ x2 x3 x4 x5 x6 H locs ls hl hP hS hf; cases hf
    | succ fu ih => exact kb_X11_hands_33 (N := N) hn C0 hE (kl_X11_hands_83 (N := N) hn C0 hE ih) (kl_X11_hands_148 (N := N) hn C0 hE)
  exact main N
def l_X11_hands_0 (N : Nat) (n : Nat) : nS → Int32 → Int32 → Int32 → Option (Int32 × nS) := b_X11_hands_0 N n (l_X11_hands_33 N n)
theorem kl_X11_hands_0 {p : Program} {l : Launch} {e : Env} {s : State} {m : MethodId} {args : Array Value} {below : List Frame} {meth : Method} {c : Code} {D : va_G} {A : Nat → Prop} {cy : Nat → ClassId} {a kt vt : Nat → Nat} {N : Nat} {n : Nat} (hn : nNt n) (C0 : nCx p s m args meth c cX11_hands 7 none RX11 wsX11_hands) (hE : nEn D A cy (Mw cy a) kt vt s) {z : Int32 × nS} : ∀ (σ : nS) (x2 : Int32) (x3 : Int32) (x4 : Int32) (H : Heap) (locs : List Loc) (ls : Array Slot), lv_has ls 7 [(0, .ref (a 0)), (1, .ref (a n)), (2, .int x2), (3, .int x3), (4, .int x4)] → va_P D vwCl ((Mw cy a) σ) H → va_S A s.heap H locs → l_X11_hands_0 N n σ x2 x3 x4 = some z → W p l e ({ frames := 1, cells := 0, slots := 0, locals := 24 } : Room) s m args below meth c H locs 0 0 (nQv below D A (Mw cy a) args s z) (F0 m 0 ls []) := by
  exact kb_X11_hands_0 (N := N) hn C0 hE (kl_X11_hands_33 (N := N) hn C0 hE)
def f_X11_hands (N : Nat) (n : Nat) (x2 : Int32) (x3 : Int32) (x4 : Int32) (σ : nS) : Option (Int32 × nS) := l_X11_hands_0 N n σ x2 x3 x4
set_option maxHeartbeats 4000000 in
set_option maxRecDepth 100000 in
theorem c_X11_hands {l : Launch} {D : va_G} {A : Nat → Prop} {cy : Nat → ClassId} {a kt vt : Nat → Nat} {N : Nat} {n : Nat} (hn : nNt n) {x2 : Int32} {x3 : Int32} {x4 : Int32} {σ : nS} {r : Int32} {σ' : nS} (hf : f_X11_hands N n x2 x3 x4 σ = some (r, σ')) : nMv l yX11_hands wsX11_hands ({ frames := 1, cells := 0, slots := 0, locals := 24 } : Room) D A cy (Mw cy a) kt vt [.ref (a 0), .ref (a n), .int x2, .int x3, .int x4] σ σ' := by
  refine Met.ofW (cc := cX11_hands) (maxL := 7) (ret := none) (by decide) rfl ?_
  intro p e s m args below meth c s₁ B hml hv
  obtain ⟨rfl, hP, hE⟩ := hv
  have hl := lv_entry ([.ref (a 0), .ref (a n), .int x2, .int x3, .int x4]) (n := 7) (Nat.le_of_ble_eq_true rfl)
  rw [lg_entry_eq]
  generalize (lg_sl ([.ref (a 0), .ref (a n), .int x2, .int x3, .int x4]) ++ List.replicate (7 - (lg_sl ([.ref (a 0), .ref (a n), .int x2, .int x3, .int x4])).length) Slot.unset).toArray = ls at hl ⊢
  have C0 : nCx p s m _ meth c cX11_hands 7 none RX11 wsX11_hands := ⟨B.exec, B.bytes, B.returns, hml, findClass_of_methodNamed B.named, atoms_spec (ws := wsX11_hands) B.pre, B.notSynchronized⟩
  exact kl_X11_hands_0 (N := N) hn C0 hE (z := (r, σ')) σ x2 x3 x4 _ _ ls hl hP va_S.rf hf
/-! X11_begins -/
set_option maxRecDepth 20000 in
theorem iX11_begins_X9 : ∀ w ∈ u_ws RX9 TX9 11, w ∈ wsX11_begins := fun _ h => List.mem_cons_of_mem _ (List.mem_append_left _ (List.mem_append_right _ h))
set_option maxRecDepth 20000 in
theorem iX11_begins_X11 : ∀ w ∈ u_ws RX11 TX11 68, w ∈ wsX11_begins := fun _ h => List.mem_cons_of_mem _ (List.mem_append_right _ h)
set_option maxRecDepth 20000 in
theorem qX11_begins_26 : Cond.fieldLink RX11 26 RX11 (TX11 12).2.1 (TX11 12).2.2.1 ∈ wsX11_begins := by decide +kernel
set_option maxRecDepth 20000 in
theorem qX11_begins_29 : Cond.fieldLink RX11 29 RX11 (TX11 13).2.1 (TX11 13).2.2.1 ∈ wsX11_begins := by decide +kernel
set_option maxRecDepth 20000 in
theorem qX11_begins_35 : Cond.fieldLink RX11 35 RX11 (TX11 15).2.1 (TX11 15).2.2.1 ∈ wsX11_begins := by decide +kernel
set_option maxRecDepth 20000 in
theorem qX11_begins_32 : Cond.fieldLink RX11 32 RX11 (TX11 14).2.1 (TX11 14).2.2.1 ∈ wsX11_begins := by decide +kernel
def b_X11_begins_0 (N : Nat) (n : Nat) (σ : nS) (x2 : Int32) (x3 : Int32) : Option (Int32 × nS) := nLet ((24 : Int32) * (σ.1 n 0) : Int32) (fun v1 => nLet (v1 + (σ.1 n 1) : Int32) (fun v2 => nIx v2 120 (nLet (σ.1 4 (v2).toNatClampNeg) (fun v3 => (if v3 = 2 then nIx v2 120 (nLet (σ.1 5 (v2).toNatClampNeg) (fun v4 => nBd (f_X11_tellsWrong N v4 (σ.1 n 3) (σ.1 n 4) σ) (fun r5 σ6 => (if r5 = 0 then nIx v2 120 (nLet (σ6.1 7 (v2).toNatClampNeg) (fun v7 => nBd (f_X9_takes N n 1 v7 x2 σ6) (fun r8 σ9 => some (0, σ9)))) else nIx v2 120 (nLet (σ6.1 6 (v2).toNatClampNeg) (fun v10 => nBd (f_X9_takes N n 1 v10 x2 σ6) (fun r11 σ12 => some (0, σ12)))))))) else (if v3 = 3 then nIx v2 120 (nLet (σ.1 5 (v2).toNatClampNeg) (fun v13 => nLet ((σ.1 n 1) + (1 : Int32) : Int32) (fun v14 => nBd (f_X9_takes N n v13 v14 x2 σ) (fun r15 σ16 => some (0, σ16))))) else (if v3 = 4 then nIx v2 120 (nLet (σ.1 5 (v2).toNatClampNeg) (fun v17 => nLet (wr σ n 1 v17) (fun σ18 => (if x2 ≤ 5000 then some (0, σ18) else nBd (f_X9_ends N n 6 x2 σ18) (fun r19 σ20 => some (0, σ20)))))) else (if v3 = 5 then nBd (f_X11_isCalm N (σ.1 n 3) σ) (fun r21 σ22 => (if r21 = 0 then nBd (f_X9_ends N n 1 x2 σ22) (fun r23 σ24 => some (0, σ24)) else nBd (f_X9_ends N n 0 x2 σ22) (fun r25 σ26 => some (0, σ26)))) else nBd (f_X11_hands N n v2 x2 x3 σ) (fun r27 σ28 => some (0, σ28))))))))))
set_option maxHeartbeats 4000000 in
set_option maxRecDepth 100000 in
theorem kb_X11_begins_0 {p : Program} {l : Launch} {e : Env} {s : State} {m : MethodId} {args : Array Value} {below : List Frame} {meth : Method} {c : Code} {D : va_G} {A : Nat → Prop} {cy : Nat → ClassId} {a kt vt : Nat → Nat} {N : Nat} {n : Nat} (hn : nNt n) (C0 : nCx p s m args meth c cX11_begins 5 none RX11 wsX11_begins) (hE : nEn D A cy (Mw cy a) kt vt s) {z : Int32 × nS} : ∀ (σ : nS) (x2 : Int32) (x3 : Int32) (H : Heap) (locs : List Loc) (ls : Array Slot), lv_has ls 5 [(0, .ref (a 0)), (1, .ref (a n)), (2, .int x2), (3, .int x3)] → va_P D vwCl ((Mw cy a) σ) H → va_S A s.heap H locs → b_X11_begins_0 N n σ x2 x3 = some z → W p l e ({ frames := 2, cells := 0, slots := 0, locals := 50 } : Room) s m args below meth c H locs 0 0 (nQv below D A (Mw cy a) args s z) (F0 m 0 ls []) := by
  obtain ⟨hx, hb, hr, hml, hown, hts, hlocks⟩ := C0
  intro σ x2 x3 H locs ls hl hP hS hf
  unfold b_X11_begins_0 at hf
  refine lv_bipush (v := 24) hx hb dX11_begins_0 (by decide) ?_
  refine lv_aload_n hx hb dX11_begins_2 rfl (lv_at hl 1 rfl) ?_
  refine nb_getN (ci := 9) hx hb hts iX11_begins_X9 hown hE hP n (mboN hn) rfl 0 (by decide) (host := RX11) (by decide +kernel) rfl rfl dX11_begins_3 ?_
  refine lv_imul hx hb dX11_begins_6 ?_
  refine lv_topi (fun v1 ev1 => ?_)
  replace hf := nLet_e hf ev1
  refine lv_aload_n hx hb dX11_begins_7 rfl (lv_at hl 1 rfl) ?_
  refine nb_getN (ci := 9) hx hb hts iX11_begins_X9 hown hE hP n (mboN hn) rfl 1 (by decide) (host := RX11) (by decide +kernel) rfl rfl dX11_begins_8 ?_
  refine lv_iadd hx hb dX11_begins_11 ?_
  refine lv_topi (fun v2 ev2 => ?_)
  replace hf := nLet_e hf ev2
  refine lv_istore (lv' := [(4, .int v2), (0, .ref (a 0)), (1, .ref (a n)), (2, .int x2), (3, .int x3)]) hx hb dX11_begins_12 hl (by decide) rfl (fun ls hl => ?_)
  refine lv_aload_n hx hb dX11_begins_14 rfl (lv_at hl 1 rfl) ?_
  refine nb_get (ci := 11) hx hb hts iX11_begins_X11 hown hE hP 0 mbo_0 rfl 12 (by decide) qX11_begins_26 rfl rfl dX11_begins_15 ?_
  refine lv_iload hx hb dX11_begins_18 (lv_at hl 0 rfl) ?_
  obtain ⟨hin, hf⟩ := nIx_e hf
  refine na_iald hx hb hE hP mbr_4 hin dX11_begins_20 ?_
  refine lv_topi (fun v3 ev3 => ?_)
  replace hf := nLet_e hf ev3
  by_cases hs0 : v3 = 2
  · replace hf := nIf_t hs0 hf
    refine lv_tableIn (tgt := 76) (off := 55) hx hb dX11_begins_21 (by rw [hs0]; decide) (by rw [hs0]; decide) (by rw [hs0]; rfl) (by decide) ?_
    refine lv_aload_n hx hb dX11_begins_76 rfl (lv_at hl 2 rfl) ?_
    refine lv_iconst (v := 1) hx hb dX11_begins_77 (by decide) ?_
    refine lv_aload_n hx hb dX11_begins_78 rfl (lv_at hl 1 rfl) ?_
    refine lv_aload_n hx hb dX11_begins_79 rfl (lv_at hl 1 rfl) ?_
    refine nb_get (ci := 11) hx hb hts iX11_begins_X11 hown hE hP 0 mbo_0 rfl 13 (by decide) qX11_begins_29 rfl rfl dX11_begins_80 ?_
    refine lv_iload hx hb dX11_begins_83 (lv_at hl 0 rfl) ?_
    obtain ⟨hin, hf⟩ := nIx_e hf
    refine na_iald hx hb hE hP mbr_5 hin dX11_begins_85 ?_
    refine lv_topi (fun v4 ev4 => ?_)
    replace hf := nLet_e hf ev4
    refine lv_aload_n hx hb dX11_begins_86 rfl (lv_at hl 2 rfl) ?_
    refine nb_getN (ci := 9) hx hb hts iX11_begins_X9 hown hE hP n (mboN hn) rfl 3 (by decide) (host := RX11) (by decide +kernel) rfl rfl dX11_begins_87 ?_
    refine lv_aload_n hx hb dX11_begins_90 rfl (lv_at hl 2 rfl) ?_
    refine nb_getN (ci := 9) hx hb hts iX11_begins_X9 hown hE hP n (mboN hn) rfl 4 (by decide) (host := RX11) (by decide +kernel) rfl rfl dX11_begins_91 ?_
    obtain ⟨r5, σ6, hc6, hf⟩ := nBd_e hf
    refine nb_callVi (As := [.int v4, .int (σ.1 n 3), .int (σ.1 n 4)]) (rest := [.int 1, .ref (a n)]) ⟨hx, hb, hml, hown, hts⟩ (c_X11_tellsWrong (D := D) (A := A) (cy := cy) (a := a) (kt := kt) (vt := vt) (l := l)  hc6) (cwV 3 hts gX11_begins_X11_tellsWrong rfl rfl rfl (by decide +kernel) ⟨Nat.le_of_ble_eq_true rfl, Nat.le_of_ble_eq_true rfl⟩) hE hP hS mbo_0 rfl rfl hl.1 rfl (Nat.le_of_ble_eq_true rfl) dX11_begins_94 (fun H locs hP hS => ?_)
    refine lv_if_eq (tgt := 110) hx hb dX11_begins_97 (by decide) (fun hc => ?_) (fun hc => ?_)
    · replace hf := nIf_t hc hf
      refine lv_aload_n hx hb dX11_begins_110 rfl (lv_at hl 1 rfl) ?_
      refine nb_get (ci := 11) hx hb hts iX11_begins_X11 hown hE hP 0 mbo_0 rfl 15 (by decide) qX11_begins_35 rfl rfl dX11_begins_111 ?_
      refine lv_iload hx hb dX11_begins_114 (lv_at hl 0 rfl) ?_
      obtain ⟨hin, hf⟩ := nIx_e hf
      refine na_iald hx hb hE hP mbr_7 hin dX11_begins_116 ?_
      refine lv_topi (fun v7 ev7 => ?_)
      replace hf := nLet_e hf ev7
      refine lv_iload_n hx hb dX11_begins_117 rfl (lv_at hl 3 rfl) ?_
      obtain ⟨r8, σ9, hc9, hf⟩ := nBd_e hf
      refine nb_callVv (As := [.int 1, .int v7, .int x2]) (rest := []) ⟨hx, hb, hml, hown, hts⟩ (c_X9_takes (D := D) (A := A) (cy := cy) (a := a) (kt := kt) (vt := vt) (l := l) hn hc9) (cwV 3 hts gX11_begins_X9_takes rfl rfl rfl (by decide +kernel) ⟨Nat.le_of_ble_eq_true rfl, Nat.le_of_ble_eq_true rfl⟩) hE hP hS (mboN hn) rfl rfl hl.1 rfl (Nat.le_of_ble_eq_true rfl) dX11_begins_118 (fun H locs hP hS => ?_)
      refine lv_goto (tgt := 182) hx hb dX11_begins_121 (by decide) ?_
      exact nb_vret hx hb hr hlocks hP hS (nSo hf) dX11_begins_182
    · replace hf := nIf_f hc hf
      refine lv_aload_n hx hb dX11_begins_100 rfl (lv_at hl 1 rfl) ?_
      refine nb_get (ci := 11) hx hb hts iX11_begins_X11 hown hE hP 0 mbo_0 rfl 14 (by decide) qX11_begins_32 rfl rfl dX11_begins_101 ?_
      refine lv_iload hx hb dX11_begins_104 (lv_at hl 0 rfl) ?_
      obtain ⟨hin, hf⟩ := nIx_e hf
      refine na_iald hx hb hE hP mbr_6 hin dX11_begins_106 ?_
      refine lv_topi (fun v10 ev10 => ?_)
      replace hf := nLet_e hf ev10
      refine lv_goto (tgt := 117) hx hb dX11_begins_107 (by decide) ?_
      refine lv_iload_n hx hb dX11_begins_117 rfl (lv_at hl 3 rfl) ?_
      obtain ⟨r11, σ12, hc12, hf⟩ := nBd_e hf
      refine nb_callVv (As := [.int 1, .int v10, .int x2]) (rest := []) ⟨hx, hb, hml, hown, hts⟩ (c_X9_takes (D := D) (A := A) (cy := cy) (a := a) (kt := kt) (vt := vt) (l := l) hn hc12) (cwV 3 hts gX11_begins_X9_takes rfl rfl rfl (by decide +kernel) ⟨Nat.le_of_ble_eq_true rfl, Nat.le_of_ble_eq_true rfl⟩) hE hP hS (mboN hn) rfl rfl hl.1 rfl (Nat.le_of_ble_eq_true rfl) dX11_begins_118 (fun H locs hP hS => ?_)
      refine lv_goto (tgt := 182) hx hb dX11_begins_121 (by decide) ?_
      exact nb_vret hx hb hr hlocks hP hS (nSo hf) dX11_begins_182
  · replace hf := nIf_f hs0 hf
    by_cases hs1 : v3 = 3
    · replace hf := nIf_t hs1 hf
      refine lv_tableIn (tgt := 124) (off := 103) hx hb dX11_begins_21 (by rw [hs1]; decide) (by rw [hs1]; decide) (by rw [hs1]; rfl) (by decide) ?_
      refine lv_aload_n hx hb dX11_begins_124 rfl (lv_at hl 2 rfl) ?_
      refine lv_aload_n hx hb dX11_begins_125 rfl (lv_at hl 1 rfl) ?_
      refine nb_get (ci := 11) hx hb hts iX11_begins_X11 hown hE hP 0 mbo_0 rfl 13 (by decide) qX11_begins_29 rfl rfl dX11_begins_126 ?_
      refine lv_iload hx hb dX11_begins_129 (lv_at hl 0 rfl) ?_
      obtain ⟨hin, hf⟩ := nIx_e hf
      refine na_iald hx hb hE hP mbr_5 hin dX11_begins_131 ?_
      refine lv_topi (fun v13 ev13 => ?_)
      replace hf := nLet_e hf ev13
      refine lv_aload_n hx hb dX11_begins_132 rfl (lv_at hl 2 rfl) ?_
      refine nb_getN (ci := 9) hx hb hts iX11_begins_X9 hown hE hP n (mboN hn) rfl 1 (by decide) (host := RX11) (by decide +kernel) rfl rfl dX11_begins_133 ?_
      refine lv_iconst (v := 1) hx hb dX11_begins_136 (by decide) ?_
      refine lv_iadd hx hb dX11_begins_137 ?_
      refine lv_topi (fun v14 ev14 => ?_)
      replace hf := nLet_e hf ev14
      refine lv_iload_n hx hb dX11_begins_138 rfl (lv_at hl 3 rfl) ?_
      obtain ⟨r15, σ16, hc16, hf⟩ := nBd_e hf
      refine nb_callVv (As := [.int v13, .int v14, .int x2]) (rest := []) ⟨hx, hb, hml, hown, hts⟩ (c_X9_takes (D := D) (A := A) (cy := cy) (a := a) (kt := kt) (vt := vt) (l := l) hn hc16) (cwV 3 hts gX11_begins_X9_takes rfl rfl rfl (by decide +kernel) ⟨Nat.le_of_ble_eq_true rfl, Nat.le_of_ble_eq_true rfl⟩) hE hP hS (mboN hn) rfl rfl hl.1 rfl (Nat.le_of_ble_eq_true rfl) dX11_begins_139 (fun H locs hP hS => ?_)
      refine lv_goto (tgt := 182) hx hb dX11_begins_142 (by decide) ?_
      exact nb_vret hx hb hr hlocks hP hS (nSo hf) dX11_begins_182
    · replace hf := nIf_f hs1 hf
      by_cases hs2 : v3 = 4
      · replace hf := nIf_t hs2 hf
        refine lv_tableIn (tgt := 145) (off := 124) hx hb dX11_begins_21 (by rw [hs2]; decide) (by rw [hs2]; decide) (by rw [hs2]; rfl) (by decide) ?_
        refine lv_aload_n hx hb dX11_begins_145 rfl (lv_at hl 2 rfl) ?_
        refine lv_aload_n hx hb dX11_begins_146 rfl (lv_at hl 1 rfl) ?_
        refine nb_get (ci := 11) hx hb hts iX11_begins_X11 hown hE hP 0 mbo_0 rfl 13 (by decide) qX11_begins_29 rfl rfl dX11_begins_147 ?_
        refine lv_iload hx hb dX11_begins_150 (lv_at hl 0 rfl) ?_
        obtain ⟨hin, hf⟩ := nIx_e hf
        refine na_iald hx hb hE hP mbr_5 hin dX11_begins_152 ?_
        refine lv_topi (fun v17 ev17 => ?_)
        replace hf := nLet_e hf ev17
        refine nb_putN (ci := 9) hx hb hts iX11_begins_X9 tyX9 tyX9_ok nmX9 hown hE hP hS n (mboN hn) rfl 1 (by decide) (host := RX11) (by decide +kernel) rfl rfl rfl rfl (Nat.le_of_ble_eq_true rfl) dX11_begins_153 (mbpN_1 hn _) (fun σ18 eσ18 H locs hP hS => ?_)
        replace hf := nLet_e hf eσ18
        refine lv_iload_n hx hb dX11_begins_156 rfl (lv_at hl 3 rfl) ?_
        refine lv_sipush (v := 5000) hx hb dX11_begins_157 (by decide) ?_
        refine lv_icmp_le (tgt := 182) hx hb dX11_begins_160 (by decide) (fun hc => ?_) (fun hc => ?_)
        · replace hf := nIf_t hc hf
          exact nb_vret hx hb hr hlocks hP hS (nSo hf) dX11_begins_182
        · replace hf := nIf_f hc hf
          refine lv_aload_n hx hb dX11_begins_163 rfl (lv_at hl 2 rfl) ?_
          refine lv_bipush (v := 6) hx hb dX11_begins_164 (by decide) ?_
          refine lv_iload_n hx hb dX11_begins_166 rfl (lv_at hl 3 rfl) ?_
          obtain ⟨r19, σ20, hc20, hf⟩ := nBd_e hf
          refine nb_callVv (As := [.int 6, .int x2]) (rest := []) ⟨hx, hb, hml, hown, hts⟩ (c_X9_ends (D := D) (A := A) (cy := cy) (a := a) (kt := kt) (vt := vt) (l := l) hn hc20) (cwV 2 hts gX11_begins_X9_ends rfl rfl rfl (by decide +kernel) ⟨Nat.le_of_ble_eq_true rfl, Nat.le_of_ble_eq_true rfl⟩) hE hP hS (mboN hn) rfl rfl hl.1 rfl (Nat.le_of_ble_eq_true rfl) dX11_begins_167 (fun H locs hP hS => ?_)
          refine lv_goto (tgt := 182) hx hb dX11_begins_170 (by decide) ?_
          exact nb_vret hx hb hr hlocks hP hS (nSo hf) dX11_begins_182
      · replace hf := nIf_f hs2 hf
        by_cases hs3 : v3 = 5
        · replace hf := nIf_t hs3 hf
          refine lv_tableIn (tgt := 52) (off := 31) hx hb dX11_begins_21 (by rw [hs3]; decide) (by rw [hs3]; decide) (by rw [hs3]; rfl) (by decide) ?_
          refine lv_aload_n hx hb dX11_begins_52 rfl (lv_at hl 2 rfl) ?_
          refine lv_aload_n hx hb dX11_begins_53 rfl (lv_at hl 1 rfl) ?_
          refine lv_aload_n hx hb dX11_begins_54 rfl (lv_at hl 2 rfl) ?_
          refine nb_getN (ci := 9) hx hb hts iX11_begins_X9 hown hE hP n (mboN hn) rfl 3 (by decide) (host := RX11) (by decide +kernel) rfl rfl dX11_begins_55 ?_
          obtain ⟨r21, σ22, hc22, hf⟩ := nBd_e hf
          refine nb_callVi (As := [.int (σ.1 n 3)]) (rest := [.ref (a n)]) ⟨hx, hb, hml, hown, hts⟩ (c_X11_isCalm (D := D) (A := A) (cy := cy) (a := a) (kt := kt) (vt := vt) (l := l)  hc22) (cwV 1 hts gX11_begins_X11_isCalm rfl rfl rfl (by decide +kernel) ⟨Nat.le_of_ble_eq_true rfl, Nat.le_of_ble_eq_true rfl⟩) hE hP hS mbo_0 rfl rfl hl.1 rfl (Nat.le_of_ble_eq_true rfl) dX11_begins_58 (fun H locs hP hS => ?_)
          refine lv_if_eq (tgt := 68) hx hb dX11_begins_61 (by decide) (fun hc => ?_) (fun hc => ?_)
          · replace hf := nIf_t hc hf
            refine lv_iconst (v := 1) hx hb dX11_begins_68 (by decide) ?_
            refine lv_iload_n hx hb dX11_begins_69 rfl (lv_at hl 3 rfl) ?_
            obtain ⟨r23, σ24, hc24, hf⟩ := nBd_e hf
            refine nb_callVv (As := [.int 1, .int x2]) (rest := []) ⟨hx, hb, hml, hown, hts⟩ (c_X9_ends (D := D) (A := A) (cy := cy) (a := a) (kt := kt) (vt := vt) (l := l) hn hc24) (cwV 2 hts gX11_begins_X9_ends rfl rfl rfl (by decide +kernel) ⟨Nat.le_of_ble_eq_true rfl, Nat.le_of_ble_eq_true rfl⟩) hE hP hS (mboN hn) rfl rfl hl.1 rfl (Nat.le_of_ble_eq_true rfl) dX11_begins_70 (fun H locs hP hS => ?_)
            refine lv_goto (tgt := 182) hx hb dX11_begins_73 (by decide) ?_
            exact nb_vret hx hb hr hlocks hP hS (nSo hf) dX11_begins_182
          · replace hf := nIf_f hc hf
            refine lv_iconst (v := 0) hx hb dX11_begins_64 (by decide) ?_
            refine lv_goto (tgt := 69) hx hb dX11_begins_65 (by decide) ?_
            refine lv_iload_n hx hb dX11_begins_69 rfl (lv_at hl 3 rfl) ?_
            obtain ⟨r25, σ26, hc26, hf⟩ := nBd_e hf
            refine nb_callVv (As := [.int 0, .int x2]) (rest := []) ⟨hx, hb, hml, hown, hts⟩ (c_X9_ends (D := D) (A := A) (cy := cy) (a := a) (kt := kt) (vt := vt) (l := l) hn hc26) (cwV 2 hts gX11_begins_X9_ends rfl rfl rfl (by decide +kernel) ⟨Nat.le_of_ble_eq_true rfl, Nat.le_of_ble_eq_true rfl⟩) hE hP hS (mboN hn) rfl rfl hl.1 rfl (Nat.le_of_ble_eq_true rfl) dX11_begins_70 (fun H locs hP hS => ?_)
            refine lv_goto (tgt := 182) hx hb dX11_begins_73 (by decide) ?_
            exact nb_vret hx hb hr hlocks hP hS (nSo hf) dX11_begins_182
        · replace hf := nIf_f hs3 hf
          have gs0 := nI_ne (z := 2) hs0 (by decide)
          have gs1 := nI_ne (z := 3) hs1 (by decide)
          have gs2 := nI_ne (z := 4) hs2 (by decide)
          have gs3 := nI_ne (z := 5) hs3 (by decide)
          refine lv_tableOut (tgt := 173) hx hb dX11_begins_21 (by omega) (by decide) ?_
          refine lv_aload_n hx hb dX11_begins_173 rfl (lv_at hl 1 rfl) ?_
          refine lv_aload_n hx hb dX11_begins_174 rfl (lv_at hl 2 rfl) ?_
          refine lv_iload hx hb dX11_begins_175 (lv_at hl 0 rfl) ?_
          refine lv_iload_n hx hb dX11_begins_177 rfl (lv_at hl 3 rfl) ?_
          refine lv_iload_n hx hb dX11_begins_178 rfl (lv_at hl 4 rfl) ?_
          obtain ⟨r27, σ28, hc28, hf⟩ := nBd_e hf
          refine nb_callVv (As := [.ref (a n), .int v2, .int x2, .int x3]) (rest := []) ⟨hx, hb, hml, hown, hts⟩ (c_X11_hands (D := D) (A := A) (cy := cy) (a := a) (kt := kt) (vt := vt) (l := l) hn hc28) (cwV 4 hts gX11_begins_X11_hands rfl rfl rfl (by decide +kernel) ⟨Nat.le_of_ble_eq_true rfl, Nat.le_of_ble_eq_true rfl⟩) hE hP hS mbo_0 rfl rfl hl.1 rfl (Nat.le_of_ble_eq_true rfl) dX11_begins_179 (fun H locs hP hS => ?_)
          exact nb_vret hx hb hr hlocks hP hS (nSo hf) dX11_begins_182
def l_X11_begins_0 (N : Nat) (n : Nat) : nS → Int32 → Int32 → Option (Int32 × nS) := b_X11_begins_0 N n
theorem kl_X11_begins_0 {p : Program} {l : Launch} {e : Env} {s : State} {m : MethodId} {args : Array Value} {below : List Frame} {meth : Method} {c : Code} {D : va_G} {A : Nat → Prop} {cy : Nat → ClassId} {a kt vt : Nat → Nat} {N : Nat} {n : Nat} (hn : nNt n) (C0 : nCx p s m args meth c cX11_begins 5 none RX11 wsX11_begins) (hE : nEn D A cy (Mw cy a) kt vt s) {z : Int32 × nS} : ∀ (σ : nS) (x2 : Int32) (x3 : Int32) (H : Heap) (locs : List Loc) (ls : Array Slot), lv_has ls 5 [(0, .ref (a 0)), (1, .ref (a n)), (2, .int x2), (3, .int x3)] → va_P D vwCl ((Mw cy a) σ) H → va_S A s.heap H locs → l_X11_begins_0 N n σ x2 x3 = some z → W p l e ({ frames := 2, cells := 0, slots := 0, locals := 50 } : Room) s m args below meth c H locs 0 0 (nQv below D A (Mw cy a) args s z) (F0 m 0 ls []) := by
  exact kb_X11_begins_0 (N := N) hn C0 hE
def f_X11_begins (N : Nat) (n : Nat) (x2 : Int32) (x3 : Int32) (σ : nS) : Option (Int32 × nS) := l_X11_begins_0 N n σ x2 x3
set_option maxHeartbeats 4000000 in
set_option maxRecDepth 100000 in
theorem c_X11_begins {l : Launch} {D : va_G} {A : Nat → Prop} {cy : Nat → ClassId} {a kt vt : Nat → Nat} {N : Nat} {n : Nat} (hn : nNt n) {x2 : Int32} {x3 : Int32} {σ : nS} {r : Int32} {σ' : nS} (hf : f_X11_begins N n x2 x3 σ = some (r, σ')) : nMv l yX11_begins wsX11_begins ({ frames := 2, cells := 0, slots := 0, locals := 50 } : Room) D A cy (Mw cy a) kt vt [.ref (a 0), .ref (a n), .int x2, .int x3] σ σ' := by
  refine Met.ofW (cc := cX11_begins) (maxL := 5) (ret := none) (by decide) rfl ?_
  intro p e s m args below meth c s₁ B hml hv
  obtain ⟨rfl, hP, hE⟩ := hv
  have hl := lv_entry ([.ref (a 0), .ref (a n), .int x2, .int x3]) (n := 5) (Nat.le_of_ble_eq_true rfl)
  rw [lg_entry_eq]
  generalize (lg_sl ([.ref (a 0), .ref (a n), .int x2, .int x3]) ++ List.replicate (5 - (lg_sl ([.ref (a 0), .ref (a n), .int x2, .int x3])).length) Slot.unset).toArray = ls at hl ⊢
  have C0 : nCx p s m _ meth c cX11_begins 5 none RX11 wsX11_begins := ⟨B.exec, B.bytes, B.returns, hml, findClass_of_methodNamed B.named, atoms_spec (ws := wsX11_begins) B.pre, B.notSynchronized⟩
  exact kl_X11_begins_0 (N := N) hn C0 hE (z := (r, σ')) σ x2 x3 _ _ ls hl hP va_S.rf hf
/-! X11_goesOn -/
set_option maxRecDepth 20000 in
theorem iX11_goesOn_X9 : ∀ w ∈ u_ws RX9 TX9 11, w ∈ wsX11_goesOn := fun _ h => List.mem_cons_of_mem _ (List.mem_append_left _ (List.mem_append_right _ h))
set_option maxRecDepth 20000 in
theorem iX11_goesOn_X11 : ∀ w ∈ u_ws RX11 TX11 68, w ∈ wsX11_goesOn := fun _ h => List.mem_cons_of_mem _ (List.mem_append_right _ h)
set_option maxRecDepth 20000 in
theorem qX11_goesOn_26 : Cond.fieldLink RX11 26 RX11 (TX11 12).2.1 (TX11 12).2.2.1 ∈ wsX11_goesOn := by decide +kernel
def b_X11_goesOn_70 (N : Nat) (n : Nat) (q : Nat) (k97 : nS → Int32 → Int32 → Option (Int32 × nS)) (σ : nS) (x3 : Int32) (x4 : Int32) : Option (Int32 × nS) := nLet (wr σ n 9 0) (fun σ1 => nLet (wr σ1 n 1 (σ1.1 n 2)) (fun σ2 => (if x3 ≤ 5000 then k97 σ2 x3 x4 else nBd (f_X9_ends N n 6 x3 σ2) (fun r3 σ4 => k97 σ4 x3 x4))))
set_option maxHeartbeats 4000000 in
set_option maxRecDepth 100000 in
theorem kb_X11_goesOn_70 {p : Program} {l : Launch} {e : Env} {s : State} {m : MethodId} {args : Array Value} {below : List Frame} {meth : Method} {c : Code} {D : va_G} {A : Nat → Prop} {cy : Nat → ClassId} {a kt vt : Nat → Nat} {N : Nat} {n : Nat} {q : Nat} (hn : nNt n) (hq : nAr 0 (Mw cy a) cy a q 6144) (C0 : nCx p s m args meth c cX11_goesOn 6 none RX11 wsX11_goesOn) (hE : nEn D A cy (Mw cy a) kt vt s) {z : Int32 × nS} {k97 : nS → Int32 → Int32 → Option (Int32 × nS)} (K97 : ∀ (σ : nS) (x3 : Int32) (x4 : Int32) (H : Heap) (locs : List Loc) (ls : Array Slot), lv_has ls 6 [(0, .ref (a 0)), (1, .ref (a n)), (2, .ref (a q)), (3, .int x3), (4, .int x4)] → va_P D vwCl ((Mw cy a) σ) H → va_S A s.heap H locs → k97 σ x3 x4 = some z → W p l e ({ frames := 3, cells := 0, slots := 0, locals := 74 } : Room) s m args below meth c H locs 0 0 (nQv below D A (Mw cy a) args s z) (F0 m 97 ls [])) : ∀ (σ : nS) (x3 : Int32) (x4 : Int32) (H : Heap) (locs : List Loc) (ls : Array Slot), lv_has ls 6 [(0, .ref (a 0)), (1, .ref (a n)), (2, .ref (a q)), (3, .int x3), (4, .int x4)] → va_P D vwCl ((Mw cy a) σ) H → va_S A s.heap H locs → b_X11_goesOn_70 N n q k97 σ x3 x4 = some z → W p l e ({ frames := 3, cells := 0, slots := 0, locals := 74 } : Room) s m args below meth c H locs 0 0 (nQv below D A (Mw cy a) args s z) (F0 m 70 ls []) := by
  obtain ⟨hx, hb, hr, hml, hown, hts, hlocks⟩ := C0
  intro σ x3 x4 H locs ls hl hP hS hf
  unfold b_X11_goesOn_70 at hf
  refine lv_aload_n hx hb dX11_goesOn_70 rfl (lv_at hl 1 rfl) ?_
  refine lv_iconst (v := 0) hx hb dX11_goesOn_71 (by decide) ?_
  refine nb_putN (ci := 9) hx hb hts iX11_goesOn_X9 tyX9 tyX9_ok nmX9 hown hE hP hS n (mboN hn) rfl 9 (by decide) (host := RX11) (by decide +kernel) rfl rfl rfl rfl (Nat.le_of_ble_eq_true rfl) dX11_goesOn_72 (mbpN_9 hn _) (fun σ1 eσ1 H locs hP hS => ?_)
  replace hf := nLet_e hf eσ1
  refine lv_aload_n hx hb dX11_goesOn_75 rfl (lv_at hl 1 rfl) ?_
  refine lv_aload_n hx hb dX11_goesOn_76 rfl (lv_at hl 1 rfl) ?_
  refine nb_getN (ci := 9) hx hb hts iX11_goesOn_X9 hown hE hP n (mboN hn) rfl 2 (by decide) (host := RX11) (by decide +kernel) rfl rfl dX11_goesOn_77 ?_
  refine nb_putN (ci := 9) hx hb hts iX11_goesOn_X9 tyX9 tyX9_ok nmX9 hown hE hP hS n (mboN hn) rfl 1 (by decide) (host := RX11) (by decide +kernel) rfl rfl rfl rfl (Nat.le_of_ble_eq_true rfl) dX11_goesOn_80 (mbpN_1 hn _) (fun σ2 eσ2 H locs hP hS => ?_)
  replace hf := nLet_e hf eσ2
  refine lv_iload_n hx hb dX11_goesOn_83 rfl (lv_at hl 3 rfl) ?_
  refine lv_sipush (v := 5000) hx hb dX11_goesOn_84 (by decide) ?_
  refine lv_icmp_le (tgt := 97) hx hb dX11_goesOn_87 (by decide) (fun hc => ?_) (fun hc => ?_)
  · replace hf := nIf_t hc hf
    exact K97 σ2 x3 x4 H locs ls (lv_sub hl [0, 1, 2, 3, 4] rfl) hP hS hf
  · replace hf := nIf_f hc hf
    refine lv_aload_n hx hb dX11_goesOn_90 rfl (lv_at hl 1 rfl) ?_
    refine lv_bipush (v := 6) hx hb dX11_goesOn_91 (by decide) ?_
    refine lv_iload_n hx hb dX11_goesOn_93 rfl (lv_at hl 3 rfl) ?_
    obtain ⟨r3, σ4, hc4, hf⟩ := nBd_e hf
    refine nb_callVv (As := [.int 6, .int x3]) (rest := []) ⟨hx, hb, hml, hown, hts⟩ (c_X9_ends (D := D) (A := A) (cy := cy) (a := a) (kt := kt) (vt := vt) (l := l) hn hc4) (cwV 2 hts gX11_goesOn_X9_ends rfl rfl rfl (by decide +kernel) ⟨Nat.le_of_ble_eq_true rfl, Nat.le_of_ble_eq_true rfl⟩) hE hP hS (mboN hn) rfl rfl hl.1 rfl (Nat.le_of_ble_eq_true rfl) dX11_goesOn_94 (fun H locs hP hS => ?_)
    exact K97 σ4 x3 x4 H locs ls (lv_sub hl [0, 1, 2, 3, 4] rfl) hP hS hf
def b_X11_goesOn_126 (N : Nat) (n : Nat) (q : Nat) (k97 : nS → Int32 → Int32 → Option (Int32 × nS)) (σ : nS) (x3 : Int32) (x4 : Int32) : Option (Int32 × nS) := (if (σ.1 n 5) = (-1) then nBd (f_X11_begins N n x3 x4 σ) (fun r1 σ2 => (if (σ2.1 n 10) = 0 then k97 σ2 x3 x4 else some (0, σ2))) else some (0, σ))
set_option maxHeartbeats 4000000 in
set_option maxRecDepth 100000 in
theorem kb_X11_goesOn_126 {p : Program} {l : Launch} {e : Env} {s : State} {m : MethodId} {args : Array Value} {below : List Frame} {meth : Method} {c : Code} {D : va_G} {A : Nat → Prop} {cy : Nat → ClassId} {a kt vt : Nat → Nat} {N : Nat} {n : Nat} {q : Nat} (hn : nNt n) (hq : nAr 0 (Mw cy a) cy a q 6144) (C0 : nCx p s m args meth c cX11_goesOn 6 none RX11 wsX11_goesOn) (hE : nEn D A cy (Mw cy a) kt vt s) {z : Int32 × nS} {k97 : nS → Int32 → Int32 → Option (Int32 × nS)} (K97 : ∀ (σ : nS) (x3 : Int32) (x4 : Int32) (H : Heap) (locs : List Loc) (ls : Array Slot), lv_has ls 6 [(0, .ref (a 0)), (1, .ref (a n)), (2, .ref (a q)), (3, .int x3), (4, .int x4)] → va_P D vwCl ((Mw cy a) σ) H → va_S A s.heap H locs → k97 σ x3 x4 = some z → W p l e ({ frames := 3, cells := 0, slots := 0, locals := 74 } : Room) s m args below meth c H locs 0 0 (nQv below D A (Mw cy a) args s z) (F0 m 97 ls [])) : ∀ (σ : nS) (x3 : Int32) (x4 : Int32) (H : Heap) (locs : List Loc) (ls : Array Slot), lv_has ls 6 [(0, .ref (a 0)), (1, .ref (a n)), (2, .ref (a q)), (3, .int x3), (4, .int x4)] → va_P D vwCl ((Mw cy a) σ) H → va_S A s.heap H locs → b_X11_goesOn_126 N n q k97 σ x3 x4 = some z → W p l e ({ frames := 3, cells := 0, slots := 0, locals := 74 } : Room) s m args below meth c H locs 0 0 (nQv below D A (Mw cy a) args s z) (F0 m 126 ls []) := by
  obtain ⟨hx, hb, hr, hml, hown, hts, hlocks⟩ := C0
  intro σ x3 x4 H locs ls hl hP hS hf
  unfold b_X11_goesOn_126 at hf
  refine lv_aload_n hx hb dX11_goesOn_126 rfl (lv_at hl 1 rfl) ?_
  refine nb_getN (ci := 9) hx hb hts iX11_goesOn_X9 hown hE hP n (mboN hn) rfl 5 (by decide) (host := RX11) (by decide +kernel) rfl rfl dX11_goesOn_127 ?_
  refine lv_iconst (v := (-1)) hx hb dX11_goesOn_130 (by decide) ?_
  refine lv_icmp_eq (tgt := 135) hx hb dX11_goesOn_131 (by decide) (fun hc => ?_) (fun hc => ?_)
  · replace hf := nIf_t hc hf
    refine lv_aload_n hx hb dX11_goesOn_135 rfl (lv_at hl 0 rfl) ?_
    refine lv_aload_n hx hb dX11_goesOn_136 rfl (lv_at hl 1 rfl) ?_
    refine lv_iload_n hx hb dX11_goesOn_137 rfl (lv_at hl 3 rfl) ?_
    refine lv_iload hx hb dX11_goesOn_138 (lv_at hl 4 rfl) ?_
    obtain ⟨r1, σ2, hc2, hf⟩ := nBd_e hf
    refine nb_callVv (As := [.ref (a n), .int x3, .int x4]) (rest := []) ⟨hx, hb, hml, hown, hts⟩ (c_X11_begins (D := D) (A := A) (cy := cy) (a := a) (kt := kt) (vt := vt) (l := l) hn hc2) (cwV 3 hts gX11_goesOn_X11_begins rfl rfl rfl (by decide +kernel) ⟨Nat.le_of_ble_eq_true rfl, Nat.le_of_ble_eq_true rfl⟩) hE hP hS mbo_0 rfl rfl hl.1 rfl (Nat.le_of_ble_eq_true rfl) dX11_goesOn_140 (fun H locs hP hS => ?_)
    refine lv_aload_n hx hb dX11_goesOn_143 rfl (lv_at hl 1 rfl) ?_
    refine nb_getN (ci := 9) hx hb hts iX11_goesOn_X9 hown hE hP n (mboN hn) rfl 10 (by decide) (host := RX11) (by decide +kernel) rfl rfl dX11_goesOn_144 ?_
    refine lv_if_eq (tgt := 97) hx hb dX11_goesOn_147 (by decide) (fun hc => ?_) (fun hc => ?_)
    · replace hf := nIf_t hc hf
      exact K97 σ2 x3 x4 H locs ls (lv_sub hl [0, 1, 2, 3, 4] rfl) hP hS hf
    · replace hf := nIf_f hc hf
      exact nb_vret hx hb hr hlocks hP hS (nSo hf) dX11_goesOn_150
  · replace hf := nIf_f hc hf
    exact nb_vret hx hb hr hlocks hP hS (nSo hf) dX11_goesOn_134
def b_X11_goesOn_97 (N : Nat) (n : Nat) (q : Nat) (k126 : nS → Int32 → Int32 → Option (Int32 × nS)) (σ : nS) (x3 : Int32) (x4 : Int32) : Option (Int32 × nS) := (if (σ.1 n 5) = (-1) then (if (σ.1 n 9) = 0 then (if (σ.1 n 10) = 0 then nBd (f_X11_comesTo N n q x3 σ) (fun r1 σ2 => k126 σ2 x3 x4) else k126 σ x3 x4) else some (0, σ)) else some (0, σ))
set_option maxHeartbeats 4000000 in
set_option maxRecDepth 100000 in
theorem kb_X11_goesOn_97 {p : Program} {l : Launch} {e : Env} {s : State} {m : MethodId} {args : Array Value} {below : List Frame} {meth : Method} {c : Code} {D : va_G} {A : Nat → Prop} {cy : Nat → ClassId} {a kt vt : Nat → Nat} {N : Nat} {n : Nat} {q : Nat} (hn : nNt n) (hq : nAr 0 (Mw cy a) cy a q 6144) (C0 : nCx p s m args meth c cX11_goesOn 6 none RX11 wsX11_goesOn) (hE : nEn D A cy (Mw cy a) kt vt s) {z : Int32 × nS} {k126 : nS → Int32 → Int32 → Option (Int32 × nS)} (K126 : ∀ (σ : nS) (x3 : Int32) (x4 : Int32) (H : Heap) (locs : List Loc) (ls : Array Slot), lv_has ls 6 [(0, .ref (a 0)), (1, .ref (a n)), (2, .ref (a q)), (3, .int x3), (4, .int x4)] → va_P D vwCl ((Mw cy a) σ) H → va_S A s.heap H locs → k126 σ x3 x4 = some z → W p l e ({ frames := 3, cells := 0, slots := 0, locals := 74 } : Room) s m args below meth c H locs 0 0 (nQv below D A (Mw cy a) args s z) (F0 m 126 ls [])) : ∀ (σ : nS) (x3 : Int32) (x4 : Int32) (H : Heap) (locs : List Loc) (ls : Array Slot), lv_has ls 6 [(0, .ref (a 0)), (1, .ref (a n)), (2, .ref (a q)), (3, .int x3), (4, .int x4)] → va_P D vwCl ((Mw cy a) σ) H → va_S A s.heap H locs → b_X11_goesOn_97 N n q k126 σ x3 x4 = some z → W p l e ({ frames := 3, cells := 0, slots := 0, locals := 74 } : Room) s m args below meth c H locs 0 0 (nQv below D A (Mw cy a) args s z) (F0 m 97 ls []) := by
  obtain ⟨hx, hb, hr, hml, hown, hts, hlocks⟩ := C0
  intro σ x3 x4 H locs ls hl hP hS hf
  unfold b_X11_goesOn_97 at hf
  refine lv_aload_n hx hb dX11_goesOn_97 rfl (lv_at hl 1 rfl) ?_
  refine nb_getN (ci := 9) hx hb hts iX11_goesOn_X9 hown hE hP n (mboN hn) rfl 5 (by decide) (host := RX11) (by decide +kernel) rfl rfl dX11_goesOn_98 ?_
  refine lv_iconst (v := (-1)) hx hb dX11_goesOn_101 (by decide) ?_
  refine lv_icmp_ne (tgt := 151) hx hb dX11_goesOn_102 (by decide) (fun hc => ?_) (fun hc => ?_)
  · replace hf := nIf_f hc hf
    exact nb_vret hx hb hr hlocks hP hS (nSo hf) dX11_goesOn_151
  · replace hf := nIf_t hc hf
    refine lv_aload_n hx hb dX11_goesOn_105 rfl (lv_at hl 1 rfl) ?_
    refine nb_getN (ci := 9) hx hb hts iX11_goesOn_X9 hown hE hP n (mboN hn) rfl 9 (by decide) (host := RX11) (by decide +kernel) rfl rfl dX11_goesOn_106 ?_
    refine lv_if_ne (tgt := 151) hx hb dX11_goesOn_109 (by decide) (fun hc => ?_) (fun hc => ?_)
    · replace hf := nIf_f hc hf
      exact nb_vret hx hb hr hlocks hP hS (nSo hf) dX11_goesOn_151
    · replace hf := nIf_t hc hf
      refine lv_aload_n hx hb dX11_goesOn_112 rfl (lv_at hl 1 rfl) ?_
      refine nb_getN (ci := 9) hx hb hts iX11_goesOn_X9 hown hE hP n (mboN hn) rfl 10 (by decide) (host := RX11) (by decide +kernel) rfl rfl dX11_goesOn_113 ?_
      refine lv_if_ne (tgt := 126) hx hb dX11_goesOn_116 (by decide) (fun hc => ?_) (fun hc => ?_)
      · replace hf := nIf_f hc hf
        exact K126 σ x3 x4 H locs ls (lv_sub hl [0, 1, 2, 3, 4] rfl) hP hS hf
      · replace hf := nIf_t hc hf
        refine lv_aload_n hx hb dX11_goesOn_119 rfl (lv_at hl 0 rfl) ?_
        refine lv_aload_n hx hb dX11_goesOn_120 rfl (lv_at hl 1 rfl) ?_
        refine lv_aload_n hx hb dX11_goesOn_121 rfl (lv_at hl 2 rfl) ?_
        refine lv_iload_n hx hb dX11_goesOn_122 rfl (lv_at hl 3 rfl) ?_
        obtain ⟨r1, σ2, hc2, hf⟩ := nBd_e hf
        refine nb_callVv (As := [.ref (a n), .ref (a q), .int x3]) (rest := []) ⟨hx, hb, hml, hown, hts⟩ (c_X11_comesTo (D := D) (A := A) (cy := cy) (a := a) (kt := kt) (vt := vt) (l := l) hn hq hc2) (cwV 3 hts gX11_goesOn_X11_comesTo rfl rfl rfl (by decide +kernel) ⟨Nat.le_of_ble_eq_true rfl, Nat.le_of_ble_eq_true rfl⟩) hE hP hS mbo_0 rfl rfl hl.1 rfl (Nat.le_of_ble_eq_true rfl) dX11_goesOn_123 (fun H locs hP hS => ?_)
        exact K126 σ2 x3 x4 H locs ls (lv_sub hl [0, 1, 2, 3, 4] rfl) hP hS hf
def b_X11_goesOn_24 (N : Nat) (n : Nat) (q : Nat) (k70 : nS → Int32 → Int32 → Option (Int32 × nS)) (k97 : nS → Int32 → Int32 → Option (Int32 × nS)) (σ : nS) (x3 : Int32) (x4 : Int32) : Option (Int32 × nS) := (if (σ.1 n 9) = 0 then k97 σ x3 x4 else nLet ((24 : Int32) * (σ.1 n 0) : Int32) (fun v1 => nLet (v1 + (σ.1 n 1) : Int32) (fun v2 => nIx v2 120 (nLet (σ.1 4 (v2).toNatClampNeg) (fun v3 => (if (2 : Int32) ≤ v3 then k70 σ x3 x4 else nBd (f_X11_changed N v2 (σ.1 n 3) σ) (fun r4 σ5 => nLet (wr σ5 n 3 r4) (fun σ6 => k70 σ6 x3 x4))))))))
set_option maxHeartbeats 4000000 in
set_option maxRecDepth 100000 in
theorem kb_X11_goesOn_24 {p : Program} {l : Launch} {e : Env} {s : State} {m : MethodId} {args : Array Value} {below : List Frame} {meth : Method} {c : Code} {D : va_G} {A : Nat → Prop} {cy : Nat → ClassId} {a kt vt : Nat → Nat} {N : Nat} {n : Nat} {q : Nat} (hn : nNt n) (hq : nAr 0 (Mw cy a) cy a q 6144) (C0 : nCx p s m args meth c cX11_goesOn 6 none RX11 wsX11_goesOn) (hE : nEn D A cy (Mw cy a) kt vt s) {z : Int32 × nS} {k70 : nS → Int32 → Int32 → Option (Int32 × nS)} (K70 : ∀ (σ : nS) (x3 : Int32) (x4 : Int32) (H : Heap) (locs : List Loc) (ls : Array Slot), lv_has ls 6 [(0, .ref (a 0)), (1, .ref (a n)), (2, .ref (a q)), (3, .int x3), (4, .int x4)] → va_P D vwCl ((Mw cy a) σ) H → va_S A s.heap H locs → k70 σ x3 x4 = some z → W p l e ({ frames := 3, cells := 0, slots := 0, locals := 74 } : Room) s m args below meth c H locs 0 0 (nQv below D A (Mw cy a) args s z) (F0 m 70 ls [])) {k97 : nS → Int32 → Int32 → Option (Int32 × nS)} (K97 : ∀ (σ : nS) (x3 : Int32) (x4 : Int32) (H : Heap) (locs : List Loc) (ls : Array Slot), lv_has ls 6 [(0, .ref (a 0)), (1, .ref (a n)), (2, .ref (a q)), (3, .int x3), (4, .int x4)] → va_P D vwCl ((Mw cy a) σ) H → va_S A s.heap H locs → k97 σ x3 x4 = some z → W p l e ({ frames := 3, cells := 0, slots := 0, locals := 74 } : Room) s m args below meth c H locs 0 0 (nQv below D A (Mw cy a) args s z) (F0 m 97 ls [])) : ∀ (σ : nS) (x3 : Int32) (x4 : Int32) (H : Heap) (locs : List Loc) (ls : Array Slot), lv_has ls 6 [(0, .ref (a 0)), (1, .ref (a n)), (2, .ref (a q)), (3, .int x3), (4, .int x4)] → va_P D vwCl ((Mw cy a) σ) H → va_S A s.heap H locs → b_X11_goesOn_24 N n q k70 k97 σ x3 x4 = some z → W p l e ({ frames := 3, cells := 0, slots := 0, locals := 74 } : Room) s m args below meth c H locs 0 0 (nQv below D A (Mw cy a) args s z) (F0 m 24 ls []) := by
  obtain ⟨hx, hb, hr, hml, hown, hts, hlocks⟩ := C0
  intro σ x3 x4 H locs ls hl hP hS hf
  unfold b_X11_goesOn_24 at hf
  refine lv_aload_n hx hb dX11_goesOn_24 rfl (lv_at hl 1 rfl) ?_
  refine nb_getN (ci := 9) hx hb hts iX11_goesOn_X9 hown hE hP n (mboN hn) rfl 9 (by decide) (host := RX11) (by decide +kernel) rfl rfl dX11_goesOn_25 ?_
  refine lv_if_eq (tgt := 97) hx hb dX11_goesOn_28 (by decide) (fun hc => ?_) (fun hc => ?_)
  · replace hf := nIf_t hc hf
    exact K97 σ x3 x4 H locs ls (lv_sub hl [0, 1, 2, 3, 4] rfl) hP hS hf
  · replace hf := nIf_f hc hf
    refine lv_bipush (v := 24) hx hb dX11_goesOn_31 (by decide) ?_
    refine lv_aload_n hx hb dX11_goesOn_33 rfl (lv_at hl 1 rfl) ?_
    refine nb_getN (ci := 9) hx hb hts iX11_goesOn_X9 hown hE hP n (mboN hn) rfl 0 (by decide) (host := RX11) (by decide +kernel) rfl rfl dX11_goesOn_34 ?_
    refine lv_imul hx hb dX11_goesOn_37 ?_
    refine lv_topi (fun v1 ev1 => ?_)
    replace hf := nLet_e hf ev1
    refine lv_aload_n hx hb dX11_goesOn_38 rfl (lv_at hl 1 rfl) ?_
    refine nb_getN (ci := 9) hx hb hts iX11_goesOn_X9 hown hE hP n (mboN hn) rfl 1 (by decide) (host := RX11) (by decide +kernel) rfl rfl dX11_goesOn_39 ?_
    refine lv_iadd hx hb dX11_goesOn_42 ?_
    refine lv_topi (fun v2 ev2 => ?_)
    replace hf := nLet_e hf ev2
    refine lv_istore (lv' := [(5, .int v2), (0, .ref (a 0)), (1, .ref (a n)), (2, .ref (a q)), (3, .int x3), (4, .int x4)]) hx hb dX11_goesOn_43 hl (by decide) rfl (fun ls hl => ?_)
    refine lv_aload_n hx hb dX11_goesOn_45 rfl (lv_at hl 1 rfl) ?_
    refine nb_get (ci := 11) hx hb hts iX11_goesOn_X11 hown hE hP 0 mbo_0 rfl 12 (by decide) qX11_goesOn_26 rfl rfl dX11_goesOn_46 ?_
    refine lv_iload hx hb dX11_goesOn_49 (lv_at hl 0 rfl) ?_
    obtain ⟨hin, hf⟩ := nIx_e hf
    refine na_iald hx hb hE hP mbr_4 hin dX11_goesOn_51 ?_
    refine lv_topi (fun v3 ev3 => ?_)
    replace hf := nLet_e hf ev3
    refine lv_iconst (v := 2) hx hb dX11_goesOn_52 (by decide) ?_
    refine lv_icmp_ge (tgt := 70) hx hb dX11_goesOn_53 (by decide) (fun hc => ?_) (fun hc => ?_)
    · replace hf := nIf_t hc hf
      exact K70 σ x3 x4 H locs ls (lv_sub hl [1, 2, 3, 4, 5] rfl) hP hS hf
    · replace hf := nIf_f hc hf
      refine lv_aload_n hx hb dX11_goesOn_56 rfl (lv_at hl 2 rfl) ?_
      refine lv_aload_n hx hb dX11_goesOn_57 rfl (lv_at hl 1 rfl) ?_
      refine lv_iload hx hb dX11_goesOn_58 (lv_at hl 0 rfl) ?_
      refine lv_aload_n hx hb dX11_goesOn_60 rfl (lv_at hl 2 rfl) ?_
      refine nb_getN (ci := 9) hx hb hts iX11_goesOn_X9 hown hE hP n (mboN hn) rfl 3 (by decide) (host := RX11) (by decide +kernel) rfl rfl dX11_goesOn_61 ?_
      obtain ⟨r4, σ5, hc5, hf⟩ := nBd_e hf
      refine nb_callVi (As := [.int v2, .int (σ.1 n 3)]) (rest := [.ref (a n)]) ⟨hx, hb, hml, hown, hts⟩ (c_X11_changed (D := D) (A := A) (cy := cy) (a := a) (kt := kt) (vt := vt) (l := l)  hc5) (cwV 2 hts gX11_goesOn_X11_changed rfl rfl rfl (by decide +kernel) ⟨Nat.le_of_ble_eq_true rfl, Nat.le_of_ble_eq_true rfl⟩) hE hP hS mbo_0 rfl rfl hl.1 rfl (Nat.le_of_ble_eq_true rfl) dX11_goesOn_64 (fun H locs hP hS => ?_)
      refine nb_putN (ci := 9) hx hb hts iX11_goesOn_X9 tyX9 tyX9_ok nmX9 hown hE hP hS n (mboN hn) rfl 3 (by decide) (host := RX11) (by decide +kernel) rfl rfl rfl rfl (Nat.le_of_ble_eq_true rfl) dX11_goesOn_67 (mbpN_3 hn _) (fun σ6 eσ6 H locs hP hS => ?_)
      replace hf := nLet_e hf eσ6
      exact K70 σ6 x3 x4 H locs ls (lv_sub hl [1, 2, 3, 4, 5] rfl) hP hS hf
def b_X11_goesOn_0 (N : Nat) (n : Nat) (q : Nat) (k24 : nS → Int32 → Int32 → Option (Int32 × nS)) (σ : nS) (x3 : Int32) (x4 : Int32) : Option (Int32 × nS) := (if (σ.1 n 5) = (-1) then (if (σ.1 n 9) = 0 then k24 σ x3 x4 else (if (σ.1 n 6) ≤ x3 then k24 σ x3 x4 else some (0, σ))) else some (0, σ))
set_option maxHeartbeats 4000000 in
set_option maxRecDepth 100000 in
theorem kb_X11_goesOn_0 {p : Program} {l : Launch} {e : Env} {s : State} {m : MethodId} {args : Array Value} {below : List Frame} {meth : Method} {c : Code} {D : va_G} {A : Nat → Prop} {cy : Nat → ClassId} {a kt vt : Nat → Nat} {N : Nat} {n : Nat} {q : Nat} (hn : nNt n) (hq : nAr 0 (Mw cy a) cy a q 6144) (C0 : nCx p s m args meth c cX11_goesOn 6 none RX11 wsX11_goesOn) (hE : nEn D A cy (Mw cy a) kt vt s) {z : Int32 × nS} {k24 : nS → Int32 → Int32 → Option (Int32 × nS)} (K24 : ∀ (σ : nS) (x3 : Int32) (x4 : Int32) (H : Heap) (locs : List Loc) (ls : Array Slot), lv_has ls 6 [(0, .ref (a 0)), (1, .ref (a n)), (2, .ref (a q)), (3, .int x3), (4, .int x4)] → va_P D vwCl ((Mw cy a) σ) H → va_S A s.heap H locs → k24 σ x3 x4 = some z → W p l e ({ frames := 3, cells := 0, slots := 0, locals := 74 } : Room) s m args below meth c H locs 0 0 (nQv below D A (Mw cy a) args s z) (F0 m 24 ls [])) : ∀ (σ : nS) (x3 : Int32) (x4 : Int32) (H : Heap) (locs : List Loc) (ls : Array Slot), lv_has ls 6 [(0, .ref (a 0)), (1, .ref (a n)), (2, .ref (a q)), (3, .int x3), (4, .int x4)] → va_P D vwCl ((Mw cy a) σ) H → va_S A s.heap H locs → b_X11_goesOn_0 N n q k24 σ x3 x4 = some z → W p l e ({ frames := 3, cells := 0, slots := 0, locals := 74 } : Room) s m args below meth c H locs 0 0 (nQv below D A (Mw cy a) args s z) (F0 m 0 ls []) := by
  obtain ⟨hx, hb, hr, hml, hown, hts, hlocks⟩ := C0
  intro σ x3 x4 H locs ls hl hP hS hf
  unfold b_X11_goesOn_0 at hf
  refine lv_aload_n hx hb dX11_goesOn_0 rfl (lv_at hl 1 rfl) ?_
  refine nb_getN (ci := 9) hx hb hts iX11_goesOn_X9 hown hE hP n (mboN hn) rfl 5 (by decide) (host := RX11) (by decide +kernel) rfl rfl dX11_goesOn_1 ?_
  refine lv_iconst (v := (-1)) hx hb dX11_goesOn_4 (by decide) ?_
  refine lv_icmp_ne (tgt := 23) hx hb dX11_goesOn_5 (by decide) (fun hc => ?_) (fun hc => ?_)
  · replace hf := nIf_f hc hf
    exact nb_vret hx hb hr hlocks hP hS (nSo hf) dX11_goesOn_23
  · replace hf := nIf_t hc hf
    refine lv_aload_n hx hb dX11_goesOn_8 rfl (lv_at hl 1 rfl) ?_
    refine nb_getN (ci := 9) hx hb hts iX11_goesOn_X9 hown hE hP n (mboN hn) rfl 9 (by decide) (host := RX11) (by decide +kernel) rfl rfl dX11_goesOn_9 ?_
    refine lv_if_eq (tgt := 24) hx hb dX11_goesOn_12 (by decide) (fun hc => ?_) (fun hc => ?_)
    · replace hf := nIf_t hc hf
      exact K24 σ x3 x4 H locs ls (lv_sub hl [0, 1, 2, 3, 4] rfl) hP hS hf
    · replace hf := nIf_f hc hf
      refine lv_aload_n hx hb dX11_goesOn_15 rfl (lv_at hl 1 rfl) ?_
      refine nb_getN (ci := 9) hx hb hts iX11_goesOn_X9 hown hE hP n (mboN hn) rfl 6 (by decide) (host := RX11) (by decide +kernel) rfl rfl dX11_goesOn_16 ?_
      refine lv_iload_n hx hb dX11_goesOn_19 rfl (lv_at hl 3 rfl) ?_
      refine lv_icmp_le (tgt := 24) hx hb dX11_goesOn_20 (by decide) (fun hc => ?_) (fun hc => ?_)
      · replace hf := nIf_t hc hf
        exact K24 σ x3 x4 H locs ls (lv_sub hl [0, 1, 2, 3, 4] rfl) hP hS hf
      · replace hf := nIf_f hc hf
        exact nb_vret hx hb hr hlocks hP hS (nSo hf) dX11_goesOn_23
def l_X11_goesOn_70 (N : Nat) (n : Nat) (q : Nat) (k97 : nS → Int32 → Int32 → Option (Int32 × nS)) : nS → Int32 → Int32 → Option (Int32 × nS) := b_X11_goesOn_70 N n q k97
theorem kl_X11_goesOn_70 {p : Program} {l : Launch} {e : Env} {s : State} {m : MethodId} {args : Array Value} {below : List Frame} {meth : Method} {c : Code} {D : va_G} {A : Nat → Prop} {cy : Nat → ClassId} {a kt vt : Nat → Nat} {N : Nat} {n : Nat} {q : Nat} (hn : nNt n) (hq : nAr 0 (Mw cy a) cy a q 6144) (C0 : nCx p s m args meth c cX11_goesOn 6 none RX11 wsX11_goesOn) (hE : nEn D A cy (Mw cy a) kt vt s) {z : Int32 × nS} {k97 : nS → Int32 → Int32 → Option (Int32 × nS)} (K97 : ∀ (σ : nS) (x3 : Int32) (x4 : Int32) (H : Heap) (locs : List Loc) (ls : Array Slot), lv_has ls 6 [(0, .ref (a 0)), (1, .ref (a n)), (2, .ref (a q)), (3, .int x3), (4, .int x4)] → va_P D vwCl ((Mw cy a) σ) H → va_S A s.heap H locs → k97 σ x3 x4 = some z → W p l e ({ frames := 3, cells := 0, slots := 0, locals := 74 } : Room) s m args below meth c H locs 0 0 (nQv below D A (Mw cy a) args s z) (F0 m 97 ls [])) : ∀ (σ : nS) (x3 : Int32) (x4 : Int32) (H : Heap) (locs : List Loc) (ls : Array Slot), lv_has ls 6 [(0, .ref (a 0)), (1, .ref (a n)), (2, .ref (a q)), (3, .int x3), (4, .int x4)] → va_P D vwCl ((Mw cy a) σ) H → va_S A s.heap H locs → l_X11_goesOn_70 N n q k97 σ x3 x4 = some z → W p l e ({ frames := 3, cells := 0, slots := 0, locals := 74 } : Room) s m args below meth c H locs 0 0 (nQv below D A (Mw cy a) args s z) (F0 m 70 ls []) := by
  exact kb_X11_goesOn_70 (N := N) hn hq C0 hE K97
def l_X11_goesOn_126 (N : Nat) (n : Nat) (q : Nat) (k97 : nS → Int32 → Int32 → Option (Int32 × nS)) : nS → Int32 → Int32 → Option (Int32 × nS) := b_X11_goesOn_126 N n q k97
theorem kl_X11_goesOn_126 {p : Program} {l : Launch} {e : Env} {s : State} {m : MethodId} {args : Array Value} {below : List Frame} {meth : Method} {c : Code} {D : va_G} {A : Nat → Prop} {cy : Nat → ClassId} {a kt vt : Nat → Nat} {N : Nat} {n : Nat} {q : Nat} (hn : nNt n) (hq : nAr 0 (Mw cy a) cy a q 6144) (C0 : nCx p s m args meth c cX11_goesOn 6 none RX11 wsX11_goesOn) (hE : nEn D A cy (Mw cy a) kt vt s) {z : Int32 × nS} {k97 : nS → Int32 → Int32 → Option (Int32 × nS)} (K97 : ∀ (σ : nS) (x3 : Int32) (x4 : Int32) (H : Heap) (locs : List Loc) (ls : Array Slot), lv_has ls 6 [(0, .ref (a 0)), (1, .ref (a n)), (2, .ref (a q)), (3, .int x3), (4, .int x4)] → va_P D vwCl ((Mw cy a) σ) H → va_S A s.heap H locs → k97 σ x3 x4 = some z → W p l e ({ frames := 3, cells := 0, slots := 0, locals := 74 } : Room) s m args below meth c H locs 0 0 (nQv below D A (Mw cy a) args s z) (F0 m 97 ls [])) : ∀ (σ : nS) (x3 : Int32) (x4 : Int32) (H : Heap) (locs : List Loc) (ls : Array Slot), lv_has ls 6 [(0, .ref (a 0)), (1, .ref (a n)), (2, .ref (a q)), (3, .int x3), (4, .int x4)] → va_P D vwCl ((Mw cy a) σ) H → va_S A s.heap H locs → l_X11_goesOn_126 N n q k97 σ x3 x4 = some z → W p l e ({ frames := 3, cells := 0, slots := 0, locals := 74 } : Room) s m args below meth c H locs 0 0 (nQv below D A (Mw cy a) args s z) (F0 m 126 ls []) := by
  exact kb_X11_goesOn_126 (N := N) hn hq C0 hE K97
def l_X11_goesOn_97 (N : Nat) (n : Nat) (q : Nat) : nS → Int32 → Int32 → Option (Int32 × nS) := nLp (fun _ _ _ => none) (fun again => b_X11_goesOn_97 N n q (l_X11_goesOn_126 N n q again)) N
theorem kl_X11_goesOn_97 {p : Program} {l : Launch} {e : Env} {s : State} {m : MethodId} {args : Array Value} {below : List Frame} {meth : Method} {c : Code} {D : va_G} {A : Nat → Prop} {cy : Nat → ClassId} {a kt vt : Nat → Nat} {N : Nat} {n : Nat} {q : Nat} (hn : nNt n) (hq : nAr 0 (Mw cy a) cy a q 6144) (C0 : nCx p s m args meth c cX11_goesOn 6 none RX11 wsX11_goesOn) (hE : nEn D A cy (Mw cy a) kt vt s) {z : Int32 × nS} : ∀ (σ : nS) (x3 : Int32) (x4 : Int32) (H : Heap) (locs : List Loc) (ls : Array Slot), lv_has ls 6 [(0, .ref (a 0)), (1, .ref (a n)), (2, .ref (a q)), (3, .int x3), (4, .int x4)] → va_P D vwCl ((Mw cy a) σ) H → va_S A s.heap H locs → l_X11_goesOn_97 N n q σ x3 x4 = some z → W p l e ({ frames := 3, cells := 0, slots := 0, locals := 74 } : Room) s m args below meth c H locs 0 0 (nQv below D A (Mw cy a) args s z) (F0 m 97 ls []) := by
  have main : ∀ (fu : Nat), ∀ (σ : nS) (x3 : Int32) (x4 : Int32) (H : Heap) (locs : List Loc) (ls : Array Slot), lv_has ls 6 [(0, .ref (a 0)), (1, .ref (a n)), (2, .ref (a q)), (3, .int x3), (4, .int x4)] → va_P D vwCl ((Mw cy a) σ) H → va_S A s.heap H locs → nLp (fun _ _ _ => none) (fun again => b_X11_goesOn_97 N n q (l_X11_goesOn_126 N n q again)) fu σ x3 x4 = some z → W p l e ({ frames := 3, cells := 0, slots := 0, locals := 74 } : Room) s m args below meth c H locs 0 0 (nQv below D A (Mw cy a) args s z) (F0 m 97 ls []) := by
    intro fu
    induction fu with
    | zero => intro σ x3 x4 H locs ls hl hP hS hf; cases hf
    | succ fu ih => exact kb_X11_goesOn_97 (N := N) hn hq C0 hE (kl_X11_goesOn_126 (N := N) hn hq C0 hE ih)
  exact main N
def l_X11_goesOn_24 (N : Nat) (n : Nat) (q : Nat) : nS → Int32 → Int32 → Option (Int32 × nS) := b_X11_goesOn_24 N n q (l_X11_goesOn_70 N n q (l_X11_goesOn_97 N n q)) (l_X11_goesOn_97 N n q)
theorem kl_X11_goesOn_24 {p : Program} {l : Launch} {e : Env} {s : State} {m : MethodId} {args : Array Value} {below : List Frame} {meth : Method} {c : Code} {D : va_G} {A : Nat → Prop} {cy : Nat → ClassId} {a kt vt : Nat → Nat} {N : Nat} {n : Nat} {q : Nat} (hn : nNt n) (hq : nAr 0 (Mw cy a) cy a q 6144) (C0 : nCx p s m args meth c cX11_goesOn 6 none RX11 wsX11_goesOn) (hE : nEn D A cy (Mw cy a) kt vt s) {z : Int32 × nS} : ∀ (σ : nS) (x3 : Int32) (x4 : Int32) (H : Heap) (locs : List Loc) (ls : Array Slot), lv_has ls 6 [(0, .ref (a 0)), (1, .ref (a n)), (2, .ref (a q)), (3, .int x3), (4, .int x4)] → va_P D vwCl ((Mw cy a) σ) H → va_S A s.heap H locs → l_X11_goesOn_24 N n q σ x3 x4 = some z → W p l e ({ frames := 3, cells := 0, slots := 0, locals := 74 } : Room) s m args below meth c H locs 0 0 (nQv below D A (Mw cy a) args s z) (F0 m 24 ls []) := by
  exact kb_X11_goesOn_24 (N := N) hn hq C0 hE (kl_X11_goesOn_70 (N := N) hn hq C0 hE (kl_X11_goesOn_97 (N := N) hn hq C0 hE)) (kl_X11_goesOn_97 (N := N) hn hq C0 hE)
def l_X11_goesOn_0 (N : Nat) (n : Nat) (q : Nat) : nS → Int32 → Int32 → Option (Int32 × nS) := b_X11_goesOn_0 N n q (l_X11_goesOn_24 N n q)
theorem kl_X11_goesOn_0 {p : Program} {l : Launch} {e : Env} {s : State} {m : MethodId} {args : Array Value} {below : List Frame} {meth : Method} {c : Code} {D : va_G} {A : Nat → Prop} {cy : Nat → ClassId} {a kt vt : Nat → Nat} {N : Nat} {n : Nat} {q : Nat} (hn : nNt n) (hq : nAr 0 (Mw cy a) cy a q 6144) (C0 : nCx p s m args meth c cX11_goesOn 6 none RX11 wsX11_goesOn) (hE : nEn D A cy (Mw cy a) kt vt s) {z : Int32 × nS} : ∀ (σ : nS) (x3 : Int32) (x4 : Int32) (H : Heap) (locs : List Loc) (ls : Array Slot), lv_has ls 6 [(0, .ref (a 0)), (1, .ref (a n)), (2, .ref (a q)), (3, .int x3), (4, .int x4)] → va_P D vwCl ((Mw cy a) σ) H → va_S A s.heap H locs → l_X11_goesOn_0 N n q σ x3 x4 = some z → W p l e ({ frames := 3, cells := 0, slots := 0, locals := 74 } : Room) s m args below meth c H locs 0 0 (nQv below D A (Mw cy a) args s z) (F0 m 0 ls []) := by
  exact kb_X11_goesOn_0 (N := N) hn hq C0 hE (kl_X11_goesOn_24 (N := N) hn hq C0 hE)
def f_X11_goesOn (N : Nat) (n : Nat) (q : Nat) (x3 : Int32) (x4 : Int32) (σ : nS) : Option (Int32 × nS) := l_X11_goesOn_0 N n q σ x3 x4
set_option maxHeartbeats 4000000 in
set_option maxRecDepth 100000 in
theorem c_X11_goesOn {l : Launch} {D : va_G} {A : Nat → Prop} {cy : Nat → ClassId} {a kt vt : Nat → Nat} {N : Nat} {n : Nat} {q : Nat} (hn : nNt n) (hq : nAr 0 (Mw cy a) cy a q 6144) {x3 : Int32} {x4 : Int32} {σ : nS} {r : Int32} {σ' : nS} (hf : f_X11_goesOn N n q x3 x4 σ = some (r, σ')) : nMv l yX11_goesOn wsX11_goesOn ({ frames := 3, cells := 0, slots := 0, locals := 74 } : Room) D A cy (Mw cy a) kt vt [.ref (a 0), .ref (a n), .ref (a q), .int x3, .int x4] σ σ' := by
  refine Met.ofW (cc := cX11_goesOn) (maxL := 6) (ret := none) (by decide) rfl ?_
  intro p e s m args below meth c s₁ B hml hv
  obtain ⟨rfl, hP, hE⟩ := hv
  have hl := lv_entry ([.ref (a 0), .ref (a n), .ref (a q), .int x3, .int x4]) (n := 6) (Nat.le_of_ble_eq_true rfl)
  rw [lg_entry_eq]
  generalize (lg_sl ([.ref (a 0), .ref (a n), .ref (a q), .int x3, .int x4]) ++ List.replicate (6 - (lg_sl ([.ref (a 0), .ref (a n), .ref (a q), .int x3, .int x4])).length) Slot.unset).toArray = ls at hl ⊢
  have C0 : nCx p s m _ meth c cX11_goesOn 6 none RX11 wsX11_goesOn := ⟨B.exec, B.bytes, B.returns, hml, findClass_of_methodNamed B.named, atoms_spec (ws := wsX11_goesOn) B.pre, B.notSynchronized⟩
  exact kl_X11_goesOn_0 (N := N) hn hq C0 hE (z := (r, σ')) σ x3 x4 _ _ ls hl hP va_S.rf hf
/-! X11_nights -/
set_option maxRecDepth 20000 in
theorem iX11_nights_X11 : ∀ w ∈ u_ws RX11 TX11 68, w ∈ wsX11_nights := fun _ h => List.mem_cons_of_mem _ (List.mem_append_left _ (List.mem_append_right _ h))
set_option maxRecDepth 20000 in
theorem qX11_nights_117 : Cond.fieldLink RX11 117 RX11 (TX11 0).2.1 (TX11 0).2.2.1 ∈ wsX11_nights := by decide +kernel
set_option maxRecDepth 20000 in
theorem qX11_nights_257 : Cond.fieldLink RX11 257 RX11 (TX11 31).2.1 (TX11 31).2.2.1 ∈ wsX11_nights := by decide +kernel
set_option maxRecDepth 20000 in
theorem qX11_nights_92 : Cond.fieldLink RX11 92 RX11 (TX11 58).2.1 (TX11 58).2.2.1 ∈ wsX11_nights := by decide +kernel
set_option maxRecDepth 20000 in
theorem qX11_nights_96 : Cond.fieldLink RX11 96 RX11 (TX11 59).2.1 (TX11 59).2.2.1 ∈ wsX11_nights := by decide +kernel
set_option maxRecDepth 20000 in
theorem qX11_nights_99 : Cond.fieldLink RX11 99 RX11 (TX11 60).2.1 (TX11 60).2.2.1 ∈ wsX11_nights := by decide +kernel
set_option maxRecDepth 20000 in
theorem iX11_nights_X9 : ∀ w ∈ u_ws RX9 TX9 11, w ∈ wsX11_nights := fun _ h => List.mem_cons_of_mem _ (List.mem_append_right _ h)
set_option maxRecDepth 20000 in
theorem qX11_nights_411 : Cond.fieldLink RX11 411 RX11 (TX11 61).2.1 (TX11 61).2.2.1 ∈ wsX11_nights := by decide +kernel
set_option maxRecDepth 20000 in
theorem qX11_nights_55 : Cond.fieldLink RX11 55 RX11 (TX11 28).2.1 (TX11 28).2.2.1 ∈ wsX11_nights := by decide +kernel
set_option maxRecDepth 20000 in
theorem qX11_nights_58 : Cond.fieldLink RX11 58 RX11 (TX11 29).2.1 (TX11 29).2.2.1 ∈ wsX11_nights := by decide +kernel
def b_X11_nights_146 (N : Nat) (k124 : nS → Int32 → Int32 → Option (Int32 × nS)) (σ : nS) (x7 : Int32) (x8 : Int32) : Option (Int32 × nS) := nBd (f_X11_goesOn N 23 12 x8 x7 σ) (fun r1 σ2 => nBd (f_X11_goesOn N 24 13 x8 x7 σ2) (fun r3 σ4 => nLet (x8 + 1 : Int32) (fun v5 => k124 σ4 x7 v5)))
set_option maxHeartbeats 4000000 in
set_option maxRecDepth 100000 in
theorem kb_X11_nights_146 {p : Program} {l : Launch} {e : Env} {s : State} {m : MethodId} {args : Array Value} {below : List Frame} {meth : Method} {c : Code} {D : va_G} {A : Nat → Prop} {cy : Nat → ClassId} {a kt vt : Nat → Nat} {N : Nat}   (C0 : nCx p s m args meth c cX11_nights 9 (some .int) RX11 wsX11_nights) (hE : nEn D A cy (Mw cy a) kt vt s) {z : Int32 × nS} {k124 : nS → Int32 → Int32 → Option (Int32 × nS)} (K124 : ∀ (σ : nS) (x7 : Int32) (x8 : Int32) (H : Heap) (locs : List Loc) (ls : Array Slot), lv_has ls 9 [(0, .ref (a 0)), (7, .int x7), (8, .int x8)] → va_P D vwCl ((Mw cy a) σ) H → va_S A s.heap H locs → k124 σ x7 x8 = some z → W p l e ({ frames := 4, cells := 0, slots := 0, locals := 99 } : Room) s m args below meth c H locs 0 0 (nQi below D A (Mw cy a) args s z) (F0 m 124 ls [])) : ∀ (σ : nS) (x7 : Int32) (x8 : Int32) (H : Heap) (locs : List Loc) (ls : Array Slot), lv_has ls 9 [(0, .ref (a 0)), (7, .int x7), (8, .int x8)] → va_P D vwCl ((Mw cy a) σ) H → va_S A s.heap H locs → b_X11_nights_146 N k124 σ x7 x8 = some z → W p l e ({ frames := 4, cells := 0, slots := 0, locals := 99 } : Room) s m args below meth c H locs 0 0 (nQi below D A (Mw cy a) args s z) (F0 m 146 ls []) := by
  obtain ⟨hx, hb, hr, hml, hown, hts, hlocks⟩ := C0
  intro σ x7 x8 H locs ls hl hP hS hf
  unfold b_X11_nights_146 at hf
  refine lv_aload_n hx hb dX11_nights_146 rfl (lv_at hl 0 rfl) ?_
  refine lv_aload_n hx hb dX11_nights_147 rfl (lv_at hl 0 rfl) ?_
  refine nb_get (ci := 11) hx hb hts iX11_nights_X11 hown hE hP 0 mbo_0 rfl 58 (by decide) qX11_nights_92 rfl rfl dX11_nights_148 ?_
  refine lv_aload_n hx hb dX11_nights_151 rfl (lv_at hl 0 rfl) ?_
  refine nb_get (ci := 11) hx hb hts iX11_nights_X11 hown hE hP 0 mbo_0 rfl 28 (by decide) qX11_nights_55 rfl rfl dX11_nights_152 ?_
  refine lv_iload hx hb dX11_nights_155 (lv_at hl 2 rfl) ?_
  refine lv_iload hx hb dX11_nights_157 (lv_at hl 1 rfl) ?_
  obtain ⟨r1, σ2, hc2, hf⟩ := nBd_e hf
  refine nb_callVv (As := [.ref (a 23), .ref (a 12), .int x8, .int x7]) (rest := []) ⟨hx, hb, hml, hown, hts⟩ (c_X11_goesOn (D := D) (A := A) (cy := cy) (a := a) (kt := kt) (vt := vt) (l := l) nNt_23 mbr_12 hc2) (cwV 4 hts gX11_nights_X11_goesOn rfl rfl rfl (by decide +kernel) ⟨Nat.le_of_ble_eq_true rfl, Nat.le_of_ble_eq_true rfl⟩) hE hP hS mbo_0 rfl rfl hl.1 rfl (Nat.le_of_ble_eq_true rfl) dX11_nights_159 (fun H locs hP hS => ?_)
  refine lv_aload_n hx hb dX11_nights_162 rfl (lv_at hl 0 rfl) ?_
  refine lv_aload_n hx hb dX11_nights_163 rfl (lv_at hl 0 rfl) ?_
  refine nb_get (ci := 11) hx hb hts iX11_nights_X11 hown hE hP 0 mbo_0 rfl 59 (by decide) qX11_nights_96 rfl rfl dX11_nights_164 ?_
  refine lv_aload_n hx hb dX11_nights_167 rfl (lv_at hl 0 rfl) ?_
  refine nb_get (ci := 11) hx hb hts iX11_nights_X11 hown hE hP 0 mbo_0 rfl 29 (by decide) qX11_nights_58 rfl rfl dX11_nights_168 ?_
  refine lv_iload hx hb dX11_nights_171 (lv_at hl 2 rfl) ?_
  refine lv_iload hx hb dX11_nights_173 (lv_at hl 1 rfl) ?_
  obtain ⟨r3, σ4, hc4, hf⟩ := nBd_e hf
  refine nb_callVv (As := [.ref (a 24), .ref (a 13), .int x8, .int x7]) (rest := []) ⟨hx, hb, hml, hown, hts⟩ (c_X11_goesOn (D := D) (A := A) (cy := cy) (a := a) (kt := kt) (vt := vt) (l := l) nNt_24 mbr_13 hc4) (cwV 4 hts gX11_nights_X11_goesOn rfl rfl rfl (by decide +kernel) ⟨Nat.le_of_ble_eq_true rfl, Nat.le_of_ble_eq_true rfl⟩) hE hP hS mbo_0 rfl rfl hl.1 rfl (Nat.le_of_ble_eq_true rfl) dX11_nights_175 (fun H locs hP hS => ?_)
  obtain ⟨v5, ev5⟩ : ∃ y : Int32, y = x8 + 1 := ⟨_, rfl⟩
  replace hf := nLet_e hf ev5
  refine lv_iinc (v := v5) (lv' := [(8, .int v5), (0, .ref (a 0)), (7, .int x7)]) hx hb dX11_nights_178 hl (k := 2) rfl (by rw [ev5]; rfl) (by decide) rfl (fun ls hl => ?_)
  refine lv_goto (tgt := 124) hx hb dX11_nights_181 (by decide) ?_
  exact K124 σ4 x7 v5 H locs ls (lv_sub hl [1, 2, 0] rfl) hP hS hf
def b_X11_nights_124 (N : Nat) (k146 : nS → Int32 → Int32 → Option (Int32 × nS)) (σ : nS) (x7 : Int32) (x8 : Int32) : Option (Int32 × nS) := (if (σ.1 23 5) = (-1) then k146 σ x7 x8 else (if (σ.1 24 5) = (-1) then k146 σ x7 x8 else nLet (wr σ 0 61 1) (fun σ1 => nLet (if (σ1.1 23 7) < (σ1.1 24 7) then (σ1.1 24 7) else (σ1.1 23 7)) (fun v2 => nBd (f_X11_done N v2 σ1) (fun r3 σ4 => some (r3, σ4))))))
set_option maxHeartbeats 4000000 in
set_option maxRecDepth 100000 in
theorem kb_X11_nights_124 {p : Program} {l : Launch} {e : Env} {s : State} {m : MethodId} {args : Array Value} {below : List Frame} {meth : Method} {c : Code} {D : va_G} {A : Nat → Prop} {cy : Nat → ClassId} {a kt vt : Nat → Nat} {N : Nat}   (C0 : nCx p s m args meth c cX11_nights 9 (some .int) RX11 wsX11_nights) (hE : nEn D A cy (Mw cy a) kt vt s) {z : Int32 × nS} {k146 : nS → Int32 → Int32 → Option (Int32 × nS)} (K146 : ∀ (σ : nS) (x7 : Int32) (x8 : Int32) (H : Heap) (locs : List Loc) (ls : Array Slot), lv_has ls 9 [(0, .ref (a 0)), (7, .int x7), (8, .int x8)] → va_P D vwCl ((Mw cy a) σ) H → va_S A s.heap H locs → k146 σ x7 x8 = some z → W p l e ({ frames := 4, cells := 0, slots := 0, locals := 99 } : Room) s m args below meth c H locs 0 0 (nQi below D A (Mw cy a) args s z) (F0 m 146 ls [])) : ∀ (σ : nS) (x7 : Int32) (x8 : Int32) (H : Heap) (locs : List Loc) (ls : Array Slot), lv_has ls 9 [(0, .ref (a 0)), (7, .int x7), (8, .int x8)] → va_P D vwCl ((Mw cy a) σ) H → va_S A s.heap H locs → b_X11_nights_124 N k146 σ x7 x8 = some z → W p l e ({ frames := 4, cells := 0, slots := 0, locals := 99 } : Room) s m args below meth c H locs 0 0 (nQi below D A (Mw cy a) args s z) (F0 m 124 ls []) := by
  obtain ⟨hx, hb, hr, hml, hown, hts, hlocks⟩ := C0
  intro σ x7 x8 H locs ls hl hP hS hf
  unfold b_X11_nights_124 at hf
  refine lv_aload_n hx hb dX11_nights_124 rfl (lv_at hl 0 rfl) ?_
  refine nb_get (ci := 11) hx hb hts iX11_nights_X11 hown hE hP 0 mbo_0 rfl 58 (by decide) qX11_nights_92 rfl rfl dX11_nights_125 ?_
  refine nb_getN (ci := 9) hx hb hts iX11_nights_X9 hown hE hP 23 (mboN nNt_23) rfl 5 (by decide) (host := RX11) (by decide +kernel) rfl rfl dX11_nights_128 ?_
  refine lv_iconst (v := (-1)) hx hb dX11_nights_131 (by decide) ?_
  refine lv_icmp_eq (tgt := 146) hx hb dX11_nights_132 (by decide) (fun hc => ?_) (fun hc => ?_)
  · replace hf := nIf_t hc hf
    exact K146 σ x7 x8 H locs ls (lv_sub hl [0, 1, 2] rfl) hP hS hf
  · replace hf := nIf_f hc hf
    refine lv_aload_n hx hb dX11_nights_135 rfl (lv_at hl 0 rfl) ?_
    refine nb_get (ci := 11) hx hb hts iX11_nights_X11 hown hE hP 0 mbo_0 rfl 59 (by decide) qX11_nights_96 rfl rfl dX11_nights_136 ?_
    refine nb_getN (ci := 9) hx hb hts iX11_nights_X9 hown hE hP 24 (mboN nNt_24) rfl 5 (by decide) (host := RX11) (by decide +kernel) rfl rfl dX11_nights_139 ?_
    refine lv_iconst (v := (-1)) hx hb dX11_nights_142 (by decide) ?_
    refine lv_icmp_ne (tgt := 184) hx hb dX11_nights_143 (by decide) (fun hc => ?_) (fun hc => ?_)
    · replace hf := nIf_f hc hf
      refine lv_aload_n hx hb dX11_nights_184 rfl (lv_at hl 0 rfl) ?_
      refine lv_iconst (v := 1) hx hb dX11_nights_185 (by decide) ?_
      refine nb_put (ci := 11) hx hb hts iX11_nights_X11 tyX11 tyX11_ok nmX11 hown hE hP hS 0 mbo_0 rfl 61 (by decide) qX11_nights_411 rfl rfl rfl rfl (Nat.le_of_ble_eq_true rfl) dX11_nights_186 (mbp_0_61 _) (fun σ1 eσ1 H locs hP hS => ?_)
      replace hf := nLet_e hf eσ1
      refine lv_aload_n hx hb dX11_nights_189 rfl (lv_at hl 0 rfl) ?_
      refine lv_aload_n hx hb dX11_nights_190 rfl (lv_at hl 0 rfl) ?_
      refine nb_get (ci := 11) hx hb hts iX11_nights_X11 hown hE hP 0 mbo_0 rfl 58 (by decide) qX11_nights_92 rfl rfl dX11_nights_191 ?_
      refine nb_getN (ci := 9) hx hb hts iX11_nights_X9 hown hE hP 23 (mboN nNt_23) rfl 7 (by decide) (host := RX11) (by decide +kernel) rfl rfl dX11_nights_194 ?_
      refine lv_aload_n hx hb dX11_nights_197 rfl (lv_at hl 0 rfl) ?_
      refine nb_get (ci := 11) hx hb hts iX11_nights_X11 hown hE hP 0 mbo_0 rfl 59 (by decide) qX11_nights_96 rfl rfl dX11_nights_198 ?_
      refine nb_getN (ci := 9) hx hb hts iX11_nights_X9 hown hE hP 24 (mboN nNt_24) rfl 7 (by decide) (host := RX11) (by decide +kernel) rfl rfl dX11_nights_201 ?_
      refine va_mmax hx hb (hml.trans hl.1.symm) hown (hts (.methodLink RX11 415 Lib.Math.max.name) (by decide +kernel)) (hts (.static Lib.Math.max.name) (by decide +kernel)) (hts (.initialized "java/lang/Math") (by decide +kernel)) (hts (.code Lib.Math.max.name Lib.Math.max.code 2 (some .int)) (by decide +kernel)) (Nat.le_of_ble_eq_true rfl) (Nat.le_of_ble_eq_true rfl) (Nat.zero_le _) (Nat.zero_le _) dX11_nights_204 ?_
      refine lv_topi (fun v2 ev2 => ?_)
      replace hf := nLet_e hf ev2
      obtain ⟨r3, σ4, hc4, hf⟩ := nBd_e hf
      refine nb_callVi (As := [.int v2]) (rest := []) ⟨hx, hb, hml, hown, hts⟩ (c_X11_done (D := D) (A := A) (cy := cy) (a := a) (kt := kt) (vt := vt) (l := l)  hc4) (cwV 1 hts gX11_nights_X11_done rfl rfl rfl (by decide +kernel) ⟨Nat.le_of_ble_eq_true rfl, Nat.le_of_ble_eq_true rfl⟩) hE hP hS mbo_0 rfl rfl hl.1 rfl (Nat.le_of_ble_eq_true rfl) dX11_nights_207 (fun H locs hP hS => ?_)
      exact nb_iret hx hb hr hlocks hP hS (nSo hf) dX11_nights_210
    · replace hf := nIf_t hc hf
      exact K146 σ x7 x8 H locs ls (lv_sub hl [0, 1, 2] rfl) hP hS hf
def b_X11_nights_68 (N : Nat) (k68 : nS → Int32 → Int32 → Int32 → Int32 → Int32 → Int32 → Int32 → Int32 → Option (Int32 × nS)) (k124 : nS → Int32 → Int32 → Option (Int32 × nS)) (σ : nS) (x1 : Int32) (x2 : Int32) (x3 : Int32) (x4 : Int32) (x5 : Int32) (x6 : Int32) (x7 : Int32) (x8 : Int32) : Option (Int32 × nS) := (if (4 : Int32) ≤ x8 then nBd (f_X11_allFacts N σ) (fun r1 σ2 => nLet (x2 &&& r1 : Int32) (fun v3 => nBd (f_X9_begin N 23 x1 v3 x3 σ2) (fun r4 σ5 => nBd (f_X11_allFacts N σ5) (fun r6 σ7 => nLet (x5 &&& r6 : Int32) (fun v8 => nBd (f_X9_begin N 24 x4 v8 x6 σ7) (fun r9 σ10 => k124 σ10 x7 0)))))) else nIx x8 4 (nLet (wr σ 25 (x8).toNatClampNeg 0) (fun σ11 => nLet (x8 + 1 : Int32) (fun v12 => k68 σ11 x1 x2 x3 x4 x5 x6 x7 v12))))
set_option maxHeartbeats 4000000 in
set_option maxRecDepth 100000 in
theorem kb_X11_nights_68 {p : Program} {l : Launch} {e : Env} {s : State} {m : MethodId} {args : Array Value} {below : List Frame} {meth : Method} {c : Code} {D : va_G} {A : Nat → Prop} {cy : Nat → ClassId} {a kt vt : Nat → Nat} {N : Nat}   (C0 : nCx p s m args meth c cX11_nights 9 (some .int) RX11 wsX11_nights) (hE : nEn D A cy (Mw cy a) kt vt s) {z : Int32 × nS} {k68 : nS → Int32 → Int32 → Int32 → Int32 → Int32 → Int32 → Int32 → Int32 → Option (Int32 × nS)} (K68 : ∀ (σ : nS) (x1 : Int32) (x2 : Int32) (x3 : Int32) (x4 : Int32) (x5 : Int32) (x6 : Int32) (x7 : Int32) (x8 : Int32) (H : Heap) (locs : List Loc) (ls : Array Slot), lv_has ls 9 [(0, .ref (a 0)), (1, .int x1), (2, .int x2), (3, .int x3), (4, .int x4), (5, .int x5), (6, .int x6), (7, .int x7), (8, .int x8)] → va_P D vwCl ((Mw cy a) σ) H → va_S A s.heap H locs → k68 σ x1 x2 x3 x4 x5 x6 x7 x8 = some z → W p l e ({ frames := 4, cells := 0, slots := 0, locals := 99 } : Room) s m args below meth c H locs 0 0 (nQi below D A (Mw cy a) args s z) (F0 m 68 ls [])) {k124 : nS → Int32 → Int32 → Option (Int32 × nS)} (K124 : ∀ (σ : nS) (x7 : Int32) (x8 : Int32) (H : Heap) (locs : List Loc) (ls : Array Slot), lv_has ls 9 [(0, .ref (a 0)), (7, .int x7), (8, .int x8)] → va_P D vwCl ((Mw cy a) σ) H → va_S A s.heap H locs → k124 σ x7 x8 = some z → W p l e ({ frames := 4, cells := 0, slots := 0, locals := 99 } : Room) s m args below meth c H locs 0 0 (nQi below D A (Mw cy a) args s z) (F0 m 124 ls [])) : ∀ (σ : nS) (x1 : Int32) (x2 : Int32) (x3 : Int32) (x4 : Int32) (x5 : Int32) (x6 : Int32) (x7 : Int32) (x8 : Int32) (H : Heap) (locs : List Loc) (ls : Array Slot), lv_has ls 9 [(0, .ref (a 0)), (1, .int x1), (2, .int x2), (3, .int x3), (4, .int x4), (5, .int x5), (6, .int x6), (7, .int x7), (8, .int x8)] → va_P D vwCl ((Mw cy a) σ) H → va_S A s.heap H locs → b_X11_nights_68 N k68 k124 σ x1 x2 x3 x4 x5 x6 x7 x8 = some z → W p l e ({ frames := 4, cells := 0, slots := 0, locals := 99 } : Room) s m args below meth c H locs 0 0 (nQi below D A (Mw cy a) args s z) (F0 m 68 ls []) := by
  obtain ⟨hx, hb, hr, hml, hown, hts, hlocks⟩ := C0
  intro σ x1 x2 x3 x4 x5 x6 x7 x8 H locs ls hl hP hS hf
  unfold b_X11_nights_68 at hf
  refine lv_iload hx hb dX11_nights_68 (lv_at hl 8 rfl) ?_
  refine lv_iconst (v := 4) hx hb dX11_nights_70 (by decide) ?_
  refine lv_icmp_ge (tgt := 88) hx hb dX11_nights_71 (by decide) (fun hc => ?_) (fun hc => ?_)
  · replace hf := nIf_t hc hf
    refine lv_aload_n hx hb dX11_nights_88 rfl (lv_at hl 0 rfl) ?_
    refine nb_get (ci := 11) hx hb hts iX11_nights_X11 hown hE hP 0 mbo_0 rfl 58 (by decide) qX11_nights_92 rfl rfl dX11_nights_89 ?_
    refine lv_iload_n hx hb dX11_nights_92 rfl (lv_at hl 1 rfl) ?_
    refine lv_iload_n hx hb dX11_nights_93 rfl (lv_at hl 2 rfl) ?_
    refine lv_aload_n hx hb dX11_nights_94 rfl (lv_at hl 0 rfl) ?_
    obtain ⟨r1, σ2, hc2, hf⟩ := nBd_e hf
    refine nb_callVi (As := []) (rest := [.int x2, .int x1, .ref (a 23)]) ⟨hx, hb, hml, hown, hts⟩ (c_X11_allFacts (D := D) (A := A) (cy := cy) (a := a) (kt := kt) (vt := vt) (l := l)  hc2) (cwV 0 hts gX11_nights_X11_allFacts rfl rfl rfl (by decide +kernel) ⟨Nat.le_of_ble_eq_true rfl, Nat.le_of_ble_eq_true rfl⟩) hE hP hS mbo_0 rfl rfl hl.1 rfl (Nat.le_of_ble_eq_true rfl) dX11_nights_95 (fun H locs hP hS => ?_)
    refine lv_iand hx hb dX11_nights_98 ?_
    refine lv_topi (fun v3 ev3 => ?_)
    replace hf := nLet_e hf ev3
    refine lv_iload_n hx hb dX11_nights_99 rfl (lv_at hl 3 rfl) ?_
    obtain ⟨r4, σ5, hc5, hf⟩ := nBd_e hf
    refine nb_callVv (As := [.int x1, .int v3, .int x3]) (rest := []) ⟨hx, hb, hml, hown, hts⟩ (c_X9_begin (D := D) (A := A) (cy := cy) (a := a) (kt := kt) (vt := vt) (l := l) nNt_23 hc5) (cwV 3 hts gX11_nights_X9_begin rfl rfl rfl (by decide +kernel) ⟨Nat.le_of_ble_eq_true rfl, Nat.le_of_ble_eq_true rfl⟩) hE hP hS (mboN nNt_23) rfl rfl hl.1 rfl (Nat.le_of_ble_eq_true rfl) dX11_nights_100 (fun H locs hP hS => ?_)
    refine lv_aload_n hx hb dX11_nights_103 rfl (lv_at hl 0 rfl) ?_
    refine nb_get (ci := 11) hx hb hts iX11_nights_X11 hown hE hP 0 mbo_0 rfl 59 (by decide) qX11_nights_96 rfl rfl dX11_nights_104 ?_
    refine lv_iload hx hb dX11_nights_107 (lv_at hl 4 rfl) ?_
    refine lv_iload hx hb dX11_nights_109 (lv_at hl 5 rfl) ?_
    refine lv_aload_n hx hb dX11_nights_111 rfl (lv_at hl 0 rfl) ?_
    obtain ⟨r6, σ7, hc7, hf⟩ := nBd_e hf
    refine nb_callVi (As := []) (rest := [.int x5, .int x4, .ref (a 24)]) ⟨hx, hb, hml, hown, hts⟩ (c_X11_allFacts (D := D) (A := A) (cy := cy) (a := a) (kt := kt) (vt := vt) (l := l)  hc7) (cwV 0 hts gX11_nights_X11_allFacts rfl rfl rfl (by decide +kernel) ⟨Nat.le_of_ble_eq_true rfl, Nat.le_of_ble_eq_true rfl⟩) hE hP hS mbo_0 rfl rfl hl.1 rfl (Nat.le_of_ble_eq_true rfl) dX11_nights_112 (fun H locs hP hS => ?_)
    refine lv_iand hx hb dX11_nights_115 ?_
    refine lv_topi (fun v8 ev8 => ?_)
    replace hf := nLet_e hf ev8
    refine lv_iload hx hb dX11_nights_116 (lv_at hl 6 rfl) ?_
    obtain ⟨r9, σ10, hc10, hf⟩ := nBd_e hf
    refine nb_callVv (As := [.int x4, .int v8, .int x6]) (rest := []) ⟨hx, hb, hml, hown, hts⟩ (c_X9_begin (D := D) (A := A) (cy := cy) (a := a) (kt := kt) (vt := vt) (l := l) nNt_24 hc10) (cwV 3 hts gX11_nights_X9_begin rfl rfl rfl (by decide +kernel) ⟨Nat.le_of_ble_eq_true rfl, Nat.le_of_ble_eq_true rfl⟩) hE hP hS (mboN nNt_24) rfl rfl hl.1 rfl (Nat.le_of_ble_eq_true rfl) dX11_nights_118 (fun H locs hP hS => ?_)
    refine lv_iconst (v := 0) hx hb dX11_nights_121 (by decide) ?_
    refine lv_istore (lv' := [(8, .int 0), (0, .ref (a 0)), (1, .int x1), (2, .int x2), (3, .int x3), (4, .int x4), (5, .int x5), (6, .int x6), (7, .int x7)]) hx hb dX11_nights_122 hl (by decide) rfl (fun ls hl => ?_)
    exact K124 σ10 x7 0 H locs ls (lv_sub hl [1, 8, 0] rfl) hP hS hf
  · replace hf := nIf_f hc hf
    refine lv_aload_n hx hb dX11_nights_74 rfl (lv_at hl 0 rfl) ?_
    refine nb_get (ci := 11) hx hb hts iX11_nights_X11 hown hE hP 0 mbo_0 rfl 60 (by decide) qX11_nights_99 rfl rfl dX11_nights_75 ?_
    refine lv_iload hx hb dX11_nights_78 (lv_at hl 8 rfl) ?_
    refine lv_iconst (v := 0) hx hb dX11_nights_80 (by decide) ?_
    obtain ⟨hin, hf⟩ := nIx_e hf
    refine na_iast hx hb hE hP hS mbr_25 hin dX11_nights_81 (fun σ11 eσ11 H locs hP hS => ?_)
    replace hf := nLet_e hf eσ11
    obtain ⟨v12, ev12⟩ : ∃ y : Int32, y = x8 + 1 := ⟨_, rfl⟩
    replace hf := nLet_e hf ev12
    refine lv_iinc (v := v12) (lv' := [(8, .int v12), (0, .ref (a 0)), (1, .int x1), (2, .int x2), (3, .int x3), (4, .int x4), (5, .int x5), (6, .int x6), (7, .int x7)]) hx hb dX11_nights_82 hl (k := 8) rfl (by rw [ev12]; rfl) (by decide) rfl (fun ls hl => ?_)
    refine lv_goto (tgt := 68) hx hb dX11_nights_85 (by decide) ?_
    exact K68 σ11 x1 x2 x3 x4 x5 x6 x7 v12 H locs ls (lv_sub hl [1, 2, 3, 4, 5, 6, 7, 8, 0] rfl) hP hS hf
def b_X11_nights_0 (N : Nat) (k68 : nS → Int32 → Int32 → Int32 → Int32 → Int32 → Int32 → Int32 → Int32 → Option (Int32 × nS)) (σ : nS) (x1 : Int32) (x2 : Int32) (x3 : Int32) (x4 : Int32) (x5 : Int32) (x6 : Int32) (x7 : Int32) : Option (Int32 × nS) := nLet (wr σ 0 0 0) (fun σ1 => nBd (f_X11_isBook N x1 σ1) (fun r2 σ3 => (if r2 = 0 then nBd (f_X11_refused N 1 σ3) (fun r4 σ5 => some (r4, σ5)) else nBd (f_X11_isBook N x4 σ3) (fun r6 σ7 => (if r6 = 0 then nBd (f_X11_refused N 1 σ7) (fun r18 σ19 => some (r18, σ19)) else nBd (f_X11_areBits N x2 x3 x7 σ7) (fun r8 σ9 => (if r8 = 0 then nBd (f_X11_refused N 2 σ9) (fun r10 σ11 => some (r10, σ11)) else nBd (f_X11_areBits N x5 x6 0 σ9) (fun r12 σ13 => (if r12 = 0 then nBd (f_X11_refused N 2 σ13) (fun r16 σ17 => some (r16, σ17)) else nLet ((σ13.1 0 31) + (1 : Int32) : Int32) (fun v14 => nLet (wr σ13 0 31 v14) (fun σ15 => k68 σ15 x1 x2 x3 x4 x5 x6 x7 0)))))))))))
set_option maxHeartbeats 4000000 in
set_option maxRecDepth 100000 in
theorem kb_X11_nights_0 {p : Program} {l : Launch} {e : Env} {s : State} {m : MethodId} {args : Array Value} {below : List Frame} {meth : Method} {c : Code} {D : va_G} {A : Nat → Prop} {cy : Nat → ClassId} {a kt vt : Nat → Nat} {N : Nat}   (C0 : nCx p s m args meth c cX11_nights 9 (some .int) RX11 wsX11_nights) (hE : nEn D A cy (Mw cy a) kt vt s) {z : Int32 × nS} {k68 : nS → Int32 → Int32 → Int32 → Int32 → Int32 → Int32 → Int32 → Int32 → Option (Int32 × nS)} (K68 : ∀ (σ : nS) (x1 : Int32) (x2 : Int32) (x3 : Int32) (x4 : Int32) (x5 : Int32) (x6 : Int32) (x7 : Int32) (x8 : Int32) (H : Heap) (locs : List Loc) (ls : Array Slot), lv_has ls 9 [(0, .ref (a 0)), (1, .int x1), (2, .int x2), (3, .int x3), (4, .int x4), (5, .int x5), (6, .int x6), (7, .int x7), (8, .int x8)] → va_P D vwCl ((Mw cy a) σ) H → va_S A s.heap H locs → k68 σ x1 x2 x3 x4 x5 x6 x7 x8 = some z → W p l e ({ frames := 4, cells := 0, slots := 0, locals := 99 } : Room) s m args below meth c H locs 0 0 (nQi below D A (Mw cy a) args s z) (F0 m 68 ls [])) : ∀ (σ : nS) (x1 : Int32) (x2 : Int32) (x3 : Int32) (x4 : Int32) (x5 : Int32) (x6 : Int32) (x7 : Int32) (H : Heap) (locs : List Loc) (ls : Array Slot), lv_has ls 9 [(0, .ref (a 0)), (1, .int x1), (2, .int x2), (3, .int x3), (4, .int x4), (5, .int x5), (6, .int x6), (7, .int x7)] → va_P D vwCl ((Mw cy a) σ) H → va_S A s.heap H locs → b_X11_nights_0 N k68 σ x1 x2 x3 x4 x5 x6 x7 = some z → W p l e ({ frames := 4, cells := 0, slots := 0, locals := 99 } : Room) s m args below meth c H locs 0 0 (nQi below D A (Mw cy a) args s z) (F0 m 0 ls []) := by
  obtain ⟨hx, hb, hr, hml, hown, hts, hlocks⟩ := C0
  intro σ x1 x2 x3 x4 x5 x6 x7 H locs ls hl hP hS hf
  unfold b_X11_nights_0 at hf
  refine lv_aload_n hx hb dX11_nights_0 rfl (lv_at hl 0 rfl) ?_
  refine lv_iconst (v := 0) hx hb dX11_nights_1 (by decide) ?_
  refine nb_put (ci := 11) hx hb hts iX11_nights_X11 tyX11 tyX11_ok nmX11 hown hE hP hS 0 mbo_0 rfl 0 (by decide) qX11_nights_117 rfl rfl rfl rfl (Nat.le_of_ble_eq_true rfl) dX11_nights_2 (mbp_0_0 _) (fun σ1 eσ1 H locs hP hS => ?_)
  replace hf := nLet_e hf eσ1
  refine lv_aload_n hx hb dX11_nights_5 rfl (lv_at hl 0 rfl) ?_
  refine lv_iload_n hx hb dX11_nights_6 rfl (lv_at hl 1 rfl) ?_
  obtain ⟨r2, σ3, hc3, hf⟩ := nBd_e hf
  refine nb_callVi (As := [.int x1]) (rest := []) ⟨hx, hb, hml, hown, hts⟩ (c_X11_isBook (D := D) (A := A) (cy := cy) (a := a) (kt := kt) (vt := vt) (l := l)  hc3) (cwV 1 hts gX11_nights_X11_isBook rfl rfl rfl (by decide +kernel) ⟨Nat.le_of_ble_eq_true rfl, Nat.le_of_ble_eq_true rfl⟩) hE hP hS mbo_0 rfl rfl hl.1 rfl (Nat.le_of_ble_eq_true rfl) dX11_nights_7 (fun H locs hP hS => ?_)
  refine lv_if_eq (tgt := 22) hx hb dX11_nights_10 (by decide) (fun hc => ?_) (fun hc => ?_)
  · replace hf := nIf_t hc hf
    refine lv_aload_n hx hb dX11_nights_22 rfl (lv_at hl 0 rfl) ?_
    refine lv_iconst (v := 1) hx hb dX11_nights_23 (by decide) ?_
    obtain ⟨r4, σ5, hc5, hf⟩ := nBd_e hf
    refine nb_callVi (As := [.int 1]) (rest := []) ⟨hx, hb, hml, hown, hts⟩ (c_X11_refused (D := D) (A := A) (cy := cy) (a := a) (kt := kt) (vt := vt) (l := l)  hc5) (cwV 1 hts gX11_nights_X11_refused rfl rfl rfl (by decide +kernel) ⟨Nat.le_of_ble_eq_true rfl, Nat.le_of_ble_eq_true rfl⟩) hE hP hS mbo_0 rfl rfl hl.1 rfl (Nat.le_of_ble_eq_true rfl) dX11_nights_24 (fun H locs hP hS => ?_)
    exact nb_iret hx hb hr hlocks hP hS (nSo hf) dX11_nights_27
  · replace hf := nIf_f hc hf
    refine lv_aload_n hx hb dX11_nights_13 rfl (lv_at hl 0 rfl) ?_
    refine lv_iload hx hb dX11_nights_14 (lv_at hl 4 rfl) ?_
    obtain ⟨r6, σ7, hc7, hf⟩ := nBd_e hf
    refine nb_callVi (As := [.int x4]) (rest := []) ⟨hx, hb, hml, hown, hts⟩ (c_X11_isBook (D := D) (A := A) (cy := cy) (a := a) (kt := kt) (vt := vt) (l := l)  hc7) (cwV 1 hts gX11_nights_X11_isBook rfl rfl rfl (by decide +kernel) ⟨Nat.le_of_ble_eq_true rfl, Nat.le_of_ble_eq_true rfl⟩) hE hP hS mbo_0 rfl rfl hl.1 rfl (Nat.le_of_ble_eq_true rfl) dX11_nights_16 (fun H locs hP hS => ?_)
    refine lv_if_ne (tgt := 28) hx hb dX11_nights_19 (by decide) (fun hc => ?_) (fun hc => ?_)
    · replace hf := nIf_f hc hf
      refine lv_iload_n hx hb dX11_nights_28 rfl (lv_at hl 2 rfl) ?_
      refine lv_iload_n hx hb dX11_nights_29 rfl (lv_at hl 3 rfl) ?_
      refine lv_iload hx hb dX11_nights_30 (lv_at hl 7 rfl) ?_
      obtain ⟨r8, σ9, hc9, hf⟩ := nBd_e hf
      refine nb_callSi (As := [.int x2, .int x3, .int x7]) (rest := []) ⟨hx, hb, hml, hown, hts⟩ (c_X11_areBits (D := D) (A := A) (cy := cy) (a := a) (kt := kt) (vt := vt) (l := l)  hc9) (va_cwS 3 hts gX11_nights_X11_areBits rfl rfl rfl (by decide +kernel) ⟨Nat.le_of_ble_eq_true rfl, Nat.le_of_ble_eq_true rfl⟩) hE hP hS rfl hl.1 rfl (Nat.le_of_ble_eq_true rfl) dX11_nights_32 (fun H locs hP hS => ?_)
      refine lv_if_eq (tgt := 49) hx hb dX11_nights_35 (by decide) (fun hc => ?_) (fun hc => ?_)
      · replace hf := nIf_t hc hf
        refine lv_aload_n hx hb dX11_nights_49 rfl (lv_at hl 0 rfl) ?_
        refine lv_iconst (v := 2) hx hb dX11_nights_50 (by decide) ?_
        obtain ⟨r10, σ11, hc11, hf⟩ := nBd_e hf
        refine nb_callVi (As := [.int 2]) (rest := []) ⟨hx, hb, hml, hown, hts⟩ (c_X11_refused (D := D) (A := A) (cy := cy) (a := a) (kt := kt) (vt := vt) (l := l)  hc11) (cwV 1 hts gX11_nights_X11_refused rfl rfl rfl (by decide +kernel) ⟨Nat.le_of_ble_eq_true rfl, Nat.le_of_ble_eq_true rfl⟩) hE hP hS mbo_0 rfl rfl hl.1 rfl (Nat.le_of_ble_eq_true rfl) dX11_nights_51 (fun H locs hP hS => ?_)
        exact nb_iret hx hb hr hlocks hP hS (nSo hf) dX11_nights_54
      · replace hf := nIf_f hc hf
        refine lv_iload hx hb dX11_nights_38 (lv_at hl 5 rfl) ?_
        refine lv_iload hx hb dX11_nights_40 (lv_at hl 6 rfl) ?_
        refine lv_iconst (v := 0) hx hb dX11_nights_42 (by decide) ?_
        obtain ⟨r12, σ13, hc13, hf⟩ := nBd_e hf
        refine nb_callSi (As := [.int x5, .int x6, .int 0]) (rest := []) ⟨hx, hb, hml, hown, hts⟩ (c_X11_areBits (D := D) (A := A) (cy := cy) (a := a) (kt := kt) (vt := vt) (l := l)  hc13) (va_cwS 3 hts gX11_nights_X11_areBits rfl rfl rfl (by decide +kernel) ⟨Nat.le_of_ble_eq_true rfl, Nat.le_of_ble_eq_true rfl⟩) hE hP hS rfl hl.1 rfl (Nat.le_of_ble_eq_true rfl) dX11_nights_43 (fun H locs hP hS => ?_)
        refine lv_if_ne (tgt := 55) hx hb dX11_nights_46 (by decide) (fun hc => ?_) (fun hc => ?_)
        · replace hf := nIf_f hc hf
          refine lv_aload_n hx hb dX11_nights_55 rfl (lv_at hl 0 rfl) ?_
          refine lv_dup hx hb dX11_nights_56 rfl ?_
          refine nb_get (ci := 11) hx hb hts iX11_nights_X11 hown hE hP 0 mbo_0 rfl 31 (by decide) qX11_nights_257 rfl rfl dX11_nights_57 ?_
          refine lv_iconst (v := 1) hx hb dX11_nights_60 (by decide) ?_
          refine lv_iadd hx hb dX11_nights_61 ?_
          refine lv_topi (fun v14 ev14 => ?_)
          replace hf := nLet_e hf ev14
          refine nb_put (ci := 11) hx hb hts iX11_nights_X11 tyX11 tyX11_ok nmX11 hown hE hP hS 0 mbo_0 rfl 31 (by decide) qX11_nights_257 rfl rfl rfl rfl (Nat.le_of_ble_eq_true rfl) dX11_nights_62 (mbp_0_31 _) (fun σ15 eσ15 H locs hP hS => ?_)
          replace hf := nLet_e hf eσ15
          refine lv_iconst (v := 0) hx hb dX11_nights_65 (by decide) ?_
          refine lv_istore (lv' := [(8, .int 0), (0, .ref (a 0)), (1, .int x1), (2, .int x2), (3, .int x3), (4, .int x4), (5, .int x5), (6, .int x6), (7, .int x7)]) hx hb dX11_nights_66 hl (by decide) rfl (fun ls hl => ?_)
          exact K68 σ15 x1 x2 x3 x4 x5 x6 x7 0 H locs ls (lv_sub hl [1, 2, 3, 4, 5, 6, 7, 8, 0] rfl) hP hS hf
        · replace hf := nIf_t hc hf
          refine lv_aload_n hx hb dX11_nights_49 rfl (lv_at hl 0 rfl) ?_
          refine lv_iconst (v := 2) hx hb dX11_nights_50 (by decide) ?_
          obtain ⟨r16, σ17, hc17, hf⟩ := nBd_e hf
          refine nb_callVi (As := [.int 2]) (rest := []) ⟨hx, hb, hml, hown, hts⟩ (c_X11_refused (D := D) (A := A) (cy := cy) (a := a) (kt := kt) (vt := vt) (l := l)  hc17) (cwV 1 hts gX11_nights_X11_refused rfl rfl rfl (by decide +kernel) ⟨Nat.le_of_ble_eq_true rfl, Nat.le_of_ble_eq_true rfl⟩) hE hP hS mbo_0 rfl rfl hl.1 rfl (Nat.le_of_ble_eq_true rfl) dX11_nights_51 (fun H locs hP hS => ?_)
          exact nb_iret hx hb hr hlocks hP hS (nSo hf) dX11_nights_54
    · replace hf := nIf_t hc hf
      refine lv_aload_n hx hb dX11_nights_22 rfl (lv_at hl 0 rfl) ?_
      refine lv_iconst (v := 1) hx hb dX11_nights_23 (by decide) ?_
      obtain ⟨r18, σ19, hc19, hf⟩ := nBd_e hf
      refine nb_callVi (As := [.int 1]) (rest := []) ⟨hx, hb, hml, hown, hts⟩ (c_X11_refused (D := D) (A := A) (cy := cy) (a := a) (kt := kt) (vt := vt) (l := l)  hc19) (cwV 1 hts gX11_nights_X11_refused rfl rfl rfl (by decide +kernel) ⟨Nat.le_of_ble_eq_true rfl, Nat.le_of_ble_eq_true rfl⟩) hE hP hS mbo_0 rfl rfl hl.1 rfl (Nat.le_of_ble_eq_true rfl) dX11_nights_24 (fun H locs hP hS => ?_)
      exact nb_iret hx hb hr hlocks hP hS (nSo hf) dX11_nights_27
def l_X11_nights_146 (N : Nat) (k124 : nS → Int32 → Int32 → Option (Int32 × nS)) : nS → Int32 → Int32 → Option (Int32 × nS) := b_X11_nights_146 N k124
theorem kl_X11_nights_146 {p : Program} {l : Launch} {e : Env} {s : State} {m : MethodId} {args : Array Value} {below : List Frame} {meth : Method} {c : Code} {D : va_G} {A : Nat → Prop} {cy : Nat → ClassId} {a kt vt : Nat → Nat} {N : Nat}   (C0 : nCx p s m args meth c cX11_nights 9 (some .int) RX11 wsX11_nights) (hE : nEn D A cy (Mw cy a) kt vt s) {z : Int32 × nS} {k124 : nS → Int32 → Int32 → Option (Int32 × nS)} (K124 : ∀ (σ : nS) (x7 : Int32) (x8 : Int32) (H : Heap) (locs : List Loc) (ls : Array Slot), lv_has ls 9 [(0, .ref (a 0)), (7, .int x7), (8, .int x8)] → va_P D vwCl ((Mw cy a) σ) H → va_S A s.heap H locs → k124 σ x7 x8 = some z → W p l e ({ frames := 4, cells := 0, slots := 0, locals := 99 } : Room) s m args below meth c H locs 0 0 (nQi below D A (Mw cy a) args s z) (F0 m 124 ls [])) : ∀ (σ : nS) (x7 : Int32) (x8 : Int32) (H : Heap) (locs : List Loc) (ls : Array Slot), lv_has ls 9 [(0, .ref (a 0)), (7, .int x7), (8, .int x8)] → va_P D vwCl ((Mw cy a) σ) H → va_S A s.heap H locs → l_X11_nights_146 N k124 σ x7 x8 = some z → W p l e ({ frames := 4, cells := 0, slots := 0, locals := 99 } : Room) s m args below meth c H locs 0 0 (nQi below D A (Mw cy a) args s z) (F0 m 146 ls []) := by
  exact kb_X11_nights_146 (N := N)  C0 hE K124
def l_X11_nights_124 (N : Nat) : nS → Int32 → Int32 → Option (Int32 × nS) := nLp (fun _ _ _ => none) (fun again => b_X11_nights_124 N (l_X11_nights_146 N again)) N
theorem kl_X11_nights_124 {p : Program} {l : Launch} {e : Env} {s : State} {m : MethodId} {args : Array Value} {below : List Frame} {meth : Method} {c : Code} {D : va_G} {A : Nat → Prop} {cy : Nat → ClassId} {a kt vt : Nat → Nat} {N : Nat}   (C0 : nCx p s m args meth c cX11_nights 9 (some .int) RX11 wsX11_nights) (hE : nEn D A cy (Mw cy a) kt vt s) {z : Int32 × nS} : ∀ (σ : nS) (x7 : Int32) (x8 : Int32) (H : Heap) (locs : List Loc) (ls : Array Slot), lv_has ls 9 [(0, .ref (a 0)), (7, .int x7), (8, .int x8)] → va_P D vwCl ((Mw cy a) σ) H → va_S A s.heap H locs → l_X11_nights_124 N σ x7 x8 = some z → W p l e ({ frames := 4, cells := 0, slots := 0, locals := 99 } : Room) s m args below meth c H locs 0 0 (nQi below D A (Mw cy a) args s z) (F0 m 124 ls []) := by
  have main : ∀ (fu : Nat), ∀ (σ : nS) (x7 : Int32) (x8 : Int32) (H : Heap) (locs : List Loc) (ls : Array Slot), lv_has ls 9 [(0, .ref (a 0)), (7, .int x7), (8, .int x8)] → va_P D vwCl ((Mw cy a) σ) H → va_S A s.heap H locs → nLp (fun _ _ _ => none) (fun again => b_X11_nights_124 N (l_X11_nights_146 N again)) fu σ x7 x8 = some z → W p l e ({ frames := 4, cells := 0, slots := 0, locals := 99 } : Room) s m args below meth c H locs 0 0 (nQi below D A (Mw cy a) args s z) (F0 m 124 ls []) := by
    intro fu
    induction fu with
    | zero => intro σ x7 x8 H locs ls hl hP hS hf; cases hf
    | succ fu ih => exact kb_X11_nights_124 (N := N)  C0 hE (kl_X11_nights_146 (N := N)  C0 hE ih)
  exact main N
def l_X11_nights_68 (N : Nat) : nS → Int32 → Int32 → Int32 → Int32 → Int32 → Int32 → Int32 → Int32 → Option (Int32 × nS) := nLp (fun _ _ _ _ _ _ _ _ _ => none) (fun again => b_X11_nights_68 N again (l_X11_nights_124 N)) N
theorem kl_X11_nights_68 {p : Program} {l : Launch} {e : Env} {s : State} {m : MethodId} {args : Array Value} {below : List Frame} {meth : Method} {c : Code} {D : va_G} {A : Nat → Prop} {cy : Nat → ClassId} {a kt vt : Nat → Nat} {N : Nat}   (C0 : nCx p s m args meth c cX11_nights 9 (some .int) RX11 wsX11_nights) (hE : nEn D A cy (Mw cy a) kt vt s) {z : Int32 × nS} : ∀ (σ : nS) (x1 : Int32) (x2 : Int32) (x3 : Int32) (x4 : Int32) (x5 : Int32) (x6 : Int32) (x7 : Int32) (x8 : Int32) (H : Heap) (locs : List Loc) (ls : Array Slot), lv_has ls 9 [(0, .ref (a 0)), (1, .int x1), (2, .int x2), (3, .int x3), (4, .int x4), (5, .int x5), (6, .int x6), (7, .int x7), (8, .int x8)] → va_P D vwCl ((Mw cy a) σ) H → va_S A s.heap H locs → l_X11_nights_68 N σ x1 x2 x3 x4 x5 x6 x7 x8 = some z → W p l e ({ frames := 4, cells := 0, slots := 0, locals := 99 } : Room) s m args below meth c H locs 0 0 (nQi below D A (Mw cy a) args s z) (F0 m 68 ls []) := by
  have main : ∀ (fu : Nat), ∀ (σ : nS) (x1 : Int32) (x2 : Int32) (x3 : Int32) (x4 : Int32) (x5 : Int32) (x6 : Int32) (x7 : Int32) (x8 : Int32) (H : Heap) (locs : List Loc) (ls : Array Slot), lv_has ls 9 [(0, .ref (a 0)), (1, .int x1), (2, .int x2), (3, .int x3), (4, .int x4), (5, .int x5), (6, .int x6), (7, .int x7), (8, .int x8)] → va_P D vwCl ((Mw cy a) σ) H → va_S A s.heap H locs → nLp (fun _ _ _ _ _ _ _ _ _ => none) (fun again => b_X11_nights_68 N again (l_X11_nights_124 N)) fu σ x1 x2 x3 x4 x5 x6 x7 x8 = some z → W p l e ({ frames := 4, cells := 0, slots := 0, locals := 99 } : Room) s m args below meth c H locs 0 0 (nQi below D A (Mw cy a) args s z) (F0 m 68 ls []) := by
    intro fu
    induction fu with
    | zero => intro σ x1 x2 x3 x4 x5 x6 x7 x8 H locs ls hl hP hS hf; cases hf
    | succ fu ih => exact kb_X11_nights_68 (N := N)  C0 hE ih (kl_X11_nights_124 (N := N)  C0 hE)
  exact main N
def l_X11_nights_0 (N : Nat) : nS → Int32 → Int32 → Int32 → Int32 → Int32 → Int32 → Int32 → Option (Int32 × nS) := b_X11_nights_0 N (l_X11_nights_68 N)
theorem kl_X11_nights_0 {p : Program} {l : Launch} {e : Env} {s : State} {m : MethodId} {args : Array Value} {below : List Frame} {meth : Method} {c : Code} {D : va_G} {A : Nat → Prop} {cy : Nat → ClassId} {a kt vt : Nat → Nat} {N : Nat}   (C0 : nCx p s m args meth c cX11_nights 9 (some .int) RX11 wsX11_nights) (hE : nEn D A cy (Mw cy a) kt vt s) {z : Int32 × nS} : ∀ (σ : nS) (x1 : Int32) (x2 : Int32) (x3 : Int32) (x4 : Int32) (x5 : Int32) (x6 : Int32) (x7 : Int32) (H : Heap) (locs : List Loc) (ls : Array Slot), lv_has ls 9 [(0, .ref (a 0)), (1, .int x1), (2, .int x2), (3, .int x3), (4, .int x4), (5, .int x5), (6, .int x6), (7, .int x7)] → va_P D vwCl ((Mw cy a) σ) H → va_S A s.heap H locs → l_X11_nights_0 N σ x1 x2 x3 x4 x5 x6 x7 = some z → W p l e ({ frames := 4, cells := 0, slots := 0, locals := 99 } : Room) s m args below meth c H locs 0 0 (nQi below D A (Mw cy a) args s z) (F0 m 0 ls []) := by
  exact kb_X11_nights_0 (N := N)  C0 hE (kl_X11_nights_68 (N := N)  C0 hE)
def f_X11_nights (N : Nat) (x1 : Int32) (x2 : Int32) (x3 : Int32) (x4 : Int32) (x5 : Int32) (x6 : Int32) (x7 : Int32) (σ : nS) : Option (Int32 × nS) := l_X11_nights_0 N σ x1 x2 x3 x4 x5 x6 x7
set_option maxHeartbeats 4000000 in
set_option maxRecDepth 100000 in
theorem c_X11_nights {l : Launch} {D : va_G} {A : Nat → Prop} {cy : Nat → ClassId} {a kt vt : Nat → Nat} {N : Nat}   {x1 : Int32} {x2 : Int32} {x3 : Int32} {x4 : Int32} {x5 : Int32} {x6 : Int32} {x7 : Int32} {σ : nS} {r : Int32} {σ' : nS} (hf : f_X11_nights N x1 x2 x3 x4 x5 x6 x7 σ = some (r, σ')) : nMi l yX11_nights wsX11_nights ({ frames := 4, cells := 0, slots := 0, locals := 99 } : Room) D A cy (Mw cy a) kt vt [.ref (a 0), .int x1, .int x2, .int x3, .int x4, .int x5, .int x6, .int x7] σ r σ' := by
  refine Met.ofW (cc := cX11_nights) (maxL := 9) (ret := (some .int)) (by decide) rfl ?_
  intro p e s m args below meth c s₁ B hml hv
  obtain ⟨rfl, hP, hE⟩ := hv
  have hl := lv_entry ([.ref (a 0), .int x1, .int x2, .int x3, .int x4, .int x5, .int x6, .int x7]) (n := 9) (Nat.le_of_ble_eq_true rfl)
  rw [lg_entry_eq]
  generalize (lg_sl ([.ref (a 0), .int x1, .int x2, .int x3, .int x4, .int x5, .int x6, .int x7]) ++ List.replicate (9 - (lg_sl ([.ref (a 0), .int x1, .int x2, .int x3, .int x4, .int x5, .int x6, .int x7])).length) Slot.unset).toArray = ls at hl ⊢
  have C0 : nCx p s m _ meth c cX11_nights 9 (some .int) RX11 wsX11_nights := ⟨B.exec, B.bytes, B.returns, hml, findClass_of_methodNamed B.named, atoms_spec (ws := wsX11_nights) B.pre, B.notSynchronized⟩
  exact kl_X11_nights_0 (N := N)  C0 hE (z := (r, σ')) σ x1 x2 x3 x4 x5 x6 x7 _ _ ls hl hP va_S.rf hf
/-! X11_night -/
set_option maxRecDepth 20000 in
theorem iX11_night_X11 : ∀ w ∈ u_ws RX11 TX11 68, w ∈ wsX11_night := fun _ h => List.mem_cons_of_mem _ (List.mem_append_left _ (List.mem_append_right _ h))
set_option maxRecDepth 20000 in
theorem qX11_night_117 : Cond.fieldLink RX11 117 RX11 (TX11 0).2.1 (TX11 0).2.2.1 ∈ wsX11_night := by decide +kernel
set_option maxRecDepth 20000 in
theorem qX11_night_411 : Cond.fieldLink RX11 411 RX11 (TX11 61).2.1 (TX11 61).2.2.1 ∈ wsX11_night := by decide +kernel
set_option maxRecDepth 20000 in
theorem qX11_night_92 : Cond.fieldLink RX11 92 RX11 (TX11 58).2.1 (TX11 58).2.2.1 ∈ wsX11_night := by decide +kernel
set_option maxRecDepth 20000 in
theorem iX11_night_X9 : ∀ w ∈ u_ws RX9 TX9 11, w ∈ wsX11_night := fun _ h => List.mem_cons_of_mem _ (List.mem_append_right _ h)
set_option maxRecDepth 20000 in
theorem qX11_night_96 : Cond.fieldLink RX11 96 RX11 (TX11 59).2.1 (TX11 59).2.2.1 ∈ wsX11_night := by decide +kernel
def b_X11_night_0 (N : Nat) (σ : nS) (x1 : Int32) (x2 : Int32) : Option (Int32 × nS) := nLet (wr σ 0 0 0) (fun σ1 => (if (σ1.1 0 61) = 0 then some ((-1), σ1) else (if x1 = 0 then (if x2 = 0 then some ((σ1.1 23 5), σ1) else (if x2 = 1 then some ((σ1.1 23 7), σ1) else (if x2 = 2 then some ((σ1.1 23 8), σ1) else some ((-1), σ1)))) else (if x2 = 0 then some ((σ1.1 24 5), σ1) else (if x2 = 1 then some ((σ1.1 24 7), σ1) else (if x2 = 2 then some ((σ1.1 24 8), σ1) else some ((-1), σ1)))))))
set_option maxHeartbeats 4000000 in
set_option maxRecDepth 100000 in
theorem kb_X11_night_0 {p : Program} {l : Launch} {e : Env} {s : State} {m : MethodId} {args : Array Value} {below : List Frame} {meth : Method} {c : Code} {D : va_G} {A : Nat → Prop} {cy : Nat → ClassId} {a kt vt : Nat → Nat} {N : Nat}   (C0 : nCx p s m args meth c cX11_night 4 (some .int) RX11 wsX11_night) (hE : nEn D A cy (Mw cy a) kt vt s) {z : Int32 × nS} : ∀ (σ : nS) (x1 : Int32) (x2 : Int32) (H : Heap) (locs : List Loc) (ls : Array Slot), lv_has ls 4 [(0, .ref (a 0)), (1, .int x1), (2, .int x2)] → va_P D vwCl ((Mw cy a) σ) H → va_S A s.heap H locs → b_X11_night_0 N σ x1 x2 = some z → W p l e ({ frames := 0, cells := 0, slots := 0, locals := 0 } : Room) s m args below meth c H locs 0 0 (nQi below D A (Mw cy a) args s z) (F0 m 0 ls []) := by
  obtain ⟨hx, hb, hr, hml, hown, hts, hlocks⟩ := C0
  intro σ x1 x2 H locs ls hl hP hS hf
  unfold b_X11_night_0 at hf
  refine lv_aload_n hx hb dX11_night_0 rfl (lv_at hl 0 rfl) ?_
  refine lv_iconst (v := 0) hx hb dX11_night_1 (by decide) ?_
  refine nb_put (ci := 11) hx hb hts iX11_night_X11 tyX11 tyX11_ok nmX11 hown hE hP hS 0 mbo_0 rfl 0 (by decide) qX11_night_117 rfl rfl rfl rfl (Nat.le_of_ble_eq_true rfl) dX11_night_2 (mbp_0_0 _) (fun σ1 eσ1 H locs hP hS => ?_)
  replace hf := nLet_e hf eσ1
  refine lv_aload_n hx hb dX11_night_5 rfl (lv_at hl 0 rfl) ?_
  refine nb_get (ci := 11) hx hb hts iX11_night_X11 hown hE hP 0 mbo_0 rfl 61 (by decide) qX11_night_411 rfl rfl dX11_night_6 ?_
  refine lv_if_ne (tgt := 14) hx hb dX11_night_9 (by decide) (fun hc => ?_) (fun hc => ?_)
  · replace hf := nIf_f hc hf
    refine lv_iload_n hx hb dX11_night_14 rfl (lv_at hl 1 rfl) ?_
    refine lv_if_eq (tgt := 25) hx hb dX11_night_15 (by decide) (fun hc => ?_) (fun hc => ?_)
    · replace hf := nIf_t hc hf
      refine lv_aload_n hx hb dX11_night_25 rfl (lv_at hl 0 rfl) ?_
      refine nb_get (ci := 11) hx hb hts iX11_night_X11 hown hE hP 0 mbo_0 rfl 58 (by decide) qX11_night_92 rfl rfl dX11_night_26 ?_
      refine lv_astore_n (lv' := [(3, .ref (a 23)), (0, .ref (a 0)), (1, .int x1), (2, .int x2)]) hx hb dX11_night_29 rfl hl (by decide) rfl (fun ls hl => ?_)
      refine lv_iload_n hx hb dX11_night_30 rfl (lv_at hl 3 rfl) ?_
      refine lv_if_ne (tgt := 41) hx hb dX11_night_31 (by decide) (fun hc => ?_) (fun hc => ?_)
      · replace hf := nIf_f hc hf
        refine lv_iload_n hx hb dX11_night_41 rfl (lv_at hl 3 rfl) ?_
        refine lv_iconst (v := 1) hx hb dX11_night_42 (by decide) ?_
        refine lv_icmp_ne (tgt := 53) hx hb dX11_night_43 (by decide) (fun hc => ?_) (fun hc => ?_)
        · replace hf := nIf_f hc hf
          refine lv_iload_n hx hb dX11_night_53 rfl (lv_at hl 3 rfl) ?_
          refine lv_iconst (v := 2) hx hb dX11_night_54 (by decide) ?_
          refine lv_icmp_ne (tgt := 65) hx hb dX11_night_55 (by decide) (fun hc => ?_) (fun hc => ?_)
          · replace hf := nIf_f hc hf
            refine lv_iconst (v := (-1)) hx hb dX11_night_65 (by decide) ?_
            exact nb_iret hx hb hr hlocks hP hS (nSo hf) dX11_night_66
          · replace hf := nIf_t hc hf
            refine lv_aload_n hx hb dX11_night_58 rfl (lv_at hl 0 rfl) ?_
            refine nb_getN (ci := 9) hx hb hts iX11_night_X9 hown hE hP 23 (mboN nNt_23) rfl 8 (by decide) (host := RX11) (by decide +kernel) rfl rfl dX11_night_59 ?_
            refine lv_goto (tgt := 66) hx hb dX11_night_62 (by decide) ?_
            exact nb_iret hx hb hr hlocks hP hS (nSo hf) dX11_night_66
        · replace hf := nIf_t hc hf
          refine lv_aload_n hx hb dX11_night_46 rfl (lv_at hl 0 rfl) ?_
          refine nb_getN (ci := 9) hx hb hts iX11_night_X9 hown hE hP 23 (mboN nNt_23) rfl 7 (by decide) (host := RX11) (by decide +kernel) rfl rfl dX11_night_47 ?_
          refine lv_goto (tgt := 66) hx hb dX11_night_50 (by decide) ?_
          exact nb_iret hx hb hr hlocks hP hS (nSo hf) dX11_night_66
      · replace hf := nIf_t hc hf
        refine lv_aload_n hx hb dX11_night_34 rfl (lv_at hl 0 rfl) ?_
        refine nb_getN (ci := 9) hx hb hts iX11_night_X9 hown hE hP 23 (mboN nNt_23) rfl 5 (by decide) (host := RX11) (by decide +kernel) rfl rfl dX11_night_35 ?_
        refine lv_goto (tgt := 66) hx hb dX11_night_38 (by decide) ?_
        exact nb_iret hx hb hr hlocks hP hS (nSo hf) dX11_night_66
    · replace hf := nIf_f hc hf
      refine lv_aload_n hx hb dX11_night_18 rfl (lv_at hl 0 rfl) ?_
      refine nb_get (ci := 11) hx hb hts iX11_night_X11 hown hE hP 0 mbo_0 rfl 59 (by decide) qX11_night_96 rfl rfl dX11_night_19 ?_
      refine lv_goto (tgt := 29) hx hb dX11_night_22 (by decide) ?_
      refine lv_astore_n (lv' := [(3, .ref (a 24)), (0, .ref (a 0)), (1, .int x1), (2, .int x2)]) hx hb dX11_night_29 rfl hl (by decide) rfl (fun ls hl => ?_)
      refine lv_iload_n hx hb dX11_night_30 rfl (lv_at hl 3 rfl) ?_
      refine lv_if_ne (tgt := 41) hx hb dX11_night_31 (by decide) (fun hc => ?_) (fun hc => ?_)
      · replace hf := nIf_f hc hf
        refine lv_iload_n hx hb dX11_night_41 rfl (lv_at hl 3 rfl) ?_
        refine lv_iconst (v := 1) hx hb dX11_night_42 (by decide) ?_
        refine lv_icmp_ne (tgt := 53) hx hb dX11_night_43 (by decide) (fun hc => ?_) (fun hc => ?_)
        · replace hf := nIf_f hc hf
          refine lv_iload_n hx hb dX11_night_53 rfl (lv_at hl 3 rfl) ?_
          refine lv_iconst (v := 2) hx hb dX11_night_54 (by decide) ?_
          refine lv_icmp_ne (tgt := 65) hx hb dX11_night_55 (by decide) (fun hc => ?_) (fun hc => ?_)
          · replace hf := nIf_f hc hf
            refine lv_iconst (v := (-1)) hx hb dX11_night_65 (by decide) ?_
            exact nb_iret hx hb hr hlocks hP hS (nSo hf) dX11_night_66
          · replace hf := nIf_t hc hf
            refine lv_aload_n hx hb dX11_night_58 rfl (lv_at hl 0 rfl) ?_
            refine nb_getN (ci := 9) hx hb hts iX11_night_X9 hown hE hP 24 (mboN nNt_24) rfl 8 (by decide) (host := RX11) (by decide +kernel) rfl rfl dX11_night_59 ?_
            refine lv_goto (tgt := 66) hx hb dX11_night_62 (by decide) ?_
            exact nb_iret hx hb hr hlocks hP hS (nSo hf) dX11_night_66
        · replace hf := nIf_t hc hf
          refine lv_aload_n hx hb dX11_night_46 rfl (lv_at hl 0 rfl) ?_
          refine nb_getN (ci := 9) hx hb hts iX11_night_X9 hown hE hP 24 (mboN nNt_24) rfl 7 (by decide) (host := RX11) (by decide +kernel) rfl rfl dX11_night_47 ?_
          refine lv_goto (tgt := 66) hx hb dX11_night_50 (by decide) ?_
          exact nb_iret hx hb hr hlocks hP hS (nSo hf) dX11_night_66
      · replace hf := nIf_t hc hf
        refine lv_aload_n hx hb dX11_night_34 rfl (lv_at hl 0 rfl) ?_
        refine nb_getN (ci := 9) hx hb hts iX11_night_X9 hown hE hP 24 (mboN nNt_24) rfl 5 (by decide) (host := RX11) (by decide +kernel) rfl rfl dX11_night_35 ?_
        refine lv_goto (tgt := 66) hx hb dX11_night_38 (by decide) ?_
        exact nb_iret hx hb hr hlocks hP hS (nSo hf) dX11_night_66
  · replace hf := nIf_t hc hf
    refine lv_iconst (v := (-1)) hx hb dX11_night_12 (by decide) ?_
    exact nb_iret hx hb hr hlocks hP hS (nSo hf) dX11_night_13
def l_X11_night_0 (N : Nat) : nS → Int32 → Int32 → Option (Int32 × nS) := b_X11_night_0 N
theorem kl_X11_night_0 {p : Program} {l : Launch} {e : Env} {s : State} {m : MethodId} {args : Array Value} {below : List Frame} {meth : Method} {c : Code} {D : va_G} {A : Nat → Prop} {cy : Nat → ClassId} {a kt vt : Nat → Nat} {N : Nat}   (C0 : nCx p s m args meth c cX11_night 4 (some .int) RX11 wsX11_night) (hE : nEn D A cy (Mw cy a) kt vt s) {z : Int32 × nS} : ∀ (σ : nS) (x1 : Int32) (x2 : Int32) (H : Heap) (locs : List Loc) (ls : Array Slot), lv_has ls 4 [(0, .ref (a 0)), (1, .int x1), (2, .int x2)] → va_P D vwCl ((Mw cy a) σ) H → va_S A s.heap H locs → l_X11_night_0 N σ x1 x2 = some z → W p l e ({ frames := 0, cells := 0, slots := 0, locals := 0 } : Room) s m args below meth c H locs 0 0 (nQi below D A (Mw cy a) args s z) (F0 m 0 ls []) := by
  exact kb_X11_night_0 (N := N)  C0 hE
def f_X11_night (N : Nat) (x1 : Int32) (x2 : Int32) (σ : nS) : Option (Int32 × nS) := l_X11_night_0 N σ x1 x2
set_option maxHeartbeats 4000000 in
set_option maxRecDepth 100000 in
theorem c_X11_night {l : Launch} {D : va_G} {A : Nat → Prop} {cy : Nat → ClassId} {a kt vt : Nat → Nat} {N : Nat}   {x1 : Int32} {x2 : Int32} {σ : nS} {r : Int32} {σ' : nS} (hf : f_X11_night N x1 x2 σ = some (r, σ')) : nMi l yX11_night wsX11_night ({ frames := 0, cells := 0, slots := 0, locals := 0 } : Room) D A cy (Mw cy a) kt vt [.ref (a 0), .int x1, .int x2] σ r σ' := by
  refine Met.ofW (cc := cX11_night) (maxL := 4) (ret := (some .int)) (by decide) rfl ?_
  intro p e s m args below meth c s₁ B hml hv
  obtain ⟨rfl, hP, hE⟩ := hv
  have hl := lv_entry ([.ref (a 0), .int x1, .int x2]) (n := 4) (Nat.le_of_ble_eq_true rfl)
  rw [lg_entry_eq]
  generalize (lg_sl ([.ref (a 0), .int x1, .int x2]) ++ List.replicate (4 - (lg_sl ([.ref (a 0), .int x1, .int x2])).length) Slot.unset).toArray = ls at hl ⊢
  have C0 : nCx p s m _ meth c cX11_night 4 (some .int) RX11 wsX11_night := ⟨B.exec, B.bytes, B.returns, hml, findClass_of_methodNamed B.named, atoms_spec (ws := wsX11_night) B.pre, B.notSynchronized⟩
  exact kl_X11_night_0 (N := N)  C0 hE (z := (r, σ')) σ x1 x2 _ _ ls hl hP va_S.rf hf
/-! X11_log -/
set_option maxRecDepth 20000 in
theorem iX11_log_X11 : ∀ w ∈ u_ws RX11 TX11 68, w ∈ wsX11_log := fun _ h => List.mem_cons_of_mem _ (List.mem_append_right _ h)
set_option maxRecDepth 20000 in
theorem qX11_log_117 : Cond.fieldLink RX11 117 RX11 (TX11 0).2.1 (TX11 0).2.2.1 ∈ wsX11_log := by decide +kernel
set_option maxRecDepth 20000 in
theorem qX11_log_420 : Cond.fieldLink RX11 420 RX11 (TX11 65).2.1 (TX11 65).2.2.1 ∈ wsX11_log := by decide +kernel
set_option maxRecDepth 20000 in
theorem qX11_log_102 : Cond.fieldLink RX11 102 RX11 (TX11 62).2.1 (TX11 62).2.2.1 ∈ wsX11_log := by decide +kernel
def b_X11_log_0 (N : Nat) (σ : nS) (x1 : Int32) : Option (Int32 × nS) := nLet (wr σ 0 0 0) (fun σ1 => nBd (f_X11_in N x1 0 23 σ1) (fun r2 σ3 => (if r2 = 0 then nBd (f_X11_refused N 2 σ3) (fun r11 σ12 => some (r11, σ12)) else (if (σ3.1 0 65) = 200 then nBd (f_X11_refused N 3 σ3) (fun r9 σ10 => some (r9, σ10)) else nIx (σ3.1 0 65) 200 (nLet (wr σ3 26 ((σ3.1 0 65)).toNatClampNeg x1) (fun σ4 => nLet ((σ4.1 0 65) + (1 : Int32) : Int32) (fun v5 => nLet (wr σ4 0 65 v5) (fun σ6 => nBd (f_X11_done N (σ6.1 0 65) σ6) (fun r7 σ8 => some (r7, σ8))))))))))
set_option maxHeartbeats 4000000 in
set_option maxRecDepth 100000 in
theorem kb_X11_log_0 {p : Program} {l : Launch} {e : Env} {s : State} {m : MethodId} {args : Array Value} {below : List Frame} {meth : Method} {c : Code} {D : va_G} {A : Nat → Prop} {cy : Nat → ClassId} {a kt vt : Nat → Nat} {N : Nat}   (C0 : nCx p s m args meth c cX11_log 2 (some .int) RX11 wsX11_log) (hE : nEn D A cy (Mw cy a) kt vt s) {z : Int32 × nS} : ∀ (σ : nS) (x1 : Int32) (H : Heap) (locs : List Loc) (ls : Array Slot), lv_has ls 2 [(0, .ref (a 0)), (1, .int x1)] → va_P D vwCl ((Mw cy a) σ) H → va_S A s.heap H locs → b_X11_log_0 N σ x1 = some z → W p l e ({ frames := 1, cells := 0, slots := 0, locals := 22 } : Room) s m args below meth c H locs 0 0 (nQi below D A (Mw cy a) args s z) (F0 m 0 ls []) := by
  obtain ⟨hx, hb, hr, hml, hown, hts, hlocks⟩ := C0
  intro σ x1 H locs ls hl hP hS hf
  unfold b_X11_log_0 at hf
  refine lv_aload_n hx hb dX11_log_0 rfl (lv_at hl 0 rfl) ?_
  refine lv_iconst (v := 0) hx hb dX11_log_1 (by decide) ?_
  refine nb_put (ci := 11) hx hb hts iX11_log_X11 tyX11 tyX11_ok nmX11 hown hE hP hS 0 mbo_0 rfl 0 (by decide) qX11_log_117 rfl rfl rfl rfl (Nat.le_of_ble_eq_true rfl) dX11_log_2 (mbp_0_0 _) (fun σ1 eσ1 H locs hP hS => ?_)
  replace hf := nLet_e hf eσ1
  refine lv_iload_n hx hb dX11_log_5 rfl (lv_at hl 1 rfl) ?_
  refine lv_iconst (v := 0) hx hb dX11_log_6 (by decide) ?_
  refine lv_bipush (v := 23) hx hb dX11_log_7 (by decide) ?_
  obtain ⟨r2, σ3, hc3, hf⟩ := nBd_e hf
  refine nb_callSi (As := [.int x1, .int 0, .int 23]) (rest := []) ⟨hx, hb, hml, hown, hts⟩ (c_X11_in (D := D) (A := A) (cy := cy) (a := a) (kt := kt) (vt := vt) (l := l)  hc3) (va_cwS 3 hts gX11_log_X11_in rfl rfl rfl (by decide +kernel) ⟨Nat.le_of_ble_eq_true rfl, Nat.le_of_ble_eq_true rfl⟩) hE hP hS rfl hl.1 rfl (Nat.le_of_ble_eq_true rfl) dX11_log_9 (fun H locs hP hS => ?_)
  refine lv_if_ne (tgt := 21) hx hb dX11_log_12 (by decide) (fun hc => ?_) (fun hc => ?_)
  · replace hf := nIf_f hc hf
    refine lv_aload_n hx hb dX11_log_21 rfl (lv_at hl 0 rfl) ?_
    refine nb_get (ci := 11) hx hb hts iX11_log_X11 hown hE hP 0 mbo_0 rfl 65 (by decide) qX11_log_420 rfl rfl dX11_log_22 ?_
    refine lv_sipush (v := 200) hx hb dX11_log_25 (by decide) ?_
    refine lv_icmp_ne (tgt := 37) hx hb dX11_log_28 (by decide) (fun hc => ?_) (fun hc => ?_)
    · replace hf := nIf_f hc hf
      refine lv_aload_n hx hb dX11_log_37 rfl (lv_at hl 0 rfl) ?_
      refine nb_get (ci := 11) hx hb hts iX11_log_X11 hown hE hP 0 mbo_0 rfl 62 (by decide) qX11_log_102 rfl rfl dX11_log_38 ?_
      refine lv_aload_n hx hb dX11_log_41 rfl (lv_at hl 0 rfl) ?_
      refine nb_get (ci := 11) hx hb hts iX11_log_X11 hown hE hP 0 mbo_0 rfl 65 (by decide) qX11_log_420 rfl rfl dX11_log_42 ?_
      refine lv_iload_n hx hb dX11_log_45 rfl (lv_at hl 1 rfl) ?_
      obtain ⟨hin, hf⟩ := nIx_e hf
      refine na_iast hx hb hE hP hS mbr_26 hin dX11_log_46 (fun σ4 eσ4 H locs hP hS => ?_)
      replace hf := nLet_e hf eσ4
      refine lv_aload_n hx hb dX11_log_47 rfl (lv_at hl 0 rfl) ?_
      refine lv_dup hx hb dX11_log_48 rfl ?_
      refine nb_get (ci := 11) hx hb hts iX11_log_X11 hown hE hP 0 mbo_0 rfl 65 (by decide) qX11_log_420 rfl rfl dX11_log_49 ?_
      refine lv_iconst (v := 1) hx hb dX11_log_52 (by decide) ?_
      refine lv_iadd hx hb dX11_log_53 ?_
      refine lv_topi (fun v5 ev5 => ?_)
      replace hf := nLet_e hf ev5
      refine nb_put (ci := 11) hx hb hts iX11_log_X11 tyX11 tyX11_ok nmX11 hown hE hP hS 0 mbo_0 rfl 65 (by decide) qX11_log_420 rfl rfl rfl rfl (Nat.le_of_ble_eq_true rfl) dX11_log_54 (mbp_0_65 _) (fun σ6 eσ6 H locs hP hS => ?_)
      replace hf := nLet_e hf eσ6
      refine lv_aload_n hx hb dX11_log_57 rfl (lv_at hl 0 rfl) ?_
      refine lv_aload_n hx hb dX11_log_58 rfl (lv_at hl 0 rfl) ?_
      refine nb_get (ci := 11) hx hb hts iX11_log_X11 hown hE hP 0 mbo_0 rfl 65 (by decide) qX11_log_420 rfl rfl dX11_log_59 ?_
      obtain ⟨r7, σ8, hc8, hf⟩ := nBd_e hf
      refine nb_callVi (As := [.int (σ6.1 0 65)]) (rest := []) ⟨hx, hb, hml, hown, hts⟩ (c_X11_done (D := D) (A := A) (cy := cy) (a := a) (kt := kt) (vt := vt) (l := l)  hc8) (cwV 1 hts gX11_log_X11_done rfl rfl rfl (by decide +kernel) ⟨Nat.le_of_ble_eq_true rfl, Nat.le_of_ble_eq_true rfl⟩) hE hP hS mbo_0 rfl rfl hl.1 rfl (Nat.le_of_ble_eq_true rfl) dX11_log_62 (fun H locs hP hS => ?_)
      exact nb_iret hx hb hr hlocks hP hS (nSo hf) dX11_log_65
    · replace hf := nIf_t hc hf
      refine lv_aload_n hx hb dX11_log_31 rfl (lv_at hl 0 rfl) ?_
      refine lv_iconst (v := 3) hx hb dX11_log_32 (by decide) ?_
      obtain ⟨r9, σ10, hc10, hf⟩ := nBd_e hf
      refine nb_callVi (As := [.int 3]) (rest := []) ⟨hx, hb, hml, hown, hts⟩ (c_X11_refused (D := D) (A := A) (cy := cy) (a := a) (kt := kt) (vt := vt) (l := l)  hc10) (cwV 1 hts gX11_log_X11_refused rfl rfl rfl (by decide +kernel) ⟨Nat.le_of_ble_eq_true rfl, Nat.le_of_ble_eq_true rfl⟩) hE hP hS mbo_0 rfl rfl hl.1 rfl (Nat.le_of_ble_eq_true rfl) dX11_log_33 (fun H locs hP hS => ?_)
      exact nb_iret hx hb hr hlocks hP hS (nSo hf) dX11_log_36
  · replace hf := nIf_t hc hf
    refine lv_aload_n hx hb dX11_log_15 rfl (lv_at hl 0 rfl) ?_
    refine lv_iconst (v := 2) hx hb dX11_log_16 (by decide) ?_
    obtain ⟨r11, σ12, hc12, hf⟩ := nBd_e hf
    refine nb_callVi (As := [.int 2]) (rest := []) ⟨hx, hb, hml, hown, hts⟩ (c_X11_refused (D := D) (A := A) (cy := cy) (a := a) (kt := kt) (vt := vt) (l := l)  hc12) (cwV 1 hts gX11_log_X11_refused rfl rfl rfl (by decide +kernel) ⟨Nat.le_of_ble_eq_true rfl, Nat.le_of_ble_eq_true rfl⟩) hE hP hS mbo_0 rfl rfl hl.1 rfl (Nat.le_of_ble_eq_true rfl) dX11_log_17 (fun H locs hP hS => ?_)
    exact nb_iret hx hb hr hlocks hP hS (nSo hf) dX11_log_20
def l_X11_log_0 (N : Nat) : nS → Int32 → Option (Int32 × nS) := b_X11_log_0 N
theorem kl_X11_log_0 {p : Program} {l : Launch} {e : Env} {s : State} {m : MethodId} {args : Array Value} {below : List Frame} {meth : Method} {c : Code} {D : va_G} {A : Nat → Prop} {cy : Nat → ClassId} {a kt vt : Nat → Nat} {N : Nat}   (C0 : nCx p s m args meth c cX11_log 2 (some .int) RX11 wsX11_log) (hE : nEn D A cy (Mw cy a) kt vt s) {z : Int32 × nS} : ∀ (σ : nS) (x1 : Int32) (H : Heap) (locs : List Loc) (ls : Array Slot), lv_has ls 2 [(0, .ref (a 0)), (1, .int x1)] → va_P D vwCl ((Mw cy a) σ) H → va_S A s.heap H locs → l_X11_log_0 N σ x1 = some z → W p l e ({ frames := 1, cells := 0, slots := 0, locals := 22 } : Room) s m args below meth c H locs 0 0 (nQi below D A (Mw cy a) args s z) (F0 m 0 ls []) := by
  exact kb_X11_log_0 (N := N)  C0 hE
def f_X11_log (N : Nat) (x1 : Int32) (σ : nS) : Option (Int32 × nS) := l_X11_log_0 N σ x1
set_option maxHeartbeats 4000000 in
set_option maxRecDepth 100000 in
theorem c_X11_log {l : Launch} {D : va_G} {A : Nat → Prop} {cy : Nat → ClassId} {a kt vt : Nat → Nat} {N : Nat}   {x1 : Int32} {σ : nS} {r : Int32} {σ' : nS} (hf : f_X11_log N x1 σ = some (r, σ')) : nMi l yX11_log wsX11_log ({ frames := 1, cells := 0, slots := 0, locals := 22 } : Room) D A cy (Mw cy a) kt vt [.ref (a 0), .int x1] σ r σ' := by
  refine Met.ofW (cc := cX11_log) (maxL := 2) (ret := (some .int)) (by decide) rfl ?_
  intro p e s m args below meth c s₁ B hml hv
  obtain ⟨rfl, hP, hE⟩ := hv
  have hl := lv_entry ([.ref (a 0), .int x1]) (n := 2) (Nat.le_of_ble_eq_true rfl)
  rw [lg_entry_eq]
  generalize (lg_sl ([.ref (a 0), .int x1]) ++ List.replicate (2 - (lg_sl ([.ref (a 0), .int x1])).length) Slot.unset).toArray = ls at hl ⊢
  have C0 : nCx p s m _ meth c cX11_log 2 (some .int) RX11 wsX11_log := ⟨B.exec, B.bytes, B.returns, hml, findClass_of_methodNamed B.named, atoms_spec (ws := wsX11_log) B.pre, B.notSynchronized⟩
  exact kl_X11_log_0 (N := N)  C0 hE (z := (r, σ')) σ x1 _ _ ls hl hP va_S.rf hf
/-! X11_clear -/
set_option maxRecDepth 20000 in
theorem iX11_clear_X11 : ∀ w ∈ u_ws RX11 TX11 68, w ∈ wsX11_clear := fun _ h => List.mem_cons_of_mem _ (List.mem_append_right _ h)
set_option maxRecDepth 20000 in
theorem qX11_clear_117 : Cond.fieldLink RX11 117 RX11 (TX11 0).2.1 (TX11 0).2.2.1 ∈ wsX11_clear := by decide +kernel
set_option maxRecDepth 20000 in
theorem qX11_clear_420 : Cond.fieldLink RX11 420 RX11 (TX11 65).2.1 (TX11 65).2.2.1 ∈ wsX11_clear := by decide +kernel
def b_X11_clear_0 (N : Nat) (σ : nS) : Option (Int32 × nS) := nLet (wr σ 0 0 0) (fun σ1 => nLet (wr σ1 0 65 0) (fun σ2 => some ((σ1.1 0 65), σ2)))
set_option maxHeartbeats 4000000 in
set_option maxRecDepth 100000 in
theorem kb_X11_clear_0 {p : Program} {l : Launch} {e : Env} {s : State} {m : MethodId} {args : Array Value} {below : List Frame} {meth : Method} {c : Code} {D : va_G} {A : Nat → Prop} {cy : Nat → ClassId} {a kt vt : Nat → Nat} {N : Nat}   (C0 : nCx p s m args meth c cX11_clear 2 (some .int) RX11 wsX11_clear) (hE : nEn D A cy (Mw cy a) kt vt s) {z : Int32 × nS} : ∀ (σ : nS) (H : Heap) (locs : List Loc) (ls : Array Slot), lv_has ls 2 [(0, .ref (a 0))] → va_P D vwCl ((Mw cy a) σ) H → va_S A s.heap H locs → b_X11_clear_0 N σ = some z → W p l e ({ frames := 0, cells := 0, slots := 0, locals := 0 } : Room) s m args below meth c H locs 0 0 (nQi below D A (Mw cy a) args s z) (F0 m 0 ls []) := by
  obtain ⟨hx, hb, hr, hml, hown, hts, hlocks⟩ := C0
  intro σ  H locs ls hl hP hS hf
  unfold b_X11_clear_0 at hf
  refine lv_aload_n hx hb dX11_clear_0 rfl (lv_at hl 0 rfl) ?_
  refine lv_iconst (v := 0) hx hb dX11_clear_1 (by decide) ?_
  refine nb_put (ci := 11) hx hb hts iX11_clear_X11 tyX11 tyX11_ok nmX11 hown hE hP hS 0 mbo_0 rfl 0 (by decide) qX11_clear_117 rfl rfl rfl rfl (Nat.le_of_ble_eq_true rfl) dX11_clear_2 (mbp_0_0 _) (fun σ1 eσ1 H locs hP hS => ?_)
  replace hf := nLet_e hf eσ1
  refine lv_aload_n hx hb dX11_clear_5 rfl (lv_at hl 0 rfl) ?_
  refine nb_get (ci := 11) hx hb hts iX11_clear_X11 hown hE hP 0 mbo_0 rfl 65 (by decide) qX11_clear_420 rfl rfl dX11_clear_6 ?_
  refine lv_istore_n (lv' := [(1, .int (σ1.1 0 65)), (0, .ref (a 0))]) hx hb dX11_clear_9 rfl hl (by decide) rfl (fun ls hl => ?_)
  refine lv_aload_n hx hb dX11_clear_10 rfl (lv_at hl 1 rfl) ?_
  refine lv_iconst (v := 0) hx hb dX11_clear_11 (by decide) ?_
  refine nb_put (ci := 11) hx hb hts iX11_clear_X11 tyX11 tyX11_ok nmX11 hown hE hP hS 0 mbo_0 rfl 65 (by decide) qX11_clear_420 rfl rfl rfl rfl (Nat.le_of_ble_eq_true rfl) dX11_clear_12 (mbp_0_65 _) (fun σ2 eσ2 H locs hP hS => ?_)
  replace hf := nLet_e hf eσ2
  refine lv_iload_n hx hb dX11_clear_15 rfl (lv_at hl 0 rfl) ?_
  exact nb_iret hx hb hr hlocks hP hS (nSo hf) dX11_clear_16
def l_X11_clear_0 (N : Nat) : nS → Option (Int32 × nS) := b_X11_clear_0 N
theorem kl_X11_clear_0 {p : Program} {l : Launch} {e : Env} {s : State} {m : MethodId} {args : Array Value} {below : List Frame} {meth : Method} {c : Code} {D : va_G} {A : Nat → Prop} {cy : Nat → ClassId} {a kt vt : Nat → Nat} {N : Nat}   (C0 : nCx p s m args meth c cX11_clear 2 (some .int) RX11 wsX11_clear) (hE : nEn D A cy (Mw cy a) kt vt s) {z : Int32 × nS} : ∀ (σ : nS) (H : Heap) (locs : List Loc) (ls : Array Slot), lv_has ls 2 [(0, .ref (a 0))] → va_P D vwCl ((Mw cy a) σ) H → va_S A s.heap H locs → l_X11_clear_0 N σ = some z → W p l e ({ frames := 0, cells := 0, slots := 0, locals := 0 } : Room) s m args below meth c H locs 0 0 (nQi below D A (Mw cy a) args s z) (F0 m 0 ls []) := by
  exact kb_X11_clear_0 (N := N)  C0 hE
def f_X11_clear (N : Nat) (σ : nS) : Option (Int32 × nS) := l_X11_clear_0 N σ
set_option maxHeartbeats 4000000 in
set_option maxRecDepth 100000 in
theorem c_X11_clear {l : Launch} {D : va_G} {A : Nat → Prop} {cy : Nat → ClassId} {a kt vt : Nat → Nat} {N : Nat}   {σ : nS} {r : Int32} {σ' : nS} (hf : f_X11_clear N σ = some (r, σ')) : nMi l yX11_clear wsX11_clear ({ frames := 0, cells := 0, slots := 0, locals := 0 } : Room) D A cy (Mw cy a) kt vt [.ref (a 0)] σ r σ' := by
  refine Met.ofW (cc := cX11_clear) (maxL := 2) (ret := (some .int)) (by decide) rfl ?_
  intro p e s m args below meth c s₁ B hml hv
  obtain ⟨rfl, hP, hE⟩ := hv
  have hl := lv_entry ([.ref (a 0)]) (n := 2) (Nat.le_of_ble_eq_true rfl)
  rw [lg_entry_eq]
  generalize (lg_sl ([.ref (a 0)]) ++ List.replicate (2 - (lg_sl ([.ref (a 0)])).length) Slot.unset).toArray = ls at hl ⊢
  have C0 : nCx p s m _ meth c cX11_clear 2 (some .int) RX11 wsX11_clear := ⟨B.exec, B.bytes, B.returns, hml, findClass_of_methodNamed B.named, atoms_spec (ws := wsX11_clear) B.pre, B.notSynchronized⟩
  exact kl_X11_clear_0 (N := N)  C0 hE (z := (r, σ')) σ  _ _ ls hl hP va_S.rf hf
