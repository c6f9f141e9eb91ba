/-! X11_feed -/
set_option maxRecDepth 20000 in
theorem iX11_feed_X11 : ∀ w ∈ u_ws RX11 TX11 68, w ∈ wsX11_feed := fun _ h => List.mem_cons_of_mem _ (List.mem_append_right _ h)
set_option maxRecDepth 20000 in
theorem qX11_feed_117 : Cond.fieldLink RX11 117 RX11 (TX11 0).2.1 (TX11 0).2.2.1 ∈ wsX11_feed := by decide +kernel
set_option maxRecDepth 20000 in
theorem qX11_feed_242 : Cond.fieldLink RX11 242 RX11 (TX11 19).2.1 (TX11 19).2.2.1 ∈ wsX11_feed := by decide +kernel
set_option maxRecDepth 20000 in
theorem qX11_feed_48 : Cond.fieldLink RX11 48 RX11 (TX11 18).2.1 (TX11 18).2.2.1 ∈ wsX11_feed := by decide +kernel
def b_X11_feed_76 (N : Nat) (k23 : nS → Int32 → Int32 → Int32 → Int32 → Int32 → Int32 → Option (Int32 × nS)) (σ : nS) (x1 : Int32) (x2 : Int32) (x3 : Int32) (x4 : Int32) (x5 : Int32) (x6 : Int32) (y0 : Int32) : Option (Int32 × nS) := nNz 4 (nLet (x6 - x6 / 4 * 4 : Int32) (fun v1 => nLet ((8 : Int32) * v1 : Int32) (fun v2 => nLet ((24 : Int32) - v2 : Int32) (fun v3 => nLet (y0 >>> (v3 &&& 31) : Int32) (fun v4 => nLet ((v4).toInt8.toInt32 : Int32) (fun v5 => nIx (σ.1 0 19) 600 (nLet (wr σ 10 ((σ.1 0 19)).toNatClampNeg (vp_nar .byte v5)) (fun σ6 => nLet ((σ6.1 0 19) + (1 : Int32) : Int32) (fun v7 => nLet (wr σ6 0 19 v7) (fun σ8 => nLet (x6 + 1 : Int32) (fun v9 => k23 σ8 x1 x2 x3 x4 x5 v9)))))))))))
set_option maxHeartbeats 4000000 in
set_option maxRecDepth 100000 in
theorem kb_X11_feed_76 {p : Program} {l : Launch} {e : Env} {s : State} {m : MethodId} {args : Array Value} {below : List Frame} {meth : Method} {c : Code} {D : va_G} {A : Nat → Prop} {cy : Nat → ClassId} {a kt vt : Nat → Nat} {N : Nat}   (C0 : nCx p s m args meth c cX11_feed 8 (some .int) RX11 wsX11_feed) (hE : nEn D A cy (Mw cy a) kt vt s) {z : Int32 × nS} {k23 : nS → Int32 → Int32 → Int32 → Int32 → Int32 → Int32 → Option (Int32 × nS)} (K23 : ∀ (σ : nS) (x1 : Int32) (x2 : Int32) (x3 : Int32) (x4 : Int32) (x5 : Int32) (x6 : Int32) (H : Heap) (locs : List Loc) (ls : Array Slot), lv_has ls 8 [(0, .ref (a 0)), (1, .int x1), (2, .int x2), (3, .int x3), (4, .int x4), (5, .int x5), (6, .int x6)] → va_P D vwCl ((Mw cy a) σ) H → va_S A s.heap H locs → k23 σ x1 x2 x3 x4 x5 x6 = some z → W p l e ({ frames := 0, cells := 0, slots := 0, locals := 0 } : Room) s m args below meth c H locs 0 0 (nQi below D A (Mw cy a) args s z) (F0 m 23 ls [])) : ∀ (σ : nS) (x1 : Int32) (x2 : Int32) (x3 : Int32) (x4 : Int32) (x5 : Int32) (x6 : Int32) (y0 : Int32) (H : Heap) (locs : List Loc) (ls : Array Slot), lv_has ls 8 [(0, .ref (a 0)), (1, .int x1), (2, .int x2), (3, .int x3), (4, .int x4), (5, .int x5), (6, .int x6)] → va_P D vwCl ((Mw cy a) σ) H → va_S A s.heap H locs → b_X11_feed_76 N k23 σ x1 x2 x3 x4 x5 x6 y0 = some z → W p l e ({ frames := 0, cells := 0, slots := 0, locals := 0 } : Room) s m args below meth c H locs 0 0 (nQi below D A (Mw cy a) args s z) (F0 m 76 ls [.int y0]) := by
  obtain ⟨hx, hb, hr, hml, hown, hts, hlocks⟩ := C0
  intro σ x1 x2 x3 x4 x5 x6 y0 H locs ls hl hP hS hf
  unfold b_X11_feed_76 at hf
  refine lv_istore (lv' := [(7, .int y0), (0, .ref (a 0)), (1, .int x1), (2, .int x2), (3, .int x3), (4, .int x4), (5, .int x5), (6, .int x6)]) hx hb dX11_feed_76 hl (by decide) rfl (fun ls hl => ?_)
  refine lv_aload_n hx hb dX11_feed_78 rfl (lv_at hl 1 rfl) ?_
  refine nb_get (ci := 11) hx hb hts iX11_feed_X11 hown hE hP 0 mbo_0 rfl 18 (by decide) qX11_feed_48 rfl rfl dX11_feed_79 ?_
  refine lv_aload_n hx hb dX11_feed_82 rfl (lv_at hl 1 rfl) ?_
  refine nb_get (ci := 11) hx hb hts iX11_feed_X11 hown hE hP 0 mbo_0 rfl 19 (by decide) qX11_feed_242 rfl rfl dX11_feed_83 ?_
  refine lv_iload hx hb dX11_feed_86 (lv_at hl 0 rfl) ?_
  refine lv_bipush (v := 24) hx hb dX11_feed_88 (by decide) ?_
  refine lv_bipush (v := 8) hx hb dX11_feed_90 (by decide) ?_
  refine lv_iload hx hb dX11_feed_92 (lv_at hl 7 rfl) ?_
  refine lv_iconst (v := 4) hx hb dX11_feed_94 (by decide) ?_
  obtain ⟨hz, hf⟩ := nNz_e hf
  refine lv_irem hx hb dX11_feed_95 hz ?_
  refine lv_topi (fun v1 ev1 => ?_)
  replace hf := nLet_e hf ev1
  refine lv_imul hx hb dX11_feed_96 ?_
  refine lv_topi (fun v2 ev2 => ?_)
  replace hf := nLet_e hf ev2
  refine lv_isub hx hb dX11_feed_97 ?_
  refine lv_topi (fun v3 ev3 => ?_)
  replace hf := nLet_e hf ev3
  refine lv_ishr hx hb dX11_feed_98 ?_
  refine lv_topi (fun v4 ev4 => ?_)
  replace hf := nLet_e hf ev4
  refine lv_i2b hx hb dX11_feed_99 rfl ?_
  refine lv_topi (fun v5 ev5 => ?_)
  replace hf := nLet_e hf ev5
  obtain ⟨hin, hf⟩ := nIx_e hf
  refine na_bast hx hb hE hP hS mbr_10 hin dX11_feed_100 (fun σ6 eσ6 H locs hP hS => ?_)
  replace hf := nLet_e hf eσ6
  refine lv_aload_n hx hb dX11_feed_101 rfl (lv_at hl 1 rfl) ?_
  refine lv_dup hx hb dX11_feed_102 rfl ?_
  refine nb_get (ci := 11) hx hb hts iX11_feed_X11 hown hE hP 0 mbo_0 rfl 19 (by decide) qX11_feed_242 rfl rfl dX11_feed_103 ?_
  refine lv_iconst (v := 1) hx hb dX11_feed_106 (by decide) ?_
  refine lv_iadd hx hb dX11_feed_107 ?_
  refine lv_topi (fun v7 ev7 => ?_)
  replace hf := nLet_e hf ev7
  refine nb_put (ci := 11) hx hb hts iX11_feed_X11 tyX11 tyX11_ok nmX11 hown hE hP hS 0 mbo_0 rfl 19 (by decide) qX11_feed_242 rfl rfl rfl rfl (Nat.le_of_ble_eq_true rfl) dX11_feed_108 (mbp_0_19 _) (fun σ8 eσ8 H locs hP hS => ?_)
  replace hf := nLet_e hf eσ8
  obtain ⟨v9, ev9⟩ : ∃ y : Int32, y = x6 + 1 := ⟨_, rfl⟩
  replace hf := nLet_e hf ev9
  refine lv_iinc (v := v9) (lv' := [(6, .int v9), (7, .int y0), (0, .ref (a 0)), (1, .int x1), (2, .int x2), (3, .int x3), (4, .int x4), (5, .int x5)]) hx hb dX11_feed_111 hl (k := 7) rfl (by rw [ev9]; rfl) (by decide) rfl (fun ls hl => ?_)
  refine lv_goto (tgt := 23) hx hb dX11_feed_114 (by decide) ?_
  exact K23 σ8 x1 x2 x3 x4 x5 v9 H locs ls (lv_sub hl [2, 3, 4, 5, 6, 7, 0] rfl) hP hS hf
def b_X11_feed_23 (N : Nat) (k76 : nS → Int32 → Int32 → Int32 → Int32 → Int32 → Int32 → Int32 → Option (Int32 × nS)) (σ : nS) (x1 : Int32) (x2 : Int32) (x3 : Int32) (x4 : Int32) (x5 : Int32) (x6 : Int32) : Option (Int32 × nS) := (if (20 : Int32) ≤ x6 then some ((σ.1 0 19), σ) else (if (4 : Int32) ≤ x6 then (if (8 : Int32) ≤ x6 then (if (12 : Int32) ≤ x6 then (if (16 : Int32) ≤ x6 then k76 σ x1 x2 x3 x4 x5 x6 x5 else k76 σ x1 x2 x3 x4 x5 x6 x4) else k76 σ x1 x2 x3 x4 x5 x6 x3) else k76 σ x1 x2 x3 x4 x5 x6 x2) else k76 σ x1 x2 x3 x4 x5 x6 x1))
set_option maxHeartbeats 4000000 in
set_option maxRecDepth 100000 in
theorem kb_X11_feed_23 {p : Program} {l : Launch} {e : Env} {s : State} {m : MethodId} {args : Array Value} {below : List Frame} {meth : Method} {c : Code} {D : va_G} {A : Nat → Prop} {cy : Nat → ClassId} {a kt vt : Nat → Nat} {N : Nat}   (C0 : nCx p s m args meth c cX11_feed 8 (some .int) RX11 wsX11_feed) (hE : nEn D A cy (Mw cy a) kt vt s) {z : Int32 × nS} {k76 : nS → Int32 → Int32 → Int32 → Int32 → Int32 → Int32 → Int32 → Option (Int32 × nS)} (K76 : ∀ (σ : nS) (x1 : Int32) (x2 : Int32) (x3 : Int32) (x4 : Int32) (x5 : Int32) (x6 : Int32) (y0 : Int32) (H : Heap) (locs : List Loc) (ls : Array Slot), lv_has ls 8 [(0, .ref (a 0)), (1, .int x1), (2, .int x2), (3, .int x3), (4, .int x4), (5, .int x5), (6, .int x6)] → va_P D vwCl ((Mw cy a) σ) H → va_S A s.heap H locs → k76 σ x1 x2 x3 x4 x5 x6 y0 = some z → W p l e ({ frames := 0, cells := 0, slots := 0, locals := 0 } : Room) s m args below meth c H locs 0 0 (nQi below D A (Mw cy a) args s z) (F0 m 76 ls [.int y0])) : ∀ (σ : nS) (x1 : Int32) (x2 : Int32) (x3 : Int32) (x4 : Int32) (x5 : Int32) (x6 : Int32) (H : Heap) (locs : List Loc) (ls : Array Slot), lv_has ls 8 [(0, .ref (a 0)), (1, .int x1), (2, .int x2), (3, .int x3), (4, .int x4), (5, .int x5), (6, .int x6)] → va_P D vwCl ((Mw cy a) σ) H → va_S A s.heap H locs → b_X11_feed_23 N k76 σ x1 x2 x3 x4 x5 x6 = some z → W p l e ({ frames := 0, cells := 0, slots := 0, locals := 0 } : Room) s m args below meth c H locs 0 0 (nQi below D A (Mw cy a) args s z) (F0 m 23 ls []) := by
  obtain ⟨hx, hb, hr, hml, hown, hts, hlocks⟩ := C0
  intro σ x1 x2 x3 x4 x5 x6 H locs ls hl hP hS hf
  unfold b_X11_feed_23 at hf
  refine lv_iload hx hb dX11_feed_23 (lv_at hl 6 rfl) ?_
  refine lv_bipush (v := 20) hx hb dX11_feed_25 (by decide) ?_
  refine lv_icmp_ge (tgt := 117) hx hb dX11_feed_27 (by decide) (fun hc => ?_) (fun hc => ?_)
  · replace hf := nIf_t hc hf
    refine lv_aload_n hx hb dX11_feed_117 rfl (lv_at hl 0 rfl) ?_
    refine nb_get (ci := 11) hx hb hts iX11_feed_X11 hown hE hP 0 mbo_0 rfl 19 (by decide) qX11_feed_242 rfl rfl dX11_feed_118 ?_
    exact nb_iret hx hb hr hlocks hP hS (nSo hf) dX11_feed_121
  · replace hf := nIf_f hc hf
    refine lv_iload hx hb dX11_feed_30 (lv_at hl 6 rfl) ?_
    refine lv_iconst (v := 4) hx hb dX11_feed_32 (by decide) ?_
    refine lv_icmp_ge (tgt := 40) hx hb dX11_feed_33 (by decide) (fun hc => ?_) (fun hc => ?_)
    · replace hf := nIf_t hc hf
      refine lv_iload hx hb dX11_feed_40 (lv_at hl 6 rfl) ?_
      refine lv_bipush (v := 8) hx hb dX11_feed_42 (by decide) ?_
      refine lv_icmp_ge (tgt := 51) hx hb dX11_feed_44 (by decide) (fun hc => ?_) (fun hc => ?_)
      · replace hf := nIf_t hc hf
        refine lv_iload hx hb dX11_feed_51 (lv_at hl 6 rfl) ?_
        refine lv_bipush (v := 12) hx hb dX11_feed_53 (by decide) ?_
        refine lv_icmp_ge (tgt := 62) hx hb dX11_feed_55 (by decide) (fun hc => ?_) (fun hc => ?_)
        · replace hf := nIf_t hc hf
          refine lv_iload hx hb dX11_feed_62 (lv_at hl 6 rfl) ?_
          refine lv_bipush (v := 16) hx hb dX11_feed_64 (by decide) ?_
          refine lv_icmp_ge (tgt := 74) hx hb dX11_feed_66 (by decide) (fun hc => ?_) (fun hc => ?_)
          · replace hf := nIf_t hc hf
            refine lv_iload hx hb dX11_feed_74 (lv_at hl 5 rfl) ?_
            exact K76 σ x1 x2 x3 x4 x5 x6 x5 H locs ls (lv_sub hl [0, 1, 2, 3, 4, 5, 6] rfl) hP hS hf
          · replace hf := nIf_f hc hf
            refine lv_iload hx hb dX11_feed_69 (lv_at hl 4 rfl) ?_
            refine lv_goto (tgt := 76) hx hb dX11_feed_71 (by decide) ?_
            exact K76 σ x1 x2 x3 x4 x5 x6 x4 H locs ls (lv_sub hl [0, 1, 2, 3, 4, 5, 6] rfl) hP hS hf
        · replace hf := nIf_f hc hf
          refine lv_iload_n hx hb dX11_feed_58 rfl (lv_at hl 3 rfl) ?_
          refine lv_goto (tgt := 76) hx hb dX11_feed_59 (by decide) ?_
          exact K76 σ x1 x2 x3 x4 x5 x6 x3 H locs ls (lv_sub hl [0, 1, 2, 3, 4, 5, 6] rfl) hP hS hf
      · replace hf := nIf_f hc hf
        refine lv_iload_n hx hb dX11_feed_47 rfl (lv_at hl 2 rfl) ?_
        refine lv_goto (tgt := 76) hx hb dX11_feed_48 (by decide) ?_
        exact K76 σ x1 x2 x3 x4 x5 x6 x2 H locs ls (lv_sub hl [0, 1, 2, 3, 4, 5, 6] rfl) hP hS hf
    · replace hf := nIf_f hc hf
      refine lv_iload_n hx hb dX11_feed_36 rfl (lv_at hl 1 rfl) ?_
      refine lv_goto (tgt := 76) hx hb dX11_feed_37 (by decide) ?_
      exact K76 σ x1 x2 x3 x4 x5 x6 x1 H locs ls (lv_sub hl [0, 1, 2, 3, 4, 5, 6] rfl) hP hS hf
def b_X11_feed_0 (N : Nat) (k23 : nS → Int32 → Int32 → Int32 → Int32 → Int32 → Int32 → Option (Int32 × nS)) (σ : nS) (x1 : Int32) (x2 : Int32) (x3 : Int32) (x4 : Int32) (x5 : Int32) : Option (Int32 × nS) := nLet (wr σ 0 0 0) (fun σ1 => nLet ((σ1.1 0 19) + (20 : Int32) : Int32) (fun v2 => (if v2 ≤ 600 then k23 σ1 x1 x2 x3 x4 x5 0 else some ((-1), σ1))))
set_option maxHeartbeats 4000000 in
set_option maxRecDepth 100000 in
theorem kb_X11_feed_0 {p : Program} {l : Launch} {e : Env} {s : State} {m : MethodId} {args : Array Value} {below : List Frame} {meth : Method} {c : Code} {D : va_G} {A : Nat → Prop} {cy : Nat → ClassId} {a kt vt : Nat → Nat} {N : Nat}   (C0 : nCx p s m args meth c cX11_feed 8 (some .int) RX11 wsX11_feed) (hE : nEn D A cy (Mw cy a) kt vt s) {z : Int32 × nS} {k23 : nS → Int32 → Int32 → Int32 → Int32 → Int32 → Int32 → Option (Int32 × nS)} (K23 : ∀ (σ : nS) (x1 : Int32) (x2 : Int32) (x3 : Int32) (x4 : Int32) (x5 : Int32) (x6 : Int32) (H : Heap) (locs : List Loc) (ls : Array Slot), lv_has ls 8 [(0, .ref (a 0)), (1, .int x1), (2, .int x2), (3, .int x3), (4, .int x4), (5, .int x5), (6, .int x6)] → va_P D vwCl ((Mw cy a) σ) H → va_S A s.heap H locs → k23 σ x1 x2 x3 x4 x5 x6 = some z → W p l e ({ frames := 0, cells := 0, slots := 0, locals := 0 } : Room) s m args below meth c H locs 0 0 (nQi below D A (Mw cy a) args s z) (F0 m 23 ls [])) : ∀ (σ : nS) (x1 : Int32) (x2 : Int32) (x3 : Int32) (x4 : Int32) (x5 : Int32) (H : Heap) (locs : List Loc) (ls : Array Slot), lv_has ls 8 [(0, .ref (a 0)), (1, .int x1), (2, .int x2), (3, .int x3), (4, .int x4), (5, .int x5)] → va_P D vwCl ((Mw cy a) σ) H → va_S A s.heap H locs → b_X11_feed_0 N k23 σ x1 x2 x3 x4 x5 = some z → W p l e ({ frames := 0, cells := 0, slots := 0, locals := 0 } : Room) s m args below meth c H locs 0 0 (nQi below D A (Mw cy a) args s z) (F0 m 0 ls []) := by
  obtain ⟨hx, hb, hr, hml, hown, hts, hlocks⟩ := C0
  intro σ x1 x2 x3 x4 x5 H locs ls hl hP hS hf
  unfold b_X11_feed_0 at hf
  refine lv_aload_n hx hb dX11_feed_0 rfl (lv_at hl 0 rfl) ?_
  refine lv_iconst (v := 0) hx hb dX11_feed_1 (by decide) ?_
  refine nb_put (ci := 11) hx hb hts iX11_feed_X11 tyX11 tyX11_ok nmX11 hown hE hP hS 0 mbo_0 rfl 0 (by decide) qX11_feed_117 rfl rfl rfl rfl (Nat.le_of_ble_eq_true rfl) dX11_feed_2 (mbp_0_0 _) (fun σ1 eσ1 H locs hP hS => ?_)
  replace hf := nLet_e hf eσ1
  refine lv_aload_n hx hb dX11_feed_5 rfl (lv_at hl 0 rfl) ?_
  refine nb_get (ci := 11) hx hb hts iX11_feed_X11 hown hE hP 0 mbo_0 rfl 19 (by decide) qX11_feed_242 rfl rfl dX11_feed_6 ?_
  refine lv_bipush (v := 20) hx hb dX11_feed_9 (by decide) ?_
  refine lv_iadd hx hb dX11_feed_11 ?_
  refine lv_topi (fun v2 ev2 => ?_)
  replace hf := nLet_e hf ev2
  refine lv_sipush (v := 600) hx hb dX11_feed_12 (by decide) ?_
  refine lv_icmp_le (tgt := 20) hx hb dX11_feed_15 (by decide) (fun hc => ?_) (fun hc => ?_)
  · replace hf := nIf_t hc hf
    refine lv_iconst (v := 0) hx hb dX11_feed_20 (by decide) ?_
    refine lv_istore (lv' := [(6, .int 0), (0, .ref (a 0)), (1, .int x1), (2, .int x2), (3, .int x3), (4, .int x4), (5, .int x5)]) hx hb dX11_feed_21 hl (by decide) rfl (fun ls hl => ?_)
    exact K23 σ1 x1 x2 x3 x4 x5 0 H locs ls (lv_sub hl [1, 2, 3, 4, 5, 6, 0] rfl) hP hS hf
  · replace hf := nIf_f hc hf
    refine lv_iconst (v := (-1)) hx hb dX11_feed_18 (by decide) ?_
    exact nb_iret hx hb hr hlocks hP hS (nSo hf) dX11_feed_19
def l_X11_feed_76 (N : Nat) (k23 : nS → Int32 → Int32 → Int32 → Int32 → Int32 → Int32 → Option (Int32 × nS)) : nS → Int32 → Int32 → Int32 → Int32 → Int32 → Int32 → Int32 → Option (Int32 × nS) := b_X11_feed_76 N k23
theorem kl_X11_feed_76 {p : Program} {l : Launch} {e : Env} {s : State} {m : MethodId} {args : Array Value} {below : List Frame} {meth : Method} {c : Code} {D : va_G} {A : Nat → Prop} {cy : Nat → ClassId} {a kt vt : Nat → Nat} {N : Nat}   (C0 : nCx p s m args meth c cX11_feed 8 (some .int) RX11 wsX11_feed) (hE : nEn D A cy (Mw cy a) kt vt s) {z : Int32 × nS} {k23 : nS → Int32 → Int32 → Int32 → Int32 → Int32 → Int32 → Option (Int32 × nS)} (K23 : ∀ (σ : nS) (x1 : Int32) (x2 : Int32) (x3 : Int32) (x4 : Int32) (x5 : Int32) (x6 : Int32) (H : Heap) (locs : List Loc) (ls : Array Slot), lv_has ls 8 [(0, .ref (a 0)), (1, .int x1), (2, .int x2), (3, .int x3), (4, .int x4), (5, .int x5), (6, .int x6)] → va_P D vwCl ((Mw cy a) σ) H → va_S A s.heap H locs → k23 σ x1 x2 x3 x4 x5 x6 = some z → W p l e ({ frames := 0, cells := 0, slots := 0, locals := 0 } : Room) s m args below meth c H locs 0 0 (nQi below D A (Mw cy a) args s z) (F0 m 23 ls [])) : ∀ (σ : nS) (x1 : Int32) (x2 : Int32) (x3 : Int32) (x4 : Int32) (x5 : Int32) (x6 : Int32) (y0 : Int32) (H : Heap) (locs : List Loc) (ls : Array Slot), lv_has ls 8 [(0, .ref (a 0)), (1, .int x1), (2, .int x2), (3, .int x3), (4, .int x4), (5, .int x5), (6, .int x6)] → va_P D vwCl ((Mw cy a) σ) H → va_S A s.heap H locs → l_X11_feed_76 N k23 σ x1 x2 x3 x4 x5 x6 y0 = some z → W p l e ({ frames := 0, cells := 0, slots := 0, locals := 0 } : Room) s m args below meth c H locs 0 0 (nQi below D A (Mw cy a) args s z) (F0 m 76 ls [.int y0]) := by
  exact kb_X11_feed_76 (N := N)  C0 hE K23
def l_X11_feed_23 (N : Nat) : nS → Int32 → Int32 → Int32 → Int32 → Int32 → Int32 → Option (Int32 × nS) := nLp (fun _ _ _ _ _ _ _ => none) (fun again => b_X11_feed_23 N (l_X11_feed_76 N again)) N
theorem kl_X11_feed_23 {p : Program} {l : Launch} {e : Env} {s : State} {m : MethodId} {args : Array Value} {below : List Frame} {meth : Method} {c : Code} {D : va_G} {A : Nat → Prop} {cy : Nat → ClassId} {a kt vt : Nat → Nat} {N : Nat}   (C0 : nCx p s m args meth c cX11_feed 8 (some .int) RX11 wsX11_feed) (hE : nEn D A cy (Mw cy a) kt vt s) {z : Int32 × nS} : ∀ (σ : nS) (x1 : Int32) (x2 : Int32) (x3 : Int32) (x4 : Int32) (x5 : Int32) (x6 : Int32) (H : Heap) (locs : List Loc) (ls : Array Slot), lv_has ls 8 [(0, .ref (a 0)), (1, .int x1), (2, .int x2), (3, .int x3), (4, .int x4), (5, .int x5), (6, .int x6)] → va_P D vwCl ((Mw cy a) σ) H → va_S A s.heap H locs → l_X11_feed_23 N σ x1 x2 x3 x4 x5 x6 = some z → W p l e ({ frames := 0, cells := 0, slots := 0, locals := 0 } : Room) s m args below meth c H locs 0 0 (nQi below D A (Mw cy a) args s z) (F0 m 23 ls []) := by
  have main : ∀ (fu : Nat), ∀ (σ : nS) (x1 : Int32) (x2 : Int32) (x3 : Int32) (x4 : Int32) (x5 : Int32) (x6 : Int32) (H : Heap) (locs : List Loc) (ls : Array Slot), lv_has ls 8 [(0, .ref (a 0)), (1, .int x1), (2, .int x2), (3, .int x3), (4, .int x4), (5, .int x5), (6, .int x6)] → va_P D vwCl ((Mw cy a) σ) H → va_S A s.heap H locs → nLp (fun _ _ _ _ _ _ _ => none) (fun again => b_X11_feed_23 N (l_X11_feed_76 N again)) fu σ x1 x2 x3 x4 x5 x6 = some z → W p l e ({ frames := 0, cells := 0, slots := 0, locals := 0 } : Room) s m args below meth c H locs 0 0 (nQi below D A (Mw cy a) args s z) (F0 m 23 ls []) := by
    intro fu
    induction fu with
    | zero => intro σ x1 x2 x3 x4 x5 x6 H locs ls hl hP hS hf; cases hf
    | succ fu ih => exact kb_X11_feed_23 (N := N)  C0 hE (kl_X11_feed_76 (N := N)  C0 hE ih)
  exact main N
def l_X11_feed_0 (N : Nat) : nS → Int32 → Int32 → Int32 → Int32 → Int32 → Option (Int32 × nS) := b_X11_feed_0 N (l_X11_feed_23 N)
theorem kl_X11_feed_0 {p : Program} {l : Launch} {e : Env} {s : State} {m : MethodId} {args : Array Value} {below : List Frame} {meth : Method} {c : Code} {D : va_G} {A : Nat → Prop} {cy : Nat → ClassId} {a kt vt : Nat → Nat} {N : Nat}   (C0 : nCx p s m args meth c cX11_feed 8 (some .int) RX11 wsX11_feed) (hE : nEn D A cy (Mw cy a) kt vt s) {z : Int32 × nS} : ∀ (σ : nS) (x1 : Int32) (x2 : Int32) (x3 : Int32) (x4 : Int32) (x5 : Int32) (H : Heap) (locs : List Loc) (ls : Array Slot), lv_has ls 8 [(0, .ref (a 0)), (1, .int x1), (2, .int x2), (3, .int x3), (4, .int x4), (5, .int x5)] → va_P D vwCl ((Mw cy a) σ) H → va_S A s.heap H locs → l_X11_feed_0 N σ x1 x2 x3 x4 x5 = some z → W p l e ({ frames := 0, cells := 0, slots := 0, locals := 0 } : Room) s m args below meth c H locs 0 0 (nQi below D A (Mw cy a) args s z) (F0 m 0 ls []) := by
  exact kb_X11_feed_0 (N := N)  C0 hE (kl_X11_feed_23 (N := N)  C0 hE)
def f_X11_feed (N : Nat) (x1 : Int32) (x2 : Int32) (x3 : Int32) (x4 : Int32) (x5 : Int32) (σ : nS) : Option (Int32 × nS) := l_X11_feed_0 N σ x1 x2 x3 x4 x5
set_option maxHeartbeats 4000000 in
set_option maxRecDepth 100000 in
theorem c_X11_feed {l : Launch} {D : va_G} {A : Nat → Prop} {cy : Nat → ClassId} {a kt vt : Nat → Nat} {N : Nat}   {x1 : Int32} {x2 : Int32} {x3 : Int32} {x4 : Int32} {x5 : Int32} {σ : nS} {r : Int32} {σ' : nS} (hf : f_X11_feed N x1 x2 x3 x4 x5 σ = some (r, σ')) : nMi l yX11_feed wsX11_feed ({ frames := 0, cells := 0, slots := 0, locals := 0 } : Room) D A cy (Mw cy a) kt vt [.ref (a 0), .int x1, .int x2, .int x3, .int x4, .int x5] σ r σ' := by
  refine Met.ofW (cc := cX11_feed) (maxL := 8) (ret := (some .int)) (by decide) rfl ?_
  intro p e s m args below meth c s₁ B hml hv
  obtain ⟨rfl, hP, hE⟩ := hv
  have hl := lv_entry ([.ref (a 0), .int x1, .int x2, .int x3, .int x4, .int x5]) (n := 8) (Nat.le_of_ble_eq_true rfl)
  rw [lg_entry_eq]
  generalize (lg_sl ([.ref (a 0), .int x1, .int x2, .int x3, .int x4, .int x5]) ++ List.replicate (8 - (lg_sl ([.ref (a 0), .int x1, .int x2, .int x3, .int x4, .int x5])).length) Slot.unset).toArray = ls at hl ⊢
  have C0 : nCx p s m _ meth c cX11_feed 8 (some .int) RX11 wsX11_feed := ⟨B.exec, B.bytes, B.returns, hml, findClass_of_methodNamed B.named, atoms_spec (ws := wsX11_feed) B.pre, B.notSynchronized⟩
  exact kl_X11_feed_0 (N := N)  C0 hE (z := (r, σ')) σ x1 x2 x3 x4 x5 _ _ ls hl hP va_S.rf hf
/-! X11_fault -/
set_option maxRecDepth 20000 in
theorem iX11_fault_X11 : ∀ w ∈ u_ws RX11 TX11 68, w ∈ wsX11_fault := fun _ h => List.mem_cons_of_mem _ (List.mem_append_right _ h)
set_option maxRecDepth 20000 in
theorem qX11_fault_117 : Cond.fieldLink RX11 117 RX11 (TX11 0).2.1 (TX11 0).2.2.1 ∈ wsX11_fault := by decide +kernel
set_option maxRecDepth 20000 in
theorem qX11_fault_245 : Cond.fieldLink RX11 245 RX11 (TX11 3).2.1 (TX11 3).2.2.1 ∈ wsX11_fault := by decide +kernel
def b_X11_fault_0 (N : Nat) (σ : nS) : Option (Int32 × nS) := nLet (wr σ 0 0 0) (fun σ1 => some ((σ1.1 0 3), σ1))
set_option maxHeartbeats 4000000 in
set_option maxRecDepth 100000 in
theorem kb_X11_fault_0 {p : Program} {l : Launch} {e : Env} {s : State} {m : MethodId} {args : Array Value} {below : List Frame} {meth : Method} {c : Code} {D : va_G} {A : Nat → Prop} {cy : Nat → ClassId} {a kt vt : Nat → Nat} {N : Nat}   (C0 : nCx p s m args meth c cX11_fault 1 (some .int) RX11 wsX11_fault) (hE : nEn D A cy (Mw cy a) kt vt s) {z : Int32 × nS} : ∀ (σ : nS) (H : Heap) (locs : List Loc) (ls : Array Slot), lv_has ls 1 [(0, .ref (a 0))] → va_P D vwCl ((Mw cy a) σ) H → va_S A s.heap H locs → b_X11_fault_0 N σ = some z → W p l e ({ frames := 0, cells := 0, slots := 0, locals := 0 } : Room) s m args below meth c H locs 0 0 (nQi below D A (Mw cy a) args s z) (F0 m 0 ls []) := by
  obtain ⟨hx, hb, hr, hml, hown, hts, hlocks⟩ := C0
  intro σ  H locs ls hl hP hS hf
  unfold b_X11_fault_0 at hf
  refine lv_aload_n hx hb dX11_fault_0 rfl (lv_at hl 0 rfl) ?_
  refine lv_iconst (v := 0) hx hb dX11_fault_1 (by decide) ?_
  refine nb_put (ci := 11) hx hb hts iX11_fault_X11 tyX11 tyX11_ok nmX11 hown hE hP hS 0 mbo_0 rfl 0 (by decide) qX11_fault_117 rfl rfl rfl rfl (Nat.le_of_ble_eq_true rfl) dX11_fault_2 (mbp_0_0 _) (fun σ1 eσ1 H locs hP hS => ?_)
  replace hf := nLet_e hf eσ1
  refine lv_aload_n hx hb dX11_fault_5 rfl (lv_at hl 0 rfl) ?_
  refine nb_get (ci := 11) hx hb hts iX11_fault_X11 hown hE hP 0 mbo_0 rfl 3 (by decide) qX11_fault_245 rfl rfl dX11_fault_6 ?_
  exact nb_iret hx hb hr hlocks hP hS (nSo hf) dX11_fault_9
def l_X11_fault_0 (N : Nat) : nS → Option (Int32 × nS) := b_X11_fault_0 N
theorem kl_X11_fault_0 {p : Program} {l : Launch} {e : Env} {s : State} {m : MethodId} {args : Array Value} {below : List Frame} {meth : Method} {c : Code} {D : va_G} {A : Nat → Prop} {cy : Nat → ClassId} {a kt vt : Nat → Nat} {N : Nat}   (C0 : nCx p s m args meth c cX11_fault 1 (some .int) RX11 wsX11_fault) (hE : nEn D A cy (Mw cy a) kt vt s) {z : Int32 × nS} : ∀ (σ : nS) (H : Heap) (locs : List Loc) (ls : Array Slot), lv_has ls 1 [(0, .ref (a 0))] → va_P D vwCl ((Mw cy a) σ) H → va_S A s.heap H locs → l_X11_fault_0 N σ = some z → W p l e ({ frames := 0, cells := 0, slots := 0, locals := 0 } : Room) s m args below meth c H locs 0 0 (nQi below D A (Mw cy a) args s z) (F0 m 0 ls []) := by
  exact kb_X11_fault_0 (N := N)  C0 hE
def f_X11_fault (N : Nat) (σ : nS) : Option (Int32 × nS) := l_X11_fault_0 N σ
set_option maxHeartbeats 4000000 in
set_option maxRecDepth 100000 in
theorem c_X11_fault {l : Launch} {D : va_G} {A : Nat → Prop} {cy : Nat → ClassId} {a kt vt : Nat → Nat} {N : Nat}   {σ : nS} {r : Int32} {σ' : nS} (hf : f_X11_fault N σ = some (r, σ')) : nMi l yX11_fault wsX11_fault ({ frames := 0, cells := 0, slots := 0, locals := 0 } : Room) D A cy (Mw cy a) kt vt [.ref (a 0)] σ r σ' := by
  refine Met.ofW (cc := cX11_fault) (maxL := 1) (ret := (some .int)) (by decide) rfl ?_
  intro p e s m args below meth c s₁ B hml hv
  obtain ⟨rfl, hP, hE⟩ := hv
  have hl := lv_entry ([.ref (a 0)]) (n := 1) (Nat.le_of_ble_eq_true rfl)
  rw [lg_entry_eq]
  generalize (lg_sl ([.ref (a 0)]) ++ List.replicate (1 - (lg_sl ([.ref (a 0)])).length) Slot.unset).toArray = ls at hl ⊢
  have C0 : nCx p s m _ meth c cX11_fault 1 (some .int) RX11 wsX11_fault := ⟨B.exec, B.bytes, B.returns, hml, findClass_of_methodNamed B.named, atoms_spec (ws := wsX11_fault) B.pre, B.notSynchronized⟩
  exact kl_X11_fault_0 (N := N)  C0 hE (z := (r, σ')) σ  _ _ ls hl hP va_S.rf hf
/-! X11_where -/
set_option maxRecDepth 20000 in
theorem iX11_where_X11 : ∀ w ∈ u_ws RX11 TX11 68, w ∈ wsX11_where := fun _ h => List.mem_cons_of_mem _ (List.mem_append_right _ h)
set_option maxRecDepth 20000 in
theorem qX11_where_117 : Cond.fieldLink RX11 117 RX11 (TX11 0).2.1 (TX11 0).2.2.1 ∈ wsX11_where := by decide +kernel
set_option maxRecDepth 20000 in
theorem qX11_where_9 : Cond.fieldLink RX11 9 RX11 (TX11 2).2.1 (TX11 2).2.2.1 ∈ wsX11_where := by decide +kernel
def b_X11_where_0 (N : Nat) (σ : nS) : Option (Int32 × nS) := nLet (wr σ 0 0 0) (fun σ1 => some ((σ1.1 0 2), σ1))
set_option maxHeartbeats 4000000 in
set_option maxRecDepth 100000 in
theorem kb_X11_where_0 {p : Program} {l : Launch} {e : Env} {s : State} {m : MethodId} {args : Array Value} {below : List Frame} {meth : Method} {c : Code} {D : va_G} {A : Nat → Prop} {cy : Nat → ClassId} {a kt vt : Nat → Nat} {N : Nat}   (C0 : nCx p s m args meth c cX11_where 1 (some .int) RX11 wsX11_where) (hE : nEn D A cy (Mw cy a) kt vt s) {z : Int32 × nS} : ∀ (σ : nS) (H : Heap) (locs : List Loc) (ls : Array Slot), lv_has ls 1 [(0, .ref (a 0))] → va_P D vwCl ((Mw cy a) σ) H → va_S A s.heap H locs → b_X11_where_0 N σ = some z → W p l e ({ frames := 0, cells := 0, slots := 0, locals := 0 } : Room) s m args below meth c H locs 0 0 (nQi below D A (Mw cy a) args s z) (F0 m 0 ls []) := by
  obtain ⟨hx, hb, hr, hml, hown, hts, hlocks⟩ := C0
  intro σ  H locs ls hl hP hS hf
  unfold b_X11_where_0 at hf
  refine lv_aload_n hx hb dX11_where_0 rfl (lv_at hl 0 rfl) ?_
  refine lv_iconst (v := 0) hx hb dX11_where_1 (by decide) ?_
  refine nb_put (ci := 11) hx hb hts iX11_where_X11 tyX11 tyX11_ok nmX11 hown hE hP hS 0 mbo_0 rfl 0 (by decide) qX11_where_117 rfl rfl rfl rfl (Nat.le_of_ble_eq_true rfl) dX11_where_2 (mbp_0_0 _) (fun σ1 eσ1 H locs hP hS => ?_)
  replace hf := nLet_e hf eσ1
  refine lv_aload_n hx hb dX11_where_5 rfl (lv_at hl 0 rfl) ?_
  refine nb_get (ci := 11) hx hb hts iX11_where_X11 hown hE hP 0 mbo_0 rfl 2 (by decide) qX11_where_9 rfl rfl dX11_where_6 ?_
  exact nb_iret hx hb hr hlocks hP hS (nSo hf) dX11_where_9
def l_X11_where_0 (N : Nat) : nS → Option (Int32 × nS) := b_X11_where_0 N
theorem kl_X11_where_0 {p : Program} {l : Launch} {e : Env} {s : State} {m : MethodId} {args : Array Value} {below : List Frame} {meth : Method} {c : Code} {D : va_G} {A : Nat → Prop} {cy : Nat → ClassId} {a kt vt : Nat → Nat} {N : Nat}   (C0 : nCx p s m args meth c cX11_where 1 (some .int) RX11 wsX11_where) (hE : nEn D A cy (Mw cy a) kt vt s) {z : Int32 × nS} : ∀ (σ : nS) (H : Heap) (locs : List Loc) (ls : Array Slot), lv_has ls 1 [(0, .ref (a 0))] → va_P D vwCl ((Mw cy a) σ) H → va_S A s.heap H locs → l_X11_where_0 N σ = some z → W p l e ({ frames := 0, cells := 0, slots := 0, locals := 0 } : Room) s m args below meth c H locs 0 0 (nQi below D A (Mw cy a) args s z) (F0 m 0 ls []) := by
  exact kb_X11_where_0 (N := N)  C0 hE
def f_X11_where (N : Nat) (σ : nS) : Option (Int32 × nS) := l_X11_where_0 N σ
set_option maxHeartbeats 4000000 in
set_option maxRecDepth 100000 in
theorem c_X11_where {l : Launch} {D : va_G} {A : Nat → Prop} {cy : Nat → ClassId} {a kt vt : Nat → Nat} {N : Nat}   {σ : nS} {r : Int32} {σ' : nS} (hf : f_X11_where N σ = some (r, σ')) : nMi l yX11_where wsX11_where ({ frames := 0, cells := 0, slots := 0, locals := 0 } : Room) D A cy (Mw cy a) kt vt [.ref (a 0)] σ r σ' := by
  refine Met.ofW (cc := cX11_where) (maxL := 1) (ret := (some .int)) (by decide) rfl ?_
  intro p e s m args below meth c s₁ B hml hv
  obtain ⟨rfl, hP, hE⟩ := hv
  have hl := lv_entry ([.ref (a 0)]) (n := 1) (Nat.le_of_ble_eq_true rfl)
  rw [lg_entry_eq]
  generalize (lg_sl ([.ref (a 0)]) ++ List.replicate (1 - (lg_sl ([.ref (a 0)])).length) Slot.unset).toArray = ls at hl ⊢
  have C0 : nCx p s m _ meth c cX11_where 1 (some .int) RX11 wsX11_where := ⟨B.exec, B.bytes, B.returns, hml, findClass_of_methodNamed B.named, atoms_spec (ws := wsX11_where) B.pre, B.notSynchronized⟩
  exact kl_X11_where_0 (N := N)  C0 hE (z := (r, σ')) σ  _ _ ls hl hP va_S.rf hf
/-! X11_isBook -/
set_option maxRecDepth 20000 in
theorem iX11_isBook_X11 : ∀ w ∈ u_ws RX11 TX11 68, w ∈ wsX11_isBook := fun _ h => List.mem_cons_of_mem _ (List.mem_append_right _ h)
set_option maxRecDepth 20000 in
theorem qX11_isBook_201 : Cond.fieldLink RX11 201 RX11 (TX11 7).2.1 (TX11 7).2.2.1 ∈ wsX11_isBook := by decide +kernel
def b_X11_isBook_0 (N : Nat) (σ : nS) (x1 : Int32) : Option (Int32 × nS) := (if x1 < 0 then some (0, σ) else (if (σ.1 0 7) ≤ x1 then some (0, σ) else some (1, σ)))
set_option maxHeartbeats 4000000 in
set_option maxRecDepth 100000 in
theorem kb_X11_isBook_0 {p : Program} {l : Launch} {e : Env} {s : State} {m : MethodId} {args : Array Value} {below : List Frame} {meth : Method} {c : Code} {D : va_G} {A : Nat → Prop} {cy : Nat → ClassId} {a kt vt : Nat → Nat} {N : Nat}   (C0 : nCx p s m args meth c cX11_isBook 2 (some .boolean) RX11 wsX11_isBook) (hE : nEn D A cy (Mw cy a) kt vt s) {z : Int32 × nS} : ∀ (σ : nS) (x1 : Int32) (H : Heap) (locs : List Loc) (ls : Array Slot), lv_has ls 2 [(0, .ref (a 0)), (1, .int x1)] → va_P D vwCl ((Mw cy a) σ) H → va_S A s.heap H locs → b_X11_isBook_0 N σ x1 = some z → W p l e ({ frames := 0, cells := 0, slots := 0, locals := 0 } : Room) s m args below meth c H locs 0 0 (nQi below D A (Mw cy a) args s z) (F0 m 0 ls []) := by
  obtain ⟨hx, hb, hr, hml, hown, hts, hlocks⟩ := C0
  intro σ x1 H locs ls hl hP hS hf
  unfold b_X11_isBook_0 at hf
  refine lv_iload_n hx hb dX11_isBook_0 rfl (lv_at hl 1 rfl) ?_
  refine lv_if_lt (tgt := 16) hx hb dX11_isBook_1 (by decide) (fun hc => ?_) (fun hc => ?_)
  · replace hf := nIf_t hc hf
    refine lv_iconst (v := 0) hx hb dX11_isBook_16 (by decide) ?_
    exact nb_zret hx hb hr hlocks hP hS (nSo hf) rfl dX11_isBook_17
  · replace hf := nIf_f hc hf
    refine lv_iload_n hx hb dX11_isBook_4 rfl (lv_at hl 1 rfl) ?_
    refine lv_aload_n hx hb dX11_isBook_5 rfl (lv_at hl 0 rfl) ?_
    refine nb_get (ci := 11) hx hb hts iX11_isBook_X11 hown hE hP 0 mbo_0 rfl 7 (by decide) qX11_isBook_201 rfl rfl dX11_isBook_6 ?_
    refine lv_icmp_ge (tgt := 16) hx hb dX11_isBook_9 (by decide) (fun hc => ?_) (fun hc => ?_)
    · replace hf := nIf_t hc hf
      refine lv_iconst (v := 0) hx hb dX11_isBook_16 (by decide) ?_
      exact nb_zret hx hb hr hlocks hP hS (nSo hf) rfl dX11_isBook_17
    · replace hf := nIf_f hc hf
      refine lv_iconst (v := 1) hx hb dX11_isBook_12 (by decide) ?_
      refine lv_goto (tgt := 17) hx hb dX11_isBook_13 (by decide) ?_
      exact nb_zret hx hb hr hlocks hP hS (nSo hf) rfl dX11_isBook_17
def l_X11_isBook_0 (N : Nat) : nS → Int32 → Option (Int32 × nS) := b_X11_isBook_0 N
theorem kl_X11_isBook_0 {p : Program} {l : Launch} {e : Env} {s : State} {m : MethodId} {args : Array Value} {below : List Frame} {meth : Method} {c : Code} {D : va_G} {A : Nat → Prop} {cy : Nat → ClassId} {a kt vt : Nat → Nat} {N : Nat}   (C0 : nCx p s m args meth c cX11_isBook 2 (some .boolean) RX11 wsX11_isBook) (hE : nEn D A cy (Mw cy a) kt vt s) {z : Int32 × nS} : ∀ (σ : nS) (x1 : Int32) (H : Heap) (locs : List Loc) (ls : Array Slot), lv_has ls 2 [(0, .ref (a 0)), (1, .int x1)] → va_P D vwCl ((Mw cy a) σ) H → va_S A s.heap H locs → l_X11_isBook_0 N σ x1 = some z → W p l e ({ frames := 0, cells := 0, slots := 0, locals := 0 } : Room) s m args below meth c H locs 0 0 (nQi below D A (Mw cy a) args s z) (F0 m 0 ls []) := by
  exact kb_X11_isBook_0 (N := N)  C0 hE
def f_X11_isBook (N : Nat) (x1 : Int32) (σ : nS) : Option (Int32 × nS) := l_X11_isBook_0 N σ x1
set_option maxHeartbeats 4000000 in
set_option maxRecDepth 100000 in
theorem c_X11_isBook {l : Launch} {D : va_G} {A : Nat → Prop} {cy : Nat → ClassId} {a kt vt : Nat → Nat} {N : Nat}   {x1 : Int32} {σ : nS} {r : Int32} {σ' : nS} (hf : f_X11_isBook N x1 σ = some (r, σ')) : nMi l yX11_isBook wsX11_isBook ({ frames := 0, cells := 0, slots := 0, locals := 0 } : Room) D A cy (Mw cy a) kt vt [.ref (a 0), .int x1] σ r σ' := by
  refine Met.ofW (cc := cX11_isBook) (maxL := 2) (ret := (some .boolean)) (by decide) rfl ?_
  intro p e s m args below meth c s₁ B hml hv
  obtain ⟨rfl, hP, hE⟩ := hv
  have hl := lv_entry ([.ref (a 0), .int x1]) (n := 2) (Nat.le_of_ble_eq_true rfl)
  rw [lg_entry_eq]
  generalize (lg_sl ([.ref (a 0), .int x1]) ++ List.replicate (2 - (lg_sl ([.ref (a 0), .int x1])).length) Slot.unset).toArray = ls at hl ⊢
  have C0 : nCx p s m _ meth c cX11_isBook 2 (some .boolean) RX11 wsX11_isBook := ⟨B.exec, B.bytes, B.returns, hml, findClass_of_methodNamed B.named, atoms_spec (ws := wsX11_isBook) B.pre, B.notSynchronized⟩
  exact kl_X11_isBook_0 (N := N)  C0 hE (z := (r, σ')) σ x1 _ _ ls hl hP va_S.rf hf
/-! X11_steps -/
set_option maxRecDepth 20000 in
theorem iX11_steps_X11 : ∀ w ∈ u_ws RX11 TX11 68, w ∈ wsX11_steps := fun _ h => List.mem_cons_of_mem _ (List.mem_append_right _ h)
set_option maxRecDepth 20000 in
theorem qX11_steps_117 : Cond.fieldLink RX11 117 RX11 (TX11 0).2.1 (TX11 0).2.2.1 ∈ wsX11_steps := by decide +kernel
set_option maxRecDepth 20000 in
theorem qX11_steps_23 : Cond.fieldLink RX11 23 RX11 (TX11 11).2.1 (TX11 11).2.2.1 ∈ wsX11_steps := by decide +kernel
def b_X11_steps_0 (N : Nat) (σ : nS) (x1 : Int32) : Option (Int32 × nS) := nLet (wr σ 0 0 0) (fun σ1 => nBd (f_X11_isBook N x1 σ1) (fun r2 σ3 => (if r2 = 0 then some ((-1), σ3) else nIx x1 5 (nLet (σ3.1 3 (x1).toNatClampNeg) (fun v4 => some (v4, σ3))))))
set_option maxHeartbeats 4000000 in
set_option maxRecDepth 100000 in
theorem kb_X11_steps_0 {p : Program} {l : Launch} {e : Env} {s : State} {m : MethodId} {args : Array Value} {below : List Frame} {meth : Method} {c : Code} {D : va_G} {A : Nat → Prop} {cy : Nat → ClassId} {a kt vt : Nat → Nat} {N : Nat}   (C0 : nCx p s m args meth c cX11_steps 2 (some .int) RX11 wsX11_steps) (hE : nEn D A cy (Mw cy a) kt vt s) {z : Int32 × nS} : ∀ (σ : nS) (x1 : Int32) (H : Heap) (locs : List Loc) (ls : Array Slot), lv_has ls 2 [(0, .ref (a 0)), (1, .int x1)] → va_P D vwCl ((Mw cy a) σ) H → va_S A s.heap H locs → b_X11_steps_0 N σ x1 = some z → W p l e ({ frames := 1, cells := 0, slots := 0, locals := 21 } : Room) s m args below meth c H locs 0 0 (nQi below D A (Mw cy a) args s z) (F0 m 0 ls []) := by
  obtain ⟨hx, hb, hr, hml, hown, hts, hlocks⟩ := C0
  intro σ x1 H locs ls hl hP hS hf
  unfold b_X11_steps_0 at hf
  refine lv_aload_n hx hb dX11_steps_0 rfl (lv_at hl 0 rfl) ?_
  refine lv_iconst (v := 0) hx hb dX11_steps_1 (by decide) ?_
  refine nb_put (ci := 11) hx hb hts iX11_steps_X11 tyX11 tyX11_ok nmX11 hown hE hP hS 0 mbo_0 rfl 0 (by decide) qX11_steps_117 rfl rfl rfl rfl (Nat.le_of_ble_eq_true rfl) dX11_steps_2 (mbp_0_0 _) (fun σ1 eσ1 H locs hP hS => ?_)
  replace hf := nLet_e hf eσ1
  refine lv_aload_n hx hb dX11_steps_5 rfl (lv_at hl 0 rfl) ?_
  refine lv_iload_n hx hb dX11_steps_6 rfl (lv_at hl 1 rfl) ?_
  obtain ⟨r2, σ3, hc3, hf⟩ := nBd_e hf
  refine nb_callVi (As := [.int x1]) (rest := []) ⟨hx, hb, hml, hown, hts⟩ (c_X11_isBook (D := D) (A := A) (cy := cy) (a := a) (kt := kt) (vt := vt) (l := l)  hc3) (cwV 1 hts gX11_steps_X11_isBook rfl rfl rfl (by decide +kernel) ⟨Nat.le_of_ble_eq_true rfl, Nat.le_of_ble_eq_true rfl⟩) hE hP hS mbo_0 rfl rfl hl.1 rfl (Nat.le_of_ble_eq_true rfl) dX11_steps_7 (fun H locs hP hS => ?_)
  refine lv_if_eq (tgt := 22) hx hb dX11_steps_10 (by decide) (fun hc => ?_) (fun hc => ?_)
  · replace hf := nIf_t hc hf
    refine lv_iconst (v := (-1)) hx hb dX11_steps_22 (by decide) ?_
    exact nb_iret hx hb hr hlocks hP hS (nSo hf) dX11_steps_23
  · replace hf := nIf_f hc hf
    refine lv_aload_n hx hb dX11_steps_13 rfl (lv_at hl 0 rfl) ?_
    refine nb_get (ci := 11) hx hb hts iX11_steps_X11 hown hE hP 0 mbo_0 rfl 11 (by decide) qX11_steps_23 rfl rfl dX11_steps_14 ?_
    refine lv_iload_n hx hb dX11_steps_17 rfl (lv_at hl 1 rfl) ?_
    obtain ⟨hin, hf⟩ := nIx_e hf
    refine na_iald hx hb hE hP mbr_3 hin dX11_steps_18 ?_
    refine lv_topi (fun v4 ev4 => ?_)
    replace hf := nLet_e hf ev4
    refine lv_goto (tgt := 23) hx hb dX11_steps_19 (by decide) ?_
    exact nb_iret hx hb hr hlocks hP hS (nSo hf) dX11_steps_23
def l_X11_steps_0 (N : Nat) : nS → Int32 → Option (Int32 × nS) := b_X11_steps_0 N
theorem kl_X11_steps_0 {p : Program} {l : Launch} {e : Env} {s : State} {m : MethodId} {args : Array Value} {below : List Frame} {meth : Method} {c : Code} {D : va_G} {A : Nat → Prop} {cy : Nat → ClassId} {a kt vt : Nat → Nat} {N : Nat}   (C0 : nCx p s m args meth c cX11_steps 2 (some .int) RX11 wsX11_steps) (hE : nEn D A cy (Mw cy a) kt vt s) {z : Int32 × nS} : ∀ (σ : nS) (x1 : Int32) (H : Heap) (locs : List Loc) (ls : Array Slot), lv_has ls 2 [(0, .ref (a 0)), (1, .int x1)] → va_P D vwCl ((Mw cy a) σ) H → va_S A s.heap H locs → l_X11_steps_0 N σ x1 = some z → W p l e ({ frames := 1, cells := 0, slots := 0, locals := 21 } : Room) s m args below meth c H locs 0 0 (nQi below D A (Mw cy a) args s z) (F0 m 0 ls []) := by
  exact kb_X11_steps_0 (N := N)  C0 hE
def f_X11_steps (N : Nat) (x1 : Int32) (σ : nS) : Option (Int32 × nS) := l_X11_steps_0 N σ x1
set_option maxHeartbeats 4000000 in
set_option maxRecDepth 100000 in
theorem c_X11_steps {l : Launch} {D : va_G} {A : Nat → Prop} {cy : Nat → ClassId} {a kt vt : Nat → Nat} {N : Nat}   {x1 : Int32} {σ : nS} {r : Int32} {σ' : nS} (hf : f_X11_steps N x1 σ = some (r, σ')) : nMi l yX11_steps wsX11_steps ({ frames := 1, cells := 0, slots := 0, locals := 21 } : Room) D A cy (Mw cy a) kt vt [.ref (a 0), .int x1] σ r σ' := by
  refine Met.ofW (cc := cX11_steps) (maxL := 2) (ret := (some .int)) (by decide) rfl ?_
  intro p e s m args below meth c s₁ B hml hv
  obtain ⟨rfl, hP, hE⟩ := hv
  have hl := lv_entry ([.ref (a 0), .int x1]) (n := 2) (Nat.le_of_ble_eq_true rfl)
  rw [lg_entry_eq]
  generalize (lg_sl ([.ref (a 0), .int x1]) ++ List.replicate (2 - (lg_sl ([.ref (a 0), .int x1])).length) Slot.unset).toArray = ls at hl ⊢
  have C0 : nCx p s m _ meth c cX11_steps 2 (some .int) RX11 wsX11_steps := ⟨B.exec, B.bytes, B.returns, hml, findClass_of_methodNamed B.named, atoms_spec (ws := wsX11_steps) B.pre, B.notSynchronized⟩
  exact kl_X11_steps_0 (N := N)  C0 hE (z := (r, σ')) σ x1 _ _ ls hl hP va_S.rf hf
/-! X11_step -/
set_option maxRecDepth 20000 in
theorem iX11_step_X11 : ∀ w ∈ u_ws RX11 TX11 68, w ∈ wsX11_step := fun _ h => List.mem_cons_of_mem _ (List.mem_append_right _ h)
set_option maxRecDepth 20000 in
theorem qX11_step_117 : Cond.fieldLink RX11 117 RX11 (TX11 0).2.1 (TX11 0).2.2.1 ∈ wsX11_step := by decide +kernel
set_option maxRecDepth 20000 in
theorem qX11_step_23 : Cond.fieldLink RX11 23 RX11 (TX11 11).2.1 (TX11 11).2.2.1 ∈ wsX11_step := by decide +kernel
set_option maxRecDepth 20000 in
theorem qX11_step_26 : Cond.fieldLink RX11 26 RX11 (TX11 12).2.1 (TX11 12).2.2.1 ∈ wsX11_step := by decide +kernel
set_option maxRecDepth 20000 in
theorem qX11_step_29 : Cond.fieldLink RX11 29 RX11 (TX11 13).2.1 (TX11 13).2.2.1 ∈ wsX11_step := by decide +kernel
set_option maxRecDepth 20000 in
theorem qX11_step_32 : Cond.fieldLink RX11 32 RX11 (TX11 14).2.1 (TX11 14).2.2.1 ∈ wsX11_step := by decide +kernel
set_option maxRecDepth 20000 in
theorem qX11_step_35 : Cond.fieldLink RX11 35 RX11 (TX11 15).2.1 (TX11 15).2.2.1 ∈ wsX11_step := by decide +kernel
set_option maxRecDepth 20000 in
theorem qX11_step_38 : Cond.fieldLink RX11 38 RX11 (TX11 16).2.1 (TX11 16).2.2.1 ∈ wsX11_step := by decide +kernel
def b_X11_step_0 (N : Nat) (σ : nS) (x1 : Int32) (x2 : Int32) (x3 : Int32) : Option (Int32 × nS) := nLet (wr σ 0 0 0) (fun σ1 => nBd (f_X11_isBook N x1 σ1) (fun r2 σ3 => (if r2 = 0 then some ((-1), σ3) else (if x2 < 0 then some ((-1), σ3) else nIx x1 5 (nLet (σ3.1 3 (x1).toNatClampNeg) (fun v4 => (if x2 < v4 then nLet ((24 : Int32) * x1 : Int32) (fun v5 => nLet (v5 + x2 : Int32) (fun v6 => (if x3 = 0 then nIx v6 120 (nLet (σ3.1 4 (v6).toNatClampNeg) (fun v7 => some (v7, σ3))) else (if x3 = 1 then nIx v6 120 (nLet (σ3.1 5 (v6).toNatClampNeg) (fun v8 => some (v8, σ3))) else (if x3 = 2 then nIx v6 120 (nLet (σ3.1 6 (v6).toNatClampNeg) (fun v9 => some (v9, σ3))) else (if x3 = 3 then nIx v6 120 (nLet (σ3.1 7 (v6).toNatClampNeg) (fun v10 => some (v10, σ3))) else (if x3 = 4 then nIx v6 120 (nLet (σ3.1 8 (v6).toNatClampNeg) (fun v11 => some (v11, σ3))) else some ((-1), σ3)))))))) else some ((-1), σ3))))))))
set_option maxHeartbeats 4000000 in
set_option maxRecDepth 100000 in
theorem kb_X11_step_0 {p : Program} {l : Launch} {e : Env} {s : State} {m : MethodId} {args : Array Value} {below : List Frame} {meth : Method} {c : Code} {D : va_G} {A : Nat → Prop} {cy : Nat → ClassId} {a kt vt : Nat → Nat} {N : Nat}   (C0 : nCx p s m args meth c cX11_step 5 (some .int) RX11 wsX11_step) (hE : nEn D A cy (Mw cy a) kt vt s) {z : Int32 × nS} : ∀ (σ : nS) (x1 : Int32) (x2 : Int32) (x3 : Int32) (H : Heap) (locs : List Loc) (ls : Array Slot), lv_has ls 5 [(0, .ref (a 0)), (1, .int x1), (2, .int x2), (3, .int x3)] → va_P D vwCl ((Mw cy a) σ) H → va_S A s.heap H locs → b_X11_step_0 N σ x1 x2 x3 = some z → W p l e ({ frames := 1, cells := 0, slots := 0, locals := 21 } : Room) s m args below meth c H locs 0 0 (nQi below D A (Mw cy a) args s z) (F0 m 0 ls []) := by
  obtain ⟨hx, hb, hr, hml, hown, hts, hlocks⟩ := C0
  intro σ x1 x2 x3 H locs ls hl hP hS hf
  unfold b_X11_step_0 at hf
  refine lv_aload_n hx hb dX11_step_0 rfl (lv_at hl 0 rfl) ?_
  refine lv_iconst (v := 0) hx hb dX11_step_1 (by decide) ?_
  refine nb_put (ci := 11) hx hb hts iX11_step_X11 tyX11 tyX11_ok nmX11 hown hE hP hS 0 mbo_0 rfl 0 (by decide) qX11_step_117 rfl rfl rfl rfl (Nat.le_of_ble_eq_true rfl) dX11_step_2 (mbp_0_0 _) (fun σ1 eσ1 H locs hP hS => ?_)
  replace hf := nLet_e hf eσ1
  refine lv_aload_n hx hb dX11_step_5 rfl (lv_at hl 0 rfl) ?_
  refine lv_iload_n hx hb dX11_step_6 rfl (lv_at hl 1 rfl) ?_
  obtain ⟨r2, σ3, hc3, hf⟩ := nBd_e hf
  refine nb_callVi (As := [.int x1]) (rest := []) ⟨hx, hb, hml, hown, hts⟩ (c_X11_isBook (D := D) (A := A) (cy := cy) (a := a) (kt := kt) (vt := vt) (l := l)  hc3) (cwV 1 hts gX11_step_X11_isBook rfl rfl rfl (by decide +kernel) ⟨Nat.le_of_ble_eq_true rfl, Nat.le_of_ble_eq_true rfl⟩) hE hP hS mbo_0 rfl rfl hl.1 rfl (Nat.le_of_ble_eq_true rfl) dX11_step_7 (fun H locs hP hS => ?_)
  refine lv_if_eq (tgt := 27) hx hb dX11_step_10 (by decide) (fun hc => ?_) (fun hc => ?_)
  · replace hf := nIf_t hc hf
    refine lv_iconst (v := (-1)) hx hb dX11_step_27 (by decide) ?_
    exact nb_iret hx hb hr hlocks hP hS (nSo hf) dX11_step_28
  · replace hf := nIf_f hc hf
    refine lv_iload_n hx hb dX11_step_13 rfl (lv_at hl 2 rfl) ?_
    refine lv_if_lt (tgt := 27) hx hb dX11_step_14 (by decide) (fun hc => ?_) (fun hc => ?_)
    · replace hf := nIf_t hc hf
      refine lv_iconst (v := (-1)) hx hb dX11_step_27 (by decide) ?_
      exact nb_iret hx hb hr hlocks hP hS (nSo hf) dX11_step_28
    · replace hf := nIf_f hc hf
      refine lv_iload_n hx hb dX11_step_17 rfl (lv_at hl 2 rfl) ?_
      refine lv_aload_n hx hb dX11_step_18 rfl (lv_at hl 0 rfl) ?_
      refine nb_get (ci := 11) hx hb hts iX11_step_X11 hown hE hP 0 mbo_0 rfl 11 (by decide) qX11_step_23 rfl rfl dX11_step_19 ?_
      refine lv_iload_n hx hb dX11_step_22 rfl (lv_at hl 1 rfl) ?_
      obtain ⟨hin, hf⟩ := nIx_e hf
      refine na_iald hx hb hE hP mbr_3 hin dX11_step_23 ?_
      refine lv_topi (fun v4 ev4 => ?_)
      replace hf := nLet_e hf ev4
      refine lv_icmp_lt (tgt := 29) hx hb dX11_step_24 (by decide) (fun hc => ?_) (fun hc => ?_)
      · replace hf := nIf_t hc hf
        refine lv_bipush (v := 24) hx hb dX11_step_29 (by decide) ?_
        refine lv_iload_n hx hb dX11_step_31 rfl (lv_at hl 1 rfl) ?_
        refine lv_imul hx hb dX11_step_32 ?_
        refine lv_topi (fun v5 ev5 => ?_)
        replace hf := nLet_e hf ev5
        refine lv_iload_n hx hb dX11_step_33 rfl (lv_at hl 2 rfl) ?_
        refine lv_iadd hx hb dX11_step_34 ?_
        refine lv_topi (fun v6 ev6 => ?_)
        replace hf := nLet_e hf ev6
        refine lv_istore (lv' := [(4, .int v6), (0, .ref (a 0)), (1, .int x1), (2, .int x2), (3, .int x3)]) hx hb dX11_step_35 hl (by decide) rfl (fun ls hl => ?_)
        refine lv_iload_n hx hb dX11_step_37 rfl (lv_at hl 4 rfl) ?_
        by_cases hs0 : x3 = 0
        · replace hf := nIf_t hs0 hf
          refine lv_tableIn (tgt := 72) (off := 34) hx hb dX11_step_38 (by rw [hs0]; decide) (by rw [hs0]; decide) (by rw [hs0]; rfl) (by decide) ?_
          refine lv_aload_n hx hb dX11_step_72 rfl (lv_at hl 1 rfl) ?_
          refine nb_get (ci := 11) hx hb hts iX11_step_X11 hown hE hP 0 mbo_0 rfl 12 (by decide) qX11_step_26 rfl rfl dX11_step_73 ?_
          refine lv_iload hx hb dX11_step_76 (lv_at hl 0 rfl) ?_
          obtain ⟨hin, hf⟩ := nIx_e hf
          refine na_iald hx hb hE hP mbr_4 hin dX11_step_78 ?_
          refine lv_topi (fun v7 ev7 => ?_)
          replace hf := nLet_e hf ev7
          exact nb_iret hx hb hr hlocks hP hS (nSo hf) dX11_step_79
        · replace hf := nIf_f hs0 hf
          by_cases hs1 : x3 = 1
          · replace hf := nIf_t hs1 hf
            refine lv_tableIn (tgt := 80) (off := 42) hx hb dX11_step_38 (by rw [hs1]; decide) (by rw [hs1]; decide) (by rw [hs1]; rfl) (by decide) ?_
            refine lv_aload_n hx hb dX11_step_80 rfl (lv_at hl 1 rfl) ?_
            refine nb_get (ci := 11) hx hb hts iX11_step_X11 hown hE hP 0 mbo_0 rfl 13 (by decide) qX11_step_29 rfl rfl dX11_step_81 ?_
            refine lv_iload hx hb dX11_step_84 (lv_at hl 0 rfl) ?_
            obtain ⟨hin, hf⟩ := nIx_e hf
            refine na_iald hx hb hE hP mbr_5 hin dX11_step_86 ?_
            refine lv_topi (fun v8 ev8 => ?_)
            replace hf := nLet_e hf ev8
            exact nb_iret hx hb hr hlocks hP hS (nSo hf) dX11_step_87
          · replace hf := nIf_f hs1 hf
            by_cases hs2 : x3 = 2
            · replace hf := nIf_t hs2 hf
              refine lv_tableIn (tgt := 88) (off := 50) hx hb dX11_step_38 (by rw [hs2]; decide) (by rw [hs2]; decide) (by rw [hs2]; rfl) (by decide) ?_
              refine lv_aload_n hx hb dX11_step_88 rfl (lv_at hl 1 rfl) ?_
              refine nb_get (ci := 11) hx hb hts iX11_step_X11 hown hE hP 0 mbo_0 rfl 14 (by decide) qX11_step_32 rfl rfl dX11_step_89 ?_
              refine lv_iload hx hb dX11_step_92 (lv_at hl 0 rfl) ?_
              obtain ⟨hin, hf⟩ := nIx_e hf
              refine na_iald hx hb hE hP mbr_6 hin dX11_step_94 ?_
              refine lv_topi (fun v9 ev9 => ?_)
              replace hf := nLet_e hf ev9
              exact nb_iret hx hb hr hlocks hP hS (nSo hf) dX11_step_95
            · replace hf := nIf_f hs2 hf
              by_cases hs3 : x3 = 3
              · replace hf := nIf_t hs3 hf
                refine lv_tableIn (tgt := 96) (off := 58) hx hb dX11_step_38 (by rw [hs3]; decide) (by rw [hs3]; decide) (by rw [hs3]; rfl) (by decide) ?_
                refine lv_aload_n hx hb dX11_step_96 rfl (lv_at hl 1 rfl) ?_
                refine nb_get (ci := 11) hx hb hts iX11_step_X11 hown hE hP 0 mbo_0 rfl 15 (by decide) qX11_step_35 rfl rfl dX11_step_97 ?_
                refine lv_iload hx hb dX11_step_100 (lv_at hl 0 rfl) ?_
                obtain ⟨hin, hf⟩ := nIx_e hf
                refine na_iald hx hb hE hP mbr_7 hin dX11_step_102 ?_
                refine lv_topi (fun v10 ev10 => ?_)
                replace hf := nLet_e hf ev10
                exact nb_iret hx hb hr hlocks hP hS (nSo hf) dX11_step_103
              · replace hf := nIf_f hs3 hf
                by_cases hs4 : x3 = 4
                · replace hf := nIf_t hs4 hf
                  refine lv_tableIn (tgt := 104) (off := 66) hx hb dX11_step_38 (by rw [hs4]; decide) (by rw [hs4]; decide) (by rw [hs4]; rfl) (by decide) ?_
                  refine lv_aload_n hx hb dX11_step_104 rfl (lv_at hl 1 rfl) ?_
                  refine nb_get (ci := 11) hx hb hts iX11_step_X11 hown hE hP 0 mbo_0 rfl 16 (by decide) qX11_step_38 rfl rfl dX11_step_105 ?_
                  refine lv_iload hx hb dX11_step_108 (lv_at hl 0 rfl) ?_
                  obtain ⟨hin, hf⟩ := nIx_e hf
                  refine na_iald hx hb hE hP mbr_8 hin dX11_step_110 ?_
                  refine lv_topi (fun v11 ev11 => ?_)
                  replace hf := nLet_e hf ev11
                  exact nb_iret hx hb hr hlocks hP hS (nSo hf) dX11_step_111
                · replace hf := nIf_f hs4 hf
                  have gs0 := nI_ne (z := 0) hs0 (by decide)
                  have gs1 := nI_ne (z := 1) hs1 (by decide)
                  have gs2 := nI_ne (z := 2) hs2 (by decide)
                  have gs3 := nI_ne (z := 3) hs3 (by decide)
                  have gs4 := nI_ne (z := 4) hs4 (by decide)
                  refine lv_tableOut (tgt := 112) hx hb dX11_step_38 (by omega) (by decide) ?_
                  refine lv_iconst (v := (-1)) hx hb dX11_step_112 (by decide) ?_
                  exact nb_iret hx hb hr hlocks hP hS (nSo hf) dX11_step_113
      · replace hf := nIf_f hc hf
        refine lv_iconst (v := (-1)) hx hb dX11_step_27 (by decide) ?_
        exact nb_iret hx hb hr hlocks hP hS (nSo hf) dX11_step_28
def l_X11_step_0 (N : Nat) : nS → Int32 → Int32 → Int32 → Option (Int32 × nS) := b_X11_step_0 N
theorem kl_X11_step_0 {p : Program} {l : Launch} {e : Env} {s : State} {m : MethodId} {args : Array Value} {below : List Frame} {meth : Method} {c : Code} {D : va_G} {A : Nat → Prop} {cy : Nat → ClassId} {a kt vt : Nat → Nat} {N : Nat}   (C0 : nCx p s m args meth c cX11_step 5 (some .int) RX11 wsX11_step) (hE : nEn D A cy (Mw cy a) kt vt s) {z : Int32 × nS} : ∀ (σ : nS) (x1 : Int32) (x2 : Int32) (x3 : Int32) (H : Heap) (locs : List Loc) (ls : Array Slot), lv_has ls 5 [(0, .ref (a 0)), (1, .int x1), (2, .int x2), (3, .int x3)] → va_P D vwCl ((Mw cy a) σ) H → va_S A s.heap H locs → l_X11_step_0 N σ x1 x2 x3 = some z → W p l e ({ frames := 1, cells := 0, slots := 0, locals := 21 } : Room) s m args below meth c H locs 0 0 (nQi below D A (Mw cy a) args s z) (F0 m 0 ls []) := by
  exact kb_X11_step_0 (N := N)  C0 hE
def f_X11_step (N : Nat) (x1 : Int32) (x2 : Int32) (x3 : Int32) (σ : nS) : Option (Int32 × nS) := l_X11_step_0 N σ x1 x2 x3
set_option maxHeartbeats 4000000 in
set_option maxRecDepth 100000 in
theorem c_X11_step {l : Launch} {D : va_G} {A : Nat → Prop} {cy : Nat → ClassId} {a kt vt : Nat → Nat} {N : Nat}   {x1 : Int32} {x2 : Int32} {x3 : Int32} {σ : nS} {r : Int32} {σ' : nS} (hf : f_X11_step N x1 x2 x3 σ = some (r, σ')) : nMi l yX11_step wsX11_step ({ frames := 1, cells := 0, slots := 0, locals := 21 } : Room) D A cy (Mw cy a) kt vt [.ref (a 0), .int x1, .int x2, .int x3] σ r σ' := by
  refine Met.ofW (cc := cX11_step) (maxL := 5) (ret := (some .int)) (by decide) rfl ?_
  intro p e s m args below meth c s₁ B hml hv
  obtain ⟨rfl, hP, hE⟩ := hv
  have hl := lv_entry ([.ref (a 0), .int x1, .int x2, .int x3]) (n := 5) (Nat.le_of_ble_eq_true rfl)
  rw [lg_entry_eq]
  generalize (lg_sl ([.ref (a 0), .int x1, .int x2, .int x3]) ++ List.replicate (5 - (lg_sl ([.ref (a 0), .int x1, .int x2, .int x3])).length) Slot.unset).toArray = ls at hl ⊢
  have C0 : nCx p s m _ meth c cX11_step 5 (some .int) RX11 wsX11_step := ⟨B.exec, B.bytes, B.returns, hml, findClass_of_methodNamed B.named, atoms_spec (ws := wsX11_step) B.pre, B.notSynchronized⟩
  exact kl_X11_step_0 (N := N)  C0 hE (z := (r, σ')) σ x1 x2 x3 _ _ ls hl hP va_S.rf hf
/-! X11_isThere -/
set_option maxRecDepth 20000 in
theorem iX11_isThere_X11 : ∀ w ∈ u_ws RX11 TX11 68, w ∈ wsX11_isThere := fun _ h => List.mem_cons_of_mem _ (List.mem_append_right _ h)
set_option maxRecDepth 20000 in
theorem qX11_isThere_140 : Cond.fieldLink RX11 140 RX11 (TX11 6).2.1 (TX11 6).2.2.1 ∈ wsX11_isThere := by decide +kernel
set_option maxRecDepth 20000 in
theorem qX11_isThere_20 : Cond.fieldLink RX11 20 RX11 (TX11 10).2.1 (TX11 10).2.2.1 ∈ wsX11_isThere := by decide +kernel
def b_X11_isThere_46 (N : Nat) (k47 : nS → Int32 → Int32 → Int32 → Int32 → Option (Int32 × nS)) (σ : nS) (x1 : Int32) (x2 : Int32) (x4 : Int32) : Option (Int32 × nS) := k47 σ x1 x2 x4 0
set_option maxHeartbeats 4000000 in
set_option maxRecDepth 100000 in
theorem kb_X11_isThere_46 {p : Program} {l : Launch} {e : Env} {s : State} {m : MethodId} {args : Array Value} {below : List Frame} {meth : Method} {c : Code} {D : va_G} {A : Nat → Prop} {cy : Nat → ClassId} {a kt vt : Nat → Nat} {N : Nat}   (C0 : nCx p s m args meth c cX11_isThere 5 (some .boolean) RX11 wsX11_isThere) (hE : nEn D A cy (Mw cy a) kt vt s) {z : Int32 × nS} {k47 : nS → Int32 → Int32 → Int32 → Int32 → Option (Int32 × nS)} (K47 : ∀ (σ : nS) (x1 : Int32) (x2 : Int32) (x4 : Int32) (y0 : Int32) (H : Heap) (locs : List Loc) (ls : Array Slot), lv_has ls 5 [(0, .ref (a 0)), (1, .int x1), (2, .int x2), (4, .int x4)] → va_P D vwCl ((Mw cy a) σ) H → va_S A s.heap H locs → k47 σ x1 x2 x4 y0 = some z → W p l e ({ frames := 0, cells := 0, slots := 0, locals := 0 } : Room) s m args below meth c H locs 0 0 (nQi below D A (Mw cy a) args s z) (F0 m 47 ls [.int y0])) : ∀ (σ : nS) (x1 : Int32) (x2 : Int32) (x4 : Int32) (H : Heap) (locs : List Loc) (ls : Array Slot), lv_has ls 5 [(0, .ref (a 0)), (1, .int x1), (2, .int x2), (4, .int x4)] → va_P D vwCl ((Mw cy a) σ) H → va_S A s.heap H locs → b_X11_isThere_46 N k47 σ x1 x2 x4 = some z → W p l e ({ frames := 0, cells := 0, slots := 0, locals := 0 } : Room) s m args below meth c H locs 0 0 (nQi below D A (Mw cy a) args s z) (F0 m 46 ls []) := by
  obtain ⟨hx, hb, hr, hml, hown, hts, hlocks⟩ := C0
  intro σ x1 x2 x4 H locs ls hl hP hS hf
  unfold b_X11_isThere_46 at hf
  refine lv_iconst (v := 0) hx hb dX11_isThere_46 (by decide) ?_
  exact K47 σ x1 x2 x4 0 H locs ls (lv_sub hl [0, 1, 2, 3] rfl) hP hS hf
def b_X11_isThere_47 (N : Nat) (k5 : nS → Int32 → Int32 → Int32 → Int32 → Option (Int32 × nS)) (σ : nS) (x1 : Int32) (x2 : Int32) (x4 : Int32) (y0 : Int32) : Option (Int32 × nS) := nLet (x4 + 1 : Int32) (fun v1 => k5 σ x1 x2 y0 v1)
set_option maxHeartbeats 4000000 in
set_option maxRecDepth 100000 in
theorem kb_X11_isThere_47 {p : Program} {l : Launch} {e : Env} {s : State} {m : MethodId} {args : Array Value} {below : List Frame} {meth : Method} {c : Code} {D : va_G} {A : Nat → Prop} {cy : Nat → ClassId} {a kt vt : Nat → Nat} {N : Nat}   (C0 : nCx p s m args meth c cX11_isThere 5 (some .boolean) RX11 wsX11_isThere) (hE : nEn D A cy (Mw cy a) kt vt s) {z : Int32 × nS} {k5 : nS → Int32 → Int32 → Int32 → Int32 → Option (Int32 × nS)} (K5 : ∀ (σ : nS) (x1 : Int32) (x2 : Int32) (x3 : Int32) (x4 : Int32) (H : Heap) (locs : List Loc) (ls : Array Slot), lv_has ls 5 [(0, .ref (a 0)), (1, .int x1), (2, .int x2), (3, .int x3), (4, .int x4)] → va_P D vwCl ((Mw cy a) σ) H → va_S A s.heap H locs → k5 σ x1 x2 x3 x4 = some z → W p l e ({ frames := 0, cells := 0, slots := 0, locals := 0 } : Room) s m args below meth c H locs 0 0 (nQi below D A (Mw cy a) args s z) (F0 m 5 ls [])) : ∀ (σ : nS) (x1 : Int32) (x2 : Int32) (x4 : Int32) (y0 : Int32) (H : Heap) (locs : List Loc) (ls : Array Slot), lv_has ls 5 [(0, .ref (a 0)), (1, .int x1), (2, .int x2), (4, .int x4)] → va_P D vwCl ((Mw cy a) σ) H → va_S A s.heap H locs → b_X11_isThere_47 N k5 σ x1 x2 x4 y0 = some z → W p l e ({ frames := 0, cells := 0, slots := 0, locals := 0 } : Room) s m args below meth c H locs 0 0 (nQi below D A (Mw cy a) args s z) (F0 m 47 ls [.int y0]) := by
  obtain ⟨hx, hb, hr, hml, hown, hts, hlocks⟩ := C0
  intro σ x1 x2 x4 y0 H locs ls hl hP hS hf
  unfold b_X11_isThere_47 at hf
  refine lv_istore_n (lv' := [(3, .int y0), (0, .ref (a 0)), (1, .int x1), (2, .int x2), (4, .int x4)]) hx hb dX11_isThere_47 rfl hl (by decide) rfl (fun ls hl => ?_)
  obtain ⟨v1, ev1⟩ : ∃ y : Int32, y = x4 + 1 := ⟨_, rfl⟩
  replace hf := nLet_e hf ev1
  refine lv_iinc (v := v1) (lv' := [(4, .int v1), (3, .int y0), (0, .ref (a 0)), (1, .int x1), (2, .int x2)]) hx hb dX11_isThere_48 hl (k := 4) rfl (by rw [ev1]; rfl) (by decide) rfl (fun ls hl => ?_)
  refine lv_goto (tgt := 5) hx hb dX11_isThere_51 (by decide) ?_
  exact K5 σ x1 x2 y0 v1 H locs ls (lv_sub hl [2, 3, 4, 1, 0] rfl) hP hS hf
def b_X11_isThere_42 (N : Nat) (k47 : nS → Int32 → Int32 → Int32 → Int32 → Option (Int32 × nS)) (σ : nS) (x1 : Int32) (x2 : Int32) (x4 : Int32) : Option (Int32 × nS) := k47 σ x1 x2 x4 1
set_option maxHeartbeats 4000000 in
set_option maxRecDepth 100000 in
theorem kb_X11_isThere_42 {p : Program} {l : Launch} {e : Env} {s : State} {m : MethodId} {args : Array Value} {below : List Frame} {meth : Method} {c : Code} {D : va_G} {A : Nat → Prop} {cy : Nat → ClassId} {a kt vt : Nat → Nat} {N : Nat}   (C0 : nCx p s m args meth c cX11_isThere 5 (some .boolean) RX11 wsX11_isThere) (hE : nEn D A cy (Mw cy a) kt vt s) {z : Int32 × nS} {k47 : nS → Int32 → Int32 → Int32 → Int32 → Option (Int32 × nS)} (K47 : ∀ (σ : nS) (x1 : Int32) (x2 : Int32) (x4 : Int32) (y0 : Int32) (H : Heap) (locs : List Loc) (ls : Array Slot), lv_has ls 5 [(0, .ref (a 0)), (1, .int x1), (2, .int x2), (4, .int x4)] → va_P D vwCl ((Mw cy a) σ) H → va_S A s.heap H locs → k47 σ x1 x2 x4 y0 = some z → W p l e ({ frames := 0, cells := 0, slots := 0, locals := 0 } : Room) s m args below meth c H locs 0 0 (nQi below D A (Mw cy a) args s z) (F0 m 47 ls [.int y0])) : ∀ (σ : nS) (x1 : Int32) (x2 : Int32) (x4 : Int32) (H : Heap) (locs : List Loc) (ls : Array Slot), lv_has ls 5 [(0, .ref (a 0)), (1, .int x1), (2, .int x2), (4, .int x4)] → va_P D vwCl ((Mw cy a) σ) H → va_S A s.heap H locs → b_X11_isThere_42 N k47 σ x1 x2 x4 = some z → W p l e ({ frames := 0, cells := 0, slots := 0, locals := 0 } : Room) s m args below meth c H locs 0 0 (nQi below D A (Mw cy a) args s z) (F0 m 42 ls []) := by
  obtain ⟨hx, hb, hr, hml, hown, hts, hlocks⟩ := C0
  intro σ x1 x2 x4 H locs ls hl hP hS hf
  unfold b_X11_isThere_42 at hf
  refine lv_iconst (v := 1) hx hb dX11_isThere_42 (by decide) ?_
  refine lv_goto (tgt := 47) hx hb dX11_isThere_43 (by decide) ?_
  exact K47 σ x1 x2 x4 1 H locs ls (lv_sub hl [0, 1, 2, 3] rfl) hP hS hf
def b_X11_isThere_5 (N : Nat) (k42 : nS → Int32 → Int32 → Int32 → Option (Int32 × nS)) (k46 : nS → Int32 → Int32 → Int32 → Option (Int32 × nS)) (σ : nS) (x1 : Int32) (x2 : Int32) (x3 : Int32) (x4 : Int32) : Option (Int32 × nS) := (if (σ.1 0 6) ≤ x4 then nZ x3 (some (x3, σ)) else (if x3 = 0 then nLet (x2 >>> (x4 &&& 31) : Int32) (fun v1 => nLet (v1 &&& (1 : Int32) : Int32) (fun v2 => (if v2 = 0 then nIx x4 4 (nLet (σ.1 2 (x4).toNatClampNeg) (fun v3 => nLet (v3 >>> (x1 &&& 31) : Int32) (fun v4 => nLet (v4 &&& (1 : Int32) : Int32) (fun v5 => (if v5 = 1 then k42 σ x1 x2 x4 else k46 σ x1 x2 x4))))) else k46 σ x1 x2 x4))) else k42 σ x1 x2 x4))
set_option maxHeartbeats 4000000 in
set_option maxRecDepth 100000 in
theorem kb_X11_isThere_5 {p : Program} {l : Launch} {e : Env} {s : State} {m : MethodId} {args : Array Value} {below : List Frame} {meth : Method} {c : Code} {D : va_G} {A : Nat → Prop} {cy : Nat → ClassId} {a kt vt : Nat → Nat} {N : Nat}   (C0 : nCx p s m args meth c cX11_isThere 5 (some .boolean) RX11 wsX11_isThere) (hE : nEn D A cy (Mw cy a) kt vt s) {z : Int32 × nS} {k42 : nS → Int32 → Int32 → Int32 → Option (Int32 × nS)} (K42 : ∀ (σ : nS) (x1 : Int32) (x2 : Int32) (x4 : Int32) (H : Heap) (locs : List Loc) (ls : Array Slot), lv_has ls 5 [(0, .ref (a 0)), (1, .int x1), (2, .int x2), (4, .int x4)] → va_P D vwCl ((Mw cy a) σ) H → va_S A s.heap H locs → k42 σ x1 x2 x4 = some z → W p l e ({ frames := 0, cells := 0, slots := 0, locals := 0 } : Room) s m args below meth c H locs 0 0 (nQi below D A (Mw cy a) args s z) (F0 m 42 ls [])) {k46 : nS → Int32 → Int32 → Int32 → Option (Int32 × nS)} (K46 : ∀ (σ : nS) (x1 : Int32) (x2 : Int32) (x4 : Int32) (H : Heap) (locs : List Loc) (ls : Array Slot), lv_has ls 5 [(0, .ref (a 0)), (1, .int x1), (2, .int x2), (4, .int x4)] → va_P D vwCl ((Mw cy a) σ) H → va_S A s.heap H locs → k46 σ x1 x2 x4 = some z → W p l e ({ frames := 0, cells := 0, slots := 0, locals := 0 } : Room) s m args below meth c H locs 0 0 (nQi below D A (Mw cy a) args s z) (F0 m 46 ls [])) : ∀ (σ : nS) (x1 : Int32) (x2 : Int32) (x3 : Int32) (x4 : Int32) (H : Heap) (locs : List Loc) (ls : Array Slot), lv_has ls 5 [(0, .ref (a 0)), (1, .int x1), (2, .int x2), (3, .int x3), (4, .int x4)] → va_P D vwCl ((Mw cy a) σ) H → va_S A s.heap H locs → b_X11_isThere_5 N k42 k46 σ x1 x2 x3 x4 = some z → W p l e ({ frames := 0, cells := 0, slots := 0, locals := 0 } : Room) s m args below meth c H locs 0 0 (nQi below D A (Mw cy a) args s z) (F0 m 5 ls []) := by
  obtain ⟨hx, hb, hr, hml, hown, hts, hlocks⟩ := C0
  intro σ x1 x2 x3 x4 H locs ls hl hP hS hf
  unfold b_X11_isThere_5 at hf
  refine lv_iload hx hb dX11_isThere_5 (lv_at hl 4 rfl) ?_
  refine lv_aload_n hx hb dX11_isThere_7 rfl (lv_at hl 0 rfl) ?_
  refine nb_get (ci := 11) hx hb hts iX11_isThere_X11 hown hE hP 0 mbo_0 rfl 6 (by decide) qX11_isThere_140 rfl rfl dX11_isThere_8 ?_
  refine lv_icmp_ge (tgt := 54) hx hb dX11_isThere_11 (by decide) (fun hc => ?_) (fun hc => ?_)
  · replace hf := nIf_t hc hf
    refine lv_iload_n hx hb dX11_isThere_54 rfl (lv_at hl 3 rfl) ?_
    obtain ⟨hz, hf⟩ := nZ_e hf
    exact nb_zret hx hb hr hlocks hP hS (nSo hf) hz dX11_isThere_55
  · replace hf := nIf_f hc hf
    refine lv_iload_n hx hb dX11_isThere_14 rfl (lv_at hl 3 rfl) ?_
    refine lv_if_ne (tgt := 42) hx hb dX11_isThere_15 (by decide) (fun hc => ?_) (fun hc => ?_)
    · replace hf := nIf_f hc hf
      exact K42 σ x1 x2 x4 H locs ls (lv_sub hl [0, 1, 2, 4] rfl) hP hS hf
    · replace hf := nIf_t hc hf
      refine lv_iload_n hx hb dX11_isThere_18 rfl (lv_at hl 2 rfl) ?_
      refine lv_iload hx hb dX11_isThere_19 (lv_at hl 4 rfl) ?_
      refine lv_ishr hx hb dX11_isThere_21 ?_
      refine lv_topi (fun v1 ev1 => ?_)
      replace hf := nLet_e hf ev1
      refine lv_iconst (v := 1) hx hb dX11_isThere_22 (by decide) ?_
      refine lv_iand hx hb dX11_isThere_23 ?_
      refine lv_topi (fun v2 ev2 => ?_)
      replace hf := nLet_e hf ev2
      refine lv_if_ne (tgt := 46) hx hb dX11_isThere_24 (by decide) (fun hc => ?_) (fun hc => ?_)
      · replace hf := nIf_f hc hf
        exact K46 σ x1 x2 x4 H locs ls (lv_sub hl [0, 1, 2, 4] rfl) hP hS hf
      · replace hf := nIf_t hc hf
        refine lv_aload_n hx hb dX11_isThere_27 rfl (lv_at hl 0 rfl) ?_
        refine nb_get (ci := 11) hx hb hts iX11_isThere_X11 hown hE hP 0 mbo_0 rfl 10 (by decide) qX11_isThere_20 rfl rfl dX11_isThere_28 ?_
        refine lv_iload hx hb dX11_isThere_31 (lv_at hl 4 rfl) ?_
        obtain ⟨hin, hf⟩ := nIx_e hf
        refine na_iald hx hb hE hP mbr_2 hin dX11_isThere_33 ?_
        refine lv_topi (fun v3 ev3 => ?_)
        replace hf := nLet_e hf ev3
        refine lv_iload_n hx hb dX11_isThere_34 rfl (lv_at hl 1 rfl) ?_
        refine lv_ishr hx hb dX11_isThere_35 ?_
        refine lv_topi (fun v4 ev4 => ?_)
        replace hf := nLet_e hf ev4
        refine lv_iconst (v := 1) hx hb dX11_isThere_36 (by decide) ?_
        refine lv_iand hx hb dX11_isThere_37 ?_
        refine lv_topi (fun v5 ev5 => ?_)
        replace hf := nLet_e hf ev5
        refine lv_iconst (v := 1) hx hb dX11_isThere_38 (by decide) ?_
        refine lv_icmp_ne (tgt := 46) hx hb dX11_isThere_39 (by decide) (fun hc => ?_) (fun hc => ?_)
        · replace hf := nIf_f hc hf
          exact K46 σ x1 x2 x4 H locs ls (lv_sub hl [0, 1, 2, 4] rfl) hP hS hf
        · replace hf := nIf_t hc hf
          exact K42 σ x1 x2 x4 H locs ls (lv_sub hl [0, 1, 2, 4] rfl) hP hS hf
def b_X11_isThere_0 (N : Nat) (k5 : nS → Int32 → Int32 → Int32 → Int32 → Option (Int32 × nS)) (σ : nS) (x1 : Int32) (x2 : Int32) : Option (Int32 × nS) := k5 σ x1 x2 0 0
set_option maxHeartbeats 4000000 in
set_option maxRecDepth 100000 in
theorem kb_X11_isThere_0 {p : Program} {l : Launch} {e : Env} {s : State} {m : MethodId} {args : Array Value} {below : List Frame} {meth : Method} {c : Code} {D : va_G} {A : Nat → Prop} {cy : Nat → ClassId} {a kt vt : Nat → Nat} {N : Nat}   (C0 : nCx p s m args meth c cX11_isThere 5 (some .boolean) RX11 wsX11_isThere) (hE : nEn D A cy (Mw cy a) kt vt s) {z : Int32 × nS} {k5 : nS → Int32 → Int32 → Int32 → Int32 → Option (Int32 × nS)} (K5 : ∀ (σ : nS) (x1 : Int32) (x2 : Int32) (x3 : Int32) (x4 : Int32) (H : Heap) (locs : List Loc) (ls : Array Slot), lv_has ls 5 [(0, .ref (a 0)), (1, .int x1), (2, .int x2), (3, .int x3), (4, .int x4)] → va_P D vwCl ((Mw cy a) σ) H → va_S A s.heap H locs → k5 σ x1 x2 x3 x4 = some z → W p l e ({ frames := 0, cells := 0, slots := 0, locals := 0 } : Room) s m args below meth c H locs 0 0 (nQi below D A (Mw cy a) args s z) (F0 m 5 ls [])) : ∀ (σ : nS) (x1 : Int32) (x2 : Int32) (H : Heap) (locs : List Loc) (ls : Array Slot), lv_has ls 5 [(0, .ref (a 0)), (1, .int x1), (2, .int x2)] → va_P D vwCl ((Mw cy a) σ) H → va_S A s.heap H locs → b_X11_isThere_0 N k5 σ x1 x2 = some z → W p l e ({ frames := 0, cells := 0, slots := 0, locals := 0 } : Room) s m args below meth c H locs 0 0 (nQi below D A (Mw cy a) args s z) (F0 m 0 ls []) := by
  obtain ⟨hx, hb, hr, hml, hown, hts, hlocks⟩ := C0
  intro σ x1 x2 H locs ls hl hP hS hf
  unfold b_X11_isThere_0 at hf
  refine lv_iconst (v := 0) hx hb dX11_isThere_0 (by decide) ?_
  refine lv_istore_n (lv' := [(3, .int 0), (0, .ref (a 0)), (1, .int x1), (2, .int x2)]) hx hb dX11_isThere_1 rfl hl (by decide) rfl (fun ls hl => ?_)
  refine lv_iconst (v := 0) hx hb dX11_isThere_2 (by decide) ?_
  refine lv_istore (lv' := [(4, .int 0), (3, .int 0), (0, .ref (a 0)), (1, .int x1), (2, .int x2)]) hx hb dX11_isThere_3 hl (by decide) rfl (fun ls hl => ?_)
  exact K5 σ x1 x2 0 0 H locs ls (lv_sub hl [2, 3, 4, 1, 0] rfl) hP hS hf
def l_X11_isThere_46 (N : Nat) (k47 : nS → Int32 → Int32 → Int32 → Int32 → Option (Int32 × nS)) : nS → Int32 → Int32 → Int32 → Option (Int32 × nS) := b_X11_isThere_46 N k47
theorem kl_X11_isThere_46 {p : Program} {l : Launch} {e : Env} {s : State} {m : MethodId} {args : Array Value} {below : List Frame} {meth : Method} {c : Code} {D : va_G} {A : Nat → Prop} {cy : Nat → ClassId} {a kt vt : Nat → Nat} {N : Nat}   (C0 : nCx p s m args meth c cX11_isThere 5 (some .boolean) RX11 wsX11_isThere) (hE : nEn D A cy (Mw cy a) kt vt s) {z : Int32 × nS} {k47 : nS → Int32 → Int32 → Int32 → Int32 → Option (Int32 × nS)} (K47 : ∀ (σ : nS) (x1 : Int32) (x2 : Int32) (x4 : Int32) (y0 : Int32) (H : Heap) (locs : List Loc) (ls : Array Slot), lv_has ls 5 [(0, .ref (a 0)), (1, .int x1), (2, .int x2), (4, .int x4)] → va_P D vwCl ((Mw cy a) σ) H → va_S A s.heap H locs → k47 σ x1 x2 x4 y0 = some z → W p l e ({ frames := 0, cells := 0, slots := 0, locals := 0 } : Room) s m args below meth c H locs 0 0 (nQi below D A (Mw cy a) args s z) (F0 m 47 ls [.int y0])) : ∀ (σ : nS) (x1 : Int32) (x2 : Int32) (x4 : Int32) (H : Heap) (locs : List Loc) (ls : Array Slot), lv_has ls 5 [(0, .ref (a 0)), (1, .int x1), (2, .int x2), (4, .int x4)] → va_P D vwCl ((Mw cy a) σ) H → va_S A s.heap H locs → l_X11_isThere_46 N k47 σ x1 x2 x4 = some z → W p l e ({ frames := 0, cells := 0, slots := 0, locals := 0 } : Room) s m args below meth c H locs 0 0 (nQi below D A (Mw cy a) args s z) (F0 m 46 ls []) := by
  exact kb_X11_isThere_46 (N := N)  C0 hE K47
def l_X11_isThere_47 (N : Nat) (k5 : nS → Int32 → Int32 → Int32 → Int32 → Option (Int32 × nS)) : nS → Int32 → Int32 → Int32 → Int32 → Option (Int32 × nS) := b_X11_isThere_47 N k5
theorem kl_X11_isThere_47 {p : Program} {l : Launch} {e : Env} {s : State} {m : MethodId} {args : Array Value} {below : List Frame} {meth : Method} {c : Code} {D : va_G} {A : Nat → Prop} {cy : Nat → ClassId} {a kt vt : Nat → Nat} {N : Nat}   (C0 : nCx p s m args meth c cX11_isThere 5 (some .boolean) RX11 wsX11_isThere) (hE : nEn D A cy (Mw cy a) kt vt s) {z : Int32 × nS} {k5 : nS → Int32 → Int32 → Int32 → Int32 → Option (Int32 × nS)} (K5 : ∀ (σ : nS) (x1 : Int32) (x2 : Int32) (x3 : Int32) (x4 : Int32) (H : Heap) (locs : List Loc) (ls : Array Slot), lv_has ls 5 [(0, .ref (a 0)), (1, .int x1), (2, .int x2), (3, .int x3), (4, .int x4)] → va_P D vwCl ((Mw cy a) σ) H → va_S A s.heap H locs → k5 σ x1 x2 x3 x4 = some z → W p l e ({ frames := 0, cells := 0, slots := 0, locals := 0 } : Room) s m args below meth c H locs 0 0 (nQi below D A (Mw cy a) args s z) (F0 m 5 ls [])) : ∀ (σ : nS) (x1 : Int32) (x2 : Int32) (x4 : Int32) (y0 : Int32) (H : Heap) (locs : List Loc) (ls : Array Slot), lv_has ls 5 [(0, .ref (a 0)), (1, .int x1), (2, .int x2), (4, .int x4)] → va_P D vwCl ((Mw cy a) σ) H → va_S A s.heap H locs → l_X11_isThere_47 N k5 σ x1 x2 x4 y0 = some z → W p l e ({ frames := 0, cells := 0, slots := 0, locals := 0 } : Room) s m args below meth c H locs 0 0 (nQi below D A (Mw cy a) args s z) (F0 m 47 ls [.int y0]) := by
  exact kb_X11_isThere_47 (N := N)  C0 hE K5
def l_X11_isThere_42 (N : Nat) (k47 : nS → Int32 → Int32 → Int32 → Int32 → Option (Int32 × nS)) : nS → Int32 → Int32 → Int32 → Option (Int32 × nS) := b_X11_isThere_42 N k47
theorem kl_X11_isThere_42 {p : Program} {l : Launch} {e : Env} {s : State} {m : MethodId} {args : Array Value} {below : List Frame} {meth : Method} {c : Code} {D : va_G} {A : Nat → Prop} {cy : Nat → ClassId} {a kt vt : Nat → Nat} {N : Nat}   (C0 : nCx p s m args meth c cX11_isThere 5 (some .boolean) RX11 wsX11_isThere) (hE : nEn D A cy (Mw cy a) kt vt s) {z : Int32 × nS} {k47 : nS → Int32 → Int32 → Int32 → Int32 → Option (Int32 × nS)} (K47 : ∀ (σ : nS) (x1 : Int32) (x2 : Int32) (x4 : Int32) (y0 : Int32) (H : Heap) (locs : List Loc) (ls : Array Slot), lv_has ls 5 [(0, .ref (a 0)), (1, .int x1), (2, .int x2), (4, .int x4)] → va_P D vwCl ((Mw cy a) σ) H → va_S A s.heap H locs → k47 σ x1 x2 x4 y0 = some z → W p l e ({ frames := 0, cells := 0, slots := 0, locals := 0 } : Room) s m args below meth c H locs 0 0 (nQi below D A (Mw cy a) args s z) (F0 m 47 ls [.int y0])) : ∀ (σ : nS) (x1 : Int32) (x2 : Int32) (x4 : Int32) (H : Heap) (locs : List Loc) (ls : Array Slot), lv_has ls 5 [(0, .ref (a 0)), (1, .int x1), (2, .int x2), (4, .int x4)] → va_P D vwCl ((Mw cy a) σ) H → va_S A s.heap H locs → l_X11_isThere_42 N k47 σ x1 x2 x4 = some z → W p l e ({ frames := 0, cells := 0, slots := 0, locals := 0 } : Room) s m args below meth c H locs 0 0 (nQi below D A (Mw cy a) args s z) (F0 m 42 ls []) := by
  exact kb_X11_isThere_42 (N := N)  C0 hE K47
def l_X11_isThere_5 (N : Nat) : nS → Int32 → Int32 → Int32 → Int32 → Option (Int32 × nS) := nLp (fun _ _ _ _ _ => none) (fun again => b_X11_isThere_5 N (l_X11_isThere_42 N (l_X11_isThere_47 N again)) (l_X11_isThere_46 N (l_X11_isThere_47 N again))) N
theorem kl_X11_isThere_5 {p : Program} {l : Launch} {e : Env} {s : State} {m : MethodId} {args : Array Value} {below : List Frame} {meth : Method} {c : Code} {D : va_G} {A : Nat → Prop} {cy : Nat → ClassId} {a kt vt : Nat → Nat} {N : Nat}   (C0 : nCx p s m args meth c cX11_isThere 5 (some .boolean) RX11 wsX11_isThere) (hE : nEn D A cy (Mw cy a) kt vt s) {z : Int32 × nS} : ∀ (σ : nS) (x1 : Int32) (x2 : Int32) (x3 : Int32) (x4 : Int32) (H : Heap) (locs : List Loc) (ls : Array Slot), lv_has ls 5 [(0, .ref (a 0)), (1, .int x1), (2, .int x2), (3, .int x3), (4, .int x4)] → va_P D vwCl ((Mw cy a) σ) H → va_S A s.heap H locs → l_X11_isThere_5 N σ x1 x2 x3 x4 = some z → W p l e ({ frames := 0, cells := 0, slots := 0, locals := 0 } : Room) s m args below meth c H locs 0 0 (nQi below D A (Mw cy a) args s z) (F0 m 5 ls []) := by
  have main : ∀ (fu : Nat), ∀ (σ : nS) (x1 : Int32) (x2 : Int32) (x3 : Int32) (x4 : Int32) (H : Heap) (locs : List Loc) (ls : Array Slot), lv_has ls 5 [(0, .ref (a 0)), (1, .int x1), (2, .int x2), (3, .int x3), (4, .int x4)] → va_P D vwCl ((Mw cy a) σ) H → va_S A s.heap H locs → nLp (fun _ _ _ _ _ => none) (fun again => b_X11_isThere_5 N (l_X11_isThere_42 N (l_X11_isThere_47 N again)) (l_X11_isThere_46 N (l_X11_isThere_47 N again))) fu σ x1 x2 x3 x4 = some z → W p l e ({ frames := 0, cells := 0, slots := 0, locals := 0 } : Room) s m args below meth c H locs 0 0 (nQi below D A (Mw cy a) args s z) (F0 m 5 ls []) := by
    intro fu
    induction fu with
    | zero => intro σ x1 x2 x3 x4 H locs ls hl hP hS hf; cases hf
    | succ fu ih => exact kb_X11_isThere_5 (N := N)  C0 hE (kl_X11_isThere_42 (N := N)  C0 hE (kl_X11_isThere_47 (N := N)  C0 hE ih)) (kl_X11_isThere_46 (N := N)  C0 hE (kl_X11_isThere_47 (N := N)  C0 hE ih))
  exact main N
def l_X11_isThere_0 (N : Nat) : nS → Int32 → Int32 → Option (Int32 × nS) := b_X11_isThere_0 N (l_X11_isThere_5 N)
theorem kl_X11_isThere_0 {p : Program} {l : Launch} {e : Env} {s : State} {m : MethodId} {args : Array Value} {below : List Frame} {meth : Method} {c : Code} {D : va_G} {A : Nat → Prop} {cy : Nat → ClassId} {a kt vt : Nat → Nat} {N : Nat}   (C0 : nCx p s m args meth c cX11_isThere 5 (some .boolean) RX11 wsX11_isThere) (hE : nEn D A cy (Mw cy a) kt vt s) {z : Int32 × nS} : ∀ (σ : nS) (x1 : Int32) (x2 : Int32) (H : Heap) (locs : List Loc) (ls : Array Slot), lv_has ls 5 [(0, .ref (a 0)), (1, .int x1), (2, .int x2)] → va_P D vwCl ((Mw cy a) σ) H → va_S A s.heap H locs → l_X11_isThere_0 N σ x1 x2 = some z → W p l e ({ frames := 0, cells := 0, slots := 0, locals := 0 } : Room) s m args below meth c H locs 0 0 (nQi below D A (Mw cy a) args s z) (F0 m 0 ls []) := by
  exact kb_X11_isThere_0 (N := N)  C0 hE (kl_X11_isThere_5 (N := N)  C0 hE)
def f_X11_isThere (N : Nat) (x1 : Int32) (x2 : Int32) (σ : nS) : Option (Int32 × nS) := l_X11_isThere_0 N σ x1 x2
set_option maxHeartbeats 4000000 in
set_option maxRecDepth 100000 in
theorem c_X11_isThere {l : Launch} {D : va_G} {A : Nat → Prop} {cy : Nat → ClassId} {a kt vt : Nat → Nat} {N : Nat}   {x1 : Int32} {x2 : Int32} {σ : nS} {r : Int32} {σ' : nS} (hf : f_X11_isThere N x1 x2 σ = some (r, σ')) : nMi l yX11_isThere wsX11_isThere ({ frames := 0, cells := 0, slots := 0, locals := 0 } : Room) D A cy (Mw cy a) kt vt [.ref (a 0), .int x1, .int x2] σ r σ' := by
  refine Met.ofW (cc := cX11_isThere) (maxL := 5) (ret := (some .boolean)) (by decide) rfl ?_
  intro p e s m args below meth c s₁ B hml hv
  obtain ⟨rfl, hP, hE⟩ := hv
  have hl := lv_entry ([.ref (a 0), .int x1, .int x2]) (n := 5) (Nat.le_of_ble_eq_true rfl)
  rw [lg_entry_eq]
  generalize (lg_sl ([.ref (a 0), .int x1, .int x2]) ++ List.replicate (5 - (lg_sl ([.ref (a 0), .int x1, .int x2])).length) Slot.unset).toArray = ls at hl ⊢
  have C0 : nCx p s m _ meth c cX11_isThere 5 (some .boolean) RX11 wsX11_isThere := ⟨B.exec, B.bytes, B.returns, hml, findClass_of_methodNamed B.named, atoms_spec (ws := wsX11_isThere) B.pre, B.notSynchronized⟩
  exact kl_X11_isThere_0 (N := N)  C0 hE (z := (r, σ')) σ x1 x2 _ _ ls hl hP va_S.rf hf
/-! X11_tellsWrong -/
set_option maxRecDepth 20000 in
theorem iX11_tellsWrong_X11 : ∀ w ∈ u_ws RX11 TX11 68, w ∈ wsX11_tellsWrong := fun _ h => List.mem_cons_of_mem _ (List.mem_append_right _ h)
set_option maxRecDepth 20000 in
theorem qX11_tellsWrong_16 : Cond.fieldLink RX11 16 RX11 (TX11 9).2.1 (TX11 9).2.2.1 ∈ wsX11_tellsWrong := by decide +kernel
def b_X11_tellsWrong_0 (N : Nat) (σ : nS) (x1 : Int32) (x2 : Int32) (x3 : Int32) : Option (Int32 × nS) := nIx x1 8 (nLet (σ.1 1 (x1).toNatClampNeg) (fun v1 => nLet (x2 >>> (v1 &&& 31) : Int32) (fun v2 => nLet (x3 >>> (x1 &&& 31) : Int32) (fun v3 => nLet (v2 ^^^ v3 : Int32) (fun v4 => nLet (v4 &&& (1 : Int32) : Int32) (fun v5 => (if v5 = 1 then some (1, σ) else some (0, σ))))))))
set_option maxHeartbeats 4000000 in
set_option maxRecDepth 100000 in
theorem kb_X11_tellsWrong_0 {p : Program} {l : Launch} {e : Env} {s : State} {m : MethodId} {args : Array Value} {below : List Frame} {meth : Method} {c : Code} {D : va_G} {A : Nat → Prop} {cy : Nat → ClassId} {a kt vt : Nat → Nat} {N : Nat}   (C0 : nCx p s m args meth c cX11_tellsWrong 4 (some .boolean) RX11 wsX11_tellsWrong) (hE : nEn D A cy (Mw cy a) kt vt s) {z : Int32 × nS} : ∀ (σ : nS) (x1 : Int32) (x2 : Int32) (x3 : Int32) (H : Heap) (locs : List Loc) (ls : Array Slot), lv_has ls 4 [(0, .ref (a 0)), (1, .int x1), (2, .int x2), (3, .int x3)] → va_P D vwCl ((Mw cy a) σ) H → va_S A s.heap H locs → b_X11_tellsWrong_0 N σ x1 x2 x3 = some z → W p l e ({ frames := 0, cells := 0, slots := 0, locals := 0 } : Room) s m args below meth c H locs 0 0 (nQi below D A (Mw cy a) args s z) (F0 m 0 ls []) := by
  obtain ⟨hx, hb, hr, hml, hown, hts, hlocks⟩ := C0
  intro σ x1 x2 x3 H locs ls hl hP hS hf
  unfold b_X11_tellsWrong_0 at hf
  refine lv_iload_n hx hb dX11_tellsWrong_0 rfl (lv_at hl 2 rfl) ?_
  refine lv_aload_n hx hb dX11_tellsWrong_1 rfl (lv_at hl 0 rfl) ?_
  refine nb_get (ci := 11) hx hb hts iX11_tellsWrong_X11 hown hE hP 0 mbo_0 rfl 9 (by decide) qX11_tellsWrong_16 rfl rfl dX11_tellsWrong_2 ?_
  refine lv_iload_n hx hb dX11_tellsWrong_5 rfl (lv_at hl 1 rfl) ?_
  obtain ⟨hin, hf⟩ := nIx_e hf
  refine na_iald hx hb hE hP mbr_1 hin dX11_tellsWrong_6 ?_
  refine lv_topi (fun v1 ev1 => ?_)
  replace hf := nLet_e hf ev1
  refine lv_ishr hx hb dX11_tellsWrong_7 ?_
  refine lv_topi (fun v2 ev2 => ?_)
  replace hf := nLet_e hf ev2
  refine lv_iload_n hx hb dX11_tellsWrong_8 rfl (lv_at hl 3 rfl) ?_
  refine lv_iload_n hx hb dX11_tellsWrong_9 rfl (lv_at hl 1 rfl) ?_
  refine lv_ishr hx hb dX11_tellsWrong_10 ?_
  refine lv_topi (fun v3 ev3 => ?_)
  replace hf := nLet_e hf ev3
  refine lv_ixor hx hb dX11_tellsWrong_11 ?_
  refine lv_topi (fun v4 ev4 => ?_)
  replace hf := nLet_e hf ev4
  refine lv_iconst (v := 1) hx hb dX11_tellsWrong_12 (by decide) ?_
  refine lv_iand hx hb dX11_tellsWrong_13 ?_
  refine lv_topi (fun v5 ev5 => ?_)
  replace hf := nLet_e hf ev5
  refine lv_iconst (v := 1) hx hb dX11_tellsWrong_14 (by decide) ?_
  refine lv_icmp_ne (tgt := 22) hx hb dX11_tellsWrong_15 (by decide) (fun hc => ?_) (fun hc => ?_)
  · replace hf := nIf_f hc hf
    refine lv_iconst (v := 0) hx hb dX11_tellsWrong_22 (by decide) ?_
    exact nb_zret hx hb hr hlocks hP hS (nSo hf) rfl dX11_tellsWrong_23
  · replace hf := nIf_t hc hf
    refine lv_iconst (v := 1) hx hb dX11_tellsWrong_18 (by decide) ?_
    refine lv_goto (tgt := 23) hx hb dX11_tellsWrong_19 (by decide) ?_
    exact nb_zret hx hb hr hlocks hP hS (nSo hf) rfl dX11_tellsWrong_23
def l_X11_tellsWrong_0 (N : Nat) : nS → Int32 → Int32 → Int32 → Option (Int32 × nS) := b_X11_tellsWrong_0 N
theorem kl_X11_tellsWrong_0 {p : Program} {l : Launch} {e : Env} {s : State} {m : MethodId} {args : Array Value} {below : List Frame} {meth : Method} {c : Code} {D : va_G} {A : Nat → Prop} {cy : Nat → ClassId} {a kt vt : Nat → Nat} {N : Nat}   (C0 : nCx p s m args meth c cX11_tellsWrong 4 (some .boolean) RX11 wsX11_tellsWrong) (hE : nEn D A cy (Mw cy a) kt vt s) {z : Int32 × nS} : ∀ (σ : nS) (x1 : Int32) (x2 : Int32) (x3 : Int32) (H : Heap) (locs : List Loc) (ls : Array Slot), lv_has ls 4 [(0, .ref (a 0)), (1, .int x1), (2, .int x2), (3, .int x3)] → va_P D vwCl ((Mw cy a) σ) H → va_S A s.heap H locs → l_X11_tellsWrong_0 N σ x1 x2 x3 = some z → W p l e ({ frames := 0, cells := 0, slots := 0, locals := 0 } : Room) s m args below meth c H locs 0 0 (nQi below D A (Mw cy a) args s z) (F0 m 0 ls []) := by
  exact kb_X11_tellsWrong_0 (N := N)  C0 hE
def f_X11_tellsWrong (N : Nat) (x1 : Int32) (x2 : Int32) (x3 : Int32) (σ : nS) : Option (Int32 × nS) := l_X11_tellsWrong_0 N σ x1 x2 x3
set_option maxHeartbeats 4000000 in
set_option maxRecDepth 100000 in
theorem c_X11_tellsWrong {l : Launch} {D : va_G} {A : Nat → Prop} {cy : Nat → ClassId} {a kt vt : Nat → Nat} {N : Nat}   {x1 : Int32} {x2 : Int32} {x3 : Int32} {σ : nS} {r : Int32} {σ' : nS} (hf : f_X11_tellsWrong N x1 x2 x3 σ = some (r, σ')) : nMi l yX11_tellsWrong wsX11_tellsWrong ({ frames := 0, cells := 0, slots := 0, locals := 0 } : Room) D A cy (Mw cy a) kt vt [.ref (a 0), .int x1, .int x2, .int x3] σ r σ' := by
  refine Met.ofW (cc := cX11_tellsWrong) (maxL := 4) (ret := (some .boolean)) (by decide) rfl ?_
  intro p e s m args below meth c s₁ B hml hv
  obtain ⟨rfl, hP, hE⟩ := hv
  have hl := lv_entry ([.ref (a 0), .int x1, .int x2, .int x3]) (n := 4) (Nat.le_of_ble_eq_true rfl)
  rw [lg_entry_eq]
  generalize (lg_sl ([.ref (a 0), .int x1, .int x2, .int x3]) ++ List.replicate (4 - (lg_sl ([.ref (a 0), .int x1, .int x2, .int x3])).length) Slot.unset).toArray = ls at hl ⊢
  have C0 : nCx p s m _ meth c cX11_tellsWrong 4 (some .boolean) RX11 wsX11_tellsWrong := ⟨B.exec, B.bytes, B.returns, hml, findClass_of_methodNamed B.named, atoms_spec (ws := wsX11_tellsWrong) B.pre, B.notSynchronized⟩
  exact kl_X11_tellsWrong_0 (N := N)  C0 hE (z := (r, σ')) σ x1 x2 x3 _ _ ls hl hP va_S.rf hf
/-! X11_isCalm -/
set_option maxRecDepth 20000 in
theorem iX11_isCalm_X11 : ∀ w ∈ u_ws RX11 TX11 68, w ∈ wsX11_isCalm := fun _ h => List.mem_cons_of_mem _ (List.mem_append_right _ h)
set_option maxRecDepth 20000 in
theorem qX11_isCalm_13 : Cond.fieldLink RX11 13 RX11 (TX11 8).2.1 (TX11 8).2.2.1 ∈ wsX11_isCalm := by decide +kernel
def b_X11_isCalm_0 (N : Nat) (σ : nS) (x1 : Int32) : Option (Int32 × nS) := nLet (x1 &&& (σ.1 0 8) : Int32) (fun v1 => nBd (f_X11_allFacts N σ) (fun r2 σ3 => nLet (v1 &&& r2 : Int32) (fun v4 => (if v4 = 0 then some (1, σ3) else some (0, σ3)))))
set_option maxHeartbeats 4000000 in
set_option maxRecDepth 100000 in
theorem kb_X11_isCalm_0 {p : Program} {l : Launch} {e : Env} {s : State} {m : MethodId} {args : Array Value} {below : List Frame} {meth : Method} {c : Code} {D : va_G} {A : Nat → Prop} {cy : Nat → ClassId} {a kt vt : Nat → Nat} {N : Nat}   (C0 : nCx p s m args meth c cX11_isCalm 2 (some .boolean) RX11 wsX11_isCalm) (hE : nEn D A cy (Mw cy a) kt vt s) {z : Int32 × nS} : ∀ (σ : nS) (x1 : Int32) (H : Heap) (locs : List Loc) (ls : Array Slot), lv_has ls 2 [(0, .ref (a 0)), (1, .int x1)] → va_P D vwCl ((Mw cy a) σ) H → va_S A s.heap H locs → b_X11_isCalm_0 N σ x1 = some z → W p l e ({ frames := 1, cells := 0, slots := 0, locals := 20 } : Room) s m args below meth c H locs 0 0 (nQi below D A (Mw cy a) args s z) (F0 m 0 ls []) := by
  obtain ⟨hx, hb, hr, hml, hown, hts, hlocks⟩ := C0
  intro σ x1 H locs ls hl hP hS hf
  unfold b_X11_isCalm_0 at hf
  refine lv_iload_n hx hb dX11_isCalm_0 rfl (lv_at hl 1 rfl) ?_
  refine lv_aload_n hx hb dX11_isCalm_1 rfl (lv_at hl 0 rfl) ?_
  refine nb_get (ci := 11) hx hb hts iX11_isCalm_X11 hown hE hP 0 mbo_0 rfl 8 (by decide) qX11_isCalm_13 rfl rfl dX11_isCalm_2 ?_
  refine lv_iand hx hb dX11_isCalm_5 ?_
  refine lv_topi (fun v1 ev1 => ?_)
  replace hf := nLet_e hf ev1
  refine lv_aload_n hx hb dX11_isCalm_6 rfl (lv_at hl 0 rfl) ?_
  obtain ⟨r2, σ3, hc3, hf⟩ := nBd_e hf
  refine nb_callVi (As := []) (rest := [.int v1]) ⟨hx, hb, hml, hown, hts⟩ (c_X11_allFacts (D := D) (A := A) (cy := cy) (a := a) (kt := kt) (vt := vt) (l := l)  hc3) (cwV 0 hts gX11_isCalm_X11_allFacts rfl rfl rfl (by decide +kernel) ⟨Nat.le_of_ble_eq_true rfl, Nat.le_of_ble_eq_true rfl⟩) hE hP hS mbo_0 rfl rfl hl.1 rfl (Nat.le_of_ble_eq_true rfl) dX11_isCalm_7 (fun H locs hP hS => ?_)
  refine lv_iand hx hb dX11_isCalm_10 ?_
  refine lv_topi (fun v4 ev4 => ?_)
  replace hf := nLet_e hf ev4
  refine lv_if_ne (tgt := 18) hx hb dX11_isCalm_11 (by decide) (fun hc => ?_) (fun hc => ?_)
  · replace hf := nIf_f hc hf
    refine lv_iconst (v := 0) hx hb dX11_isCalm_18 (by decide) ?_
    exact nb_zret hx hb hr hlocks hP hS (nSo hf) rfl dX11_isCalm_19
  · replace hf := nIf_t hc hf
    refine lv_iconst (v := 1) hx hb dX11_isCalm_14 (by decide) ?_
    refine lv_goto (tgt := 19) hx hb dX11_isCalm_15 (by decide) ?_
    exact nb_zret hx hb hr hlocks hP hS (nSo hf) rfl dX11_isCalm_19
def l_X11_isCalm_0 (N : Nat) : nS → Int32 → Option (Int32 × nS) := b_X11_isCalm_0 N
theorem kl_X11_isCalm_0 {p : Program} {l : Launch} {e : Env} {s : State} {m : MethodId} {args : Array Value} {below : List Frame} {meth : Method} {c : Code} {D : va_G} {A : Nat → Prop} {cy : Nat → ClassId} {a kt vt : Nat → Nat} {N : Nat}   (C0 : nCx p s m args meth c cX11_isCalm 2 (some .boolean) RX11 wsX11_isCalm) (hE : nEn D A cy (Mw cy a) kt vt s) {z : Int32 × nS} : ∀ (σ : nS) (x1 : Int32) (H : Heap) (locs : List Loc) (ls : Array Slot), lv_has ls 2 [(0, .ref (a 0)), (1, .int x1)] → va_P D vwCl ((Mw cy a) σ) H → va_S A s.heap H locs → l_X11_isCalm_0 N σ x1 = some z → W p l e ({ frames := 1, cells := 0, slots := 0, locals := 20 } : Room) s m args below meth c H locs 0 0 (nQi below D A (Mw cy a) args s z) (F0 m 0 ls []) := by
  exact kb_X11_isCalm_0 (N := N)  C0 hE
def f_X11_isCalm (N : Nat) (x1 : Int32) (σ : nS) : Option (Int32 × nS) := l_X11_isCalm_0 N σ x1
set_option maxHeartbeats 4000000 in
set_option maxRecDepth 100000 in
theorem c_X11_isCalm {l : Launch} {D : va_G} {A : Nat → Prop} {cy : Nat → ClassId} {a kt vt : Nat → Nat} {N : Nat}   {x1 : Int32} {σ : nS} {r : Int32} {σ' : nS} (hf : f_X11_isCalm N x1 σ = some (r, σ')) : nMi l yX11_isCalm wsX11_isCalm ({ frames := 1, cells := 0, slots := 0, locals := 20 } : Room) D A cy (Mw cy a) kt vt [.ref (a 0), .int x1] σ r σ' := by
  refine Met.ofW (cc := cX11_isCalm) (maxL := 2) (ret := (some .boolean)) (by decide) rfl ?_
  intro p e s m args below meth c s₁ B hml hv
  obtain ⟨rfl, hP, hE⟩ := hv
  have hl := lv_entry ([.ref (a 0), .int x1]) (n := 2) (Nat.le_of_ble_eq_true rfl)
  rw [lg_entry_eq]
  generalize (lg_sl ([.ref (a 0), .int x1]) ++ List.replicate (2 - (lg_sl ([.ref (a 0), .int x1])).length) Slot.unset).toArray = ls at hl ⊢
  have C0 : nCx p s m _ meth c cX11_isCalm 2 (some .boolean) RX11 wsX11_isCalm := ⟨B.exec, B.bytes, B.returns, hml, findClass_of_methodNamed B.named, atoms_spec (ws := wsX11_isCalm) B.pre, B.notSynchronized⟩
  exact kl_X11_isCalm_0 (N := N)  C0 hE (z := (r, σ')) σ x1 _ _ ls hl hP va_S.rf hf
/-! X11_changed -/
set_option maxRecDepth 20000 in
theorem iX11_changed_X11 : ∀ w ∈ u_ws RX11 TX11 68, w ∈ wsX11_changed := fun _ h => List.mem_cons_of_mem _ (List.mem_append_right _ h)
set_option maxRecDepth 20000 in
theorem qX11_changed_26 : Cond.fieldLink RX11 26 RX11 (TX11 12).2.1 (TX11 12).2.2.1 ∈ wsX11_changed := by decide +kernel
set_option maxRecDepth 20000 in
theorem qX11_changed_32 : Cond.fieldLink RX11 32 RX11 (TX11 14).2.1 (TX11 14).2.2.1 ∈ wsX11_changed := by decide +kernel
def b_X11_changed_0 (N : Nat) (σ : nS) (x1 : Int32) (x2 : Int32) : Option (Int32 × nS) := nIx x1 120 (nLet (σ.1 4 (x1).toNatClampNeg) (fun v1 => (if v1 = 0 then nIx x1 120 (nLet (σ.1 6 (x1).toNatClampNeg) (fun v5 => nLet ((1 : Int32) <<< (v5 &&& 31) : Int32) (fun v6 => nLet (v6 ^^^ ((-1) : Int32) : Int32) (fun v7 => nLet (x2 &&& v7 : Int32) (fun v8 => some (v8, σ)))))) else nIx x1 120 (nLet (σ.1 6 (x1).toNatClampNeg) (fun v2 => nLet ((1 : Int32) <<< (v2 &&& 31) : Int32) (fun v3 => nLet (x2 ||| v3 : Int32) (fun v4 => some (v4, σ))))))))
set_option maxHeartbeats 4000000 in
set_option maxRecDepth 100000 in
theorem kb_X11_changed_0 {p : Program} {l : Launch} {e : Env} {s : State} {m : MethodId} {args : Array Value} {below : List Frame} {meth : Method} {c : Code} {D : va_G} {A : Nat → Prop} {cy : Nat → ClassId} {a kt vt : Nat → Nat} {N : Nat}   (C0 : nCx p s m args meth c cX11_changed 3 (some .int) RX11 wsX11_changed) (hE : nEn D A cy (Mw cy a) kt vt s) {z : Int32 × nS} : ∀ (σ : nS) (x1 : Int32) (x2 : Int32) (H : Heap) (locs : List Loc) (ls : Array Slot), lv_has ls 3 [(0, .ref (a 0)), (1, .int x1), (2, .int x2)] → va_P D vwCl ((Mw cy a) σ) H → va_S A s.heap H locs → b_X11_changed_0 N σ x1 x2 = some z → W p l e ({ frames := 0, cells := 0, slots := 0, locals := 0 } : Room) s m args below meth c H locs 0 0 (nQi below D A (Mw cy a) args s z) (F0 m 0 ls []) := by
  obtain ⟨hx, hb, hr, hml, hown, hts, hlocks⟩ := C0
  intro σ x1 x2 H locs ls hl hP hS hf
  unfold b_X11_changed_0 at hf
  refine lv_aload_n hx hb dX11_changed_0 rfl (lv_at hl 0 rfl) ?_
  refine nb_get (ci := 11) hx hb hts iX11_changed_X11 hown hE hP 0 mbo_0 rfl 12 (by decide) qX11_changed_26 rfl rfl dX11_changed_1 ?_
  refine lv_iload_n hx hb dX11_changed_4 rfl (lv_at hl 1 rfl) ?_
  obtain ⟨hin, hf⟩ := nIx_e hf
  refine na_iald hx hb hE hP mbr_4 hin dX11_changed_5 ?_
  refine lv_topi (fun v1 ev1 => ?_)
  replace hf := nLet_e hf ev1
  refine lv_if_ne (tgt := 24) hx hb dX11_changed_6 (by decide) (fun hc => ?_) (fun hc => ?_)
  · replace hf := nIf_f hc hf
    refine lv_iload_n hx hb dX11_changed_24 rfl (lv_at hl 2 rfl) ?_
    refine lv_iconst (v := 1) hx hb dX11_changed_25 (by decide) ?_
    refine lv_aload_n hx hb dX11_changed_26 rfl (lv_at hl 0 rfl) ?_
    refine nb_get (ci := 11) hx hb hts iX11_changed_X11 hown hE hP 0 mbo_0 rfl 14 (by decide) qX11_changed_32 rfl rfl dX11_changed_27 ?_
    refine lv_iload_n hx hb dX11_changed_30 rfl (lv_at hl 1 rfl) ?_
    obtain ⟨hin, hf⟩ := nIx_e hf
    refine na_iald hx hb hE hP mbr_6 hin dX11_changed_31 ?_
    refine lv_topi (fun v2 ev2 => ?_)
    replace hf := nLet_e hf ev2
    refine lv_ishl hx hb dX11_changed_32 ?_
    refine lv_topi (fun v3 ev3 => ?_)
    replace hf := nLet_e hf ev3
    refine lv_ior hx hb dX11_changed_33 ?_
    refine lv_topi (fun v4 ev4 => ?_)
    replace hf := nLet_e hf ev4
    exact nb_iret hx hb hr hlocks hP hS (nSo hf) dX11_changed_34
  · replace hf := nIf_t hc hf
    refine lv_iload_n hx hb dX11_changed_9 rfl (lv_at hl 2 rfl) ?_
    refine lv_iconst (v := 1) hx hb dX11_changed_10 (by decide) ?_
    refine lv_aload_n hx hb dX11_changed_11 rfl (lv_at hl 0 rfl) ?_
    refine nb_get (ci := 11) hx hb hts iX11_changed_X11 hown hE hP 0 mbo_0 rfl 14 (by decide) qX11_changed_32 rfl rfl dX11_changed_12 ?_
    refine lv_iload_n hx hb dX11_changed_15 rfl (lv_at hl 1 rfl) ?_
    obtain ⟨hin, hf⟩ := nIx_e hf
    refine na_iald hx hb hE hP mbr_6 hin dX11_changed_16 ?_
    refine lv_topi (fun v5 ev5 => ?_)
    replace hf := nLet_e hf ev5
    refine lv_ishl hx hb dX11_changed_17 ?_
    refine lv_topi (fun v6 ev6 => ?_)
    replace hf := nLet_e hf ev6
    refine lv_iconst (v := (-1)) hx hb dX11_changed_18 (by decide) ?_
    refine lv_ixor hx hb dX11_changed_19 ?_
    refine lv_topi (fun v7 ev7 => ?_)
    replace hf := nLet_e hf ev7
    refine lv_iand hx hb dX11_changed_20 ?_
    refine lv_topi (fun v8 ev8 => ?_)
    replace hf := nLet_e hf ev8
    refine lv_goto (tgt := 34) hx hb dX11_changed_21 (by decide) ?_
    exact nb_iret hx hb hr hlocks hP hS (nSo hf) dX11_changed_34
def l_X11_changed_0 (N : Nat) : nS → Int32 → Int32 → Option (Int32 × nS) := b_X11_changed_0 N
theorem kl_X11_changed_0 {p : Program} {l : Launch} {e : Env} {s : State} {m : MethodId} {args : Array Value} {below : List Frame} {meth : Method} {c : Code} {D : va_G} {A : Nat → Prop} {cy : Nat → ClassId} {a kt vt : Nat → Nat} {N : Nat}   (C0 : nCx p s m args meth c cX11_changed 3 (some .int) RX11 wsX11_changed) (hE : nEn D A cy (Mw cy a) kt vt s) {z : Int32 × nS} : ∀ (σ : nS) (x1 : Int32) (x2 : Int32) (H : Heap) (locs : List Loc) (ls : Array Slot), lv_has ls 3 [(0, .ref (a 0)), (1, .int x1), (2, .int x2)] → va_P D vwCl ((Mw cy a) σ) H → va_S A s.heap H locs → l_X11_changed_0 N σ x1 x2 = some z → W p l e ({ frames := 0, cells := 0, slots := 0, locals := 0 } : Room) s m args below meth c H locs 0 0 (nQi below D A (Mw cy a) args s z) (F0 m 0 ls []) := by
  exact kb_X11_changed_0 (N := N)  C0 hE
def f_X11_changed (N : Nat) (x1 : Int32) (x2 : Int32) (σ : nS) : Option (Int32 × nS) := l_X11_changed_0 N σ x1 x2
set_option maxHeartbeats 4000000 in
set_option maxRecDepth 100000 in
theorem c_X11_changed {l : Launch} {D : va_G} {A : Nat → Prop} {cy : Nat → ClassId} {a kt vt : Nat → Nat} {N : Nat}   {x1 : Int32} {x2 : Int32} {σ : nS} {r : Int32} {σ' : nS} (hf : f_X11_changed N x1 x2 σ = some (r, σ')) : nMi l yX11_changed wsX11_changed ({ frames := 0, cells := 0, slots := 0, locals := 0 } : Room) D A cy (Mw cy a) kt vt [.ref (a 0), .int x1, .int x2] σ r σ' := by
  refine Met.ofW (cc := cX11_changed) (maxL := 3) (ret := (some .int)) (by decide) rfl ?_
  intro p e s m args below meth c s₁ B hml hv
  obtain ⟨rfl, hP, hE⟩ := hv
  have hl := lv_entry ([.ref (a 0), .int x1, .int x2]) (n := 3) (Nat.le_of_ble_eq_true rfl)
  rw [lg_entry_eq]
  generalize (lg_sl ([.ref (a 0), .int x1, .int x2]) ++ List.replicate (3 - (lg_sl ([.ref (a 0), .int x1, .int x2])).length) Slot.unset).toArray = ls at hl ⊢
  have C0 : nCx p s m _ meth c cX11_changed 3 (some .int) RX11 wsX11_changed := ⟨B.exec, B.bytes, B.returns, hml, findClass_of_methodNamed B.named, atoms_spec (ws := wsX11_changed) B.pre, B.notSynchronized⟩
  exact kl_X11_changed_0 (N := N)  C0 hE (z := (r, σ')) σ x1 x2 _ _ ls hl hP va_S.rf hf
/-! X11_plays -/
set_option maxRecDepth 20000 in
theorem iX11_plays_X11 : ∀ w ∈ u_ws RX11 TX11 68, w ∈ wsX11_plays := fun _ h => List.mem_cons_of_mem _ (List.mem_append_right _ h)
set_option maxRecDepth 20000 in
theorem qX11_plays_257 : Cond.fieldLink RX11 257 RX11 (TX11 31).2.1 (TX11 31).2.2.1 ∈ wsX11_plays := by decide +kernel
set_option maxRecDepth 20000 in
theorem qX11_plays_260 : Cond.fieldLink RX11 260 RX11 (TX11 35).2.1 (TX11 35).2.2.1 ∈ wsX11_plays := by decide +kernel
set_option maxRecDepth 20000 in
theorem qX11_plays_263 : Cond.fieldLink RX11 263 RX11 (TX11 33).2.1 (TX11 33).2.2.1 ∈ wsX11_plays := by decide +kernel
set_option maxRecDepth 20000 in
theorem qX11_plays_266 : Cond.fieldLink RX11 266 RX11 (TX11 34).2.1 (TX11 34).2.2.1 ∈ wsX11_plays := by decide +kernel
set_option maxRecDepth 20000 in
theorem qX11_plays_269 : Cond.fieldLink RX11 269 RX11 (TX11 32).2.1 (TX11 32).2.2.1 ∈ wsX11_plays := by decide +kernel
set_option maxRecDepth 20000 in
theorem qX11_plays_272 : Cond.fieldLink RX11 272 RX11 (TX11 36).2.1 (TX11 36).2.2.1 ∈ wsX11_plays := by decide +kernel
set_option maxRecDepth 20000 in
theorem qX11_plays_23 : Cond.fieldLink RX11 23 RX11 (TX11 11).2.1 (TX11 11).2.2.1 ∈ wsX11_plays := by decide +kernel
set_option maxRecDepth 20000 in
theorem qX11_plays_61 : Cond.fieldLink RX11 61 RX11 (TX11 30).2.1 (TX11 30).2.2.1 ∈ wsX11_plays := by decide +kernel
set_option maxRecDepth 20000 in
theorem qX11_plays_55 : Cond.fieldLink RX11 55 RX11 (TX11 28).2.1 (TX11 28).2.2.1 ∈ wsX11_plays := by decide +kernel
set_option maxRecDepth 20000 in
theorem qX11_plays_26 : Cond.fieldLink RX11 26 RX11 (TX11 12).2.1 (TX11 12).2.2.1 ∈ wsX11_plays := by decide +kernel
set_option maxRecDepth 20000 in
theorem qX11_plays_29 : Cond.fieldLink RX11 29 RX11 (TX11 13).2.1 (TX11 13).2.2.1 ∈ wsX11_plays := by decide +kernel
set_option maxRecDepth 20000 in
theorem qX11_plays_35 : Cond.fieldLink RX11 35 RX11 (TX11 15).2.1 (TX11 15).2.2.1 ∈ wsX11_plays := by decide +kernel
set_option maxRecDepth 20000 in
theorem qX11_plays_32 : Cond.fieldLink RX11 32 RX11 (TX11 14).2.1 (TX11 14).2.2.1 ∈ wsX11_plays := by decide +kernel
set_option maxRecDepth 20000 in
theorem qX11_plays_38 : Cond.fieldLink RX11 38 RX11 (TX11 16).2.1 (TX11 16).2.2.1 ∈ wsX11_plays := by decide +kernel
def b_X11_plays_369 (N : Nat) (k399 : nS → Int32 → Int32 → Int32 → Int32 → Option (Int32 × nS)) (σ : nS) (x1 : Int32) (x3 : Int32) (x4 : Int32) (x5 : Int32) (x6 : Int32) : Option (Int32 × nS) := nIx x6 120 (nLet (σ.1 7 (x6).toNatClampNeg) (fun v1 => nLet ((σ.1 0 33) + v1 : Int32) (fun v2 => nLet (wr σ 0 33 v2) (fun σ3 => nBd (f_X11_changed N x6 (σ3.1 0 35) σ3) (fun r4 σ5 => nLet (wr σ5 0 35 r4) (fun σ6 => k399 σ6 x1 x3 x4 x5))))))
set_option maxHeartbeats 4000000 in
set_option maxRecDepth 100000 in
theorem kb_X11_plays_369 {p : Program} {l : Launch} {e : Env} {s : State} {m : MethodId} {args : Array Value} {below : List Frame} {meth : Method} {c : Code} {D : va_G} {A : Nat → Prop} {cy : Nat → ClassId} {a kt vt : Nat → Nat} {N : Nat}   (C0 : nCx p s m args meth c cX11_plays 7 (some .int) RX11 wsX11_plays) (hE : nEn D A cy (Mw cy a) kt vt s) {z : Int32 × nS} {k399 : nS → Int32 → Int32 → Int32 → Int32 → Option (Int32 × nS)} (K399 : ∀ (σ : nS) (x1 : Int32) (x3 : Int32) (x4 : Int32) (x5 : Int32) (H : Heap) (locs : List Loc) (ls : Array Slot), lv_has ls 7 [(0, .ref (a 0)), (1, .int x1), (3, .int x3), (4, .int x4), (5, .int x5)] → va_P D vwCl ((Mw cy a) σ) H → va_S A s.heap H locs → k399 σ x1 x3 x4 x5 = some z → W p l e ({ frames := 2, cells := 0, slots := 0, locals := 41 } : Room) s m args below meth c H locs 0 0 (nQi below D A (Mw cy a) args s z) (F0 m 399 ls [])) : ∀ (σ : nS) (x1 : Int32) (x3 : Int32) (x4 : Int32) (x5 : Int32) (x6 : Int32) (H : Heap) (locs : List Loc) (ls : Array Slot), lv_has ls 7 [(0, .ref (a 0)), (1, .int x1), (3, .int x3), (4, .int x4), (5, .int x5), (6, .int x6)] → va_P D vwCl ((Mw cy a) σ) H → va_S A s.heap H locs → b_X11_plays_369 N k399 σ x1 x3 x4 x5 x6 = some z → W p l e ({ frames := 2, cells := 0, slots := 0, locals := 41 } : Room) s m args below meth c H locs 0 0 (nQi below D A (Mw cy a) args s z) (F0 m 369 ls []) := by
  obtain ⟨hx, hb, hr, hml, hown, hts, hlocks⟩ := C0
  intro σ x1 x3 x4 x5 x6 H locs ls hl hP hS hf
  unfold b_X11_plays_369 at hf
  refine lv_aload_n hx hb dX11_plays_369 rfl (lv_at hl 0 rfl) ?_
  refine lv_dup hx hb dX11_plays_370 rfl ?_
  refine nb_get (ci := 11) hx hb hts iX11_plays_X11 hown hE hP 0 mbo_0 rfl 33 (by decide) qX11_plays_263 rfl rfl dX11_plays_371 ?_
  refine lv_aload_n hx hb dX11_plays_374 rfl (lv_at hl 0 rfl) ?_
  refine nb_get (ci := 11) hx hb hts iX11_plays_X11 hown hE hP 0 mbo_0 rfl 15 (by decide) qX11_plays_35 rfl rfl dX11_plays_375 ?_
  refine lv_iload hx hb dX11_plays_378 (lv_at hl 5 rfl) ?_
  obtain ⟨hin, hf⟩ := nIx_e hf
  refine na_iald hx hb hE hP mbr_7 hin dX11_plays_380 ?_
  refine lv_topi (fun v1 ev1 => ?_)
  replace hf := nLet_e hf ev1
  refine lv_iadd hx hb dX11_plays_381 ?_
  refine lv_topi (fun v2 ev2 => ?_)
  replace hf := nLet_e hf ev2
  refine nb_put (ci := 11) hx hb hts iX11_plays_X11 tyX11 tyX11_ok nmX11 hown hE hP hS 0 mbo_0 rfl 33 (by decide) qX11_plays_263 rfl rfl rfl rfl (Nat.le_of_ble_eq_true rfl) dX11_plays_382 (mbp_0_33 _) (fun σ3 eσ3 H locs hP hS => ?_)
  replace hf := nLet_e hf eσ3
  refine lv_aload_n hx hb dX11_plays_385 rfl (lv_at hl 0 rfl) ?_
  refine lv_aload_n hx hb dX11_plays_386 rfl (lv_at hl 0 rfl) ?_
  refine lv_iload hx hb dX11_plays_387 (lv_at hl 5 rfl) ?_
  refine lv_aload_n hx hb dX11_plays_389 rfl (lv_at hl 0 rfl) ?_
  refine nb_get (ci := 11) hx hb hts iX11_plays_X11 hown hE hP 0 mbo_0 rfl 35 (by decide) qX11_plays_260 rfl rfl dX11_plays_390 ?_
  obtain ⟨r4, σ5, hc5, hf⟩ := nBd_e hf
  refine nb_callVi (As := [.int x6, .int (σ3.1 0 35)]) (rest := [.ref (a 0)]) ⟨hx, hb, hml, hown, hts⟩ (c_X11_changed (D := D) (A := A) (cy := cy) (a := a) (kt := kt) (vt := vt) (l := l)  hc5) (cwV 2 hts gX11_plays_X11_changed rfl rfl rfl (by decide +kernel) ⟨Nat.le_of_ble_eq_true rfl, Nat.le_of_ble_eq_true rfl⟩) hE hP hS mbo_0 rfl rfl hl.1 rfl (Nat.le_of_ble_eq_true rfl) dX11_plays_393 (fun H locs hP hS => ?_)
  refine nb_put (ci := 11) hx hb hts iX11_plays_X11 tyX11 tyX11_ok nmX11 hown hE hP hS 0 mbo_0 rfl 35 (by decide) qX11_plays_260 rfl rfl rfl rfl (Nat.le_of_ble_eq_true rfl) dX11_plays_396 (mbp_0_35 _) (fun σ6 eσ6 H locs hP hS => ?_)
  replace hf := nLet_e hf eσ6
  exact K399 σ6 x1 x3 x4 x5 H locs ls (lv_sub hl [0, 1, 2, 3, 4] rfl) hP hS hf
def b_X11_plays_263 (N : Nat) (k399 : nS → Int32 → Int32 → Int32 → Int32 → Option (Int32 × nS)) (σ : nS) (x1 : Int32) (x3 : Int32) (x4 : Int32) (y0 : Int32) : Option (Int32 × nS) := nLet ((σ.1 0 33) + (1 : Int32) : Int32) (fun v1 => nLet (wr σ 0 33 v1) (fun σ2 => k399 σ2 x1 x3 x4 y0))
set_option maxHeartbeats 4000000 in
set_option maxRecDepth 100000 in
theorem kb_X11_plays_263 {p : Program} {l : Launch} {e : Env} {s : State} {m : MethodId} {args : Array Value} {below : List Frame} {meth : Method} {c : Code} {D : va_G} {A : Nat → Prop} {cy : Nat → ClassId} {a kt vt : Nat → Nat} {N : Nat}   (C0 : nCx p s m args meth c cX11_plays 7 (some .int) RX11 wsX11_plays) (hE : nEn D A cy (Mw cy a) kt vt s) {z : Int32 × nS} {k399 : nS → Int32 → Int32 → Int32 → Int32 → Option (Int32 × nS)} (K399 : ∀ (σ : nS) (x1 : Int32) (x3 : Int32) (x4 : Int32) (x5 : Int32) (H : Heap) (locs : List Loc) (ls : Array Slot), lv_has ls 7 [(0, .ref (a 0)), (1, .int x1), (3, .int x3), (4, .int x4), (5, .int x5)] → va_P D vwCl ((Mw cy a) σ) H → va_S A s.heap H locs → k399 σ x1 x3 x4 x5 = some z → W p l e ({ frames := 2, cells := 0, slots := 0, locals := 41 } : Room) s m args below meth c H locs 0 0 (nQi below D A (Mw cy a) args s z) (F0 m 399 ls [])) : ∀ (σ : nS) (x1 : Int32) (x3 : Int32) (x4 : Int32) (y0 : Int32) (H : Heap) (locs : List Loc) (ls : Array Slot), lv_has ls 7 [(0, .ref (a 0)), (1, .int x1), (3, .int x3), (4, .int x4)] → va_P D vwCl ((Mw cy a) σ) H → va_S A s.heap H locs → b_X11_plays_263 N k399 σ x1 x3 x4 y0 = some z → W p l e ({ frames := 2, cells := 0, slots := 0, locals := 41 } : Room) s m args below meth c H locs 0 0 (nQi below D A (Mw cy a) args s z) (F0 m 263 ls [.int y0]) := by
  obtain ⟨hx, hb, hr, hml, hown, hts, hlocks⟩ := C0
  intro σ x1 x3 x4 y0 H locs ls hl hP hS hf
  unfold b_X11_plays_263 at hf
  refine lv_istore (lv' := [(5, .int y0), (0, .ref (a 0)), (1, .int x1), (3, .int x3), (4, .int x4)]) hx hb dX11_plays_263 hl (by decide) rfl (fun ls hl => ?_)
  refine lv_aload_n hx hb dX11_plays_265 rfl (lv_at hl 1 rfl) ?_
  refine lv_dup hx hb dX11_plays_266 rfl ?_
  refine nb_get (ci := 11) hx hb hts iX11_plays_X11 hown hE hP 0 mbo_0 rfl 33 (by decide) qX11_plays_263 rfl rfl dX11_plays_267 ?_
  refine lv_iconst (v := 1) hx hb dX11_plays_270 (by decide) ?_
  refine lv_iadd hx hb dX11_plays_271 ?_
  refine lv_topi (fun v1 ev1 => ?_)
  replace hf := nLet_e hf ev1
  refine nb_put (ci := 11) hx hb hts iX11_plays_X11 tyX11 tyX11_ok nmX11 hown hE hP hS 0 mbo_0 rfl 33 (by decide) qX11_plays_263 rfl rfl rfl rfl (Nat.le_of_ble_eq_true rfl) dX11_plays_272 (mbp_0_33 _) (fun σ2 eσ2 H locs hP hS => ?_)
  replace hf := nLet_e hf eσ2
  refine lv_goto (tgt := 399) hx hb dX11_plays_275 (by decide) ?_
  exact K399 σ2 x1 x3 x4 y0 H locs ls (lv_sub hl [1, 2, 3, 4, 0] rfl) hP hS hf
def b_X11_plays_221 (N : Nat) (k399 : nS → Int32 → Int32 → Int32 → Int32 → Option (Int32 × nS)) (σ : nS) (x1 : Int32) (x3 : Int32) (x4 : Int32) (x5 : Int32) (y1 : Int32) : Option (Int32 × nS) := nLet (wr σ 0 32 y1) (fun σ1 => k399 σ1 x1 x3 x4 x5)
set_option maxHeartbeats 4000000 in
set_option maxRecDepth 100000 in
theorem kb_X11_plays_221 {p : Program} {l : Launch} {e : Env} {s : State} {m : MethodId} {args : Array Value} {below : List Frame} {meth : Method} {c : Code} {D : va_G} {A : Nat → Prop} {cy : Nat → ClassId} {a kt vt : Nat → Nat} {N : Nat}   (C0 : nCx p s m args meth c cX11_plays 7 (some .int) RX11 wsX11_plays) (hE : nEn D A cy (Mw cy a) kt vt s) {z : Int32 × nS} {k399 : nS → Int32 → Int32 → Int32 → Int32 → Option (Int32 × nS)} (K399 : ∀ (σ : nS) (x1 : Int32) (x3 : Int32) (x4 : Int32) (x5 : Int32) (H : Heap) (locs : List Loc) (ls : Array Slot), lv_has ls 7 [(0, .ref (a 0)), (1, .int x1), (3, .int x3), (4, .int x4), (5, .int x5)] → va_P D vwCl ((Mw cy a) σ) H → va_S A s.heap H locs → k399 σ x1 x3 x4 x5 = some z → W p l e ({ frames := 2, cells := 0, slots := 0, locals := 41 } : Room) s m args below meth c H locs 0 0 (nQi below D A (Mw cy a) args s z) (F0 m 399 ls [])) : ∀ (σ : nS) (x1 : Int32) (x3 : Int32) (x4 : Int32) (x5 : Int32) (y1 : Int32) (H : Heap) (locs : List Loc) (ls : Array Slot), lv_has ls 7 [(0, .ref (a 0)), (1, .int x1), (3, .int x3), (4, .int x4), (5, .int x5)] → va_P D vwCl ((Mw cy a) σ) H → va_S A s.heap H locs → b_X11_plays_221 N k399 σ x1 x3 x4 x5 y1 = some z → W p l e ({ frames := 2, cells := 0, slots := 0, locals := 41 } : Room) s m args below meth c H locs 0 0 (nQi below D A (Mw cy a) args s z) (F0 m 221 ls [.int y1, .ref (a 0)]) := by
  obtain ⟨hx, hb, hr, hml, hown, hts, hlocks⟩ := C0
  intro σ x1 x3 x4 x5 y1 H locs ls hl hP hS hf
  unfold b_X11_plays_221 at hf
  refine nb_put (ci := 11) hx hb hts iX11_plays_X11 tyX11 tyX11_ok nmX11 hown hE hP hS 0 mbo_0 rfl 32 (by decide) qX11_plays_269 rfl rfl rfl rfl (Nat.le_of_ble_eq_true rfl) dX11_plays_221 (mbp_0_32 _) (fun σ1 eσ1 H locs hP hS => ?_)
  replace hf := nLet_e hf eσ1
  refine lv_goto (tgt := 399) hx hb dX11_plays_224 (by decide) ?_
  exact K399 σ1 x1 x3 x4 x5 H locs ls (lv_sub hl [0, 1, 2, 3, 4] rfl) hP hS hf
def b_X11_plays_423 (N : Nat) (k38 : nS → Int32 → Int32 → Int32 → Int32 → Option (Int32 × nS)) (σ : nS) (x1 : Int32) (x3 : Int32) (x4 : Int32) (x5 : Int32) : Option (Int32 × nS) := k38 σ x1 x3 x4 x5
set_option maxHeartbeats 4000000 in
set_option maxRecDepth 100000 in
theorem kb_X11_plays_423 {p : Program} {l : Launch} {e : Env} {s : State} {m : MethodId} {args : Array Value} {below : List Frame} {meth : Method} {c : Code} {D : va_G} {A : Nat → Prop} {cy : Nat → ClassId} {a kt vt : Nat → Nat} {N : Nat}   (C0 : nCx p s m args meth c cX11_plays 7 (some .int) RX11 wsX11_plays) (hE : nEn D A cy (Mw cy a) kt vt s) {z : Int32 × nS} {k38 : nS → Int32 → Int32 → Int32 → Int32 → Option (Int32 × nS)} (K38 : ∀ (σ : nS) (x1 : Int32) (x3 : Int32) (x4 : Int32) (x5 : Int32) (H : Heap) (locs : List Loc) (ls : Array Slot), lv_has ls 7 [(0, .ref (a 0)), (1, .int x1), (3, .int x3), (4, .int x4), (5, .int x5)] → va_P D vwCl ((Mw cy a) σ) H → va_S A s.heap H locs → k38 σ x1 x3 x4 x5 = some z → W p l e ({ frames := 2, cells := 0, slots := 0, locals := 41 } : Room) s m args below meth c H locs 0 0 (nQi below D A (Mw cy a) args s z) (F0 m 38 ls [])) : ∀ (σ : nS) (x1 : Int32) (x3 : Int32) (x4 : Int32) (x5 : Int32) (H : Heap) (locs : List Loc) (ls : Array Slot), lv_has ls 7 [(0, .ref (a 0)), (1, .int x1), (3, .int x3), (4, .int x4), (5, .int x5)] → va_P D vwCl ((Mw cy a) σ) H → va_S A s.heap H locs → b_X11_plays_423 N k38 σ x1 x3 x4 x5 = some z → W p l e ({ frames := 2, cells := 0, slots := 0, locals := 41 } : Room) s m args below meth c H locs 0 0 (nQi below D A (Mw cy a) args s z) (F0 m 423 ls []) := by
  obtain ⟨hx, hb, hr, hml, hown, hts, hlocks⟩ := C0
  intro σ x1 x3 x4 x5 H locs ls hl hP hS hf
  unfold b_X11_plays_423 at hf
  refine lv_goto (tgt := 38) hx hb dX11_plays_423 (by decide) ?_
  exact K38 σ x1 x3 x4 x5 H locs ls (lv_sub hl [0, 1, 2, 3, 4] rfl) hP hS hf
def b_X11_plays_399 (N : Nat) (k423 : nS → Int32 → Int32 → Int32 → Int32 → Option (Int32 × nS)) (σ : nS) (x1 : Int32) (x3 : Int32) (x4 : Int32) (x5 : Int32) : Option (Int32 × nS) := (if (σ.1 0 32) = (-1) then (if (σ.1 0 33) ≤ 5000 then k423 σ x1 x3 x4 x5 else nLet (wr σ 0 32 6) (fun σ1 => k423 σ1 x1 x3 x4 x5)) else k423 σ x1 x3 x4 x5)
set_option maxHeartbeats 4000000 in
set_option maxRecDepth 100000 in
theorem kb_X11_plays_399 {p : Program} {l : Launch} {e : Env} {s : State} {m : MethodId} {args : Array Value} {below : List Frame} {meth : Method} {c : Code} {D : va_G} {A : Nat → Prop} {cy : Nat → ClassId} {a kt vt : Nat → Nat} {N : Nat}   (C0 : nCx p s m args meth c cX11_plays 7 (some .int) RX11 wsX11_plays) (hE : nEn D A cy (Mw cy a) kt vt s) {z : Int32 × nS} {k423 : nS → Int32 → Int32 → Int32 → Int32 → Option (Int32 × nS)} (K423 : ∀ (σ : nS) (x1 : Int32) (x3 : Int32) (x4 : Int32) (x5 : Int32) (H : Heap) (locs : List Loc) (ls : Array Slot), lv_has ls 7 [(0, .ref (a 0)), (1, .int x1), (3, .int x3), (4, .int x4), (5, .int x5)] → va_P D vwCl ((Mw cy a) σ) H → va_S A s.heap H locs → k423 σ x1 x3 x4 x5 = some z → W p l e ({ frames := 2, cells := 0, slots := 0, locals := 41 } : Room) s m args below meth c H locs 0 0 (nQi below D A (Mw cy a) args s z) (F0 m 423 ls [])) : ∀ (σ : nS) (x1 : Int32) (x3 : Int32) (x4 : Int32) (x5 : Int32) (H : Heap) (locs : List Loc) (ls : Array Slot), lv_has ls 7 [(0, .ref (a 0)), (1, .int x1), (3, .int x3), (4, .int x4), (5, .int x5)] → va_P D vwCl ((Mw cy a) σ) H → va_S A s.heap H locs → b_X11_plays_399 N k423 σ x1 x3 x4 x5 = some z → W p l e ({ frames := 2, cells := 0, slots := 0, locals := 41 } : Room) s m args below meth c H locs 0 0 (nQi below D A (Mw cy a) args s z) (F0 m 399 ls []) := by
  obtain ⟨hx, hb, hr, hml, hown, hts, hlocks⟩ := C0
  intro σ x1 x3 x4 x5 H locs ls hl hP hS hf
  unfold b_X11_plays_399 at hf
  refine lv_aload_n hx hb dX11_plays_399 rfl (lv_at hl 0 rfl) ?_
  refine nb_get (ci := 11) hx hb hts iX11_plays_X11 hown hE hP 0 mbo_0 rfl 32 (by decide) qX11_plays_269 rfl rfl dX11_plays_400 ?_
  refine lv_iconst (v := (-1)) hx hb dX11_plays_403 (by decide) ?_
  refine lv_icmp_ne (tgt := 423) hx hb dX11_plays_404 (by decide) (fun hc => ?_) (fun hc => ?_)
  · replace hf := nIf_f hc hf
    exact K423 σ x1 x3 x4 x5 H locs ls (lv_sub hl [0, 1, 2, 3, 4] rfl) hP hS hf
  · replace hf := nIf_t hc hf
    refine lv_aload_n hx hb dX11_plays_407 rfl (lv_at hl 0 rfl) ?_
    refine nb_get (ci := 11) hx hb hts iX11_plays_X11 hown hE hP 0 mbo_0 rfl 33 (by decide) qX11_plays_263 rfl rfl dX11_plays_408 ?_
    refine lv_sipush (v := 5000) hx hb dX11_plays_411 (by decide) ?_
    refine lv_icmp_le (tgt := 423) hx hb dX11_plays_414 (by decide) (fun hc => ?_) (fun hc => ?_)
    · replace hf := nIf_t hc hf
      exact K423 σ x1 x3 x4 x5 H locs ls (lv_sub hl [0, 1, 2, 3, 4] rfl) hP hS hf
    · replace hf := nIf_f hc hf
      refine lv_aload_n hx hb dX11_plays_417 rfl (lv_at hl 0 rfl) ?_
      refine lv_bipush (v := 6) hx hb dX11_plays_418 (by decide) ?_
      refine nb_put (ci := 11) hx hb hts iX11_plays_X11 tyX11 tyX11_ok nmX11 hown hE hP hS 0 mbo_0 rfl 32 (by decide) qX11_plays_269 rfl rfl rfl rfl (Nat.le_of_ble_eq_true rfl) dX11_plays_420 (mbp_0_32 _) (fun σ1 eσ1 H locs hP hS => ?_)
      replace hf := nLet_e hf eσ1
      exact K423 σ1 x1 x3 x4 x5 H locs ls (lv_sub hl [0, 1, 2, 3, 4] rfl) hP hS hf
def b_X11_plays_101 (N : Nat) (k221 : nS → Int32 → Int32 → Int32 → Int32 → Int32 → Option (Int32 × nS)) (k263 : nS → Int32 → Int32 → Int32 → Int32 → Option (Int32 × nS)) (k369 : nS → Int32 → Int32 → Int32 → Int32 → Int32 → Option (Int32 × nS)) (k399 : nS → Int32 → Int32 → Int32 → Int32 → Option (Int32 × nS)) (σ : nS) (x1 : Int32) (x3 : Int32) (x4 : Int32) (x5 : Int32) (x6 : Int32) : Option (Int32 × nS) := nLet ((σ.1 0 34) + (1 : Int32) : Int32) (fun v1 => nLet (wr σ 0 34 v1) (fun σ2 => nLet ((256 : Int32) * x5 : Int32) (fun v3 => nLet (v3 + (σ2.1 0 35) : Int32) (fun v4 => nIx v4 6144 (nLet (σ2.1 12 (v4).toNatClampNeg) (fun v5 => (if v5 = (σ2.1 0 31) then nLet (wr σ2 0 32 4) (fun σ31 => some ((σ31.1 0 32), σ31)) else nLet ((256 : Int32) * x5 : Int32) (fun v6 => nLet (v6 + (σ2.1 0 35) : Int32) (fun v7 => nIx v7 6144 (nLet (wr σ2 12 (v7).toNatClampNeg (σ2.1 0 31)) (fun σ8 => nLet (x5 + 1 : Int32) (fun v9 => nIx x6 120 (nLet (σ8.1 4 (x6).toNatClampNeg) (fun v10 => (if v10 = 2 then nIx x6 120 (nLet (σ8.1 5 (x6).toNatClampNeg) (fun v11 => nBd (f_X11_tellsWrong N v11 (σ8.1 0 35) x3 σ8) (fun r12 σ13 => (if r12 = 0 then nIx x6 120 (nLet (σ13.1 7 (x6).toNatClampNeg) (fun v14 => k263 σ13 x1 x3 x4 v14)) else nIx x6 120 (nLet (σ13.1 6 (x6).toNatClampNeg) (fun v15 => k263 σ13 x1 x3 x4 v15)))))) else (if v10 = 3 then nIx x6 120 (nLet (σ8.1 5 (x6).toNatClampNeg) (fun v16 => nLet ((σ8.1 0 33) + v16 : Int32) (fun v17 => nLet (wr σ8 0 33 v17) (fun σ18 => k399 σ18 x1 x3 x4 v9)))) else (if v10 = 4 then nIx x6 120 (nLet (σ8.1 5 (x6).toNatClampNeg) (fun v19 => k399 σ8 x1 x3 x4 v19)) else (if v10 = 5 then nBd (f_X11_isCalm N (σ8.1 0 35) σ8) (fun r20 σ21 => (if r20 = 0 then k221 σ21 x1 x3 x4 v9 1 else k221 σ21 x1 x3 x4 v9 0)) else nIx x6 120 (nLet (σ8.1 5 (x6).toNatClampNeg) (fun v22 => nBd (f_X11_isThere N v22 x4 σ8) (fun r23 σ24 => (if r23 = 0 then nLet (wr σ24 0 32 2) (fun σ30 => k399 σ30 x1 x3 x4 v9) else nIx x6 120 (nLet (σ24.1 8 (x6).toNatClampNeg) (fun v25 => (if v25 = (-1) then k369 σ24 x1 x3 x4 v9 x6 else nIx x6 120 (nLet (σ24.1 8 (x6).toNatClampNeg) (fun v26 => nLet ((σ24.1 0 35) >>> (v26 &&& 31) : Int32) (fun v27 => nLet (v27 &&& (1 : Int32) : Int32) (fun v28 => (if v28 = 0 then nLet (wr σ24 0 32 3) (fun σ29 => k399 σ29 x1 x3 x4 v9) else k369 σ24 x1 x3 x4 v9 x6))))))))))))))))))))))))))))))
set_option maxHeartbeats 4000000 in
set_option maxRecDepth 100000 in
theorem kb_X11_plays_101 {p : Program} {l : Launch} {e : Env} {s : State} {m : MethodId} {args : Array Value} {below : List Frame} {meth : Method} {c : Code} {D : va_G} {A : Nat → Prop} {cy : Nat → ClassId} {a kt vt : Nat → Nat} {N : Nat}   (C0 : nCx p s m args meth c cX11_plays 7 (some .int) RX11 wsX11_plays) (hE : nEn D A cy (Mw cy a) kt vt s) {z : Int32 × nS} {k221 : nS → Int32 → Int32 → Int32 → Int32 → Int32 → Option (Int32 × nS)} (K221 : ∀ (σ : nS) (x1 : Int32) (x3 : Int32) (x4 : Int32) (x5 : Int32) (y1 : Int32) (H : Heap) (locs : List Loc) (ls : Array Slot), lv_has ls 7 [(0, .ref (a 0)), (1, .int x1), (3, .int x3), (4, .int x4), (5, .int x5)] → va_P D vwCl ((Mw cy a) σ) H → va_S A s.heap H locs → k221 σ x1 x3 x4 x5 y1 = some z → W p l e ({ frames := 2, cells := 0, slots := 0, locals := 41 } : Room) s m args below meth c H locs 0 0 (nQi below D A (Mw cy a) args s z) (F0 m 221 ls [.int y1, .ref (a 0)])) {k263 : nS → Int32 → Int32 → Int32 → Int32 → Option (Int32 × nS)} (K263 : ∀ (σ : nS) (x1 : Int32) (x3 : Int32) (x4 : Int32) (y0 : Int32) (H : Heap) (locs : List Loc) (ls : Array Slot), lv_has ls 7 [(0, .ref (a 0)), (1, .int x1), (3, .int x3), (4, .int x4)] → va_P D vwCl ((Mw cy a) σ) H → va_S A s.heap H locs → k263 σ x1 x3 x4 y0 = some z → W p l e ({ frames := 2, cells := 0, slots := 0, locals := 41 } : Room) s m args below meth c H locs 0 0 (nQi below D A (Mw cy a) args s z) (F0 m 263 ls [.int y0])) {k369 : nS → Int32 → Int32 → Int32 → Int32 → Int32 → Option (Int32 × nS)} (K369 : ∀ (σ : nS) (x1 : Int32) (x3 : Int32) (x4 : Int32) (x5 : Int32) (x6 : Int32) (H : Heap) (locs : List Loc) (ls : Array Slot), lv_has ls 7 [(0, .ref (a 0)), (1, .int x1), (3, .int x3), (4, .int x4), (5, .int x5), (6, .int x6)] → va_P D vwCl ((Mw cy a) σ) H → va_S A s.heap H locs → k369 σ x1 x3 x4 x5 x6 = some z → W p l e ({ frames := 2, cells := 0, slots := 0, locals := 41 } : Room) s m args below meth c H locs 0 0 (nQi below D A (Mw cy a) args s z) (F0 m 369 ls [])) {k399 : nS → Int32 → Int32 → Int32 → Int32 → Option (Int32 × nS)} (K399 : ∀ (σ : nS) (x1 : Int32) (x3 : Int32) (x4 : Int32) (x5 : Int32) (H : Heap) (locs : List Loc) (ls : Array Slot), lv_has ls 7 [(0, .ref (a 0)), (1, .int x1), (3, .int x3), (4, .int x4), (5, .int x5)] → va_P D vwCl ((Mw cy a) σ) H → va_S A s.heap H locs → k399 σ x1 x3 x4 x5 = some z → W p l e ({ frames := 2, cells := 0, slots := 0, locals := 41 } : Room) s m args below meth c H locs 0 0 (nQi below D A (Mw cy a) args s z) (F0 m 399 ls [])) : ∀ (σ : nS) (x1 : Int32) (x3 : Int32) (x4 : Int32) (x5 : Int32) (x6 : Int32) (H : Heap) (locs : List Loc) (ls : Array Slot), lv_has ls 7 [(0, .ref (a 0)), (1, .int x1), (3, .int x3), (4, .int x4), (5, .int x5), (6, .int x6)] → va_P D vwCl ((Mw cy a) σ) H → va_S A s.heap H locs → b_X11_plays_101 N k221 k263 k369 k399 σ x1 x3 x4 x5 x6 = some z → W p l e ({ frames := 2, cells := 0, slots := 0, locals := 41 } : Room) s m args below meth c H locs 0 0 (nQi below D A (Mw cy a) args s z) (F0 m 101 ls []) := by
  obtain ⟨hx, hb, hr, hml, hown, hts, hlocks⟩ := C0
  intro σ x1 x3 x4 x5 x6 H locs ls hl hP hS hf
  unfold b_X11_plays_101 at hf
  refine lv_aload_n hx hb dX11_plays_101 rfl (lv_at hl 0 rfl) ?_
  refine lv_dup hx hb dX11_plays_102 rfl ?_
  refine nb_get (ci := 11) hx hb hts iX11_plays_X11 hown hE hP 0 mbo_0 rfl 34 (by decide) qX11_plays_266 rfl rfl dX11_plays_103 ?_
  refine lv_iconst (v := 1) hx hb dX11_plays_106 (by decide) ?_
  refine lv_iadd hx hb dX11_plays_107 ?_
  refine lv_topi (fun v1 ev1 => ?_)
  replace hf := nLet_e hf ev1
  refine nb_put (ci := 11) hx hb hts iX11_plays_X11 tyX11 tyX11_ok nmX11 hown hE hP hS 0 mbo_0 rfl 34 (by decide) qX11_plays_266 rfl rfl rfl rfl (Nat.le_of_ble_eq_true rfl) dX11_plays_108 (mbp_0_34 _) (fun σ2 eσ2 H locs hP hS => ?_)
  replace hf := nLet_e hf eσ2
  refine lv_aload_n hx hb dX11_plays_111 rfl (lv_at hl 0 rfl) ?_
  refine nb_get (ci := 11) hx hb hts iX11_plays_X11 hown hE hP 0 mbo_0 rfl 28 (by decide) qX11_plays_55 rfl rfl dX11_plays_112 ?_
  refine lv_sipush (v := 256) hx hb dX11_plays_115 (by decide) ?_
  refine lv_iload hx hb dX11_plays_118 (lv_at hl 4 rfl) ?_
  refine lv_imul hx hb dX11_plays_120 ?_
  refine lv_topi (fun v3 ev3 => ?_)
  replace hf := nLet_e hf ev3
  refine lv_aload_n hx hb dX11_plays_121 rfl (lv_at hl 0 rfl) ?_
  refine nb_get (ci := 11) hx hb hts iX11_plays_X11 hown hE hP 0 mbo_0 rfl 35 (by decide) qX11_plays_260 rfl rfl dX11_plays_122 ?_
  refine lv_iadd hx hb dX11_plays_125 ?_
  refine lv_topi (fun v4 ev4 => ?_)
  replace hf := nLet_e hf ev4
  obtain ⟨hin, hf⟩ := nIx_e hf
  refine na_iald hx hb hE hP mbr_12 hin dX11_plays_126 ?_
  refine lv_topi (fun v5 ev5 => ?_)
  replace hf := nLet_e hf ev5
  refine lv_aload_n hx hb dX11_plays_127 rfl (lv_at hl 0 rfl) ?_
  refine nb_get (ci := 11) hx hb hts iX11_plays_X11 hown hE hP 0 mbo_0 rfl 31 (by decide) qX11_plays_257 rfl rfl dX11_plays_128 ?_
  refine lv_icmp_ne (tgt := 142) hx hb dX11_plays_131 (by decide) (fun hc => ?_) (fun hc => ?_)
  · replace hf := nIf_f hc hf
    refine lv_aload_n hx hb dX11_plays_142 rfl (lv_at hl 0 rfl) ?_
    refine nb_get (ci := 11) hx hb hts iX11_plays_X11 hown hE hP 0 mbo_0 rfl 28 (by decide) qX11_plays_55 rfl rfl dX11_plays_143 ?_
    refine lv_sipush (v := 256) hx hb dX11_plays_146 (by decide) ?_
    refine lv_iload hx hb dX11_plays_149 (lv_at hl 4 rfl) ?_
    refine lv_imul hx hb dX11_plays_151 ?_
    refine lv_topi (fun v6 ev6 => ?_)
    replace hf := nLet_e hf ev6
    refine lv_aload_n hx hb dX11_plays_152 rfl (lv_at hl 0 rfl) ?_
    refine nb_get (ci := 11) hx hb hts iX11_plays_X11 hown hE hP 0 mbo_0 rfl 35 (by decide) qX11_plays_260 rfl rfl dX11_plays_153 ?_
    refine lv_iadd hx hb dX11_plays_156 ?_
    refine lv_topi (fun v7 ev7 => ?_)
    replace hf := nLet_e hf ev7
    refine lv_aload_n hx hb dX11_plays_157 rfl (lv_at hl 0 rfl) ?_
    refine nb_get (ci := 11) hx hb hts iX11_plays_X11 hown hE hP 0 mbo_0 rfl 31 (by decide) qX11_plays_257 rfl rfl dX11_plays_158 ?_
    obtain ⟨hin, hf⟩ := nIx_e hf
    refine na_iast hx hb hE hP hS mbr_12 hin dX11_plays_161 (fun σ8 eσ8 H locs hP hS => ?_)
    replace hf := nLet_e hf eσ8
    obtain ⟨v9, ev9⟩ : ∃ y : Int32, y = x5 + 1 := ⟨_, rfl⟩
    replace hf := nLet_e hf ev9
    refine lv_iinc (v := v9) (lv' := [(5, .int v9), (0, .ref (a 0)), (1, .int x1), (3, .int x3), (4, .int x4), (6, .int x6)]) hx hb dX11_plays_162 hl (k := 4) rfl (by rw [ev9]; rfl) (by decide) rfl (fun ls hl => ?_)
    refine lv_aload_n hx hb dX11_plays_165 rfl (lv_at hl 1 rfl) ?_
    refine nb_get (ci := 11) hx hb hts iX11_plays_X11 hown hE hP 0 mbo_0 rfl 12 (by decide) qX11_plays_26 rfl rfl dX11_plays_166 ?_
    refine lv_iload hx hb dX11_plays_169 (lv_at hl 5 rfl) ?_
    obtain ⟨hin, hf⟩ := nIx_e hf
    refine na_iald hx hb hE hP mbr_4 hin dX11_plays_171 ?_
    refine lv_topi (fun v10 ev10 => ?_)
    replace hf := nLet_e hf ev10
    by_cases hs0 : v10 = 2
    · replace hf := nIf_t hs0 hf
      refine lv_tableIn (tgt := 227) (off := 55) hx hb dX11_plays_172 (by rw [hs0]; decide) (by rw [hs0]; decide) (by rw [hs0]; rfl) (by decide) ?_
      refine lv_aload_n hx hb dX11_plays_227 rfl (lv_at hl 1 rfl) ?_
      refine lv_aload_n hx hb dX11_plays_228 rfl (lv_at hl 1 rfl) ?_
      refine nb_get (ci := 11) hx hb hts iX11_plays_X11 hown hE hP 0 mbo_0 rfl 13 (by decide) qX11_plays_29 rfl rfl dX11_plays_229 ?_
      refine lv_iload hx hb dX11_plays_232 (lv_at hl 5 rfl) ?_
      obtain ⟨hin, hf⟩ := nIx_e hf
      refine na_iald hx hb hE hP mbr_5 hin dX11_plays_234 ?_
      refine lv_topi (fun v11 ev11 => ?_)
      replace hf := nLet_e hf ev11
      refine lv_aload_n hx hb dX11_plays_235 rfl (lv_at hl 1 rfl) ?_
      refine nb_get (ci := 11) hx hb hts iX11_plays_X11 hown hE hP 0 mbo_0 rfl 35 (by decide) qX11_plays_260 rfl rfl dX11_plays_236 ?_
      refine lv_iload_n hx hb dX11_plays_239 rfl (lv_at hl 3 rfl) ?_
      obtain ⟨r12, σ13, hc13, hf⟩ := nBd_e hf
      refine nb_callVi (As := [.int v11, .int (σ8.1 0 35), .int x3]) (rest := []) ⟨hx, hb, hml, hown, hts⟩ (c_X11_tellsWrong (D := D) (A := A) (cy := cy) (a := a) (kt := kt) (vt := vt) (l := l)  hc13) (cwV 3 hts gX11_plays_X11_tellsWrong rfl rfl rfl (by decide +kernel) ⟨Nat.le_of_ble_eq_true rfl, Nat.le_of_ble_eq_true rfl⟩) hE hP hS mbo_0 rfl rfl hl.1 rfl (Nat.le_of_ble_eq_true rfl) dX11_plays_240 (fun H locs hP hS => ?_)
      refine lv_if_eq (tgt := 256) hx hb dX11_plays_243 (by decide) (fun hc => ?_) (fun hc => ?_)
      · replace hf := nIf_t hc hf
        refine lv_aload_n hx hb dX11_plays_256 rfl (lv_at hl 1 rfl) ?_
        refine nb_get (ci := 11) hx hb hts iX11_plays_X11 hown hE hP 0 mbo_0 rfl 15 (by decide) qX11_plays_35 rfl rfl dX11_plays_257 ?_
        refine lv_iload hx hb dX11_plays_260 (lv_at hl 5 rfl) ?_
        obtain ⟨hin, hf⟩ := nIx_e hf
        refine na_iald hx hb hE hP mbr_7 hin dX11_plays_262 ?_
        refine lv_topi (fun v14 ev14 => ?_)
        replace hf := nLet_e hf ev14
        exact K263 σ13 x1 x3 x4 v14 H locs ls (lv_sub hl [1, 2, 3, 4] rfl) hP hS hf
      · replace hf := nIf_f hc hf
        refine lv_aload_n hx hb dX11_plays_246 rfl (lv_at hl 1 rfl) ?_
        refine nb_get (ci := 11) hx hb hts iX11_plays_X11 hown hE hP 0 mbo_0 rfl 14 (by decide) qX11_plays_32 rfl rfl dX11_plays_247 ?_
        refine lv_iload hx hb dX11_plays_250 (lv_at hl 5 rfl) ?_
        obtain ⟨hin, hf⟩ := nIx_e hf
        refine na_iald hx hb hE hP mbr_6 hin dX11_plays_252 ?_
        refine lv_topi (fun v15 ev15 => ?_)
        replace hf := nLet_e hf ev15
        refine lv_goto (tgt := 263) hx hb dX11_plays_253 (by decide) ?_
        exact K263 σ13 x1 x3 x4 v15 H locs ls (lv_sub hl [1, 2, 3, 4] rfl) hP hS hf
    · replace hf := nIf_f hs0 hf
      by_cases hs1 : v10 = 3
      · replace hf := nIf_t hs1 hf
        refine lv_tableIn (tgt := 278) (off := 106) hx hb dX11_plays_172 (by rw [hs1]; decide) (by rw [hs1]; decide) (by rw [hs1]; rfl) (by decide) ?_
        refine lv_aload_n hx hb dX11_plays_278 rfl (lv_at hl 1 rfl) ?_
        refine lv_dup hx hb dX11_plays_279 rfl ?_
        refine nb_get (ci := 11) hx hb hts iX11_plays_X11 hown hE hP 0 mbo_0 rfl 33 (by decide) qX11_plays_263 rfl rfl dX11_plays_280 ?_
        refine lv_aload_n hx hb dX11_plays_283 rfl (lv_at hl 1 rfl) ?_
        refine nb_get (ci := 11) hx hb hts iX11_plays_X11 hown hE hP 0 mbo_0 rfl 13 (by decide) qX11_plays_29 rfl rfl dX11_plays_284 ?_
        refine lv_iload hx hb dX11_plays_287 (lv_at hl 5 rfl) ?_
        obtain ⟨hin, hf⟩ := nIx_e hf
        refine na_iald hx hb hE hP mbr_5 hin dX11_plays_289 ?_
        refine lv_topi (fun v16 ev16 => ?_)
        replace hf := nLet_e hf ev16
        refine lv_iadd hx hb dX11_plays_290 ?_
        refine lv_topi (fun v17 ev17 => ?_)
        replace hf := nLet_e hf ev17
        refine nb_put (ci := 11) hx hb hts iX11_plays_X11 tyX11 tyX11_ok nmX11 hown hE hP hS 0 mbo_0 rfl 33 (by decide) qX11_plays_263 rfl rfl rfl rfl (Nat.le_of_ble_eq_true rfl) dX11_plays_291 (mbp_0_33 _) (fun σ18 eσ18 H locs hP hS => ?_)
        replace hf := nLet_e hf eσ18
        refine lv_goto (tgt := 399) hx hb dX11_plays_294 (by decide) ?_
        exact K399 σ18 x1 x3 x4 v9 H locs ls (lv_sub hl [1, 2, 3, 4, 0] rfl) hP hS hf
      · replace hf := nIf_f hs1 hf
        by_cases hs2 : v10 = 4
        · replace hf := nIf_t hs2 hf
          refine lv_tableIn (tgt := 297) (off := 125) hx hb dX11_plays_172 (by rw [hs2]; decide) (by rw [hs2]; decide) (by rw [hs2]; rfl) (by decide) ?_
          refine lv_aload_n hx hb dX11_plays_297 rfl (lv_at hl 1 rfl) ?_
          refine nb_get (ci := 11) hx hb hts iX11_plays_X11 hown hE hP 0 mbo_0 rfl 13 (by decide) qX11_plays_29 rfl rfl dX11_plays_298 ?_
          refine lv_iload hx hb dX11_plays_301 (lv_at hl 5 rfl) ?_
          obtain ⟨hin, hf⟩ := nIx_e hf
          refine na_iald hx hb hE hP mbr_5 hin dX11_plays_303 ?_
          refine lv_topi (fun v19 ev19 => ?_)
          replace hf := nLet_e hf ev19
          refine lv_istore (lv' := [(5, .int v19), (0, .ref (a 0)), (1, .int x1), (3, .int x3), (4, .int x4), (6, .int x6)]) hx hb dX11_plays_304 hl (by decide) rfl (fun ls hl => ?_)
          refine lv_goto (tgt := 399) hx hb dX11_plays_306 (by decide) ?_
          exact K399 σ8 x1 x3 x4 v19 H locs ls (lv_sub hl [1, 2, 3, 4, 0] rfl) hP hS hf
        · replace hf := nIf_f hs2 hf
          by_cases hs3 : v10 = 5
          · replace hf := nIf_t hs3 hf
            refine lv_tableIn (tgt := 204) (off := 32) hx hb dX11_plays_172 (by rw [hs3]; decide) (by rw [hs3]; decide) (by rw [hs3]; rfl) (by decide) ?_
            refine lv_aload_n hx hb dX11_plays_204 rfl (lv_at hl 1 rfl) ?_
            refine lv_aload_n hx hb dX11_plays_205 rfl (lv_at hl 1 rfl) ?_
            refine lv_aload_n hx hb dX11_plays_206 rfl (lv_at hl 1 rfl) ?_
            refine nb_get (ci := 11) hx hb hts iX11_plays_X11 hown hE hP 0 mbo_0 rfl 35 (by decide) qX11_plays_260 rfl rfl dX11_plays_207 ?_
            obtain ⟨r20, σ21, hc21, hf⟩ := nBd_e hf
            refine nb_callVi (As := [.int (σ8.1 0 35)]) (rest := [.ref (a 0)]) ⟨hx, hb, hml, hown, hts⟩ (c_X11_isCalm (D := D) (A := A) (cy := cy) (a := a) (kt := kt) (vt := vt) (l := l)  hc21) (cwV 1 hts gX11_plays_X11_isCalm rfl rfl rfl (by decide +kernel) ⟨Nat.le_of_ble_eq_true rfl, Nat.le_of_ble_eq_true rfl⟩) hE hP hS mbo_0 rfl rfl hl.1 rfl (Nat.le_of_ble_eq_true rfl) dX11_plays_210 (fun H locs hP hS => ?_)
            refine lv_if_eq (tgt := 220) hx hb dX11_plays_213 (by decide) (fun hc => ?_) (fun hc => ?_)
            · replace hf := nIf_t hc hf
              refine lv_iconst (v := 1) hx hb dX11_plays_220 (by decide) ?_
              exact K221 σ21 x1 x3 x4 v9 1 H locs ls (lv_sub hl [1, 2, 3, 4, 0] rfl) hP hS hf
            · replace hf := nIf_f hc hf
              refine lv_iconst (v := 0) hx hb dX11_plays_216 (by decide) ?_
              refine lv_goto (tgt := 221) hx hb dX11_plays_217 (by decide) ?_
              exact K221 σ21 x1 x3 x4 v9 0 H locs ls (lv_sub hl [1, 2, 3, 4, 0] rfl) hP hS hf
          · replace hf := nIf_f hs3 hf
            have gs0 := nI_ne (z := 2) hs0 (by decide)
            have gs1 := nI_ne (z := 3) hs1 (by decide)
            have gs2 := nI_ne (z := 4) hs2 (by decide)
            have gs3 := nI_ne (z := 5) hs3 (by decide)
            refine lv_tableOut (tgt := 309) hx hb dX11_plays_172 (by omega) (by decide) ?_
            refine lv_aload_n hx hb dX11_plays_309 rfl (lv_at hl 1 rfl) ?_
            refine lv_aload_n hx hb dX11_plays_310 rfl (lv_at hl 1 rfl) ?_
            refine nb_get (ci := 11) hx hb hts iX11_plays_X11 hown hE hP 0 mbo_0 rfl 13 (by decide) qX11_plays_29 rfl rfl dX11_plays_311 ?_
            refine lv_iload hx hb dX11_plays_314 (lv_at hl 5 rfl) ?_
            obtain ⟨hin, hf⟩ := nIx_e hf
            refine na_iald hx hb hE hP mbr_5 hin dX11_plays_316 ?_
            refine lv_topi (fun v22 ev22 => ?_)
            replace hf := nLet_e hf ev22
            refine lv_iload hx hb dX11_plays_317 (lv_at hl 4 rfl) ?_
            obtain ⟨r23, σ24, hc24, hf⟩ := nBd_e hf
            refine nb_callVi (As := [.int v22, .int x4]) (rest := []) ⟨hx, hb, hml, hown, hts⟩ (c_X11_isThere (D := D) (A := A) (cy := cy) (a := a) (kt := kt) (vt := vt) (l := l)  hc24) (cwV 2 hts gX11_plays_X11_isThere rfl rfl rfl (by decide +kernel) ⟨Nat.le_of_ble_eq_true rfl, Nat.le_of_ble_eq_true rfl⟩) hE hP hS mbo_0 rfl rfl hl.1 rfl (Nat.le_of_ble_eq_true rfl) dX11_plays_319 (fun H locs hP hS => ?_)
            refine lv_if_ne (tgt := 333) hx hb dX11_plays_322 (by decide) (fun hc => ?_) (fun hc => ?_)
            · replace hf := nIf_f hc hf
              refine lv_aload_n hx hb dX11_plays_333 rfl (lv_at hl 1 rfl) ?_
              refine nb_get (ci := 11) hx hb hts iX11_plays_X11 hown hE hP 0 mbo_0 rfl 16 (by decide) qX11_plays_38 rfl rfl dX11_plays_334 ?_
              refine lv_iload hx hb dX11_plays_337 (lv_at hl 5 rfl) ?_
              obtain ⟨hin, hf⟩ := nIx_e hf
              refine na_iald hx hb hE hP mbr_8 hin dX11_plays_339 ?_
              refine lv_topi (fun v25 ev25 => ?_)
              replace hf := nLet_e hf ev25
              refine lv_iconst (v := (-1)) hx hb dX11_plays_340 (by decide) ?_
              refine lv_icmp_eq (tgt := 369) hx hb dX11_plays_341 (by decide) (fun hc => ?_) (fun hc => ?_)
              · replace hf := nIf_t hc hf
                exact K369 σ24 x1 x3 x4 v9 x6 H locs ls (lv_sub hl [1, 2, 3, 4, 0, 5] rfl) hP hS hf
              · replace hf := nIf_f hc hf
                refine lv_aload_n hx hb dX11_plays_344 rfl (lv_at hl 1 rfl) ?_
                refine nb_get (ci := 11) hx hb hts iX11_plays_X11 hown hE hP 0 mbo_0 rfl 35 (by decide) qX11_plays_260 rfl rfl dX11_plays_345 ?_
                refine lv_aload_n hx hb dX11_plays_348 rfl (lv_at hl 1 rfl) ?_
                refine nb_get (ci := 11) hx hb hts iX11_plays_X11 hown hE hP 0 mbo_0 rfl 16 (by decide) qX11_plays_38 rfl rfl dX11_plays_349 ?_
                refine lv_iload hx hb dX11_plays_352 (lv_at hl 5 rfl) ?_
                obtain ⟨hin, hf⟩ := nIx_e hf
                refine na_iald hx hb hE hP mbr_8 hin dX11_plays_354 ?_
                refine lv_topi (fun v26 ev26 => ?_)
                replace hf := nLet_e hf ev26
                refine lv_ishr hx hb dX11_plays_355 ?_
                refine lv_topi (fun v27 ev27 => ?_)
                replace hf := nLet_e hf ev27
                refine lv_iconst (v := 1) hx hb dX11_plays_356 (by decide) ?_
                refine lv_iand hx hb dX11_plays_357 ?_
                refine lv_topi (fun v28 ev28 => ?_)
                replace hf := nLet_e hf ev28
                refine lv_if_ne (tgt := 369) hx hb dX11_plays_358 (by decide) (fun hc => ?_) (fun hc => ?_)
                · replace hf := nIf_f hc hf
                  exact K369 σ24 x1 x3 x4 v9 x6 H locs ls (lv_sub hl [1, 2, 3, 4, 0, 5] rfl) hP hS hf
                · replace hf := nIf_t hc hf
                  refine lv_aload_n hx hb dX11_plays_361 rfl (lv_at hl 1 rfl) ?_
                  refine lv_iconst (v := 3) hx hb dX11_plays_362 (by decide) ?_
                  refine nb_put (ci := 11) hx hb hts iX11_plays_X11 tyX11 tyX11_ok nmX11 hown hE hP hS 0 mbo_0 rfl 32 (by decide) qX11_plays_269 rfl rfl rfl rfl (Nat.le_of_ble_eq_true rfl) dX11_plays_363 (mbp_0_32 _) (fun σ29 eσ29 H locs hP hS => ?_)
                  replace hf := nLet_e hf eσ29
                  refine lv_goto (tgt := 399) hx hb dX11_plays_366 (by decide) ?_
                  exact K399 σ29 x1 x3 x4 v9 H locs ls (lv_sub hl [1, 2, 3, 4, 0] rfl) hP hS hf
            · replace hf := nIf_t hc hf
              refine lv_aload_n hx hb dX11_plays_325 rfl (lv_at hl 1 rfl) ?_
              refine lv_iconst (v := 2) hx hb dX11_plays_326 (by decide) ?_
              refine nb_put (ci := 11) hx hb hts iX11_plays_X11 tyX11 tyX11_ok nmX11 hown hE hP hS 0 mbo_0 rfl 32 (by decide) qX11_plays_269 rfl rfl rfl rfl (Nat.le_of_ble_eq_true rfl) dX11_plays_327 (mbp_0_32 _) (fun σ30 eσ30 H locs hP hS => ?_)
              replace hf := nLet_e hf eσ30
              refine lv_goto (tgt := 399) hx hb dX11_plays_330 (by decide) ?_
              exact K399 σ30 x1 x3 x4 v9 H locs ls (lv_sub hl [1, 2, 3, 4, 0] rfl) hP hS hf
  · replace hf := nIf_t hc hf
    refine lv_aload_n hx hb dX11_plays_134 rfl (lv_at hl 0 rfl) ?_
    refine lv_iconst (v := 4) hx hb dX11_plays_135 (by decide) ?_
    refine nb_put (ci := 11) hx hb hts iX11_plays_X11 tyX11 tyX11_ok nmX11 hown hE hP hS 0 mbo_0 rfl 32 (by decide) qX11_plays_269 rfl rfl rfl rfl (Nat.le_of_ble_eq_true rfl) dX11_plays_136 (mbp_0_32 _) (fun σ31 eσ31 H locs hP hS => ?_)
    replace hf := nLet_e hf eσ31
    refine lv_goto (tgt := 426) hx hb dX11_plays_139 (by decide) ?_
    refine lv_aload_n hx hb dX11_plays_426 rfl (lv_at hl 0 rfl) ?_
    refine nb_get (ci := 11) hx hb hts iX11_plays_X11 hown hE hP 0 mbo_0 rfl 32 (by decide) qX11_plays_269 rfl rfl dX11_plays_427 ?_
    exact nb_iret hx hb hr hlocks hP hS (nSo hf) dX11_plays_430
def b_X11_plays_38 (N : Nat) (k101 : nS → Int32 → Int32 → Int32 → Int32 → Int32 → Option (Int32 × nS)) (σ : nS) (x1 : Int32) (x3 : Int32) (x4 : Int32) (x5 : Int32) : Option (Int32 × nS) := (if (σ.1 0 32) = (-1) then nLet (wr σ 0 36 x5) (fun σ1 => nIx x1 5 (nLet (σ1.1 3 (x1).toNatClampNeg) (fun v2 => (if x5 = v2 then nLet (wr σ1 0 32 5) (fun σ6 => some ((σ6.1 0 32), σ6)) else nLet ((24 : Int32) * x1 : Int32) (fun v3 => nLet (v3 + x5 : Int32) (fun v4 => (if (2000 : Int32) ≤ (σ1.1 0 34) then k101 σ1 x1 x3 x4 x5 v4 else nIx (σ1.1 0 34) 2000 (nLet (wr σ1 14 ((σ1.1 0 34)).toNatClampNeg x5) (fun σ5 => k101 σ5 x1 x3 x4 x5 v4))))))))) else some ((σ.1 0 32), σ))
set_option maxHeartbeats 4000000 in
set_option maxRecDepth 100000 in
theorem kb_X11_plays_38 {p : Program} {l : Launch} {e : Env} {s : State} {m : MethodId} {args : Array Value} {below : List Frame} {meth : Method} {c : Code} {D : va_G} {A : Nat → Prop} {cy : Nat → ClassId} {a kt vt : Nat → Nat} {N : Nat}   (C0 : nCx p s m args meth c cX11_plays 7 (some .int) RX11 wsX11_plays) (hE : nEn D A cy (Mw cy a) kt vt s) {z : Int32 × nS} {k101 : nS → Int32 → Int32 → Int32 → Int32 → Int32 → Option (Int32 × nS)} (K101 : ∀ (σ : nS) (x1 : Int32) (x3 : Int32) (x4 : Int32) (x5 : Int32) (x6 : Int32) (H : Heap) (locs : List Loc) (ls : Array Slot), lv_has ls 7 [(0, .ref (a 0)), (1, .int x1), (3, .int x3), (4, .int x4), (5, .int x5), (6, .int x6)] → va_P D vwCl ((Mw cy a) σ) H → va_S A s.heap H locs → k101 σ x1 x3 x4 x5 x6 = some z → W p l e ({ frames := 2, cells := 0, slots := 0, locals := 41 } : Room) s m args below meth c H locs 0 0 (nQi below D A (Mw cy a) args s z) (F0 m 101 ls [])) : ∀ (σ : nS) (x1 : Int32) (x3 : Int32) (x4 : Int32) (x5 : Int32) (H : Heap) (locs : List Loc) (ls : Array Slot), lv_has ls 7 [(0, .ref (a 0)), (1, .int x1), (3, .int x3), (4, .int x4), (5, .int x5)] → va_P D vwCl ((Mw cy a) σ) H → va_S A s.heap H locs → b_X11_plays_38 N k101 σ x1 x3 x4 x5 = some z → W p l e ({ frames := 2, cells := 0, slots := 0, locals := 41 } : Room) s m args below meth c H locs 0 0 (nQi below D A (Mw cy a) args s z) (F0 m 38 ls []) := by
  obtain ⟨hx, hb, hr, hml, hown, hts, hlocks⟩ := C0
  intro σ x1 x3 x4 x5 H locs ls hl hP hS hf
  unfold b_X11_plays_38 at hf
  refine lv_aload_n hx hb dX11_plays_38 rfl (lv_at hl 0 rfl) ?_
  refine nb_get (ci := 11) hx hb hts iX11_plays_X11 hown hE hP 0 mbo_0 rfl 32 (by decide) qX11_plays_269 rfl rfl dX11_plays_39 ?_
  refine lv_iconst (v := (-1)) hx hb dX11_plays_42 (by decide) ?_
  refine lv_icmp_ne (tgt := 426) hx hb dX11_plays_43 (by decide) (fun hc => ?_) (fun hc => ?_)
  · replace hf := nIf_f hc hf
    refine lv_aload_n hx hb dX11_plays_426 rfl (lv_at hl 0 rfl) ?_
    refine nb_get (ci := 11) hx hb hts iX11_plays_X11 hown hE hP 0 mbo_0 rfl 32 (by decide) qX11_plays_269 rfl rfl dX11_plays_427 ?_
    exact nb_iret hx hb hr hlocks hP hS (nSo hf) dX11_plays_430
  · replace hf := nIf_t hc hf
    refine lv_aload_n hx hb dX11_plays_46 rfl (lv_at hl 0 rfl) ?_
    refine lv_iload hx hb dX11_plays_47 (lv_at hl 4 rfl) ?_
    refine nb_put (ci := 11) hx hb hts iX11_plays_X11 tyX11 tyX11_ok nmX11 hown hE hP hS 0 mbo_0 rfl 36 (by decide) qX11_plays_272 rfl rfl rfl rfl (Nat.le_of_ble_eq_true rfl) dX11_plays_49 (mbp_0_36 _) (fun σ1 eσ1 H locs hP hS => ?_)
    replace hf := nLet_e hf eσ1
    refine lv_iload hx hb dX11_plays_52 (lv_at hl 4 rfl) ?_
    refine lv_aload_n hx hb dX11_plays_54 rfl (lv_at hl 0 rfl) ?_
    refine nb_get (ci := 11) hx hb hts iX11_plays_X11 hown hE hP 0 mbo_0 rfl 11 (by decide) qX11_plays_23 rfl rfl dX11_plays_55 ?_
    refine lv_iload_n hx hb dX11_plays_58 rfl (lv_at hl 1 rfl) ?_
    obtain ⟨hin, hf⟩ := nIx_e hf
    refine na_iald hx hb hE hP mbr_3 hin dX11_plays_59 ?_
    refine lv_topi (fun v2 ev2 => ?_)
    replace hf := nLet_e hf ev2
    refine lv_icmp_ne (tgt := 71) hx hb dX11_plays_60 (by decide) (fun hc => ?_) (fun hc => ?_)
    · replace hf := nIf_f hc hf
      refine lv_bipush (v := 24) hx hb dX11_plays_71 (by decide) ?_
      refine lv_iload_n hx hb dX11_plays_73 rfl (lv_at hl 1 rfl) ?_
      refine lv_imul hx hb dX11_plays_74 ?_
      refine lv_topi (fun v3 ev3 => ?_)
      replace hf := nLet_e hf ev3
      refine lv_iload hx hb dX11_plays_75 (lv_at hl 4 rfl) ?_
      refine lv_iadd hx hb dX11_plays_77 ?_
      refine lv_topi (fun v4 ev4 => ?_)
      replace hf := nLet_e hf ev4
      refine lv_istore (lv' := [(6, .int v4), (0, .ref (a 0)), (1, .int x1), (3, .int x3), (4, .int x4), (5, .int x5)]) hx hb dX11_plays_78 hl (by decide) rfl (fun ls hl => ?_)
      refine lv_aload_n hx hb dX11_plays_80 rfl (lv_at hl 1 rfl) ?_
      refine nb_get (ci := 11) hx hb hts iX11_plays_X11 hown hE hP 0 mbo_0 rfl 34 (by decide) qX11_plays_266 rfl rfl dX11_plays_81 ?_
      refine lv_sipush (v := 2000) hx hb dX11_plays_84 (by decide) ?_
      refine lv_icmp_ge (tgt := 101) hx hb dX11_plays_87 (by decide) (fun hc => ?_) (fun hc => ?_)
      · replace hf := nIf_t hc hf
        exact K101 σ1 x1 x3 x4 x5 v4 H locs ls (lv_sub hl [1, 2, 3, 4, 5, 0] rfl) hP hS hf
      · replace hf := nIf_f hc hf
        refine lv_aload_n hx hb dX11_plays_90 rfl (lv_at hl 1 rfl) ?_
        refine nb_get (ci := 11) hx hb hts iX11_plays_X11 hown hE hP 0 mbo_0 rfl 30 (by decide) qX11_plays_61 rfl rfl dX11_plays_91 ?_
        refine lv_aload_n hx hb dX11_plays_94 rfl (lv_at hl 1 rfl) ?_
        refine nb_get (ci := 11) hx hb hts iX11_plays_X11 hown hE hP 0 mbo_0 rfl 34 (by decide) qX11_plays_266 rfl rfl dX11_plays_95 ?_
        refine lv_iload hx hb dX11_plays_98 (lv_at hl 5 rfl) ?_
        obtain ⟨hin, hf⟩ := nIx_e hf
        refine na_iast hx hb hE hP hS mbr_14 hin dX11_plays_100 (fun σ5 eσ5 H locs hP hS => ?_)
        replace hf := nLet_e hf eσ5
        exact K101 σ5 x1 x3 x4 x5 v4 H locs ls (lv_sub hl [1, 2, 3, 4, 5, 0] rfl) hP hS hf
    · replace hf := nIf_t hc hf
      refine lv_aload_n hx hb dX11_plays_63 rfl (lv_at hl 0 rfl) ?_
      refine lv_iconst (v := 5) hx hb dX11_plays_64 (by decide) ?_
      refine nb_put (ci := 11) hx hb hts iX11_plays_X11 tyX11 tyX11_ok nmX11 hown hE hP hS 0 mbo_0 rfl 32 (by decide) qX11_plays_269 rfl rfl rfl rfl (Nat.le_of_ble_eq_true rfl) dX11_plays_65 (mbp_0_32 _) (fun σ6 eσ6 H locs hP hS => ?_)
      replace hf := nLet_e hf eσ6
      refine lv_goto (tgt := 426) hx hb dX11_plays_68 (by decide) ?_
      refine lv_aload_n hx hb dX11_plays_426 rfl (lv_at hl 0 rfl) ?_
      refine nb_get (ci := 11) hx hb hts iX11_plays_X11 hown hE hP 0 mbo_0 rfl 32 (by decide) qX11_plays_269 rfl rfl dX11_plays_427 ?_
      exact nb_iret hx hb hr hlocks hP hS (nSo hf) dX11_plays_430
def b_X11_plays_0 (N : Nat) (k38 : nS → Int32 → Int32 → Int32 → Int32 → Option (Int32 × nS)) (σ : nS) (x1 : Int32) (x2 : Int32) (x3 : Int32) (x4 : Int32) : Option (Int32 × nS) := nLet ((σ.1 0 31) + (1 : Int32) : Int32) (fun v1 => nLet (wr σ 0 31 v1) (fun σ2 => nBd (f_X11_allFacts N σ2) (fun r3 σ4 => nLet (x2 &&& r3 : Int32) (fun v5 => nLet (wr σ4 0 35 v5) (fun σ6 => nLet (wr σ6 0 33 0) (fun σ7 => nLet (wr σ7 0 34 0) (fun σ8 => nLet (wr σ8 0 32 (-1)) (fun σ9 => k38 σ9 x1 x3 x4 0))))))))
set_option maxHeartbeats 4000000 in
set_option maxRecDepth 100000 in
theorem kb_X11_plays_0 {p : Program} {l : Launch} {e : Env} {s : State} {m : MethodId} {args : Array Value} {below : List Frame} {meth : Method} {c : Code} {D : va_G} {A : Nat → Prop} {cy : Nat → ClassId} {a kt vt : Nat → Nat} {N : Nat}   (C0 : nCx p s m args meth c cX11_plays 7 (some .int) RX11 wsX11_plays) (hE : nEn D A cy (Mw cy a) kt vt s) {z : Int32 × nS} {k38 : nS → Int32 → Int32 → Int32 → Int32 → Option (Int32 × nS)} (K38 : ∀ (σ : nS) (x1 : Int32) (x3 : Int32) (x4 : Int32) (x5 : Int32) (H : Heap) (locs : List Loc) (ls : Array Slot), lv_has ls 7 [(0, .ref (a 0)), (1, .int x1), (3, .int x3), (4, .int x4), (5, .int x5)] → va_P D vwCl ((Mw cy a) σ) H → va_S A s.heap H locs → k38 σ x1 x3 x4 x5 = some z → W p l e ({ frames := 2, cells := 0, slots := 0, locals := 41 } : Room) s m args below meth c H locs 0 0 (nQi below D A (Mw cy a) args s z) (F0 m 38 ls [])) : ∀ (σ : nS) (x1 : Int32) (x2 : Int32) (x3 : Int32) (x4 : Int32) (H : Heap) (locs : List Loc) (ls : Array Slot), lv_has ls 7 [(0, .ref (a 0)), (1, .int x1), (2, .int x2), (3, .int x3), (4, .int x4)] → va_P D vwCl ((Mw cy a) σ) H → va_S A s.heap H locs → b_X11_plays_0 N k38 σ x1 x2 x3 x4 = some z → W p l e ({ frames := 2, cells := 0, slots := 0, locals := 41 } : Room) s m args below meth c H locs 0 0 (nQi below D A (Mw cy a) args s z) (F0 m 0 ls []) := by
  obtain ⟨hx, hb, hr, hml, hown, hts, hlocks⟩ := C0
  intro σ x1 x2 x3 x4 H locs ls hl hP hS hf
  unfold b_X11_plays_0 at hf
  refine lv_aload_n hx hb dX11_plays_0 rfl (lv_at hl 0 rfl) ?_
  refine lv_dup hx hb dX11_plays_1 rfl ?_
  refine nb_get (ci := 11) hx hb hts iX11_plays_X11 hown hE hP 0 mbo_0 rfl 31 (by decide) qX11_plays_257 rfl rfl dX11_plays_2 ?_
  refine lv_iconst (v := 1) hx hb dX11_plays_5 (by decide) ?_
  refine lv_iadd hx hb dX11_plays_6 ?_
  refine lv_topi (fun v1 ev1 => ?_)
  replace hf := nLet_e hf ev1
  refine nb_put (ci := 11) hx hb hts iX11_plays_X11 tyX11 tyX11_ok nmX11 hown hE hP hS 0 mbo_0 rfl 31 (by decide) qX11_plays_257 rfl rfl rfl rfl (Nat.le_of_ble_eq_true rfl) dX11_plays_7 (mbp_0_31 _) (fun σ2 eσ2 H locs hP hS => ?_)
  replace hf := nLet_e hf eσ2
  refine lv_aload_n hx hb dX11_plays_10 rfl (lv_at hl 0 rfl) ?_
  refine lv_iload_n hx hb dX11_plays_11 rfl (lv_at hl 2 rfl) ?_
  refine lv_aload_n hx hb dX11_plays_12 rfl (lv_at hl 0 rfl) ?_
  obtain ⟨r3, σ4, hc4, hf⟩ := nBd_e hf
  refine nb_callVi (As := []) (rest := [.int x2, .ref (a 0)]) ⟨hx, hb, hml, hown, hts⟩ (c_X11_allFacts (D := D) (A := A) (cy := cy) (a := a) (kt := kt) (vt := vt) (l := l)  hc4) (cwV 0 hts gX11_plays_X11_allFacts rfl rfl rfl (by decide +kernel) ⟨Nat.le_of_ble_eq_true rfl, Nat.le_of_ble_eq_true rfl⟩) hE hP hS mbo_0 rfl rfl hl.1 rfl (Nat.le_of_ble_eq_true rfl) dX11_plays_13 (fun H locs hP hS => ?_)
  refine lv_iand hx hb dX11_plays_16 ?_
  refine lv_topi (fun v5 ev5 => ?_)
  replace hf := nLet_e hf ev5
  refine nb_put (ci := 11) hx hb hts iX11_plays_X11 tyX11 tyX11_ok nmX11 hown hE hP hS 0 mbo_0 rfl 35 (by decide) qX11_plays_260 rfl rfl rfl rfl (Nat.le_of_ble_eq_true rfl) dX11_plays_17 (mbp_0_35 _) (fun σ6 eσ6 H locs hP hS => ?_)
  replace hf := nLet_e hf eσ6
  refine lv_aload_n hx hb dX11_plays_20 rfl (lv_at hl 0 rfl) ?_
  refine lv_iconst (v := 0) hx hb dX11_plays_21 (by decide) ?_
  refine nb_put (ci := 11) hx hb hts iX11_plays_X11 tyX11 tyX11_ok nmX11 hown hE hP hS 0 mbo_0 rfl 33 (by decide) qX11_plays_263 rfl rfl rfl rfl (Nat.le_of_ble_eq_true rfl) dX11_plays_22 (mbp_0_33 _) (fun σ7 eσ7 H locs hP hS => ?_)
  replace hf := nLet_e hf eσ7
  refine lv_aload_n hx hb dX11_plays_25 rfl (lv_at hl 0 rfl) ?_
  refine lv_iconst (v := 0) hx hb dX11_plays_26 (by decide) ?_
  refine nb_put (ci := 11) hx hb hts iX11_plays_X11 tyX11 tyX11_ok nmX11 hown hE hP hS 0 mbo_0 rfl 34 (by decide) qX11_plays_266 rfl rfl rfl rfl (Nat.le_of_ble_eq_true rfl) dX11_plays_27 (mbp_0_34 _) (fun σ8 eσ8 H locs hP hS => ?_)
  replace hf := nLet_e hf eσ8
  refine lv_iconst (v := 0) hx hb dX11_plays_30 (by decide) ?_
  refine lv_istore (lv' := [(5, .int 0), (0, .ref (a 0)), (1, .int x1), (2, .int x2), (3, .int x3), (4, .int x4)]) hx hb dX11_plays_31 hl (by decide) rfl (fun ls hl => ?_)
  refine lv_aload_n hx hb dX11_plays_33 rfl (lv_at hl 1 rfl) ?_
  refine lv_iconst (v := (-1)) hx hb dX11_plays_34 (by decide) ?_
  refine nb_put (ci := 11) hx hb hts iX11_plays_X11 tyX11 tyX11_ok nmX11 hown hE hP hS 0 mbo_0 rfl 32 (by decide) qX11_plays_269 rfl rfl rfl rfl (Nat.le_of_ble_eq_true rfl) dX11_plays_35 (mbp_0_32 _) (fun σ9 eσ9 H locs hP hS => ?_)
  replace hf := nLet_e hf eσ9
  exact K38 σ9 x1 x3 x4 0 H locs ls (lv_sub hl [1, 2, 4, 5, 0] rfl) hP hS hf
def l_X11_plays_369 (N : Nat) (k399 : nS → Int32 → Int32 → Int32 → Int32 → Option (Int32 × nS)) : nS → Int32 → Int32 → Int32 → Int32 → Int32 → Option (Int32 × nS) := b_X11_plays_369 N k399
theorem kl_X11_plays_369 {p : Program} {l : Launch} {e : Env} {s : State} {m : MethodId} {args : Array Value} {below : List Frame} {meth : Method} {c : Code} {D : va_G} {A : Nat → Prop} {cy : Nat → ClassId} {a kt vt : Nat → Nat} {N : Nat}   (C0 : nCx p s m args meth c cX11_plays 7 (some .int) RX11 wsX11_plays) (hE : nEn D A cy (Mw cy a) kt vt s) {z : Int32 × nS} {k399 : nS → Int32 → Int32 → Int32 → Int32 → Option (Int32 × nS)} (K399 : ∀ (σ : nS) (x1 : Int32) (x3 : Int32) (x4 : Int32) (x5 : Int32) (H : Heap) (locs : List Loc) (ls : Array Slot), lv_has ls 7 [(0, .ref (a 0)), (1, .int x1), (3, .int x3), (4, .int x4), (5, .int x5)] → va_P D vwCl ((Mw cy a) σ) H → va_S A s.heap H locs → k399 σ x1 x3 x4 x5 = some z → W p l e ({ frames := 2, cells := 0, slots := 0, locals := 41 } : Room) s m args below meth c H locs 0 0 (nQi below D A (Mw cy a) args s z) (F0 m 399 ls [])) : ∀ (σ : nS) (x1 : Int32) (x3 : Int32) (x4 : Int32) (x5 : Int32) (x6 : Int32) (H : Heap) (locs : List Loc) (ls : Array Slot), lv_has ls 7 [(0, .ref (a 0)), (1, .int x1), (3, .int x3), (4, .int x4), (5, .int x5), (6, .int x6)] → va_P D vwCl ((Mw cy a) σ) H → va_S A s.heap H locs → l_X11_plays_369 N k399 σ x1 x3 x4 x5 x6 = some z → W p l e ({ frames := 2, cells := 0, slots := 0, locals := 41 } : Room) s m args below meth c H locs 0 0 (nQi below D A (Mw cy a) args s z) (F0 m 369 ls []) := by
  exact kb_X11_plays_369 (N := N)  C0 hE K399
def l_X11_plays_263 (N : Nat) (k399 : nS → Int32 → Int32 → Int32 → Int32 → Option (Int32 × nS)) : nS → Int32 → Int32 → Int32 → Int32 → Option (Int32 × nS) := b_X11_plays_263 N k399
theorem kl_X11_plays_263 {p : Program} {l : Launch} {e : Env} {s : State} {m : MethodId} {args : Array Value} {below : List Frame} {meth : Method} {c : Code} {D : va_G} {A : Nat → Prop} {cy : Nat → ClassId} {a kt vt : Nat → Nat} {N : Nat}   (C0 : nCx p s m args meth c cX11_plays 7 (some .int) RX11 wsX11_plays) (hE : nEn D A cy (Mw cy a) kt vt s) {z : Int32 × nS} {k399 : nS → Int32 → Int32 → Int32 → Int32 → Option (Int32 × nS)} (K399 : ∀ (σ : nS) (x1 : Int32) (x3 : Int32) (x4 : Int32) (x5 : Int32) (H : Heap) (locs : List Loc) (ls : Array Slot), lv_has ls 7 [(0, .ref (a 0)), (1, .int x1), (3, .int x3), (4, .int x4), (5, .int x5)] → va_P D vwCl ((Mw cy a) σ) H → va_S A s.heap H locs → k399 σ x1 x3 x4 x5 = some z → W p l e ({ frames := 2, cells := 0, slots := 0, locals := 41 } : Room) s m args below meth c H locs 0 0 (nQi below D A (Mw cy a) args s z) (F0 m 399 ls [])) : ∀ (σ : nS) (x1 : Int32) (x3 : Int32) (x4 : Int32) (y0 : Int32) (H : Heap) (locs : List Loc) (ls : Array Slot), lv_has ls 7 [(0, .ref (a 0)), (1, .int x1), (3, .int x3), (4, .int x4)] → va_P D vwCl ((Mw cy a) σ) H → va_S A s.heap H locs → l_X11_plays_263 N k399 σ x1 x3 x4 y0 = some z → W p l e ({ frames := 2, cells := 0, slots := 0, locals := 41 } : Room) s m args below meth c H locs 0 0 (nQi below D A (Mw cy a) args s z) (F0 m 263 ls [.int y0]) := by
  exact kb_X11_plays_263 (N := N)  C0 hE K399
def l_X11_plays_221 (N : Nat) (k399 : nS → Int32 → Int32 → Int32 → Int32 → Option (Int32 × nS)) : nS → Int32 → Int32 → Int32 → Int32 → Int32 → Option (Int32 × nS) := b_X11_plays_221 N k399
theorem kl_X11_plays_221 {p : Program} {l : Launch} {e : Env} {s : State} {m : MethodId} {args : Array Value} {below : List Frame} {meth : Method} {c : Code} {D : va_G} {A : Nat → Prop} {cy : Nat → ClassId} {a kt vt : Nat → Nat} {N : Nat}   (C0 : nCx p s m args meth c cX11_plays 7 (some .int) RX11 wsX11_plays) (hE : nEn D A cy (Mw cy a) kt vt s) {z : Int32 × nS} {k399 : nS → Int32 → Int32 → Int32 → Int32 → Option (Int32 × nS)} (K399 : ∀ (σ : nS) (x1 : Int32) (x3 : Int32) (x4 : Int32) (x5 : Int32) (H : Heap) (locs : List Loc) (ls : Array Slot), lv_has ls 7 [(0, .ref (a 0)), (1, .int x1), (3, .int x3), (4, .int x4), (5, .int x5)] → va_P D vwCl ((Mw cy a) σ) H → va_S A s.heap H locs → k399 σ x1 x3 x4 x5 = some z → W p l e ({ frames := 2, cells := 0, slots := 0, locals := 41 } : Room) s m args below meth c H locs 0 0 (nQi below D A (Mw cy a) args s z) (F0 m 399 ls [])) : ∀ (σ : nS) (x1 : Int32) (x3 : Int32) (x4 : Int32) (x5 : Int32) (y1 : Int32) (H : Heap) (locs : List Loc) (ls : Array Slot), lv_has ls 7 [(0, .ref (a 0)), (1, .int x1), (3, .int x3), (4, .int x4), (5, .int x5)] → va_P D vwCl ((Mw cy a) σ) H → va_S A s.heap H locs → l_X11_plays_221 N k399 σ x1 x3 x4 x5 y1 = some z → W p l e ({ frames := 2, cells := 0, slots := 0, locals := 41 } : Room) s m args below meth c H locs 0 0 (nQi below D A (Mw cy a) args s z) (F0 m 221 ls [.int y1, .ref (a 0)]) := by
  exact kb_X11_plays_221 (N := N)  C0 hE K399
def l_X11_plays_423 (N : Nat) (k38 : nS → Int32 → Int32 → Int32 → Int32 → Option (Int32 × nS)) : nS → Int32 → Int32 → Int32 → Int32 → Option (Int32 × nS) := b_X11_plays_423 N k38
theorem kl_X11_plays_423 {p : Program} {l : Launch} {e : Env} {s : State} {m : MethodId} {args : Array Value} {below : List Frame} {meth : Method} {c : Code} {D : va_G} {A : Nat → Prop} {cy : Nat → ClassId} {a kt vt : Nat → Nat} {N : Nat}   (C0 : nCx p s m args meth c cX11_plays 7 (some .int) RX11 wsX11_plays) (hE : nEn D A cy (Mw cy a) kt vt s) {z : Int32 × nS} {k38 : nS → Int32 → Int32 → Int32 → Int32 → Option (Int32 × nS)} (K38 : ∀ (σ : nS) (x1 : Int32) (x3 : Int32) (x4 : Int32) (x5 : Int32) (H : Heap) (locs : List Loc) (ls : Array Slot), lv_has ls 7 [(0, .ref (a 0)), (1, .int x1), (3, .int x3), (4, .int x4), (5, .int x5)] → va_P D vwCl ((Mw cy a) σ) H → va_S A s.heap H locs → k38 σ x1 x3 x4 x5 = some z → W p l e ({ frames := 2, cells := 0, slots := 0, locals := 41 } : Room) s m args below meth c H locs 0 0 (nQi below D A (Mw cy a) args s z) (F0 m 38 ls [])) : ∀ (σ : nS) (x1 : Int32) (x3 : Int32) (x4 : Int32) (x5 : Int32) (H : Heap) (locs : List Loc) (ls : Array Slot), lv_has ls 7 [(0, .ref (a 0)), (1, .int x1), (3, .int x3), (4, .int x4), (5, .int x5)] → va_P D vwCl ((Mw cy a) σ) H → va_S A s.heap H locs → l_X11_plays_423 N k38 σ x1 x3 x4 x5 = some z → W p l e ({ frames := 2, cells := 0, slots := 0, locals := 41 } : Room) s m args below meth c H locs 0 0 (nQi below D A (Mw cy a) args s z) (F0 m 423 ls []) := by
  exact kb_X11_plays_423 (N := N)  C0 hE K38
def l_X11_plays_399 (N : Nat) (k38 : nS → Int32 → Int32 → Int32 → Int32 → Option (Int32 × nS)) : nS → Int32 → Int32 → Int32 → Int32 → Option (Int32 × nS) := b_X11_plays_399 N (l_X11_plays_423 N k38)
theorem kl_X11_plays_399 {p : Program} {l : Launch} {e : Env} {s : State} {m : MethodId} {args : Array Value} {below : List Frame} {meth : Method} {c : Code} {D : va_G} {A : Nat → Prop} {cy : Nat → ClassId} {a kt vt : Nat → Nat} {N : Nat}   (C0 : nCx p s m args meth c cX11_plays 7 (some .int) RX11 wsX11_plays) (hE : nEn D A cy (Mw cy a) kt vt s) {z : Int32 × nS} {k38 : nS → Int32 → Int32 → Int32 → Int32 → Option (Int32 × nS)} (K38 : ∀ (σ : nS) (x1 : Int32) (x3 : Int32) (x4 : Int32) (x5 : Int32) (H : Heap) (locs : List Loc) (ls : Array Slot), lv_has ls 7 [(0, .ref (a 0)), (1, .int x1), (3, .int x3), (4, .int x4), (5, .int x5)] → va_P D vwCl ((Mw cy a) σ) H → va_S A s.heap H locs → k38 σ x1 x3 x4 x5 = some z → W p l e ({ frames := 2, cells := 0, slots := 0, locals := 41 } : Room) s m args below meth c H locs 0 0 (nQi below D A (Mw cy a) args s z) (F0 m 38 ls [])) : ∀ (σ : nS) (x1 : Int32) (x3 : Int32) (x4 : Int32) (x5 : Int32) (H : Heap) (locs : List Loc) (ls : Array Slot), lv_has ls 7 [(0, .ref (a 0)), (1, .int x1), (3, .int x3), (4, .int x4), (5, .int x5)] → va_P D vwCl ((Mw cy a) σ) H → va_S A s.heap H locs → l_X11_plays_399 N k38 σ x1 x3 x4 x5 = some z → W p l e ({ frames := 2, cells := 0, slots := 0, locals := 41 } : Room) s m args below meth c H locs 0 0 (nQi below D A (Mw cy a) args s z) (F0 m 399 ls []) := by
  exact kb_X11_plays_399 (N := N)  C0 hE (kl_X11_plays_423 (N := N)  C0 hE K38)
def l_X11_plays_101 (N : Nat) (k38 : nS → Int32 → Int32 → Int32 → Int32 → Option (Int32 × nS)) : nS → Int32 → Int32 → Int32 → Int32 → Int32 → Option (Int32 × nS) := b_X11_plays_101 N (l_X11_plays_221 N (l_X11_plays_399 N k38)) (l_X11_plays_263 N (l_X11_plays_399 N k38)) (l_X11_plays_369 N (l_X11_plays_399 N k38)) (l_X11_plays_399 N k38)
theorem kl_X11_plays_101 {p : Program} {l : Launch} {e : Env} {s : State} {m : MethodId} {args : Array Value} {below : List Frame} {meth : Method} {c : Code} {D : va_G} {A : Nat → Prop} {cy : Nat → ClassId} {a kt vt : Nat → Nat} {N : Nat}   (C0 : nCx p s m args meth c cX11_plays 7 (some .int) RX11 wsX11_plays) (hE : nEn D A cy (Mw cy a) kt vt s) {z : Int32 × nS} {k38 : nS → Int32 → Int32 → Int32 → Int32 → Option (Int32 × nS)} (K38 : ∀ (σ : nS) (x1 : Int32) (x3 : Int32) (x4 : Int32) (x5 : Int32) (H : Heap) (locs : List Loc) (ls : Array Slot), lv_has ls 7 [(0, .ref (a 0)), (1, .int x1), (3, .int x3), (4, .int x4), (5, .int x5)] → va_P D vwCl ((Mw cy a) σ) H → va_S A s.heap H locs → k38 σ x1 x3 x4 x5 = some z → W p l e ({ frames := 2, cells := 0, slots := 0, locals := 41 } : Room) s m args below meth c H locs 0 0 (nQi below D A (Mw cy a) args s z) (F0 m 38 ls [])) : ∀ (σ : nS) (x1 : Int32) (x3 : Int32) (x4 : Int32) (x5 : Int32) (x6 : Int32) (H : Heap) (locs : List Loc) (ls : Array Slot), lv_has ls 7 [(0, .ref (a 0)), (1, .int x1), (3, .int x3), (4, .int x4), (5, .int x5), (6, .int x6)] → va_P D vwCl ((Mw cy a) σ) H → va_S A s.heap H locs → l_X11_plays_101 N k38 σ x1 x3 x4 x5 x6 = some z → W p l e ({ frames := 2, cells := 0, slots := 0, locals := 41 } : Room) s m args below meth c H locs 0 0 (nQi below D A (Mw cy a) args s z) (F0 m 101 ls []) := by
  exact kb_X11_plays_101 (N := N)  C0 hE (kl_X11_plays_221 (N := N)  C0 hE (kl_X11_plays_399 (N := N)  C0 hE K38)) (kl_X11_plays_263 (N := N)  C0 hE (kl_X11_plays_399 (N := N)  C0 hE K38)) (kl_X11_plays_369 (N := N)  C0 hE (kl_X11_plays_399 (N := N)  C0 hE K38)) (kl_X11_plays_399 (N := N)  C0 hE K38)
def l_X11_plays_38 (N : Nat) : nS → Int32 → Int32 → Int32 → Int32 → Option (Int32 × nS) := nLp (fun _ _ _ _ _ => none) (fun again => b_X11_plays_38 N (l_X11_plays_101 N again)) N
theorem kl_X11_plays_38 {p : Program} {l : Launch} {e : Env} {s : State} {m : MethodId} {args : Array Value} {below : List Frame} {meth : Method} {c : Code} {D : va_G} {A : Nat → Prop} {cy : Nat → ClassId} {a kt vt : Nat → Nat} {N : Nat}   (C0 : nCx p s m args meth c cX11_plays 7 (some .int) RX11 wsX11_plays) (hE : nEn D A cy (Mw cy a) kt vt s) {z : Int32 × nS} : ∀ (σ : nS) (x1 : Int32) (x3 : Int32) (x4 : Int32) (x5 : Int32) (H : Heap) (locs : List Loc) (ls : Array Slot), lv_has ls 7 [(0, .ref (a 0)), (1, .int x1), (3, .int x3), (4, .int x4), (5, .int x5)] → va_P D vwCl ((Mw cy a) σ) H → va_S A s.heap H locs → l_X11_plays_38 N σ x1 x3 x4 x5 = some z → W p l e ({ frames := 2, cells := 0, slots := 0, locals := 41 } : Room) s m args below meth c H locs 0 0 (nQi below D A (Mw cy a) args s z) (F0 m 38 ls []) := by
  have main : ∀ (fu : Nat), ∀ (σ : nS) (x1 : Int32) (x3 : Int32) (x4 : Int32) (x5 : Int32) (H : Heap) (locs : List Loc) (ls : Array Slot), lv_has ls 7 [(0, .ref (a 0)), (1, .int x1), (3, .int x3), (4, .int x4), (5, .int x5)] → va_P D vwCl ((Mw cy a) σ) H → va_S A s.heap H locs → nLp (fun _ _ _ _ _ => none) (fun again => b_X11_plays_38 N (l_X11_plays_101 N again)) fu σ x1 x3 x4 x5 = some z → W p l e ({ frames := 2, cells := 0, slots := 0, locals := 41 } : Room) s m args below meth c H locs 0 0 (nQi below D A (Mw cy a) args s z) (F0 m 38 ls []) := by
    intro fu
    induction fu with
    | zero => intro σ x1 x3 x4 x5 H locs ls hl hP hS hf; cases hf
    | succ fu ih => exact kb_X11_plays_38 (N := N)  C0 hE (kl_X11_plays_101 (N := N)  C0 hE ih)
  exact main N
def l_X11_plays_0 (N : Nat) : nS → Int32 → Int32 → Int32 → Int32 → Option (Int32 × nS) := b_X11_plays_0 N (l_X11_plays_38 N)
theorem kl_X11_plays_0 {p : Program} {l : Launch} {e : Env} {s : State} {m : MethodId} {args : Array Value} {below : List Frame} {meth : Method} {c : Code} {D : va_G} {A : Nat → Prop} {cy : Nat → ClassId} {a kt vt : Nat → Nat} {N : Nat}   (C0 : nCx p s m args meth c cX11_plays 7 (some .int) RX11 wsX11_plays) (hE : nEn D A cy (Mw cy a) kt vt s) {z : Int32 × nS} : ∀ (σ : nS) (x1 : Int32) (x2 : Int32) (x3 : Int32) (x4 : Int32) (H : Heap) (locs : List Loc) (ls : Array Slot), lv_has ls 7 [(0, .ref (a 0)), (1, .int x1), (2, .int x2), (3, .int x3), (4, .int x4)] → va_P D vwCl ((Mw cy a) σ) H → va_S A s.heap H locs → l_X11_plays_0 N σ x1 x2 x3 x4 = some z → W p l e ({ frames := 2, cells := 0, slots := 0, locals := 41 } : Room) s m args below meth c H locs 0 0 (nQi below D A (Mw cy a) args s z) (F0 m 0 ls []) := by
  exact kb_X11_plays_0 (N := N)  C0 hE (kl_X11_plays_38 (N := N)  C0 hE)
def f_X11_plays (N : Nat) (x1 : Int32) (x2 : Int32) (x3 : Int32) (x4 : Int32) (σ : nS) : Option (Int32 × nS) := l_X11_plays_0 N σ x1 x2 x3 x4
set_option maxHeartbeats 4000000 in
set_option maxRecDepth 100000 in
theorem c_X11_plays {l : Launch} {D : va_G} {A : Nat → Prop} {cy : Nat → ClassId} {a kt vt : Nat → Nat} {N : Nat}   {x1 : Int32} {x2 : Int32} {x3 : Int32} {x4 : Int32} {σ : nS} {r : Int32} {σ' : nS} (hf : f_X11_plays N x1 x2 x3 x4 σ = some (r, σ')) : nMi l yX11_plays wsX11_plays ({ frames := 2, cells := 0, slots := 0, locals := 41 } : Room) D A cy (Mw cy a) kt vt [.ref (a 0), .int x1, .int x2, .int x3, .int x4] σ r σ' := by
  refine Met.ofW (cc := cX11_plays) (maxL := 7) (ret := (some .int)) (by decide) rfl ?_
  intro p e s m args below meth c s₁ B hml hv
  obtain ⟨rfl, hP, hE⟩ := hv
  have hl := lv_entry ([.ref (a 0), .int x1, .int x2, .int x3, .int x4]) (n := 7) (Nat.le_of_ble_eq_true rfl)
  rw [lg_entry_eq]
  generalize (lg_sl ([.ref (a 0), .int x1, .int x2, .int x3, .int x4]) ++ List.replicate (7 - (lg_sl ([.ref (a 0), .int x1, .int x2, .int x3, .int x4])).length) Slot.unset).toArray = ls at hl ⊢
  have C0 : nCx p s m _ meth c cX11_plays 7 (some .int) RX11 wsX11_plays := ⟨B.exec, B.bytes, B.returns, hml, findClass_of_methodNamed B.named, atoms_spec (ws := wsX11_plays) B.pre, B.notSynchronized⟩
  exact kl_X11_plays_0 (N := N)  C0 hE (z := (r, σ')) σ x1 x2 x3 x4 _ _ ls hl hP va_S.rf hf
