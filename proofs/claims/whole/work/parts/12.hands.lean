/-! X3_rest -/
set_option maxRecDepth 20000 in
theorem iX3_rest_X3 : ∀ w ∈ u_ws RX3 TX3 1, w ∈ wsX3_rest := fun _ h => List.mem_cons_of_mem _ (List.mem_append_right _ h)
set_option maxRecDepth 20000 in
theorem qX3_rest_9 : Cond.fieldLink RX3 9 RX3 (TX3 0).2.1 (TX3 0).2.2.1 ∈ wsX3_rest := by decide +kernel
def b_X3_rest_0 (N : Nat) (σ : nS) : Option (Int32 × nS) := nBd (f_J7_fill_53178 N 11 4 0 σ) (fun r1 σ2 => some (0, σ2))
set_option maxHeartbeats 4000000 in
set_option maxRecDepth 100000 in
theorem kb_X3_rest_0 {p : Program} {l : Launch} {e : Env} {s : State} {m : MethodId} {args : Array Value} {below : List Frame} {meth : Method} {c : Code} {D : va_G} {A : Nat → Prop} {cy : Nat → ClassId} {a kt vt : Nat → Nat} {N : Nat}   (C0 : nCx p s m args meth c cX3_rest 1 none RX3 wsX3_rest) (hE : nEn D A cy (NBw cy a) kt vt s) {z : Int32 × nS} : ∀ (σ : nS) (H : Heap) (locs : List Loc) (ls : Array Slot), lv_has ls 1 [(0, .ref (a 10))] → va_P D vwCl ((NBw cy a) σ) H → va_S A s.heap H locs → b_X3_rest_0 N σ = some z → W p l e ({ frames := 1, cells := 0, slots := 0, locals := 23 } : Room) s m args below meth c H locs 0 0 (nQv below D A (NBw cy a) args s z) (F0 m 0 ls []) := by
  obtain ⟨hx, hb, hr, hml, hown, hts, hlocks⟩ := C0
  intro σ  H locs ls hl hP hS hf
  unfold b_X3_rest_0 at hf
  refine lv_aload_n hx hb dX3_rest_0 rfl (lv_at hl 0 rfl) ?_
  refine nb_get (ci := 3) hx hb hts iX3_rest_X3 hown hE hP 10 nbo_10 rfl 0 (by decide) qX3_rest_9 rfl rfl dX3_rest_1 ?_
  refine lv_iconst (v := 0) hx hb dX3_rest_4 (by decide) ?_
  obtain ⟨r1, σ2, hc2, hf⟩ := nBd_e hf
  refine nb_callSv (As := [.ref (a 11), .int 0]) (rest := []) ⟨hx, hb, hml, hown, hts⟩ (c_J7_fill_53178 (D := D) (A := A) (cy := cy) (a := a) (kt := kt) (vt := vt) (l := l) nbr_11 hc2) (va_cwS 2 hts gX3_rest_J7_fill_53178 rfl rfl rfl (by decide +kernel) ⟨Nat.le_of_ble_eq_true rfl, Nat.le_of_ble_eq_true rfl⟩) hE hP hS rfl hl.1 rfl (Nat.le_of_ble_eq_true rfl) dX3_rest_5 (fun H locs hP hS => ?_)
  exact nb_vret hx hb hr hlocks hP hS (nSo hf) dX3_rest_8
def l_X3_rest_0 (N : Nat) : nS → Option (Int32 × nS) := b_X3_rest_0 N
theorem kl_X3_rest_0 {p : Program} {l : Launch} {e : Env} {s : State} {m : MethodId} {args : Array Value} {below : List Frame} {meth : Method} {c : Code} {D : va_G} {A : Nat → Prop} {cy : Nat → ClassId} {a kt vt : Nat → Nat} {N : Nat}   (C0 : nCx p s m args meth c cX3_rest 1 none RX3 wsX3_rest) (hE : nEn D A cy (NBw cy a) kt vt s) {z : Int32 × nS} : ∀ (σ : nS) (H : Heap) (locs : List Loc) (ls : Array Slot), lv_has ls 1 [(0, .ref (a 10))] → va_P D vwCl ((NBw cy a) σ) H → va_S A s.heap H locs → l_X3_rest_0 N σ = some z → W p l e ({ frames := 1, cells := 0, slots := 0, locals := 23 } : Room) s m args below meth c H locs 0 0 (nQv below D A (NBw cy a) args s z) (F0 m 0 ls []) := by
  exact kb_X3_rest_0 (N := N)  C0 hE
def f_X3_rest (N : Nat) (σ : nS) : Option (Int32 × nS) := l_X3_rest_0 N σ
set_option maxHeartbeats 4000000 in
set_option maxRecDepth 100000 in
theorem c_X3_rest {l : Launch} {D : va_G} {A : Nat → Prop} {cy : Nat → ClassId} {a kt vt : Nat → Nat} {N : Nat}   {σ : nS} {r : Int32} {σ' : nS} (hf : f_X3_rest N σ = some (r, σ')) : nMv l yX3_rest wsX3_rest ({ frames := 1, cells := 0, slots := 0, locals := 23 } : Room) D A cy (NBw cy a) kt vt [.ref (a 10)] σ σ' := by
  refine Met.ofW (cc := cX3_rest) (maxL := 1) (ret := none) (by decide) rfl ?_
  intro p e s m args below meth c s₁ B hml hv
  obtain ⟨rfl, hP, hE⟩ := hv
  have hl := lv_entry ([.ref (a 10)]) (n := 1) (Nat.le_of_ble_eq_true rfl)
  rw [lg_entry_eq]
  generalize (lg_sl ([.ref (a 10)]) ++ List.replicate (1 - (lg_sl ([.ref (a 10)])).length) Slot.unset).toArray = ls at hl ⊢
  have C0 : nCx p s m _ meth c cX3_rest 1 none RX3 wsX3_rest := ⟨B.exec, B.bytes, B.returns, hml, findClass_of_methodNamed B.named, atoms_spec (ws := wsX3_rest) B.pre, B.notSynchronized⟩
  exact kl_X3_rest_0 (N := N)  C0 hE (z := (r, σ')) σ  _ _ ls hl hP va_S.rf hf

/-! X3_pick -/
set_option maxRecDepth 20000 in
theorem iX3_pick_X7 : ∀ w ∈ u_ws RX7 TX7 9, w ∈ wsX3_pick := fun _ h => List.mem_cons_of_mem _ (List.mem_append_left _ (List.mem_append_right _ h))
set_option maxRecDepth 20000 in
theorem iX3_pick_X3 : ∀ w ∈ u_ws RX3 TX3 1, w ∈ wsX3_pick := fun _ h => List.mem_cons_of_mem _ (List.mem_append_right _ h)
set_option maxRecDepth 20000 in
theorem qX3_pick_9 : Cond.fieldLink RX3 9 RX3 (TX3 0).2.1 (TX3 0).2.2.1 ∈ wsX3_pick := by decide +kernel
def b_X3_pick_78 (N : Nat) (k6 : nS → Int32 → Int32 → Int32 → Int32 → Int32 → Option (Int32 × nS)) (σ : nS) (x2 : Int32) (x3 : Int32) (x4 : Int32) (x5 : Int32) (x6 : Int32) : Option (Int32 × nS) := nLet (x6 + 1 : Int32) (fun v1 => k6 σ x2 x3 x4 x5 v1)
set_option maxHeartbeats 4000000 in
set_option maxRecDepth 100000 in
theorem kb_X3_pick_78 {p : Program} {l : Launch} {e : Env} {s : State} {m : MethodId} {args : Array Value} {below : List Frame} {meth : Method} {c : Code} {D : va_G} {A : Nat → Prop} {cy : Nat → ClassId} {a kt vt : Nat → Nat} {N : Nat}   (C0 : nCx p s m args meth c cX3_pick 7 (some .int) RX3 wsX3_pick) (hE : nEn D A cy (NBw cy a) kt vt s) {z : Int32 × nS} {k6 : nS → Int32 → Int32 → Int32 → Int32 → Int32 → Option (Int32 × nS)} (K6 : ∀ (σ : nS) (x2 : Int32) (x3 : Int32) (x4 : Int32) (x5 : Int32) (x6 : Int32) (H : Heap) (locs : List Loc) (ls : Array Slot), lv_has ls 7 [(0, .ref (a 10)), (1, .ref (a 1)), (2, .int x2), (3, .int x3), (4, .int x4), (5, .int x5), (6, .int x6)] → va_P D vwCl ((NBw cy a) σ) H → va_S A s.heap H locs → k6 σ x2 x3 x4 x5 x6 = some z → W p l e ({ frames := 0, cells := 0, slots := 0, locals := 0 } : Room) s m args below meth c H locs 0 0 (nQi below D A (NBw cy a) args s z) (F0 m 6 ls [])) : ∀ (σ : nS) (x2 : Int32) (x3 : Int32) (x4 : Int32) (x5 : Int32) (x6 : Int32) (H : Heap) (locs : List Loc) (ls : Array Slot), lv_has ls 7 [(0, .ref (a 10)), (1, .ref (a 1)), (2, .int x2), (3, .int x3), (4, .int x4), (5, .int x5), (6, .int x6)] → va_P D vwCl ((NBw cy a) σ) H → va_S A s.heap H locs → b_X3_pick_78 N k6 σ x2 x3 x4 x5 x6 = some z → W p l e ({ frames := 0, cells := 0, slots := 0, locals := 0 } : Room) s m args below meth c H locs 0 0 (nQi below D A (NBw cy a) args s z) (F0 m 78 ls []) := by
  obtain ⟨hx, hb, hr, hml, hown, hts, hlocks⟩ := C0
  intro σ x2 x3 x4 x5 x6 H locs ls hl hP hS hf
  unfold b_X3_pick_78 at hf
  obtain ⟨v1, ev1⟩ : ∃ y : Int32, y = x6 + 1 := ⟨_, rfl⟩
  replace hf := nLet_e hf ev1
  refine lv_iinc (v := v1) (lv' := [(6, .int v1), (0, .ref (a 10)), (1, .ref (a 1)), (2, .int x2), (3, .int x3), (4, .int x4), (5, .int x5)]) hx hb dX3_pick_78 hl (k := 6) rfl (by rw [ev1]; rfl) (by decide) rfl (fun ls hl => ?_)
  refine lv_goto (tgt := 6) hx hb dX3_pick_81 (by decide) ?_
  exact K6 σ x2 x3 x4 x5 v1 H locs ls (lv_sub hl [1, 2, 3, 4, 5, 6, 0] rfl) hP hS hf
def b_X3_pick_6 (N : Nat) (k78 : nS → Int32 → Int32 → Int32 → Int32 → Int32 → Option (Int32 × nS)) (σ : nS) (x2 : Int32) (x3 : Int32) (x4 : Int32) (x5 : Int32) (x6 : Int32) : Option (Int32 × nS) := (if (σ.1 1 2) ≤ x6 then some (x5, σ) else nLet (Int32.ofNat 4) (fun v1 => (if v1 ≤ x6 then some (x5, σ) else nLet (Int32.ofNat 4) (fun v2 => (if v2 ≤ x6 then some (x5, σ) else nIx x6 4 (nLet (σ.1 3 (x6).toNatClampNeg) (fun v3 => nLet (v3 >>> (x2 &&& 31) : Int32) (fun v4 => nLet (v4 &&& (1 : Int32) : Int32) (fun v5 => (if v5 = 1 then nLet (x3 >>> (x6 &&& 31) : Int32) (fun v6 => nLet (v6 &&& (1 : Int32) : Int32) (fun v7 => (if v7 = 0 then nIx x6 4 (nLet (σ.1 11 (x6).toNatClampNeg) (fun v8 => (if x4 < v8 then k78 σ x2 x3 x4 (-2) x6 else some (x6, σ)))) else k78 σ x2 x3 x4 x5 x6))) else k78 σ x2 x3 x4 x5 x6))))))))))
set_option maxHeartbeats 4000000 in
set_option maxRecDepth 100000 in
theorem kb_X3_pick_6 {p : Program} {l : Launch} {e : Env} {s : State} {m : MethodId} {args : Array Value} {below : List Frame} {meth : Method} {c : Code} {D : va_G} {A : Nat → Prop} {cy : Nat → ClassId} {a kt vt : Nat → Nat} {N : Nat}   (C0 : nCx p s m args meth c cX3_pick 7 (some .int) RX3 wsX3_pick) (hE : nEn D A cy (NBw cy a) kt vt s) {z : Int32 × nS} {k78 : nS → Int32 → Int32 → Int32 → Int32 → Int32 → Option (Int32 × nS)} (K78 : ∀ (σ : nS) (x2 : Int32) (x3 : Int32) (x4 : Int32) (x5 : Int32) (x6 : Int32) (H : Heap) (locs : List Loc) (ls : Array Slot), lv_has ls 7 [(0, .ref (a 10)), (1, .ref (a 1)), (2, .int x2), (3, .int x3), (4, .int x4), (5, .int x5), (6, .int x6)] → va_P D vwCl ((NBw cy a) σ) H → va_S A s.heap H locs → k78 σ x2 x3 x4 x5 x6 = some z → W p l e ({ frames := 0, cells := 0, slots := 0, locals := 0 } : Room) s m args below meth c H locs 0 0 (nQi below D A (NBw cy a) args s z) (F0 m 78 ls [])) : ∀ (σ : nS) (x2 : Int32) (x3 : Int32) (x4 : Int32) (x5 : Int32) (x6 : Int32) (H : Heap) (locs : List Loc) (ls : Array Slot), lv_has ls 7 [(0, .ref (a 10)), (1, .ref (a 1)), (2, .int x2), (3, .int x3), (4, .int x4), (5, .int x5), (6, .int x6)] → va_P D vwCl ((NBw cy a) σ) H → va_S A s.heap H locs → b_X3_pick_6 N k78 σ x2 x3 x4 x5 x6 = some z → W p l e ({ frames := 0, cells := 0, slots := 0, locals := 0 } : Room) s m args below meth c H locs 0 0 (nQi below D A (NBw cy a) args s z) (F0 m 6 ls []) := by
  obtain ⟨hx, hb, hr, hml, hown, hts, hlocks⟩ := C0
  intro σ x2 x3 x4 x5 x6 H locs ls hl hP hS hf
  unfold b_X3_pick_6 at hf
  refine lv_iload hx hb dX3_pick_6 (lv_at hl 6 rfl) ?_
  refine lv_aload_n hx hb dX3_pick_8 rfl (lv_at hl 1 rfl) ?_
  refine nb_getN (ci := 7) hx hb hts iX3_pick_X7 hown hE hP 1 nbo_1 rfl 2 (by decide) (host := RX8) (by decide +kernel) rfl rfl dX3_pick_9 ?_
  refine lv_icmp_ge (tgt := 84) hx hb dX3_pick_12 (by decide) (fun hc => ?_) (fun hc => ?_)
  · replace hf := nIf_t hc hf
    refine lv_iload hx hb dX3_pick_84 (lv_at hl 5 rfl) ?_
    exact nb_iret hx hb hr hlocks hP hS (nSo hf) dX3_pick_86
  · replace hf := nIf_f hc hf
    refine lv_iload hx hb dX3_pick_15 (lv_at hl 6 rfl) ?_
    refine lv_aload_n hx hb dX3_pick_17 rfl (lv_at hl 0 rfl) ?_
    refine nb_get (ci := 3) hx hb hts iX3_pick_X3 hown hE hP 10 nbo_10 rfl 0 (by decide) qX3_pick_9 rfl rfl dX3_pick_18 ?_
    refine na_alen hx hb hE hP nbr_11 dX3_pick_21 ?_
    refine lv_topi (fun v1 ev1 => ?_)
    replace hf := nLet_e hf ev1
    refine lv_icmp_ge (tgt := 84) hx hb dX3_pick_22 (by decide) (fun hc => ?_) (fun hc => ?_)
    · replace hf := nIf_t hc hf
      refine lv_iload hx hb dX3_pick_84 (lv_at hl 5 rfl) ?_
      exact nb_iret hx hb hr hlocks hP hS (nSo hf) dX3_pick_86
    · replace hf := nIf_f hc hf
      refine lv_iload hx hb dX3_pick_25 (lv_at hl 6 rfl) ?_
      refine lv_aload_n hx hb dX3_pick_27 rfl (lv_at hl 1 rfl) ?_
      refine nb_getN (ci := 7) hx hb hts iX3_pick_X7 hown hE hP 1 nbo_1 rfl 6 (by decide) (host := RX8) (by decide +kernel) rfl rfl dX3_pick_28 ?_
      refine na_alen hx hb hE hP nbr_3 dX3_pick_31 ?_
      refine lv_topi (fun v2 ev2 => ?_)
      replace hf := nLet_e hf ev2
      refine lv_icmp_ge (tgt := 84) hx hb dX3_pick_32 (by decide) (fun hc => ?_) (fun hc => ?_)
      · replace hf := nIf_t hc hf
        refine lv_iload hx hb dX3_pick_84 (lv_at hl 5 rfl) ?_
        exact nb_iret hx hb hr hlocks hP hS (nSo hf) dX3_pick_86
      · replace hf := nIf_f hc hf
        refine lv_aload_n hx hb dX3_pick_35 rfl (lv_at hl 1 rfl) ?_
        refine nb_getN (ci := 7) hx hb hts iX3_pick_X7 hown hE hP 1 nbo_1 rfl 6 (by decide) (host := RX8) (by decide +kernel) rfl rfl dX3_pick_36 ?_
        refine lv_iload hx hb dX3_pick_39 (lv_at hl 6 rfl) ?_
        obtain ⟨hin, hf⟩ := nIx_e hf
        refine na_iald hx hb hE hP nbr_3 hin dX3_pick_41 ?_
        refine lv_topi (fun v3 ev3 => ?_)
        replace hf := nLet_e hf ev3
        refine lv_iload_n hx hb dX3_pick_42 rfl (lv_at hl 2 rfl) ?_
        refine lv_ishr hx hb dX3_pick_43 ?_
        refine lv_topi (fun v4 ev4 => ?_)
        replace hf := nLet_e hf ev4
        refine lv_iconst (v := 1) hx hb dX3_pick_44 (by decide) ?_
        refine lv_iand hx hb dX3_pick_45 ?_
        refine lv_topi (fun v5 ev5 => ?_)
        replace hf := nLet_e hf ev5
        refine lv_iconst (v := 1) hx hb dX3_pick_46 (by decide) ?_
        refine lv_icmp_ne (tgt := 78) hx hb dX3_pick_47 (by decide) (fun hc => ?_) (fun hc => ?_)
        · replace hf := nIf_f hc hf
          exact K78 σ x2 x3 x4 x5 x6 H locs ls (lv_sub hl [0, 1, 2, 3, 4, 5, 6] rfl) hP hS hf
        · replace hf := nIf_t hc hf
          refine lv_iload_n hx hb dX3_pick_50 rfl (lv_at hl 3 rfl) ?_
          refine lv_iload hx hb dX3_pick_51 (lv_at hl 6 rfl) ?_
          refine lv_ishr hx hb dX3_pick_53 ?_
          refine lv_topi (fun v6 ev6 => ?_)
          replace hf := nLet_e hf ev6
          refine lv_iconst (v := 1) hx hb dX3_pick_54 (by decide) ?_
          refine lv_iand hx hb dX3_pick_55 ?_
          refine lv_topi (fun v7 ev7 => ?_)
          replace hf := nLet_e hf ev7
          refine lv_if_ne (tgt := 78) hx hb dX3_pick_56 (by decide) (fun hc => ?_) (fun hc => ?_)
          · replace hf := nIf_f hc hf
            exact K78 σ x2 x3 x4 x5 x6 H locs ls (lv_sub hl [0, 1, 2, 3, 4, 5, 6] rfl) hP hS hf
          · replace hf := nIf_t hc hf
            refine lv_aload_n hx hb dX3_pick_59 rfl (lv_at hl 0 rfl) ?_
            refine nb_get (ci := 3) hx hb hts iX3_pick_X3 hown hE hP 10 nbo_10 rfl 0 (by decide) qX3_pick_9 rfl rfl dX3_pick_60 ?_
            refine lv_iload hx hb dX3_pick_63 (lv_at hl 6 rfl) ?_
            obtain ⟨hin, hf⟩ := nIx_e hf
            refine na_iald hx hb hE hP nbr_11 hin dX3_pick_65 ?_
            refine lv_topi (fun v8 ev8 => ?_)
            replace hf := nLet_e hf ev8
            refine lv_iload hx hb dX3_pick_66 (lv_at hl 4 rfl) ?_
            refine lv_icmp_gt (tgt := 74) hx hb dX3_pick_68 (by decide) (fun hc => ?_) (fun hc => ?_)
            · replace hf := nIf_t hc hf
              refine lv_bipush (v := (-2)) hx hb dX3_pick_74 (by decide) ?_
              refine lv_istore (lv' := [(5, .int (-2)), (0, .ref (a 10)), (1, .ref (a 1)), (2, .int x2), (3, .int x3), (4, .int x4), (6, .int x6)]) hx hb dX3_pick_76 hl (by decide) rfl (fun ls hl => ?_)
              exact K78 σ x2 x3 x4 (-2) x6 H locs ls (lv_sub hl [1, 2, 3, 4, 5, 0, 6] rfl) hP hS hf
            · replace hf := nIf_f hc hf
              refine lv_iload hx hb dX3_pick_71 (lv_at hl 6 rfl) ?_
              exact nb_iret hx hb hr hlocks hP hS (nSo hf) dX3_pick_73
def b_X3_pick_0 (N : Nat) (k6 : nS → Int32 → Int32 → Int32 → Int32 → Int32 → Option (Int32 × nS)) (σ : nS) (x2 : Int32) (x3 : Int32) (x4 : Int32) : Option (Int32 × nS) := k6 σ x2 x3 x4 (-1) 0
set_option maxHeartbeats 4000000 in
set_option maxRecDepth 100000 in
theorem kb_X3_pick_0 {p : Program} {l : Launch} {e : Env} {s : State} {m : MethodId} {args : Array Value} {below : List Frame} {meth : Method} {c : Code} {D : va_G} {A : Nat → Prop} {cy : Nat → ClassId} {a kt vt : Nat → Nat} {N : Nat}   (C0 : nCx p s m args meth c cX3_pick 7 (some .int) RX3 wsX3_pick) (hE : nEn D A cy (NBw cy a) kt vt s) {z : Int32 × nS} {k6 : nS → Int32 → Int32 → Int32 → Int32 → Int32 → Option (Int32 × nS)} (K6 : ∀ (σ : nS) (x2 : Int32) (x3 : Int32) (x4 : Int32) (x5 : Int32) (x6 : Int32) (H : Heap) (locs : List Loc) (ls : Array Slot), lv_has ls 7 [(0, .ref (a 10)), (1, .ref (a 1)), (2, .int x2), (3, .int x3), (4, .int x4), (5, .int x5), (6, .int x6)] → va_P D vwCl ((NBw cy a) σ) H → va_S A s.heap H locs → k6 σ x2 x3 x4 x5 x6 = some z → W p l e ({ frames := 0, cells := 0, slots := 0, locals := 0 } : Room) s m args below meth c H locs 0 0 (nQi below D A (NBw cy a) args s z) (F0 m 6 ls [])) : ∀ (σ : nS) (x2 : Int32) (x3 : Int32) (x4 : Int32) (H : Heap) (locs : List Loc) (ls : Array Slot), lv_has ls 7 [(0, .ref (a 10)), (1, .ref (a 1)), (2, .int x2), (3, .int x3), (4, .int x4)] → va_P D vwCl ((NBw cy a) σ) H → va_S A s.heap H locs → b_X3_pick_0 N k6 σ x2 x3 x4 = some z → W p l e ({ frames := 0, cells := 0, slots := 0, locals := 0 } : Room) s m args below meth c H locs 0 0 (nQi below D A (NBw cy a) args s z) (F0 m 0 ls []) := by
  obtain ⟨hx, hb, hr, hml, hown, hts, hlocks⟩ := C0
  intro σ x2 x3 x4 H locs ls hl hP hS hf
  unfold b_X3_pick_0 at hf
  refine lv_iconst (v := (-1)) hx hb dX3_pick_0 (by decide) ?_
  refine lv_istore (lv' := [(5, .int (-1)), (0, .ref (a 10)), (1, .ref (a 1)), (2, .int x2), (3, .int x3), (4, .int x4)]) hx hb dX3_pick_1 hl (by decide) rfl (fun ls hl => ?_)
  refine lv_iconst (v := 0) hx hb dX3_pick_3 (by decide) ?_
  refine lv_istore (lv' := [(6, .int 0), (5, .int (-1)), (0, .ref (a 10)), (1, .ref (a 1)), (2, .int x2), (3, .int x3), (4, .int x4)]) hx hb dX3_pick_4 hl (by decide) rfl (fun ls hl => ?_)
  exact K6 σ x2 x3 x4 (-1) 0 H locs ls (lv_sub hl [2, 3, 4, 5, 6, 1, 0] rfl) hP hS hf
def l_X3_pick_78 (N : Nat) (k6 : nS → Int32 → Int32 → Int32 → Int32 → Int32 → Option (Int32 × nS)) : nS → Int32 → Int32 → Int32 → Int32 → Int32 → Option (Int32 × nS) := b_X3_pick_78 N k6
theorem kl_X3_pick_78 {p : Program} {l : Launch} {e : Env} {s : State} {m : MethodId} {args : Array Value} {below : List Frame} {meth : Method} {c : Code} {D : va_G} {A : Nat → Prop} {cy : Nat → ClassId} {a kt vt : Nat → Nat} {N : Nat}   (C0 : nCx p s m args meth c cX3_pick 7 (some .int) RX3 wsX3_pick) (hE : nEn D A cy (NBw cy a) kt vt s) {z : Int32 × nS} {k6 : nS → Int32 → Int32 → Int32 → Int32 → Int32 → Option (Int32 × nS)} (K6 : ∀ (σ : nS) (x2 : Int32) (x3 : Int32) (x4 : Int32) (x5 : Int32) (x6 : Int32) (H : Heap) (locs : List Loc) (ls : Array Slot), lv_has ls 7 [(0, .ref (a 10)), (1, .ref (a 1)), (2, .int x2), (3, .int x3), (4, .int x4), (5, .int x5), (6, .int x6)] → va_P D vwCl ((NBw cy a) σ) H → va_S A s.heap H locs → k6 σ x2 x3 x4 x5 x6 = some z → W p l e ({ frames := 0, cells := 0, slots := 0, locals := 0 } : Room) s m args below meth c H locs 0 0 (nQi below D A (NBw cy a) args s z) (F0 m 6 ls [])) : ∀ (σ : nS) (x2 : Int32) (x3 : Int32) (x4 : Int32) (x5 : Int32) (x6 : Int32) (H : Heap) (locs : List Loc) (ls : Array Slot), lv_has ls 7 [(0, .ref (a 10)), (1, .ref (a 1)), (2, .int x2), (3, .int x3), (4, .int x4), (5, .int x5), (6, .int x6)] → va_P D vwCl ((NBw cy a) σ) H → va_S A s.heap H locs → l_X3_pick_78 N k6 σ x2 x3 x4 x5 x6 = some z → W p l e ({ frames := 0, cells := 0, slots := 0, locals := 0 } : Room) s m args below meth c H locs 0 0 (nQi below D A (NBw cy a) args s z) (F0 m 78 ls []) := by
  exact kb_X3_pick_78 (N := N)  C0 hE K6
def l_X3_pick_6 (N : Nat) : nS → Int32 → Int32 → Int32 → Int32 → Int32 → Option (Int32 × nS) := nLp (fun _ _ _ _ _ _ => none) (fun again => b_X3_pick_6 N (l_X3_pick_78 N again)) N
theorem kl_X3_pick_6 {p : Program} {l : Launch} {e : Env} {s : State} {m : MethodId} {args : Array Value} {below : List Frame} {meth : Method} {c : Code} {D : va_G} {A : Nat → Prop} {cy : Nat → ClassId} {a kt vt : Nat → Nat} {N : Nat}   (C0 : nCx p s m args meth c cX3_pick 7 (some .int) RX3 wsX3_pick) (hE : nEn D A cy (NBw cy a) kt vt s) {z : Int32 × nS} : ∀ (σ : nS) (x2 : Int32) (x3 : Int32) (x4 : Int32) (x5 : Int32) (x6 : Int32) (H : Heap) (locs : List Loc) (ls : Array Slot), lv_has ls 7 [(0, .ref (a 10)), (1, .ref (a 1)), (2, .int x2), (3, .int x3), (4, .int x4), (5, .int x5), (6, .int x6)] → va_P D vwCl ((NBw cy a) σ) H → va_S A s.heap H locs → l_X3_pick_6 N σ x2 x3 x4 x5 x6 = some z → W p l e ({ frames := 0, cells := 0, slots := 0, locals := 0 } : Room) s m args below meth c H locs 0 0 (nQi below D A (NBw cy a) args s z) (F0 m 6 ls []) := by
  have main : ∀ (fu : Nat), ∀ (σ : nS) (x2 : Int32) (x3 : Int32) (x4 : Int32) (x5 : Int32) (x6 : Int32) (H : Heap) (locs : List Loc) (ls : Array Slot), lv_has ls 7 [(0, .ref (a 10)), (1, .ref (a 1)), (2, .int x2), (3, .int x3), (4, .int x4), (5, .int x5), (6, .int x6)] → va_P D vwCl ((NBw cy a) σ) H → va_S A s.heap H locs → nLp (fun _ _ _ _ _ _ => none) (fun again => b_X3_pick_6 N (l_X3_pick_78 N again)) fu σ x2 x3 x4 x5 x6 = some z → W p l e ({ frames := 0, cells := 0, slots := 0, locals := 0 } : Room) s m args below meth c H locs 0 0 (nQi below D A (NBw cy a) args s z) (F0 m 6 ls []) := by
    intro fu
    induction fu with
    | zero => intro σ x2 x3 x4 x5 x6 H locs ls hl hP hS hf; cases hf
    | succ fu ih => exact kb_X3_pick_6 (N := N)  C0 hE (kl_X3_pick_78 (N := N)  C0 hE ih)
  exact main N
def l_X3_pick_0 (N : Nat) : nS → Int32 → Int32 → Int32 → Option (Int32 × nS) := b_X3_pick_0 N (l_X3_pick_6 N)
theorem kl_X3_pick_0 {p : Program} {l : Launch} {e : Env} {s : State} {m : MethodId} {args : Array Value} {below : List Frame} {meth : Method} {c : Code} {D : va_G} {A : Nat → Prop} {cy : Nat → ClassId} {a kt vt : Nat → Nat} {N : Nat}   (C0 : nCx p s m args meth c cX3_pick 7 (some .int) RX3 wsX3_pick) (hE : nEn D A cy (NBw cy a) kt vt s) {z : Int32 × nS} : ∀ (σ : nS) (x2 : Int32) (x3 : Int32) (x4 : Int32) (H : Heap) (locs : List Loc) (ls : Array Slot), lv_has ls 7 [(0, .ref (a 10)), (1, .ref (a 1)), (2, .int x2), (3, .int x3), (4, .int x4)] → va_P D vwCl ((NBw cy a) σ) H → va_S A s.heap H locs → l_X3_pick_0 N σ x2 x3 x4 = some z → W p l e ({ frames := 0, cells := 0, slots := 0, locals := 0 } : Room) s m args below meth c H locs 0 0 (nQi below D A (NBw cy a) args s z) (F0 m 0 ls []) := by
  exact kb_X3_pick_0 (N := N)  C0 hE (kl_X3_pick_6 (N := N)  C0 hE)
def f_X3_pick (N : Nat) (x2 : Int32) (x3 : Int32) (x4 : Int32) (σ : nS) : Option (Int32 × nS) := l_X3_pick_0 N σ x2 x3 x4
set_option maxHeartbeats 4000000 in
set_option maxRecDepth 100000 in
theorem c_X3_pick {l : Launch} {D : va_G} {A : Nat → Prop} {cy : Nat → ClassId} {a kt vt : Nat → Nat} {N : Nat}   {x2 : Int32} {x3 : Int32} {x4 : Int32} {σ : nS} {r : Int32} {σ' : nS} (hf : f_X3_pick N x2 x3 x4 σ = some (r, σ')) : nMi l yX3_pick wsX3_pick ({ frames := 0, cells := 0, slots := 0, locals := 0 } : Room) D A cy (NBw cy a) kt vt [.ref (a 10), .ref (a 1), .int x2, .int x3, .int x4] σ r σ' := by
  refine Met.ofW (cc := cX3_pick) (maxL := 7) (ret := (some .int)) (by decide) rfl ?_
  intro p e s m args below meth c s₁ B hml hv
  obtain ⟨rfl, hP, hE⟩ := hv
  have hl := lv_entry ([.ref (a 10), .ref (a 1), .int x2, .int x3, .int x4]) (n := 7) (Nat.le_of_ble_eq_true rfl)
  rw [lg_entry_eq]
  generalize (lg_sl ([.ref (a 10), .ref (a 1), .int x2, .int x3, .int x4]) ++ List.replicate (7 - (lg_sl ([.ref (a 10), .ref (a 1), .int x2, .int x3, .int x4])).length) Slot.unset).toArray = ls at hl ⊢
  have C0 : nCx p s m _ meth c cX3_pick 7 (some .int) RX3 wsX3_pick := ⟨B.exec, B.bytes, B.returns, hml, findClass_of_methodNamed B.named, atoms_spec (ws := wsX3_pick) B.pre, B.notSynchronized⟩
  exact kl_X3_pick_0 (N := N)  C0 hE (z := (r, σ')) σ x2 x3 x4 _ _ ls hl hP va_S.rf hf

/-! X3_take -/
set_option maxRecDepth 20000 in
theorem iX3_take_X3 : ∀ w ∈ u_ws RX3 TX3 1, w ∈ wsX3_take := fun _ h => List.mem_cons_of_mem _ (List.mem_append_right _ h)
set_option maxRecDepth 20000 in
theorem qX3_take_9 : Cond.fieldLink RX3 9 RX3 (TX3 0).2.1 (TX3 0).2.2.1 ∈ wsX3_take := by decide +kernel
def b_X3_take_0 (N : Nat) (σ : nS) (x1 : Int32) (x2 : Int32) : Option (Int32 × nS) := (if x1 < 0 then some (0, σ) else nLet (Int32.ofNat 4) (fun v1 => (if v1 ≤ x1 then some (0, σ) else nIx x1 4 (nLet (wr σ 11 (x1).toNatClampNeg x2) (fun σ2 => some (0, σ2))))))
set_option maxHeartbeats 4000000 in
set_option maxRecDepth 100000 in
theorem kb_X3_take_0 {p : Program} {l : Launch} {e : Env} {s : State} {m : MethodId} {args : Array Value} {below : List Frame} {meth : Method} {c : Code} {D : va_G} {A : Nat → Prop} {cy : Nat → ClassId} {a kt vt : Nat → Nat} {N : Nat}   (C0 : nCx p s m args meth c cX3_take 3 none RX3 wsX3_take) (hE : nEn D A cy (NBw cy a) kt vt s) {z : Int32 × nS} : ∀ (σ : nS) (x1 : Int32) (x2 : Int32) (H : Heap) (locs : List Loc) (ls : Array Slot), lv_has ls 3 [(0, .ref (a 10)), (1, .int x1), (2, .int x2)] → va_P D vwCl ((NBw cy a) σ) H → va_S A s.heap H locs → b_X3_take_0 N σ x1 x2 = some z → W p l e ({ frames := 0, cells := 0, slots := 0, locals := 0 } : Room) s m args below meth c H locs 0 0 (nQv below D A (NBw cy a) args s z) (F0 m 0 ls []) := by
  obtain ⟨hx, hb, hr, hml, hown, hts, hlocks⟩ := C0
  intro σ x1 x2 H locs ls hl hP hS hf
  unfold b_X3_take_0 at hf
  refine lv_iload_n hx hb dX3_take_0 rfl (lv_at hl 1 rfl) ?_
  refine lv_if_lt (tgt := 20) hx hb dX3_take_1 (by decide) (fun hc => ?_) (fun hc => ?_)
  · replace hf := nIf_t hc hf
    exact nb_vret hx hb hr hlocks hP hS (nSo hf) dX3_take_20
  · replace hf := nIf_f hc hf
    refine lv_iload_n hx hb dX3_take_4 rfl (lv_at hl 1 rfl) ?_
    refine lv_aload_n hx hb dX3_take_5 rfl (lv_at hl 0 rfl) ?_
    refine nb_get (ci := 3) hx hb hts iX3_take_X3 hown hE hP 10 nbo_10 rfl 0 (by decide) qX3_take_9 rfl rfl dX3_take_6 ?_
    refine na_alen hx hb hE hP nbr_11 dX3_take_9 ?_
    refine lv_topi (fun v1 ev1 => ?_)
    replace hf := nLet_e hf ev1
    refine lv_icmp_ge (tgt := 20) hx hb dX3_take_10 (by decide) (fun hc => ?_) (fun hc => ?_)
    · replace hf := nIf_t hc hf
      exact nb_vret hx hb hr hlocks hP hS (nSo hf) dX3_take_20
    · replace hf := nIf_f hc hf
      refine lv_aload_n hx hb dX3_take_13 rfl (lv_at hl 0 rfl) ?_
      refine nb_get (ci := 3) hx hb hts iX3_take_X3 hown hE hP 10 nbo_10 rfl 0 (by decide) qX3_take_9 rfl rfl dX3_take_14 ?_
      refine lv_iload_n hx hb dX3_take_17 rfl (lv_at hl 1 rfl) ?_
      refine lv_iload_n hx hb dX3_take_18 rfl (lv_at hl 2 rfl) ?_
      obtain ⟨hin, hf⟩ := nIx_e hf
      refine na_iast hx hb hE hP hS nbr_11 hin dX3_take_19 (fun σ2 eσ2 H locs hP hS => ?_)
      replace hf := nLet_e hf eσ2
      exact nb_vret hx hb hr hlocks hP hS (nSo hf) dX3_take_20
def l_X3_take_0 (N : Nat) : nS → Int32 → Int32 → Option (Int32 × nS) := b_X3_take_0 N
theorem kl_X3_take_0 {p : Program} {l : Launch} {e : Env} {s : State} {m : MethodId} {args : Array Value} {below : List Frame} {meth : Method} {c : Code} {D : va_G} {A : Nat → Prop} {cy : Nat → ClassId} {a kt vt : Nat → Nat} {N : Nat}   (C0 : nCx p s m args meth c cX3_take 3 none RX3 wsX3_take) (hE : nEn D A cy (NBw cy a) kt vt s) {z : Int32 × nS} : ∀ (σ : nS) (x1 : Int32) (x2 : Int32) (H : Heap) (locs : List Loc) (ls : Array Slot), lv_has ls 3 [(0, .ref (a 10)), (1, .int x1), (2, .int x2)] → va_P D vwCl ((NBw cy a) σ) H → va_S A s.heap H locs → l_X3_take_0 N σ x1 x2 = some z → W p l e ({ frames := 0, cells := 0, slots := 0, locals := 0 } : Room) s m args below meth c H locs 0 0 (nQv below D A (NBw cy a) args s z) (F0 m 0 ls []) := by
  exact kb_X3_take_0 (N := N)  C0 hE
def f_X3_take (N : Nat) (x1 : Int32) (x2 : Int32) (σ : nS) : Option (Int32 × nS) := l_X3_take_0 N σ x1 x2
set_option maxHeartbeats 4000000 in
set_option maxRecDepth 100000 in
theorem c_X3_take {l : Launch} {D : va_G} {A : Nat → Prop} {cy : Nat → ClassId} {a kt vt : Nat → Nat} {N : Nat}   {x1 : Int32} {x2 : Int32} {σ : nS} {r : Int32} {σ' : nS} (hf : f_X3_take N x1 x2 σ = some (r, σ')) : nMv l yX3_take wsX3_take ({ frames := 0, cells := 0, slots := 0, locals := 0 } : Room) D A cy (NBw cy a) kt vt [.ref (a 10), .int x1, .int x2] σ σ' := by
  refine Met.ofW (cc := cX3_take) (maxL := 3) (ret := none) (by decide) rfl ?_
  intro p e s m args below meth c s₁ B hml hv
  obtain ⟨rfl, hP, hE⟩ := hv
  have hl := lv_entry ([.ref (a 10), .int x1, .int x2]) (n := 3) (Nat.le_of_ble_eq_true rfl)
  rw [lg_entry_eq]
  generalize (lg_sl ([.ref (a 10), .int x1, .int x2]) ++ List.replicate (3 - (lg_sl ([.ref (a 10), .int x1, .int x2])).length) Slot.unset).toArray = ls at hl ⊢
  have C0 : nCx p s m _ meth c cX3_take 3 none RX3 wsX3_take := ⟨B.exec, B.bytes, B.returns, hml, findClass_of_methodNamed B.named, atoms_spec (ws := wsX3_take) B.pre, B.notSynchronized⟩
  exact kl_X3_take_0 (N := N)  C0 hE (z := (r, σ')) σ x1 x2 _ _ ls hl hP va_S.rf hf

/-! X1_forget -/
set_option maxRecDepth 20000 in
theorem iX1_forget_X1 : ∀ w ∈ u_ws RX1 TX1 4, w ∈ wsX1_forget := fun _ h => List.mem_cons_of_mem _ (List.mem_append_right _ h)
set_option maxRecDepth 20000 in
theorem qX1_forget_9 : Cond.fieldLink RX1 9 RX1 (TX1 0).2.1 (TX1 0).2.2.1 ∈ wsX1_forget := by decide +kernel
set_option maxRecDepth 20000 in
theorem qX1_forget_15 : Cond.fieldLink RX1 15 RX1 (TX1 1).2.1 (TX1 1).2.2.1 ∈ wsX1_forget := by decide +kernel
set_option maxRecDepth 20000 in
theorem qX1_forget_18 : Cond.fieldLink RX1 18 RX1 (TX1 2).2.1 (TX1 2).2.2.1 ∈ wsX1_forget := by decide +kernel
set_option maxRecDepth 20000 in
theorem qX1_forget_21 : Cond.fieldLink RX1 21 RX1 (TX1 3).2.1 (TX1 3).2.2.1 ∈ wsX1_forget := by decide +kernel
def b_X1_forget_0 (N : Nat) (σ : nS) : Option (Int32 × nS) := nLet (wr σ 19 0 0) (fun σ1 => nLet (wr σ1 19 1 (-1)) (fun σ2 => nLet (wr σ2 19 2 (-1)) (fun σ3 => nLet (wr σ3 19 3 (-1)) (fun σ4 => some (0, σ4)))))
set_option maxHeartbeats 4000000 in
set_option maxRecDepth 100000 in
theorem kb_X1_forget_0 {p : Program} {l : Launch} {e : Env} {s : State} {m : MethodId} {args : Array Value} {below : List Frame} {meth : Method} {c : Code} {D : va_G} {A : Nat → Prop} {cy : Nat → ClassId} {a kt vt : Nat → Nat} {N : Nat}   (C0 : nCx p s m args meth c cX1_forget 1 none RX1 wsX1_forget) (hE : nEn D A cy (NBw cy a) kt vt s) {z : Int32 × nS} : ∀ (σ : nS) (H : Heap) (locs : List Loc) (ls : Array Slot), lv_has ls 1 [(0, .ref (a 19))] → va_P D vwCl ((NBw cy a) σ) H → va_S A s.heap H locs → b_X1_forget_0 N σ = some z → W p l e ({ frames := 0, cells := 0, slots := 0, locals := 0 } : Room) s m args below meth c H locs 0 0 (nQv below D A (NBw cy a) args s z) (F0 m 0 ls []) := by
  obtain ⟨hx, hb, hr, hml, hown, hts, hlocks⟩ := C0
  intro σ  H locs ls hl hP hS hf
  unfold b_X1_forget_0 at hf
  refine lv_aload_n hx hb dX1_forget_0 rfl (lv_at hl 0 rfl) ?_
  refine lv_iconst (v := 0) hx hb dX1_forget_1 (by decide) ?_
  refine nb_put (ci := 1) hx hb hts iX1_forget_X1 tyX1 tyX1_ok nmX1 hown hE hP hS 19 nbo_19 rfl 0 (by decide) qX1_forget_9 rfl rfl rfl rfl (Nat.le_of_ble_eq_true rfl) dX1_forget_2 (nbp_19_0 _) (fun σ1 eσ1 H locs hP hS => ?_)
  replace hf := nLet_e hf eσ1
  refine lv_aload_n hx hb dX1_forget_5 rfl (lv_at hl 0 rfl) ?_
  refine lv_iconst (v := (-1)) hx hb dX1_forget_6 (by decide) ?_
  refine nb_put (ci := 1) hx hb hts iX1_forget_X1 tyX1 tyX1_ok nmX1 hown hE hP hS 19 nbo_19 rfl 1 (by decide) qX1_forget_15 rfl rfl rfl rfl (Nat.le_of_ble_eq_true rfl) dX1_forget_7 (nbp_19_1 _) (fun σ2 eσ2 H locs hP hS => ?_)
  replace hf := nLet_e hf eσ2
  refine lv_aload_n hx hb dX1_forget_10 rfl (lv_at hl 0 rfl) ?_
  refine lv_iconst (v := (-1)) hx hb dX1_forget_11 (by decide) ?_
  refine nb_put (ci := 1) hx hb hts iX1_forget_X1 tyX1 tyX1_ok nmX1 hown hE hP hS 19 nbo_19 rfl 2 (by decide) qX1_forget_18 rfl rfl rfl rfl (Nat.le_of_ble_eq_true rfl) dX1_forget_12 (nbp_19_2 _) (fun σ3 eσ3 H locs hP hS => ?_)
  replace hf := nLet_e hf eσ3
  refine lv_aload_n hx hb dX1_forget_15 rfl (lv_at hl 0 rfl) ?_
  refine lv_iconst (v := (-1)) hx hb dX1_forget_16 (by decide) ?_
  refine nb_put (ci := 1) hx hb hts iX1_forget_X1 tyX1 tyX1_ok nmX1 hown hE hP hS 19 nbo_19 rfl 3 (by decide) qX1_forget_21 rfl rfl rfl rfl (Nat.le_of_ble_eq_true rfl) dX1_forget_17 (nbp_19_3 _) (fun σ4 eσ4 H locs hP hS => ?_)
  replace hf := nLet_e hf eσ4
  exact nb_vret hx hb hr hlocks hP hS (nSo hf) dX1_forget_20
def l_X1_forget_0 (N : Nat) : nS → Option (Int32 × nS) := b_X1_forget_0 N
theorem kl_X1_forget_0 {p : Program} {l : Launch} {e : Env} {s : State} {m : MethodId} {args : Array Value} {below : List Frame} {meth : Method} {c : Code} {D : va_G} {A : Nat → Prop} {cy : Nat → ClassId} {a kt vt : Nat → Nat} {N : Nat}   (C0 : nCx p s m args meth c cX1_forget 1 none RX1 wsX1_forget) (hE : nEn D A cy (NBw cy a) kt vt s) {z : Int32 × nS} : ∀ (σ : nS) (H : Heap) (locs : List Loc) (ls : Array Slot), lv_has ls 1 [(0, .ref (a 19))] → va_P D vwCl ((NBw cy a) σ) H → va_S A s.heap H locs → l_X1_forget_0 N σ = some z → W p l e ({ frames := 0, cells := 0, slots := 0, locals := 0 } : Room) s m args below meth c H locs 0 0 (nQv below D A (NBw cy a) args s z) (F0 m 0 ls []) := by
  exact kb_X1_forget_0 (N := N)  C0 hE
def f_X1_forget (N : Nat) (σ : nS) : Option (Int32 × nS) := l_X1_forget_0 N σ
set_option maxHeartbeats 4000000 in
set_option maxRecDepth 100000 in
theorem c_X1_forget {l : Launch} {D : va_G} {A : Nat → Prop} {cy : Nat → ClassId} {a kt vt : Nat → Nat} {N : Nat}   {σ : nS} {r : Int32} {σ' : nS} (hf : f_X1_forget N σ = some (r, σ')) : nMv l yX1_forget wsX1_forget ({ frames := 0, cells := 0, slots := 0, locals := 0 } : Room) D A cy (NBw cy a) kt vt [.ref (a 19)] σ σ' := by
  refine Met.ofW (cc := cX1_forget) (maxL := 1) (ret := none) (by decide) rfl ?_
  intro p e s m args below meth c s₁ B hml hv
  obtain ⟨rfl, hP, hE⟩ := hv
  have hl := lv_entry ([.ref (a 19)]) (n := 1) (Nat.le_of_ble_eq_true rfl)
  rw [lg_entry_eq]
  generalize (lg_sl ([.ref (a 19)]) ++ List.replicate (1 - (lg_sl ([.ref (a 19)])).length) Slot.unset).toArray = ls at hl ⊢
  have C0 : nCx p s m _ meth c cX1_forget 1 none RX1 wsX1_forget := ⟨B.exec, B.bytes, B.returns, hml, findClass_of_methodNamed B.named, atoms_spec (ws := wsX1_forget) B.pre, B.notSynchronized⟩
  exact kl_X1_forget_0 (N := N)  C0 hE (z := (r, σ')) σ  _ _ ls hl hP va_S.rf hf

/-! X1_add -/
set_option maxRecDepth 20000 in
theorem iX1_add_X1 : ∀ w ∈ u_ws RX1 TX1 4, w ∈ wsX1_add := fun _ h => List.mem_cons_of_mem _ (List.mem_append_right _ h)
set_option maxRecDepth 20000 in
theorem qX1_add_9 : Cond.fieldLink RX1 9 RX1 (TX1 0).2.1 (TX1 0).2.2.1 ∈ wsX1_add := by decide +kernel
set_option maxRecDepth 20000 in
theorem qX1_add_15 : Cond.fieldLink RX1 15 RX1 (TX1 1).2.1 (TX1 1).2.2.1 ∈ wsX1_add := by decide +kernel
set_option maxRecDepth 20000 in
theorem qX1_add_18 : Cond.fieldLink RX1 18 RX1 (TX1 2).2.1 (TX1 2).2.2.1 ∈ wsX1_add := by decide +kernel
set_option maxRecDepth 20000 in
theorem qX1_add_21 : Cond.fieldLink RX1 21 RX1 (TX1 3).2.1 (TX1 3).2.2.1 ∈ wsX1_add := by decide +kernel
def b_X1_add_0 (N : Nat) (σ : nS) (x1 : Int32) (x2 : Int32) (x3 : Int32) : Option (Int32 × nS) := (if (σ.1 19 0) = 0 then nLet (wr σ 19 1 x1) (fun σ3 => nLet (wr σ3 19 2 x2) (fun σ4 => nLet (wr σ4 19 3 x3) (fun σ5 => nLet ((σ5.1 19 0) + (1 : Int32) : Int32) (fun v6 => nLet (wr σ5 19 0 v6) (fun σ7 => some (0, σ7)))))) else nLet ((σ.1 19 0) + (1 : Int32) : Int32) (fun v1 => nLet (wr σ 19 0 v1) (fun σ2 => some (0, σ2))))
set_option maxHeartbeats 4000000 in
set_option maxRecDepth 100000 in
theorem kb_X1_add_0 {p : Program} {l : Launch} {e : Env} {s : State} {m : MethodId} {args : Array Value} {below : List Frame} {meth : Method} {c : Code} {D : va_G} {A : Nat → Prop} {cy : Nat → ClassId} {a kt vt : Nat → Nat} {N : Nat}   (C0 : nCx p s m args meth c cX1_add 4 none RX1 wsX1_add) (hE : nEn D A cy (NBw cy a) kt vt s) {z : Int32 × nS} : ∀ (σ : nS) (x1 : Int32) (x2 : Int32) (x3 : Int32) (H : Heap) (locs : List Loc) (ls : Array Slot), lv_has ls 4 [(0, .ref (a 19)), (1, .int x1), (2, .int x2), (3, .int x3)] → va_P D vwCl ((NBw cy a) σ) H → va_S A s.heap H locs → b_X1_add_0 N σ x1 x2 x3 = some z → W p l e ({ frames := 0, cells := 0, slots := 0, locals := 0 } : Room) s m args below meth c H locs 0 0 (nQv below D A (NBw cy a) args s z) (F0 m 0 ls []) := by
  obtain ⟨hx, hb, hr, hml, hown, hts, hlocks⟩ := C0
  intro σ x1 x2 x3 H locs ls hl hP hS hf
  unfold b_X1_add_0 at hf
  refine lv_aload_n hx hb dX1_add_0 rfl (lv_at hl 0 rfl) ?_
  refine nb_get (ci := 1) hx hb hts iX1_add_X1 hown hE hP 19 nbo_19 rfl 0 (by decide) qX1_add_9 rfl rfl dX1_add_1 ?_
  refine lv_if_ne (tgt := 22) hx hb dX1_add_4 (by decide) (fun hc => ?_) (fun hc => ?_)
  · replace hf := nIf_f hc hf
    refine lv_aload_n hx hb dX1_add_22 rfl (lv_at hl 0 rfl) ?_
    refine lv_dup hx hb dX1_add_23 rfl ?_
    refine nb_get (ci := 1) hx hb hts iX1_add_X1 hown hE hP 19 nbo_19 rfl 0 (by decide) qX1_add_9 rfl rfl dX1_add_24 ?_
    refine lv_iconst (v := 1) hx hb dX1_add_27 (by decide) ?_
    refine lv_iadd hx hb dX1_add_28 ?_
    refine lv_topi (fun v1 ev1 => ?_)
    replace hf := nLet_e hf ev1
    refine nb_put (ci := 1) hx hb hts iX1_add_X1 tyX1 tyX1_ok nmX1 hown hE hP hS 19 nbo_19 rfl 0 (by decide) qX1_add_9 rfl rfl rfl rfl (Nat.le_of_ble_eq_true rfl) dX1_add_29 (nbp_19_0 _) (fun σ2 eσ2 H locs hP hS => ?_)
    replace hf := nLet_e hf eσ2
    exact nb_vret hx hb hr hlocks hP hS (nSo hf) dX1_add_32
  · replace hf := nIf_t hc hf
    refine lv_aload_n hx hb dX1_add_7 rfl (lv_at hl 0 rfl) ?_
    refine lv_iload_n hx hb dX1_add_8 rfl (lv_at hl 1 rfl) ?_
    refine nb_put (ci := 1) hx hb hts iX1_add_X1 tyX1 tyX1_ok nmX1 hown hE hP hS 19 nbo_19 rfl 1 (by decide) qX1_add_15 rfl rfl rfl rfl (Nat.le_of_ble_eq_true rfl) dX1_add_9 (nbp_19_1 _) (fun σ3 eσ3 H locs hP hS => ?_)
    replace hf := nLet_e hf eσ3
    refine lv_aload_n hx hb dX1_add_12 rfl (lv_at hl 0 rfl) ?_
    refine lv_iload_n hx hb dX1_add_13 rfl (lv_at hl 2 rfl) ?_
    refine nb_put (ci := 1) hx hb hts iX1_add_X1 tyX1 tyX1_ok nmX1 hown hE hP hS 19 nbo_19 rfl 2 (by decide) qX1_add_18 rfl rfl rfl rfl (Nat.le_of_ble_eq_true rfl) dX1_add_14 (nbp_19_2 _) (fun σ4 eσ4 H locs hP hS => ?_)
    replace hf := nLet_e hf eσ4
    refine lv_aload_n hx hb dX1_add_17 rfl (lv_at hl 0 rfl) ?_
    refine lv_iload_n hx hb dX1_add_18 rfl (lv_at hl 3 rfl) ?_
    refine nb_put (ci := 1) hx hb hts iX1_add_X1 tyX1 tyX1_ok nmX1 hown hE hP hS 19 nbo_19 rfl 3 (by decide) qX1_add_21 rfl rfl rfl rfl (Nat.le_of_ble_eq_true rfl) dX1_add_19 (nbp_19_3 _) (fun σ5 eσ5 H locs hP hS => ?_)
    replace hf := nLet_e hf eσ5
    refine lv_aload_n hx hb dX1_add_22 rfl (lv_at hl 0 rfl) ?_
    refine lv_dup hx hb dX1_add_23 rfl ?_
    refine nb_get (ci := 1) hx hb hts iX1_add_X1 hown hE hP 19 nbo_19 rfl 0 (by decide) qX1_add_9 rfl rfl dX1_add_24 ?_
    refine lv_iconst (v := 1) hx hb dX1_add_27 (by decide) ?_
    refine lv_iadd hx hb dX1_add_28 ?_
    refine lv_topi (fun v6 ev6 => ?_)
    replace hf := nLet_e hf ev6
    refine nb_put (ci := 1) hx hb hts iX1_add_X1 tyX1 tyX1_ok nmX1 hown hE hP hS 19 nbo_19 rfl 0 (by decide) qX1_add_9 rfl rfl rfl rfl (Nat.le_of_ble_eq_true rfl) dX1_add_29 (nbp_19_0 _) (fun σ7 eσ7 H locs hP hS => ?_)
    replace hf := nLet_e hf eσ7
    exact nb_vret hx hb hr hlocks hP hS (nSo hf) dX1_add_32
def l_X1_add_0 (N : Nat) : nS → Int32 → Int32 → Int32 → Option (Int32 × nS) := b_X1_add_0 N
theorem kl_X1_add_0 {p : Program} {l : Launch} {e : Env} {s : State} {m : MethodId} {args : Array Value} {below : List Frame} {meth : Method} {c : Code} {D : va_G} {A : Nat → Prop} {cy : Nat → ClassId} {a kt vt : Nat → Nat} {N : Nat}   (C0 : nCx p s m args meth c cX1_add 4 none RX1 wsX1_add) (hE : nEn D A cy (NBw cy a) kt vt s) {z : Int32 × nS} : ∀ (σ : nS) (x1 : Int32) (x2 : Int32) (x3 : Int32) (H : Heap) (locs : List Loc) (ls : Array Slot), lv_has ls 4 [(0, .ref (a 19)), (1, .int x1), (2, .int x2), (3, .int x3)] → va_P D vwCl ((NBw cy a) σ) H → va_S A s.heap H locs → l_X1_add_0 N σ x1 x2 x3 = some z → W p l e ({ frames := 0, cells := 0, slots := 0, locals := 0 } : Room) s m args below meth c H locs 0 0 (nQv below D A (NBw cy a) args s z) (F0 m 0 ls []) := by
  exact kb_X1_add_0 (N := N)  C0 hE
def f_X1_add (N : Nat) (x1 : Int32) (x2 : Int32) (x3 : Int32) (σ : nS) : Option (Int32 × nS) := l_X1_add_0 N σ x1 x2 x3
set_option maxHeartbeats 4000000 in
set_option maxRecDepth 100000 in
theorem c_X1_add {l : Launch} {D : va_G} {A : Nat → Prop} {cy : Nat → ClassId} {a kt vt : Nat → Nat} {N : Nat}   {x1 : Int32} {x2 : Int32} {x3 : Int32} {σ : nS} {r : Int32} {σ' : nS} (hf : f_X1_add N x1 x2 x3 σ = some (r, σ')) : nMv l yX1_add wsX1_add ({ frames := 0, cells := 0, slots := 0, locals := 0 } : Room) D A cy (NBw cy a) kt vt [.ref (a 19), .int x1, .int x2, .int x3] σ σ' := by
  refine Met.ofW (cc := cX1_add) (maxL := 4) (ret := none) (by decide) rfl ?_
  intro p e s m args below meth c s₁ B hml hv
  obtain ⟨rfl, hP, hE⟩ := hv
  have hl := lv_entry ([.ref (a 19), .int x1, .int x2, .int x3]) (n := 4) (Nat.le_of_ble_eq_true rfl)
  rw [lg_entry_eq]
  generalize (lg_sl ([.ref (a 19), .int x1, .int x2, .int x3]) ++ List.replicate (4 - (lg_sl ([.ref (a 19), .int x1, .int x2, .int x3])).length) Slot.unset).toArray = ls at hl ⊢
  have C0 : nCx p s m _ meth c cX1_add 4 none RX1 wsX1_add := ⟨B.exec, B.bytes, B.returns, hml, findClass_of_methodNamed B.named, atoms_spec (ws := wsX1_add) B.pre, B.notSynchronized⟩
  exact kl_X1_add_0 (N := N)  C0 hE (z := (r, σ')) σ x1 x2 x3 _ _ ls hl hP va_S.rf hf

/-! X1_about -/
set_option maxRecDepth 20000 in
theorem iX1_about_X1 : ∀ w ∈ u_ws RX1 TX1 4, w ∈ wsX1_about := fun _ h => List.mem_cons_of_mem _ (List.mem_append_right _ h)
set_option maxRecDepth 20000 in
theorem qX1_about_21 : Cond.fieldLink RX1 21 RX1 (TX1 3).2.1 (TX1 3).2.2.1 ∈ wsX1_about := by decide +kernel
set_option maxRecDepth 20000 in
theorem qX1_about_18 : Cond.fieldLink RX1 18 RX1 (TX1 2).2.1 (TX1 2).2.2.1 ∈ wsX1_about := by decide +kernel
set_option maxRecDepth 20000 in
theorem qX1_about_15 : Cond.fieldLink RX1 15 RX1 (TX1 1).2.1 (TX1 1).2.2.1 ∈ wsX1_about := by decide +kernel
def b_X1_about_0 (N : Nat) (σ : nS) (x1 : Int32) : Option (Int32 × nS) := (if x1 = 0 then some ((σ.1 19 1), σ) else (if x1 = 1 then some ((σ.1 19 2), σ) else (if x1 = 2 then some ((σ.1 19 3), σ) else some ((-1), σ))))
set_option maxHeartbeats 4000000 in
set_option maxRecDepth 100000 in
theorem kb_X1_about_0 {p : Program} {l : Launch} {e : Env} {s : State} {m : MethodId} {args : Array Value} {below : List Frame} {meth : Method} {c : Code} {D : va_G} {A : Nat → Prop} {cy : Nat → ClassId} {a kt vt : Nat → Nat} {N : Nat}   (C0 : nCx p s m args meth c cX1_about 2 (some .int) RX1 wsX1_about) (hE : nEn D A cy (NBw cy a) kt vt s) {z : Int32 × nS} : ∀ (σ : nS) (x1 : Int32) (H : Heap) (locs : List Loc) (ls : Array Slot), lv_has ls 2 [(0, .ref (a 19)), (1, .int x1)] → va_P D vwCl ((NBw cy a) σ) H → va_S A s.heap H locs → b_X1_about_0 N σ x1 = some z → W p l e ({ frames := 0, cells := 0, slots := 0, locals := 0 } : Room) s m args below meth c H locs 0 0 (nQi below D A (NBw cy a) args s z) (F0 m 0 ls []) := by
  obtain ⟨hx, hb, hr, hml, hown, hts, hlocks⟩ := C0
  intro σ x1 H locs ls hl hP hS hf
  unfold b_X1_about_0 at hf
  refine lv_iload_n hx hb dX1_about_0 rfl (lv_at hl 1 rfl) ?_
  refine lv_if_ne (tgt := 11) hx hb dX1_about_1 (by decide) (fun hc => ?_) (fun hc => ?_)
  · replace hf := nIf_f hc hf
    refine lv_iload_n hx hb dX1_about_11 rfl (lv_at hl 1 rfl) ?_
    refine lv_iconst (v := 1) hx hb dX1_about_12 (by decide) ?_
    refine lv_icmp_ne (tgt := 23) hx hb dX1_about_13 (by decide) (fun hc => ?_) (fun hc => ?_)
    · replace hf := nIf_f hc hf
      refine lv_iload_n hx hb dX1_about_23 rfl (lv_at hl 1 rfl) ?_
      refine lv_iconst (v := 2) hx hb dX1_about_24 (by decide) ?_
      refine lv_icmp_ne (tgt := 35) hx hb dX1_about_25 (by decide) (fun hc => ?_) (fun hc => ?_)
      · replace hf := nIf_f hc hf
        refine lv_iconst (v := (-1)) hx hb dX1_about_35 (by decide) ?_
        exact nb_iret hx hb hr hlocks hP hS (nSo hf) dX1_about_36
      · replace hf := nIf_t hc hf
        refine lv_aload_n hx hb dX1_about_28 rfl (lv_at hl 0 rfl) ?_
        refine nb_get (ci := 1) hx hb hts iX1_about_X1 hown hE hP 19 nbo_19 rfl 3 (by decide) qX1_about_21 rfl rfl dX1_about_29 ?_
        refine lv_goto (tgt := 36) hx hb dX1_about_32 (by decide) ?_
        exact nb_iret hx hb hr hlocks hP hS (nSo hf) dX1_about_36
    · replace hf := nIf_t hc hf
      refine lv_aload_n hx hb dX1_about_16 rfl (lv_at hl 0 rfl) ?_
      refine nb_get (ci := 1) hx hb hts iX1_about_X1 hown hE hP 19 nbo_19 rfl 2 (by decide) qX1_about_18 rfl rfl dX1_about_17 ?_
      refine lv_goto (tgt := 36) hx hb dX1_about_20 (by decide) ?_
      exact nb_iret hx hb hr hlocks hP hS (nSo hf) dX1_about_36
  · replace hf := nIf_t hc hf
    refine lv_aload_n hx hb dX1_about_4 rfl (lv_at hl 0 rfl) ?_
    refine nb_get (ci := 1) hx hb hts iX1_about_X1 hown hE hP 19 nbo_19 rfl 1 (by decide) qX1_about_15 rfl rfl dX1_about_5 ?_
    refine lv_goto (tgt := 36) hx hb dX1_about_8 (by decide) ?_
    exact nb_iret hx hb hr hlocks hP hS (nSo hf) dX1_about_36
def l_X1_about_0 (N : Nat) : nS → Int32 → Option (Int32 × nS) := b_X1_about_0 N
theorem kl_X1_about_0 {p : Program} {l : Launch} {e : Env} {s : State} {m : MethodId} {args : Array Value} {below : List Frame} {meth : Method} {c : Code} {D : va_G} {A : Nat → Prop} {cy : Nat → ClassId} {a kt vt : Nat → Nat} {N : Nat}   (C0 : nCx p s m args meth c cX1_about 2 (some .int) RX1 wsX1_about) (hE : nEn D A cy (NBw cy a) kt vt s) {z : Int32 × nS} : ∀ (σ : nS) (x1 : Int32) (H : Heap) (locs : List Loc) (ls : Array Slot), lv_has ls 2 [(0, .ref (a 19)), (1, .int x1)] → va_P D vwCl ((NBw cy a) σ) H → va_S A s.heap H locs → l_X1_about_0 N σ x1 = some z → W p l e ({ frames := 0, cells := 0, slots := 0, locals := 0 } : Room) s m args below meth c H locs 0 0 (nQi below D A (NBw cy a) args s z) (F0 m 0 ls []) := by
  exact kb_X1_about_0 (N := N)  C0 hE
def f_X1_about (N : Nat) (x1 : Int32) (σ : nS) : Option (Int32 × nS) := l_X1_about_0 N σ x1
set_option maxHeartbeats 4000000 in
set_option maxRecDepth 100000 in
theorem c_X1_about {l : Launch} {D : va_G} {A : Nat → Prop} {cy : Nat → ClassId} {a kt vt : Nat → Nat} {N : Nat}   {x1 : Int32} {σ : nS} {r : Int32} {σ' : nS} (hf : f_X1_about N x1 σ = some (r, σ')) : nMi l yX1_about wsX1_about ({ frames := 0, cells := 0, slots := 0, locals := 0 } : Room) D A cy (NBw cy a) kt vt [.ref (a 19), .int x1] σ r σ' := by
  refine Met.ofW (cc := cX1_about) (maxL := 2) (ret := (some .int)) (by decide) rfl ?_
  intro p e s m args below meth c s₁ B hml hv
  obtain ⟨rfl, hP, hE⟩ := hv
  have hl := lv_entry ([.ref (a 19), .int x1]) (n := 2) (Nat.le_of_ble_eq_true rfl)
  rw [lg_entry_eq]
  generalize (lg_sl ([.ref (a 19), .int x1]) ++ List.replicate (2 - (lg_sl ([.ref (a 19), .int x1])).length) Slot.unset).toArray = ls at hl ⊢
  have C0 : nCx p s m _ meth c cX1_about 2 (some .int) RX1 wsX1_about := ⟨B.exec, B.bytes, B.returns, hml, findClass_of_methodNamed B.named, atoms_spec (ws := wsX1_about) B.pre, B.notSynchronized⟩
  exact kl_X1_about_0 (N := N)  C0 hE (z := (r, σ')) σ x1 _ _ ls hl hP va_S.rf hf

/-! X5_start -/
set_option maxRecDepth 20000 in
theorem iX5_start_X5 : ∀ w ∈ u_ws RX5 TX5 11, w ∈ wsX5_start := fun _ h => List.mem_cons_of_mem _ (List.mem_append_right _ h)
set_option maxRecDepth 20000 in
theorem qX5_start_15 : Cond.fieldLink RX5 15 RX5 (TX5 1).2.1 (TX5 1).2.2.1 ∈ wsX5_start := by decide +kernel
set_option maxRecDepth 20000 in
theorem qX5_start_18 : Cond.fieldLink RX5 18 RX5 (TX5 2).2.1 (TX5 2).2.2.1 ∈ wsX5_start := by decide +kernel
set_option maxRecDepth 20000 in
theorem qX5_start_22 : Cond.fieldLink RX5 22 RX5 (TX5 3).2.1 (TX5 3).2.2.1 ∈ wsX5_start := by decide +kernel
set_option maxRecDepth 20000 in
theorem qX5_start_26 : Cond.fieldLink RX5 26 RX5 (TX5 4).2.1 (TX5 4).2.2.1 ∈ wsX5_start := by decide +kernel
set_option maxRecDepth 20000 in
theorem qX5_start_29 : Cond.fieldLink RX5 29 RX5 (TX5 5).2.1 (TX5 5).2.2.1 ∈ wsX5_start := by decide +kernel
set_option maxRecDepth 20000 in
theorem qX5_start_32 : Cond.fieldLink RX5 32 RX5 (TX5 6).2.1 (TX5 6).2.2.1 ∈ wsX5_start := by decide +kernel
set_option maxRecDepth 20000 in
theorem qX5_start_35 : Cond.fieldLink RX5 35 RX5 (TX5 7).2.1 (TX5 7).2.2.1 ∈ wsX5_start := by decide +kernel
set_option maxRecDepth 20000 in
theorem qX5_start_38 : Cond.fieldLink RX5 38 RX5 (TX5 8).2.1 (TX5 8).2.2.1 ∈ wsX5_start := by decide +kernel
set_option maxRecDepth 20000 in
theorem qX5_start_41 : Cond.fieldLink RX5 41 RX5 (TX5 9).2.1 (TX5 9).2.2.1 ∈ wsX5_start := by decide +kernel
set_option maxRecDepth 20000 in
theorem qX5_start_44 : Cond.fieldLink RX5 44 RX5 (TX5 10).2.1 (TX5 10).2.2.1 ∈ wsX5_start := by decide +kernel
def b_X5_start_0 (N : Nat) (σ : nS) (x1 : Int32) (x2 : Int32) : Option (Int32 × nS) := nBd (f_J7_fill_53178 N 18 7 0 σ) (fun r1 σ2 => nLet (wr σ2 16 2 1) (fun σ3 => nLet (wr σ3 16 3 x1) (fun σ4 => nLet (wr σ4 16 4 x2) (fun σ5 => nLet (wr σ5 16 5 0) (fun σ6 => nLet (wr σ6 16 6 (-1)) (fun σ7 => nLet (wr σ7 16 7 (-1)) (fun σ8 => nLet (wr σ8 16 8 (-1)) (fun σ9 => nLet (wr σ9 16 9 0) (fun σ10 => nLet (wr σ10 16 10 (-1)) (fun σ11 => some (0, σ11)))))))))))
set_option maxHeartbeats 4000000 in
set_option maxRecDepth 100000 in
theorem kb_X5_start_0 {p : Program} {l : Launch} {e : Env} {s : State} {m : MethodId} {args : Array Value} {below : List Frame} {meth : Method} {c : Code} {D : va_G} {A : Nat → Prop} {cy : Nat → ClassId} {a kt vt : Nat → Nat} {N : Nat}   (C0 : nCx p s m args meth c cX5_start 3 none RX5 wsX5_start) (hE : nEn D A cy (NBw cy a) kt vt s) {z : Int32 × nS} : ∀ (σ : nS) (x1 : Int32) (x2 : Int32) (H : Heap) (locs : List Loc) (ls : Array Slot), lv_has ls 3 [(0, .ref (a 16)), (1, .int x1), (2, .int x2)] → va_P D vwCl ((NBw cy a) σ) H → va_S A s.heap H locs → b_X5_start_0 N σ x1 x2 = some z → W p l e ({ frames := 1, cells := 0, slots := 0, locals := 23 } : Room) s m args below meth c H locs 0 0 (nQv below D A (NBw cy a) args s z) (F0 m 0 ls []) := by
  obtain ⟨hx, hb, hr, hml, hown, hts, hlocks⟩ := C0
  intro σ x1 x2 H locs ls hl hP hS hf
  unfold b_X5_start_0 at hf
  refine lv_aload_n hx hb dX5_start_0 rfl (lv_at hl 0 rfl) ?_
  refine nb_get (ci := 5) hx hb hts iX5_start_X5 hown hE hP 16 nbo_16 rfl 1 (by decide) qX5_start_15 rfl rfl dX5_start_1 ?_
  refine lv_iconst (v := 0) hx hb dX5_start_4 (by decide) ?_
  obtain ⟨r1, σ2, hc2, hf⟩ := nBd_e hf
  refine nb_callSv (As := [.ref (a 18), .int 0]) (rest := []) ⟨hx, hb, hml, hown, hts⟩ (c_J7_fill_53178 (D := D) (A := A) (cy := cy) (a := a) (kt := kt) (vt := vt) (l := l) nbr_18 hc2) (va_cwS 2 hts gX5_start_J7_fill_53178 rfl rfl rfl (by decide +kernel) ⟨Nat.le_of_ble_eq_true rfl, Nat.le_of_ble_eq_true rfl⟩) hE hP hS rfl hl.1 rfl (Nat.le_of_ble_eq_true rfl) dX5_start_5 (fun H locs hP hS => ?_)
  refine lv_aload_n hx hb dX5_start_8 rfl (lv_at hl 0 rfl) ?_
  refine lv_iconst (v := 1) hx hb dX5_start_9 (by decide) ?_
  refine nb_put (ci := 5) hx hb hts iX5_start_X5 tyX5 tyX5_ok nmX5 hown hE hP hS 16 nbo_16 rfl 2 (by decide) qX5_start_18 rfl rfl rfl rfl (Nat.le_of_ble_eq_true rfl) dX5_start_10 (nbp_16_2 _) (fun σ3 eσ3 H locs hP hS => ?_)
  replace hf := nLet_e hf eσ3
  refine lv_aload_n hx hb dX5_start_13 rfl (lv_at hl 0 rfl) ?_
  refine lv_iload_n hx hb dX5_start_14 rfl (lv_at hl 1 rfl) ?_
  refine nb_put (ci := 5) hx hb hts iX5_start_X5 tyX5 tyX5_ok nmX5 hown hE hP hS 16 nbo_16 rfl 3 (by decide) qX5_start_22 rfl rfl rfl rfl (Nat.le_of_ble_eq_true rfl) dX5_start_15 (nbp_16_3 _) (fun σ4 eσ4 H locs hP hS => ?_)
  replace hf := nLet_e hf eσ4
  refine lv_aload_n hx hb dX5_start_18 rfl (lv_at hl 0 rfl) ?_
  refine lv_iload_n hx hb dX5_start_19 rfl (lv_at hl 2 rfl) ?_
  refine nb_put (ci := 5) hx hb hts iX5_start_X5 tyX5 tyX5_ok nmX5 hown hE hP hS 16 nbo_16 rfl 4 (by decide) qX5_start_26 rfl rfl rfl rfl (Nat.le_of_ble_eq_true rfl) dX5_start_20 (nbp_16_4 _) (fun σ5 eσ5 H locs hP hS => ?_)
  replace hf := nLet_e hf eσ5
  refine lv_aload_n hx hb dX5_start_23 rfl (lv_at hl 0 rfl) ?_
  refine lv_iconst (v := 0) hx hb dX5_start_24 (by decide) ?_
  refine nb_put (ci := 5) hx hb hts iX5_start_X5 tyX5 tyX5_ok nmX5 hown hE hP hS 16 nbo_16 rfl 5 (by decide) qX5_start_29 rfl rfl rfl rfl (Nat.le_of_ble_eq_true rfl) dX5_start_25 (nbp_16_5 _) (fun σ6 eσ6 H locs hP hS => ?_)
  replace hf := nLet_e hf eσ6
  refine lv_aload_n hx hb dX5_start_28 rfl (lv_at hl 0 rfl) ?_
  refine lv_iconst (v := (-1)) hx hb dX5_start_29 (by decide) ?_
  refine nb_put (ci := 5) hx hb hts iX5_start_X5 tyX5 tyX5_ok nmX5 hown hE hP hS 16 nbo_16 rfl 6 (by decide) qX5_start_32 rfl rfl rfl rfl (Nat.le_of_ble_eq_true rfl) dX5_start_30 (nbp_16_6 _) (fun σ7 eσ7 H locs hP hS => ?_)
  replace hf := nLet_e hf eσ7
  refine lv_aload_n hx hb dX5_start_33 rfl (lv_at hl 0 rfl) ?_
  refine lv_iconst (v := (-1)) hx hb dX5_start_34 (by decide) ?_
  refine nb_put (ci := 5) hx hb hts iX5_start_X5 tyX5 tyX5_ok nmX5 hown hE hP hS 16 nbo_16 rfl 7 (by decide) qX5_start_35 rfl rfl rfl rfl (Nat.le_of_ble_eq_true rfl) dX5_start_35 (nbp_16_7 _) (fun σ8 eσ8 H locs hP hS => ?_)
  replace hf := nLet_e hf eσ8
  refine lv_aload_n hx hb dX5_start_38 rfl (lv_at hl 0 rfl) ?_
  refine lv_iconst (v := (-1)) hx hb dX5_start_39 (by decide) ?_
  refine nb_put (ci := 5) hx hb hts iX5_start_X5 tyX5 tyX5_ok nmX5 hown hE hP hS 16 nbo_16 rfl 8 (by decide) qX5_start_38 rfl rfl rfl rfl (Nat.le_of_ble_eq_true rfl) dX5_start_40 (nbp_16_8 _) (fun σ9 eσ9 H locs hP hS => ?_)
  replace hf := nLet_e hf eσ9
  refine lv_aload_n hx hb dX5_start_43 rfl (lv_at hl 0 rfl) ?_
  refine lv_iconst (v := 0) hx hb dX5_start_44 (by decide) ?_
  refine nb_put (ci := 5) hx hb hts iX5_start_X5 tyX5 tyX5_ok nmX5 hown hE hP hS 16 nbo_16 rfl 9 (by decide) qX5_start_41 rfl rfl rfl rfl (Nat.le_of_ble_eq_true rfl) dX5_start_45 (nbp_16_9 _) (fun σ10 eσ10 H locs hP hS => ?_)
  replace hf := nLet_e hf eσ10
  refine lv_aload_n hx hb dX5_start_48 rfl (lv_at hl 0 rfl) ?_
  refine lv_iconst (v := (-1)) hx hb dX5_start_49 (by decide) ?_
  refine nb_put (ci := 5) hx hb hts iX5_start_X5 tyX5 tyX5_ok nmX5 hown hE hP hS 16 nbo_16 rfl 10 (by decide) qX5_start_44 rfl rfl rfl rfl (Nat.le_of_ble_eq_true rfl) dX5_start_50 (nbp_16_10 _) (fun σ11 eσ11 H locs hP hS => ?_)
  replace hf := nLet_e hf eσ11
  exact nb_vret hx hb hr hlocks hP hS (nSo hf) dX5_start_53
def l_X5_start_0 (N : Nat) : nS → Int32 → Int32 → Option (Int32 × nS) := b_X5_start_0 N
theorem kl_X5_start_0 {p : Program} {l : Launch} {e : Env} {s : State} {m : MethodId} {args : Array Value} {below : List Frame} {meth : Method} {c : Code} {D : va_G} {A : Nat → Prop} {cy : Nat → ClassId} {a kt vt : Nat → Nat} {N : Nat}   (C0 : nCx p s m args meth c cX5_start 3 none RX5 wsX5_start) (hE : nEn D A cy (NBw cy a) kt vt s) {z : Int32 × nS} : ∀ (σ : nS) (x1 : Int32) (x2 : Int32) (H : Heap) (locs : List Loc) (ls : Array Slot), lv_has ls 3 [(0, .ref (a 16)), (1, .int x1), (2, .int x2)] → va_P D vwCl ((NBw cy a) σ) H → va_S A s.heap H locs → l_X5_start_0 N σ x1 x2 = some z → W p l e ({ frames := 1, cells := 0, slots := 0, locals := 23 } : Room) s m args below meth c H locs 0 0 (nQv below D A (NBw cy a) args s z) (F0 m 0 ls []) := by
  exact kb_X5_start_0 (N := N)  C0 hE
def f_X5_start (N : Nat) (x1 : Int32) (x2 : Int32) (σ : nS) : Option (Int32 × nS) := l_X5_start_0 N σ x1 x2
set_option maxHeartbeats 4000000 in
set_option maxRecDepth 100000 in
theorem c_X5_start {l : Launch} {D : va_G} {A : Nat → Prop} {cy : Nat → ClassId} {a kt vt : Nat → Nat} {N : Nat}   {x1 : Int32} {x2 : Int32} {σ : nS} {r : Int32} {σ' : nS} (hf : f_X5_start N x1 x2 σ = some (r, σ')) : nMv l yX5_start wsX5_start ({ frames := 1, cells := 0, slots := 0, locals := 23 } : Room) D A cy (NBw cy a) kt vt [.ref (a 16), .int x1, .int x2] σ σ' := by
  refine Met.ofW (cc := cX5_start) (maxL := 3) (ret := none) (by decide) rfl ?_
  intro p e s m args below meth c s₁ B hml hv
  obtain ⟨rfl, hP, hE⟩ := hv
  have hl := lv_entry ([.ref (a 16), .int x1, .int x2]) (n := 3) (Nat.le_of_ble_eq_true rfl)
  rw [lg_entry_eq]
  generalize (lg_sl ([.ref (a 16), .int x1, .int x2]) ++ List.replicate (3 - (lg_sl ([.ref (a 16), .int x1, .int x2])).length) Slot.unset).toArray = ls at hl ⊢
  have C0 : nCx p s m _ meth c cX5_start 3 none RX5 wsX5_start := ⟨B.exec, B.bytes, B.returns, hml, findClass_of_methodNamed B.named, atoms_spec (ws := wsX5_start) B.pre, B.notSynchronized⟩
  exact kl_X5_start_0 (N := N)  C0 hE (z := (r, σ')) σ x1 x2 _ _ ls hl hP va_S.rf hf

/-! X5_rowAt -/
set_option maxRecDepth 20000 in
theorem iX5_rowAt_X5 : ∀ w ∈ u_ws RX5 TX5 11, w ∈ wsX5_rowAt := fun _ h => List.mem_cons_of_mem _ (List.mem_append_right _ h)
set_option maxRecDepth 20000 in
theorem qX5_rowAt_9 : Cond.fieldLink RX5 9 RX5 (TX5 0).2.1 (TX5 0).2.2.1 ∈ wsX5_rowAt := by decide +kernel
def b_X5_rowAt_0 (N : Nat) (σ : nS) (x1 : Int32) : Option (Int32 × nS) := (if x1 < 0 then some (0, σ) else nLet (Int32.ofNat 500) (fun v1 => (if v1 ≤ x1 then some (0, σ) else nIx x1 500 (nLet (σ.1 17 (x1).toNatClampNeg) (fun v2 => some (v2, σ))))))
set_option maxHeartbeats 4000000 in
set_option maxRecDepth 100000 in
theorem kb_X5_rowAt_0 {p : Program} {l : Launch} {e : Env} {s : State} {m : MethodId} {args : Array Value} {below : List Frame} {meth : Method} {c : Code} {D : va_G} {A : Nat → Prop} {cy : Nat → ClassId} {a kt vt : Nat → Nat} {N : Nat}   (C0 : nCx p s m args meth c cX5_rowAt 2 (some .int) RX5 wsX5_rowAt) (hE : nEn D A cy (NBw cy a) kt vt s) {z : Int32 × nS} : ∀ (σ : nS) (x1 : Int32) (H : Heap) (locs : List Loc) (ls : Array Slot), lv_has ls 2 [(0, .ref (a 16)), (1, .int x1)] → va_P D vwCl ((NBw cy a) σ) H → va_S A s.heap H locs → b_X5_rowAt_0 N σ x1 = some z → W p l e ({ frames := 0, cells := 0, slots := 0, locals := 0 } : Room) s m args below meth c H locs 0 0 (nQi below D A (NBw cy a) args s z) (F0 m 0 ls []) := by
  obtain ⟨hx, hb, hr, hml, hown, hts, hlocks⟩ := C0
  intro σ x1 H locs ls hl hP hS hf
  unfold b_X5_rowAt_0 at hf
  refine lv_iload_n hx hb dX5_rowAt_0 rfl (lv_at hl 1 rfl) ?_
  refine lv_if_lt (tgt := 22) hx hb dX5_rowAt_1 (by decide) (fun hc => ?_) (fun hc => ?_)
  · replace hf := nIf_t hc hf
    refine lv_iconst (v := 0) hx hb dX5_rowAt_22 (by decide) ?_
    exact nb_iret hx hb hr hlocks hP hS (nSo hf) dX5_rowAt_23
  · replace hf := nIf_f hc hf
    refine lv_iload_n hx hb dX5_rowAt_4 rfl (lv_at hl 1 rfl) ?_
    refine lv_aload_n hx hb dX5_rowAt_5 rfl (lv_at hl 0 rfl) ?_
    refine nb_get (ci := 5) hx hb hts iX5_rowAt_X5 hown hE hP 16 nbo_16 rfl 0 (by decide) qX5_rowAt_9 rfl rfl dX5_rowAt_6 ?_
    refine na_alen hx hb hE hP nbr_17 dX5_rowAt_9 ?_
    refine lv_topi (fun v1 ev1 => ?_)
    replace hf := nLet_e hf ev1
    refine lv_icmp_ge (tgt := 22) hx hb dX5_rowAt_10 (by decide) (fun hc => ?_) (fun hc => ?_)
    · replace hf := nIf_t hc hf
      refine lv_iconst (v := 0) hx hb dX5_rowAt_22 (by decide) ?_
      exact nb_iret hx hb hr hlocks hP hS (nSo hf) dX5_rowAt_23
    · replace hf := nIf_f hc hf
      refine lv_aload_n hx hb dX5_rowAt_13 rfl (lv_at hl 0 rfl) ?_
      refine nb_get (ci := 5) hx hb hts iX5_rowAt_X5 hown hE hP 16 nbo_16 rfl 0 (by decide) qX5_rowAt_9 rfl rfl dX5_rowAt_14 ?_
      refine lv_iload_n hx hb dX5_rowAt_17 rfl (lv_at hl 1 rfl) ?_
      obtain ⟨hin, hf⟩ := nIx_e hf
      refine na_iald hx hb hE hP nbr_17 hin dX5_rowAt_18 ?_
      refine lv_topi (fun v2 ev2 => ?_)
      replace hf := nLet_e hf ev2
      refine lv_goto (tgt := 23) hx hb dX5_rowAt_19 (by decide) ?_
      exact nb_iret hx hb hr hlocks hP hS (nSo hf) dX5_rowAt_23
def l_X5_rowAt_0 (N : Nat) : nS → Int32 → Option (Int32 × nS) := b_X5_rowAt_0 N
theorem kl_X5_rowAt_0 {p : Program} {l : Launch} {e : Env} {s : State} {m : MethodId} {args : Array Value} {below : List Frame} {meth : Method} {c : Code} {D : va_G} {A : Nat → Prop} {cy : Nat → ClassId} {a kt vt : Nat → Nat} {N : Nat}   (C0 : nCx p s m args meth c cX5_rowAt 2 (some .int) RX5 wsX5_rowAt) (hE : nEn D A cy (NBw cy a) kt vt s) {z : Int32 × nS} : ∀ (σ : nS) (x1 : Int32) (H : Heap) (locs : List Loc) (ls : Array Slot), lv_has ls 2 [(0, .ref (a 16)), (1, .int x1)] → va_P D vwCl ((NBw cy a) σ) H → va_S A s.heap H locs → l_X5_rowAt_0 N σ x1 = some z → W p l e ({ frames := 0, cells := 0, slots := 0, locals := 0 } : Room) s m args below meth c H locs 0 0 (nQi below D A (NBw cy a) args s z) (F0 m 0 ls []) := by
  exact kb_X5_rowAt_0 (N := N)  C0 hE
def f_X5_rowAt (N : Nat) (x1 : Int32) (σ : nS) : Option (Int32 × nS) := l_X5_rowAt_0 N σ x1
set_option maxHeartbeats 4000000 in
set_option maxRecDepth 100000 in
theorem c_X5_rowAt {l : Launch} {D : va_G} {A : Nat → Prop} {cy : Nat → ClassId} {a kt vt : Nat → Nat} {N : Nat}   {x1 : Int32} {σ : nS} {r : Int32} {σ' : nS} (hf : f_X5_rowAt N x1 σ = some (r, σ')) : nMi l yX5_rowAt wsX5_rowAt ({ frames := 0, cells := 0, slots := 0, locals := 0 } : Room) D A cy (NBw cy a) kt vt [.ref (a 16), .int x1] σ r σ' := by
  refine Met.ofW (cc := cX5_rowAt) (maxL := 2) (ret := (some .int)) (by decide) rfl ?_
  intro p e s m args below meth c s₁ B hml hv
  obtain ⟨rfl, hP, hE⟩ := hv
  have hl := lv_entry ([.ref (a 16), .int x1]) (n := 2) (Nat.le_of_ble_eq_true rfl)
  rw [lg_entry_eq]
  generalize (lg_sl ([.ref (a 16), .int x1]) ++ List.replicate (2 - (lg_sl ([.ref (a 16), .int x1])).length) Slot.unset).toArray = ls at hl ⊢
  have C0 : nCx p s m _ meth c cX5_rowAt 2 (some .int) RX5 wsX5_rowAt := ⟨B.exec, B.bytes, B.returns, hml, findClass_of_methodNamed B.named, atoms_spec (ws := wsX5_rowAt) B.pre, B.notSynchronized⟩
  exact kl_X5_rowAt_0 (N := N)  C0 hE (z := (r, σ')) σ x1 _ _ ls hl hP va_S.rf hf

/-! X5_addCalm -/
set_option maxRecDepth 20000 in
theorem iX5_addCalm_X5 : ∀ w ∈ u_ws RX5 TX5 11, w ∈ wsX5_addCalm := fun _ h => List.mem_cons_of_mem _ (List.mem_append_right _ h)
set_option maxRecDepth 20000 in
theorem qX5_addCalm_32 : Cond.fieldLink RX5 32 RX5 (TX5 6).2.1 (TX5 6).2.2.1 ∈ wsX5_addCalm := by decide +kernel
set_option maxRecDepth 20000 in
theorem qX5_addCalm_35 : Cond.fieldLink RX5 35 RX5 (TX5 7).2.1 (TX5 7).2.2.1 ∈ wsX5_addCalm := by decide +kernel
set_option maxRecDepth 20000 in
theorem qX5_addCalm_38 : Cond.fieldLink RX5 38 RX5 (TX5 8).2.1 (TX5 8).2.2.1 ∈ wsX5_addCalm := by decide +kernel
def b_X5_addCalm_21 (N : Nat) (σ : nS) (x1 : Int32) (x2 : Int32) : Option (Int32 × nS) := (if x2 ≤ (σ.1 16 7) then some (0, σ) else nLet (wr σ 16 7 x2) (fun σ1 => nLet (wr σ1 16 8 x1) (fun σ2 => some (0, σ2))))
set_option maxHeartbeats 4000000 in
set_option maxRecDepth 100000 in
theorem kb_X5_addCalm_21 {p : Program} {l : Launch} {e : Env} {s : State} {m : MethodId} {args : Array Value} {below : List Frame} {meth : Method} {c : Code} {D : va_G} {A : Nat → Prop} {cy : Nat → ClassId} {a kt vt : Nat → Nat} {N : Nat}   (C0 : nCx p s m args meth c cX5_addCalm 3 none RX5 wsX5_addCalm) (hE : nEn D A cy (NBw cy a) kt vt s) {z : Int32 × nS} : ∀ (σ : nS) (x1 : Int32) (x2 : Int32) (H : Heap) (locs : List Loc) (ls : Array Slot), lv_has ls 3 [(0, .ref (a 16)), (1, .int x1), (2, .int x2)] → va_P D vwCl ((NBw cy a) σ) H → va_S A s.heap H locs → b_X5_addCalm_21 N σ x1 x2 = some z → W p l e ({ frames := 0, cells := 0, slots := 0, locals := 0 } : Room) s m args below meth c H locs 0 0 (nQv below D A (NBw cy a) args s z) (F0 m 21 ls []) := by
  obtain ⟨hx, hb, hr, hml, hown, hts, hlocks⟩ := C0
  intro σ x1 x2 H locs ls hl hP hS hf
  unfold b_X5_addCalm_21 at hf
  refine lv_iload_n hx hb dX5_addCalm_21 rfl (lv_at hl 2 rfl) ?_
  refine lv_aload_n hx hb dX5_addCalm_22 rfl (lv_at hl 0 rfl) ?_
  refine nb_get (ci := 5) hx hb hts iX5_addCalm_X5 hown hE hP 16 nbo_16 rfl 7 (by decide) qX5_addCalm_35 rfl rfl dX5_addCalm_23 ?_
  refine lv_icmp_le (tgt := 39) hx hb dX5_addCalm_26 (by decide) (fun hc => ?_) (fun hc => ?_)
  · replace hf := nIf_t hc hf
    exact nb_vret hx hb hr hlocks hP hS (nSo hf) dX5_addCalm_39
  · replace hf := nIf_f hc hf
    refine lv_aload_n hx hb dX5_addCalm_29 rfl (lv_at hl 0 rfl) ?_
    refine lv_iload_n hx hb dX5_addCalm_30 rfl (lv_at hl 2 rfl) ?_
    refine nb_put (ci := 5) hx hb hts iX5_addCalm_X5 tyX5 tyX5_ok nmX5 hown hE hP hS 16 nbo_16 rfl 7 (by decide) qX5_addCalm_35 rfl rfl rfl rfl (Nat.le_of_ble_eq_true rfl) dX5_addCalm_31 (nbp_16_7 _) (fun σ1 eσ1 H locs hP hS => ?_)
    replace hf := nLet_e hf eσ1
    refine lv_aload_n hx hb dX5_addCalm_34 rfl (lv_at hl 0 rfl) ?_
    refine lv_iload_n hx hb dX5_addCalm_35 rfl (lv_at hl 1 rfl) ?_
    refine nb_put (ci := 5) hx hb hts iX5_addCalm_X5 tyX5 tyX5_ok nmX5 hown hE hP hS 16 nbo_16 rfl 8 (by decide) qX5_addCalm_38 rfl rfl rfl rfl (Nat.le_of_ble_eq_true rfl) dX5_addCalm_36 (nbp_16_8 _) (fun σ2 eσ2 H locs hP hS => ?_)
    replace hf := nLet_e hf eσ2
    exact nb_vret hx hb hr hlocks hP hS (nSo hf) dX5_addCalm_39
def b_X5_addCalm_16 (N : Nat) (k21 : nS → Int32 → Int32 → Option (Int32 × nS)) (σ : nS) (x1 : Int32) (x2 : Int32) : Option (Int32 × nS) := nLet (wr σ 16 6 x2) (fun σ1 => k21 σ1 x1 x2)
set_option maxHeartbeats 4000000 in
set_option maxRecDepth 100000 in
theorem kb_X5_addCalm_16 {p : Program} {l : Launch} {e : Env} {s : State} {m : MethodId} {args : Array Value} {below : List Frame} {meth : Method} {c : Code} {D : va_G} {A : Nat → Prop} {cy : Nat → ClassId} {a kt vt : Nat → Nat} {N : Nat}   (C0 : nCx p s m args meth c cX5_addCalm 3 none RX5 wsX5_addCalm) (hE : nEn D A cy (NBw cy a) kt vt s) {z : Int32 × nS} {k21 : nS → Int32 → Int32 → Option (Int32 × nS)} (K21 : ∀ (σ : nS) (x1 : Int32) (x2 : Int32) (H : Heap) (locs : List Loc) (ls : Array Slot), lv_has ls 3 [(0, .ref (a 16)), (1, .int x1), (2, .int x2)] → va_P D vwCl ((NBw cy a) σ) H → va_S A s.heap H locs → k21 σ x1 x2 = some z → W p l e ({ frames := 0, cells := 0, slots := 0, locals := 0 } : Room) s m args below meth c H locs 0 0 (nQv below D A (NBw cy a) args s z) (F0 m 21 ls [])) : ∀ (σ : nS) (x1 : Int32) (x2 : Int32) (H : Heap) (locs : List Loc) (ls : Array Slot), lv_has ls 3 [(0, .ref (a 16)), (1, .int x1), (2, .int x2)] → va_P D vwCl ((NBw cy a) σ) H → va_S A s.heap H locs → b_X5_addCalm_16 N k21 σ x1 x2 = some z → W p l e ({ frames := 0, cells := 0, slots := 0, locals := 0 } : Room) s m args below meth c H locs 0 0 (nQv below D A (NBw cy a) args s z) (F0 m 16 ls []) := by
  obtain ⟨hx, hb, hr, hml, hown, hts, hlocks⟩ := C0
  intro σ x1 x2 H locs ls hl hP hS hf
  unfold b_X5_addCalm_16 at hf
  refine lv_aload_n hx hb dX5_addCalm_16 rfl (lv_at hl 0 rfl) ?_
  refine lv_iload_n hx hb dX5_addCalm_17 rfl (lv_at hl 2 rfl) ?_
  refine nb_put (ci := 5) hx hb hts iX5_addCalm_X5 tyX5 tyX5_ok nmX5 hown hE hP hS 16 nbo_16 rfl 6 (by decide) qX5_addCalm_32 rfl rfl rfl rfl (Nat.le_of_ble_eq_true rfl) dX5_addCalm_18 (nbp_16_6 _) (fun σ1 eσ1 H locs hP hS => ?_)
  replace hf := nLet_e hf eσ1
  exact K21 σ1 x1 x2 H locs ls (lv_sub hl [0, 1, 2] rfl) hP hS hf
def b_X5_addCalm_0 (N : Nat) (k16 : nS → Int32 → Int32 → Option (Int32 × nS)) (k21 : nS → Int32 → Int32 → Option (Int32 × nS)) (σ : nS) (x1 : Int32) (x2 : Int32) : Option (Int32 × nS) := (if (σ.1 16 6) = (-1) then k16 σ x1 x2 else (if (σ.1 16 6) ≤ x2 then k21 σ x1 x2 else k16 σ x1 x2))
set_option maxHeartbeats 4000000 in
set_option maxRecDepth 100000 in
theorem kb_X5_addCalm_0 {p : Program} {l : Launch} {e : Env} {s : State} {m : MethodId} {args : Array Value} {below : List Frame} {meth : Method} {c : Code} {D : va_G} {A : Nat → Prop} {cy : Nat → ClassId} {a kt vt : Nat → Nat} {N : Nat}   (C0 : nCx p s m args meth c cX5_addCalm 3 none RX5 wsX5_addCalm) (hE : nEn D A cy (NBw cy a) kt vt s) {z : Int32 × nS} {k16 : nS → Int32 → Int32 → Option (Int32 × nS)} (K16 : ∀ (σ : nS) (x1 : Int32) (x2 : Int32) (H : Heap) (locs : List Loc) (ls : Array Slot), lv_has ls 3 [(0, .ref (a 16)), (1, .int x1), (2, .int x2)] → va_P D vwCl ((NBw cy a) σ) H → va_S A s.heap H locs → k16 σ x1 x2 = some z → W p l e ({ frames := 0, cells := 0, slots := 0, locals := 0 } : Room) s m args below meth c H locs 0 0 (nQv below D A (NBw cy a) args s z) (F0 m 16 ls [])) {k21 : nS → Int32 → Int32 → Option (Int32 × nS)} (K21 : ∀ (σ : nS) (x1 : Int32) (x2 : Int32) (H : Heap) (locs : List Loc) (ls : Array Slot), lv_has ls 3 [(0, .ref (a 16)), (1, .int x1), (2, .int x2)] → va_P D vwCl ((NBw cy a) σ) H → va_S A s.heap H locs → k21 σ x1 x2 = some z → W p l e ({ frames := 0, cells := 0, slots := 0, locals := 0 } : Room) s m args below meth c H locs 0 0 (nQv below D A (NBw cy a) args s z) (F0 m 21 ls [])) : ∀ (σ : nS) (x1 : Int32) (x2 : Int32) (H : Heap) (locs : List Loc) (ls : Array Slot), lv_has ls 3 [(0, .ref (a 16)), (1, .int x1), (2, .int x2)] → va_P D vwCl ((NBw cy a) σ) H → va_S A s.heap H locs → b_X5_addCalm_0 N k16 k21 σ x1 x2 = some z → W p l e ({ frames := 0, cells := 0, slots := 0, locals := 0 } : Room) s m args below meth c H locs 0 0 (nQv below D A (NBw cy a) args s z) (F0 m 0 ls []) := by
  obtain ⟨hx, hb, hr, hml, hown, hts, hlocks⟩ := C0
  intro σ x1 x2 H locs ls hl hP hS hf
  unfold b_X5_addCalm_0 at hf
  refine lv_aload_n hx hb dX5_addCalm_0 rfl (lv_at hl 0 rfl) ?_
  refine nb_get (ci := 5) hx hb hts iX5_addCalm_X5 hown hE hP 16 nbo_16 rfl 6 (by decide) qX5_addCalm_32 rfl rfl dX5_addCalm_1 ?_
  refine lv_iconst (v := (-1)) hx hb dX5_addCalm_4 (by decide) ?_
  refine lv_icmp_eq (tgt := 16) hx hb dX5_addCalm_5 (by decide) (fun hc => ?_) (fun hc => ?_)
  · replace hf := nIf_t hc hf
    exact K16 σ x1 x2 H locs ls (lv_sub hl [0, 1, 2] rfl) hP hS hf
  · replace hf := nIf_f hc hf
    refine lv_iload_n hx hb dX5_addCalm_8 rfl (lv_at hl 2 rfl) ?_
    refine lv_aload_n hx hb dX5_addCalm_9 rfl (lv_at hl 0 rfl) ?_
    refine nb_get (ci := 5) hx hb hts iX5_addCalm_X5 hown hE hP 16 nbo_16 rfl 6 (by decide) qX5_addCalm_32 rfl rfl dX5_addCalm_10 ?_
    refine lv_icmp_ge (tgt := 21) hx hb dX5_addCalm_13 (by decide) (fun hc => ?_) (fun hc => ?_)
    · replace hf := nIf_t hc hf
      exact K21 σ x1 x2 H locs ls (lv_sub hl [0, 1, 2] rfl) hP hS hf
    · replace hf := nIf_f hc hf
      exact K16 σ x1 x2 H locs ls (lv_sub hl [0, 1, 2] rfl) hP hS hf
def l_X5_addCalm_21 (N : Nat) : nS → Int32 → Int32 → Option (Int32 × nS) := b_X5_addCalm_21 N
theorem kl_X5_addCalm_21 {p : Program} {l : Launch} {e : Env} {s : State} {m : MethodId} {args : Array Value} {below : List Frame} {meth : Method} {c : Code} {D : va_G} {A : Nat → Prop} {cy : Nat → ClassId} {a kt vt : Nat → Nat} {N : Nat}   (C0 : nCx p s m args meth c cX5_addCalm 3 none RX5 wsX5_addCalm) (hE : nEn D A cy (NBw cy a) kt vt s) {z : Int32 × nS} : ∀ (σ : nS) (x1 : Int32) (x2 : Int32) (H : Heap) (locs : List Loc) (ls : Array Slot), lv_has ls 3 [(0, .ref (a 16)), (1, .int x1), (2, .int x2)] → va_P D vwCl ((NBw cy a) σ) H → va_S A s.heap H locs → l_X5_addCalm_21 N σ x1 x2 = some z → W p l e ({ frames := 0, cells := 0, slots := 0, locals := 0 } : Room) s m args below meth c H locs 0 0 (nQv below D A (NBw cy a) args s z) (F0 m 21 ls []) := by
  exact kb_X5_addCalm_21 (N := N)  C0 hE
def l_X5_addCalm_16 (N : Nat) (k21 : nS → Int32 → Int32 → Option (Int32 × nS)) : nS → Int32 → Int32 → Option (Int32 × nS) := b_X5_addCalm_16 N k21
theorem kl_X5_addCalm_16 {p : Program} {l : Launch} {e : Env} {s : State} {m : MethodId} {args : Array Value} {below : List Frame} {meth : Method} {c : Code} {D : va_G} {A : Nat → Prop} {cy : Nat → ClassId} {a kt vt : Nat → Nat} {N : Nat}   (C0 : nCx p s m args meth c cX5_addCalm 3 none RX5 wsX5_addCalm) (hE : nEn D A cy (NBw cy a) kt vt s) {z : Int32 × nS} {k21 : nS → Int32 → Int32 → Option (Int32 × nS)} (K21 : ∀ (σ : nS) (x1 : Int32) (x2 : Int32) (H : Heap) (locs : List Loc) (ls : Array Slot), lv_has ls 3 [(0, .ref (a 16)), (1, .int x1), (2, .int x2)] → va_P D vwCl ((NBw cy a) σ) H → va_S A s.heap H locs → k21 σ x1 x2 = some z → W p l e ({ frames := 0, cells := 0, slots := 0, locals := 0 } : Room) s m args below meth c H locs 0 0 (nQv below D A (NBw cy a) args s z) (F0 m 21 ls [])) : ∀ (σ : nS) (x1 : Int32) (x2 : Int32) (H : Heap) (locs : List Loc) (ls : Array Slot), lv_has ls 3 [(0, .ref (a 16)), (1, .int x1), (2, .int x2)] → va_P D vwCl ((NBw cy a) σ) H → va_S A s.heap H locs → l_X5_addCalm_16 N k21 σ x1 x2 = some z → W p l e ({ frames := 0, cells := 0, slots := 0, locals := 0 } : Room) s m args below meth c H locs 0 0 (nQv below D A (NBw cy a) args s z) (F0 m 16 ls []) := by
  exact kb_X5_addCalm_16 (N := N)  C0 hE K21
def l_X5_addCalm_0 (N : Nat) : nS → Int32 → Int32 → Option (Int32 × nS) := b_X5_addCalm_0 N (l_X5_addCalm_16 N (l_X5_addCalm_21 N)) (l_X5_addCalm_21 N)
theorem kl_X5_addCalm_0 {p : Program} {l : Launch} {e : Env} {s : State} {m : MethodId} {args : Array Value} {below : List Frame} {meth : Method} {c : Code} {D : va_G} {A : Nat → Prop} {cy : Nat → ClassId} {a kt vt : Nat → Nat} {N : Nat}   (C0 : nCx p s m args meth c cX5_addCalm 3 none RX5 wsX5_addCalm) (hE : nEn D A cy (NBw cy a) kt vt s) {z : Int32 × nS} : ∀ (σ : nS) (x1 : Int32) (x2 : Int32) (H : Heap) (locs : List Loc) (ls : Array Slot), lv_has ls 3 [(0, .ref (a 16)), (1, .int x1), (2, .int x2)] → va_P D vwCl ((NBw cy a) σ) H → va_S A s.heap H locs → l_X5_addCalm_0 N σ x1 x2 = some z → W p l e ({ frames := 0, cells := 0, slots := 0, locals := 0 } : Room) s m args below meth c H locs 0 0 (nQv below D A (NBw cy a) args s z) (F0 m 0 ls []) := by
  exact kb_X5_addCalm_0 (N := N)  C0 hE (kl_X5_addCalm_16 (N := N)  C0 hE (kl_X5_addCalm_21 (N := N)  C0 hE)) (kl_X5_addCalm_21 (N := N)  C0 hE)
def f_X5_addCalm (N : Nat) (x1 : Int32) (x2 : Int32) (σ : nS) : Option (Int32 × nS) := l_X5_addCalm_0 N σ x1 x2
set_option maxHeartbeats 4000000 in
set_option maxRecDepth 100000 in
theorem c_X5_addCalm {l : Launch} {D : va_G} {A : Nat → Prop} {cy : Nat → ClassId} {a kt vt : Nat → Nat} {N : Nat}   {x1 : Int32} {x2 : Int32} {σ : nS} {r : Int32} {σ' : nS} (hf : f_X5_addCalm N x1 x2 σ = some (r, σ')) : nMv l yX5_addCalm wsX5_addCalm ({ frames := 0, cells := 0, slots := 0, locals := 0 } : Room) D A cy (NBw cy a) kt vt [.ref (a 16), .int x1, .int x2] σ σ' := by
  refine Met.ofW (cc := cX5_addCalm) (maxL := 3) (ret := none) (by decide) rfl ?_
  intro p e s m args below meth c s₁ B hml hv
  obtain ⟨rfl, hP, hE⟩ := hv
  have hl := lv_entry ([.ref (a 16), .int x1, .int x2]) (n := 3) (Nat.le_of_ble_eq_true rfl)
  rw [lg_entry_eq]
  generalize (lg_sl ([.ref (a 16), .int x1, .int x2]) ++ List.replicate (3 - (lg_sl ([.ref (a 16), .int x1, .int x2])).length) Slot.unset).toArray = ls at hl ⊢
  have C0 : nCx p s m _ meth c cX5_addCalm 3 none RX5 wsX5_addCalm := ⟨B.exec, B.bytes, B.returns, hml, findClass_of_methodNamed B.named, atoms_spec (ws := wsX5_addCalm) B.pre, B.notSynchronized⟩
  exact kl_X5_addCalm_0 (N := N)  C0 hE (z := (r, σ')) σ x1 x2 _ _ ls hl hP va_S.rf hf

/-! X5_add -/
set_option maxRecDepth 20000 in
theorem iX5_add_X5 : ∀ w ∈ u_ws RX5 TX5 11, w ∈ wsX5_add := fun _ h => List.mem_cons_of_mem _ (List.mem_append_right _ h)
set_option maxRecDepth 20000 in
theorem qX5_add_15 : Cond.fieldLink RX5 15 RX5 (TX5 1).2.1 (TX5 1).2.2.1 ∈ wsX5_add := by decide +kernel
set_option maxRecDepth 20000 in
theorem qX5_add_29 : Cond.fieldLink RX5 29 RX5 (TX5 5).2.1 (TX5 5).2.2.1 ∈ wsX5_add := by decide +kernel
set_option maxRecDepth 20000 in
theorem qX5_add_41 : Cond.fieldLink RX5 41 RX5 (TX5 9).2.1 (TX5 9).2.2.1 ∈ wsX5_add := by decide +kernel
set_option maxRecDepth 20000 in
theorem qX5_add_44 : Cond.fieldLink RX5 44 RX5 (TX5 10).2.1 (TX5 10).2.2.1 ∈ wsX5_add := by decide +kernel
def b_X5_add_23 (N : Nat) (σ : nS) (x1 : Int32) (x2 : Int32) (x3 : Int32) : Option (Int32 × nS) := (if x2 = 0 then nBd (f_X5_addCalm N x1 x3 σ) (fun r9 σ10 => some (0, σ10)) else (if (σ.1 16 5) = 0 then nBd (f_X5_rowAt N x1 σ) (fun r3 σ4 => nLet (wr σ4 16 9 r3) (fun σ5 => nLet (wr σ5 16 10 x2) (fun σ6 => nLet ((σ6.1 16 5) + (1 : Int32) : Int32) (fun v7 => nLet (wr σ6 16 5 v7) (fun σ8 => some (0, σ8)))))) else nLet ((σ.1 16 5) + (1 : Int32) : Int32) (fun v1 => nLet (wr σ 16 5 v1) (fun σ2 => some (0, σ2)))))
set_option maxHeartbeats 4000000 in
set_option maxRecDepth 100000 in
theorem kb_X5_add_23 {p : Program} {l : Launch} {e : Env} {s : State} {m : MethodId} {args : Array Value} {below : List Frame} {meth : Method} {c : Code} {D : va_G} {A : Nat → Prop} {cy : Nat → ClassId} {a kt vt : Nat → Nat} {N : Nat}   (C0 : nCx p s m args meth c cX5_add 4 none RX5 wsX5_add) (hE : nEn D A cy (NBw cy a) kt vt s) {z : Int32 × nS} : ∀ (σ : nS) (x1 : Int32) (x2 : Int32) (x3 : Int32) (H : Heap) (locs : List Loc) (ls : Array Slot), lv_has ls 4 [(0, .ref (a 16)), (1, .int x1), (2, .int x2), (3, .int x3)] → va_P D vwCl ((NBw cy a) σ) H → va_S A s.heap H locs → b_X5_add_23 N σ x1 x2 x3 = some z → W p l e ({ frames := 1, cells := 0, slots := 0, locals := 22 } : Room) s m args below meth c H locs 0 0 (nQv below D A (NBw cy a) args s z) (F0 m 23 ls []) := by
  obtain ⟨hx, hb, hr, hml, hown, hts, hlocks⟩ := C0
  intro σ x1 x2 x3 H locs ls hl hP hS hf
  unfold b_X5_add_23 at hf
  refine lv_iload_n hx hb dX5_add_23 rfl (lv_at hl 2 rfl) ?_
  refine lv_if_ne (tgt := 34) hx hb dX5_add_24 (by decide) (fun hc => ?_) (fun hc => ?_)
  · replace hf := nIf_f hc hf
    refine lv_aload_n hx hb dX5_add_34 rfl (lv_at hl 0 rfl) ?_
    refine nb_get (ci := 5) hx hb hts iX5_add_X5 hown hE hP 16 nbo_16 rfl 5 (by decide) qX5_add_29 rfl rfl dX5_add_35 ?_
    refine lv_if_ne (tgt := 55) hx hb dX5_add_38 (by decide) (fun hc => ?_) (fun hc => ?_)
    · replace hf := nIf_f hc hf
      refine lv_aload_n hx hb dX5_add_55 rfl (lv_at hl 0 rfl) ?_
      refine lv_dup hx hb dX5_add_56 rfl ?_
      refine nb_get (ci := 5) hx hb hts iX5_add_X5 hown hE hP 16 nbo_16 rfl 5 (by decide) qX5_add_29 rfl rfl dX5_add_57 ?_
      refine lv_iconst (v := 1) hx hb dX5_add_60 (by decide) ?_
      refine lv_iadd hx hb dX5_add_61 ?_
      refine lv_topi (fun v1 ev1 => ?_)
      replace hf := nLet_e hf ev1
      refine nb_put (ci := 5) hx hb hts iX5_add_X5 tyX5 tyX5_ok nmX5 hown hE hP hS 16 nbo_16 rfl 5 (by decide) qX5_add_29 rfl rfl rfl rfl (Nat.le_of_ble_eq_true rfl) dX5_add_62 (nbp_16_5 _) (fun σ2 eσ2 H locs hP hS => ?_)
      replace hf := nLet_e hf eσ2
      exact nb_vret hx hb hr hlocks hP hS (nSo hf) dX5_add_65
    · replace hf := nIf_t hc hf
      refine lv_aload_n hx hb dX5_add_41 rfl (lv_at hl 0 rfl) ?_
      refine lv_aload_n hx hb dX5_add_42 rfl (lv_at hl 0 rfl) ?_
      refine lv_iload_n hx hb dX5_add_43 rfl (lv_at hl 1 rfl) ?_
      obtain ⟨r3, σ4, hc4, hf⟩ := nBd_e hf
      refine nb_callVi (As := [.int x1]) (rest := [.ref (a 16)]) ⟨hx, hb, hml, hown, hts⟩ (c_X5_rowAt (D := D) (A := A) (cy := cy) (a := a) (kt := kt) (vt := vt) (l := l)  hc4) (cwV 1 hts gX5_add_X5_rowAt rfl rfl rfl (by decide +kernel) ⟨Nat.le_of_ble_eq_true rfl, Nat.le_of_ble_eq_true rfl⟩) hE hP hS nbo_16 rfl rfl hl.1 rfl (Nat.le_of_ble_eq_true rfl) dX5_add_44 (fun H locs hP hS => ?_)
      refine nb_put (ci := 5) hx hb hts iX5_add_X5 tyX5 tyX5_ok nmX5 hown hE hP hS 16 nbo_16 rfl 9 (by decide) qX5_add_41 rfl rfl rfl rfl (Nat.le_of_ble_eq_true rfl) dX5_add_47 (nbp_16_9 _) (fun σ5 eσ5 H locs hP hS => ?_)
      replace hf := nLet_e hf eσ5
      refine lv_aload_n hx hb dX5_add_50 rfl (lv_at hl 0 rfl) ?_
      refine lv_iload_n hx hb dX5_add_51 rfl (lv_at hl 2 rfl) ?_
      refine nb_put (ci := 5) hx hb hts iX5_add_X5 tyX5 tyX5_ok nmX5 hown hE hP hS 16 nbo_16 rfl 10 (by decide) qX5_add_44 rfl rfl rfl rfl (Nat.le_of_ble_eq_true rfl) dX5_add_52 (nbp_16_10 _) (fun σ6 eσ6 H locs hP hS => ?_)
      replace hf := nLet_e hf eσ6
      refine lv_aload_n hx hb dX5_add_55 rfl (lv_at hl 0 rfl) ?_
      refine lv_dup hx hb dX5_add_56 rfl ?_
      refine nb_get (ci := 5) hx hb hts iX5_add_X5 hown hE hP 16 nbo_16 rfl 5 (by decide) qX5_add_29 rfl rfl dX5_add_57 ?_
      refine lv_iconst (v := 1) hx hb dX5_add_60 (by decide) ?_
      refine lv_iadd hx hb dX5_add_61 ?_
      refine lv_topi (fun v7 ev7 => ?_)
      replace hf := nLet_e hf ev7
      refine nb_put (ci := 5) hx hb hts iX5_add_X5 tyX5 tyX5_ok nmX5 hown hE hP hS 16 nbo_16 rfl 5 (by decide) qX5_add_29 rfl rfl rfl rfl (Nat.le_of_ble_eq_true rfl) dX5_add_62 (nbp_16_5 _) (fun σ8 eσ8 H locs hP hS => ?_)
      replace hf := nLet_e hf eσ8
      exact nb_vret hx hb hr hlocks hP hS (nSo hf) dX5_add_65
  · replace hf := nIf_t hc hf
    refine lv_aload_n hx hb dX5_add_27 rfl (lv_at hl 0 rfl) ?_
    refine lv_iload_n hx hb dX5_add_28 rfl (lv_at hl 1 rfl) ?_
    refine lv_iload_n hx hb dX5_add_29 rfl (lv_at hl 3 rfl) ?_
    obtain ⟨r9, σ10, hc10, hf⟩ := nBd_e hf
    refine nb_callVv (As := [.int x1, .int x3]) (rest := []) ⟨hx, hb, hml, hown, hts⟩ (c_X5_addCalm (D := D) (A := A) (cy := cy) (a := a) (kt := kt) (vt := vt) (l := l)  hc10) (cwV 2 hts gX5_add_X5_addCalm rfl rfl rfl (by decide +kernel) ⟨Nat.le_of_ble_eq_true rfl, Nat.le_of_ble_eq_true rfl⟩) hE hP hS nbo_16 rfl rfl hl.1 rfl (Nat.le_of_ble_eq_true rfl) dX5_add_30 (fun H locs hP hS => ?_)
    exact nb_vret hx hb hr hlocks hP hS (nSo hf) dX5_add_33
def b_X5_add_0 (N : Nat) (k23 : nS → Int32 → Int32 → Int32 → Option (Int32 × nS)) (σ : nS) (x1 : Int32) (x2 : Int32) (x3 : Int32) : Option (Int32 × nS) := (if x2 < 0 then k23 σ x1 x2 x3 else nLet (Int32.ofNat 7) (fun v1 => (if v1 ≤ x2 then k23 σ x1 x2 x3 else nIx x2 7 (nLet (σ.1 18 (x2).toNatClampNeg) (fun v2 => nLet (v2 + (1 : Int32) : Int32) (fun v3 => nIx x2 7 (nLet (wr σ 18 (x2).toNatClampNeg v3) (fun σ4 => k23 σ4 x1 x2 x3))))))))
set_option maxHeartbeats 4000000 in
set_option maxRecDepth 100000 in
theorem kb_X5_add_0 {p : Program} {l : Launch} {e : Env} {s : State} {m : MethodId} {args : Array Value} {below : List Frame} {meth : Method} {c : Code} {D : va_G} {A : Nat → Prop} {cy : Nat → ClassId} {a kt vt : Nat → Nat} {N : Nat}   (C0 : nCx p s m args meth c cX5_add 4 none RX5 wsX5_add) (hE : nEn D A cy (NBw cy a) kt vt s) {z : Int32 × nS} {k23 : nS → Int32 → Int32 → Int32 → Option (Int32 × nS)} (K23 : ∀ (σ : nS) (x1 : Int32) (x2 : Int32) (x3 : Int32) (H : Heap) (locs : List Loc) (ls : Array Slot), lv_has ls 4 [(0, .ref (a 16)), (1, .int x1), (2, .int x2), (3, .int x3)] → va_P D vwCl ((NBw cy a) σ) H → va_S A s.heap H locs → k23 σ x1 x2 x3 = some z → W p l e ({ frames := 1, cells := 0, slots := 0, locals := 22 } : Room) s m args below meth c H locs 0 0 (nQv below D A (NBw cy a) args s z) (F0 m 23 ls [])) : ∀ (σ : nS) (x1 : Int32) (x2 : Int32) (x3 : Int32) (H : Heap) (locs : List Loc) (ls : Array Slot), lv_has ls 4 [(0, .ref (a 16)), (1, .int x1), (2, .int x2), (3, .int x3)] → va_P D vwCl ((NBw cy a) σ) H → va_S A s.heap H locs → b_X5_add_0 N k23 σ x1 x2 x3 = some z → W p l e ({ frames := 1, cells := 0, slots := 0, locals := 22 } : Room) s m args below meth c H locs 0 0 (nQv below D A (NBw cy a) args s z) (F0 m 0 ls []) := by
  obtain ⟨hx, hb, hr, hml, hown, hts, hlocks⟩ := C0
  intro σ x1 x2 x3 H locs ls hl hP hS hf
  unfold b_X5_add_0 at hf
  refine lv_iload_n hx hb dX5_add_0 rfl (lv_at hl 2 rfl) ?_
  refine lv_if_lt (tgt := 23) hx hb dX5_add_1 (by decide) (fun hc => ?_) (fun hc => ?_)
  · replace hf := nIf_t hc hf
    exact K23 σ x1 x2 x3 H locs ls (lv_sub hl [0, 1, 2, 3] rfl) hP hS hf
  · replace hf := nIf_f hc hf
    refine lv_iload_n hx hb dX5_add_4 rfl (lv_at hl 2 rfl) ?_
    refine lv_aload_n hx hb dX5_add_5 rfl (lv_at hl 0 rfl) ?_
    refine nb_get (ci := 5) hx hb hts iX5_add_X5 hown hE hP 16 nbo_16 rfl 1 (by decide) qX5_add_15 rfl rfl dX5_add_6 ?_
    refine na_alen hx hb hE hP nbr_18 dX5_add_9 ?_
    refine lv_topi (fun v1 ev1 => ?_)
    replace hf := nLet_e hf ev1
    refine lv_icmp_ge (tgt := 23) hx hb dX5_add_10 (by decide) (fun hc => ?_) (fun hc => ?_)
    · replace hf := nIf_t hc hf
      exact K23 σ x1 x2 x3 H locs ls (lv_sub hl [0, 1, 2, 3] rfl) hP hS hf
    · replace hf := nIf_f hc hf
      refine lv_aload_n hx hb dX5_add_13 rfl (lv_at hl 0 rfl) ?_
      refine nb_get (ci := 5) hx hb hts iX5_add_X5 hown hE hP 16 nbo_16 rfl 1 (by decide) qX5_add_15 rfl rfl dX5_add_14 ?_
      refine lv_iload_n hx hb dX5_add_17 rfl (lv_at hl 2 rfl) ?_
      refine lv_dup2_11 hx hb dX5_add_18 rfl rfl ?_
      obtain ⟨hin, hf⟩ := nIx_e hf
      refine na_iald hx hb hE hP nbr_18 hin dX5_add_19 ?_
      refine lv_topi (fun v2 ev2 => ?_)
      replace hf := nLet_e hf ev2
      refine lv_iconst (v := 1) hx hb dX5_add_20 (by decide) ?_
      refine lv_iadd hx hb dX5_add_21 ?_
      refine lv_topi (fun v3 ev3 => ?_)
      replace hf := nLet_e hf ev3
      obtain ⟨hin, hf⟩ := nIx_e hf
      refine na_iast hx hb hE hP hS nbr_18 hin dX5_add_22 (fun σ4 eσ4 H locs hP hS => ?_)
      replace hf := nLet_e hf eσ4
      exact K23 σ4 x1 x2 x3 H locs ls (lv_sub hl [0, 1, 2, 3] rfl) hP hS hf
def l_X5_add_23 (N : Nat) : nS → Int32 → Int32 → Int32 → Option (Int32 × nS) := b_X5_add_23 N
theorem kl_X5_add_23 {p : Program} {l : Launch} {e : Env} {s : State} {m : MethodId} {args : Array Value} {below : List Frame} {meth : Method} {c : Code} {D : va_G} {A : Nat → Prop} {cy : Nat → ClassId} {a kt vt : Nat → Nat} {N : Nat}   (C0 : nCx p s m args meth c cX5_add 4 none RX5 wsX5_add) (hE : nEn D A cy (NBw cy a) kt vt s) {z : Int32 × nS} : ∀ (σ : nS) (x1 : Int32) (x2 : Int32) (x3 : Int32) (H : Heap) (locs : List Loc) (ls : Array Slot), lv_has ls 4 [(0, .ref (a 16)), (1, .int x1), (2, .int x2), (3, .int x3)] → va_P D vwCl ((NBw cy a) σ) H → va_S A s.heap H locs → l_X5_add_23 N σ x1 x2 x3 = some z → W p l e ({ frames := 1, cells := 0, slots := 0, locals := 22 } : Room) s m args below meth c H locs 0 0 (nQv below D A (NBw cy a) args s z) (F0 m 23 ls []) := by
  exact kb_X5_add_23 (N := N)  C0 hE
def l_X5_add_0 (N : Nat) : nS → Int32 → Int32 → Int32 → Option (Int32 × nS) := b_X5_add_0 N (l_X5_add_23 N)
theorem kl_X5_add_0 {p : Program} {l : Launch} {e : Env} {s : State} {m : MethodId} {args : Array Value} {below : List Frame} {meth : Method} {c : Code} {D : va_G} {A : Nat → Prop} {cy : Nat → ClassId} {a kt vt : Nat → Nat} {N : Nat}   (C0 : nCx p s m args meth c cX5_add 4 none RX5 wsX5_add) (hE : nEn D A cy (NBw cy a) kt vt s) {z : Int32 × nS} : ∀ (σ : nS) (x1 : Int32) (x2 : Int32) (x3 : Int32) (H : Heap) (locs : List Loc) (ls : Array Slot), lv_has ls 4 [(0, .ref (a 16)), (1, .int x1), (2, .int x2), (3, .int x3)] → va_P D vwCl ((NBw cy a) σ) H → va_S A s.heap H locs → l_X5_add_0 N σ x1 x2 x3 = some z → W p l e ({ frames := 1, cells := 0, slots := 0, locals := 22 } : Room) s m args below meth c H locs 0 0 (nQv below D A (NBw cy a) args s z) (F0 m 0 ls []) := by
  exact kb_X5_add_0 (N := N)  C0 hE (kl_X5_add_23 (N := N)  C0 hE)
def f_X5_add (N : Nat) (x1 : Int32) (x2 : Int32) (x3 : Int32) (σ : nS) : Option (Int32 × nS) := l_X5_add_0 N σ x1 x2 x3
set_option maxHeartbeats 4000000 in
set_option maxRecDepth 100000 in
theorem c_X5_add {l : Launch} {D : va_G} {A : Nat → Prop} {cy : Nat → ClassId} {a kt vt : Nat → Nat} {N : Nat}   {x1 : Int32} {x2 : Int32} {x3 : Int32} {σ : nS} {r : Int32} {σ' : nS} (hf : f_X5_add N x1 x2 x3 σ = some (r, σ')) : nMv l yX5_add wsX5_add ({ frames := 1, cells := 0, slots := 0, locals := 22 } : Room) D A cy (NBw cy a) kt vt [.ref (a 16), .int x1, .int x2, .int x3] σ σ' := by
  refine Met.ofW (cc := cX5_add) (maxL := 4) (ret := none) (by decide) rfl ?_
  intro p e s m args below meth c s₁ B hml hv
  obtain ⟨rfl, hP, hE⟩ := hv
  have hl := lv_entry ([.ref (a 16), .int x1, .int x2, .int x3]) (n := 4) (Nat.le_of_ble_eq_true rfl)
  rw [lg_entry_eq]
  generalize (lg_sl ([.ref (a 16), .int x1, .int x2, .int x3]) ++ List.replicate (4 - (lg_sl ([.ref (a 16), .int x1, .int x2, .int x3])).length) Slot.unset).toArray = ls at hl ⊢
  have C0 : nCx p s m _ meth c cX5_add 4 none RX5 wsX5_add := ⟨B.exec, B.bytes, B.returns, hml, findClass_of_methodNamed B.named, atoms_spec (ws := wsX5_add) B.pre, B.notSynchronized⟩
  exact kl_X5_add_0 (N := N)  C0 hE (z := (r, σ')) σ x1 x2 x3 _ _ ls hl hP va_S.rf hf

/-! X5_endedBy -/
set_option maxRecDepth 20000 in
theorem iX5_endedBy_X5 : ∀ w ∈ u_ws RX5 TX5 11, w ∈ wsX5_endedBy := fun _ h => List.mem_cons_of_mem _ (List.mem_append_right _ h)
set_option maxRecDepth 20000 in
theorem qX5_endedBy_18 : Cond.fieldLink RX5 18 RX5 (TX5 2).2.1 (TX5 2).2.2.1 ∈ wsX5_endedBy := by decide +kernel
set_option maxRecDepth 20000 in
theorem qX5_endedBy_15 : Cond.fieldLink RX5 15 RX5 (TX5 1).2.1 (TX5 1).2.2.1 ∈ wsX5_endedBy := by decide +kernel
def b_X5_endedBy_0 (N : Nat) (σ : nS) (x1 : Int32) : Option (Int32 × nS) := (if (σ.1 16 2) = 0 then some ((-1), σ) else (if x1 < 0 then some ((-1), σ) else nLet (Int32.ofNat 7) (fun v1 => (if v1 ≤ x1 then some ((-1), σ) else nIx x1 7 (nLet (σ.1 18 (x1).toNatClampNeg) (fun v2 => some (v2, σ)))))))
set_option maxHeartbeats 4000000 in
set_option maxRecDepth 100000 in
theorem kb_X5_endedBy_0 {p : Program} {l : Launch} {e : Env} {s : State} {m : MethodId} {args : Array Value} {below : List Frame} {meth : Method} {c : Code} {D : va_G} {A : Nat → Prop} {cy : Nat → ClassId} {a kt vt : Nat → Nat} {N : Nat}   (C0 : nCx p s m args meth c cX5_endedBy 2 (some .int) RX5 wsX5_endedBy) (hE : nEn D A cy (NBw cy a) kt vt s) {z : Int32 × nS} : ∀ (σ : nS) (x1 : Int32) (H : Heap) (locs : List Loc) (ls : Array Slot), lv_has ls 2 [(0, .ref (a 16)), (1, .int x1)] → va_P D vwCl ((NBw cy a) σ) H → va_S A s.heap H locs → b_X5_endedBy_0 N σ x1 = some z → W p l e ({ frames := 0, cells := 0, slots := 0, locals := 0 } : Room) s m args below meth c H locs 0 0 (nQi below D A (NBw cy a) args s z) (F0 m 0 ls []) := by
  obtain ⟨hx, hb, hr, hml, hown, hts, hlocks⟩ := C0
  intro σ x1 H locs ls hl hP hS hf
  unfold b_X5_endedBy_0 at hf
  refine lv_aload_n hx hb dX5_endedBy_0 rfl (lv_at hl 0 rfl) ?_
  refine nb_get (ci := 5) hx hb hts iX5_endedBy_X5 hown hE hP 16 nbo_16 rfl 2 (by decide) qX5_endedBy_18 rfl rfl dX5_endedBy_1 ?_
  refine lv_if_eq (tgt := 29) hx hb dX5_endedBy_4 (by decide) (fun hc => ?_) (fun hc => ?_)
  · replace hf := nIf_t hc hf
    refine lv_iconst (v := (-1)) hx hb dX5_endedBy_29 (by decide) ?_
    exact nb_iret hx hb hr hlocks hP hS (nSo hf) dX5_endedBy_30
  · replace hf := nIf_f hc hf
    refine lv_iload_n hx hb dX5_endedBy_7 rfl (lv_at hl 1 rfl) ?_
    refine lv_if_lt (tgt := 29) hx hb dX5_endedBy_8 (by decide) (fun hc => ?_) (fun hc => ?_)
    · replace hf := nIf_t hc hf
      refine lv_iconst (v := (-1)) hx hb dX5_endedBy_29 (by decide) ?_
      exact nb_iret hx hb hr hlocks hP hS (nSo hf) dX5_endedBy_30
    · replace hf := nIf_f hc hf
      refine lv_iload_n hx hb dX5_endedBy_11 rfl (lv_at hl 1 rfl) ?_
      refine lv_aload_n hx hb dX5_endedBy_12 rfl (lv_at hl 0 rfl) ?_
      refine nb_get (ci := 5) hx hb hts iX5_endedBy_X5 hown hE hP 16 nbo_16 rfl 1 (by decide) qX5_endedBy_15 rfl rfl dX5_endedBy_13 ?_
      refine na_alen hx hb hE hP nbr_18 dX5_endedBy_16 ?_
      refine lv_topi (fun v1 ev1 => ?_)
      replace hf := nLet_e hf ev1
      refine lv_icmp_ge (tgt := 29) hx hb dX5_endedBy_17 (by decide) (fun hc => ?_) (fun hc => ?_)
      · replace hf := nIf_t hc hf
        refine lv_iconst (v := (-1)) hx hb dX5_endedBy_29 (by decide) ?_
        exact nb_iret hx hb hr hlocks hP hS (nSo hf) dX5_endedBy_30
      · replace hf := nIf_f hc hf
        refine lv_aload_n hx hb dX5_endedBy_20 rfl (lv_at hl 0 rfl) ?_
        refine nb_get (ci := 5) hx hb hts iX5_endedBy_X5 hown hE hP 16 nbo_16 rfl 1 (by decide) qX5_endedBy_15 rfl rfl dX5_endedBy_21 ?_
        refine lv_iload_n hx hb dX5_endedBy_24 rfl (lv_at hl 1 rfl) ?_
        obtain ⟨hin, hf⟩ := nIx_e hf
        refine na_iald hx hb hE hP nbr_18 hin dX5_endedBy_25 ?_
        refine lv_topi (fun v2 ev2 => ?_)
        replace hf := nLet_e hf ev2
        refine lv_goto (tgt := 30) hx hb dX5_endedBy_26 (by decide) ?_
        exact nb_iret hx hb hr hlocks hP hS (nSo hf) dX5_endedBy_30
def l_X5_endedBy_0 (N : Nat) : nS → Int32 → Option (Int32 × nS) := b_X5_endedBy_0 N
theorem kl_X5_endedBy_0 {p : Program} {l : Launch} {e : Env} {s : State} {m : MethodId} {args : Array Value} {below : List Frame} {meth : Method} {c : Code} {D : va_G} {A : Nat → Prop} {cy : Nat → ClassId} {a kt vt : Nat → Nat} {N : Nat}   (C0 : nCx p s m args meth c cX5_endedBy 2 (some .int) RX5 wsX5_endedBy) (hE : nEn D A cy (NBw cy a) kt vt s) {z : Int32 × nS} : ∀ (σ : nS) (x1 : Int32) (H : Heap) (locs : List Loc) (ls : Array Slot), lv_has ls 2 [(0, .ref (a 16)), (1, .int x1)] → va_P D vwCl ((NBw cy a) σ) H → va_S A s.heap H locs → l_X5_endedBy_0 N σ x1 = some z → W p l e ({ frames := 0, cells := 0, slots := 0, locals := 0 } : Room) s m args below meth c H locs 0 0 (nQi below D A (NBw cy a) args s z) (F0 m 0 ls []) := by
  exact kb_X5_endedBy_0 (N := N)  C0 hE
def f_X5_endedBy (N : Nat) (x1 : Int32) (σ : nS) : Option (Int32 × nS) := l_X5_endedBy_0 N σ x1
set_option maxHeartbeats 4000000 in
set_option maxRecDepth 100000 in
theorem c_X5_endedBy {l : Launch} {D : va_G} {A : Nat → Prop} {cy : Nat → ClassId} {a kt vt : Nat → Nat} {N : Nat}   {x1 : Int32} {σ : nS} {r : Int32} {σ' : nS} (hf : f_X5_endedBy N x1 σ = some (r, σ')) : nMi l yX5_endedBy wsX5_endedBy ({ frames := 0, cells := 0, slots := 0, locals := 0 } : Room) D A cy (NBw cy a) kt vt [.ref (a 16), .int x1] σ r σ' := by
  refine Met.ofW (cc := cX5_endedBy) (maxL := 2) (ret := (some .int)) (by decide) rfl ?_
  intro p e s m args below meth c s₁ B hml hv
  obtain ⟨rfl, hP, hE⟩ := hv
  have hl := lv_entry ([.ref (a 16), .int x1]) (n := 2) (Nat.le_of_ble_eq_true rfl)
  rw [lg_entry_eq]
  generalize (lg_sl ([.ref (a 16), .int x1]) ++ List.replicate (2 - (lg_sl ([.ref (a 16), .int x1])).length) Slot.unset).toArray = ls at hl ⊢
  have C0 : nCx p s m _ meth c cX5_endedBy 2 (some .int) RX5 wsX5_endedBy := ⟨B.exec, B.bytes, B.returns, hml, findClass_of_methodNamed B.named, atoms_spec (ws := wsX5_endedBy) B.pre, B.notSynchronized⟩
  exact kl_X5_endedBy_0 (N := N)  C0 hE (z := (r, σ')) σ x1 _ _ ls hl hP va_S.rf hf

/-! X5_about -/
set_option maxRecDepth 20000 in
theorem iX5_about_X5 : ∀ w ∈ u_ws RX5 TX5 11, w ∈ wsX5_about := fun _ h => List.mem_cons_of_mem _ (List.mem_append_right _ h)
set_option maxRecDepth 20000 in
theorem qX5_about_18 : Cond.fieldLink RX5 18 RX5 (TX5 2).2.1 (TX5 2).2.2.1 ∈ wsX5_about := by decide +kernel
set_option maxRecDepth 20000 in
theorem qX5_about_26 : Cond.fieldLink RX5 26 RX5 (TX5 4).2.1 (TX5 4).2.2.1 ∈ wsX5_about := by decide +kernel
set_option maxRecDepth 20000 in
theorem qX5_about_32 : Cond.fieldLink RX5 32 RX5 (TX5 6).2.1 (TX5 6).2.2.1 ∈ wsX5_about := by decide +kernel
set_option maxRecDepth 20000 in
theorem qX5_about_35 : Cond.fieldLink RX5 35 RX5 (TX5 7).2.1 (TX5 7).2.2.1 ∈ wsX5_about := by decide +kernel
set_option maxRecDepth 20000 in
theorem qX5_about_29 : Cond.fieldLink RX5 29 RX5 (TX5 5).2.1 (TX5 5).2.2.1 ∈ wsX5_about := by decide +kernel
set_option maxRecDepth 20000 in
theorem qX5_about_41 : Cond.fieldLink RX5 41 RX5 (TX5 9).2.1 (TX5 9).2.2.1 ∈ wsX5_about := by decide +kernel
set_option maxRecDepth 20000 in
theorem qX5_about_44 : Cond.fieldLink RX5 44 RX5 (TX5 10).2.1 (TX5 10).2.2.1 ∈ wsX5_about := by decide +kernel
set_option maxRecDepth 20000 in
theorem qX5_about_38 : Cond.fieldLink RX5 38 RX5 (TX5 8).2.1 (TX5 8).2.2.1 ∈ wsX5_about := by decide +kernel
def b_X5_about_0 (N : Nat) (σ : nS) (x1 : Int32) : Option (Int32 × nS) := (if (σ.1 16 2) = 0 then some ((-1), σ) else (if x1 = 0 then some ((σ.1 16 4), σ) else (if x1 = 1 then some ((σ.1 16 6), σ) else (if x1 = 2 then some ((σ.1 16 7), σ) else (if x1 = 3 then (if (σ.1 16 5) = 0 then some ((-1), σ) else nLet ((σ.1 16 9) &&& (255 : Int32) : Int32) (fun v1 => some (v1, σ))) else (if x1 = 4 then (if (σ.1 16 5) = 0 then some ((-1), σ) else nLet ((σ.1 16 9) >>> ((8 : Int32) &&& 31) : Int32) (fun v2 => nLet (v2 &&& (255 : Int32) : Int32) (fun v3 => some (v3, σ)))) else (if x1 = 5 then (if (σ.1 16 5) = 0 then some ((-1), σ) else nLet ((σ.1 16 9) >>> ((16 : Int32) &&& 31) : Int32) (fun v4 => nLet (v4 &&& (255 : Int32) : Int32) (fun v5 => some (v5, σ)))) else (if x1 = 6 then some ((σ.1 16 10), σ) else (if x1 = 7 then some ((σ.1 16 8), σ) else some ((-1), σ))))))))))
set_option maxHeartbeats 4000000 in
set_option maxRecDepth 100000 in
theorem kb_X5_about_0 {p : Program} {l : Launch} {e : Env} {s : State} {m : MethodId} {args : Array Value} {below : List Frame} {meth : Method} {c : Code} {D : va_G} {A : Nat → Prop} {cy : Nat → ClassId} {a kt vt : Nat → Nat} {N : Nat}   (C0 : nCx p s m args meth c cX5_about 2 (some .int) RX5 wsX5_about) (hE : nEn D A cy (NBw cy a) kt vt s) {z : Int32 × nS} : ∀ (σ : nS) (x1 : Int32) (H : Heap) (locs : List Loc) (ls : Array Slot), lv_has ls 2 [(0, .ref (a 16)), (1, .int x1)] → va_P D vwCl ((NBw cy a) σ) H → va_S A s.heap H locs → b_X5_about_0 N σ x1 = some z → W p l e ({ frames := 0, cells := 0, slots := 0, locals := 0 } : Room) s m args below meth c H locs 0 0 (nQi below D A (NBw cy a) args s z) (F0 m 0 ls []) := by
  obtain ⟨hx, hb, hr, hml, hown, hts, hlocks⟩ := C0
  intro σ x1 H locs ls hl hP hS hf
  unfold b_X5_about_0 at hf
  refine lv_aload_n hx hb dX5_about_0 rfl (lv_at hl 0 rfl) ?_
  refine nb_get (ci := 5) hx hb hts iX5_about_X5 hown hE hP 16 nbo_16 rfl 2 (by decide) qX5_about_18 rfl rfl dX5_about_1 ?_
  refine lv_if_ne (tgt := 9) hx hb dX5_about_4 (by decide) (fun hc => ?_) (fun hc => ?_)
  · replace hf := nIf_f hc hf
    refine lv_iload_n hx hb dX5_about_9 rfl (lv_at hl 1 rfl) ?_
    by_cases hs0 : x1 = 0
    · replace hf := nIf_t hs0 hf
      refine lv_tableIn (tgt := 56) (off := 46) hx hb dX5_about_10 (by rw [hs0]; decide) (by rw [hs0]; decide) (by rw [hs0]; rfl) (by decide) ?_
      refine lv_aload_n hx hb dX5_about_56 rfl (lv_at hl 0 rfl) ?_
      refine nb_get (ci := 5) hx hb hts iX5_about_X5 hown hE hP 16 nbo_16 rfl 4 (by decide) qX5_about_26 rfl rfl dX5_about_57 ?_
      exact nb_iret hx hb hr hlocks hP hS (nSo hf) dX5_about_60
    · replace hf := nIf_f hs0 hf
      by_cases hs1 : x1 = 1
      · replace hf := nIf_t hs1 hf
        refine lv_tableIn (tgt := 61) (off := 51) hx hb dX5_about_10 (by rw [hs1]; decide) (by rw [hs1]; decide) (by rw [hs1]; rfl) (by decide) ?_
        refine lv_aload_n hx hb dX5_about_61 rfl (lv_at hl 0 rfl) ?_
        refine nb_get (ci := 5) hx hb hts iX5_about_X5 hown hE hP 16 nbo_16 rfl 6 (by decide) qX5_about_32 rfl rfl dX5_about_62 ?_
        exact nb_iret hx hb hr hlocks hP hS (nSo hf) dX5_about_65
      · replace hf := nIf_f hs1 hf
        by_cases hs2 : x1 = 2
        · replace hf := nIf_t hs2 hf
          refine lv_tableIn (tgt := 66) (off := 56) hx hb dX5_about_10 (by rw [hs2]; decide) (by rw [hs2]; decide) (by rw [hs2]; rfl) (by decide) ?_
          refine lv_aload_n hx hb dX5_about_66 rfl (lv_at hl 0 rfl) ?_
          refine nb_get (ci := 5) hx hb hts iX5_about_X5 hown hE hP 16 nbo_16 rfl 7 (by decide) qX5_about_35 rfl rfl dX5_about_67 ?_
          exact nb_iret hx hb hr hlocks hP hS (nSo hf) dX5_about_70
        · replace hf := nIf_f hs2 hf
          by_cases hs3 : x1 = 3
          · replace hf := nIf_t hs3 hf
            refine lv_tableIn (tgt := 71) (off := 61) hx hb dX5_about_10 (by rw [hs3]; decide) (by rw [hs3]; decide) (by rw [hs3]; rfl) (by decide) ?_
            refine lv_aload_n hx hb dX5_about_71 rfl (lv_at hl 0 rfl) ?_
            refine nb_get (ci := 5) hx hb hts iX5_about_X5 hown hE hP 16 nbo_16 rfl 5 (by decide) qX5_about_29 rfl rfl dX5_about_72 ?_
            refine lv_if_ne (tgt := 82) hx hb dX5_about_75 (by decide) (fun hc => ?_) (fun hc => ?_)
            · replace hf := nIf_f hc hf
              refine lv_aload_n hx hb dX5_about_82 rfl (lv_at hl 0 rfl) ?_
              refine nb_get (ci := 5) hx hb hts iX5_about_X5 hown hE hP 16 nbo_16 rfl 9 (by decide) qX5_about_41 rfl rfl dX5_about_83 ?_
              refine lv_sipush (v := 255) hx hb dX5_about_86 (by decide) ?_
              refine lv_iand hx hb dX5_about_89 ?_
              refine lv_topi (fun v1 ev1 => ?_)
              replace hf := nLet_e hf ev1
              exact nb_iret hx hb hr hlocks hP hS (nSo hf) dX5_about_90
            · replace hf := nIf_t hc hf
              refine lv_iconst (v := (-1)) hx hb dX5_about_78 (by decide) ?_
              refine lv_goto (tgt := 90) hx hb dX5_about_79 (by decide) ?_
              exact nb_iret hx hb hr hlocks hP hS (nSo hf) dX5_about_90
          · replace hf := nIf_f hs3 hf
            by_cases hs4 : x1 = 4
            · replace hf := nIf_t hs4 hf
              refine lv_tableIn (tgt := 91) (off := 81) hx hb dX5_about_10 (by rw [hs4]; decide) (by rw [hs4]; decide) (by rw [hs4]; rfl) (by decide) ?_
              refine lv_aload_n hx hb dX5_about_91 rfl (lv_at hl 0 rfl) ?_
              refine nb_get (ci := 5) hx hb hts iX5_about_X5 hown hE hP 16 nbo_16 rfl 5 (by decide) qX5_about_29 rfl rfl dX5_about_92 ?_
              refine lv_if_ne (tgt := 102) hx hb dX5_about_95 (by decide) (fun hc => ?_) (fun hc => ?_)
              · replace hf := nIf_f hc hf
                refine lv_aload_n hx hb dX5_about_102 rfl (lv_at hl 0 rfl) ?_
                refine nb_get (ci := 5) hx hb hts iX5_about_X5 hown hE hP 16 nbo_16 rfl 9 (by decide) qX5_about_41 rfl rfl dX5_about_103 ?_
                refine lv_bipush (v := 8) hx hb dX5_about_106 (by decide) ?_
                refine lv_ishr hx hb dX5_about_108 ?_
                refine lv_topi (fun v2 ev2 => ?_)
                replace hf := nLet_e hf ev2
                refine lv_sipush (v := 255) hx hb dX5_about_109 (by decide) ?_
                refine lv_iand hx hb dX5_about_112 ?_
                refine lv_topi (fun v3 ev3 => ?_)
                replace hf := nLet_e hf ev3
                exact nb_iret hx hb hr hlocks hP hS (nSo hf) dX5_about_113
              · replace hf := nIf_t hc hf
                refine lv_iconst (v := (-1)) hx hb dX5_about_98 (by decide) ?_
                refine lv_goto (tgt := 113) hx hb dX5_about_99 (by decide) ?_
                exact nb_iret hx hb hr hlocks hP hS (nSo hf) dX5_about_113
            · replace hf := nIf_f hs4 hf
              by_cases hs5 : x1 = 5
              · replace hf := nIf_t hs5 hf
                refine lv_tableIn (tgt := 114) (off := 104) hx hb dX5_about_10 (by rw [hs5]; decide) (by rw [hs5]; decide) (by rw [hs5]; rfl) (by decide) ?_
                refine lv_aload_n hx hb dX5_about_114 rfl (lv_at hl 0 rfl) ?_
                refine nb_get (ci := 5) hx hb hts iX5_about_X5 hown hE hP 16 nbo_16 rfl 5 (by decide) qX5_about_29 rfl rfl dX5_about_115 ?_
                refine lv_if_ne (tgt := 125) hx hb dX5_about_118 (by decide) (fun hc => ?_) (fun hc => ?_)
                · replace hf := nIf_f hc hf
                  refine lv_aload_n hx hb dX5_about_125 rfl (lv_at hl 0 rfl) ?_
                  refine nb_get (ci := 5) hx hb hts iX5_about_X5 hown hE hP 16 nbo_16 rfl 9 (by decide) qX5_about_41 rfl rfl dX5_about_126 ?_
                  refine lv_bipush (v := 16) hx hb dX5_about_129 (by decide) ?_
                  refine lv_ishr hx hb dX5_about_131 ?_
                  refine lv_topi (fun v4 ev4 => ?_)
                  replace hf := nLet_e hf ev4
                  refine lv_sipush (v := 255) hx hb dX5_about_132 (by decide) ?_
                  refine lv_iand hx hb dX5_about_135 ?_
                  refine lv_topi (fun v5 ev5 => ?_)
                  replace hf := nLet_e hf ev5
                  exact nb_iret hx hb hr hlocks hP hS (nSo hf) dX5_about_136
                · replace hf := nIf_t hc hf
                  refine lv_iconst (v := (-1)) hx hb dX5_about_121 (by decide) ?_
                  refine lv_goto (tgt := 136) hx hb dX5_about_122 (by decide) ?_
                  exact nb_iret hx hb hr hlocks hP hS (nSo hf) dX5_about_136
              · replace hf := nIf_f hs5 hf
                by_cases hs6 : x1 = 6
                · replace hf := nIf_t hs6 hf
                  refine lv_tableIn (tgt := 137) (off := 127) hx hb dX5_about_10 (by rw [hs6]; decide) (by rw [hs6]; decide) (by rw [hs6]; rfl) (by decide) ?_
                  refine lv_aload_n hx hb dX5_about_137 rfl (lv_at hl 0 rfl) ?_
                  refine nb_get (ci := 5) hx hb hts iX5_about_X5 hown hE hP 16 nbo_16 rfl 10 (by decide) qX5_about_44 rfl rfl dX5_about_138 ?_
                  exact nb_iret hx hb hr hlocks hP hS (nSo hf) dX5_about_141
                · replace hf := nIf_f hs6 hf
                  by_cases hs7 : x1 = 7
                  · replace hf := nIf_t hs7 hf
                    refine lv_tableIn (tgt := 142) (off := 132) hx hb dX5_about_10 (by rw [hs7]; decide) (by rw [hs7]; decide) (by rw [hs7]; rfl) (by decide) ?_
                    refine lv_aload_n hx hb dX5_about_142 rfl (lv_at hl 0 rfl) ?_
                    refine nb_get (ci := 5) hx hb hts iX5_about_X5 hown hE hP 16 nbo_16 rfl 8 (by decide) qX5_about_38 rfl rfl dX5_about_143 ?_
                    exact nb_iret hx hb hr hlocks hP hS (nSo hf) dX5_about_146
                  · replace hf := nIf_f hs7 hf
                    have gs0 := nI_ne (z := 0) hs0 (by decide)
                    have gs1 := nI_ne (z := 1) hs1 (by decide)
                    have gs2 := nI_ne (z := 2) hs2 (by decide)
                    have gs3 := nI_ne (z := 3) hs3 (by decide)
                    have gs4 := nI_ne (z := 4) hs4 (by decide)
                    have gs5 := nI_ne (z := 5) hs5 (by decide)
                    have gs6 := nI_ne (z := 6) hs6 (by decide)
                    have gs7 := nI_ne (z := 7) hs7 (by decide)
                    refine lv_tableOut (tgt := 147) hx hb dX5_about_10 (by omega) (by decide) ?_
                    refine lv_iconst (v := (-1)) hx hb dX5_about_147 (by decide) ?_
                    exact nb_iret hx hb hr hlocks hP hS (nSo hf) dX5_about_148
  · replace hf := nIf_t hc hf
    refine lv_iconst (v := (-1)) hx hb dX5_about_7 (by decide) ?_
    exact nb_iret hx hb hr hlocks hP hS (nSo hf) dX5_about_8
def l_X5_about_0 (N : Nat) : nS → Int32 → Option (Int32 × nS) := b_X5_about_0 N
theorem kl_X5_about_0 {p : Program} {l : Launch} {e : Env} {s : State} {m : MethodId} {args : Array Value} {below : List Frame} {meth : Method} {c : Code} {D : va_G} {A : Nat → Prop} {cy : Nat → ClassId} {a kt vt : Nat → Nat} {N : Nat}   (C0 : nCx p s m args meth c cX5_about 2 (some .int) RX5 wsX5_about) (hE : nEn D A cy (NBw cy a) kt vt s) {z : Int32 × nS} : ∀ (σ : nS) (x1 : Int32) (H : Heap) (locs : List Loc) (ls : Array Slot), lv_has ls 2 [(0, .ref (a 16)), (1, .int x1)] → va_P D vwCl ((NBw cy a) σ) H → va_S A s.heap H locs → l_X5_about_0 N σ x1 = some z → W p l e ({ frames := 0, cells := 0, slots := 0, locals := 0 } : Room) s m args below meth c H locs 0 0 (nQi below D A (NBw cy a) args s z) (F0 m 0 ls []) := by
  exact kb_X5_about_0 (N := N)  C0 hE
def f_X5_about (N : Nat) (x1 : Int32) (σ : nS) : Option (Int32 × nS) := l_X5_about_0 N σ x1
set_option maxHeartbeats 4000000 in
set_option maxRecDepth 100000 in
theorem c_X5_about {l : Launch} {D : va_G} {A : Nat → Prop} {cy : Nat → ClassId} {a kt vt : Nat → Nat} {N : Nat}   {x1 : Int32} {σ : nS} {r : Int32} {σ' : nS} (hf : f_X5_about N x1 σ = some (r, σ')) : nMi l yX5_about wsX5_about ({ frames := 0, cells := 0, slots := 0, locals := 0 } : Room) D A cy (NBw cy a) kt vt [.ref (a 16), .int x1] σ r σ' := by
  refine Met.ofW (cc := cX5_about) (maxL := 2) (ret := (some .int)) (by decide) rfl ?_
  intro p e s m args below meth c s₁ B hml hv
  obtain ⟨rfl, hP, hE⟩ := hv
  have hl := lv_entry ([.ref (a 16), .int x1]) (n := 2) (Nat.le_of_ble_eq_true rfl)
  rw [lg_entry_eq]
  generalize (lg_sl ([.ref (a 16), .int x1]) ++ List.replicate (2 - (lg_sl ([.ref (a 16), .int x1])).length) Slot.unset).toArray = ls at hl ⊢
  have C0 : nCx p s m _ meth c cX5_about 2 (some .int) RX5 wsX5_about := ⟨B.exec, B.bytes, B.returns, hml, findClass_of_methodNamed B.named, atoms_spec (ws := wsX5_about) B.pre, B.notSynchronized⟩
  exact kl_X5_about_0 (N := N)  C0 hE (z := (r, σ')) σ x1 _ _ ls hl hP va_S.rf hf
