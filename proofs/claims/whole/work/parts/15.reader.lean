/-! X4_hasRoomFor -/
set_option maxRecDepth 20000 in
theorem iX4_hasRoomFor_X4 : ∀ w ∈ u_ws RX4 TX4 14, w ∈ wsX4_hasRoomFor := fun _ h => List.mem_cons_of_mem _ (List.mem_append_right _ h)
set_option maxRecDepth 20000 in
theorem qX4_hasRoomFor_15 : Cond.fieldLink RX4 15 RX4 (TX4 1).2.1 (TX4 1).2.2.1 ∈ wsX4_hasRoomFor := by decide +kernel
def b_X4_hasRoomFor_0 (N : Nat) (σ : nS) (x1 : Int32) : Option (Int32 × nS) := nLet ((σ.1 6 1) + x1 : Int32) (fun v1 => (if (600 : Int32) < v1 then some (0, σ) else some (1, σ)))
set_option maxHeartbeats 4000000 in
set_option maxRecDepth 100000 in
theorem kb_X4_hasRoomFor_0 {p : Program} {l : Launch} {e : Env} {s : State} {m : MethodId} {args : Array Value} {below : List Frame} {meth : Method} {c : Code} {D : va_G} {A : Nat → Prop} {cy : Nat → ClassId} {a kt vt : Nat → Nat} {N : Nat}   (C0 : nCx p s m args meth c cX4_hasRoomFor 2 (some .boolean) RX4 wsX4_hasRoomFor) (hE : nEn D A cy (NBw cy a) kt vt s) {z : Int32 × nS} : ∀ (σ : nS) (x1 : Int32) (H : Heap) (locs : List Loc) (ls : Array Slot), lv_has ls 2 [(0, .ref (a 6)), (1, .int x1)] → va_P D vwCl ((NBw cy a) σ) H → va_S A s.heap H locs → b_X4_hasRoomFor_0 N σ x1 = some z → W p l e ({ frames := 0, cells := 0, slots := 0, locals := 0 } : Room) s m args below meth c H locs 0 0 (nQi below D A (NBw cy a) args s z) (F0 m 0 ls []) := by
  obtain ⟨hx, hb, hr, hml, hown, hts, hlocks⟩ := C0
  intro σ x1 H locs ls hl hP hS hf
  unfold b_X4_hasRoomFor_0 at hf
  refine lv_aload_n hx hb dX4_hasRoomFor_0 rfl (lv_at hl 0 rfl) ?_
  refine nb_get (ci := 4) hx hb hts iX4_hasRoomFor_X4 hown hE hP 6 nbo_6 rfl 1 (by decide) qX4_hasRoomFor_15 rfl rfl dX4_hasRoomFor_1 ?_
  refine lv_iload_n hx hb dX4_hasRoomFor_4 rfl (lv_at hl 1 rfl) ?_
  refine lv_iadd hx hb dX4_hasRoomFor_5 ?_
  refine lv_topi (fun v1 ev1 => ?_)
  replace hf := nLet_e hf ev1
  refine lv_sipush (v := 600) hx hb dX4_hasRoomFor_6 (by decide) ?_
  refine lv_icmp_gt (tgt := 16) hx hb dX4_hasRoomFor_9 (by decide) (fun hc => ?_) (fun hc => ?_)
  · replace hf := nIf_t hc hf
    refine lv_iconst (v := 0) hx hb dX4_hasRoomFor_16 (by decide) ?_
    exact nb_zret hx hb hr hlocks hP hS (nSo hf) rfl dX4_hasRoomFor_17
  · replace hf := nIf_f hc hf
    refine lv_iconst (v := 1) hx hb dX4_hasRoomFor_12 (by decide) ?_
    refine lv_goto (tgt := 17) hx hb dX4_hasRoomFor_13 (by decide) ?_
    exact nb_zret hx hb hr hlocks hP hS (nSo hf) rfl dX4_hasRoomFor_17
def l_X4_hasRoomFor_0 (N : Nat) : nS → Int32 → Option (Int32 × nS) := b_X4_hasRoomFor_0 N
theorem kl_X4_hasRoomFor_0 {p : Program} {l : Launch} {e : Env} {s : State} {m : MethodId} {args : Array Value} {below : List Frame} {meth : Method} {c : Code} {D : va_G} {A : Nat → Prop} {cy : Nat → ClassId} {a kt vt : Nat → Nat} {N : Nat}   (C0 : nCx p s m args meth c cX4_hasRoomFor 2 (some .boolean) RX4 wsX4_hasRoomFor) (hE : nEn D A cy (NBw cy a) kt vt s) {z : Int32 × nS} : ∀ (σ : nS) (x1 : Int32) (H : Heap) (locs : List Loc) (ls : Array Slot), lv_has ls 2 [(0, .ref (a 6)), (1, .int x1)] → va_P D vwCl ((NBw cy a) σ) H → va_S A s.heap H locs → l_X4_hasRoomFor_0 N σ x1 = some z → W p l e ({ frames := 0, cells := 0, slots := 0, locals := 0 } : Room) s m args below meth c H locs 0 0 (nQi below D A (NBw cy a) args s z) (F0 m 0 ls []) := by
  exact kb_X4_hasRoomFor_0 (N := N)  C0 hE
def f_X4_hasRoomFor (N : Nat) (x1 : Int32) (σ : nS) : Option (Int32 × nS) := l_X4_hasRoomFor_0 N σ x1
set_option maxHeartbeats 4000000 in
set_option maxRecDepth 100000 in
theorem c_X4_hasRoomFor {l : Launch} {D : va_G} {A : Nat → Prop} {cy : Nat → ClassId} {a kt vt : Nat → Nat} {N : Nat}   {x1 : Int32} {σ : nS} {r : Int32} {σ' : nS} (hf : f_X4_hasRoomFor N x1 σ = some (r, σ')) : nMi l yX4_hasRoomFor wsX4_hasRoomFor ({ frames := 0, cells := 0, slots := 0, locals := 0 } : Room) D A cy (NBw cy a) kt vt [.ref (a 6), .int x1] σ r σ' := by
  refine Met.ofW (cc := cX4_hasRoomFor) (maxL := 2) (ret := (some .boolean)) (by decide) rfl ?_
  intro p e s m args below meth c s₁ B hml hv
  obtain ⟨rfl, hP, hE⟩ := hv
  have hl := lv_entry ([.ref (a 6), .int x1]) (n := 2) (Nat.le_of_ble_eq_true rfl)
  rw [lg_entry_eq]
  generalize (lg_sl ([.ref (a 6), .int x1]) ++ List.replicate (2 - (lg_sl ([.ref (a 6), .int x1])).length) Slot.unset).toArray = ls at hl ⊢
  have C0 : nCx p s m _ meth c cX4_hasRoomFor 2 (some .boolean) RX4 wsX4_hasRoomFor := ⟨B.exec, B.bytes, B.returns, hml, findClass_of_methodNamed B.named, atoms_spec (ws := wsX4_hasRoomFor) B.pre, B.notSynchronized⟩
  exact kl_X4_hasRoomFor_0 (N := N)  C0 hE (z := (r, σ')) σ x1 _ _ ls hl hP va_S.rf hf

/-! X4_put -/
set_option maxRecDepth 20000 in
theorem iX4_put_X4 : ∀ w ∈ u_ws RX4 TX4 14, w ∈ wsX4_put := fun _ h => List.mem_cons_of_mem _ (List.mem_append_right _ h)
set_option maxRecDepth 20000 in
theorem qX4_put_15 : Cond.fieldLink RX4 15 RX4 (TX4 1).2.1 (TX4 1).2.2.1 ∈ wsX4_put := by decide +kernel
set_option maxRecDepth 20000 in
theorem qX4_put_9 : Cond.fieldLink RX4 9 RX4 (TX4 0).2.1 (TX4 0).2.2.1 ∈ wsX4_put := by decide +kernel
def b_X4_put_52 (N : Nat) (k3 : nS → Int32 → Int32 → Option (Int32 × nS)) (σ : nS) (x1 : Int32) (x2 : Int32) : Option (Int32 × nS) := nLet (x2 + (-8) : Int32) (fun v1 => k3 σ x1 v1)
set_option maxHeartbeats 4000000 in
set_option maxRecDepth 100000 in
theorem kb_X4_put_52 {p : Program} {l : Launch} {e : Env} {s : State} {m : MethodId} {args : Array Value} {below : List Frame} {meth : Method} {c : Code} {D : va_G} {A : Nat → Prop} {cy : Nat → ClassId} {a kt vt : Nat → Nat} {N : Nat}   (C0 : nCx p s m args meth c cX4_put 3 none RX4 wsX4_put) (hE : nEn D A cy (NBw cy a) kt vt s) {z : Int32 × nS} {k3 : nS → Int32 → Int32 → Option (Int32 × nS)} (K3 : ∀ (σ : nS) (x1 : Int32) (x2 : Int32) (H : Heap) (locs : List Loc) (ls : Array Slot), lv_has ls 3 [(0, .ref (a 6)), (1, .int x1), (2, .int x2)] → va_P D vwCl ((NBw cy a) σ) H → va_S A s.heap H locs → k3 σ x1 x2 = some z → W p l e ({ frames := 0, cells := 0, slots := 0, locals := 0 } : Room) s m args below meth c H locs 0 0 (nQv below D A (NBw cy a) args s z) (F0 m 3 ls [])) : ∀ (σ : nS) (x1 : Int32) (x2 : Int32) (H : Heap) (locs : List Loc) (ls : Array Slot), lv_has ls 3 [(0, .ref (a 6)), (1, .int x1), (2, .int x2)] → va_P D vwCl ((NBw cy a) σ) H → va_S A s.heap H locs → b_X4_put_52 N k3 σ x1 x2 = some z → W p l e ({ frames := 0, cells := 0, slots := 0, locals := 0 } : Room) s m args below meth c H locs 0 0 (nQv below D A (NBw cy a) args s z) (F0 m 52 ls []) := by
  obtain ⟨hx, hb, hr, hml, hown, hts, hlocks⟩ := C0
  intro σ x1 x2 H locs ls hl hP hS hf
  unfold b_X4_put_52 at hf
  obtain ⟨v1, ev1⟩ : ∃ y : Int32, y = x2 + (-8) := ⟨_, rfl⟩
  replace hf := nLet_e hf ev1
  refine lv_iinc (v := v1) (lv' := [(2, .int v1), (0, .ref (a 6)), (1, .int x1)]) hx hb dX4_put_52 hl (k := 2) rfl (by rw [ev1]; rfl) (by decide) rfl (fun ls hl => ?_)
  refine lv_goto (tgt := 3) hx hb dX4_put_55 (by decide) ?_
  exact K3 σ x1 v1 H locs ls (lv_sub hl [1, 2, 0] rfl) hP hS hf
def b_X4_put_3 (N : Nat) (k52 : nS → Int32 → Int32 → Option (Int32 × nS)) (σ : nS) (x1 : Int32) (x2 : Int32) : Option (Int32 × nS) := (if x2 < 0 then some (0, σ) else (if (σ.1 6 1) < 0 then k52 σ x1 x2 else nLet (Int32.ofNat 600) (fun v1 => (if v1 ≤ (σ.1 6 1) then k52 σ x1 x2 else nLet (((x1).toUInt32 >>> ((x2).toUInt32 &&& Int32.toUInt32 31)).toInt32 : Int32) (fun v2 => nLet (v2 &&& (255 : Int32) : Int32) (fun v3 => nIx (σ.1 6 1) 600 (nLet (wr σ 7 ((σ.1 6 1)).toNatClampNeg v3) (fun σ4 => nLet ((σ4.1 6 1) + (1 : Int32) : Int32) (fun v5 => nLet (wr σ4 6 1 v5) (fun σ6 => k52 σ6 x1 x2))))))))))
set_option maxHeartbeats 4000000 in
set_option maxRecDepth 100000 in
theorem kb_X4_put_3 {p : Program} {l : Launch} {e : Env} {s : State} {m : MethodId} {args : Array Value} {below : List Frame} {meth : Method} {c : Code} {D : va_G} {A : Nat → Prop} {cy : Nat → ClassId} {a kt vt : Nat → Nat} {N : Nat}   (C0 : nCx p s m args meth c cX4_put 3 none RX4 wsX4_put) (hE : nEn D A cy (NBw cy a) kt vt s) {z : Int32 × nS} {k52 : nS → Int32 → Int32 → Option (Int32 × nS)} (K52 : ∀ (σ : nS) (x1 : Int32) (x2 : Int32) (H : Heap) (locs : List Loc) (ls : Array Slot), lv_has ls 3 [(0, .ref (a 6)), (1, .int x1), (2, .int x2)] → va_P D vwCl ((NBw cy a) σ) H → va_S A s.heap H locs → k52 σ x1 x2 = some z → W p l e ({ frames := 0, cells := 0, slots := 0, locals := 0 } : Room) s m args below meth c H locs 0 0 (nQv below D A (NBw cy a) args s z) (F0 m 52 ls [])) : ∀ (σ : nS) (x1 : Int32) (x2 : Int32) (H : Heap) (locs : List Loc) (ls : Array Slot), lv_has ls 3 [(0, .ref (a 6)), (1, .int x1), (2, .int x2)] → va_P D vwCl ((NBw cy a) σ) H → va_S A s.heap H locs → b_X4_put_3 N k52 σ x1 x2 = some z → W p l e ({ frames := 0, cells := 0, slots := 0, locals := 0 } : Room) s m args below meth c H locs 0 0 (nQv below D A (NBw cy a) args s z) (F0 m 3 ls []) := by
  obtain ⟨hx, hb, hr, hml, hown, hts, hlocks⟩ := C0
  intro σ x1 x2 H locs ls hl hP hS hf
  unfold b_X4_put_3 at hf
  refine lv_iload_n hx hb dX4_put_3 rfl (lv_at hl 2 rfl) ?_
  refine lv_if_lt (tgt := 58) hx hb dX4_put_4 (by decide) (fun hc => ?_) (fun hc => ?_)
  · replace hf := nIf_t hc hf
    exact nb_vret hx hb hr hlocks hP hS (nSo hf) dX4_put_58
  · replace hf := nIf_f hc hf
    refine lv_aload_n hx hb dX4_put_7 rfl (lv_at hl 0 rfl) ?_
    refine nb_get (ci := 4) hx hb hts iX4_put_X4 hown hE hP 6 nbo_6 rfl 1 (by decide) qX4_put_15 rfl rfl dX4_put_8 ?_
    refine lv_if_lt (tgt := 52) hx hb dX4_put_11 (by decide) (fun hc => ?_) (fun hc => ?_)
    · replace hf := nIf_t hc hf
      exact K52 σ x1 x2 H locs ls (lv_sub hl [0, 1, 2] rfl) hP hS hf
    · replace hf := nIf_f hc hf
      refine lv_aload_n hx hb dX4_put_14 rfl (lv_at hl 0 rfl) ?_
      refine nb_get (ci := 4) hx hb hts iX4_put_X4 hown hE hP 6 nbo_6 rfl 1 (by decide) qX4_put_15 rfl rfl dX4_put_15 ?_
      refine lv_aload_n hx hb dX4_put_18 rfl (lv_at hl 0 rfl) ?_
      refine nb_get (ci := 4) hx hb hts iX4_put_X4 hown hE hP 6 nbo_6 rfl 0 (by decide) qX4_put_9 rfl rfl dX4_put_19 ?_
      refine na_alen hx hb hE hP nbr_7 dX4_put_22 ?_
      refine lv_topi (fun v1 ev1 => ?_)
      replace hf := nLet_e hf ev1
      refine lv_icmp_ge (tgt := 52) hx hb dX4_put_23 (by decide) (fun hc => ?_) (fun hc => ?_)
      · replace hf := nIf_t hc hf
        exact K52 σ x1 x2 H locs ls (lv_sub hl [0, 1, 2] rfl) hP hS hf
      · replace hf := nIf_f hc hf
        refine lv_aload_n hx hb dX4_put_26 rfl (lv_at hl 0 rfl) ?_
        refine nb_get (ci := 4) hx hb hts iX4_put_X4 hown hE hP 6 nbo_6 rfl 0 (by decide) qX4_put_9 rfl rfl dX4_put_27 ?_
        refine lv_aload_n hx hb dX4_put_30 rfl (lv_at hl 0 rfl) ?_
        refine nb_get (ci := 4) hx hb hts iX4_put_X4 hown hE hP 6 nbo_6 rfl 1 (by decide) qX4_put_15 rfl rfl dX4_put_31 ?_
        refine lv_iload_n hx hb dX4_put_34 rfl (lv_at hl 1 rfl) ?_
        refine lv_iload_n hx hb dX4_put_35 rfl (lv_at hl 2 rfl) ?_
        refine lv_iushr hx hb dX4_put_36 rfl ?_
        refine lv_topi (fun v2 ev2 => ?_)
        replace hf := nLet_e hf ev2
        refine lv_sipush (v := 255) hx hb dX4_put_37 (by decide) ?_
        refine lv_iand hx hb dX4_put_40 ?_
        refine lv_topi (fun v3 ev3 => ?_)
        replace hf := nLet_e hf ev3
        obtain ⟨hin, hf⟩ := nIx_e hf
        refine na_iast hx hb hE hP hS nbr_7 hin dX4_put_41 (fun σ4 eσ4 H locs hP hS => ?_)
        replace hf := nLet_e hf eσ4
        refine lv_aload_n hx hb dX4_put_42 rfl (lv_at hl 0 rfl) ?_
        refine lv_dup hx hb dX4_put_43 rfl ?_
        refine nb_get (ci := 4) hx hb hts iX4_put_X4 hown hE hP 6 nbo_6 rfl 1 (by decide) qX4_put_15 rfl rfl dX4_put_44 ?_
        refine lv_iconst (v := 1) hx hb dX4_put_47 (by decide) ?_
        refine lv_iadd hx hb dX4_put_48 ?_
        refine lv_topi (fun v5 ev5 => ?_)
        replace hf := nLet_e hf ev5
        refine nb_put (ci := 4) hx hb hts iX4_put_X4 tyX4 tyX4_ok nmX4 hown hE hP hS 6 nbo_6 rfl 1 (by decide) qX4_put_15 rfl rfl rfl rfl (Nat.le_of_ble_eq_true rfl) dX4_put_49 (nbp_6_1 _) (fun σ6 eσ6 H locs hP hS => ?_)
        replace hf := nLet_e hf eσ6
        exact K52 σ6 x1 x2 H locs ls (lv_sub hl [0, 1, 2] rfl) hP hS hf
def b_X4_put_0 (N : Nat) (k3 : nS → Int32 → Int32 → Option (Int32 × nS)) (σ : nS) (x1 : Int32) : Option (Int32 × nS) := k3 σ x1 24
set_option maxHeartbeats 4000000 in
set_option maxRecDepth 100000 in
theorem kb_X4_put_0 {p : Program} {l : Launch} {e : Env} {s : State} {m : MethodId} {args : Array Value} {below : List Frame} {meth : Method} {c : Code} {D : va_G} {A : Nat → Prop} {cy : Nat → ClassId} {a kt vt : Nat → Nat} {N : Nat}   (C0 : nCx p s m args meth c cX4_put 3 none RX4 wsX4_put) (hE : nEn D A cy (NBw cy a) kt vt s) {z : Int32 × nS} {k3 : nS → Int32 → Int32 → Option (Int32 × nS)} (K3 : ∀ (σ : nS) (x1 : Int32) (x2 : Int32) (H : Heap) (locs : List Loc) (ls : Array Slot), lv_has ls 3 [(0, .ref (a 6)), (1, .int x1), (2, .int x2)] → va_P D vwCl ((NBw cy a) σ) H → va_S A s.heap H locs → k3 σ x1 x2 = some z → W p l e ({ frames := 0, cells := 0, slots := 0, locals := 0 } : Room) s m args below meth c H locs 0 0 (nQv below D A (NBw cy a) args s z) (F0 m 3 ls [])) : ∀ (σ : nS) (x1 : Int32) (H : Heap) (locs : List Loc) (ls : Array Slot), lv_has ls 3 [(0, .ref (a 6)), (1, .int x1)] → va_P D vwCl ((NBw cy a) σ) H → va_S A s.heap H locs → b_X4_put_0 N k3 σ x1 = some z → W p l e ({ frames := 0, cells := 0, slots := 0, locals := 0 } : Room) s m args below meth c H locs 0 0 (nQv below D A (NBw cy a) args s z) (F0 m 0 ls []) := by
  obtain ⟨hx, hb, hr, hml, hown, hts, hlocks⟩ := C0
  intro σ x1 H locs ls hl hP hS hf
  unfold b_X4_put_0 at hf
  refine lv_bipush (v := 24) hx hb dX4_put_0 (by decide) ?_
  refine lv_istore_n (lv' := [(2, .int 24), (0, .ref (a 6)), (1, .int x1)]) hx hb dX4_put_2 rfl hl (by decide) rfl (fun ls hl => ?_)
  exact K3 σ x1 24 H locs ls (lv_sub hl [1, 2, 0] rfl) hP hS hf
def l_X4_put_52 (N : Nat) (k3 : nS → Int32 → Int32 → Option (Int32 × nS)) : nS → Int32 → Int32 → Option (Int32 × nS) := b_X4_put_52 N k3
theorem kl_X4_put_52 {p : Program} {l : Launch} {e : Env} {s : State} {m : MethodId} {args : Array Value} {below : List Frame} {meth : Method} {c : Code} {D : va_G} {A : Nat → Prop} {cy : Nat → ClassId} {a kt vt : Nat → Nat} {N : Nat}   (C0 : nCx p s m args meth c cX4_put 3 none RX4 wsX4_put) (hE : nEn D A cy (NBw cy a) kt vt s) {z : Int32 × nS} {k3 : nS → Int32 → Int32 → Option (Int32 × nS)} (K3 : ∀ (σ : nS) (x1 : Int32) (x2 : Int32) (H : Heap) (locs : List Loc) (ls : Array Slot), lv_has ls 3 [(0, .ref (a 6)), (1, .int x1), (2, .int x2)] → va_P D vwCl ((NBw cy a) σ) H → va_S A s.heap H locs → k3 σ x1 x2 = some z → W p l e ({ frames := 0, cells := 0, slots := 0, locals := 0 } : Room) s m args below meth c H locs 0 0 (nQv below D A (NBw cy a) args s z) (F0 m 3 ls [])) : ∀ (σ : nS) (x1 : Int32) (x2 : Int32) (H : Heap) (locs : List Loc) (ls : Array Slot), lv_has ls 3 [(0, .ref (a 6)), (1, .int x1), (2, .int x2)] → va_P D vwCl ((NBw cy a) σ) H → va_S A s.heap H locs → l_X4_put_52 N k3 σ x1 x2 = some z → W p l e ({ frames := 0, cells := 0, slots := 0, locals := 0 } : Room) s m args below meth c H locs 0 0 (nQv below D A (NBw cy a) args s z) (F0 m 52 ls []) := by
  exact kb_X4_put_52 (N := N)  C0 hE K3
def l_X4_put_3 (N : Nat) : nS → Int32 → Int32 → Option (Int32 × nS) := nLp (fun _ _ _ => none) (fun again => b_X4_put_3 N (l_X4_put_52 N again)) N
theorem kl_X4_put_3 {p : Program} {l : Launch} {e : Env} {s : State} {m : MethodId} {args : Array Value} {below : List Frame} {meth : Method} {c : Code} {D : va_G} {A : Nat → Prop} {cy : Nat → ClassId} {a kt vt : Nat → Nat} {N : Nat}   (C0 : nCx p s m args meth c cX4_put 3 none RX4 wsX4_put) (hE : nEn D A cy (NBw cy a) kt vt s) {z : Int32 × nS} : ∀ (σ : nS) (x1 : Int32) (x2 : Int32) (H : Heap) (locs : List Loc) (ls : Array Slot), lv_has ls 3 [(0, .ref (a 6)), (1, .int x1), (2, .int x2)] → va_P D vwCl ((NBw cy a) σ) H → va_S A s.heap H locs → l_X4_put_3 N σ x1 x2 = some z → W p l e ({ frames := 0, cells := 0, slots := 0, locals := 0 } : Room) s m args below meth c H locs 0 0 (nQv below D A (NBw cy a) args s z) (F0 m 3 ls []) := by
  have main : ∀ (fu : Nat), ∀ (σ : nS) (x1 : Int32) (x2 : Int32) (H : Heap) (locs : List Loc) (ls : Array Slot), lv_has ls 3 [(0, .ref (a 6)), (1, .int x1), (2, .int x2)] → va_P D vwCl ((NBw cy a) σ) H → va_S A s.heap H locs → nLp (fun _ _ _ => none) (fun again => b_X4_put_3 N (l_X4_put_52 N again)) fu σ x1 x2 = some z → W p l e ({ frames := 0, cells := 0, slots := 0, locals := 0 } : Room) s m args below meth c H locs 0 0 (nQv below D A (NBw cy a) args s z) (F0 m 3 ls []) := by
    intro fu
    induction fu with
    | zero => intro σ x1 x2 H locs ls hl hP hS hf; cases hf
    | succ fu ih => exact kb_X4_put_3 (N := N)  C0 hE (kl_X4_put_52 (N := N)  C0 hE ih)
  exact main N
def l_X4_put_0 (N : Nat) : nS → Int32 → Option (Int32 × nS) := b_X4_put_0 N (l_X4_put_3 N)
theorem kl_X4_put_0 {p : Program} {l : Launch} {e : Env} {s : State} {m : MethodId} {args : Array Value} {below : List Frame} {meth : Method} {c : Code} {D : va_G} {A : Nat → Prop} {cy : Nat → ClassId} {a kt vt : Nat → Nat} {N : Nat}   (C0 : nCx p s m args meth c cX4_put 3 none RX4 wsX4_put) (hE : nEn D A cy (NBw cy a) kt vt s) {z : Int32 × nS} : ∀ (σ : nS) (x1 : Int32) (H : Heap) (locs : List Loc) (ls : Array Slot), lv_has ls 3 [(0, .ref (a 6)), (1, .int x1)] → va_P D vwCl ((NBw cy a) σ) H → va_S A s.heap H locs → l_X4_put_0 N σ x1 = some z → W p l e ({ frames := 0, cells := 0, slots := 0, locals := 0 } : Room) s m args below meth c H locs 0 0 (nQv below D A (NBw cy a) args s z) (F0 m 0 ls []) := by
  exact kb_X4_put_0 (N := N)  C0 hE (kl_X4_put_3 (N := N)  C0 hE)
def f_X4_put (N : Nat) (x1 : Int32) (σ : nS) : Option (Int32 × nS) := l_X4_put_0 N σ x1
set_option maxHeartbeats 4000000 in
set_option maxRecDepth 100000 in
theorem c_X4_put {l : Launch} {D : va_G} {A : Nat → Prop} {cy : Nat → ClassId} {a kt vt : Nat → Nat} {N : Nat}   {x1 : Int32} {σ : nS} {r : Int32} {σ' : nS} (hf : f_X4_put N x1 σ = some (r, σ')) : nMv l yX4_put wsX4_put ({ frames := 0, cells := 0, slots := 0, locals := 0 } : Room) D A cy (NBw cy a) kt vt [.ref (a 6), .int x1] σ σ' := by
  refine Met.ofW (cc := cX4_put) (maxL := 3) (ret := none) (by decide) rfl ?_
  intro p e s m args below meth c s₁ B hml hv
  obtain ⟨rfl, hP, hE⟩ := hv
  have hl := lv_entry ([.ref (a 6), .int x1]) (n := 3) (Nat.le_of_ble_eq_true rfl)
  rw [lg_entry_eq]
  generalize (lg_sl ([.ref (a 6), .int x1]) ++ List.replicate (3 - (lg_sl ([.ref (a 6), .int x1])).length) Slot.unset).toArray = ls at hl ⊢
  have C0 : nCx p s m _ meth c cX4_put 3 none RX4 wsX4_put := ⟨B.exec, B.bytes, B.returns, hml, findClass_of_methodNamed B.named, atoms_spec (ws := wsX4_put) B.pre, B.notSynchronized⟩
  exact kl_X4_put_0 (N := N)  C0 hE (z := (r, σ')) σ x1 _ _ ls hl hP va_S.rf hf

/-! X4_byteAt -/
set_option maxRecDepth 20000 in
theorem iX4_byteAt_X4 : ∀ w ∈ u_ws RX4 TX4 14, w ∈ wsX4_byteAt := fun _ h => List.mem_cons_of_mem _ (List.mem_append_right _ h)
set_option maxRecDepth 20000 in
theorem qX4_byteAt_19 : Cond.fieldLink RX4 19 RX4 (TX4 2).2.1 (TX4 2).2.2.1 ∈ wsX4_byteAt := by decide +kernel
set_option maxRecDepth 20000 in
theorem qX4_byteAt_9 : Cond.fieldLink RX4 9 RX4 (TX4 0).2.1 (TX4 0).2.2.1 ∈ wsX4_byteAt := by decide +kernel
def b_X4_byteAt_0 (N : Nat) (σ : nS) (x1 : Int32) : Option (Int32 × nS) := (if x1 < 0 then some ((-1), σ) else (if (σ.1 6 2) ≤ x1 then some ((-1), σ) else nLet (Int32.ofNat 600) (fun v1 => (if v1 ≤ x1 then some ((-1), σ) else nIx x1 600 (nLet (σ.1 7 (x1).toNatClampNeg) (fun v2 => some (v2, σ)))))))
set_option maxHeartbeats 4000000 in
set_option maxRecDepth 100000 in
theorem kb_X4_byteAt_0 {p : Program} {l : Launch} {e : Env} {s : State} {m : MethodId} {args : Array Value} {below : List Frame} {meth : Method} {c : Code} {D : va_G} {A : Nat → Prop} {cy : Nat → ClassId} {a kt vt : Nat → Nat} {N : Nat}   (C0 : nCx p s m args meth c cX4_byteAt 2 (some .int) RX4 wsX4_byteAt) (hE : nEn D A cy (NBw cy a) kt vt s) {z : Int32 × nS} : ∀ (σ : nS) (x1 : Int32) (H : Heap) (locs : List Loc) (ls : Array Slot), lv_has ls 2 [(0, .ref (a 6)), (1, .int x1)] → va_P D vwCl ((NBw cy a) σ) H → va_S A s.heap H locs → b_X4_byteAt_0 N σ x1 = some z → W p l e ({ frames := 0, cells := 0, slots := 0, locals := 0 } : Room) s m args below meth c H locs 0 0 (nQi below D A (NBw cy a) args s z) (F0 m 0 ls []) := by
  obtain ⟨hx, hb, hr, hml, hown, hts, hlocks⟩ := C0
  intro σ x1 H locs ls hl hP hS hf
  unfold b_X4_byteAt_0 at hf
  refine lv_iload_n hx hb dX4_byteAt_0 rfl (lv_at hl 1 rfl) ?_
  refine lv_if_lt (tgt := 30) hx hb dX4_byteAt_1 (by decide) (fun hc => ?_) (fun hc => ?_)
  · replace hf := nIf_t hc hf
    refine lv_iconst (v := (-1)) hx hb dX4_byteAt_30 (by decide) ?_
    exact nb_iret hx hb hr hlocks hP hS (nSo hf) dX4_byteAt_31
  · replace hf := nIf_f hc hf
    refine lv_iload_n hx hb dX4_byteAt_4 rfl (lv_at hl 1 rfl) ?_
    refine lv_aload_n hx hb dX4_byteAt_5 rfl (lv_at hl 0 rfl) ?_
    refine nb_get (ci := 4) hx hb hts iX4_byteAt_X4 hown hE hP 6 nbo_6 rfl 2 (by decide) qX4_byteAt_19 rfl rfl dX4_byteAt_6 ?_
    refine lv_icmp_ge (tgt := 30) hx hb dX4_byteAt_9 (by decide) (fun hc => ?_) (fun hc => ?_)
    · replace hf := nIf_t hc hf
      refine lv_iconst (v := (-1)) hx hb dX4_byteAt_30 (by decide) ?_
      exact nb_iret hx hb hr hlocks hP hS (nSo hf) dX4_byteAt_31
    · replace hf := nIf_f hc hf
      refine lv_iload_n hx hb dX4_byteAt_12 rfl (lv_at hl 1 rfl) ?_
      refine lv_aload_n hx hb dX4_byteAt_13 rfl (lv_at hl 0 rfl) ?_
      refine nb_get (ci := 4) hx hb hts iX4_byteAt_X4 hown hE hP 6 nbo_6 rfl 0 (by decide) qX4_byteAt_9 rfl rfl dX4_byteAt_14 ?_
      refine na_alen hx hb hE hP nbr_7 dX4_byteAt_17 ?_
      refine lv_topi (fun v1 ev1 => ?_)
      replace hf := nLet_e hf ev1
      refine lv_icmp_ge (tgt := 30) hx hb dX4_byteAt_18 (by decide) (fun hc => ?_) (fun hc => ?_)
      · replace hf := nIf_t hc hf
        refine lv_iconst (v := (-1)) hx hb dX4_byteAt_30 (by decide) ?_
        exact nb_iret hx hb hr hlocks hP hS (nSo hf) dX4_byteAt_31
      · replace hf := nIf_f hc hf
        refine lv_aload_n hx hb dX4_byteAt_21 rfl (lv_at hl 0 rfl) ?_
        refine nb_get (ci := 4) hx hb hts iX4_byteAt_X4 hown hE hP 6 nbo_6 rfl 0 (by decide) qX4_byteAt_9 rfl rfl dX4_byteAt_22 ?_
        refine lv_iload_n hx hb dX4_byteAt_25 rfl (lv_at hl 1 rfl) ?_
        obtain ⟨hin, hf⟩ := nIx_e hf
        refine na_iald hx hb hE hP nbr_7 hin dX4_byteAt_26 ?_
        refine lv_topi (fun v2 ev2 => ?_)
        replace hf := nLet_e hf ev2
        refine lv_goto (tgt := 31) hx hb dX4_byteAt_27 (by decide) ?_
        exact nb_iret hx hb hr hlocks hP hS (nSo hf) dX4_byteAt_31
def l_X4_byteAt_0 (N : Nat) : nS → Int32 → Option (Int32 × nS) := b_X4_byteAt_0 N
theorem kl_X4_byteAt_0 {p : Program} {l : Launch} {e : Env} {s : State} {m : MethodId} {args : Array Value} {below : List Frame} {meth : Method} {c : Code} {D : va_G} {A : Nat → Prop} {cy : Nat → ClassId} {a kt vt : Nat → Nat} {N : Nat}   (C0 : nCx p s m args meth c cX4_byteAt 2 (some .int) RX4 wsX4_byteAt) (hE : nEn D A cy (NBw cy a) kt vt s) {z : Int32 × nS} : ∀ (σ : nS) (x1 : Int32) (H : Heap) (locs : List Loc) (ls : Array Slot), lv_has ls 2 [(0, .ref (a 6)), (1, .int x1)] → va_P D vwCl ((NBw cy a) σ) H → va_S A s.heap H locs → l_X4_byteAt_0 N σ x1 = some z → W p l e ({ frames := 0, cells := 0, slots := 0, locals := 0 } : Room) s m args below meth c H locs 0 0 (nQi below D A (NBw cy a) args s z) (F0 m 0 ls []) := by
  exact kb_X4_byteAt_0 (N := N)  C0 hE
def f_X4_byteAt (N : Nat) (x1 : Int32) (σ : nS) : Option (Int32 × nS) := l_X4_byteAt_0 N σ x1
set_option maxHeartbeats 4000000 in
set_option maxRecDepth 100000 in
theorem c_X4_byteAt {l : Launch} {D : va_G} {A : Nat → Prop} {cy : Nat → ClassId} {a kt vt : Nat → Nat} {N : Nat}   {x1 : Int32} {σ : nS} {r : Int32} {σ' : nS} (hf : f_X4_byteAt N x1 σ = some (r, σ')) : nMi l yX4_byteAt wsX4_byteAt ({ frames := 0, cells := 0, slots := 0, locals := 0 } : Room) D A cy (NBw cy a) kt vt [.ref (a 6), .int x1] σ r σ' := by
  refine Met.ofW (cc := cX4_byteAt) (maxL := 2) (ret := (some .int)) (by decide) rfl ?_
  intro p e s m args below meth c s₁ B hml hv
  obtain ⟨rfl, hP, hE⟩ := hv
  have hl := lv_entry ([.ref (a 6), .int x1]) (n := 2) (Nat.le_of_ble_eq_true rfl)
  rw [lg_entry_eq]
  generalize (lg_sl ([.ref (a 6), .int x1]) ++ List.replicate (2 - (lg_sl ([.ref (a 6), .int x1])).length) Slot.unset).toArray = ls at hl ⊢
  have C0 : nCx p s m _ meth c cX4_byteAt 2 (some .int) RX4 wsX4_byteAt := ⟨B.exec, B.bytes, B.returns, hml, findClass_of_methodNamed B.named, atoms_spec (ws := wsX4_byteAt) B.pre, B.notSynchronized⟩
  exact kl_X4_byteAt_0 (N := N)  C0 hE (z := (r, σ')) σ x1 _ _ ls hl hP va_S.rf hf

/-! X4_isBlank -/
def b_X4_isBlank_0 (N : Nat) (σ : nS) (x0 : Int32) : Option (Int32 × nS) := (if x0 = 32 then some (1, σ) else (if x0 = 10 then some (1, σ) else some (0, σ)))
set_option maxHeartbeats 4000000 in
set_option maxRecDepth 100000 in
theorem kb_X4_isBlank_0 {p : Program} {l : Launch} {e : Env} {s : State} {m : MethodId} {args : Array Value} {below : List Frame} {meth : Method} {c : Code} {D : va_G} {A : Nat → Prop} {cy : Nat → ClassId} {a kt vt : Nat → Nat} {N : Nat}   (C0 : nCx p s m args meth c cX4_isBlank 1 (some .boolean) RX4 wsX4_isBlank) (hE : nEn D A cy (NBw cy a) kt vt s) {z : Int32 × nS} : ∀ (σ : nS) (x0 : Int32) (H : Heap) (locs : List Loc) (ls : Array Slot), lv_has ls 1 [(0, .int x0)] → va_P D vwCl ((NBw cy a) σ) H → va_S A s.heap H locs → b_X4_isBlank_0 N σ x0 = some z → W p l e ({ frames := 0, cells := 0, slots := 0, locals := 0 } : Room) s m args below meth c H locs 0 0 (nQi below D A (NBw cy a) args s z) (F0 m 0 ls []) := by
  obtain ⟨hx, hb, hr, hml, hown, hts, hlocks⟩ := C0
  intro σ x0 H locs ls hl hP hS hf
  unfold b_X4_isBlank_0 at hf
  refine lv_iload_n hx hb dX4_isBlank_0 rfl (lv_at hl 0 rfl) ?_
  refine lv_bipush (v := 32) hx hb dX4_isBlank_1 (by decide) ?_
  refine lv_icmp_eq (tgt := 12) hx hb dX4_isBlank_3 (by decide) (fun hc => ?_) (fun hc => ?_)
  · replace hf := nIf_t hc hf
    refine lv_iconst (v := 1) hx hb dX4_isBlank_12 (by decide) ?_
    refine lv_goto (tgt := 17) hx hb dX4_isBlank_13 (by decide) ?_
    exact nb_zret hx hb hr hlocks hP hS (nSo hf) rfl dX4_isBlank_17
  · replace hf := nIf_f hc hf
    refine lv_iload_n hx hb dX4_isBlank_6 rfl (lv_at hl 0 rfl) ?_
    refine lv_bipush (v := 10) hx hb dX4_isBlank_7 (by decide) ?_
    refine lv_icmp_ne (tgt := 16) hx hb dX4_isBlank_9 (by decide) (fun hc => ?_) (fun hc => ?_)
    · replace hf := nIf_f hc hf
      refine lv_iconst (v := 0) hx hb dX4_isBlank_16 (by decide) ?_
      exact nb_zret hx hb hr hlocks hP hS (nSo hf) rfl dX4_isBlank_17
    · replace hf := nIf_t hc hf
      refine lv_iconst (v := 1) hx hb dX4_isBlank_12 (by decide) ?_
      refine lv_goto (tgt := 17) hx hb dX4_isBlank_13 (by decide) ?_
      exact nb_zret hx hb hr hlocks hP hS (nSo hf) rfl dX4_isBlank_17
def l_X4_isBlank_0 (N : Nat) : nS → Int32 → Option (Int32 × nS) := b_X4_isBlank_0 N
theorem kl_X4_isBlank_0 {p : Program} {l : Launch} {e : Env} {s : State} {m : MethodId} {args : Array Value} {below : List Frame} {meth : Method} {c : Code} {D : va_G} {A : Nat → Prop} {cy : Nat → ClassId} {a kt vt : Nat → Nat} {N : Nat}   (C0 : nCx p s m args meth c cX4_isBlank 1 (some .boolean) RX4 wsX4_isBlank) (hE : nEn D A cy (NBw cy a) kt vt s) {z : Int32 × nS} : ∀ (σ : nS) (x0 : Int32) (H : Heap) (locs : List Loc) (ls : Array Slot), lv_has ls 1 [(0, .int x0)] → va_P D vwCl ((NBw cy a) σ) H → va_S A s.heap H locs → l_X4_isBlank_0 N σ x0 = some z → W p l e ({ frames := 0, cells := 0, slots := 0, locals := 0 } : Room) s m args below meth c H locs 0 0 (nQi below D A (NBw cy a) args s z) (F0 m 0 ls []) := by
  exact kb_X4_isBlank_0 (N := N)  C0 hE
def f_X4_isBlank (N : Nat) (x0 : Int32) (σ : nS) : Option (Int32 × nS) := l_X4_isBlank_0 N σ x0
set_option maxHeartbeats 4000000 in
set_option maxRecDepth 100000 in
theorem c_X4_isBlank {l : Launch} {D : va_G} {A : Nat → Prop} {cy : Nat → ClassId} {a kt vt : Nat → Nat} {N : Nat}   {x0 : Int32} {σ : nS} {r : Int32} {σ' : nS} (hf : f_X4_isBlank N x0 σ = some (r, σ')) : nMi l yX4_isBlank wsX4_isBlank ({ frames := 0, cells := 0, slots := 0, locals := 0 } : Room) D A cy (NBw cy a) kt vt [.int x0] σ r σ' := by
  refine Met.ofW (cc := cX4_isBlank) (maxL := 1) (ret := (some .boolean)) (by decide) rfl ?_
  intro p e s m args below meth c s₁ B hml hv
  obtain ⟨rfl, hP, hE⟩ := hv
  have hl := lv_entry ([.int x0]) (n := 1) (Nat.le_of_ble_eq_true rfl)
  rw [lg_entry_eq]
  generalize (lg_sl ([.int x0]) ++ List.replicate (1 - (lg_sl ([.int x0])).length) Slot.unset).toArray = ls at hl ⊢
  have C0 : nCx p s m _ meth c cX4_isBlank 1 (some .boolean) RX4 wsX4_isBlank := ⟨B.exec, B.bytes, B.returns, hml, findClass_of_methodNamed B.named, atoms_spec (ws := wsX4_isBlank) B.pre, B.notSynchronized⟩
  exact kl_X4_isBlank_0 (N := N)  C0 hE (z := (r, σ')) σ x0 _ _ ls hl hP va_S.rf hf

/-! X4_isLetter -/
def b_X4_isLetter_0 (N : Nat) (σ : nS) (x0 : Int32) : Option (Int32 × nS) := (if x0 < 97 then some (0, σ) else (if (122 : Int32) < x0 then some (0, σ) else some (1, σ)))
set_option maxHeartbeats 4000000 in
set_option maxRecDepth 100000 in
theorem kb_X4_isLetter_0 {p : Program} {l : Launch} {e : Env} {s : State} {m : MethodId} {args : Array Value} {below : List Frame} {meth : Method} {c : Code} {D : va_G} {A : Nat → Prop} {cy : Nat → ClassId} {a kt vt : Nat → Nat} {N : Nat}   (C0 : nCx p s m args meth c cX4_isLetter 1 (some .boolean) RX4 wsX4_isLetter) (hE : nEn D A cy (NBw cy a) kt vt s) {z : Int32 × nS} : ∀ (σ : nS) (x0 : Int32) (H : Heap) (locs : List Loc) (ls : Array Slot), lv_has ls 1 [(0, .int x0)] → va_P D vwCl ((NBw cy a) σ) H → va_S A s.heap H locs → b_X4_isLetter_0 N σ x0 = some z → W p l e ({ frames := 0, cells := 0, slots := 0, locals := 0 } : Room) s m args below meth c H locs 0 0 (nQi below D A (NBw cy a) args s z) (F0 m 0 ls []) := by
  obtain ⟨hx, hb, hr, hml, hown, hts, hlocks⟩ := C0
  intro σ x0 H locs ls hl hP hS hf
  unfold b_X4_isLetter_0 at hf
  refine lv_iload_n hx hb dX4_isLetter_0 rfl (lv_at hl 0 rfl) ?_
  refine lv_bipush (v := 97) hx hb dX4_isLetter_1 (by decide) ?_
  refine lv_icmp_lt (tgt := 16) hx hb dX4_isLetter_3 (by decide) (fun hc => ?_) (fun hc => ?_)
  · replace hf := nIf_t hc hf
    refine lv_iconst (v := 0) hx hb dX4_isLetter_16 (by decide) ?_
    exact nb_zret hx hb hr hlocks hP hS (nSo hf) rfl dX4_isLetter_17
  · replace hf := nIf_f hc hf
    refine lv_iload_n hx hb dX4_isLetter_6 rfl (lv_at hl 0 rfl) ?_
    refine lv_bipush (v := 122) hx hb dX4_isLetter_7 (by decide) ?_
    refine lv_icmp_gt (tgt := 16) hx hb dX4_isLetter_9 (by decide) (fun hc => ?_) (fun hc => ?_)
    · replace hf := nIf_t hc hf
      refine lv_iconst (v := 0) hx hb dX4_isLetter_16 (by decide) ?_
      exact nb_zret hx hb hr hlocks hP hS (nSo hf) rfl dX4_isLetter_17
    · replace hf := nIf_f hc hf
      refine lv_iconst (v := 1) hx hb dX4_isLetter_12 (by decide) ?_
      refine lv_goto (tgt := 17) hx hb dX4_isLetter_13 (by decide) ?_
      exact nb_zret hx hb hr hlocks hP hS (nSo hf) rfl dX4_isLetter_17
def l_X4_isLetter_0 (N : Nat) : nS → Int32 → Option (Int32 × nS) := b_X4_isLetter_0 N
theorem kl_X4_isLetter_0 {p : Program} {l : Launch} {e : Env} {s : State} {m : MethodId} {args : Array Value} {below : List Frame} {meth : Method} {c : Code} {D : va_G} {A : Nat → Prop} {cy : Nat → ClassId} {a kt vt : Nat → Nat} {N : Nat}   (C0 : nCx p s m args meth c cX4_isLetter 1 (some .boolean) RX4 wsX4_isLetter) (hE : nEn D A cy (NBw cy a) kt vt s) {z : Int32 × nS} : ∀ (σ : nS) (x0 : Int32) (H : Heap) (locs : List Loc) (ls : Array Slot), lv_has ls 1 [(0, .int x0)] → va_P D vwCl ((NBw cy a) σ) H → va_S A s.heap H locs → l_X4_isLetter_0 N σ x0 = some z → W p l e ({ frames := 0, cells := 0, slots := 0, locals := 0 } : Room) s m args below meth c H locs 0 0 (nQi below D A (NBw cy a) args s z) (F0 m 0 ls []) := by
  exact kb_X4_isLetter_0 (N := N)  C0 hE
def f_X4_isLetter (N : Nat) (x0 : Int32) (σ : nS) : Option (Int32 × nS) := l_X4_isLetter_0 N σ x0
set_option maxHeartbeats 4000000 in
set_option maxRecDepth 100000 in
theorem c_X4_isLetter {l : Launch} {D : va_G} {A : Nat → Prop} {cy : Nat → ClassId} {a kt vt : Nat → Nat} {N : Nat}   {x0 : Int32} {σ : nS} {r : Int32} {σ' : nS} (hf : f_X4_isLetter N x0 σ = some (r, σ')) : nMi l yX4_isLetter wsX4_isLetter ({ frames := 0, cells := 0, slots := 0, locals := 0 } : Room) D A cy (NBw cy a) kt vt [.int x0] σ r σ' := by
  refine Met.ofW (cc := cX4_isLetter) (maxL := 1) (ret := (some .boolean)) (by decide) rfl ?_
  intro p e s m args below meth c s₁ B hml hv
  obtain ⟨rfl, hP, hE⟩ := hv
  have hl := lv_entry ([.int x0]) (n := 1) (Nat.le_of_ble_eq_true rfl)
  rw [lg_entry_eq]
  generalize (lg_sl ([.int x0]) ++ List.replicate (1 - (lg_sl ([.int x0])).length) Slot.unset).toArray = ls at hl ⊢
  have C0 : nCx p s m _ meth c cX4_isLetter 1 (some .boolean) RX4 wsX4_isLetter := ⟨B.exec, B.bytes, B.returns, hml, findClass_of_methodNamed B.named, atoms_spec (ws := wsX4_isLetter) B.pre, B.notSynchronized⟩
  exact kl_X4_isLetter_0 (N := N)  C0 hE (z := (r, σ')) σ x0 _ _ ls hl hP va_S.rf hf

/-! X4_isDigit -/
def b_X4_isDigit_0 (N : Nat) (σ : nS) (x0 : Int32) : Option (Int32 × nS) := (if x0 < 48 then some (0, σ) else (if (57 : Int32) < x0 then some (0, σ) else some (1, σ)))
set_option maxHeartbeats 4000000 in
set_option maxRecDepth 100000 in
theorem kb_X4_isDigit_0 {p : Program} {l : Launch} {e : Env} {s : State} {m : MethodId} {args : Array Value} {below : List Frame} {meth : Method} {c : Code} {D : va_G} {A : Nat → Prop} {cy : Nat → ClassId} {a kt vt : Nat → Nat} {N : Nat}   (C0 : nCx p s m args meth c cX4_isDigit 1 (some .boolean) RX4 wsX4_isDigit) (hE : nEn D A cy (NBw cy a) kt vt s) {z : Int32 × nS} : ∀ (σ : nS) (x0 : Int32) (H : Heap) (locs : List Loc) (ls : Array Slot), lv_has ls 1 [(0, .int x0)] → va_P D vwCl ((NBw cy a) σ) H → va_S A s.heap H locs → b_X4_isDigit_0 N σ x0 = some z → W p l e ({ frames := 0, cells := 0, slots := 0, locals := 0 } : Room) s m args below meth c H locs 0 0 (nQi below D A (NBw cy a) args s z) (F0 m 0 ls []) := by
  obtain ⟨hx, hb, hr, hml, hown, hts, hlocks⟩ := C0
  intro σ x0 H locs ls hl hP hS hf
  unfold b_X4_isDigit_0 at hf
  refine lv_iload_n hx hb dX4_isDigit_0 rfl (lv_at hl 0 rfl) ?_
  refine lv_bipush (v := 48) hx hb dX4_isDigit_1 (by decide) ?_
  refine lv_icmp_lt (tgt := 16) hx hb dX4_isDigit_3 (by decide) (fun hc => ?_) (fun hc => ?_)
  · replace hf := nIf_t hc hf
    refine lv_iconst (v := 0) hx hb dX4_isDigit_16 (by decide) ?_
    exact nb_zret hx hb hr hlocks hP hS (nSo hf) rfl dX4_isDigit_17
  · replace hf := nIf_f hc hf
    refine lv_iload_n hx hb dX4_isDigit_6 rfl (lv_at hl 0 rfl) ?_
    refine lv_bipush (v := 57) hx hb dX4_isDigit_7 (by decide) ?_
    refine lv_icmp_gt (tgt := 16) hx hb dX4_isDigit_9 (by decide) (fun hc => ?_) (fun hc => ?_)
    · replace hf := nIf_t hc hf
      refine lv_iconst (v := 0) hx hb dX4_isDigit_16 (by decide) ?_
      exact nb_zret hx hb hr hlocks hP hS (nSo hf) rfl dX4_isDigit_17
    · replace hf := nIf_f hc hf
      refine lv_iconst (v := 1) hx hb dX4_isDigit_12 (by decide) ?_
      refine lv_goto (tgt := 17) hx hb dX4_isDigit_13 (by decide) ?_
      exact nb_zret hx hb hr hlocks hP hS (nSo hf) rfl dX4_isDigit_17
def l_X4_isDigit_0 (N : Nat) : nS → Int32 → Option (Int32 × nS) := b_X4_isDigit_0 N
theorem kl_X4_isDigit_0 {p : Program} {l : Launch} {e : Env} {s : State} {m : MethodId} {args : Array Value} {below : List Frame} {meth : Method} {c : Code} {D : va_G} {A : Nat → Prop} {cy : Nat → ClassId} {a kt vt : Nat → Nat} {N : Nat}   (C0 : nCx p s m args meth c cX4_isDigit 1 (some .boolean) RX4 wsX4_isDigit) (hE : nEn D A cy (NBw cy a) kt vt s) {z : Int32 × nS} : ∀ (σ : nS) (x0 : Int32) (H : Heap) (locs : List Loc) (ls : Array Slot), lv_has ls 1 [(0, .int x0)] → va_P D vwCl ((NBw cy a) σ) H → va_S A s.heap H locs → l_X4_isDigit_0 N σ x0 = some z → W p l e ({ frames := 0, cells := 0, slots := 0, locals := 0 } : Room) s m args below meth c H locs 0 0 (nQi below D A (NBw cy a) args s z) (F0 m 0 ls []) := by
  exact kb_X4_isDigit_0 (N := N)  C0 hE
def f_X4_isDigit (N : Nat) (x0 : Int32) (σ : nS) : Option (Int32 × nS) := l_X4_isDigit_0 N σ x0
set_option maxHeartbeats 4000000 in
set_option maxRecDepth 100000 in
theorem c_X4_isDigit {l : Launch} {D : va_G} {A : Nat → Prop} {cy : Nat → ClassId} {a kt vt : Nat → Nat} {N : Nat}   {x0 : Int32} {σ : nS} {r : Int32} {σ' : nS} (hf : f_X4_isDigit N x0 σ = some (r, σ')) : nMi l yX4_isDigit wsX4_isDigit ({ frames := 0, cells := 0, slots := 0, locals := 0 } : Room) D A cy (NBw cy a) kt vt [.int x0] σ r σ' := by
  refine Met.ofW (cc := cX4_isDigit) (maxL := 1) (ret := (some .boolean)) (by decide) rfl ?_
  intro p e s m args below meth c s₁ B hml hv
  obtain ⟨rfl, hP, hE⟩ := hv
  have hl := lv_entry ([.int x0]) (n := 1) (Nat.le_of_ble_eq_true rfl)
  rw [lg_entry_eq]
  generalize (lg_sl ([.int x0]) ++ List.replicate (1 - (lg_sl ([.int x0])).length) Slot.unset).toArray = ls at hl ⊢
  have C0 : nCx p s m _ meth c cX4_isDigit 1 (some .boolean) RX4 wsX4_isDigit := ⟨B.exec, B.bytes, B.returns, hml, findClass_of_methodNamed B.named, atoms_spec (ws := wsX4_isDigit) B.pre, B.notSynchronized⟩
  exact kl_X4_isDigit_0 (N := N)  C0 hE (z := (r, σ')) σ x0 _ _ ls hl hP va_S.rf hf

/-! X4_advance -/
set_option maxRecDepth 20000 in
theorem iX4_advance_X4 : ∀ w ∈ u_ws RX4 TX4 14, w ∈ wsX4_advance := fun _ h => List.mem_cons_of_mem _ (List.mem_append_right _ h)
set_option maxRecDepth 20000 in
theorem qX4_advance_22 : Cond.fieldLink RX4 22 RX4 (TX4 3).2.1 (TX4 3).2.2.1 ∈ wsX4_advance := by decide +kernel
set_option maxRecDepth 20000 in
theorem qX4_advance_19 : Cond.fieldLink RX4 19 RX4 (TX4 2).2.1 (TX4 2).2.2.1 ∈ wsX4_advance := by decide +kernel
set_option maxRecDepth 20000 in
theorem qX4_advance_28 : Cond.fieldLink RX4 28 RX4 (TX4 5).2.1 (TX4 5).2.2.1 ∈ wsX4_advance := by decide +kernel
set_option maxRecDepth 20000 in
theorem qX4_advance_31 : Cond.fieldLink RX4 31 RX4 (TX4 6).2.1 (TX4 6).2.2.1 ∈ wsX4_advance := by decide +kernel
set_option maxRecDepth 20000 in
theorem qX4_advance_25 : Cond.fieldLink RX4 25 RX4 (TX4 4).2.1 (TX4 4).2.2.1 ∈ wsX4_advance := by decide +kernel
def b_X4_advance_180 (N : Nat) (σ : nS) : Option (Int32 × nS) := nLet ((σ.1 6 3) - (σ.1 6 5) : Int32) (fun v1 => (if v1 ≤ 0 then (if (σ.1 6 3) < (σ.1 6 2) then nBd (f_X4_byteAt N (σ.1 6 3) σ) (fun r2 σ3 => (if r2 = 59 then nLet (wr σ3 6 4 3) (fun σ7 => nLet ((σ7.1 6 3) + (1 : Int32) : Int32) (fun v8 => nLet (wr σ7 6 3 v8) (fun σ9 => some (0, σ9)))) else nLet (wr σ3 6 4 4) (fun σ4 => nLet ((σ4.1 6 3) + (1 : Int32) : Int32) (fun v5 => nLet (wr σ4 6 3 v5) (fun σ6 => some (0, σ6)))))) else nLet (wr σ 6 4 0) (fun σ10 => nLet ((σ10.1 6 3) + (1 : Int32) : Int32) (fun v11 => nLet (wr σ10 6 3 v11) (fun σ12 => some (0, σ12))))) else (if (2 : Int32) < v1 then nLet (wr σ 6 4 4) (fun σ13 => some (0, σ13)) else nLet (wr σ 6 4 2) (fun σ14 => some (0, σ14)))))
set_option maxHeartbeats 4000000 in
set_option maxRecDepth 100000 in
theorem kb_X4_advance_180 {p : Program} {l : Launch} {e : Env} {s : State} {m : MethodId} {args : Array Value} {below : List Frame} {meth : Method} {c : Code} {D : va_G} {A : Nat → Prop} {cy : Nat → ClassId} {a kt vt : Nat → Nat} {N : Nat}   (C0 : nCx p s m args meth c cX4_advance 3 none RX4 wsX4_advance) (hE : nEn D A cy (NBw cy a) kt vt s) {z : Int32 × nS} : ∀ (σ : nS) (H : Heap) (locs : List Loc) (ls : Array Slot), lv_has ls 3 [(0, .ref (a 6))] → va_P D vwCl ((NBw cy a) σ) H → va_S A s.heap H locs → b_X4_advance_180 N σ = some z → W p l e ({ frames := 1, cells := 0, slots := 0, locals := 21 } : Room) s m args below meth c H locs 0 0 (nQv below D A (NBw cy a) args s z) (F0 m 180 ls []) := by
  obtain ⟨hx, hb, hr, hml, hown, hts, hlocks⟩ := C0
  intro σ  H locs ls hl hP hS hf
  unfold b_X4_advance_180 at hf
  refine lv_aload_n hx hb dX4_advance_180 rfl (lv_at hl 0 rfl) ?_
  refine nb_get (ci := 4) hx hb hts iX4_advance_X4 hown hE hP 6 nbo_6 rfl 3 (by decide) qX4_advance_22 rfl rfl dX4_advance_181 ?_
  refine lv_aload_n hx hb dX4_advance_184 rfl (lv_at hl 0 rfl) ?_
  refine nb_get (ci := 4) hx hb hts iX4_advance_X4 hown hE hP 6 nbo_6 rfl 5 (by decide) qX4_advance_28 rfl rfl dX4_advance_185 ?_
  refine lv_isub hx hb dX4_advance_188 ?_
  refine lv_topi (fun v1 ev1 => ?_)
  replace hf := nLet_e hf ev1
  refine lv_istore_n (lv' := [(2, .int v1), (0, .ref (a 6))]) hx hb dX4_advance_189 rfl hl (by decide) rfl (fun ls hl => ?_)
  refine lv_iload_n hx hb dX4_advance_190 rfl (lv_at hl 0 rfl) ?_
  refine lv_if_le (tgt := 209) hx hb dX4_advance_191 (by decide) (fun hc => ?_) (fun hc => ?_)
  · replace hf := nIf_t hc hf
    refine lv_aload_n hx hb dX4_advance_209 rfl (lv_at hl 1 rfl) ?_
    refine lv_aload_n hx hb dX4_advance_210 rfl (lv_at hl 1 rfl) ?_
    refine nb_get (ci := 4) hx hb hts iX4_advance_X4 hown hE hP 6 nbo_6 rfl 3 (by decide) qX4_advance_22 rfl rfl dX4_advance_211 ?_
    refine lv_aload_n hx hb dX4_advance_214 rfl (lv_at hl 1 rfl) ?_
    refine nb_get (ci := 4) hx hb hts iX4_advance_X4 hown hE hP 6 nbo_6 rfl 2 (by decide) qX4_advance_19 rfl rfl dX4_advance_215 ?_
    refine lv_icmp_lt (tgt := 225) hx hb dX4_advance_218 (by decide) (fun hc => ?_) (fun hc => ?_)
    · replace hf := nIf_t hc hf
      refine lv_aload_n hx hb dX4_advance_225 rfl (lv_at hl 1 rfl) ?_
      refine lv_aload_n hx hb dX4_advance_226 rfl (lv_at hl 1 rfl) ?_
      refine nb_get (ci := 4) hx hb hts iX4_advance_X4 hown hE hP 6 nbo_6 rfl 3 (by decide) qX4_advance_22 rfl rfl dX4_advance_227 ?_
      obtain ⟨r2, σ3, hc3, hf⟩ := nBd_e hf
      refine nb_callVi (As := [.int (σ.1 6 3)]) (rest := [.ref (a 6)]) ⟨hx, hb, hml, hown, hts⟩ (c_X4_byteAt (D := D) (A := A) (cy := cy) (a := a) (kt := kt) (vt := vt) (l := l)  hc3) (cwV 1 hts gX4_advance_X4_byteAt rfl rfl rfl (by decide +kernel) ⟨Nat.le_of_ble_eq_true rfl, Nat.le_of_ble_eq_true rfl⟩) hE hP hS nbo_6 rfl rfl hl.1 rfl (Nat.le_of_ble_eq_true rfl) dX4_advance_230 (fun H locs hP hS => ?_)
      refine lv_bipush (v := 59) hx hb dX4_advance_233 (by decide) ?_
      refine lv_icmp_ne (tgt := 242) hx hb dX4_advance_235 (by decide) (fun hc => ?_) (fun hc => ?_)
      · replace hf := nIf_f hc hf
        refine lv_iconst (v := 4) hx hb dX4_advance_242 (by decide) ?_
        refine nb_put (ci := 4) hx hb hts iX4_advance_X4 tyX4 tyX4_ok nmX4 hown hE hP hS 6 nbo_6 rfl 4 (by decide) qX4_advance_25 rfl rfl rfl rfl (Nat.le_of_ble_eq_true rfl) dX4_advance_243 (nbp_6_4 _) (fun σ4 eσ4 H locs hP hS => ?_)
        replace hf := nLet_e hf eσ4
        refine lv_aload_n hx hb dX4_advance_246 rfl (lv_at hl 1 rfl) ?_
        refine lv_dup hx hb dX4_advance_247 rfl ?_
        refine nb_get (ci := 4) hx hb hts iX4_advance_X4 hown hE hP 6 nbo_6 rfl 3 (by decide) qX4_advance_22 rfl rfl dX4_advance_248 ?_
        refine lv_iconst (v := 1) hx hb dX4_advance_251 (by decide) ?_
        refine lv_iadd hx hb dX4_advance_252 ?_
        refine lv_topi (fun v5 ev5 => ?_)
        replace hf := nLet_e hf ev5
        refine nb_put (ci := 4) hx hb hts iX4_advance_X4 tyX4 tyX4_ok nmX4 hown hE hP hS 6 nbo_6 rfl 3 (by decide) qX4_advance_22 rfl rfl rfl rfl (Nat.le_of_ble_eq_true rfl) dX4_advance_253 (nbp_6_3 _) (fun σ6 eσ6 H locs hP hS => ?_)
        replace hf := nLet_e hf eσ6
        exact nb_vret hx hb hr hlocks hP hS (nSo hf) dX4_advance_256
      · replace hf := nIf_t hc hf
        refine lv_iconst (v := 3) hx hb dX4_advance_238 (by decide) ?_
        refine lv_goto (tgt := 243) hx hb dX4_advance_239 (by decide) ?_
        refine nb_put (ci := 4) hx hb hts iX4_advance_X4 tyX4 tyX4_ok nmX4 hown hE hP hS 6 nbo_6 rfl 4 (by decide) qX4_advance_25 rfl rfl rfl rfl (Nat.le_of_ble_eq_true rfl) dX4_advance_243 (nbp_6_4 _) (fun σ7 eσ7 H locs hP hS => ?_)
        replace hf := nLet_e hf eσ7
        refine lv_aload_n hx hb dX4_advance_246 rfl (lv_at hl 1 rfl) ?_
        refine lv_dup hx hb dX4_advance_247 rfl ?_
        refine nb_get (ci := 4) hx hb hts iX4_advance_X4 hown hE hP 6 nbo_6 rfl 3 (by decide) qX4_advance_22 rfl rfl dX4_advance_248 ?_
        refine lv_iconst (v := 1) hx hb dX4_advance_251 (by decide) ?_
        refine lv_iadd hx hb dX4_advance_252 ?_
        refine lv_topi (fun v8 ev8 => ?_)
        replace hf := nLet_e hf ev8
        refine nb_put (ci := 4) hx hb hts iX4_advance_X4 tyX4 tyX4_ok nmX4 hown hE hP hS 6 nbo_6 rfl 3 (by decide) qX4_advance_22 rfl rfl rfl rfl (Nat.le_of_ble_eq_true rfl) dX4_advance_253 (nbp_6_3 _) (fun σ9 eσ9 H locs hP hS => ?_)
        replace hf := nLet_e hf eσ9
        exact nb_vret hx hb hr hlocks hP hS (nSo hf) dX4_advance_256
    · replace hf := nIf_f hc hf
      refine lv_iconst (v := 0) hx hb dX4_advance_221 (by decide) ?_
      refine lv_goto (tgt := 243) hx hb dX4_advance_222 (by decide) ?_
      refine nb_put (ci := 4) hx hb hts iX4_advance_X4 tyX4 tyX4_ok nmX4 hown hE hP hS 6 nbo_6 rfl 4 (by decide) qX4_advance_25 rfl rfl rfl rfl (Nat.le_of_ble_eq_true rfl) dX4_advance_243 (nbp_6_4 _) (fun σ10 eσ10 H locs hP hS => ?_)
      replace hf := nLet_e hf eσ10
      refine lv_aload_n hx hb dX4_advance_246 rfl (lv_at hl 1 rfl) ?_
      refine lv_dup hx hb dX4_advance_247 rfl ?_
      refine nb_get (ci := 4) hx hb hts iX4_advance_X4 hown hE hP 6 nbo_6 rfl 3 (by decide) qX4_advance_22 rfl rfl dX4_advance_248 ?_
      refine lv_iconst (v := 1) hx hb dX4_advance_251 (by decide) ?_
      refine lv_iadd hx hb dX4_advance_252 ?_
      refine lv_topi (fun v11 ev11 => ?_)
      replace hf := nLet_e hf ev11
      refine nb_put (ci := 4) hx hb hts iX4_advance_X4 tyX4 tyX4_ok nmX4 hown hE hP hS 6 nbo_6 rfl 3 (by decide) qX4_advance_22 rfl rfl rfl rfl (Nat.le_of_ble_eq_true rfl) dX4_advance_253 (nbp_6_3 _) (fun σ12 eσ12 H locs hP hS => ?_)
      replace hf := nLet_e hf eσ12
      exact nb_vret hx hb hr hlocks hP hS (nSo hf) dX4_advance_256
  · replace hf := nIf_f hc hf
    refine lv_aload_n hx hb dX4_advance_194 rfl (lv_at hl 1 rfl) ?_
    refine lv_iload_n hx hb dX4_advance_195 rfl (lv_at hl 0 rfl) ?_
    refine lv_iconst (v := 2) hx hb dX4_advance_196 (by decide) ?_
    refine lv_icmp_gt (tgt := 204) hx hb dX4_advance_197 (by decide) (fun hc => ?_) (fun hc => ?_)
    · replace hf := nIf_t hc hf
      refine lv_iconst (v := 4) hx hb dX4_advance_204 (by decide) ?_
      refine nb_put (ci := 4) hx hb hts iX4_advance_X4 tyX4 tyX4_ok nmX4 hown hE hP hS 6 nbo_6 rfl 4 (by decide) qX4_advance_25 rfl rfl rfl rfl (Nat.le_of_ble_eq_true rfl) dX4_advance_205 (nbp_6_4 _) (fun σ13 eσ13 H locs hP hS => ?_)
      replace hf := nLet_e hf eσ13
      exact nb_vret hx hb hr hlocks hP hS (nSo hf) dX4_advance_208
    · replace hf := nIf_f hc hf
      refine lv_iconst (v := 2) hx hb dX4_advance_200 (by decide) ?_
      refine lv_goto (tgt := 205) hx hb dX4_advance_201 (by decide) ?_
      refine nb_put (ci := 4) hx hb hts iX4_advance_X4 tyX4 tyX4_ok nmX4 hown hE hP hS 6 nbo_6 rfl 4 (by decide) qX4_advance_25 rfl rfl rfl rfl (Nat.le_of_ble_eq_true rfl) dX4_advance_205 (nbp_6_4 _) (fun σ14 eσ14 H locs hP hS => ?_)
      replace hf := nLet_e hf eσ14
      exact nb_vret hx hb hr hlocks hP hS (nSo hf) dX4_advance_208
def b_X4_advance_119 (N : Nat) (k119 : nS → Option (Int32 × nS)) (k180 : nS → Option (Int32 × nS)) (σ : nS) : Option (Int32 × nS) := (if (σ.1 6 2) ≤ (σ.1 6 3) then k180 σ else nBd (f_X4_byteAt N (σ.1 6 3) σ) (fun r1 σ2 => nBd (f_X4_isDigit N r1 σ2) (fun r3 σ4 => (if r3 = 0 then k180 σ4 else nLet ((σ4.1 6 6) * (10 : Int32) : Int32) (fun v5 => nBd (f_X4_byteAt N (σ4.1 6 3) σ4) (fun r6 σ7 => nLet (v5 + r6 : Int32) (fun v8 => nLet (v8 - (48 : Int32) : Int32) (fun v9 => nLet (wr σ7 6 6 v9) (fun σ10 => nLet ((σ10.1 6 3) + (1 : Int32) : Int32) (fun v11 => nLet (wr σ10 6 3 v11) (fun σ12 => k119 σ12)))))))))))
set_option maxHeartbeats 4000000 in
set_option maxRecDepth 100000 in
theorem kb_X4_advance_119 {p : Program} {l : Launch} {e : Env} {s : State} {m : MethodId} {args : Array Value} {below : List Frame} {meth : Method} {c : Code} {D : va_G} {A : Nat → Prop} {cy : Nat → ClassId} {a kt vt : Nat → Nat} {N : Nat}   (C0 : nCx p s m args meth c cX4_advance 3 none RX4 wsX4_advance) (hE : nEn D A cy (NBw cy a) kt vt s) {z : Int32 × nS} {k119 : nS → Option (Int32 × nS)} (K119 : ∀ (σ : nS) (H : Heap) (locs : List Loc) (ls : Array Slot), lv_has ls 3 [(0, .ref (a 6))] → va_P D vwCl ((NBw cy a) σ) H → va_S A s.heap H locs → k119 σ = some z → W p l e ({ frames := 1, cells := 0, slots := 0, locals := 21 } : Room) s m args below meth c H locs 0 0 (nQv below D A (NBw cy a) args s z) (F0 m 119 ls [])) {k180 : nS → Option (Int32 × nS)} (K180 : ∀ (σ : nS) (H : Heap) (locs : List Loc) (ls : Array Slot), lv_has ls 3 [(0, .ref (a 6))] → va_P D vwCl ((NBw cy a) σ) H → va_S A s.heap H locs → k180 σ = some z → W p l e ({ frames := 1, cells := 0, slots := 0, locals := 21 } : Room) s m args below meth c H locs 0 0 (nQv below D A (NBw cy a) args s z) (F0 m 180 ls [])) : ∀ (σ : nS) (H : Heap) (locs : List Loc) (ls : Array Slot), lv_has ls 3 [(0, .ref (a 6))] → va_P D vwCl ((NBw cy a) σ) H → va_S A s.heap H locs → b_X4_advance_119 N k119 k180 σ = some z → W p l e ({ frames := 1, cells := 0, slots := 0, locals := 21 } : Room) s m args below meth c H locs 0 0 (nQv below D A (NBw cy a) args s z) (F0 m 119 ls []) := by
  obtain ⟨hx, hb, hr, hml, hown, hts, hlocks⟩ := C0
  intro σ  H locs ls hl hP hS hf
  unfold b_X4_advance_119 at hf
  refine lv_aload_n hx hb dX4_advance_119 rfl (lv_at hl 0 rfl) ?_
  refine nb_get (ci := 4) hx hb hts iX4_advance_X4 hown hE hP 6 nbo_6 rfl 3 (by decide) qX4_advance_22 rfl rfl dX4_advance_120 ?_
  refine lv_aload_n hx hb dX4_advance_123 rfl (lv_at hl 0 rfl) ?_
  refine nb_get (ci := 4) hx hb hts iX4_advance_X4 hown hE hP 6 nbo_6 rfl 2 (by decide) qX4_advance_19 rfl rfl dX4_advance_124 ?_
  refine lv_icmp_ge (tgt := 180) hx hb dX4_advance_127 (by decide) (fun hc => ?_) (fun hc => ?_)
  · replace hf := nIf_t hc hf
    exact K180 σ H locs ls (lv_sub hl [0] rfl) hP hS hf
  · replace hf := nIf_f hc hf
    refine lv_aload_n hx hb dX4_advance_130 rfl (lv_at hl 0 rfl) ?_
    refine lv_aload_n hx hb dX4_advance_131 rfl (lv_at hl 0 rfl) ?_
    refine nb_get (ci := 4) hx hb hts iX4_advance_X4 hown hE hP 6 nbo_6 rfl 3 (by decide) qX4_advance_22 rfl rfl dX4_advance_132 ?_
    obtain ⟨r1, σ2, hc2, hf⟩ := nBd_e hf
    refine nb_callVi (As := [.int (σ.1 6 3)]) (rest := []) ⟨hx, hb, hml, hown, hts⟩ (c_X4_byteAt (D := D) (A := A) (cy := cy) (a := a) (kt := kt) (vt := vt) (l := l)  hc2) (cwV 1 hts gX4_advance_X4_byteAt rfl rfl rfl (by decide +kernel) ⟨Nat.le_of_ble_eq_true rfl, Nat.le_of_ble_eq_true rfl⟩) hE hP hS nbo_6 rfl rfl hl.1 rfl (Nat.le_of_ble_eq_true rfl) dX4_advance_135 (fun H locs hP hS => ?_)
    obtain ⟨r3, σ4, hc4, hf⟩ := nBd_e hf
    refine nb_callSi (As := [.int r1]) (rest := []) ⟨hx, hb, hml, hown, hts⟩ (c_X4_isDigit (D := D) (A := A) (cy := cy) (a := a) (kt := kt) (vt := vt) (l := l)  hc4) (va_cwS 1 hts gX4_advance_X4_isDigit rfl rfl rfl (by decide +kernel) ⟨Nat.le_of_ble_eq_true rfl, Nat.le_of_ble_eq_true rfl⟩) hE hP hS rfl hl.1 rfl (Nat.le_of_ble_eq_true rfl) dX4_advance_138 (fun H locs hP hS => ?_)
    refine lv_if_eq (tgt := 180) hx hb dX4_advance_141 (by decide) (fun hc => ?_) (fun hc => ?_)
    · replace hf := nIf_t hc hf
      exact K180 σ4 H locs ls (lv_sub hl [0] rfl) hP hS hf
    · replace hf := nIf_f hc hf
      refine lv_aload_n hx hb dX4_advance_144 rfl (lv_at hl 0 rfl) ?_
      refine lv_aload_n hx hb dX4_advance_145 rfl (lv_at hl 0 rfl) ?_
      refine nb_get (ci := 4) hx hb hts iX4_advance_X4 hown hE hP 6 nbo_6 rfl 6 (by decide) qX4_advance_31 rfl rfl dX4_advance_146 ?_
      refine lv_bipush (v := 10) hx hb dX4_advance_149 (by decide) ?_
      refine lv_imul hx hb dX4_advance_151 ?_
      refine lv_topi (fun v5 ev5 => ?_)
      replace hf := nLet_e hf ev5
      refine lv_aload_n hx hb dX4_advance_152 rfl (lv_at hl 0 rfl) ?_
      refine lv_aload_n hx hb dX4_advance_153 rfl (lv_at hl 0 rfl) ?_
      refine nb_get (ci := 4) hx hb hts iX4_advance_X4 hown hE hP 6 nbo_6 rfl 3 (by decide) qX4_advance_22 rfl rfl dX4_advance_154 ?_
      obtain ⟨r6, σ7, hc7, hf⟩ := nBd_e hf
      refine nb_callVi (As := [.int (σ4.1 6 3)]) (rest := [.int v5, .ref (a 6)]) ⟨hx, hb, hml, hown, hts⟩ (c_X4_byteAt (D := D) (A := A) (cy := cy) (a := a) (kt := kt) (vt := vt) (l := l)  hc7) (cwV 1 hts gX4_advance_X4_byteAt rfl rfl rfl (by decide +kernel) ⟨Nat.le_of_ble_eq_true rfl, Nat.le_of_ble_eq_true rfl⟩) hE hP hS nbo_6 rfl rfl hl.1 rfl (Nat.le_of_ble_eq_true rfl) dX4_advance_157 (fun H locs hP hS => ?_)
      refine lv_iadd hx hb dX4_advance_160 ?_
      refine lv_topi (fun v8 ev8 => ?_)
      replace hf := nLet_e hf ev8
      refine lv_bipush (v := 48) hx hb dX4_advance_161 (by decide) ?_
      refine lv_isub hx hb dX4_advance_163 ?_
      refine lv_topi (fun v9 ev9 => ?_)
      replace hf := nLet_e hf ev9
      refine nb_put (ci := 4) hx hb hts iX4_advance_X4 tyX4 tyX4_ok nmX4 hown hE hP hS 6 nbo_6 rfl 6 (by decide) qX4_advance_31 rfl rfl rfl rfl (Nat.le_of_ble_eq_true rfl) dX4_advance_164 (nbp_6_6 _) (fun σ10 eσ10 H locs hP hS => ?_)
      replace hf := nLet_e hf eσ10
      refine lv_aload_n hx hb dX4_advance_167 rfl (lv_at hl 0 rfl) ?_
      refine lv_dup hx hb dX4_advance_168 rfl ?_
      refine nb_get (ci := 4) hx hb hts iX4_advance_X4 hown hE hP 6 nbo_6 rfl 3 (by decide) qX4_advance_22 rfl rfl dX4_advance_169 ?_
      refine lv_iconst (v := 1) hx hb dX4_advance_172 (by decide) ?_
      refine lv_iadd hx hb dX4_advance_173 ?_
      refine lv_topi (fun v11 ev11 => ?_)
      replace hf := nLet_e hf ev11
      refine nb_put (ci := 4) hx hb hts iX4_advance_X4 tyX4 tyX4_ok nmX4 hown hE hP hS 6 nbo_6 rfl 3 (by decide) qX4_advance_22 rfl rfl rfl rfl (Nat.le_of_ble_eq_true rfl) dX4_advance_174 (nbp_6_3 _) (fun σ12 eσ12 H locs hP hS => ?_)
      replace hf := nLet_e hf eσ12
      refine lv_goto (tgt := 119) hx hb dX4_advance_177 (by decide) ?_
      exact K119 σ12 H locs ls (lv_sub hl [0] rfl) hP hS hf
def b_X4_advance_84 (N : Nat) (k119 : nS → Option (Int32 × nS)) (σ : nS) : Option (Int32 × nS) := nLet ((σ.1 6 3) - (σ.1 6 5) : Int32) (fun v1 => (if v1 ≤ 0 then nLet (wr σ 6 6 0) (fun σ2 => k119 σ2) else (if (8 : Int32) < v1 then nLet (wr σ 6 4 4) (fun σ3 => some (0, σ3)) else nLet (wr σ 6 4 1) (fun σ4 => some (0, σ4)))))
set_option maxHeartbeats 4000000 in
set_option maxRecDepth 100000 in
theorem kb_X4_advance_84 {p : Program} {l : Launch} {e : Env} {s : State} {m : MethodId} {args : Array Value} {below : List Frame} {meth : Method} {c : Code} {D : va_G} {A : Nat → Prop} {cy : Nat → ClassId} {a kt vt : Nat → Nat} {N : Nat}   (C0 : nCx p s m args meth c cX4_advance 3 none RX4 wsX4_advance) (hE : nEn D A cy (NBw cy a) kt vt s) {z : Int32 × nS} {k119 : nS → Option (Int32 × nS)} (K119 : ∀ (σ : nS) (H : Heap) (locs : List Loc) (ls : Array Slot), lv_has ls 3 [(0, .ref (a 6))] → va_P D vwCl ((NBw cy a) σ) H → va_S A s.heap H locs → k119 σ = some z → W p l e ({ frames := 1, cells := 0, slots := 0, locals := 21 } : Room) s m args below meth c H locs 0 0 (nQv below D A (NBw cy a) args s z) (F0 m 119 ls [])) : ∀ (σ : nS) (H : Heap) (locs : List Loc) (ls : Array Slot), lv_has ls 3 [(0, .ref (a 6))] → va_P D vwCl ((NBw cy a) σ) H → va_S A s.heap H locs → b_X4_advance_84 N k119 σ = some z → W p l e ({ frames := 1, cells := 0, slots := 0, locals := 21 } : Room) s m args below meth c H locs 0 0 (nQv below D A (NBw cy a) args s z) (F0 m 84 ls []) := by
  obtain ⟨hx, hb, hr, hml, hown, hts, hlocks⟩ := C0
  intro σ  H locs ls hl hP hS hf
  unfold b_X4_advance_84 at hf
  refine lv_aload_n hx hb dX4_advance_84 rfl (lv_at hl 0 rfl) ?_
  refine nb_get (ci := 4) hx hb hts iX4_advance_X4 hown hE hP 6 nbo_6 rfl 3 (by decide) qX4_advance_22 rfl rfl dX4_advance_85 ?_
  refine lv_aload_n hx hb dX4_advance_88 rfl (lv_at hl 0 rfl) ?_
  refine nb_get (ci := 4) hx hb hts iX4_advance_X4 hown hE hP 6 nbo_6 rfl 5 (by decide) qX4_advance_28 rfl rfl dX4_advance_89 ?_
  refine lv_isub hx hb dX4_advance_92 ?_
  refine lv_topi (fun v1 ev1 => ?_)
  replace hf := nLet_e hf ev1
  refine lv_istore_n (lv' := [(1, .int v1), (0, .ref (a 6))]) hx hb dX4_advance_93 rfl hl (by decide) rfl (fun ls hl => ?_)
  refine lv_iload_n hx hb dX4_advance_94 rfl (lv_at hl 0 rfl) ?_
  refine lv_if_le (tgt := 114) hx hb dX4_advance_95 (by decide) (fun hc => ?_) (fun hc => ?_)
  · replace hf := nIf_t hc hf
    refine lv_aload_n hx hb dX4_advance_114 rfl (lv_at hl 1 rfl) ?_
    refine lv_iconst (v := 0) hx hb dX4_advance_115 (by decide) ?_
    refine nb_put (ci := 4) hx hb hts iX4_advance_X4 tyX4 tyX4_ok nmX4 hown hE hP hS 6 nbo_6 rfl 6 (by decide) qX4_advance_31 rfl rfl rfl rfl (Nat.le_of_ble_eq_true rfl) dX4_advance_116 (nbp_6_6 _) (fun σ2 eσ2 H locs hP hS => ?_)
    replace hf := nLet_e hf eσ2
    exact K119 σ2 H locs ls (lv_sub hl [1] rfl) hP hS hf
  · replace hf := nIf_f hc hf
    refine lv_aload_n hx hb dX4_advance_98 rfl (lv_at hl 1 rfl) ?_
    refine lv_iload_n hx hb dX4_advance_99 rfl (lv_at hl 0 rfl) ?_
    refine lv_bipush (v := 8) hx hb dX4_advance_100 (by decide) ?_
    refine lv_icmp_gt (tgt := 109) hx hb dX4_advance_102 (by decide) (fun hc => ?_) (fun hc => ?_)
    · replace hf := nIf_t hc hf
      refine lv_iconst (v := 4) hx hb dX4_advance_109 (by decide) ?_
      refine nb_put (ci := 4) hx hb hts iX4_advance_X4 tyX4 tyX4_ok nmX4 hown hE hP hS 6 nbo_6 rfl 4 (by decide) qX4_advance_25 rfl rfl rfl rfl (Nat.le_of_ble_eq_true rfl) dX4_advance_110 (nbp_6_4 _) (fun σ3 eσ3 H locs hP hS => ?_)
      replace hf := nLet_e hf eσ3
      exact nb_vret hx hb hr hlocks hP hS (nSo hf) dX4_advance_113
    · replace hf := nIf_f hc hf
      refine lv_iconst (v := 1) hx hb dX4_advance_105 (by decide) ?_
      refine lv_goto (tgt := 110) hx hb dX4_advance_106 (by decide) ?_
      refine nb_put (ci := 4) hx hb hts iX4_advance_X4 tyX4 tyX4_ok nmX4 hown hE hP hS 6 nbo_6 rfl 4 (by decide) qX4_advance_25 rfl rfl rfl rfl (Nat.le_of_ble_eq_true rfl) dX4_advance_110 (nbp_6_4 _) (fun σ4 eσ4 H locs hP hS => ?_)
      replace hf := nLet_e hf eσ4
      exact nb_vret hx hb hr hlocks hP hS (nSo hf) dX4_advance_113
def b_X4_advance_46 (N : Nat) (k46 : nS → Option (Int32 × nS)) (k84 : nS → Option (Int32 × nS)) (σ : nS) : Option (Int32 × nS) := (if (σ.1 6 2) ≤ (σ.1 6 3) then k84 σ else nBd (f_X4_byteAt N (σ.1 6 3) σ) (fun r1 σ2 => nBd (f_X4_isLetter N r1 σ2) (fun r3 σ4 => (if r3 = 0 then k84 σ4 else nLet ((σ4.1 6 3) + (1 : Int32) : Int32) (fun v5 => nLet (wr σ4 6 3 v5) (fun σ6 => k46 σ6))))))
set_option maxHeartbeats 4000000 in
set_option maxRecDepth 100000 in
theorem kb_X4_advance_46 {p : Program} {l : Launch} {e : Env} {s : State} {m : MethodId} {args : Array Value} {below : List Frame} {meth : Method} {c : Code} {D : va_G} {A : Nat → Prop} {cy : Nat → ClassId} {a kt vt : Nat → Nat} {N : Nat}   (C0 : nCx p s m args meth c cX4_advance 3 none RX4 wsX4_advance) (hE : nEn D A cy (NBw cy a) kt vt s) {z : Int32 × nS} {k46 : nS → Option (Int32 × nS)} (K46 : ∀ (σ : nS) (H : Heap) (locs : List Loc) (ls : Array Slot), lv_has ls 3 [(0, .ref (a 6))] → va_P D vwCl ((NBw cy a) σ) H → va_S A s.heap H locs → k46 σ = some z → W p l e ({ frames := 1, cells := 0, slots := 0, locals := 21 } : Room) s m args below meth c H locs 0 0 (nQv below D A (NBw cy a) args s z) (F0 m 46 ls [])) {k84 : nS → Option (Int32 × nS)} (K84 : ∀ (σ : nS) (H : Heap) (locs : List Loc) (ls : Array Slot), lv_has ls 3 [(0, .ref (a 6))] → va_P D vwCl ((NBw cy a) σ) H → va_S A s.heap H locs → k84 σ = some z → W p l e ({ frames := 1, cells := 0, slots := 0, locals := 21 } : Room) s m args below meth c H locs 0 0 (nQv below D A (NBw cy a) args s z) (F0 m 84 ls [])) : ∀ (σ : nS) (H : Heap) (locs : List Loc) (ls : Array Slot), lv_has ls 3 [(0, .ref (a 6))] → va_P D vwCl ((NBw cy a) σ) H → va_S A s.heap H locs → b_X4_advance_46 N k46 k84 σ = some z → W p l e ({ frames := 1, cells := 0, slots := 0, locals := 21 } : Room) s m args below meth c H locs 0 0 (nQv below D A (NBw cy a) args s z) (F0 m 46 ls []) := by
  obtain ⟨hx, hb, hr, hml, hown, hts, hlocks⟩ := C0
  intro σ  H locs ls hl hP hS hf
  unfold b_X4_advance_46 at hf
  refine lv_aload_n hx hb dX4_advance_46 rfl (lv_at hl 0 rfl) ?_
  refine nb_get (ci := 4) hx hb hts iX4_advance_X4 hown hE hP 6 nbo_6 rfl 3 (by decide) qX4_advance_22 rfl rfl dX4_advance_47 ?_
  refine lv_aload_n hx hb dX4_advance_50 rfl (lv_at hl 0 rfl) ?_
  refine nb_get (ci := 4) hx hb hts iX4_advance_X4 hown hE hP 6 nbo_6 rfl 2 (by decide) qX4_advance_19 rfl rfl dX4_advance_51 ?_
  refine lv_icmp_ge (tgt := 84) hx hb dX4_advance_54 (by decide) (fun hc => ?_) (fun hc => ?_)
  · replace hf := nIf_t hc hf
    exact K84 σ H locs ls (lv_sub hl [0] rfl) hP hS hf
  · replace hf := nIf_f hc hf
    refine lv_aload_n hx hb dX4_advance_57 rfl (lv_at hl 0 rfl) ?_
    refine lv_aload_n hx hb dX4_advance_58 rfl (lv_at hl 0 rfl) ?_
    refine nb_get (ci := 4) hx hb hts iX4_advance_X4 hown hE hP 6 nbo_6 rfl 3 (by decide) qX4_advance_22 rfl rfl dX4_advance_59 ?_
    obtain ⟨r1, σ2, hc2, hf⟩ := nBd_e hf
    refine nb_callVi (As := [.int (σ.1 6 3)]) (rest := []) ⟨hx, hb, hml, hown, hts⟩ (c_X4_byteAt (D := D) (A := A) (cy := cy) (a := a) (kt := kt) (vt := vt) (l := l)  hc2) (cwV 1 hts gX4_advance_X4_byteAt rfl rfl rfl (by decide +kernel) ⟨Nat.le_of_ble_eq_true rfl, Nat.le_of_ble_eq_true rfl⟩) hE hP hS nbo_6 rfl rfl hl.1 rfl (Nat.le_of_ble_eq_true rfl) dX4_advance_62 (fun H locs hP hS => ?_)
    obtain ⟨r3, σ4, hc4, hf⟩ := nBd_e hf
    refine nb_callSi (As := [.int r1]) (rest := []) ⟨hx, hb, hml, hown, hts⟩ (c_X4_isLetter (D := D) (A := A) (cy := cy) (a := a) (kt := kt) (vt := vt) (l := l)  hc4) (va_cwS 1 hts gX4_advance_X4_isLetter rfl rfl rfl (by decide +kernel) ⟨Nat.le_of_ble_eq_true rfl, Nat.le_of_ble_eq_true rfl⟩) hE hP hS rfl hl.1 rfl (Nat.le_of_ble_eq_true rfl) dX4_advance_65 (fun H locs hP hS => ?_)
    refine lv_if_eq (tgt := 84) hx hb dX4_advance_68 (by decide) (fun hc => ?_) (fun hc => ?_)
    · replace hf := nIf_t hc hf
      exact K84 σ4 H locs ls (lv_sub hl [0] rfl) hP hS hf
    · replace hf := nIf_f hc hf
      refine lv_aload_n hx hb dX4_advance_71 rfl (lv_at hl 0 rfl) ?_
      refine lv_dup hx hb dX4_advance_72 rfl ?_
      refine nb_get (ci := 4) hx hb hts iX4_advance_X4 hown hE hP 6 nbo_6 rfl 3 (by decide) qX4_advance_22 rfl rfl dX4_advance_73 ?_
      refine lv_iconst (v := 1) hx hb dX4_advance_76 (by decide) ?_
      refine lv_iadd hx hb dX4_advance_77 ?_
      refine lv_topi (fun v5 ev5 => ?_)
      replace hf := nLet_e hf ev5
      refine nb_put (ci := 4) hx hb hts iX4_advance_X4 tyX4 tyX4_ok nmX4 hown hE hP hS 6 nbo_6 rfl 3 (by decide) qX4_advance_22 rfl rfl rfl rfl (Nat.le_of_ble_eq_true rfl) dX4_advance_78 (nbp_6_3 _) (fun σ6 eσ6 H locs hP hS => ?_)
      replace hf := nLet_e hf eσ6
      refine lv_goto (tgt := 46) hx hb dX4_advance_81 (by decide) ?_
      exact K46 σ6 H locs ls (lv_sub hl [0] rfl) hP hS hf
def b_X4_advance_38 (N : Nat) (k46 : nS → Option (Int32 × nS)) (σ : nS) : Option (Int32 × nS) := nLet (wr σ 6 5 (σ.1 6 3)) (fun σ1 => k46 σ1)
set_option maxHeartbeats 4000000 in
set_option maxRecDepth 100000 in
theorem kb_X4_advance_38 {p : Program} {l : Launch} {e : Env} {s : State} {m : MethodId} {args : Array Value} {below : List Frame} {meth : Method} {c : Code} {D : va_G} {A : Nat → Prop} {cy : Nat → ClassId} {a kt vt : Nat → Nat} {N : Nat}   (C0 : nCx p s m args meth c cX4_advance 3 none RX4 wsX4_advance) (hE : nEn D A cy (NBw cy a) kt vt s) {z : Int32 × nS} {k46 : nS → Option (Int32 × nS)} (K46 : ∀ (σ : nS) (H : Heap) (locs : List Loc) (ls : Array Slot), lv_has ls 3 [(0, .ref (a 6))] → va_P D vwCl ((NBw cy a) σ) H → va_S A s.heap H locs → k46 σ = some z → W p l e ({ frames := 1, cells := 0, slots := 0, locals := 21 } : Room) s m args below meth c H locs 0 0 (nQv below D A (NBw cy a) args s z) (F0 m 46 ls [])) : ∀ (σ : nS) (H : Heap) (locs : List Loc) (ls : Array Slot), lv_has ls 3 [(0, .ref (a 6))] → va_P D vwCl ((NBw cy a) σ) H → va_S A s.heap H locs → b_X4_advance_38 N k46 σ = some z → W p l e ({ frames := 1, cells := 0, slots := 0, locals := 21 } : Room) s m args below meth c H locs 0 0 (nQv below D A (NBw cy a) args s z) (F0 m 38 ls []) := by
  obtain ⟨hx, hb, hr, hml, hown, hts, hlocks⟩ := C0
  intro σ  H locs ls hl hP hS hf
  unfold b_X4_advance_38 at hf
  refine lv_aload_n hx hb dX4_advance_38 rfl (lv_at hl 0 rfl) ?_
  refine lv_aload_n hx hb dX4_advance_39 rfl (lv_at hl 0 rfl) ?_
  refine nb_get (ci := 4) hx hb hts iX4_advance_X4 hown hE hP 6 nbo_6 rfl 3 (by decide) qX4_advance_22 rfl rfl dX4_advance_40 ?_
  refine nb_put (ci := 4) hx hb hts iX4_advance_X4 tyX4 tyX4_ok nmX4 hown hE hP hS 6 nbo_6 rfl 5 (by decide) qX4_advance_28 rfl rfl rfl rfl (Nat.le_of_ble_eq_true rfl) dX4_advance_43 (nbp_6_5 _) (fun σ1 eσ1 H locs hP hS => ?_)
  replace hf := nLet_e hf eσ1
  exact K46 σ1 H locs ls (lv_sub hl [0] rfl) hP hS hf
def b_X4_advance_0 (N : Nat) (k0 : nS → Option (Int32 × nS)) (k38 : nS → Option (Int32 × nS)) (σ : nS) : Option (Int32 × nS) := (if (σ.1 6 2) ≤ (σ.1 6 3) then k38 σ else nBd (f_X4_byteAt N (σ.1 6 3) σ) (fun r1 σ2 => nBd (f_X4_isBlank N r1 σ2) (fun r3 σ4 => (if r3 = 0 then k38 σ4 else nLet ((σ4.1 6 3) + (1 : Int32) : Int32) (fun v5 => nLet (wr σ4 6 3 v5) (fun σ6 => k0 σ6))))))
set_option maxHeartbeats 4000000 in
set_option maxRecDepth 100000 in
theorem kb_X4_advance_0 {p : Program} {l : Launch} {e : Env} {s : State} {m : MethodId} {args : Array Value} {below : List Frame} {meth : Method} {c : Code} {D : va_G} {A : Nat → Prop} {cy : Nat → ClassId} {a kt vt : Nat → Nat} {N : Nat}   (C0 : nCx p s m args meth c cX4_advance 3 none RX4 wsX4_advance) (hE : nEn D A cy (NBw cy a) kt vt s) {z : Int32 × nS} {k0 : nS → Option (Int32 × nS)} (K0 : ∀ (σ : nS) (H : Heap) (locs : List Loc) (ls : Array Slot), lv_has ls 3 [(0, .ref (a 6))] → va_P D vwCl ((NBw cy a) σ) H → va_S A s.heap H locs → k0 σ = some z → W p l e ({ frames := 1, cells := 0, slots := 0, locals := 21 } : Room) s m args below meth c H locs 0 0 (nQv below D A (NBw cy a) args s z) (F0 m 0 ls [])) {k38 : nS → Option (Int32 × nS)} (K38 : ∀ (σ : nS) (H : Heap) (locs : List Loc) (ls : Array Slot), lv_has ls 3 [(0, .ref (a 6))] → va_P D vwCl ((NBw cy a) σ) H → va_S A s.heap H locs → k38 σ = some z → W p l e ({ frames := 1, cells := 0, slots := 0, locals := 21 } : Room) s m args below meth c H locs 0 0 (nQv below D A (NBw cy a) args s z) (F0 m 38 ls [])) : ∀ (σ : nS) (H : Heap) (locs : List Loc) (ls : Array Slot), lv_has ls 3 [(0, .ref (a 6))] → va_P D vwCl ((NBw cy a) σ) H → va_S A s.heap H locs → b_X4_advance_0 N k0 k38 σ = some z → W p l e ({ frames := 1, cells := 0, slots := 0, locals := 21 } : Room) s m args below meth c H locs 0 0 (nQv below D A (NBw cy a) args s z) (F0 m 0 ls []) := by
  obtain ⟨hx, hb, hr, hml, hown, hts, hlocks⟩ := C0
  intro σ  H locs ls hl hP hS hf
  unfold b_X4_advance_0 at hf
  refine lv_aload_n hx hb dX4_advance_0 rfl (lv_at hl 0 rfl) ?_
  refine nb_get (ci := 4) hx hb hts iX4_advance_X4 hown hE hP 6 nbo_6 rfl 3 (by decide) qX4_advance_22 rfl rfl dX4_advance_1 ?_
  refine lv_aload_n hx hb dX4_advance_4 rfl (lv_at hl 0 rfl) ?_
  refine nb_get (ci := 4) hx hb hts iX4_advance_X4 hown hE hP 6 nbo_6 rfl 2 (by decide) qX4_advance_19 rfl rfl dX4_advance_5 ?_
  refine lv_icmp_ge (tgt := 38) hx hb dX4_advance_8 (by decide) (fun hc => ?_) (fun hc => ?_)
  · replace hf := nIf_t hc hf
    exact K38 σ H locs ls (lv_sub hl [0] rfl) hP hS hf
  · replace hf := nIf_f hc hf
    refine lv_aload_n hx hb dX4_advance_11 rfl (lv_at hl 0 rfl) ?_
    refine lv_aload_n hx hb dX4_advance_12 rfl (lv_at hl 0 rfl) ?_
    refine nb_get (ci := 4) hx hb hts iX4_advance_X4 hown hE hP 6 nbo_6 rfl 3 (by decide) qX4_advance_22 rfl rfl dX4_advance_13 ?_
    obtain ⟨r1, σ2, hc2, hf⟩ := nBd_e hf
    refine nb_callVi (As := [.int (σ.1 6 3)]) (rest := []) ⟨hx, hb, hml, hown, hts⟩ (c_X4_byteAt (D := D) (A := A) (cy := cy) (a := a) (kt := kt) (vt := vt) (l := l)  hc2) (cwV 1 hts gX4_advance_X4_byteAt rfl rfl rfl (by decide +kernel) ⟨Nat.le_of_ble_eq_true rfl, Nat.le_of_ble_eq_true rfl⟩) hE hP hS nbo_6 rfl rfl hl.1 rfl (Nat.le_of_ble_eq_true rfl) dX4_advance_16 (fun H locs hP hS => ?_)
    obtain ⟨r3, σ4, hc4, hf⟩ := nBd_e hf
    refine nb_callSi (As := [.int r1]) (rest := []) ⟨hx, hb, hml, hown, hts⟩ (c_X4_isBlank (D := D) (A := A) (cy := cy) (a := a) (kt := kt) (vt := vt) (l := l)  hc4) (va_cwS 1 hts gX4_advance_X4_isBlank rfl rfl rfl (by decide +kernel) ⟨Nat.le_of_ble_eq_true rfl, Nat.le_of_ble_eq_true rfl⟩) hE hP hS rfl hl.1 rfl (Nat.le_of_ble_eq_true rfl) dX4_advance_19 (fun H locs hP hS => ?_)
    refine lv_if_eq (tgt := 38) hx hb dX4_advance_22 (by decide) (fun hc => ?_) (fun hc => ?_)
    · replace hf := nIf_t hc hf
      exact K38 σ4 H locs ls (lv_sub hl [0] rfl) hP hS hf
    · replace hf := nIf_f hc hf
      refine lv_aload_n hx hb dX4_advance_25 rfl (lv_at hl 0 rfl) ?_
      refine lv_dup hx hb dX4_advance_26 rfl ?_
      refine nb_get (ci := 4) hx hb hts iX4_advance_X4 hown hE hP 6 nbo_6 rfl 3 (by decide) qX4_advance_22 rfl rfl dX4_advance_27 ?_
      refine lv_iconst (v := 1) hx hb dX4_advance_30 (by decide) ?_
      refine lv_iadd hx hb dX4_advance_31 ?_
      refine lv_topi (fun v5 ev5 => ?_)
      replace hf := nLet_e hf ev5
      refine nb_put (ci := 4) hx hb hts iX4_advance_X4 tyX4 tyX4_ok nmX4 hown hE hP hS 6 nbo_6 rfl 3 (by decide) qX4_advance_22 rfl rfl rfl rfl (Nat.le_of_ble_eq_true rfl) dX4_advance_32 (nbp_6_3 _) (fun σ6 eσ6 H locs hP hS => ?_)
      replace hf := nLet_e hf eσ6
      refine lv_goto (tgt := 0) hx hb dX4_advance_35 (by decide) ?_
      exact K0 σ6 H locs ls (lv_sub hl [0] rfl) hP hS hf
def l_X4_advance_180 (N : Nat) : nS → Option (Int32 × nS) := b_X4_advance_180 N
theorem kl_X4_advance_180 {p : Program} {l : Launch} {e : Env} {s : State} {m : MethodId} {args : Array Value} {below : List Frame} {meth : Method} {c : Code} {D : va_G} {A : Nat → Prop} {cy : Nat → ClassId} {a kt vt : Nat → Nat} {N : Nat}   (C0 : nCx p s m args meth c cX4_advance 3 none RX4 wsX4_advance) (hE : nEn D A cy (NBw cy a) kt vt s) {z : Int32 × nS} : ∀ (σ : nS) (H : Heap) (locs : List Loc) (ls : Array Slot), lv_has ls 3 [(0, .ref (a 6))] → va_P D vwCl ((NBw cy a) σ) H → va_S A s.heap H locs → l_X4_advance_180 N σ = some z → W p l e ({ frames := 1, cells := 0, slots := 0, locals := 21 } : Room) s m args below meth c H locs 0 0 (nQv below D A (NBw cy a) args s z) (F0 m 180 ls []) := by
  exact kb_X4_advance_180 (N := N)  C0 hE
def l_X4_advance_119 (N : Nat) : nS → Option (Int32 × nS) := nLp (fun _ => none) (fun again => b_X4_advance_119 N again (l_X4_advance_180 N)) N
theorem kl_X4_advance_119 {p : Program} {l : Launch} {e : Env} {s : State} {m : MethodId} {args : Array Value} {below : List Frame} {meth : Method} {c : Code} {D : va_G} {A : Nat → Prop} {cy : Nat → ClassId} {a kt vt : Nat → Nat} {N : Nat}   (C0 : nCx p s m args meth c cX4_advance 3 none RX4 wsX4_advance) (hE : nEn D A cy (NBw cy a) kt vt s) {z : Int32 × nS} : ∀ (σ : nS) (H : Heap) (locs : List Loc) (ls : Array Slot), lv_has ls 3 [(0, .ref (a 6))] → va_P D vwCl ((NBw cy a) σ) H → va_S A s.heap H locs → l_X4_advance_119 N σ = some z → W p l e ({ frames := 1, cells := 0, slots := 0, locals := 21 } : Room) s m args below meth c H locs 0 0 (nQv below D A (NBw cy a) args s z) (F0 m 119 ls []) := by
  have main : ∀ (fu : Nat), ∀ (σ : nS) (H : Heap) (locs : List Loc) (ls : Array Slot), lv_has ls 3 [(0, .ref (a 6))] → va_P D vwCl ((NBw cy a) σ) H → va_S A s.heap H locs → nLp (fun _ => none) (fun again => b_X4_advance_119 N again (l_X4_advance_180 N)) fu σ = some z → W p l e ({ frames := 1, cells := 0, slots := 0, locals := 21 } : Room) s m args below meth c H locs 0 0 (nQv below D A (NBw cy a) args s z) (F0 m 119 ls []) := by
    intro fu
    induction fu with
    | zero => intro σ  H locs ls hl hP hS hf; cases hf
    | succ fu ih => exact kb_X4_advance_119 (N := N)  C0 hE ih (kl_X4_advance_180 (N := N)  C0 hE)
  exact main N
def l_X4_advance_84 (N : Nat) : nS → Option (Int32 × nS) := b_X4_advance_84 N (l_X4_advance_119 N)
theorem kl_X4_advance_84 {p : Program} {l : Launch} {e : Env} {s : State} {m : MethodId} {args : Array Value} {below : List Frame} {meth : Method} {c : Code} {D : va_G} {A : Nat → Prop} {cy : Nat → ClassId} {a kt vt : Nat → Nat} {N : Nat}   (C0 : nCx p s m args meth c cX4_advance 3 none RX4 wsX4_advance) (hE : nEn D A cy (NBw cy a) kt vt s) {z : Int32 × nS} : ∀ (σ : nS) (H : Heap) (locs : List Loc) (ls : Array Slot), lv_has ls 3 [(0, .ref (a 6))] → va_P D vwCl ((NBw cy a) σ) H → va_S A s.heap H locs → l_X4_advance_84 N σ = some z → W p l e ({ frames := 1, cells := 0, slots := 0, locals := 21 } : Room) s m args below meth c H locs 0 0 (nQv below D A (NBw cy a) args s z) (F0 m 84 ls []) := by
  exact kb_X4_advance_84 (N := N)  C0 hE (kl_X4_advance_119 (N := N)  C0 hE)
def l_X4_advance_46 (N : Nat) : nS → Option (Int32 × nS) := nLp (fun _ => none) (fun again => b_X4_advance_46 N again (l_X4_advance_84 N)) N
theorem kl_X4_advance_46 {p : Program} {l : Launch} {e : Env} {s : State} {m : MethodId} {args : Array Value} {below : List Frame} {meth : Method} {c : Code} {D : va_G} {A : Nat → Prop} {cy : Nat → ClassId} {a kt vt : Nat → Nat} {N : Nat}   (C0 : nCx p s m args meth c cX4_advance 3 none RX4 wsX4_advance) (hE : nEn D A cy (NBw cy a) kt vt s) {z : Int32 × nS} : ∀ (σ : nS) (H : Heap) (locs : List Loc) (ls : Array Slot), lv_has ls 3 [(0, .ref (a 6))] → va_P D vwCl ((NBw cy a) σ) H → va_S A s.heap H locs → l_X4_advance_46 N σ = some z → W p l e ({ frames := 1, cells := 0, slots := 0, locals := 21 } : Room) s m args below meth c H locs 0 0 (nQv below D A (NBw cy a) args s z) (F0 m 46 ls []) := by
  have main : ∀ (fu : Nat), ∀ (σ : nS) (H : Heap) (locs : List Loc) (ls : Array Slot), lv_has ls 3 [(0, .ref (a 6))] → va_P D vwCl ((NBw cy a) σ) H → va_S A s.heap H locs → nLp (fun _ => none) (fun again => b_X4_advance_46 N again (l_X4_advance_84 N)) fu σ = some z → W p l e ({ frames := 1, cells := 0, slots := 0, locals := 21 } : Room) s m args below meth c H locs 0 0 (nQv below D A (NBw cy a) args s z) (F0 m 46 ls []) := by
    intro fu
    induction fu with
    | zero => intro σ  H locs ls hl hP hS hf; cases hf
    | succ fu ih => exact kb_X4_advance_46 (N := N)  C0 hE ih (kl_X4_advance_84 (N := N)  C0 hE)
  exact main N
def l_X4_advance_38 (N : Nat) : nS → Option (Int32 × nS) := b_X4_advance_38 N (l_X4_advance_46 N)
theorem kl_X4_advance_38 {p : Program} {l : Launch} {e : Env} {s : State} {m : MethodId} {args : Array Value} {below : List Frame} {meth : Method} {c : Code} {D : va_G} {A : Nat → Prop} {cy : Nat → ClassId} {a kt vt : Nat → Nat} {N : Nat}   (C0 : nCx p s m args meth c cX4_advance 3 none RX4 wsX4_advance) (hE : nEn D A cy (NBw cy a) kt vt s) {z : Int32 × nS} : ∀ (σ : nS) (H : Heap) (locs : List Loc) (ls : Array Slot), lv_has ls 3 [(0, .ref (a 6))] → va_P D vwCl ((NBw cy a) σ) H → va_S A s.heap H locs → l_X4_advance_38 N σ = some z → W p l e ({ frames := 1, cells := 0, slots := 0, locals := 21 } : Room) s m args below meth c H locs 0 0 (nQv below D A (NBw cy a) args s z) (F0 m 38 ls []) := by
  exact kb_X4_advance_38 (N := N)  C0 hE (kl_X4_advance_46 (N := N)  C0 hE)
def l_X4_advance_0 (N : Nat) : nS → Option (Int32 × nS) := nLp (fun _ => none) (fun again => b_X4_advance_0 N again (l_X4_advance_38 N)) N
theorem kl_X4_advance_0 {p : Program} {l : Launch} {e : Env} {s : State} {m : MethodId} {args : Array Value} {below : List Frame} {meth : Method} {c : Code} {D : va_G} {A : Nat → Prop} {cy : Nat → ClassId} {a kt vt : Nat → Nat} {N : Nat}   (C0 : nCx p s m args meth c cX4_advance 3 none RX4 wsX4_advance) (hE : nEn D A cy (NBw cy a) kt vt s) {z : Int32 × nS} : ∀ (σ : nS) (H : Heap) (locs : List Loc) (ls : Array Slot), lv_has ls 3 [(0, .ref (a 6))] → va_P D vwCl ((NBw cy a) σ) H → va_S A s.heap H locs → l_X4_advance_0 N σ = some z → W p l e ({ frames := 1, cells := 0, slots := 0, locals := 21 } : Room) s m args below meth c H locs 0 0 (nQv below D A (NBw cy a) args s z) (F0 m 0 ls []) := by
  have main : ∀ (fu : Nat), ∀ (σ : nS) (H : Heap) (locs : List Loc) (ls : Array Slot), lv_has ls 3 [(0, .ref (a 6))] → va_P D vwCl ((NBw cy a) σ) H → va_S A s.heap H locs → nLp (fun _ => none) (fun again => b_X4_advance_0 N again (l_X4_advance_38 N)) fu σ = some z → W p l e ({ frames := 1, cells := 0, slots := 0, locals := 21 } : Room) s m args below meth c H locs 0 0 (nQv below D A (NBw cy a) args s z) (F0 m 0 ls []) := by
    intro fu
    induction fu with
    | zero => intro σ  H locs ls hl hP hS hf; cases hf
    | succ fu ih => exact kb_X4_advance_0 (N := N)  C0 hE ih (kl_X4_advance_38 (N := N)  C0 hE)
  exact main N
def f_X4_advance (N : Nat) (σ : nS) : Option (Int32 × nS) := l_X4_advance_0 N σ
set_option maxHeartbeats 4000000 in
set_option maxRecDepth 100000 in
theorem c_X4_advance {l : Launch} {D : va_G} {A : Nat → Prop} {cy : Nat → ClassId} {a kt vt : Nat → Nat} {N : Nat}   {σ : nS} {r : Int32} {σ' : nS} (hf : f_X4_advance N σ = some (r, σ')) : nMv l yX4_advance wsX4_advance ({ frames := 1, cells := 0, slots := 0, locals := 21 } : Room) D A cy (NBw cy a) kt vt [.ref (a 6)] σ σ' := by
  refine Met.ofW (cc := cX4_advance) (maxL := 3) (ret := none) (by decide) rfl ?_
  intro p e s m args below meth c s₁ B hml hv
  obtain ⟨rfl, hP, hE⟩ := hv
  have hl := lv_entry ([.ref (a 6)]) (n := 3) (Nat.le_of_ble_eq_true rfl)
  rw [lg_entry_eq]
  generalize (lg_sl ([.ref (a 6)]) ++ List.replicate (3 - (lg_sl ([.ref (a 6)])).length) Slot.unset).toArray = ls at hl ⊢
  have C0 : nCx p s m _ meth c cX4_advance 3 none RX4 wsX4_advance := ⟨B.exec, B.bytes, B.returns, hml, findClass_of_methodNamed B.named, atoms_spec (ws := wsX4_advance) B.pre, B.notSynchronized⟩
  exact kl_X4_advance_0 (N := N)  C0 hE (z := (r, σ')) σ  _ _ ls hl hP va_S.rf hf

/-! X4_fail -/
set_option maxRecDepth 20000 in
theorem iX4_fail_X4 : ∀ w ∈ u_ws RX4 TX4 14, w ∈ wsX4_fail := fun _ h => List.mem_cons_of_mem _ (List.mem_append_right _ h)
set_option maxRecDepth 20000 in
theorem qX4_fail_40 : Cond.fieldLink RX4 40 RX4 (TX4 9).2.1 (TX4 9).2.2.1 ∈ wsX4_fail := by decide +kernel
set_option maxRecDepth 20000 in
theorem qX4_fail_28 : Cond.fieldLink RX4 28 RX4 (TX4 5).2.1 (TX4 5).2.2.1 ∈ wsX4_fail := by decide +kernel
set_option maxRecDepth 20000 in
theorem qX4_fail_43 : Cond.fieldLink RX4 43 RX4 (TX4 10).2.1 (TX4 10).2.2.1 ∈ wsX4_fail := by decide +kernel
def b_X4_fail_0 (N : Nat) (σ : nS) (x1 : Int32) : Option (Int32 × nS) := nLet (wr σ 6 9 x1) (fun σ1 => nLet (wr σ1 6 10 (σ1.1 6 5)) (fun σ2 => some (0, σ2)))
set_option maxHeartbeats 4000000 in
set_option maxRecDepth 100000 in
theorem kb_X4_fail_0 {p : Program} {l : Launch} {e : Env} {s : State} {m : MethodId} {args : Array Value} {below : List Frame} {meth : Method} {c : Code} {D : va_G} {A : Nat → Prop} {cy : Nat → ClassId} {a kt vt : Nat → Nat} {N : Nat}   (C0 : nCx p s m args meth c cX4_fail 2 (some .boolean) RX4 wsX4_fail) (hE : nEn D A cy (NBw cy a) kt vt s) {z : Int32 × nS} : ∀ (σ : nS) (x1 : Int32) (H : Heap) (locs : List Loc) (ls : Array Slot), lv_has ls 2 [(0, .ref (a 6)), (1, .int x1)] → va_P D vwCl ((NBw cy a) σ) H → va_S A s.heap H locs → b_X4_fail_0 N σ x1 = some z → W p l e ({ frames := 0, cells := 0, slots := 0, locals := 0 } : Room) s m args below meth c H locs 0 0 (nQi below D A (NBw cy a) args s z) (F0 m 0 ls []) := by
  obtain ⟨hx, hb, hr, hml, hown, hts, hlocks⟩ := C0
  intro σ x1 H locs ls hl hP hS hf
  unfold b_X4_fail_0 at hf
  refine lv_aload_n hx hb dX4_fail_0 rfl (lv_at hl 0 rfl) ?_
  refine lv_iload_n hx hb dX4_fail_1 rfl (lv_at hl 1 rfl) ?_
  refine nb_put (ci := 4) hx hb hts iX4_fail_X4 tyX4 tyX4_ok nmX4 hown hE hP hS 6 nbo_6 rfl 9 (by decide) qX4_fail_40 rfl rfl rfl rfl (Nat.le_of_ble_eq_true rfl) dX4_fail_2 (nbp_6_9 _) (fun σ1 eσ1 H locs hP hS => ?_)
  replace hf := nLet_e hf eσ1
  refine lv_aload_n hx hb dX4_fail_5 rfl (lv_at hl 0 rfl) ?_
  refine lv_aload_n hx hb dX4_fail_6 rfl (lv_at hl 0 rfl) ?_
  refine nb_get (ci := 4) hx hb hts iX4_fail_X4 hown hE hP 6 nbo_6 rfl 5 (by decide) qX4_fail_28 rfl rfl dX4_fail_7 ?_
  refine nb_put (ci := 4) hx hb hts iX4_fail_X4 tyX4 tyX4_ok nmX4 hown hE hP hS 6 nbo_6 rfl 10 (by decide) qX4_fail_43 rfl rfl rfl rfl (Nat.le_of_ble_eq_true rfl) dX4_fail_10 (nbp_6_10 _) (fun σ2 eσ2 H locs hP hS => ?_)
  replace hf := nLet_e hf eσ2
  refine lv_iconst (v := 0) hx hb dX4_fail_13 (by decide) ?_
  exact nb_zret hx hb hr hlocks hP hS (nSo hf) rfl dX4_fail_14
def l_X4_fail_0 (N : Nat) : nS → Int32 → Option (Int32 × nS) := b_X4_fail_0 N
theorem kl_X4_fail_0 {p : Program} {l : Launch} {e : Env} {s : State} {m : MethodId} {args : Array Value} {below : List Frame} {meth : Method} {c : Code} {D : va_G} {A : Nat → Prop} {cy : Nat → ClassId} {a kt vt : Nat → Nat} {N : Nat}   (C0 : nCx p s m args meth c cX4_fail 2 (some .boolean) RX4 wsX4_fail) (hE : nEn D A cy (NBw cy a) kt vt s) {z : Int32 × nS} : ∀ (σ : nS) (x1 : Int32) (H : Heap) (locs : List Loc) (ls : Array Slot), lv_has ls 2 [(0, .ref (a 6)), (1, .int x1)] → va_P D vwCl ((NBw cy a) σ) H → va_S A s.heap H locs → l_X4_fail_0 N σ x1 = some z → W p l e ({ frames := 0, cells := 0, slots := 0, locals := 0 } : Room) s m args below meth c H locs 0 0 (nQi below D A (NBw cy a) args s z) (F0 m 0 ls []) := by
  exact kb_X4_fail_0 (N := N)  C0 hE
def f_X4_fail (N : Nat) (x1 : Int32) (σ : nS) : Option (Int32 × nS) := l_X4_fail_0 N σ x1
set_option maxHeartbeats 4000000 in
set_option maxRecDepth 100000 in
theorem c_X4_fail {l : Launch} {D : va_G} {A : Nat → Prop} {cy : Nat → ClassId} {a kt vt : Nat → Nat} {N : Nat}   {x1 : Int32} {σ : nS} {r : Int32} {σ' : nS} (hf : f_X4_fail N x1 σ = some (r, σ')) : nMi l yX4_fail wsX4_fail ({ frames := 0, cells := 0, slots := 0, locals := 0 } : Room) D A cy (NBw cy a) kt vt [.ref (a 6), .int x1] σ r σ' := by
  refine Met.ofW (cc := cX4_fail) (maxL := 2) (ret := (some .boolean)) (by decide) rfl ?_
  intro p e s m args below meth c s₁ B hml hv
  obtain ⟨rfl, hP, hE⟩ := hv
  have hl := lv_entry ([.ref (a 6), .int x1]) (n := 2) (Nat.le_of_ble_eq_true rfl)
  rw [lg_entry_eq]
  generalize (lg_sl ([.ref (a 6), .int x1]) ++ List.replicate (2 - (lg_sl ([.ref (a 6), .int x1])).length) Slot.unset).toArray = ls at hl ⊢
  have C0 : nCx p s m _ meth c cX4_fail 2 (some .boolean) RX4 wsX4_fail := ⟨B.exec, B.bytes, B.returns, hml, findClass_of_methodNamed B.named, atoms_spec (ws := wsX4_fail) B.pre, B.notSynchronized⟩
  exact kl_X4_fail_0 (N := N)  C0 hE (z := (r, σ')) σ x1 _ _ ls hl hP va_S.rf hf

/-! X4_isWord -/
set_option maxRecDepth 20000 in
theorem iX4_isWord_X4 : ∀ w ∈ u_ws RX4 TX4 14, w ∈ wsX4_isWord := fun _ h => List.mem_cons_of_mem _ (List.mem_append_right _ h)
set_option maxRecDepth 20000 in
theorem qX4_isWord_25 : Cond.fieldLink RX4 25 RX4 (TX4 4).2.1 (TX4 4).2.2.1 ∈ wsX4_isWord := by decide +kernel
set_option maxRecDepth 20000 in
theorem qX4_isWord_22 : Cond.fieldLink RX4 22 RX4 (TX4 3).2.1 (TX4 3).2.2.1 ∈ wsX4_isWord := by decide +kernel
set_option maxRecDepth 20000 in
theorem qX4_isWord_28 : Cond.fieldLink RX4 28 RX4 (TX4 5).2.1 (TX4 5).2.2.1 ∈ wsX4_isWord := by decide +kernel
def b_X4_isWord_28 (N : Nat) (j : Nat) (k28 : nS → Int32 → Option (Int32 × nS)) (σ : nS) (x2 : Int32) : Option (Int32 × nS) := nBd (f_J0_length_8abf5 N j σ) (fun r1 σ2 => (if r1 ≤ x2 then some (1, σ2) else nLet ((σ2.1 6 5) + x2 : Int32) (fun v3 => nBd (f_X4_byteAt N v3 σ2) (fun r4 σ5 => nBd (f_J0_charAt_5068e N j x2 σ5) (fun r6 σ7 => (if r4 = r6 then nLet (x2 + 1 : Int32) (fun v8 => k28 σ7 v8) else some (0, σ7)))))))
set_option maxHeartbeats 4000000 in
set_option maxRecDepth 100000 in
theorem kb_X4_isWord_28 {p : Program} {l : Launch} {e : Env} {s : State} {m : MethodId} {args : Array Value} {below : List Frame} {meth : Method} {c : Code} {D : va_G} {A : Nat → Prop} {cy : Nat → ClassId} {a kt vt : Nat → Nat} {N : Nat} {j : Nat} (hj : j < 12) (C0 : nCx p s m args meth c cX4_isWord 3 (some .boolean) RX4 wsX4_isWord) (hE : nEn D A cy (NBw cy a) kt vt s) {z : Int32 × nS} {k28 : nS → Int32 → Option (Int32 × nS)} (K28 : ∀ (σ : nS) (x2 : Int32) (H : Heap) (locs : List Loc) (ls : Array Slot), lv_has ls 3 [(0, .ref (a 6)), (1, .ref (kt j)), (2, .int x2)] → va_P D vwCl ((NBw cy a) σ) H → va_S A s.heap H locs → k28 σ x2 = some z → W p l e ({ frames := 4, cells := 0, slots := 0, locals := 85 } : Room) s m args below meth c H locs 0 0 (nQi below D A (NBw cy a) args s z) (F0 m 28 ls [])) : ∀ (σ : nS) (x2 : Int32) (H : Heap) (locs : List Loc) (ls : Array Slot), lv_has ls 3 [(0, .ref (a 6)), (1, .ref (kt j)), (2, .int x2)] → va_P D vwCl ((NBw cy a) σ) H → va_S A s.heap H locs → b_X4_isWord_28 N j k28 σ x2 = some z → W p l e ({ frames := 4, cells := 0, slots := 0, locals := 85 } : Room) s m args below meth c H locs 0 0 (nQi below D A (NBw cy a) args s z) (F0 m 28 ls []) := by
  obtain ⟨hx, hb, hr, hml, hown, hts, hlocks⟩ := C0
  intro σ x2 H locs ls hl hP hS hf
  unfold b_X4_isWord_28 at hf
  refine lv_iload_n hx hb dX4_isWord_28 rfl (lv_at hl 2 rfl) ?_
  refine lv_aload_n hx hb dX4_isWord_29 rfl (lv_at hl 1 rfl) ?_
  obtain ⟨r1, σ2, hc2, hf⟩ := nBd_e hf
  refine nb_callTi (As := []) (rest := [.int x2]) ⟨hx, hb, hml, hown, hts⟩ (c_J0_length_8abf5 (X := (NBw cy a)) (D := D) (A := A) (cy := cy) (kt := kt) (vt := vt) (l := l) hj hc2) (cwV 0 hts gX4_isWord_J0_length_8abf5 rfl rfl rfl (by decide +kernel) ⟨Nat.le_of_ble_eq_true rfl, Nat.le_of_ble_eq_true rfl⟩) hE hP hS hj rfl hl.1 rfl (Nat.le_of_ble_eq_true rfl) dX4_isWord_30 (fun H locs hP hS => ?_)
  refine lv_icmp_ge (tgt := 62) hx hb dX4_isWord_33 (by decide) (fun hc => ?_) (fun hc => ?_)
  · replace hf := nIf_t hc hf
    refine lv_iconst (v := 1) hx hb dX4_isWord_62 (by decide) ?_
    exact nb_zret hx hb hr hlocks hP hS (nSo hf) rfl dX4_isWord_63
  · replace hf := nIf_f hc hf
    refine lv_aload_n hx hb dX4_isWord_36 rfl (lv_at hl 0 rfl) ?_
    refine lv_aload_n hx hb dX4_isWord_37 rfl (lv_at hl 0 rfl) ?_
    refine nb_get (ci := 4) hx hb hts iX4_isWord_X4 hown hE hP 6 nbo_6 rfl 5 (by decide) qX4_isWord_28 rfl rfl dX4_isWord_38 ?_
    refine lv_iload_n hx hb dX4_isWord_41 rfl (lv_at hl 2 rfl) ?_
    refine lv_iadd hx hb dX4_isWord_42 ?_
    refine lv_topi (fun v3 ev3 => ?_)
    replace hf := nLet_e hf ev3
    obtain ⟨r4, σ5, hc5, hf⟩ := nBd_e hf
    refine nb_callVi (As := [.int v3]) (rest := []) ⟨hx, hb, hml, hown, hts⟩ (c_X4_byteAt (D := D) (A := A) (cy := cy) (a := a) (kt := kt) (vt := vt) (l := l)  hc5) (cwV 1 hts gX4_isWord_X4_byteAt rfl rfl rfl (by decide +kernel) ⟨Nat.le_of_ble_eq_true rfl, Nat.le_of_ble_eq_true rfl⟩) hE hP hS nbo_6 rfl rfl hl.1 rfl (Nat.le_of_ble_eq_true rfl) dX4_isWord_43 (fun H locs hP hS => ?_)
    refine lv_aload_n hx hb dX4_isWord_46 rfl (lv_at hl 1 rfl) ?_
    refine lv_iload_n hx hb dX4_isWord_47 rfl (lv_at hl 2 rfl) ?_
    obtain ⟨r6, σ7, hc7, hf⟩ := nBd_e hf
    refine nb_callTi (As := [.int x2]) (rest := [.int r4]) ⟨hx, hb, hml, hown, hts⟩ (c_J0_charAt_5068e (X := (NBw cy a)) (D := D) (A := A) (cy := cy) (kt := kt) (vt := vt) (l := l) hj hc7) (cwV 1 hts gX4_isWord_J0_charAt_5068e rfl rfl rfl (by decide +kernel) ⟨Nat.le_of_ble_eq_true rfl, Nat.le_of_ble_eq_true rfl⟩) hE hP hS hj rfl hl.1 rfl (Nat.le_of_ble_eq_true rfl) dX4_isWord_48 (fun H locs hP hS => ?_)
    refine lv_icmp_eq (tgt := 56) hx hb dX4_isWord_51 (by decide) (fun hc => ?_) (fun hc => ?_)
    · replace hf := nIf_t hc hf
      obtain ⟨v8, ev8⟩ : ∃ y : Int32, y = x2 + 1 := ⟨_, rfl⟩
      replace hf := nLet_e hf ev8
      refine lv_iinc (v := v8) (lv' := [(2, .int v8), (0, .ref (a 6)), (1, .ref (kt j))]) hx hb dX4_isWord_56 hl (k := 2) rfl (by rw [ev8]; rfl) (by decide) rfl (fun ls hl => ?_)
      refine lv_goto (tgt := 28) hx hb dX4_isWord_59 (by decide) ?_
      exact K28 σ7 v8 H locs ls (lv_sub hl [1, 2, 0] rfl) hP hS hf
    · replace hf := nIf_f hc hf
      refine lv_iconst (v := 0) hx hb dX4_isWord_54 (by decide) ?_
      exact nb_zret hx hb hr hlocks hP hS (nSo hf) rfl dX4_isWord_55
def b_X4_isWord_0 (N : Nat) (j : Nat) (k28 : nS → Int32 → Option (Int32 × nS)) (σ : nS) : Option (Int32 × nS) := (if (σ.1 6 4) = 1 then nLet ((σ.1 6 3) - (σ.1 6 5) : Int32) (fun v1 => nBd (f_J0_length_8abf5 N j σ) (fun r2 σ3 => (if v1 = r2 then k28 σ3 0 else some (0, σ3)))) else some (0, σ))
set_option maxHeartbeats 4000000 in
set_option maxRecDepth 100000 in
theorem kb_X4_isWord_0 {p : Program} {l : Launch} {e : Env} {s : State} {m : MethodId} {args : Array Value} {below : List Frame} {meth : Method} {c : Code} {D : va_G} {A : Nat → Prop} {cy : Nat → ClassId} {a kt vt : Nat → Nat} {N : Nat} {j : Nat} (hj : j < 12) (C0 : nCx p s m args meth c cX4_isWord 3 (some .boolean) RX4 wsX4_isWord) (hE : nEn D A cy (NBw cy a) kt vt s) {z : Int32 × nS} {k28 : nS → Int32 → Option (Int32 × nS)} (K28 : ∀ (σ : nS) (x2 : Int32) (H : Heap) (locs : List Loc) (ls : Array Slot), lv_has ls 3 [(0, .ref (a 6)), (1, .ref (kt j)), (2, .int x2)] → va_P D vwCl ((NBw cy a) σ) H → va_S A s.heap H locs → k28 σ x2 = some z → W p l e ({ frames := 4, cells := 0, slots := 0, locals := 85 } : Room) s m args below meth c H locs 0 0 (nQi below D A (NBw cy a) args s z) (F0 m 28 ls [])) : ∀ (σ : nS) (H : Heap) (locs : List Loc) (ls : Array Slot), lv_has ls 3 [(0, .ref (a 6)), (1, .ref (kt j))] → va_P D vwCl ((NBw cy a) σ) H → va_S A s.heap H locs → b_X4_isWord_0 N j k28 σ = some z → W p l e ({ frames := 4, cells := 0, slots := 0, locals := 85 } : Room) s m args below meth c H locs 0 0 (nQi below D A (NBw cy a) args s z) (F0 m 0 ls []) := by
  obtain ⟨hx, hb, hr, hml, hown, hts, hlocks⟩ := C0
  intro σ  H locs ls hl hP hS hf
  unfold b_X4_isWord_0 at hf
  refine lv_aload_n hx hb dX4_isWord_0 rfl (lv_at hl 0 rfl) ?_
  refine nb_get (ci := 4) hx hb hts iX4_isWord_X4 hown hE hP 6 nbo_6 rfl 4 (by decide) qX4_isWord_25 rfl rfl dX4_isWord_1 ?_
  refine lv_iconst (v := 1) hx hb dX4_isWord_4 (by decide) ?_
  refine lv_icmp_ne (tgt := 24) hx hb dX4_isWord_5 (by decide) (fun hc => ?_) (fun hc => ?_)
  · replace hf := nIf_f hc hf
    refine lv_iconst (v := 0) hx hb dX4_isWord_24 (by decide) ?_
    exact nb_zret hx hb hr hlocks hP hS (nSo hf) rfl dX4_isWord_25
  · replace hf := nIf_t hc hf
    refine lv_aload_n hx hb dX4_isWord_8 rfl (lv_at hl 0 rfl) ?_
    refine nb_get (ci := 4) hx hb hts iX4_isWord_X4 hown hE hP 6 nbo_6 rfl 3 (by decide) qX4_isWord_22 rfl rfl dX4_isWord_9 ?_
    refine lv_aload_n hx hb dX4_isWord_12 rfl (lv_at hl 0 rfl) ?_
    refine nb_get (ci := 4) hx hb hts iX4_isWord_X4 hown hE hP 6 nbo_6 rfl 5 (by decide) qX4_isWord_28 rfl rfl dX4_isWord_13 ?_
    refine lv_isub hx hb dX4_isWord_16 ?_
    refine lv_topi (fun v1 ev1 => ?_)
    replace hf := nLet_e hf ev1
    refine lv_aload_n hx hb dX4_isWord_17 rfl (lv_at hl 1 rfl) ?_
    obtain ⟨r2, σ3, hc3, hf⟩ := nBd_e hf
    refine nb_callTi (As := []) (rest := [.int v1]) ⟨hx, hb, hml, hown, hts⟩ (c_J0_length_8abf5 (X := (NBw cy a)) (D := D) (A := A) (cy := cy) (kt := kt) (vt := vt) (l := l) hj hc3) (cwV 0 hts gX4_isWord_J0_length_8abf5 rfl rfl rfl (by decide +kernel) ⟨Nat.le_of_ble_eq_true rfl, Nat.le_of_ble_eq_true rfl⟩) hE hP hS hj rfl hl.1 rfl (Nat.le_of_ble_eq_true rfl) dX4_isWord_18 (fun H locs hP hS => ?_)
    refine lv_icmp_eq (tgt := 26) hx hb dX4_isWord_21 (by decide) (fun hc => ?_) (fun hc => ?_)
    · replace hf := nIf_t hc hf
      refine lv_iconst (v := 0) hx hb dX4_isWord_26 (by decide) ?_
      refine lv_istore_n (lv' := [(2, .int 0), (0, .ref (a 6)), (1, .ref (kt j))]) hx hb dX4_isWord_27 rfl hl (by decide) rfl (fun ls hl => ?_)
      exact K28 σ3 0 H locs ls (lv_sub hl [1, 2, 0] rfl) hP hS hf
    · replace hf := nIf_f hc hf
      refine lv_iconst (v := 0) hx hb dX4_isWord_24 (by decide) ?_
      exact nb_zret hx hb hr hlocks hP hS (nSo hf) rfl dX4_isWord_25
def l_X4_isWord_28 (N : Nat) (j : Nat) : nS → Int32 → Option (Int32 × nS) := nLp (fun _ _ => none) (fun again => b_X4_isWord_28 N j again) N
theorem kl_X4_isWord_28 {p : Program} {l : Launch} {e : Env} {s : State} {m : MethodId} {args : Array Value} {below : List Frame} {meth : Method} {c : Code} {D : va_G} {A : Nat → Prop} {cy : Nat → ClassId} {a kt vt : Nat → Nat} {N : Nat} {j : Nat} (hj : j < 12) (C0 : nCx p s m args meth c cX4_isWord 3 (some .boolean) RX4 wsX4_isWord) (hE : nEn D A cy (NBw cy a) kt vt s) {z : Int32 × nS} : ∀ (σ : nS) (x2 : Int32) (H : Heap) (locs : List Loc) (ls : Array Slot), lv_has ls 3 [(0, .ref (a 6)), (1, .ref (kt j)), (2, .int x2)] → va_P D vwCl ((NBw cy a) σ) H → va_S A s.heap H locs → l_X4_isWord_28 N j σ x2 = some z → W p l e ({ frames := 4, cells := 0, slots := 0, locals := 85 } : Room) s m args below meth c H locs 0 0 (nQi below D A (NBw cy a) args s z) (F0 m 28 ls []) := by
  have main : ∀ (fu : Nat), ∀ (σ : nS) (x2 : Int32) (H : Heap) (locs : List Loc) (ls : Array Slot), lv_has ls 3 [(0, .ref (a 6)), (1, .ref (kt j)), (2, .int x2)] → va_P D vwCl ((NBw cy a) σ) H → va_S A s.heap H locs → nLp (fun _ _ => none) (fun again => b_X4_isWord_28 N j again) fu σ x2 = some z → W p l e ({ frames := 4, cells := 0, slots := 0, locals := 85 } : Room) s m args below meth c H locs 0 0 (nQi below D A (NBw cy a) args s z) (F0 m 28 ls []) := by
    intro fu
    induction fu with
    | zero => intro σ x2 H locs ls hl hP hS hf; cases hf
    | succ fu ih => exact kb_X4_isWord_28 (N := N) hj C0 hE ih
  exact main N
def l_X4_isWord_0 (N : Nat) (j : Nat) : nS → Option (Int32 × nS) := b_X4_isWord_0 N j (l_X4_isWord_28 N j)
theorem kl_X4_isWord_0 {p : Program} {l : Launch} {e : Env} {s : State} {m : MethodId} {args : Array Value} {below : List Frame} {meth : Method} {c : Code} {D : va_G} {A : Nat → Prop} {cy : Nat → ClassId} {a kt vt : Nat → Nat} {N : Nat} {j : Nat} (hj : j < 12) (C0 : nCx p s m args meth c cX4_isWord 3 (some .boolean) RX4 wsX4_isWord) (hE : nEn D A cy (NBw cy a) kt vt s) {z : Int32 × nS} : ∀ (σ : nS) (H : Heap) (locs : List Loc) (ls : Array Slot), lv_has ls 3 [(0, .ref (a 6)), (1, .ref (kt j))] → va_P D vwCl ((NBw cy a) σ) H → va_S A s.heap H locs → l_X4_isWord_0 N j σ = some z → W p l e ({ frames := 4, cells := 0, slots := 0, locals := 85 } : Room) s m args below meth c H locs 0 0 (nQi below D A (NBw cy a) args s z) (F0 m 0 ls []) := by
  exact kb_X4_isWord_0 (N := N) hj C0 hE (kl_X4_isWord_28 (N := N) hj C0 hE)
def f_X4_isWord (N : Nat) (j : Nat) (σ : nS) : Option (Int32 × nS) := l_X4_isWord_0 N j σ
set_option maxHeartbeats 4000000 in
set_option maxRecDepth 100000 in
theorem c_X4_isWord {l : Launch} {D : va_G} {A : Nat → Prop} {cy : Nat → ClassId} {a kt vt : Nat → Nat} {N : Nat} {j : Nat} (hj : j < 12) {σ : nS} {r : Int32} {σ' : nS} (hf : f_X4_isWord N j σ = some (r, σ')) : nMi l yX4_isWord wsX4_isWord ({ frames := 4, cells := 0, slots := 0, locals := 85 } : Room) D A cy (NBw cy a) kt vt [.ref (a 6), .ref (kt j)] σ r σ' := by
  refine Met.ofW (cc := cX4_isWord) (maxL := 3) (ret := (some .boolean)) (by decide) rfl ?_
  intro p e s m args below meth c s₁ B hml hv
  obtain ⟨rfl, hP, hE⟩ := hv
  have hl := lv_entry ([.ref (a 6), .ref (kt j)]) (n := 3) (Nat.le_of_ble_eq_true rfl)
  rw [lg_entry_eq]
  generalize (lg_sl ([.ref (a 6), .ref (kt j)]) ++ List.replicate (3 - (lg_sl ([.ref (a 6), .ref (kt j)])).length) Slot.unset).toArray = ls at hl ⊢
  have C0 : nCx p s m _ meth c cX4_isWord 3 (some .boolean) RX4 wsX4_isWord := ⟨B.exec, B.bytes, B.returns, hml, findClass_of_methodNamed B.named, atoms_spec (ws := wsX4_isWord) B.pre, B.notSynchronized⟩
  exact kl_X4_isWord_0 (N := N) hj C0 hE (z := (r, σ')) σ  _ _ ls hl hP va_S.rf hf

/-! X4_takeWord -/
def b_X4_takeWord_0 (N : Nat) (j : Nat) (σ : nS) : Option (Int32 × nS) := nBd (f_X4_isWord N j σ) (fun r1 σ2 => (if r1 = 0 then nBd (f_X4_fail N 1 σ2) (fun r5 σ6 => nZ r5 (some (r5, σ6))) else nBd (f_X4_advance N σ2) (fun r3 σ4 => some (1, σ4))))
set_option maxHeartbeats 4000000 in
set_option maxRecDepth 100000 in
theorem kb_X4_takeWord_0 {p : Program} {l : Launch} {e : Env} {s : State} {m : MethodId} {args : Array Value} {below : List Frame} {meth : Method} {c : Code} {D : va_G} {A : Nat → Prop} {cy : Nat → ClassId} {a kt vt : Nat → Nat} {N : Nat} {j : Nat} (hj : j < 12) (C0 : nCx p s m args meth c cX4_takeWord 2 (some .boolean) RX4 wsX4_takeWord) (hE : nEn D A cy (NBw cy a) kt vt s) {z : Int32 × nS} : ∀ (σ : nS) (H : Heap) (locs : List Loc) (ls : Array Slot), lv_has ls 2 [(0, .ref (a 6)), (1, .ref (kt j))] → va_P D vwCl ((NBw cy a) σ) H → va_S A s.heap H locs → b_X4_takeWord_0 N j σ = some z → W p l e ({ frames := 5, cells := 0, slots := 0, locals := 107 } : Room) s m args below meth c H locs 0 0 (nQi below D A (NBw cy a) args s z) (F0 m 0 ls []) := by
  obtain ⟨hx, hb, hr, hml, hown, hts, hlocks⟩ := C0
  intro σ  H locs ls hl hP hS hf
  unfold b_X4_takeWord_0 at hf
  refine lv_aload_n hx hb dX4_takeWord_0 rfl (lv_at hl 0 rfl) ?_
  refine lv_aload_n hx hb dX4_takeWord_1 rfl (lv_at hl 1 rfl) ?_
  obtain ⟨r1, σ2, hc2, hf⟩ := nBd_e hf
  refine nb_callVi (As := [.ref (kt j)]) (rest := []) ⟨hx, hb, hml, hown, hts⟩ (c_X4_isWord (D := D) (A := A) (cy := cy) (a := a) (kt := kt) (vt := vt) (l := l) hj hc2) (cwV 1 hts gX4_takeWord_X4_isWord rfl rfl rfl (by decide +kernel) ⟨Nat.le_of_ble_eq_true rfl, Nat.le_of_ble_eq_true rfl⟩) hE hP hS nbo_6 rfl rfl hl.1 rfl (Nat.le_of_ble_eq_true rfl) dX4_takeWord_2 (fun H locs hP hS => ?_)
  refine lv_if_ne (tgt := 14) hx hb dX4_takeWord_5 (by decide) (fun hc => ?_) (fun hc => ?_)
  · replace hf := nIf_f hc hf
    refine lv_aload_n hx hb dX4_takeWord_14 rfl (lv_at hl 0 rfl) ?_
    obtain ⟨r3, σ4, hc4, hf⟩ := nBd_e hf
    refine nb_callVv (As := []) (rest := []) ⟨hx, hb, hml, hown, hts⟩ (c_X4_advance (D := D) (A := A) (cy := cy) (a := a) (kt := kt) (vt := vt) (l := l)  hc4) (cwV 0 hts gX4_takeWord_X4_advance rfl rfl rfl (by decide +kernel) ⟨Nat.le_of_ble_eq_true rfl, Nat.le_of_ble_eq_true rfl⟩) hE hP hS nbo_6 rfl rfl hl.1 rfl (Nat.le_of_ble_eq_true rfl) dX4_takeWord_15 (fun H locs hP hS => ?_)
    refine lv_iconst (v := 1) hx hb dX4_takeWord_18 (by decide) ?_
    exact nb_zret hx hb hr hlocks hP hS (nSo hf) rfl dX4_takeWord_19
  · replace hf := nIf_t hc hf
    refine lv_aload_n hx hb dX4_takeWord_8 rfl (lv_at hl 0 rfl) ?_
    refine lv_iconst (v := 1) hx hb dX4_takeWord_9 (by decide) ?_
    obtain ⟨r5, σ6, hc6, hf⟩ := nBd_e hf
    refine nb_callVi (As := [.int 1]) (rest := []) ⟨hx, hb, hml, hown, hts⟩ (c_X4_fail (D := D) (A := A) (cy := cy) (a := a) (kt := kt) (vt := vt) (l := l)  hc6) (cwV 1 hts gX4_takeWord_X4_fail rfl rfl rfl (by decide +kernel) ⟨Nat.le_of_ble_eq_true rfl, Nat.le_of_ble_eq_true rfl⟩) hE hP hS nbo_6 rfl rfl hl.1 rfl (Nat.le_of_ble_eq_true rfl) dX4_takeWord_10 (fun H locs hP hS => ?_)
    obtain ⟨hz, hf⟩ := nZ_e hf
    exact nb_zret hx hb hr hlocks hP hS (nSo hf) hz dX4_takeWord_13
def l_X4_takeWord_0 (N : Nat) (j : Nat) : nS → Option (Int32 × nS) := b_X4_takeWord_0 N j
theorem kl_X4_takeWord_0 {p : Program} {l : Launch} {e : Env} {s : State} {m : MethodId} {args : Array Value} {below : List Frame} {meth : Method} {c : Code} {D : va_G} {A : Nat → Prop} {cy : Nat → ClassId} {a kt vt : Nat → Nat} {N : Nat} {j : Nat} (hj : j < 12) (C0 : nCx p s m args meth c cX4_takeWord 2 (some .boolean) RX4 wsX4_takeWord) (hE : nEn D A cy (NBw cy a) kt vt s) {z : Int32 × nS} : ∀ (σ : nS) (H : Heap) (locs : List Loc) (ls : Array Slot), lv_has ls 2 [(0, .ref (a 6)), (1, .ref (kt j))] → va_P D vwCl ((NBw cy a) σ) H → va_S A s.heap H locs → l_X4_takeWord_0 N j σ = some z → W p l e ({ frames := 5, cells := 0, slots := 0, locals := 107 } : Room) s m args below meth c H locs 0 0 (nQi below D A (NBw cy a) args s z) (F0 m 0 ls []) := by
  exact kb_X4_takeWord_0 (N := N) hj C0 hE
def f_X4_takeWord (N : Nat) (j : Nat) (σ : nS) : Option (Int32 × nS) := l_X4_takeWord_0 N j σ
set_option maxHeartbeats 4000000 in
set_option maxRecDepth 100000 in
theorem c_X4_takeWord {l : Launch} {D : va_G} {A : Nat → Prop} {cy : Nat → ClassId} {a kt vt : Nat → Nat} {N : Nat} {j : Nat} (hj : j < 12) {σ : nS} {r : Int32} {σ' : nS} (hf : f_X4_takeWord N j σ = some (r, σ')) : nMi l yX4_takeWord wsX4_takeWord ({ frames := 5, cells := 0, slots := 0, locals := 107 } : Room) D A cy (NBw cy a) kt vt [.ref (a 6), .ref (kt j)] σ r σ' := by
  refine Met.ofW (cc := cX4_takeWord) (maxL := 2) (ret := (some .boolean)) (by decide) rfl ?_
  intro p e s m args below meth c s₁ B hml hv
  obtain ⟨rfl, hP, hE⟩ := hv
  have hl := lv_entry ([.ref (a 6), .ref (kt j)]) (n := 2) (Nat.le_of_ble_eq_true rfl)
  rw [lg_entry_eq]
  generalize (lg_sl ([.ref (a 6), .ref (kt j)]) ++ List.replicate (2 - (lg_sl ([.ref (a 6), .ref (kt j)])).length) Slot.unset).toArray = ls at hl ⊢
  have C0 : nCx p s m _ meth c cX4_takeWord 2 (some .boolean) RX4 wsX4_takeWord := ⟨B.exec, B.bytes, B.returns, hml, findClass_of_methodNamed B.named, atoms_spec (ws := wsX4_takeWord) B.pre, B.notSynchronized⟩
  exact kl_X4_takeWord_0 (N := N) hj C0 hE (z := (r, σ')) σ  _ _ ls hl hP va_S.rf hf

/-! X4_takeNumber -/
set_option maxRecDepth 20000 in
theorem iX4_takeNumber_X4 : ∀ w ∈ u_ws RX4 TX4 14, w ∈ wsX4_takeNumber := fun _ h => List.mem_cons_of_mem _ (List.mem_append_right _ h)
set_option maxRecDepth 20000 in
theorem qX4_takeNumber_25 : Cond.fieldLink RX4 25 RX4 (TX4 4).2.1 (TX4 4).2.2.1 ∈ wsX4_takeNumber := by decide +kernel
set_option maxRecDepth 20000 in
theorem qX4_takeNumber_31 : Cond.fieldLink RX4 31 RX4 (TX4 6).2.1 (TX4 6).2.2.1 ∈ wsX4_takeNumber := by decide +kernel
set_option maxRecDepth 20000 in
theorem qX4_takeNumber_34 : Cond.fieldLink RX4 34 RX4 (TX4 7).2.1 (TX4 7).2.2.1 ∈ wsX4_takeNumber := by decide +kernel
set_option maxRecDepth 20000 in
theorem qX4_takeNumber_28 : Cond.fieldLink RX4 28 RX4 (TX4 5).2.1 (TX4 5).2.2.1 ∈ wsX4_takeNumber := by decide +kernel
set_option maxRecDepth 20000 in
theorem qX4_takeNumber_37 : Cond.fieldLink RX4 37 RX4 (TX4 8).2.1 (TX4 8).2.2.1 ∈ wsX4_takeNumber := by decide +kernel
def b_X4_takeNumber_0 (N : Nat) (σ : nS) (x1 : Int32) (x2 : Int32) : Option (Int32 × nS) := (if (σ.1 6 4) = 2 then (if (σ.1 6 6) < x1 then nBd (f_X4_fail N 2 σ) (fun r1 σ2 => nZ r1 (some (r1, σ2))) else (if (σ.1 6 6) ≤ x2 then nLet (wr σ 6 7 (σ.1 6 6)) (fun σ3 => nLet (wr σ3 6 8 (σ3.1 6 5)) (fun σ4 => nBd (f_X4_advance N σ4) (fun r5 σ6 => some (1, σ6)))) else nBd (f_X4_fail N 2 σ) (fun r7 σ8 => nZ r7 (some (r7, σ8))))) else nBd (f_X4_fail N 1 σ) (fun r9 σ10 => nZ r9 (some (r9, σ10))))
set_option maxHeartbeats 4000000 in
set_option maxRecDepth 100000 in
theorem kb_X4_takeNumber_0 {p : Program} {l : Launch} {e : Env} {s : State} {m : MethodId} {args : Array Value} {below : List Frame} {meth : Method} {c : Code} {D : va_G} {A : Nat → Prop} {cy : Nat → ClassId} {a kt vt : Nat → Nat} {N : Nat}   (C0 : nCx p s m args meth c cX4_takeNumber 3 (some .boolean) RX4 wsX4_takeNumber) (hE : nEn D A cy (NBw cy a) kt vt s) {z : Int32 × nS} : ∀ (σ : nS) (x1 : Int32) (x2 : Int32) (H : Heap) (locs : List Loc) (ls : Array Slot), lv_has ls 3 [(0, .ref (a 6)), (1, .int x1), (2, .int x2)] → va_P D vwCl ((NBw cy a) σ) H → va_S A s.heap H locs → b_X4_takeNumber_0 N σ x1 x2 = some z → W p l e ({ frames := 2, cells := 0, slots := 0, locals := 43 } : Room) s m args below meth c H locs 0 0 (nQi below D A (NBw cy a) args s z) (F0 m 0 ls []) := by
  obtain ⟨hx, hb, hr, hml, hown, hts, hlocks⟩ := C0
  intro σ x1 x2 H locs ls hl hP hS hf
  unfold b_X4_takeNumber_0 at hf
  refine lv_aload_n hx hb dX4_takeNumber_0 rfl (lv_at hl 0 rfl) ?_
  refine nb_get (ci := 4) hx hb hts iX4_takeNumber_X4 hown hE hP 6 nbo_6 rfl 4 (by decide) qX4_takeNumber_25 rfl rfl dX4_takeNumber_1 ?_
  refine lv_iconst (v := 2) hx hb dX4_takeNumber_4 (by decide) ?_
  refine lv_icmp_eq (tgt := 14) hx hb dX4_takeNumber_5 (by decide) (fun hc => ?_) (fun hc => ?_)
  · replace hf := nIf_t hc hf
    refine lv_aload_n hx hb dX4_takeNumber_14 rfl (lv_at hl 0 rfl) ?_
    refine nb_get (ci := 4) hx hb hts iX4_takeNumber_X4 hown hE hP 6 nbo_6 rfl 6 (by decide) qX4_takeNumber_31 rfl rfl dX4_takeNumber_15 ?_
    refine lv_iload_n hx hb dX4_takeNumber_18 rfl (lv_at hl 1 rfl) ?_
    refine lv_icmp_lt (tgt := 30) hx hb dX4_takeNumber_19 (by decide) (fun hc => ?_) (fun hc => ?_)
    · replace hf := nIf_t hc hf
      refine lv_aload_n hx hb dX4_takeNumber_30 rfl (lv_at hl 0 rfl) ?_
      refine lv_iconst (v := 2) hx hb dX4_takeNumber_31 (by decide) ?_
      obtain ⟨r1, σ2, hc2, hf⟩ := nBd_e hf
      refine nb_callVi (As := [.int 2]) (rest := []) ⟨hx, hb, hml, hown, hts⟩ (c_X4_fail (D := D) (A := A) (cy := cy) (a := a) (kt := kt) (vt := vt) (l := l)  hc2) (cwV 1 hts gX4_takeNumber_X4_fail rfl rfl rfl (by decide +kernel) ⟨Nat.le_of_ble_eq_true rfl, Nat.le_of_ble_eq_true rfl⟩) hE hP hS nbo_6 rfl rfl hl.1 rfl (Nat.le_of_ble_eq_true rfl) dX4_takeNumber_32 (fun H locs hP hS => ?_)
      obtain ⟨hz, hf⟩ := nZ_e hf
      exact nb_zret hx hb hr hlocks hP hS (nSo hf) hz dX4_takeNumber_35
    · replace hf := nIf_f hc hf
      refine lv_aload_n hx hb dX4_takeNumber_22 rfl (lv_at hl 0 rfl) ?_
      refine nb_get (ci := 4) hx hb hts iX4_takeNumber_X4 hown hE hP 6 nbo_6 rfl 6 (by decide) qX4_takeNumber_31 rfl rfl dX4_takeNumber_23 ?_
      refine lv_iload_n hx hb dX4_takeNumber_26 rfl (lv_at hl 2 rfl) ?_
      refine lv_icmp_le (tgt := 36) hx hb dX4_takeNumber_27 (by decide) (fun hc => ?_) (fun hc => ?_)
      · replace hf := nIf_t hc hf
        refine lv_aload_n hx hb dX4_takeNumber_36 rfl (lv_at hl 0 rfl) ?_
        refine lv_aload_n hx hb dX4_takeNumber_37 rfl (lv_at hl 0 rfl) ?_
        refine nb_get (ci := 4) hx hb hts iX4_takeNumber_X4 hown hE hP 6 nbo_6 rfl 6 (by decide) qX4_takeNumber_31 rfl rfl dX4_takeNumber_38 ?_
        refine nb_put (ci := 4) hx hb hts iX4_takeNumber_X4 tyX4 tyX4_ok nmX4 hown hE hP hS 6 nbo_6 rfl 7 (by decide) qX4_takeNumber_34 rfl rfl rfl rfl (Nat.le_of_ble_eq_true rfl) dX4_takeNumber_41 (nbp_6_7 _) (fun σ3 eσ3 H locs hP hS => ?_)
        replace hf := nLet_e hf eσ3
        refine lv_aload_n hx hb dX4_takeNumber_44 rfl (lv_at hl 0 rfl) ?_
        refine lv_aload_n hx hb dX4_takeNumber_45 rfl (lv_at hl 0 rfl) ?_
        refine nb_get (ci := 4) hx hb hts iX4_takeNumber_X4 hown hE hP 6 nbo_6 rfl 5 (by decide) qX4_takeNumber_28 rfl rfl dX4_takeNumber_46 ?_
        refine nb_put (ci := 4) hx hb hts iX4_takeNumber_X4 tyX4 tyX4_ok nmX4 hown hE hP hS 6 nbo_6 rfl 8 (by decide) qX4_takeNumber_37 rfl rfl rfl rfl (Nat.le_of_ble_eq_true rfl) dX4_takeNumber_49 (nbp_6_8 _) (fun σ4 eσ4 H locs hP hS => ?_)
        replace hf := nLet_e hf eσ4
        refine lv_aload_n hx hb dX4_takeNumber_52 rfl (lv_at hl 0 rfl) ?_
        obtain ⟨r5, σ6, hc6, hf⟩ := nBd_e hf
        refine nb_callVv (As := []) (rest := []) ⟨hx, hb, hml, hown, hts⟩ (c_X4_advance (D := D) (A := A) (cy := cy) (a := a) (kt := kt) (vt := vt) (l := l)  hc6) (cwV 0 hts gX4_takeNumber_X4_advance rfl rfl rfl (by decide +kernel) ⟨Nat.le_of_ble_eq_true rfl, Nat.le_of_ble_eq_true rfl⟩) hE hP hS nbo_6 rfl rfl hl.1 rfl (Nat.le_of_ble_eq_true rfl) dX4_takeNumber_53 (fun H locs hP hS => ?_)
        refine lv_iconst (v := 1) hx hb dX4_takeNumber_56 (by decide) ?_
        exact nb_zret hx hb hr hlocks hP hS (nSo hf) rfl dX4_takeNumber_57
      · replace hf := nIf_f hc hf
        refine lv_aload_n hx hb dX4_takeNumber_30 rfl (lv_at hl 0 rfl) ?_
        refine lv_iconst (v := 2) hx hb dX4_takeNumber_31 (by decide) ?_
        obtain ⟨r7, σ8, hc8, hf⟩ := nBd_e hf
        refine nb_callVi (As := [.int 2]) (rest := []) ⟨hx, hb, hml, hown, hts⟩ (c_X4_fail (D := D) (A := A) (cy := cy) (a := a) (kt := kt) (vt := vt) (l := l)  hc8) (cwV 1 hts gX4_takeNumber_X4_fail rfl rfl rfl (by decide +kernel) ⟨Nat.le_of_ble_eq_true rfl, Nat.le_of_ble_eq_true rfl⟩) hE hP hS nbo_6 rfl rfl hl.1 rfl (Nat.le_of_ble_eq_true rfl) dX4_takeNumber_32 (fun H locs hP hS => ?_)
        obtain ⟨hz, hf⟩ := nZ_e hf
        exact nb_zret hx hb hr hlocks hP hS (nSo hf) hz dX4_takeNumber_35
  · replace hf := nIf_f hc hf
    refine lv_aload_n hx hb dX4_takeNumber_8 rfl (lv_at hl 0 rfl) ?_
    refine lv_iconst (v := 1) hx hb dX4_takeNumber_9 (by decide) ?_
    obtain ⟨r9, σ10, hc10, hf⟩ := nBd_e hf
    refine nb_callVi (As := [.int 1]) (rest := []) ⟨hx, hb, hml, hown, hts⟩ (c_X4_fail (D := D) (A := A) (cy := cy) (a := a) (kt := kt) (vt := vt) (l := l)  hc10) (cwV 1 hts gX4_takeNumber_X4_fail rfl rfl rfl (by decide +kernel) ⟨Nat.le_of_ble_eq_true rfl, Nat.le_of_ble_eq_true rfl⟩) hE hP hS nbo_6 rfl rfl hl.1 rfl (Nat.le_of_ble_eq_true rfl) dX4_takeNumber_10 (fun H locs hP hS => ?_)
    obtain ⟨hz, hf⟩ := nZ_e hf
    exact nb_zret hx hb hr hlocks hP hS (nSo hf) hz dX4_takeNumber_13
def l_X4_takeNumber_0 (N : Nat) : nS → Int32 → Int32 → Option (Int32 × nS) := b_X4_takeNumber_0 N
theorem kl_X4_takeNumber_0 {p : Program} {l : Launch} {e : Env} {s : State} {m : MethodId} {args : Array Value} {below : List Frame} {meth : Method} {c : Code} {D : va_G} {A : Nat → Prop} {cy : Nat → ClassId} {a kt vt : Nat → Nat} {N : Nat}   (C0 : nCx p s m args meth c cX4_takeNumber 3 (some .boolean) RX4 wsX4_takeNumber) (hE : nEn D A cy (NBw cy a) kt vt s) {z : Int32 × nS} : ∀ (σ : nS) (x1 : Int32) (x2 : Int32) (H : Heap) (locs : List Loc) (ls : Array Slot), lv_has ls 3 [(0, .ref (a 6)), (1, .int x1), (2, .int x2)] → va_P D vwCl ((NBw cy a) σ) H → va_S A s.heap H locs → l_X4_takeNumber_0 N σ x1 x2 = some z → W p l e ({ frames := 2, cells := 0, slots := 0, locals := 43 } : Room) s m args below meth c H locs 0 0 (nQi below D A (NBw cy a) args s z) (F0 m 0 ls []) := by
  exact kb_X4_takeNumber_0 (N := N)  C0 hE
def f_X4_takeNumber (N : Nat) (x1 : Int32) (x2 : Int32) (σ : nS) : Option (Int32 × nS) := l_X4_takeNumber_0 N σ x1 x2
set_option maxHeartbeats 4000000 in
set_option maxRecDepth 100000 in
theorem c_X4_takeNumber {l : Launch} {D : va_G} {A : Nat → Prop} {cy : Nat → ClassId} {a kt vt : Nat → Nat} {N : Nat}   {x1 : Int32} {x2 : Int32} {σ : nS} {r : Int32} {σ' : nS} (hf : f_X4_takeNumber N x1 x2 σ = some (r, σ')) : nMi l yX4_takeNumber wsX4_takeNumber ({ frames := 2, cells := 0, slots := 0, locals := 43 } : Room) D A cy (NBw cy a) kt vt [.ref (a 6), .int x1, .int x2] σ r σ' := by
  refine Met.ofW (cc := cX4_takeNumber) (maxL := 3) (ret := (some .boolean)) (by decide) rfl ?_
  intro p e s m args below meth c s₁ B hml hv
  obtain ⟨rfl, hP, hE⟩ := hv
  have hl := lv_entry ([.ref (a 6), .int x1, .int x2]) (n := 3) (Nat.le_of_ble_eq_true rfl)
  rw [lg_entry_eq]
  generalize (lg_sl ([.ref (a 6), .int x1, .int x2]) ++ List.replicate (3 - (lg_sl ([.ref (a 6), .int x1, .int x2])).length) Slot.unset).toArray = ls at hl ⊢
  have C0 : nCx p s m _ meth c cX4_takeNumber 3 (some .boolean) RX4 wsX4_takeNumber := ⟨B.exec, B.bytes, B.returns, hml, findClass_of_methodNamed B.named, atoms_spec (ws := wsX4_takeNumber) B.pre, B.notSynchronized⟩
  exact kl_X4_takeNumber_0 (N := N)  C0 hE (z := (r, σ')) σ x1 x2 _ _ ls hl hP va_S.rf hf

/-! X4_keep -/
set_option maxRecDepth 20000 in
theorem iX4_keep_X7 : ∀ w ∈ u_ws RX7 TX7 9, w ∈ wsX4_keep := fun _ h => List.mem_cons_of_mem _ (List.mem_append_left _ (List.mem_append_right _ h))
set_option maxRecDepth 20000 in
theorem iX4_keep_X4 : ∀ w ∈ u_ws RX4 TX4 14, w ∈ wsX4_keep := fun _ h => List.mem_cons_of_mem _ (List.mem_append_right _ h)
set_option maxRecDepth 20000 in
theorem qX4_keep_34 : Cond.fieldLink RX4 34 RX4 (TX4 7).2.1 (TX4 7).2.2.1 ∈ wsX4_keep := by decide +kernel
def b_X4_keep_0 (N : Nat) (σ : nS) (x2 : Int32) (x3 : Int32) : Option (Int32 × nS) := nBd (f_X7_setCell N (σ.1 1 3) x2 x3 (σ.1 6 7) σ) (fun r1 σ2 => some (1, σ2))
set_option maxHeartbeats 4000000 in
set_option maxRecDepth 100000 in
theorem kb_X4_keep_0 {p : Program} {l : Launch} {e : Env} {s : State} {m : MethodId} {args : Array Value} {below : List Frame} {meth : Method} {c : Code} {D : va_G} {A : Nat → Prop} {cy : Nat → ClassId} {a kt vt : Nat → Nat} {N : Nat}   (C0 : nCx p s m args meth c cX4_keep 4 (some .boolean) RX4 wsX4_keep) (hE : nEn D A cy (NBw cy a) kt vt s) {z : Int32 × nS} : ∀ (σ : nS) (x2 : Int32) (x3 : Int32) (H : Heap) (locs : List Loc) (ls : Array Slot), lv_has ls 4 [(0, .ref (a 6)), (1, .ref (a 1)), (2, .int x2), (3, .int x3)] → va_P D vwCl ((NBw cy a) σ) H → va_S A s.heap H locs → b_X4_keep_0 N σ x2 x3 = some z → W p l e ({ frames := 1, cells := 0, slots := 0, locals := 25 } : Room) s m args below meth c H locs 0 0 (nQi below D A (NBw cy a) args s z) (F0 m 0 ls []) := by
  obtain ⟨hx, hb, hr, hml, hown, hts, hlocks⟩ := C0
  intro σ x2 x3 H locs ls hl hP hS hf
  unfold b_X4_keep_0 at hf
  refine lv_aload_n hx hb dX4_keep_0 rfl (lv_at hl 1 rfl) ?_
  refine lv_aload_n hx hb dX4_keep_1 rfl (lv_at hl 1 rfl) ?_
  refine nb_getN (ci := 7) hx hb hts iX4_keep_X7 hown hE hP 1 nbo_1 rfl 3 (by decide) (host := RX8) (by decide +kernel) rfl rfl dX4_keep_2 ?_
  refine lv_iload_n hx hb dX4_keep_5 rfl (lv_at hl 2 rfl) ?_
  refine lv_iload_n hx hb dX4_keep_6 rfl (lv_at hl 3 rfl) ?_
  refine lv_aload_n hx hb dX4_keep_7 rfl (lv_at hl 0 rfl) ?_
  refine nb_get (ci := 4) hx hb hts iX4_keep_X4 hown hE hP 6 nbo_6 rfl 7 (by decide) qX4_keep_34 rfl rfl dX4_keep_8 ?_
  obtain ⟨r1, σ2, hc2, hf⟩ := nBd_e hf
  refine nb_callVv (As := [.int (σ.1 1 3), .int x2, .int x3, .int (σ.1 6 7)]) (rest := []) ⟨hx, hb, hml, hown, hts⟩ (c_X7_setCell (D := D) (A := A) (cy := cy) (a := a) (kt := kt) (vt := vt) (l := l)  hc2) (cwV 4 hts gX4_keep_X7_setCell rfl rfl rfl (by decide +kernel) ⟨Nat.le_of_ble_eq_true rfl, Nat.le_of_ble_eq_true rfl⟩) hE hP hS nbo_1 rfl rfl hl.1 rfl (Nat.le_of_ble_eq_true rfl) dX4_keep_11 (fun H locs hP hS => ?_)
  refine lv_iconst (v := 1) hx hb dX4_keep_14 (by decide) ?_
  exact nb_zret hx hb hr hlocks hP hS (nSo hf) rfl dX4_keep_15
def l_X4_keep_0 (N : Nat) : nS → Int32 → Int32 → Option (Int32 × nS) := b_X4_keep_0 N
theorem kl_X4_keep_0 {p : Program} {l : Launch} {e : Env} {s : State} {m : MethodId} {args : Array Value} {below : List Frame} {meth : Method} {c : Code} {D : va_G} {A : Nat → Prop} {cy : Nat → ClassId} {a kt vt : Nat → Nat} {N : Nat}   (C0 : nCx p s m args meth c cX4_keep 4 (some .boolean) RX4 wsX4_keep) (hE : nEn D A cy (NBw cy a) kt vt s) {z : Int32 × nS} : ∀ (σ : nS) (x2 : Int32) (x3 : Int32) (H : Heap) (locs : List Loc) (ls : Array Slot), lv_has ls 4 [(0, .ref (a 6)), (1, .ref (a 1)), (2, .int x2), (3, .int x3)] → va_P D vwCl ((NBw cy a) σ) H → va_S A s.heap H locs → l_X4_keep_0 N σ x2 x3 = some z → W p l e ({ frames := 1, cells := 0, slots := 0, locals := 25 } : Room) s m args below meth c H locs 0 0 (nQi below D A (NBw cy a) args s z) (F0 m 0 ls []) := by
  exact kb_X4_keep_0 (N := N)  C0 hE
def f_X4_keep (N : Nat) (x2 : Int32) (x3 : Int32) (σ : nS) : Option (Int32 × nS) := l_X4_keep_0 N σ x2 x3
set_option maxHeartbeats 4000000 in
set_option maxRecDepth 100000 in
theorem c_X4_keep {l : Launch} {D : va_G} {A : Nat → Prop} {cy : Nat → ClassId} {a kt vt : Nat → Nat} {N : Nat}   {x2 : Int32} {x3 : Int32} {σ : nS} {r : Int32} {σ' : nS} (hf : f_X4_keep N x2 x3 σ = some (r, σ')) : nMi l yX4_keep wsX4_keep ({ frames := 1, cells := 0, slots := 0, locals := 25 } : Room) D A cy (NBw cy a) kt vt [.ref (a 6), .ref (a 1), .int x2, .int x3] σ r σ' := by
  refine Met.ofW (cc := cX4_keep) (maxL := 4) (ret := (some .boolean)) (by decide) rfl ?_
  intro p e s m args below meth c s₁ B hml hv
  obtain ⟨rfl, hP, hE⟩ := hv
  have hl := lv_entry ([.ref (a 6), .ref (a 1), .int x2, .int x3]) (n := 4) (Nat.le_of_ble_eq_true rfl)
  rw [lg_entry_eq]
  generalize (lg_sl ([.ref (a 6), .ref (a 1), .int x2, .int x3]) ++ List.replicate (4 - (lg_sl ([.ref (a 6), .ref (a 1), .int x2, .int x3])).length) Slot.unset).toArray = ls at hl ⊢
  have C0 : nCx p s m _ meth c cX4_keep 4 (some .boolean) RX4 wsX4_keep := ⟨B.exec, B.bytes, B.returns, hml, findClass_of_methodNamed B.named, atoms_spec (ws := wsX4_keep) B.pre, B.notSynchronized⟩
  exact kl_X4_keep_0 (N := N)  C0 hE (z := (r, σ')) σ x2 x3 _ _ ls hl hP va_S.rf hf

/-! X4_keepTarget -/
set_option maxRecDepth 20000 in
theorem iX4_keepTarget_X4 : ∀ w ∈ u_ws RX4 TX4 14, w ∈ wsX4_keepTarget := fun _ h => List.mem_cons_of_mem _ (List.mem_append_left _ (List.mem_append_right _ h))
set_option maxRecDepth 20000 in
theorem qX4_keepTarget_52 : Cond.fieldLink RX4 52 RX4 (TX4 13).2.1 (TX4 13).2.2.1 ∈ wsX4_keepTarget := by decide +kernel
set_option maxRecDepth 20000 in
theorem qX4_keepTarget_46 : Cond.fieldLink RX4 46 RX4 (TX4 11).2.1 (TX4 11).2.2.1 ∈ wsX4_keepTarget := by decide +kernel
set_option maxRecDepth 20000 in
theorem qX4_keepTarget_34 : Cond.fieldLink RX4 34 RX4 (TX4 7).2.1 (TX4 7).2.2.1 ∈ wsX4_keepTarget := by decide +kernel
set_option maxRecDepth 20000 in
theorem qX4_keepTarget_49 : Cond.fieldLink RX4 49 RX4 (TX4 12).2.1 (TX4 12).2.2.1 ∈ wsX4_keepTarget := by decide +kernel
set_option maxRecDepth 20000 in
theorem qX4_keepTarget_37 : Cond.fieldLink RX4 37 RX4 (TX4 8).2.1 (TX4 8).2.2.1 ∈ wsX4_keepTarget := by decide +kernel
def b_X4_keepTarget_0 (N : Nat) (σ : nS) (x2 : Int32) (x3 : Int32) : Option (Int32 × nS) := (if (σ.1 6 13) < 0 then nBd (f_X4_keep N x2 x3 σ) (fun r1 σ2 => nZ r1 (some (r1, σ2))) else nLet (Int32.ofNat 48) (fun v3 => (if v3 ≤ (σ.1 6 13) then nBd (f_X4_keep N x2 x3 σ) (fun r4 σ5 => nZ r4 (some (r4, σ5))) else nIx (σ.1 6 13) 48 (nLet (wr σ 8 ((σ.1 6 13)).toNatClampNeg (σ.1 6 7)) (fun σ6 => nIx (σ6.1 6 13) 48 (nLet (wr σ6 9 ((σ6.1 6 13)).toNatClampNeg (σ6.1 6 8)) (fun σ7 => nLet ((σ7.1 6 13) + (1 : Int32) : Int32) (fun v8 => nLet (wr σ7 6 13 v8) (fun σ9 => nBd (f_X4_keep N x2 x3 σ9) (fun r10 σ11 => nZ r10 (some (r10, σ11))))))))))))
set_option maxHeartbeats 4000000 in
set_option maxRecDepth 100000 in
theorem kb_X4_keepTarget_0 {p : Program} {l : Launch} {e : Env} {s : State} {m : MethodId} {args : Array Value} {below : List Frame} {meth : Method} {c : Code} {D : va_G} {A : Nat → Prop} {cy : Nat → ClassId} {a kt vt : Nat → Nat} {N : Nat}   (C0 : nCx p s m args meth c cX4_keepTarget 4 (some .boolean) RX4 wsX4_keepTarget) (hE : nEn D A cy (NBw cy a) kt vt s) {z : Int32 × nS} : ∀ (σ : nS) (x2 : Int32) (x3 : Int32) (H : Heap) (locs : List Loc) (ls : Array Slot), lv_has ls 4 [(0, .ref (a 6)), (1, .ref (a 1)), (2, .int x2), (3, .int x3)] → va_P D vwCl ((NBw cy a) σ) H → va_S A s.heap H locs → b_X4_keepTarget_0 N σ x2 x3 = some z → W p l e ({ frames := 2, cells := 0, slots := 0, locals := 48 } : Room) s m args below meth c H locs 0 0 (nQi below D A (NBw cy a) args s z) (F0 m 0 ls []) := by
  obtain ⟨hx, hb, hr, hml, hown, hts, hlocks⟩ := C0
  intro σ x2 x3 H locs ls hl hP hS hf
  unfold b_X4_keepTarget_0 at hf
  refine lv_aload_n hx hb dX4_keepTarget_0 rfl (lv_at hl 0 rfl) ?_
  refine nb_get (ci := 4) hx hb hts iX4_keepTarget_X4 hown hE hP 6 nbo_6 rfl 13 (by decide) qX4_keepTarget_52 rfl rfl dX4_keepTarget_1 ?_
  refine lv_if_lt (tgt := 55) hx hb dX4_keepTarget_4 (by decide) (fun hc => ?_) (fun hc => ?_)
  · replace hf := nIf_t hc hf
    refine lv_aload_n hx hb dX4_keepTarget_55 rfl (lv_at hl 0 rfl) ?_
    refine lv_aload_n hx hb dX4_keepTarget_56 rfl (lv_at hl 1 rfl) ?_
    refine lv_iload_n hx hb dX4_keepTarget_57 rfl (lv_at hl 2 rfl) ?_
    refine lv_iload_n hx hb dX4_keepTarget_58 rfl (lv_at hl 3 rfl) ?_
    obtain ⟨r1, σ2, hc2, hf⟩ := nBd_e hf
    refine nb_callVi (As := [.ref (a 1), .int x2, .int x3]) (rest := []) ⟨hx, hb, hml, hown, hts⟩ (c_X4_keep (D := D) (A := A) (cy := cy) (a := a) (kt := kt) (vt := vt) (l := l)  hc2) (cwV 3 hts gX4_keepTarget_X4_keep rfl rfl rfl (by decide +kernel) ⟨Nat.le_of_ble_eq_true rfl, Nat.le_of_ble_eq_true rfl⟩) hE hP hS nbo_6 rfl rfl hl.1 rfl (Nat.le_of_ble_eq_true rfl) dX4_keepTarget_59 (fun H locs hP hS => ?_)
    obtain ⟨hz, hf⟩ := nZ_e hf
    exact nb_zret hx hb hr hlocks hP hS (nSo hf) hz dX4_keepTarget_62
  · replace hf := nIf_f hc hf
    refine lv_aload_n hx hb dX4_keepTarget_7 rfl (lv_at hl 0 rfl) ?_
    refine nb_get (ci := 4) hx hb hts iX4_keepTarget_X4 hown hE hP 6 nbo_6 rfl 13 (by decide) qX4_keepTarget_52 rfl rfl dX4_keepTarget_8 ?_
    refine lv_aload_n hx hb dX4_keepTarget_11 rfl (lv_at hl 0 rfl) ?_
    refine nb_get (ci := 4) hx hb hts iX4_keepTarget_X4 hown hE hP 6 nbo_6 rfl 11 (by decide) qX4_keepTarget_46 rfl rfl dX4_keepTarget_12 ?_
    refine na_alen hx hb hE hP nbr_8 dX4_keepTarget_15 ?_
    refine lv_topi (fun v3 ev3 => ?_)
    replace hf := nLet_e hf ev3
    refine lv_icmp_ge (tgt := 55) hx hb dX4_keepTarget_16 (by decide) (fun hc => ?_) (fun hc => ?_)
    · replace hf := nIf_t hc hf
      refine lv_aload_n hx hb dX4_keepTarget_55 rfl (lv_at hl 0 rfl) ?_
      refine lv_aload_n hx hb dX4_keepTarget_56 rfl (lv_at hl 1 rfl) ?_
      refine lv_iload_n hx hb dX4_keepTarget_57 rfl (lv_at hl 2 rfl) ?_
      refine lv_iload_n hx hb dX4_keepTarget_58 rfl (lv_at hl 3 rfl) ?_
      obtain ⟨r4, σ5, hc5, hf⟩ := nBd_e hf
      refine nb_callVi (As := [.ref (a 1), .int x2, .int x3]) (rest := []) ⟨hx, hb, hml, hown, hts⟩ (c_X4_keep (D := D) (A := A) (cy := cy) (a := a) (kt := kt) (vt := vt) (l := l)  hc5) (cwV 3 hts gX4_keepTarget_X4_keep rfl rfl rfl (by decide +kernel) ⟨Nat.le_of_ble_eq_true rfl, Nat.le_of_ble_eq_true rfl⟩) hE hP hS nbo_6 rfl rfl hl.1 rfl (Nat.le_of_ble_eq_true rfl) dX4_keepTarget_59 (fun H locs hP hS => ?_)
      obtain ⟨hz, hf⟩ := nZ_e hf
      exact nb_zret hx hb hr hlocks hP hS (nSo hf) hz dX4_keepTarget_62
    · replace hf := nIf_f hc hf
      refine lv_aload_n hx hb dX4_keepTarget_19 rfl (lv_at hl 0 rfl) ?_
      refine nb_get (ci := 4) hx hb hts iX4_keepTarget_X4 hown hE hP 6 nbo_6 rfl 11 (by decide) qX4_keepTarget_46 rfl rfl dX4_keepTarget_20 ?_
      refine lv_aload_n hx hb dX4_keepTarget_23 rfl (lv_at hl 0 rfl) ?_
      refine nb_get (ci := 4) hx hb hts iX4_keepTarget_X4 hown hE hP 6 nbo_6 rfl 13 (by decide) qX4_keepTarget_52 rfl rfl dX4_keepTarget_24 ?_
      refine lv_aload_n hx hb dX4_keepTarget_27 rfl (lv_at hl 0 rfl) ?_
      refine nb_get (ci := 4) hx hb hts iX4_keepTarget_X4 hown hE hP 6 nbo_6 rfl 7 (by decide) qX4_keepTarget_34 rfl rfl dX4_keepTarget_28 ?_
      obtain ⟨hin, hf⟩ := nIx_e hf
      refine na_iast hx hb hE hP hS nbr_8 hin dX4_keepTarget_31 (fun σ6 eσ6 H locs hP hS => ?_)
      replace hf := nLet_e hf eσ6
      refine lv_aload_n hx hb dX4_keepTarget_32 rfl (lv_at hl 0 rfl) ?_
      refine nb_get (ci := 4) hx hb hts iX4_keepTarget_X4 hown hE hP 6 nbo_6 rfl 12 (by decide) qX4_keepTarget_49 rfl rfl dX4_keepTarget_33 ?_
      refine lv_aload_n hx hb dX4_keepTarget_36 rfl (lv_at hl 0 rfl) ?_
      refine nb_get (ci := 4) hx hb hts iX4_keepTarget_X4 hown hE hP 6 nbo_6 rfl 13 (by decide) qX4_keepTarget_52 rfl rfl dX4_keepTarget_37 ?_
      refine lv_aload_n hx hb dX4_keepTarget_40 rfl (lv_at hl 0 rfl) ?_
      refine nb_get (ci := 4) hx hb hts iX4_keepTarget_X4 hown hE hP 6 nbo_6 rfl 8 (by decide) qX4_keepTarget_37 rfl rfl dX4_keepTarget_41 ?_
      obtain ⟨hin, hf⟩ := nIx_e hf
      refine na_iast hx hb hE hP hS nbr_9 hin dX4_keepTarget_44 (fun σ7 eσ7 H locs hP hS => ?_)
      replace hf := nLet_e hf eσ7
      refine lv_aload_n hx hb dX4_keepTarget_45 rfl (lv_at hl 0 rfl) ?_
      refine lv_dup hx hb dX4_keepTarget_46 rfl ?_
      refine nb_get (ci := 4) hx hb hts iX4_keepTarget_X4 hown hE hP 6 nbo_6 rfl 13 (by decide) qX4_keepTarget_52 rfl rfl dX4_keepTarget_47 ?_
      refine lv_iconst (v := 1) hx hb dX4_keepTarget_50 (by decide) ?_
      refine lv_iadd hx hb dX4_keepTarget_51 ?_
      refine lv_topi (fun v8 ev8 => ?_)
      replace hf := nLet_e hf ev8
      refine nb_put (ci := 4) hx hb hts iX4_keepTarget_X4 tyX4 tyX4_ok nmX4 hown hE hP hS 6 nbo_6 rfl 13 (by decide) qX4_keepTarget_52 rfl rfl rfl rfl (Nat.le_of_ble_eq_true rfl) dX4_keepTarget_52 (nbp_6_13 _) (fun σ9 eσ9 H locs hP hS => ?_)
      replace hf := nLet_e hf eσ9
      refine lv_aload_n hx hb dX4_keepTarget_55 rfl (lv_at hl 0 rfl) ?_
      refine lv_aload_n hx hb dX4_keepTarget_56 rfl (lv_at hl 1 rfl) ?_
      refine lv_iload_n hx hb dX4_keepTarget_57 rfl (lv_at hl 2 rfl) ?_
      refine lv_iload_n hx hb dX4_keepTarget_58 rfl (lv_at hl 3 rfl) ?_
      obtain ⟨r10, σ11, hc11, hf⟩ := nBd_e hf
      refine nb_callVi (As := [.ref (a 1), .int x2, .int x3]) (rest := []) ⟨hx, hb, hml, hown, hts⟩ (c_X4_keep (D := D) (A := A) (cy := cy) (a := a) (kt := kt) (vt := vt) (l := l)  hc11) (cwV 3 hts gX4_keepTarget_X4_keep rfl rfl rfl (by decide +kernel) ⟨Nat.le_of_ble_eq_true rfl, Nat.le_of_ble_eq_true rfl⟩) hE hP hS nbo_6 rfl rfl hl.1 rfl (Nat.le_of_ble_eq_true rfl) dX4_keepTarget_59 (fun H locs hP hS => ?_)
      obtain ⟨hz, hf⟩ := nZ_e hf
      exact nb_zret hx hb hr hlocks hP hS (nSo hf) hz dX4_keepTarget_62
def l_X4_keepTarget_0 (N : Nat) : nS → Int32 → Int32 → Option (Int32 × nS) := b_X4_keepTarget_0 N
theorem kl_X4_keepTarget_0 {p : Program} {l : Launch} {e : Env} {s : State} {m : MethodId} {args : Array Value} {below : List Frame} {meth : Method} {c : Code} {D : va_G} {A : Nat → Prop} {cy : Nat → ClassId} {a kt vt : Nat → Nat} {N : Nat}   (C0 : nCx p s m args meth c cX4_keepTarget 4 (some .boolean) RX4 wsX4_keepTarget) (hE : nEn D A cy (NBw cy a) kt vt s) {z : Int32 × nS} : ∀ (σ : nS) (x2 : Int32) (x3 : Int32) (H : Heap) (locs : List Loc) (ls : Array Slot), lv_has ls 4 [(0, .ref (a 6)), (1, .ref (a 1)), (2, .int x2), (3, .int x3)] → va_P D vwCl ((NBw cy a) σ) H → va_S A s.heap H locs → l_X4_keepTarget_0 N σ x2 x3 = some z → W p l e ({ frames := 2, cells := 0, slots := 0, locals := 48 } : Room) s m args below meth c H locs 0 0 (nQi below D A (NBw cy a) args s z) (F0 m 0 ls []) := by
  exact kb_X4_keepTarget_0 (N := N)  C0 hE
def f_X4_keepTarget (N : Nat) (x2 : Int32) (x3 : Int32) (σ : nS) : Option (Int32 × nS) := l_X4_keepTarget_0 N σ x2 x3
set_option maxHeartbeats 4000000 in
set_option maxRecDepth 100000 in
theorem c_X4_keepTarget {l : Launch} {D : va_G} {A : Nat → Prop} {cy : Nat → ClassId} {a kt vt : Nat → Nat} {N : Nat}   {x2 : Int32} {x3 : Int32} {σ : nS} {r : Int32} {σ' : nS} (hf : f_X4_keepTarget N x2 x3 σ = some (r, σ')) : nMi l yX4_keepTarget wsX4_keepTarget ({ frames := 2, cells := 0, slots := 0, locals := 48 } : Room) D A cy (NBw cy a) kt vt [.ref (a 6), .ref (a 1), .int x2, .int x3] σ r σ' := by
  refine Met.ofW (cc := cX4_keepTarget) (maxL := 4) (ret := (some .boolean)) (by decide) rfl ?_
  intro p e s m args below meth c s₁ B hml hv
  obtain ⟨rfl, hP, hE⟩ := hv
  have hl := lv_entry ([.ref (a 6), .ref (a 1), .int x2, .int x3]) (n := 4) (Nat.le_of_ble_eq_true rfl)
  rw [lg_entry_eq]
  generalize (lg_sl ([.ref (a 6), .ref (a 1), .int x2, .int x3]) ++ List.replicate (4 - (lg_sl ([.ref (a 6), .ref (a 1), .int x2, .int x3])).length) Slot.unset).toArray = ls at hl ⊢
  have C0 : nCx p s m _ meth c cX4_keepTarget 4 (some .boolean) RX4 wsX4_keepTarget := ⟨B.exec, B.bytes, B.returns, hml, findClass_of_methodNamed B.named, atoms_spec (ws := wsX4_keepTarget) B.pre, B.notSynchronized⟩
  exact kl_X4_keepTarget_0 (N := N)  C0 hE (z := (r, σ')) σ x2 x3 _ _ ls hl hP va_S.rf hf

/-! X4_beginsStep -/
def b_X4_beginsStep_0 (N : Nat) (σ : nS) : Option (Int32 × nS) := nBd (f_X4_isWord N 0 σ) (fun r1 σ2 => (if r1 = 0 then nBd (f_X4_isWord N 1 σ2) (fun r3 σ4 => (if r3 = 0 then nBd (f_X4_isWord N 2 σ4) (fun r5 σ6 => (if r5 = 0 then nBd (f_X4_isWord N 3 σ6) (fun r7 σ8 => (if r7 = 0 then nBd (f_X4_isWord N 4 σ8) (fun r9 σ10 => (if r9 = 0 then some (0, σ10) else some (1, σ10))) else some (1, σ8))) else some (1, σ6))) else some (1, σ4))) else some (1, σ2)))
set_option maxHeartbeats 4000000 in
set_option maxRecDepth 100000 in
theorem kb_X4_beginsStep_0 {p : Program} {l : Launch} {e : Env} {s : State} {m : MethodId} {args : Array Value} {below : List Frame} {meth : Method} {c : Code} {D : va_G} {A : Nat → Prop} {cy : Nat → ClassId} {a kt vt : Nat → Nat} {N : Nat}   (C0 : nCx p s m args meth c cX4_beginsStep 1 (some .boolean) RX4 wsX4_beginsStep) (hE : nEn D A cy (NBw cy a) kt vt s) {z : Int32 × nS} : ∀ (σ : nS) (H : Heap) (locs : List Loc) (ls : Array Slot), lv_has ls 1 [(0, .ref (a 6))] → va_P D vwCl ((NBw cy a) σ) H → va_S A s.heap H locs → b_X4_beginsStep_0 N σ = some z → W p l e ({ frames := 5, cells := 0, slots := 0, locals := 107 } : Room) s m args below meth c H locs 0 0 (nQi below D A (NBw cy a) args s z) (F0 m 0 ls []) := by
  obtain ⟨hx, hb, hr, hml, hown, hts, hlocks⟩ := C0
  intro σ  H locs ls hl hP hS hf
  unfold b_X4_beginsStep_0 at hf
  refine lv_aload_n hx hb dX4_beginsStep_0 rfl (lv_at hl 0 rfl) ?_
  refine va_ldcS hx hb hown (hE.2.2.2.2.1 (RX4, 101, "do", 0) (by decide +kernel)) dX4_beginsStep_1 ?_
  obtain ⟨r1, σ2, hc2, hf⟩ := nBd_e hf
  refine nb_callVi (As := [.ref (kt 0)]) (rest := []) ⟨hx, hb, hml, hown, hts⟩ (c_X4_isWord (D := D) (A := A) (cy := cy) (a := a) (kt := kt) (vt := vt) (l := l) (by decide) hc2) (cwV 1 hts gX4_beginsStep_X4_isWord rfl rfl rfl (by decide +kernel) ⟨Nat.le_of_ble_eq_true rfl, Nat.le_of_ble_eq_true rfl⟩) hE hP hS nbo_6 rfl rfl hl.1 rfl (Nat.le_of_ble_eq_true rfl) dX4_beginsStep_3 (fun H locs hP hS => ?_)
  refine lv_if_ne (tgt := 45) hx hb dX4_beginsStep_6 (by decide) (fun hc => ?_) (fun hc => ?_)
  · replace hf := nIf_f hc hf
    refine lv_iconst (v := 1) hx hb dX4_beginsStep_45 (by decide) ?_
    refine lv_goto (tgt := 50) hx hb dX4_beginsStep_46 (by decide) ?_
    exact nb_zret hx hb hr hlocks hP hS (nSo hf) rfl dX4_beginsStep_50
  · replace hf := nIf_t hc hf
    refine lv_aload_n hx hb dX4_beginsStep_9 rfl (lv_at hl 0 rfl) ?_
    refine va_ldcS hx hb hown (hE.2.2.2.2.1 (RX4, 103, "ask", 1) (by decide +kernel)) dX4_beginsStep_10 ?_
    obtain ⟨r3, σ4, hc4, hf⟩ := nBd_e hf
    refine nb_callVi (As := [.ref (kt 1)]) (rest := []) ⟨hx, hb, hml, hown, hts⟩ (c_X4_isWord (D := D) (A := A) (cy := cy) (a := a) (kt := kt) (vt := vt) (l := l) (by decide) hc4) (cwV 1 hts gX4_beginsStep_X4_isWord rfl rfl rfl (by decide +kernel) ⟨Nat.le_of_ble_eq_true rfl, Nat.le_of_ble_eq_true rfl⟩) hE hP hS nbo_6 rfl rfl hl.1 rfl (Nat.le_of_ble_eq_true rfl) dX4_beginsStep_12 (fun H locs hP hS => ?_)
    refine lv_if_ne (tgt := 45) hx hb dX4_beginsStep_15 (by decide) (fun hc => ?_) (fun hc => ?_)
    · replace hf := nIf_f hc hf
      refine lv_iconst (v := 1) hx hb dX4_beginsStep_45 (by decide) ?_
      refine lv_goto (tgt := 50) hx hb dX4_beginsStep_46 (by decide) ?_
      exact nb_zret hx hb hr hlocks hP hS (nSo hf) rfl dX4_beginsStep_50
    · replace hf := nIf_t hc hf
      refine lv_aload_n hx hb dX4_beginsStep_18 rfl (lv_at hl 0 rfl) ?_
      refine va_ldcS hx hb hown (hE.2.2.2.2.1 (RX4, 105, "wait", 2) (by decide +kernel)) dX4_beginsStep_19 ?_
      obtain ⟨r5, σ6, hc6, hf⟩ := nBd_e hf
      refine nb_callVi (As := [.ref (kt 2)]) (rest := []) ⟨hx, hb, hml, hown, hts⟩ (c_X4_isWord (D := D) (A := A) (cy := cy) (a := a) (kt := kt) (vt := vt) (l := l) (by decide) hc6) (cwV 1 hts gX4_beginsStep_X4_isWord rfl rfl rfl (by decide +kernel) ⟨Nat.le_of_ble_eq_true rfl, Nat.le_of_ble_eq_true rfl⟩) hE hP hS nbo_6 rfl rfl hl.1 rfl (Nat.le_of_ble_eq_true rfl) dX4_beginsStep_21 (fun H locs hP hS => ?_)
      refine lv_if_ne (tgt := 45) hx hb dX4_beginsStep_24 (by decide) (fun hc => ?_) (fun hc => ?_)
      · replace hf := nIf_f hc hf
        refine lv_iconst (v := 1) hx hb dX4_beginsStep_45 (by decide) ?_
        refine lv_goto (tgt := 50) hx hb dX4_beginsStep_46 (by decide) ?_
        exact nb_zret hx hb hr hlocks hP hS (nSo hf) rfl dX4_beginsStep_50
      · replace hf := nIf_t hc hf
        refine lv_aload_n hx hb dX4_beginsStep_27 rfl (lv_at hl 0 rfl) ?_
        refine va_ldcS hx hb hown (hE.2.2.2.2.1 (RX4, 107, "go", 3) (by decide +kernel)) dX4_beginsStep_28 ?_
        obtain ⟨r7, σ8, hc8, hf⟩ := nBd_e hf
        refine nb_callVi (As := [.ref (kt 3)]) (rest := []) ⟨hx, hb, hml, hown, hts⟩ (c_X4_isWord (D := D) (A := A) (cy := cy) (a := a) (kt := kt) (vt := vt) (l := l) (by decide) hc8) (cwV 1 hts gX4_beginsStep_X4_isWord rfl rfl rfl (by decide +kernel) ⟨Nat.le_of_ble_eq_true rfl, Nat.le_of_ble_eq_true rfl⟩) hE hP hS nbo_6 rfl rfl hl.1 rfl (Nat.le_of_ble_eq_true rfl) dX4_beginsStep_30 (fun H locs hP hS => ?_)
        refine lv_if_ne (tgt := 45) hx hb dX4_beginsStep_33 (by decide) (fun hc => ?_) (fun hc => ?_)
        · replace hf := nIf_f hc hf
          refine lv_iconst (v := 1) hx hb dX4_beginsStep_45 (by decide) ?_
          refine lv_goto (tgt := 50) hx hb dX4_beginsStep_46 (by decide) ?_
          exact nb_zret hx hb hr hlocks hP hS (nSo hf) rfl dX4_beginsStep_50
        · replace hf := nIf_t hc hf
          refine lv_aload_n hx hb dX4_beginsStep_36 rfl (lv_at hl 0 rfl) ?_
          refine va_ldcS hx hb hown (hE.2.2.2.2.1 (RX4, 109, "calm", 4) (by decide +kernel)) dX4_beginsStep_37 ?_
          obtain ⟨r9, σ10, hc10, hf⟩ := nBd_e hf
          refine nb_callVi (As := [.ref (kt 4)]) (rest := []) ⟨hx, hb, hml, hown, hts⟩ (c_X4_isWord (D := D) (A := A) (cy := cy) (a := a) (kt := kt) (vt := vt) (l := l) (by decide) hc10) (cwV 1 hts gX4_beginsStep_X4_isWord rfl rfl rfl (by decide +kernel) ⟨Nat.le_of_ble_eq_true rfl, Nat.le_of_ble_eq_true rfl⟩) hE hP hS nbo_6 rfl rfl hl.1 rfl (Nat.le_of_ble_eq_true rfl) dX4_beginsStep_39 (fun H locs hP hS => ?_)
          refine lv_if_eq (tgt := 49) hx hb dX4_beginsStep_42 (by decide) (fun hc => ?_) (fun hc => ?_)
          · replace hf := nIf_t hc hf
            refine lv_iconst (v := 0) hx hb dX4_beginsStep_49 (by decide) ?_
            exact nb_zret hx hb hr hlocks hP hS (nSo hf) rfl dX4_beginsStep_50
          · replace hf := nIf_f hc hf
            refine lv_iconst (v := 1) hx hb dX4_beginsStep_45 (by decide) ?_
            refine lv_goto (tgt := 50) hx hb dX4_beginsStep_46 (by decide) ?_
            exact nb_zret hx hb hr hlocks hP hS (nSo hf) rfl dX4_beginsStep_50
def l_X4_beginsStep_0 (N : Nat) : nS → Option (Int32 × nS) := b_X4_beginsStep_0 N
theorem kl_X4_beginsStep_0 {p : Program} {l : Launch} {e : Env} {s : State} {m : MethodId} {args : Array Value} {below : List Frame} {meth : Method} {c : Code} {D : va_G} {A : Nat → Prop} {cy : Nat → ClassId} {a kt vt : Nat → Nat} {N : Nat}   (C0 : nCx p s m args meth c cX4_beginsStep 1 (some .boolean) RX4 wsX4_beginsStep) (hE : nEn D A cy (NBw cy a) kt vt s) {z : Int32 × nS} : ∀ (σ : nS) (H : Heap) (locs : List Loc) (ls : Array Slot), lv_has ls 1 [(0, .ref (a 6))] → va_P D vwCl ((NBw cy a) σ) H → va_S A s.heap H locs → l_X4_beginsStep_0 N σ = some z → W p l e ({ frames := 5, cells := 0, slots := 0, locals := 107 } : Room) s m args below meth c H locs 0 0 (nQi below D A (NBw cy a) args s z) (F0 m 0 ls []) := by
  exact kb_X4_beginsStep_0 (N := N)  C0 hE
def f_X4_beginsStep (N : Nat) (σ : nS) : Option (Int32 × nS) := l_X4_beginsStep_0 N σ
set_option maxHeartbeats 4000000 in
set_option maxRecDepth 100000 in
theorem c_X4_beginsStep {l : Launch} {D : va_G} {A : Nat → Prop} {cy : Nat → ClassId} {a kt vt : Nat → Nat} {N : Nat}   {σ : nS} {r : Int32} {σ' : nS} (hf : f_X4_beginsStep N σ = some (r, σ')) : nMi l yX4_beginsStep wsX4_beginsStep ({ frames := 5, cells := 0, slots := 0, locals := 107 } : Room) D A cy (NBw cy a) kt vt [.ref (a 6)] σ r σ' := by
  refine Met.ofW (cc := cX4_beginsStep) (maxL := 1) (ret := (some .boolean)) (by decide) rfl ?_
  intro p e s m args below meth c s₁ B hml hv
  obtain ⟨rfl, hP, hE⟩ := hv
  have hl := lv_entry ([.ref (a 6)]) (n := 1) (Nat.le_of_ble_eq_true rfl)
  rw [lg_entry_eq]
  generalize (lg_sl ([.ref (a 6)]) ++ List.replicate (1 - (lg_sl ([.ref (a 6)])).length) Slot.unset).toArray = ls at hl ⊢
  have C0 : nCx p s m _ meth c cX4_beginsStep 1 (some .boolean) RX4 wsX4_beginsStep := ⟨B.exec, B.bytes, B.returns, hml, findClass_of_methodNamed B.named, atoms_spec (ws := wsX4_beginsStep) B.pre, B.notSynchronized⟩
  exact kl_X4_beginsStep_0 (N := N)  C0 hE (z := (r, σ')) σ  _ _ ls hl hP va_S.rf hf

/-! X4_clearStep -/
set_option maxRecDepth 20000 in
theorem iX4_clearStep_X7 : ∀ w ∈ u_ws RX7 TX7 9, w ∈ wsX4_clearStep := fun _ h => List.mem_cons_of_mem _ (List.mem_append_right _ h)
def b_X4_clearStep_0 (N : Nat) (σ : nS) (x1 : Int32) : Option (Int32 × nS) := nBd (f_X7_setCell N (σ.1 1 3) x1 1 0 σ) (fun r1 σ2 => nBd (f_X7_setCell N (σ2.1 1 3) x1 2 0 σ2) (fun r3 σ4 => nBd (f_X7_setCell N (σ4.1 1 3) x1 3 0 σ4) (fun r5 σ6 => nBd (f_X7_setCell N (σ6.1 1 3) x1 4 (-1) σ6) (fun r7 σ8 => some (0, σ8)))))
set_option maxHeartbeats 4000000 in
set_option maxRecDepth 100000 in
theorem kb_X4_clearStep_0 {p : Program} {l : Launch} {e : Env} {s : State} {m : MethodId} {args : Array Value} {below : List Frame} {meth : Method} {c : Code} {D : va_G} {A : Nat → Prop} {cy : Nat → ClassId} {a kt vt : Nat → Nat} {N : Nat}   (C0 : nCx p s m args meth c cX4_clearStep 2 none RX4 wsX4_clearStep) (hE : nEn D A cy (NBw cy a) kt vt s) {z : Int32 × nS} : ∀ (σ : nS) (x1 : Int32) (H : Heap) (locs : List Loc) (ls : Array Slot), lv_has ls 2 [(0, .ref (a 1)), (1, .int x1)] → va_P D vwCl ((NBw cy a) σ) H → va_S A s.heap H locs → b_X4_clearStep_0 N σ x1 = some z → W p l e ({ frames := 1, cells := 0, slots := 0, locals := 25 } : Room) s m args below meth c H locs 0 0 (nQv below D A (NBw cy a) args s z) (F0 m 0 ls []) := by
  obtain ⟨hx, hb, hr, hml, hown, hts, hlocks⟩ := C0
  intro σ x1 H locs ls hl hP hS hf
  unfold b_X4_clearStep_0 at hf
  refine lv_aload_n hx hb dX4_clearStep_0 rfl (lv_at hl 0 rfl) ?_
  refine lv_aload_n hx hb dX4_clearStep_1 rfl (lv_at hl 0 rfl) ?_
  refine nb_getN (ci := 7) hx hb hts iX4_clearStep_X7 hown hE hP 1 nbo_1 rfl 3 (by decide) (host := RX8) (by decide +kernel) rfl rfl dX4_clearStep_2 ?_
  refine lv_iload_n hx hb dX4_clearStep_5 rfl (lv_at hl 1 rfl) ?_
  refine lv_iconst (v := 1) hx hb dX4_clearStep_6 (by decide) ?_
  refine lv_iconst (v := 0) hx hb dX4_clearStep_7 (by decide) ?_
  obtain ⟨r1, σ2, hc2, hf⟩ := nBd_e hf
  refine nb_callVv (As := [.int (σ.1 1 3), .int x1, .int 1, .int 0]) (rest := []) ⟨hx, hb, hml, hown, hts⟩ (c_X7_setCell (D := D) (A := A) (cy := cy) (a := a) (kt := kt) (vt := vt) (l := l)  hc2) (cwV 4 hts gX4_clearStep_X7_setCell rfl rfl rfl (by decide +kernel) ⟨Nat.le_of_ble_eq_true rfl, Nat.le_of_ble_eq_true rfl⟩) hE hP hS nbo_1 rfl rfl hl.1 rfl (Nat.le_of_ble_eq_true rfl) dX4_clearStep_8 (fun H locs hP hS => ?_)
  refine lv_aload_n hx hb dX4_clearStep_11 rfl (lv_at hl 0 rfl) ?_
  refine lv_aload_n hx hb dX4_clearStep_12 rfl (lv_at hl 0 rfl) ?_
  refine nb_getN (ci := 7) hx hb hts iX4_clearStep_X7 hown hE hP 1 nbo_1 rfl 3 (by decide) (host := RX8) (by decide +kernel) rfl rfl dX4_clearStep_13 ?_
  refine lv_iload_n hx hb dX4_clearStep_16 rfl (lv_at hl 1 rfl) ?_
  refine lv_iconst (v := 2) hx hb dX4_clearStep_17 (by decide) ?_
  refine lv_iconst (v := 0) hx hb dX4_clearStep_18 (by decide) ?_
  obtain ⟨r3, σ4, hc4, hf⟩ := nBd_e hf
  refine nb_callVv (As := [.int (σ2.1 1 3), .int x1, .int 2, .int 0]) (rest := []) ⟨hx, hb, hml, hown, hts⟩ (c_X7_setCell (D := D) (A := A) (cy := cy) (a := a) (kt := kt) (vt := vt) (l := l)  hc4) (cwV 4 hts gX4_clearStep_X7_setCell rfl rfl rfl (by decide +kernel) ⟨Nat.le_of_ble_eq_true rfl, Nat.le_of_ble_eq_true rfl⟩) hE hP hS nbo_1 rfl rfl hl.1 rfl (Nat.le_of_ble_eq_true rfl) dX4_clearStep_19 (fun H locs hP hS => ?_)
  refine lv_aload_n hx hb dX4_clearStep_22 rfl (lv_at hl 0 rfl) ?_
  refine lv_aload_n hx hb dX4_clearStep_23 rfl (lv_at hl 0 rfl) ?_
  refine nb_getN (ci := 7) hx hb hts iX4_clearStep_X7 hown hE hP 1 nbo_1 rfl 3 (by decide) (host := RX8) (by decide +kernel) rfl rfl dX4_clearStep_24 ?_
  refine lv_iload_n hx hb dX4_clearStep_27 rfl (lv_at hl 1 rfl) ?_
  refine lv_iconst (v := 3) hx hb dX4_clearStep_28 (by decide) ?_
  refine lv_iconst (v := 0) hx hb dX4_clearStep_29 (by decide) ?_
  obtain ⟨r5, σ6, hc6, hf⟩ := nBd_e hf
  refine nb_callVv (As := [.int (σ4.1 1 3), .int x1, .int 3, .int 0]) (rest := []) ⟨hx, hb, hml, hown, hts⟩ (c_X7_setCell (D := D) (A := A) (cy := cy) (a := a) (kt := kt) (vt := vt) (l := l)  hc6) (cwV 4 hts gX4_clearStep_X7_setCell rfl rfl rfl (by decide +kernel) ⟨Nat.le_of_ble_eq_true rfl, Nat.le_of_ble_eq_true rfl⟩) hE hP hS nbo_1 rfl rfl hl.1 rfl (Nat.le_of_ble_eq_true rfl) dX4_clearStep_30 (fun H locs hP hS => ?_)
  refine lv_aload_n hx hb dX4_clearStep_33 rfl (lv_at hl 0 rfl) ?_
  refine lv_aload_n hx hb dX4_clearStep_34 rfl (lv_at hl 0 rfl) ?_
  refine nb_getN (ci := 7) hx hb hts iX4_clearStep_X7 hown hE hP 1 nbo_1 rfl 3 (by decide) (host := RX8) (by decide +kernel) rfl rfl dX4_clearStep_35 ?_
  refine lv_iload_n hx hb dX4_clearStep_38 rfl (lv_at hl 1 rfl) ?_
  refine lv_iconst (v := 4) hx hb dX4_clearStep_39 (by decide) ?_
  refine lv_iconst (v := (-1)) hx hb dX4_clearStep_40 (by decide) ?_
  obtain ⟨r7, σ8, hc8, hf⟩ := nBd_e hf
  refine nb_callVv (As := [.int (σ6.1 1 3), .int x1, .int 4, .int (-1)]) (rest := []) ⟨hx, hb, hml, hown, hts⟩ (c_X7_setCell (D := D) (A := A) (cy := cy) (a := a) (kt := kt) (vt := vt) (l := l)  hc8) (cwV 4 hts gX4_clearStep_X7_setCell rfl rfl rfl (by decide +kernel) ⟨Nat.le_of_ble_eq_true rfl, Nat.le_of_ble_eq_true rfl⟩) hE hP hS nbo_1 rfl rfl hl.1 rfl (Nat.le_of_ble_eq_true rfl) dX4_clearStep_41 (fun H locs hP hS => ?_)
  exact nb_vret hx hb hr hlocks hP hS (nSo hf) dX4_clearStep_44
def l_X4_clearStep_0 (N : Nat) : nS → Int32 → Option (Int32 × nS) := b_X4_clearStep_0 N
theorem kl_X4_clearStep_0 {p : Program} {l : Launch} {e : Env} {s : State} {m : MethodId} {args : Array Value} {below : List Frame} {meth : Method} {c : Code} {D : va_G} {A : Nat → Prop} {cy : Nat → ClassId} {a kt vt : Nat → Nat} {N : Nat}   (C0 : nCx p s m args meth c cX4_clearStep 2 none RX4 wsX4_clearStep) (hE : nEn D A cy (NBw cy a) kt vt s) {z : Int32 × nS} : ∀ (σ : nS) (x1 : Int32) (H : Heap) (locs : List Loc) (ls : Array Slot), lv_has ls 2 [(0, .ref (a 1)), (1, .int x1)] → va_P D vwCl ((NBw cy a) σ) H → va_S A s.heap H locs → l_X4_clearStep_0 N σ x1 = some z → W p l e ({ frames := 1, cells := 0, slots := 0, locals := 25 } : Room) s m args below meth c H locs 0 0 (nQv below D A (NBw cy a) args s z) (F0 m 0 ls []) := by
  exact kb_X4_clearStep_0 (N := N)  C0 hE
def f_X4_clearStep (N : Nat) (x1 : Int32) (σ : nS) : Option (Int32 × nS) := l_X4_clearStep_0 N σ x1
set_option maxHeartbeats 4000000 in
set_option maxRecDepth 100000 in
theorem c_X4_clearStep {l : Launch} {D : va_G} {A : Nat → Prop} {cy : Nat → ClassId} {a kt vt : Nat → Nat} {N : Nat}   {x1 : Int32} {σ : nS} {r : Int32} {σ' : nS} (hf : f_X4_clearStep N x1 σ = some (r, σ')) : nMv l yX4_clearStep wsX4_clearStep ({ frames := 1, cells := 0, slots := 0, locals := 25 } : Room) D A cy (NBw cy a) kt vt [.ref (a 1), .int x1] σ σ' := by
  refine Met.ofW (cc := cX4_clearStep) (maxL := 2) (ret := none) (by decide) rfl ?_
  intro p e s m args below meth c s₁ B hml hv
  obtain ⟨rfl, hP, hE⟩ := hv
  have hl := lv_entry ([.ref (a 1), .int x1]) (n := 2) (Nat.le_of_ble_eq_true rfl)
  rw [lg_entry_eq]
  generalize (lg_sl ([.ref (a 1), .int x1]) ++ List.replicate (2 - (lg_sl ([.ref (a 1), .int x1])).length) Slot.unset).toArray = ls at hl ⊢
  have C0 : nCx p s m _ meth c cX4_clearStep 2 none RX4 wsX4_clearStep := ⟨B.exec, B.bytes, B.returns, hml, findClass_of_methodNamed B.named, atoms_spec (ws := wsX4_clearStep) B.pre, B.notSynchronized⟩
  exact kl_X4_clearStep_0 (N := N)  C0 hE (z := (r, σ')) σ x1 _ _ ls hl hP va_S.rf hf

/-! X4_readDo -/
set_option maxRecDepth 20000 in
theorem iX4_readDo_X7 : ∀ w ∈ u_ws RX7 TX7 9, w ∈ wsX4_readDo := fun _ h => List.mem_cons_of_mem _ (List.mem_append_left _ (List.mem_append_right _ h))
def b_X4_readDo_47 (N : Nat) (σ : nS) (x2 : Int32) (x3 : Int32) (y1 : Int32) (y2 : Int32) (y3 : Int32) (y4 : Int32) : Option (Int32 × nS) := nBd (f_X7_setCell N y1 y2 y3 y4 σ) (fun r1 σ2 => (if x3 = 0 then nBd (f_X4_takeWord N 6 σ2) (fun r3 σ4 => (if r3 = 0 then some (0, σ4) else nLet ((σ4.1 1 0) - (1 : Int32) : Int32) (fun v5 => nBd (f_X4_takeNumber N 0 v5 σ4) (fun r6 σ7 => (if r6 = 0 then some (0, σ7) else nBd (f_X4_keep N x2 2 σ7) (fun r8 σ9 => nBd (f_X4_takeWord N 7 σ9) (fun r10 σ11 => (if r10 = 0 then some (0, σ11) else nBd (f_X4_takeNumber N 1 60 σ11) (fun r12 σ13 => (if r12 = 0 then some (0, σ13) else nBd (f_X4_keep N x2 3 σ13) (fun r14 σ15 => nBd (f_X4_isWord N 8 σ15) (fun r16 σ17 => (if r16 = 0 then some (1, σ17) else nBd (f_X4_advance N σ17) (fun r18 σ19 => nLet ((σ19.1 1 0) - (1 : Int32) : Int32) (fun v20 => nBd (f_X4_takeNumber N 0 v20 σ19) (fun r21 σ22 => (if r21 = 0 then some (0, σ22) else nBd (f_X4_keep N x2 4 σ22) (fun r23 σ24 => (if r23 = 0 then some (0, σ24) else nBd (f_X4_takeWord N 9 σ24) (fun r25 σ26 => (if r25 = 0 then some (0, σ26) else some (1, σ26)))))))))))))))))))))) else nBd (f_X4_takeWord N 5 σ2) (fun r27 σ28 => (if r27 = 0 then some (0, σ28) else nLet ((σ28.1 1 0) - (1 : Int32) : Int32) (fun v29 => nBd (f_X4_takeNumber N 0 v29 σ28) (fun r30 σ31 => (if r30 = 0 then some (0, σ31) else nBd (f_X4_keep N x2 2 σ31) (fun r32 σ33 => nBd (f_X4_takeWord N 7 σ33) (fun r34 σ35 => (if r34 = 0 then some (0, σ35) else nBd (f_X4_takeNumber N 1 60 σ35) (fun r36 σ37 => (if r36 = 0 then some (0, σ37) else nBd (f_X4_keep N x2 3 σ37) (fun r38 σ39 => nBd (f_X4_isWord N 8 σ39) (fun r40 σ41 => (if r40 = 0 then some (1, σ41) else nBd (f_X4_advance N σ41) (fun r42 σ43 => nLet ((σ43.1 1 0) - (1 : Int32) : Int32) (fun v44 => nBd (f_X4_takeNumber N 0 v44 σ43) (fun r45 σ46 => (if r45 = 0 then some (0, σ46) else nBd (f_X4_keep N x2 4 σ46) (fun r47 σ48 => (if r47 = 0 then some (0, σ48) else nBd (f_X4_takeWord N 9 σ48) (fun r49 σ50 => (if r49 = 0 then some (0, σ50) else some (1, σ50))))))))))))))))))))))))
set_option maxHeartbeats 4000000 in
set_option maxRecDepth 100000 in
theorem kb_X4_readDo_47 {p : Program} {l : Launch} {e : Env} {s : State} {m : MethodId} {args : Array Value} {below : List Frame} {meth : Method} {c : Code} {D : va_G} {A : Nat → Prop} {cy : Nat → ClassId} {a kt vt : Nat → Nat} {N : Nat}   (C0 : nCx p s m args meth c cX4_readDo 4 (some .boolean) RX4 wsX4_readDo) (hE : nEn D A cy (NBw cy a) kt vt s) {z : Int32 × nS} : ∀ (σ : nS) (x2 : Int32) (x3 : Int32) (y1 : Int32) (y2 : Int32) (y3 : Int32) (y4 : Int32) (H : Heap) (locs : List Loc) (ls : Array Slot), lv_has ls 4 [(0, .ref (a 6)), (1, .ref (a 1)), (2, .int x2), (3, .int x3)] → va_P D vwCl ((NBw cy a) σ) H → va_S A s.heap H locs → b_X4_readDo_47 N σ x2 x3 y1 y2 y3 y4 = some z → W p l e ({ frames := 6, cells := 0, slots := 0, locals := 128 } : Room) s m args below meth c H locs 0 0 (nQi below D A (NBw cy a) args s z) (F0 m 47 ls [.int y4, .int y3, .int y2, .int y1, .ref (a 1)]) := by
  obtain ⟨hx, hb, hr, hml, hown, hts, hlocks⟩ := C0
  intro σ x2 x3 y1 y2 y3 y4 H locs ls hl hP hS hf
  unfold b_X4_readDo_47 at hf
  obtain ⟨r1, σ2, hc2, hf⟩ := nBd_e hf
  refine nb_callVv (As := [.int y1, .int y2, .int y3, .int y4]) (rest := []) ⟨hx, hb, hml, hown, hts⟩ (c_X7_setCell (D := D) (A := A) (cy := cy) (a := a) (kt := kt) (vt := vt) (l := l)  hc2) (cwV 4 hts gX4_readDo_X7_setCell rfl rfl rfl (by decide +kernel) ⟨Nat.le_of_ble_eq_true rfl, Nat.le_of_ble_eq_true rfl⟩) hE hP hS nbo_1 rfl rfl hl.1 rfl (Nat.le_of_ble_eq_true rfl) dX4_readDo_47 (fun H locs hP hS => ?_)
  refine lv_aload_n hx hb dX4_readDo_50 rfl (lv_at hl 0 rfl) ?_
  refine lv_iload_n hx hb dX4_readDo_51 rfl (lv_at hl 3 rfl) ?_
  refine lv_if_eq (tgt := 60) hx hb dX4_readDo_52 (by decide) (fun hc => ?_) (fun hc => ?_)
  · replace hf := nIf_t hc hf
    refine va_ldcS hx hb hown (hE.2.2.2.2.1 (RX4, 148, "right", 6) (by decide +kernel)) dX4_readDo_60 ?_
    obtain ⟨r3, σ4, hc4, hf⟩ := nBd_e hf
    refine nb_callVi (As := [.ref (kt 6)]) (rest := []) ⟨hx, hb, hml, hown, hts⟩ (c_X4_takeWord (D := D) (A := A) (cy := cy) (a := a) (kt := kt) (vt := vt) (l := l) (by decide) hc4) (cwV 1 hts gX4_readDo_X4_takeWord rfl rfl rfl (by decide +kernel) ⟨Nat.le_of_ble_eq_true rfl, Nat.le_of_ble_eq_true rfl⟩) hE hP hS nbo_6 rfl rfl hl.1 rfl (Nat.le_of_ble_eq_true rfl) dX4_readDo_62 (fun H locs hP hS => ?_)
    refine lv_if_eq (tgt := 82) hx hb dX4_readDo_65 (by decide) (fun hc => ?_) (fun hc => ?_)
    · replace hf := nIf_t hc hf
      refine lv_iconst (v := 0) hx hb dX4_readDo_82 (by decide) ?_
      exact nb_zret hx hb hr hlocks hP hS (nSo hf) rfl dX4_readDo_83
    · replace hf := nIf_f hc hf
      refine lv_aload_n hx hb dX4_readDo_68 rfl (lv_at hl 0 rfl) ?_
      refine lv_iconst (v := 0) hx hb dX4_readDo_69 (by decide) ?_
      refine lv_aload_n hx hb dX4_readDo_70 rfl (lv_at hl 1 rfl) ?_
      refine nb_getN (ci := 7) hx hb hts iX4_readDo_X7 hown hE hP 1 nbo_1 rfl 0 (by decide) (host := RX8) (by decide +kernel) rfl rfl dX4_readDo_71 ?_
      refine lv_iconst (v := 1) hx hb dX4_readDo_74 (by decide) ?_
      refine lv_isub hx hb dX4_readDo_75 ?_
      refine lv_topi (fun v5 ev5 => ?_)
      replace hf := nLet_e hf ev5
      obtain ⟨r6, σ7, hc7, hf⟩ := nBd_e hf
      refine nb_callVi (As := [.int 0, .int v5]) (rest := []) ⟨hx, hb, hml, hown, hts⟩ (c_X4_takeNumber (D := D) (A := A) (cy := cy) (a := a) (kt := kt) (vt := vt) (l := l)  hc7) (cwV 2 hts gX4_readDo_X4_takeNumber rfl rfl rfl (by decide +kernel) ⟨Nat.le_of_ble_eq_true rfl, Nat.le_of_ble_eq_true rfl⟩) hE hP hS nbo_6 rfl rfl hl.1 rfl (Nat.le_of_ble_eq_true rfl) dX4_readDo_76 (fun H locs hP hS => ?_)
      refine lv_if_ne (tgt := 84) hx hb dX4_readDo_79 (by decide) (fun hc => ?_) (fun hc => ?_)
      · replace hf := nIf_f hc hf
        refine lv_aload_n hx hb dX4_readDo_84 rfl (lv_at hl 0 rfl) ?_
        refine lv_aload_n hx hb dX4_readDo_85 rfl (lv_at hl 1 rfl) ?_
        refine lv_iload_n hx hb dX4_readDo_86 rfl (lv_at hl 2 rfl) ?_
        refine lv_iconst (v := 2) hx hb dX4_readDo_87 (by decide) ?_
        obtain ⟨r8, σ9, hc9, hf⟩ := nBd_e hf
        refine nb_callVi (As := [.ref (a 1), .int x2, .int 2]) (rest := []) ⟨hx, hb, hml, hown, hts⟩ (c_X4_keep (D := D) (A := A) (cy := cy) (a := a) (kt := kt) (vt := vt) (l := l)  hc9) (cwV 3 hts gX4_readDo_X4_keep rfl rfl rfl (by decide +kernel) ⟨Nat.le_of_ble_eq_true rfl, Nat.le_of_ble_eq_true rfl⟩) hE hP hS nbo_6 rfl rfl hl.1 rfl (Nat.le_of_ble_eq_true rfl) dX4_readDo_88 (fun H locs hP hS => ?_)
        refine lv_pop hx hb dX4_readDo_91 rfl ?_
        refine lv_aload_n hx hb dX4_readDo_92 rfl (lv_at hl 0 rfl) ?_
        refine va_ldcS hx hb hown (hE.2.2.2.2.1 (RX4, 153, "takes", 7) (by decide +kernel)) dX4_readDo_93 ?_
        obtain ⟨r10, σ11, hc11, hf⟩ := nBd_e hf
        refine nb_callVi (As := [.ref (kt 7)]) (rest := []) ⟨hx, hb, hml, hown, hts⟩ (c_X4_takeWord (D := D) (A := A) (cy := cy) (a := a) (kt := kt) (vt := vt) (l := l) (by decide) hc11) (cwV 1 hts gX4_readDo_X4_takeWord rfl rfl rfl (by decide +kernel) ⟨Nat.le_of_ble_eq_true rfl, Nat.le_of_ble_eq_true rfl⟩) hE hP hS nbo_6 rfl rfl hl.1 rfl (Nat.le_of_ble_eq_true rfl) dX4_readDo_95 (fun H locs hP hS => ?_)
        refine lv_if_eq (tgt := 111) hx hb dX4_readDo_98 (by decide) (fun hc => ?_) (fun hc => ?_)
        · replace hf := nIf_t hc hf
          refine lv_iconst (v := 0) hx hb dX4_readDo_111 (by decide) ?_
          exact nb_zret hx hb hr hlocks hP hS (nSo hf) rfl dX4_readDo_112
        · replace hf := nIf_f hc hf
          refine lv_aload_n hx hb dX4_readDo_101 rfl (lv_at hl 0 rfl) ?_
          refine lv_iconst (v := 1) hx hb dX4_readDo_102 (by decide) ?_
          refine lv_bipush (v := 60) hx hb dX4_readDo_103 (by decide) ?_
          obtain ⟨r12, σ13, hc13, hf⟩ := nBd_e hf
          refine nb_callVi (As := [.int 1, .int 60]) (rest := []) ⟨hx, hb, hml, hown, hts⟩ (c_X4_takeNumber (D := D) (A := A) (cy := cy) (a := a) (kt := kt) (vt := vt) (l := l)  hc13) (cwV 2 hts gX4_readDo_X4_takeNumber rfl rfl rfl (by decide +kernel) ⟨Nat.le_of_ble_eq_true rfl, Nat.le_of_ble_eq_true rfl⟩) hE hP hS nbo_6 rfl rfl hl.1 rfl (Nat.le_of_ble_eq_true rfl) dX4_readDo_105 (fun H locs hP hS => ?_)
          refine lv_if_ne (tgt := 113) hx hb dX4_readDo_108 (by decide) (fun hc => ?_) (fun hc => ?_)
          · replace hf := nIf_f hc hf
            refine lv_aload_n hx hb dX4_readDo_113 rfl (lv_at hl 0 rfl) ?_
            refine lv_aload_n hx hb dX4_readDo_114 rfl (lv_at hl 1 rfl) ?_
            refine lv_iload_n hx hb dX4_readDo_115 rfl (lv_at hl 2 rfl) ?_
            refine lv_iconst (v := 3) hx hb dX4_readDo_116 (by decide) ?_
            obtain ⟨r14, σ15, hc15, hf⟩ := nBd_e hf
            refine nb_callVi (As := [.ref (a 1), .int x2, .int 3]) (rest := []) ⟨hx, hb, hml, hown, hts⟩ (c_X4_keep (D := D) (A := A) (cy := cy) (a := a) (kt := kt) (vt := vt) (l := l)  hc15) (cwV 3 hts gX4_readDo_X4_keep rfl rfl rfl (by decide +kernel) ⟨Nat.le_of_ble_eq_true rfl, Nat.le_of_ble_eq_true rfl⟩) hE hP hS nbo_6 rfl rfl hl.1 rfl (Nat.le_of_ble_eq_true rfl) dX4_readDo_117 (fun H locs hP hS => ?_)
            refine lv_pop hx hb dX4_readDo_120 rfl ?_
            refine lv_aload_n hx hb dX4_readDo_121 rfl (lv_at hl 0 rfl) ?_
            refine va_ldcS hx hb hown (hE.2.2.2.2.1 (RX4, 155, "if", 8) (by decide +kernel)) dX4_readDo_122 ?_
            obtain ⟨r16, σ17, hc17, hf⟩ := nBd_e hf
            refine nb_callVi (As := [.ref (kt 8)]) (rest := []) ⟨hx, hb, hml, hown, hts⟩ (c_X4_isWord (D := D) (A := A) (cy := cy) (a := a) (kt := kt) (vt := vt) (l := l) (by decide) hc17) (cwV 1 hts gX4_readDo_X4_isWord rfl rfl rfl (by decide +kernel) ⟨Nat.le_of_ble_eq_true rfl, Nat.le_of_ble_eq_true rfl⟩) hE hP hS nbo_6 rfl rfl hl.1 rfl (Nat.le_of_ble_eq_true rfl) dX4_readDo_124 (fun H locs hP hS => ?_)
            refine lv_if_ne (tgt := 132) hx hb dX4_readDo_127 (by decide) (fun hc => ?_) (fun hc => ?_)
            · replace hf := nIf_f hc hf
              refine lv_aload_n hx hb dX4_readDo_132 rfl (lv_at hl 0 rfl) ?_
              obtain ⟨r18, σ19, hc19, hf⟩ := nBd_e hf
              refine nb_callVv (As := []) (rest := []) ⟨hx, hb, hml, hown, hts⟩ (c_X4_advance (D := D) (A := A) (cy := cy) (a := a) (kt := kt) (vt := vt) (l := l)  hc19) (cwV 0 hts gX4_readDo_X4_advance rfl rfl rfl (by decide +kernel) ⟨Nat.le_of_ble_eq_true rfl, Nat.le_of_ble_eq_true rfl⟩) hE hP hS nbo_6 rfl rfl hl.1 rfl (Nat.le_of_ble_eq_true rfl) dX4_readDo_133 (fun H locs hP hS => ?_)
              refine lv_aload_n hx hb dX4_readDo_136 rfl (lv_at hl 0 rfl) ?_
              refine lv_iconst (v := 0) hx hb dX4_readDo_137 (by decide) ?_
              refine lv_aload_n hx hb dX4_readDo_138 rfl (lv_at hl 1 rfl) ?_
              refine nb_getN (ci := 7) hx hb hts iX4_readDo_X7 hown hE hP 1 nbo_1 rfl 0 (by decide) (host := RX8) (by decide +kernel) rfl rfl dX4_readDo_139 ?_
              refine lv_iconst (v := 1) hx hb dX4_readDo_142 (by decide) ?_
              refine lv_isub hx hb dX4_readDo_143 ?_
              refine lv_topi (fun v20 ev20 => ?_)
              replace hf := nLet_e hf ev20
              obtain ⟨r21, σ22, hc22, hf⟩ := nBd_e hf
              refine nb_callVi (As := [.int 0, .int v20]) (rest := []) ⟨hx, hb, hml, hown, hts⟩ (c_X4_takeNumber (D := D) (A := A) (cy := cy) (a := a) (kt := kt) (vt := vt) (l := l)  hc22) (cwV 2 hts gX4_readDo_X4_takeNumber rfl rfl rfl (by decide +kernel) ⟨Nat.le_of_ble_eq_true rfl, Nat.le_of_ble_eq_true rfl⟩) hE hP hS nbo_6 rfl rfl hl.1 rfl (Nat.le_of_ble_eq_true rfl) dX4_readDo_144 (fun H locs hP hS => ?_)
              refine lv_if_eq (tgt := 173) hx hb dX4_readDo_147 (by decide) (fun hc => ?_) (fun hc => ?_)
              · replace hf := nIf_t hc hf
                refine lv_iconst (v := 0) hx hb dX4_readDo_173 (by decide) ?_
                exact nb_zret hx hb hr hlocks hP hS (nSo hf) rfl dX4_readDo_174
              · replace hf := nIf_f hc hf
                refine lv_aload_n hx hb dX4_readDo_150 rfl (lv_at hl 0 rfl) ?_
                refine lv_aload_n hx hb dX4_readDo_151 rfl (lv_at hl 1 rfl) ?_
                refine lv_iload_n hx hb dX4_readDo_152 rfl (lv_at hl 2 rfl) ?_
                refine lv_iconst (v := 4) hx hb dX4_readDo_153 (by decide) ?_
                obtain ⟨r23, σ24, hc24, hf⟩ := nBd_e hf
                refine nb_callVi (As := [.ref (a 1), .int x2, .int 4]) (rest := []) ⟨hx, hb, hml, hown, hts⟩ (c_X4_keep (D := D) (A := A) (cy := cy) (a := a) (kt := kt) (vt := vt) (l := l)  hc24) (cwV 3 hts gX4_readDo_X4_keep rfl rfl rfl (by decide +kernel) ⟨Nat.le_of_ble_eq_true rfl, Nat.le_of_ble_eq_true rfl⟩) hE hP hS nbo_6 rfl rfl hl.1 rfl (Nat.le_of_ble_eq_true rfl) dX4_readDo_154 (fun H locs hP hS => ?_)
                refine lv_if_eq (tgt := 173) hx hb dX4_readDo_157 (by decide) (fun hc => ?_) (fun hc => ?_)
                · replace hf := nIf_t hc hf
                  refine lv_iconst (v := 0) hx hb dX4_readDo_173 (by decide) ?_
                  exact nb_zret hx hb hr hlocks hP hS (nSo hf) rfl dX4_readDo_174
                · replace hf := nIf_f hc hf
                  refine lv_aload_n hx hb dX4_readDo_160 rfl (lv_at hl 0 rfl) ?_
                  refine va_ldcS hx hb hown (hE.2.2.2.2.1 (RX4, 157, "harm", 9) (by decide +kernel)) dX4_readDo_161 ?_
                  obtain ⟨r25, σ26, hc26, hf⟩ := nBd_e hf
                  refine nb_callVi (As := [.ref (kt 9)]) (rest := []) ⟨hx, hb, hml, hown, hts⟩ (c_X4_takeWord (D := D) (A := A) (cy := cy) (a := a) (kt := kt) (vt := vt) (l := l) (by decide) hc26) (cwV 1 hts gX4_readDo_X4_takeWord rfl rfl rfl (by decide +kernel) ⟨Nat.le_of_ble_eq_true rfl, Nat.le_of_ble_eq_true rfl⟩) hE hP hS nbo_6 rfl rfl hl.1 rfl (Nat.le_of_ble_eq_true rfl) dX4_readDo_163 (fun H locs hP hS => ?_)
                  refine lv_if_eq (tgt := 173) hx hb dX4_readDo_166 (by decide) (fun hc => ?_) (fun hc => ?_)
                  · replace hf := nIf_t hc hf
                    refine lv_iconst (v := 0) hx hb dX4_readDo_173 (by decide) ?_
                    exact nb_zret hx hb hr hlocks hP hS (nSo hf) rfl dX4_readDo_174
                  · replace hf := nIf_f hc hf
                    refine lv_iconst (v := 1) hx hb dX4_readDo_169 (by decide) ?_
                    refine lv_goto (tgt := 174) hx hb dX4_readDo_170 (by decide) ?_
                    exact nb_zret hx hb hr hlocks hP hS (nSo hf) rfl dX4_readDo_174
            · replace hf := nIf_t hc hf
              refine lv_iconst (v := 1) hx hb dX4_readDo_130 (by decide) ?_
              exact nb_zret hx hb hr hlocks hP hS (nSo hf) rfl dX4_readDo_131
          · replace hf := nIf_t hc hf
            refine lv_iconst (v := 0) hx hb dX4_readDo_111 (by decide) ?_
            exact nb_zret hx hb hr hlocks hP hS (nSo hf) rfl dX4_readDo_112
      · replace hf := nIf_t hc hf
        refine lv_iconst (v := 0) hx hb dX4_readDo_82 (by decide) ?_
        exact nb_zret hx hb hr hlocks hP hS (nSo hf) rfl dX4_readDo_83
  · replace hf := nIf_f hc hf
    refine va_ldcS hx hb hown (hE.2.2.2.2.1 (RX4, 146, "wrong", 5) (by decide +kernel)) dX4_readDo_55 ?_
    refine lv_goto (tgt := 62) hx hb dX4_readDo_57 (by decide) ?_
    obtain ⟨r27, σ28, hc28, hf⟩ := nBd_e hf
    refine nb_callVi (As := [.ref (kt 5)]) (rest := []) ⟨hx, hb, hml, hown, hts⟩ (c_X4_takeWord (D := D) (A := A) (cy := cy) (a := a) (kt := kt) (vt := vt) (l := l) (by decide) hc28) (cwV 1 hts gX4_readDo_X4_takeWord rfl rfl rfl (by decide +kernel) ⟨Nat.le_of_ble_eq_true rfl, Nat.le_of_ble_eq_true rfl⟩) hE hP hS nbo_6 rfl rfl hl.1 rfl (Nat.le_of_ble_eq_true rfl) dX4_readDo_62 (fun H locs hP hS => ?_)
    refine lv_if_eq (tgt := 82) hx hb dX4_readDo_65 (by decide) (fun hc => ?_) (fun hc => ?_)
    · replace hf := nIf_t hc hf
      refine lv_iconst (v := 0) hx hb dX4_readDo_82 (by decide) ?_
      exact nb_zret hx hb hr hlocks hP hS (nSo hf) rfl dX4_readDo_83
    · replace hf := nIf_f hc hf
      refine lv_aload_n hx hb dX4_readDo_68 rfl (lv_at hl 0 rfl) ?_
      refine lv_iconst (v := 0) hx hb dX4_readDo_69 (by decide) ?_
      refine lv_aload_n hx hb dX4_readDo_70 rfl (lv_at hl 1 rfl) ?_
      refine nb_getN (ci := 7) hx hb hts iX4_readDo_X7 hown hE hP 1 nbo_1 rfl 0 (by decide) (host := RX8) (by decide +kernel) rfl rfl dX4_readDo_71 ?_
      refine lv_iconst (v := 1) hx hb dX4_readDo_74 (by decide) ?_
      refine lv_isub hx hb dX4_readDo_75 ?_
      refine lv_topi (fun v29 ev29 => ?_)
      replace hf := nLet_e hf ev29
      obtain ⟨r30, σ31, hc31, hf⟩ := nBd_e hf
      refine nb_callVi (As := [.int 0, .int v29]) (rest := []) ⟨hx, hb, hml, hown, hts⟩ (c_X4_takeNumber (D := D) (A := A) (cy := cy) (a := a) (kt := kt) (vt := vt) (l := l)  hc31) (cwV 2 hts gX4_readDo_X4_takeNumber rfl rfl rfl (by decide +kernel) ⟨Nat.le_of_ble_eq_true rfl, Nat.le_of_ble_eq_true rfl⟩) hE hP hS nbo_6 rfl rfl hl.1 rfl (Nat.le_of_ble_eq_true rfl) dX4_readDo_76 (fun H locs hP hS => ?_)
      refine lv_if_ne (tgt := 84) hx hb dX4_readDo_79 (by decide) (fun hc => ?_) (fun hc => ?_)
      · replace hf := nIf_f hc hf
        refine lv_aload_n hx hb dX4_readDo_84 rfl (lv_at hl 0 rfl) ?_
        refine lv_aload_n hx hb dX4_readDo_85 rfl (lv_at hl 1 rfl) ?_
        refine lv_iload_n hx hb dX4_readDo_86 rfl (lv_at hl 2 rfl) ?_
        refine lv_iconst (v := 2) hx hb dX4_readDo_87 (by decide) ?_
        obtain ⟨r32, σ33, hc33, hf⟩ := nBd_e hf
        refine nb_callVi (As := [.ref (a 1), .int x2, .int 2]) (rest := []) ⟨hx, hb, hml, hown, hts⟩ (c_X4_keep (D := D) (A := A) (cy := cy) (a := a) (kt := kt) (vt := vt) (l := l)  hc33) (cwV 3 hts gX4_readDo_X4_keep rfl rfl rfl (by decide +kernel) ⟨Nat.le_of_ble_eq_true rfl, Nat.le_of_ble_eq_true rfl⟩) hE hP hS nbo_6 rfl rfl hl.1 rfl (Nat.le_of_ble_eq_true rfl) dX4_readDo_88 (fun H locs hP hS => ?_)
        refine lv_pop hx hb dX4_readDo_91 rfl ?_
        refine lv_aload_n hx hb dX4_readDo_92 rfl (lv_at hl 0 rfl) ?_
        refine va_ldcS hx hb hown (hE.2.2.2.2.1 (RX4, 153, "takes", 7) (by decide +kernel)) dX4_readDo_93 ?_
        obtain ⟨r34, σ35, hc35, hf⟩ := nBd_e hf
        refine nb_callVi (As := [.ref (kt 7)]) (rest := []) ⟨hx, hb, hml, hown, hts⟩ (c_X4_takeWord (D := D) (A := A) (cy := cy) (a := a) (kt := kt) (vt := vt) (l := l) (by decide) hc35) (cwV 1 hts gX4_readDo_X4_takeWord rfl rfl rfl (by decide +kernel) ⟨Nat.le_of_ble_eq_true rfl, Nat.le_of_ble_eq_true rfl⟩) hE hP hS nbo_6 rfl rfl hl.1 rfl (Nat.le_of_ble_eq_true rfl) dX4_readDo_95 (fun H locs hP hS => ?_)
        refine lv_if_eq (tgt := 111) hx hb dX4_readDo_98 (by decide) (fun hc => ?_) (fun hc => ?_)
        · replace hf := nIf_t hc hf
          refine lv_iconst (v := 0) hx hb dX4_readDo_111 (by decide) ?_
          exact nb_zret hx hb hr hlocks hP hS (nSo hf) rfl dX4_readDo_112
        · replace hf := nIf_f hc hf
          refine lv_aload_n hx hb dX4_readDo_101 rfl (lv_at hl 0 rfl) ?_
          refine lv_iconst (v := 1) hx hb dX4_readDo_102 (by decide) ?_
          refine lv_bipush (v := 60) hx hb dX4_readDo_103 (by decide) ?_
          obtain ⟨r36, σ37, hc37, hf⟩ := nBd_e hf
          refine nb_callVi (As := [.int 1, .int 60]) (rest := []) ⟨hx, hb, hml, hown, hts⟩ (c_X4_takeNumber (D := D) (A := A) (cy := cy) (a := a) (kt := kt) (vt := vt) (l := l)  hc37) (cwV 2 hts gX4_readDo_X4_takeNumber rfl rfl rfl (by decide +kernel) ⟨Nat.le_of_ble_eq_true rfl, Nat.le_of_ble_eq_true rfl⟩) hE hP hS nbo_6 rfl rfl hl.1 rfl (Nat.le_of_ble_eq_true rfl) dX4_readDo_105 (fun H locs hP hS => ?_)
          refine lv_if_ne (tgt := 113) hx hb dX4_readDo_108 (by decide) (fun hc => ?_) (fun hc => ?_)
          · replace hf := nIf_f hc hf
            refine lv_aload_n hx hb dX4_readDo_113 rfl (lv_at hl 0 rfl) ?_
            refine lv_aload_n hx hb dX4_readDo_114 rfl (lv_at hl 1 rfl) ?_
            refine lv_iload_n hx hb dX4_readDo_115 rfl (lv_at hl 2 rfl) ?_
            refine lv_iconst (v := 3) hx hb dX4_readDo_116 (by decide) ?_
            obtain ⟨r38, σ39, hc39, hf⟩ := nBd_e hf
            refine nb_callVi (As := [.ref (a 1), .int x2, .int 3]) (rest := []) ⟨hx, hb, hml, hown, hts⟩ (c_X4_keep (D := D) (A := A) (cy := cy) (a := a) (kt := kt) (vt := vt) (l := l)  hc39) (cwV 3 hts gX4_readDo_X4_keep rfl rfl rfl (by decide +kernel) ⟨Nat.le_of_ble_eq_true rfl, Nat.le_of_ble_eq_true rfl⟩) hE hP hS nbo_6 rfl rfl hl.1 rfl (Nat.le_of_ble_eq_true rfl) dX4_readDo_117 (fun H locs hP hS => ?_)
            refine lv_pop hx hb dX4_readDo_120 rfl ?_
            refine lv_aload_n hx hb dX4_readDo_121 rfl (lv_at hl 0 rfl) ?_
            refine va_ldcS hx hb hown (hE.2.2.2.2.1 (RX4, 155, "if", 8) (by decide +kernel)) dX4_readDo_122 ?_
            obtain ⟨r40, σ41, hc41, hf⟩ := nBd_e hf
            refine nb_callVi (As := [.ref (kt 8)]) (rest := []) ⟨hx, hb, hml, hown, hts⟩ (c_X4_isWord (D := D) (A := A) (cy := cy) (a := a) (kt := kt) (vt := vt) (l := l) (by decide) hc41) (cwV 1 hts gX4_readDo_X4_isWord rfl rfl rfl (by decide +kernel) ⟨Nat.le_of_ble_eq_true rfl, Nat.le_of_ble_eq_true rfl⟩) hE hP hS nbo_6 rfl rfl hl.1 rfl (Nat.le_of_ble_eq_true rfl) dX4_readDo_124 (fun H locs hP hS => ?_)
            refine lv_if_ne (tgt := 132) hx hb dX4_readDo_127 (by decide) (fun hc => ?_) (fun hc => ?_)
            · replace hf := nIf_f hc hf
              refine lv_aload_n hx hb dX4_readDo_132 rfl (lv_at hl 0 rfl) ?_
              obtain ⟨r42, σ43, hc43, hf⟩ := nBd_e hf
              refine nb_callVv (As := []) (rest := []) ⟨hx, hb, hml, hown, hts⟩ (c_X4_advance (D := D) (A := A) (cy := cy) (a := a) (kt := kt) (vt := vt) (l := l)  hc43) (cwV 0 hts gX4_readDo_X4_advance rfl rfl rfl (by decide +kernel) ⟨Nat.le_of_ble_eq_true rfl, Nat.le_of_ble_eq_true rfl⟩) hE hP hS nbo_6 rfl rfl hl.1 rfl (Nat.le_of_ble_eq_true rfl) dX4_readDo_133 (fun H locs hP hS => ?_)
              refine lv_aload_n hx hb dX4_readDo_136 rfl (lv_at hl 0 rfl) ?_
              refine lv_iconst (v := 0) hx hb dX4_readDo_137 (by decide) ?_
              refine lv_aload_n hx hb dX4_readDo_138 rfl (lv_at hl 1 rfl) ?_
              refine nb_getN (ci := 7) hx hb hts iX4_readDo_X7 hown hE hP 1 nbo_1 rfl 0 (by decide) (host := RX8) (by decide +kernel) rfl rfl dX4_readDo_139 ?_
              refine lv_iconst (v := 1) hx hb dX4_readDo_142 (by decide) ?_
              refine lv_isub hx hb dX4_readDo_143 ?_
              refine lv_topi (fun v44 ev44 => ?_)
              replace hf := nLet_e hf ev44
              obtain ⟨r45, σ46, hc46, hf⟩ := nBd_e hf
              refine nb_callVi (As := [.int 0, .int v44]) (rest := []) ⟨hx, hb, hml, hown, hts⟩ (c_X4_takeNumber (D := D) (A := A) (cy := cy) (a := a) (kt := kt) (vt := vt) (l := l)  hc46) (cwV 2 hts gX4_readDo_X4_takeNumber rfl rfl rfl (by decide +kernel) ⟨Nat.le_of_ble_eq_true rfl, Nat.le_of_ble_eq_true rfl⟩) hE hP hS nbo_6 rfl rfl hl.1 rfl (Nat.le_of_ble_eq_true rfl) dX4_readDo_144 (fun H locs hP hS => ?_)
              refine lv_if_eq (tgt := 173) hx hb dX4_readDo_147 (by decide) (fun hc => ?_) (fun hc => ?_)
              · replace hf := nIf_t hc hf
                refine lv_iconst (v := 0) hx hb dX4_readDo_173 (by decide) ?_
                exact nb_zret hx hb hr hlocks hP hS (nSo hf) rfl dX4_readDo_174
              · replace hf := nIf_f hc hf
                refine lv_aload_n hx hb dX4_readDo_150 rfl (lv_at hl 0 rfl) ?_
                refine lv_aload_n hx hb dX4_readDo_151 rfl (lv_at hl 1 rfl) ?_
                refine lv_iload_n hx hb dX4_readDo_152 rfl (lv_at hl 2 rfl) ?_
                refine lv_iconst (v := 4) hx hb dX4_readDo_153 (by decide) ?_
                obtain ⟨r47, σ48, hc48, hf⟩ := nBd_e hf
                refine nb_callVi (As := [.ref (a 1), .int x2, .int 4]) (rest := []) ⟨hx, hb, hml, hown, hts⟩ (c_X4_keep (D := D) (A := A) (cy := cy) (a := a) (kt := kt) (vt := vt) (l := l)  hc48) (cwV 3 hts gX4_readDo_X4_keep rfl rfl rfl (by decide +kernel) ⟨Nat.le_of_ble_eq_true rfl, Nat.le_of_ble_eq_true rfl⟩) hE hP hS nbo_6 rfl rfl hl.1 rfl (Nat.le_of_ble_eq_true rfl) dX4_readDo_154 (fun H locs hP hS => ?_)
                refine lv_if_eq (tgt := 173) hx hb dX4_readDo_157 (by decide) (fun hc => ?_) (fun hc => ?_)
                · replace hf := nIf_t hc hf
                  refine lv_iconst (v := 0) hx hb dX4_readDo_173 (by decide) ?_
                  exact nb_zret hx hb hr hlocks hP hS (nSo hf) rfl dX4_readDo_174
                · replace hf := nIf_f hc hf
                  refine lv_aload_n hx hb dX4_readDo_160 rfl (lv_at hl 0 rfl) ?_
                  refine va_ldcS hx hb hown (hE.2.2.2.2.1 (RX4, 157, "harm", 9) (by decide +kernel)) dX4_readDo_161 ?_
                  obtain ⟨r49, σ50, hc50, hf⟩ := nBd_e hf
                  refine nb_callVi (As := [.ref (kt 9)]) (rest := []) ⟨hx, hb, hml, hown, hts⟩ (c_X4_takeWord (D := D) (A := A) (cy := cy) (a := a) (kt := kt) (vt := vt) (l := l) (by decide) hc50) (cwV 1 hts gX4_readDo_X4_takeWord rfl rfl rfl (by decide +kernel) ⟨Nat.le_of_ble_eq_true rfl, Nat.le_of_ble_eq_true rfl⟩) hE hP hS nbo_6 rfl rfl hl.1 rfl (Nat.le_of_ble_eq_true rfl) dX4_readDo_163 (fun H locs hP hS => ?_)
                  refine lv_if_eq (tgt := 173) hx hb dX4_readDo_166 (by decide) (fun hc => ?_) (fun hc => ?_)
                  · replace hf := nIf_t hc hf
                    refine lv_iconst (v := 0) hx hb dX4_readDo_173 (by decide) ?_
                    exact nb_zret hx hb hr hlocks hP hS (nSo hf) rfl dX4_readDo_174
                  · replace hf := nIf_f hc hf
                    refine lv_iconst (v := 1) hx hb dX4_readDo_169 (by decide) ?_
                    refine lv_goto (tgt := 174) hx hb dX4_readDo_170 (by decide) ?_
                    exact nb_zret hx hb hr hlocks hP hS (nSo hf) rfl dX4_readDo_174
            · replace hf := nIf_t hc hf
              refine lv_iconst (v := 1) hx hb dX4_readDo_130 (by decide) ?_
              exact nb_zret hx hb hr hlocks hP hS (nSo hf) rfl dX4_readDo_131
          · replace hf := nIf_t hc hf
            refine lv_iconst (v := 0) hx hb dX4_readDo_111 (by decide) ?_
            exact nb_zret hx hb hr hlocks hP hS (nSo hf) rfl dX4_readDo_112
      · replace hf := nIf_t hc hf
        refine lv_iconst (v := 0) hx hb dX4_readDo_82 (by decide) ?_
        exact nb_zret hx hb hr hlocks hP hS (nSo hf) rfl dX4_readDo_83
def b_X4_readDo_0 (N : Nat) (k47 : nS → Int32 → Int32 → Int32 → Int32 → Int32 → Int32 → Option (Int32 × nS)) (σ : nS) (x2 : Int32) : Option (Int32 × nS) := nBd (f_X4_advance N σ) (fun r1 σ2 => nBd (f_X4_takeNumber N 0 7 σ2) (fun r3 σ4 => (if r3 = 0 then some (0, σ4) else nBd (f_X4_keep N x2 1 σ4) (fun r5 σ6 => nBd (f_X4_isWord N 5 σ6) (fun r7 σ8 => (if r7 = 0 then k47 σ8 x2 r7 (σ8.1 1 3) x2 0 0 else k47 σ8 x2 r7 (σ8.1 1 3) x2 0 1))))))
set_option maxHeartbeats 4000000 in
set_option maxRecDepth 100000 in
theorem kb_X4_readDo_0 {p : Program} {l : Launch} {e : Env} {s : State} {m : MethodId} {args : Array Value} {below : List Frame} {meth : Method} {c : Code} {D : va_G} {A : Nat → Prop} {cy : Nat → ClassId} {a kt vt : Nat → Nat} {N : Nat}   (C0 : nCx p s m args meth c cX4_readDo 4 (some .boolean) RX4 wsX4_readDo) (hE : nEn D A cy (NBw cy a) kt vt s) {z : Int32 × nS} {k47 : nS → Int32 → Int32 → Int32 → Int32 → Int32 → Int32 → Option (Int32 × nS)} (K47 : ∀ (σ : nS) (x2 : Int32) (x3 : Int32) (y1 : Int32) (y2 : Int32) (y3 : Int32) (y4 : Int32) (H : Heap) (locs : List Loc) (ls : Array Slot), lv_has ls 4 [(0, .ref (a 6)), (1, .ref (a 1)), (2, .int x2), (3, .int x3)] → va_P D vwCl ((NBw cy a) σ) H → va_S A s.heap H locs → k47 σ x2 x3 y1 y2 y3 y4 = some z → W p l e ({ frames := 6, cells := 0, slots := 0, locals := 128 } : Room) s m args below meth c H locs 0 0 (nQi below D A (NBw cy a) args s z) (F0 m 47 ls [.int y4, .int y3, .int y2, .int y1, .ref (a 1)])) : ∀ (σ : nS) (x2 : Int32) (H : Heap) (locs : List Loc) (ls : Array Slot), lv_has ls 4 [(0, .ref (a 6)), (1, .ref (a 1)), (2, .int x2)] → va_P D vwCl ((NBw cy a) σ) H → va_S A s.heap H locs → b_X4_readDo_0 N k47 σ x2 = some z → W p l e ({ frames := 6, cells := 0, slots := 0, locals := 128 } : Room) s m args below meth c H locs 0 0 (nQi below D A (NBw cy a) args s z) (F0 m 0 ls []) := by
  obtain ⟨hx, hb, hr, hml, hown, hts, hlocks⟩ := C0
  intro σ x2 H locs ls hl hP hS hf
  unfold b_X4_readDo_0 at hf
  refine lv_aload_n hx hb dX4_readDo_0 rfl (lv_at hl 0 rfl) ?_
  obtain ⟨r1, σ2, hc2, hf⟩ := nBd_e hf
  refine nb_callVv (As := []) (rest := []) ⟨hx, hb, hml, hown, hts⟩ (c_X4_advance (D := D) (A := A) (cy := cy) (a := a) (kt := kt) (vt := vt) (l := l)  hc2) (cwV 0 hts gX4_readDo_X4_advance rfl rfl rfl (by decide +kernel) ⟨Nat.le_of_ble_eq_true rfl, Nat.le_of_ble_eq_true rfl⟩) hE hP hS nbo_6 rfl rfl hl.1 rfl (Nat.le_of_ble_eq_true rfl) dX4_readDo_1 (fun H locs hP hS => ?_)
  refine lv_aload_n hx hb dX4_readDo_4 rfl (lv_at hl 0 rfl) ?_
  refine lv_iconst (v := 0) hx hb dX4_readDo_5 (by decide) ?_
  refine lv_bipush (v := 7) hx hb dX4_readDo_6 (by decide) ?_
  obtain ⟨r3, σ4, hc4, hf⟩ := nBd_e hf
  refine nb_callVi (As := [.int 0, .int 7]) (rest := []) ⟨hx, hb, hml, hown, hts⟩ (c_X4_takeNumber (D := D) (A := A) (cy := cy) (a := a) (kt := kt) (vt := vt) (l := l)  hc4) (cwV 2 hts gX4_readDo_X4_takeNumber rfl rfl rfl (by decide +kernel) ⟨Nat.le_of_ble_eq_true rfl, Nat.le_of_ble_eq_true rfl⟩) hE hP hS nbo_6 rfl rfl hl.1 rfl (Nat.le_of_ble_eq_true rfl) dX4_readDo_8 (fun H locs hP hS => ?_)
  refine lv_if_ne (tgt := 16) hx hb dX4_readDo_11 (by decide) (fun hc => ?_) (fun hc => ?_)
  · replace hf := nIf_f hc hf
    refine lv_aload_n hx hb dX4_readDo_16 rfl (lv_at hl 0 rfl) ?_
    refine lv_aload_n hx hb dX4_readDo_17 rfl (lv_at hl 1 rfl) ?_
    refine lv_iload_n hx hb dX4_readDo_18 rfl (lv_at hl 2 rfl) ?_
    refine lv_iconst (v := 1) hx hb dX4_readDo_19 (by decide) ?_
    obtain ⟨r5, σ6, hc6, hf⟩ := nBd_e hf
    refine nb_callVi (As := [.ref (a 1), .int x2, .int 1]) (rest := []) ⟨hx, hb, hml, hown, hts⟩ (c_X4_keep (D := D) (A := A) (cy := cy) (a := a) (kt := kt) (vt := vt) (l := l)  hc6) (cwV 3 hts gX4_readDo_X4_keep rfl rfl rfl (by decide +kernel) ⟨Nat.le_of_ble_eq_true rfl, Nat.le_of_ble_eq_true rfl⟩) hE hP hS nbo_6 rfl rfl hl.1 rfl (Nat.le_of_ble_eq_true rfl) dX4_readDo_20 (fun H locs hP hS => ?_)
    refine lv_pop hx hb dX4_readDo_23 rfl ?_
    refine lv_aload_n hx hb dX4_readDo_24 rfl (lv_at hl 0 rfl) ?_
    refine va_ldcS hx hb hown (hE.2.2.2.2.1 (RX4, 146, "wrong", 5) (by decide +kernel)) dX4_readDo_25 ?_
    obtain ⟨r7, σ8, hc8, hf⟩ := nBd_e hf
    refine nb_callVi (As := [.ref (kt 5)]) (rest := []) ⟨hx, hb, hml, hown, hts⟩ (c_X4_isWord (D := D) (A := A) (cy := cy) (a := a) (kt := kt) (vt := vt) (l := l) (by decide) hc8) (cwV 1 hts gX4_readDo_X4_isWord rfl rfl rfl (by decide +kernel) ⟨Nat.le_of_ble_eq_true rfl, Nat.le_of_ble_eq_true rfl⟩) hE hP hS nbo_6 rfl rfl hl.1 rfl (Nat.le_of_ble_eq_true rfl) dX4_readDo_27 (fun H locs hP hS => ?_)
    refine lv_istore_n (lv' := [(3, .int r7), (0, .ref (a 6)), (1, .ref (a 1)), (2, .int x2)]) hx hb dX4_readDo_30 rfl hl (by decide) rfl (fun ls hl => ?_)
    refine lv_aload_n hx hb dX4_readDo_31 rfl (lv_at hl 2 rfl) ?_
    refine lv_aload_n hx hb dX4_readDo_32 rfl (lv_at hl 2 rfl) ?_
    refine nb_getN (ci := 7) hx hb hts iX4_readDo_X7 hown hE hP 1 nbo_1 rfl 3 (by decide) (host := RX8) (by decide +kernel) rfl rfl dX4_readDo_33 ?_
    refine lv_iload_n hx hb dX4_readDo_36 rfl (lv_at hl 3 rfl) ?_
    refine lv_iconst (v := 0) hx hb dX4_readDo_37 (by decide) ?_
    refine lv_iload_n hx hb dX4_readDo_38 rfl (lv_at hl 0 rfl) ?_
    refine lv_if_eq (tgt := 46) hx hb dX4_readDo_39 (by decide) (fun hc => ?_) (fun hc => ?_)
    · replace hf := nIf_t hc hf
      refine lv_iconst (v := 0) hx hb dX4_readDo_46 (by decide) ?_
      exact K47 σ8 x2 r7 (σ8.1 1 3) x2 0 0 H locs ls (lv_sub hl [1, 2, 3, 0] rfl) hP hS hf
    · replace hf := nIf_f hc hf
      refine lv_iconst (v := 1) hx hb dX4_readDo_42 (by decide) ?_
      refine lv_goto (tgt := 47) hx hb dX4_readDo_43 (by decide) ?_
      exact K47 σ8 x2 r7 (σ8.1 1 3) x2 0 1 H locs ls (lv_sub hl [1, 2, 3, 0] rfl) hP hS hf
  · replace hf := nIf_t hc hf
    refine lv_iconst (v := 0) hx hb dX4_readDo_14 (by decide) ?_
    exact nb_zret hx hb hr hlocks hP hS (nSo hf) rfl dX4_readDo_15
def l_X4_readDo_47 (N : Nat) : nS → Int32 → Int32 → Int32 → Int32 → Int32 → Int32 → Option (Int32 × nS) := b_X4_readDo_47 N
theorem kl_X4_readDo_47 {p : Program} {l : Launch} {e : Env} {s : State} {m : MethodId} {args : Array Value} {below : List Frame} {meth : Method} {c : Code} {D : va_G} {A : Nat → Prop} {cy : Nat → ClassId} {a kt vt : Nat → Nat} {N : Nat}   (C0 : nCx p s m args meth c cX4_readDo 4 (some .boolean) RX4 wsX4_readDo) (hE : nEn D A cy (NBw cy a) kt vt s) {z : Int32 × nS} : ∀ (σ : nS) (x2 : Int32) (x3 : Int32) (y1 : Int32) (y2 : Int32) (y3 : Int32) (y4 : Int32) (H : Heap) (locs : List Loc) (ls : Array Slot), lv_has ls 4 [(0, .ref (a 6)), (1, .ref (a 1)), (2, .int x2), (3, .int x3)] → va_P D vwCl ((NBw cy a) σ) H → va_S A s.heap H locs → l_X4_readDo_47 N σ x2 x3 y1 y2 y3 y4 = some z → W p l e ({ frames := 6, cells := 0, slots := 0, locals := 128 } : Room) s m args below meth c H locs 0 0 (nQi below D A (NBw cy a) args s z) (F0 m 47 ls [.int y4, .int y3, .int y2, .int y1, .ref (a 1)]) := by
  exact kb_X4_readDo_47 (N := N)  C0 hE
def l_X4_readDo_0 (N : Nat) : nS → Int32 → Option (Int32 × nS) := b_X4_readDo_0 N (l_X4_readDo_47 N)
theorem kl_X4_readDo_0 {p : Program} {l : Launch} {e : Env} {s : State} {m : MethodId} {args : Array Value} {below : List Frame} {meth : Method} {c : Code} {D : va_G} {A : Nat → Prop} {cy : Nat → ClassId} {a kt vt : Nat → Nat} {N : Nat}   (C0 : nCx p s m args meth c cX4_readDo 4 (some .boolean) RX4 wsX4_readDo) (hE : nEn D A cy (NBw cy a) kt vt s) {z : Int32 × nS} : ∀ (σ : nS) (x2 : Int32) (H : Heap) (locs : List Loc) (ls : Array Slot), lv_has ls 4 [(0, .ref (a 6)), (1, .ref (a 1)), (2, .int x2)] → va_P D vwCl ((NBw cy a) σ) H → va_S A s.heap H locs → l_X4_readDo_0 N σ x2 = some z → W p l e ({ frames := 6, cells := 0, slots := 0, locals := 128 } : Room) s m args below meth c H locs 0 0 (nQi below D A (NBw cy a) args s z) (F0 m 0 ls []) := by
  exact kb_X4_readDo_0 (N := N)  C0 hE (kl_X4_readDo_47 (N := N)  C0 hE)
def f_X4_readDo (N : Nat) (x2 : Int32) (σ : nS) : Option (Int32 × nS) := l_X4_readDo_0 N σ x2
set_option maxHeartbeats 4000000 in
set_option maxRecDepth 100000 in
theorem c_X4_readDo {l : Launch} {D : va_G} {A : Nat → Prop} {cy : Nat → ClassId} {a kt vt : Nat → Nat} {N : Nat}   {x2 : Int32} {σ : nS} {r : Int32} {σ' : nS} (hf : f_X4_readDo N x2 σ = some (r, σ')) : nMi l yX4_readDo wsX4_readDo ({ frames := 6, cells := 0, slots := 0, locals := 128 } : Room) D A cy (NBw cy a) kt vt [.ref (a 6), .ref (a 1), .int x2] σ r σ' := by
  refine Met.ofW (cc := cX4_readDo) (maxL := 4) (ret := (some .boolean)) (by decide) rfl ?_
  intro p e s m args below meth c s₁ B hml hv
  obtain ⟨rfl, hP, hE⟩ := hv
  have hl := lv_entry ([.ref (a 6), .ref (a 1), .int x2]) (n := 4) (Nat.le_of_ble_eq_true rfl)
  rw [lg_entry_eq]
  generalize (lg_sl ([.ref (a 6), .ref (a 1), .int x2]) ++ List.replicate (4 - (lg_sl ([.ref (a 6), .ref (a 1), .int x2])).length) Slot.unset).toArray = ls at hl ⊢
  have C0 : nCx p s m _ meth c cX4_readDo 4 (some .boolean) RX4 wsX4_readDo := ⟨B.exec, B.bytes, B.returns, hml, findClass_of_methodNamed B.named, atoms_spec (ws := wsX4_readDo) B.pre, B.notSynchronized⟩
  exact kl_X4_readDo_0 (N := N)  C0 hE (z := (r, σ')) σ x2 _ _ ls hl hP va_S.rf hf

/-! X4_readAsk -/
set_option maxRecDepth 20000 in
theorem iX4_readAsk_X7 : ∀ w ∈ u_ws RX7 TX7 9, w ∈ wsX4_readAsk := fun _ h => List.mem_cons_of_mem _ (List.mem_append_left _ (List.mem_append_right _ h))
def b_X4_readAsk_0 (N : Nat) (σ : nS) (x2 : Int32) : Option (Int32 × nS) := nBd (f_X7_setCell N (σ.1 1 3) x2 0 2 σ) (fun r1 σ2 => nBd (f_X4_advance N σ2) (fun r3 σ4 => nLet ((σ4.1 1 1) - (1 : Int32) : Int32) (fun v5 => nBd (f_X4_takeNumber N 0 v5 σ4) (fun r6 σ7 => (if r6 = 0 then some (0, σ7) else nBd (f_X4_keep N x2 1 σ7) (fun r8 σ9 => (if r8 = 0 then some (0, σ9) else nBd (f_X4_takeWord N 10 σ9) (fun r10 σ11 => (if r10 = 0 then some (0, σ11) else nBd (f_X4_takeNumber N 0 99 σ11) (fun r12 σ13 => (if r12 = 0 then some (0, σ13) else nBd (f_X4_keepTarget N x2 2 σ13) (fun r14 σ15 => (if r14 = 0 then some (0, σ15) else nBd (f_X4_takeWord N 11 σ15) (fun r16 σ17 => (if r16 = 0 then some (0, σ17) else nBd (f_X4_takeNumber N 0 99 σ17) (fun r18 σ19 => (if r18 = 0 then some (0, σ19) else nBd (f_X4_keepTarget N x2 3 σ19) (fun r20 σ21 => (if r20 = 0 then some (0, σ21) else some (1, σ21))))))))))))))))))))
set_option maxHeartbeats 4000000 in
set_option maxRecDepth 100000 in
theorem kb_X4_readAsk_0 {p : Program} {l : Launch} {e : Env} {s : State} {m : MethodId} {args : Array Value} {below : List Frame} {meth : Method} {c : Code} {D : va_G} {A : Nat → Prop} {cy : Nat → ClassId} {a kt vt : Nat → Nat} {N : Nat}   (C0 : nCx p s m args meth c cX4_readAsk 3 (some .boolean) RX4 wsX4_readAsk) (hE : nEn D A cy (NBw cy a) kt vt s) {z : Int32 × nS} : ∀ (σ : nS) (x2 : Int32) (H : Heap) (locs : List Loc) (ls : Array Slot), lv_has ls 3 [(0, .ref (a 6)), (1, .ref (a 1)), (2, .int x2)] → va_P D vwCl ((NBw cy a) σ) H → va_S A s.heap H locs → b_X4_readAsk_0 N σ x2 = some z → W p l e ({ frames := 6, cells := 0, slots := 0, locals := 128 } : Room) s m args below meth c H locs 0 0 (nQi below D A (NBw cy a) args s z) (F0 m 0 ls []) := by
  obtain ⟨hx, hb, hr, hml, hown, hts, hlocks⟩ := C0
  intro σ x2 H locs ls hl hP hS hf
  unfold b_X4_readAsk_0 at hf
  refine lv_aload_n hx hb dX4_readAsk_0 rfl (lv_at hl 1 rfl) ?_
  refine lv_aload_n hx hb dX4_readAsk_1 rfl (lv_at hl 1 rfl) ?_
  refine nb_getN (ci := 7) hx hb hts iX4_readAsk_X7 hown hE hP 1 nbo_1 rfl 3 (by decide) (host := RX8) (by decide +kernel) rfl rfl dX4_readAsk_2 ?_
  refine lv_iload_n hx hb dX4_readAsk_5 rfl (lv_at hl 2 rfl) ?_
  refine lv_iconst (v := 0) hx hb dX4_readAsk_6 (by decide) ?_
  refine lv_iconst (v := 2) hx hb dX4_readAsk_7 (by decide) ?_
  obtain ⟨r1, σ2, hc2, hf⟩ := nBd_e hf
  refine nb_callVv (As := [.int (σ.1 1 3), .int x2, .int 0, .int 2]) (rest := []) ⟨hx, hb, hml, hown, hts⟩ (c_X7_setCell (D := D) (A := A) (cy := cy) (a := a) (kt := kt) (vt := vt) (l := l)  hc2) (cwV 4 hts gX4_readAsk_X7_setCell rfl rfl rfl (by decide +kernel) ⟨Nat.le_of_ble_eq_true rfl, Nat.le_of_ble_eq_true rfl⟩) hE hP hS nbo_1 rfl rfl hl.1 rfl (Nat.le_of_ble_eq_true rfl) dX4_readAsk_8 (fun H locs hP hS => ?_)
  refine lv_aload_n hx hb dX4_readAsk_11 rfl (lv_at hl 0 rfl) ?_
  obtain ⟨r3, σ4, hc4, hf⟩ := nBd_e hf
  refine nb_callVv (As := []) (rest := []) ⟨hx, hb, hml, hown, hts⟩ (c_X4_advance (D := D) (A := A) (cy := cy) (a := a) (kt := kt) (vt := vt) (l := l)  hc4) (cwV 0 hts gX4_readAsk_X4_advance rfl rfl rfl (by decide +kernel) ⟨Nat.le_of_ble_eq_true rfl, Nat.le_of_ble_eq_true rfl⟩) hE hP hS nbo_6 rfl rfl hl.1 rfl (Nat.le_of_ble_eq_true rfl) dX4_readAsk_12 (fun H locs hP hS => ?_)
  refine lv_aload_n hx hb dX4_readAsk_15 rfl (lv_at hl 0 rfl) ?_
  refine lv_iconst (v := 0) hx hb dX4_readAsk_16 (by decide) ?_
  refine lv_aload_n hx hb dX4_readAsk_17 rfl (lv_at hl 1 rfl) ?_
  refine nb_getN (ci := 7) hx hb hts iX4_readAsk_X7 hown hE hP 1 nbo_1 rfl 1 (by decide) (host := RX8) (by decide +kernel) rfl rfl dX4_readAsk_18 ?_
  refine lv_iconst (v := 1) hx hb dX4_readAsk_21 (by decide) ?_
  refine lv_isub hx hb dX4_readAsk_22 ?_
  refine lv_topi (fun v5 ev5 => ?_)
  replace hf := nLet_e hf ev5
  obtain ⟨r6, σ7, hc7, hf⟩ := nBd_e hf
  refine nb_callVi (As := [.int 0, .int v5]) (rest := []) ⟨hx, hb, hml, hown, hts⟩ (c_X4_takeNumber (D := D) (A := A) (cy := cy) (a := a) (kt := kt) (vt := vt) (l := l)  hc7) (cwV 2 hts gX4_readAsk_X4_takeNumber rfl rfl rfl (by decide +kernel) ⟨Nat.le_of_ble_eq_true rfl, Nat.le_of_ble_eq_true rfl⟩) hE hP hS nbo_6 rfl rfl hl.1 rfl (Nat.le_of_ble_eq_true rfl) dX4_readAsk_23 (fun H locs hP hS => ?_)
  refine lv_if_eq (tgt := 101) hx hb dX4_readAsk_26 (by decide) (fun hc => ?_) (fun hc => ?_)
  · replace hf := nIf_t hc hf
    refine lv_iconst (v := 0) hx hb dX4_readAsk_101 (by decide) ?_
    exact nb_zret hx hb hr hlocks hP hS (nSo hf) rfl dX4_readAsk_102
  · replace hf := nIf_f hc hf
    refine lv_aload_n hx hb dX4_readAsk_29 rfl (lv_at hl 0 rfl) ?_
    refine lv_aload_n hx hb dX4_readAsk_30 rfl (lv_at hl 1 rfl) ?_
    refine lv_iload_n hx hb dX4_readAsk_31 rfl (lv_at hl 2 rfl) ?_
    refine lv_iconst (v := 1) hx hb dX4_readAsk_32 (by decide) ?_
    obtain ⟨r8, σ9, hc9, hf⟩ := nBd_e hf
    refine nb_callVi (As := [.ref (a 1), .int x2, .int 1]) (rest := []) ⟨hx, hb, hml, hown, hts⟩ (c_X4_keep (D := D) (A := A) (cy := cy) (a := a) (kt := kt) (vt := vt) (l := l)  hc9) (cwV 3 hts gX4_readAsk_X4_keep rfl rfl rfl (by decide +kernel) ⟨Nat.le_of_ble_eq_true rfl, Nat.le_of_ble_eq_true rfl⟩) hE hP hS nbo_6 rfl rfl hl.1 rfl (Nat.le_of_ble_eq_true rfl) dX4_readAsk_33 (fun H locs hP hS => ?_)
    refine lv_if_eq (tgt := 101) hx hb dX4_readAsk_36 (by decide) (fun hc => ?_) (fun hc => ?_)
    · replace hf := nIf_t hc hf
      refine lv_iconst (v := 0) hx hb dX4_readAsk_101 (by decide) ?_
      exact nb_zret hx hb hr hlocks hP hS (nSo hf) rfl dX4_readAsk_102
    · replace hf := nIf_f hc hf
      refine lv_aload_n hx hb dX4_readAsk_39 rfl (lv_at hl 0 rfl) ?_
      refine va_ldcS hx hb hown (hE.2.2.2.2.1 (RX4, 162, "then", 10) (by decide +kernel)) dX4_readAsk_40 ?_
      obtain ⟨r10, σ11, hc11, hf⟩ := nBd_e hf
      refine nb_callVi (As := [.ref (kt 10)]) (rest := []) ⟨hx, hb, hml, hown, hts⟩ (c_X4_takeWord (D := D) (A := A) (cy := cy) (a := a) (kt := kt) (vt := vt) (l := l) (by decide) hc11) (cwV 1 hts gX4_readAsk_X4_takeWord rfl rfl rfl (by decide +kernel) ⟨Nat.le_of_ble_eq_true rfl, Nat.le_of_ble_eq_true rfl⟩) hE hP hS nbo_6 rfl rfl hl.1 rfl (Nat.le_of_ble_eq_true rfl) dX4_readAsk_42 (fun H locs hP hS => ?_)
      refine lv_if_eq (tgt := 101) hx hb dX4_readAsk_45 (by decide) (fun hc => ?_) (fun hc => ?_)
      · replace hf := nIf_t hc hf
        refine lv_iconst (v := 0) hx hb dX4_readAsk_101 (by decide) ?_
        exact nb_zret hx hb hr hlocks hP hS (nSo hf) rfl dX4_readAsk_102
      · replace hf := nIf_f hc hf
        refine lv_aload_n hx hb dX4_readAsk_48 rfl (lv_at hl 0 rfl) ?_
        refine lv_iconst (v := 0) hx hb dX4_readAsk_49 (by decide) ?_
        refine lv_bipush (v := 99) hx hb dX4_readAsk_50 (by decide) ?_
        obtain ⟨r12, σ13, hc13, hf⟩ := nBd_e hf
        refine nb_callVi (As := [.int 0, .int 99]) (rest := []) ⟨hx, hb, hml, hown, hts⟩ (c_X4_takeNumber (D := D) (A := A) (cy := cy) (a := a) (kt := kt) (vt := vt) (l := l)  hc13) (cwV 2 hts gX4_readAsk_X4_takeNumber rfl rfl rfl (by decide +kernel) ⟨Nat.le_of_ble_eq_true rfl, Nat.le_of_ble_eq_true rfl⟩) hE hP hS nbo_6 rfl rfl hl.1 rfl (Nat.le_of_ble_eq_true rfl) dX4_readAsk_52 (fun H locs hP hS => ?_)
        refine lv_if_eq (tgt := 101) hx hb dX4_readAsk_55 (by decide) (fun hc => ?_) (fun hc => ?_)
        · replace hf := nIf_t hc hf
          refine lv_iconst (v := 0) hx hb dX4_readAsk_101 (by decide) ?_
          exact nb_zret hx hb hr hlocks hP hS (nSo hf) rfl dX4_readAsk_102
        · replace hf := nIf_f hc hf
          refine lv_aload_n hx hb dX4_readAsk_58 rfl (lv_at hl 0 rfl) ?_
          refine lv_aload_n hx hb dX4_readAsk_59 rfl (lv_at hl 1 rfl) ?_
          refine lv_iload_n hx hb dX4_readAsk_60 rfl (lv_at hl 2 rfl) ?_
          refine lv_iconst (v := 2) hx hb dX4_readAsk_61 (by decide) ?_
          obtain ⟨r14, σ15, hc15, hf⟩ := nBd_e hf
          refine nb_callVi (As := [.ref (a 1), .int x2, .int 2]) (rest := []) ⟨hx, hb, hml, hown, hts⟩ (c_X4_keepTarget (D := D) (A := A) (cy := cy) (a := a) (kt := kt) (vt := vt) (l := l)  hc15) (cwV 3 hts gX4_readAsk_X4_keepTarget rfl rfl rfl (by decide +kernel) ⟨Nat.le_of_ble_eq_true rfl, Nat.le_of_ble_eq_true rfl⟩) hE hP hS nbo_6 rfl rfl hl.1 rfl (Nat.le_of_ble_eq_true rfl) dX4_readAsk_62 (fun H locs hP hS => ?_)
          refine lv_if_eq (tgt := 101) hx hb dX4_readAsk_65 (by decide) (fun hc => ?_) (fun hc => ?_)
          · replace hf := nIf_t hc hf
            refine lv_iconst (v := 0) hx hb dX4_readAsk_101 (by decide) ?_
            exact nb_zret hx hb hr hlocks hP hS (nSo hf) rfl dX4_readAsk_102
          · replace hf := nIf_f hc hf
            refine lv_aload_n hx hb dX4_readAsk_68 rfl (lv_at hl 0 rfl) ?_
            refine va_ldcS hx hb hown (hE.2.2.2.2.1 (RX4, 164, "else", 11) (by decide +kernel)) dX4_readAsk_69 ?_
            obtain ⟨r16, σ17, hc17, hf⟩ := nBd_e hf
            refine nb_callVi (As := [.ref (kt 11)]) (rest := []) ⟨hx, hb, hml, hown, hts⟩ (c_X4_takeWord (D := D) (A := A) (cy := cy) (a := a) (kt := kt) (vt := vt) (l := l) (by decide) hc17) (cwV 1 hts gX4_readAsk_X4_takeWord rfl rfl rfl (by decide +kernel) ⟨Nat.le_of_ble_eq_true rfl, Nat.le_of_ble_eq_true rfl⟩) hE hP hS nbo_6 rfl rfl hl.1 rfl (Nat.le_of_ble_eq_true rfl) dX4_readAsk_71 (fun H locs hP hS => ?_)
            refine lv_if_eq (tgt := 101) hx hb dX4_readAsk_74 (by decide) (fun hc => ?_) (fun hc => ?_)
            · replace hf := nIf_t hc hf
              refine lv_iconst (v := 0) hx hb dX4_readAsk_101 (by decide) ?_
              exact nb_zret hx hb hr hlocks hP hS (nSo hf) rfl dX4_readAsk_102
            · replace hf := nIf_f hc hf
              refine lv_aload_n hx hb dX4_readAsk_77 rfl (lv_at hl 0 rfl) ?_
              refine lv_iconst (v := 0) hx hb dX4_readAsk_78 (by decide) ?_
              refine lv_bipush (v := 99) hx hb dX4_readAsk_79 (by decide) ?_
              obtain ⟨r18, σ19, hc19, hf⟩ := nBd_e hf
              refine nb_callVi (As := [.int 0, .int 99]) (rest := []) ⟨hx, hb, hml, hown, hts⟩ (c_X4_takeNumber (D := D) (A := A) (cy := cy) (a := a) (kt := kt) (vt := vt) (l := l)  hc19) (cwV 2 hts gX4_readAsk_X4_takeNumber rfl rfl rfl (by decide +kernel) ⟨Nat.le_of_ble_eq_true rfl, Nat.le_of_ble_eq_true rfl⟩) hE hP hS nbo_6 rfl rfl hl.1 rfl (Nat.le_of_ble_eq_true rfl) dX4_readAsk_81 (fun H locs hP hS => ?_)
              refine lv_if_eq (tgt := 101) hx hb dX4_readAsk_84 (by decide) (fun hc => ?_) (fun hc => ?_)
              · replace hf := nIf_t hc hf
                refine lv_iconst (v := 0) hx hb dX4_readAsk_101 (by decide) ?_
                exact nb_zret hx hb hr hlocks hP hS (nSo hf) rfl dX4_readAsk_102
              · replace hf := nIf_f hc hf
                refine lv_aload_n hx hb dX4_readAsk_87 rfl (lv_at hl 0 rfl) ?_
                refine lv_aload_n hx hb dX4_readAsk_88 rfl (lv_at hl 1 rfl) ?_
                refine lv_iload_n hx hb dX4_readAsk_89 rfl (lv_at hl 2 rfl) ?_
                refine lv_iconst (v := 3) hx hb dX4_readAsk_90 (by decide) ?_
                obtain ⟨r20, σ21, hc21, hf⟩ := nBd_e hf
                refine nb_callVi (As := [.ref (a 1), .int x2, .int 3]) (rest := []) ⟨hx, hb, hml, hown, hts⟩ (c_X4_keepTarget (D := D) (A := A) (cy := cy) (a := a) (kt := kt) (vt := vt) (l := l)  hc21) (cwV 3 hts gX4_readAsk_X4_keepTarget rfl rfl rfl (by decide +kernel) ⟨Nat.le_of_ble_eq_true rfl, Nat.le_of_ble_eq_true rfl⟩) hE hP hS nbo_6 rfl rfl hl.1 rfl (Nat.le_of_ble_eq_true rfl) dX4_readAsk_91 (fun H locs hP hS => ?_)
                refine lv_if_eq (tgt := 101) hx hb dX4_readAsk_94 (by decide) (fun hc => ?_) (fun hc => ?_)
                · replace hf := nIf_t hc hf
                  refine lv_iconst (v := 0) hx hb dX4_readAsk_101 (by decide) ?_
                  exact nb_zret hx hb hr hlocks hP hS (nSo hf) rfl dX4_readAsk_102
                · replace hf := nIf_f hc hf
                  refine lv_iconst (v := 1) hx hb dX4_readAsk_97 (by decide) ?_
                  refine lv_goto (tgt := 102) hx hb dX4_readAsk_98 (by decide) ?_
                  exact nb_zret hx hb hr hlocks hP hS (nSo hf) rfl dX4_readAsk_102
def l_X4_readAsk_0 (N : Nat) : nS → Int32 → Option (Int32 × nS) := b_X4_readAsk_0 N
theorem kl_X4_readAsk_0 {p : Program} {l : Launch} {e : Env} {s : State} {m : MethodId} {args : Array Value} {below : List Frame} {meth : Method} {c : Code} {D : va_G} {A : Nat → Prop} {cy : Nat → ClassId} {a kt vt : Nat → Nat} {N : Nat}   (C0 : nCx p s m args meth c cX4_readAsk 3 (some .boolean) RX4 wsX4_readAsk) (hE : nEn D A cy (NBw cy a) kt vt s) {z : Int32 × nS} : ∀ (σ : nS) (x2 : Int32) (H : Heap) (locs : List Loc) (ls : Array Slot), lv_has ls 3 [(0, .ref (a 6)), (1, .ref (a 1)), (2, .int x2)] → va_P D vwCl ((NBw cy a) σ) H → va_S A s.heap H locs → l_X4_readAsk_0 N σ x2 = some z → W p l e ({ frames := 6, cells := 0, slots := 0, locals := 128 } : Room) s m args below meth c H locs 0 0 (nQi below D A (NBw cy a) args s z) (F0 m 0 ls []) := by
  exact kb_X4_readAsk_0 (N := N)  C0 hE
def f_X4_readAsk (N : Nat) (x2 : Int32) (σ : nS) : Option (Int32 × nS) := l_X4_readAsk_0 N σ x2
set_option maxHeartbeats 4000000 in
set_option maxRecDepth 100000 in
theorem c_X4_readAsk {l : Launch} {D : va_G} {A : Nat → Prop} {cy : Nat → ClassId} {a kt vt : Nat → Nat} {N : Nat}   {x2 : Int32} {σ : nS} {r : Int32} {σ' : nS} (hf : f_X4_readAsk N x2 σ = some (r, σ')) : nMi l yX4_readAsk wsX4_readAsk ({ frames := 6, cells := 0, slots := 0, locals := 128 } : Room) D A cy (NBw cy a) kt vt [.ref (a 6), .ref (a 1), .int x2] σ r σ' := by
  refine Met.ofW (cc := cX4_readAsk) (maxL := 3) (ret := (some .boolean)) (by decide) rfl ?_
  intro p e s m args below meth c s₁ B hml hv
  obtain ⟨rfl, hP, hE⟩ := hv
  have hl := lv_entry ([.ref (a 6), .ref (a 1), .int x2]) (n := 3) (Nat.le_of_ble_eq_true rfl)
  rw [lg_entry_eq]
  generalize (lg_sl ([.ref (a 6), .ref (a 1), .int x2]) ++ List.replicate (3 - (lg_sl ([.ref (a 6), .ref (a 1), .int x2])).length) Slot.unset).toArray = ls at hl ⊢
  have C0 : nCx p s m _ meth c cX4_readAsk 3 (some .boolean) RX4 wsX4_readAsk := ⟨B.exec, B.bytes, B.returns, hml, findClass_of_methodNamed B.named, atoms_spec (ws := wsX4_readAsk) B.pre, B.notSynchronized⟩
  exact kl_X4_readAsk_0 (N := N)  C0 hE (z := (r, σ')) σ x2 _ _ ls hl hP va_S.rf hf

/-! X4_readStep -/
set_option maxRecDepth 20000 in
theorem iX4_readStep_X7 : ∀ w ∈ u_ws RX7 TX7 9, w ∈ wsX4_readStep := fun _ h => List.mem_cons_of_mem _ (List.mem_append_left _ (List.mem_append_right _ h))
def b_X4_readStep_0 (N : Nat) (σ : nS) (x2 : Int32) : Option (Int32 × nS) := nBd (f_X4_clearStep N x2 σ) (fun r1 σ2 => nBd (f_X4_isWord N 0 σ2) (fun r3 σ4 => (if r3 = 0 then nBd (f_X4_isWord N 1 σ4) (fun r5 σ6 => (if r5 = 0 then nBd (f_X4_isWord N 2 σ6) (fun r7 σ8 => (if r7 = 0 then nBd (f_X4_isWord N 3 σ8) (fun r9 σ10 => (if r9 = 0 then nBd (f_X7_setCell N (σ10.1 1 3) x2 0 5 σ10) (fun r11 σ12 => nBd (f_X4_takeWord N 4 σ12) (fun r13 σ14 => nZ r13 (some (r13, σ14)))) else nBd (f_X7_setCell N (σ10.1 1 3) x2 0 4 σ10) (fun r15 σ16 => nBd (f_X4_advance N σ16) (fun r17 σ18 => nBd (f_X4_takeNumber N 0 99 σ18) (fun r19 σ20 => (if r19 = 0 then some (0, σ20) else nBd (f_X4_keepTarget N x2 1 σ20) (fun r21 σ22 => (if r21 = 0 then some (0, σ22) else some (1, σ22))))))))) else nBd (f_X7_setCell N (σ8.1 1 3) x2 0 3 σ8) (fun r23 σ24 => nBd (f_X4_advance N σ24) (fun r25 σ26 => nBd (f_X4_takeNumber N 1 60 σ26) (fun r27 σ28 => (if r27 = 0 then some (0, σ28) else nBd (f_X4_keep N x2 1 σ28) (fun r29 σ30 => (if r29 = 0 then some (0, σ30) else some (1, σ30))))))))) else nBd (f_X4_readAsk N x2 σ6) (fun r31 σ32 => nZ r31 (some (r31, σ32))))) else nBd (f_X4_readDo N x2 σ4) (fun r33 σ34 => nZ r33 (some (r33, σ34))))))
set_option maxHeartbeats 4000000 in
set_option maxRecDepth 100000 in
theorem kb_X4_readStep_0 {p : Program} {l : Launch} {e : Env} {s : State} {m : MethodId} {args : Array Value} {below : List Frame} {meth : Method} {c : Code} {D : va_G} {A : Nat → Prop} {cy : Nat → ClassId} {a kt vt : Nat → Nat} {N : Nat}   (C0 : nCx p s m args meth c cX4_readStep 3 (some .boolean) RX4 wsX4_readStep) (hE : nEn D A cy (NBw cy a) kt vt s) {z : Int32 × nS} : ∀ (σ : nS) (x2 : Int32) (H : Heap) (locs : List Loc) (ls : Array Slot), lv_has ls 3 [(0, .ref (a 6)), (1, .ref (a 1)), (2, .int x2)] → va_P D vwCl ((NBw cy a) σ) H → va_S A s.heap H locs → b_X4_readStep_0 N σ x2 = some z → W p l e ({ frames := 7, cells := 0, slots := 0, locals := 151 } : Room) s m args below meth c H locs 0 0 (nQi below D A (NBw cy a) args s z) (F0 m 0 ls []) := by
  obtain ⟨hx, hb, hr, hml, hown, hts, hlocks⟩ := C0
  intro σ x2 H locs ls hl hP hS hf
  unfold b_X4_readStep_0 at hf
  refine lv_aload_n hx hb dX4_readStep_0 rfl (lv_at hl 1 rfl) ?_
  refine lv_iload_n hx hb dX4_readStep_1 rfl (lv_at hl 2 rfl) ?_
  obtain ⟨r1, σ2, hc2, hf⟩ := nBd_e hf
  refine nb_callSv (As := [.ref (a 1), .int x2]) (rest := []) ⟨hx, hb, hml, hown, hts⟩ (c_X4_clearStep (D := D) (A := A) (cy := cy) (a := a) (kt := kt) (vt := vt) (l := l)  hc2) (va_cwS 2 hts gX4_readStep_X4_clearStep rfl rfl rfl (by decide +kernel) ⟨Nat.le_of_ble_eq_true rfl, Nat.le_of_ble_eq_true rfl⟩) hE hP hS rfl hl.1 rfl (Nat.le_of_ble_eq_true rfl) dX4_readStep_2 (fun H locs hP hS => ?_)
  refine lv_aload_n hx hb dX4_readStep_5 rfl (lv_at hl 0 rfl) ?_
  refine va_ldcS hx hb hown (hE.2.2.2.2.1 (RX4, 101, "do", 0) (by decide +kernel)) dX4_readStep_6 ?_
  obtain ⟨r3, σ4, hc4, hf⟩ := nBd_e hf
  refine nb_callVi (As := [.ref (kt 0)]) (rest := []) ⟨hx, hb, hml, hown, hts⟩ (c_X4_isWord (D := D) (A := A) (cy := cy) (a := a) (kt := kt) (vt := vt) (l := l) (by decide) hc4) (cwV 1 hts gX4_readStep_X4_isWord rfl rfl rfl (by decide +kernel) ⟨Nat.le_of_ble_eq_true rfl, Nat.le_of_ble_eq_true rfl⟩) hE hP hS nbo_6 rfl rfl hl.1 rfl (Nat.le_of_ble_eq_true rfl) dX4_readStep_8 (fun H locs hP hS => ?_)
  refine lv_if_eq (tgt := 21) hx hb dX4_readStep_11 (by decide) (fun hc => ?_) (fun hc => ?_)
  · replace hf := nIf_t hc hf
    refine lv_aload_n hx hb dX4_readStep_21 rfl (lv_at hl 0 rfl) ?_
    refine va_ldcS hx hb hown (hE.2.2.2.2.1 (RX4, 103, "ask", 1) (by decide +kernel)) dX4_readStep_22 ?_
    obtain ⟨r5, σ6, hc6, hf⟩ := nBd_e hf
    refine nb_callVi (As := [.ref (kt 1)]) (rest := []) ⟨hx, hb, hml, hown, hts⟩ (c_X4_isWord (D := D) (A := A) (cy := cy) (a := a) (kt := kt) (vt := vt) (l := l) (by decide) hc6) (cwV 1 hts gX4_readStep_X4_isWord rfl rfl rfl (by decide +kernel) ⟨Nat.le_of_ble_eq_true rfl, Nat.le_of_ble_eq_true rfl⟩) hE hP hS nbo_6 rfl rfl hl.1 rfl (Nat.le_of_ble_eq_true rfl) dX4_readStep_24 (fun H locs hP hS => ?_)
    refine lv_if_eq (tgt := 37) hx hb dX4_readStep_27 (by decide) (fun hc => ?_) (fun hc => ?_)
    · replace hf := nIf_t hc hf
      refine lv_aload_n hx hb dX4_readStep_37 rfl (lv_at hl 0 rfl) ?_
      refine va_ldcS hx hb hown (hE.2.2.2.2.1 (RX4, 105, "wait", 2) (by decide +kernel)) dX4_readStep_38 ?_
      obtain ⟨r7, σ8, hc8, hf⟩ := nBd_e hf
      refine nb_callVi (As := [.ref (kt 2)]) (rest := []) ⟨hx, hb, hml, hown, hts⟩ (c_X4_isWord (D := D) (A := A) (cy := cy) (a := a) (kt := kt) (vt := vt) (l := l) (by decide) hc8) (cwV 1 hts gX4_readStep_X4_isWord rfl rfl rfl (by decide +kernel) ⟨Nat.le_of_ble_eq_true rfl, Nat.le_of_ble_eq_true rfl⟩) hE hP hS nbo_6 rfl rfl hl.1 rfl (Nat.le_of_ble_eq_true rfl) dX4_readStep_40 (fun H locs hP hS => ?_)
      refine lv_if_eq (tgt := 87) hx hb dX4_readStep_43 (by decide) (fun hc => ?_) (fun hc => ?_)
      · replace hf := nIf_t hc hf
        refine lv_aload_n hx hb dX4_readStep_87 rfl (lv_at hl 0 rfl) ?_
        refine va_ldcS hx hb hown (hE.2.2.2.2.1 (RX4, 107, "go", 3) (by decide +kernel)) dX4_readStep_88 ?_
        obtain ⟨r9, σ10, hc10, hf⟩ := nBd_e hf
        refine nb_callVi (As := [.ref (kt 3)]) (rest := []) ⟨hx, hb, hml, hown, hts⟩ (c_X4_isWord (D := D) (A := A) (cy := cy) (a := a) (kt := kt) (vt := vt) (l := l) (by decide) hc10) (cwV 1 hts gX4_readStep_X4_isWord rfl rfl rfl (by decide +kernel) ⟨Nat.le_of_ble_eq_true rfl, Nat.le_of_ble_eq_true rfl⟩) hE hP hS nbo_6 rfl rfl hl.1 rfl (Nat.le_of_ble_eq_true rfl) dX4_readStep_90 (fun H locs hP hS => ?_)
        refine lv_if_eq (tgt := 137) hx hb dX4_readStep_93 (by decide) (fun hc => ?_) (fun hc => ?_)
        · replace hf := nIf_t hc hf
          refine lv_aload_n hx hb dX4_readStep_137 rfl (lv_at hl 1 rfl) ?_
          refine lv_aload_n hx hb dX4_readStep_138 rfl (lv_at hl 1 rfl) ?_
          refine nb_getN (ci := 7) hx hb hts iX4_readStep_X7 hown hE hP 1 nbo_1 rfl 3 (by decide) (host := RX8) (by decide +kernel) rfl rfl dX4_readStep_139 ?_
          refine lv_iload_n hx hb dX4_readStep_142 rfl (lv_at hl 2 rfl) ?_
          refine lv_iconst (v := 0) hx hb dX4_readStep_143 (by decide) ?_
          refine lv_iconst (v := 5) hx hb dX4_readStep_144 (by decide) ?_
          obtain ⟨r11, σ12, hc12, hf⟩ := nBd_e hf
          refine nb_callVv (As := [.int (σ10.1 1 3), .int x2, .int 0, .int 5]) (rest := []) ⟨hx, hb, hml, hown, hts⟩ (c_X7_setCell (D := D) (A := A) (cy := cy) (a := a) (kt := kt) (vt := vt) (l := l)  hc12) (cwV 4 hts gX4_readStep_X7_setCell rfl rfl rfl (by decide +kernel) ⟨Nat.le_of_ble_eq_true rfl, Nat.le_of_ble_eq_true rfl⟩) hE hP hS nbo_1 rfl rfl hl.1 rfl (Nat.le_of_ble_eq_true rfl) dX4_readStep_145 (fun H locs hP hS => ?_)
          refine lv_aload_n hx hb dX4_readStep_148 rfl (lv_at hl 0 rfl) ?_
          refine va_ldcS hx hb hown (hE.2.2.2.2.1 (RX4, 109, "calm", 4) (by decide +kernel)) dX4_readStep_149 ?_
          obtain ⟨r13, σ14, hc14, hf⟩ := nBd_e hf
          refine nb_callVi (As := [.ref (kt 4)]) (rest := []) ⟨hx, hb, hml, hown, hts⟩ (c_X4_takeWord (D := D) (A := A) (cy := cy) (a := a) (kt := kt) (vt := vt) (l := l) (by decide) hc14) (cwV 1 hts gX4_readStep_X4_takeWord rfl rfl rfl (by decide +kernel) ⟨Nat.le_of_ble_eq_true rfl, Nat.le_of_ble_eq_true rfl⟩) hE hP hS nbo_6 rfl rfl hl.1 rfl (Nat.le_of_ble_eq_true rfl) dX4_readStep_151 (fun H locs hP hS => ?_)
          obtain ⟨hz, hf⟩ := nZ_e hf
          exact nb_zret hx hb hr hlocks hP hS (nSo hf) hz dX4_readStep_154
        · replace hf := nIf_f hc hf
          refine lv_aload_n hx hb dX4_readStep_96 rfl (lv_at hl 1 rfl) ?_
          refine lv_aload_n hx hb dX4_readStep_97 rfl (lv_at hl 1 rfl) ?_
          refine nb_getN (ci := 7) hx hb hts iX4_readStep_X7 hown hE hP 1 nbo_1 rfl 3 (by decide) (host := RX8) (by decide +kernel) rfl rfl dX4_readStep_98 ?_
          refine lv_iload_n hx hb dX4_readStep_101 rfl (lv_at hl 2 rfl) ?_
          refine lv_iconst (v := 0) hx hb dX4_readStep_102 (by decide) ?_
          refine lv_iconst (v := 4) hx hb dX4_readStep_103 (by decide) ?_
          obtain ⟨r15, σ16, hc16, hf⟩ := nBd_e hf
          refine nb_callVv (As := [.int (σ10.1 1 3), .int x2, .int 0, .int 4]) (rest := []) ⟨hx, hb, hml, hown, hts⟩ (c_X7_setCell (D := D) (A := A) (cy := cy) (a := a) (kt := kt) (vt := vt) (l := l)  hc16) (cwV 4 hts gX4_readStep_X7_setCell rfl rfl rfl (by decide +kernel) ⟨Nat.le_of_ble_eq_true rfl, Nat.le_of_ble_eq_true rfl⟩) hE hP hS nbo_1 rfl rfl hl.1 rfl (Nat.le_of_ble_eq_true rfl) dX4_readStep_104 (fun H locs hP hS => ?_)
          refine lv_aload_n hx hb dX4_readStep_107 rfl (lv_at hl 0 rfl) ?_
          obtain ⟨r17, σ18, hc18, hf⟩ := nBd_e hf
          refine nb_callVv (As := []) (rest := []) ⟨hx, hb, hml, hown, hts⟩ (c_X4_advance (D := D) (A := A) (cy := cy) (a := a) (kt := kt) (vt := vt) (l := l)  hc18) (cwV 0 hts gX4_readStep_X4_advance rfl rfl rfl (by decide +kernel) ⟨Nat.le_of_ble_eq_true rfl, Nat.le_of_ble_eq_true rfl⟩) hE hP hS nbo_6 rfl rfl hl.1 rfl (Nat.le_of_ble_eq_true rfl) dX4_readStep_108 (fun H locs hP hS => ?_)
          refine lv_aload_n hx hb dX4_readStep_111 rfl (lv_at hl 0 rfl) ?_
          refine lv_iconst (v := 0) hx hb dX4_readStep_112 (by decide) ?_
          refine lv_bipush (v := 99) hx hb dX4_readStep_113 (by decide) ?_
          obtain ⟨r19, σ20, hc20, hf⟩ := nBd_e hf
          refine nb_callVi (As := [.int 0, .int 99]) (rest := []) ⟨hx, hb, hml, hown, hts⟩ (c_X4_takeNumber (D := D) (A := A) (cy := cy) (a := a) (kt := kt) (vt := vt) (l := l)  hc20) (cwV 2 hts gX4_readStep_X4_takeNumber rfl rfl rfl (by decide +kernel) ⟨Nat.le_of_ble_eq_true rfl, Nat.le_of_ble_eq_true rfl⟩) hE hP hS nbo_6 rfl rfl hl.1 rfl (Nat.le_of_ble_eq_true rfl) dX4_readStep_115 (fun H locs hP hS => ?_)
          refine lv_if_eq (tgt := 135) hx hb dX4_readStep_118 (by decide) (fun hc => ?_) (fun hc => ?_)
          · replace hf := nIf_t hc hf
            refine lv_iconst (v := 0) hx hb dX4_readStep_135 (by decide) ?_
            exact nb_zret hx hb hr hlocks hP hS (nSo hf) rfl dX4_readStep_136
          · replace hf := nIf_f hc hf
            refine lv_aload_n hx hb dX4_readStep_121 rfl (lv_at hl 0 rfl) ?_
            refine lv_aload_n hx hb dX4_readStep_122 rfl (lv_at hl 1 rfl) ?_
            refine lv_iload_n hx hb dX4_readStep_123 rfl (lv_at hl 2 rfl) ?_
            refine lv_iconst (v := 1) hx hb dX4_readStep_124 (by decide) ?_
            obtain ⟨r21, σ22, hc22, hf⟩ := nBd_e hf
            refine nb_callVi (As := [.ref (a 1), .int x2, .int 1]) (rest := []) ⟨hx, hb, hml, hown, hts⟩ (c_X4_keepTarget (D := D) (A := A) (cy := cy) (a := a) (kt := kt) (vt := vt) (l := l)  hc22) (cwV 3 hts gX4_readStep_X4_keepTarget rfl rfl rfl (by decide +kernel) ⟨Nat.le_of_ble_eq_true rfl, Nat.le_of_ble_eq_true rfl⟩) hE hP hS nbo_6 rfl rfl hl.1 rfl (Nat.le_of_ble_eq_true rfl) dX4_readStep_125 (fun H locs hP hS => ?_)
            refine lv_if_eq (tgt := 135) hx hb dX4_readStep_128 (by decide) (fun hc => ?_) (fun hc => ?_)
            · replace hf := nIf_t hc hf
              refine lv_iconst (v := 0) hx hb dX4_readStep_135 (by decide) ?_
              exact nb_zret hx hb hr hlocks hP hS (nSo hf) rfl dX4_readStep_136
            · replace hf := nIf_f hc hf
              refine lv_iconst (v := 1) hx hb dX4_readStep_131 (by decide) ?_
              refine lv_goto (tgt := 136) hx hb dX4_readStep_132 (by decide) ?_
              exact nb_zret hx hb hr hlocks hP hS (nSo hf) rfl dX4_readStep_136
      · replace hf := nIf_f hc hf
        refine lv_aload_n hx hb dX4_readStep_46 rfl (lv_at hl 1 rfl) ?_
        refine lv_aload_n hx hb dX4_readStep_47 rfl (lv_at hl 1 rfl) ?_
        refine nb_getN (ci := 7) hx hb hts iX4_readStep_X7 hown hE hP 1 nbo_1 rfl 3 (by decide) (host := RX8) (by decide +kernel) rfl rfl dX4_readStep_48 ?_
        refine lv_iload_n hx hb dX4_readStep_51 rfl (lv_at hl 2 rfl) ?_
        refine lv_iconst (v := 0) hx hb dX4_readStep_52 (by decide) ?_
        refine lv_iconst (v := 3) hx hb dX4_readStep_53 (by decide) ?_
        obtain ⟨r23, σ24, hc24, hf⟩ := nBd_e hf
        refine nb_callVv (As := [.int (σ8.1 1 3), .int x2, .int 0, .int 3]) (rest := []) ⟨hx, hb, hml, hown, hts⟩ (c_X7_setCell (D := D) (A := A) (cy := cy) (a := a) (kt := kt) (vt := vt) (l := l)  hc24) (cwV 4 hts gX4_readStep_X7_setCell rfl rfl rfl (by decide +kernel) ⟨Nat.le_of_ble_eq_true rfl, Nat.le_of_ble_eq_true rfl⟩) hE hP hS nbo_1 rfl rfl hl.1 rfl (Nat.le_of_ble_eq_true rfl) dX4_readStep_54 (fun H locs hP hS => ?_)
        refine lv_aload_n hx hb dX4_readStep_57 rfl (lv_at hl 0 rfl) ?_
        obtain ⟨r25, σ26, hc26, hf⟩ := nBd_e hf
        refine nb_callVv (As := []) (rest := []) ⟨hx, hb, hml, hown, hts⟩ (c_X4_advance (D := D) (A := A) (cy := cy) (a := a) (kt := kt) (vt := vt) (l := l)  hc26) (cwV 0 hts gX4_readStep_X4_advance rfl rfl rfl (by decide +kernel) ⟨Nat.le_of_ble_eq_true rfl, Nat.le_of_ble_eq_true rfl⟩) hE hP hS nbo_6 rfl rfl hl.1 rfl (Nat.le_of_ble_eq_true rfl) dX4_readStep_58 (fun H locs hP hS => ?_)
        refine lv_aload_n hx hb dX4_readStep_61 rfl (lv_at hl 0 rfl) ?_
        refine lv_iconst (v := 1) hx hb dX4_readStep_62 (by decide) ?_
        refine lv_bipush (v := 60) hx hb dX4_readStep_63 (by decide) ?_
        obtain ⟨r27, σ28, hc28, hf⟩ := nBd_e hf
        refine nb_callVi (As := [.int 1, .int 60]) (rest := []) ⟨hx, hb, hml, hown, hts⟩ (c_X4_takeNumber (D := D) (A := A) (cy := cy) (a := a) (kt := kt) (vt := vt) (l := l)  hc28) (cwV 2 hts gX4_readStep_X4_takeNumber rfl rfl rfl (by decide +kernel) ⟨Nat.le_of_ble_eq_true rfl, Nat.le_of_ble_eq_true rfl⟩) hE hP hS nbo_6 rfl rfl hl.1 rfl (Nat.le_of_ble_eq_true rfl) dX4_readStep_65 (fun H locs hP hS => ?_)
        refine lv_if_eq (tgt := 85) hx hb dX4_readStep_68 (by decide) (fun hc => ?_) (fun hc => ?_)
        · replace hf := nIf_t hc hf
          refine lv_iconst (v := 0) hx hb dX4_readStep_85 (by decide) ?_
          exact nb_zret hx hb hr hlocks hP hS (nSo hf) rfl dX4_readStep_86
        · replace hf := nIf_f hc hf
          refine lv_aload_n hx hb dX4_readStep_71 rfl (lv_at hl 0 rfl) ?_
          refine lv_aload_n hx hb dX4_readStep_72 rfl (lv_at hl 1 rfl) ?_
          refine lv_iload_n hx hb dX4_readStep_73 rfl (lv_at hl 2 rfl) ?_
          refine lv_iconst (v := 1) hx hb dX4_readStep_74 (by decide) ?_
          obtain ⟨r29, σ30, hc30, hf⟩ := nBd_e hf
          refine nb_callVi (As := [.ref (a 1), .int x2, .int 1]) (rest := []) ⟨hx, hb, hml, hown, hts⟩ (c_X4_keep (D := D) (A := A) (cy := cy) (a := a) (kt := kt) (vt := vt) (l := l)  hc30) (cwV 3 hts gX4_readStep_X4_keep rfl rfl rfl (by decide +kernel) ⟨Nat.le_of_ble_eq_true rfl, Nat.le_of_ble_eq_true rfl⟩) hE hP hS nbo_6 rfl rfl hl.1 rfl (Nat.le_of_ble_eq_true rfl) dX4_readStep_75 (fun H locs hP hS => ?_)
          refine lv_if_eq (tgt := 85) hx hb dX4_readStep_78 (by decide) (fun hc => ?_) (fun hc => ?_)
          · replace hf := nIf_t hc hf
            refine lv_iconst (v := 0) hx hb dX4_readStep_85 (by decide) ?_
            exact nb_zret hx hb hr hlocks hP hS (nSo hf) rfl dX4_readStep_86
          · replace hf := nIf_f hc hf
            refine lv_iconst (v := 1) hx hb dX4_readStep_81 (by decide) ?_
            refine lv_goto (tgt := 86) hx hb dX4_readStep_82 (by decide) ?_
            exact nb_zret hx hb hr hlocks hP hS (nSo hf) rfl dX4_readStep_86
    · replace hf := nIf_f hc hf
      refine lv_aload_n hx hb dX4_readStep_30 rfl (lv_at hl 0 rfl) ?_
      refine lv_aload_n hx hb dX4_readStep_31 rfl (lv_at hl 1 rfl) ?_
      refine lv_iload_n hx hb dX4_readStep_32 rfl (lv_at hl 2 rfl) ?_
      obtain ⟨r31, σ32, hc32, hf⟩ := nBd_e hf
      refine nb_callVi (As := [.ref (a 1), .int x2]) (rest := []) ⟨hx, hb, hml, hown, hts⟩ (c_X4_readAsk (D := D) (A := A) (cy := cy) (a := a) (kt := kt) (vt := vt) (l := l)  hc32) (cwV 2 hts gX4_readStep_X4_readAsk rfl rfl rfl (by decide +kernel) ⟨Nat.le_of_ble_eq_true rfl, Nat.le_of_ble_eq_true rfl⟩) hE hP hS nbo_6 rfl rfl hl.1 rfl (Nat.le_of_ble_eq_true rfl) dX4_readStep_33 (fun H locs hP hS => ?_)
      obtain ⟨hz, hf⟩ := nZ_e hf
      exact nb_zret hx hb hr hlocks hP hS (nSo hf) hz dX4_readStep_36
  · replace hf := nIf_f hc hf
    refine lv_aload_n hx hb dX4_readStep_14 rfl (lv_at hl 0 rfl) ?_
    refine lv_aload_n hx hb dX4_readStep_15 rfl (lv_at hl 1 rfl) ?_
    refine lv_iload_n hx hb dX4_readStep_16 rfl (lv_at hl 2 rfl) ?_
    obtain ⟨r33, σ34, hc34, hf⟩ := nBd_e hf
    refine nb_callVi (As := [.ref (a 1), .int x2]) (rest := []) ⟨hx, hb, hml, hown, hts⟩ (c_X4_readDo (D := D) (A := A) (cy := cy) (a := a) (kt := kt) (vt := vt) (l := l)  hc34) (cwV 2 hts gX4_readStep_X4_readDo rfl rfl rfl (by decide +kernel) ⟨Nat.le_of_ble_eq_true rfl, Nat.le_of_ble_eq_true rfl⟩) hE hP hS nbo_6 rfl rfl hl.1 rfl (Nat.le_of_ble_eq_true rfl) dX4_readStep_17 (fun H locs hP hS => ?_)
    obtain ⟨hz, hf⟩ := nZ_e hf
    exact nb_zret hx hb hr hlocks hP hS (nSo hf) hz dX4_readStep_20
def l_X4_readStep_0 (N : Nat) : nS → Int32 → Option (Int32 × nS) := b_X4_readStep_0 N
theorem kl_X4_readStep_0 {p : Program} {l : Launch} {e : Env} {s : State} {m : MethodId} {args : Array Value} {below : List Frame} {meth : Method} {c : Code} {D : va_G} {A : Nat → Prop} {cy : Nat → ClassId} {a kt vt : Nat → Nat} {N : Nat}   (C0 : nCx p s m args meth c cX4_readStep 3 (some .boolean) RX4 wsX4_readStep) (hE : nEn D A cy (NBw cy a) kt vt s) {z : Int32 × nS} : ∀ (σ : nS) (x2 : Int32) (H : Heap) (locs : List Loc) (ls : Array Slot), lv_has ls 3 [(0, .ref (a 6)), (1, .ref (a 1)), (2, .int x2)] → va_P D vwCl ((NBw cy a) σ) H → va_S A s.heap H locs → l_X4_readStep_0 N σ x2 = some z → W p l e ({ frames := 7, cells := 0, slots := 0, locals := 151 } : Room) s m args below meth c H locs 0 0 (nQi below D A (NBw cy a) args s z) (F0 m 0 ls []) := by
  exact kb_X4_readStep_0 (N := N)  C0 hE
def f_X4_readStep (N : Nat) (x2 : Int32) (σ : nS) : Option (Int32 × nS) := l_X4_readStep_0 N σ x2
set_option maxHeartbeats 4000000 in
set_option maxRecDepth 100000 in
theorem c_X4_readStep {l : Launch} {D : va_G} {A : Nat → Prop} {cy : Nat → ClassId} {a kt vt : Nat → Nat} {N : Nat}   {x2 : Int32} {σ : nS} {r : Int32} {σ' : nS} (hf : f_X4_readStep N x2 σ = some (r, σ')) : nMi l yX4_readStep wsX4_readStep ({ frames := 7, cells := 0, slots := 0, locals := 151 } : Room) D A cy (NBw cy a) kt vt [.ref (a 6), .ref (a 1), .int x2] σ r σ' := by
  refine Met.ofW (cc := cX4_readStep) (maxL := 3) (ret := (some .boolean)) (by decide) rfl ?_
  intro p e s m args below meth c s₁ B hml hv
  obtain ⟨rfl, hP, hE⟩ := hv
  have hl := lv_entry ([.ref (a 6), .ref (a 1), .int x2]) (n := 3) (Nat.le_of_ble_eq_true rfl)
  rw [lg_entry_eq]
  generalize (lg_sl ([.ref (a 6), .ref (a 1), .int x2]) ++ List.replicate (3 - (lg_sl ([.ref (a 6), .ref (a 1), .int x2])).length) Slot.unset).toArray = ls at hl ⊢
  have C0 : nCx p s m _ meth c cX4_readStep 3 (some .boolean) RX4 wsX4_readStep := ⟨B.exec, B.bytes, B.returns, hml, findClass_of_methodNamed B.named, atoms_spec (ws := wsX4_readStep) B.pre, B.notSynchronized⟩
  exact kl_X4_readStep_0 (N := N)  C0 hE (z := (r, σ')) σ x2 _ _ ls hl hP va_S.rf hf

/-! X4_targetsAreThere -/
set_option maxRecDepth 20000 in
theorem iX4_targetsAreThere_X4 : ∀ w ∈ u_ws RX4 TX4 14, w ∈ wsX4_targetsAreThere := fun _ h => List.mem_cons_of_mem _ (List.mem_append_right _ h)
set_option maxRecDepth 20000 in
theorem qX4_targetsAreThere_52 : Cond.fieldLink RX4 52 RX4 (TX4 13).2.1 (TX4 13).2.2.1 ∈ wsX4_targetsAreThere := by decide +kernel
set_option maxRecDepth 20000 in
theorem qX4_targetsAreThere_46 : Cond.fieldLink RX4 46 RX4 (TX4 11).2.1 (TX4 11).2.2.1 ∈ wsX4_targetsAreThere := by decide +kernel
set_option maxRecDepth 20000 in
theorem qX4_targetsAreThere_40 : Cond.fieldLink RX4 40 RX4 (TX4 9).2.1 (TX4 9).2.2.1 ∈ wsX4_targetsAreThere := by decide +kernel
set_option maxRecDepth 20000 in
theorem qX4_targetsAreThere_49 : Cond.fieldLink RX4 49 RX4 (TX4 12).2.1 (TX4 12).2.2.1 ∈ wsX4_targetsAreThere := by decide +kernel
set_option maxRecDepth 20000 in
theorem qX4_targetsAreThere_43 : Cond.fieldLink RX4 43 RX4 (TX4 10).2.1 (TX4 10).2.2.1 ∈ wsX4_targetsAreThere := by decide +kernel
def b_X4_targetsAreThere_2 (N : Nat) (k2 : nS → Int32 → Int32 → Option (Int32 × nS)) (σ : nS) (x1 : Int32) (x2 : Int32) : Option (Int32 × nS) := (if (σ.1 6 13) ≤ x2 then some (1, σ) else nLet (Int32.ofNat 48) (fun v1 => (if v1 ≤ x2 then some (1, σ) else nIx x2 48 (nLet (σ.1 8 (x2).toNatClampNeg) (fun v2 => (if v2 < x1 then nLet (x2 + 1 : Int32) (fun v3 => k2 σ x1 v3) else nLet (wr σ 6 9 2) (fun σ4 => nIx x2 48 (nLet (σ4.1 9 (x2).toNatClampNeg) (fun v5 => nLet (wr σ4 6 10 v5) (fun σ6 => some (0, σ6)))))))))))
set_option maxHeartbeats 4000000 in
set_option maxRecDepth 100000 in
theorem kb_X4_targetsAreThere_2 {p : Program} {l : Launch} {e : Env} {s : State} {m : MethodId} {args : Array Value} {below : List Frame} {meth : Method} {c : Code} {D : va_G} {A : Nat → Prop} {cy : Nat → ClassId} {a kt vt : Nat → Nat} {N : Nat}   (C0 : nCx p s m args meth c cX4_targetsAreThere 3 (some .boolean) RX4 wsX4_targetsAreThere) (hE : nEn D A cy (NBw cy a) kt vt s) {z : Int32 × nS} {k2 : nS → Int32 → Int32 → Option (Int32 × nS)} (K2 : ∀ (σ : nS) (x1 : Int32) (x2 : Int32) (H : Heap) (locs : List Loc) (ls : Array Slot), lv_has ls 3 [(0, .ref (a 6)), (1, .int x1), (2, .int x2)] → va_P D vwCl ((NBw cy a) σ) H → va_S A s.heap H locs → k2 σ x1 x2 = some z → W p l e ({ frames := 0, cells := 0, slots := 0, locals := 0 } : Room) s m args below meth c H locs 0 0 (nQi below D A (NBw cy a) args s z) (F0 m 2 ls [])) : ∀ (σ : nS) (x1 : Int32) (x2 : Int32) (H : Heap) (locs : List Loc) (ls : Array Slot), lv_has ls 3 [(0, .ref (a 6)), (1, .int x1), (2, .int x2)] → va_P D vwCl ((NBw cy a) σ) H → va_S A s.heap H locs → b_X4_targetsAreThere_2 N k2 σ x1 x2 = some z → W p l e ({ frames := 0, cells := 0, slots := 0, locals := 0 } : Room) s m args below meth c H locs 0 0 (nQi below D A (NBw cy a) args s z) (F0 m 2 ls []) := by
  obtain ⟨hx, hb, hr, hml, hown, hts, hlocks⟩ := C0
  intro σ x1 x2 H locs ls hl hP hS hf
  unfold b_X4_targetsAreThere_2 at hf
  refine lv_iload_n hx hb dX4_targetsAreThere_2 rfl (lv_at hl 2 rfl) ?_
  refine lv_aload_n hx hb dX4_targetsAreThere_3 rfl (lv_at hl 0 rfl) ?_
  refine nb_get (ci := 4) hx hb hts iX4_targetsAreThere_X4 hown hE hP 6 nbo_6 rfl 13 (by decide) qX4_targetsAreThere_52 rfl rfl dX4_targetsAreThere_4 ?_
  refine lv_icmp_ge (tgt := 52) hx hb dX4_targetsAreThere_7 (by decide) (fun hc => ?_) (fun hc => ?_)
  · replace hf := nIf_t hc hf
    refine lv_iconst (v := 1) hx hb dX4_targetsAreThere_52 (by decide) ?_
    exact nb_zret hx hb hr hlocks hP hS (nSo hf) rfl dX4_targetsAreThere_53
  · replace hf := nIf_f hc hf
    refine lv_iload_n hx hb dX4_targetsAreThere_10 rfl (lv_at hl 2 rfl) ?_
    refine lv_aload_n hx hb dX4_targetsAreThere_11 rfl (lv_at hl 0 rfl) ?_
    refine nb_get (ci := 4) hx hb hts iX4_targetsAreThere_X4 hown hE hP 6 nbo_6 rfl 11 (by decide) qX4_targetsAreThere_46 rfl rfl dX4_targetsAreThere_12 ?_
    refine na_alen hx hb hE hP nbr_8 dX4_targetsAreThere_15 ?_
    refine lv_topi (fun v1 ev1 => ?_)
    replace hf := nLet_e hf ev1
    refine lv_icmp_ge (tgt := 52) hx hb dX4_targetsAreThere_16 (by decide) (fun hc => ?_) (fun hc => ?_)
    · replace hf := nIf_t hc hf
      refine lv_iconst (v := 1) hx hb dX4_targetsAreThere_52 (by decide) ?_
      exact nb_zret hx hb hr hlocks hP hS (nSo hf) rfl dX4_targetsAreThere_53
    · replace hf := nIf_f hc hf
      refine lv_aload_n hx hb dX4_targetsAreThere_19 rfl (lv_at hl 0 rfl) ?_
      refine nb_get (ci := 4) hx hb hts iX4_targetsAreThere_X4 hown hE hP 6 nbo_6 rfl 11 (by decide) qX4_targetsAreThere_46 rfl rfl dX4_targetsAreThere_20 ?_
      refine lv_iload_n hx hb dX4_targetsAreThere_23 rfl (lv_at hl 2 rfl) ?_
      obtain ⟨hin, hf⟩ := nIx_e hf
      refine na_iald hx hb hE hP nbr_8 hin dX4_targetsAreThere_24 ?_
      refine lv_topi (fun v2 ev2 => ?_)
      replace hf := nLet_e hf ev2
      refine lv_iload_n hx hb dX4_targetsAreThere_25 rfl (lv_at hl 1 rfl) ?_
      refine lv_icmp_lt (tgt := 46) hx hb dX4_targetsAreThere_26 (by decide) (fun hc => ?_) (fun hc => ?_)
      · replace hf := nIf_t hc hf
        obtain ⟨v3, ev3⟩ : ∃ y : Int32, y = x2 + 1 := ⟨_, rfl⟩
        replace hf := nLet_e hf ev3
        refine lv_iinc (v := v3) (lv' := [(2, .int v3), (0, .ref (a 6)), (1, .int x1)]) hx hb dX4_targetsAreThere_46 hl (k := 2) rfl (by rw [ev3]; rfl) (by decide) rfl (fun ls hl => ?_)
        refine lv_goto (tgt := 2) hx hb dX4_targetsAreThere_49 (by decide) ?_
        exact K2 σ x1 v3 H locs ls (lv_sub hl [1, 2, 0] rfl) hP hS hf
      · replace hf := nIf_f hc hf
        refine lv_aload_n hx hb dX4_targetsAreThere_29 rfl (lv_at hl 0 rfl) ?_
        refine lv_iconst (v := 2) hx hb dX4_targetsAreThere_30 (by decide) ?_
        refine nb_put (ci := 4) hx hb hts iX4_targetsAreThere_X4 tyX4 tyX4_ok nmX4 hown hE hP hS 6 nbo_6 rfl 9 (by decide) qX4_targetsAreThere_40 rfl rfl rfl rfl (Nat.le_of_ble_eq_true rfl) dX4_targetsAreThere_31 (nbp_6_9 _) (fun σ4 eσ4 H locs hP hS => ?_)
        replace hf := nLet_e hf eσ4
        refine lv_aload_n hx hb dX4_targetsAreThere_34 rfl (lv_at hl 0 rfl) ?_
        refine lv_aload_n hx hb dX4_targetsAreThere_35 rfl (lv_at hl 0 rfl) ?_
        refine nb_get (ci := 4) hx hb hts iX4_targetsAreThere_X4 hown hE hP 6 nbo_6 rfl 12 (by decide) qX4_targetsAreThere_49 rfl rfl dX4_targetsAreThere_36 ?_
        refine lv_iload_n hx hb dX4_targetsAreThere_39 rfl (lv_at hl 2 rfl) ?_
        obtain ⟨hin, hf⟩ := nIx_e hf
        refine na_iald hx hb hE hP nbr_9 hin dX4_targetsAreThere_40 ?_
        refine lv_topi (fun v5 ev5 => ?_)
        replace hf := nLet_e hf ev5
        refine nb_put (ci := 4) hx hb hts iX4_targetsAreThere_X4 tyX4 tyX4_ok nmX4 hown hE hP hS 6 nbo_6 rfl 10 (by decide) qX4_targetsAreThere_43 rfl rfl rfl rfl (Nat.le_of_ble_eq_true rfl) dX4_targetsAreThere_41 (nbp_6_10 _) (fun σ6 eσ6 H locs hP hS => ?_)
        replace hf := nLet_e hf eσ6
        refine lv_iconst (v := 0) hx hb dX4_targetsAreThere_44 (by decide) ?_
        exact nb_zret hx hb hr hlocks hP hS (nSo hf) rfl dX4_targetsAreThere_45
def b_X4_targetsAreThere_0 (N : Nat) (k2 : nS → Int32 → Int32 → Option (Int32 × nS)) (σ : nS) (x1 : Int32) : Option (Int32 × nS) := k2 σ x1 0
set_option maxHeartbeats 4000000 in
set_option maxRecDepth 100000 in
theorem kb_X4_targetsAreThere_0 {p : Program} {l : Launch} {e : Env} {s : State} {m : MethodId} {args : Array Value} {below : List Frame} {meth : Method} {c : Code} {D : va_G} {A : Nat → Prop} {cy : Nat → ClassId} {a kt vt : Nat → Nat} {N : Nat}   (C0 : nCx p s m args meth c cX4_targetsAreThere 3 (some .boolean) RX4 wsX4_targetsAreThere) (hE : nEn D A cy (NBw cy a) kt vt s) {z : Int32 × nS} {k2 : nS → Int32 → Int32 → Option (Int32 × nS)} (K2 : ∀ (σ : nS) (x1 : Int32) (x2 : Int32) (H : Heap) (locs : List Loc) (ls : Array Slot), lv_has ls 3 [(0, .ref (a 6)), (1, .int x1), (2, .int x2)] → va_P D vwCl ((NBw cy a) σ) H → va_S A s.heap H locs → k2 σ x1 x2 = some z → W p l e ({ frames := 0, cells := 0, slots := 0, locals := 0 } : Room) s m args below meth c H locs 0 0 (nQi below D A (NBw cy a) args s z) (F0 m 2 ls [])) : ∀ (σ : nS) (x1 : Int32) (H : Heap) (locs : List Loc) (ls : Array Slot), lv_has ls 3 [(0, .ref (a 6)), (1, .int x1)] → va_P D vwCl ((NBw cy a) σ) H → va_S A s.heap H locs → b_X4_targetsAreThere_0 N k2 σ x1 = some z → W p l e ({ frames := 0, cells := 0, slots := 0, locals := 0 } : Room) s m args below meth c H locs 0 0 (nQi below D A (NBw cy a) args s z) (F0 m 0 ls []) := by
  obtain ⟨hx, hb, hr, hml, hown, hts, hlocks⟩ := C0
  intro σ x1 H locs ls hl hP hS hf
  unfold b_X4_targetsAreThere_0 at hf
  refine lv_iconst (v := 0) hx hb dX4_targetsAreThere_0 (by decide) ?_
  refine lv_istore_n (lv' := [(2, .int 0), (0, .ref (a 6)), (1, .int x1)]) hx hb dX4_targetsAreThere_1 rfl hl (by decide) rfl (fun ls hl => ?_)
  exact K2 σ x1 0 H locs ls (lv_sub hl [1, 2, 0] rfl) hP hS hf
def l_X4_targetsAreThere_2 (N : Nat) : nS → Int32 → Int32 → Option (Int32 × nS) := nLp (fun _ _ _ => none) (fun again => b_X4_targetsAreThere_2 N again) N
theorem kl_X4_targetsAreThere_2 {p : Program} {l : Launch} {e : Env} {s : State} {m : MethodId} {args : Array Value} {below : List Frame} {meth : Method} {c : Code} {D : va_G} {A : Nat → Prop} {cy : Nat → ClassId} {a kt vt : Nat → Nat} {N : Nat}   (C0 : nCx p s m args meth c cX4_targetsAreThere 3 (some .boolean) RX4 wsX4_targetsAreThere) (hE : nEn D A cy (NBw cy a) kt vt s) {z : Int32 × nS} : ∀ (σ : nS) (x1 : Int32) (x2 : Int32) (H : Heap) (locs : List Loc) (ls : Array Slot), lv_has ls 3 [(0, .ref (a 6)), (1, .int x1), (2, .int x2)] → va_P D vwCl ((NBw cy a) σ) H → va_S A s.heap H locs → l_X4_targetsAreThere_2 N σ x1 x2 = some z → W p l e ({ frames := 0, cells := 0, slots := 0, locals := 0 } : Room) s m args below meth c H locs 0 0 (nQi below D A (NBw cy a) args s z) (F0 m 2 ls []) := by
  have main : ∀ (fu : Nat), ∀ (σ : nS) (x1 : Int32) (x2 : Int32) (H : Heap) (locs : List Loc) (ls : Array Slot), lv_has ls 3 [(0, .ref (a 6)), (1, .int x1), (2, .int x2)] → va_P D vwCl ((NBw cy a) σ) H → va_S A s.heap H locs → nLp (fun _ _ _ => none) (fun again => b_X4_targetsAreThere_2 N again) fu σ x1 x2 = some z → W p l e ({ frames := 0, cells := 0, slots := 0, locals := 0 } : Room) s m args below meth c H locs 0 0 (nQi below D A (NBw cy a) args s z) (F0 m 2 ls []) := by
    intro fu
    induction fu with
    | zero => intro σ x1 x2 H locs ls hl hP hS hf; cases hf
    | succ fu ih => exact kb_X4_targetsAreThere_2 (N := N)  C0 hE ih
  exact main N
def l_X4_targetsAreThere_0 (N : Nat) : nS → Int32 → Option (Int32 × nS) := b_X4_targetsAreThere_0 N (l_X4_targetsAreThere_2 N)
theorem kl_X4_targetsAreThere_0 {p : Program} {l : Launch} {e : Env} {s : State} {m : MethodId} {args : Array Value} {below : List Frame} {meth : Method} {c : Code} {D : va_G} {A : Nat → Prop} {cy : Nat → ClassId} {a kt vt : Nat → Nat} {N : Nat}   (C0 : nCx p s m args meth c cX4_targetsAreThere 3 (some .boolean) RX4 wsX4_targetsAreThere) (hE : nEn D A cy (NBw cy a) kt vt s) {z : Int32 × nS} : ∀ (σ : nS) (x1 : Int32) (H : Heap) (locs : List Loc) (ls : Array Slot), lv_has ls 3 [(0, .ref (a 6)), (1, .int x1)] → va_P D vwCl ((NBw cy a) σ) H → va_S A s.heap H locs → l_X4_targetsAreThere_0 N σ x1 = some z → W p l e ({ frames := 0, cells := 0, slots := 0, locals := 0 } : Room) s m args below meth c H locs 0 0 (nQi below D A (NBw cy a) args s z) (F0 m 0 ls []) := by
  exact kb_X4_targetsAreThere_0 (N := N)  C0 hE (kl_X4_targetsAreThere_2 (N := N)  C0 hE)
def f_X4_targetsAreThere (N : Nat) (x1 : Int32) (σ : nS) : Option (Int32 × nS) := l_X4_targetsAreThere_0 N σ x1
set_option maxHeartbeats 4000000 in
set_option maxRecDepth 100000 in
theorem c_X4_targetsAreThere {l : Launch} {D : va_G} {A : Nat → Prop} {cy : Nat → ClassId} {a kt vt : Nat → Nat} {N : Nat}   {x1 : Int32} {σ : nS} {r : Int32} {σ' : nS} (hf : f_X4_targetsAreThere N x1 σ = some (r, σ')) : nMi l yX4_targetsAreThere wsX4_targetsAreThere ({ frames := 0, cells := 0, slots := 0, locals := 0 } : Room) D A cy (NBw cy a) kt vt [.ref (a 6), .int x1] σ r σ' := by
  refine Met.ofW (cc := cX4_targetsAreThere) (maxL := 3) (ret := (some .boolean)) (by decide) rfl ?_
  intro p e s m args below meth c s₁ B hml hv
  obtain ⟨rfl, hP, hE⟩ := hv
  have hl := lv_entry ([.ref (a 6), .int x1]) (n := 3) (Nat.le_of_ble_eq_true rfl)
  rw [lg_entry_eq]
  generalize (lg_sl ([.ref (a 6), .int x1]) ++ List.replicate (3 - (lg_sl ([.ref (a 6), .int x1])).length) Slot.unset).toArray = ls at hl ⊢
  have C0 : nCx p s m _ meth c cX4_targetsAreThere 3 (some .boolean) RX4 wsX4_targetsAreThere := ⟨B.exec, B.bytes, B.returns, hml, findClass_of_methodNamed B.named, atoms_spec (ws := wsX4_targetsAreThere) B.pre, B.notSynchronized⟩
  exact kl_X4_targetsAreThere_0 (N := N)  C0 hE (z := (r, σ')) σ x1 _ _ ls hl hP va_S.rf hf

/-! X4_readText -/
set_option maxRecDepth 20000 in
theorem iX4_readText_X4 : ∀ w ∈ u_ws RX4 TX4 14, w ∈ wsX4_readText := fun _ h => List.mem_cons_of_mem _ (List.mem_append_left _ (List.mem_append_right _ h))
set_option maxRecDepth 20000 in
theorem qX4_readText_19 : Cond.fieldLink RX4 19 RX4 (TX4 2).2.1 (TX4 2).2.2.1 ∈ wsX4_readText := by decide +kernel
set_option maxRecDepth 20000 in
theorem qX4_readText_22 : Cond.fieldLink RX4 22 RX4 (TX4 3).2.1 (TX4 3).2.2.1 ∈ wsX4_readText := by decide +kernel
set_option maxRecDepth 20000 in
theorem qX4_readText_40 : Cond.fieldLink RX4 40 RX4 (TX4 9).2.1 (TX4 9).2.2.1 ∈ wsX4_readText := by decide +kernel
set_option maxRecDepth 20000 in
theorem qX4_readText_43 : Cond.fieldLink RX4 43 RX4 (TX4 10).2.1 (TX4 10).2.2.1 ∈ wsX4_readText := by decide +kernel
set_option maxRecDepth 20000 in
theorem qX4_readText_52 : Cond.fieldLink RX4 52 RX4 (TX4 13).2.1 (TX4 13).2.2.1 ∈ wsX4_readText := by decide +kernel
set_option maxRecDepth 20000 in
theorem qX4_readText_25 : Cond.fieldLink RX4 25 RX4 (TX4 4).2.1 (TX4 4).2.2.1 ∈ wsX4_readText := by decide +kernel
set_option maxRecDepth 20000 in
theorem iX4_readText_X7 : ∀ w ∈ u_ws RX7 TX7 9, w ∈ wsX4_readText := fun _ h => List.mem_cons_of_mem _ (List.mem_append_right _ h)
def b_X4_readText_31 (N : Nat) (k31 : nS → Int32 → Option (Int32 × nS)) (σ : nS) (x3 : Int32) : Option (Int32 × nS) := (if (24 : Int32) < x3 then nBd (f_X4_fail N 3 σ) (fun r1 σ2 => nZ r1 (some (r1, σ2))) else nBd (f_X4_beginsStep N σ) (fun r3 σ4 => (if r3 = 0 then nBd (f_X4_fail N 1 σ4) (fun r20 σ21 => nZ r20 (some (r20, σ21))) else (if x3 = 24 then nBd (f_X4_fail N 3 σ4) (fun r18 σ19 => nZ r18 (some (r18, σ19))) else nBd (f_X4_readStep N x3 σ4) (fun r5 σ6 => (if r5 = 0 then some (0, σ6) else (if (σ6.1 6 4) = 0 then nLet (x3 + (1 : Int32) : Int32) (fun v12 => nBd (f_X7_setSize N (σ6.1 1 3) v12 σ6) (fun r13 σ14 => nLet (x3 + (1 : Int32) : Int32) (fun v15 => nBd (f_X4_targetsAreThere N v15 σ14) (fun r16 σ17 => nZ r16 (some (r16, σ17)))))) else (if (σ6.1 6 4) = 3 then nBd (f_X4_advance N σ6) (fun r7 σ8 => nLet (x3 + 1 : Int32) (fun v9 => k31 σ8 v9)) else nBd (f_X4_fail N 1 σ6) (fun r10 σ11 => nZ r10 (some (r10, σ11)))))))))))
set_option maxHeartbeats 4000000 in
set_option maxRecDepth 100000 in
theorem kb_X4_readText_31 {p : Program} {l : Launch} {e : Env} {s : State} {m : MethodId} {args : Array Value} {below : List Frame} {meth : Method} {c : Code} {D : va_G} {A : Nat → Prop} {cy : Nat → ClassId} {a kt vt : Nat → Nat} {N : Nat}   (C0 : nCx p s m args meth c cX4_readText 4 (some .boolean) RX4 wsX4_readText) (hE : nEn D A cy (NBw cy a) kt vt s) {z : Int32 × nS} {k31 : nS → Int32 → Option (Int32 × nS)} (K31 : ∀ (σ : nS) (x3 : Int32) (H : Heap) (locs : List Loc) (ls : Array Slot), lv_has ls 4 [(0, .ref (a 6)), (1, .ref (a 1)), (3, .int x3)] → va_P D vwCl ((NBw cy a) σ) H → va_S A s.heap H locs → k31 σ x3 = some z → W p l e ({ frames := 8, cells := 0, slots := 0, locals := 173 } : Room) s m args below meth c H locs 0 0 (nQi below D A (NBw cy a) args s z) (F0 m 31 ls [])) : ∀ (σ : nS) (x3 : Int32) (H : Heap) (locs : List Loc) (ls : Array Slot), lv_has ls 4 [(0, .ref (a 6)), (1, .ref (a 1)), (3, .int x3)] → va_P D vwCl ((NBw cy a) σ) H → va_S A s.heap H locs → b_X4_readText_31 N k31 σ x3 = some z → W p l e ({ frames := 8, cells := 0, slots := 0, locals := 173 } : Room) s m args below meth c H locs 0 0 (nQi below D A (NBw cy a) args s z) (F0 m 31 ls []) := by
  obtain ⟨hx, hb, hr, hml, hown, hts, hlocks⟩ := C0
  intro σ x3 H locs ls hl hP hS hf
  unfold b_X4_readText_31 at hf
  refine lv_iload_n hx hb dX4_readText_31 rfl (lv_at hl 2 rfl) ?_
  refine lv_bipush (v := 24) hx hb dX4_readText_32 (by decide) ?_
  refine lv_icmp_gt (tgt := 123) hx hb dX4_readText_34 (by decide) (fun hc => ?_) (fun hc => ?_)
  · replace hf := nIf_t hc hf
    refine lv_aload_n hx hb dX4_readText_123 rfl (lv_at hl 0 rfl) ?_
    refine lv_iconst (v := 3) hx hb dX4_readText_124 (by decide) ?_
    obtain ⟨r1, σ2, hc2, hf⟩ := nBd_e hf
    refine nb_callVi (As := [.int 3]) (rest := []) ⟨hx, hb, hml, hown, hts⟩ (c_X4_fail (D := D) (A := A) (cy := cy) (a := a) (kt := kt) (vt := vt) (l := l)  hc2) (cwV 1 hts gX4_readText_X4_fail rfl rfl rfl (by decide +kernel) ⟨Nat.le_of_ble_eq_true rfl, Nat.le_of_ble_eq_true rfl⟩) hE hP hS nbo_6 rfl rfl hl.1 rfl (Nat.le_of_ble_eq_true rfl) dX4_readText_125 (fun H locs hP hS => ?_)
    obtain ⟨hz, hf⟩ := nZ_e hf
    exact nb_zret hx hb hr hlocks hP hS (nSo hf) hz dX4_readText_128
  · replace hf := nIf_f hc hf
    refine lv_aload_n hx hb dX4_readText_37 rfl (lv_at hl 0 rfl) ?_
    obtain ⟨r3, σ4, hc4, hf⟩ := nBd_e hf
    refine nb_callVi (As := []) (rest := []) ⟨hx, hb, hml, hown, hts⟩ (c_X4_beginsStep (D := D) (A := A) (cy := cy) (a := a) (kt := kt) (vt := vt) (l := l)  hc4) (cwV 0 hts gX4_readText_X4_beginsStep rfl rfl rfl (by decide +kernel) ⟨Nat.le_of_ble_eq_true rfl, Nat.le_of_ble_eq_true rfl⟩) hE hP hS nbo_6 rfl rfl hl.1 rfl (Nat.le_of_ble_eq_true rfl) dX4_readText_38 (fun H locs hP hS => ?_)
    refine lv_if_ne (tgt := 50) hx hb dX4_readText_41 (by decide) (fun hc => ?_) (fun hc => ?_)
    · replace hf := nIf_f hc hf
      refine lv_iload_n hx hb dX4_readText_50 rfl (lv_at hl 2 rfl) ?_
      refine lv_bipush (v := 24) hx hb dX4_readText_51 (by decide) ?_
      refine lv_icmp_ne (tgt := 62) hx hb dX4_readText_53 (by decide) (fun hc => ?_) (fun hc => ?_)
      · replace hf := nIf_f hc hf
        refine lv_aload_n hx hb dX4_readText_62 rfl (lv_at hl 0 rfl) ?_
        refine lv_aload_n hx hb dX4_readText_63 rfl (lv_at hl 1 rfl) ?_
        refine lv_iload_n hx hb dX4_readText_64 rfl (lv_at hl 2 rfl) ?_
        obtain ⟨r5, σ6, hc6, hf⟩ := nBd_e hf
        refine nb_callVi (As := [.ref (a 1), .int x3]) (rest := []) ⟨hx, hb, hml, hown, hts⟩ (c_X4_readStep (D := D) (A := A) (cy := cy) (a := a) (kt := kt) (vt := vt) (l := l)  hc6) (cwV 2 hts gX4_readText_X4_readStep rfl rfl rfl (by decide +kernel) ⟨Nat.le_of_ble_eq_true rfl, Nat.le_of_ble_eq_true rfl⟩) hE hP hS nbo_6 rfl rfl hl.1 rfl (Nat.le_of_ble_eq_true rfl) dX4_readText_65 (fun H locs hP hS => ?_)
        refine lv_if_ne (tgt := 73) hx hb dX4_readText_68 (by decide) (fun hc => ?_) (fun hc => ?_)
        · replace hf := nIf_f hc hf
          refine lv_aload_n hx hb dX4_readText_73 rfl (lv_at hl 0 rfl) ?_
          refine nb_get (ci := 4) hx hb hts iX4_readText_X4 hown hE hP 6 nbo_6 rfl 4 (by decide) qX4_readText_25 rfl rfl dX4_readText_74 ?_
          refine lv_if_ne (tgt := 99) hx hb dX4_readText_77 (by decide) (fun hc => ?_) (fun hc => ?_)
          · replace hf := nIf_f hc hf
            refine lv_aload_n hx hb dX4_readText_99 rfl (lv_at hl 0 rfl) ?_
            refine nb_get (ci := 4) hx hb hts iX4_readText_X4 hown hE hP 6 nbo_6 rfl 4 (by decide) qX4_readText_25 rfl rfl dX4_readText_100 ?_
            refine lv_iconst (v := 3) hx hb dX4_readText_103 (by decide) ?_
            refine lv_icmp_eq (tgt := 113) hx hb dX4_readText_104 (by decide) (fun hc => ?_) (fun hc => ?_)
            · replace hf := nIf_t hc hf
              refine lv_aload_n hx hb dX4_readText_113 rfl (lv_at hl 0 rfl) ?_
              obtain ⟨r7, σ8, hc8, hf⟩ := nBd_e hf
              refine nb_callVv (As := []) (rest := []) ⟨hx, hb, hml, hown, hts⟩ (c_X4_advance (D := D) (A := A) (cy := cy) (a := a) (kt := kt) (vt := vt) (l := l)  hc8) (cwV 0 hts gX4_readText_X4_advance rfl rfl rfl (by decide +kernel) ⟨Nat.le_of_ble_eq_true rfl, Nat.le_of_ble_eq_true rfl⟩) hE hP hS nbo_6 rfl rfl hl.1 rfl (Nat.le_of_ble_eq_true rfl) dX4_readText_114 (fun H locs hP hS => ?_)
              obtain ⟨v9, ev9⟩ : ∃ y : Int32, y = x3 + 1 := ⟨_, rfl⟩
              replace hf := nLet_e hf ev9
              refine lv_iinc (v := v9) (lv' := [(3, .int v9), (0, .ref (a 6)), (1, .ref (a 1))]) hx hb dX4_readText_117 hl (k := 2) rfl (by rw [ev9]; rfl) (by decide) rfl (fun ls hl => ?_)
              refine lv_goto (tgt := 31) hx hb dX4_readText_120 (by decide) ?_
              exact K31 σ8 v9 H locs ls (lv_sub hl [1, 2, 0] rfl) hP hS hf
            · replace hf := nIf_f hc hf
              refine lv_aload_n hx hb dX4_readText_107 rfl (lv_at hl 0 rfl) ?_
              refine lv_iconst (v := 1) hx hb dX4_readText_108 (by decide) ?_
              obtain ⟨r10, σ11, hc11, hf⟩ := nBd_e hf
              refine nb_callVi (As := [.int 1]) (rest := []) ⟨hx, hb, hml, hown, hts⟩ (c_X4_fail (D := D) (A := A) (cy := cy) (a := a) (kt := kt) (vt := vt) (l := l)  hc11) (cwV 1 hts gX4_readText_X4_fail rfl rfl rfl (by decide +kernel) ⟨Nat.le_of_ble_eq_true rfl, Nat.le_of_ble_eq_true rfl⟩) hE hP hS nbo_6 rfl rfl hl.1 rfl (Nat.le_of_ble_eq_true rfl) dX4_readText_109 (fun H locs hP hS => ?_)
              obtain ⟨hz, hf⟩ := nZ_e hf
              exact nb_zret hx hb hr hlocks hP hS (nSo hf) hz dX4_readText_112
          · replace hf := nIf_t hc hf
            refine lv_aload_n hx hb dX4_readText_80 rfl (lv_at hl 1 rfl) ?_
            refine lv_aload_n hx hb dX4_readText_81 rfl (lv_at hl 1 rfl) ?_
            refine nb_getN (ci := 7) hx hb hts iX4_readText_X7 hown hE hP 1 nbo_1 rfl 3 (by decide) (host := RX8) (by decide +kernel) rfl rfl dX4_readText_82 ?_
            refine lv_iload_n hx hb dX4_readText_85 rfl (lv_at hl 2 rfl) ?_
            refine lv_iconst (v := 1) hx hb dX4_readText_86 (by decide) ?_
            refine lv_iadd hx hb dX4_readText_87 ?_
            refine lv_topi (fun v12 ev12 => ?_)
            replace hf := nLet_e hf ev12
            obtain ⟨r13, σ14, hc14, hf⟩ := nBd_e hf
            refine nb_callVv (As := [.int (σ6.1 1 3), .int v12]) (rest := []) ⟨hx, hb, hml, hown, hts⟩ (c_X7_setSize (D := D) (A := A) (cy := cy) (a := a) (kt := kt) (vt := vt) (l := l)  hc14) (cwV 2 hts gX4_readText_X7_setSize rfl rfl rfl (by decide +kernel) ⟨Nat.le_of_ble_eq_true rfl, Nat.le_of_ble_eq_true rfl⟩) hE hP hS nbo_1 rfl rfl hl.1 rfl (Nat.le_of_ble_eq_true rfl) dX4_readText_88 (fun H locs hP hS => ?_)
            refine lv_aload_n hx hb dX4_readText_91 rfl (lv_at hl 0 rfl) ?_
            refine lv_iload_n hx hb dX4_readText_92 rfl (lv_at hl 2 rfl) ?_
            refine lv_iconst (v := 1) hx hb dX4_readText_93 (by decide) ?_
            refine lv_iadd hx hb dX4_readText_94 ?_
            refine lv_topi (fun v15 ev15 => ?_)
            replace hf := nLet_e hf ev15
            obtain ⟨r16, σ17, hc17, hf⟩ := nBd_e hf
            refine nb_callVi (As := [.int v15]) (rest := []) ⟨hx, hb, hml, hown, hts⟩ (c_X4_targetsAreThere (D := D) (A := A) (cy := cy) (a := a) (kt := kt) (vt := vt) (l := l)  hc17) (cwV 1 hts gX4_readText_X4_targetsAreThere rfl rfl rfl (by decide +kernel) ⟨Nat.le_of_ble_eq_true rfl, Nat.le_of_ble_eq_true rfl⟩) hE hP hS nbo_6 rfl rfl hl.1 rfl (Nat.le_of_ble_eq_true rfl) dX4_readText_95 (fun H locs hP hS => ?_)
            obtain ⟨hz, hf⟩ := nZ_e hf
            exact nb_zret hx hb hr hlocks hP hS (nSo hf) hz dX4_readText_98
        · replace hf := nIf_t hc hf
          refine lv_iconst (v := 0) hx hb dX4_readText_71 (by decide) ?_
          exact nb_zret hx hb hr hlocks hP hS (nSo hf) rfl dX4_readText_72
      · replace hf := nIf_t hc hf
        refine lv_aload_n hx hb dX4_readText_56 rfl (lv_at hl 0 rfl) ?_
        refine lv_iconst (v := 3) hx hb dX4_readText_57 (by decide) ?_
        obtain ⟨r18, σ19, hc19, hf⟩ := nBd_e hf
        refine nb_callVi (As := [.int 3]) (rest := []) ⟨hx, hb, hml, hown, hts⟩ (c_X4_fail (D := D) (A := A) (cy := cy) (a := a) (kt := kt) (vt := vt) (l := l)  hc19) (cwV 1 hts gX4_readText_X4_fail rfl rfl rfl (by decide +kernel) ⟨Nat.le_of_ble_eq_true rfl, Nat.le_of_ble_eq_true rfl⟩) hE hP hS nbo_6 rfl rfl hl.1 rfl (Nat.le_of_ble_eq_true rfl) dX4_readText_58 (fun H locs hP hS => ?_)
        obtain ⟨hz, hf⟩ := nZ_e hf
        exact nb_zret hx hb hr hlocks hP hS (nSo hf) hz dX4_readText_61
    · replace hf := nIf_t hc hf
      refine lv_aload_n hx hb dX4_readText_44 rfl (lv_at hl 0 rfl) ?_
      refine lv_iconst (v := 1) hx hb dX4_readText_45 (by decide) ?_
      obtain ⟨r20, σ21, hc21, hf⟩ := nBd_e hf
      refine nb_callVi (As := [.int 1]) (rest := []) ⟨hx, hb, hml, hown, hts⟩ (c_X4_fail (D := D) (A := A) (cy := cy) (a := a) (kt := kt) (vt := vt) (l := l)  hc21) (cwV 1 hts gX4_readText_X4_fail rfl rfl rfl (by decide +kernel) ⟨Nat.le_of_ble_eq_true rfl, Nat.le_of_ble_eq_true rfl⟩) hE hP hS nbo_6 rfl rfl hl.1 rfl (Nat.le_of_ble_eq_true rfl) dX4_readText_46 (fun H locs hP hS => ?_)
      obtain ⟨hz, hf⟩ := nZ_e hf
      exact nb_zret hx hb hr hlocks hP hS (nSo hf) hz dX4_readText_49
def b_X4_readText_0 (N : Nat) (k31 : nS → Int32 → Option (Int32 × nS)) (σ : nS) (x2 : Int32) : Option (Int32 × nS) := nLet (wr σ 6 2 x2) (fun σ1 => nLet (wr σ1 6 3 0) (fun σ2 => nLet (wr σ2 6 9 0) (fun σ3 => nLet (wr σ3 6 10 0) (fun σ4 => nLet (wr σ4 6 13 0) (fun σ5 => nBd (f_X4_advance N σ5) (fun r6 σ7 => k31 σ7 0))))))
set_option maxHeartbeats 4000000 in
set_option maxRecDepth 100000 in
theorem kb_X4_readText_0 {p : Program} {l : Launch} {e : Env} {s : State} {m : MethodId} {args : Array Value} {below : List Frame} {meth : Method} {c : Code} {D : va_G} {A : Nat → Prop} {cy : Nat → ClassId} {a kt vt : Nat → Nat} {N : Nat}   (C0 : nCx p s m args meth c cX4_readText 4 (some .boolean) RX4 wsX4_readText) (hE : nEn D A cy (NBw cy a) kt vt s) {z : Int32 × nS} {k31 : nS → Int32 → Option (Int32 × nS)} (K31 : ∀ (σ : nS) (x3 : Int32) (H : Heap) (locs : List Loc) (ls : Array Slot), lv_has ls 4 [(0, .ref (a 6)), (1, .ref (a 1)), (3, .int x3)] → va_P D vwCl ((NBw cy a) σ) H → va_S A s.heap H locs → k31 σ x3 = some z → W p l e ({ frames := 8, cells := 0, slots := 0, locals := 173 } : Room) s m args below meth c H locs 0 0 (nQi below D A (NBw cy a) args s z) (F0 m 31 ls [])) : ∀ (σ : nS) (x2 : Int32) (H : Heap) (locs : List Loc) (ls : Array Slot), lv_has ls 4 [(0, .ref (a 6)), (1, .ref (a 1)), (2, .int x2)] → va_P D vwCl ((NBw cy a) σ) H → va_S A s.heap H locs → b_X4_readText_0 N k31 σ x2 = some z → W p l e ({ frames := 8, cells := 0, slots := 0, locals := 173 } : Room) s m args below meth c H locs 0 0 (nQi below D A (NBw cy a) args s z) (F0 m 0 ls []) := by
  obtain ⟨hx, hb, hr, hml, hown, hts, hlocks⟩ := C0
  intro σ x2 H locs ls hl hP hS hf
  unfold b_X4_readText_0 at hf
  refine lv_aload_n hx hb dX4_readText_0 rfl (lv_at hl 0 rfl) ?_
  refine lv_iload_n hx hb dX4_readText_1 rfl (lv_at hl 2 rfl) ?_
  refine nb_put (ci := 4) hx hb hts iX4_readText_X4 tyX4 tyX4_ok nmX4 hown hE hP hS 6 nbo_6 rfl 2 (by decide) qX4_readText_19 rfl rfl rfl rfl (Nat.le_of_ble_eq_true rfl) dX4_readText_2 (nbp_6_2 _) (fun σ1 eσ1 H locs hP hS => ?_)
  replace hf := nLet_e hf eσ1
  refine lv_aload_n hx hb dX4_readText_5 rfl (lv_at hl 0 rfl) ?_
  refine lv_iconst (v := 0) hx hb dX4_readText_6 (by decide) ?_
  refine nb_put (ci := 4) hx hb hts iX4_readText_X4 tyX4 tyX4_ok nmX4 hown hE hP hS 6 nbo_6 rfl 3 (by decide) qX4_readText_22 rfl rfl rfl rfl (Nat.le_of_ble_eq_true rfl) dX4_readText_7 (nbp_6_3 _) (fun σ2 eσ2 H locs hP hS => ?_)
  replace hf := nLet_e hf eσ2
  refine lv_aload_n hx hb dX4_readText_10 rfl (lv_at hl 0 rfl) ?_
  refine lv_iconst (v := 0) hx hb dX4_readText_11 (by decide) ?_
  refine nb_put (ci := 4) hx hb hts iX4_readText_X4 tyX4 tyX4_ok nmX4 hown hE hP hS 6 nbo_6 rfl 9 (by decide) qX4_readText_40 rfl rfl rfl rfl (Nat.le_of_ble_eq_true rfl) dX4_readText_12 (nbp_6_9 _) (fun σ3 eσ3 H locs hP hS => ?_)
  replace hf := nLet_e hf eσ3
  refine lv_aload_n hx hb dX4_readText_15 rfl (lv_at hl 0 rfl) ?_
  refine lv_iconst (v := 0) hx hb dX4_readText_16 (by decide) ?_
  refine nb_put (ci := 4) hx hb hts iX4_readText_X4 tyX4 tyX4_ok nmX4 hown hE hP hS 6 nbo_6 rfl 10 (by decide) qX4_readText_43 rfl rfl rfl rfl (Nat.le_of_ble_eq_true rfl) dX4_readText_17 (nbp_6_10 _) (fun σ4 eσ4 H locs hP hS => ?_)
  replace hf := nLet_e hf eσ4
  refine lv_aload_n hx hb dX4_readText_20 rfl (lv_at hl 0 rfl) ?_
  refine lv_iconst (v := 0) hx hb dX4_readText_21 (by decide) ?_
  refine nb_put (ci := 4) hx hb hts iX4_readText_X4 tyX4 tyX4_ok nmX4 hown hE hP hS 6 nbo_6 rfl 13 (by decide) qX4_readText_52 rfl rfl rfl rfl (Nat.le_of_ble_eq_true rfl) dX4_readText_22 (nbp_6_13 _) (fun σ5 eσ5 H locs hP hS => ?_)
  replace hf := nLet_e hf eσ5
  refine lv_aload_n hx hb dX4_readText_25 rfl (lv_at hl 0 rfl) ?_
  obtain ⟨r6, σ7, hc7, hf⟩ := nBd_e hf
  refine nb_callVv (As := []) (rest := []) ⟨hx, hb, hml, hown, hts⟩ (c_X4_advance (D := D) (A := A) (cy := cy) (a := a) (kt := kt) (vt := vt) (l := l)  hc7) (cwV 0 hts gX4_readText_X4_advance rfl rfl rfl (by decide +kernel) ⟨Nat.le_of_ble_eq_true rfl, Nat.le_of_ble_eq_true rfl⟩) hE hP hS nbo_6 rfl rfl hl.1 rfl (Nat.le_of_ble_eq_true rfl) dX4_readText_26 (fun H locs hP hS => ?_)
  refine lv_iconst (v := 0) hx hb dX4_readText_29 (by decide) ?_
  refine lv_istore_n (lv' := [(3, .int 0), (0, .ref (a 6)), (1, .ref (a 1)), (2, .int x2)]) hx hb dX4_readText_30 rfl hl (by decide) rfl (fun ls hl => ?_)
  exact K31 σ7 0 H locs ls (lv_sub hl [1, 2, 0] rfl) hP hS hf
def l_X4_readText_31 (N : Nat) : nS → Int32 → Option (Int32 × nS) := nLp (fun _ _ => none) (fun again => b_X4_readText_31 N again) N
theorem kl_X4_readText_31 {p : Program} {l : Launch} {e : Env} {s : State} {m : MethodId} {args : Array Value} {below : List Frame} {meth : Method} {c : Code} {D : va_G} {A : Nat → Prop} {cy : Nat → ClassId} {a kt vt : Nat → Nat} {N : Nat}   (C0 : nCx p s m args meth c cX4_readText 4 (some .boolean) RX4 wsX4_readText) (hE : nEn D A cy (NBw cy a) kt vt s) {z : Int32 × nS} : ∀ (σ : nS) (x3 : Int32) (H : Heap) (locs : List Loc) (ls : Array Slot), lv_has ls 4 [(0, .ref (a 6)), (1, .ref (a 1)), (3, .int x3)] → va_P D vwCl ((NBw cy a) σ) H → va_S A s.heap H locs → l_X4_readText_31 N σ x3 = some z → W p l e ({ frames := 8, cells := 0, slots := 0, locals := 173 } : Room) s m args below meth c H locs 0 0 (nQi below D A (NBw cy a) args s z) (F0 m 31 ls []) := by
  have main : ∀ (fu : Nat), ∀ (σ : nS) (x3 : Int32) (H : Heap) (locs : List Loc) (ls : Array Slot), lv_has ls 4 [(0, .ref (a 6)), (1, .ref (a 1)), (3, .int x3)] → va_P D vwCl ((NBw cy a) σ) H → va_S A s.heap H locs → nLp (fun _ _ => none) (fun again => b_X4_readText_31 N again) fu σ x3 = some z → W p l e ({ frames := 8, cells := 0, slots := 0, locals := 173 } : Room) s m args below meth c H locs 0 0 (nQi below D A (NBw cy a) args s z) (F0 m 31 ls []) := by
    intro fu
    induction fu with
    | zero => intro σ x3 H locs ls hl hP hS hf; cases hf
    | succ fu ih => exact kb_X4_readText_31 (N := N)  C0 hE ih
  exact main N
def l_X4_readText_0 (N : Nat) : nS → Int32 → Option (Int32 × nS) := b_X4_readText_0 N (l_X4_readText_31 N)
theorem kl_X4_readText_0 {p : Program} {l : Launch} {e : Env} {s : State} {m : MethodId} {args : Array Value} {below : List Frame} {meth : Method} {c : Code} {D : va_G} {A : Nat → Prop} {cy : Nat → ClassId} {a kt vt : Nat → Nat} {N : Nat}   (C0 : nCx p s m args meth c cX4_readText 4 (some .boolean) RX4 wsX4_readText) (hE : nEn D A cy (NBw cy a) kt vt s) {z : Int32 × nS} : ∀ (σ : nS) (x2 : Int32) (H : Heap) (locs : List Loc) (ls : Array Slot), lv_has ls 4 [(0, .ref (a 6)), (1, .ref (a 1)), (2, .int x2)] → va_P D vwCl ((NBw cy a) σ) H → va_S A s.heap H locs → l_X4_readText_0 N σ x2 = some z → W p l e ({ frames := 8, cells := 0, slots := 0, locals := 173 } : Room) s m args below meth c H locs 0 0 (nQi below D A (NBw cy a) args s z) (F0 m 0 ls []) := by
  exact kb_X4_readText_0 (N := N)  C0 hE (kl_X4_readText_31 (N := N)  C0 hE)
def f_X4_readText (N : Nat) (x2 : Int32) (σ : nS) : Option (Int32 × nS) := l_X4_readText_0 N σ x2
set_option maxHeartbeats 4000000 in
set_option maxRecDepth 100000 in
theorem c_X4_readText {l : Launch} {D : va_G} {A : Nat → Prop} {cy : Nat → ClassId} {a kt vt : Nat → Nat} {N : Nat}   {x2 : Int32} {σ : nS} {r : Int32} {σ' : nS} (hf : f_X4_readText N x2 σ = some (r, σ')) : nMi l yX4_readText wsX4_readText ({ frames := 8, cells := 0, slots := 0, locals := 173 } : Room) D A cy (NBw cy a) kt vt [.ref (a 6), .ref (a 1), .int x2] σ r σ' := by
  refine Met.ofW (cc := cX4_readText) (maxL := 4) (ret := (some .boolean)) (by decide) rfl ?_
  intro p e s m args below meth c s₁ B hml hv
  obtain ⟨rfl, hP, hE⟩ := hv
  have hl := lv_entry ([.ref (a 6), .ref (a 1), .int x2]) (n := 4) (Nat.le_of_ble_eq_true rfl)
  rw [lg_entry_eq]
  generalize (lg_sl ([.ref (a 6), .ref (a 1), .int x2]) ++ List.replicate (4 - (lg_sl ([.ref (a 6), .ref (a 1), .int x2])).length) Slot.unset).toArray = ls at hl ⊢
  have C0 : nCx p s m _ meth c cX4_readText 4 (some .boolean) RX4 wsX4_readText := ⟨B.exec, B.bytes, B.returns, hml, findClass_of_methodNamed B.named, atoms_spec (ws := wsX4_readText) B.pre, B.notSynchronized⟩
  exact kl_X4_readText_0 (N := N)  C0 hE (z := (r, σ')) σ x2 _ _ ls hl hP va_S.rf hf
