/-! X0_listSets -/
def b_X0_listSets_44 (N : Nat) (q : Nat) (qn : Nat) (k5 : nS → Int32 → Int32 → Int32 → Int32 → Option (Int32 × nS)) (σ : nS) (x1 : Int32) (x2 : Int32) (x3 : Int32) (x4 : Int32) : Option (Int32 × nS) := nLet (x4 + 1 : Int32) (fun v1 => k5 σ x1 x2 x3 v1)
set_option maxHeartbeats 4000000 in
set_option maxRecDepth 100000 in
theorem kb_X0_listSets_44 {p : Program} {l : Launch} {e : Env} {s : State} {m : MethodId} {args : Array Value} {below : List Frame} {meth : Method} {c : Code} {D : va_G} {A : Nat → Prop} {cy : Nat → ClassId} {a kt vt : Nat → Nat} {N : Nat} {q : Nat} {qn : Nat} (hq : nAr 0 (NBw cy a) cy a q qn) (C0 : nCx p s m args meth c cX0_listSets 5 (some .int) RX0 wsX0_listSets) (hE : nEn D A cy (NBw cy a) kt vt s) {z : Int32 × nS} {k5 : nS → Int32 → Int32 → Int32 → Int32 → Option (Int32 × nS)} (K5 : ∀ (σ : nS) (x1 : Int32) (x2 : Int32) (x3 : Int32) (x4 : Int32) (H : Heap) (locs : List Loc) (ls : Array Slot), lv_has ls 5 [(0, .ref (a q)), (1, .int x1), (2, .int x2), (3, .int x3), (4, .int x4)] → va_P D vwCl ((NBw cy a) σ) H → va_S A s.heap H locs → k5 σ x1 x2 x3 x4 = some z → W p l e ({ frames := 1, cells := 0, slots := 0, locals := 20 } : Room) s m args below meth c H locs 0 0 (nQi below D A (NBw cy a) args s z) (F0 m 5 ls [])) : ∀ (σ : nS) (x1 : Int32) (x2 : Int32) (x3 : Int32) (x4 : Int32) (H : Heap) (locs : List Loc) (ls : Array Slot), lv_has ls 5 [(0, .ref (a q)), (1, .int x1), (2, .int x2), (3, .int x3), (4, .int x4)] → va_P D vwCl ((NBw cy a) σ) H → va_S A s.heap H locs → b_X0_listSets_44 N q qn k5 σ x1 x2 x3 x4 = some z → W p l e ({ frames := 1, cells := 0, slots := 0, locals := 20 } : Room) s m args below meth c H locs 0 0 (nQi below D A (NBw cy a) args s z) (F0 m 44 ls []) := by
  obtain ⟨hx, hb, hr, hml, hown, hts, hlocks⟩ := C0
  intro σ x1 x2 x3 x4 H locs ls hl hP hS hf
  unfold b_X0_listSets_44 at hf
  obtain ⟨v1, ev1⟩ : ∃ y : Int32, y = x4 + 1 := ⟨_, rfl⟩
  replace hf := nLet_e hf ev1
  refine lv_iinc (v := v1) (lv' := [(4, .int v1), (0, .ref (a q)), (1, .int x1), (2, .int x2), (3, .int x3)]) hx hb dX0_listSets_44 hl (k := 4) rfl (by rw [ev1]; rfl) (by decide) rfl (fun ls hl => ?_)
  refine lv_goto (tgt := 5) hx hb dX0_listSets_47 (by decide) ?_
  exact K5 σ x1 x2 x3 v1 H locs ls (lv_sub hl [1, 2, 3, 4, 0] rfl) hP hS hf
def b_X0_listSets_5 (N : Nat) (q : Nat) (qn : Nat) (k44 : nS → Int32 → Int32 → Int32 → Int32 → Option (Int32 × nS)) (σ : nS) (x1 : Int32) (x2 : Int32) (x3 : Int32) (x4 : Int32) : Option (Int32 × nS) := nLet (Int32.ofNat qn) (fun v1 => (if v1 ≤ x4 then some (x3, σ) else nLet (x1 ^^^ ((-1) : Int32) : Int32) (fun v2 => nLet (x4 &&& v2 : Int32) (fun v3 => (if v3 = 0 then nBd (f_J6_bitCount_0f7a4 N x4 σ) (fun r4 σ5 => (if x2 < r4 then k44 σ5 x1 x2 x3 x4 else nLet (Int32.ofNat qn) (fun v6 => (if v6 ≤ x3 then k44 σ5 x1 x2 x3 x4 else nIx x3 qn (nLet (wr σ5 q (x3).toNatClampNeg x4) (fun σ7 => nLet (x3 + 1 : Int32) (fun v8 => k44 σ7 x1 x2 v8 x4))))))) else k44 σ x1 x2 x3 x4)))))
set_option maxHeartbeats 4000000 in
set_option maxRecDepth 100000 in
theorem kb_X0_listSets_5 {p : Program} {l : Launch} {e : Env} {s : State} {m : MethodId} {args : Array Value} {below : List Frame} {meth : Method} {c : Code} {D : va_G} {A : Nat → Prop} {cy : Nat → ClassId} {a kt vt : Nat → Nat} {N : Nat} {q : Nat} {qn : Nat} (hq : nAr 0 (NBw cy a) cy a q qn) (C0 : nCx p s m args meth c cX0_listSets 5 (some .int) RX0 wsX0_listSets) (hE : nEn D A cy (NBw cy a) kt vt s) {z : Int32 × nS} {k44 : nS → Int32 → Int32 → Int32 → Int32 → Option (Int32 × nS)} (K44 : ∀ (σ : nS) (x1 : Int32) (x2 : Int32) (x3 : Int32) (x4 : Int32) (H : Heap) (locs : List Loc) (ls : Array Slot), lv_has ls 5 [(0, .ref (a q)), (1, .int x1), (2, .int x2), (3, .int x3), (4, .int x4)] → va_P D vwCl ((NBw cy a) σ) H → va_S A s.heap H locs → k44 σ x1 x2 x3 x4 = some z → W p l e ({ frames := 1, cells := 0, slots := 0, locals := 20 } : Room) s m args below meth c H locs 0 0 (nQi below D A (NBw cy a) args s z) (F0 m 44 ls [])) : ∀ (σ : nS) (x1 : Int32) (x2 : Int32) (x3 : Int32) (x4 : Int32) (H : Heap) (locs : List Loc) (ls : Array Slot), lv_has ls 5 [(0, .ref (a q)), (1, .int x1), (2, .int x2), (3, .int x3), (4, .int x4)] → va_P D vwCl ((NBw cy a) σ) H → va_S A s.heap H locs → b_X0_listSets_5 N q qn k44 σ x1 x2 x3 x4 = some z → W p l e ({ frames := 1, cells := 0, slots := 0, locals := 20 } : Room) s m args below meth c H locs 0 0 (nQi below D A (NBw cy a) args s z) (F0 m 5 ls []) := by
  obtain ⟨hx, hb, hr, hml, hown, hts, hlocks⟩ := C0
  intro σ x1 x2 x3 x4 H locs ls hl hP hS hf
  unfold b_X0_listSets_5 at hf
  refine lv_iload hx hb dX0_listSets_5 (lv_at hl 4 rfl) ?_
  refine lv_aload_n hx hb dX0_listSets_7 rfl (lv_at hl 0 rfl) ?_
  refine na_alen hx hb hE hP hq dX0_listSets_8 ?_
  refine lv_topi (fun v1 ev1 => ?_)
  replace hf := nLet_e hf ev1
  refine lv_icmp_ge (tgt := 50) hx hb dX0_listSets_9 (by decide) (fun hc => ?_) (fun hc => ?_)
  · replace hf := nIf_t hc hf
    refine lv_iload_n hx hb dX0_listSets_50 rfl (lv_at hl 3 rfl) ?_
    exact nb_iret hx hb hr hlocks hP hS (nSo hf) dX0_listSets_51
  · replace hf := nIf_f hc hf
    refine lv_iload hx hb dX0_listSets_12 (lv_at hl 4 rfl) ?_
    refine lv_iload_n hx hb dX0_listSets_14 rfl (lv_at hl 1 rfl) ?_
    refine lv_iconst (v := (-1)) hx hb dX0_listSets_15 (by decide) ?_
    refine lv_ixor hx hb dX0_listSets_16 ?_
    refine lv_topi (fun v2 ev2 => ?_)
    replace hf := nLet_e hf ev2
    refine lv_iand hx hb dX0_listSets_17 ?_
    refine lv_topi (fun v3 ev3 => ?_)
    replace hf := nLet_e hf ev3
    refine lv_if_ne (tgt := 44) hx hb dX0_listSets_18 (by decide) (fun hc => ?_) (fun hc => ?_)
    · replace hf := nIf_f hc hf
      exact K44 σ x1 x2 x3 x4 H locs ls (lv_sub hl [0, 1, 2, 3, 4] rfl) hP hS hf
    · replace hf := nIf_t hc hf
      refine lv_iload hx hb dX0_listSets_21 (lv_at hl 4 rfl) ?_
      obtain ⟨r4, σ5, hc5, hf⟩ := nBd_e hf
      refine nb_callSi (As := [.int x4]) (rest := []) ⟨hx, hb, hml, hown, hts⟩ (c_J6_bitCount_0f7a4 (X := (NBw cy a)) (D := D) (A := A) (cy := cy) (kt := kt) (vt := vt) (l := l)  hc5) (va_cwS 1 hts gX0_listSets_J6_bitCount_0f7a4 rfl rfl rfl (by decide +kernel) ⟨Nat.le_of_ble_eq_true rfl, Nat.le_of_ble_eq_true rfl⟩) hE hP hS rfl hl.1 rfl (Nat.le_of_ble_eq_true rfl) dX0_listSets_23 (fun H locs hP hS => ?_)
      refine lv_iload_n hx hb dX0_listSets_26 rfl (lv_at hl 2 rfl) ?_
      refine lv_icmp_gt (tgt := 44) hx hb dX0_listSets_27 (by decide) (fun hc => ?_) (fun hc => ?_)
      · replace hf := nIf_t hc hf
        exact K44 σ5 x1 x2 x3 x4 H locs ls (lv_sub hl [0, 1, 2, 3, 4] rfl) hP hS hf
      · replace hf := nIf_f hc hf
        refine lv_iload_n hx hb dX0_listSets_30 rfl (lv_at hl 3 rfl) ?_
        refine lv_aload_n hx hb dX0_listSets_31 rfl (lv_at hl 0 rfl) ?_
        refine na_alen hx hb hE hP hq dX0_listSets_32 ?_
        refine lv_topi (fun v6 ev6 => ?_)
        replace hf := nLet_e hf ev6
        refine lv_icmp_ge (tgt := 44) hx hb dX0_listSets_33 (by decide) (fun hc => ?_) (fun hc => ?_)
        · replace hf := nIf_t hc hf
          exact K44 σ5 x1 x2 x3 x4 H locs ls (lv_sub hl [0, 1, 2, 3, 4] rfl) hP hS hf
        · replace hf := nIf_f hc hf
          refine lv_aload_n hx hb dX0_listSets_36 rfl (lv_at hl 0 rfl) ?_
          refine lv_iload_n hx hb dX0_listSets_37 rfl (lv_at hl 3 rfl) ?_
          refine lv_iload hx hb dX0_listSets_38 (lv_at hl 4 rfl) ?_
          obtain ⟨hin, hf⟩ := nIx_e hf
          refine na_iast hx hb hE hP hS hq hin dX0_listSets_40 (fun σ7 eσ7 H locs hP hS => ?_)
          replace hf := nLet_e hf eσ7
          obtain ⟨v8, ev8⟩ : ∃ y : Int32, y = x3 + 1 := ⟨_, rfl⟩
          replace hf := nLet_e hf ev8
          refine lv_iinc (v := v8) (lv' := [(3, .int v8), (0, .ref (a q)), (1, .int x1), (2, .int x2), (4, .int x4)]) hx hb dX0_listSets_41 hl (k := 3) rfl (by rw [ev8]; rfl) (by decide) rfl (fun ls hl => ?_)
          exact K44 σ7 x1 x2 v8 x4 H locs ls (lv_sub hl [1, 2, 3, 0, 4] rfl) hP hS hf
def b_X0_listSets_0 (N : Nat) (q : Nat) (qn : Nat) (k5 : nS → Int32 → Int32 → Int32 → Int32 → Option (Int32 × nS)) (σ : nS) (x1 : Int32) (x2 : Int32) : Option (Int32 × nS) := k5 σ x1 x2 0 0
set_option maxHeartbeats 4000000 in
set_option maxRecDepth 100000 in
theorem kb_X0_listSets_0 {p : Program} {l : Launch} {e : Env} {s : State} {m : MethodId} {args : Array Value} {below : List Frame} {meth : Method} {c : Code} {D : va_G} {A : Nat → Prop} {cy : Nat → ClassId} {a kt vt : Nat → Nat} {N : Nat} {q : Nat} {qn : Nat} (hq : nAr 0 (NBw cy a) cy a q qn) (C0 : nCx p s m args meth c cX0_listSets 5 (some .int) RX0 wsX0_listSets) (hE : nEn D A cy (NBw cy a) kt vt s) {z : Int32 × nS} {k5 : nS → Int32 → Int32 → Int32 → Int32 → Option (Int32 × nS)} (K5 : ∀ (σ : nS) (x1 : Int32) (x2 : Int32) (x3 : Int32) (x4 : Int32) (H : Heap) (locs : List Loc) (ls : Array Slot), lv_has ls 5 [(0, .ref (a q)), (1, .int x1), (2, .int x2), (3, .int x3), (4, .int x4)] → va_P D vwCl ((NBw cy a) σ) H → va_S A s.heap H locs → k5 σ x1 x2 x3 x4 = some z → W p l e ({ frames := 1, cells := 0, slots := 0, locals := 20 } : Room) s m args below meth c H locs 0 0 (nQi below D A (NBw cy a) args s z) (F0 m 5 ls [])) : ∀ (σ : nS) (x1 : Int32) (x2 : Int32) (H : Heap) (locs : List Loc) (ls : Array Slot), lv_has ls 5 [(0, .ref (a q)), (1, .int x1), (2, .int x2)] → va_P D vwCl ((NBw cy a) σ) H → va_S A s.heap H locs → b_X0_listSets_0 N q qn k5 σ x1 x2 = some z → W p l e ({ frames := 1, cells := 0, slots := 0, locals := 20 } : Room) s m args below meth c H locs 0 0 (nQi below D A (NBw cy a) args s z) (F0 m 0 ls []) := by
  obtain ⟨hx, hb, hr, hml, hown, hts, hlocks⟩ := C0
  intro σ x1 x2 H locs ls hl hP hS hf
  unfold b_X0_listSets_0 at hf
  refine lv_iconst (v := 0) hx hb dX0_listSets_0 (by decide) ?_
  refine lv_istore_n (lv' := [(3, .int 0), (0, .ref (a q)), (1, .int x1), (2, .int x2)]) hx hb dX0_listSets_1 rfl hl (by decide) rfl (fun ls hl => ?_)
  refine lv_iconst (v := 0) hx hb dX0_listSets_2 (by decide) ?_
  refine lv_istore (lv' := [(4, .int 0), (3, .int 0), (0, .ref (a q)), (1, .int x1), (2, .int x2)]) hx hb dX0_listSets_3 hl (by decide) rfl (fun ls hl => ?_)
  exact K5 σ x1 x2 0 0 H locs ls (lv_sub hl [2, 3, 4, 1, 0] rfl) hP hS hf
def l_X0_listSets_44 (N : Nat) (q : Nat) (qn : Nat) (k5 : nS → Int32 → Int32 → Int32 → Int32 → Option (Int32 × nS)) : nS → Int32 → Int32 → Int32 → Int32 → Option (Int32 × nS) := b_X0_listSets_44 N q qn k5
theorem kl_X0_listSets_44 {p : Program} {l : Launch} {e : Env} {s : State} {m : MethodId} {args : Array Value} {below : List Frame} {meth : Method} {c : Code} {D : va_G} {A : Nat → Prop} {cy : Nat → ClassId} {a kt vt : Nat → Nat} {N : Nat} {q : Nat} {qn : Nat} (hq : nAr 0 (NBw cy a) cy a q qn) (C0 : nCx p s m args meth c cX0_listSets 5 (some .int) RX0 wsX0_listSets) (hE : nEn D A cy (NBw cy a) kt vt s) {z : Int32 × nS} {k5 : nS → Int32 → Int32 → Int32 → Int32 → Option (Int32 × nS)} (K5 : ∀ (σ : nS) (x1 : Int32) (x2 : Int32) (x3 : Int32) (x4 : Int32) (H : Heap) (locs : List Loc) (ls : Array Slot), lv_has ls 5 [(0, .ref (a q)), (1, .int x1), (2, .int x2), (3, .int x3), (4, .int x4)] → va_P D vwCl ((NBw cy a) σ) H → va_S A s.heap H locs → k5 σ x1 x2 x3 x4 = some z → W p l e ({ frames := 1, cells := 0, slots := 0, locals := 20 } : Room) s m args below meth c H locs 0 0 (nQi below D A (NBw cy a) args s z) (F0 m 5 ls [])) : ∀ (σ : nS) (x1 : Int32) (x2 : Int32) (x3 : Int32) (x4 : Int32) (H : Heap) (locs : List Loc) (ls : Array Slot), lv_has ls 5 [(0, .ref (a q)), (1, .int x1), (2, .int x2), (3, .int x3), (4, .int x4)] → va_P D vwCl ((NBw cy a) σ) H → va_S A s.heap H locs → l_X0_listSets_44 N q qn k5 σ x1 x2 x3 x4 = some z → W p l e ({ frames := 1, cells := 0, slots := 0, locals := 20 } : Room) s m args below meth c H locs 0 0 (nQi below D A (NBw cy a) args s z) (F0 m 44 ls []) := by
  exact kb_X0_listSets_44 (N := N) hq C0 hE K5
def l_X0_listSets_5 (N : Nat) (q : Nat) (qn : Nat) : nS → Int32 → Int32 → Int32 → Int32 → Option (Int32 × nS) := nLp (fun _ _ _ _ _ => none) (fun again => b_X0_listSets_5 N q qn (l_X0_listSets_44 N q qn again)) N
theorem kl_X0_listSets_5 {p : Program} {l : Launch} {e : Env} {s : State} {m : MethodId} {args : Array Value} {below : List Frame} {meth : Method} {c : Code} {D : va_G} {A : Nat → Prop} {cy : Nat → ClassId} {a kt vt : Nat → Nat} {N : Nat} {q : Nat} {qn : Nat} (hq : nAr 0 (NBw cy a) cy a q qn) (C0 : nCx p s m args meth c cX0_listSets 5 (some .int) RX0 wsX0_listSets) (hE : nEn D A cy (NBw cy a) kt vt s) {z : Int32 × nS} : ∀ (σ : nS) (x1 : Int32) (x2 : Int32) (x3 : Int32) (x4 : Int32) (H : Heap) (locs : List Loc) (ls : Array Slot), lv_has ls 5 [(0, .ref (a q)), (1, .int x1), (2, .int x2), (3, .int x3), (4, .int x4)] → va_P D vwCl ((NBw cy a) σ) H → va_S A s.heap H locs → l_X0_listSets_5 N q qn σ x1 x2 x3 x4 = some z → W p l e ({ frames := 1, cells := 0, slots := 0, locals := 20 } : Room) s m args below meth c H locs 0 0 (nQi below D A (NBw cy a) args s z) (F0 m 5 ls []) := by
  have main : ∀ (fu : Nat), ∀ (σ : nS) (x1 : Int32) (x2 : Int32) (x3 : Int32) (x4 : Int32) (H : Heap) (locs : List Loc) (ls : Array Slot), lv_has ls 5 [(0, .ref (a q)), (1, .int x1), (2, .int x2), (3, .int x3), (4, .int x4)] → va_P D vwCl ((NBw cy a) σ) H → va_S A s.heap H locs → nLp (fun _ _ _ _ _ => none) (fun again => b_X0_listSets_5 N q qn (l_X0_listSets_44 N q qn again)) fu σ x1 x2 x3 x4 = some z → W p l e ({ frames := 1, cells := 0, slots := 0, locals := 20 } : Room) s m args below meth c H locs 0 0 (nQi below D A (NBw cy a) args s z) (F0 m 5 ls []) := by
    intro fu
    induction fu with
    | zero => intro σ x1 x2 x3 x4 H locs ls hl hP hS hf; cases hf
    | succ fu ih => exact kb_X0_listSets_5 (N := N) hq C0 hE (kl_X0_listSets_44 (N := N) hq C0 hE ih)
  exact main N
def l_X0_listSets_0 (N : Nat) (q : Nat) (qn : Nat) : nS → Int32 → Int32 → Option (Int32 × nS) := b_X0_listSets_0 N q qn (l_X0_listSets_5 N q qn)
theorem kl_X0_listSets_0 {p : Program} {l : Launch} {e : Env} {s : State} {m : MethodId} {args : Array Value} {below : List Frame} {meth : Method} {c : Code} {D : va_G} {A : Nat → Prop} {cy : Nat → ClassId} {a kt vt : Nat → Nat} {N : Nat} {q : Nat} {qn : Nat} (hq : nAr 0 (NBw cy a) cy a q qn) (C0 : nCx p s m args meth c cX0_listSets 5 (some .int) RX0 wsX0_listSets) (hE : nEn D A cy (NBw cy a) kt vt s) {z : Int32 × nS} : ∀ (σ : nS) (x1 : Int32) (x2 : Int32) (H : Heap) (locs : List Loc) (ls : Array Slot), lv_has ls 5 [(0, .ref (a q)), (1, .int x1), (2, .int x2)] → va_P D vwCl ((NBw cy a) σ) H → va_S A s.heap H locs → l_X0_listSets_0 N q qn σ x1 x2 = some z → W p l e ({ frames := 1, cells := 0, slots := 0, locals := 20 } : Room) s m args below meth c H locs 0 0 (nQi below D A (NBw cy a) args s z) (F0 m 0 ls []) := by
  exact kb_X0_listSets_0 (N := N) hq C0 hE (kl_X0_listSets_5 (N := N) hq C0 hE)
def f_X0_listSets (N : Nat) (q : Nat) (qn : Nat) (x1 : Int32) (x2 : Int32) (σ : nS) : Option (Int32 × nS) := l_X0_listSets_0 N q qn σ x1 x2
set_option maxHeartbeats 4000000 in
set_option maxRecDepth 100000 in
theorem c_X0_listSets {l : Launch} {D : va_G} {A : Nat → Prop} {cy : Nat → ClassId} {a kt vt : Nat → Nat} {N : Nat} {q : Nat} {qn : Nat} (hq : nAr 0 (NBw cy a) cy a q qn) {x1 : Int32} {x2 : Int32} {σ : nS} {r : Int32} {σ' : nS} (hf : f_X0_listSets N q qn x1 x2 σ = some (r, σ')) : nMi l yX0_listSets wsX0_listSets ({ frames := 1, cells := 0, slots := 0, locals := 20 } : Room) D A cy (NBw cy a) kt vt [.ref (a q), .int x1, .int x2] σ r σ' := by
  refine Met.ofW (cc := cX0_listSets) (maxL := 5) (ret := (some .int)) (by decide) rfl ?_
  intro p e s m args below meth c s₁ B hml hv
  obtain ⟨rfl, hP, hE⟩ := hv
  have hl := lv_entry ([.ref (a q), .int x1, .int x2]) (n := 5) (Nat.le_of_ble_eq_true rfl)
  rw [lg_entry_eq]
  generalize (lg_sl ([.ref (a q), .int x1, .int x2]) ++ List.replicate (5 - (lg_sl ([.ref (a q), .int x1, .int x2])).length) Slot.unset).toArray = ls at hl ⊢
  have C0 : nCx p s m _ meth c cX0_listSets 5 (some .int) RX0 wsX0_listSets := ⟨B.exec, B.bytes, B.returns, hml, findClass_of_methodNamed B.named, atoms_spec (ws := wsX0_listSets) B.pre, B.notSynchronized⟩
  exact kl_X0_listSets_0 (N := N) hq C0 hE (z := (r, σ')) σ x1 x2 _ _ ls hl hP va_S.rf hf

/-! X0_prepare -/
set_option maxRecDepth 20000 in
theorem iX0_prepare_X0 : ∀ w ∈ u_ws RX0 TX0 6, w ∈ wsX0_prepare := fun _ h => List.mem_cons_of_mem _ (List.mem_append_left _ (List.mem_append_right _ h))
set_option maxRecDepth 20000 in
theorem qX0_prepare_9 : Cond.fieldLink RX0 9 RX0 (TX0 0).2.1 (TX0 0).2.2.1 ∈ wsX0_prepare := by decide +kernel
set_option maxRecDepth 20000 in
theorem qX0_prepare_21 : Cond.fieldLink RX0 21 RX0 (TX0 3).2.1 (TX0 3).2.2.1 ∈ wsX0_prepare := by decide +kernel
set_option maxRecDepth 20000 in
theorem qX0_prepare_15 : Cond.fieldLink RX0 15 RX0 (TX0 1).2.1 (TX0 1).2.2.1 ∈ wsX0_prepare := by decide +kernel
set_option maxRecDepth 20000 in
theorem qX0_prepare_25 : Cond.fieldLink RX0 25 RX0 (TX0 4).2.1 (TX0 4).2.2.1 ∈ wsX0_prepare := by decide +kernel
set_option maxRecDepth 20000 in
theorem qX0_prepare_18 : Cond.fieldLink RX0 18 RX0 (TX0 2).2.1 (TX0 2).2.2.1 ∈ wsX0_prepare := by decide +kernel
set_option maxRecDepth 20000 in
theorem qX0_prepare_28 : Cond.fieldLink RX0 28 RX0 (TX0 5).2.1 (TX0 5).2.2.1 ∈ wsX0_prepare := by decide +kernel
def b_X0_prepare_0 (N : Nat) (σ : nS) (x2 : Int32) (x3 : Int32) (x4 : Int32) (x5 : Int32) : Option (Int32 × nS) := nBd (f_X7_allFacts N σ) (fun r1 σ2 => nLet (x2 &&& r1 : Int32) (fun v3 => nBd (f_X0_listSets N 13 256 v3 x3 σ2) (fun r4 σ5 => nLet (wr σ5 12 3 r4) (fun σ6 => nBd (f_X7_allSigns N σ6) (fun r7 σ8 => nBd (f_X0_listSets N 14 256 r7 x4 σ8) (fun r9 σ10 => nLet (wr σ10 12 4 r9) (fun σ11 => nBd (f_X7_allPeople N σ11) (fun r12 σ13 => nBd (f_X0_listSets N 15 16 r12 x5 σ13) (fun r14 σ15 => nLet (wr σ15 12 5 r14) (fun σ16 => nLet ((σ16.1 12 3) * (σ16.1 12 4) : Int32) (fun v17 => nLet (v17 * (σ16.1 12 5) : Int32) (fun v18 => some (v18, σ16)))))))))))))
set_option maxHeartbeats 4000000 in
set_option maxRecDepth 100000 in
theorem kb_X0_prepare_0 {p : Program} {l : Launch} {e : Env} {s : State} {m : MethodId} {args : Array Value} {below : List Frame} {meth : Method} {c : Code} {D : va_G} {A : Nat → Prop} {cy : Nat → ClassId} {a kt vt : Nat → Nat} {N : Nat}   (C0 : nCx p s m args meth c cX0_prepare 6 (some .int) RX0 wsX0_prepare) (hE : nEn D A cy (NBw cy a) kt vt s) {z : Int32 × nS} : ∀ (σ : nS) (x2 : Int32) (x3 : Int32) (x4 : Int32) (x5 : Int32) (H : Heap) (locs : List Loc) (ls : Array Slot), lv_has ls 6 [(0, .ref (a 12)), (1, .ref (a 1)), (2, .int x2), (3, .int x3), (4, .int x4), (5, .int x5)] → va_P D vwCl ((NBw cy a) σ) H → va_S A s.heap H locs → b_X0_prepare_0 N σ x2 x3 x4 x5 = some z → W p l e ({ frames := 2, cells := 0, slots := 0, locals := 44 } : Room) s m args below meth c H locs 0 0 (nQi below D A (NBw cy a) args s z) (F0 m 0 ls []) := by
  obtain ⟨hx, hb, hr, hml, hown, hts, hlocks⟩ := C0
  intro σ x2 x3 x4 x5 H locs ls hl hP hS hf
  unfold b_X0_prepare_0 at hf
  refine lv_aload_n hx hb dX0_prepare_0 rfl (lv_at hl 0 rfl) ?_
  refine lv_aload_n hx hb dX0_prepare_1 rfl (lv_at hl 0 rfl) ?_
  refine nb_get (ci := 0) hx hb hts iX0_prepare_X0 hown hE hP 12 nbo_12 rfl 0 (by decide) qX0_prepare_9 rfl rfl dX0_prepare_2 ?_
  refine lv_iload_n hx hb dX0_prepare_5 rfl (lv_at hl 2 rfl) ?_
  refine lv_aload_n hx hb dX0_prepare_6 rfl (lv_at hl 1 rfl) ?_
  obtain ⟨r1, σ2, hc2, hf⟩ := nBd_e hf
  refine nb_callVi (As := []) (rest := [.int x2, .ref (a 13), .ref (a 12)]) ⟨hx, hb, hml, hown, hts⟩ (c_X7_allFacts (D := D) (A := A) (cy := cy) (a := a) (kt := kt) (vt := vt) (l := l)  hc2) (cwV 0 hts gX0_prepare_X7_allFacts rfl rfl rfl (by decide +kernel) ⟨Nat.le_of_ble_eq_true rfl, Nat.le_of_ble_eq_true rfl⟩) hE hP hS nbo_1 rfl rfl hl.1 rfl (Nat.le_of_ble_eq_true rfl) dX0_prepare_7 (fun H locs hP hS => ?_)
  refine lv_iand hx hb dX0_prepare_10 ?_
  refine lv_topi (fun v3 ev3 => ?_)
  replace hf := nLet_e hf ev3
  refine lv_iload_n hx hb dX0_prepare_11 rfl (lv_at hl 3 rfl) ?_
  obtain ⟨r4, σ5, hc5, hf⟩ := nBd_e hf
  refine nb_callSi (As := [.ref (a 13), .int v3, .int x3]) (rest := [.ref (a 12)]) ⟨hx, hb, hml, hown, hts⟩ (c_X0_listSets (D := D) (A := A) (cy := cy) (a := a) (kt := kt) (vt := vt) (l := l) nbr_13 hc5) (va_cwS 3 hts gX0_prepare_X0_listSets rfl rfl rfl (by decide +kernel) ⟨Nat.le_of_ble_eq_true rfl, Nat.le_of_ble_eq_true rfl⟩) hE hP hS rfl hl.1 rfl (Nat.le_of_ble_eq_true rfl) dX0_prepare_12 (fun H locs hP hS => ?_)
  refine nb_put (ci := 0) hx hb hts iX0_prepare_X0 tyX0 tyX0_ok nmX0 hown hE hP hS 12 nbo_12 rfl 3 (by decide) qX0_prepare_21 rfl rfl rfl rfl (Nat.le_of_ble_eq_true rfl) dX0_prepare_15 (nbp_12_3 _) (fun σ6 eσ6 H locs hP hS => ?_)
  replace hf := nLet_e hf eσ6
  refine lv_aload_n hx hb dX0_prepare_18 rfl (lv_at hl 0 rfl) ?_
  refine lv_aload_n hx hb dX0_prepare_19 rfl (lv_at hl 0 rfl) ?_
  refine nb_get (ci := 0) hx hb hts iX0_prepare_X0 hown hE hP 12 nbo_12 rfl 1 (by decide) qX0_prepare_15 rfl rfl dX0_prepare_20 ?_
  refine lv_aload_n hx hb dX0_prepare_23 rfl (lv_at hl 1 rfl) ?_
  obtain ⟨r7, σ8, hc8, hf⟩ := nBd_e hf
  refine nb_callVi (As := []) (rest := [.ref (a 14), .ref (a 12)]) ⟨hx, hb, hml, hown, hts⟩ (c_X7_allSigns (D := D) (A := A) (cy := cy) (a := a) (kt := kt) (vt := vt) (l := l)  hc8) (cwV 0 hts gX0_prepare_X7_allSigns rfl rfl rfl (by decide +kernel) ⟨Nat.le_of_ble_eq_true rfl, Nat.le_of_ble_eq_true rfl⟩) hE hP hS nbo_1 rfl rfl hl.1 rfl (Nat.le_of_ble_eq_true rfl) dX0_prepare_24 (fun H locs hP hS => ?_)
  refine lv_iload hx hb dX0_prepare_27 (lv_at hl 4 rfl) ?_
  obtain ⟨r9, σ10, hc10, hf⟩ := nBd_e hf
  refine nb_callSi (As := [.ref (a 14), .int r7, .int x4]) (rest := [.ref (a 12)]) ⟨hx, hb, hml, hown, hts⟩ (c_X0_listSets (D := D) (A := A) (cy := cy) (a := a) (kt := kt) (vt := vt) (l := l) nbr_14 hc10) (va_cwS 3 hts gX0_prepare_X0_listSets rfl rfl rfl (by decide +kernel) ⟨Nat.le_of_ble_eq_true rfl, Nat.le_of_ble_eq_true rfl⟩) hE hP hS rfl hl.1 rfl (Nat.le_of_ble_eq_true rfl) dX0_prepare_29 (fun H locs hP hS => ?_)
  refine nb_put (ci := 0) hx hb hts iX0_prepare_X0 tyX0 tyX0_ok nmX0 hown hE hP hS 12 nbo_12 rfl 4 (by decide) qX0_prepare_25 rfl rfl rfl rfl (Nat.le_of_ble_eq_true rfl) dX0_prepare_32 (nbp_12_4 _) (fun σ11 eσ11 H locs hP hS => ?_)
  replace hf := nLet_e hf eσ11
  refine lv_aload_n hx hb dX0_prepare_35 rfl (lv_at hl 0 rfl) ?_
  refine lv_aload_n hx hb dX0_prepare_36 rfl (lv_at hl 0 rfl) ?_
  refine nb_get (ci := 0) hx hb hts iX0_prepare_X0 hown hE hP 12 nbo_12 rfl 2 (by decide) qX0_prepare_18 rfl rfl dX0_prepare_37 ?_
  refine lv_aload_n hx hb dX0_prepare_40 rfl (lv_at hl 1 rfl) ?_
  obtain ⟨r12, σ13, hc13, hf⟩ := nBd_e hf
  refine nb_callVi (As := []) (rest := [.ref (a 15), .ref (a 12)]) ⟨hx, hb, hml, hown, hts⟩ (c_X7_allPeople (D := D) (A := A) (cy := cy) (a := a) (kt := kt) (vt := vt) (l := l)  hc13) (cwV 0 hts gX0_prepare_X7_allPeople rfl rfl rfl (by decide +kernel) ⟨Nat.le_of_ble_eq_true rfl, Nat.le_of_ble_eq_true rfl⟩) hE hP hS nbo_1 rfl rfl hl.1 rfl (Nat.le_of_ble_eq_true rfl) dX0_prepare_41 (fun H locs hP hS => ?_)
  refine lv_iload hx hb dX0_prepare_44 (lv_at hl 5 rfl) ?_
  obtain ⟨r14, σ15, hc15, hf⟩ := nBd_e hf
  refine nb_callSi (As := [.ref (a 15), .int r12, .int x5]) (rest := [.ref (a 12)]) ⟨hx, hb, hml, hown, hts⟩ (c_X0_listSets (D := D) (A := A) (cy := cy) (a := a) (kt := kt) (vt := vt) (l := l) nbr_15 hc15) (va_cwS 3 hts gX0_prepare_X0_listSets rfl rfl rfl (by decide +kernel) ⟨Nat.le_of_ble_eq_true rfl, Nat.le_of_ble_eq_true rfl⟩) hE hP hS rfl hl.1 rfl (Nat.le_of_ble_eq_true rfl) dX0_prepare_46 (fun H locs hP hS => ?_)
  refine nb_put (ci := 0) hx hb hts iX0_prepare_X0 tyX0 tyX0_ok nmX0 hown hE hP hS 12 nbo_12 rfl 5 (by decide) qX0_prepare_28 rfl rfl rfl rfl (Nat.le_of_ble_eq_true rfl) dX0_prepare_49 (nbp_12_5 _) (fun σ16 eσ16 H locs hP hS => ?_)
  replace hf := nLet_e hf eσ16
  refine lv_aload_n hx hb dX0_prepare_52 rfl (lv_at hl 0 rfl) ?_
  refine nb_get (ci := 0) hx hb hts iX0_prepare_X0 hown hE hP 12 nbo_12 rfl 3 (by decide) qX0_prepare_21 rfl rfl dX0_prepare_53 ?_
  refine lv_aload_n hx hb dX0_prepare_56 rfl (lv_at hl 0 rfl) ?_
  refine nb_get (ci := 0) hx hb hts iX0_prepare_X0 hown hE hP 12 nbo_12 rfl 4 (by decide) qX0_prepare_25 rfl rfl dX0_prepare_57 ?_
  refine lv_imul hx hb dX0_prepare_60 ?_
  refine lv_topi (fun v17 ev17 => ?_)
  replace hf := nLet_e hf ev17
  refine lv_aload_n hx hb dX0_prepare_61 rfl (lv_at hl 0 rfl) ?_
  refine nb_get (ci := 0) hx hb hts iX0_prepare_X0 hown hE hP 12 nbo_12 rfl 5 (by decide) qX0_prepare_28 rfl rfl dX0_prepare_62 ?_
  refine lv_imul hx hb dX0_prepare_65 ?_
  refine lv_topi (fun v18 ev18 => ?_)
  replace hf := nLet_e hf ev18
  exact nb_iret hx hb hr hlocks hP hS (nSo hf) dX0_prepare_66
def l_X0_prepare_0 (N : Nat) : nS → Int32 → Int32 → Int32 → Int32 → Option (Int32 × nS) := b_X0_prepare_0 N
theorem kl_X0_prepare_0 {p : Program} {l : Launch} {e : Env} {s : State} {m : MethodId} {args : Array Value} {below : List Frame} {meth : Method} {c : Code} {D : va_G} {A : Nat → Prop} {cy : Nat → ClassId} {a kt vt : Nat → Nat} {N : Nat}   (C0 : nCx p s m args meth c cX0_prepare 6 (some .int) RX0 wsX0_prepare) (hE : nEn D A cy (NBw cy a) kt vt s) {z : Int32 × nS} : ∀ (σ : nS) (x2 : Int32) (x3 : Int32) (x4 : Int32) (x5 : Int32) (H : Heap) (locs : List Loc) (ls : Array Slot), lv_has ls 6 [(0, .ref (a 12)), (1, .ref (a 1)), (2, .int x2), (3, .int x3), (4, .int x4), (5, .int x5)] → va_P D vwCl ((NBw cy a) σ) H → va_S A s.heap H locs → l_X0_prepare_0 N σ x2 x3 x4 x5 = some z → W p l e ({ frames := 2, cells := 0, slots := 0, locals := 44 } : Room) s m args below meth c H locs 0 0 (nQi below D A (NBw cy a) args s z) (F0 m 0 ls []) := by
  exact kb_X0_prepare_0 (N := N)  C0 hE
def f_X0_prepare (N : Nat) (x2 : Int32) (x3 : Int32) (x4 : Int32) (x5 : Int32) (σ : nS) : Option (Int32 × nS) := l_X0_prepare_0 N σ x2 x3 x4 x5
set_option maxHeartbeats 4000000 in
set_option maxRecDepth 100000 in
theorem c_X0_prepare {l : Launch} {D : va_G} {A : Nat → Prop} {cy : Nat → ClassId} {a kt vt : Nat → Nat} {N : Nat}   {x2 : Int32} {x3 : Int32} {x4 : Int32} {x5 : Int32} {σ : nS} {r : Int32} {σ' : nS} (hf : f_X0_prepare N x2 x3 x4 x5 σ = some (r, σ')) : nMi l yX0_prepare wsX0_prepare ({ frames := 2, cells := 0, slots := 0, locals := 44 } : Room) D A cy (NBw cy a) kt vt [.ref (a 12), .ref (a 1), .int x2, .int x3, .int x4, .int x5] σ r σ' := by
  refine Met.ofW (cc := cX0_prepare) (maxL := 6) (ret := (some .int)) (by decide) rfl ?_
  intro p e s m args below meth c s₁ B hml hv
  obtain ⟨rfl, hP, hE⟩ := hv
  have hl := lv_entry ([.ref (a 12), .ref (a 1), .int x2, .int x3, .int x4, .int x5]) (n := 6) (Nat.le_of_ble_eq_true rfl)
  rw [lg_entry_eq]
  generalize (lg_sl ([.ref (a 12), .ref (a 1), .int x2, .int x3, .int x4, .int x5]) ++ List.replicate (6 - (lg_sl ([.ref (a 12), .ref (a 1), .int x2, .int x3, .int x4, .int x5])).length) Slot.unset).toArray = ls at hl ⊢
  have C0 : nCx p s m _ meth c cX0_prepare 6 (some .int) RX0 wsX0_prepare := ⟨B.exec, B.bytes, B.returns, hml, findClass_of_methodNamed B.named, atoms_spec (ws := wsX0_prepare) B.pre, B.notSynchronized⟩
  exact kl_X0_prepare_0 (N := N)  C0 hE (z := (r, σ')) σ x2 x3 x4 x5 _ _ ls hl hP va_S.rf hf

/-! X0_writeFacts -/
set_option maxRecDepth 20000 in
theorem iX0_writeFacts_X0 : ∀ w ∈ u_ws RX0 TX0 6, w ∈ wsX0_writeFacts := fun _ h => List.mem_cons_of_mem _ (List.mem_append_right _ h)
set_option maxRecDepth 20000 in
theorem qX0_writeFacts_21 : Cond.fieldLink RX0 21 RX0 (TX0 3).2.1 (TX0 3).2.2.1 ∈ wsX0_writeFacts := by decide +kernel
set_option maxRecDepth 20000 in
theorem qX0_writeFacts_9 : Cond.fieldLink RX0 9 RX0 (TX0 0).2.1 (TX0 0).2.2.1 ∈ wsX0_writeFacts := by decide +kernel
def b_X0_writeFacts_68 (N : Nat) (q : Nat) (qn : Nat) (k6 : nS → Int32 → Int32 → Int32 → Int32 → Option (Int32 × nS)) (σ : nS) (x3 : Int32) (x4 : Int32) (x5 : Int32) (x6 : Int32) : Option (Int32 × nS) := nLet (x6 + 1 : Int32) (fun v1 => k6 σ x3 x4 x5 v1)
set_option maxHeartbeats 4000000 in
set_option maxRecDepth 100000 in
theorem kb_X0_writeFacts_68 {p : Program} {l : Launch} {e : Env} {s : State} {m : MethodId} {args : Array Value} {below : List Frame} {meth : Method} {c : Code} {D : va_G} {A : Nat → Prop} {cy : Nat → ClassId} {a kt vt : Nat → Nat} {N : Nat} {q : Nat} {qn : Nat} (hq : nAr 0 (NBw cy a) cy a q qn) (C0 : nCx p s m args meth c cX0_writeFacts 7 (some .int) RX0 wsX0_writeFacts) (hE : nEn D A cy (NBw cy a) kt vt s) {z : Int32 × nS} {k6 : nS → Int32 → Int32 → Int32 → Int32 → Option (Int32 × nS)} (K6 : ∀ (σ : nS) (x3 : Int32) (x4 : Int32) (x5 : Int32) (x6 : Int32) (H : Heap) (locs : List Loc) (ls : Array Slot), lv_has ls 7 [(0, .ref (a 12)), (1, .ref (a q)), (3, .int x3), (4, .int x4), (5, .int x5), (6, .int x6)] → va_P D vwCl ((NBw cy a) σ) H → va_S A s.heap H locs → k6 σ x3 x4 x5 x6 = some z → W p l e ({ frames := 1, cells := 0, slots := 0, locals := 20 } : Room) s m args below meth c H locs 0 0 (nQi below D A (NBw cy a) args s z) (F0 m 6 ls [])) : ∀ (σ : nS) (x3 : Int32) (x4 : Int32) (x5 : Int32) (x6 : Int32) (H : Heap) (locs : List Loc) (ls : Array Slot), lv_has ls 7 [(0, .ref (a 12)), (1, .ref (a q)), (3, .int x3), (4, .int x4), (5, .int x5), (6, .int x6)] → va_P D vwCl ((NBw cy a) σ) H → va_S A s.heap H locs → b_X0_writeFacts_68 N q qn k6 σ x3 x4 x5 x6 = some z → W p l e ({ frames := 1, cells := 0, slots := 0, locals := 20 } : Room) s m args below meth c H locs 0 0 (nQi below D A (NBw cy a) args s z) (F0 m 68 ls []) := by
  obtain ⟨hx, hb, hr, hml, hown, hts, hlocks⟩ := C0
  intro σ x3 x4 x5 x6 H locs ls hl hP hS hf
  unfold b_X0_writeFacts_68 at hf
  obtain ⟨v1, ev1⟩ : ∃ y : Int32, y = x6 + 1 := ⟨_, rfl⟩
  replace hf := nLet_e hf ev1
  refine lv_iinc (v := v1) (lv' := [(6, .int v1), (0, .ref (a 12)), (1, .ref (a q)), (3, .int x3), (4, .int x4), (5, .int x5)]) hx hb dX0_writeFacts_68 hl (k := 5) rfl (by rw [ev1]; rfl) (by decide) rfl (fun ls hl => ?_)
  refine lv_goto (tgt := 6) hx hb dX0_writeFacts_71 (by decide) ?_
  exact K6 σ x3 x4 x5 v1 H locs ls (lv_sub hl [1, 2, 3, 4, 5, 0] rfl) hP hS hf
def b_X0_writeFacts_6 (N : Nat) (q : Nat) (qn : Nat) (k68 : nS → Int32 → Int32 → Int32 → Int32 → Option (Int32 × nS)) (σ : nS) (x3 : Int32) (x4 : Int32) (x5 : Int32) (x6 : Int32) : Option (Int32 × nS) := (if (σ.1 12 3) ≤ x6 then some (x5, σ) else nLet (Int32.ofNat 256) (fun v1 => (if v1 ≤ x6 then some (x5, σ) else nIx x6 256 (nLet (σ.1 13 (x6).toNatClampNeg) (fun v2 => nBd (f_J6_bitCount_0f7a4 N v2 σ) (fun r3 σ4 => (if r3 = x4 then (if x5 < 0 then k68 σ4 x3 x4 x5 x6 else nLet (Int32.ofNat qn) (fun v5 => (if v5 ≤ x5 then k68 σ4 x3 x4 x5 x6 else nIx x6 256 (nLet (σ4.1 13 (x6).toNatClampNeg) (fun v6 => nLet (x3 + v6 : Int32) (fun v7 => nIx x5 qn (nLet (wr σ4 q (x5).toNatClampNeg v7) (fun σ8 => nLet (x5 + 1 : Int32) (fun v9 => k68 σ8 x3 x4 v9 x6))))))))) else k68 σ4 x3 x4 x5 x6)))))))
set_option maxHeartbeats 4000000 in
set_option maxRecDepth 100000 in
theorem kb_X0_writeFacts_6 {p : Program} {l : Launch} {e : Env} {s : State} {m : MethodId} {args : Array Value} {below : List Frame} {meth : Method} {c : Code} {D : va_G} {A : Nat → Prop} {cy : Nat → ClassId} {a kt vt : Nat → Nat} {N : Nat} {q : Nat} {qn : Nat} (hq : nAr 0 (NBw cy a) cy a q qn) (C0 : nCx p s m args meth c cX0_writeFacts 7 (some .int) RX0 wsX0_writeFacts) (hE : nEn D A cy (NBw cy a) kt vt s) {z : Int32 × nS} {k68 : nS → Int32 → Int32 → Int32 → Int32 → Option (Int32 × nS)} (K68 : ∀ (σ : nS) (x3 : Int32) (x4 : Int32) (x5 : Int32) (x6 : Int32) (H : Heap) (locs : List Loc) (ls : Array Slot), lv_has ls 7 [(0, .ref (a 12)), (1, .ref (a q)), (3, .int x3), (4, .int x4), (5, .int x5), (6, .int x6)] → va_P D vwCl ((NBw cy a) σ) H → va_S A s.heap H locs → k68 σ x3 x4 x5 x6 = some z → W p l e ({ frames := 1, cells := 0, slots := 0, locals := 20 } : Room) s m args below meth c H locs 0 0 (nQi below D A (NBw cy a) args s z) (F0 m 68 ls [])) : ∀ (σ : nS) (x3 : Int32) (x4 : Int32) (x5 : Int32) (x6 : Int32) (H : Heap) (locs : List Loc) (ls : Array Slot), lv_has ls 7 [(0, .ref (a 12)), (1, .ref (a q)), (3, .int x3), (4, .int x4), (5, .int x5), (6, .int x6)] → va_P D vwCl ((NBw cy a) σ) H → va_S A s.heap H locs → b_X0_writeFacts_6 N q qn k68 σ x3 x4 x5 x6 = some z → W p l e ({ frames := 1, cells := 0, slots := 0, locals := 20 } : Room) s m args below meth c H locs 0 0 (nQi below D A (NBw cy a) args s z) (F0 m 6 ls []) := by
  obtain ⟨hx, hb, hr, hml, hown, hts, hlocks⟩ := C0
  intro σ x3 x4 x5 x6 H locs ls hl hP hS hf
  unfold b_X0_writeFacts_6 at hf
  refine lv_iload hx hb dX0_writeFacts_6 (lv_at hl 5 rfl) ?_
  refine lv_aload_n hx hb dX0_writeFacts_8 rfl (lv_at hl 0 rfl) ?_
  refine nb_get (ci := 0) hx hb hts iX0_writeFacts_X0 hown hE hP 12 nbo_12 rfl 3 (by decide) qX0_writeFacts_21 rfl rfl dX0_writeFacts_9 ?_
  refine lv_icmp_ge (tgt := 74) hx hb dX0_writeFacts_12 (by decide) (fun hc => ?_) (fun hc => ?_)
  · replace hf := nIf_t hc hf
    refine lv_iload hx hb dX0_writeFacts_74 (lv_at hl 4 rfl) ?_
    exact nb_iret hx hb hr hlocks hP hS (nSo hf) dX0_writeFacts_76
  · replace hf := nIf_f hc hf
    refine lv_iload hx hb dX0_writeFacts_15 (lv_at hl 5 rfl) ?_
    refine lv_aload_n hx hb dX0_writeFacts_17 rfl (lv_at hl 0 rfl) ?_
    refine nb_get (ci := 0) hx hb hts iX0_writeFacts_X0 hown hE hP 12 nbo_12 rfl 0 (by decide) qX0_writeFacts_9 rfl rfl dX0_writeFacts_18 ?_
    refine na_alen hx hb hE hP nbr_13 dX0_writeFacts_21 ?_
    refine lv_topi (fun v1 ev1 => ?_)
    replace hf := nLet_e hf ev1
    refine lv_icmp_ge (tgt := 74) hx hb dX0_writeFacts_22 (by decide) (fun hc => ?_) (fun hc => ?_)
    · replace hf := nIf_t hc hf
      refine lv_iload hx hb dX0_writeFacts_74 (lv_at hl 4 rfl) ?_
      exact nb_iret hx hb hr hlocks hP hS (nSo hf) dX0_writeFacts_76
    · replace hf := nIf_f hc hf
      refine lv_aload_n hx hb dX0_writeFacts_25 rfl (lv_at hl 0 rfl) ?_
      refine nb_get (ci := 0) hx hb hts iX0_writeFacts_X0 hown hE hP 12 nbo_12 rfl 0 (by decide) qX0_writeFacts_9 rfl rfl dX0_writeFacts_26 ?_
      refine lv_iload hx hb dX0_writeFacts_29 (lv_at hl 5 rfl) ?_
      obtain ⟨hin, hf⟩ := nIx_e hf
      refine na_iald hx hb hE hP nbr_13 hin dX0_writeFacts_31 ?_
      refine lv_topi (fun v2 ev2 => ?_)
      replace hf := nLet_e hf ev2
      obtain ⟨r3, σ4, hc4, hf⟩ := nBd_e hf
      refine nb_callSi (As := [.int v2]) (rest := []) ⟨hx, hb, hml, hown, hts⟩ (c_J6_bitCount_0f7a4 (X := (NBw cy a)) (D := D) (A := A) (cy := cy) (kt := kt) (vt := vt) (l := l)  hc4) (va_cwS 1 hts gX0_writeFacts_J6_bitCount_0f7a4 rfl rfl rfl (by decide +kernel) ⟨Nat.le_of_ble_eq_true rfl, Nat.le_of_ble_eq_true rfl⟩) hE hP hS rfl hl.1 rfl (Nat.le_of_ble_eq_true rfl) dX0_writeFacts_32 (fun H locs hP hS => ?_)
      refine lv_iload hx hb dX0_writeFacts_35 (lv_at hl 3 rfl) ?_
      refine lv_icmp_ne (tgt := 68) hx hb dX0_writeFacts_37 (by decide) (fun hc => ?_) (fun hc => ?_)
      · replace hf := nIf_f hc hf
        exact K68 σ4 x3 x4 x5 x6 H locs ls (lv_sub hl [0, 1, 2, 3, 4, 5] rfl) hP hS hf
      · replace hf := nIf_t hc hf
        refine lv_iload hx hb dX0_writeFacts_40 (lv_at hl 4 rfl) ?_
        refine lv_if_lt (tgt := 68) hx hb dX0_writeFacts_42 (by decide) (fun hc => ?_) (fun hc => ?_)
        · replace hf := nIf_t hc hf
          exact K68 σ4 x3 x4 x5 x6 H locs ls (lv_sub hl [0, 1, 2, 3, 4, 5] rfl) hP hS hf
        · replace hf := nIf_f hc hf
          refine lv_iload hx hb dX0_writeFacts_45 (lv_at hl 4 rfl) ?_
          refine lv_aload_n hx hb dX0_writeFacts_47 rfl (lv_at hl 1 rfl) ?_
          refine na_alen hx hb hE hP hq dX0_writeFacts_48 ?_
          refine lv_topi (fun v5 ev5 => ?_)
          replace hf := nLet_e hf ev5
          refine lv_icmp_ge (tgt := 68) hx hb dX0_writeFacts_49 (by decide) (fun hc => ?_) (fun hc => ?_)
          · replace hf := nIf_t hc hf
            exact K68 σ4 x3 x4 x5 x6 H locs ls (lv_sub hl [0, 1, 2, 3, 4, 5] rfl) hP hS hf
          · replace hf := nIf_f hc hf
            refine lv_aload_n hx hb dX0_writeFacts_52 rfl (lv_at hl 1 rfl) ?_
            refine lv_iload hx hb dX0_writeFacts_53 (lv_at hl 4 rfl) ?_
            refine lv_iload_n hx hb dX0_writeFacts_55 rfl (lv_at hl 2 rfl) ?_
            refine lv_aload_n hx hb dX0_writeFacts_56 rfl (lv_at hl 0 rfl) ?_
            refine nb_get (ci := 0) hx hb hts iX0_writeFacts_X0 hown hE hP 12 nbo_12 rfl 0 (by decide) qX0_writeFacts_9 rfl rfl dX0_writeFacts_57 ?_
            refine lv_iload hx hb dX0_writeFacts_60 (lv_at hl 5 rfl) ?_
            obtain ⟨hin, hf⟩ := nIx_e hf
            refine na_iald hx hb hE hP nbr_13 hin dX0_writeFacts_62 ?_
            refine lv_topi (fun v6 ev6 => ?_)
            replace hf := nLet_e hf ev6
            refine lv_iadd hx hb dX0_writeFacts_63 ?_
            refine lv_topi (fun v7 ev7 => ?_)
            replace hf := nLet_e hf ev7
            obtain ⟨hin, hf⟩ := nIx_e hf
            refine na_iast hx hb hE hP hS hq hin dX0_writeFacts_64 (fun σ8 eσ8 H locs hP hS => ?_)
            replace hf := nLet_e hf eσ8
            obtain ⟨v9, ev9⟩ : ∃ y : Int32, y = x5 + 1 := ⟨_, rfl⟩
            replace hf := nLet_e hf ev9
            refine lv_iinc (v := v9) (lv' := [(5, .int v9), (0, .ref (a 12)), (1, .ref (a q)), (3, .int x3), (4, .int x4), (6, .int x6)]) hx hb dX0_writeFacts_65 hl (k := 4) rfl (by rw [ev9]; rfl) (by decide) rfl (fun ls hl => ?_)
            exact K68 σ8 x3 x4 v9 x6 H locs ls (lv_sub hl [1, 2, 3, 4, 0, 5] rfl) hP hS hf
def b_X0_writeFacts_0 (N : Nat) (q : Nat) (qn : Nat) (k6 : nS → Int32 → Int32 → Int32 → Int32 → Option (Int32 × nS)) (σ : nS) (x2 : Int32) (x3 : Int32) (x4 : Int32) : Option (Int32 × nS) := k6 σ x3 x4 x2 0
set_option maxHeartbeats 4000000 in
set_option maxRecDepth 100000 in
theorem kb_X0_writeFacts_0 {p : Program} {l : Launch} {e : Env} {s : State} {m : MethodId} {args : Array Value} {below : List Frame} {meth : Method} {c : Code} {D : va_G} {A : Nat → Prop} {cy : Nat → ClassId} {a kt vt : Nat → Nat} {N : Nat} {q : Nat} {qn : Nat} (hq : nAr 0 (NBw cy a) cy a q qn) (C0 : nCx p s m args meth c cX0_writeFacts 7 (some .int) RX0 wsX0_writeFacts) (hE : nEn D A cy (NBw cy a) kt vt s) {z : Int32 × nS} {k6 : nS → Int32 → Int32 → Int32 → Int32 → Option (Int32 × nS)} (K6 : ∀ (σ : nS) (x3 : Int32) (x4 : Int32) (x5 : Int32) (x6 : Int32) (H : Heap) (locs : List Loc) (ls : Array Slot), lv_has ls 7 [(0, .ref (a 12)), (1, .ref (a q)), (3, .int x3), (4, .int x4), (5, .int x5), (6, .int x6)] → va_P D vwCl ((NBw cy a) σ) H → va_S A s.heap H locs → k6 σ x3 x4 x5 x6 = some z → W p l e ({ frames := 1, cells := 0, slots := 0, locals := 20 } : Room) s m args below meth c H locs 0 0 (nQi below D A (NBw cy a) args s z) (F0 m 6 ls [])) : ∀ (σ : nS) (x2 : Int32) (x3 : Int32) (x4 : Int32) (H : Heap) (locs : List Loc) (ls : Array Slot), lv_has ls 7 [(0, .ref (a 12)), (1, .ref (a q)), (2, .int x2), (3, .int x3), (4, .int x4)] → va_P D vwCl ((NBw cy a) σ) H → va_S A s.heap H locs → b_X0_writeFacts_0 N q qn k6 σ x2 x3 x4 = some z → W p l e ({ frames := 1, cells := 0, slots := 0, locals := 20 } : Room) s m args below meth c H locs 0 0 (nQi below D A (NBw cy a) args s z) (F0 m 0 ls []) := by
  obtain ⟨hx, hb, hr, hml, hown, hts, hlocks⟩ := C0
  intro σ x2 x3 x4 H locs ls hl hP hS hf
  unfold b_X0_writeFacts_0 at hf
  refine lv_iload_n hx hb dX0_writeFacts_0 rfl (lv_at hl 2 rfl) ?_
  refine lv_istore (lv' := [(5, .int x2), (0, .ref (a 12)), (1, .ref (a q)), (2, .int x2), (3, .int x3), (4, .int x4)]) hx hb dX0_writeFacts_1 hl (by decide) rfl (fun ls hl => ?_)
  refine lv_iconst (v := 0) hx hb dX0_writeFacts_3 (by decide) ?_
  refine lv_istore (lv' := [(6, .int 0), (5, .int x2), (0, .ref (a 12)), (1, .ref (a q)), (2, .int x2), (3, .int x3), (4, .int x4)]) hx hb dX0_writeFacts_4 hl (by decide) rfl (fun ls hl => ?_)
  exact K6 σ x3 x4 x2 0 H locs ls (lv_sub hl [2, 3, 5, 6, 1, 0] rfl) hP hS hf
def l_X0_writeFacts_68 (N : Nat) (q : Nat) (qn : Nat) (k6 : nS → Int32 → Int32 → Int32 → Int32 → Option (Int32 × nS)) : nS → Int32 → Int32 → Int32 → Int32 → Option (Int32 × nS) := b_X0_writeFacts_68 N q qn k6
theorem kl_X0_writeFacts_68 {p : Program} {l : Launch} {e : Env} {s : State} {m : MethodId} {args : Array Value} {below : List Frame} {meth : Method} {c : Code} {D : va_G} {A : Nat → Prop} {cy : Nat → ClassId} {a kt vt : Nat → Nat} {N : Nat} {q : Nat} {qn : Nat} (hq : nAr 0 (NBw cy a) cy a q qn) (C0 : nCx p s m args meth c cX0_writeFacts 7 (some .int) RX0 wsX0_writeFacts) (hE : nEn D A cy (NBw cy a) kt vt s) {z : Int32 × nS} {k6 : nS → Int32 → Int32 → Int32 → Int32 → Option (Int32 × nS)} (K6 : ∀ (σ : nS) (x3 : Int32) (x4 : Int32) (x5 : Int32) (x6 : Int32) (H : Heap) (locs : List Loc) (ls : Array Slot), lv_has ls 7 [(0, .ref (a 12)), (1, .ref (a q)), (3, .int x3), (4, .int x4), (5, .int x5), (6, .int x6)] → va_P D vwCl ((NBw cy a) σ) H → va_S A s.heap H locs → k6 σ x3 x4 x5 x6 = some z → W p l e ({ frames := 1, cells := 0, slots := 0, locals := 20 } : Room) s m args below meth c H locs 0 0 (nQi below D A (NBw cy a) args s z) (F0 m 6 ls [])) : ∀ (σ : nS) (x3 : Int32) (x4 : Int32) (x5 : Int32) (x6 : Int32) (H : Heap) (locs : List Loc) (ls : Array Slot), lv_has ls 7 [(0, .ref (a 12)), (1, .ref (a q)), (3, .int x3), (4, .int x4), (5, .int x5), (6, .int x6)] → va_P D vwCl ((NBw cy a) σ) H → va_S A s.heap H locs → l_X0_writeFacts_68 N q qn k6 σ x3 x4 x5 x6 = some z → W p l e ({ frames := 1, cells := 0, slots := 0, locals := 20 } : Room) s m args below meth c H locs 0 0 (nQi below D A (NBw cy a) args s z) (F0 m 68 ls []) := by
  exact kb_X0_writeFacts_68 (N := N) hq C0 hE K6
def l_X0_writeFacts_6 (N : Nat) (q : Nat) (qn : Nat) : nS → Int32 → Int32 → Int32 → Int32 → Option (Int32 × nS) := nLp (fun _ _ _ _ _ => none) (fun again => b_X0_writeFacts_6 N q qn (l_X0_writeFacts_68 N q qn again)) N
theorem kl_X0_writeFacts_6 {p : Program} {l : Launch} {e : Env} {s : State} {m : MethodId} {args : Array Value} {below : List Frame} {meth : Method} {c : Code} {D : va_G} {A : Nat → Prop} {cy : Nat → ClassId} {a kt vt : Nat → Nat} {N : Nat} {q : Nat} {qn : Nat} (hq : nAr 0 (NBw cy a) cy a q qn) (C0 : nCx p s m args meth c cX0_writeFacts 7 (some .int) RX0 wsX0_writeFacts) (hE : nEn D A cy (NBw cy a) kt vt s) {z : Int32 × nS} : ∀ (σ : nS) (x3 : Int32) (x4 : Int32) (x5 : Int32) (x6 : Int32) (H : Heap) (locs : List Loc) (ls : Array Slot), lv_has ls 7 [(0, .ref (a 12)), (1, .ref (a q)), (3, .int x3), (4, .int x4), (5, .int x5), (6, .int x6)] → va_P D vwCl ((NBw cy a) σ) H → va_S A s.heap H locs → l_X0_writeFacts_6 N q qn σ x3 x4 x5 x6 = some z → W p l e ({ frames := 1, cells := 0, slots := 0, locals := 20 } : Room) s m args below meth c H locs 0 0 (nQi below D A (NBw cy a) args s z) (F0 m 6 ls []) := by
  have main : ∀ (fu : Nat), ∀ (σ : nS) (x3 : Int32) (x4 : Int32) (x5 : Int32) (x6 : Int32) (H : Heap) (locs : List Loc) (ls : Array Slot), lv_has ls 7 [(0, .ref (a 12)), (1, .ref (a q)), (3, .int x3), (4, .int x4), (5, .int x5), (6, .int x6)] → va_P D vwCl ((NBw cy a) σ) H → va_S A s.heap H locs → nLp (fun _ _ _ _ _ => none) (fun again => b_X0_writeFacts_6 N q qn (l_X0_writeFacts_68 N q qn again)) fu σ x3 x4 x5 x6 = some z → W p l e ({ frames := 1, cells := 0, slots := 0, locals := 20 } : Room) s m args below meth c H locs 0 0 (nQi below D A (NBw cy a) args s z) (F0 m 6 ls []) := by
    intro fu
    induction fu with
    | zero => intro σ x3 x4 x5 x6 H locs ls hl hP hS hf; cases hf
    | succ fu ih => exact kb_X0_writeFacts_6 (N := N) hq C0 hE (kl_X0_writeFacts_68 (N := N) hq C0 hE ih)
  exact main N
def l_X0_writeFacts_0 (N : Nat) (q : Nat) (qn : Nat) : nS → Int32 → Int32 → Int32 → Option (Int32 × nS) := b_X0_writeFacts_0 N q qn (l_X0_writeFacts_6 N q qn)
theorem kl_X0_writeFacts_0 {p : Program} {l : Launch} {e : Env} {s : State} {m : MethodId} {args : Array Value} {below : List Frame} {meth : Method} {c : Code} {D : va_G} {A : Nat → Prop} {cy : Nat → ClassId} {a kt vt : Nat → Nat} {N : Nat} {q : Nat} {qn : Nat} (hq : nAr 0 (NBw cy a) cy a q qn) (C0 : nCx p s m args meth c cX0_writeFacts 7 (some .int) RX0 wsX0_writeFacts) (hE : nEn D A cy (NBw cy a) kt vt s) {z : Int32 × nS} : ∀ (σ : nS) (x2 : Int32) (x3 : Int32) (x4 : Int32) (H : Heap) (locs : List Loc) (ls : Array Slot), lv_has ls 7 [(0, .ref (a 12)), (1, .ref (a q)), (2, .int x2), (3, .int x3), (4, .int x4)] → va_P D vwCl ((NBw cy a) σ) H → va_S A s.heap H locs → l_X0_writeFacts_0 N q qn σ x2 x3 x4 = some z → W p l e ({ frames := 1, cells := 0, slots := 0, locals := 20 } : Room) s m args below meth c H locs 0 0 (nQi below D A (NBw cy a) args s z) (F0 m 0 ls []) := by
  exact kb_X0_writeFacts_0 (N := N) hq C0 hE (kl_X0_writeFacts_6 (N := N) hq C0 hE)
def f_X0_writeFacts (N : Nat) (q : Nat) (qn : Nat) (x2 : Int32) (x3 : Int32) (x4 : Int32) (σ : nS) : Option (Int32 × nS) := l_X0_writeFacts_0 N q qn σ x2 x3 x4
set_option maxHeartbeats 4000000 in
set_option maxRecDepth 100000 in
theorem c_X0_writeFacts {l : Launch} {D : va_G} {A : Nat → Prop} {cy : Nat → ClassId} {a kt vt : Nat → Nat} {N : Nat} {q : Nat} {qn : Nat} (hq : nAr 0 (NBw cy a) cy a q qn) {x2 : Int32} {x3 : Int32} {x4 : Int32} {σ : nS} {r : Int32} {σ' : nS} (hf : f_X0_writeFacts N q qn x2 x3 x4 σ = some (r, σ')) : nMi l yX0_writeFacts wsX0_writeFacts ({ frames := 1, cells := 0, slots := 0, locals := 20 } : Room) D A cy (NBw cy a) kt vt [.ref (a 12), .ref (a q), .int x2, .int x3, .int x4] σ r σ' := by
  refine Met.ofW (cc := cX0_writeFacts) (maxL := 7) (ret := (some .int)) (by decide) rfl ?_
  intro p e s m args below meth c s₁ B hml hv
  obtain ⟨rfl, hP, hE⟩ := hv
  have hl := lv_entry ([.ref (a 12), .ref (a q), .int x2, .int x3, .int x4]) (n := 7) (Nat.le_of_ble_eq_true rfl)
  rw [lg_entry_eq]
  generalize (lg_sl ([.ref (a 12), .ref (a q), .int x2, .int x3, .int x4]) ++ List.replicate (7 - (lg_sl ([.ref (a 12), .ref (a q), .int x2, .int x3, .int x4])).length) Slot.unset).toArray = ls at hl ⊢
  have C0 : nCx p s m _ meth c cX0_writeFacts 7 (some .int) RX0 wsX0_writeFacts := ⟨B.exec, B.bytes, B.returns, hml, findClass_of_methodNamed B.named, atoms_spec (ws := wsX0_writeFacts) B.pre, B.notSynchronized⟩
  exact kl_X0_writeFacts_0 (N := N) hq C0 hE (z := (r, σ')) σ x2 x3 x4 _ _ ls hl hP va_S.rf hf

/-! X0_writeTo -/
set_option maxRecDepth 20000 in
theorem iX0_writeTo_X0 : ∀ w ∈ u_ws RX0 TX0 6, w ∈ wsX0_writeTo := fun _ h => List.mem_cons_of_mem _ (List.mem_append_right _ h)
set_option maxRecDepth 20000 in
theorem qX0_writeTo_28 : Cond.fieldLink RX0 28 RX0 (TX0 5).2.1 (TX0 5).2.2.1 ∈ wsX0_writeTo := by decide +kernel
set_option maxRecDepth 20000 in
theorem qX0_writeTo_18 : Cond.fieldLink RX0 18 RX0 (TX0 2).2.1 (TX0 2).2.2.1 ∈ wsX0_writeTo := by decide +kernel
set_option maxRecDepth 20000 in
theorem qX0_writeTo_25 : Cond.fieldLink RX0 25 RX0 (TX0 4).2.1 (TX0 4).2.2.1 ∈ wsX0_writeTo := by decide +kernel
set_option maxRecDepth 20000 in
theorem qX0_writeTo_15 : Cond.fieldLink RX0 15 RX0 (TX0 1).2.1 (TX0 1).2.2.1 ∈ wsX0_writeTo := by decide +kernel
def b_X0_writeTo_120 (N : Nat) (q : Nat) (qn : Nat) (k13 : nS → Int32 → Int32 → Int32 → Option (Int32 × nS)) (σ : nS) (x2 : Int32) (x3 : Int32) (x4 : Int32) : Option (Int32 × nS) := nLet (x4 + 1 : Int32) (fun v1 => k13 σ x2 x3 v1)
set_option maxHeartbeats 4000000 in
set_option maxRecDepth 100000 in
theorem kb_X0_writeTo_120 {p : Program} {l : Launch} {e : Env} {s : State} {m : MethodId} {args : Array Value} {below : List Frame} {meth : Method} {c : Code} {D : va_G} {A : Nat → Prop} {cy : Nat → ClassId} {a kt vt : Nat → Nat} {N : Nat} {q : Nat} {qn : Nat} (hq : nAr 0 (NBw cy a) cy a q qn) (C0 : nCx p s m args meth c cX0_writeTo 8 none RX0 wsX0_writeTo) (hE : nEn D A cy (NBw cy a) kt vt s) {z : Int32 × nS} {k13 : nS → Int32 → Int32 → Int32 → Option (Int32 × nS)} (K13 : ∀ (σ : nS) (x2 : Int32) (x3 : Int32) (x4 : Int32) (H : Heap) (locs : List Loc) (ls : Array Slot), lv_has ls 8 [(0, .ref (a 12)), (1, .ref (a q)), (2, .int x2), (3, .int x3), (4, .int x4)] → va_P D vwCl ((NBw cy a) σ) H → va_S A s.heap H locs → k13 σ x2 x3 x4 = some z → W p l e ({ frames := 2, cells := 0, slots := 0, locals := 46 } : Room) s m args below meth c H locs 0 0 (nQv below D A (NBw cy a) args s z) (F0 m 13 ls [])) : ∀ (σ : nS) (x2 : Int32) (x3 : Int32) (x4 : Int32) (H : Heap) (locs : List Loc) (ls : Array Slot), lv_has ls 8 [(0, .ref (a 12)), (1, .ref (a q)), (2, .int x2), (3, .int x3), (4, .int x4)] → va_P D vwCl ((NBw cy a) σ) H → va_S A s.heap H locs → b_X0_writeTo_120 N q qn k13 σ x2 x3 x4 = some z → W p l e ({ frames := 2, cells := 0, slots := 0, locals := 46 } : Room) s m args below meth c H locs 0 0 (nQv below D A (NBw cy a) args s z) (F0 m 120 ls []) := by
  obtain ⟨hx, hb, hr, hml, hown, hts, hlocks⟩ := C0
  intro σ x2 x3 x4 H locs ls hl hP hS hf
  unfold b_X0_writeTo_120 at hf
  obtain ⟨v1, ev1⟩ : ∃ y : Int32, y = x4 + 1 := ⟨_, rfl⟩
  replace hf := nLet_e hf ev1
  refine lv_iinc (v := v1) (lv' := [(4, .int v1), (0, .ref (a 12)), (1, .ref (a q)), (2, .int x2), (3, .int x3)]) hx hb dX0_writeTo_120 hl (k := 4) rfl (by rw [ev1]; rfl) (by decide) rfl (fun ls hl => ?_)
  refine lv_goto (tgt := 13) hx hb dX0_writeTo_123 (by decide) ?_
  exact K13 σ x2 x3 v1 H locs ls (lv_sub hl [1, 2, 3, 4, 0] rfl) hP hS hf
def b_X0_writeTo_35 (N : Nat) (q : Nat) (qn : Nat) (k35 : nS → Int32 → Int32 → Int32 → Int32 → Option (Int32 × nS)) (k120 : nS → Int32 → Int32 → Int32 → Option (Int32 × nS)) (σ : nS) (x2 : Int32) (x3 : Int32) (x4 : Int32) (x5 : Int32) : Option (Int32 × nS) := (if (σ.1 12 4) ≤ x5 then k120 σ x2 x3 x4 else nLet (Int32.ofNat 256) (fun v1 => (if v1 ≤ x5 then k120 σ x2 x3 x4 else nIx x4 16 (nLet (σ.1 15 (x4).toNatClampNeg) (fun v2 => nBd (f_J6_bitCount_0f7a4 N v2 σ) (fun r3 σ4 => nLet (x3 - r3 : Int32) (fun v5 => nIx x5 256 (nLet (σ4.1 14 (x5).toNatClampNeg) (fun v6 => nBd (f_J6_bitCount_0f7a4 N v6 σ4) (fun r7 σ8 => nLet (v5 - r7 : Int32) (fun v9 => nIx x4 16 (nLet (σ8.1 15 (x4).toNatClampNeg) (fun v10 => nLet ((65536 : Int32) * v10 : Int32) (fun v11 => nIx x5 256 (nLet (σ8.1 14 (x5).toNatClampNeg) (fun v12 => nLet ((256 : Int32) * v12 : Int32) (fun v13 => nLet (v11 + v13 : Int32) (fun v14 => nBd (f_X0_writeFacts N q qn x2 v14 v9 σ8) (fun r15 σ16 => nLet (x5 + 1 : Int32) (fun v17 => k35 σ16 r15 x3 x4 v17))))))))))))))))))))
set_option maxHeartbeats 4000000 in
set_option maxRecDepth 100000 in
theorem kb_X0_writeTo_35 {p : Program} {l : Launch} {e : Env} {s : State} {m : MethodId} {args : Array Value} {below : List Frame} {meth : Method} {c : Code} {D : va_G} {A : Nat → Prop} {cy : Nat → ClassId} {a kt vt : Nat → Nat} {N : Nat} {q : Nat} {qn : Nat} (hq : nAr 0 (NBw cy a) cy a q qn) (C0 : nCx p s m args meth c cX0_writeTo 8 none RX0 wsX0_writeTo) (hE : nEn D A cy (NBw cy a) kt vt s) {z : Int32 × nS} {k35 : nS → Int32 → Int32 → Int32 → Int32 → Option (Int32 × nS)} (K35 : ∀ (σ : nS) (x2 : Int32) (x3 : Int32) (x4 : Int32) (x5 : Int32) (H : Heap) (locs : List Loc) (ls : Array Slot), lv_has ls 8 [(0, .ref (a 12)), (1, .ref (a q)), (2, .int x2), (3, .int x3), (4, .int x4), (5, .int x5)] → va_P D vwCl ((NBw cy a) σ) H → va_S A s.heap H locs → k35 σ x2 x3 x4 x5 = some z → W p l e ({ frames := 2, cells := 0, slots := 0, locals := 46 } : Room) s m args below meth c H locs 0 0 (nQv below D A (NBw cy a) args s z) (F0 m 35 ls [])) {k120 : nS → Int32 → Int32 → Int32 → Option (Int32 × nS)} (K120 : ∀ (σ : nS) (x2 : Int32) (x3 : Int32) (x4 : Int32) (H : Heap) (locs : List Loc) (ls : Array Slot), lv_has ls 8 [(0, .ref (a 12)), (1, .ref (a q)), (2, .int x2), (3, .int x3), (4, .int x4)] → va_P D vwCl ((NBw cy a) σ) H → va_S A s.heap H locs → k120 σ x2 x3 x4 = some z → W p l e ({ frames := 2, cells := 0, slots := 0, locals := 46 } : Room) s m args below meth c H locs 0 0 (nQv below D A (NBw cy a) args s z) (F0 m 120 ls [])) : ∀ (σ : nS) (x2 : Int32) (x3 : Int32) (x4 : Int32) (x5 : Int32) (H : Heap) (locs : List Loc) (ls : Array Slot), lv_has ls 8 [(0, .ref (a 12)), (1, .ref (a q)), (2, .int x2), (3, .int x3), (4, .int x4), (5, .int x5)] → va_P D vwCl ((NBw cy a) σ) H → va_S A s.heap H locs → b_X0_writeTo_35 N q qn k35 k120 σ x2 x3 x4 x5 = some z → W p l e ({ frames := 2, cells := 0, slots := 0, locals := 46 } : Room) s m args below meth c H locs 0 0 (nQv below D A (NBw cy a) args s z) (F0 m 35 ls []) := by
  obtain ⟨hx, hb, hr, hml, hown, hts, hlocks⟩ := C0
  intro σ x2 x3 x4 x5 H locs ls hl hP hS hf
  unfold b_X0_writeTo_35 at hf
  refine lv_iload hx hb dX0_writeTo_35 (lv_at hl 5 rfl) ?_
  refine lv_aload_n hx hb dX0_writeTo_37 rfl (lv_at hl 0 rfl) ?_
  refine nb_get (ci := 0) hx hb hts iX0_writeTo_X0 hown hE hP 12 nbo_12 rfl 4 (by decide) qX0_writeTo_25 rfl rfl dX0_writeTo_38 ?_
  refine lv_icmp_ge (tgt := 120) hx hb dX0_writeTo_41 (by decide) (fun hc => ?_) (fun hc => ?_)
  · replace hf := nIf_t hc hf
    exact K120 σ x2 x3 x4 H locs ls (lv_sub hl [0, 1, 2, 3, 4] rfl) hP hS hf
  · replace hf := nIf_f hc hf
    refine lv_iload hx hb dX0_writeTo_44 (lv_at hl 5 rfl) ?_
    refine lv_aload_n hx hb dX0_writeTo_46 rfl (lv_at hl 0 rfl) ?_
    refine nb_get (ci := 0) hx hb hts iX0_writeTo_X0 hown hE hP 12 nbo_12 rfl 1 (by decide) qX0_writeTo_15 rfl rfl dX0_writeTo_47 ?_
    refine na_alen hx hb hE hP nbr_14 dX0_writeTo_50 ?_
    refine lv_topi (fun v1 ev1 => ?_)
    replace hf := nLet_e hf ev1
    refine lv_icmp_ge (tgt := 120) hx hb dX0_writeTo_51 (by decide) (fun hc => ?_) (fun hc => ?_)
    · replace hf := nIf_t hc hf
      exact K120 σ x2 x3 x4 H locs ls (lv_sub hl [0, 1, 2, 3, 4] rfl) hP hS hf
    · replace hf := nIf_f hc hf
      refine lv_iload_n hx hb dX0_writeTo_54 rfl (lv_at hl 3 rfl) ?_
      refine lv_aload_n hx hb dX0_writeTo_55 rfl (lv_at hl 0 rfl) ?_
      refine nb_get (ci := 0) hx hb hts iX0_writeTo_X0 hown hE hP 12 nbo_12 rfl 2 (by decide) qX0_writeTo_18 rfl rfl dX0_writeTo_56 ?_
      refine lv_iload hx hb dX0_writeTo_59 (lv_at hl 4 rfl) ?_
      obtain ⟨hin, hf⟩ := nIx_e hf
      refine na_iald hx hb hE hP nbr_15 hin dX0_writeTo_61 ?_
      refine lv_topi (fun v2 ev2 => ?_)
      replace hf := nLet_e hf ev2
      obtain ⟨r3, σ4, hc4, hf⟩ := nBd_e hf
      refine nb_callSi (As := [.int v2]) (rest := [.int x3]) ⟨hx, hb, hml, hown, hts⟩ (c_J6_bitCount_0f7a4 (X := (NBw cy a)) (D := D) (A := A) (cy := cy) (kt := kt) (vt := vt) (l := l)  hc4) (va_cwS 1 hts gX0_writeTo_J6_bitCount_0f7a4 rfl rfl rfl (by decide +kernel) ⟨Nat.le_of_ble_eq_true rfl, Nat.le_of_ble_eq_true rfl⟩) hE hP hS rfl hl.1 rfl (Nat.le_of_ble_eq_true rfl) dX0_writeTo_62 (fun H locs hP hS => ?_)
      refine lv_isub hx hb dX0_writeTo_65 ?_
      refine lv_topi (fun v5 ev5 => ?_)
      replace hf := nLet_e hf ev5
      refine lv_aload_n hx hb dX0_writeTo_66 rfl (lv_at hl 0 rfl) ?_
      refine nb_get (ci := 0) hx hb hts iX0_writeTo_X0 hown hE hP 12 nbo_12 rfl 1 (by decide) qX0_writeTo_15 rfl rfl dX0_writeTo_67 ?_
      refine lv_iload hx hb dX0_writeTo_70 (lv_at hl 5 rfl) ?_
      obtain ⟨hin, hf⟩ := nIx_e hf
      refine na_iald hx hb hE hP nbr_14 hin dX0_writeTo_72 ?_
      refine lv_topi (fun v6 ev6 => ?_)
      replace hf := nLet_e hf ev6
      obtain ⟨r7, σ8, hc8, hf⟩ := nBd_e hf
      refine nb_callSi (As := [.int v6]) (rest := [.int v5]) ⟨hx, hb, hml, hown, hts⟩ (c_J6_bitCount_0f7a4 (X := (NBw cy a)) (D := D) (A := A) (cy := cy) (kt := kt) (vt := vt) (l := l)  hc8) (va_cwS 1 hts gX0_writeTo_J6_bitCount_0f7a4 rfl rfl rfl (by decide +kernel) ⟨Nat.le_of_ble_eq_true rfl, Nat.le_of_ble_eq_true rfl⟩) hE hP hS rfl hl.1 rfl (Nat.le_of_ble_eq_true rfl) dX0_writeTo_73 (fun H locs hP hS => ?_)
      refine lv_isub hx hb dX0_writeTo_76 ?_
      refine lv_topi (fun v9 ev9 => ?_)
      replace hf := nLet_e hf ev9
      refine lv_istore (lv' := [(6, .int v9), (0, .ref (a 12)), (1, .ref (a q)), (2, .int x2), (3, .int x3), (4, .int x4), (5, .int x5)]) hx hb dX0_writeTo_77 hl (by decide) rfl (fun ls hl => ?_)
      refine lv_ldc (v := 65536) hx hb hown (hts (.constant RX0 53 65536) (by decide +kernel)) dX0_writeTo_79 ?_
      refine lv_aload_n hx hb dX0_writeTo_81 rfl (lv_at hl 1 rfl) ?_
      refine nb_get (ci := 0) hx hb hts iX0_writeTo_X0 hown hE hP 12 nbo_12 rfl 2 (by decide) qX0_writeTo_18 rfl rfl dX0_writeTo_82 ?_
      refine lv_iload hx hb dX0_writeTo_85 (lv_at hl 5 rfl) ?_
      obtain ⟨hin, hf⟩ := nIx_e hf
      refine na_iald hx hb hE hP nbr_15 hin dX0_writeTo_87 ?_
      refine lv_topi (fun v10 ev10 => ?_)
      replace hf := nLet_e hf ev10
      refine lv_imul hx hb dX0_writeTo_88 ?_
      refine lv_topi (fun v11 ev11 => ?_)
      replace hf := nLet_e hf ev11
      refine lv_sipush (v := 256) hx hb dX0_writeTo_89 (by decide) ?_
      refine lv_aload_n hx hb dX0_writeTo_92 rfl (lv_at hl 1 rfl) ?_
      refine nb_get (ci := 0) hx hb hts iX0_writeTo_X0 hown hE hP 12 nbo_12 rfl 1 (by decide) qX0_writeTo_15 rfl rfl dX0_writeTo_93 ?_
      refine lv_iload hx hb dX0_writeTo_96 (lv_at hl 6 rfl) ?_
      obtain ⟨hin, hf⟩ := nIx_e hf
      refine na_iald hx hb hE hP nbr_14 hin dX0_writeTo_98 ?_
      refine lv_topi (fun v12 ev12 => ?_)
      replace hf := nLet_e hf ev12
      refine lv_imul hx hb dX0_writeTo_99 ?_
      refine lv_topi (fun v13 ev13 => ?_)
      replace hf := nLet_e hf ev13
      refine lv_iadd hx hb dX0_writeTo_100 ?_
      refine lv_topi (fun v14 ev14 => ?_)
      replace hf := nLet_e hf ev14
      refine lv_istore (lv' := [(7, .int v14), (6, .int v9), (0, .ref (a 12)), (1, .ref (a q)), (2, .int x2), (3, .int x3), (4, .int x4), (5, .int x5)]) hx hb dX0_writeTo_101 hl (by decide) rfl (fun ls hl => ?_)
      refine lv_aload_n hx hb dX0_writeTo_103 rfl (lv_at hl 2 rfl) ?_
      refine lv_aload_n hx hb dX0_writeTo_104 rfl (lv_at hl 3 rfl) ?_
      refine lv_iload_n hx hb dX0_writeTo_105 rfl (lv_at hl 4 rfl) ?_
      refine lv_iload hx hb dX0_writeTo_106 (lv_at hl 0 rfl) ?_
      refine lv_iload hx hb dX0_writeTo_108 (lv_at hl 1 rfl) ?_
      obtain ⟨r15, σ16, hc16, hf⟩ := nBd_e hf
      refine nb_callVi (As := [.ref (a q), .int x2, .int v14, .int v9]) (rest := []) ⟨hx, hb, hml, hown, hts⟩ (c_X0_writeFacts (D := D) (A := A) (cy := cy) (a := a) (kt := kt) (vt := vt) (l := l) hq hc16) (cwV 4 hts gX0_writeTo_X0_writeFacts rfl rfl rfl (by decide +kernel) ⟨Nat.le_of_ble_eq_true rfl, Nat.le_of_ble_eq_true rfl⟩) hE hP hS nbo_12 rfl rfl hl.1 rfl (Nat.le_of_ble_eq_true rfl) dX0_writeTo_110 (fun H locs hP hS => ?_)
      refine lv_istore_n (lv' := [(2, .int r15), (7, .int v14), (6, .int v9), (0, .ref (a 12)), (1, .ref (a q)), (3, .int x3), (4, .int x4), (5, .int x5)]) hx hb dX0_writeTo_113 rfl hl (by decide) rfl (fun ls hl => ?_)
      obtain ⟨v17, ev17⟩ : ∃ y : Int32, y = x5 + 1 := ⟨_, rfl⟩
      replace hf := nLet_e hf ev17
      refine lv_iinc (v := v17) (lv' := [(5, .int v17), (2, .int r15), (7, .int v14), (6, .int v9), (0, .ref (a 12)), (1, .ref (a q)), (3, .int x3), (4, .int x4)]) hx hb dX0_writeTo_114 hl (k := 7) rfl (by rw [ev17]; rfl) (by decide) rfl (fun ls hl => ?_)
      refine lv_goto (tgt := 35) hx hb dX0_writeTo_117 (by decide) ?_
      exact K35 σ16 r15 x3 x4 v17 H locs ls (lv_sub hl [4, 5, 1, 6, 7, 0] rfl) hP hS hf
def b_X0_writeTo_126 (N : Nat) (q : Nat) (qn : Nat) (k4 : nS → Int32 → Int32 → Option (Int32 × nS)) (σ : nS) (x2 : Int32) (x3 : Int32) : Option (Int32 × nS) := nLet (x3 + 1 : Int32) (fun v1 => k4 σ x2 v1)
set_option maxHeartbeats 4000000 in
set_option maxRecDepth 100000 in
theorem kb_X0_writeTo_126 {p : Program} {l : Launch} {e : Env} {s : State} {m : MethodId} {args : Array Value} {below : List Frame} {meth : Method} {c : Code} {D : va_G} {A : Nat → Prop} {cy : Nat → ClassId} {a kt vt : Nat → Nat} {N : Nat} {q : Nat} {qn : Nat} (hq : nAr 0 (NBw cy a) cy a q qn) (C0 : nCx p s m args meth c cX0_writeTo 8 none RX0 wsX0_writeTo) (hE : nEn D A cy (NBw cy a) kt vt s) {z : Int32 × nS} {k4 : nS → Int32 → Int32 → Option (Int32 × nS)} (K4 : ∀ (σ : nS) (x2 : Int32) (x3 : Int32) (H : Heap) (locs : List Loc) (ls : Array Slot), lv_has ls 8 [(0, .ref (a 12)), (1, .ref (a q)), (2, .int x2), (3, .int x3)] → va_P D vwCl ((NBw cy a) σ) H → va_S A s.heap H locs → k4 σ x2 x3 = some z → W p l e ({ frames := 2, cells := 0, slots := 0, locals := 46 } : Room) s m args below meth c H locs 0 0 (nQv below D A (NBw cy a) args s z) (F0 m 4 ls [])) : ∀ (σ : nS) (x2 : Int32) (x3 : Int32) (H : Heap) (locs : List Loc) (ls : Array Slot), lv_has ls 8 [(0, .ref (a 12)), (1, .ref (a q)), (2, .int x2), (3, .int x3)] → va_P D vwCl ((NBw cy a) σ) H → va_S A s.heap H locs → b_X0_writeTo_126 N q qn k4 σ x2 x3 = some z → W p l e ({ frames := 2, cells := 0, slots := 0, locals := 46 } : Room) s m args below meth c H locs 0 0 (nQv below D A (NBw cy a) args s z) (F0 m 126 ls []) := by
  obtain ⟨hx, hb, hr, hml, hown, hts, hlocks⟩ := C0
  intro σ x2 x3 H locs ls hl hP hS hf
  unfold b_X0_writeTo_126 at hf
  obtain ⟨v1, ev1⟩ : ∃ y : Int32, y = x3 + 1 := ⟨_, rfl⟩
  replace hf := nLet_e hf ev1
  refine lv_iinc (v := v1) (lv' := [(3, .int v1), (0, .ref (a 12)), (1, .ref (a q)), (2, .int x2)]) hx hb dX0_writeTo_126 hl (k := 3) rfl (by rw [ev1]; rfl) (by decide) rfl (fun ls hl => ?_)
  refine lv_goto (tgt := 4) hx hb dX0_writeTo_129 (by decide) ?_
  exact K4 σ x2 v1 H locs ls (lv_sub hl [1, 2, 3, 0] rfl) hP hS hf
def b_X0_writeTo_13 (N : Nat) (q : Nat) (qn : Nat) (k35 : nS → Int32 → Int32 → Int32 → Int32 → Option (Int32 × nS)) (k126 : nS → Int32 → Int32 → Option (Int32 × nS)) (σ : nS) (x2 : Int32) (x3 : Int32) (x4 : Int32) : Option (Int32 × nS) := (if (σ.1 12 5) ≤ x4 then k126 σ x2 x3 else nLet (Int32.ofNat 16) (fun v1 => (if v1 ≤ x4 then k126 σ x2 x3 else k35 σ x2 x3 x4 0)))
set_option maxHeartbeats 4000000 in
set_option maxRecDepth 100000 in
theorem kb_X0_writeTo_13 {p : Program} {l : Launch} {e : Env} {s : State} {m : MethodId} {args : Array Value} {below : List Frame} {meth : Method} {c : Code} {D : va_G} {A : Nat → Prop} {cy : Nat → ClassId} {a kt vt : Nat → Nat} {N : Nat} {q : Nat} {qn : Nat} (hq : nAr 0 (NBw cy a) cy a q qn) (C0 : nCx p s m args meth c cX0_writeTo 8 none RX0 wsX0_writeTo) (hE : nEn D A cy (NBw cy a) kt vt s) {z : Int32 × nS} {k35 : nS → Int32 → Int32 → Int32 → Int32 → Option (Int32 × nS)} (K35 : ∀ (σ : nS) (x2 : Int32) (x3 : Int32) (x4 : Int32) (x5 : Int32) (H : Heap) (locs : List Loc) (ls : Array Slot), lv_has ls 8 [(0, .ref (a 12)), (1, .ref (a q)), (2, .int x2), (3, .int x3), (4, .int x4), (5, .int x5)] → va_P D vwCl ((NBw cy a) σ) H → va_S A s.heap H locs → k35 σ x2 x3 x4 x5 = some z → W p l e ({ frames := 2, cells := 0, slots := 0, locals := 46 } : Room) s m args below meth c H locs 0 0 (nQv below D A (NBw cy a) args s z) (F0 m 35 ls [])) {k126 : nS → Int32 → Int32 → Option (Int32 × nS)} (K126 : ∀ (σ : nS) (x2 : Int32) (x3 : Int32) (H : Heap) (locs : List Loc) (ls : Array Slot), lv_has ls 8 [(0, .ref (a 12)), (1, .ref (a q)), (2, .int x2), (3, .int x3)] → va_P D vwCl ((NBw cy a) σ) H → va_S A s.heap H locs → k126 σ x2 x3 = some z → W p l e ({ frames := 2, cells := 0, slots := 0, locals := 46 } : Room) s m args below meth c H locs 0 0 (nQv below D A (NBw cy a) args s z) (F0 m 126 ls [])) : ∀ (σ : nS) (x2 : Int32) (x3 : Int32) (x4 : Int32) (H : Heap) (locs : List Loc) (ls : Array Slot), lv_has ls 8 [(0, .ref (a 12)), (1, .ref (a q)), (2, .int x2), (3, .int x3), (4, .int x4)] → va_P D vwCl ((NBw cy a) σ) H → va_S A s.heap H locs → b_X0_writeTo_13 N q qn k35 k126 σ x2 x3 x4 = some z → W p l e ({ frames := 2, cells := 0, slots := 0, locals := 46 } : Room) s m args below meth c H locs 0 0 (nQv below D A (NBw cy a) args s z) (F0 m 13 ls []) := by
  obtain ⟨hx, hb, hr, hml, hown, hts, hlocks⟩ := C0
  intro σ x2 x3 x4 H locs ls hl hP hS hf
  unfold b_X0_writeTo_13 at hf
  refine lv_iload hx hb dX0_writeTo_13 (lv_at hl 4 rfl) ?_
  refine lv_aload_n hx hb dX0_writeTo_15 rfl (lv_at hl 0 rfl) ?_
  refine nb_get (ci := 0) hx hb hts iX0_writeTo_X0 hown hE hP 12 nbo_12 rfl 5 (by decide) qX0_writeTo_28 rfl rfl dX0_writeTo_16 ?_
  refine lv_icmp_ge (tgt := 126) hx hb dX0_writeTo_19 (by decide) (fun hc => ?_) (fun hc => ?_)
  · replace hf := nIf_t hc hf
    exact K126 σ x2 x3 H locs ls (lv_sub hl [0, 1, 2, 3] rfl) hP hS hf
  · replace hf := nIf_f hc hf
    refine lv_iload hx hb dX0_writeTo_22 (lv_at hl 4 rfl) ?_
    refine lv_aload_n hx hb dX0_writeTo_24 rfl (lv_at hl 0 rfl) ?_
    refine nb_get (ci := 0) hx hb hts iX0_writeTo_X0 hown hE hP 12 nbo_12 rfl 2 (by decide) qX0_writeTo_18 rfl rfl dX0_writeTo_25 ?_
    refine na_alen hx hb hE hP nbr_15 dX0_writeTo_28 ?_
    refine lv_topi (fun v1 ev1 => ?_)
    replace hf := nLet_e hf ev1
    refine lv_icmp_ge (tgt := 126) hx hb dX0_writeTo_29 (by decide) (fun hc => ?_) (fun hc => ?_)
    · replace hf := nIf_t hc hf
      exact K126 σ x2 x3 H locs ls (lv_sub hl [0, 1, 2, 3] rfl) hP hS hf
    · replace hf := nIf_f hc hf
      refine lv_iconst (v := 0) hx hb dX0_writeTo_32 (by decide) ?_
      refine lv_istore (lv' := [(5, .int 0), (0, .ref (a 12)), (1, .ref (a q)), (2, .int x2), (3, .int x3), (4, .int x4)]) hx hb dX0_writeTo_33 hl (by decide) rfl (fun ls hl => ?_)
      exact K35 σ x2 x3 x4 0 H locs ls (lv_sub hl [1, 2, 3, 4, 5, 0] rfl) hP hS hf
def b_X0_writeTo_4 (N : Nat) (q : Nat) (qn : Nat) (k13 : nS → Int32 → Int32 → Int32 → Option (Int32 × nS)) (σ : nS) (x2 : Int32) (x3 : Int32) : Option (Int32 × nS) := (if (20 : Int32) < x3 then some (0, σ) else k13 σ x2 x3 0)
set_option maxHeartbeats 4000000 in
set_option maxRecDepth 100000 in
theorem kb_X0_writeTo_4 {p : Program} {l : Launch} {e : Env} {s : State} {m : MethodId} {args : Array Value} {below : List Frame} {meth : Method} {c : Code} {D : va_G} {A : Nat → Prop} {cy : Nat → ClassId} {a kt vt : Nat → Nat} {N : Nat} {q : Nat} {qn : Nat} (hq : nAr 0 (NBw cy a) cy a q qn) (C0 : nCx p s m args meth c cX0_writeTo 8 none RX0 wsX0_writeTo) (hE : nEn D A cy (NBw cy a) kt vt s) {z : Int32 × nS} {k13 : nS → Int32 → Int32 → Int32 → Option (Int32 × nS)} (K13 : ∀ (σ : nS) (x2 : Int32) (x3 : Int32) (x4 : Int32) (H : Heap) (locs : List Loc) (ls : Array Slot), lv_has ls 8 [(0, .ref (a 12)), (1, .ref (a q)), (2, .int x2), (3, .int x3), (4, .int x4)] → va_P D vwCl ((NBw cy a) σ) H → va_S A s.heap H locs → k13 σ x2 x3 x4 = some z → W p l e ({ frames := 2, cells := 0, slots := 0, locals := 46 } : Room) s m args below meth c H locs 0 0 (nQv below D A (NBw cy a) args s z) (F0 m 13 ls [])) : ∀ (σ : nS) (x2 : Int32) (x3 : Int32) (H : Heap) (locs : List Loc) (ls : Array Slot), lv_has ls 8 [(0, .ref (a 12)), (1, .ref (a q)), (2, .int x2), (3, .int x3)] → va_P D vwCl ((NBw cy a) σ) H → va_S A s.heap H locs → b_X0_writeTo_4 N q qn k13 σ x2 x3 = some z → W p l e ({ frames := 2, cells := 0, slots := 0, locals := 46 } : Room) s m args below meth c H locs 0 0 (nQv below D A (NBw cy a) args s z) (F0 m 4 ls []) := by
  obtain ⟨hx, hb, hr, hml, hown, hts, hlocks⟩ := C0
  intro σ x2 x3 H locs ls hl hP hS hf
  unfold b_X0_writeTo_4 at hf
  refine lv_iload_n hx hb dX0_writeTo_4 rfl (lv_at hl 3 rfl) ?_
  refine lv_bipush (v := 20) hx hb dX0_writeTo_5 (by decide) ?_
  refine lv_icmp_gt (tgt := 132) hx hb dX0_writeTo_7 (by decide) (fun hc => ?_) (fun hc => ?_)
  · replace hf := nIf_t hc hf
    exact nb_vret hx hb hr hlocks hP hS (nSo hf) dX0_writeTo_132
  · replace hf := nIf_f hc hf
    refine lv_iconst (v := 0) hx hb dX0_writeTo_10 (by decide) ?_
    refine lv_istore (lv' := [(4, .int 0), (0, .ref (a 12)), (1, .ref (a q)), (2, .int x2), (3, .int x3)]) hx hb dX0_writeTo_11 hl (by decide) rfl (fun ls hl => ?_)
    exact K13 σ x2 x3 0 H locs ls (lv_sub hl [1, 2, 3, 4, 0] rfl) hP hS hf
def b_X0_writeTo_0 (N : Nat) (q : Nat) (qn : Nat) (k4 : nS → Int32 → Int32 → Option (Int32 × nS)) (σ : nS) : Option (Int32 × nS) := k4 σ 0 0
set_option maxHeartbeats 4000000 in
set_option maxRecDepth 100000 in
theorem kb_X0_writeTo_0 {p : Program} {l : Launch} {e : Env} {s : State} {m : MethodId} {args : Array Value} {below : List Frame} {meth : Method} {c : Code} {D : va_G} {A : Nat → Prop} {cy : Nat → ClassId} {a kt vt : Nat → Nat} {N : Nat} {q : Nat} {qn : Nat} (hq : nAr 0 (NBw cy a) cy a q qn) (C0 : nCx p s m args meth c cX0_writeTo 8 none RX0 wsX0_writeTo) (hE : nEn D A cy (NBw cy a) kt vt s) {z : Int32 × nS} {k4 : nS → Int32 → Int32 → Option (Int32 × nS)} (K4 : ∀ (σ : nS) (x2 : Int32) (x3 : Int32) (H : Heap) (locs : List Loc) (ls : Array Slot), lv_has ls 8 [(0, .ref (a 12)), (1, .ref (a q)), (2, .int x2), (3, .int x3)] → va_P D vwCl ((NBw cy a) σ) H → va_S A s.heap H locs → k4 σ x2 x3 = some z → W p l e ({ frames := 2, cells := 0, slots := 0, locals := 46 } : Room) s m args below meth c H locs 0 0 (nQv below D A (NBw cy a) args s z) (F0 m 4 ls [])) : ∀ (σ : nS) (H : Heap) (locs : List Loc) (ls : Array Slot), lv_has ls 8 [(0, .ref (a 12)), (1, .ref (a q))] → va_P D vwCl ((NBw cy a) σ) H → va_S A s.heap H locs → b_X0_writeTo_0 N q qn k4 σ = some z → W p l e ({ frames := 2, cells := 0, slots := 0, locals := 46 } : Room) s m args below meth c H locs 0 0 (nQv below D A (NBw cy a) args s z) (F0 m 0 ls []) := by
  obtain ⟨hx, hb, hr, hml, hown, hts, hlocks⟩ := C0
  intro σ  H locs ls hl hP hS hf
  unfold b_X0_writeTo_0 at hf
  refine lv_iconst (v := 0) hx hb dX0_writeTo_0 (by decide) ?_
  refine lv_istore_n (lv' := [(2, .int 0), (0, .ref (a 12)), (1, .ref (a q))]) hx hb dX0_writeTo_1 rfl hl (by decide) rfl (fun ls hl => ?_)
  refine lv_iconst (v := 0) hx hb dX0_writeTo_2 (by decide) ?_
  refine lv_istore_n (lv' := [(3, .int 0), (2, .int 0), (0, .ref (a 12)), (1, .ref (a q))]) hx hb dX0_writeTo_3 rfl hl (by decide) rfl (fun ls hl => ?_)
  exact K4 σ 0 0 H locs ls (lv_sub hl [2, 3, 1, 0] rfl) hP hS hf
def l_X0_writeTo_120 (N : Nat) (q : Nat) (qn : Nat) (k13 : nS → Int32 → Int32 → Int32 → Option (Int32 × nS)) : nS → Int32 → Int32 → Int32 → Option (Int32 × nS) := b_X0_writeTo_120 N q qn k13
theorem kl_X0_writeTo_120 {p : Program} {l : Launch} {e : Env} {s : State} {m : MethodId} {args : Array Value} {below : List Frame} {meth : Method} {c : Code} {D : va_G} {A : Nat → Prop} {cy : Nat → ClassId} {a kt vt : Nat → Nat} {N : Nat} {q : Nat} {qn : Nat} (hq : nAr 0 (NBw cy a) cy a q qn) (C0 : nCx p s m args meth c cX0_writeTo 8 none RX0 wsX0_writeTo) (hE : nEn D A cy (NBw cy a) kt vt s) {z : Int32 × nS} {k13 : nS → Int32 → Int32 → Int32 → Option (Int32 × nS)} (K13 : ∀ (σ : nS) (x2 : Int32) (x3 : Int32) (x4 : Int32) (H : Heap) (locs : List Loc) (ls : Array Slot), lv_has ls 8 [(0, .ref (a 12)), (1, .ref (a q)), (2, .int x2), (3, .int x3), (4, .int x4)] → va_P D vwCl ((NBw cy a) σ) H → va_S A s.heap H locs → k13 σ x2 x3 x4 = some z → W p l e ({ frames := 2, cells := 0, slots := 0, locals := 46 } : Room) s m args below meth c H locs 0 0 (nQv below D A (NBw cy a) args s z) (F0 m 13 ls [])) : ∀ (σ : nS) (x2 : Int32) (x3 : Int32) (x4 : Int32) (H : Heap) (locs : List Loc) (ls : Array Slot), lv_has ls 8 [(0, .ref (a 12)), (1, .ref (a q)), (2, .int x2), (3, .int x3), (4, .int x4)] → va_P D vwCl ((NBw cy a) σ) H → va_S A s.heap H locs → l_X0_writeTo_120 N q qn k13 σ x2 x3 x4 = some z → W p l e ({ frames := 2, cells := 0, slots := 0, locals := 46 } : Room) s m args below meth c H locs 0 0 (nQv below D A (NBw cy a) args s z) (F0 m 120 ls []) := by
  exact kb_X0_writeTo_120 (N := N) hq C0 hE K13
def l_X0_writeTo_35 (N : Nat) (q : Nat) (qn : Nat) (k13 : nS → Int32 → Int32 → Int32 → Option (Int32 × nS)) : nS → Int32 → Int32 → Int32 → Int32 → Option (Int32 × nS) := nLp (fun _ _ _ _ _ => none) (fun again => b_X0_writeTo_35 N q qn again (l_X0_writeTo_120 N q qn k13)) N
theorem kl_X0_writeTo_35 {p : Program} {l : Launch} {e : Env} {s : State} {m : MethodId} {args : Array Value} {below : List Frame} {meth : Method} {c : Code} {D : va_G} {A : Nat → Prop} {cy : Nat → ClassId} {a kt vt : Nat → Nat} {N : Nat} {q : Nat} {qn : Nat} (hq : nAr 0 (NBw cy a) cy a q qn) (C0 : nCx p s m args meth c cX0_writeTo 8 none RX0 wsX0_writeTo) (hE : nEn D A cy (NBw cy a) kt vt s) {z : Int32 × nS} {k13 : nS → Int32 → Int32 → Int32 → Option (Int32 × nS)} (K13 : ∀ (σ : nS) (x2 : Int32) (x3 : Int32) (x4 : Int32) (H : Heap) (locs : List Loc) (ls : Array Slot), lv_has ls 8 [(0, .ref (a 12)), (1, .ref (a q)), (2, .int x2), (3, .int x3), (4, .int x4)] → va_P D vwCl ((NBw cy a) σ) H → va_S A s.heap H locs → k13 σ x2 x3 x4 = some z → W p l e ({ frames := 2, cells := 0, slots := 0, locals := 46 } : Room) s m args below meth c H locs 0 0 (nQv below D A (NBw cy a) args s z) (F0 m 13 ls [])) : ∀ (σ : nS) (x2 : Int32) (x3 : Int32) (x4 : Int32) (x5 : Int32) (H : Heap) (locs : List Loc) (ls : Array Slot), lv_has ls 8 [(0, .ref (a 12)), (1, .ref (a q)), (2, .int x2), (3, .int x3), (4, .int x4), (5, .int x5)] → va_P D vwCl ((NBw cy a) σ) H → va_S A s.heap H locs → l_X0_writeTo_35 N q qn k13 σ x2 x3 x4 x5 = some z → W p l e ({ frames := 2, cells := 0, slots := 0, locals := 46 } : Room) s m args below meth c H locs 0 0 (nQv below D A (NBw cy a) args s z) (F0 m 35 ls []) := by
  have main : ∀ (fu : Nat), ∀ (σ : nS) (x2 : Int32) (x3 : Int32) (x4 : Int32) (x5 : Int32) (H : Heap) (locs : List Loc) (ls : Array Slot), lv_has ls 8 [(0, .ref (a 12)), (1, .ref (a q)), (2, .int x2), (3, .int x3), (4, .int x4), (5, .int x5)] → va_P D vwCl ((NBw cy a) σ) H → va_S A s.heap H locs → nLp (fun _ _ _ _ _ => none) (fun again => b_X0_writeTo_35 N q qn again (l_X0_writeTo_120 N q qn k13)) fu σ x2 x3 x4 x5 = some z → W p l e ({ frames := 2, cells := 0, slots := 0, locals := 46 } : Room) s m args below meth c H locs 0 0 (nQv below D A (NBw cy a) args s z) (F0 m 35 ls []) := by
    intro fu
    induction fu with
    | zero => intro σ x2 x3 x4 x5 H locs ls hl hP hS hf; cases hf
    | succ fu ih => exact kb_X0_writeTo_35 (N := N) hq C0 hE ih (kl_X0_writeTo_120 (N := N) hq C0 hE K13)
  exact main N
def l_X0_writeTo_126 (N : Nat) (q : Nat) (qn : Nat) (k4 : nS → Int32 → Int32 → Option (Int32 × nS)) : nS → Int32 → Int32 → Option (Int32 × nS) := b_X0_writeTo_126 N q qn k4
theorem kl_X0_writeTo_126 {p : Program} {l : Launch} {e : Env} {s : State} {m : MethodId} {args : Array Value} {below : List Frame} {meth : Method} {c : Code} {D : va_G} {A : Nat → Prop} {cy : Nat → ClassId} {a kt vt : Nat → Nat} {N : Nat} {q : Nat} {qn : Nat} (hq : nAr 0 (NBw cy a) cy a q qn) (C0 : nCx p s m args meth c cX0_writeTo 8 none RX0 wsX0_writeTo) (hE : nEn D A cy (NBw cy a) kt vt s) {z : Int32 × nS} {k4 : nS → Int32 → Int32 → Option (Int32 × nS)} (K4 : ∀ (σ : nS) (x2 : Int32) (x3 : Int32) (H : Heap) (locs : List Loc) (ls : Array Slot), lv_has ls 8 [(0, .ref (a 12)), (1, .ref (a q)), (2, .int x2), (3, .int x3)] → va_P D vwCl ((NBw cy a) σ) H → va_S A s.heap H locs → k4 σ x2 x3 = some z → W p l e ({ frames := 2, cells := 0, slots := 0, locals := 46 } : Room) s m args below meth c H locs 0 0 (nQv below D A (NBw cy a) args s z) (F0 m 4 ls [])) : ∀ (σ : nS) (x2 : Int32) (x3 : Int32) (H : Heap) (locs : List Loc) (ls : Array Slot), lv_has ls 8 [(0, .ref (a 12)), (1, .ref (a q)), (2, .int x2), (3, .int x3)] → va_P D vwCl ((NBw cy a) σ) H → va_S A s.heap H locs → l_X0_writeTo_126 N q qn k4 σ x2 x3 = some z → W p l e ({ frames := 2, cells := 0, slots := 0, locals := 46 } : Room) s m args below meth c H locs 0 0 (nQv below D A (NBw cy a) args s z) (F0 m 126 ls []) := by
  exact kb_X0_writeTo_126 (N := N) hq C0 hE K4
def l_X0_writeTo_13 (N : Nat) (q : Nat) (qn : Nat) (k4 : nS → Int32 → Int32 → Option (Int32 × nS)) : nS → Int32 → Int32 → Int32 → Option (Int32 × nS) := nLp (fun _ _ _ _ => none) (fun again => b_X0_writeTo_13 N q qn (l_X0_writeTo_35 N q qn again) (l_X0_writeTo_126 N q qn k4)) N
theorem kl_X0_writeTo_13 {p : Program} {l : Launch} {e : Env} {s : State} {m : MethodId} {args : Array Value} {below : List Frame} {meth : Method} {c : Code} {D : va_G} {A : Nat → Prop} {cy : Nat → ClassId} {a kt vt : Nat → Nat} {N : Nat} {q : Nat} {qn : Nat} (hq : nAr 0 (NBw cy a) cy a q qn) (C0 : nCx p s m args meth c cX0_writeTo 8 none RX0 wsX0_writeTo) (hE : nEn D A cy (NBw cy a) kt vt s) {z : Int32 × nS} {k4 : nS → Int32 → Int32 → Option (Int32 × nS)} (K4 : ∀ (σ : nS) (x2 : Int32) (x3 : Int32) (H : Heap) (locs : List Loc) (ls : Array Slot), lv_has ls 8 [(0, .ref (a 12)), (1, .ref (a q)), (2, .int x2), (3, .int x3)] → va_P D vwCl ((NBw cy a) σ) H → va_S A s.heap H locs → k4 σ x2 x3 = some z → W p l e ({ frames := 2, cells := 0, slots := 0, locals := 46 } : Room) s m args below meth c H locs 0 0 (nQv below D A (NBw cy a) args s z) (F0 m 4 ls [])) : ∀ (σ : nS) (x2 : Int32) (x3 : Int32) (x4 : Int32) (H : Heap) (locs : List Loc) (ls : Array Slot), lv_has ls 8 [(0, .ref (a 12)), (1, .ref (a q)), (2, .int x2), (3, .int x3), (4, .int x4)] → va_P D vwCl ((NBw cy a) σ) H → va_S A s.heap H locs → l_X0_writeTo_13 N q qn k4 σ x2 x3 x4 = some z → W p l e ({ frames := 2, cells := 0, slots := 0, locals := 46 } : Room) s m args below meth c H locs 0 0 (nQv below D A (NBw cy a) args s z) (F0 m 13 ls []) := by
  have main : ∀ (fu : Nat), ∀ (σ : nS) (x2 : Int32) (x3 : Int32) (x4 : Int32) (H : Heap) (locs : List Loc) (ls : Array Slot), lv_has ls 8 [(0, .ref (a 12)), (1, .ref (a q)), (2, .int x2), (3, .int x3), (4, .int x4)] → va_P D vwCl ((NBw cy a) σ) H → va_S A s.heap H locs → nLp (fun _ _ _ _ => none) (fun again => b_X0_writeTo_13 N q qn (l_X0_writeTo_35 N q qn again) (l_X0_writeTo_126 N q qn k4)) fu σ x2 x3 x4 = some z → W p l e ({ frames := 2, cells := 0, slots := 0, locals := 46 } : Room) s m args below meth c H locs 0 0 (nQv below D A (NBw cy a) args s z) (F0 m 13 ls []) := by
    intro fu
    induction fu with
    | zero => intro σ x2 x3 x4 H locs ls hl hP hS hf; cases hf
    | succ fu ih => exact kb_X0_writeTo_13 (N := N) hq C0 hE (kl_X0_writeTo_35 (N := N) hq C0 hE ih) (kl_X0_writeTo_126 (N := N) hq C0 hE K4)
  exact main N
def l_X0_writeTo_4 (N : Nat) (q : Nat) (qn : Nat) : nS → Int32 → Int32 → Option (Int32 × nS) := nLp (fun _ _ _ => none) (fun again => b_X0_writeTo_4 N q qn (l_X0_writeTo_13 N q qn again)) N
theorem kl_X0_writeTo_4 {p : Program} {l : Launch} {e : Env} {s : State} {m : MethodId} {args : Array Value} {below : List Frame} {meth : Method} {c : Code} {D : va_G} {A : Nat → Prop} {cy : Nat → ClassId} {a kt vt : Nat → Nat} {N : Nat} {q : Nat} {qn : Nat} (hq : nAr 0 (NBw cy a) cy a q qn) (C0 : nCx p s m args meth c cX0_writeTo 8 none RX0 wsX0_writeTo) (hE : nEn D A cy (NBw cy a) kt vt s) {z : Int32 × nS} : ∀ (σ : nS) (x2 : Int32) (x3 : Int32) (H : Heap) (locs : List Loc) (ls : Array Slot), lv_has ls 8 [(0, .ref (a 12)), (1, .ref (a q)), (2, .int x2), (3, .int x3)] → va_P D vwCl ((NBw cy a) σ) H → va_S A s.heap H locs → l_X0_writeTo_4 N q qn σ x2 x3 = some z → W p l e ({ frames := 2, cells := 0, slots := 0, locals := 46 } : Room) s m args below meth c H locs 0 0 (nQv below D A (NBw cy a) args s z) (F0 m 4 ls []) := by
  have main : ∀ (fu : Nat), ∀ (σ : nS) (x2 : Int32) (x3 : Int32) (H : Heap) (locs : List Loc) (ls : Array Slot), lv_has ls 8 [(0, .ref (a 12)), (1, .ref (a q)), (2, .int x2), (3, .int x3)] → va_P D vwCl ((NBw cy a) σ) H → va_S A s.heap H locs → nLp (fun _ _ _ => none) (fun again => b_X0_writeTo_4 N q qn (l_X0_writeTo_13 N q qn again)) fu σ x2 x3 = some z → W p l e ({ frames := 2, cells := 0, slots := 0, locals := 46 } : Room) s m args below meth c H locs 0 0 (nQv below D A (NBw cy a) args s z) (F0 m 4 ls []) := by
    intro fu
    induction fu with
    | zero => intro σ x2 x3 H locs ls hl hP hS hf; cases hf
    | succ fu ih => exact kb_X0_writeTo_4 (N := N) hq C0 hE (kl_X0_writeTo_13 (N := N) hq C0 hE ih)
  exact main N
def l_X0_writeTo_0 (N : Nat) (q : Nat) (qn : Nat) : nS → Option (Int32 × nS) := b_X0_writeTo_0 N q qn (l_X0_writeTo_4 N q qn)
theorem kl_X0_writeTo_0 {p : Program} {l : Launch} {e : Env} {s : State} {m : MethodId} {args : Array Value} {below : List Frame} {meth : Method} {c : Code} {D : va_G} {A : Nat → Prop} {cy : Nat → ClassId} {a kt vt : Nat → Nat} {N : Nat} {q : Nat} {qn : Nat} (hq : nAr 0 (NBw cy a) cy a q qn) (C0 : nCx p s m args meth c cX0_writeTo 8 none RX0 wsX0_writeTo) (hE : nEn D A cy (NBw cy a) kt vt s) {z : Int32 × nS} : ∀ (σ : nS) (H : Heap) (locs : List Loc) (ls : Array Slot), lv_has ls 8 [(0, .ref (a 12)), (1, .ref (a q))] → va_P D vwCl ((NBw cy a) σ) H → va_S A s.heap H locs → l_X0_writeTo_0 N q qn σ = some z → W p l e ({ frames := 2, cells := 0, slots := 0, locals := 46 } : Room) s m args below meth c H locs 0 0 (nQv below D A (NBw cy a) args s z) (F0 m 0 ls []) := by
  exact kb_X0_writeTo_0 (N := N) hq C0 hE (kl_X0_writeTo_4 (N := N) hq C0 hE)
def f_X0_writeTo (N : Nat) (q : Nat) (qn : Nat) (σ : nS) : Option (Int32 × nS) := l_X0_writeTo_0 N q qn σ
set_option maxHeartbeats 4000000 in
set_option maxRecDepth 100000 in
theorem c_X0_writeTo {l : Launch} {D : va_G} {A : Nat → Prop} {cy : Nat → ClassId} {a kt vt : Nat → Nat} {N : Nat} {q : Nat} {qn : Nat} (hq : nAr 0 (NBw cy a) cy a q qn) {σ : nS} {r : Int32} {σ' : nS} (hf : f_X0_writeTo N q qn σ = some (r, σ')) : nMv l yX0_writeTo wsX0_writeTo ({ frames := 2, cells := 0, slots := 0, locals := 46 } : Room) D A cy (NBw cy a) kt vt [.ref (a 12), .ref (a q)] σ σ' := by
  refine Met.ofW (cc := cX0_writeTo) (maxL := 8) (ret := none) (by decide) rfl ?_
  intro p e s m args below meth c s₁ B hml hv
  obtain ⟨rfl, hP, hE⟩ := hv
  have hl := lv_entry ([.ref (a 12), .ref (a q)]) (n := 8) (Nat.le_of_ble_eq_true rfl)
  rw [lg_entry_eq]
  generalize (lg_sl ([.ref (a 12), .ref (a q)]) ++ List.replicate (8 - (lg_sl ([.ref (a 12), .ref (a q)])).length) Slot.unset).toArray = ls at hl ⊢
  have C0 : nCx p s m _ meth c cX0_writeTo 8 none RX0 wsX0_writeTo := ⟨B.exec, B.bytes, B.returns, hml, findClass_of_methodNamed B.named, atoms_spec (ws := wsX0_writeTo) B.pre, B.notSynchronized⟩
  exact kl_X0_writeTo_0 (N := N) hq C0 hE (z := (r, σ')) σ  _ _ ls hl hP va_S.rf hf
