/-! JDK: an index within a length -/
set_option maxHeartbeats 4000000 in
set_option maxRecDepth 100000 in
theorem c_J3_checkIndex {l : Launch} {D : va_G} {A : Nat → Prop} {cy : Nat → ClassId} {kt vt : Nat → Nat} {X : nS → va_W} {fv : Value} (hfv : fv = .null ∨ ∃ q : Nat, fv = .ref q) {x0 x1 : Int32} {σ : nS} (h0 : ¬ x0 < 0) (h1 : x0 < x1) : nMi l yJ3_checkIndex_8e157 wsJ3_checkIndex_8e157 ({ frames := 0, cells := 0, slots := 0, locals := 0 } : Room) D A cy X kt vt [.int x0, .int x1, fv] σ x0 σ := by
  rcases hfv with rfl | ⟨q, rfl⟩
  · refine Met.ofW (cc := cJ3_checkIndex_8e157) (maxL := 3) (ret := (some .int)) (by decide) rfl ?_
    intro p e s m args below meth c s₁ B hml hv
    obtain ⟨rfl, hP, hE⟩ := hv
    have hx := B.exec
    have hb := B.bytes
    have hl := lv_entry ([.int x0, .int x1, .null]) (n := 3) (Nat.le_of_ble_eq_true rfl)
    rw [lg_entry_eq]
    generalize (lg_sl ([.int x0, .int x1, .null]) ++ List.replicate (3 - (lg_sl ([.int x0, .int x1, .null])).length) Slot.unset).toArray = ls at hl ⊢
    have hl : lv_has ls 3 [(0, .int x0), (1, .int x1), (2, .null)] := hl
    refine lv_iload_n hx hb dJ3_checkIndex_8e157_0 rfl (lv_at hl 0 rfl) ?_
    refine lv_if_lt (tgt := 9) hx hb dJ3_checkIndex_8e157_1 (by decide) (fun hc => absurd hc h0) (fun hc => ?_)
    refine lv_iload_n hx hb dJ3_checkIndex_8e157_4 rfl (lv_at hl 0 rfl) ?_
    refine lv_iload_n hx hb dJ3_checkIndex_8e157_5 rfl (lv_at hl 1 rfl) ?_
    refine lv_icmp_lt (tgt := 16) hx hb dJ3_checkIndex_8e157_6 (by decide) (fun hc => ?_) (fun hc => absurd h1 hc)
    refine lv_iload_n hx hb dJ3_checkIndex_8e157_16 rfl (lv_at hl 0 rfl) ?_
    exact nb_iret (q := (x0, σ)) hx hb B.returns B.notSynchronized hP va_S.rf rfl dJ3_checkIndex_8e157_17
  · refine Met.ofW (cc := cJ3_checkIndex_8e157) (maxL := 3) (ret := (some .int)) (by decide) rfl ?_
    intro p e s m args below meth c s₁ B hml hv
    obtain ⟨rfl, hP, hE⟩ := hv
    have hx := B.exec
    have hb := B.bytes
    have hl := lv_entry ([.int x0, .int x1, .ref q]) (n := 3) (Nat.le_of_ble_eq_true rfl)
    rw [lg_entry_eq]
    generalize (lg_sl ([.int x0, .int x1, .ref q]) ++ List.replicate (3 - (lg_sl ([.int x0, .int x1, .ref q])).length) Slot.unset).toArray = ls at hl ⊢
    have hl : lv_has ls 3 [(0, .int x0), (1, .int x1), (2, .ref q)] := hl
    refine lv_iload_n hx hb dJ3_checkIndex_8e157_0 rfl (lv_at hl 0 rfl) ?_
    refine lv_if_lt (tgt := 9) hx hb dJ3_checkIndex_8e157_1 (by decide) (fun hc => absurd hc h0) (fun hc => ?_)
    refine lv_iload_n hx hb dJ3_checkIndex_8e157_4 rfl (lv_at hl 0 rfl) ?_
    refine lv_iload_n hx hb dJ3_checkIndex_8e157_5 rfl (lv_at hl 1 rfl) ?_
    refine lv_icmp_lt (tgt := 16) hx hb dJ3_checkIndex_8e157_6 (by decide) (fun hc => ?_) (fun hc => absurd h1 hc)
    refine lv_iload_n hx hb dJ3_checkIndex_8e157_16 rfl (lv_at hl 0 rfl) ?_
    exact nb_iret (q := (x0, σ)) hx hb B.returns B.notSynchronized hP va_S.rf rfl dJ3_checkIndex_8e157_17
def f_J0_checkIndex_df160 (N : Nat) (x0 x1 : Int32) (σ : nS) : Option (Int32 × nS) := if x0 < 0 then none else if x0 < x1 then some (0, σ) else none
set_option maxHeartbeats 4000000 in
set_option maxRecDepth 100000 in
theorem c_J0_checkIndex_df160 {X : nS → va_W} {l : Launch} {D : va_G} {A : Nat → Prop} {cy : Nat → ClassId} {kt vt : Nat → Nat} {N : Nat} {x0 x1 : Int32} {σ : nS} {r : Int32} {σ' : nS} (hf : f_J0_checkIndex_df160 N x0 x1 σ = some (r, σ')) : nMv l yJ0_checkIndex_df160 wsJ0_checkIndex_df160 ({ frames := 1, cells := 0, slots := 0, locals := 22 } : Room) D A cy X kt vt [.int x0, .int x1] σ σ' := by
  unfold f_J0_checkIndex_df160 at hf
  by_cases h0 : x0 < 0
  · rw [if_pos h0] at hf; cases hf
  rw [if_neg h0] at hf
  have h1 : x0 < x1 := by
    by_cases h : x0 < x1
    · exact h
    · rw [if_neg h] at hf; cases hf
  rw [if_pos h1] at hf
  have hs : σ = σ' := congrArg Prod.snd (nSo hf)
  subst hs
  refine Met.ofW (cc := cJ0_checkIndex_df160) (maxL := 2) (ret := none) (by decide) rfl ?_
  intro p e s m args below meth c s₁ B hml hv
  obtain ⟨rfl, hP, hE⟩ := hv
  have hx := B.exec
  have hb := B.bytes
  have hts := atoms_spec (ws := wsJ0_checkIndex_df160) B.pre
  have hown : s.vm.findClass RJ0 = some m.cls := findClass_of_methodNamed B.named
  have hl := lv_entry ([.int x0, .int x1]) (n := 2) (Nat.le_of_ble_eq_true rfl)
  rw [lg_entry_eq]
  generalize (lg_sl ([.int x0, .int x1]) ++ List.replicate (2 - (lg_sl ([.int x0, .int x1])).length) Slot.unset).toArray = ls at hl ⊢
  have hl : lv_has ls 2 [(0, .int x0), (1, .int x1)] := hl
  have hS : va_S A s.heap s.heap [] := va_S.rf
  obtain ⟨fv, hfv, hZ⟩ := hE.2.2.2.2.2.2
  refine lv_iload_n hx hb dJ0_checkIndex_df160_0 rfl (lv_at hl 0 rfl) ?_
  refine lv_iload_n hx hb dJ0_checkIndex_df160_1 rfl (lv_at hl 1 rfl) ?_
  refine va_gets hx hb hZ hS hown (hts (.fieldLink RJ0 1053 "jdk/internal/util/Preconditions" "SIOOBE_FORMATTER" "Ljava/util/function/BiFunction;") (by decide +kernel)) (fun _ h => h) dJ0_checkIndex_df160_2 ?_
  refine nb_callSi (As := [.int x0, .int x1, fv]) (rest := []) ⟨hx, hb, hml, hown, hts⟩ (c_J3_checkIndex (D := D) (A := A) (cy := cy) (kt := kt) (vt := vt) (l := l) hfv h0 h1) (va_cwS 3 hts gJ0_checkIndex_df160_J3_checkIndex_8e157 rfl rfl rfl (by decide +kernel) ⟨Nat.le_of_ble_eq_true rfl, Nat.le_of_ble_eq_true rfl⟩) hE hP hS rfl hl.1 rfl (Nat.le_of_ble_eq_true rfl) dJ0_checkIndex_df160_5 (fun H locs hP hS => ?_)
  refine lv_pop hx hb dJ0_checkIndex_df160_8 rfl ?_
  exact nb_vret (q := (0, σ)) hx hb B.returns B.notSynchronized hP hS rfl dJ0_checkIndex_df160_9
/-! J6_bitCount_0f7a4 -/
def b_J6_bitCount_0f7a4_0 (N : Nat) (σ : nS) (x0 : Int32) : Option (Int32 × nS) := nLet (((x0).toUInt32 >>> (((1 : Int32)).toUInt32 &&& Int32.toUInt32 31)).toInt32 : Int32) (fun v1 => nLet (v1 &&& (1431655765 : Int32) : Int32) (fun v2 => nLet (x0 - v2 : Int32) (fun v3 => nLet (v3 &&& (858993459 : Int32) : Int32) (fun v4 => nLet (((v3).toUInt32 >>> (((2 : Int32)).toUInt32 &&& Int32.toUInt32 31)).toInt32 : Int32) (fun v5 => nLet (v5 &&& (858993459 : Int32) : Int32) (fun v6 => nLet (v4 + v6 : Int32) (fun v7 => nLet (((v7).toUInt32 >>> (((4 : Int32)).toUInt32 &&& Int32.toUInt32 31)).toInt32 : Int32) (fun v8 => nLet (v7 + v8 : Int32) (fun v9 => nLet (v9 &&& (252645135 : Int32) : Int32) (fun v10 => nLet (((v10).toUInt32 >>> (((8 : Int32)).toUInt32 &&& Int32.toUInt32 31)).toInt32 : Int32) (fun v11 => nLet (v10 + v11 : Int32) (fun v12 => nLet (((v12).toUInt32 >>> (((16 : Int32)).toUInt32 &&& Int32.toUInt32 31)).toInt32 : Int32) (fun v13 => nLet (v12 + v13 : Int32) (fun v14 => nLet (v14 &&& (63 : Int32) : Int32) (fun v15 => some (v15, σ))))))))))))))))
set_option maxHeartbeats 4000000 in
set_option maxRecDepth 100000 in
theorem kb_J6_bitCount_0f7a4_0 {p : Program} {l : Launch} {e : Env} {s : State} {m : MethodId} {args : Array Value} {below : List Frame} {meth : Method} {c : Code} {D : va_G} {A : Nat → Prop} {cy : Nat → ClassId} {kt vt : Nat → Nat} {N : Nat} {X : nS → va_W}   (C0 : nCx p s m args meth c cJ6_bitCount_0f7a4 1 (some .int) RJ6 wsJ6_bitCount_0f7a4) (hE : nEn D A cy X kt vt s) {z : Int32 × nS} : ∀ (σ : nS) (x0 : Int32) (H : Heap) (locs : List Loc) (ls : Array Slot), lv_has ls 1 [(0, .int x0)] → va_P D vwCl (X σ) H → va_S A s.heap H locs → b_J6_bitCount_0f7a4_0 N σ x0 = some z → W p l e ({ frames := 0, cells := 0, slots := 0, locals := 0 } : Room) s m args below meth c H locs 0 0 (nQi below D A X args s z) (F0 m 0 ls []) := by
  obtain ⟨hx, hb, hr, hml, hown, hts, hlocks⟩ := C0
  intro σ x0 H locs ls hl hP hS hf
  unfold b_J6_bitCount_0f7a4_0 at hf
  refine lv_iload_n hx hb dJ6_bitCount_0f7a4_0 rfl (lv_at hl 0 rfl) ?_
  refine lv_iload_n hx hb dJ6_bitCount_0f7a4_1 rfl (lv_at hl 0 rfl) ?_
  refine lv_iconst (v := 1) hx hb dJ6_bitCount_0f7a4_2 (by decide) ?_
  refine lv_iushr hx hb dJ6_bitCount_0f7a4_3 rfl ?_
  refine lv_topi (fun v1 ev1 => ?_)
  replace hf := nLet_e hf ev1
  refine lv_ldcw (v := 1431655765) hx hb hown (hts (.constant RJ6 265 1431655765) (by decide +kernel)) dJ6_bitCount_0f7a4_4 ?_
  refine lv_iand hx hb dJ6_bitCount_0f7a4_7 ?_
  refine lv_topi (fun v2 ev2 => ?_)
  replace hf := nLet_e hf ev2
  refine lv_isub hx hb dJ6_bitCount_0f7a4_8 ?_
  refine lv_topi (fun v3 ev3 => ?_)
  replace hf := nLet_e hf ev3
  refine lv_istore_n (lv' := [(0, .int v3)]) hx hb dJ6_bitCount_0f7a4_9 rfl hl (by decide) rfl (fun ls hl => ?_)
  refine lv_iload_n hx hb dJ6_bitCount_0f7a4_10 rfl (lv_at hl 0 rfl) ?_
  refine lv_ldcw (v := 858993459) hx hb hown (hts (.constant RJ6 266 858993459) (by decide +kernel)) dJ6_bitCount_0f7a4_11 ?_
  refine lv_iand hx hb dJ6_bitCount_0f7a4_14 ?_
  refine lv_topi (fun v4 ev4 => ?_)
  replace hf := nLet_e hf ev4
  refine lv_iload_n hx hb dJ6_bitCount_0f7a4_15 rfl (lv_at hl 0 rfl) ?_
  refine lv_iconst (v := 2) hx hb dJ6_bitCount_0f7a4_16 (by decide) ?_
  refine lv_iushr hx hb dJ6_bitCount_0f7a4_17 rfl ?_
  refine lv_topi (fun v5 ev5 => ?_)
  replace hf := nLet_e hf ev5
  refine lv_ldcw (v := 858993459) hx hb hown (hts (.constant RJ6 266 858993459) (by decide +kernel)) dJ6_bitCount_0f7a4_18 ?_
  refine lv_iand hx hb dJ6_bitCount_0f7a4_21 ?_
  refine lv_topi (fun v6 ev6 => ?_)
  replace hf := nLet_e hf ev6
  refine lv_iadd hx hb dJ6_bitCount_0f7a4_22 ?_
  refine lv_topi (fun v7 ev7 => ?_)
  replace hf := nLet_e hf ev7
  refine lv_istore_n (lv' := [(0, .int v7)]) hx hb dJ6_bitCount_0f7a4_23 rfl hl (by decide) rfl (fun ls hl => ?_)
  refine lv_iload_n hx hb dJ6_bitCount_0f7a4_24 rfl (lv_at hl 0 rfl) ?_
  refine lv_iload_n hx hb dJ6_bitCount_0f7a4_25 rfl (lv_at hl 0 rfl) ?_
  refine lv_iconst (v := 4) hx hb dJ6_bitCount_0f7a4_26 (by decide) ?_
  refine lv_iushr hx hb dJ6_bitCount_0f7a4_27 rfl ?_
  refine lv_topi (fun v8 ev8 => ?_)
  replace hf := nLet_e hf ev8
  refine lv_iadd hx hb dJ6_bitCount_0f7a4_28 ?_
  refine lv_topi (fun v9 ev9 => ?_)
  replace hf := nLet_e hf ev9
  refine lv_ldcw (v := 252645135) hx hb hown (hts (.constant RJ6 267 252645135) (by decide +kernel)) dJ6_bitCount_0f7a4_29 ?_
  refine lv_iand hx hb dJ6_bitCount_0f7a4_32 ?_
  refine lv_topi (fun v10 ev10 => ?_)
  replace hf := nLet_e hf ev10
  refine lv_istore_n (lv' := [(0, .int v10)]) hx hb dJ6_bitCount_0f7a4_33 rfl hl (by decide) rfl (fun ls hl => ?_)
  refine lv_iload_n hx hb dJ6_bitCount_0f7a4_34 rfl (lv_at hl 0 rfl) ?_
  refine lv_iload_n hx hb dJ6_bitCount_0f7a4_35 rfl (lv_at hl 0 rfl) ?_
  refine lv_bipush (v := 8) hx hb dJ6_bitCount_0f7a4_36 (by decide) ?_
  refine lv_iushr hx hb dJ6_bitCount_0f7a4_38 rfl ?_
  refine lv_topi (fun v11 ev11 => ?_)
  replace hf := nLet_e hf ev11
  refine lv_iadd hx hb dJ6_bitCount_0f7a4_39 ?_
  refine lv_topi (fun v12 ev12 => ?_)
  replace hf := nLet_e hf ev12
  refine lv_istore_n (lv' := [(0, .int v12)]) hx hb dJ6_bitCount_0f7a4_40 rfl hl (by decide) rfl (fun ls hl => ?_)
  refine lv_iload_n hx hb dJ6_bitCount_0f7a4_41 rfl (lv_at hl 0 rfl) ?_
  refine lv_iload_n hx hb dJ6_bitCount_0f7a4_42 rfl (lv_at hl 0 rfl) ?_
  refine lv_bipush (v := 16) hx hb dJ6_bitCount_0f7a4_43 (by decide) ?_
  refine lv_iushr hx hb dJ6_bitCount_0f7a4_45 rfl ?_
  refine lv_topi (fun v13 ev13 => ?_)
  replace hf := nLet_e hf ev13
  refine lv_iadd hx hb dJ6_bitCount_0f7a4_46 ?_
  refine lv_topi (fun v14 ev14 => ?_)
  replace hf := nLet_e hf ev14
  refine lv_istore_n (lv' := [(0, .int v14)]) hx hb dJ6_bitCount_0f7a4_47 rfl hl (by decide) rfl (fun ls hl => ?_)
  refine lv_iload_n hx hb dJ6_bitCount_0f7a4_48 rfl (lv_at hl 0 rfl) ?_
  refine lv_bipush (v := 63) hx hb dJ6_bitCount_0f7a4_49 (by decide) ?_
  refine lv_iand hx hb dJ6_bitCount_0f7a4_51 ?_
  refine lv_topi (fun v15 ev15 => ?_)
  replace hf := nLet_e hf ev15
  exact nb_iret hx hb hr hlocks hP hS (nSo hf) dJ6_bitCount_0f7a4_52
def l_J6_bitCount_0f7a4_0 (N : Nat) : nS → Int32 → Option (Int32 × nS) := b_J6_bitCount_0f7a4_0 N
theorem kl_J6_bitCount_0f7a4_0 {p : Program} {l : Launch} {e : Env} {s : State} {m : MethodId} {args : Array Value} {below : List Frame} {meth : Method} {c : Code} {D : va_G} {A : Nat → Prop} {cy : Nat → ClassId} {kt vt : Nat → Nat} {N : Nat} {X : nS → va_W}   (C0 : nCx p s m args meth c cJ6_bitCount_0f7a4 1 (some .int) RJ6 wsJ6_bitCount_0f7a4) (hE : nEn D A cy X kt vt s) {z : Int32 × nS} : ∀ (σ : nS) (x0 : Int32) (H : Heap) (locs : List Loc) (ls : Array Slot), lv_has ls 1 [(0, .int x0)] → va_P D vwCl (X σ) H → va_S A s.heap H locs → l_J6_bitCount_0f7a4_0 N σ x0 = some z → W p l e ({ frames := 0, cells := 0, slots := 0, locals := 0 } : Room) s m args below meth c H locs 0 0 (nQi below D A X args s z) (F0 m 0 ls []) := by
  exact kb_J6_bitCount_0f7a4_0 (N := N)  C0 hE
def f_J6_bitCount_0f7a4 (N : Nat) (x0 : Int32) (σ : nS) : Option (Int32 × nS) := l_J6_bitCount_0f7a4_0 N σ x0
set_option maxHeartbeats 4000000 in
set_option maxRecDepth 100000 in
theorem c_J6_bitCount_0f7a4 {l : Launch} {D : va_G} {A : Nat → Prop} {cy : Nat → ClassId} {kt vt : Nat → Nat} {N : Nat} {X : nS → va_W}   {x0 : Int32} {σ : nS} {r : Int32} {σ' : nS} (hf : f_J6_bitCount_0f7a4 N x0 σ = some (r, σ')) : nMi l yJ6_bitCount_0f7a4 wsJ6_bitCount_0f7a4 ({ frames := 0, cells := 0, slots := 0, locals := 0 } : Room) D A cy X kt vt [.int x0] σ r σ' := by
  refine Met.ofW (cc := cJ6_bitCount_0f7a4) (maxL := 1) (ret := (some .int)) (by decide) rfl ?_
  intro p e s m args below meth c s₁ B hml hv
  obtain ⟨rfl, hP, hE⟩ := hv
  have hl := lv_entry ([.int x0]) (n := 1) (Nat.le_of_ble_eq_true rfl)
  rw [lg_entry_eq]
  generalize (lg_sl ([.int x0]) ++ List.replicate (1 - (lg_sl ([.int x0])).length) Slot.unset).toArray = ls at hl ⊢
  have C0 : nCx p s m _ meth c cJ6_bitCount_0f7a4 1 (some .int) RJ6 wsJ6_bitCount_0f7a4 := ⟨B.exec, B.bytes, B.returns, hml, findClass_of_methodNamed B.named, atoms_spec (ws := wsJ6_bitCount_0f7a4) B.pre, B.notSynchronized⟩
  exact kl_J6_bitCount_0f7a4_0 (N := N)  C0 hE (z := (r, σ')) σ x0 _ _ ls hl hP va_S.rf hf

/-! J7_fill_53178 -/
def b_J7_fill_53178_5 (N : Nat) (q : Nat) (qn : Nat) (k5 : nS → Int32 → Int32 → Int32 → Option (Int32 × nS)) (σ : nS) (x1 : Int32) (x2 : Int32) (x3 : Int32) : Option (Int32 × nS) := (if x3 ≤ x2 then some (0, σ) else nIx x2 qn (nLet (wr σ q (x2).toNatClampNeg x1) (fun σ1 => nLet (x2 + 1 : Int32) (fun v2 => k5 σ1 x1 v2 x3))))
set_option maxHeartbeats 4000000 in
set_option maxRecDepth 100000 in
theorem kb_J7_fill_53178_5 {p : Program} {l : Launch} {e : Env} {s : State} {m : MethodId} {args : Array Value} {below : List Frame} {meth : Method} {c : Code} {D : va_G} {A : Nat → Prop} {cy : Nat → ClassId} {a kt vt : Nat → Nat} {N : Nat} {q : Nat} {qn : Nat} (hq : nAr 0 (NBw cy a) cy a q qn) (C0 : nCx p s m args meth c cJ7_fill_53178 4 none RJ7 wsJ7_fill_53178) (hE : nEn D A cy (NBw cy a) kt vt s) {z : Int32 × nS} {k5 : nS → Int32 → Int32 → Int32 → Option (Int32 × nS)} (K5 : ∀ (σ : nS) (x1 : Int32) (x2 : Int32) (x3 : Int32) (H : Heap) (locs : List Loc) (ls : Array Slot), lv_has ls 4 [(0, .ref (a q)), (1, .int x1), (2, .int x2), (3, .int x3)] → va_P D vwCl ((NBw cy a) σ) H → va_S A s.heap H locs → k5 σ x1 x2 x3 = some z → W p l e ({ frames := 0, cells := 0, slots := 0, locals := 0 } : Room) s m args below meth c H locs 0 0 (nQv below D A (NBw cy a) args s z) (F0 m 5 ls [])) : ∀ (σ : nS) (x1 : Int32) (x2 : Int32) (x3 : Int32) (H : Heap) (locs : List Loc) (ls : Array Slot), lv_has ls 4 [(0, .ref (a q)), (1, .int x1), (2, .int x2), (3, .int x3)] → va_P D vwCl ((NBw cy a) σ) H → va_S A s.heap H locs → b_J7_fill_53178_5 N q qn k5 σ x1 x2 x3 = some z → W p l e ({ frames := 0, cells := 0, slots := 0, locals := 0 } : Room) s m args below meth c H locs 0 0 (nQv below D A (NBw cy a) args s z) (F0 m 5 ls []) := by
  obtain ⟨hx, hb, hr, hml, hown, hts, hlocks⟩ := C0
  intro σ x1 x2 x3 H locs ls hl hP hS hf
  unfold b_J7_fill_53178_5 at hf
  refine lv_iload_n hx hb dJ7_fill_53178_5 rfl (lv_at hl 2 rfl) ?_
  refine lv_iload_n hx hb dJ7_fill_53178_6 rfl (lv_at hl 3 rfl) ?_
  refine lv_icmp_ge (tgt := 20) hx hb dJ7_fill_53178_7 (by decide) (fun hc => ?_) (fun hc => ?_)
  · replace hf := nIf_t hc hf
    exact nb_vret hx hb hr hlocks hP hS (nSo hf) dJ7_fill_53178_20
  · replace hf := nIf_f hc hf
    refine lv_aload_n hx hb dJ7_fill_53178_10 rfl (lv_at hl 0 rfl) ?_
    refine lv_iload_n hx hb dJ7_fill_53178_11 rfl (lv_at hl 2 rfl) ?_
    refine lv_iload_n hx hb dJ7_fill_53178_12 rfl (lv_at hl 1 rfl) ?_
    obtain ⟨hin, hf⟩ := nIx_e hf
    refine na_iast hx hb hE hP hS hq hin dJ7_fill_53178_13 (fun σ1 eσ1 H locs hP hS => ?_)
    replace hf := nLet_e hf eσ1
    obtain ⟨v2, ev2⟩ : ∃ y : Int32, y = x2 + 1 := ⟨_, rfl⟩
    replace hf := nLet_e hf ev2
    refine lv_iinc (v := v2) (lv' := [(2, .int v2), (0, .ref (a q)), (1, .int x1), (3, .int x3)]) hx hb dJ7_fill_53178_14 hl (k := 2) rfl (by rw [ev2]; rfl) (by decide) rfl (fun ls hl => ?_)
    refine lv_goto (tgt := 5) hx hb dJ7_fill_53178_17 (by decide) ?_
    exact K5 σ1 x1 v2 x3 H locs ls (lv_sub hl [1, 2, 0, 3] rfl) hP hS hf
def b_J7_fill_53178_0 (N : Nat) (q : Nat) (qn : Nat) (k5 : nS → Int32 → Int32 → Int32 → Option (Int32 × nS)) (σ : nS) (x1 : Int32) : Option (Int32 × nS) := nLet (Int32.ofNat qn) (fun v1 => k5 σ x1 0 v1)
set_option maxHeartbeats 4000000 in
set_option maxRecDepth 100000 in
theorem kb_J7_fill_53178_0 {p : Program} {l : Launch} {e : Env} {s : State} {m : MethodId} {args : Array Value} {below : List Frame} {meth : Method} {c : Code} {D : va_G} {A : Nat → Prop} {cy : Nat → ClassId} {a kt vt : Nat → Nat} {N : Nat} {q : Nat} {qn : Nat} (hq : nAr 0 (NBw cy a) cy a q qn) (C0 : nCx p s m args meth c cJ7_fill_53178 4 none RJ7 wsJ7_fill_53178) (hE : nEn D A cy (NBw cy a) kt vt s) {z : Int32 × nS} {k5 : nS → Int32 → Int32 → Int32 → Option (Int32 × nS)} (K5 : ∀ (σ : nS) (x1 : Int32) (x2 : Int32) (x3 : Int32) (H : Heap) (locs : List Loc) (ls : Array Slot), lv_has ls 4 [(0, .ref (a q)), (1, .int x1), (2, .int x2), (3, .int x3)] → va_P D vwCl ((NBw cy a) σ) H → va_S A s.heap H locs → k5 σ x1 x2 x3 = some z → W p l e ({ frames := 0, cells := 0, slots := 0, locals := 0 } : Room) s m args below meth c H locs 0 0 (nQv below D A (NBw cy a) args s z) (F0 m 5 ls [])) : ∀ (σ : nS) (x1 : Int32) (H : Heap) (locs : List Loc) (ls : Array Slot), lv_has ls 4 [(0, .ref (a q)), (1, .int x1)] → va_P D vwCl ((NBw cy a) σ) H → va_S A s.heap H locs → b_J7_fill_53178_0 N q qn k5 σ x1 = some z → W p l e ({ frames := 0, cells := 0, slots := 0, locals := 0 } : Room) s m args below meth c H locs 0 0 (nQv below D A (NBw cy a) args s z) (F0 m 0 ls []) := by
  obtain ⟨hx, hb, hr, hml, hown, hts, hlocks⟩ := C0
  intro σ x1 H locs ls hl hP hS hf
  unfold b_J7_fill_53178_0 at hf
  refine lv_iconst (v := 0) hx hb dJ7_fill_53178_0 (by decide) ?_
  refine lv_istore_n (lv' := [(2, .int 0), (0, .ref (a q)), (1, .int x1)]) hx hb dJ7_fill_53178_1 rfl hl (by decide) rfl (fun ls hl => ?_)
  refine lv_aload_n hx hb dJ7_fill_53178_2 rfl (lv_at hl 1 rfl) ?_
  refine na_alen hx hb hE hP hq dJ7_fill_53178_3 ?_
  refine lv_topi (fun v1 ev1 => ?_)
  replace hf := nLet_e hf ev1
  refine lv_istore_n (lv' := [(3, .int v1), (2, .int 0), (0, .ref (a q)), (1, .int x1)]) hx hb dJ7_fill_53178_4 rfl hl (by decide) rfl (fun ls hl => ?_)
  exact K5 σ x1 0 v1 H locs ls (lv_sub hl [2, 3, 1, 0] rfl) hP hS hf
def l_J7_fill_53178_5 (N : Nat) (q : Nat) (qn : Nat) : nS → Int32 → Int32 → Int32 → Option (Int32 × nS) := nLp (fun _ _ _ _ => none) (fun again => b_J7_fill_53178_5 N q qn again) N
theorem kl_J7_fill_53178_5 {p : Program} {l : Launch} {e : Env} {s : State} {m : MethodId} {args : Array Value} {below : List Frame} {meth : Method} {c : Code} {D : va_G} {A : Nat → Prop} {cy : Nat → ClassId} {a kt vt : Nat → Nat} {N : Nat} {q : Nat} {qn : Nat} (hq : nAr 0 (NBw cy a) cy a q qn) (C0 : nCx p s m args meth c cJ7_fill_53178 4 none RJ7 wsJ7_fill_53178) (hE : nEn D A cy (NBw cy a) kt vt s) {z : Int32 × nS} : ∀ (σ : nS) (x1 : Int32) (x2 : Int32) (x3 : Int32) (H : Heap) (locs : List Loc) (ls : Array Slot), lv_has ls 4 [(0, .ref (a q)), (1, .int x1), (2, .int x2), (3, .int x3)] → va_P D vwCl ((NBw cy a) σ) H → va_S A s.heap H locs → l_J7_fill_53178_5 N q qn σ x1 x2 x3 = some z → W p l e ({ frames := 0, cells := 0, slots := 0, locals := 0 } : Room) s m args below meth c H locs 0 0 (nQv below D A (NBw cy a) args s z) (F0 m 5 ls []) := by
  have main : ∀ (fu : Nat), ∀ (σ : nS) (x1 : Int32) (x2 : Int32) (x3 : Int32) (H : Heap) (locs : List Loc) (ls : Array Slot), lv_has ls 4 [(0, .ref (a q)), (1, .int x1), (2, .int x2), (3, .int x3)] → va_P D vwCl ((NBw cy a) σ) H → va_S A s.heap H locs → nLp (fun _ _ _ _ => none) (fun again => b_J7_fill_53178_5 N q qn again) fu σ x1 x2 x3 = some z → W p l e ({ frames := 0, cells := 0, slots := 0, locals := 0 } : Room) s m args below meth c H locs 0 0 (nQv below D A (NBw cy a) args s z) (F0 m 5 ls []) := by
    intro fu
    induction fu with
    | zero => intro σ x1 x2 x3 H locs ls hl hP hS hf; cases hf
    | succ fu ih => exact kb_J7_fill_53178_5 (N := N) hq C0 hE ih
  exact main N
def l_J7_fill_53178_0 (N : Nat) (q : Nat) (qn : Nat) : nS → Int32 → Option (Int32 × nS) := b_J7_fill_53178_0 N q qn (l_J7_fill_53178_5 N q qn)
theorem kl_J7_fill_53178_0 {p : Program} {l : Launch} {e : Env} {s : State} {m : MethodId} {args : Array Value} {below : List Frame} {meth : Method} {c : Code} {D : va_G} {A : Nat → Prop} {cy : Nat → ClassId} {a kt vt : Nat → Nat} {N : Nat} {q : Nat} {qn : Nat} (hq : nAr 0 (NBw cy a) cy a q qn) (C0 : nCx p s m args meth c cJ7_fill_53178 4 none RJ7 wsJ7_fill_53178) (hE : nEn D A cy (NBw cy a) kt vt s) {z : Int32 × nS} : ∀ (σ : nS) (x1 : Int32) (H : Heap) (locs : List Loc) (ls : Array Slot), lv_has ls 4 [(0, .ref (a q)), (1, .int x1)] → va_P D vwCl ((NBw cy a) σ) H → va_S A s.heap H locs → l_J7_fill_53178_0 N q qn σ x1 = some z → W p l e ({ frames := 0, cells := 0, slots := 0, locals := 0 } : Room) s m args below meth c H locs 0 0 (nQv below D A (NBw cy a) args s z) (F0 m 0 ls []) := by
  exact kb_J7_fill_53178_0 (N := N) hq C0 hE (kl_J7_fill_53178_5 (N := N) hq C0 hE)
def f_J7_fill_53178 (N : Nat) (q : Nat) (qn : Nat) (x1 : Int32) (σ : nS) : Option (Int32 × nS) := l_J7_fill_53178_0 N q qn σ x1
set_option maxHeartbeats 4000000 in
set_option maxRecDepth 100000 in
theorem c_J7_fill_53178 {l : Launch} {D : va_G} {A : Nat → Prop} {cy : Nat → ClassId} {a kt vt : Nat → Nat} {N : Nat} {q : Nat} {qn : Nat} (hq : nAr 0 (NBw cy a) cy a q qn) {x1 : Int32} {σ : nS} {r : Int32} {σ' : nS} (hf : f_J7_fill_53178 N q qn x1 σ = some (r, σ')) : nMv l yJ7_fill_53178 wsJ7_fill_53178 ({ frames := 0, cells := 0, slots := 0, locals := 0 } : Room) D A cy (NBw cy a) kt vt [.ref (a q), .int x1] σ σ' := by
  refine Met.ofW (cc := cJ7_fill_53178) (maxL := 4) (ret := none) (by decide) rfl ?_
  intro p e s m args below meth c s₁ B hml hv
  obtain ⟨rfl, hP, hE⟩ := hv
  have hl := lv_entry ([.ref (a q), .int x1]) (n := 4) (Nat.le_of_ble_eq_true rfl)
  rw [lg_entry_eq]
  generalize (lg_sl ([.ref (a q), .int x1]) ++ List.replicate (4 - (lg_sl ([.ref (a q), .int x1])).length) Slot.unset).toArray = ls at hl ⊢
  have C0 : nCx p s m _ meth c cJ7_fill_53178 4 none RJ7 wsJ7_fill_53178 := ⟨B.exec, B.bytes, B.returns, hml, findClass_of_methodNamed B.named, atoms_spec (ws := wsJ7_fill_53178) B.pre, B.notSynchronized⟩
  exact kl_J7_fill_53178_0 (N := N) hq C0 hE (z := (r, σ')) σ x1 _ _ ls hl hP va_S.rf hf

/-! J7_fill_d0a16 -/
def b_J7_fill_d0a16_6 (N : Nat) (q : Nat) (qn : Nat) (k6 : nS → Int64 → Int32 → Int32 → Option (Int32 × nS)) (σ : nS) (x1 : Int64) (x3 : Int32) (x4 : Int32) : Option (Int32 × nS) := (if x4 ≤ x3 then some (0, σ) else nIx x3 qn (nLet (wl σ q (x3).toNatClampNeg x1) (fun σ1 => nLet (x3 + 1 : Int32) (fun v2 => k6 σ1 x1 v2 x4))))
set_option maxHeartbeats 4000000 in
set_option maxRecDepth 100000 in
theorem kb_J7_fill_d0a16_6 {p : Program} {l : Launch} {e : Env} {s : State} {m : MethodId} {args : Array Value} {below : List Frame} {meth : Method} {c : Code} {D : va_G} {A : Nat → Prop} {cy : Nat → ClassId} {a kt vt : Nat → Nat} {N : Nat} {q : Nat} {qn : Nat} (hq : nAl (NBw cy a) cy a q qn) (C0 : nCx p s m args meth c cJ7_fill_d0a16 5 none RJ7 wsJ7_fill_d0a16) (hE : nEn D A cy (NBw cy a) kt vt s) {z : Int32 × nS} {k6 : nS → Int64 → Int32 → Int32 → Option (Int32 × nS)} (K6 : ∀ (σ : nS) (x1 : Int64) (x3 : Int32) (x4 : Int32) (H : Heap) (locs : List Loc) (ls : Array Slot), lv_has ls 5 [(0, .ref (a q)), (1, .long x1), (3, .int x3), (4, .int x4)] → va_P D vwCl ((NBw cy a) σ) H → va_S A s.heap H locs → k6 σ x1 x3 x4 = some z → W p l e ({ frames := 0, cells := 0, slots := 0, locals := 0 } : Room) s m args below meth c H locs 0 0 (nQv below D A (NBw cy a) args s z) (F0 m 6 ls [])) : ∀ (σ : nS) (x1 : Int64) (x3 : Int32) (x4 : Int32) (H : Heap) (locs : List Loc) (ls : Array Slot), lv_has ls 5 [(0, .ref (a q)), (1, .long x1), (3, .int x3), (4, .int x4)] → va_P D vwCl ((NBw cy a) σ) H → va_S A s.heap H locs → b_J7_fill_d0a16_6 N q qn k6 σ x1 x3 x4 = some z → W p l e ({ frames := 0, cells := 0, slots := 0, locals := 0 } : Room) s m args below meth c H locs 0 0 (nQv below D A (NBw cy a) args s z) (F0 m 6 ls []) := by
  obtain ⟨hx, hb, hr, hml, hown, hts, hlocks⟩ := C0
  intro σ x1 x3 x4 H locs ls hl hP hS hf
  unfold b_J7_fill_d0a16_6 at hf
  refine lv_iload_n hx hb dJ7_fill_d0a16_6 rfl (lv_at hl 2 rfl) ?_
  refine lv_iload hx hb dJ7_fill_d0a16_7 (lv_at hl 3 rfl) ?_
  refine lv_icmp_ge (tgt := 22) hx hb dJ7_fill_d0a16_9 (by decide) (fun hc => ?_) (fun hc => ?_)
  · replace hf := nIf_t hc hf
    exact nb_vret hx hb hr hlocks hP hS (nSo hf) dJ7_fill_d0a16_22
  · replace hf := nIf_f hc hf
    refine lv_aload_n hx hb dJ7_fill_d0a16_12 rfl (lv_at hl 0 rfl) ?_
    refine lv_iload_n hx hb dJ7_fill_d0a16_13 rfl (lv_at hl 2 rfl) ?_
    refine lv_lload_n hx hb dJ7_fill_d0a16_14 rfl (lv_at hl 1 rfl) ?_
    obtain ⟨hin, hf⟩ := nIx_e hf
    refine na_last hx hb hE hP hS hq hin dJ7_fill_d0a16_15 (fun σ1 eσ1 H locs hP hS => ?_)
    replace hf := nLet_e hf eσ1
    obtain ⟨v2, ev2⟩ : ∃ y : Int32, y = x3 + 1 := ⟨_, rfl⟩
    replace hf := nLet_e hf ev2
    refine lv_iinc (v := v2) (lv' := [(3, .int v2), (0, .ref (a q)), (1, .long x1), (4, .int x4)]) hx hb dJ7_fill_d0a16_16 hl (k := 2) rfl (by rw [ev2]; rfl) (by decide) rfl (fun ls hl => ?_)
    refine lv_goto (tgt := 6) hx hb dJ7_fill_d0a16_19 (by decide) ?_
    exact K6 σ1 x1 v2 x4 H locs ls (lv_sub hl [1, 2, 0, 3] rfl) hP hS hf
def b_J7_fill_d0a16_0 (N : Nat) (q : Nat) (qn : Nat) (k6 : nS → Int64 → Int32 → Int32 → Option (Int32 × nS)) (σ : nS) (x1 : Int64) : Option (Int32 × nS) := nLet (Int32.ofNat qn) (fun v1 => k6 σ x1 0 v1)
set_option maxHeartbeats 4000000 in
set_option maxRecDepth 100000 in
theorem kb_J7_fill_d0a16_0 {p : Program} {l : Launch} {e : Env} {s : State} {m : MethodId} {args : Array Value} {below : List Frame} {meth : Method} {c : Code} {D : va_G} {A : Nat → Prop} {cy : Nat → ClassId} {a kt vt : Nat → Nat} {N : Nat} {q : Nat} {qn : Nat} (hq : nAl (NBw cy a) cy a q qn) (C0 : nCx p s m args meth c cJ7_fill_d0a16 5 none RJ7 wsJ7_fill_d0a16) (hE : nEn D A cy (NBw cy a) kt vt s) {z : Int32 × nS} {k6 : nS → Int64 → Int32 → Int32 → Option (Int32 × nS)} (K6 : ∀ (σ : nS) (x1 : Int64) (x3 : Int32) (x4 : Int32) (H : Heap) (locs : List Loc) (ls : Array Slot), lv_has ls 5 [(0, .ref (a q)), (1, .long x1), (3, .int x3), (4, .int x4)] → va_P D vwCl ((NBw cy a) σ) H → va_S A s.heap H locs → k6 σ x1 x3 x4 = some z → W p l e ({ frames := 0, cells := 0, slots := 0, locals := 0 } : Room) s m args below meth c H locs 0 0 (nQv below D A (NBw cy a) args s z) (F0 m 6 ls [])) : ∀ (σ : nS) (x1 : Int64) (H : Heap) (locs : List Loc) (ls : Array Slot), lv_has ls 5 [(0, .ref (a q)), (1, .long x1)] → va_P D vwCl ((NBw cy a) σ) H → va_S A s.heap H locs → b_J7_fill_d0a16_0 N q qn k6 σ x1 = some z → W p l e ({ frames := 0, cells := 0, slots := 0, locals := 0 } : Room) s m args below meth c H locs 0 0 (nQv below D A (NBw cy a) args s z) (F0 m 0 ls []) := by
  obtain ⟨hx, hb, hr, hml, hown, hts, hlocks⟩ := C0
  intro σ x1 H locs ls hl hP hS hf
  unfold b_J7_fill_d0a16_0 at hf
  refine lv_iconst (v := 0) hx hb dJ7_fill_d0a16_0 (by decide) ?_
  refine lv_istore_n (lv' := [(3, .int 0), (0, .ref (a q)), (1, .long x1)]) hx hb dJ7_fill_d0a16_1 rfl hl (by decide) rfl (fun ls hl => ?_)
  refine lv_aload_n hx hb dJ7_fill_d0a16_2 rfl (lv_at hl 1 rfl) ?_
  refine na_alenL hx hb hE hP hq dJ7_fill_d0a16_3 ?_
  refine lv_topi (fun v1 ev1 => ?_)
  replace hf := nLet_e hf ev1
  refine lv_istore (lv' := [(4, .int v1), (3, .int 0), (0, .ref (a q)), (1, .long x1)]) hx hb dJ7_fill_d0a16_4 hl (by decide) rfl (fun ls hl => ?_)
  exact K6 σ x1 0 v1 H locs ls (lv_sub hl [2, 3, 1, 0] rfl) hP hS hf
def l_J7_fill_d0a16_6 (N : Nat) (q : Nat) (qn : Nat) : nS → Int64 → Int32 → Int32 → Option (Int32 × nS) := nLp (fun _ _ _ _ => none) (fun again => b_J7_fill_d0a16_6 N q qn again) N
theorem kl_J7_fill_d0a16_6 {p : Program} {l : Launch} {e : Env} {s : State} {m : MethodId} {args : Array Value} {below : List Frame} {meth : Method} {c : Code} {D : va_G} {A : Nat → Prop} {cy : Nat → ClassId} {a kt vt : Nat → Nat} {N : Nat} {q : Nat} {qn : Nat} (hq : nAl (NBw cy a) cy a q qn) (C0 : nCx p s m args meth c cJ7_fill_d0a16 5 none RJ7 wsJ7_fill_d0a16) (hE : nEn D A cy (NBw cy a) kt vt s) {z : Int32 × nS} : ∀ (σ : nS) (x1 : Int64) (x3 : Int32) (x4 : Int32) (H : Heap) (locs : List Loc) (ls : Array Slot), lv_has ls 5 [(0, .ref (a q)), (1, .long x1), (3, .int x3), (4, .int x4)] → va_P D vwCl ((NBw cy a) σ) H → va_S A s.heap H locs → l_J7_fill_d0a16_6 N q qn σ x1 x3 x4 = some z → W p l e ({ frames := 0, cells := 0, slots := 0, locals := 0 } : Room) s m args below meth c H locs 0 0 (nQv below D A (NBw cy a) args s z) (F0 m 6 ls []) := by
  have main : ∀ (fu : Nat), ∀ (σ : nS) (x1 : Int64) (x3 : Int32) (x4 : Int32) (H : Heap) (locs : List Loc) (ls : Array Slot), lv_has ls 5 [(0, .ref (a q)), (1, .long x1), (3, .int x3), (4, .int x4)] → va_P D vwCl ((NBw cy a) σ) H → va_S A s.heap H locs → nLp (fun _ _ _ _ => none) (fun again => b_J7_fill_d0a16_6 N q qn again) fu σ x1 x3 x4 = some z → W p l e ({ frames := 0, cells := 0, slots := 0, locals := 0 } : Room) s m args below meth c H locs 0 0 (nQv below D A (NBw cy a) args s z) (F0 m 6 ls []) := by
    intro fu
    induction fu with
    | zero => intro σ x1 x3 x4 H locs ls hl hP hS hf; cases hf
    | succ fu ih => exact kb_J7_fill_d0a16_6 (N := N) hq C0 hE ih
  exact main N
def l_J7_fill_d0a16_0 (N : Nat) (q : Nat) (qn : Nat) : nS → Int64 → Option (Int32 × nS) := b_J7_fill_d0a16_0 N q qn (l_J7_fill_d0a16_6 N q qn)
theorem kl_J7_fill_d0a16_0 {p : Program} {l : Launch} {e : Env} {s : State} {m : MethodId} {args : Array Value} {below : List Frame} {meth : Method} {c : Code} {D : va_G} {A : Nat → Prop} {cy : Nat → ClassId} {a kt vt : Nat → Nat} {N : Nat} {q : Nat} {qn : Nat} (hq : nAl (NBw cy a) cy a q qn) (C0 : nCx p s m args meth c cJ7_fill_d0a16 5 none RJ7 wsJ7_fill_d0a16) (hE : nEn D A cy (NBw cy a) kt vt s) {z : Int32 × nS} : ∀ (σ : nS) (x1 : Int64) (H : Heap) (locs : List Loc) (ls : Array Slot), lv_has ls 5 [(0, .ref (a q)), (1, .long x1)] → va_P D vwCl ((NBw cy a) σ) H → va_S A s.heap H locs → l_J7_fill_d0a16_0 N q qn σ x1 = some z → W p l e ({ frames := 0, cells := 0, slots := 0, locals := 0 } : Room) s m args below meth c H locs 0 0 (nQv below D A (NBw cy a) args s z) (F0 m 0 ls []) := by
  exact kb_J7_fill_d0a16_0 (N := N) hq C0 hE (kl_J7_fill_d0a16_6 (N := N) hq C0 hE)
def f_J7_fill_d0a16 (N : Nat) (q : Nat) (qn : Nat) (x1 : Int64) (σ : nS) : Option (Int32 × nS) := l_J7_fill_d0a16_0 N q qn σ x1
set_option maxHeartbeats 4000000 in
set_option maxRecDepth 100000 in
theorem c_J7_fill_d0a16 {l : Launch} {D : va_G} {A : Nat → Prop} {cy : Nat → ClassId} {a kt vt : Nat → Nat} {N : Nat} {q : Nat} {qn : Nat} (hq : nAl (NBw cy a) cy a q qn) {x1 : Int64} {σ : nS} {r : Int32} {σ' : nS} (hf : f_J7_fill_d0a16 N q qn x1 σ = some (r, σ')) : nMv l yJ7_fill_d0a16 wsJ7_fill_d0a16 ({ frames := 0, cells := 0, slots := 0, locals := 0 } : Room) D A cy (NBw cy a) kt vt [.ref (a q), .long x1] σ σ' := by
  refine Met.ofW (cc := cJ7_fill_d0a16) (maxL := 5) (ret := none) (by decide) rfl ?_
  intro p e s m args below meth c s₁ B hml hv
  obtain ⟨rfl, hP, hE⟩ := hv
  have hl := lv_entry ([.ref (a q), .long x1]) (n := 5) (Nat.le_of_ble_eq_true rfl)
  rw [lg_entry_eq]
  generalize (lg_sl ([.ref (a q), .long x1]) ++ List.replicate (5 - (lg_sl ([.ref (a q), .long x1])).length) Slot.unset).toArray = ls at hl ⊢
  have C0 : nCx p s m _ meth c cJ7_fill_d0a16 5 none RJ7 wsJ7_fill_d0a16 := ⟨B.exec, B.bytes, B.returns, hml, findClass_of_methodNamed B.named, atoms_spec (ws := wsJ7_fill_d0a16) B.pre, B.notSynchronized⟩
  exact kl_J7_fill_d0a16_0 (N := N) hq C0 hE (z := (r, σ')) σ x1 _ _ ls hl hP va_S.rf hf

/-! J0_coder_7d493 -/
def b_J0_coder_7d493_0 (N : Nat) (j : Nat) (σ : nS) : Option (Int32 × nS) := some (0, σ)
set_option maxHeartbeats 4000000 in
set_option maxRecDepth 100000 in
theorem kb_J0_coder_7d493_0 {p : Program} {l : Launch} {e : Env} {s : State} {m : MethodId} {args : Array Value} {below : List Frame} {meth : Method} {c : Code} {D : va_G} {A : Nat → Prop} {cy : Nat → ClassId} {kt vt : Nat → Nat} {N : Nat} {X : nS → va_W} {j : Nat} (hj : j < 12) (C0 : nCx p s m args meth c cJ0_coder_7d493 1 (some .byte) RJ0 wsJ0_coder_7d493) (hE : nEn D A cy X kt vt s) {z : Int32 × nS} : ∀ (σ : nS) (H : Heap) (locs : List Loc) (ls : Array Slot), lv_has ls 1 [(0, .ref (kt j))] → va_P D vwCl (X σ) H → va_S A s.heap H locs → b_J0_coder_7d493_0 N j σ = some z → W p l e ({ frames := 0, cells := 0, slots := 0, locals := 0 } : Room) s m args below meth c H locs 0 0 (nQi below D A X args s z) (F0 m 0 ls []) := by
  obtain ⟨hx, hb, hr, hml, hown, hts, hlocks⟩ := C0
  intro σ  H locs ls hl hP hS hf
  unfold b_J0_coder_7d493_0 at hf
  refine va_gets hx hb hE.2.2.2.2.2.1 hS hown (hts (.fieldLink RJ0 38 "java/lang/String" "COMPACT_STRINGS" "Z") (by decide +kernel)) (fun _ h => h) dJ0_coder_7d493_0 ?_
  refine lv_if_eq (tgt := 13) hx hb dJ0_coder_7d493_3 (by decide) (fun hc => absurd hc (by decide)) (fun hc => ?_)
  refine lv_aload_n hx hb dJ0_coder_7d493_6 rfl (lv_at hl 0 rfl) ?_
  refine vk_getf hx hb (hE.2.2.2.1.1 j hj).2.1 hS hown (hts (.fieldLink RJ0 15 "java/lang/String" "coder" "B") (by decide +kernel)) (fun _ h => h) dJ0_coder_7d493_7 ?_
  refine lv_goto (tgt := 14) hx hb dJ0_coder_7d493_10 (by decide) ?_
  exact nb_zret hx hb hr hlocks hP hS (nSo hf) rfl dJ0_coder_7d493_14
def l_J0_coder_7d493_0 (N : Nat) (j : Nat) : nS → Option (Int32 × nS) := b_J0_coder_7d493_0 N j
theorem kl_J0_coder_7d493_0 {p : Program} {l : Launch} {e : Env} {s : State} {m : MethodId} {args : Array Value} {below : List Frame} {meth : Method} {c : Code} {D : va_G} {A : Nat → Prop} {cy : Nat → ClassId} {kt vt : Nat → Nat} {N : Nat} {X : nS → va_W} {j : Nat} (hj : j < 12) (C0 : nCx p s m args meth c cJ0_coder_7d493 1 (some .byte) RJ0 wsJ0_coder_7d493) (hE : nEn D A cy X kt vt s) {z : Int32 × nS} : ∀ (σ : nS) (H : Heap) (locs : List Loc) (ls : Array Slot), lv_has ls 1 [(0, .ref (kt j))] → va_P D vwCl (X σ) H → va_S A s.heap H locs → l_J0_coder_7d493_0 N j σ = some z → W p l e ({ frames := 0, cells := 0, slots := 0, locals := 0 } : Room) s m args below meth c H locs 0 0 (nQi below D A X args s z) (F0 m 0 ls []) := by
  exact kb_J0_coder_7d493_0 (N := N) hj C0 hE
def f_J0_coder_7d493 (N : Nat) (j : Nat) (σ : nS) : Option (Int32 × nS) := l_J0_coder_7d493_0 N j σ
set_option maxHeartbeats 4000000 in
set_option maxRecDepth 100000 in
theorem c_J0_coder_7d493 {l : Launch} {D : va_G} {A : Nat → Prop} {cy : Nat → ClassId} {kt vt : Nat → Nat} {N : Nat} {X : nS → va_W} {j : Nat} (hj : j < 12) {σ : nS} {r : Int32} {σ' : nS} (hf : f_J0_coder_7d493 N j σ = some (r, σ')) : nMi l yJ0_coder_7d493 wsJ0_coder_7d493 ({ frames := 0, cells := 0, slots := 0, locals := 0 } : Room) D A cy X kt vt [.ref (kt j)] σ r σ' := by
  refine Met.ofW (cc := cJ0_coder_7d493) (maxL := 1) (ret := (some .byte)) (by decide) rfl ?_
  intro p e s m args below meth c s₁ B hml hv
  obtain ⟨rfl, hP, hE⟩ := hv
  have hl := lv_entry ([.ref (kt j)]) (n := 1) (Nat.le_of_ble_eq_true rfl)
  rw [lg_entry_eq]
  generalize (lg_sl ([.ref (kt j)]) ++ List.replicate (1 - (lg_sl ([.ref (kt j)])).length) Slot.unset).toArray = ls at hl ⊢
  have C0 : nCx p s m _ meth c cJ0_coder_7d493 1 (some .byte) RJ0 wsJ0_coder_7d493 := ⟨B.exec, B.bytes, B.returns, hml, findClass_of_methodNamed B.named, atoms_spec (ws := wsJ0_coder_7d493) B.pre, B.notSynchronized⟩
  exact kl_J0_coder_7d493_0 (N := N) hj C0 hE (z := (r, σ')) σ  _ _ ls hl hP va_S.rf hf

/-! J0_isLatin1_aae02 -/
def b_J0_isLatin1_aae02_0 (N : Nat) (j : Nat) (σ : nS) : Option (Int32 × nS) := some (1, σ)
set_option maxHeartbeats 4000000 in
set_option maxRecDepth 100000 in
theorem kb_J0_isLatin1_aae02_0 {p : Program} {l : Launch} {e : Env} {s : State} {m : MethodId} {args : Array Value} {below : List Frame} {meth : Method} {c : Code} {D : va_G} {A : Nat → Prop} {cy : Nat → ClassId} {kt vt : Nat → Nat} {N : Nat} {X : nS → va_W} {j : Nat} (hj : j < 12) (C0 : nCx p s m args meth c cJ0_isLatin1_aae02 1 (some .boolean) RJ0 wsJ0_isLatin1_aae02) (hE : nEn D A cy X kt vt s) {z : Int32 × nS} : ∀ (σ : nS) (H : Heap) (locs : List Loc) (ls : Array Slot), lv_has ls 1 [(0, .ref (kt j))] → va_P D vwCl (X σ) H → va_S A s.heap H locs → b_J0_isLatin1_aae02_0 N j σ = some z → W p l e ({ frames := 0, cells := 0, slots := 0, locals := 0 } : Room) s m args below meth c H locs 0 0 (nQi below D A X args s z) (F0 m 0 ls []) := by
  obtain ⟨hx, hb, hr, hml, hown, hts, hlocks⟩ := C0
  intro σ  H locs ls hl hP hS hf
  unfold b_J0_isLatin1_aae02_0 at hf
  refine va_gets hx hb hE.2.2.2.2.2.1 hS hown (hts (.fieldLink RJ0 38 "java/lang/String" "COMPACT_STRINGS" "Z") (by decide +kernel)) (fun _ h => h) dJ0_isLatin1_aae02_0 ?_
  refine lv_if_eq (tgt := 17) hx hb dJ0_isLatin1_aae02_3 (by decide) (fun hc => absurd hc (by decide)) (fun hc => ?_)
  refine lv_aload_n hx hb dJ0_isLatin1_aae02_6 rfl (lv_at hl 0 rfl) ?_
  refine vk_getf hx hb (hE.2.2.2.1.1 j hj).2.1 hS hown (hts (.fieldLink RJ0 15 "java/lang/String" "coder" "B") (by decide +kernel)) (fun _ h => h) dJ0_isLatin1_aae02_7 ?_
  refine lv_if_ne (tgt := 17) hx hb dJ0_isLatin1_aae02_10 (by decide) (fun hc => absurd (by decide) hc) (fun hc => ?_)
  refine lv_iconst (v := 1) hx hb dJ0_isLatin1_aae02_13 (by decide) ?_
  refine lv_goto (tgt := 18) hx hb dJ0_isLatin1_aae02_14 (by decide) ?_
  exact nb_zret hx hb hr hlocks hP hS (nSo hf) rfl dJ0_isLatin1_aae02_18
def l_J0_isLatin1_aae02_0 (N : Nat) (j : Nat) : nS → Option (Int32 × nS) := b_J0_isLatin1_aae02_0 N j
theorem kl_J0_isLatin1_aae02_0 {p : Program} {l : Launch} {e : Env} {s : State} {m : MethodId} {args : Array Value} {below : List Frame} {meth : Method} {c : Code} {D : va_G} {A : Nat → Prop} {cy : Nat → ClassId} {kt vt : Nat → Nat} {N : Nat} {X : nS → va_W} {j : Nat} (hj : j < 12) (C0 : nCx p s m args meth c cJ0_isLatin1_aae02 1 (some .boolean) RJ0 wsJ0_isLatin1_aae02) (hE : nEn D A cy X kt vt s) {z : Int32 × nS} : ∀ (σ : nS) (H : Heap) (locs : List Loc) (ls : Array Slot), lv_has ls 1 [(0, .ref (kt j))] → va_P D vwCl (X σ) H → va_S A s.heap H locs → l_J0_isLatin1_aae02_0 N j σ = some z → W p l e ({ frames := 0, cells := 0, slots := 0, locals := 0 } : Room) s m args below meth c H locs 0 0 (nQi below D A X args s z) (F0 m 0 ls []) := by
  exact kb_J0_isLatin1_aae02_0 (N := N) hj C0 hE
def f_J0_isLatin1_aae02 (N : Nat) (j : Nat) (σ : nS) : Option (Int32 × nS) := l_J0_isLatin1_aae02_0 N j σ
set_option maxHeartbeats 4000000 in
set_option maxRecDepth 100000 in
theorem c_J0_isLatin1_aae02 {l : Launch} {D : va_G} {A : Nat → Prop} {cy : Nat → ClassId} {kt vt : Nat → Nat} {N : Nat} {X : nS → va_W} {j : Nat} (hj : j < 12) {σ : nS} {r : Int32} {σ' : nS} (hf : f_J0_isLatin1_aae02 N j σ = some (r, σ')) : nMi l yJ0_isLatin1_aae02 wsJ0_isLatin1_aae02 ({ frames := 0, cells := 0, slots := 0, locals := 0 } : Room) D A cy X kt vt [.ref (kt j)] σ r σ' := by
  refine Met.ofW (cc := cJ0_isLatin1_aae02) (maxL := 1) (ret := (some .boolean)) (by decide) rfl ?_
  intro p e s m args below meth c s₁ B hml hv
  obtain ⟨rfl, hP, hE⟩ := hv
  have hl := lv_entry ([.ref (kt j)]) (n := 1) (Nat.le_of_ble_eq_true rfl)
  rw [lg_entry_eq]
  generalize (lg_sl ([.ref (kt j)]) ++ List.replicate (1 - (lg_sl ([.ref (kt j)])).length) Slot.unset).toArray = ls at hl ⊢
  have C0 : nCx p s m _ meth c cJ0_isLatin1_aae02 1 (some .boolean) RJ0 wsJ0_isLatin1_aae02 := ⟨B.exec, B.bytes, B.returns, hml, findClass_of_methodNamed B.named, atoms_spec (ws := wsJ0_isLatin1_aae02) B.pre, B.notSynchronized⟩
  exact kl_J0_isLatin1_aae02_0 (N := N) hj C0 hE (z := (r, σ')) σ  _ _ ls hl hP va_S.rf hf

/-! J0_length_8abf5 -/
def b_J0_length_8abf5_0 (N : Nat) (j : Nat) (σ : nS) : Option (Int32 × nS) := nLet (Int32.ofNat (nLen.getD j 0)) (fun v1 => nBd (f_J0_coder_7d493 N j σ) (fun r2 σ3 => nLet (v1 >>> (r2 &&& 31) : Int32) (fun v4 => some (v4, σ3))))
set_option maxHeartbeats 4000000 in
set_option maxRecDepth 100000 in
theorem kb_J0_length_8abf5_0 {p : Program} {l : Launch} {e : Env} {s : State} {m : MethodId} {args : Array Value} {below : List Frame} {meth : Method} {c : Code} {D : va_G} {A : Nat → Prop} {cy : Nat → ClassId} {kt vt : Nat → Nat} {N : Nat} {X : nS → va_W} {j : Nat} (hj : j < 12) (C0 : nCx p s m args meth c cJ0_length_8abf5 1 (some .int) RJ0 wsJ0_length_8abf5) (hE : nEn D A cy X kt vt s) {z : Int32 × nS} : ∀ (σ : nS) (H : Heap) (locs : List Loc) (ls : Array Slot), lv_has ls 1 [(0, .ref (kt j))] → va_P D vwCl (X σ) H → va_S A s.heap H locs → b_J0_length_8abf5_0 N j σ = some z → W p l e ({ frames := 1, cells := 0, slots := 0, locals := 20 } : Room) s m args below meth c H locs 0 0 (nQi below D A X args s z) (F0 m 0 ls []) := by
  obtain ⟨hx, hb, hr, hml, hown, hts, hlocks⟩ := C0
  intro σ  H locs ls hl hP hS hf
  unfold b_J0_length_8abf5_0 at hf
  refine lv_aload_n hx hb dJ0_length_8abf5_0 rfl (lv_at hl 0 rfl) ?_
  refine vk_getf hx hb (hE.2.2.2.1.1 j hj).2.2.1 hS hown (hts (.fieldLink RJ0 9 "java/lang/String" "value" "[B") (by decide +kernel)) (fun _ h => h) dJ0_length_8abf5_1 ?_
  refine va_tlen hx hb (hE.2.2.2.1.1 j hj).2.2.2 hS rfl dJ0_length_8abf5_4 ?_
  refine lv_topi (fun v1 ev1 => ?_)
  replace hf := nLet_e hf ev1
  refine lv_aload_n hx hb dJ0_length_8abf5_5 rfl (lv_at hl 0 rfl) ?_
  obtain ⟨r2, σ3, hc3, hf⟩ := nBd_e hf
  refine nb_callTi (As := []) (rest := [.int v1]) ⟨hx, hb, hml, hown, hts⟩ (c_J0_coder_7d493 (X := X) (D := D) (A := A) (cy := cy) (kt := kt) (vt := vt) (l := l) hj hc3) (cwV 0 hts gJ0_length_8abf5_J0_coder_7d493 rfl rfl rfl (by decide +kernel) ⟨Nat.le_of_ble_eq_true rfl, Nat.le_of_ble_eq_true rfl⟩) hE hP hS hj rfl hl.1 rfl (Nat.le_of_ble_eq_true rfl) dJ0_length_8abf5_6 (fun H locs hP hS => ?_)
  refine lv_ishr hx hb dJ0_length_8abf5_9 ?_
  refine lv_topi (fun v4 ev4 => ?_)
  replace hf := nLet_e hf ev4
  exact nb_iret hx hb hr hlocks hP hS (nSo hf) dJ0_length_8abf5_10
def l_J0_length_8abf5_0 (N : Nat) (j : Nat) : nS → Option (Int32 × nS) := b_J0_length_8abf5_0 N j
theorem kl_J0_length_8abf5_0 {p : Program} {l : Launch} {e : Env} {s : State} {m : MethodId} {args : Array Value} {below : List Frame} {meth : Method} {c : Code} {D : va_G} {A : Nat → Prop} {cy : Nat → ClassId} {kt vt : Nat → Nat} {N : Nat} {X : nS → va_W} {j : Nat} (hj : j < 12) (C0 : nCx p s m args meth c cJ0_length_8abf5 1 (some .int) RJ0 wsJ0_length_8abf5) (hE : nEn D A cy X kt vt s) {z : Int32 × nS} : ∀ (σ : nS) (H : Heap) (locs : List Loc) (ls : Array Slot), lv_has ls 1 [(0, .ref (kt j))] → va_P D vwCl (X σ) H → va_S A s.heap H locs → l_J0_length_8abf5_0 N j σ = some z → W p l e ({ frames := 1, cells := 0, slots := 0, locals := 20 } : Room) s m args below meth c H locs 0 0 (nQi below D A X args s z) (F0 m 0 ls []) := by
  exact kb_J0_length_8abf5_0 (N := N) hj C0 hE
def f_J0_length_8abf5 (N : Nat) (j : Nat) (σ : nS) : Option (Int32 × nS) := l_J0_length_8abf5_0 N j σ
set_option maxHeartbeats 4000000 in
set_option maxRecDepth 100000 in
theorem c_J0_length_8abf5 {l : Launch} {D : va_G} {A : Nat → Prop} {cy : Nat → ClassId} {kt vt : Nat → Nat} {N : Nat} {X : nS → va_W} {j : Nat} (hj : j < 12) {σ : nS} {r : Int32} {σ' : nS} (hf : f_J0_length_8abf5 N j σ = some (r, σ')) : nMi l yJ0_length_8abf5 wsJ0_length_8abf5 ({ frames := 1, cells := 0, slots := 0, locals := 20 } : Room) D A cy X kt vt [.ref (kt j)] σ r σ' := by
  refine Met.ofW (cc := cJ0_length_8abf5) (maxL := 1) (ret := (some .int)) (by decide) rfl ?_
  intro p e s m args below meth c s₁ B hml hv
  obtain ⟨rfl, hP, hE⟩ := hv
  have hl := lv_entry ([.ref (kt j)]) (n := 1) (Nat.le_of_ble_eq_true rfl)
  rw [lg_entry_eq]
  generalize (lg_sl ([.ref (kt j)]) ++ List.replicate (1 - (lg_sl ([.ref (kt j)])).length) Slot.unset).toArray = ls at hl ⊢
  have C0 : nCx p s m _ meth c cJ0_length_8abf5 1 (some .int) RJ0 wsJ0_length_8abf5 := ⟨B.exec, B.bytes, B.returns, hml, findClass_of_methodNamed B.named, atoms_spec (ws := wsJ0_length_8abf5) B.pre, B.notSynchronized⟩
  exact kl_J0_length_8abf5_0 (N := N) hj C0 hE (z := (r, σ')) σ  _ _ ls hl hP va_S.rf hf

/-! J1_charAt_3b067 -/
def b_J1_charAt_3b067_0 (N : Nat) (j : Nat) (σ : nS) (x1 : Int32) : Option (Int32 × nS) := nLet (Int32.ofNat (nLen.getD j 0)) (fun v1 => nBd (f_J0_checkIndex_df160 N x1 v1 σ) (fun r2 σ3 => nIx x1 (nLen.getD j 0) (nLet ((nByt.getD j []).getD (x1).toNatClampNeg 0) (fun v4 => nLet (v4 &&& (255 : Int32) : Int32) (fun v5 => nLet (((v5).toUInt32 % 65536).toInt32 : Int32) (fun v6 => nCg v6 (some (v6, σ3))))))))
set_option maxHeartbeats 4000000 in
set_option maxRecDepth 100000 in
theorem kb_J1_charAt_3b067_0 {p : Program} {l : Launch} {e : Env} {s : State} {m : MethodId} {args : Array Value} {below : List Frame} {meth : Method} {c : Code} {D : va_G} {A : Nat → Prop} {cy : Nat → ClassId} {kt vt : Nat → Nat} {N : Nat} {X : nS → va_W} {j : Nat} (hj : j < 12) (C0 : nCx p s m args meth c cJ1_charAt_3b067 2 (some .char) RJ1 wsJ1_charAt_3b067) (hE : nEn D A cy X kt vt s) {z : Int32 × nS} : ∀ (σ : nS) (x1 : Int32) (H : Heap) (locs : List Loc) (ls : Array Slot), lv_has ls 2 [(0, .ref (vt j)), (1, .int x1)] → va_P D vwCl (X σ) H → va_S A s.heap H locs → b_J1_charAt_3b067_0 N j σ x1 = some z → W p l e ({ frames := 2, cells := 0, slots := 0, locals := 43 } : Room) s m args below meth c H locs 0 0 (nQi below D A X args s z) (F0 m 0 ls []) := by
  obtain ⟨hx, hb, hr, hml, hown, hts, hlocks⟩ := C0
  intro σ x1 H locs ls hl hP hS hf
  unfold b_J1_charAt_3b067_0 at hf
  refine lv_iload_n hx hb dJ1_charAt_3b067_0 rfl (lv_at hl 1 rfl) ?_
  refine lv_aload_n hx hb dJ1_charAt_3b067_1 rfl (lv_at hl 0 rfl) ?_
  refine va_tlen hx hb (hE.2.2.2.1.1 j hj).2.2.2 hS rfl dJ1_charAt_3b067_2 ?_
  refine lv_topi (fun v1 ev1 => ?_)
  replace hf := nLet_e hf ev1
  obtain ⟨r2, σ3, hc3, hf⟩ := nBd_e hf
  refine nb_callSv (As := [.int x1, .int v1]) (rest := []) ⟨hx, hb, hml, hown, hts⟩ (c_J0_checkIndex_df160 (X := X) (D := D) (A := A) (cy := cy) (kt := kt) (vt := vt) (l := l)  hc3) (va_cwS 2 hts gJ1_charAt_3b067_J0_checkIndex_df160 rfl rfl rfl (by decide +kernel) ⟨Nat.le_of_ble_eq_true rfl, Nat.le_of_ble_eq_true rfl⟩) hE hP hS rfl hl.1 rfl (Nat.le_of_ble_eq_true rfl) dJ1_charAt_3b067_3 (fun H locs hP hS => ?_)
  refine lv_aload_n hx hb dJ1_charAt_3b067_6 rfl (lv_at hl 0 rfl) ?_
  refine lv_iload_n hx hb dJ1_charAt_3b067_7 rfl (lv_at hl 1 rfl) ?_
  obtain ⟨hin, hf⟩ := nIx_e hf
  refine va_tb hx hb (hE.2.2.2.1.1 j hj).2.2.2 hS hin rfl dJ1_charAt_3b067_8 ?_
  refine lv_topi (fun v4 ev4 => ?_)
  replace hf := nLet_e hf ev4
  refine lv_sipush (v := 255) hx hb dJ1_charAt_3b067_9 (by decide) ?_
  refine lv_iand hx hb dJ1_charAt_3b067_12 ?_
  refine lv_topi (fun v5 ev5 => ?_)
  replace hf := nLet_e hf ev5
  refine lv_i2c hx hb dJ1_charAt_3b067_13 rfl ?_
  refine lv_topi (fun v6 ev6 => ?_)
  replace hf := nLet_e hf ev6
  obtain ⟨hz, hf⟩ := nCg_e hf
  exact nb_zret hx hb hr hlocks hP hS (nSo hf) hz dJ1_charAt_3b067_14
def l_J1_charAt_3b067_0 (N : Nat) (j : Nat) : nS → Int32 → Option (Int32 × nS) := b_J1_charAt_3b067_0 N j
theorem kl_J1_charAt_3b067_0 {p : Program} {l : Launch} {e : Env} {s : State} {m : MethodId} {args : Array Value} {below : List Frame} {meth : Method} {c : Code} {D : va_G} {A : Nat → Prop} {cy : Nat → ClassId} {kt vt : Nat → Nat} {N : Nat} {X : nS → va_W} {j : Nat} (hj : j < 12) (C0 : nCx p s m args meth c cJ1_charAt_3b067 2 (some .char) RJ1 wsJ1_charAt_3b067) (hE : nEn D A cy X kt vt s) {z : Int32 × nS} : ∀ (σ : nS) (x1 : Int32) (H : Heap) (locs : List Loc) (ls : Array Slot), lv_has ls 2 [(0, .ref (vt j)), (1, .int x1)] → va_P D vwCl (X σ) H → va_S A s.heap H locs → l_J1_charAt_3b067_0 N j σ x1 = some z → W p l e ({ frames := 2, cells := 0, slots := 0, locals := 43 } : Room) s m args below meth c H locs 0 0 (nQi below D A X args s z) (F0 m 0 ls []) := by
  exact kb_J1_charAt_3b067_0 (N := N) hj C0 hE
def f_J1_charAt_3b067 (N : Nat) (j : Nat) (x1 : Int32) (σ : nS) : Option (Int32 × nS) := l_J1_charAt_3b067_0 N j σ x1
set_option maxHeartbeats 4000000 in
set_option maxRecDepth 100000 in
theorem c_J1_charAt_3b067 {l : Launch} {D : va_G} {A : Nat → Prop} {cy : Nat → ClassId} {kt vt : Nat → Nat} {N : Nat} {X : nS → va_W} {j : Nat} (hj : j < 12) {x1 : Int32} {σ : nS} {r : Int32} {σ' : nS} (hf : f_J1_charAt_3b067 N j x1 σ = some (r, σ')) : nMi l yJ1_charAt_3b067 wsJ1_charAt_3b067 ({ frames := 2, cells := 0, slots := 0, locals := 43 } : Room) D A cy X kt vt [.ref (vt j), .int x1] σ r σ' := by
  refine Met.ofW (cc := cJ1_charAt_3b067) (maxL := 2) (ret := (some .char)) (by decide) rfl ?_
  intro p e s m args below meth c s₁ B hml hv
  obtain ⟨rfl, hP, hE⟩ := hv
  have hl := lv_entry ([.ref (vt j), .int x1]) (n := 2) (Nat.le_of_ble_eq_true rfl)
  rw [lg_entry_eq]
  generalize (lg_sl ([.ref (vt j), .int x1]) ++ List.replicate (2 - (lg_sl ([.ref (vt j), .int x1])).length) Slot.unset).toArray = ls at hl ⊢
  have C0 : nCx p s m _ meth c cJ1_charAt_3b067 2 (some .char) RJ1 wsJ1_charAt_3b067 := ⟨B.exec, B.bytes, B.returns, hml, findClass_of_methodNamed B.named, atoms_spec (ws := wsJ1_charAt_3b067) B.pre, B.notSynchronized⟩
  exact kl_J1_charAt_3b067_0 (N := N) hj C0 hE (z := (r, σ')) σ x1 _ _ ls hl hP va_S.rf hf

/-! J0_charAt_5068e -/
def b_J0_charAt_5068e_0 (N : Nat) (j : Nat) (σ : nS) (x1 : Int32) : Option (Int32 × nS) := nBd (f_J0_isLatin1_aae02 N j σ) (fun r1 σ2 => (if r1 = 0 then none else nBd (f_J1_charAt_3b067 N j x1 σ2) (fun r3 σ4 => nCg r3 (some (r3, σ4)))))
set_option maxHeartbeats 4000000 in
set_option maxRecDepth 100000 in
theorem kb_J0_charAt_5068e_0 {p : Program} {l : Launch} {e : Env} {s : State} {m : MethodId} {args : Array Value} {below : List Frame} {meth : Method} {c : Code} {D : va_G} {A : Nat → Prop} {cy : Nat → ClassId} {kt vt : Nat → Nat} {N : Nat} {X : nS → va_W} {j : Nat} (hj : j < 12) (C0 : nCx p s m args meth c cJ0_charAt_5068e 2 (some .char) RJ0 wsJ0_charAt_5068e) (hE : nEn D A cy X kt vt s) {z : Int32 × nS} : ∀ (σ : nS) (x1 : Int32) (H : Heap) (locs : List Loc) (ls : Array Slot), lv_has ls 2 [(0, .ref (kt j)), (1, .int x1)] → va_P D vwCl (X σ) H → va_S A s.heap H locs → b_J0_charAt_5068e_0 N j σ x1 = some z → W p l e ({ frames := 3, cells := 0, slots := 0, locals := 64 } : Room) s m args below meth c H locs 0 0 (nQi below D A X args s z) (F0 m 0 ls []) := by
  obtain ⟨hx, hb, hr, hml, hown, hts, hlocks⟩ := C0
  intro σ x1 H locs ls hl hP hS hf
  unfold b_J0_charAt_5068e_0 at hf
  refine lv_aload_n hx hb dJ0_charAt_5068e_0 rfl (lv_at hl 0 rfl) ?_
  obtain ⟨r1, σ2, hc2, hf⟩ := nBd_e hf
  refine nb_callTi (As := []) (rest := []) ⟨hx, hb, hml, hown, hts⟩ (c_J0_isLatin1_aae02 (X := X) (D := D) (A := A) (cy := cy) (kt := kt) (vt := vt) (l := l) hj hc2) (cwV 0 hts gJ0_charAt_5068e_J0_isLatin1_aae02 rfl rfl rfl (by decide +kernel) ⟨Nat.le_of_ble_eq_true rfl, Nat.le_of_ble_eq_true rfl⟩) hE hP hS hj rfl hl.1 rfl (Nat.le_of_ble_eq_true rfl) dJ0_charAt_5068e_1 (fun H locs hP hS => ?_)
  refine lv_if_eq (tgt := 16) hx hb dJ0_charAt_5068e_4 (by decide) (fun hc => ?_) (fun hc => ?_)
  · replace hf := nIf_t hc hf
    refine lv_aload_n hx hb dJ0_charAt_5068e_16 rfl (lv_at hl 0 rfl) ?_
    refine vk_getf hx hb (hE.2.2.2.1.1 j hj).2.2.1 hS hown (hts (.fieldLink RJ0 9 "java/lang/String" "value" "[B") (by decide +kernel)) (fun _ h => h) dJ0_charAt_5068e_17 ?_
    refine lv_iload_n hx hb dJ0_charAt_5068e_20 rfl (lv_at hl 1 rfl) ?_
    cases hf
  · replace hf := nIf_f hc hf
    refine lv_aload_n hx hb dJ0_charAt_5068e_7 rfl (lv_at hl 0 rfl) ?_
    refine vk_getf hx hb (hE.2.2.2.1.1 j hj).2.2.1 hS hown (hts (.fieldLink RJ0 9 "java/lang/String" "value" "[B") (by decide +kernel)) (fun _ h => h) dJ0_charAt_5068e_8 ?_
    refine lv_iload_n hx hb dJ0_charAt_5068e_11 rfl (lv_at hl 1 rfl) ?_
    obtain ⟨r3, σ4, hc4, hf⟩ := nBd_e hf
    refine nb_callSi (As := [.ref (vt j), .int x1]) (rest := []) ⟨hx, hb, hml, hown, hts⟩ (c_J1_charAt_3b067 (X := X) (D := D) (A := A) (cy := cy) (kt := kt) (vt := vt) (l := l) hj hc4) (va_cwS 2 hts gJ0_charAt_5068e_J1_charAt_3b067 rfl rfl rfl (by decide +kernel) ⟨Nat.le_of_ble_eq_true rfl, Nat.le_of_ble_eq_true rfl⟩) hE hP hS rfl hl.1 rfl (Nat.le_of_ble_eq_true rfl) dJ0_charAt_5068e_12 (fun H locs hP hS => ?_)
    obtain ⟨hz, hf⟩ := nCg_e hf
    exact nb_zret hx hb hr hlocks hP hS (nSo hf) hz dJ0_charAt_5068e_15
def l_J0_charAt_5068e_0 (N : Nat) (j : Nat) : nS → Int32 → Option (Int32 × nS) := b_J0_charAt_5068e_0 N j
theorem kl_J0_charAt_5068e_0 {p : Program} {l : Launch} {e : Env} {s : State} {m : MethodId} {args : Array Value} {below : List Frame} {meth : Method} {c : Code} {D : va_G} {A : Nat → Prop} {cy : Nat → ClassId} {kt vt : Nat → Nat} {N : Nat} {X : nS → va_W} {j : Nat} (hj : j < 12) (C0 : nCx p s m args meth c cJ0_charAt_5068e 2 (some .char) RJ0 wsJ0_charAt_5068e) (hE : nEn D A cy X kt vt s) {z : Int32 × nS} : ∀ (σ : nS) (x1 : Int32) (H : Heap) (locs : List Loc) (ls : Array Slot), lv_has ls 2 [(0, .ref (kt j)), (1, .int x1)] → va_P D vwCl (X σ) H → va_S A s.heap H locs → l_J0_charAt_5068e_0 N j σ x1 = some z → W p l e ({ frames := 3, cells := 0, slots := 0, locals := 64 } : Room) s m args below meth c H locs 0 0 (nQi below D A X args s z) (F0 m 0 ls []) := by
  exact kb_J0_charAt_5068e_0 (N := N) hj C0 hE
def f_J0_charAt_5068e (N : Nat) (j : Nat) (x1 : Int32) (σ : nS) : Option (Int32 × nS) := l_J0_charAt_5068e_0 N j σ x1
set_option maxHeartbeats 4000000 in
set_option maxRecDepth 100000 in
theorem c_J0_charAt_5068e {l : Launch} {D : va_G} {A : Nat → Prop} {cy : Nat → ClassId} {kt vt : Nat → Nat} {N : Nat} {X : nS → va_W} {j : Nat} (hj : j < 12) {x1 : Int32} {σ : nS} {r : Int32} {σ' : nS} (hf : f_J0_charAt_5068e N j x1 σ = some (r, σ')) : nMi l yJ0_charAt_5068e wsJ0_charAt_5068e ({ frames := 3, cells := 0, slots := 0, locals := 64 } : Room) D A cy X kt vt [.ref (kt j), .int x1] σ r σ' := by
  refine Met.ofW (cc := cJ0_charAt_5068e) (maxL := 2) (ret := (some .char)) (by decide) rfl ?_
  intro p e s m args below meth c s₁ B hml hv
  obtain ⟨rfl, hP, hE⟩ := hv
  have hl := lv_entry ([.ref (kt j), .int x1]) (n := 2) (Nat.le_of_ble_eq_true rfl)
  rw [lg_entry_eq]
  generalize (lg_sl ([.ref (kt j), .int x1]) ++ List.replicate (2 - (lg_sl ([.ref (kt j), .int x1])).length) Slot.unset).toArray = ls at hl ⊢
  have C0 : nCx p s m _ meth c cJ0_charAt_5068e 2 (some .char) RJ0 wsJ0_charAt_5068e := ⟨B.exec, B.bytes, B.returns, hml, findClass_of_methodNamed B.named, atoms_spec (ws := wsJ0_charAt_5068e) B.pre, B.notSynchronized⟩
  exact kl_J0_charAt_5068e_0 (N := N) hj C0 hE (z := (r, σ')) σ x1 _ _ ls hl hP va_S.rf hf
