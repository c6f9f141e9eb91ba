/-! X11_stop -/
set_option maxRecDepth 20000 in
theorem iX11_stop_X11 : ∀ w ∈ u_ws RX11 TX11 68, w ∈ wsX11_stop := fun _ h => List.mem_cons_of_mem _ (List.mem_append_left _ (List.mem_append_right _ h))
set_option maxRecDepth 20000 in
theorem qX11_stop_44 : Cond.fieldLink RX11 44 RX11 (TX11 17).2.1 (TX11 17).2.2.1 ∈ wsX11_stop := by decide +kernel
set_option maxRecDepth 20000 in
theorem iX11_stop_X10 : ∀ w ∈ u_ws RX10 TX10 8, w ∈ wsX11_stop := fun _ h => List.mem_cons_of_mem _ (List.mem_append_right _ h)
def b_X11_stop_0 (N : Nat) (σ : nS) (x1 : Int32) (x2 : Int32) : Option (Int32 × nS) := nLet (wr σ 9 6 x1) (fun σ1 => nLet (wr σ1 9 7 x2) (fun σ2 => some (0, σ2)))
set_option maxHeartbeats 4000000 in
set_option maxRecDepth 100000 in
theorem kb_X11_stop_0 {p : Program} {l : Launch} {e : Env} {s : State} {m : MethodId} {args : Array Value} {below : List Frame} {meth : Method} {c : Code} {D : va_G} {A : Nat → Prop} {cy : Nat → ClassId} {a kt vt : Nat → Nat} {N : Nat}   (C0 : nCx p s m args meth c cX11_stop 3 (some (.object "NightBookModel$Stop")) RX11 wsX11_stop) (hE : nEn D A cy (Mw cy a) kt vt s) {z : Int32 × nS} : ∀ (σ : nS) (x1 : Int32) (x2 : Int32) (H : Heap) (locs : List Loc) (ls : Array Slot), lv_has ls 3 [(0, .ref (a 0)), (1, .int x1), (2, .int x2)] → va_P D vwCl ((Mw cy a) σ) H → va_S A s.heap H locs → b_X11_stop_0 N σ x1 x2 = some z → W p l e ({ frames := 0, cells := 0, slots := 0, locals := 0 } : Room) s m args below meth c H locs 0 0 (nQr below D A (Mw cy a) args s (a 9) z) (F0 m 0 ls []) := by
  obtain ⟨hx, hb, hr, hml, hown, hts, hlocks⟩ := C0
  intro σ x1 x2 H locs ls hl hP hS hf
  unfold b_X11_stop_0 at hf
  refine lv_aload_n hx hb dX11_stop_0 rfl (lv_at hl 0 rfl) ?_
  refine nb_get (ci := 11) hx hb hts iX11_stop_X11 hown hE hP 0 mbo_0 rfl 17 (by decide) qX11_stop_44 rfl rfl dX11_stop_1 ?_
  refine lv_iload_n hx hb dX11_stop_4 rfl (lv_at hl 1 rfl) ?_
  refine nb_putN (ci := 10) hx hb hts iX11_stop_X10 tyX10 tyX10_ok nmX10 hown hE hP hS 9 mbo_9 rfl 6 (by decide) (host := RX11) (by decide +kernel) rfl rfl rfl rfl (Nat.le_of_ble_eq_true rfl) dX11_stop_5 (mbp_9_6 _) (fun σ1 eσ1 H locs hP hS => ?_)
  replace hf := nLet_e hf eσ1
  refine lv_aload_n hx hb dX11_stop_8 rfl (lv_at hl 0 rfl) ?_
  refine nb_get (ci := 11) hx hb hts iX11_stop_X11 hown hE hP 0 mbo_0 rfl 17 (by decide) qX11_stop_44 rfl rfl dX11_stop_9 ?_
  refine lv_iload_n hx hb dX11_stop_12 rfl (lv_at hl 2 rfl) ?_
  refine nb_putN (ci := 10) hx hb hts iX11_stop_X10 tyX10 tyX10_ok nmX10 hown hE hP hS 9 mbo_9 rfl 7 (by decide) (host := RX11) (by decide +kernel) rfl rfl rfl rfl (Nat.le_of_ble_eq_true rfl) dX11_stop_13 (mbp_9_7 _) (fun σ2 eσ2 H locs hP hS => ?_)
  replace hf := nLet_e hf eσ2
  refine lv_aload_n hx hb dX11_stop_16 rfl (lv_at hl 0 rfl) ?_
  refine nb_get (ci := 11) hx hb hts iX11_stop_X11 hown hE hP 0 mbo_0 rfl 17 (by decide) qX11_stop_44 rfl rfl dX11_stop_17 ?_
  exact nb_aret (rt := .object "NightBookModel$Stop") hx hb hr ⟨_, rfl⟩ hlocks hP hS (nSo hf) dX11_stop_20
def l_X11_stop_0 (N : Nat) : nS → Int32 → Int32 → Option (Int32 × nS) := b_X11_stop_0 N
theorem kl_X11_stop_0 {p : Program} {l : Launch} {e : Env} {s : State} {m : MethodId} {args : Array Value} {below : List Frame} {meth : Method} {c : Code} {D : va_G} {A : Nat → Prop} {cy : Nat → ClassId} {a kt vt : Nat → Nat} {N : Nat}   (C0 : nCx p s m args meth c cX11_stop 3 (some (.object "NightBookModel$Stop")) RX11 wsX11_stop) (hE : nEn D A cy (Mw cy a) kt vt s) {z : Int32 × nS} : ∀ (σ : nS) (x1 : Int32) (x2 : Int32) (H : Heap) (locs : List Loc) (ls : Array Slot), lv_has ls 3 [(0, .ref (a 0)), (1, .int x1), (2, .int x2)] → va_P D vwCl ((Mw cy a) σ) H → va_S A s.heap H locs → l_X11_stop_0 N σ x1 x2 = some z → W p l e ({ frames := 0, cells := 0, slots := 0, locals := 0 } : Room) s m args below meth c H locs 0 0 (nQr below D A (Mw cy a) args s (a 9) z) (F0 m 0 ls []) := by
  exact kb_X11_stop_0 (N := N)  C0 hE
def f_X11_stop (N : Nat) (x1 : Int32) (x2 : Int32) (σ : nS) : Option (Int32 × nS) := l_X11_stop_0 N σ x1 x2
set_option maxHeartbeats 4000000 in
set_option maxRecDepth 100000 in
theorem c_X11_stop {l : Launch} {D : va_G} {A : Nat → Prop} {cy : Nat → ClassId} {a kt vt : Nat → Nat} {N : Nat}   {x1 : Int32} {x2 : Int32} {σ : nS} {r : Int32} {σ' : nS} (hf : f_X11_stop N x1 x2 σ = some (r, σ')) : nMr l yX11_stop wsX11_stop ({ frames := 0, cells := 0, slots := 0, locals := 0 } : Room) D A cy (Mw cy a) kt vt [.ref (a 0), .int x1, .int x2] σ (a 9) σ' := by
  refine Met.ofW (cc := cX11_stop) (maxL := 3) (ret := (some (.object "NightBookModel$Stop"))) (by decide) rfl ?_
  intro p e s m args below meth c s₁ B hml hv
  obtain ⟨rfl, hP, hE⟩ := hv
  have hl := lv_entry ([.ref (a 0), .int x1, .int x2]) (n := 3) (Nat.le_of_ble_eq_true rfl)
  rw [lg_entry_eq]
  generalize (lg_sl ([.ref (a 0), .int x1, .int x2]) ++ List.replicate (3 - (lg_sl ([.ref (a 0), .int x1, .int x2])).length) Slot.unset).toArray = ls at hl ⊢
  have hts0 := atoms_spec (ws := wsX11_stop) B.pre
  have C0 : nCx p s m _ meth c cX11_stop 3 (some (.object "NightBookModel$Stop")) RX11 wsX11_stop := ⟨B.exec, B.bytes, B.returns, hml, findClass_of_methodNamed B.named, hts0, B.notSynchronized⟩
  exact kl_X11_stop_0 (N := N)  C0 hE (z := (r, σ')) σ x1 x2 _ _ ls hl hP va_S.rf hf

/-! X11_needWord -/
set_option maxRecDepth 20000 in
theorem iX11_needWord_X11 : ∀ w ∈ u_ws RX11 TX11 68, w ∈ wsX11_needWord := fun _ h => List.mem_cons_of_mem _ (List.mem_append_right _ h)
set_option maxRecDepth 20000 in
theorem qX11_needWord_169 : Cond.fieldLink RX11 169 RX11 (TX11 23).2.1 (TX11 23).2.2.1 ∈ wsX11_needWord := by decide +kernel
def b_X11_needWord_0 (N : Nat) (j : Nat) (σ : nS) : Option (Option Int32 × nS) := nBd (f_X11_isWord N j σ) (fun r1 σ2 => (if r1 = 0 then nBd (f_X11_stop N 1 (σ2.1 0 23) σ2) (fun r5 σ6 => some (none, σ6)) else nBd (f_X11_next N σ2) (fun r3 σ4 => some (some 0, σ4))))
set_option maxHeartbeats 4000000 in
set_option maxRecDepth 100000 in
theorem kb_X11_needWord_0 {p : Program} {l : Launch} {e : Env} {s : State} {m : MethodId} {args : Array Value} {below : List Frame} {meth : Method} {c : Code} {D : va_G} {A : Nat → Prop} {cy : Nat → ClassId} {a kt vt : Nat → Nat} {N : Nat} {j : Nat} (hj : j < 12) (C0 : nCx p s m args meth c cX11_needWord 2 none RX11 wsX11_needWord) (hE : nEn D A cy (Mw cy a) kt vt s) (hT2 : ∀ w ∈ wTB, w.before args s = true) (hno : ∀ pc : Nat, ∀ x ∈ c.exceptionTable.toList, covers x pc = false) {z : Option Int32 × nS} : ∀ (σ : nS) (H : Heap) (locs : List Loc) (ls : Array Slot), lv_has ls 2 [(0, .ref (a 0)), (1, .ref (kt j))] → va_P D vwCl ((Mw cy a) σ) H → va_S A s.heap H locs → b_X11_needWord_0 N j σ = some z → W p l e ({ frames := 6, cells := 0, slots := 0, locals := 129 } : Room) s m args below meth c H locs 0 0 (nQx (nOv (a 9)) below D A (Mw cy a) s z) (F0 m 0 ls []) := by
  obtain ⟨hx, hb, hr, hml, hown, hts, hlocks⟩ := C0
  intro σ  H locs ls hl hP hS hf
  unfold b_X11_needWord_0 at hf
  refine lv_aload_n hx hb dX11_needWord_0 rfl (lv_at hl 0 rfl) ?_
  refine lv_aload_n hx hb dX11_needWord_1 rfl (lv_at hl 1 rfl) ?_
  obtain ⟨r1, σ2, hc2, hf⟩ := nBd_e hf
  refine nb_callVi (As := [.ref (kt j)]) (rest := []) ⟨hx, hb, hml, hown, hts⟩ (c_X11_isWord (D := D) (A := A) (cy := cy) (a := a) (kt := kt) (vt := vt) (l := l) hj hc2) (cwV 1 hts gX11_needWord_X11_isWord rfl rfl rfl (by decide +kernel) ⟨Nat.le_of_ble_eq_true rfl, Nat.le_of_ble_eq_true rfl⟩) hE hP hS mbo_0 rfl rfl hl.1 rfl (Nat.le_of_ble_eq_true rfl) dX11_needWord_2 (fun H locs hP hS => ?_)
  refine lv_if_ne (tgt := 18) hx hb dX11_needWord_5 (by decide) (fun hc => ?_) (fun hc => ?_)
  · replace hf := nIf_f hc hf
    refine lv_aload_n hx hb dX11_needWord_18 rfl (lv_at hl 0 rfl) ?_
    obtain ⟨r3, σ4, hc4, hf⟩ := nBd_e hf
    refine nb_callVv (As := []) (rest := []) ⟨hx, hb, hml, hown, hts⟩ (c_X11_next (D := D) (A := A) (cy := cy) (a := a) (kt := kt) (vt := vt) (l := l)  hc4) (cwV 0 hts gX11_needWord_X11_next rfl rfl rfl (by decide +kernel) ⟨Nat.le_of_ble_eq_true rfl, Nat.le_of_ble_eq_true rfl⟩) hE hP hS mbo_0 rfl rfl hl.1 rfl (Nat.le_of_ble_eq_true rfl) dX11_needWord_19 (fun H locs hP hS => ?_)
    exact nx_vret hx hb hr hlocks hP hS (nSo hf) dX11_needWord_22
  · replace hf := nIf_t hc hf
    refine lv_aload_n hx hb dX11_needWord_8 rfl (lv_at hl 0 rfl) ?_
    refine lv_iconst (v := 1) hx hb dX11_needWord_9 (by decide) ?_
    refine lv_aload_n hx hb dX11_needWord_10 rfl (lv_at hl 0 rfl) ?_
    refine nb_get (ci := 11) hx hb hts iX11_needWord_X11 hown hE hP 0 mbo_0 rfl 23 (by decide) qX11_needWord_169 rfl rfl dX11_needWord_11 ?_
    obtain ⟨r5, σ6, hc6, hf⟩ := nBd_e hf
    refine nb_callVr (As := [.int 1, .int (σ2.1 0 23)]) (rest := []) ⟨hx, hb, hml, hown, hT2⟩ (c_X11_stop (D := D) (A := A) (cy := cy) (a := a) (kt := kt) (vt := vt) (l := l)  hc6) (cwV 2 hT2 gT_X11_stop rfl rfl rfl (by decide +kernel) ⟨Nat.le_of_ble_eq_true rfl, Nat.le_of_ble_eq_true rfl⟩) hE hP hS mbo_0 rfl rfl hl.1 rfl (Nat.le_of_ble_eq_true rfl) dX11_needWord_14 (fun H locs hP hS => ?_)
    exact nx_athrow hx hb (hno _) hlocks hP hS rfl (nSo hf) dX11_needWord_17
def l_X11_needWord_0 (N : Nat) (j : Nat) : nS → Option (Option Int32 × nS) := b_X11_needWord_0 N j
theorem kl_X11_needWord_0 {p : Program} {l : Launch} {e : Env} {s : State} {m : MethodId} {args : Array Value} {below : List Frame} {meth : Method} {c : Code} {D : va_G} {A : Nat → Prop} {cy : Nat → ClassId} {a kt vt : Nat → Nat} {N : Nat} {j : Nat} (hj : j < 12) (C0 : nCx p s m args meth c cX11_needWord 2 none RX11 wsX11_needWord) (hE : nEn D A cy (Mw cy a) kt vt s) (hT2 : ∀ w ∈ wTB, w.before args s = true) (hno : ∀ pc : Nat, ∀ x ∈ c.exceptionTable.toList, covers x pc = false) {z : Option Int32 × nS} : ∀ (σ : nS) (H : Heap) (locs : List Loc) (ls : Array Slot), lv_has ls 2 [(0, .ref (a 0)), (1, .ref (kt j))] → va_P D vwCl ((Mw cy a) σ) H → va_S A s.heap H locs → l_X11_needWord_0 N j σ = some z → W p l e ({ frames := 6, cells := 0, slots := 0, locals := 129 } : Room) s m args below meth c H locs 0 0 (nQx (nOv (a 9)) below D A (Mw cy a) s z) (F0 m 0 ls []) := by
  exact kb_X11_needWord_0 (N := N) hj C0 hE hT2 hno
def f_X11_needWord (N : Nat) (j : Nat) (σ : nS) : Option (Option Int32 × nS) := l_X11_needWord_0 N j σ
def wT_X11_needWord : List Cond := .code yX11_needWord cX11_needWord 2 none :: wTB
set_option maxRecDepth 100000 in
theorem sT_X11_needWord : ∀ w ∈ wsX11_needWord, w ∈ wT_X11_needWord := fun w h => List.mem_cons_of_mem _ (List.mem_append_left _ (ggX11_book_X11_reads w (ggX11_reads_X11_readStep w (ggX11_readStep_X11_needWord w h).1).1).1)
set_option maxRecDepth 100000 in
theorem gT_X11_needWord : GoodIn wTB (wsV RX11 228 RX11 yX11_needWord wT_X11_needWord) := goodIn_app (goodIn_of _ (by decide +kernel)) (goodIn_app (a := [.code yX11_needWord cX11_needWord 2 none]) (goodIn_of _ (by decide +kernel)) wTB_good)
set_option maxHeartbeats 4000000 in
set_option maxRecDepth 100000 in
theorem c_X11_needWord {l : Launch} {D : va_G} {A : Nat → Prop} {cy : Nat → ClassId} {a kt vt : Nat → Nat} {N : Nat} {j : Nat} (hj : j < 12) {σ : nS} {z : Option Int32 × nS} (hf : f_X11_needWord N j σ = some z) : nMx l yX11_needWord wT_X11_needWord ({ frames := 6, cells := 0, slots := 0, locals := 129 } : Room) D A cy (Mw cy a) kt vt [.ref (a 0), .ref (kt j)] σ (nOv (a 9)) z := by
  refine nMx_ofW (cc := cX11_needWord) (maxL := 2) (ret := none) (by decide) rfl ?_
  intro p e s m args below meth c s₁ B hml hv
  obtain ⟨rfl, hP, hE⟩ := hv
  have hl := lv_entry ([.ref (a 0), .ref (kt j)]) (n := 2) (Nat.le_of_ble_eq_true rfl)
  rw [lg_entry_eq]
  generalize (lg_sl ([.ref (a 0), .ref (kt j)]) ++ List.replicate (2 - (lg_sl ([.ref (a 0), .ref (kt j)])).length) Slot.unset).toArray = ls at hl ⊢
  have hts0 := atoms_spec (ws := wT_X11_needWord) B.pre
  have hno : ∀ pc : Nat, ∀ x ∈ c.exceptionTable.toList, covers x pc = false := fun pc => covers_of_empty (B.noHandlers (hts0 _ List.mem_cons_self)) pc
  have hT2 : ∀ w ∈ wTB, w.before _ s = true := fun w h => hts0 w (List.mem_cons_of_mem _ h)
  have hts0 : ∀ w ∈ wsX11_needWord, w.before _ s = true := fun w h => hts0 w (sT_X11_needWord w h)
  have C0 : nCx p s m _ meth c cX11_needWord 2 none RX11 wsX11_needWord := ⟨B.exec, B.bytes, B.returns, hml, findClass_of_methodNamed B.named, hts0, B.notSynchronized⟩
  exact kl_X11_needWord_0 (N := N) hj C0 hE hT2 hno (z := z) σ  _ _ ls hl hP va_S.rf hf

/-! X11_needNumber -/
set_option maxRecDepth 20000 in
theorem iX11_needNumber_X11 : ∀ w ∈ u_ws RX11 TX11 68, w ∈ wsX11_needNumber := fun _ h => List.mem_cons_of_mem _ (List.mem_append_right _ h)
set_option maxRecDepth 20000 in
theorem qX11_needNumber_170 : Cond.fieldLink RX11 170 RX11 (TX11 22).2.1 (TX11 22).2.2.1 ∈ wsX11_needNumber := by decide +kernel
set_option maxRecDepth 20000 in
theorem qX11_needNumber_184 : Cond.fieldLink RX11 184 RX11 (TX11 24).2.1 (TX11 24).2.2.1 ∈ wsX11_needNumber := by decide +kernel
set_option maxRecDepth 20000 in
theorem qX11_needNumber_169 : Cond.fieldLink RX11 169 RX11 (TX11 23).2.1 (TX11 23).2.2.1 ∈ wsX11_needNumber := by decide +kernel
def b_X11_needNumber_0 (N : Nat) (σ : nS) (x1 : Int32) (x2 : Int32) : Option (Option Int32 × nS) := (if (σ.1 0 22) = 3 then nBd (f_X11_in N (σ.1 0 24) x1 x2 σ) (fun r1 σ2 => (if r1 = 0 then nBd (f_X11_stop N 2 (σ2.1 0 23) σ2) (fun r5 σ6 => some (none, σ6)) else nBd (f_X11_next N σ2) (fun r3 σ4 => some (some (σ2.1 0 24), σ4)))) else nBd (f_X11_stop N 1 (σ.1 0 23) σ) (fun r7 σ8 => some (none, σ8)))
set_option maxHeartbeats 4000000 in
set_option maxRecDepth 100000 in
theorem kb_X11_needNumber_0 {p : Program} {l : Launch} {e : Env} {s : State} {m : MethodId} {args : Array Value} {below : List Frame} {meth : Method} {c : Code} {D : va_G} {A : Nat → Prop} {cy : Nat → ClassId} {a kt vt : Nat → Nat} {N : Nat}   (C0 : nCx p s m args meth c cX11_needNumber 4 (some .int) RX11 wsX11_needNumber) (hE : nEn D A cy (Mw cy a) kt vt s) (hT2 : ∀ w ∈ wTB, w.before args s = true) (hno : ∀ pc : Nat, ∀ x ∈ c.exceptionTable.toList, covers x pc = false) {z : Option Int32 × nS} : ∀ (σ : nS) (x1 : Int32) (x2 : Int32) (H : Heap) (locs : List Loc) (ls : Array Slot), lv_has ls 4 [(0, .ref (a 0)), (1, .int x1), (2, .int x2)] → va_P D vwCl ((Mw cy a) σ) H → va_S A s.heap H locs → b_X11_needNumber_0 N σ x1 x2 = some z → W p l e ({ frames := 2, cells := 0, slots := 0, locals := 43 } : Room) s m args below meth c H locs 0 0 (nQx (nOi (a 9)) below D A (Mw cy a) s z) (F0 m 0 ls []) := by
  obtain ⟨hx, hb, hr, hml, hown, hts, hlocks⟩ := C0
  intro σ x1 x2 H locs ls hl hP hS hf
  unfold b_X11_needNumber_0 at hf
  refine lv_aload_n hx hb dX11_needNumber_0 rfl (lv_at hl 0 rfl) ?_
  refine nb_get (ci := 11) hx hb hts iX11_needNumber_X11 hown hE hP 0 mbo_0 rfl 22 (by decide) qX11_needNumber_170 rfl rfl dX11_needNumber_1 ?_
  refine lv_iconst (v := 3) hx hb dX11_needNumber_4 (by decide) ?_
  refine lv_icmp_eq (tgt := 18) hx hb dX11_needNumber_5 (by decide) (fun hc => ?_) (fun hc => ?_)
  · replace hf := nIf_t hc hf
    refine lv_aload_n hx hb dX11_needNumber_18 rfl (lv_at hl 0 rfl) ?_
    refine nb_get (ci := 11) hx hb hts iX11_needNumber_X11 hown hE hP 0 mbo_0 rfl 24 (by decide) qX11_needNumber_184 rfl rfl dX11_needNumber_19 ?_
    refine lv_iload_n hx hb dX11_needNumber_22 rfl (lv_at hl 1 rfl) ?_
    refine lv_iload_n hx hb dX11_needNumber_23 rfl (lv_at hl 2 rfl) ?_
    obtain ⟨r1, σ2, hc2, hf⟩ := nBd_e hf
    refine nb_callSi (As := [.int (σ.1 0 24), .int x1, .int x2]) (rest := []) ⟨hx, hb, hml, hown, hts⟩ (c_X11_in (D := D) (A := A) (cy := cy) (a := a) (kt := kt) (vt := vt) (l := l)  hc2) (va_cwS 3 hts gX11_needNumber_X11_in rfl rfl rfl (by decide +kernel) ⟨Nat.le_of_ble_eq_true rfl, Nat.le_of_ble_eq_true rfl⟩) hE hP hS rfl hl.1 rfl (Nat.le_of_ble_eq_true rfl) dX11_needNumber_24 (fun H locs hP hS => ?_)
    refine lv_if_ne (tgt := 40) hx hb dX11_needNumber_27 (by decide) (fun hc => ?_) (fun hc => ?_)
    · replace hf := nIf_f hc hf
      refine lv_aload_n hx hb dX11_needNumber_40 rfl (lv_at hl 0 rfl) ?_
      refine nb_get (ci := 11) hx hb hts iX11_needNumber_X11 hown hE hP 0 mbo_0 rfl 24 (by decide) qX11_needNumber_184 rfl rfl dX11_needNumber_41 ?_
      refine lv_istore_n (lv' := [(3, .int (σ2.1 0 24)), (0, .ref (a 0)), (1, .int x1), (2, .int x2)]) hx hb dX11_needNumber_44 rfl hl (by decide) rfl (fun ls hl => ?_)
      refine lv_aload_n hx hb dX11_needNumber_45 rfl (lv_at hl 1 rfl) ?_
      obtain ⟨r3, σ4, hc4, hf⟩ := nBd_e hf
      refine nb_callVv (As := []) (rest := []) ⟨hx, hb, hml, hown, hts⟩ (c_X11_next (D := D) (A := A) (cy := cy) (a := a) (kt := kt) (vt := vt) (l := l)  hc4) (cwV 0 hts gX11_needNumber_X11_next rfl rfl rfl (by decide +kernel) ⟨Nat.le_of_ble_eq_true rfl, Nat.le_of_ble_eq_true rfl⟩) hE hP hS mbo_0 rfl rfl hl.1 rfl (Nat.le_of_ble_eq_true rfl) dX11_needNumber_46 (fun H locs hP hS => ?_)
      refine lv_iload_n hx hb dX11_needNumber_49 rfl (lv_at hl 0 rfl) ?_
      exact nx_iret hx hb hr hlocks hP hS (nSo hf) dX11_needNumber_50
    · replace hf := nIf_t hc hf
      refine lv_aload_n hx hb dX11_needNumber_30 rfl (lv_at hl 0 rfl) ?_
      refine lv_iconst (v := 2) hx hb dX11_needNumber_31 (by decide) ?_
      refine lv_aload_n hx hb dX11_needNumber_32 rfl (lv_at hl 0 rfl) ?_
      refine nb_get (ci := 11) hx hb hts iX11_needNumber_X11 hown hE hP 0 mbo_0 rfl 23 (by decide) qX11_needNumber_169 rfl rfl dX11_needNumber_33 ?_
      obtain ⟨r5, σ6, hc6, hf⟩ := nBd_e hf
      refine nb_callVr (As := [.int 2, .int (σ2.1 0 23)]) (rest := []) ⟨hx, hb, hml, hown, hT2⟩ (c_X11_stop (D := D) (A := A) (cy := cy) (a := a) (kt := kt) (vt := vt) (l := l)  hc6) (cwV 2 hT2 gT_X11_stop rfl rfl rfl (by decide +kernel) ⟨Nat.le_of_ble_eq_true rfl, Nat.le_of_ble_eq_true rfl⟩) hE hP hS mbo_0 rfl rfl hl.1 rfl (Nat.le_of_ble_eq_true rfl) dX11_needNumber_36 (fun H locs hP hS => ?_)
      exact nx_athrow hx hb (hno _) hlocks hP hS rfl (nSo hf) dX11_needNumber_39
  · replace hf := nIf_f hc hf
    refine lv_aload_n hx hb dX11_needNumber_8 rfl (lv_at hl 0 rfl) ?_
    refine lv_iconst (v := 1) hx hb dX11_needNumber_9 (by decide) ?_
    refine lv_aload_n hx hb dX11_needNumber_10 rfl (lv_at hl 0 rfl) ?_
    refine nb_get (ci := 11) hx hb hts iX11_needNumber_X11 hown hE hP 0 mbo_0 rfl 23 (by decide) qX11_needNumber_169 rfl rfl dX11_needNumber_11 ?_
    obtain ⟨r7, σ8, hc8, hf⟩ := nBd_e hf
    refine nb_callVr (As := [.int 1, .int (σ.1 0 23)]) (rest := []) ⟨hx, hb, hml, hown, hT2⟩ (c_X11_stop (D := D) (A := A) (cy := cy) (a := a) (kt := kt) (vt := vt) (l := l)  hc8) (cwV 2 hT2 gT_X11_stop rfl rfl rfl (by decide +kernel) ⟨Nat.le_of_ble_eq_true rfl, Nat.le_of_ble_eq_true rfl⟩) hE hP hS mbo_0 rfl rfl hl.1 rfl (Nat.le_of_ble_eq_true rfl) dX11_needNumber_14 (fun H locs hP hS => ?_)
    exact nx_athrow hx hb (hno _) hlocks hP hS rfl (nSo hf) dX11_needNumber_17
def l_X11_needNumber_0 (N : Nat) : nS → Int32 → Int32 → Option (Option Int32 × nS) := b_X11_needNumber_0 N
theorem kl_X11_needNumber_0 {p : Program} {l : Launch} {e : Env} {s : State} {m : MethodId} {args : Array Value} {below : List Frame} {meth : Method} {c : Code} {D : va_G} {A : Nat → Prop} {cy : Nat → ClassId} {a kt vt : Nat → Nat} {N : Nat}   (C0 : nCx p s m args meth c cX11_needNumber 4 (some .int) RX11 wsX11_needNumber) (hE : nEn D A cy (Mw cy a) kt vt s) (hT2 : ∀ w ∈ wTB, w.before args s = true) (hno : ∀ pc : Nat, ∀ x ∈ c.exceptionTable.toList, covers x pc = false) {z : Option Int32 × nS} : ∀ (σ : nS) (x1 : Int32) (x2 : Int32) (H : Heap) (locs : List Loc) (ls : Array Slot), lv_has ls 4 [(0, .ref (a 0)), (1, .int x1), (2, .int x2)] → va_P D vwCl ((Mw cy a) σ) H → va_S A s.heap H locs → l_X11_needNumber_0 N σ x1 x2 = some z → W p l e ({ frames := 2, cells := 0, slots := 0, locals := 43 } : Room) s m args below meth c H locs 0 0 (nQx (nOi (a 9)) below D A (Mw cy a) s z) (F0 m 0 ls []) := by
  exact kb_X11_needNumber_0 (N := N)  C0 hE hT2 hno
def f_X11_needNumber (N : Nat) (x1 : Int32) (x2 : Int32) (σ : nS) : Option (Option Int32 × nS) := l_X11_needNumber_0 N σ x1 x2
def wT_X11_needNumber : List Cond := .code yX11_needNumber cX11_needNumber 4 (some .int) :: wTB
set_option maxRecDepth 100000 in
theorem sT_X11_needNumber : ∀ w ∈ wsX11_needNumber, w ∈ wT_X11_needNumber := fun w h => List.mem_cons_of_mem _ (List.mem_append_left _ (ggX11_book_X11_reads w (ggX11_reads_X11_readStep w (ggX11_readStep_X11_needNumber w h).1).1).1)
set_option maxRecDepth 100000 in
theorem gT_X11_needNumber : GoodIn wTB (wsV RX11 218 RX11 yX11_needNumber wT_X11_needNumber) := goodIn_app (goodIn_of _ (by decide +kernel)) (goodIn_app (a := [.code yX11_needNumber cX11_needNumber 4 (some .int)]) (goodIn_of _ (by decide +kernel)) wTB_good)
set_option maxHeartbeats 4000000 in
set_option maxRecDepth 100000 in
theorem c_X11_needNumber {l : Launch} {D : va_G} {A : Nat → Prop} {cy : Nat → ClassId} {a kt vt : Nat → Nat} {N : Nat}   {x1 : Int32} {x2 : Int32} {σ : nS} {z : Option Int32 × nS} (hf : f_X11_needNumber N x1 x2 σ = some z) : nMx l yX11_needNumber wT_X11_needNumber ({ frames := 2, cells := 0, slots := 0, locals := 43 } : Room) D A cy (Mw cy a) kt vt [.ref (a 0), .int x1, .int x2] σ (nOi (a 9)) z := by
  refine nMx_ofW (cc := cX11_needNumber) (maxL := 4) (ret := (some .int)) (by decide) rfl ?_
  intro p e s m args below meth c s₁ B hml hv
  obtain ⟨rfl, hP, hE⟩ := hv
  have hl := lv_entry ([.ref (a 0), .int x1, .int x2]) (n := 4) (Nat.le_of_ble_eq_true rfl)
  rw [lg_entry_eq]
  generalize (lg_sl ([.ref (a 0), .int x1, .int x2]) ++ List.replicate (4 - (lg_sl ([.ref (a 0), .int x1, .int x2])).length) Slot.unset).toArray = ls at hl ⊢
  have hts0 := atoms_spec (ws := wT_X11_needNumber) B.pre
  have hno : ∀ pc : Nat, ∀ x ∈ c.exceptionTable.toList, covers x pc = false := fun pc => covers_of_empty (B.noHandlers (hts0 _ List.mem_cons_self)) pc
  have hT2 : ∀ w ∈ wTB, w.before _ s = true := fun w h => hts0 w (List.mem_cons_of_mem _ h)
  have hts0 : ∀ w ∈ wsX11_needNumber, w.before _ s = true := fun w h => hts0 w (sT_X11_needNumber w h)
  have C0 : nCx p s m _ meth c cX11_needNumber 4 (some .int) RX11 wsX11_needNumber := ⟨B.exec, B.bytes, B.returns, hml, findClass_of_methodNamed B.named, hts0, B.notSynchronized⟩
  exact kl_X11_needNumber_0 (N := N)  C0 hE hT2 hno (z := z) σ x1 x2 _ _ ls hl hP va_S.rf hf

/-! X11_needTarget -/
set_option maxRecDepth 20000 in
theorem iX11_needTarget_X11 : ∀ w ∈ u_ws RX11 TX11 68, w ∈ wsX11_needTarget := fun _ h => List.mem_cons_of_mem _ (List.mem_append_right _ h)
set_option maxRecDepth 20000 in
theorem qX11_needTarget_170 : Cond.fieldLink RX11 170 RX11 (TX11 22).2.1 (TX11 22).2.2.1 ∈ wsX11_needTarget := by decide +kernel
set_option maxRecDepth 20000 in
theorem qX11_needTarget_52 : Cond.fieldLink RX11 52 RX11 (TX11 27).2.1 (TX11 27).2.2.1 ∈ wsX11_needTarget := by decide +kernel
set_option maxRecDepth 20000 in
theorem qX11_needTarget_169 : Cond.fieldLink RX11 169 RX11 (TX11 23).2.1 (TX11 23).2.2.1 ∈ wsX11_needTarget := by decide +kernel
set_option maxRecDepth 20000 in
theorem qX11_needTarget_184 : Cond.fieldLink RX11 184 RX11 (TX11 24).2.1 (TX11 24).2.2.1 ∈ wsX11_needTarget := by decide +kernel
def b_X11_needTarget_0 (N : Nat) (σ : nS) (x1 : Int32) (x2 : Int32) : Option (Option Int32 × nS) := (if (σ.1 0 22) = 3 then nLet ((2 : Int32) * x1 : Int32) (fun v1 => nLet (v1 + x2 : Int32) (fun v2 => nIx v2 48 (nLet (wr σ 11 (v2).toNatClampNeg (σ.1 0 23)) (fun σ3 => nBd (f_X11_next N σ3) (fun r4 σ5 => some (some (σ3.1 0 24), σ5)))))) else nBd (f_X11_stop N 1 (σ.1 0 23) σ) (fun r6 σ7 => some (none, σ7)))
set_option maxHeartbeats 4000000 in
set_option maxRecDepth 100000 in
theorem kb_X11_needTarget_0 {p : Program} {l : Launch} {e : Env} {s : State} {m : MethodId} {args : Array Value} {below : List Frame} {meth : Method} {c : Code} {D : va_G} {A : Nat → Prop} {cy : Nat → ClassId} {a kt vt : Nat → Nat} {N : Nat}   (C0 : nCx p s m args meth c cX11_needTarget 4 (some .int) RX11 wsX11_needTarget) (hE : nEn D A cy (Mw cy a) kt vt s) (hT2 : ∀ w ∈ wTB, w.before args s = true) (hno : ∀ pc : Nat, ∀ x ∈ c.exceptionTable.toList, covers x pc = false) {z : Option Int32 × nS} : ∀ (σ : nS) (x1 : Int32) (x2 : Int32) (H : Heap) (locs : List Loc) (ls : Array Slot), lv_has ls 4 [(0, .ref (a 0)), (1, .int x1), (2, .int x2)] → va_P D vwCl ((Mw cy a) σ) H → va_S A s.heap H locs → b_X11_needTarget_0 N σ x1 x2 = some z → W p l e ({ frames := 2, cells := 0, slots := 0, locals := 43 } : Room) s m args below meth c H locs 0 0 (nQx (nOi (a 9)) below D A (Mw cy a) s z) (F0 m 0 ls []) := by
  obtain ⟨hx, hb, hr, hml, hown, hts, hlocks⟩ := C0
  intro σ x1 x2 H locs ls hl hP hS hf
  unfold b_X11_needTarget_0 at hf
  refine lv_aload_n hx hb dX11_needTarget_0 rfl (lv_at hl 0 rfl) ?_
  refine nb_get (ci := 11) hx hb hts iX11_needTarget_X11 hown hE hP 0 mbo_0 rfl 22 (by decide) qX11_needTarget_170 rfl rfl dX11_needTarget_1 ?_
  refine lv_iconst (v := 3) hx hb dX11_needTarget_4 (by decide) ?_
  refine lv_icmp_eq (tgt := 18) hx hb dX11_needTarget_5 (by decide) (fun hc => ?_) (fun hc => ?_)
  · replace hf := nIf_t hc hf
    refine lv_aload_n hx hb dX11_needTarget_18 rfl (lv_at hl 0 rfl) ?_
    refine nb_get (ci := 11) hx hb hts iX11_needTarget_X11 hown hE hP 0 mbo_0 rfl 27 (by decide) qX11_needTarget_52 rfl rfl dX11_needTarget_19 ?_
    refine lv_iconst (v := 2) hx hb dX11_needTarget_22 (by decide) ?_
    refine lv_iload_n hx hb dX11_needTarget_23 rfl (lv_at hl 1 rfl) ?_
    refine lv_imul hx hb dX11_needTarget_24 ?_
    refine lv_topi (fun v1 ev1 => ?_)
    replace hf := nLet_e hf ev1
    refine lv_iload_n hx hb dX11_needTarget_25 rfl (lv_at hl 2 rfl) ?_
    refine lv_iadd hx hb dX11_needTarget_26 ?_
    refine lv_topi (fun v2 ev2 => ?_)
    replace hf := nLet_e hf ev2
    refine lv_aload_n hx hb dX11_needTarget_27 rfl (lv_at hl 0 rfl) ?_
    refine nb_get (ci := 11) hx hb hts iX11_needTarget_X11 hown hE hP 0 mbo_0 rfl 23 (by decide) qX11_needTarget_169 rfl rfl dX11_needTarget_28 ?_
    obtain ⟨hin, hf⟩ := nIx_e hf
    refine na_iast hx hb hE hP hS mbr_11 hin dX11_needTarget_31 (fun σ3 eσ3 H locs hP hS => ?_)
    replace hf := nLet_e hf eσ3
    refine lv_aload_n hx hb dX11_needTarget_32 rfl (lv_at hl 0 rfl) ?_
    refine nb_get (ci := 11) hx hb hts iX11_needTarget_X11 hown hE hP 0 mbo_0 rfl 24 (by decide) qX11_needTarget_184 rfl rfl dX11_needTarget_33 ?_
    refine lv_istore_n (lv' := [(3, .int (σ3.1 0 24)), (0, .ref (a 0)), (1, .int x1), (2, .int x2)]) hx hb dX11_needTarget_36 rfl hl (by decide) rfl (fun ls hl => ?_)
    refine lv_aload_n hx hb dX11_needTarget_37 rfl (lv_at hl 1 rfl) ?_
    obtain ⟨r4, σ5, hc5, hf⟩ := nBd_e hf
    refine nb_callVv (As := []) (rest := []) ⟨hx, hb, hml, hown, hts⟩ (c_X11_next (D := D) (A := A) (cy := cy) (a := a) (kt := kt) (vt := vt) (l := l)  hc5) (cwV 0 hts gX11_needTarget_X11_next rfl rfl rfl (by decide +kernel) ⟨Nat.le_of_ble_eq_true rfl, Nat.le_of_ble_eq_true rfl⟩) hE hP hS mbo_0 rfl rfl hl.1 rfl (Nat.le_of_ble_eq_true rfl) dX11_needTarget_38 (fun H locs hP hS => ?_)
    refine lv_iload_n hx hb dX11_needTarget_41 rfl (lv_at hl 0 rfl) ?_
    exact nx_iret hx hb hr hlocks hP hS (nSo hf) dX11_needTarget_42
  · replace hf := nIf_f hc hf
    refine lv_aload_n hx hb dX11_needTarget_8 rfl (lv_at hl 0 rfl) ?_
    refine lv_iconst (v := 1) hx hb dX11_needTarget_9 (by decide) ?_
    refine lv_aload_n hx hb dX11_needTarget_10 rfl (lv_at hl 0 rfl) ?_
    refine nb_get (ci := 11) hx hb hts iX11_needTarget_X11 hown hE hP 0 mbo_0 rfl 23 (by decide) qX11_needTarget_169 rfl rfl dX11_needTarget_11 ?_
    obtain ⟨r6, σ7, hc7, hf⟩ := nBd_e hf
    refine nb_callVr (As := [.int 1, .int (σ.1 0 23)]) (rest := []) ⟨hx, hb, hml, hown, hT2⟩ (c_X11_stop (D := D) (A := A) (cy := cy) (a := a) (kt := kt) (vt := vt) (l := l)  hc7) (cwV 2 hT2 gT_X11_stop rfl rfl rfl (by decide +kernel) ⟨Nat.le_of_ble_eq_true rfl, Nat.le_of_ble_eq_true rfl⟩) hE hP hS mbo_0 rfl rfl hl.1 rfl (Nat.le_of_ble_eq_true rfl) dX11_needTarget_14 (fun H locs hP hS => ?_)
    exact nx_athrow hx hb (hno _) hlocks hP hS rfl (nSo hf) dX11_needTarget_17
def l_X11_needTarget_0 (N : Nat) : nS → Int32 → Int32 → Option (Option Int32 × nS) := b_X11_needTarget_0 N
theorem kl_X11_needTarget_0 {p : Program} {l : Launch} {e : Env} {s : State} {m : MethodId} {args : Array Value} {below : List Frame} {meth : Method} {c : Code} {D : va_G} {A : Nat → Prop} {cy : Nat → ClassId} {a kt vt : Nat → Nat} {N : Nat}   (C0 : nCx p s m args meth c cX11_needTarget 4 (some .int) RX11 wsX11_needTarget) (hE : nEn D A cy (Mw cy a) kt vt s) (hT2 : ∀ w ∈ wTB, w.before args s = true) (hno : ∀ pc : Nat, ∀ x ∈ c.exceptionTable.toList, covers x pc = false) {z : Option Int32 × nS} : ∀ (σ : nS) (x1 : Int32) (x2 : Int32) (H : Heap) (locs : List Loc) (ls : Array Slot), lv_has ls 4 [(0, .ref (a 0)), (1, .int x1), (2, .int x2)] → va_P D vwCl ((Mw cy a) σ) H → va_S A s.heap H locs → l_X11_needTarget_0 N σ x1 x2 = some z → W p l e ({ frames := 2, cells := 0, slots := 0, locals := 43 } : Room) s m args below meth c H locs 0 0 (nQx (nOi (a 9)) below D A (Mw cy a) s z) (F0 m 0 ls []) := by
  exact kb_X11_needTarget_0 (N := N)  C0 hE hT2 hno
def f_X11_needTarget (N : Nat) (x1 : Int32) (x2 : Int32) (σ : nS) : Option (Option Int32 × nS) := l_X11_needTarget_0 N σ x1 x2
def wT_X11_needTarget : List Cond := .code yX11_needTarget cX11_needTarget 4 (some .int) :: wTB
set_option maxRecDepth 100000 in
theorem sT_X11_needTarget : ∀ w ∈ wsX11_needTarget, w ∈ wT_X11_needTarget := fun w h => List.mem_cons_of_mem _ (List.mem_append_left _ (ggX11_book_X11_reads w (ggX11_reads_X11_readStep w (ggX11_readStep_X11_needTarget w h).1).1).1)
set_option maxRecDepth 100000 in
theorem gT_X11_needTarget : GoodIn wTB (wsV RX11 237 RX11 yX11_needTarget wT_X11_needTarget) := goodIn_app (goodIn_of _ (by decide +kernel)) (goodIn_app (a := [.code yX11_needTarget cX11_needTarget 4 (some .int)]) (goodIn_of _ (by decide +kernel)) wTB_good)
set_option maxHeartbeats 4000000 in
set_option maxRecDepth 100000 in
theorem c_X11_needTarget {l : Launch} {D : va_G} {A : Nat → Prop} {cy : Nat → ClassId} {a kt vt : Nat → Nat} {N : Nat}   {x1 : Int32} {x2 : Int32} {σ : nS} {z : Option Int32 × nS} (hf : f_X11_needTarget N x1 x2 σ = some z) : nMx l yX11_needTarget wT_X11_needTarget ({ frames := 2, cells := 0, slots := 0, locals := 43 } : Room) D A cy (Mw cy a) kt vt [.ref (a 0), .int x1, .int x2] σ (nOi (a 9)) z := by
  refine nMx_ofW (cc := cX11_needTarget) (maxL := 4) (ret := (some .int)) (by decide) rfl ?_
  intro p e s m args below meth c s₁ B hml hv
  obtain ⟨rfl, hP, hE⟩ := hv
  have hl := lv_entry ([.ref (a 0), .int x1, .int x2]) (n := 4) (Nat.le_of_ble_eq_true rfl)
  rw [lg_entry_eq]
  generalize (lg_sl ([.ref (a 0), .int x1, .int x2]) ++ List.replicate (4 - (lg_sl ([.ref (a 0), .int x1, .int x2])).length) Slot.unset).toArray = ls at hl ⊢
  have hts0 := atoms_spec (ws := wT_X11_needTarget) B.pre
  have hno : ∀ pc : Nat, ∀ x ∈ c.exceptionTable.toList, covers x pc = false := fun pc => covers_of_empty (B.noHandlers (hts0 _ List.mem_cons_self)) pc
  have hT2 : ∀ w ∈ wTB, w.before _ s = true := fun w h => hts0 w (List.mem_cons_of_mem _ h)
  have hts0 : ∀ w ∈ wsX11_needTarget, w.before _ s = true := fun w h => hts0 w (sT_X11_needTarget w h)
  have C0 : nCx p s m _ meth c cX11_needTarget 4 (some .int) RX11 wsX11_needTarget := ⟨B.exec, B.bytes, B.returns, hml, findClass_of_methodNamed B.named, hts0, B.notSynchronized⟩
  exact kl_X11_needTarget_0 (N := N)  C0 hE hT2 hno (z := z) σ x1 x2 _ _ ls hl hP va_S.rf hf

/-! X11_readStep -/
set_option maxRecDepth 20000 in
theorem iX11_readStep_X11 : ∀ w ∈ u_ws RX11 TX11 68, w ∈ wsX11_readStep := fun _ h => List.mem_cons_of_mem _ (List.mem_append_right _ h)
set_option maxRecDepth 20000 in
theorem qX11_readStep_26 : Cond.fieldLink RX11 26 RX11 (TX11 12).2.1 (TX11 12).2.2.1 ∈ wsX11_readStep := by decide +kernel
set_option maxRecDepth 20000 in
theorem qX11_readStep_29 : Cond.fieldLink RX11 29 RX11 (TX11 13).2.1 (TX11 13).2.2.1 ∈ wsX11_readStep := by decide +kernel
set_option maxRecDepth 20000 in
theorem qX11_readStep_32 : Cond.fieldLink RX11 32 RX11 (TX11 14).2.1 (TX11 14).2.2.1 ∈ wsX11_readStep := by decide +kernel
set_option maxRecDepth 20000 in
theorem qX11_readStep_35 : Cond.fieldLink RX11 35 RX11 (TX11 15).2.1 (TX11 15).2.2.1 ∈ wsX11_readStep := by decide +kernel
set_option maxRecDepth 20000 in
theorem qX11_readStep_38 : Cond.fieldLink RX11 38 RX11 (TX11 16).2.1 (TX11 16).2.2.1 ∈ wsX11_readStep := by decide +kernel
set_option maxRecDepth 20000 in
theorem qX11_readStep_169 : Cond.fieldLink RX11 169 RX11 (TX11 23).2.1 (TX11 23).2.2.1 ∈ wsX11_readStep := by decide +kernel
set_option maxRecDepth 20000 in
theorem qX11_readStep_133 : Cond.fieldLink RX11 133 RX11 (TX11 5).2.1 (TX11 5).2.2.1 ∈ wsX11_readStep := by decide +kernel
set_option maxRecDepth 20000 in
theorem qX11_readStep_123 : Cond.fieldLink RX11 123 RX11 (TX11 4).2.1 (TX11 4).2.2.1 ∈ wsX11_readStep := by decide +kernel
def b_X11_readStep_132 (N : Nat) (σ : nS) (x1 : Int32) (y1 : Int32) (y2 : Int32) : Option (Option Int32 × nS) := nIx y1 120 (nLet (wr σ 4 (y1).toNatClampNeg y2) (fun σ1 => nBd (f_X11_next N σ1) (fun r2 σ3 => nLet ((σ3.1 0 4) - (1 : Int32) : Int32) (fun v4 => nBx (f_X11_needNumber N 0 v4 σ3) (fun r5 σ6 => nIx x1 120 (nLet (wr σ6 6 (x1).toNatClampNeg r5) (fun σ7 => nBx (f_X11_needWord N 7 σ7) (fun r8 σ9 => nBx (f_X11_needNumber N 1 60 σ9) (fun r10 σ11 => nIx x1 120 (nLet (wr σ11 7 (x1).toNatClampNeg r10) (fun σ12 => nBd (f_X11_isWord N 8 σ12) (fun r13 σ14 => (if r13 = 0 then some (some 0, σ14) else nBd (f_X11_next N σ14) (fun r15 σ16 => nLet ((σ16.1 0 4) - (1 : Int32) : Int32) (fun v17 => nBx (f_X11_needNumber N 0 v17 σ16) (fun r18 σ19 => nIx x1 120 (nLet (wr σ19 8 (x1).toNatClampNeg r18) (fun σ20 => nBx (f_X11_needWord N 9 σ20) (fun r21 σ22 => some (some 0, σ22))))))))))))))))))))
set_option maxHeartbeats 4000000 in
set_option maxRecDepth 100000 in
theorem kb_X11_readStep_132 {p : Program} {l : Launch} {e : Env} {s : State} {m : MethodId} {args : Array Value} {below : List Frame} {meth : Method} {c : Code} {D : va_G} {A : Nat → Prop} {cy : Nat → ClassId} {a kt vt : Nat → Nat} {N : Nat}   (C0 : nCx p s m args meth c cX11_readStep 4 none RX11 wsX11_readStep) (hE : nEn D A cy (Mw cy a) kt vt s) (hT2 : ∀ w ∈ wTB, w.before args s = true) (hno : ∀ pc : Nat, ∀ x ∈ c.exceptionTable.toList, covers x pc = false) {z : Option Int32 × nS} : ∀ (σ : nS) (x1 : Int32) (y1 : Int32) (y2 : Int32) (H : Heap) (locs : List Loc) (ls : Array Slot), lv_has ls 4 [(0, .ref (a 0)), (1, .int x1)] → va_P D vwCl ((Mw cy a) σ) H → va_S A s.heap H locs → b_X11_readStep_132 N σ x1 y1 y2 = some z → W p l e ({ frames := 7, cells := 0, slots := 0, locals := 150 } : Room) s m args below meth c H locs 0 0 (nQx (nOv (a 9)) below D A (Mw cy a) s z) (F0 m 132 ls [.int y2, .int y1, .ref (a 4)]) := by
  obtain ⟨hx, hb, hr, hml, hown, hts, hlocks⟩ := C0
  intro σ x1 y1 y2 H locs ls hl hP hS hf
  unfold b_X11_readStep_132 at hf
  obtain ⟨hin, hf⟩ := nIx_e hf
  refine na_iast hx hb hE hP hS mbr_4 hin dX11_readStep_132 (fun σ1 eσ1 H locs hP hS => ?_)
  replace hf := nLet_e hf eσ1
  refine lv_aload_n hx hb dX11_readStep_133 rfl (lv_at hl 0 rfl) ?_
  obtain ⟨r2, σ3, hc3, hf⟩ := nBd_e hf
  refine nb_callVv (As := []) (rest := []) ⟨hx, hb, hml, hown, hts⟩ (c_X11_next (D := D) (A := A) (cy := cy) (a := a) (kt := kt) (vt := vt) (l := l)  hc3) (cwV 0 hts gX11_readStep_X11_next rfl rfl rfl (by decide +kernel) ⟨Nat.le_of_ble_eq_true rfl, Nat.le_of_ble_eq_true rfl⟩) hE hP hS mbo_0 rfl rfl hl.1 rfl (Nat.le_of_ble_eq_true rfl) dX11_readStep_134 (fun H locs hP hS => ?_)
  refine lv_aload_n hx hb dX11_readStep_137 rfl (lv_at hl 0 rfl) ?_
  refine nb_get (ci := 11) hx hb hts iX11_readStep_X11 hown hE hP 0 mbo_0 rfl 14 (by decide) qX11_readStep_32 rfl rfl dX11_readStep_138 ?_
  refine lv_iload_n hx hb dX11_readStep_141 rfl (lv_at hl 1 rfl) ?_
  refine lv_aload_n hx hb dX11_readStep_142 rfl (lv_at hl 0 rfl) ?_
  refine lv_iconst (v := 0) hx hb dX11_readStep_143 (by decide) ?_
  refine lv_aload_n hx hb dX11_readStep_144 rfl (lv_at hl 0 rfl) ?_
  refine nb_get (ci := 11) hx hb hts iX11_readStep_X11 hown hE hP 0 mbo_0 rfl 4 (by decide) qX11_readStep_123 rfl rfl dX11_readStep_145 ?_
  refine lv_iconst (v := 1) hx hb dX11_readStep_148 (by decide) ?_
  refine lv_isub hx hb dX11_readStep_149 ?_
  refine lv_topi (fun v4 ev4 => ?_)
  replace hf := nLet_e hf ev4
  rcases (nBx_e hf).symm with ⟨σ6, hc6, hz⟩ | ⟨r5, σ6, hc6, hf⟩
  · exact nx_callVt (As := [.int 0, .int v4]) (rest := [.int x1, .ref (a 6)]) ⟨hx, hb, hml, hown, hT2⟩ (c_X11_needNumber (D := D) (A := A) (cy := cy) (a := a) (kt := kt) (vt := vt) (l := l)  hc6) (fun _ h => h) (cwV 2 hT2 gT_X11_needNumber rfl rfl rfl (by decide +kernel) ⟨Nat.le_of_ble_eq_true rfl, Nat.le_of_ble_eq_true rfl⟩) hE hP hS mbo_0 rfl rfl hl.1 rfl (Nat.le_of_ble_eq_true rfl) dX11_readStep_150 (hno _) hlocks rfl hz
  refine nb_callVi (As := [.int 0, .int v4]) (rest := [.int x1, .ref (a 6)]) ⟨hx, hb, hml, hown, hT2⟩ (nMx_i (c_X11_needNumber (D := D) (A := A) (cy := cy) (a := a) (kt := kt) (vt := vt) (l := l)  hc6)) (cwV 2 hT2 gT_X11_needNumber rfl rfl rfl (by decide +kernel) ⟨Nat.le_of_ble_eq_true rfl, Nat.le_of_ble_eq_true rfl⟩) hE hP hS mbo_0 rfl rfl hl.1 rfl (Nat.le_of_ble_eq_true rfl) dX11_readStep_150 (fun H locs hP hS => ?_)
  obtain ⟨hin, hf⟩ := nIx_e hf
  refine na_iast hx hb hE hP hS mbr_6 hin dX11_readStep_153 (fun σ7 eσ7 H locs hP hS => ?_)
  replace hf := nLet_e hf eσ7
  refine lv_aload_n hx hb dX11_readStep_154 rfl (lv_at hl 0 rfl) ?_
  refine va_ldcS hx hb hown (hE.2.2.2.2.1 (RX11, 226, "takes", 7) (by decide +kernel)) dX11_readStep_155 ?_
  rcases (nBx_e hf).symm with ⟨σ9, hc9, hz⟩ | ⟨r8, σ9, hc9, hf⟩
  · exact nx_callVt (As := [.ref (kt 7)]) (rest := []) ⟨hx, hb, hml, hown, hT2⟩ (c_X11_needWord (D := D) (A := A) (cy := cy) (a := a) (kt := kt) (vt := vt) (l := l) (by decide) hc9) (fun _ h => h) (cwV 1 hT2 gT_X11_needWord rfl rfl rfl (by decide +kernel) ⟨Nat.le_of_ble_eq_true rfl, Nat.le_of_ble_eq_true rfl⟩) hE hP hS mbo_0 rfl rfl hl.1 rfl (Nat.le_of_ble_eq_true rfl) dX11_readStep_157 (hno _) hlocks rfl hz
  refine nb_callVv (As := [.ref (kt 7)]) (rest := []) ⟨hx, hb, hml, hown, hT2⟩ (nMx_v (c_X11_needWord (D := D) (A := A) (cy := cy) (a := a) (kt := kt) (vt := vt) (l := l) (by decide) hc9)) (cwV 1 hT2 gT_X11_needWord rfl rfl rfl (by decide +kernel) ⟨Nat.le_of_ble_eq_true rfl, Nat.le_of_ble_eq_true rfl⟩) hE hP hS mbo_0 rfl rfl hl.1 rfl (Nat.le_of_ble_eq_true rfl) dX11_readStep_157 (fun H locs hP hS => ?_)
  refine lv_aload_n hx hb dX11_readStep_160 rfl (lv_at hl 0 rfl) ?_
  refine nb_get (ci := 11) hx hb hts iX11_readStep_X11 hown hE hP 0 mbo_0 rfl 15 (by decide) qX11_readStep_35 rfl rfl dX11_readStep_161 ?_
  refine lv_iload_n hx hb dX11_readStep_164 rfl (lv_at hl 1 rfl) ?_
  refine lv_aload_n hx hb dX11_readStep_165 rfl (lv_at hl 0 rfl) ?_
  refine lv_iconst (v := 1) hx hb dX11_readStep_166 (by decide) ?_
  refine lv_bipush (v := 60) hx hb dX11_readStep_167 (by decide) ?_
  rcases (nBx_e hf).symm with ⟨σ11, hc11, hz⟩ | ⟨r10, σ11, hc11, hf⟩
  · exact nx_callVt (As := [.int 1, .int 60]) (rest := [.int x1, .ref (a 7)]) ⟨hx, hb, hml, hown, hT2⟩ (c_X11_needNumber (D := D) (A := A) (cy := cy) (a := a) (kt := kt) (vt := vt) (l := l)  hc11) (fun _ h => h) (cwV 2 hT2 gT_X11_needNumber rfl rfl rfl (by decide +kernel) ⟨Nat.le_of_ble_eq_true rfl, Nat.le_of_ble_eq_true rfl⟩) hE hP hS mbo_0 rfl rfl hl.1 rfl (Nat.le_of_ble_eq_true rfl) dX11_readStep_169 (hno _) hlocks rfl hz
  refine nb_callVi (As := [.int 1, .int 60]) (rest := [.int x1, .ref (a 7)]) ⟨hx, hb, hml, hown, hT2⟩ (nMx_i (c_X11_needNumber (D := D) (A := A) (cy := cy) (a := a) (kt := kt) (vt := vt) (l := l)  hc11)) (cwV 2 hT2 gT_X11_needNumber rfl rfl rfl (by decide +kernel) ⟨Nat.le_of_ble_eq_true rfl, Nat.le_of_ble_eq_true rfl⟩) hE hP hS mbo_0 rfl rfl hl.1 rfl (Nat.le_of_ble_eq_true rfl) dX11_readStep_169 (fun H locs hP hS => ?_)
  obtain ⟨hin, hf⟩ := nIx_e hf
  refine na_iast hx hb hE hP hS mbr_7 hin dX11_readStep_172 (fun σ12 eσ12 H locs hP hS => ?_)
  replace hf := nLet_e hf eσ12
  refine lv_aload_n hx hb dX11_readStep_173 rfl (lv_at hl 0 rfl) ?_
  refine va_ldcS hx hb hown (hE.2.2.2.2.1 (RX11, 232, "if", 8) (by decide +kernel)) dX11_readStep_174 ?_
  obtain ⟨r13, σ14, hc14, hf⟩ := nBd_e hf
  refine nb_callVi (As := [.ref (kt 8)]) (rest := []) ⟨hx, hb, hml, hown, hts⟩ (c_X11_isWord (D := D) (A := A) (cy := cy) (a := a) (kt := kt) (vt := vt) (l := l) (by decide) hc14) (cwV 1 hts gX11_readStep_X11_isWord rfl rfl rfl (by decide +kernel) ⟨Nat.le_of_ble_eq_true rfl, Nat.le_of_ble_eq_true rfl⟩) hE hP hS mbo_0 rfl rfl hl.1 rfl (Nat.le_of_ble_eq_true rfl) dX11_readStep_176 (fun H locs hP hS => ?_)
  refine lv_if_eq (tgt := 299) hx hb dX11_readStep_179 (by decide) (fun hc => ?_) (fun hc => ?_)
  · replace hf := nIf_t hc hf
    exact nx_vret hx hb hr hlocks hP hS (nSo hf) dX11_readStep_299
  · replace hf := nIf_f hc hf
    refine lv_aload_n hx hb dX11_readStep_182 rfl (lv_at hl 0 rfl) ?_
    obtain ⟨r15, σ16, hc16, hf⟩ := nBd_e hf
    refine nb_callVv (As := []) (rest := []) ⟨hx, hb, hml, hown, hts⟩ (c_X11_next (D := D) (A := A) (cy := cy) (a := a) (kt := kt) (vt := vt) (l := l)  hc16) (cwV 0 hts gX11_readStep_X11_next rfl rfl rfl (by decide +kernel) ⟨Nat.le_of_ble_eq_true rfl, Nat.le_of_ble_eq_true rfl⟩) hE hP hS mbo_0 rfl rfl hl.1 rfl (Nat.le_of_ble_eq_true rfl) dX11_readStep_183 (fun H locs hP hS => ?_)
    refine lv_aload_n hx hb dX11_readStep_186 rfl (lv_at hl 0 rfl) ?_
    refine nb_get (ci := 11) hx hb hts iX11_readStep_X11 hown hE hP 0 mbo_0 rfl 16 (by decide) qX11_readStep_38 rfl rfl dX11_readStep_187 ?_
    refine lv_iload_n hx hb dX11_readStep_190 rfl (lv_at hl 1 rfl) ?_
    refine lv_aload_n hx hb dX11_readStep_191 rfl (lv_at hl 0 rfl) ?_
    refine lv_iconst (v := 0) hx hb dX11_readStep_192 (by decide) ?_
    refine lv_aload_n hx hb dX11_readStep_193 rfl (lv_at hl 0 rfl) ?_
    refine nb_get (ci := 11) hx hb hts iX11_readStep_X11 hown hE hP 0 mbo_0 rfl 4 (by decide) qX11_readStep_123 rfl rfl dX11_readStep_194 ?_
    refine lv_iconst (v := 1) hx hb dX11_readStep_197 (by decide) ?_
    refine lv_isub hx hb dX11_readStep_198 ?_
    refine lv_topi (fun v17 ev17 => ?_)
    replace hf := nLet_e hf ev17
    rcases (nBx_e hf).symm with ⟨σ19, hc19, hz⟩ | ⟨r18, σ19, hc19, hf⟩
    · exact nx_callVt (As := [.int 0, .int v17]) (rest := [.int x1, .ref (a 8)]) ⟨hx, hb, hml, hown, hT2⟩ (c_X11_needNumber (D := D) (A := A) (cy := cy) (a := a) (kt := kt) (vt := vt) (l := l)  hc19) (fun _ h => h) (cwV 2 hT2 gT_X11_needNumber rfl rfl rfl (by decide +kernel) ⟨Nat.le_of_ble_eq_true rfl, Nat.le_of_ble_eq_true rfl⟩) hE hP hS mbo_0 rfl rfl hl.1 rfl (Nat.le_of_ble_eq_true rfl) dX11_readStep_199 (hno _) hlocks rfl hz
    refine nb_callVi (As := [.int 0, .int v17]) (rest := [.int x1, .ref (a 8)]) ⟨hx, hb, hml, hown, hT2⟩ (nMx_i (c_X11_needNumber (D := D) (A := A) (cy := cy) (a := a) (kt := kt) (vt := vt) (l := l)  hc19)) (cwV 2 hT2 gT_X11_needNumber rfl rfl rfl (by decide +kernel) ⟨Nat.le_of_ble_eq_true rfl, Nat.le_of_ble_eq_true rfl⟩) hE hP hS mbo_0 rfl rfl hl.1 rfl (Nat.le_of_ble_eq_true rfl) dX11_readStep_199 (fun H locs hP hS => ?_)
    obtain ⟨hin, hf⟩ := nIx_e hf
    refine na_iast hx hb hE hP hS mbr_8 hin dX11_readStep_202 (fun σ20 eσ20 H locs hP hS => ?_)
    replace hf := nLet_e hf eσ20
    refine lv_aload_n hx hb dX11_readStep_203 rfl (lv_at hl 0 rfl) ?_
    refine va_ldcS hx hb hown (hE.2.2.2.2.1 (RX11, 234, "harm", 9) (by decide +kernel)) dX11_readStep_204 ?_
    rcases (nBx_e hf).symm with ⟨σ22, hc22, hz⟩ | ⟨r21, σ22, hc22, hf⟩
    · exact nx_callVt (As := [.ref (kt 9)]) (rest := []) ⟨hx, hb, hml, hown, hT2⟩ (c_X11_needWord (D := D) (A := A) (cy := cy) (a := a) (kt := kt) (vt := vt) (l := l) (by decide) hc22) (fun _ h => h) (cwV 1 hT2 gT_X11_needWord rfl rfl rfl (by decide +kernel) ⟨Nat.le_of_ble_eq_true rfl, Nat.le_of_ble_eq_true rfl⟩) hE hP hS mbo_0 rfl rfl hl.1 rfl (Nat.le_of_ble_eq_true rfl) dX11_readStep_206 (hno _) hlocks rfl hz
    refine nb_callVv (As := [.ref (kt 9)]) (rest := []) ⟨hx, hb, hml, hown, hT2⟩ (nMx_v (c_X11_needWord (D := D) (A := A) (cy := cy) (a := a) (kt := kt) (vt := vt) (l := l) (by decide) hc22)) (cwV 1 hT2 gT_X11_needWord rfl rfl rfl (by decide +kernel) ⟨Nat.le_of_ble_eq_true rfl, Nat.le_of_ble_eq_true rfl⟩) hE hP hS mbo_0 rfl rfl hl.1 rfl (Nat.le_of_ble_eq_true rfl) dX11_readStep_206 (fun H locs hP hS => ?_)
    refine lv_goto (tgt := 299) hx hb dX11_readStep_209 (by decide) ?_
    exact nx_vret hx hb hr hlocks hP hS (nSo hf) dX11_readStep_299
def b_X11_readStep_113 (N : Nat) (k132 : nS → Int32 → Int32 → Int32 → Option (Option Int32 × nS)) (σ : nS) (x1 : Int32) : Option (Option Int32 × nS) := nBd (f_X11_isWord N 6 σ) (fun r1 σ2 => (if r1 = 0 then k132 σ2 x1 x1 1 else k132 σ2 x1 x1 0))
set_option maxHeartbeats 4000000 in
set_option maxRecDepth 100000 in
theorem kb_X11_readStep_113 {p : Program} {l : Launch} {e : Env} {s : State} {m : MethodId} {args : Array Value} {below : List Frame} {meth : Method} {c : Code} {D : va_G} {A : Nat → Prop} {cy : Nat → ClassId} {a kt vt : Nat → Nat} {N : Nat}   (C0 : nCx p s m args meth c cX11_readStep 4 none RX11 wsX11_readStep) (hE : nEn D A cy (Mw cy a) kt vt s) (hT2 : ∀ w ∈ wTB, w.before args s = true) (hno : ∀ pc : Nat, ∀ x ∈ c.exceptionTable.toList, covers x pc = false) {z : Option Int32 × nS} {k132 : nS → Int32 → Int32 → Int32 → Option (Option Int32 × nS)} (K132 : ∀ (σ : nS) (x1 : Int32) (y1 : Int32) (y2 : Int32) (H : Heap) (locs : List Loc) (ls : Array Slot), lv_has ls 4 [(0, .ref (a 0)), (1, .int x1)] → va_P D vwCl ((Mw cy a) σ) H → va_S A s.heap H locs → k132 σ x1 y1 y2 = some z → W p l e ({ frames := 7, cells := 0, slots := 0, locals := 150 } : Room) s m args below meth c H locs 0 0 (nQx (nOv (a 9)) below D A (Mw cy a) s z) (F0 m 132 ls [.int y2, .int y1, .ref (a 4)])) : ∀ (σ : nS) (x1 : Int32) (H : Heap) (locs : List Loc) (ls : Array Slot), lv_has ls 4 [(0, .ref (a 0)), (1, .int x1)] → va_P D vwCl ((Mw cy a) σ) H → va_S A s.heap H locs → b_X11_readStep_113 N k132 σ x1 = some z → W p l e ({ frames := 7, cells := 0, slots := 0, locals := 150 } : Room) s m args below meth c H locs 0 0 (nQx (nOv (a 9)) below D A (Mw cy a) s z) (F0 m 113 ls []) := by
  obtain ⟨hx, hb, hr, hml, hown, hts, hlocks⟩ := C0
  intro σ x1 H locs ls hl hP hS hf
  unfold b_X11_readStep_113 at hf
  refine lv_aload_n hx hb dX11_readStep_113 rfl (lv_at hl 0 rfl) ?_
  refine nb_get (ci := 11) hx hb hts iX11_readStep_X11 hown hE hP 0 mbo_0 rfl 12 (by decide) qX11_readStep_26 rfl rfl dX11_readStep_114 ?_
  refine lv_iload_n hx hb dX11_readStep_117 rfl (lv_at hl 1 rfl) ?_
  refine lv_aload_n hx hb dX11_readStep_118 rfl (lv_at hl 0 rfl) ?_
  refine va_ldcS hx hb hown (hE.2.2.2.2.1 (RX11, 222, "right", 6) (by decide +kernel)) dX11_readStep_119 ?_
  obtain ⟨r1, σ2, hc2, hf⟩ := nBd_e hf
  refine nb_callVi (As := [.ref (kt 6)]) (rest := [.int x1, .ref (a 4)]) ⟨hx, hb, hml, hown, hts⟩ (c_X11_isWord (D := D) (A := A) (cy := cy) (a := a) (kt := kt) (vt := vt) (l := l) (by decide) hc2) (cwV 1 hts gX11_readStep_X11_isWord rfl rfl rfl (by decide +kernel) ⟨Nat.le_of_ble_eq_true rfl, Nat.le_of_ble_eq_true rfl⟩) hE hP hS mbo_0 rfl rfl hl.1 rfl (Nat.le_of_ble_eq_true rfl) dX11_readStep_121 (fun H locs hP hS => ?_)
  refine lv_if_eq (tgt := 131) hx hb dX11_readStep_124 (by decide) (fun hc => ?_) (fun hc => ?_)
  · replace hf := nIf_t hc hf
    refine lv_iconst (v := 1) hx hb dX11_readStep_131 (by decide) ?_
    exact K132 σ2 x1 x1 1 H locs ls (lv_sub hl [0, 1] rfl) hP hS hf
  · replace hf := nIf_f hc hf
    refine lv_iconst (v := 0) hx hb dX11_readStep_127 (by decide) ?_
    refine lv_goto (tgt := 132) hx hb dX11_readStep_128 (by decide) ?_
    exact K132 σ2 x1 x1 0 H locs ls (lv_sub hl [0, 1] rfl) hP hS hf
def b_X11_readStep_0 (N : Nat) (k113 : nS → Int32 → Option (Option Int32 × nS)) (σ : nS) (x1 : Int32) (x2 : Int32) (x3 : Int32) : Option (Option Int32 × nS) := nIx x1 120 (nLet (wr σ 4 (x1).toNatClampNeg x3) (fun σ1 => nIx x1 120 (nLet (wr σ1 5 (x1).toNatClampNeg 0) (fun σ2 => nIx x1 120 (nLet (wr σ2 6 (x1).toNatClampNeg 0) (fun σ3 => nIx x1 120 (nLet (wr σ3 7 (x1).toNatClampNeg 0) (fun σ4 => nIx x1 120 (nLet (wr σ4 8 (x1).toNatClampNeg (-1)) (fun σ5 => (if x3 = 0 then nBx (f_X11_needNumber N 0 7 σ5) (fun r6 σ7 => nIx x1 120 (nLet (wr σ7 5 (x1).toNatClampNeg r6) (fun σ8 => nBd (f_X11_isWord N 6 σ8) (fun r9 σ10 => (if r9 = 0 then nBd (f_X11_isWord N 5 σ10) (fun r11 σ12 => (if r11 = 0 then nBd (f_X11_stop N 1 (σ12.1 0 23) σ12) (fun r13 σ14 => some (none, σ14)) else k113 σ12 x1)) else k113 σ10 x1))))) else (if x3 = 1 then some (some 0, σ5) else (if x3 = 2 then nLet ((σ5.1 0 5) - (1 : Int32) : Int32) (fun v15 => nBx (f_X11_needNumber N 0 v15 σ5) (fun r16 σ17 => nIx x1 120 (nLet (wr σ17 5 (x1).toNatClampNeg r16) (fun σ18 => nBx (f_X11_needWord N 10 σ18) (fun r19 σ20 => nBx (f_X11_needTarget N x2 0 σ20) (fun r21 σ22 => nIx x1 120 (nLet (wr σ22 6 (x1).toNatClampNeg r21) (fun σ23 => nBx (f_X11_needWord N 11 σ23) (fun r24 σ25 => nBx (f_X11_needTarget N x2 1 σ25) (fun r26 σ27 => nIx x1 120 (nLet (wr σ27 7 (x1).toNatClampNeg r26) (fun σ28 => some (some 0, σ28))))))))))))) else (if x3 = 3 then nBx (f_X11_needNumber N 1 60 σ5) (fun r29 σ30 => nIx x1 120 (nLet (wr σ30 5 (x1).toNatClampNeg r29) (fun σ31 => some (some 0, σ31)))) else (if x3 = 4 then nBx (f_X11_needTarget N x2 0 σ5) (fun r32 σ33 => nIx x1 120 (nLet (wr σ33 5 (x1).toNatClampNeg r32) (fun σ34 => some (some 0, σ34)))) else some (some 0, σ5))))))))))))))))
set_option maxHeartbeats 4000000 in
set_option maxRecDepth 100000 in
theorem kb_X11_readStep_0 {p : Program} {l : Launch} {e : Env} {s : State} {m : MethodId} {args : Array Value} {below : List Frame} {meth : Method} {c : Code} {D : va_G} {A : Nat → Prop} {cy : Nat → ClassId} {a kt vt : Nat → Nat} {N : Nat}   (C0 : nCx p s m args meth c cX11_readStep 4 none RX11 wsX11_readStep) (hE : nEn D A cy (Mw cy a) kt vt s) (hT2 : ∀ w ∈ wTB, w.before args s = true) (hno : ∀ pc : Nat, ∀ x ∈ c.exceptionTable.toList, covers x pc = false) {z : Option Int32 × nS} {k113 : nS → Int32 → Option (Option Int32 × nS)} (K113 : ∀ (σ : nS) (x1 : Int32) (H : Heap) (locs : List Loc) (ls : Array Slot), lv_has ls 4 [(0, .ref (a 0)), (1, .int x1)] → va_P D vwCl ((Mw cy a) σ) H → va_S A s.heap H locs → k113 σ x1 = some z → W p l e ({ frames := 7, cells := 0, slots := 0, locals := 150 } : Room) s m args below meth c H locs 0 0 (nQx (nOv (a 9)) below D A (Mw cy a) s z) (F0 m 113 ls [])) : ∀ (σ : nS) (x1 : Int32) (x2 : Int32) (x3 : Int32) (H : Heap) (locs : List Loc) (ls : Array Slot), lv_has ls 4 [(0, .ref (a 0)), (1, .int x1), (2, .int x2), (3, .int x3)] → va_P D vwCl ((Mw cy a) σ) H → va_S A s.heap H locs → b_X11_readStep_0 N k113 σ x1 x2 x3 = some z → W p l e ({ frames := 7, cells := 0, slots := 0, locals := 150 } : Room) s m args below meth c H locs 0 0 (nQx (nOv (a 9)) below D A (Mw cy a) s z) (F0 m 0 ls []) := by
  obtain ⟨hx, hb, hr, hml, hown, hts, hlocks⟩ := C0
  intro σ x1 x2 x3 H locs ls hl hP hS hf
  unfold b_X11_readStep_0 at hf
  refine lv_aload_n hx hb dX11_readStep_0 rfl (lv_at hl 0 rfl) ?_
  refine nb_get (ci := 11) hx hb hts iX11_readStep_X11 hown hE hP 0 mbo_0 rfl 12 (by decide) qX11_readStep_26 rfl rfl dX11_readStep_1 ?_
  refine lv_iload_n hx hb dX11_readStep_4 rfl (lv_at hl 1 rfl) ?_
  refine lv_iload_n hx hb dX11_readStep_5 rfl (lv_at hl 3 rfl) ?_
  obtain ⟨hin, hf⟩ := nIx_e hf
  refine na_iast hx hb hE hP hS mbr_4 hin dX11_readStep_6 (fun σ1 eσ1 H locs hP hS => ?_)
  replace hf := nLet_e hf eσ1
  refine lv_aload_n hx hb dX11_readStep_7 rfl (lv_at hl 0 rfl) ?_
  refine nb_get (ci := 11) hx hb hts iX11_readStep_X11 hown hE hP 0 mbo_0 rfl 13 (by decide) qX11_readStep_29 rfl rfl dX11_readStep_8 ?_
  refine lv_iload_n hx hb dX11_readStep_11 rfl (lv_at hl 1 rfl) ?_
  refine lv_iconst (v := 0) hx hb dX11_readStep_12 (by decide) ?_
  obtain ⟨hin, hf⟩ := nIx_e hf
  refine na_iast hx hb hE hP hS mbr_5 hin dX11_readStep_13 (fun σ2 eσ2 H locs hP hS => ?_)
  replace hf := nLet_e hf eσ2
  refine lv_aload_n hx hb dX11_readStep_14 rfl (lv_at hl 0 rfl) ?_
  refine nb_get (ci := 11) hx hb hts iX11_readStep_X11 hown hE hP 0 mbo_0 rfl 14 (by decide) qX11_readStep_32 rfl rfl dX11_readStep_15 ?_
  refine lv_iload_n hx hb dX11_readStep_18 rfl (lv_at hl 1 rfl) ?_
  refine lv_iconst (v := 0) hx hb dX11_readStep_19 (by decide) ?_
  obtain ⟨hin, hf⟩ := nIx_e hf
  refine na_iast hx hb hE hP hS mbr_6 hin dX11_readStep_20 (fun σ3 eσ3 H locs hP hS => ?_)
  replace hf := nLet_e hf eσ3
  refine lv_aload_n hx hb dX11_readStep_21 rfl (lv_at hl 0 rfl) ?_
  refine nb_get (ci := 11) hx hb hts iX11_readStep_X11 hown hE hP 0 mbo_0 rfl 15 (by decide) qX11_readStep_35 rfl rfl dX11_readStep_22 ?_
  refine lv_iload_n hx hb dX11_readStep_25 rfl (lv_at hl 1 rfl) ?_
  refine lv_iconst (v := 0) hx hb dX11_readStep_26 (by decide) ?_
  obtain ⟨hin, hf⟩ := nIx_e hf
  refine na_iast hx hb hE hP hS mbr_7 hin dX11_readStep_27 (fun σ4 eσ4 H locs hP hS => ?_)
  replace hf := nLet_e hf eσ4
  refine lv_aload_n hx hb dX11_readStep_28 rfl (lv_at hl 0 rfl) ?_
  refine nb_get (ci := 11) hx hb hts iX11_readStep_X11 hown hE hP 0 mbo_0 rfl 16 (by decide) qX11_readStep_38 rfl rfl dX11_readStep_29 ?_
  refine lv_iload_n hx hb dX11_readStep_32 rfl (lv_at hl 1 rfl) ?_
  refine lv_iconst (v := (-1)) hx hb dX11_readStep_33 (by decide) ?_
  obtain ⟨hin, hf⟩ := nIx_e hf
  refine na_iast hx hb hE hP hS mbr_8 hin dX11_readStep_34 (fun σ5 eσ5 H locs hP hS => ?_)
  replace hf := nLet_e hf eσ5
  refine lv_iload_n hx hb dX11_readStep_35 rfl (lv_at hl 3 rfl) ?_
  by_cases hs0 : x3 = 0
  · replace hf := nIf_t hs0 hf
    refine lv_tableIn (tgt := 72) (off := 36) hx hb dX11_readStep_36 (by rw [hs0]; decide) (by rw [hs0]; decide) (by rw [hs0]; rfl) (by decide) ?_
    refine lv_aload_n hx hb dX11_readStep_72 rfl (lv_at hl 0 rfl) ?_
    refine nb_get (ci := 11) hx hb hts iX11_readStep_X11 hown hE hP 0 mbo_0 rfl 13 (by decide) qX11_readStep_29 rfl rfl dX11_readStep_73 ?_
    refine lv_iload_n hx hb dX11_readStep_76 rfl (lv_at hl 1 rfl) ?_
    refine lv_aload_n hx hb dX11_readStep_77 rfl (lv_at hl 0 rfl) ?_
    refine lv_iconst (v := 0) hx hb dX11_readStep_78 (by decide) ?_
    refine lv_bipush (v := 7) hx hb dX11_readStep_79 (by decide) ?_
    rcases (nBx_e hf).symm with ⟨σ7, hc7, hz⟩ | ⟨r6, σ7, hc7, hf⟩
    · exact nx_callVt (As := [.int 0, .int 7]) (rest := [.int x1, .ref (a 5)]) ⟨hx, hb, hml, hown, hT2⟩ (c_X11_needNumber (D := D) (A := A) (cy := cy) (a := a) (kt := kt) (vt := vt) (l := l)  hc7) (fun _ h => h) (cwV 2 hT2 gT_X11_needNumber rfl rfl rfl (by decide +kernel) ⟨Nat.le_of_ble_eq_true rfl, Nat.le_of_ble_eq_true rfl⟩) hE hP hS mbo_0 rfl rfl hl.1 rfl (Nat.le_of_ble_eq_true rfl) dX11_readStep_81 (hno _) hlocks rfl hz
    refine nb_callVi (As := [.int 0, .int 7]) (rest := [.int x1, .ref (a 5)]) ⟨hx, hb, hml, hown, hT2⟩ (nMx_i (c_X11_needNumber (D := D) (A := A) (cy := cy) (a := a) (kt := kt) (vt := vt) (l := l)  hc7)) (cwV 2 hT2 gT_X11_needNumber rfl rfl rfl (by decide +kernel) ⟨Nat.le_of_ble_eq_true rfl, Nat.le_of_ble_eq_true rfl⟩) hE hP hS mbo_0 rfl rfl hl.1 rfl (Nat.le_of_ble_eq_true rfl) dX11_readStep_81 (fun H locs hP hS => ?_)
    obtain ⟨hin, hf⟩ := nIx_e hf
    refine na_iast hx hb hE hP hS mbr_5 hin dX11_readStep_84 (fun σ8 eσ8 H locs hP hS => ?_)
    replace hf := nLet_e hf eσ8
    refine lv_aload_n hx hb dX11_readStep_85 rfl (lv_at hl 0 rfl) ?_
    refine va_ldcS hx hb hown (hE.2.2.2.2.1 (RX11, 222, "right", 6) (by decide +kernel)) dX11_readStep_86 ?_
    obtain ⟨r9, σ10, hc10, hf⟩ := nBd_e hf
    refine nb_callVi (As := [.ref (kt 6)]) (rest := []) ⟨hx, hb, hml, hown, hts⟩ (c_X11_isWord (D := D) (A := A) (cy := cy) (a := a) (kt := kt) (vt := vt) (l := l) (by decide) hc10) (cwV 1 hts gX11_readStep_X11_isWord rfl rfl rfl (by decide +kernel) ⟨Nat.le_of_ble_eq_true rfl, Nat.le_of_ble_eq_true rfl⟩) hE hP hS mbo_0 rfl rfl hl.1 rfl (Nat.le_of_ble_eq_true rfl) dX11_readStep_88 (fun H locs hP hS => ?_)
    refine lv_if_ne (tgt := 113) hx hb dX11_readStep_91 (by decide) (fun hc => ?_) (fun hc => ?_)
    · replace hf := nIf_f hc hf
      exact K113 σ10 x1 H locs ls (lv_sub hl [0, 1] rfl) hP hS hf
    · replace hf := nIf_t hc hf
      refine lv_aload_n hx hb dX11_readStep_94 rfl (lv_at hl 0 rfl) ?_
      refine va_ldcS hx hb hown (hE.2.2.2.2.1 (RX11, 224, "wrong", 5) (by decide +kernel)) dX11_readStep_95 ?_
      obtain ⟨r11, σ12, hc12, hf⟩ := nBd_e hf
      refine nb_callVi (As := [.ref (kt 5)]) (rest := []) ⟨hx, hb, hml, hown, hts⟩ (c_X11_isWord (D := D) (A := A) (cy := cy) (a := a) (kt := kt) (vt := vt) (l := l) (by decide) hc12) (cwV 1 hts gX11_readStep_X11_isWord rfl rfl rfl (by decide +kernel) ⟨Nat.le_of_ble_eq_true rfl, Nat.le_of_ble_eq_true rfl⟩) hE hP hS mbo_0 rfl rfl hl.1 rfl (Nat.le_of_ble_eq_true rfl) dX11_readStep_97 (fun H locs hP hS => ?_)
      refine lv_if_ne (tgt := 113) hx hb dX11_readStep_100 (by decide) (fun hc => ?_) (fun hc => ?_)
      · replace hf := nIf_f hc hf
        exact K113 σ12 x1 H locs ls (lv_sub hl [0, 1] rfl) hP hS hf
      · replace hf := nIf_t hc hf
        refine lv_aload_n hx hb dX11_readStep_103 rfl (lv_at hl 0 rfl) ?_
        refine lv_iconst (v := 1) hx hb dX11_readStep_104 (by decide) ?_
        refine lv_aload_n hx hb dX11_readStep_105 rfl (lv_at hl 0 rfl) ?_
        refine nb_get (ci := 11) hx hb hts iX11_readStep_X11 hown hE hP 0 mbo_0 rfl 23 (by decide) qX11_readStep_169 rfl rfl dX11_readStep_106 ?_
        obtain ⟨r13, σ14, hc14, hf⟩ := nBd_e hf
        refine nb_callVr (As := [.int 1, .int (σ12.1 0 23)]) (rest := []) ⟨hx, hb, hml, hown, hT2⟩ (c_X11_stop (D := D) (A := A) (cy := cy) (a := a) (kt := kt) (vt := vt) (l := l)  hc14) (cwV 2 hT2 gT_X11_stop rfl rfl rfl (by decide +kernel) ⟨Nat.le_of_ble_eq_true rfl, Nat.le_of_ble_eq_true rfl⟩) hE hP hS mbo_0 rfl rfl hl.1 rfl (Nat.le_of_ble_eq_true rfl) dX11_readStep_109 (fun H locs hP hS => ?_)
        exact nx_athrow hx hb (hno _) hlocks hP hS rfl (nSo hf) dX11_readStep_112
  · replace hf := nIf_f hs0 hf
    by_cases hs1 : x3 = 1
    · replace hf := nIf_t hs1 hf
      refine lv_tableIn (tgt := 299) (off := 263) hx hb dX11_readStep_36 (by rw [hs1]; decide) (by rw [hs1]; decide) (by rw [hs1]; rfl) (by decide) ?_
      exact nx_vret hx hb hr hlocks hP hS (nSo hf) dX11_readStep_299
    · replace hf := nIf_f hs1 hf
      by_cases hs2 : x3 = 2
      · replace hf := nIf_t hs2 hf
        refine lv_tableIn (tgt := 212) (off := 176) hx hb dX11_readStep_36 (by rw [hs2]; decide) (by rw [hs2]; decide) (by rw [hs2]; rfl) (by decide) ?_
        refine lv_aload_n hx hb dX11_readStep_212 rfl (lv_at hl 0 rfl) ?_
        refine nb_get (ci := 11) hx hb hts iX11_readStep_X11 hown hE hP 0 mbo_0 rfl 13 (by decide) qX11_readStep_29 rfl rfl dX11_readStep_213 ?_
        refine lv_iload_n hx hb dX11_readStep_216 rfl (lv_at hl 1 rfl) ?_
        refine lv_aload_n hx hb dX11_readStep_217 rfl (lv_at hl 0 rfl) ?_
        refine lv_iconst (v := 0) hx hb dX11_readStep_218 (by decide) ?_
        refine lv_aload_n hx hb dX11_readStep_219 rfl (lv_at hl 0 rfl) ?_
        refine nb_get (ci := 11) hx hb hts iX11_readStep_X11 hown hE hP 0 mbo_0 rfl 5 (by decide) qX11_readStep_133 rfl rfl dX11_readStep_220 ?_
        refine lv_iconst (v := 1) hx hb dX11_readStep_223 (by decide) ?_
        refine lv_isub hx hb dX11_readStep_224 ?_
        refine lv_topi (fun v15 ev15 => ?_)
        replace hf := nLet_e hf ev15
        rcases (nBx_e hf).symm with ⟨σ17, hc17, hz⟩ | ⟨r16, σ17, hc17, hf⟩
        · exact nx_callVt (As := [.int 0, .int v15]) (rest := [.int x1, .ref (a 5)]) ⟨hx, hb, hml, hown, hT2⟩ (c_X11_needNumber (D := D) (A := A) (cy := cy) (a := a) (kt := kt) (vt := vt) (l := l)  hc17) (fun _ h => h) (cwV 2 hT2 gT_X11_needNumber rfl rfl rfl (by decide +kernel) ⟨Nat.le_of_ble_eq_true rfl, Nat.le_of_ble_eq_true rfl⟩) hE hP hS mbo_0 rfl rfl hl.1 rfl (Nat.le_of_ble_eq_true rfl) dX11_readStep_225 (hno _) hlocks rfl hz
        refine nb_callVi (As := [.int 0, .int v15]) (rest := [.int x1, .ref (a 5)]) ⟨hx, hb, hml, hown, hT2⟩ (nMx_i (c_X11_needNumber (D := D) (A := A) (cy := cy) (a := a) (kt := kt) (vt := vt) (l := l)  hc17)) (cwV 2 hT2 gT_X11_needNumber rfl rfl rfl (by decide +kernel) ⟨Nat.le_of_ble_eq_true rfl, Nat.le_of_ble_eq_true rfl⟩) hE hP hS mbo_0 rfl rfl hl.1 rfl (Nat.le_of_ble_eq_true rfl) dX11_readStep_225 (fun H locs hP hS => ?_)
        obtain ⟨hin, hf⟩ := nIx_e hf
        refine na_iast hx hb hE hP hS mbr_5 hin dX11_readStep_228 (fun σ18 eσ18 H locs hP hS => ?_)
        replace hf := nLet_e hf eσ18
        refine lv_aload_n hx hb dX11_readStep_229 rfl (lv_at hl 0 rfl) ?_
        refine va_ldcS hx hb hown (hE.2.2.2.2.1 (RX11, 235, "then", 10) (by decide +kernel)) dX11_readStep_230 ?_
        rcases (nBx_e hf).symm with ⟨σ20, hc20, hz⟩ | ⟨r19, σ20, hc20, hf⟩
        · exact nx_callVt (As := [.ref (kt 10)]) (rest := []) ⟨hx, hb, hml, hown, hT2⟩ (c_X11_needWord (D := D) (A := A) (cy := cy) (a := a) (kt := kt) (vt := vt) (l := l) (by decide) hc20) (fun _ h => h) (cwV 1 hT2 gT_X11_needWord rfl rfl rfl (by decide +kernel) ⟨Nat.le_of_ble_eq_true rfl, Nat.le_of_ble_eq_true rfl⟩) hE hP hS mbo_0 rfl rfl hl.1 rfl (Nat.le_of_ble_eq_true rfl) dX11_readStep_232 (hno _) hlocks rfl hz
        refine nb_callVv (As := [.ref (kt 10)]) (rest := []) ⟨hx, hb, hml, hown, hT2⟩ (nMx_v (c_X11_needWord (D := D) (A := A) (cy := cy) (a := a) (kt := kt) (vt := vt) (l := l) (by decide) hc20)) (cwV 1 hT2 gT_X11_needWord rfl rfl rfl (by decide +kernel) ⟨Nat.le_of_ble_eq_true rfl, Nat.le_of_ble_eq_true rfl⟩) hE hP hS mbo_0 rfl rfl hl.1 rfl (Nat.le_of_ble_eq_true rfl) dX11_readStep_232 (fun H locs hP hS => ?_)
        refine lv_aload_n hx hb dX11_readStep_235 rfl (lv_at hl 0 rfl) ?_
        refine nb_get (ci := 11) hx hb hts iX11_readStep_X11 hown hE hP 0 mbo_0 rfl 14 (by decide) qX11_readStep_32 rfl rfl dX11_readStep_236 ?_
        refine lv_iload_n hx hb dX11_readStep_239 rfl (lv_at hl 1 rfl) ?_
        refine lv_aload_n hx hb dX11_readStep_240 rfl (lv_at hl 0 rfl) ?_
        refine lv_iload_n hx hb dX11_readStep_241 rfl (lv_at hl 2 rfl) ?_
        refine lv_iconst (v := 0) hx hb dX11_readStep_242 (by decide) ?_
        rcases (nBx_e hf).symm with ⟨σ22, hc22, hz⟩ | ⟨r21, σ22, hc22, hf⟩
        · exact nx_callVt (As := [.int x2, .int 0]) (rest := [.int x1, .ref (a 6)]) ⟨hx, hb, hml, hown, hT2⟩ (c_X11_needTarget (D := D) (A := A) (cy := cy) (a := a) (kt := kt) (vt := vt) (l := l)  hc22) (fun _ h => h) (cwV 2 hT2 gT_X11_needTarget rfl rfl rfl (by decide +kernel) ⟨Nat.le_of_ble_eq_true rfl, Nat.le_of_ble_eq_true rfl⟩) hE hP hS mbo_0 rfl rfl hl.1 rfl (Nat.le_of_ble_eq_true rfl) dX11_readStep_243 (hno _) hlocks rfl hz
        refine nb_callVi (As := [.int x2, .int 0]) (rest := [.int x1, .ref (a 6)]) ⟨hx, hb, hml, hown, hT2⟩ (nMx_i (c_X11_needTarget (D := D) (A := A) (cy := cy) (a := a) (kt := kt) (vt := vt) (l := l)  hc22)) (cwV 2 hT2 gT_X11_needTarget rfl rfl rfl (by decide +kernel) ⟨Nat.le_of_ble_eq_true rfl, Nat.le_of_ble_eq_true rfl⟩) hE hP hS mbo_0 rfl rfl hl.1 rfl (Nat.le_of_ble_eq_true rfl) dX11_readStep_243 (fun H locs hP hS => ?_)
        obtain ⟨hin, hf⟩ := nIx_e hf
        refine na_iast hx hb hE hP hS mbr_6 hin dX11_readStep_246 (fun σ23 eσ23 H locs hP hS => ?_)
        replace hf := nLet_e hf eσ23
        refine lv_aload_n hx hb dX11_readStep_247 rfl (lv_at hl 0 rfl) ?_
        refine va_ldcS hx hb hown (hE.2.2.2.2.1 (RX11, 240, "else", 11) (by decide +kernel)) dX11_readStep_248 ?_
        rcases (nBx_e hf).symm with ⟨σ25, hc25, hz⟩ | ⟨r24, σ25, hc25, hf⟩
        · exact nx_callVt (As := [.ref (kt 11)]) (rest := []) ⟨hx, hb, hml, hown, hT2⟩ (c_X11_needWord (D := D) (A := A) (cy := cy) (a := a) (kt := kt) (vt := vt) (l := l) (by decide) hc25) (fun _ h => h) (cwV 1 hT2 gT_X11_needWord rfl rfl rfl (by decide +kernel) ⟨Nat.le_of_ble_eq_true rfl, Nat.le_of_ble_eq_true rfl⟩) hE hP hS mbo_0 rfl rfl hl.1 rfl (Nat.le_of_ble_eq_true rfl) dX11_readStep_250 (hno _) hlocks rfl hz
        refine nb_callVv (As := [.ref (kt 11)]) (rest := []) ⟨hx, hb, hml, hown, hT2⟩ (nMx_v (c_X11_needWord (D := D) (A := A) (cy := cy) (a := a) (kt := kt) (vt := vt) (l := l) (by decide) hc25)) (cwV 1 hT2 gT_X11_needWord rfl rfl rfl (by decide +kernel) ⟨Nat.le_of_ble_eq_true rfl, Nat.le_of_ble_eq_true rfl⟩) hE hP hS mbo_0 rfl rfl hl.1 rfl (Nat.le_of_ble_eq_true rfl) dX11_readStep_250 (fun H locs hP hS => ?_)
        refine lv_aload_n hx hb dX11_readStep_253 rfl (lv_at hl 0 rfl) ?_
        refine nb_get (ci := 11) hx hb hts iX11_readStep_X11 hown hE hP 0 mbo_0 rfl 15 (by decide) qX11_readStep_35 rfl rfl dX11_readStep_254 ?_
        refine lv_iload_n hx hb dX11_readStep_257 rfl (lv_at hl 1 rfl) ?_
        refine lv_aload_n hx hb dX11_readStep_258 rfl (lv_at hl 0 rfl) ?_
        refine lv_iload_n hx hb dX11_readStep_259 rfl (lv_at hl 2 rfl) ?_
        refine lv_iconst (v := 1) hx hb dX11_readStep_260 (by decide) ?_
        rcases (nBx_e hf).symm with ⟨σ27, hc27, hz⟩ | ⟨r26, σ27, hc27, hf⟩
        · exact nx_callVt (As := [.int x2, .int 1]) (rest := [.int x1, .ref (a 7)]) ⟨hx, hb, hml, hown, hT2⟩ (c_X11_needTarget (D := D) (A := A) (cy := cy) (a := a) (kt := kt) (vt := vt) (l := l)  hc27) (fun _ h => h) (cwV 2 hT2 gT_X11_needTarget rfl rfl rfl (by decide +kernel) ⟨Nat.le_of_ble_eq_true rfl, Nat.le_of_ble_eq_true rfl⟩) hE hP hS mbo_0 rfl rfl hl.1 rfl (Nat.le_of_ble_eq_true rfl) dX11_readStep_261 (hno _) hlocks rfl hz
        refine nb_callVi (As := [.int x2, .int 1]) (rest := [.int x1, .ref (a 7)]) ⟨hx, hb, hml, hown, hT2⟩ (nMx_i (c_X11_needTarget (D := D) (A := A) (cy := cy) (a := a) (kt := kt) (vt := vt) (l := l)  hc27)) (cwV 2 hT2 gT_X11_needTarget rfl rfl rfl (by decide +kernel) ⟨Nat.le_of_ble_eq_true rfl, Nat.le_of_ble_eq_true rfl⟩) hE hP hS mbo_0 rfl rfl hl.1 rfl (Nat.le_of_ble_eq_true rfl) dX11_readStep_261 (fun H locs hP hS => ?_)
        obtain ⟨hin, hf⟩ := nIx_e hf
        refine na_iast hx hb hE hP hS mbr_7 hin dX11_readStep_264 (fun σ28 eσ28 H locs hP hS => ?_)
        replace hf := nLet_e hf eσ28
        refine lv_goto (tgt := 299) hx hb dX11_readStep_265 (by decide) ?_
        exact nx_vret hx hb hr hlocks hP hS (nSo hf) dX11_readStep_299
      · replace hf := nIf_f hs2 hf
        by_cases hs3 : x3 = 3
        · replace hf := nIf_t hs3 hf
          refine lv_tableIn (tgt := 268) (off := 232) hx hb dX11_readStep_36 (by rw [hs3]; decide) (by rw [hs3]; decide) (by rw [hs3]; rfl) (by decide) ?_
          refine lv_aload_n hx hb dX11_readStep_268 rfl (lv_at hl 0 rfl) ?_
          refine nb_get (ci := 11) hx hb hts iX11_readStep_X11 hown hE hP 0 mbo_0 rfl 13 (by decide) qX11_readStep_29 rfl rfl dX11_readStep_269 ?_
          refine lv_iload_n hx hb dX11_readStep_272 rfl (lv_at hl 1 rfl) ?_
          refine lv_aload_n hx hb dX11_readStep_273 rfl (lv_at hl 0 rfl) ?_
          refine lv_iconst (v := 1) hx hb dX11_readStep_274 (by decide) ?_
          refine lv_bipush (v := 60) hx hb dX11_readStep_275 (by decide) ?_
          rcases (nBx_e hf).symm with ⟨σ30, hc30, hz⟩ | ⟨r29, σ30, hc30, hf⟩
          · exact nx_callVt (As := [.int 1, .int 60]) (rest := [.int x1, .ref (a 5)]) ⟨hx, hb, hml, hown, hT2⟩ (c_X11_needNumber (D := D) (A := A) (cy := cy) (a := a) (kt := kt) (vt := vt) (l := l)  hc30) (fun _ h => h) (cwV 2 hT2 gT_X11_needNumber rfl rfl rfl (by decide +kernel) ⟨Nat.le_of_ble_eq_true rfl, Nat.le_of_ble_eq_true rfl⟩) hE hP hS mbo_0 rfl rfl hl.1 rfl (Nat.le_of_ble_eq_true rfl) dX11_readStep_277 (hno _) hlocks rfl hz
          refine nb_callVi (As := [.int 1, .int 60]) (rest := [.int x1, .ref (a 5)]) ⟨hx, hb, hml, hown, hT2⟩ (nMx_i (c_X11_needNumber (D := D) (A := A) (cy := cy) (a := a) (kt := kt) (vt := vt) (l := l)  hc30)) (cwV 2 hT2 gT_X11_needNumber rfl rfl rfl (by decide +kernel) ⟨Nat.le_of_ble_eq_true rfl, Nat.le_of_ble_eq_true rfl⟩) hE hP hS mbo_0 rfl rfl hl.1 rfl (Nat.le_of_ble_eq_true rfl) dX11_readStep_277 (fun H locs hP hS => ?_)
          obtain ⟨hin, hf⟩ := nIx_e hf
          refine na_iast hx hb hE hP hS mbr_5 hin dX11_readStep_280 (fun σ31 eσ31 H locs hP hS => ?_)
          replace hf := nLet_e hf eσ31
          refine lv_goto (tgt := 299) hx hb dX11_readStep_281 (by decide) ?_
          exact nx_vret hx hb hr hlocks hP hS (nSo hf) dX11_readStep_299
        · replace hf := nIf_f hs3 hf
          by_cases hs4 : x3 = 4
          · replace hf := nIf_t hs4 hf
            refine lv_tableIn (tgt := 284) (off := 248) hx hb dX11_readStep_36 (by rw [hs4]; decide) (by rw [hs4]; decide) (by rw [hs4]; rfl) (by decide) ?_
            refine lv_aload_n hx hb dX11_readStep_284 rfl (lv_at hl 0 rfl) ?_
            refine nb_get (ci := 11) hx hb hts iX11_readStep_X11 hown hE hP 0 mbo_0 rfl 13 (by decide) qX11_readStep_29 rfl rfl dX11_readStep_285 ?_
            refine lv_iload_n hx hb dX11_readStep_288 rfl (lv_at hl 1 rfl) ?_
            refine lv_aload_n hx hb dX11_readStep_289 rfl (lv_at hl 0 rfl) ?_
            refine lv_iload_n hx hb dX11_readStep_290 rfl (lv_at hl 2 rfl) ?_
            refine lv_iconst (v := 0) hx hb dX11_readStep_291 (by decide) ?_
            rcases (nBx_e hf).symm with ⟨σ33, hc33, hz⟩ | ⟨r32, σ33, hc33, hf⟩
            · exact nx_callVt (As := [.int x2, .int 0]) (rest := [.int x1, .ref (a 5)]) ⟨hx, hb, hml, hown, hT2⟩ (c_X11_needTarget (D := D) (A := A) (cy := cy) (a := a) (kt := kt) (vt := vt) (l := l)  hc33) (fun _ h => h) (cwV 2 hT2 gT_X11_needTarget rfl rfl rfl (by decide +kernel) ⟨Nat.le_of_ble_eq_true rfl, Nat.le_of_ble_eq_true rfl⟩) hE hP hS mbo_0 rfl rfl hl.1 rfl (Nat.le_of_ble_eq_true rfl) dX11_readStep_292 (hno _) hlocks rfl hz
            refine nb_callVi (As := [.int x2, .int 0]) (rest := [.int x1, .ref (a 5)]) ⟨hx, hb, hml, hown, hT2⟩ (nMx_i (c_X11_needTarget (D := D) (A := A) (cy := cy) (a := a) (kt := kt) (vt := vt) (l := l)  hc33)) (cwV 2 hT2 gT_X11_needTarget rfl rfl rfl (by decide +kernel) ⟨Nat.le_of_ble_eq_true rfl, Nat.le_of_ble_eq_true rfl⟩) hE hP hS mbo_0 rfl rfl hl.1 rfl (Nat.le_of_ble_eq_true rfl) dX11_readStep_292 (fun H locs hP hS => ?_)
            obtain ⟨hin, hf⟩ := nIx_e hf
            refine na_iast hx hb hE hP hS mbr_5 hin dX11_readStep_295 (fun σ34 eσ34 H locs hP hS => ?_)
            replace hf := nLet_e hf eσ34
            refine lv_goto (tgt := 299) hx hb dX11_readStep_296 (by decide) ?_
            exact nx_vret hx hb hr hlocks hP hS (nSo hf) dX11_readStep_299
          · replace hf := nIf_f hs4 hf
            have gs0 := nI_ne (z := 0) hs0 (by decide)
            have gs1 := nI_ne (z := 1) hs1 (by decide)
            have gs2 := nI_ne (z := 2) hs2 (by decide)
            have gs3 := nI_ne (z := 3) hs3 (by decide)
            have gs4 := nI_ne (z := 4) hs4 (by decide)
            refine lv_tableOut (tgt := 299) hx hb dX11_readStep_36 (by omega) (by decide) ?_
            exact nx_vret hx hb hr hlocks hP hS (nSo hf) dX11_readStep_299
def l_X11_readStep_132 (N : Nat) : nS → Int32 → Int32 → Int32 → Option (Option Int32 × nS) := b_X11_readStep_132 N
theorem kl_X11_readStep_132 {p : Program} {l : Launch} {e : Env} {s : State} {m : MethodId} {args : Array Value} {below : List Frame} {meth : Method} {c : Code} {D : va_G} {A : Nat → Prop} {cy : Nat → ClassId} {a kt vt : Nat → Nat} {N : Nat}   (C0 : nCx p s m args meth c cX11_readStep 4 none RX11 wsX11_readStep) (hE : nEn D A cy (Mw cy a) kt vt s) (hT2 : ∀ w ∈ wTB, w.before args s = true) (hno : ∀ pc : Nat, ∀ x ∈ c.exceptionTable.toList, covers x pc = false) {z : Option Int32 × nS} : ∀ (σ : nS) (x1 : Int32) (y1 : Int32) (y2 : Int32) (H : Heap) (locs : List Loc) (ls : Array Slot), lv_has ls 4 [(0, .ref (a 0)), (1, .int x1)] → va_P D vwCl ((Mw cy a) σ) H → va_S A s.heap H locs → l_X11_readStep_132 N σ x1 y1 y2 = some z → W p l e ({ frames := 7, cells := 0, slots := 0, locals := 150 } : Room) s m args below meth c H locs 0 0 (nQx (nOv (a 9)) below D A (Mw cy a) s z) (F0 m 132 ls [.int y2, .int y1, .ref (a 4)]) := by
  exact kb_X11_readStep_132 (N := N)  C0 hE hT2 hno
def l_X11_readStep_113 (N : Nat) : nS → Int32 → Option (Option Int32 × nS) := b_X11_readStep_113 N (l_X11_readStep_132 N)
theorem kl_X11_readStep_113 {p : Program} {l : Launch} {e : Env} {s : State} {m : MethodId} {args : Array Value} {below : List Frame} {meth : Method} {c : Code} {D : va_G} {A : Nat → Prop} {cy : Nat → ClassId} {a kt vt : Nat → Nat} {N : Nat}   (C0 : nCx p s m args meth c cX11_readStep 4 none RX11 wsX11_readStep) (hE : nEn D A cy (Mw cy a) kt vt s) (hT2 : ∀ w ∈ wTB, w.before args s = true) (hno : ∀ pc : Nat, ∀ x ∈ c.exceptionTable.toList, covers x pc = false) {z : Option Int32 × nS} : ∀ (σ : nS) (x1 : Int32) (H : Heap) (locs : List Loc) (ls : Array Slot), lv_has ls 4 [(0, .ref (a 0)), (1, .int x1)] → va_P D vwCl ((Mw cy a) σ) H → va_S A s.heap H locs → l_X11_readStep_113 N σ x1 = some z → W p l e ({ frames := 7, cells := 0, slots := 0, locals := 150 } : Room) s m args below meth c H locs 0 0 (nQx (nOv (a 9)) below D A (Mw cy a) s z) (F0 m 113 ls []) := by
  exact kb_X11_readStep_113 (N := N)  C0 hE hT2 hno (kl_X11_readStep_132 (N := N)  C0 hE hT2 hno)
def l_X11_readStep_0 (N : Nat) : nS → Int32 → Int32 → Int32 → Option (Option Int32 × nS) := b_X11_readStep_0 N (l_X11_readStep_113 N)
theorem kl_X11_readStep_0 {p : Program} {l : Launch} {e : Env} {s : State} {m : MethodId} {args : Array Value} {below : List Frame} {meth : Method} {c : Code} {D : va_G} {A : Nat → Prop} {cy : Nat → ClassId} {a kt vt : Nat → Nat} {N : Nat}   (C0 : nCx p s m args meth c cX11_readStep 4 none RX11 wsX11_readStep) (hE : nEn D A cy (Mw cy a) kt vt s) (hT2 : ∀ w ∈ wTB, w.before args s = true) (hno : ∀ pc : Nat, ∀ x ∈ c.exceptionTable.toList, covers x pc = false) {z : Option Int32 × nS} : ∀ (σ : nS) (x1 : Int32) (x2 : Int32) (x3 : Int32) (H : Heap) (locs : List Loc) (ls : Array Slot), lv_has ls 4 [(0, .ref (a 0)), (1, .int x1), (2, .int x2), (3, .int x3)] → va_P D vwCl ((Mw cy a) σ) H → va_S A s.heap H locs → l_X11_readStep_0 N σ x1 x2 x3 = some z → W p l e ({ frames := 7, cells := 0, slots := 0, locals := 150 } : Room) s m args below meth c H locs 0 0 (nQx (nOv (a 9)) below D A (Mw cy a) s z) (F0 m 0 ls []) := by
  exact kb_X11_readStep_0 (N := N)  C0 hE hT2 hno (kl_X11_readStep_113 (N := N)  C0 hE hT2 hno)
def f_X11_readStep (N : Nat) (x1 : Int32) (x2 : Int32) (x3 : Int32) (σ : nS) : Option (Option Int32 × nS) := l_X11_readStep_0 N σ x1 x2 x3
def wT_X11_readStep : List Cond := .code yX11_readStep cX11_readStep 4 none :: wTB
set_option maxRecDepth 100000 in
theorem sT_X11_readStep : ∀ w ∈ wsX11_readStep, w ∈ wT_X11_readStep := fun w h => List.mem_cons_of_mem _ (List.mem_append_left _ (ggX11_book_X11_reads w (ggX11_reads_X11_readStep w h).1).1)
set_option maxRecDepth 100000 in
theorem gT_X11_readStep : GoodIn wTB (wsV RX11 214 RX11 yX11_readStep wT_X11_readStep) := goodIn_app (goodIn_of _ (by decide +kernel)) (goodIn_app (a := [.code yX11_readStep cX11_readStep 4 none]) (goodIn_of _ (by decide +kernel)) wTB_good)
set_option maxHeartbeats 4000000 in
set_option maxRecDepth 100000 in
theorem c_X11_readStep {l : Launch} {D : va_G} {A : Nat → Prop} {cy : Nat → ClassId} {a kt vt : Nat → Nat} {N : Nat}   {x1 : Int32} {x2 : Int32} {x3 : Int32} {σ : nS} {z : Option Int32 × nS} (hf : f_X11_readStep N x1 x2 x3 σ = some z) : nMx l yX11_readStep wT_X11_readStep ({ frames := 7, cells := 0, slots := 0, locals := 150 } : Room) D A cy (Mw cy a) kt vt [.ref (a 0), .int x1, .int x2, .int x3] σ (nOv (a 9)) z := by
  refine nMx_ofW (cc := cX11_readStep) (maxL := 4) (ret := none) (by decide) rfl ?_
  intro p e s m args below meth c s₁ B hml hv
  obtain ⟨rfl, hP, hE⟩ := hv
  have hl := lv_entry ([.ref (a 0), .int x1, .int x2, .int x3]) (n := 4) (Nat.le_of_ble_eq_true rfl)
  rw [lg_entry_eq]
  generalize (lg_sl ([.ref (a 0), .int x1, .int x2, .int x3]) ++ List.replicate (4 - (lg_sl ([.ref (a 0), .int x1, .int x2, .int x3])).length) Slot.unset).toArray = ls at hl ⊢
  have hts0 := atoms_spec (ws := wT_X11_readStep) B.pre
  have hno : ∀ pc : Nat, ∀ x ∈ c.exceptionTable.toList, covers x pc = false := fun pc => covers_of_empty (B.noHandlers (hts0 _ List.mem_cons_self)) pc
  have hT2 : ∀ w ∈ wTB, w.before _ s = true := fun w h => hts0 w (List.mem_cons_of_mem _ h)
  have hts0 : ∀ w ∈ wsX11_readStep, w.before _ s = true := fun w h => hts0 w (sT_X11_readStep w h)
  have C0 : nCx p s m _ meth c cX11_readStep 4 none RX11 wsX11_readStep := ⟨B.exec, B.bytes, B.returns, hml, findClass_of_methodNamed B.named, hts0, B.notSynchronized⟩
  exact kl_X11_readStep_0 (N := N)  C0 hE hT2 hno (z := z) σ x1 x2 x3 _ _ ls hl hP va_S.rf hf

/-! X11_reads -/
set_option maxRecDepth 20000 in
theorem iX11_reads_X11 : ∀ w ∈ u_ws RX11 TX11 68, w ∈ wsX11_reads := fun _ h => List.mem_cons_of_mem _ (List.mem_append_right _ h)
set_option maxRecDepth 20000 in
theorem qX11_reads_201 : Cond.fieldLink RX11 201 RX11 (TX11 7).2.1 (TX11 7).2.2.1 ∈ wsX11_reads := by decide +kernel
set_option maxRecDepth 20000 in
theorem qX11_reads_23 : Cond.fieldLink RX11 23 RX11 (TX11 11).2.1 (TX11 11).2.2.1 ∈ wsX11_reads := by decide +kernel
set_option maxRecDepth 20000 in
theorem qX11_reads_170 : Cond.fieldLink RX11 170 RX11 (TX11 22).2.1 (TX11 22).2.2.1 ∈ wsX11_reads := by decide +kernel
set_option maxRecDepth 20000 in
theorem qX11_reads_169 : Cond.fieldLink RX11 169 RX11 (TX11 23).2.1 (TX11 23).2.2.1 ∈ wsX11_reads := by decide +kernel
set_option maxRecDepth 20000 in
theorem qX11_reads_26 : Cond.fieldLink RX11 26 RX11 (TX11 12).2.1 (TX11 12).2.2.1 ∈ wsX11_reads := by decide +kernel
set_option maxRecDepth 20000 in
theorem qX11_reads_29 : Cond.fieldLink RX11 29 RX11 (TX11 13).2.1 (TX11 13).2.2.1 ∈ wsX11_reads := by decide +kernel
set_option maxRecDepth 20000 in
theorem qX11_reads_35 : Cond.fieldLink RX11 35 RX11 (TX11 15).2.1 (TX11 15).2.2.1 ∈ wsX11_reads := by decide +kernel
set_option maxRecDepth 20000 in
theorem qX11_reads_32 : Cond.fieldLink RX11 32 RX11 (TX11 14).2.1 (TX11 14).2.2.1 ∈ wsX11_reads := by decide +kernel
set_option maxRecDepth 20000 in
theorem qX11_reads_52 : Cond.fieldLink RX11 52 RX11 (TX11 27).2.1 (TX11 27).2.2.1 ∈ wsX11_reads := by decide +kernel
def b_X11_reads_183 (N : Nat) (k18 : nS → Int32 → Int32 → Option (Option Int32 × nS)) (σ : nS) (x1 : Int32) (x2 : Int32) : Option (Option Int32 × nS) := k18 σ x1 x2
set_option maxHeartbeats 4000000 in
set_option maxRecDepth 100000 in
theorem kb_X11_reads_183 {p : Program} {l : Launch} {e : Env} {s : State} {m : MethodId} {args : Array Value} {below : List Frame} {meth : Method} {c : Code} {D : va_G} {A : Nat → Prop} {cy : Nat → ClassId} {a kt vt : Nat → Nat} {N : Nat}   (C0 : nCx p s m args meth c cX11_reads 8 none RX11 wsX11_reads) (hE : nEn D A cy (Mw cy a) kt vt s) (hT2 : ∀ w ∈ wTB, w.before args s = true) (hno : ∀ pc : Nat, ∀ x ∈ c.exceptionTable.toList, covers x pc = false) {z : Option Int32 × nS} {k18 : nS → Int32 → Int32 → Option (Option Int32 × nS)} (K18 : ∀ (σ : nS) (x1 : Int32) (x2 : Int32) (H : Heap) (locs : List Loc) (ls : Array Slot), lv_has ls 8 [(0, .ref (a 0)), (1, .int x1), (2, .int x2)] → va_P D vwCl ((Mw cy a) σ) H → va_S A s.heap H locs → k18 σ x1 x2 = some z → W p l e ({ frames := 8, cells := 0, slots := 0, locals := 173 } : Room) s m args below meth c H locs 0 0 (nQx (nOv (a 9)) below D A (Mw cy a) s z) (F0 m 18 ls [])) : ∀ (σ : nS) (x1 : Int32) (x2 : Int32) (H : Heap) (locs : List Loc) (ls : Array Slot), lv_has ls 8 [(0, .ref (a 0)), (1, .int x1), (2, .int x2)] → va_P D vwCl ((Mw cy a) σ) H → va_S A s.heap H locs → b_X11_reads_183 N k18 σ x1 x2 = some z → W p l e ({ frames := 8, cells := 0, slots := 0, locals := 173 } : Room) s m args below meth c H locs 0 0 (nQx (nOv (a 9)) below D A (Mw cy a) s z) (F0 m 183 ls []) := by
  obtain ⟨hx, hb, hr, hml, hown, hts, hlocks⟩ := C0
  intro σ x1 x2 H locs ls hl hP hS hf
  unfold b_X11_reads_183 at hf
  refine lv_goto (tgt := 18) hx hb dX11_reads_183 (by decide) ?_
  exact K18 σ x1 x2 H locs ls (lv_sub hl [0, 1, 2] rfl) hP hS hf
def b_X11_reads_174 (N : Nat) (k183 : nS → Int32 → Int32 → Option (Option Int32 × nS)) (σ : nS) (x1 : Int32) (y0 : Int32) : Option (Option Int32 × nS) := (if y0 = 0 then k183 σ x1 y0 else nBd (f_X11_next N σ) (fun r1 σ2 => k183 σ2 x1 y0))
set_option maxHeartbeats 4000000 in
set_option maxRecDepth 100000 in
theorem kb_X11_reads_174 {p : Program} {l : Launch} {e : Env} {s : State} {m : MethodId} {args : Array Value} {below : List Frame} {meth : Method} {c : Code} {D : va_G} {A : Nat → Prop} {cy : Nat → ClassId} {a kt vt : Nat → Nat} {N : Nat}   (C0 : nCx p s m args meth c cX11_reads 8 none RX11 wsX11_reads) (hE : nEn D A cy (Mw cy a) kt vt s) (hT2 : ∀ w ∈ wTB, w.before args s = true) (hno : ∀ pc : Nat, ∀ x ∈ c.exceptionTable.toList, covers x pc = false) {z : Option Int32 × nS} {k183 : nS → Int32 → Int32 → Option (Option Int32 × nS)} (K183 : ∀ (σ : nS) (x1 : Int32) (x2 : Int32) (H : Heap) (locs : List Loc) (ls : Array Slot), lv_has ls 8 [(0, .ref (a 0)), (1, .int x1), (2, .int x2)] → va_P D vwCl ((Mw cy a) σ) H → va_S A s.heap H locs → k183 σ x1 x2 = some z → W p l e ({ frames := 8, cells := 0, slots := 0, locals := 173 } : Room) s m args below meth c H locs 0 0 (nQx (nOv (a 9)) below D A (Mw cy a) s z) (F0 m 183 ls [])) : ∀ (σ : nS) (x1 : Int32) (y0 : Int32) (H : Heap) (locs : List Loc) (ls : Array Slot), lv_has ls 8 [(0, .ref (a 0)), (1, .int x1)] → va_P D vwCl ((Mw cy a) σ) H → va_S A s.heap H locs → b_X11_reads_174 N k183 σ x1 y0 = some z → W p l e ({ frames := 8, cells := 0, slots := 0, locals := 173 } : Room) s m args below meth c H locs 0 0 (nQx (nOv (a 9)) below D A (Mw cy a) s z) (F0 m 174 ls [.int y0]) := by
  obtain ⟨hx, hb, hr, hml, hown, hts, hlocks⟩ := C0
  intro σ x1 y0 H locs ls hl hP hS hf
  unfold b_X11_reads_174 at hf
  refine lv_istore_n (lv' := [(2, .int y0), (0, .ref (a 0)), (1, .int x1)]) hx hb dX11_reads_174 rfl hl (by decide) rfl (fun ls hl => ?_)
  refine lv_iload_n hx hb dX11_reads_175 rfl (lv_at hl 0 rfl) ?_
  refine lv_if_eq (tgt := 183) hx hb dX11_reads_176 (by decide) (fun hc => ?_) (fun hc => ?_)
  · replace hf := nIf_t hc hf
    exact K183 σ x1 y0 H locs ls (lv_sub hl [1, 2, 0] rfl) hP hS hf
  · replace hf := nIf_f hc hf
    refine lv_aload_n hx hb dX11_reads_179 rfl (lv_at hl 1 rfl) ?_
    obtain ⟨r1, σ2, hc2, hf⟩ := nBd_e hf
    refine nb_callVv (As := []) (rest := []) ⟨hx, hb, hml, hown, hts⟩ (c_X11_next (D := D) (A := A) (cy := cy) (a := a) (kt := kt) (vt := vt) (l := l)  hc2) (cwV 0 hts gX11_reads_X11_next rfl rfl rfl (by decide +kernel) ⟨Nat.le_of_ble_eq_true rfl, Nat.le_of_ble_eq_true rfl⟩) hE hP hS mbo_0 rfl rfl hl.1 rfl (Nat.le_of_ble_eq_true rfl) dX11_reads_180 (fun H locs hP hS => ?_)
    exact K183 σ2 x1 y0 H locs ls (lv_sub hl [1, 2, 0] rfl) hP hS hf
def b_X11_reads_335 (N : Nat) (k348 : nS → Int32 → Int32 → Int32 → Int32 → Int32 → Option (Option Int32 × nS)) (σ : nS) (x1 : Int32) (x4 : Int32) (x5 : Int32) (x6 : Int32) : Option (Option Int32 × nS) := nLet ((2 : Int32) * x4 : Int32) (fun v1 => nLet (v1 + x6 : Int32) (fun v2 => nIx v2 48 (nLet (σ.1 11 (v2).toNatClampNeg) (fun v3 => k348 σ x1 v3 x4 x5 x6))))
set_option maxHeartbeats 4000000 in
set_option maxRecDepth 100000 in
theorem kb_X11_reads_335 {p : Program} {l : Launch} {e : Env} {s : State} {m : MethodId} {args : Array Value} {below : List Frame} {meth : Method} {c : Code} {D : va_G} {A : Nat → Prop} {cy : Nat → ClassId} {a kt vt : Nat → Nat} {N : Nat}   (C0 : nCx p s m args meth c cX11_reads 8 none RX11 wsX11_reads) (hE : nEn D A cy (Mw cy a) kt vt s) (hT2 : ∀ w ∈ wTB, w.before args s = true) (hno : ∀ pc : Nat, ∀ x ∈ c.exceptionTable.toList, covers x pc = false) {z : Option Int32 × nS} {k348 : nS → Int32 → Int32 → Int32 → Int32 → Int32 → Option (Option Int32 × nS)} (K348 : ∀ (σ : nS) (x1 : Int32) (x3 : Int32) (x4 : Int32) (x5 : Int32) (x6 : Int32) (H : Heap) (locs : List Loc) (ls : Array Slot), lv_has ls 8 [(0, .ref (a 0)), (1, .int x1), (3, .int x3), (4, .int x4), (5, .int x5), (6, .int x6)] → va_P D vwCl ((Mw cy a) σ) H → va_S A s.heap H locs → k348 σ x1 x3 x4 x5 x6 = some z → W p l e ({ frames := 8, cells := 0, slots := 0, locals := 173 } : Room) s m args below meth c H locs 0 0 (nQx (nOv (a 9)) below D A (Mw cy a) s z) (F0 m 348 ls [])) : ∀ (σ : nS) (x1 : Int32) (x4 : Int32) (x5 : Int32) (x6 : Int32) (H : Heap) (locs : List Loc) (ls : Array Slot), lv_has ls 8 [(0, .ref (a 0)), (1, .int x1), (4, .int x4), (5, .int x5), (6, .int x6)] → va_P D vwCl ((Mw cy a) σ) H → va_S A s.heap H locs → b_X11_reads_335 N k348 σ x1 x4 x5 x6 = some z → W p l e ({ frames := 8, cells := 0, slots := 0, locals := 173 } : Room) s m args below meth c H locs 0 0 (nQx (nOv (a 9)) below D A (Mw cy a) s z) (F0 m 335 ls []) := by
  obtain ⟨hx, hb, hr, hml, hown, hts, hlocks⟩ := C0
  intro σ x1 x4 x5 x6 H locs ls hl hP hS hf
  unfold b_X11_reads_335 at hf
  refine lv_aload_n hx hb dX11_reads_335 rfl (lv_at hl 0 rfl) ?_
  refine nb_get (ci := 11) hx hb hts iX11_reads_X11 hown hE hP 0 mbo_0 rfl 27 (by decide) qX11_reads_52 rfl rfl dX11_reads_336 ?_
  refine lv_iconst (v := 2) hx hb dX11_reads_339 (by decide) ?_
  refine lv_iload hx hb dX11_reads_340 (lv_at hl 2 rfl) ?_
  refine lv_imul hx hb dX11_reads_342 ?_
  refine lv_topi (fun v1 ev1 => ?_)
  replace hf := nLet_e hf ev1
  refine lv_iload hx hb dX11_reads_343 (lv_at hl 4 rfl) ?_
  refine lv_iadd hx hb dX11_reads_345 ?_
  refine lv_topi (fun v2 ev2 => ?_)
  replace hf := nLet_e hf ev2
  obtain ⟨hin, hf⟩ := nIx_e hf
  refine na_iald hx hb hE hP mbr_11 hin dX11_reads_346 ?_
  refine lv_topi (fun v3 ev3 => ?_)
  replace hf := nLet_e hf ev3
  refine lv_istore_n (lv' := [(3, .int v3), (0, .ref (a 0)), (1, .int x1), (4, .int x4), (5, .int x5), (6, .int x6)]) hx hb dX11_reads_347 rfl hl (by decide) rfl (fun ls hl => ?_)
  exact K348 σ x1 v3 x4 x5 x6 H locs ls (lv_sub hl [1, 2, 0, 3, 4, 5] rfl) hP hS hf
def b_X11_reads_348 (N : Nat) (k232 : nS → Int32 → Int32 → Int32 → Int32 → Int32 → Option (Option Int32 × nS)) (σ : nS) (x1 : Int32) (x3 : Int32) (x4 : Int32) (x5 : Int32) (x6 : Int32) : Option (Option Int32 × nS) := nLet (x6 + 1 : Int32) (fun v1 => k232 σ x1 x3 x4 x5 v1)
set_option maxHeartbeats 4000000 in
set_option maxRecDepth 100000 in
theorem kb_X11_reads_348 {p : Program} {l : Launch} {e : Env} {s : State} {m : MethodId} {args : Array Value} {below : List Frame} {meth : Method} {c : Code} {D : va_G} {A : Nat → Prop} {cy : Nat → ClassId} {a kt vt : Nat → Nat} {N : Nat}   (C0 : nCx p s m args meth c cX11_reads 8 none RX11 wsX11_reads) (hE : nEn D A cy (Mw cy a) kt vt s) (hT2 : ∀ w ∈ wTB, w.before args s = true) (hno : ∀ pc : Nat, ∀ x ∈ c.exceptionTable.toList, covers x pc = false) {z : Option Int32 × nS} {k232 : nS → Int32 → Int32 → Int32 → Int32 → Int32 → Option (Option Int32 × nS)} (K232 : ∀ (σ : nS) (x1 : Int32) (x3 : Int32) (x4 : Int32) (x5 : Int32) (x6 : Int32) (H : Heap) (locs : List Loc) (ls : Array Slot), lv_has ls 8 [(0, .ref (a 0)), (1, .int x1), (3, .int x3), (4, .int x4), (5, .int x5), (6, .int x6)] → va_P D vwCl ((Mw cy a) σ) H → va_S A s.heap H locs → k232 σ x1 x3 x4 x5 x6 = some z → W p l e ({ frames := 8, cells := 0, slots := 0, locals := 173 } : Room) s m args below meth c H locs 0 0 (nQx (nOv (a 9)) below D A (Mw cy a) s z) (F0 m 232 ls [])) : ∀ (σ : nS) (x1 : Int32) (x3 : Int32) (x4 : Int32) (x5 : Int32) (x6 : Int32) (H : Heap) (locs : List Loc) (ls : Array Slot), lv_has ls 8 [(0, .ref (a 0)), (1, .int x1), (3, .int x3), (4, .int x4), (5, .int x5), (6, .int x6)] → va_P D vwCl ((Mw cy a) σ) H → va_S A s.heap H locs → b_X11_reads_348 N k232 σ x1 x3 x4 x5 x6 = some z → W p l e ({ frames := 8, cells := 0, slots := 0, locals := 173 } : Room) s m args below meth c H locs 0 0 (nQx (nOv (a 9)) below D A (Mw cy a) s z) (F0 m 348 ls []) := by
  obtain ⟨hx, hb, hr, hml, hown, hts, hlocks⟩ := C0
  intro σ x1 x3 x4 x5 x6 H locs ls hl hP hS hf
  unfold b_X11_reads_348 at hf
  obtain ⟨v1, ev1⟩ : ∃ y : Int32, y = x6 + 1 := ⟨_, rfl⟩
  replace hf := nLet_e hf ev1
  refine lv_iinc (v := v1) (lv' := [(6, .int v1), (0, .ref (a 0)), (1, .int x1), (3, .int x3), (4, .int x4), (5, .int x5)]) hx hb dX11_reads_348 hl (k := 5) rfl (by rw [ev1]; rfl) (by decide) rfl (fun ls hl => ?_)
  refine lv_goto (tgt := 232) hx hb dX11_reads_351 (by decide) ?_
  exact K232 σ x1 x3 x4 x5 v1 H locs ls (lv_sub hl [1, 2, 3, 4, 5, 0] rfl) hP hS hf
def b_X11_reads_300 (N : Nat) (k301 : nS → Int32 → Int32 → Int32 → Int32 → Int32 → Int32 → Option (Option Int32 × nS)) (σ : nS) (x1 : Int32) (x3 : Int32) (x4 : Int32) (x5 : Int32) (x6 : Int32) : Option (Option Int32 × nS) := k301 σ x1 x3 x4 x5 x6 0
set_option maxHeartbeats 4000000 in
set_option maxRecDepth 100000 in
theorem kb_X11_reads_300 {p : Program} {l : Launch} {e : Env} {s : State} {m : MethodId} {args : Array Value} {below : List Frame} {meth : Method} {c : Code} {D : va_G} {A : Nat → Prop} {cy : Nat → ClassId} {a kt vt : Nat → Nat} {N : Nat}   (C0 : nCx p s m args meth c cX11_reads 8 none RX11 wsX11_reads) (hE : nEn D A cy (Mw cy a) kt vt s) (hT2 : ∀ w ∈ wTB, w.before args s = true) (hno : ∀ pc : Nat, ∀ x ∈ c.exceptionTable.toList, covers x pc = false) {z : Option Int32 × nS} {k301 : nS → Int32 → Int32 → Int32 → Int32 → Int32 → Int32 → Option (Option Int32 × nS)} (K301 : ∀ (σ : nS) (x1 : Int32) (x3 : Int32) (x4 : Int32) (x5 : Int32) (x6 : Int32) (y0 : Int32) (H : Heap) (locs : List Loc) (ls : Array Slot), lv_has ls 8 [(0, .ref (a 0)), (1, .int x1), (3, .int x3), (4, .int x4), (5, .int x5), (6, .int x6)] → va_P D vwCl ((Mw cy a) σ) H → va_S A s.heap H locs → k301 σ x1 x3 x4 x5 x6 y0 = some z → W p l e ({ frames := 8, cells := 0, slots := 0, locals := 173 } : Room) s m args below meth c H locs 0 0 (nQx (nOv (a 9)) below D A (Mw cy a) s z) (F0 m 301 ls [.int y0])) : ∀ (σ : nS) (x1 : Int32) (x3 : Int32) (x4 : Int32) (x5 : Int32) (x6 : Int32) (H : Heap) (locs : List Loc) (ls : Array Slot), lv_has ls 8 [(0, .ref (a 0)), (1, .int x1), (3, .int x3), (4, .int x4), (5, .int x5), (6, .int x6)] → va_P D vwCl ((Mw cy a) σ) H → va_S A s.heap H locs → b_X11_reads_300 N k301 σ x1 x3 x4 x5 x6 = some z → W p l e ({ frames := 8, cells := 0, slots := 0, locals := 173 } : Room) s m args below meth c H locs 0 0 (nQx (nOv (a 9)) below D A (Mw cy a) s z) (F0 m 300 ls []) := by
  obtain ⟨hx, hb, hr, hml, hown, hts, hlocks⟩ := C0
  intro σ x1 x3 x4 x5 x6 H locs ls hl hP hS hf
  unfold b_X11_reads_300 at hf
  refine lv_iconst (v := 0) hx hb dX11_reads_300 (by decide) ?_
  exact K301 σ x1 x3 x4 x5 x6 0 H locs ls (lv_sub hl [0, 1, 2, 3, 4, 5] rfl) hP hS hf
def b_X11_reads_301 (N : Nat) (k335 : nS → Int32 → Int32 → Int32 → Int32 → Option (Option Int32 × nS)) (k348 : nS → Int32 → Int32 → Int32 → Int32 → Int32 → Option (Option Int32 × nS)) (σ : nS) (x1 : Int32) (x3 : Int32) (x4 : Int32) (x5 : Int32) (x6 : Int32) (y0 : Int32) : Option (Option Int32 × nS) := nIx x1 5 (nLet (σ.1 3 (x1).toNatClampNeg) (fun v1 => (if y0 < v1 then k348 σ x1 x3 x4 x5 x6 else (if x3 = (-1) then k335 σ x1 x4 x5 x6 else nLet ((2 : Int32) * x4 : Int32) (fun v2 => nLet (v2 + x6 : Int32) (fun v3 => nIx v3 48 (nLet (σ.1 11 (v3).toNatClampNeg) (fun v4 => (if x3 ≤ v4 then k348 σ x1 x3 x4 x5 x6 else k335 σ x1 x4 x5 x6)))))))))
set_option maxHeartbeats 4000000 in
set_option maxRecDepth 100000 in
theorem kb_X11_reads_301 {p : Program} {l : Launch} {e : Env} {s : State} {m : MethodId} {args : Array Value} {below : List Frame} {meth : Method} {c : Code} {D : va_G} {A : Nat → Prop} {cy : Nat → ClassId} {a kt vt : Nat → Nat} {N : Nat}   (C0 : nCx p s m args meth c cX11_reads 8 none RX11 wsX11_reads) (hE : nEn D A cy (Mw cy a) kt vt s) (hT2 : ∀ w ∈ wTB, w.before args s = true) (hno : ∀ pc : Nat, ∀ x ∈ c.exceptionTable.toList, covers x pc = false) {z : Option Int32 × nS} {k335 : nS → Int32 → Int32 → Int32 → Int32 → Option (Option Int32 × nS)} (K335 : ∀ (σ : nS) (x1 : Int32) (x4 : Int32) (x5 : Int32) (x6 : Int32) (H : Heap) (locs : List Loc) (ls : Array Slot), lv_has ls 8 [(0, .ref (a 0)), (1, .int x1), (4, .int x4), (5, .int x5), (6, .int x6)] → va_P D vwCl ((Mw cy a) σ) H → va_S A s.heap H locs → k335 σ x1 x4 x5 x6 = some z → W p l e ({ frames := 8, cells := 0, slots := 0, locals := 173 } : Room) s m args below meth c H locs 0 0 (nQx (nOv (a 9)) below D A (Mw cy a) s z) (F0 m 335 ls [])) {k348 : nS → Int32 → Int32 → Int32 → Int32 → Int32 → Option (Option Int32 × nS)} (K348 : ∀ (σ : nS) (x1 : Int32) (x3 : Int32) (x4 : Int32) (x5 : Int32) (x6 : Int32) (H : Heap) (locs : List Loc) (ls : Array Slot), lv_has ls 8 [(0, .ref (a 0)), (1, .int x1), (3, .int x3), (4, .int x4), (5, .int x5), (6, .int x6)] → va_P D vwCl ((Mw cy a) σ) H → va_S A s.heap H locs → k348 σ x1 x3 x4 x5 x6 = some z → W p l e ({ frames := 8, cells := 0, slots := 0, locals := 173 } : Room) s m args below meth c H locs 0 0 (nQx (nOv (a 9)) below D A (Mw cy a) s z) (F0 m 348 ls [])) : ∀ (σ : nS) (x1 : Int32) (x3 : Int32) (x4 : Int32) (x5 : Int32) (x6 : Int32) (y0 : Int32) (H : Heap) (locs : List Loc) (ls : Array Slot), lv_has ls 8 [(0, .ref (a 0)), (1, .int x1), (3, .int x3), (4, .int x4), (5, .int x5), (6, .int x6)] → va_P D vwCl ((Mw cy a) σ) H → va_S A s.heap H locs → b_X11_reads_301 N k335 k348 σ x1 x3 x4 x5 x6 y0 = some z → W p l e ({ frames := 8, cells := 0, slots := 0, locals := 173 } : Room) s m args below meth c H locs 0 0 (nQx (nOv (a 9)) below D A (Mw cy a) s z) (F0 m 301 ls [.int y0]) := by
  obtain ⟨hx, hb, hr, hml, hown, hts, hlocks⟩ := C0
  intro σ x1 x3 x4 x5 x6 y0 H locs ls hl hP hS hf
  unfold b_X11_reads_301 at hf
  refine lv_istore (lv' := [(7, .int y0), (0, .ref (a 0)), (1, .int x1), (3, .int x3), (4, .int x4), (5, .int x5), (6, .int x6)]) hx hb dX11_reads_301 hl (by decide) rfl (fun ls hl => ?_)
  refine lv_iload hx hb dX11_reads_303 (lv_at hl 0 rfl) ?_
  refine lv_aload_n hx hb dX11_reads_305 rfl (lv_at hl 1 rfl) ?_
  refine nb_get (ci := 11) hx hb hts iX11_reads_X11 hown hE hP 0 mbo_0 rfl 11 (by decide) qX11_reads_23 rfl rfl dX11_reads_306 ?_
  refine lv_iload_n hx hb dX11_reads_309 rfl (lv_at hl 2 rfl) ?_
  obtain ⟨hin, hf⟩ := nIx_e hf
  refine na_iald hx hb hE hP mbr_3 hin dX11_reads_310 ?_
  refine lv_topi (fun v1 ev1 => ?_)
  replace hf := nLet_e hf ev1
  refine lv_icmp_lt (tgt := 348) hx hb dX11_reads_311 (by decide) (fun hc => ?_) (fun hc => ?_)
  · replace hf := nIf_t hc hf
    exact K348 σ x1 x3 x4 x5 x6 H locs ls (lv_sub hl [1, 2, 3, 4, 5, 6] rfl) hP hS hf
  · replace hf := nIf_f hc hf
    refine lv_iload_n hx hb dX11_reads_314 rfl (lv_at hl 3 rfl) ?_
    refine lv_iconst (v := (-1)) hx hb dX11_reads_315 (by decide) ?_
    refine lv_icmp_eq (tgt := 335) hx hb dX11_reads_316 (by decide) (fun hc => ?_) (fun hc => ?_)
    · replace hf := nIf_t hc hf
      exact K335 σ x1 x4 x5 x6 H locs ls (lv_sub hl [1, 2, 4, 5, 6] rfl) hP hS hf
    · replace hf := nIf_f hc hf
      refine lv_aload_n hx hb dX11_reads_319 rfl (lv_at hl 1 rfl) ?_
      refine nb_get (ci := 11) hx hb hts iX11_reads_X11 hown hE hP 0 mbo_0 rfl 27 (by decide) qX11_reads_52 rfl rfl dX11_reads_320 ?_
      refine lv_iconst (v := 2) hx hb dX11_reads_323 (by decide) ?_
      refine lv_iload hx hb dX11_reads_324 (lv_at hl 4 rfl) ?_
      refine lv_imul hx hb dX11_reads_326 ?_
      refine lv_topi (fun v2 ev2 => ?_)
      replace hf := nLet_e hf ev2
      refine lv_iload hx hb dX11_reads_327 (lv_at hl 6 rfl) ?_
      refine lv_iadd hx hb dX11_reads_329 ?_
      refine lv_topi (fun v3 ev3 => ?_)
      replace hf := nLet_e hf ev3
      obtain ⟨hin, hf⟩ := nIx_e hf
      refine na_iald hx hb hE hP mbr_11 hin dX11_reads_330 ?_
      refine lv_topi (fun v4 ev4 => ?_)
      replace hf := nLet_e hf ev4
      refine lv_iload_n hx hb dX11_reads_331 rfl (lv_at hl 3 rfl) ?_
      refine lv_icmp_ge (tgt := 348) hx hb dX11_reads_332 (by decide) (fun hc => ?_) (fun hc => ?_)
      · replace hf := nIf_t hc hf
        exact K348 σ x1 x3 x4 x5 x6 H locs ls (lv_sub hl [1, 2, 3, 4, 5, 6] rfl) hP hS hf
      · replace hf := nIf_f hc hf
        exact K335 σ x1 x4 x5 x6 H locs ls (lv_sub hl [1, 2, 4, 5, 6] rfl) hP hS hf
def b_X11_reads_232 (N : Nat) (k209 : nS → Int32 → Int32 → Int32 → Option (Option Int32 × nS)) (k300 : nS → Int32 → Int32 → Int32 → Int32 → Int32 → Option (Option Int32 × nS)) (k301 : nS → Int32 → Int32 → Int32 → Int32 → Int32 → Int32 → Option (Option Int32 × nS)) (σ : nS) (x1 : Int32) (x3 : Int32) (x4 : Int32) (x5 : Int32) (x6 : Int32) : Option (Option Int32 × nS) := (if (2 : Int32) ≤ x6 then nLet (x4 + 1 : Int32) (fun v1 => k209 σ x1 x3 v1) else nIx x5 120 (nLet (σ.1 4 (x5).toNatClampNeg) (fun v2 => (if v2 = 2 then (if x6 = 0 then nIx x5 120 (nLet (σ.1 6 (x5).toNatClampNeg) (fun v6 => k301 σ x1 x3 x4 x5 x6 v6)) else nIx x5 120 (nLet (σ.1 7 (x5).toNatClampNeg) (fun v5 => k301 σ x1 x3 x4 x5 x6 v5))) else nIx x5 120 (nLet (σ.1 4 (x5).toNatClampNeg) (fun v3 => (if v3 = 4 then (if x6 = 0 then nIx x5 120 (nLet (σ.1 5 (x5).toNatClampNeg) (fun v4 => k301 σ x1 x3 x4 x5 x6 v4)) else k300 σ x1 x3 x4 x5 x6) else k300 σ x1 x3 x4 x5 x6)))))))
set_option maxHeartbeats 4000000 in
set_option maxRecDepth 100000 in
theorem kb_X11_reads_232 {p : Program} {l : Launch} {e : Env} {s : State} {m : MethodId} {args : Array Value} {below : List Frame} {meth : Method} {c : Code} {D : va_G} {A : Nat → Prop} {cy : Nat → ClassId} {a kt vt : Nat → Nat} {N : Nat}   (C0 : nCx p s m args meth c cX11_reads 8 none RX11 wsX11_reads) (hE : nEn D A cy (Mw cy a) kt vt s) (hT2 : ∀ w ∈ wTB, w.before args s = true) (hno : ∀ pc : Nat, ∀ x ∈ c.exceptionTable.toList, covers x pc = false) {z : Option Int32 × nS} {k209 : nS → Int32 → Int32 → Int32 → Option (Option Int32 × nS)} (K209 : ∀ (σ : nS) (x1 : Int32) (x3 : Int32) (x4 : Int32) (H : Heap) (locs : List Loc) (ls : Array Slot), lv_has ls 8 [(0, .ref (a 0)), (1, .int x1), (3, .int x3), (4, .int x4)] → va_P D vwCl ((Mw cy a) σ) H → va_S A s.heap H locs → k209 σ x1 x3 x4 = some z → W p l e ({ frames := 8, cells := 0, slots := 0, locals := 173 } : Room) s m args below meth c H locs 0 0 (nQx (nOv (a 9)) below D A (Mw cy a) s z) (F0 m 209 ls [])) {k300 : nS → Int32 → Int32 → Int32 → Int32 → Int32 → Option (Option Int32 × nS)} (K300 : ∀ (σ : nS) (x1 : Int32) (x3 : Int32) (x4 : Int32) (x5 : Int32) (x6 : Int32) (H : Heap) (locs : List Loc) (ls : Array Slot), lv_has ls 8 [(0, .ref (a 0)), (1, .int x1), (3, .int x3), (4, .int x4), (5, .int x5), (6, .int x6)] → va_P D vwCl ((Mw cy a) σ) H → va_S A s.heap H locs → k300 σ x1 x3 x4 x5 x6 = some z → W p l e ({ frames := 8, cells := 0, slots := 0, locals := 173 } : Room) s m args below meth c H locs 0 0 (nQx (nOv (a 9)) below D A (Mw cy a) s z) (F0 m 300 ls [])) {k301 : nS → Int32 → Int32 → Int32 → Int32 → Int32 → Int32 → Option (Option Int32 × nS)} (K301 : ∀ (σ : nS) (x1 : Int32) (x3 : Int32) (x4 : Int32) (x5 : Int32) (x6 : Int32) (y0 : Int32) (H : Heap) (locs : List Loc) (ls : Array Slot), lv_has ls 8 [(0, .ref (a 0)), (1, .int x1), (3, .int x3), (4, .int x4), (5, .int x5), (6, .int x6)] → va_P D vwCl ((Mw cy a) σ) H → va_S A s.heap H locs → k301 σ x1 x3 x4 x5 x6 y0 = some z → W p l e ({ frames := 8, cells := 0, slots := 0, locals := 173 } : Room) s m args below meth c H locs 0 0 (nQx (nOv (a 9)) below D A (Mw cy a) s z) (F0 m 301 ls [.int y0])) : ∀ (σ : nS) (x1 : Int32) (x3 : Int32) (x4 : Int32) (x5 : Int32) (x6 : Int32) (H : Heap) (locs : List Loc) (ls : Array Slot), lv_has ls 8 [(0, .ref (a 0)), (1, .int x1), (3, .int x3), (4, .int x4), (5, .int x5), (6, .int x6)] → va_P D vwCl ((Mw cy a) σ) H → va_S A s.heap H locs → b_X11_reads_232 N k209 k300 k301 σ x1 x3 x4 x5 x6 = some z → W p l e ({ frames := 8, cells := 0, slots := 0, locals := 173 } : Room) s m args below meth c H locs 0 0 (nQx (nOv (a 9)) below D A (Mw cy a) s z) (F0 m 232 ls []) := by
  obtain ⟨hx, hb, hr, hml, hown, hts, hlocks⟩ := C0
  intro σ x1 x3 x4 x5 x6 H locs ls hl hP hS hf
  unfold b_X11_reads_232 at hf
  refine lv_iload hx hb dX11_reads_232 (lv_at hl 5 rfl) ?_
  refine lv_iconst (v := 2) hx hb dX11_reads_234 (by decide) ?_
  refine lv_icmp_ge (tgt := 354) hx hb dX11_reads_235 (by decide) (fun hc => ?_) (fun hc => ?_)
  · replace hf := nIf_t hc hf
    obtain ⟨v1, ev1⟩ : ∃ y : Int32, y = x4 + 1 := ⟨_, rfl⟩
    replace hf := nLet_e hf ev1
    refine lv_iinc (v := v1) (lv' := [(4, .int v1), (0, .ref (a 0)), (1, .int x1), (3, .int x3), (5, .int x5), (6, .int x6)]) hx hb dX11_reads_354 hl (k := 3) rfl (by rw [ev1]; rfl) (by decide) rfl (fun ls hl => ?_)
    refine lv_goto (tgt := 209) hx hb dX11_reads_357 (by decide) ?_
    exact K209 σ x1 x3 v1 H locs ls (lv_sub hl [1, 2, 3, 0] rfl) hP hS hf
  · replace hf := nIf_f hc hf
    refine lv_aload_n hx hb dX11_reads_238 rfl (lv_at hl 0 rfl) ?_
    refine nb_get (ci := 11) hx hb hts iX11_reads_X11 hown hE hP 0 mbo_0 rfl 12 (by decide) qX11_reads_26 rfl rfl dX11_reads_239 ?_
    refine lv_iload hx hb dX11_reads_242 (lv_at hl 4 rfl) ?_
    obtain ⟨hin, hf⟩ := nIx_e hf
    refine na_iald hx hb hE hP mbr_4 hin dX11_reads_244 ?_
    refine lv_topi (fun v2 ev2 => ?_)
    replace hf := nLet_e hf ev2
    refine lv_iconst (v := 2) hx hb dX11_reads_245 (by decide) ?_
    refine lv_icmp_ne (tgt := 274) hx hb dX11_reads_246 (by decide) (fun hc => ?_) (fun hc => ?_)
    · replace hf := nIf_f hc hf
      refine lv_aload_n hx hb dX11_reads_274 rfl (lv_at hl 0 rfl) ?_
      refine nb_get (ci := 11) hx hb hts iX11_reads_X11 hown hE hP 0 mbo_0 rfl 12 (by decide) qX11_reads_26 rfl rfl dX11_reads_275 ?_
      refine lv_iload hx hb dX11_reads_278 (lv_at hl 4 rfl) ?_
      obtain ⟨hin, hf⟩ := nIx_e hf
      refine na_iald hx hb hE hP mbr_4 hin dX11_reads_280 ?_
      refine lv_topi (fun v3 ev3 => ?_)
      replace hf := nLet_e hf ev3
      refine lv_iconst (v := 4) hx hb dX11_reads_281 (by decide) ?_
      refine lv_icmp_ne (tgt := 300) hx hb dX11_reads_282 (by decide) (fun hc => ?_) (fun hc => ?_)
      · replace hf := nIf_f hc hf
        exact K300 σ x1 x3 x4 x5 x6 H locs ls (lv_sub hl [0, 1, 2, 3, 4, 5] rfl) hP hS hf
      · replace hf := nIf_t hc hf
        refine lv_iload hx hb dX11_reads_285 (lv_at hl 5 rfl) ?_
        refine lv_if_ne (tgt := 300) hx hb dX11_reads_287 (by decide) (fun hc => ?_) (fun hc => ?_)
        · replace hf := nIf_f hc hf
          exact K300 σ x1 x3 x4 x5 x6 H locs ls (lv_sub hl [0, 1, 2, 3, 4, 5] rfl) hP hS hf
        · replace hf := nIf_t hc hf
          refine lv_aload_n hx hb dX11_reads_290 rfl (lv_at hl 0 rfl) ?_
          refine nb_get (ci := 11) hx hb hts iX11_reads_X11 hown hE hP 0 mbo_0 rfl 13 (by decide) qX11_reads_29 rfl rfl dX11_reads_291 ?_
          refine lv_iload hx hb dX11_reads_294 (lv_at hl 4 rfl) ?_
          obtain ⟨hin, hf⟩ := nIx_e hf
          refine na_iald hx hb hE hP mbr_5 hin dX11_reads_296 ?_
          refine lv_topi (fun v4 ev4 => ?_)
          replace hf := nLet_e hf ev4
          refine lv_goto (tgt := 301) hx hb dX11_reads_297 (by decide) ?_
          exact K301 σ x1 x3 x4 x5 x6 v4 H locs ls (lv_sub hl [0, 1, 2, 3, 4, 5] rfl) hP hS hf
    · replace hf := nIf_t hc hf
      refine lv_iload hx hb dX11_reads_249 (lv_at hl 5 rfl) ?_
      refine lv_if_ne (tgt := 264) hx hb dX11_reads_251 (by decide) (fun hc => ?_) (fun hc => ?_)
      · replace hf := nIf_f hc hf
        refine lv_aload_n hx hb dX11_reads_264 rfl (lv_at hl 0 rfl) ?_
        refine nb_get (ci := 11) hx hb hts iX11_reads_X11 hown hE hP 0 mbo_0 rfl 15 (by decide) qX11_reads_35 rfl rfl dX11_reads_265 ?_
        refine lv_iload hx hb dX11_reads_268 (lv_at hl 4 rfl) ?_
        obtain ⟨hin, hf⟩ := nIx_e hf
        refine na_iald hx hb hE hP mbr_7 hin dX11_reads_270 ?_
        refine lv_topi (fun v5 ev5 => ?_)
        replace hf := nLet_e hf ev5
        refine lv_goto (tgt := 301) hx hb dX11_reads_271 (by decide) ?_
        exact K301 σ x1 x3 x4 x5 x6 v5 H locs ls (lv_sub hl [0, 1, 2, 3, 4, 5] rfl) hP hS hf
      · replace hf := nIf_t hc hf
        refine lv_aload_n hx hb dX11_reads_254 rfl (lv_at hl 0 rfl) ?_
        refine nb_get (ci := 11) hx hb hts iX11_reads_X11 hown hE hP 0 mbo_0 rfl 14 (by decide) qX11_reads_32 rfl rfl dX11_reads_255 ?_
        refine lv_iload hx hb dX11_reads_258 (lv_at hl 4 rfl) ?_
        obtain ⟨hin, hf⟩ := nIx_e hf
        refine na_iald hx hb hE hP mbr_6 hin dX11_reads_260 ?_
        refine lv_topi (fun v6 ev6 => ?_)
        replace hf := nLet_e hf ev6
        refine lv_goto (tgt := 301) hx hb dX11_reads_261 (by decide) ?_
        exact K301 σ x1 x3 x4 x5 x6 v6 H locs ls (lv_sub hl [0, 1, 2, 3, 4, 5] rfl) hP hS hf
def b_X11_reads_209 (N : Nat) (k232 : nS → Int32 → Int32 → Int32 → Int32 → Int32 → Option (Option Int32 × nS)) (σ : nS) (x1 : Int32) (x3 : Int32) (x4 : Int32) : Option (Option Int32 × nS) := nIx x1 5 (nLet (σ.1 3 (x1).toNatClampNeg) (fun v1 => (if v1 ≤ x4 then (if x3 = (-1) then some (some 0, σ) else nBd (f_X11_stop N 2 x3 σ) (fun r2 σ3 => some (none, σ3))) else nLet ((24 : Int32) * x1 : Int32) (fun v4 => nLet (v4 + x4 : Int32) (fun v5 => k232 σ x1 x3 x4 v5 0)))))
set_option maxHeartbeats 4000000 in
set_option maxRecDepth 100000 in
theorem kb_X11_reads_209 {p : Program} {l : Launch} {e : Env} {s : State} {m : MethodId} {args : Array Value} {below : List Frame} {meth : Method} {c : Code} {D : va_G} {A : Nat → Prop} {cy : Nat → ClassId} {a kt vt : Nat → Nat} {N : Nat}   (C0 : nCx p s m args meth c cX11_reads 8 none RX11 wsX11_reads) (hE : nEn D A cy (Mw cy a) kt vt s) (hT2 : ∀ w ∈ wTB, w.before args s = true) (hno : ∀ pc : Nat, ∀ x ∈ c.exceptionTable.toList, covers x pc = false) {z : Option Int32 × nS} {k232 : nS → Int32 → Int32 → Int32 → Int32 → Int32 → Option (Option Int32 × nS)} (K232 : ∀ (σ : nS) (x1 : Int32) (x3 : Int32) (x4 : Int32) (x5 : Int32) (x6 : Int32) (H : Heap) (locs : List Loc) (ls : Array Slot), lv_has ls 8 [(0, .ref (a 0)), (1, .int x1), (3, .int x3), (4, .int x4), (5, .int x5), (6, .int x6)] → va_P D vwCl ((Mw cy a) σ) H → va_S A s.heap H locs → k232 σ x1 x3 x4 x5 x6 = some z → W p l e ({ frames := 8, cells := 0, slots := 0, locals := 173 } : Room) s m args below meth c H locs 0 0 (nQx (nOv (a 9)) below D A (Mw cy a) s z) (F0 m 232 ls [])) : ∀ (σ : nS) (x1 : Int32) (x3 : Int32) (x4 : Int32) (H : Heap) (locs : List Loc) (ls : Array Slot), lv_has ls 8 [(0, .ref (a 0)), (1, .int x1), (3, .int x3), (4, .int x4)] → va_P D vwCl ((Mw cy a) σ) H → va_S A s.heap H locs → b_X11_reads_209 N k232 σ x1 x3 x4 = some z → W p l e ({ frames := 8, cells := 0, slots := 0, locals := 173 } : Room) s m args below meth c H locs 0 0 (nQx (nOv (a 9)) below D A (Mw cy a) s z) (F0 m 209 ls []) := by
  obtain ⟨hx, hb, hr, hml, hown, hts, hlocks⟩ := C0
  intro σ x1 x3 x4 H locs ls hl hP hS hf
  unfold b_X11_reads_209 at hf
  refine lv_iload hx hb dX11_reads_209 (lv_at hl 3 rfl) ?_
  refine lv_aload_n hx hb dX11_reads_211 rfl (lv_at hl 0 rfl) ?_
  refine nb_get (ci := 11) hx hb hts iX11_reads_X11 hown hE hP 0 mbo_0 rfl 11 (by decide) qX11_reads_23 rfl rfl dX11_reads_212 ?_
  refine lv_iload_n hx hb dX11_reads_215 rfl (lv_at hl 1 rfl) ?_
  obtain ⟨hin, hf⟩ := nIx_e hf
  refine na_iald hx hb hE hP mbr_3 hin dX11_reads_216 ?_
  refine lv_topi (fun v1 ev1 => ?_)
  replace hf := nLet_e hf ev1
  refine lv_icmp_ge (tgt := 360) hx hb dX11_reads_217 (by decide) (fun hc => ?_) (fun hc => ?_)
  · replace hf := nIf_t hc hf
    refine lv_iload_n hx hb dX11_reads_360 rfl (lv_at hl 2 rfl) ?_
    refine lv_iconst (v := (-1)) hx hb dX11_reads_361 (by decide) ?_
    refine lv_icmp_eq (tgt := 372) hx hb dX11_reads_362 (by decide) (fun hc => ?_) (fun hc => ?_)
    · replace hf := nIf_t hc hf
      exact nx_vret hx hb hr hlocks hP hS (nSo hf) dX11_reads_372
    · replace hf := nIf_f hc hf
      refine lv_aload_n hx hb dX11_reads_365 rfl (lv_at hl 0 rfl) ?_
      refine lv_iconst (v := 2) hx hb dX11_reads_366 (by decide) ?_
      refine lv_iload_n hx hb dX11_reads_367 rfl (lv_at hl 2 rfl) ?_
      obtain ⟨r2, σ3, hc3, hf⟩ := nBd_e hf
      refine nb_callVr (As := [.int 2, .int x3]) (rest := []) ⟨hx, hb, hml, hown, hT2⟩ (c_X11_stop (D := D) (A := A) (cy := cy) (a := a) (kt := kt) (vt := vt) (l := l)  hc3) (cwV 2 hT2 gT_X11_stop rfl rfl rfl (by decide +kernel) ⟨Nat.le_of_ble_eq_true rfl, Nat.le_of_ble_eq_true rfl⟩) hE hP hS mbo_0 rfl rfl hl.1 rfl (Nat.le_of_ble_eq_true rfl) dX11_reads_368 (fun H locs hP hS => ?_)
      exact nx_athrow hx hb (hno _) hlocks hP hS rfl (nSo hf) dX11_reads_371
  · replace hf := nIf_f hc hf
    refine lv_bipush (v := 24) hx hb dX11_reads_220 (by decide) ?_
    refine lv_iload_n hx hb dX11_reads_222 rfl (lv_at hl 1 rfl) ?_
    refine lv_imul hx hb dX11_reads_223 ?_
    refine lv_topi (fun v4 ev4 => ?_)
    replace hf := nLet_e hf ev4
    refine lv_iload hx hb dX11_reads_224 (lv_at hl 3 rfl) ?_
    refine lv_iadd hx hb dX11_reads_226 ?_
    refine lv_topi (fun v5 ev5 => ?_)
    replace hf := nLet_e hf ev5
    refine lv_istore (lv' := [(5, .int v5), (0, .ref (a 0)), (1, .int x1), (3, .int x3), (4, .int x4)]) hx hb dX11_reads_227 hl (by decide) rfl (fun ls hl => ?_)
    refine lv_iconst (v := 0) hx hb dX11_reads_229 (by decide) ?_
    refine lv_istore (lv' := [(6, .int 0), (5, .int v5), (0, .ref (a 0)), (1, .int x1), (3, .int x3), (4, .int x4)]) hx hb dX11_reads_230 hl (by decide) rfl (fun ls hl => ?_)
    exact K232 σ x1 x3 x4 v5 0 H locs ls (lv_sub hl [2, 3, 4, 5, 1, 0] rfl) hP hS hf
def b_X11_reads_88 (N : Nat) (k174 : nS → Int32 → Int32 → Option (Option Int32 × nS)) (σ : nS) (x1 : Int32) (y0 : Int32) : Option (Option Int32 × nS) := (if y0 = (-1) then nBd (f_X11_stop N 1 (σ.1 0 23) σ) (fun r15 σ16 => some (none, σ16)) else nIx x1 5 (nLet (σ.1 3 (x1).toNatClampNeg) (fun v1 => (if v1 = 24 then nBd (f_X11_stop N 3 (σ.1 0 23) σ) (fun r13 σ14 => some (none, σ14)) else nBd (f_X11_next N σ) (fun r2 σ3 => nLet ((24 : Int32) * x1 : Int32) (fun v4 => nIx x1 5 (nLet (σ3.1 3 (x1).toNatClampNeg) (fun v5 => nLet (v4 + v5 : Int32) (fun v6 => nIx x1 5 (nLet (σ3.1 3 (x1).toNatClampNeg) (fun v7 => nBx (f_X11_readStep N v6 v7 y0 σ3) (fun r8 σ9 => nIx x1 5 (nLet (σ9.1 3 (x1).toNatClampNeg) (fun v10 => nLet (v10 + (1 : Int32) : Int32) (fun v11 => nIx x1 5 (nLet (wr σ9 3 (x1).toNatClampNeg v11) (fun σ12 => (if (σ12.1 0 22) = 4 then k174 σ12 x1 1 else k174 σ12 x1 0))))))))))))))))))
set_option maxHeartbeats 4000000 in
set_option maxRecDepth 100000 in
theorem kb_X11_reads_88 {p : Program} {l : Launch} {e : Env} {s : State} {m : MethodId} {args : Array Value} {below : List Frame} {meth : Method} {c : Code} {D : va_G} {A : Nat → Prop} {cy : Nat → ClassId} {a kt vt : Nat → Nat} {N : Nat}   (C0 : nCx p s m args meth c cX11_reads 8 none RX11 wsX11_reads) (hE : nEn D A cy (Mw cy a) kt vt s) (hT2 : ∀ w ∈ wTB, w.before args s = true) (hno : ∀ pc : Nat, ∀ x ∈ c.exceptionTable.toList, covers x pc = false) {z : Option Int32 × nS} {k174 : nS → Int32 → Int32 → Option (Option Int32 × nS)} (K174 : ∀ (σ : nS) (x1 : Int32) (y0 : Int32) (H : Heap) (locs : List Loc) (ls : Array Slot), lv_has ls 8 [(0, .ref (a 0)), (1, .int x1)] → va_P D vwCl ((Mw cy a) σ) H → va_S A s.heap H locs → k174 σ x1 y0 = some z → W p l e ({ frames := 8, cells := 0, slots := 0, locals := 173 } : Room) s m args below meth c H locs 0 0 (nQx (nOv (a 9)) below D A (Mw cy a) s z) (F0 m 174 ls [.int y0])) : ∀ (σ : nS) (x1 : Int32) (y0 : Int32) (H : Heap) (locs : List Loc) (ls : Array Slot), lv_has ls 8 [(0, .ref (a 0)), (1, .int x1)] → va_P D vwCl ((Mw cy a) σ) H → va_S A s.heap H locs → b_X11_reads_88 N k174 σ x1 y0 = some z → W p l e ({ frames := 8, cells := 0, slots := 0, locals := 173 } : Room) s m args below meth c H locs 0 0 (nQx (nOv (a 9)) below D A (Mw cy a) s z) (F0 m 88 ls [.int y0]) := by
  obtain ⟨hx, hb, hr, hml, hown, hts, hlocks⟩ := C0
  intro σ x1 y0 H locs ls hl hP hS hf
  unfold b_X11_reads_88 at hf
  refine lv_istore_n (lv' := [(3, .int y0), (0, .ref (a 0)), (1, .int x1)]) hx hb dX11_reads_88 rfl hl (by decide) rfl (fun ls hl => ?_)
  refine lv_iload_n hx hb dX11_reads_89 rfl (lv_at hl 0 rfl) ?_
  refine lv_iconst (v := (-1)) hx hb dX11_reads_90 (by decide) ?_
  refine lv_icmp_ne (tgt := 104) hx hb dX11_reads_91 (by decide) (fun hc => ?_) (fun hc => ?_)
  · replace hf := nIf_f hc hf
    refine lv_aload_n hx hb dX11_reads_104 rfl (lv_at hl 1 rfl) ?_
    refine nb_get (ci := 11) hx hb hts iX11_reads_X11 hown hE hP 0 mbo_0 rfl 11 (by decide) qX11_reads_23 rfl rfl dX11_reads_105 ?_
    refine lv_iload_n hx hb dX11_reads_108 rfl (lv_at hl 2 rfl) ?_
    obtain ⟨hin, hf⟩ := nIx_e hf
    refine na_iald hx hb hE hP mbr_3 hin dX11_reads_109 ?_
    refine lv_topi (fun v1 ev1 => ?_)
    replace hf := nLet_e hf ev1
    refine lv_bipush (v := 24) hx hb dX11_reads_110 (by decide) ?_
    refine lv_icmp_ne (tgt := 125) hx hb dX11_reads_112 (by decide) (fun hc => ?_) (fun hc => ?_)
    · replace hf := nIf_f hc hf
      refine lv_aload_n hx hb dX11_reads_125 rfl (lv_at hl 1 rfl) ?_
      obtain ⟨r2, σ3, hc3, hf⟩ := nBd_e hf
      refine nb_callVv (As := []) (rest := []) ⟨hx, hb, hml, hown, hts⟩ (c_X11_next (D := D) (A := A) (cy := cy) (a := a) (kt := kt) (vt := vt) (l := l)  hc3) (cwV 0 hts gX11_reads_X11_next rfl rfl rfl (by decide +kernel) ⟨Nat.le_of_ble_eq_true rfl, Nat.le_of_ble_eq_true rfl⟩) hE hP hS mbo_0 rfl rfl hl.1 rfl (Nat.le_of_ble_eq_true rfl) dX11_reads_126 (fun H locs hP hS => ?_)
      refine lv_aload_n hx hb dX11_reads_129 rfl (lv_at hl 1 rfl) ?_
      refine lv_bipush (v := 24) hx hb dX11_reads_130 (by decide) ?_
      refine lv_iload_n hx hb dX11_reads_132 rfl (lv_at hl 2 rfl) ?_
      refine lv_imul hx hb dX11_reads_133 ?_
      refine lv_topi (fun v4 ev4 => ?_)
      replace hf := nLet_e hf ev4
      refine lv_aload_n hx hb dX11_reads_134 rfl (lv_at hl 1 rfl) ?_
      refine nb_get (ci := 11) hx hb hts iX11_reads_X11 hown hE hP 0 mbo_0 rfl 11 (by decide) qX11_reads_23 rfl rfl dX11_reads_135 ?_
      refine lv_iload_n hx hb dX11_reads_138 rfl (lv_at hl 2 rfl) ?_
      obtain ⟨hin, hf⟩ := nIx_e hf
      refine na_iald hx hb hE hP mbr_3 hin dX11_reads_139 ?_
      refine lv_topi (fun v5 ev5 => ?_)
      replace hf := nLet_e hf ev5
      refine lv_iadd hx hb dX11_reads_140 ?_
      refine lv_topi (fun v6 ev6 => ?_)
      replace hf := nLet_e hf ev6
      refine lv_aload_n hx hb dX11_reads_141 rfl (lv_at hl 1 rfl) ?_
      refine nb_get (ci := 11) hx hb hts iX11_reads_X11 hown hE hP 0 mbo_0 rfl 11 (by decide) qX11_reads_23 rfl rfl dX11_reads_142 ?_
      refine lv_iload_n hx hb dX11_reads_145 rfl (lv_at hl 2 rfl) ?_
      obtain ⟨hin, hf⟩ := nIx_e hf
      refine na_iald hx hb hE hP mbr_3 hin dX11_reads_146 ?_
      refine lv_topi (fun v7 ev7 => ?_)
      replace hf := nLet_e hf ev7
      refine lv_iload_n hx hb dX11_reads_147 rfl (lv_at hl 0 rfl) ?_
      rcases (nBx_e hf).symm with ⟨σ9, hc9, hz⟩ | ⟨r8, σ9, hc9, hf⟩
      · exact nx_callVt (As := [.int v6, .int v7, .int y0]) (rest := []) ⟨hx, hb, hml, hown, hT2⟩ (c_X11_readStep (D := D) (A := A) (cy := cy) (a := a) (kt := kt) (vt := vt) (l := l)  hc9) (fun _ h => h) (cwV 3 hT2 gT_X11_readStep rfl rfl rfl (by decide +kernel) ⟨Nat.le_of_ble_eq_true rfl, Nat.le_of_ble_eq_true rfl⟩) hE hP hS mbo_0 rfl rfl hl.1 rfl (Nat.le_of_ble_eq_true rfl) dX11_reads_148 (hno _) hlocks rfl hz
      refine nb_callVv (As := [.int v6, .int v7, .int y0]) (rest := []) ⟨hx, hb, hml, hown, hT2⟩ (nMx_v (c_X11_readStep (D := D) (A := A) (cy := cy) (a := a) (kt := kt) (vt := vt) (l := l)  hc9)) (cwV 3 hT2 gT_X11_readStep rfl rfl rfl (by decide +kernel) ⟨Nat.le_of_ble_eq_true rfl, Nat.le_of_ble_eq_true rfl⟩) hE hP hS mbo_0 rfl rfl hl.1 rfl (Nat.le_of_ble_eq_true rfl) dX11_reads_148 (fun H locs hP hS => ?_)
      refine lv_aload_n hx hb dX11_reads_151 rfl (lv_at hl 1 rfl) ?_
      refine nb_get (ci := 11) hx hb hts iX11_reads_X11 hown hE hP 0 mbo_0 rfl 11 (by decide) qX11_reads_23 rfl rfl dX11_reads_152 ?_
      refine lv_iload_n hx hb dX11_reads_155 rfl (lv_at hl 2 rfl) ?_
      refine lv_dup2_11 hx hb dX11_reads_156 rfl rfl ?_
      obtain ⟨hin, hf⟩ := nIx_e hf
      refine na_iald hx hb hE hP mbr_3 hin dX11_reads_157 ?_
      refine lv_topi (fun v10 ev10 => ?_)
      replace hf := nLet_e hf ev10
      refine lv_iconst (v := 1) hx hb dX11_reads_158 (by decide) ?_
      refine lv_iadd hx hb dX11_reads_159 ?_
      refine lv_topi (fun v11 ev11 => ?_)
      replace hf := nLet_e hf ev11
      obtain ⟨hin, hf⟩ := nIx_e hf
      refine na_iast hx hb hE hP hS mbr_3 hin dX11_reads_160 (fun σ12 eσ12 H locs hP hS => ?_)
      replace hf := nLet_e hf eσ12
      refine lv_aload_n hx hb dX11_reads_161 rfl (lv_at hl 1 rfl) ?_
      refine nb_get (ci := 11) hx hb hts iX11_reads_X11 hown hE hP 0 mbo_0 rfl 22 (by decide) qX11_reads_170 rfl rfl dX11_reads_162 ?_
      refine lv_iconst (v := 4) hx hb dX11_reads_165 (by decide) ?_
      refine lv_icmp_ne (tgt := 173) hx hb dX11_reads_166 (by decide) (fun hc => ?_) (fun hc => ?_)
      · replace hf := nIf_f hc hf
        refine lv_iconst (v := 0) hx hb dX11_reads_173 (by decide) ?_
        exact K174 σ12 x1 0 H locs ls (lv_sub hl [1, 2] rfl) hP hS hf
      · replace hf := nIf_t hc hf
        refine lv_iconst (v := 1) hx hb dX11_reads_169 (by decide) ?_
        refine lv_goto (tgt := 174) hx hb dX11_reads_170 (by decide) ?_
        exact K174 σ12 x1 1 H locs ls (lv_sub hl [1, 2] rfl) hP hS hf
    · replace hf := nIf_t hc hf
      refine lv_aload_n hx hb dX11_reads_115 rfl (lv_at hl 1 rfl) ?_
      refine lv_iconst (v := 3) hx hb dX11_reads_116 (by decide) ?_
      refine lv_aload_n hx hb dX11_reads_117 rfl (lv_at hl 1 rfl) ?_
      refine nb_get (ci := 11) hx hb hts iX11_reads_X11 hown hE hP 0 mbo_0 rfl 23 (by decide) qX11_reads_169 rfl rfl dX11_reads_118 ?_
      obtain ⟨r13, σ14, hc14, hf⟩ := nBd_e hf
      refine nb_callVr (As := [.int 3, .int (σ.1 0 23)]) (rest := []) ⟨hx, hb, hml, hown, hT2⟩ (c_X11_stop (D := D) (A := A) (cy := cy) (a := a) (kt := kt) (vt := vt) (l := l)  hc14) (cwV 2 hT2 gT_X11_stop rfl rfl rfl (by decide +kernel) ⟨Nat.le_of_ble_eq_true rfl, Nat.le_of_ble_eq_true rfl⟩) hE hP hS mbo_0 rfl rfl hl.1 rfl (Nat.le_of_ble_eq_true rfl) dX11_reads_121 (fun H locs hP hS => ?_)
      exact nx_athrow hx hb (hno _) hlocks hP hS rfl (nSo hf) dX11_reads_124
  · replace hf := nIf_t hc hf
    refine lv_aload_n hx hb dX11_reads_94 rfl (lv_at hl 1 rfl) ?_
    refine lv_iconst (v := 1) hx hb dX11_reads_95 (by decide) ?_
    refine lv_aload_n hx hb dX11_reads_96 rfl (lv_at hl 1 rfl) ?_
    refine nb_get (ci := 11) hx hb hts iX11_reads_X11 hown hE hP 0 mbo_0 rfl 23 (by decide) qX11_reads_169 rfl rfl dX11_reads_97 ?_
    obtain ⟨r15, σ16, hc16, hf⟩ := nBd_e hf
    refine nb_callVr (As := [.int 1, .int (σ.1 0 23)]) (rest := []) ⟨hx, hb, hml, hown, hT2⟩ (c_X11_stop (D := D) (A := A) (cy := cy) (a := a) (kt := kt) (vt := vt) (l := l)  hc16) (cwV 2 hT2 gT_X11_stop rfl rfl rfl (by decide +kernel) ⟨Nat.le_of_ble_eq_true rfl, Nat.le_of_ble_eq_true rfl⟩) hE hP hS mbo_0 rfl rfl hl.1 rfl (Nat.le_of_ble_eq_true rfl) dX11_reads_100 (fun H locs hP hS => ?_)
    exact nx_athrow hx hb (hno _) hlocks hP hS rfl (nSo hf) dX11_reads_103
def b_X11_reads_18 (N : Nat) (k88 : nS → Int32 → Int32 → Option (Option Int32 × nS)) (k209 : nS → Int32 → Int32 → Int32 → Option (Option Int32 × nS)) (σ : nS) (x1 : Int32) (x2 : Int32) : Option (Option Int32 × nS) := (if x2 = 0 then (if (σ.1 0 22) = 1 then k209 σ x1 (-1) 0 else nBd (f_X11_stop N 1 (σ.1 0 23) σ) (fun r1 σ2 => some (none, σ2))) else nBd (f_X11_isWord N 0 σ) (fun r3 σ4 => (if r3 = 0 then nBd (f_X11_isWord N 1 σ4) (fun r5 σ6 => (if r5 = 0 then nBd (f_X11_isWord N 2 σ6) (fun r7 σ8 => (if r7 = 0 then nBd (f_X11_isWord N 3 σ8) (fun r9 σ10 => (if r9 = 0 then nBd (f_X11_isWord N 4 σ10) (fun r11 σ12 => (if r11 = 0 then k88 σ12 x1 (-1) else k88 σ12 x1 5)) else k88 σ10 x1 4)) else k88 σ8 x1 3)) else k88 σ6 x1 2)) else k88 σ4 x1 0)))
set_option maxHeartbeats 4000000 in
set_option maxRecDepth 100000 in
theorem kb_X11_reads_18 {p : Program} {l : Launch} {e : Env} {s : State} {m : MethodId} {args : Array Value} {below : List Frame} {meth : Method} {c : Code} {D : va_G} {A : Nat → Prop} {cy : Nat → ClassId} {a kt vt : Nat → Nat} {N : Nat}   (C0 : nCx p s m args meth c cX11_reads 8 none RX11 wsX11_reads) (hE : nEn D A cy (Mw cy a) kt vt s) (hT2 : ∀ w ∈ wTB, w.before args s = true) (hno : ∀ pc : Nat, ∀ x ∈ c.exceptionTable.toList, covers x pc = false) {z : Option Int32 × nS} {k88 : nS → Int32 → Int32 → Option (Option Int32 × nS)} (K88 : ∀ (σ : nS) (x1 : Int32) (y0 : Int32) (H : Heap) (locs : List Loc) (ls : Array Slot), lv_has ls 8 [(0, .ref (a 0)), (1, .int x1)] → va_P D vwCl ((Mw cy a) σ) H → va_S A s.heap H locs → k88 σ x1 y0 = some z → W p l e ({ frames := 8, cells := 0, slots := 0, locals := 173 } : Room) s m args below meth c H locs 0 0 (nQx (nOv (a 9)) below D A (Mw cy a) s z) (F0 m 88 ls [.int y0])) {k209 : nS → Int32 → Int32 → Int32 → Option (Option Int32 × nS)} (K209 : ∀ (σ : nS) (x1 : Int32) (x3 : Int32) (x4 : Int32) (H : Heap) (locs : List Loc) (ls : Array Slot), lv_has ls 8 [(0, .ref (a 0)), (1, .int x1), (3, .int x3), (4, .int x4)] → va_P D vwCl ((Mw cy a) σ) H → va_S A s.heap H locs → k209 σ x1 x3 x4 = some z → W p l e ({ frames := 8, cells := 0, slots := 0, locals := 173 } : Room) s m args below meth c H locs 0 0 (nQx (nOv (a 9)) below D A (Mw cy a) s z) (F0 m 209 ls [])) : ∀ (σ : nS) (x1 : Int32) (x2 : Int32) (H : Heap) (locs : List Loc) (ls : Array Slot), lv_has ls 8 [(0, .ref (a 0)), (1, .int x1), (2, .int x2)] → va_P D vwCl ((Mw cy a) σ) H → va_S A s.heap H locs → b_X11_reads_18 N k88 k209 σ x1 x2 = some z → W p l e ({ frames := 8, cells := 0, slots := 0, locals := 173 } : Room) s m args below meth c H locs 0 0 (nQx (nOv (a 9)) below D A (Mw cy a) s z) (F0 m 18 ls []) := by
  obtain ⟨hx, hb, hr, hml, hown, hts, hlocks⟩ := C0
  intro σ x1 x2 H locs ls hl hP hS hf
  unfold b_X11_reads_18 at hf
  refine lv_iload_n hx hb dX11_reads_18 rfl (lv_at hl 2 rfl) ?_
  refine lv_if_eq (tgt := 186) hx hb dX11_reads_19 (by decide) (fun hc => ?_) (fun hc => ?_)
  · replace hf := nIf_t hc hf
    refine lv_aload_n hx hb dX11_reads_186 rfl (lv_at hl 0 rfl) ?_
    refine nb_get (ci := 11) hx hb hts iX11_reads_X11 hown hE hP 0 mbo_0 rfl 22 (by decide) qX11_reads_170 rfl rfl dX11_reads_187 ?_
    refine lv_iconst (v := 1) hx hb dX11_reads_190 (by decide) ?_
    refine lv_icmp_eq (tgt := 204) hx hb dX11_reads_191 (by decide) (fun hc => ?_) (fun hc => ?_)
    · replace hf := nIf_t hc hf
      refine lv_iconst (v := (-1)) hx hb dX11_reads_204 (by decide) ?_
      refine lv_istore_n (lv' := [(3, .int (-1)), (0, .ref (a 0)), (1, .int x1), (2, .int x2)]) hx hb dX11_reads_205 rfl hl (by decide) rfl (fun ls hl => ?_)
      refine lv_iconst (v := 0) hx hb dX11_reads_206 (by decide) ?_
      refine lv_istore (lv' := [(4, .int 0), (3, .int (-1)), (0, .ref (a 0)), (1, .int x1), (2, .int x2)]) hx hb dX11_reads_207 hl (by decide) rfl (fun ls hl => ?_)
      exact K209 σ x1 (-1) 0 H locs ls (lv_sub hl [2, 3, 1, 0] rfl) hP hS hf
    · replace hf := nIf_f hc hf
      refine lv_aload_n hx hb dX11_reads_194 rfl (lv_at hl 0 rfl) ?_
      refine lv_iconst (v := 1) hx hb dX11_reads_195 (by decide) ?_
      refine lv_aload_n hx hb dX11_reads_196 rfl (lv_at hl 0 rfl) ?_
      refine nb_get (ci := 11) hx hb hts iX11_reads_X11 hown hE hP 0 mbo_0 rfl 23 (by decide) qX11_reads_169 rfl rfl dX11_reads_197 ?_
      obtain ⟨r1, σ2, hc2, hf⟩ := nBd_e hf
      refine nb_callVr (As := [.int 1, .int (σ.1 0 23)]) (rest := []) ⟨hx, hb, hml, hown, hT2⟩ (c_X11_stop (D := D) (A := A) (cy := cy) (a := a) (kt := kt) (vt := vt) (l := l)  hc2) (cwV 2 hT2 gT_X11_stop rfl rfl rfl (by decide +kernel) ⟨Nat.le_of_ble_eq_true rfl, Nat.le_of_ble_eq_true rfl⟩) hE hP hS mbo_0 rfl rfl hl.1 rfl (Nat.le_of_ble_eq_true rfl) dX11_reads_200 (fun H locs hP hS => ?_)
      exact nx_athrow hx hb (hno _) hlocks hP hS rfl (nSo hf) dX11_reads_203
  · replace hf := nIf_f hc hf
    refine lv_aload_n hx hb dX11_reads_22 rfl (lv_at hl 0 rfl) ?_
    refine va_ldcS hx hb hown (hE.2.2.2.2.1 (RX11, 204, "do", 0) (by decide +kernel)) dX11_reads_23 ?_
    obtain ⟨r3, σ4, hc4, hf⟩ := nBd_e hf
    refine nb_callVi (As := [.ref (kt 0)]) (rest := []) ⟨hx, hb, hml, hown, hts⟩ (c_X11_isWord (D := D) (A := A) (cy := cy) (a := a) (kt := kt) (vt := vt) (l := l) (by decide) hc4) (cwV 1 hts gX11_reads_X11_isWord rfl rfl rfl (by decide +kernel) ⟨Nat.le_of_ble_eq_true rfl, Nat.le_of_ble_eq_true rfl⟩) hE hP hS mbo_0 rfl rfl hl.1 rfl (Nat.le_of_ble_eq_true rfl) dX11_reads_25 (fun H locs hP hS => ?_)
    refine lv_if_eq (tgt := 35) hx hb dX11_reads_28 (by decide) (fun hc => ?_) (fun hc => ?_)
    · replace hf := nIf_t hc hf
      refine lv_aload_n hx hb dX11_reads_35 rfl (lv_at hl 0 rfl) ?_
      refine va_ldcS hx hb hown (hE.2.2.2.2.1 (RX11, 206, "ask", 1) (by decide +kernel)) dX11_reads_36 ?_
      obtain ⟨r5, σ6, hc6, hf⟩ := nBd_e hf
      refine nb_callVi (As := [.ref (kt 1)]) (rest := []) ⟨hx, hb, hml, hown, hts⟩ (c_X11_isWord (D := D) (A := A) (cy := cy) (a := a) (kt := kt) (vt := vt) (l := l) (by decide) hc6) (cwV 1 hts gX11_reads_X11_isWord rfl rfl rfl (by decide +kernel) ⟨Nat.le_of_ble_eq_true rfl, Nat.le_of_ble_eq_true rfl⟩) hE hP hS mbo_0 rfl rfl hl.1 rfl (Nat.le_of_ble_eq_true rfl) dX11_reads_38 (fun H locs hP hS => ?_)
      refine lv_if_eq (tgt := 48) hx hb dX11_reads_41 (by decide) (fun hc => ?_) (fun hc => ?_)
      · replace hf := nIf_t hc hf
        refine lv_aload_n hx hb dX11_reads_48 rfl (lv_at hl 0 rfl) ?_
        refine va_ldcS hx hb hown (hE.2.2.2.2.1 (RX11, 208, "wait", 2) (by decide +kernel)) dX11_reads_49 ?_
        obtain ⟨r7, σ8, hc8, hf⟩ := nBd_e hf
        refine nb_callVi (As := [.ref (kt 2)]) (rest := []) ⟨hx, hb, hml, hown, hts⟩ (c_X11_isWord (D := D) (A := A) (cy := cy) (a := a) (kt := kt) (vt := vt) (l := l) (by decide) hc8) (cwV 1 hts gX11_reads_X11_isWord rfl rfl rfl (by decide +kernel) ⟨Nat.le_of_ble_eq_true rfl, Nat.le_of_ble_eq_true rfl⟩) hE hP hS mbo_0 rfl rfl hl.1 rfl (Nat.le_of_ble_eq_true rfl) dX11_reads_51 (fun H locs hP hS => ?_)
        refine lv_if_eq (tgt := 61) hx hb dX11_reads_54 (by decide) (fun hc => ?_) (fun hc => ?_)
        · replace hf := nIf_t hc hf
          refine lv_aload_n hx hb dX11_reads_61 rfl (lv_at hl 0 rfl) ?_
          refine va_ldcS hx hb hown (hE.2.2.2.2.1 (RX11, 210, "go", 3) (by decide +kernel)) dX11_reads_62 ?_
          obtain ⟨r9, σ10, hc10, hf⟩ := nBd_e hf
          refine nb_callVi (As := [.ref (kt 3)]) (rest := []) ⟨hx, hb, hml, hown, hts⟩ (c_X11_isWord (D := D) (A := A) (cy := cy) (a := a) (kt := kt) (vt := vt) (l := l) (by decide) hc10) (cwV 1 hts gX11_reads_X11_isWord rfl rfl rfl (by decide +kernel) ⟨Nat.le_of_ble_eq_true rfl, Nat.le_of_ble_eq_true rfl⟩) hE hP hS mbo_0 rfl rfl hl.1 rfl (Nat.le_of_ble_eq_true rfl) dX11_reads_64 (fun H locs hP hS => ?_)
          refine lv_if_eq (tgt := 74) hx hb dX11_reads_67 (by decide) (fun hc => ?_) (fun hc => ?_)
          · replace hf := nIf_t hc hf
            refine lv_aload_n hx hb dX11_reads_74 rfl (lv_at hl 0 rfl) ?_
            refine va_ldcS hx hb hown (hE.2.2.2.2.1 (RX11, 212, "calm", 4) (by decide +kernel)) dX11_reads_75 ?_
            obtain ⟨r11, σ12, hc12, hf⟩ := nBd_e hf
            refine nb_callVi (As := [.ref (kt 4)]) (rest := []) ⟨hx, hb, hml, hown, hts⟩ (c_X11_isWord (D := D) (A := A) (cy := cy) (a := a) (kt := kt) (vt := vt) (l := l) (by decide) hc12) (cwV 1 hts gX11_reads_X11_isWord rfl rfl rfl (by decide +kernel) ⟨Nat.le_of_ble_eq_true rfl, Nat.le_of_ble_eq_true rfl⟩) hE hP hS mbo_0 rfl rfl hl.1 rfl (Nat.le_of_ble_eq_true rfl) dX11_reads_77 (fun H locs hP hS => ?_)
            refine lv_if_eq (tgt := 87) hx hb dX11_reads_80 (by decide) (fun hc => ?_) (fun hc => ?_)
            · replace hf := nIf_t hc hf
              refine lv_iconst (v := (-1)) hx hb dX11_reads_87 (by decide) ?_
              exact K88 σ12 x1 (-1) H locs ls (lv_sub hl [0, 1] rfl) hP hS hf
            · replace hf := nIf_f hc hf
              refine lv_iconst (v := 5) hx hb dX11_reads_83 (by decide) ?_
              refine lv_goto (tgt := 88) hx hb dX11_reads_84 (by decide) ?_
              exact K88 σ12 x1 5 H locs ls (lv_sub hl [0, 1] rfl) hP hS hf
          · replace hf := nIf_f hc hf
            refine lv_iconst (v := 4) hx hb dX11_reads_70 (by decide) ?_
            refine lv_goto (tgt := 88) hx hb dX11_reads_71 (by decide) ?_
            exact K88 σ10 x1 4 H locs ls (lv_sub hl [0, 1] rfl) hP hS hf
        · replace hf := nIf_f hc hf
          refine lv_iconst (v := 3) hx hb dX11_reads_57 (by decide) ?_
          refine lv_goto (tgt := 88) hx hb dX11_reads_58 (by decide) ?_
          exact K88 σ8 x1 3 H locs ls (lv_sub hl [0, 1] rfl) hP hS hf
      · replace hf := nIf_f hc hf
        refine lv_iconst (v := 2) hx hb dX11_reads_44 (by decide) ?_
        refine lv_goto (tgt := 88) hx hb dX11_reads_45 (by decide) ?_
        exact K88 σ6 x1 2 H locs ls (lv_sub hl [0, 1] rfl) hP hS hf
    · replace hf := nIf_f hc hf
      refine lv_iconst (v := 0) hx hb dX11_reads_31 (by decide) ?_
      refine lv_goto (tgt := 88) hx hb dX11_reads_32 (by decide) ?_
      exact K88 σ4 x1 0 H locs ls (lv_sub hl [0, 1] rfl) hP hS hf
def b_X11_reads_0 (N : Nat) (k18 : nS → Int32 → Int32 → Option (Option Int32 × nS)) (σ : nS) : Option (Option Int32 × nS) := nIx (σ.1 0 7) 5 (nLet (wr σ 3 ((σ.1 0 7)).toNatClampNeg 0) (fun σ1 => nBd (f_X11_next N σ1) (fun r2 σ3 => k18 σ3 (σ.1 0 7) 1)))
set_option maxHeartbeats 4000000 in
set_option maxRecDepth 100000 in
theorem kb_X11_reads_0 {p : Program} {l : Launch} {e : Env} {s : State} {m : MethodId} {args : Array Value} {below : List Frame} {meth : Method} {c : Code} {D : va_G} {A : Nat → Prop} {cy : Nat → ClassId} {a kt vt : Nat → Nat} {N : Nat}   (C0 : nCx p s m args meth c cX11_reads 8 none RX11 wsX11_reads) (hE : nEn D A cy (Mw cy a) kt vt s) (hT2 : ∀ w ∈ wTB, w.before args s = true) (hno : ∀ pc : Nat, ∀ x ∈ c.exceptionTable.toList, covers x pc = false) {z : Option Int32 × nS} {k18 : nS → Int32 → Int32 → Option (Option Int32 × nS)} (K18 : ∀ (σ : nS) (x1 : Int32) (x2 : Int32) (H : Heap) (locs : List Loc) (ls : Array Slot), lv_has ls 8 [(0, .ref (a 0)), (1, .int x1), (2, .int x2)] → va_P D vwCl ((Mw cy a) σ) H → va_S A s.heap H locs → k18 σ x1 x2 = some z → W p l e ({ frames := 8, cells := 0, slots := 0, locals := 173 } : Room) s m args below meth c H locs 0 0 (nQx (nOv (a 9)) below D A (Mw cy a) s z) (F0 m 18 ls [])) : ∀ (σ : nS) (H : Heap) (locs : List Loc) (ls : Array Slot), lv_has ls 8 [(0, .ref (a 0))] → va_P D vwCl ((Mw cy a) σ) H → va_S A s.heap H locs → b_X11_reads_0 N k18 σ = some z → W p l e ({ frames := 8, cells := 0, slots := 0, locals := 173 } : Room) s m args below meth c H locs 0 0 (nQx (nOv (a 9)) below D A (Mw cy a) s z) (F0 m 0 ls []) := by
  obtain ⟨hx, hb, hr, hml, hown, hts, hlocks⟩ := C0
  intro σ  H locs ls hl hP hS hf
  unfold b_X11_reads_0 at hf
  refine lv_aload_n hx hb dX11_reads_0 rfl (lv_at hl 0 rfl) ?_
  refine nb_get (ci := 11) hx hb hts iX11_reads_X11 hown hE hP 0 mbo_0 rfl 7 (by decide) qX11_reads_201 rfl rfl dX11_reads_1 ?_
  refine lv_istore_n (lv' := [(1, .int (σ.1 0 7)), (0, .ref (a 0))]) hx hb dX11_reads_4 rfl hl (by decide) rfl (fun ls hl => ?_)
  refine lv_aload_n hx hb dX11_reads_5 rfl (lv_at hl 1 rfl) ?_
  refine nb_get (ci := 11) hx hb hts iX11_reads_X11 hown hE hP 0 mbo_0 rfl 11 (by decide) qX11_reads_23 rfl rfl dX11_reads_6 ?_
  refine lv_iload_n hx hb dX11_reads_9 rfl (lv_at hl 0 rfl) ?_
  refine lv_iconst (v := 0) hx hb dX11_reads_10 (by decide) ?_
  obtain ⟨hin, hf⟩ := nIx_e hf
  refine na_iast hx hb hE hP hS mbr_3 hin dX11_reads_11 (fun σ1 eσ1 H locs hP hS => ?_)
  replace hf := nLet_e hf eσ1
  refine lv_aload_n hx hb dX11_reads_12 rfl (lv_at hl 1 rfl) ?_
  obtain ⟨r2, σ3, hc3, hf⟩ := nBd_e hf
  refine nb_callVv (As := []) (rest := []) ⟨hx, hb, hml, hown, hts⟩ (c_X11_next (D := D) (A := A) (cy := cy) (a := a) (kt := kt) (vt := vt) (l := l)  hc3) (cwV 0 hts gX11_reads_X11_next rfl rfl rfl (by decide +kernel) ⟨Nat.le_of_ble_eq_true rfl, Nat.le_of_ble_eq_true rfl⟩) hE hP hS mbo_0 rfl rfl hl.1 rfl (Nat.le_of_ble_eq_true rfl) dX11_reads_13 (fun H locs hP hS => ?_)
  refine lv_iconst (v := 1) hx hb dX11_reads_16 (by decide) ?_
  refine lv_istore_n (lv' := [(2, .int 1), (1, .int (σ.1 0 7)), (0, .ref (a 0))]) hx hb dX11_reads_17 rfl hl (by decide) rfl (fun ls hl => ?_)
  exact K18 σ3 (σ.1 0 7) 1 H locs ls (lv_sub hl [2, 1, 0] rfl) hP hS hf
def l_X11_reads_183 (N : Nat) (k18 : nS → Int32 → Int32 → Option (Option Int32 × nS)) : nS → Int32 → Int32 → Option (Option Int32 × nS) := b_X11_reads_183 N k18
theorem kl_X11_reads_183 {p : Program} {l : Launch} {e : Env} {s : State} {m : MethodId} {args : Array Value} {below : List Frame} {meth : Method} {c : Code} {D : va_G} {A : Nat → Prop} {cy : Nat → ClassId} {a kt vt : Nat → Nat} {N : Nat}   (C0 : nCx p s m args meth c cX11_reads 8 none RX11 wsX11_reads) (hE : nEn D A cy (Mw cy a) kt vt s) (hT2 : ∀ w ∈ wTB, w.before args s = true) (hno : ∀ pc : Nat, ∀ x ∈ c.exceptionTable.toList, covers x pc = false) {z : Option Int32 × nS} {k18 : nS → Int32 → Int32 → Option (Option Int32 × nS)} (K18 : ∀ (σ : nS) (x1 : Int32) (x2 : Int32) (H : Heap) (locs : List Loc) (ls : Array Slot), lv_has ls 8 [(0, .ref (a 0)), (1, .int x1), (2, .int x2)] → va_P D vwCl ((Mw cy a) σ) H → va_S A s.heap H locs → k18 σ x1 x2 = some z → W p l e ({ frames := 8, cells := 0, slots := 0, locals := 173 } : Room) s m args below meth c H locs 0 0 (nQx (nOv (a 9)) below D A (Mw cy a) s z) (F0 m 18 ls [])) : ∀ (σ : nS) (x1 : Int32) (x2 : Int32) (H : Heap) (locs : List Loc) (ls : Array Slot), lv_has ls 8 [(0, .ref (a 0)), (1, .int x1), (2, .int x2)] → va_P D vwCl ((Mw cy a) σ) H → va_S A s.heap H locs → l_X11_reads_183 N k18 σ x1 x2 = some z → W p l e ({ frames := 8, cells := 0, slots := 0, locals := 173 } : Room) s m args below meth c H locs 0 0 (nQx (nOv (a 9)) below D A (Mw cy a) s z) (F0 m 183 ls []) := by
  exact kb_X11_reads_183 (N := N)  C0 hE hT2 hno K18
def l_X11_reads_174 (N : Nat) (k18 : nS → Int32 → Int32 → Option (Option Int32 × nS)) : nS → Int32 → Int32 → Option (Option Int32 × nS) := b_X11_reads_174 N (l_X11_reads_183 N k18)
theorem kl_X11_reads_174 {p : Program} {l : Launch} {e : Env} {s : State} {m : MethodId} {args : Array Value} {below : List Frame} {meth : Method} {c : Code} {D : va_G} {A : Nat → Prop} {cy : Nat → ClassId} {a kt vt : Nat → Nat} {N : Nat}   (C0 : nCx p s m args meth c cX11_reads 8 none RX11 wsX11_reads) (hE : nEn D A cy (Mw cy a) kt vt s) (hT2 : ∀ w ∈ wTB, w.before args s = true) (hno : ∀ pc : Nat, ∀ x ∈ c.exceptionTable.toList, covers x pc = false) {z : Option Int32 × nS} {k18 : nS → Int32 → Int32 → Option (Option Int32 × nS)} (K18 : ∀ (σ : nS) (x1 : Int32) (x2 : Int32) (H : Heap) (locs : List Loc) (ls : Array Slot), lv_has ls 8 [(0, .ref (a 0)), (1, .int x1), (2, .int x2)] → va_P D vwCl ((Mw cy a) σ) H → va_S A s.heap H locs → k18 σ x1 x2 = some z → W p l e ({ frames := 8, cells := 0, slots := 0, locals := 173 } : Room) s m args below meth c H locs 0 0 (nQx (nOv (a 9)) below D A (Mw cy a) s z) (F0 m 18 ls [])) : ∀ (σ : nS) (x1 : Int32) (y0 : Int32) (H : Heap) (locs : List Loc) (ls : Array Slot), lv_has ls 8 [(0, .ref (a 0)), (1, .int x1)] → va_P D vwCl ((Mw cy a) σ) H → va_S A s.heap H locs → l_X11_reads_174 N k18 σ x1 y0 = some z → W p l e ({ frames := 8, cells := 0, slots := 0, locals := 173 } : Room) s m args below meth c H locs 0 0 (nQx (nOv (a 9)) below D A (Mw cy a) s z) (F0 m 174 ls [.int y0]) := by
  exact kb_X11_reads_174 (N := N)  C0 hE hT2 hno (kl_X11_reads_183 (N := N)  C0 hE hT2 hno K18)
def l_X11_reads_335 (N : Nat) (k348 : nS → Int32 → Int32 → Int32 → Int32 → Int32 → Option (Option Int32 × nS)) : nS → Int32 → Int32 → Int32 → Int32 → Option (Option Int32 × nS) := b_X11_reads_335 N k348
theorem kl_X11_reads_335 {p : Program} {l : Launch} {e : Env} {s : State} {m : MethodId} {args : Array Value} {below : List Frame} {meth : Method} {c : Code} {D : va_G} {A : Nat → Prop} {cy : Nat → ClassId} {a kt vt : Nat → Nat} {N : Nat}   (C0 : nCx p s m args meth c cX11_reads 8 none RX11 wsX11_reads) (hE : nEn D A cy (Mw cy a) kt vt s) (hT2 : ∀ w ∈ wTB, w.before args s = true) (hno : ∀ pc : Nat, ∀ x ∈ c.exceptionTable.toList, covers x pc = false) {z : Option Int32 × nS} {k348 : nS → Int32 → Int32 → Int32 → Int32 → Int32 → Option (Option Int32 × nS)} (K348 : ∀ (σ : nS) (x1 : Int32) (x3 : Int32) (x4 : Int32) (x5 : Int32) (x6 : Int32) (H : Heap) (locs : List Loc) (ls : Array Slot), lv_has ls 8 [(0, .ref (a 0)), (1, .int x1), (3, .int x3), (4, .int x4), (5, .int x5), (6, .int x6)] → va_P D vwCl ((Mw cy a) σ) H → va_S A s.heap H locs → k348 σ x1 x3 x4 x5 x6 = some z → W p l e ({ frames := 8, cells := 0, slots := 0, locals := 173 } : Room) s m args below meth c H locs 0 0 (nQx (nOv (a 9)) below D A (Mw cy a) s z) (F0 m 348 ls [])) : ∀ (σ : nS) (x1 : Int32) (x4 : Int32) (x5 : Int32) (x6 : Int32) (H : Heap) (locs : List Loc) (ls : Array Slot), lv_has ls 8 [(0, .ref (a 0)), (1, .int x1), (4, .int x4), (5, .int x5), (6, .int x6)] → va_P D vwCl ((Mw cy a) σ) H → va_S A s.heap H locs → l_X11_reads_335 N k348 σ x1 x4 x5 x6 = some z → W p l e ({ frames := 8, cells := 0, slots := 0, locals := 173 } : Room) s m args below meth c H locs 0 0 (nQx (nOv (a 9)) below D A (Mw cy a) s z) (F0 m 335 ls []) := by
  exact kb_X11_reads_335 (N := N)  C0 hE hT2 hno K348
def l_X11_reads_348 (N : Nat) (k232 : nS → Int32 → Int32 → Int32 → Int32 → Int32 → Option (Option Int32 × nS)) : nS → Int32 → Int32 → Int32 → Int32 → Int32 → Option (Option Int32 × nS) := b_X11_reads_348 N k232
theorem kl_X11_reads_348 {p : Program} {l : Launch} {e : Env} {s : State} {m : MethodId} {args : Array Value} {below : List Frame} {meth : Method} {c : Code} {D : va_G} {A : Nat → Prop} {cy : Nat → ClassId} {a kt vt : Nat → Nat} {N : Nat}   (C0 : nCx p s m args meth c cX11_reads 8 none RX11 wsX11_reads) (hE : nEn D A cy (Mw cy a) kt vt s) (hT2 : ∀ w ∈ wTB, w.before args s = true) (hno : ∀ pc : Nat, ∀ x ∈ c.exceptionTable.toList, covers x pc = false) {z : Option Int32 × nS} {k232 : nS → Int32 → Int32 → Int32 → Int32 → Int32 → Option (Option Int32 × nS)} (K232 : ∀ (σ : nS) (x1 : Int32) (x3 : Int32) (x4 : Int32) (x5 : Int32) (x6 : Int32) (H : Heap) (locs : List Loc) (ls : Array Slot), lv_has ls 8 [(0, .ref (a 0)), (1, .int x1), (3, .int x3), (4, .int x4), (5, .int x5), (6, .int x6)] → va_P D vwCl ((Mw cy a) σ) H → va_S A s.heap H locs → k232 σ x1 x3 x4 x5 x6 = some z → W p l e ({ frames := 8, cells := 0, slots := 0, locals := 173 } : Room) s m args below meth c H locs 0 0 (nQx (nOv (a 9)) below D A (Mw cy a) s z) (F0 m 232 ls [])) : ∀ (σ : nS) (x1 : Int32) (x3 : Int32) (x4 : Int32) (x5 : Int32) (x6 : Int32) (H : Heap) (locs : List Loc) (ls : Array Slot), lv_has ls 8 [(0, .ref (a 0)), (1, .int x1), (3, .int x3), (4, .int x4), (5, .int x5), (6, .int x6)] → va_P D vwCl ((Mw cy a) σ) H → va_S A s.heap H locs → l_X11_reads_348 N k232 σ x1 x3 x4 x5 x6 = some z → W p l e ({ frames := 8, cells := 0, slots := 0, locals := 173 } : Room) s m args below meth c H locs 0 0 (nQx (nOv (a 9)) below D A (Mw cy a) s z) (F0 m 348 ls []) := by
  exact kb_X11_reads_348 (N := N)  C0 hE hT2 hno K232
def l_X11_reads_300 (N : Nat) (k301 : nS → Int32 → Int32 → Int32 → Int32 → Int32 → Int32 → Option (Option Int32 × nS)) : nS → Int32 → Int32 → Int32 → Int32 → Int32 → Option (Option Int32 × nS) := b_X11_reads_300 N k301
theorem kl_X11_reads_300 {p : Program} {l : Launch} {e : Env} {s : State} {m : MethodId} {args : Array Value} {below : List Frame} {meth : Method} {c : Code} {D : va_G} {A : Nat → Prop} {cy : Nat → ClassId} {a kt vt : Nat → Nat} {N : Nat}   (C0 : nCx p s m args meth c cX11_reads 8 none RX11 wsX11_reads) (hE : nEn D A cy (Mw cy a) kt vt s) (hT2 : ∀ w ∈ wTB, w.before args s = true) (hno : ∀ pc : Nat, ∀ x ∈ c.exceptionTable.toList, covers x pc = false) {z : Option Int32 × nS} {k301 : nS → Int32 → Int32 → Int32 → Int32 → Int32 → Int32 → Option (Option Int32 × nS)} (K301 : ∀ (σ : nS) (x1 : Int32) (x3 : Int32) (x4 : Int32) (x5 : Int32) (x6 : Int32) (y0 : Int32) (H : Heap) (locs : List Loc) (ls : Array Slot), lv_has ls 8 [(0, .ref (a 0)), (1, .int x1), (3, .int x3), (4, .int x4), (5, .int x5), (6, .int x6)] → va_P D vwCl ((Mw cy a) σ) H → va_S A s.heap H locs → k301 σ x1 x3 x4 x5 x6 y0 = some z → W p l e ({ frames := 8, cells := 0, slots := 0, locals := 173 } : Room) s m args below meth c H locs 0 0 (nQx (nOv (a 9)) below D A (Mw cy a) s z) (F0 m 301 ls [.int y0])) : ∀ (σ : nS) (x1 : Int32) (x3 : Int32) (x4 : Int32) (x5 : Int32) (x6 : Int32) (H : Heap) (locs : List Loc) (ls : Array Slot), lv_has ls 8 [(0, .ref (a 0)), (1, .int x1), (3, .int x3), (4, .int x4), (5, .int x5), (6, .int x6)] → va_P D vwCl ((Mw cy a) σ) H → va_S A s.heap H locs → l_X11_reads_300 N k301 σ x1 x3 x4 x5 x6 = some z → W p l e ({ frames := 8, cells := 0, slots := 0, locals := 173 } : Room) s m args below meth c H locs 0 0 (nQx (nOv (a 9)) below D A (Mw cy a) s z) (F0 m 300 ls []) := by
  exact kb_X11_reads_300 (N := N)  C0 hE hT2 hno K301
def l_X11_reads_301 (N : Nat) (k232 : nS → Int32 → Int32 → Int32 → Int32 → Int32 → Option (Option Int32 × nS)) : nS → Int32 → Int32 → Int32 → Int32 → Int32 → Int32 → Option (Option Int32 × nS) := b_X11_reads_301 N (l_X11_reads_335 N (l_X11_reads_348 N k232)) (l_X11_reads_348 N k232)
theorem kl_X11_reads_301 {p : Program} {l : Launch} {e : Env} {s : State} {m : MethodId} {args : Array Value} {below : List Frame} {meth : Method} {c : Code} {D : va_G} {A : Nat → Prop} {cy : Nat → ClassId} {a kt vt : Nat → Nat} {N : Nat}   (C0 : nCx p s m args meth c cX11_reads 8 none RX11 wsX11_reads) (hE : nEn D A cy (Mw cy a) kt vt s) (hT2 : ∀ w ∈ wTB, w.before args s = true) (hno : ∀ pc : Nat, ∀ x ∈ c.exceptionTable.toList, covers x pc = false) {z : Option Int32 × nS} {k232 : nS → Int32 → Int32 → Int32 → Int32 → Int32 → Option (Option Int32 × nS)} (K232 : ∀ (σ : nS) (x1 : Int32) (x3 : Int32) (x4 : Int32) (x5 : Int32) (x6 : Int32) (H : Heap) (locs : List Loc) (ls : Array Slot), lv_has ls 8 [(0, .ref (a 0)), (1, .int x1), (3, .int x3), (4, .int x4), (5, .int x5), (6, .int x6)] → va_P D vwCl ((Mw cy a) σ) H → va_S A s.heap H locs → k232 σ x1 x3 x4 x5 x6 = some z → W p l e ({ frames := 8, cells := 0, slots := 0, locals := 173 } : Room) s m args below meth c H locs 0 0 (nQx (nOv (a 9)) below D A (Mw cy a) s z) (F0 m 232 ls [])) : ∀ (σ : nS) (x1 : Int32) (x3 : Int32) (x4 : Int32) (x5 : Int32) (x6 : Int32) (y0 : Int32) (H : Heap) (locs : List Loc) (ls : Array Slot), lv_has ls 8 [(0, .ref (a 0)), (1, .int x1), (3, .int x3), (4, .int x4), (5, .int x5), (6, .int x6)] → va_P D vwCl ((Mw cy a) σ) H → va_S A s.heap H locs → l_X11_reads_301 N k232 σ x1 x3 x4 x5 x6 y0 = some z → W p l e ({ frames := 8, cells := 0, slots := 0, locals := 173 } : Room) s m args below meth c H locs 0 0 (nQx (nOv (a 9)) below D A (Mw cy a) s z) (F0 m 301 ls [.int y0]) := by
  exact kb_X11_reads_301 (N := N)  C0 hE hT2 hno (kl_X11_reads_335 (N := N)  C0 hE hT2 hno (kl_X11_reads_348 (N := N)  C0 hE hT2 hno K232)) (kl_X11_reads_348 (N := N)  C0 hE hT2 hno K232)
def l_X11_reads_232 (N : Nat) (k209 : nS → Int32 → Int32 → Int32 → Option (Option Int32 × nS)) : nS → Int32 → Int32 → Int32 → Int32 → Int32 → Option (Option Int32 × nS) := nLp (fun _ _ _ _ _ _ => none) (fun again => b_X11_reads_232 N k209 (l_X11_reads_300 N (l_X11_reads_301 N again)) (l_X11_reads_301 N again)) N
theorem kl_X11_reads_232 {p : Program} {l : Launch} {e : Env} {s : State} {m : MethodId} {args : Array Value} {below : List Frame} {meth : Method} {c : Code} {D : va_G} {A : Nat → Prop} {cy : Nat → ClassId} {a kt vt : Nat → Nat} {N : Nat}   (C0 : nCx p s m args meth c cX11_reads 8 none RX11 wsX11_reads) (hE : nEn D A cy (Mw cy a) kt vt s) (hT2 : ∀ w ∈ wTB, w.before args s = true) (hno : ∀ pc : Nat, ∀ x ∈ c.exceptionTable.toList, covers x pc = false) {z : Option Int32 × nS} {k209 : nS → Int32 → Int32 → Int32 → Option (Option Int32 × nS)} (K209 : ∀ (σ : nS) (x1 : Int32) (x3 : Int32) (x4 : Int32) (H : Heap) (locs : List Loc) (ls : Array Slot), lv_has ls 8 [(0, .ref (a 0)), (1, .int x1), (3, .int x3), (4, .int x4)] → va_P D vwCl ((Mw cy a) σ) H → va_S A s.heap H locs → k209 σ x1 x3 x4 = some z → W p l e ({ frames := 8, cells := 0, slots := 0, locals := 173 } : Room) s m args below meth c H locs 0 0 (nQx (nOv (a 9)) below D A (Mw cy a) s z) (F0 m 209 ls [])) : ∀ (σ : nS) (x1 : Int32) (x3 : Int32) (x4 : Int32) (x5 : Int32) (x6 : Int32) (H : Heap) (locs : List Loc) (ls : Array Slot), lv_has ls 8 [(0, .ref (a 0)), (1, .int x1), (3, .int x3), (4, .int x4), (5, .int x5), (6, .int x6)] → va_P D vwCl ((Mw cy a) σ) H → va_S A s.heap H locs → l_X11_reads_232 N k209 σ x1 x3 x4 x5 x6 = some z → W p l e ({ frames := 8, cells := 0, slots := 0, locals := 173 } : Room) s m args below meth c H locs 0 0 (nQx (nOv (a 9)) below D A (Mw cy a) s z) (F0 m 232 ls []) := by
  have main : ∀ (fu : Nat), ∀ (σ : nS) (x1 : Int32) (x3 : Int32) (x4 : Int32) (x5 : Int32) (x6 : Int32) (H : Heap) (locs : List Loc) (ls : Array Slot), lv_has ls 8 [(0, .ref (a 0)), (1, .int x1), (3, .int x3), (4, .int x4), (5, .int x5), (6, .int x6)] → va_P D vwCl ((Mw cy a) σ) H → va_S A s.heap H locs → nLp (fun _ _ _ _ _ _ => none) (fun again => b_X11_reads_232 N k209 (l_X11_reads_300 N (l_X11_reads_301 N again)) (l_X11_reads_301 N again)) fu σ x1 x3 x4 x5 x6 = some z → W p l e ({ frames := 8, cells := 0, slots := 0, locals := 173 } : Room) s m args below meth c H locs 0 0 (nQx (nOv (a 9)) below D A (Mw cy a) s z) (F0 m 232 ls []) := by
    intro fu
    induction fu with
    | zero => intro σ x1 x3 x4 x5 x6 H locs ls hl hP hS hf; cases hf
    | succ fu ih => exact kb_X11_reads_232 (N := N)  C0 hE hT2 hno K209 (kl_X11_reads_300 (N := N)  C0 hE hT2 hno (kl_X11_reads_301 (N := N)  C0 hE hT2 hno ih)) (kl_X11_reads_301 (N := N)  C0 hE hT2 hno ih)
  exact main N
def l_X11_reads_209 (N : Nat) : nS → Int32 → Int32 → Int32 → Option (Option Int32 × nS) := nLp (fun _ _ _ _ => none) (fun again => b_X11_reads_209 N (l_X11_reads_232 N again)) N
theorem kl_X11_reads_209 {p : Program} {l : Launch} {e : Env} {s : State} {m : MethodId} {args : Array Value} {below : List Frame} {meth : Method} {c : Code} {D : va_G} {A : Nat → Prop} {cy : Nat → ClassId} {a kt vt : Nat → Nat} {N : Nat}   (C0 : nCx p s m args meth c cX11_reads 8 none RX11 wsX11_reads) (hE : nEn D A cy (Mw cy a) kt vt s) (hT2 : ∀ w ∈ wTB, w.before args s = true) (hno : ∀ pc : Nat, ∀ x ∈ c.exceptionTable.toList, covers x pc = false) {z : Option Int32 × nS} : ∀ (σ : nS) (x1 : Int32) (x3 : Int32) (x4 : Int32) (H : Heap) (locs : List Loc) (ls : Array Slot), lv_has ls 8 [(0, .ref (a 0)), (1, .int x1), (3, .int x3), (4, .int x4)] → va_P D vwCl ((Mw cy a) σ) H → va_S A s.heap H locs → l_X11_reads_209 N σ x1 x3 x4 = some z → W p l e ({ frames := 8, cells := 0, slots := 0, locals := 173 } : Room) s m args below meth c H locs 0 0 (nQx (nOv (a 9)) below D A (Mw cy a) s z) (F0 m 209 ls []) := by
  have main : ∀ (fu : Nat), ∀ (σ : nS) (x1 : Int32) (x3 : Int32) (x4 : Int32) (H : Heap) (locs : List Loc) (ls : Array Slot), lv_has ls 8 [(0, .ref (a 0)), (1, .int x1), (3, .int x3), (4, .int x4)] → va_P D vwCl ((Mw cy a) σ) H → va_S A s.heap H locs → nLp (fun _ _ _ _ => none) (fun again => b_X11_reads_209 N (l_X11_reads_232 N again)) fu σ x1 x3 x4 = some z → W p l e ({ frames := 8, cells := 0, slots := 0, locals := 173 } : Room) s m args below meth c H locs 0 0 (nQx (nOv (a 9)) below D A (Mw cy a) s z) (F0 m 209 ls []) := by
    intro fu
    induction fu with
    | zero => intro σ x1 x3 x4 H locs ls hl hP hS hf; cases hf
    | succ fu ih => exact kb_X11_reads_209 (N := N)  C0 hE hT2 hno (kl_X11_reads_232 (N := N)  C0 hE hT2 hno ih)
  exact main N
def l_X11_reads_88 (N : Nat) (k18 : nS → Int32 → Int32 → Option (Option Int32 × nS)) : nS → Int32 → Int32 → Option (Option Int32 × nS) := b_X11_reads_88 N (l_X11_reads_174 N k18)
theorem kl_X11_reads_88 {p : Program} {l : Launch} {e : Env} {s : State} {m : MethodId} {args : Array Value} {below : List Frame} {meth : Method} {c : Code} {D : va_G} {A : Nat → Prop} {cy : Nat → ClassId} {a kt vt : Nat → Nat} {N : Nat}   (C0 : nCx p s m args meth c cX11_reads 8 none RX11 wsX11_reads) (hE : nEn D A cy (Mw cy a) kt vt s) (hT2 : ∀ w ∈ wTB, w.before args s = true) (hno : ∀ pc : Nat, ∀ x ∈ c.exceptionTable.toList, covers x pc = false) {z : Option Int32 × nS} {k18 : nS → Int32 → Int32 → Option (Option Int32 × nS)} (K18 : ∀ (σ : nS) (x1 : Int32) (x2 : Int32) (H : Heap) (locs : List Loc) (ls : Array Slot), lv_has ls 8 [(0, .ref (a 0)), (1, .int x1), (2, .int x2)] → va_P D vwCl ((Mw cy a) σ) H → va_S A s.heap H locs → k18 σ x1 x2 = some z → W p l e ({ frames := 8, cells := 0, slots := 0, locals := 173 } : Room) s m args below meth c H locs 0 0 (nQx (nOv (a 9)) below D A (Mw cy a) s z) (F0 m 18 ls [])) : ∀ (σ : nS) (x1 : Int32) (y0 : Int32) (H : Heap) (locs : List Loc) (ls : Array Slot), lv_has ls 8 [(0, .ref (a 0)), (1, .int x1)] → va_P D vwCl ((Mw cy a) σ) H → va_S A s.heap H locs → l_X11_reads_88 N k18 σ x1 y0 = some z → W p l e ({ frames := 8, cells := 0, slots := 0, locals := 173 } : Room) s m args below meth c H locs 0 0 (nQx (nOv (a 9)) below D A (Mw cy a) s z) (F0 m 88 ls [.int y0]) := by
  exact kb_X11_reads_88 (N := N)  C0 hE hT2 hno (kl_X11_reads_174 (N := N)  C0 hE hT2 hno K18)
def l_X11_reads_18 (N : Nat) : nS → Int32 → Int32 → Option (Option Int32 × nS) := nLp (fun _ _ _ => none) (fun again => b_X11_reads_18 N (l_X11_reads_88 N again) (l_X11_reads_209 N)) N
theorem kl_X11_reads_18 {p : Program} {l : Launch} {e : Env} {s : State} {m : MethodId} {args : Array Value} {below : List Frame} {meth : Method} {c : Code} {D : va_G} {A : Nat → Prop} {cy : Nat → ClassId} {a kt vt : Nat → Nat} {N : Nat}   (C0 : nCx p s m args meth c cX11_reads 8 none RX11 wsX11_reads) (hE : nEn D A cy (Mw cy a) kt vt s) (hT2 : ∀ w ∈ wTB, w.before args s = true) (hno : ∀ pc : Nat, ∀ x ∈ c.exceptionTable.toList, covers x pc = false) {z : Option Int32 × nS} : ∀ (σ : nS) (x1 : Int32) (x2 : Int32) (H : Heap) (locs : List Loc) (ls : Array Slot), lv_has ls 8 [(0, .ref (a 0)), (1, .int x1), (2, .int x2)] → va_P D vwCl ((Mw cy a) σ) H → va_S A s.heap H locs → l_X11_reads_18 N σ x1 x2 = some z → W p l e ({ frames := 8, cells := 0, slots := 0, locals := 173 } : Room) s m args below meth c H locs 0 0 (nQx (nOv (a 9)) below D A (Mw cy a) s z) (F0 m 18 ls []) := by
  have main : ∀ (fu : Nat), ∀ (σ : nS) (x1 : Int32) (x2 : Int32) (H : Heap) (locs : List Loc) (ls : Array Slot), lv_has ls 8 [(0, .ref (a 0)), (1, .int x1), (2, .int x2)] → va_P D vwCl ((Mw cy a) σ) H → va_S A s.heap H locs → nLp (fun _ _ _ => none) (fun again => b_X11_reads_18 N (l_X11_reads_88 N again) (l_X11_reads_209 N)) fu σ x1 x2 = some z → W p l e ({ frames := 8, cells := 0, slots := 0, locals := 173 } : Room) s m args below meth c H locs 0 0 (nQx (nOv (a 9)) below D A (Mw cy a) s z) (F0 m 18 ls []) := by
    intro fu
    induction fu with
    | zero => intro σ x1 x2 H locs ls hl hP hS hf; cases hf
    | succ fu ih => exact kb_X11_reads_18 (N := N)  C0 hE hT2 hno (kl_X11_reads_88 (N := N)  C0 hE hT2 hno ih) (kl_X11_reads_209 (N := N)  C0 hE hT2 hno)
  exact main N
def l_X11_reads_0 (N : Nat) : nS → Option (Option Int32 × nS) := b_X11_reads_0 N (l_X11_reads_18 N)
theorem kl_X11_reads_0 {p : Program} {l : Launch} {e : Env} {s : State} {m : MethodId} {args : Array Value} {below : List Frame} {meth : Method} {c : Code} {D : va_G} {A : Nat → Prop} {cy : Nat → ClassId} {a kt vt : Nat → Nat} {N : Nat}   (C0 : nCx p s m args meth c cX11_reads 8 none RX11 wsX11_reads) (hE : nEn D A cy (Mw cy a) kt vt s) (hT2 : ∀ w ∈ wTB, w.before args s = true) (hno : ∀ pc : Nat, ∀ x ∈ c.exceptionTable.toList, covers x pc = false) {z : Option Int32 × nS} : ∀ (σ : nS) (H : Heap) (locs : List Loc) (ls : Array Slot), lv_has ls 8 [(0, .ref (a 0))] → va_P D vwCl ((Mw cy a) σ) H → va_S A s.heap H locs → l_X11_reads_0 N σ = some z → W p l e ({ frames := 8, cells := 0, slots := 0, locals := 173 } : Room) s m args below meth c H locs 0 0 (nQx (nOv (a 9)) below D A (Mw cy a) s z) (F0 m 0 ls []) := by
  exact kb_X11_reads_0 (N := N)  C0 hE hT2 hno (kl_X11_reads_18 (N := N)  C0 hE hT2 hno)
def f_X11_reads (N : Nat) (σ : nS) : Option (Option Int32 × nS) := l_X11_reads_0 N σ
def wT_X11_reads : List Cond := .code yX11_reads cX11_reads 8 none :: wTB
set_option maxRecDepth 100000 in
theorem sT_X11_reads : ∀ w ∈ wsX11_reads, w ∈ wT_X11_reads := fun w h => List.mem_cons_of_mem _ (List.mem_append_left _ (ggX11_book_X11_reads w h).1)
set_option maxRecDepth 100000 in
theorem gT_X11_reads : GoodIn wTB (wsV RX11 248 RX11 yX11_reads wT_X11_reads) := goodIn_app (goodIn_of _ (by decide +kernel)) (goodIn_app (a := [.code yX11_reads cX11_reads 8 none]) (goodIn_of _ (by decide +kernel)) wTB_good)
set_option maxHeartbeats 4000000 in
set_option maxRecDepth 100000 in
theorem c_X11_reads {l : Launch} {D : va_G} {A : Nat → Prop} {cy : Nat → ClassId} {a kt vt : Nat → Nat} {N : Nat}   {σ : nS} {z : Option Int32 × nS} (hf : f_X11_reads N σ = some z) : nMx l yX11_reads wT_X11_reads ({ frames := 8, cells := 0, slots := 0, locals := 173 } : Room) D A cy (Mw cy a) kt vt [.ref (a 0)] σ (nOv (a 9)) z := by
  refine nMx_ofW (cc := cX11_reads) (maxL := 8) (ret := none) (by decide) rfl ?_
  intro p e s m args below meth c s₁ B hml hv
  obtain ⟨rfl, hP, hE⟩ := hv
  have hl := lv_entry ([.ref (a 0)]) (n := 8) (Nat.le_of_ble_eq_true rfl)
  rw [lg_entry_eq]
  generalize (lg_sl ([.ref (a 0)]) ++ List.replicate (8 - (lg_sl ([.ref (a 0)])).length) Slot.unset).toArray = ls at hl ⊢
  have hts0 := atoms_spec (ws := wT_X11_reads) B.pre
  have hno : ∀ pc : Nat, ∀ x ∈ c.exceptionTable.toList, covers x pc = false := fun pc => covers_of_empty (B.noHandlers (hts0 _ List.mem_cons_self)) pc
  have hT2 : ∀ w ∈ wTB, w.before _ s = true := fun w h => hts0 w (List.mem_cons_of_mem _ h)
  have hts0 : ∀ w ∈ wsX11_reads, w.before _ s = true := fun w h => hts0 w (sT_X11_reads w h)
  have C0 : nCx p s m _ meth c cX11_reads 8 none RX11 wsX11_reads := ⟨B.exec, B.bytes, B.returns, hml, findClass_of_methodNamed B.named, hts0, B.notSynchronized⟩
  exact kl_X11_reads_0 (N := N)  C0 hE hT2 hno (z := z) σ  _ _ ls hl hP va_S.rf hf

/-! X11_book -/
set_option maxRecDepth 20000 in
theorem iX11_book_X11 : ∀ w ∈ u_ws RX11 TX11 68, w ∈ wsX11_book := fun _ h => List.mem_cons_of_mem _ (List.mem_append_left _ (List.mem_append_right _ h))
set_option maxRecDepth 20000 in
theorem qX11_book_117 : Cond.fieldLink RX11 117 RX11 (TX11 0).2.1 (TX11 0).2.2.1 ∈ wsX11_book := by decide +kernel
set_option maxRecDepth 20000 in
theorem qX11_book_242 : Cond.fieldLink RX11 242 RX11 (TX11 19).2.1 (TX11 19).2.2.1 ∈ wsX11_book := by decide +kernel
set_option maxRecDepth 20000 in
theorem qX11_book_148 : Cond.fieldLink RX11 148 RX11 (TX11 20).2.1 (TX11 20).2.2.1 ∈ wsX11_book := by decide +kernel
set_option maxRecDepth 20000 in
theorem qX11_book_163 : Cond.fieldLink RX11 163 RX11 (TX11 21).2.1 (TX11 21).2.2.1 ∈ wsX11_book := by decide +kernel
set_option maxRecDepth 20000 in
theorem qX11_book_245 : Cond.fieldLink RX11 245 RX11 (TX11 3).2.1 (TX11 3).2.2.1 ∈ wsX11_book := by decide +kernel
set_option maxRecDepth 20000 in
theorem iX11_book_X10 : ∀ w ∈ u_ws RX10 TX10 8, w ∈ wsX11_book := fun _ h => List.mem_cons_of_mem _ (List.mem_append_right _ h)
set_option maxRecDepth 20000 in
theorem qX11_book_120 : Cond.fieldLink RX11 120 RX11 (TX11 1).2.1 (TX11 1).2.2.1 ∈ wsX11_book := by decide +kernel
set_option maxRecDepth 20000 in
theorem qX11_book_9 : Cond.fieldLink RX11 9 RX11 (TX11 2).2.1 (TX11 2).2.2.1 ∈ wsX11_book := by decide +kernel
set_option maxRecDepth 20000 in
theorem qX11_book_201 : Cond.fieldLink RX11 201 RX11 (TX11 7).2.1 (TX11 7).2.2.1 ∈ wsX11_book := by decide +kernel
def b_X11_book_0 (N : Nat) (σ : nS) (x1 : Int32) : Option (Int32 × nS) := nLet (wr σ 0 0 0) (fun σ1 => (if x1 < 0 then nBd (f_X11_refused N 2 σ1) (fun r2 σ3 => some (r2, σ3)) else (if x1 ≤ (σ1.1 0 19) then nLet (wr σ1 0 20 x1) (fun σ4 => nLet (wr σ4 0 19 0) (fun σ5 => nLet (wr σ5 0 21 0) (fun σ6 => nLet (wr σ6 0 3 0) (fun σ7 => nBc (f_X11_reads N σ7) (fun r8 σ9 => (if (σ9.1 0 7) = 4 then nBd (f_X11_refused N 3 σ9) (fun r18 σ19 => some (r18, σ19)) else nLet ((σ9.1 0 7) + (1 : Int32) : Int32) (fun v13 => nLet (wr σ9 0 7 v13) (fun σ14 => nLet ((σ14.1 0 7) - (1 : Int32) : Int32) (fun v15 => nBd (f_X11_done N v15 σ14) (fun r16 σ17 => some (r16, σ17))))))) (fun σ9 => nLet (wr σ9 0 3 (σ9.1 9 6)) (fun σ10 => nLet (wr σ10 0 1 4) (fun σ11 => nLet (wr σ11 0 2 (σ11.1 9 7)) (fun σ12 => some ((-1), σ12))))))))) else nBd (f_X11_refused N 2 σ1) (fun r20 σ21 => some (r20, σ21)))))
set_option maxHeartbeats 4000000 in
set_option maxRecDepth 100000 in
theorem kb_X11_book_0 {p : Program} {l : Launch} {e : Env} {s : State} {m : MethodId} {args : Array Value} {below : List Frame} {meth : Method} {c : Code} {D : va_G} {A : Nat → Prop} {cy : Nat → ClassId} {a kt vt : Nat → Nat} {N : Nat}   (C0 : nCx p s m args meth c cX11_book 3 (some .int) RX11 wsX11_book) (hE : nEn D A cy (Mw cy a) kt vt s) (hT2 : ∀ w ∈ wTB, w.before args s = true) (htab : c.exceptionTable.toList = [⟨43, 47, 50, 41⟩]) (hlk : (Cond.classLink RX11 41 RX10).before args s = true) {z : Int32 × nS} : ∀ (σ : nS) (x1 : Int32) (H : Heap) (locs : List Loc) (ls : Array Slot), lv_has ls 3 [(0, .ref (a 0)), (1, .int x1)] → va_P D vwCl ((Mw cy a) σ) H → va_S A s.heap H locs → b_X11_book_0 N σ x1 = some z → W p l e ({ frames := 9, cells := 0, slots := 0, locals := 200 } : Room) s m args below meth c H locs 0 0 (nQi below D A (Mw cy a) args s z) (F0 m 0 ls []) := by
  obtain ⟨hx, hb, hr, hml, hown, hts, hlocks⟩ := C0
  intro σ x1 H locs ls hl hP hS hf
  unfold b_X11_book_0 at hf
  refine lv_aload_n hx hb dX11_book_0 rfl (lv_at hl 0 rfl) ?_
  refine lv_iconst (v := 0) hx hb dX11_book_1 (by decide) ?_
  refine nb_put (ci := 11) hx hb hts iX11_book_X11 tyX11 tyX11_ok nmX11 hown hE hP hS 0 mbo_0 rfl 0 (by decide) qX11_book_117 rfl rfl rfl rfl (Nat.le_of_ble_eq_true rfl) dX11_book_2 (mbp_0_0 _) (fun σ1 eσ1 H locs hP hS => ?_)
  replace hf := nLet_e hf eσ1
  refine lv_iload_n hx hb dX11_book_5 rfl (lv_at hl 1 rfl) ?_
  refine lv_if_lt (tgt := 17) hx hb dX11_book_6 (by decide) (fun hc => ?_) (fun hc => ?_)
  · replace hf := nIf_t hc hf
    refine lv_aload_n hx hb dX11_book_17 rfl (lv_at hl 0 rfl) ?_
    refine lv_iconst (v := 2) hx hb dX11_book_18 (by decide) ?_
    obtain ⟨r2, σ3, hc3, hf⟩ := nBd_e hf
    refine nb_callVi (As := [.int 2]) (rest := []) ⟨hx, hb, hml, hown, hts⟩ (c_X11_refused (D := D) (A := A) (cy := cy) (a := a) (kt := kt) (vt := vt) (l := l)  hc3) (cwV 1 hts gX11_book_X11_refused rfl rfl rfl (by decide +kernel) ⟨Nat.le_of_ble_eq_true rfl, Nat.le_of_ble_eq_true rfl⟩) hE hP hS mbo_0 rfl rfl hl.1 rfl (Nat.le_of_ble_eq_true rfl) dX11_book_19 (fun H locs hP hS => ?_)
    exact nb_iret hx hb hr hlocks hP hS (nSo hf) dX11_book_22
  · replace hf := nIf_f hc hf
    refine lv_iload_n hx hb dX11_book_9 rfl (lv_at hl 1 rfl) ?_
    refine lv_aload_n hx hb dX11_book_10 rfl (lv_at hl 0 rfl) ?_
    refine nb_get (ci := 11) hx hb hts iX11_book_X11 hown hE hP 0 mbo_0 rfl 19 (by decide) qX11_book_242 rfl rfl dX11_book_11 ?_
    refine lv_icmp_le (tgt := 23) hx hb dX11_book_14 (by decide) (fun hc => ?_) (fun hc => ?_)
    · replace hf := nIf_t hc hf
      refine lv_aload_n hx hb dX11_book_23 rfl (lv_at hl 0 rfl) ?_
      refine lv_iload_n hx hb dX11_book_24 rfl (lv_at hl 1 rfl) ?_
      refine nb_put (ci := 11) hx hb hts iX11_book_X11 tyX11 tyX11_ok nmX11 hown hE hP hS 0 mbo_0 rfl 20 (by decide) qX11_book_148 rfl rfl rfl rfl (Nat.le_of_ble_eq_true rfl) dX11_book_25 (mbp_0_20 _) (fun σ4 eσ4 H locs hP hS => ?_)
      replace hf := nLet_e hf eσ4
      refine lv_aload_n hx hb dX11_book_28 rfl (lv_at hl 0 rfl) ?_
      refine lv_iconst (v := 0) hx hb dX11_book_29 (by decide) ?_
      refine nb_put (ci := 11) hx hb hts iX11_book_X11 tyX11 tyX11_ok nmX11 hown hE hP hS 0 mbo_0 rfl 19 (by decide) qX11_book_242 rfl rfl rfl rfl (Nat.le_of_ble_eq_true rfl) dX11_book_30 (mbp_0_19 _) (fun σ5 eσ5 H locs hP hS => ?_)
      replace hf := nLet_e hf eσ5
      refine lv_aload_n hx hb dX11_book_33 rfl (lv_at hl 0 rfl) ?_
      refine lv_iconst (v := 0) hx hb dX11_book_34 (by decide) ?_
      refine nb_put (ci := 11) hx hb hts iX11_book_X11 tyX11 tyX11_ok nmX11 hown hE hP hS 0 mbo_0 rfl 21 (by decide) qX11_book_163 rfl rfl rfl rfl (Nat.le_of_ble_eq_true rfl) dX11_book_35 (mbp_0_21 _) (fun σ6 eσ6 H locs hP hS => ?_)
      replace hf := nLet_e hf eσ6
      refine lv_aload_n hx hb dX11_book_38 rfl (lv_at hl 0 rfl) ?_
      refine lv_iconst (v := 0) hx hb dX11_book_39 (by decide) ?_
      refine nb_put (ci := 11) hx hb hts iX11_book_X11 tyX11 tyX11_ok nmX11 hown hE hP hS 0 mbo_0 rfl 3 (by decide) qX11_book_245 rfl rfl rfl rfl (Nat.le_of_ble_eq_true rfl) dX11_book_40 (mbp_0_3 _) (fun σ7 eσ7 H locs hP hS => ?_)
      replace hf := nLet_e hf eσ7
      refine lv_aload_n hx hb dX11_book_43 rfl (lv_at hl 0 rfl) ?_
      rcases (nBc_e hf).symm with ⟨σ9, hc9, hf⟩ | ⟨r8, σ9, hc9, hf⟩
      · refine nx_callVc (As := []) (rest := []) ⟨hx, hb, hml, hown, hT2⟩ (c_X11_reads (D := D) (A := A) (cy := cy) (a := a) (kt := kt) (vt := vt) (l := l)  hc9) (fun _ h => h) (cwV 0 hT2 gT_X11_reads rfl rfl rfl (by decide +kernel) ⟨Nat.le_of_ble_eq_true rfl, Nat.le_of_ble_eq_true rfl⟩) hE hP hS mbo_0 rfl rfl hl.1 rfl (Nat.le_of_ble_eq_true rfl) dX11_book_44 htab rfl (by decide) hlk mbo_9 rfl (fun H locs hP hS => ?_)
        refine lv_astore_n (lv' := [(2, .ref (a 9)), (0, .ref (a 0)), (1, .int x1)]) hx hb dX11_book_50 rfl hl (by decide) rfl (fun ls hl => ?_)
        refine lv_aload_n hx hb dX11_book_51 rfl (lv_at hl 1 rfl) ?_
        refine lv_aload_n hx hb dX11_book_52 rfl (lv_at hl 0 rfl) ?_
        refine nb_getN (ci := 10) hx hb hts iX11_book_X10 hown hE hP 9 mbo_9 rfl 6 (by decide) (host := RX11) (by decide +kernel) rfl rfl dX11_book_53 ?_
        refine nb_put (ci := 11) hx hb hts iX11_book_X11 tyX11 tyX11_ok nmX11 hown hE hP hS 0 mbo_0 rfl 3 (by decide) qX11_book_245 rfl rfl rfl rfl (Nat.le_of_ble_eq_true rfl) dX11_book_56 (mbp_0_3 _) (fun σ10 eσ10 H locs hP hS => ?_)
        replace hf := nLet_e hf eσ10
        refine lv_aload_n hx hb dX11_book_59 rfl (lv_at hl 1 rfl) ?_
        refine lv_iconst (v := 4) hx hb dX11_book_60 (by decide) ?_
        refine nb_put (ci := 11) hx hb hts iX11_book_X11 tyX11 tyX11_ok nmX11 hown hE hP hS 0 mbo_0 rfl 1 (by decide) qX11_book_120 rfl rfl rfl rfl (Nat.le_of_ble_eq_true rfl) dX11_book_61 (mbp_0_1 _) (fun σ11 eσ11 H locs hP hS => ?_)
        replace hf := nLet_e hf eσ11
        refine lv_aload_n hx hb dX11_book_64 rfl (lv_at hl 1 rfl) ?_
        refine lv_aload_n hx hb dX11_book_65 rfl (lv_at hl 0 rfl) ?_
        refine nb_getN (ci := 10) hx hb hts iX11_book_X10 hown hE hP 9 mbo_9 rfl 7 (by decide) (host := RX11) (by decide +kernel) rfl rfl dX11_book_66 ?_
        refine nb_put (ci := 11) hx hb hts iX11_book_X11 tyX11 tyX11_ok nmX11 hown hE hP hS 0 mbo_0 rfl 2 (by decide) qX11_book_9 rfl rfl rfl rfl (Nat.le_of_ble_eq_true rfl) dX11_book_69 (mbp_0_2 _) (fun σ12 eσ12 H locs hP hS => ?_)
        replace hf := nLet_e hf eσ12
        refine lv_iconst (v := (-1)) hx hb dX11_book_72 (by decide) ?_
        exact nb_iret hx hb hr hlocks hP hS (nSo hf) dX11_book_73
      refine nb_callVv (As := []) (rest := []) ⟨hx, hb, hml, hown, hT2⟩ (nMx_v (c_X11_reads (D := D) (A := A) (cy := cy) (a := a) (kt := kt) (vt := vt) (l := l)  hc9)) (cwV 0 hT2 gT_X11_reads rfl rfl rfl (by decide +kernel) ⟨Nat.le_of_ble_eq_true rfl, Nat.le_of_ble_eq_true rfl⟩) hE hP hS mbo_0 rfl rfl hl.1 rfl (Nat.le_of_ble_eq_true rfl) dX11_book_44 (fun H locs hP hS => ?_)
      refine lv_goto (tgt := 74) hx hb dX11_book_47 (by decide) ?_
      refine lv_aload_n hx hb dX11_book_74 rfl (lv_at hl 0 rfl) ?_
      refine nb_get (ci := 11) hx hb hts iX11_book_X11 hown hE hP 0 mbo_0 rfl 7 (by decide) qX11_book_201 rfl rfl dX11_book_75 ?_
      refine lv_iconst (v := 4) hx hb dX11_book_78 (by decide) ?_
      refine lv_icmp_ne (tgt := 88) hx hb dX11_book_79 (by decide) (fun hc => ?_) (fun hc => ?_)
      · replace hf := nIf_f hc hf
        refine lv_aload_n hx hb dX11_book_88 rfl (lv_at hl 0 rfl) ?_
        refine lv_dup hx hb dX11_book_89 rfl ?_
        refine nb_get (ci := 11) hx hb hts iX11_book_X11 hown hE hP 0 mbo_0 rfl 7 (by decide) qX11_book_201 rfl rfl dX11_book_90 ?_
        refine lv_iconst (v := 1) hx hb dX11_book_93 (by decide) ?_
        refine lv_iadd hx hb dX11_book_94 ?_
        refine lv_topi (fun v13 ev13 => ?_)
        replace hf := nLet_e hf ev13
        refine nb_put (ci := 11) hx hb hts iX11_book_X11 tyX11 tyX11_ok nmX11 hown hE hP hS 0 mbo_0 rfl 7 (by decide) qX11_book_201 rfl rfl rfl rfl (Nat.le_of_ble_eq_true rfl) dX11_book_95 (mbp_0_7 _) (fun σ14 eσ14 H locs hP hS => ?_)
        replace hf := nLet_e hf eσ14
        refine lv_aload_n hx hb dX11_book_98 rfl (lv_at hl 0 rfl) ?_
        refine lv_aload_n hx hb dX11_book_99 rfl (lv_at hl 0 rfl) ?_
        refine nb_get (ci := 11) hx hb hts iX11_book_X11 hown hE hP 0 mbo_0 rfl 7 (by decide) qX11_book_201 rfl rfl dX11_book_100 ?_
        refine lv_iconst (v := 1) hx hb dX11_book_103 (by decide) ?_
        refine lv_isub hx hb dX11_book_104 ?_
        refine lv_topi (fun v15 ev15 => ?_)
        replace hf := nLet_e hf ev15
        obtain ⟨r16, σ17, hc17, hf⟩ := nBd_e hf
        refine nb_callVi (As := [.int v15]) (rest := []) ⟨hx, hb, hml, hown, hts⟩ (c_X11_done (D := D) (A := A) (cy := cy) (a := a) (kt := kt) (vt := vt) (l := l)  hc17) (cwV 1 hts gX11_book_X11_done rfl rfl rfl (by decide +kernel) ⟨Nat.le_of_ble_eq_true rfl, Nat.le_of_ble_eq_true rfl⟩) hE hP hS mbo_0 rfl rfl hl.1 rfl (Nat.le_of_ble_eq_true rfl) dX11_book_105 (fun H locs hP hS => ?_)
        exact nb_iret hx hb hr hlocks hP hS (nSo hf) dX11_book_108
      · replace hf := nIf_t hc hf
        refine lv_aload_n hx hb dX11_book_82 rfl (lv_at hl 0 rfl) ?_
        refine lv_iconst (v := 3) hx hb dX11_book_83 (by decide) ?_
        obtain ⟨r18, σ19, hc19, hf⟩ := nBd_e hf
        refine nb_callVi (As := [.int 3]) (rest := []) ⟨hx, hb, hml, hown, hts⟩ (c_X11_refused (D := D) (A := A) (cy := cy) (a := a) (kt := kt) (vt := vt) (l := l)  hc19) (cwV 1 hts gX11_book_X11_refused rfl rfl rfl (by decide +kernel) ⟨Nat.le_of_ble_eq_true rfl, Nat.le_of_ble_eq_true rfl⟩) hE hP hS mbo_0 rfl rfl hl.1 rfl (Nat.le_of_ble_eq_true rfl) dX11_book_84 (fun H locs hP hS => ?_)
        exact nb_iret hx hb hr hlocks hP hS (nSo hf) dX11_book_87
    · replace hf := nIf_f hc hf
      refine lv_aload_n hx hb dX11_book_17 rfl (lv_at hl 0 rfl) ?_
      refine lv_iconst (v := 2) hx hb dX11_book_18 (by decide) ?_
      obtain ⟨r20, σ21, hc21, hf⟩ := nBd_e hf
      refine nb_callVi (As := [.int 2]) (rest := []) ⟨hx, hb, hml, hown, hts⟩ (c_X11_refused (D := D) (A := A) (cy := cy) (a := a) (kt := kt) (vt := vt) (l := l)  hc21) (cwV 1 hts gX11_book_X11_refused rfl rfl rfl (by decide +kernel) ⟨Nat.le_of_ble_eq_true rfl, Nat.le_of_ble_eq_true rfl⟩) hE hP hS mbo_0 rfl rfl hl.1 rfl (Nat.le_of_ble_eq_true rfl) dX11_book_19 (fun H locs hP hS => ?_)
      exact nb_iret hx hb hr hlocks hP hS (nSo hf) dX11_book_22
def l_X11_book_0 (N : Nat) : nS → Int32 → Option (Int32 × nS) := b_X11_book_0 N
theorem kl_X11_book_0 {p : Program} {l : Launch} {e : Env} {s : State} {m : MethodId} {args : Array Value} {below : List Frame} {meth : Method} {c : Code} {D : va_G} {A : Nat → Prop} {cy : Nat → ClassId} {a kt vt : Nat → Nat} {N : Nat}   (C0 : nCx p s m args meth c cX11_book 3 (some .int) RX11 wsX11_book) (hE : nEn D A cy (Mw cy a) kt vt s) (hT2 : ∀ w ∈ wTB, w.before args s = true) (htab : c.exceptionTable.toList = [⟨43, 47, 50, 41⟩]) (hlk : (Cond.classLink RX11 41 RX10).before args s = true) {z : Int32 × nS} : ∀ (σ : nS) (x1 : Int32) (H : Heap) (locs : List Loc) (ls : Array Slot), lv_has ls 3 [(0, .ref (a 0)), (1, .int x1)] → va_P D vwCl ((Mw cy a) σ) H → va_S A s.heap H locs → l_X11_book_0 N σ x1 = some z → W p l e ({ frames := 9, cells := 0, slots := 0, locals := 200 } : Room) s m args below meth c H locs 0 0 (nQi below D A (Mw cy a) args s z) (F0 m 0 ls []) := by
  exact kb_X11_book_0 (N := N)  C0 hE hT2 htab hlk
def f_X11_book (N : Nat) (x1 : Int32) (σ : nS) : Option (Int32 × nS) := l_X11_book_0 N σ x1
def wT_X11_book : List Cond := .codeWith yX11_book cX11_book 3 (some .int) [(43, 47, 50, 41)] :: wTB
set_option maxRecDepth 100000 in
theorem sT_X11_book : ∀ w ∈ wsX11_book, w ∈ wT_X11_book := fun w h => List.mem_cons_of_mem _ (List.mem_append_left _ h)
set_option maxHeartbeats 4000000 in
set_option maxRecDepth 100000 in
theorem c_X11_book {l : Launch} {D : va_G} {A : Nat → Prop} {cy : Nat → ClassId} {a kt vt : Nat → Nat} {N : Nat}   {x1 : Int32} {σ : nS} {r : Int32} {σ' : nS} (hf : f_X11_book N x1 σ = some (r, σ')) : nMi l yX11_book wT_X11_book ({ frames := 9, cells := 0, slots := 0, locals := 200 } : Room) D A cy (Mw cy a) kt vt [.ref (a 0), .int x1] σ r σ' := by
  refine va_MetW (cc := cX11_book) (maxL := 3) (ret := (some .int)) (hh := [(43, 47, 50, 41)]) (by decide) rfl ?_
  intro p e s m args below meth c s₁ B hml hv
  obtain ⟨rfl, hP, hE⟩ := hv
  have hl := lv_entry ([.ref (a 0), .int x1]) (n := 3) (Nat.le_of_ble_eq_true rfl)
  rw [lg_entry_eq]
  generalize (lg_sl ([.ref (a 0), .int x1]) ++ List.replicate (3 - (lg_sl ([.ref (a 0), .int x1])).length) Slot.unset).toArray = ls at hl ⊢
  have hts0 := atoms_spec (ws := wT_X11_book) B.pre
  have hlk : (Cond.classLink RX11 41 RX10).before _ s = true := hts0 _ (List.mem_cons_of_mem _ wTB_link)
  have htab : c.exceptionTable.toList = [⟨43, 47, 50, 41⟩] := nx_table B (hts0 _ List.mem_cons_self)
  have hT2 : ∀ w ∈ wTB, w.before _ s = true := fun w h => hts0 w (List.mem_cons_of_mem _ h)
  have hts0 : ∀ w ∈ wsX11_book, w.before _ s = true := fun w h => hts0 w (sT_X11_book w h)
  have C0 : nCx p s m _ meth c cX11_book 3 (some .int) RX11 wsX11_book := ⟨B.exec, B.bytes, B.returns, hml, findClass_of_methodNamed B.named, hts0, B.notSynchronized⟩
  exact kl_X11_book_0 (N := N)  C0 hE hT2 htab hlk (z := (r, σ')) σ x1 _ _ ls hl hP va_S.rf hf
