/-! THE STOP's constructor: RuntimeException, Exception, Throwable (no trace, no message, no cause) -/
def rTh : String := "java/lang/Throwable"
def rEx : String := "java/lang/Exception"
def rRt : String := "java/lang/RuntimeException"
def yTh : MethodName := ⟨rTh, "<init>", "(Ljava/lang/String;Ljava/lang/Throwable;ZZ)V"⟩
def yEx : MethodName := ⟨rEx, "<init>", "(Ljava/lang/String;Ljava/lang/Throwable;ZZ)V"⟩
def yRt : MethodName := ⟨rRt, "<init>", "(Ljava/lang/String;Ljava/lang/Throwable;ZZ)V"⟩
abbrev bTh : ByteArray := prog_21_method_5_code
abbrev bEx : ByteArray := prog_14_method_5_code
abbrev bRt : ByteArray := prog_17_method_5_code
def wTh : List Cond := .code yTh bTh 5 none :: ([.methodLink rTh 1 objectInit, .instanceMethod objectInit, .code objectInit ⟨#[0xb1]⟩ 1 none, .fieldLink rTh 7 rTh "cause" "Ljava/lang/Throwable;", .fieldLink rTh 13 rTh "UNASSIGNED_STACK" "[Ljava/lang/StackTraceElement;", .fieldLink rTh 17 rTh "stackTrace" "[Ljava/lang/StackTraceElement;", .fieldLink rTh 20 rTh "SUPPRESSED_SENTINEL" "Ljava/util/List;", .fieldLink rTh 24 rTh "suppressedExceptions" "Ljava/util/List;", .fieldLink rTh 31 rTh "detailMessage" "Ljava/lang/String;"] ++ wsX100)
def wEx : List Cond := .code yEx bEx 5 none :: ([.methodLink rEx 16 yTh, .instanceMethod yTh, .initialized rTh] ++ wTh)
def wRt : List Cond := .code yRt bRt 5 none :: ([.methodLink rRt 16 yEx, .instanceMethod yEx, .initialized rEx] ++ wEx)
def wStop : List Cond := .code yX10_init cX10_init 1 none :: ([.methodLink RX10 1 yRt, .instanceMethod yRt, .initialized rRt] ++ wRt)
def wStopC : List Cond := [.methodLink RX11 43 yX10_init, .instanceMethod yX10_init, .initialized RX10] ++ wStop
def wI_X11 : List Cond := wsX11_init ++ wStopC
theorem dTh_0 : decode bTh 0 = .ok (.aload_n 0, 1) := by decide +kernel
theorem dTh_1 : decode bTh 1 = .ok (.invokespecial 1, 3) := by decide +kernel
theorem dTh_4 : decode bTh 4 = .ok (.aload_n 0, 1) := by decide +kernel
theorem dTh_5 : decode bTh 5 = .ok (.aload_n 0, 1) := by decide +kernel
theorem dTh_6 : decode bTh 6 = .ok (.putfield 7, 3) := by decide +kernel
theorem dTh_9 : decode bTh 9 = .ok (.aload_n 0, 1) := by decide +kernel
theorem dTh_10 : decode bTh 10 = .ok (.getstatic 13, 3) := by decide +kernel
theorem dTh_13 : decode bTh 13 = .ok (.putfield 17, 3) := by decide +kernel
theorem dTh_16 : decode bTh 16 = .ok (.aload_n 0, 1) := by decide +kernel
theorem dTh_17 : decode bTh 17 = .ok (.getstatic 20, 3) := by decide +kernel
theorem dTh_20 : decode bTh 20 = .ok (.putfield 24, 3) := by decide +kernel
theorem dTh_23 : decode bTh 23 = .ok (.iload 4, 2) := by decide +kernel
theorem dTh_25 : decode bTh 25 = .ok (.ifCond .eq 11, 3) := by decide +kernel
theorem dTh_36 : decode bTh 36 = .ok (.aload_n 0, 1) := by decide +kernel
theorem dTh_37 : decode bTh 37 = .ok (.aconst_null, 1) := by decide +kernel
theorem dTh_38 : decode bTh 38 = .ok (.putfield 17, 3) := by decide +kernel
theorem dTh_41 : decode bTh 41 = .ok (.aload_n 0, 1) := by decide +kernel
theorem dTh_42 : decode bTh 42 = .ok (.aload_n 1, 1) := by decide +kernel
theorem dTh_43 : decode bTh 43 = .ok (.putfield 31, 3) := by decide +kernel
theorem dTh_46 : decode bTh 46 = .ok (.aload_n 0, 1) := by decide +kernel
theorem dTh_47 : decode bTh 47 = .ok (.aload_n 2, 1) := by decide +kernel
theorem dTh_48 : decode bTh 48 = .ok (.putfield 7, 3) := by decide +kernel
theorem dTh_51 : decode bTh 51 = .ok (.iload_n 3, 1) := by decide +kernel
theorem dTh_52 : decode bTh 52 = .ok (.ifCond .ne 8, 3) := by decide +kernel
theorem dTh_55 : decode bTh 55 = .ok (.aload_n 0, 1) := by decide +kernel
theorem dTh_56 : decode bTh 56 = .ok (.aconst_null, 1) := by decide +kernel
theorem dTh_57 : decode bTh 57 = .ok (.putfield 24, 3) := by decide +kernel
theorem dTh_60 : decode bTh 60 = .ok (.return_, 1) := by decide +kernel
theorem dEx_0 : decode bEx 0 = .ok (.aload_n 0, 1) := by decide +kernel
theorem dEx_1 : decode bEx 1 = .ok (.aload_n 1, 1) := by decide +kernel
theorem dEx_2 : decode bEx 2 = .ok (.aload_n 2, 1) := by decide +kernel
theorem dEx_3 : decode bEx 3 = .ok (.iload_n 3, 1) := by decide +kernel
theorem dEx_4 : decode bEx 4 = .ok (.iload 4, 2) := by decide +kernel
theorem dEx_6 : decode bEx 6 = .ok (.invokespecial 16, 3) := by decide +kernel
theorem dEx_9 : decode bEx 9 = .ok (.return_, 1) := by decide +kernel
theorem dRt_0 : decode bRt 0 = .ok (.aload_n 0, 1) := by decide +kernel
theorem dRt_1 : decode bRt 1 = .ok (.aload_n 1, 1) := by decide +kernel
theorem dRt_2 : decode bRt 2 = .ok (.aload_n 2, 1) := by decide +kernel
theorem dRt_3 : decode bRt 3 = .ok (.iload_n 3, 1) := by decide +kernel
theorem dRt_4 : decode bRt 4 = .ok (.iload 4, 2) := by decide +kernel
theorem dRt_6 : decode bRt 6 = .ok (.invokespecial 16, 3) := by decide +kernel
theorem dRt_9 : decode bRt 9 = .ok (.return_, 1) := by decide +kernel
set_option maxRecDepth 20000 in
theorem gEx_Th : GoodIn wEx wTh := goodIn_sub (fun _ h => List.mem_cons_of_mem _ (List.mem_append_right _ h)) (by decide +kernel)
set_option maxRecDepth 20000 in
theorem gRt_Ex : GoodIn wRt wEx := goodIn_sub (fun _ h => List.mem_cons_of_mem _ (List.mem_append_right _ h)) (by decide +kernel)
set_option maxRecDepth 20000 in
theorem gStop_Rt : GoodIn wStop wRt := goodIn_sub (fun _ h => List.mem_cons_of_mem _ (List.mem_append_right _ h)) (by decide +kernel)
set_option maxRecDepth 20000 in
theorem gStopC : GoodIn wStopC wStop := goodIn_sub (fun _ h => List.mem_append_right _ h) (by decide +kernel)
theorem iTh_X10 : ∀ w ∈ u_ws RX10 TX10 8, w ∈ wTh := fun _ h => List.mem_cons_of_mem _ (List.mem_append_right _ h)
/-- the two statics that the constructor reads: null or a reference each -/
def nZT (A : Nat → Prop) (U : State) (H : Heap) : Prop := (∃ v : Value, (v = .null ∨ ∃ q : Nat, v = .ref q) ∧ va_Z "java/lang/Throwable" "UNASSIGNED_STACK" "[Ljava/lang/StackTraceElement;" v A U H) ∧ ∃ v : Value, (v = .null ∨ ∃ q : Nat, v = .ref q) ∧ va_Z "java/lang/Throwable" "SUPPRESSED_SENTINEL" "Ljava/util/List;" v A U H
theorem nZT.moved {A : Nat → Prop} {u U : State} {H : Heap} (hvm : u.vm.Alike U.vm) (h : nZT A u H) : nZT A U H := by
  obtain ⟨⟨v, h1, h2⟩, w, h3, h4⟩ := h
  exact ⟨⟨v, h1, h2.moved hvm⟩, w, h3, h4.moved hvm⟩
theorem nZT.kept {A : Nat → Prop} {U : State} {H H1 : Heap} (h : nZT A U H) (hq : ∀ a : Nat, a < H.size → ¬ A a → H1[a]? = H[a]?) : nZT A U H1 := by
  obtain ⟨⟨v, h1, h2⟩, w, h3, h4⟩ := h
  exact ⟨⟨v, h1, h2.kept hq⟩, w, h3, h4.kept hq⟩
theorem nZT.narrow {A B : Nat → Prop} {U : State} {H : Heap} (h : nZT A U H) (hAB : ∀ q, B q → A q) : nZT B U H := by
  obtain ⟨⟨v, h1, h2⟩, w, h3, h4⟩ := h
  exact ⟨⟨v, h1, h2.narrow hAB⟩, w, h3, h4.narrow hAB⟩
abbrev wE10 (h0 : Nat) : va_W := [(h0, .inr (10, [.null, .null, .null, .null, .null, .int 0, .int 0, .int 0]))]
def nPT (D : va_G) (cy : Nat → ClassId) (h0 sz : Nat) (U : State) : Prop := U.heap.size = sz ∧ va_P D vwCl (wE10 h0) U.heap ∧ va_K D vwCl (nTy cy) U ∧ va_D (fun _ => True) (wE10 h0) ∧ nZT (va_A (wE10 h0) sz) U U.heap
theorem nPT_blind {D : va_G} {cy : Nat → ClassId} {h0 sz : Nat} {av : List Value} : FrameBlind (va_Pc av (nPT D cy h0 sz)) := by
  intro a U g mk q
  obtain ⟨q0, q1, qP, qK, qD, qZ⟩ := q
  exact ⟨q0, q1, qP, va_K.moved (u := U) (U := U.calling g mk a) (Vm.Alike.refl U.vm) qK, qD, nZT.moved (u := U) (U := U.calling g mk a) (Vm.Alike.refl U.vm) qZ⟩
def nQT (D : va_G) (h0 sz : Nat) : Array Value → State → Outcome → State → Prop := va_Qv (S := Unit) (fun _ => True) (fun _ t => va_P D vwCl (wE10 h0) t.heap ∧ va_D (va_A (wE10 h0) sz) (wE10 h0)) (va_A (wE10 h0) sz)
theorem nr_ok {v : Value} (h : v = .null ∨ ∃ q : Nat, v = .ref q) : (narrow (.array (.object "java/lang/StackTraceElement")) v = v ∧ fits (.array (.object "java/lang/StackTraceElement")) v = true) ∧ narrow (.object "java/util/List") v = v ∧ fits (.object "java/util/List") v = true := by
  rcases h with rfl | ⟨q, rfl⟩ <;> exact ⟨⟨rfl, rfl⟩, rfl, rfl⟩
set_option maxHeartbeats 4000000 in
set_option maxRecDepth 100000 in
theorem c_Th (l : Launch) (D : va_G) (cy : Nat → ClassId) (h0 sz : Nat) : Met l yTh wTh ({ frames := 1, cells := 0, slots := 0, locals := 20 } : Room) (va_Pc [.ref h0, .null, .null, .int 0, .int 0] (nPT D cy h0 sz)) (nQT D h0 sz) 0 0 (va_A (wE10 h0) sz) := by
  refine va_MetF (cc := bTh) (maxL := 5) (ret := none) (by decide) rfl ?_
  intro p e s m args below meth c s₁ B hml hv
  obtain ⟨rfl, hsz, hP, hK, hD0, ⟨v1, hv1, hZ1⟩, v2, hv2, hZ2⟩ := hv
  have hx := B.exec
  have hb := B.bytes
  have hr := B.returns
  have hts := atoms_spec (ws := wTh) B.pre
  have hown : s.vm.findClass rTh = some m.cls := findClass_of_methodNamed B.named
  have hlocks := B.notSynchronized
  subst hsz
  have hD := hD0.self (sz := s.heap.size)
  have hS : va_S (va_A (wE10 h0) s.heap.size) s.heap s.heap [] := va_S.rf
  have hl := lv_entry ([.ref h0, .null, .null, .int 0, .int 0]) (n := 5) (Nat.le_of_ble_eq_true rfl)
  rw [lg_entry_eq]
  generalize (lg_sl ([.ref h0, .null, .null, .int 0, .int 0]) ++ List.replicate (5 - (lg_sl ([.ref h0, .null, .null, .int 0, .int 0])).length) Slot.unset).toArray = ls at hl ⊢
  have hl : lv_has ls 5 [(0, .ref h0), (1, .null), (2, .null), (3, .int 0), (4, .int 0)] := hl
  refine lv_aload_n hx hb dTh_0 rfl (lv_at hl 0 rfl) ?_
  refine W.objInit hx hb hown (hts (.methodLink rTh 1 objectInit) (by decide +kernel)) (hts (.instanceMethod objectInit) (by decide +kernel)) (hts (.code objectInit ⟨#[0xb1]⟩ 1 none) (by decide +kernel)) rfl (by rw [hml]; exact hl.1) rfl dTh_1 (Nat.le_of_ble_eq_true rfl) (Nat.le_of_ble_eq_true rfl) ?_
  refine W.eq (g2 := F0 m 4 ls []) rfl ?_
  refine lv_aload_n hx hb dTh_4 rfl (lv_at hl 0 rfl) ?_
  refine lv_aload_n hx hb dTh_5 rfl (lv_at hl 0 rfl) ?_
  refine va_put (D := D) (ci := 10) (v := .ref h0) (ty := .object "java/lang/Throwable") (C := RX10) (T := TX10) (N := 8) hx hb hts iTh_X10 tyX10 tyX10_ok nmX10 hown hK hP hD hS 0 rfl rfl 0 (by decide) (hts (.fieldLink rTh 7 rTh "cause" "Ljava/lang/Throwable;") (by decide +kernel)) (fun _ h9 => h9) rfl (by decide +kernel) rfl rfl (Nat.le_of_ble_eq_true rfl) dTh_6 (fun H locs hP hD hS => ?_)
  have hP : va_P D vwCl [(h0, .inr (10, [.ref h0, .null, .null, .null, .null, .int 0, .int 0, .int 0]))] H := hP
  have hD : va_D (va_A (wE10 h0) s.heap.size) [(h0, .inr (10, [.ref h0, .null, .null, .null, .null, .int 0, .int 0, .int 0]))] := hD
  refine lv_aload_n hx hb dTh_9 rfl (lv_at hl 0 rfl) ?_
  refine va_gets hx hb hZ1 hS hown (hts (.fieldLink rTh 13 rTh "UNASSIGNED_STACK" "[Ljava/lang/StackTraceElement;") (by decide +kernel)) (fun _ h => h) dTh_10 ?_
  refine va_put (D := D) (ci := 10) (v := v1) (ty := .array (.object "java/lang/StackTraceElement")) (C := RX10) (T := TX10) (N := 8) hx hb hts iTh_X10 tyX10 tyX10_ok nmX10 hown hK hP hD hS 0 rfl rfl 1 (by decide) (hts (.fieldLink rTh 17 rTh "stackTrace" "[Ljava/lang/StackTraceElement;") (by decide +kernel)) (fun _ h9 => h9) rfl (by decide +kernel) (nr_ok hv1).1.1 (nr_ok hv1).1.2 (Nat.le_of_ble_eq_true rfl) dTh_13 (fun H locs hP hD hS => ?_)
  have hP : va_P D vwCl [(h0, .inr (10, [.ref h0, v1, .null, .null, .null, .int 0, .int 0, .int 0]))] H := hP
  have hD : va_D (va_A (wE10 h0) s.heap.size) [(h0, .inr (10, [.ref h0, v1, .null, .null, .null, .int 0, .int 0, .int 0]))] := hD
  refine lv_aload_n hx hb dTh_16 rfl (lv_at hl 0 rfl) ?_
  refine va_gets hx hb hZ2 hS hown (hts (.fieldLink rTh 20 rTh "SUPPRESSED_SENTINEL" "Ljava/util/List;") (by decide +kernel)) (fun _ h => h) dTh_17 ?_
  refine va_put (D := D) (ci := 10) (v := v2) (ty := .object "java/util/List") (C := RX10) (T := TX10) (N := 8) hx hb hts iTh_X10 tyX10 tyX10_ok nmX10 hown hK hP hD hS 0 rfl rfl 2 (by decide) (hts (.fieldLink rTh 24 rTh "suppressedExceptions" "Ljava/util/List;") (by decide +kernel)) (fun _ h9 => h9) rfl (by decide +kernel) (nr_ok hv2).2.1 (nr_ok hv2).2.2 (Nat.le_of_ble_eq_true rfl) dTh_20 (fun H locs hP hD hS => ?_)
  have hP : va_P D vwCl [(h0, .inr (10, [.ref h0, v1, v2, .null, .null, .int 0, .int 0, .int 0]))] H := hP
  have hD : va_D (va_A (wE10 h0) s.heap.size) [(h0, .inr (10, [.ref h0, v1, v2, .null, .null, .int 0, .int 0, .int 0]))] := hD
  refine lv_iload hx hb dTh_23 (lv_at hl 4 rfl) ?_
  refine lv_if_eq (tgt := 36) hx hb dTh_25 (by decide) (fun hc => ?_) (fun hc => absurd rfl hc)
  refine lv_aload_n hx hb dTh_36 rfl (lv_at hl 0 rfl) ?_
  refine lv_null hx hb dTh_37 ?_
  refine va_put (D := D) (ci := 10) (v := .null) (ty := .array (.object "java/lang/StackTraceElement")) (C := RX10) (T := TX10) (N := 8) hx hb hts iTh_X10 tyX10 tyX10_ok nmX10 hown hK hP hD hS 0 rfl rfl 1 (by decide) (hts (.fieldLink rTh 17 rTh "stackTrace" "[Ljava/lang/StackTraceElement;") (by decide +kernel)) (fun _ h9 => h9) rfl (by decide +kernel) rfl rfl (Nat.le_of_ble_eq_true rfl) dTh_38 (fun H locs hP hD hS => ?_)
  have hP : va_P D vwCl [(h0, .inr (10, [.ref h0, .null, v2, .null, .null, .int 0, .int 0, .int 0]))] H := hP
  have hD : va_D (va_A (wE10 h0) s.heap.size) [(h0, .inr (10, [.ref h0, .null, v2, .null, .null, .int 0, .int 0, .int 0]))] := hD
  refine lv_aload_n hx hb dTh_41 rfl (lv_at hl 0 rfl) ?_
  refine lv_aload_nN hx hb dTh_42 rfl (lv_at hl 1 rfl) ?_
  refine va_put (D := D) (ci := 10) (v := .null) (ty := .object "java/lang/String") (C := RX10) (T := TX10) (N := 8) hx hb hts iTh_X10 tyX10 tyX10_ok nmX10 hown hK hP hD hS 0 rfl rfl 3 (by decide) (hts (.fieldLink rTh 31 rTh "detailMessage" "Ljava/lang/String;") (by decide +kernel)) (fun _ h9 => h9) rfl (by decide +kernel) rfl rfl (Nat.le_of_ble_eq_true rfl) dTh_43 (fun H locs hP hD hS => ?_)
  have hP : va_P D vwCl [(h0, .inr (10, [.ref h0, .null, v2, .null, .null, .int 0, .int 0, .int 0]))] H := hP
  have hD : va_D (va_A (wE10 h0) s.heap.size) [(h0, .inr (10, [.ref h0, .null, v2, .null, .null, .int 0, .int 0, .int 0]))] := hD
  refine lv_aload_n hx hb dTh_46 rfl (lv_at hl 0 rfl) ?_
  refine lv_aload_nN hx hb dTh_47 rfl (lv_at hl 2 rfl) ?_
  refine va_put (D := D) (ci := 10) (v := .null) (ty := .object "java/lang/Throwable") (C := RX10) (T := TX10) (N := 8) hx hb hts iTh_X10 tyX10 tyX10_ok nmX10 hown hK hP hD hS 0 rfl rfl 0 (by decide) (hts (.fieldLink rTh 7 rTh "cause" "Ljava/lang/Throwable;") (by decide +kernel)) (fun _ h9 => h9) rfl (by decide +kernel) rfl rfl (Nat.le_of_ble_eq_true rfl) dTh_48 (fun H locs hP hD hS => ?_)
  have hP : va_P D vwCl [(h0, .inr (10, [.null, .null, v2, .null, .null, .int 0, .int 0, .int 0]))] H := hP
  have hD : va_D (va_A (wE10 h0) s.heap.size) [(h0, .inr (10, [.null, .null, v2, .null, .null, .int 0, .int 0, .int 0]))] := hD
  refine lv_iload_n hx hb dTh_51 rfl (lv_at hl 3 rfl) ?_
  refine lv_if_ne (tgt := 60) hx hb dTh_52 (by decide) (fun hc => absurd rfl hc) (fun hc => ?_)
  refine lv_aload_n hx hb dTh_55 rfl (lv_at hl 0 rfl) ?_
  refine lv_null hx hb dTh_56 ?_
  refine va_put (D := D) (ci := 10) (v := .null) (ty := .object "java/util/List") (C := RX10) (T := TX10) (N := 8) hx hb hts iTh_X10 tyX10 tyX10_ok nmX10 hown hK hP hD hS 0 rfl rfl 2 (by decide) (hts (.fieldLink rTh 24 rTh "suppressedExceptions" "Ljava/util/List;") (by decide +kernel)) (fun _ h9 => h9) rfl (by decide +kernel) rfl rfl (Nat.le_of_ble_eq_true rfl) dTh_57 (fun H locs hP hD hS => ?_)
  have hP : va_P D vwCl (wE10 h0) H := hP
  have hD : va_D (va_A (wE10 h0) s.heap.size) (wE10 h0) := hD
  exact W.vret hx hb hr (fun t ht hW => ⟨⟨(), rfl, trivial, by rw [ht]; exact hP, hD⟩, hS.F ht⟩) hS.2.2 dTh_60 hlocks
theorem nT_pre {D : va_G} {cy : Nat → ClassId} {h0 : Nat} {s : State} {H : Heap} {locs : List Loc} {A : Nat → Prop} (hP : va_P D vwCl (wE10 h0) H) (hK : va_K D vwCl (nTy cy) s) (hD : va_D A (wE10 h0)) (hS : va_S A s.heap H locs) (hF : ∀ q, va_A (wE10 h0) H.size q → A q) (hZ : nZT A s s.heap) : ∀ U : State, U.heap = H → s.WarmedH U.vm → nPT D cy h0 H.size U := by
  intro U hU hW
  refine ⟨by rw [hU], by rw [hU]; exact hP, va_K.moved hW.alike hK, hD.weaken (fun _ _ _ _ => trivial), ?_⟩
  rw [hU]
  exact nZT.moved hW.alike ((hZ.kept hS.2.1).narrow hF)
set_option maxHeartbeats 4000000 in
set_option maxRecDepth 100000 in
theorem c_Ex (l : Launch) (D : va_G) (cy : Nat → ClassId) (h0 sz : Nat) : Met l yEx wEx ({ frames := 2, cells := 0, slots := 0, locals := 44 } : Room) (va_Pc [.ref h0, .null, .null, .int 0, .int 0] (nPT D cy h0 sz)) (nQT D h0 sz) 0 0 (va_A (wE10 h0) sz) := by
  refine va_MetF (cc := bEx) (maxL := 5) (ret := none) (by decide) rfl ?_
  intro p e s m args below meth c s₁ B hml hv
  obtain ⟨rfl, hsz, hP, hK, hD0, hZ⟩ := hv
  have hx := B.exec
  have hb := B.bytes
  have hr := B.returns
  have hts := atoms_spec (ws := wEx) B.pre
  have hown : s.vm.findClass rEx = some m.cls := findClass_of_methodNamed B.named
  have hlocks := B.notSynchronized
  subst hsz
  have hD := hD0.self (sz := s.heap.size)
  have hS : va_S (va_A (wE10 h0) s.heap.size) s.heap s.heap [] := va_S.rf
  have hA : ∀ q : Nat, s.heap.size ≤ q → va_A (wE10 h0) s.heap.size q := fun q h => Or.inr h
  have hl := lv_entry ([.ref h0, .null, .null, .int 0, .int 0]) (n := 5) (Nat.le_of_ble_eq_true rfl)
  rw [lg_entry_eq]
  generalize (lg_sl ([.ref h0, .null, .null, .int 0, .int 0]) ++ List.replicate (5 - (lg_sl ([.ref h0, .null, .null, .int 0, .int 0])).length) Slot.unset).toArray = ls at hl ⊢
  have hl : lv_has ls 5 [(0, .ref h0), (1, .null), (2, .null), (3, .int 0), (4, .int 0)] := hl
  refine lv_aload_n hx hb dEx_0 rfl (lv_at hl 0 rfl) ?_
  refine lv_aload_nN hx hb dEx_1 rfl (lv_at hl 1 rfl) ?_
  refine lv_aload_nN hx hb dEx_2 rfl (lv_at hl 2 rfl) ?_
  refine lv_iload_n hx hb dEx_3 rfl (lv_at hl 3 rfl) ?_
  refine lv_iload hx hb dEx_4 (lv_at hl 4 rfl) ?_
  have hFc := va_free (wc := wE10 h0) hD hS hA [0] rfl
  refine va_callv (va_runI (As := [.null, .null, .int 0, .int 0]) (rest := []) ⟨hx, hb, hml, hown, hts⟩ (c_Th l D cy h0 s.heap.size) (cwI 4 hts gEx_Th rfl rfl rfl (hts (.initialized rTh) (by decide +kernel)) (hts (.methodLink rEx 16 yTh) (by decide +kernel)) (hts (.instanceMethod yTh) (by decide +kernel)) rfl (by decide +kernel) ⟨Nat.le_of_ble_eq_true rfl, Nat.le_of_ble_eq_true rfl⟩) ⟨nPT_blind, fun U hU hW => ⟨rfl, nT_pre hP hK hD hS hFc hZ U hU hW⟩⟩ rfl rfl hl.1 rfl (lv_room (Nat.le_of_ble_eq_true rfl)) dEx_6 ⟨Nat.le_of_ble_eq_true rfl, Nat.le_of_ble_eq_true rfl⟩) hS (fun q _ h => h) (fun q h => h) (fun u t H1 locs ht hvm hw hB hz1 hk1 hS => ?_)
  obtain ⟨hP1, hD1⟩ := hB
  rw [ht] at hP1
  exact W.vret hx hb hr (fun t ht hW => ⟨⟨(), rfl, trivial, by rw [ht]; exact hP1, hD1⟩, hS.F ht⟩) hS.2.2 dEx_9 hlocks
set_option maxHeartbeats 4000000 in
set_option maxRecDepth 100000 in
theorem c_Rt (l : Launch) (D : va_G) (cy : Nat → ClassId) (h0 sz : Nat) : Met l yRt wRt ({ frames := 3, cells := 0, slots := 0, locals := 68 } : Room) (va_Pc [.ref h0, .null, .null, .int 0, .int 0] (nPT D cy h0 sz)) (nQT D h0 sz) 0 0 (va_A (wE10 h0) sz) := by
  refine va_MetF (cc := bRt) (maxL := 5) (ret := none) (by decide) rfl ?_
  intro p e s m args below meth c s₁ B hml hv
  obtain ⟨rfl, hsz, hP, hK, hD0, hZ⟩ := hv
  have hx := B.exec
  have hb := B.bytes
  have hr := B.returns
  have hts := atoms_spec (ws := wRt) B.pre
  have hown : s.vm.findClass rRt = some m.cls := findClass_of_methodNamed B.named
  have hlocks := B.notSynchronized
  subst hsz
  have hD := hD0.self (sz := s.heap.size)
  have hS : va_S (va_A (wE10 h0) s.heap.size) s.heap s.heap [] := va_S.rf
  have hA : ∀ q : Nat, s.heap.size ≤ q → va_A (wE10 h0) s.heap.size q := fun q h => Or.inr h
  have hl := lv_entry ([.ref h0, .null, .null, .int 0, .int 0]) (n := 5) (Nat.le_of_ble_eq_true rfl)
  rw [lg_entry_eq]
  generalize (lg_sl ([.ref h0, .null, .null, .int 0, .int 0]) ++ List.replicate (5 - (lg_sl ([.ref h0, .null, .null, .int 0, .int 0])).length) Slot.unset).toArray = ls at hl ⊢
  have hl : lv_has ls 5 [(0, .ref h0), (1, .null), (2, .null), (3, .int 0), (4, .int 0)] := hl
  refine lv_aload_n hx hb dRt_0 rfl (lv_at hl 0 rfl) ?_
  refine lv_aload_nN hx hb dRt_1 rfl (lv_at hl 1 rfl) ?_
  refine lv_aload_nN hx hb dRt_2 rfl (lv_at hl 2 rfl) ?_
  refine lv_iload_n hx hb dRt_3 rfl (lv_at hl 3 rfl) ?_
  refine lv_iload hx hb dRt_4 (lv_at hl 4 rfl) ?_
  have hFc := va_free (wc := wE10 h0) hD hS hA [0] rfl
  refine va_callv (va_runI (As := [.null, .null, .int 0, .int 0]) (rest := []) ⟨hx, hb, hml, hown, hts⟩ (c_Ex l D cy h0 s.heap.size) (cwI 4 hts gRt_Ex rfl rfl rfl (hts (.initialized rEx) (by decide +kernel)) (hts (.methodLink rRt 16 yEx) (by decide +kernel)) (hts (.instanceMethod yEx) (by decide +kernel)) rfl (by decide +kernel) ⟨Nat.le_of_ble_eq_true rfl, Nat.le_of_ble_eq_true rfl⟩) ⟨nPT_blind, fun U hU hW => ⟨rfl, nT_pre hP hK hD hS hFc hZ U hU hW⟩⟩ rfl rfl hl.1 rfl (lv_room (Nat.le_of_ble_eq_true rfl)) dRt_6 ⟨Nat.le_of_ble_eq_true rfl, Nat.le_of_ble_eq_true rfl⟩) hS (fun q _ h => h) (fun q h => h) (fun u t H1 locs ht hvm hw hB hz1 hk1 hS => ?_)
  obtain ⟨hP1, hD1⟩ := hB
  rw [ht] at hP1
  exact W.vret hx hb hr (fun t ht hW => ⟨⟨(), rfl, trivial, by rw [ht]; exact hP1, hD1⟩, hS.F ht⟩) hS.2.2 dRt_9 hlocks
set_option maxHeartbeats 4000000 in
set_option maxRecDepth 100000 in
theorem c_X10_init (l : Launch) (D : va_G) (cy : Nat → ClassId) (h0 sz : Nat) : Met l yX10_init wStop ({ frames := 4, cells := 0, slots := 0, locals := 92 } : Room) (va_Pc [.ref h0] (nPT D cy h0 sz)) (nQT D h0 sz) 0 0 (va_A (wE10 h0) sz) := by
  refine Met.ofW (cc := cX10_init) (maxL := 1) (ret := none) (by decide) rfl ?_
  intro p e s m args below meth c s₁ B hml hv
  obtain ⟨rfl, hsz, hP, hK, hD0, hZ⟩ := hv
  have hx := B.exec
  have hb := B.bytes
  have hr := B.returns
  have hts := atoms_spec (ws := wStop) B.pre
  have hown : s.vm.findClass RX10 = some m.cls := findClass_of_methodNamed B.named
  have hlocks := B.notSynchronized
  subst hsz
  have hD := hD0.self (sz := s.heap.size)
  have hS : va_S (va_A (wE10 h0) s.heap.size) s.heap s.heap [] := va_S.rf
  have hA : ∀ q : Nat, s.heap.size ≤ q → va_A (wE10 h0) s.heap.size q := fun q h => Or.inr h
  have hl := lv_entry ([.ref h0]) (n := 1) (Nat.le_of_ble_eq_true rfl)
  rw [lg_entry_eq]
  generalize (lg_sl ([.ref h0]) ++ List.replicate (1 - (lg_sl ([.ref h0])).length) Slot.unset).toArray = ls at hl ⊢
  have hl : lv_has ls 1 [(0, .ref h0)] := hl
  refine lv_aload_n hx hb dX10_init_0 rfl (lv_at hl 0 rfl) ?_
  refine lv_null hx hb dX10_init_1 ?_
  refine lv_null hx hb dX10_init_2 ?_
  refine lv_iconst (v := 0) hx hb dX10_init_3 (by decide) ?_
  refine lv_iconst (v := 0) hx hb dX10_init_4 (by decide) ?_
  have hFc := va_free (wc := wE10 h0) hD hS hA [0] rfl
  refine va_callv (va_runI (As := [.null, .null, .int 0, .int 0]) (rest := []) ⟨hx, hb, hml, hown, hts⟩ (c_Rt l D cy h0 s.heap.size) (cwI 4 hts gStop_Rt rfl rfl rfl (hts (.initialized rRt) (by decide +kernel)) (hts (.methodLink RX10 1 yRt) (by decide +kernel)) (hts (.instanceMethod yRt) (by decide +kernel)) rfl (by decide +kernel) ⟨Nat.le_of_ble_eq_true rfl, Nat.le_of_ble_eq_true rfl⟩) ⟨nPT_blind, fun U hU hW => ⟨rfl, nT_pre hP hK hD hS hFc hZ U hU hW⟩⟩ rfl rfl hl.1 rfl (lv_room (Nat.le_of_ble_eq_true rfl)) dX10_init_5 ⟨Nat.le_of_ble_eq_true rfl, Nat.le_of_ble_eq_true rfl⟩) hS (fun q _ h => h) (fun q h => h) (fun u t H1 locs ht hvm hw hB hz1 hk1 hS => ?_)
  obtain ⟨hP1, hD1⟩ := hB
  rw [ht] at hP1
  exact W.vret hx hb hr (fun t ht hW => ⟨⟨(), rfl, trivial, by rw [ht]; exact hP1, hD1⟩, hS.F ht⟩) hS.2.2 dX10_init_8 hlocks
