/-! the words of the methods that throw; the answer that is the Stop; the catch -/
def wTB : List Cond := wsX11_book ++ ([.methodLink RX11 195 yX11_stop, .instanceMethod yX11_stop, .selects RX11 yX11_stop yX11_stop] ++ (wsX11_stop ++ [.classLink RX11 41 RX10]))
set_option maxRecDepth 100000 in
theorem wTB_good : GoodIn wTB wTB := goodIn_sub (fun _ h => h) (by decide +kernel)
theorem wTB_link : Cond.classLink RX11 41 RX10 ∈ wTB := List.mem_append_right _ (List.mem_append_right _ (List.mem_append_right _ List.mem_cons_self))
set_option maxRecDepth 100000 in
theorem gT_X11_stop : GoodIn wTB (wsV RX11 195 RX11 yX11_stop wsX11_stop) := goodIn_app (goodIn_of _ (by decide +kernel)) (goodIn_sub (fun _ h => List.mem_append_right _ (List.mem_append_right _ (List.mem_append_left _ h))) (by decide +kernel))
def nMr (l : Launch) (y : MethodName) (ws : List Cond) (rm : Room) (D : va_G) (A : Nat → Prop) (cy : Nat → ClassId) (X : nS → va_W) (kt vt : Nat → Nat) (av : List Value) (σ : nS) (ra : Nat) (σ' : nS) : Prop :=
  Met l y ws rm (va_Pc av (nPre D A cy X kt vt σ)) (va_Qr (S := Unit) (fun _ => True) (fun _ x t => x = ra ∧ va_P D vwCl (X σ') t.heap) A) 0 0 A
abbrev nQr (below : List Frame) (D : va_G) (A : Nat → Prop) (X : nS → va_W) (args : Array Value) (s : State) (ra : Nat) (q : Int32 × nS) : State → Prop := MQ below (va_Qr (S := Unit) (fun _ => True) (fun _ x t => x = ra ∧ va_P D vwCl (X q.2) t.heap) A) args s 0 0 A
section NTHROW2
variable {p : Program} {l : Launch} {e : Env} {R : Room} {s : State} {m : MethodId} {args : Array Value} {below : List Frame} {meth : Method} {c : Code} {H : Heap} {locs : List Loc} {Q Q2 : State → Prop}
variable {cc : ByteArray} {pc : Nat} {ls : Array Slot} {rest st0 : List Value} {D : va_G} {A : Nat → Prop} {ta ra : Nat} {X : nS → va_W} {σ σ' : nS} {kt vt : Nat → Nat} {cy : Nat → ClassId} {O : Option Int32 → Outcome → Prop} {z : Option Int32 × nS}
variable {y : MethodName} {bytes : ByteArray} {maxL nL n index q0 q1 ci cj N N1 : Nat} {ret : Option FieldType} {ws Ts : List Cond} {rm : Room} {own C : String} {b : Addr} {As fs fs1 av : List Value} {T T1 : u_T}
theorem nb_aret {rt : FieldType} (hx : p.tables.exec = Jvm.exec) (hb : c.code = cc) (hr : meth.sig.returnType = some rt) (hrt : ∃ n, rt = .object n) (hlocks : meth.locks = false) (hP : va_P D vwCl (X σ) H) (hS : va_S A s.heap H locs) {v : Int32} {q : Int32 × nS} (hq : (v, σ) = q) (hdg : decode cc pc = .ok (.areturn, 1)) : W p l e R s m args below meth c H locs 0 0 (nQr below D A X args s ra q) (F0 m pc ls [.ref ra]) := by
  subst hq
  exact W.aret hx hb hr (Or.inl hrt) (Or.inr ⟨ra, rfl⟩) (fun t ht _ => ⟨⟨(), ra, rfl, trivial, rfl, (show va_P D vwCl (X σ) t.heap by rw [ht]; exact hP)⟩, hS.F ht⟩) hS.2.2 hdg hlocks
theorem nb_callVr (S : CallFix p m c cc nL s args Ts own) (hM : nMr l y ws rm D A cy X kt vt (.ref b :: As) σ ra σ') (cw : CallW R s args own C index y bytes maxL ret ws rm 0 0 n) (hE : nEn D A cy X kt vt s) (hP : va_P D vwCl (X σ) H) (hS : va_S A s.heap H locs) (he : (X σ)[q0]? = some (b, .inr (ci, fs))) (hc : vwCl[ci]? = some (C, T, N))
    (hn : As.length = n) (hsize : ls.size = nL) (hstack : st0 = As.reverse ++ .ref b :: rest) (hW : (rest.map fun v => v.category).sum ≤ 8) (hdg : decode cc pc = .ok (.invokevirtual index, 3))
    (kk : ∀ (H1 : Heap) (locs1 : List Loc), va_P D vwCl (X σ') H1 → va_S A s.heap H1 locs1 → W p l e R s m args below meth c H1 locs1 0 0 Q (F0 m (pc + 3) ls (.ref ra :: rest))) : W p l e R s m args below meth c H locs 0 0 Q (F0 m pc ls st0) :=
  va_callr (va_runV (As := As) (rest := rest) S hM cw ⟨nPre_blind, va_recv hE.1 hP (ci := ci) (q := (C, T, N)) hc he, fun U hU hW2 => ⟨rfl, by rw [hU]; exact hP, nEn_go hE hS U hU hW2⟩⟩ rfl hn hsize hstack (lv_room hW) hdg ⟨Nat.zero_le _, Nat.zero_le _⟩) hS (fun _ _ h => h) (fun _ h => h) (fun _ x t H1 l1 ht _ _ hB _ _ hS1 => by rw [hB.1]; exact kk H1 l1 (by rw [← ht]; exact hB.2) hS1)
theorem nx_table {s₁ : State} {hh : List (Nat × Nat × Nat × Nat)} {S : Spec} (B : BodyLoose p l y S cc maxL ret e s m args below meth c s₁) (h : (Cond.codeWith y cc maxL ret hh).before args s = true) : c.exceptionTable.toList = hh.map (fun q => ⟨q.1, q.2.1, q.2.2.1, q.2.2.2⟩) := by
  obtain ⟨m', meth', c', hn, hm', hc', -, -, ht, -⟩ := Cond.codeWith_spec h
  cases B.named.symm.trans hn
  cases B.method.symm.trans hm'
  cases (Stand.of_body B).code.symm.trans hc'
  rw [← ht, List.map_map]
  exact (List.map_id _).symm
/-- the search of the one entry of a table, its class linked: it is found, and the entry is noted -/
theorem nx_find {u : State} {f : JFrame} {ms : Method} {cd : Code} {x : ExceptionTableEntry} {k : ClassId} {cell : Cell} {QQ : Handler → Pre} {E : CtlPost} {d : Bool} {acts : List Action} (hm : u.vm.method? f.method = some ms) (hc : ms.code = some cd) (ht : cd.exceptionTable.toList = [x]) (hx : covers x f.pc = true) (h0 : x.catchType ≠ 0)
    (hl : u.vm.ClassLinks e.platform f.method.cls x.catchType k) (hcell : u.heap[ta]? = some cell) (hobj : ∀ k, cell.vm ≠ .statics k) (hk1 : ∃ kk, u.vm.classes[cell.cls]? = some kk) (hk2 : ∃ kk, u.vm.classes[k]? = some kk) (hfit : u.vm.assignable cell.cls k = true) :
    wp (findHandler f ta) QQ E e d acts u ↔ QQ (.found x.handlerPc) d acts (u.setVm (u.vm.noted f.method.cls x.catchType (.cls k))) := by
  rw [W.findHandler_eq hm hc, ht]
  simp only [covers] at hx
  obtain ⟨ha, hb⟩ := (resolveClass_links e.toSetting hl).op (op := VmOp.resolveClass f.method.cls x.catchType) rfl
  have hal : u.vm.Alike (u.vm.noted f.method.cls x.catchType (.cls k)) := (Vm.Alike.refl u.vm).noted _ _ _
  obtain ⟨w1, hw1⟩ := hk1
  obtain ⟨w2, hw2⟩ := hk2
  obtain ⟨v1, hv1, -⟩ := hal.2.2 _ _ hw1
  obtain ⟨v2, hv2, -⟩ := hal.2.2 _ _ hw2
  have hfit2 : (u.vm.noted f.method.cls x.catchType (.cls k)).assignable cell.cls k = true := by rw [hal.assignable]; exact hfit
  simp [findHandler.go, hx, h0, ha, hb, hcell, hobj, hv1, hv2, hfit2, VmOp.dirties, VmOp.acts]
/-- from the note over a frame into the frame's own handler -/
theorem nx_catch {U : State} {g : JFrame} {x : ExceptionTableEntry} {name : String} (X1 : Stand p l e R s m args below meth c U locs 0 0) (hg : g.method = m) (hown : s.vm.findClass own = some m.cls) (ht : c.exceptionTable.toList = [x]) (hx : covers x g.pc = true) (h0 : x.catchType ≠ 0) (hlink : (Cond.classLink own x.catchType name).before args s = true) {cell : Cell} (hcell : U.heap[ta]? = some cell) (hobj : cell.vm.isStatics = false) (hcls : s.vm.findClass name = some cell.cls) :
    ∃ vm', Stand p l e R s m args below meth c (U.setVm vm') locs 0 0 ∧ ∀ target, Steps p.tables e below ((U.setVm vm').setTop { g with pc := x.handlerPc, stack := [.ref ta] }) target → Steps p.tables e below ((U.setTop g).pushFrame (.throwing ta)) target := by
  have hpl : e.platform.magicAccessors = ({} : Platform).magicAccessors := by rw [X1.admits.platform]
  obtain ⟨c', hc', hcl⟩ := Cond.classLink_spec hown hlink e.platform hpl
  cases hcls.symm.trans hc'
  obtain ⟨dk, _, _, kt, hd, _, _, _, _, hkt, _, hopen⟩ := hcl.here
  have hcl₀ := X1.warmed.classLinks hcl
  have hW' : s.WarmedH (U.vm.noted m.cls x.catchType (.cls cell.cls)) := X1.warmed.noted hd hopen (State.rightAt_cls hcl)
  obtain ⟨kt', hkt', -⟩ := X1.warmed.alike.2.2 _ _ hkt
  have hfit : U.vm.assignable cell.cls cell.cls = true := va_asg _ _
  refine ⟨_, X1.noted hW', fun target hrest => ?_⟩
  subst hg
  obtain ⟨hgo, hw⟩ := X1.here.throwing (g := g) ta
  refine Steps.head hgo hw ?_
  have hfind : ∀ (QQ : Handler → Pre) (E : CtlPost) (d : Bool) (acts : List Action), wp (findHandler g ta) QQ E e d acts ((U.setTop g).pushFrame (.throwing ta)) ↔ QQ (.found x.handlerPc) d acts (((U.setTop g).pushFrame (.throwing ta)).setVm (U.vm.noted g.method.cls x.catchType (.cls cell.cls))) := fun QQ E d acts =>
    nx_find (u := (U.setTop g).pushFrame (.throwing ta)) (ms := meth) (cd := c) X1.method' X1.code ht hx h0 hcl₀ hcell (VmData.ne_statics_of hobj) ⟨kt', hkt'⟩ ⟨kt', hkt'⟩ hfit
  have hstep : (stepThrowing e ((U.setTop g).pushFrame (.throwing ta)) ta (.java g :: U.frames.tail)).Is ((((U.setTop g).pushFrame (.throwing ta)).setVm (U.vm.noted g.method.cls x.catchType (.cls cell.cls))).setFrames (.java { g with pc := x.handlerPc, stack := [.ref ta] } :: U.frames.tail)) [] := by
    simp only [stepThrowing, searchFrame, vmDo]
    generalize hr : Sem.go _ e false [] _ = res
    obtain ⟨as, rfl, ha⟩ := Sem.eq_ok_of hr (a := Handler.found x.handlerPc) (s' := ((U.setTop g).pushFrame (.throwing ta)).setVm (U.vm.noted g.method.cls x.catchType (.cls cell.cls))) (acts' := []) (by simp [hfind _ _ _ _])
    exact ⟨rfl, ha⟩
  rw [stepThread_throwing (frames_entered X1.here.top _), hstep.1]
  obtain ⟨g₀, hg0⟩ := Option.isSome_iff_exists.mp X1.here.top
  obtain ⟨r, hr⟩ := State.topJava?_eq_some.mp hg0
  have hr' : (U.setVm (U.vm.noted g.method.cls x.catchType (.cls cell.cls))).frames = .java g₀ :: r := hr
  rw [State.setTop_of_frames _ hr'] at hrest
  have hfv : ∀ (u : State) (vm' : Vm) (F G : List Frame), ((u.setFrames F).setVm vm').setFrames G = (u.setVm vm').setFrames G := fun u vm' F G => by
    rw [show (u.setFrames F).setVm vm' = (u.setVm vm').setFrames F from rfl, State.setFrames_setFrames]
  rw [hr, List.tail_cons, State.pushFrame, hfv, State.setTop_of_frames _ hr, hfv]
  exact hrest
theorem nx_callVc {x : ExceptionTableEntry} {name : String} (S : CallFix p m c cc nL s args Ts own) (hM : nMx l y ws rm D A cy X kt vt (.ref b :: As) σ O (none, σ')) (hO : ∀ o, O none o → o = .threw ta) (cw : CallW R s args own C index y bytes maxL ret ws rm 0 0 n) (hE : nEn D A cy X kt vt s) (hP : va_P D vwCl (X σ) H) (hS : va_S A s.heap H locs) (he : (X σ)[q0]? = some (b, .inr (ci, fs))) (hc : vwCl[ci]? = some (C, T, N))
    (hn : As.length = n) (hsize : ls.size = nL) (hstack : st0 = As.reverse ++ .ref b :: rest) (hW : (rest.map fun v => v.category).sum ≤ 8) (hdg : decode cc pc = .ok (.invokevirtual index, 3))
    (htab : c.exceptionTable.toList = [x]) (hcov : covers x pc = true) (h0 : x.catchType ≠ 0) (hlink : (Cond.classLink own x.catchType name).before args s = true) (he1 : (X σ')[q1]? = some (ta, .inr (cj, fs1))) (hc1 : vwCl[cj]? = some (name, T1, N1))
    (kk : ∀ (H1 : Heap) (locs1 : List Loc), va_P D vwCl (X σ') H1 → va_S A s.heap H1 locs1 → W p l e R s m args below meth c H1 locs1 0 0 Q (F0 m x.handlerPc ls [.ref ta])) : W p l e R s m args below meth c H locs 0 0 Q (F0 m pc ls st0) := by
  intro T0 hT X0
  subst hT
  obtain ⟨U', L, X1, hp, hS1, hst⟩ := nx_virt X0 S hM hO cw hE hP hS he hc hn hsize hstack hW hdg
  obtain ⟨cell, g1, g2, g3⟩ := va_recv hE.1 hp (ci := cj) (q := (name, T1, N1)) hc1 he1
  obtain ⟨vm', X2, hst2⟩ := nx_catch (g := F0 m pc ls rest) X1 rfl S.2.2.2.1 htab hcov h0 hlink g1 g2 g3
  obtain ⟨t, a1, b1⟩ := kk U'.heap (locs ++ L) hp hS1 (U'.setVm vm') rfl X2
  exact ⟨t, hst.trans (hst2 t a1), b1⟩
end NTHROW2
