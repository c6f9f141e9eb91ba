/-! METHODS THAT MAY THROW the one Stop object: their outcome is told by the pure function -/
def nBx {R : Type} (o : Option (Option Int32 × nS)) (k : Int32 → nS → Option (Option R × nS)) : Option (Option R × nS) := match o with
  | none => none
  | some (none, σ) => some (none, σ)
  | some (some x, σ) => k x σ
theorem nBx_e {R : Type} {o : Option (Option Int32 × nS)} {k : Int32 → nS → Option (Option R × nS)} {z : Option R × nS} (h : nBx o k = some z) : (∃ (x : Int32) (σ : nS), o = some (some x, σ) ∧ k x σ = some z) ∨ ∃ σ : nS, o = some (none, σ) ∧ (none, σ) = z := by
  match o, h with
  | none, h => cases h
  | some (none, σ), h => exact Or.inr ⟨σ, rfl, Option.some.inj h⟩
  | some (some x, σ), h => exact Or.inl ⟨x, σ, rfl, h⟩
/-- a throwing callee under a catch: both roads go on -/
def nBc {T R : Type} (o : Option (Option Int32 × nS)) (k : Int32 → nS → Option (R × T)) (h : nS → Option (R × T)) : Option (R × T) := match o with
  | none => none
  | some (none, σ) => h σ
  | some (some x, σ) => k x σ
theorem nBc_e {T R : Type} {o : Option (Option Int32 × nS)} {k : Int32 → nS → Option (R × T)} {g : nS → Option (R × T)} {z : R × T} (h : nBc o k g = some z) : (∃ (x : Int32) (σ : nS), o = some (some x, σ) ∧ k x σ = some z) ∨ ∃ σ : nS, o = some (none, σ) ∧ g σ = some z := by
  match o, h with
  | none, h => cases h
  | some (none, σ), h => exact Or.inr ⟨σ, rfl, h⟩
  | some (some x, σ), h => exact Or.inl ⟨x, σ, rfl, h⟩
def nOi (ta : Nat) (q : Option Int32) (o : Outcome) : Prop := match q with
  | some r => o = .returned (some (.int r))
  | none => o = .threw ta
def nOv (ta : Nat) (q : Option Int32) (o : Outcome) : Prop := match q with
  | some _ => o = .returned none
  | none => o = .threw ta
/-- what a method leaves: tables warmer, nothing new, only cells of A written -/
def nFr (A : Nat → Prop) (st t : State) : Prop := ∃ L : List Loc, (st.WarmedH t.vm ∧ st.sameButNew ({ t with vm := st.vm } : State) L 0 0) ∧ ∀ q ∈ L, A q.base
def nQx (O : Option Int32 → Outcome → Prop) (below : List Frame) (D : va_G) (A : Nat → Prop) (X : nS → va_W) (s : State) (z : Option Int32 × nS) : State → Prop := fun t => ∃ o, t.status = .running ∧ Ended t below o ∧ O z.1 o ∧ va_P D vwCl (X z.2) t.heap ∧ va_F A s t ∧ nFr A s t
def nMx (l : Launch) (y : MethodName) (ws : List Cond) (rm : Room) (D : va_G) (A : Nat → Prop) (cy : Nat → ClassId) (X : nS → va_W) (kt vt : Nat → Nat) (av : List Value) (σ : nS) (O : Option Int32 → Outcome → Prop) (z : Option Int32 × nS) : Prop :=
  MetFree l y (headSpec ws rm) (va_Pc av (nPre D A cy X kt vt σ)) (fun _ _ _ _ _ => True) (fun _ st o t => O z.1 o ∧ va_P D vwCl (X z.2) t.heap ∧ va_F A st t ∧ nFr A st t)
section NTHROW
variable {p : Program} {l : Launch} {e : Env} {R : Room} {s : State} {m : MethodId} {args : Array Value} {below : List Frame} {meth : Method} {c : Code} {H : Heap} {locs : List Loc} {Q Q2 : State → Prop}
variable {cc : ByteArray} {pc : Nat} {ls : Array Slot} {rest st0 : List Value} {D : va_G} {A : Nat → Prop} {ta : Nat} {X : nS → va_W} {σ σ' : nS} {kt vt : Nat → Nat} {cy : Nat → ClassId} {O : Option Int32 → Outcome → Prop} {z : Option Int32 × nS}
variable {y : MethodName} {bytes : ByteArray} {maxL nL n index q0 ci N : Nat} {ret : Option FieldType} {ws Ts : List Cond} {rm : Room} {own C : String} {b : Addr} {As fs av : List Value} {T : u_T}
theorem nW_mono {g : JFrame} (h : ∀ t, Q t → Q2 t) (k : W p l e R s m args below meth c H locs 0 0 Q g) : W p l e R s m args below meth c H locs 0 0 Q2 g := fun T hT X => by
  obtain ⟨t, a, b⟩ := k T hT X
  exact ⟨t, a, h t b⟩
theorem nMx_ofW {ws' : List Cond} (hy : plainName y.cls = true) (hw : ws = Cond.code y cc maxL ret :: ws')
    (body : ∀ p e s m args below meth c s₁, BodyLoose p l y (headSpec ws rm) cc maxL ret e s m args below meth c s₁ → c.maxLocals = maxL → va_Pc av (nPre D A cy X kt vt σ) args s →
      W p l e (headSpec ws rm).room s m args below meth c s.heap [] 0 0 (nQx O below D A X s z) (entryFrame m args maxL)) : nMx l y ws rm D A cy X kt vt av σ O z := by
  refine MetFree.of_bodyS (code := cc) (maxLocals := maxL) (ret := ret) hy ?_ ?_
  · intro args s m h hn
    obtain ⟨meth, c, h1, h2, h3, h4, h5, h6, -, -⟩ := Cond.code_spec hn (atoms_spec (ws := ws) h _ (by rw [hw]; exact List.mem_cons_self))
    exact ⟨meth, c, h1, h2, h3, h4, h5, h6⟩
  · intro p e s m args below meth c s₁ B hml hP _
    have hh0 : s₁.heap = s.heap := by rw [B.state]; rfl
    obtain ⟨t, a1, o, b1, b2, b3⟩ := body p e s m args below meth c s₁ B hml hP s₁ hh0 (Stand.of_body B)
    exact ⟨t, o, a1, b1, b2, b3⟩
theorem nMx_i {r : Int32} (h : nMx l y ws rm D A cy X kt vt av σ (nOi ta) (some r, σ')) : nMi l y ws rm D A cy X kt vt av σ r σ' := by
  intro p e ha hc hk s m args below hf happ hP hK
  obtain ⟨k, o, h1, h2, h3, ho, hp, hF, L, ⟨hw, hs⟩, hL⟩ := h p e ha hc hk s m args below hf happ hP hK
  exact ⟨k, o, h1, h2, h3, ⟨⟨r, (), ho, rfl, hp⟩, hF⟩, L, ⟨⟨_, ho⟩, hw, hs⟩, hL⟩
theorem nMx_v {r : Int32} (h : nMx l y ws rm D A cy X kt vt av σ (nOv ta) (some r, σ')) : nMv l y ws rm D A cy X kt vt av σ σ' := by
  intro p e ha hc hk s m args below hf happ hP hK
  obtain ⟨k, o, h1, h2, h3, ho, hp, hF, L, ⟨hw, hs⟩, hL⟩ := h p e ha hc hk s m args below hf happ hP hK
  exact ⟨k, o, h1, h2, h3, ⟨⟨(), ho, trivial, hp⟩, hF⟩, L, ⟨⟨_, ho⟩, hw, hs⟩, hL⟩
theorem nx_iret (hx : p.tables.exec = Jvm.exec) (hb : c.code = cc) (hr : meth.sig.returnType = some .int) (hlocks : meth.locks = false) (hP : va_P D vwCl (X σ) H) (hS : va_S A s.heap H locs) {v : Int32} (hz : (some v, σ) = z) (hdg : decode cc pc = .ok (.ireturn, 1)) : W p l e R s m args below meth c H locs 0 0 (nQx (nOi ta) below D A X s z) (F0 m pc ls [.int v]) := by
  subst hz
  refine nW_mono (fun t h => ?_) (nb_iret (q := (v, σ)) (R := R) (args := args) (below := below) (l := l) (e := e) (ls := ls) hx hb hr hlocks hP hS rfl hdg)
  obtain ⟨o, h1, h2, ⟨⟨r, u, h3, h4, h5⟩, h6⟩, L, ⟨-, h7⟩, h8⟩ := h
  exact ⟨o, h1, h2, by rw [h3, h4]; rfl, h5, h6, L, h7, h8⟩
theorem nx_vret (hx : p.tables.exec = Jvm.exec) (hb : c.code = cc) (hr : meth.sig.returnType = none) (hlocks : meth.locks = false) (hP : va_P D vwCl (X σ) H) (hS : va_S A s.heap H locs) {v : Int32} (hz : (some v, σ) = z) (hdg : decode cc pc = .ok (.return_, 1)) : W p l e R s m args below meth c H locs 0 0 (nQx (nOv ta) below D A X s z) (F0 m pc ls []) := by
  subst hz
  refine nW_mono (fun t h => ?_) (nb_vret (q := (0, σ)) (R := R) (args := args) (below := below) (l := l) (e := e) (ls := ls) hx hb hr hlocks hP hS rfl hdg)
  obtain ⟨o, h1, h2, ⟨⟨u, h3, h4, h5⟩, h6⟩, L, ⟨-, h7⟩, h8⟩ := h
  exact ⟨o, h1, h2, by rw [h3]; rfl, h5, h6, L, h7, h8⟩
theorem nx_athrow (hx : p.tables.exec = Jvm.exec) (hb : c.code = cc) (hno : ∀ x ∈ c.exceptionTable.toList, covers x pc = false) (hlocks : meth.locks = false) (hP : va_P D vwCl (X σ) H) (hS : va_S A s.heap H locs) (hO : O none (.threw ta)) (hz : (none, σ) = z) (hdg : decode cc pc = .ok (.athrow, 1)) : W p l e R s m args below meth c H locs 0 0 (nQx O below D A X s z) (F0 m pc ls (.ref ta :: rest)) := by
  subst hz
  intro T hT X0
  obtain ⟨h1, h2, h3, h4, h5⟩ := X0.athrowLeaves hx (g := F0 m pc ls (.ref ta :: rest)) rfl rfl rfl hno (a := ta) (rest := rest) rfl (by rw [hb]; exact hdg) hlocks
  refine ⟨_, h1, .threw ta, h2, h3, hO, ?_, ?_, locs, ⟨h4, h5⟩, hS.2.2⟩
  · show va_P D vwCl (X σ) T.heap
    rw [hT]; exact hP
  · show va_F A s _
    exact hS.F hT
/-- the core of a call whose callee throws: the note lies over the caller's frame -/
theorem nx_core {U : State} {a9 : Array Value} {g : JFrame} {ig : Instr} {mk : MethodId} (X1 : Stand p l e R s m args below meth c U locs 0 0) (hg : g.method = m) (hsize : g.locals.size = c.maxLocals) (hdg : decode c.code g.pc = .ok (ig, 3)) (hW8 : 2 * g.monitorRoom + (g.stack.map fun v => v.category).sum ≤ 8) (hn : U.methodNamed? y = some mk)
    (hM : nMx l y ws rm D A cy X kt vt av σ O (none, σ')) (hO : ∀ o, O none o → o = .threw ta) (hrc : rm.cells = 0) (hrs : rm.slots = 0) (hfr : rm.frames + 1 ≤ R.frames) (hlo : 8 + (maxL + 11) + rm.locals ≤ R.locals) (hws : ∀ w ∈ ws, ∀ (a' : Array Value) (U : State), s.WarmedH U.vm → w.before a' U = true) (hcode : Cond.code y bytes maxL ret ∈ ws) (hini : ∀ (a' : Array Value) (U : State), s.WarmedH U.vm → (Cond.initialized y.cls).before a' U = true) (hPc : va_Pc av (nPre D A cy X kt vt σ) a9 U) :
    ∃ (U' : State) (L : List Loc), Stand p l e R s m args below meth c U' (locs ++ L) 0 0 ∧ (∀ q ∈ L, A q.base) ∧ va_P D vwCl (X σ') U'.heap ∧ U.heap.size ≤ U'.heap.size ∧ (∀ q : Nat, q < U.heap.size → ¬ A q → U'.heap[q]? = U.heap[q]?) ∧ Steps p.tables e below (doInvoke e (U.setTop g) [] mk a9).1 ((U'.setTop g).pushFrame (.throwing ta)) := by
  have hat : At U g.method c below := by rw [hg]; exact X1.here
  obtain ⟨methY, cY, hmY, hcY, -, hlY, -, -, -, -⟩ := Cond.code_spec hn (hws _ hcode a9 U X1.warmed)
  obtain ⟨kY, hkY, -⟩ := className_of_methodNamed hn
  have hinitY : kY.init = .initialized := Cond.initialized_spec (findClass_of_methodNamed hn) hkY (hini a9 U X1.warmed)
  have happ : (headSpec ws rm).appliesLoose y e.platform (U.calling g mk a9) = true :=
    Spec.appliesLoose_calling (g := g) hat hdg hn hkY hinitY (X1.room_calling (g := g) (R' := (headSpec ws rm).room) hsize hmY hcY hfr (by rw [hlY]; show _ + _ + rm.locals ≤ _; omega) (by show 0 + rm.cells ≤ _; rw [hrc]; exact Nat.zero_le _) (by show 0 + rm.slots ≤ _; rw [hrs]; exact Nat.zero_le _)) (atoms_intro fun w hw => hws w hw _ _ X1.warmed)
  obtain ⟨mid, hmid⟩ := hat.above
  have hfrm : (U.setTop g).frames = (.java g :: mid) ++ below := by rw [State.frames_setTop' g hat.top, hmid]; rfl
  obtain ⟨o, s₂, hsteps, -, hend, hq⟩ := Steps.callFree hM p X1.admits X1.cas X1.clock (acts := []) hfrm happ (nPre_blind _ _ _ _ hPc) trivial
  obtain ⟨ho, hp, hF, L, ⟨hw2, e2, q2, q3, q4, q5, q6⟩, hL⟩ := hq
  have hthr := hO o ho
  subst hthr
  rw [State.frames_setTop' g hat.top] at hend
  have hf₂ : s₂.frames = .throwing ta :: .java g :: U.frames.tail := hend
  have hwU : U.WarmedH s₂.vm := hw2
  obtain ⟨g₀, hg0⟩ := Option.isSome_iff_exists.mp hat.top
  obtain ⟨r, hr⟩ := State.topJava?_eq_some.mp hg0
  obtain ⟨tt, htt, -⟩ := State.frames_cons hr
  have e3 : s₂ = ({ (U.calling g mk a9).setFrames s₂.frames with heap := s₂.heap, slotsUsed := s₂.slotsUsed } : State).setVm s₂.vm := by
    have h9 : s₂ = ({ s₂ with vm := (U.calling g mk a9).vm } : State).setVm s₂.vm := rfl
    rw [show ({ s₂ with vm := (U.calling g mk a9).vm } : State) = _ from e2] at h9
    exact h9
  have hs₂ : s₂ = ((({ U with heap := s₂.heap, slotsUsed := s₂.slotsUsed } : State).setVm s₂.vm).setTop g).pushFrame (.throwing ta) := by
    have hr' : (({ U with heap := s₂.heap, slotsUsed := s₂.slotsUsed } : State).setVm s₂.vm).frames = .java g₀ :: r := hr
    refine e3.trans ?_
    rw [hf₂, State.calling_eq hat.top, State.setFrames_setFrames, State.pushFrame, State.frames_setTop _ hr', State.setTop_of_frames _ hr', State.setFrames_setFrames, hr]
    rfl
  have hsame : U.sameButNew ({ U with heap := s₂.heap, slotsUsed := s₂.slotsUsed } : State) L 0 0 := by
    refine ⟨?_, q2, q3, q4, q5, q6⟩
    show ({ U with heap := s₂.heap, slotsUsed := s₂.slotsUsed } : State) = { U.setFrames U.frames with heap := s₂.heap, slotsUsed := s₂.slotsUsed }
    rw [State.setFrames_self htt]
  subst hg
  refine ⟨({ U with heap := s₂.heap, slotsUsed := s₂.slotsUsed } : State).setVm s₂.vm, L, ⟨X1.admits, X1.cas, X1.clock, X1.frames, X1.room, X1.hears, X1.method, X1.code, (X1.here.setHeapUsed s₂.heap s₂.slotsUsed).setVm hwU.alike, X1.tail, State.WarmedH.trans X1.warmed hwU, X1.limits, X1.bytes, X1.same.trans (hsame.setVm s.vm)⟩, hL, hp, hF.1, hF.2, ?_⟩
  rw [← hs₂]
  exact hsteps
/-- invokevirtual of a callee that throws -/
theorem nx_virt {T0 : State} (X0 : Stand p l e R s m args below meth c T0 locs 0 0) (S : CallFix p m c cc nL s args Ts own) (hM : nMx l y ws rm D A cy X kt vt (.ref b :: As) σ O (none, σ')) (hO : ∀ o, O none o → o = .threw ta) (cw : CallW R s args own C index y bytes maxL ret ws rm 0 0 n) (hE : nEn D A cy X kt vt s) (hP : va_P D vwCl (X σ) T0.heap) (hS : va_S A s.heap T0.heap locs) (he : (X σ)[q0]? = some (b, .inr (ci, fs))) (hc : vwCl[ci]? = some (C, T, N))
    (hn : As.length = n) (hsize : ls.size = nL) (hstack : st0 = As.reverse ++ .ref b :: rest) (hW : (rest.map fun v => v.category).sum ≤ 8) (hdg : decode cc pc = .ok (.invokevirtual index, 3)) :
    ∃ (U' : State) (L : List Loc), Stand p l e R s m args below meth c U' (locs ++ L) 0 0 ∧ va_P D vwCl (X σ') U'.heap ∧ va_S A s.heap U'.heap (locs ++ L) ∧ Steps p.tables e below (T0.setTop (F0 m pc ls st0)) ((U'.setTop (F0 m pc ls rest)).pushFrame (.throwing ta)) := by
  obtain ⟨hx, hb, hml, hown, -⟩ := S
  obtain ⟨⟨hrc, hrs, hfr, hlo, hws, hcw, hcode, hini, hy, hlen, hl⟩, hin, hse⟩ := cw
  obtain ⟨cellB, hcB, hoB, hclB⟩ := va_recv hE.1 hP (ci := ci) (q := (C, T, N)) hc he
  obtain ⟨mk, methM, hnamed, hmethM, hstM, habM⟩ := Cond.instanceMethod_spec hin
  obtain ⟨methM', cM, hmethM', -, -, -, -, -, -, hsigM⟩ := Cond.code_spec hnamed hcode
  cases hmethM.symm.trans hmethM'
  obtain ⟨c2, r2, m2, q1, q2, q3, q4, kP, hkP, hkPi⟩ := Cond.selects_spec hse
  cases hclB.symm.trans q1
  cases (State.methodFound?_of_named hnamed hy).symm.trans q2
  cases hnamed.symm.trans q3
  have hselP : selectMethod e.platform s.vm cellB.cls mk = .method mk := by rw [Launch.admits_selectMethod X0.admits]; exact q4
  obtain ⟨vm₁, X₁, hstep₁⟩ := X0.invokevirtual hx hown hl hnamed hmethM hstM hkP hkPi hy (a := b) (cell := cellB) hcB (fun z h => by rw [h] at hoB; cases hoB) hselP hmethM habM hkP hkPi (g := F0 m pc ls st0) rfl (argsL := As) (rest := rest) (hn.trans (hlen _ hsigM)) hstack (by rw [hb]; exact hdg)
  obtain ⟨U', L, hX', hL, hp, hz1, hk1, hst⟩ := nx_core (g := F0 m pc ls rest) (mk := mk) (a9 := (Value.ref b :: As).toArray) X₁ rfl (hsize.trans hml.symm) (by rw [hb]; exact hdg) (by have := lv_room (m := m) (pc := pc) (ls := ls) (rest := rest) hW; exact this) (X₁.named hnamed) hM hO hrc hrs hfr hlo hws hcw (fun a' U hW2 => word_at hW2 (Or.inl (by first | rfl | simp [Cond.onTables, Cond.keeps, Cond.steady])) hini) ⟨rfl, hP, nEn_go hE hS _ rfl X₁.warmed⟩
  refine ⟨U', L, hX', hp, ⟨Nat.le_trans hS.1 hz1, fun q h1 h2 => ?_, fun q hq => ?_⟩, hstep₁ _ fun acts => by rw [doInvoke_state]; exact hst⟩
  · rw [hk1 q (Nat.lt_of_lt_of_le h1 hS.1) h2]
    exact hS.2.1 q h1 h2
  · rcases List.mem_append.mp hq with h | h
    · exact hS.2.2 q h
    · exact hL q h
theorem nx_callVt {O2 : Option Int32 → Outcome → Prop} (S : CallFix p m c cc nL s args Ts own) (hM : nMx l y ws rm D A cy X kt vt (.ref b :: As) σ O (none, σ')) (hO : ∀ o, O none o → o = .threw ta) (cw : CallW R s args own C index y bytes maxL ret ws rm 0 0 n) (hE : nEn D A cy X kt vt s) (hP : va_P D vwCl (X σ) H) (hS : va_S A s.heap H locs) (he : (X σ)[q0]? = some (b, .inr (ci, fs))) (hc : vwCl[ci]? = some (C, T, N))
    (hn : As.length = n) (hsize : ls.size = nL) (hstack : st0 = As.reverse ++ .ref b :: rest) (hW : (rest.map fun v => v.category).sum ≤ 8) (hdg : decode cc pc = .ok (.invokevirtual index, 3)) (hno : ∀ x ∈ c.exceptionTable.toList, covers x pc = false) (hlocks : meth.locks = false) (hO2 : O2 none (.threw ta)) (hz : (none, σ') = z) : W p l e R s m args below meth c H locs 0 0 (nQx O2 below D A X s z) (F0 m pc ls st0) := by
  subst hz
  intro T0 hT X0
  subst hT
  obtain ⟨U', L, X1, hp, hS1, hst⟩ := nx_virt X0 S hM hO cw hE hP hS he hc hn hsize hstack hW hdg
  obtain ⟨h1, h2, h3, h4, h5⟩ := X1.leaveThrown ta (g := F0 m pc ls rest) rfl rfl rfl hno hlocks
  exact ⟨_, hst.trans h1, .threw ta, h2, h3, hO2, hp, hS1.F rfl, locs ++ L, ⟨h4, h5⟩, hS1.2.2⟩
end NTHROW
