/-! THE LAW's rows: two worlds, calls of either -/
def nA1 (a : Nat → Nat) (M : Nat) : Nat → Prop := fun q => ∃ k, k < M ∧ q = a k
section NLAW
variable {p : Program} {l : Launch} {e : Env} {R : Room} {s : State} {m : MethodId} {args : Array Value} {below : List Frame} {meth : Method} {c : Code} {H : Heap} {locs : List Loc} {cells slots : Nat} {Q : State → Prop}
variable {cc : ByteArray} {pc : Nat} {ls : Array Slot} {rest st0 : List Value} {D : va_G} {A0 A1 : Nat → Prop} {X : nS → va_W} {σ σ' : nS} {kt vt : Nat → Nat} {cy : Nat → ClassId}
variable {y : MethodName} {bytes : ByteArray} {maxL nL n index q0 ci N : Nat} {ret : Option FieldType} {ws Ts : List Cond} {rm : Room} {own C : String} {b : Addr} {As fs : List Value} {T : u_T}
theorem lw_call {r : Int32} (S : CallFix p m c cc nL s args Ts own) (hM : nMi l y ws rm D A1 cy X kt vt (.ref b :: As) σ r σ') (cw : CallW R s args own C index y bytes maxL ret ws rm 0 0 n) (hE : nEn D A1 cy X kt vt s) (hP : va_P D vwCl (X σ) H) (hS : va_S A0 s.heap H locs) (h01 : ∀ q, A1 q → A0 q) (hA0 : ∀ q, q < s.heap.size → ¬ A0 q) (hcs : cells + 0 ≤ R.cells ∧ slots + 0 ≤ R.slots) (he : (X σ)[q0]? = some (b, .inr (ci, fs))) (hc : vwCl[ci]? = some (C, T, N))
    (hn : As.length = n) (hsize : ls.size = nL) (hstack : st0 = As.reverse ++ .ref b :: rest) (hW : (rest.map fun v => v.category).sum ≤ 8) (hdg : decode cc pc = .ok (.invokevirtual index, 3))
    (kk : ∀ (H1 : Heap) (locs1 : List Loc), va_P D vwCl (X σ') H1 → (∀ q : Nat, q < H.size → ¬ A1 q → H1[q]? = H[q]?) → va_S A0 s.heap H1 locs1 → W p l e R s m args below meth c H1 locs1 cells slots Q (F0 m (pc + 3) ls (.int r :: rest))) : W p l e R s m args below meth c H locs cells slots Q (F0 m pc ls st0) :=
  va_calli (va_runV (As := As) (rest := rest) S hM cw ⟨nPre_blind, va_recv hE.1 hP (ci := ci) (q := (C, T, N)) hc he, fun U hU hW2 => ⟨rfl, by rw [hU]; exact hP, nEn_go hE (show va_S A1 s.heap H [] from ⟨hS.1, fun q h _ => hS.2.1 q h (hA0 q h), fun _ h => by cases h⟩) U hU hW2⟩⟩ rfl hn hsize hstack (lv_room hW) hdg hcs) hS (fun q _ h => h01 q h) (fun q h => h01 q h) (fun x _ t H1 l1 ht _ hw hB _ hk1 hS1 => by rw [hw]; exact kk H1 l1 (by rw [← ht]; exact hB) hk1 hS1)
/-- the same for a callee with a handler table -/
theorem lw_callB {r : Int32} {hh : List (Nat × Nat × Nat × Nat)} {ws' : List Cond} (S : CallFix p m c cc nL s args Ts own) (hM : nMi l y ws rm D A1 cy X kt vt (.ref b :: As) σ r σ') (hG : GoodIn Ts (wsV own index C y ws)) (hyc : y.cls = C) (hw : ws = Cond.codeWith y bytes maxL ret hh :: ws') (hrc : rm.cells = 0) (hrs : rm.slots = 0) (hy : y.cls ≠ "java/lang/invoke/MethodHandle" ∧ y.cls ≠ "java/lang/invoke/VarHandle" ∧ (parseMethodDescriptor y.desc).map (fun d => d.parameters.length) = some n) (hR : rm.frames + 1 ≤ R.frames ∧ 8 + (maxL + 11) + rm.locals ≤ R.locals) (hE : nEn D A1 cy X kt vt s) (hP : va_P D vwCl (X σ) H) (hS : va_S A0 s.heap H locs) (h01 : ∀ q, A1 q → A0 q) (hA0 : ∀ q, q < s.heap.size → ¬ A0 q) (hcs : cells + 0 ≤ R.cells ∧ slots + 0 ≤ R.slots) (he : (X σ)[q0]? = some (b, .inr (ci, fs))) (hc : vwCl[ci]? = some (C, T, N))
    (hn : As.length = n) (hsize : ls.size = nL) (hstack : st0 = As.reverse ++ .ref b :: rest) (hW : (rest.map fun v => v.category).sum ≤ 8) (hdg : decode cc pc = .ok (.invokevirtual index, 3))
    (kk : ∀ (H1 : Heap) (locs1 : List Loc), va_P D vwCl (X σ') H1 → (∀ q : Nat, q < H.size → ¬ A1 q → H1[q]? = H[q]?) → va_S A0 s.heap H1 locs1 → W p l e R s m args below meth c H1 locs1 cells slots Q (F0 m (pc + 3) ls (.int r :: rest))) : W p l e R s m args below meth c H locs cells slots Q (F0 m pc ls st0) := by
  obtain ⟨hx, hb, hml, hown, hts⟩ := S
  have ok : ∀ w ∈ wsV own index C y ws, w.before args s = true := fun w h => hts w (hG w h).1
  have hl : (Cond.methodLink own index y).before args s = true := ok _ (by simp [wsV])
  have hin : (Cond.instanceMethod y).before args s = true := ok _ (by simp [wsV])
  have hse : (Cond.selects C y y).before args s = true := ok _ (by simp [wsV])
  have hini : (Cond.initialized y.cls).before args s = true := ok _ (by rw [hyc]; simp [wsV])
  have hGw : GoodIn Ts ws := fun w h => hG w (by unfold wsV; exact List.mem_append_right _ h)
  have hcm : Cond.codeWith y bytes maxL ret hh ∈ ws := by rw [hw]; exact List.mem_cons_self
  have hK : Back l R p e below s args y 3 8 (PreOf R 0 0 (va_Pc (.ref b :: As) (nPre D A1 cy X kt vt σ))) (PostOf (va_Qi (S := Unit) (fun x _ => x = r) (fun _ t => va_P D vwCl (X σ') t.heap) A1) 0 0 A1) :=
    va_backW (bytes := bytes) (maxL := maxL) (ret := ret) (hh := hh) hM nPre_blind hrc hrs hR.1 hR.2 (pay_in hts hGw) hcm (fun a' U hW9 => word_at hW9 (Or.inl (by first | rfl | simp [Cond.onTables, Cond.keeps, Cond.steady])) hini)
  have hrun : va_Run p l e R s m args below meth c H locs cells slots 0 0 (F0 m pc ls st0) rest (va_Qi (S := Unit) (fun x _ => x = r) (fun _ t => va_P D vwCl (X σ') t.heap) A1 (Value.ref b :: As).toArray) A1 := by
    intro T0 hT X0
    obtain ⟨cellB, hcB, hoB, hclB⟩ := va_recv hE.1 hP (ci := ci) (q := (C, T, N)) hc he
    obtain ⟨mk, methM, hnamed, hmethM, hstM, habM⟩ := Cond.instanceMethod_spec hin
    obtain ⟨mk', methM', cM, hn', hmethM', -, -, -, -, -, -, hsigM⟩ := Cond.codeWith_spec (hts _ (hGw _ hcm).1)
    cases hnamed.symm.trans hn'
    cases hmethM.symm.trans hmethM'
    obtain ⟨c2, r2, m2, q1, q2, q3, q4, kP, hkP, hkPi⟩ := Cond.selects_spec hse
    cases hclB.symm.trans q1
    cases (State.methodFound?_of_named hnamed ⟨hy.1, hy.2.1⟩).symm.trans q2
    cases hnamed.symm.trans q3
    have hselP : selectMethod e.platform s.vm cellB.cls mk = .method mk := by rw [Launch.admits_selectMethod X0.admits]; exact q4
    have hlen : As.length = methM.sig.parameters.length := by
      have h9 := hy.2.2
      rw [hsigM] at h9
      exact hn.trans (Option.some.inj h9).symm
    obtain ⟨vm₁, X₁, hstep₁⟩ := X0.invokevirtual hx hown hl hnamed hmethM hstM hkP hkPi ⟨hy.1, hy.2.1⟩ (a := b) (cell := cellB) (by rw [hT]; exact hcB) (fun z h => by rw [h] at hoB; cases hoB) hselP hmethM habM hkP hkPi (g := F0 m pc ls st0) rfl (argsL := As) (rest := rest) hlen hstack (by rw [hb]; exact hdg)
    obtain ⟨v, B, X', hpost, hsteps⟩ := hK m meth c ⟨T0.setVm vm₁, locs, cells, slots⟩ (F0 m pc ls rest) (.invokevirtual index) mk (Value.ref b :: As).toArray X₁ rfl (hsize.trans hml.symm) (by rw [hb]; exact hdg) (by have := lv_room (m := m) (pc := pc) (ls := ls) (rest := rest) hW; exact this) (X₁.named hnamed) ⟨hcs.1, hcs.2, rfl, by rw [← hT] at hP; exact hP, nEn_go hE (show va_S A1 s.heap H [] from ⟨hS.1, fun q h _ => hS.2.1 q h (hA0 q h), fun _ h => by cases h⟩) _ hT X₁.warmed⟩
    obtain ⟨U', l2, c2', s2⟩ := B
    obtain ⟨g', mk9, t, L, e1, e2, hq, h1, hL, h2, h3⟩ := hpost
    dsimp only [Pt.U, Pt.locs, Pt.cells, Pt.slots] at X' e1 e2 h1 h2 h3 hsteps
    subst h1; subst h2; subst h3
    exact ⟨v, (T0.setVm vm₁).calling g' mk9 (Value.ref b :: As).toArray, t, U', L, hT, X', hL, e1, e2, hq, fun target h => hstep₁ _ fun acts => by rw [doInvoke_state]; exact hsteps.trans h⟩
  exact va_calli hrun hS (fun q _ h => h01 q h) (fun q h => h01 q h) (fun x _ t H1 l1 ht _ hw hB _ hk1 hS1 => by rw [hw]; exact kk H1 l1 (by rw [← ht]; exact hB) hk1 hS1)
theorem lw_sld {bb L : Nat} {xs : Nat → Int32} {k : Nat} {v : Int32} (hx : p.tables.exec = Jvm.exec) (hb : c.code = cc) (hX : va_X bb L xs s s.heap) (hbl : bb < s.heap.size) (hbA : ¬ A0 bb) (hS : va_S A0 s.heap H locs) (hv : v = nI k) (hk : k < L) (hL : L < 2 ^ 31) (hdg : decode cc pc = .ok (.iaload, 1))
    (kk : W p l e R s m args below meth c H locs cells slots Q (F0 m (pc + 1) ls (.int (xs k) :: rest))) : W p l e R s m args below meth c H locs cells slots Q (F0 m pc ls (.int v :: .ref bb :: rest)) := by
  have h1 : v.toNatClampNeg = k := by rw [hv]; exact nI_clamp (by omega)
  refine va_sld hx hb hX hbl hbA hS (by rw [hv]; exact vp_in_nI hk hL) hdg ?_
  rw [h1]
  exact kk
theorem lw_keep {ws1 : va_W} {H1 : Heap} (hP : va_P D vwCl ws1 H) (hq : ∀ q : Nat, q < H.size → ¬ A1 q → H1[q]? = H[q]?) (hn : ∀ (k : Nat) (q : Nat × va_E), ws1[k]? = some q → ¬ A1 q.1) : va_P D vwCl ws1 H1 := hP.kept (fun k q h => hq q.1 (hP k q h).lt (hn k q h))
end NLAW
theorem nw_NB {cy : Nat → ClassId} {a : Nat → Nat} {σ : nS} {k : Nat} {q : Nat × va_E} (h : (NBw cy a σ)[k]? = some q) : k < 36 ∧ q.1 = a k := by
  have h1 : ((NBw cy a σ).map Prod.fst)[k]? = some q.1 := by rw [List.getElem?_map, h]; rfl
  rw [show (NBw cy a σ).map Prod.fst = (List.range 36).map a from rfl] at h1
  rw [List.getElem?_map] at h1
  by_cases hk : k < 36
  · rw [List.getElem?_range hk] at h1
    exact ⟨hk, (Option.some.inj h1).symm⟩
  · rw [List.getElem?_eq_none (by rw [List.length_range]; omega)] at h1
    cases h1
theorem nw_M {cy : Nat → ClassId} {a : Nat → Nat} {σ : nS} {k : Nat} {q : Nat × va_E} (h : (Mw cy a σ)[k]? = some q) : k < 29 ∧ q.1 = a k := by
  have h1 : ((Mw cy a σ).map Prod.fst)[k]? = some q.1 := by rw [List.getElem?_map, h]; rfl
  rw [show (Mw cy a σ).map Prod.fst = (List.range 29).map a from rfl] at h1
  rw [List.getElem?_map] at h1
  by_cases hk : k < 29
  · rw [List.getElem?_range hk] at h1
    exact ⟨hk, (Option.some.inj h1).symm⟩
  · rw [List.getElem?_eq_none (by rw [List.length_range]; omega)] at h1
    cases h1
theorem nw_NBg {cy : Nat → ClassId} {a : Nat → Nat} {σ : nS} {k : Nat} (hk : k < 36) : ∃ q, (NBw cy a σ)[k]? = some q ∧ q.1 = a k := by
  have hl : k < (NBw cy a σ).length := hk
  exact ⟨_, List.getElem?_eq_getElem hl, (nw_NB (List.getElem?_eq_getElem hl)).2⟩
theorem nw_Mg {cy : Nat → ClassId} {a : Nat → Nat} {σ : nS} {k : Nat} (hk : k < 29) : ∃ q, (Mw cy a σ)[k]? = some q ∧ q.1 = a k := by
  have hl : k < (Mw cy a σ).length := hk
  exact ⟨_, List.getElem?_eq_getElem hl, (nw_M (List.getElem?_eq_getElem hl)).2⟩
/-- from the constructor's world: the addresses are apart whatever the state -/
theorem nw_NBD {A : Nat → Prop} {cy : Nat → ClassId} {a : Nat → Nat} {σ0 : nS} (h : va_D A (NBw cy a σ0)) : ∀ σ, va_D (nA1 a 36) (NBw cy a σ) := by
  intro σ
  refine ⟨fun i j p q hp hq e => ?_, fun k q hk => ?_⟩
  · obtain ⟨hi, e1⟩ := nw_NB hp
    obtain ⟨hj, e2⟩ := nw_NB hq
    obtain ⟨p', hp', e1'⟩ := nw_NBg (cy := cy) (a := a) (σ := σ0) hi
    obtain ⟨q', hq', e2'⟩ := nw_NBg (cy := cy) (a := a) (σ := σ0) hj
    exact h.1 i j p' q' hp' hq' (by rw [e1', e2', ← e1, ← e2, e])
  · obtain ⟨hi, e1⟩ := nw_NB hk
    exact ⟨k, hi, e1⟩
theorem nw_MD {A : Nat → Prop} {cy : Nat → ClassId} {a : Nat → Nat} {σ0 : nS} (h : va_D A (Mw cy a σ0)) : ∀ σ, va_D (nA1 a 29) (Mw cy a σ) := by
  intro σ
  refine ⟨fun i j p q hp hq e => ?_, fun k q hk => ?_⟩
  · obtain ⟨hi, e1⟩ := nw_M hp
    obtain ⟨hj, e2⟩ := nw_M hq
    obtain ⟨p', hp', e1'⟩ := nw_Mg (cy := cy) (a := a) (σ := σ0) hi
    obtain ⟨q', hq', e2'⟩ := nw_Mg (cy := cy) (a := a) (σ := σ0) hj
    exact h.1 i j p' q' hp' hq' (by rw [e1', e2', ← e1, ← e2, e])
  · obtain ⟨hi, e1⟩ := nw_M hk
    exact ⟨k, hi, e1⟩
/-! THE CLAIM OUT OF ONE WALK OF THE LAW'S BODY. Your part is whole_start (and what it stands on); all else here is the same for every law, but numbers. -/
def R_law : String := "NightBookLaw"
def lw_P (b : Addr) (xs : List Int32) (args : Array Value) (s : State) : Prop := args = #[.ref b] ∧ s.IntsAt b xs ∧ xs.length ≤ 4096 ∧ (Jvm.Cond.and given_1 narrow_1).before args s = true
def lw_Q (_ : Array Value) (s : State) (o : Outcome) (t : State) : Prop := o = .returned (some (.int 1)) ∧ Framed s o t [] 1089 31741
def lw_Z (below : List Frame) (a : Array Value) (s : State) : State → Prop := fun t => ∃ o, t.status = .running ∧ Ended t below o ∧ lw_Q a s o t
/-- the law's own end, with 1 on the stack, nothing written that was there before, its room as the claim has it -/
theorem lw_ret {p : Program} {l : Launch} {e : Env} {s : State} {m : MethodId} {below : List Frame} {meth : Method} {c : Code} {b : Nat} (hx : p.tables.exec = Jvm.exec) (hb : c.code = code) (hr : meth.sig.returnType = ret) (hlocks : meth.locks = false) {pc : Nat} {H : Heap} {ls : Array Slot} (hdg : decode code pc = .ok (.ireturn, 1)) : W p l e room_1 s m #[Value.ref b] below meth c H [] 1089 31741 (lw_Z below #[Value.ref b] s) (F0 m pc ls [.int 1]) := by
  intro T hT X
  obtain ⟨fs, hret, hrun, hended, hW, hframe⟩ := X.leave (v := some (.int 1)) (hlocks := hlocks) (fun h => by rw [hr] at h; cases h)
  have hmeth' : T.vm.method? m = some meth := X.method'
  refine ⟨T.setFrames fs, ?_, .returned (some (.int 1)), hrun, hended, rfl, ⟨_, rfl⟩, hW, hframe⟩
  jvm_step X.here [X.here.top, hx, hb, hdg, hmeth', hr, ret, narrow_b1]
  (try refine ⟨rfl, ?_⟩); (try refine ⟨rfl, ?_⟩)
  first | (intro acts; rw [hret _ acts rfl rfl rfl]) | rw [hret _ _ rfl rfl rfl]
  exact Steps.refl _
/-- what holds at the law's entry: the machine, the code, the tables' words (any of lw_tbl by 'hts w (by decide +kernel)'), the script of L ints xs at the cell b, what the Statement gives of the start (any of its parts by flat_of_before) -/
def lw_At (p : Program) (s : State) (m : MethodId) (meth : Method) (c : Code) (b L : Nat) (xs : Nat → Int32) : Prop :=
  p.tables.exec = Jvm.exec ∧ c.code = code ∧ meth.sig.returnType = ret ∧ c.maxLocals = 4 ∧ s.vm.findClass R_law = some m.cls ∧ (∀ w ∈ lw_tbl, w.before #[Value.ref b] s = true) ∧ va_X b L xs s s.heap ∧ b < s.heap.size ∧ meth.locks = false ∧ (Jvm.Cond.and given_1 narrow_1).before #[Value.ref b] s = true
