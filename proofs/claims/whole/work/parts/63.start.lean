theorem nk_arr {s : State} {args : Array Value} {ty : FieldType} (hra : ∀ (U : State) (k : ClassId), U.vm.findClass ("[" ++ ty.toString) = some k → va_RA U k ty) (h : (Cond.arrayClass ty).before args s = true) : ∃ cA, ArrOfT s cA ty ∧ va_RA s cA ty := by
  obtain ⟨cA, kA, comp, h1, h2, h3⟩ := Cond.arrayClass_spec h
  exact ⟨cA, fun n z => ⟨fun k h => (by cases h), kA, h2, comp, h3⟩, hra _ _ h1⟩
theorem nk_misc {args : Array Value} {s : State} (hts : ∀ w ∈ lw_tbl, w.before args s = true) {w : Cond} (i : Nat) (h : nMisc[i]? = some w) : w.before args s = true := hts w (tb_misc w (List.mem_of_getElem? h))
theorem nk_zq {C n d : String} {A : Nat → Prop} {U : State} {H : Heap} (h : va_Zq C n d A U H) : ∃ v : Value, (v = .null ∨ ∃ q : Nat, v = .ref q) ∧ va_Z C n d v A U H := by
  rcases h with h | ⟨t, h⟩
  · exact ⟨_, Or.inl rfl, h⟩
  · exact ⟨_, Or.inr ⟨t, rfl⟩, h⟩
theorem nk_in {α β : Type} {l : List α} {f : α → β} {a : α} (h : a ∈ l) : f a ∈ l.map f := List.mem_map.mpr ⟨a, h, rfl⟩
set_option maxHeartbeats 4000000 in
set_option maxRecDepth 100000 in
/-- the environment at the start -/
theorem nk_env {args : Array Value} {s : State} {D : va_G} {cy : Nat → ClassId} (hts : ∀ w ∈ lw_tbl, w.before args s = true) (hgv : (Jvm.Cond.and given_1 narrow_1).before args s = true) (hK : va_K D vwCl (nTy cy) s) :
    ∃ kt vt : Nat → Nat, ∀ (A1 : Nat → Prop) (X : nS → va_W), (∀ q, A1 q → s.heap.size ≤ q) → (∀ σ, va_D A1 (X σ)) → nEn D A1 cy X kt vt s := by
  have hfl : ∀ w ∈ nFl, w.before args s = true := flat_of_before _ hgv
  have hA : ∀ a : Nat, a < s.heap.size → ¬ (fun q : Nat => s.heap.size ≤ q) a := fun a h => Nat.not_le.mpr h
  obtain ⟨kt, vt, hS, hev⟩ := vk_Sof (args := args) (s := s) (N := 12) (tm := nTm) (len := nLen) (byt := nByt) (A := fun q : Nat => s.heap.size ≤ q) (by decide)
    (fun i hi => hfl _ (fl_ex _ (nk_in (List.mem_range.mpr hi)))) (fun i hi => hfl _ (fl_co _ (nk_in (List.mem_range.mpr hi)))) (fun i hi => hfl _ (fl_ar _ (nk_in (List.mem_range.mpr hi)))) (fun i hi => hfl _ (fl_le _ (nk_in (List.mem_range.mpr hi))))
    (fun i hi j hj => hfl _ (fl_el _ (nk_in (f := fun q : Nat × Nat => Cond.eq (.elem (nVl q.1) (.int (Int32.ofNat q.2))) (.int ((nByt.getD q.1 []).getD q.2 0))) (nPr_in i hi j hj))))
    (fun i j hi hj hij => (nNe_in i hi j hj hij).imp (fun h => hfl _ (fl_ne _ (nk_in (f := fun q : Nat × Nat => Cond.not (Cond.eq (nTm q.1) (nTm q.2))) h))) (fun h => hfl _ (fl_ne _ (nk_in (f := fun q : Nat × Nat => Cond.not (Cond.eq (nTm q.1) (nTm q.2))) h)))) hA
  have hzc := va_Zof (A := fun q : Nat => s.heap.size ≤ q) (nk_misc hts 0 rfl) (nk_misc hts 1 rfl) (va_eqi (hfl _ (fl_st _ List.mem_cons_self))) hA
  have hzs := va_Zqof (A := fun q : Nat => s.heap.size ≤ q) (nk_misc hts 2 rfl) (nk_misc hts 3 rfl) (hfl _ (fl_st _ (List.mem_cons_of_mem _ List.mem_cons_self))) hA
  have hB : ∀ i, i < 12 → (Term.string RX11 (nIxB i)).eval args s none [] s = some (.ref (kt i)) := fun i hi => va_eqR (hfl _ (fl_eq _ (nk_in (f := fun i => Cond.eq (nTm i) (.string RX11 (nIxB i))) (List.mem_range.mpr hi)))) (hev i hi)
  have hcases : ∀ q ∈ nStr, (∃ i, i < 12 ∧ q.1 = RX4 ∧ q.2.1 = nIxA i ∧ q.2.2.2 = i) ∨ ∃ i, i < 12 ∧ q.1 = RX11 ∧ q.2.1 = nIxB i ∧ q.2.2.2 = i := by
    intro q hq
    simp only [nStr, List.mem_cons, List.not_mem_nil, or_false] at hq
    rcases hq with rfl | rfl | rfl | rfl | rfl | rfl | rfl | rfl | rfl | rfl | rfl | rfl | rfl | rfl | rfl | rfl | rfl | rfl | rfl | rfl | rfl | rfl | rfl | rfl
    · exact Or.inl ⟨0, by decide, rfl, rfl, rfl⟩
    · exact Or.inl ⟨1, by decide, rfl, rfl, rfl⟩
    · exact Or.inl ⟨2, by decide, rfl, rfl, rfl⟩
    · exact Or.inl ⟨3, by decide, rfl, rfl, rfl⟩
    · exact Or.inl ⟨4, by decide, rfl, rfl, rfl⟩
    · exact Or.inl ⟨5, by decide, rfl, rfl, rfl⟩
    · exact Or.inl ⟨6, by decide, rfl, rfl, rfl⟩
    · exact Or.inl ⟨7, by decide, rfl, rfl, rfl⟩
    · exact Or.inl ⟨8, by decide, rfl, rfl, rfl⟩
    · exact Or.inl ⟨9, by decide, rfl, rfl, rfl⟩
    · exact Or.inl ⟨10, by decide, rfl, rfl, rfl⟩
    · exact Or.inl ⟨11, by decide, rfl, rfl, rfl⟩
    · exact Or.inr ⟨0, by decide, rfl, rfl, rfl⟩
    · exact Or.inr ⟨1, by decide, rfl, rfl, rfl⟩
    · exact Or.inr ⟨2, by decide, rfl, rfl, rfl⟩
    · exact Or.inr ⟨3, by decide, rfl, rfl, rfl⟩
    · exact Or.inr ⟨4, by decide, rfl, rfl, rfl⟩
    · exact Or.inr ⟨6, by decide, rfl, rfl, rfl⟩
    · exact Or.inr ⟨5, by decide, rfl, rfl, rfl⟩
    · exact Or.inr ⟨7, by decide, rfl, rfl, rfl⟩
    · exact Or.inr ⟨8, by decide, rfl, rfl, rfl⟩
    · exact Or.inr ⟨9, by decide, rfl, rfl, rfl⟩
    · exact Or.inr ⟨10, by decide, rfl, rfl, rfl⟩
    · exact Or.inr ⟨11, by decide, rfl, rfl, rfl⟩
  refine ⟨kt, vt, fun A1 X h1 hD => ⟨hK, hD, fun q hq => va_Nw.of rfl (hts _ (tb_nest _ (nk_in hq))), hS.narrow h1, fun q hq => ?_, hzc.narrow h1, ?_⟩⟩
  · have hr := hts _ (tb_str _ (nk_in (f := fun q : nT => Cond.stringRef q.1 q.2.1 q.2.2.1) hq))
    rcases hcases q hq with ⟨i, hi, e1, e2, e3⟩ | ⟨i, hi, e1, e2, e3⟩
    · refine vk_R.of hr ?_
      rw [e1, e2, e3]
      exact hev i hi
    · refine vk_R.of hr ?_
      rw [e1, e2, e3]
      exact hB i hi
  · obtain ⟨v, hv, hz⟩ := nk_zq hzs
    exact ⟨v, hv, hz.narrow h1⟩
set_option maxHeartbeats 4000000 in
set_option maxRecDepth 100000 in
theorem law_start {p : Program} {e : Env} {s : State} {m : MethodId} {below : List Frame} {meth : Method} {c : Code} (l : Launch) {bb L : Nat} {xs : Nat → Int32} {N : Nat} {Inv : Nat → nS → nS → Prop} (hmono : ∀ n σ τ, Inv n σ τ → Inv (n + 1) σ τ) (h0 : nOp0 N Inv) (h1 : nOp1 N Inv) (h2 : nOp2 N Inv) (h3 : nOp3 N Inv) (h4 : nOp4 N Inv) (h5 : nOp5 N Inv) (h6 : nOp6 N Inv) (h7 : nOp7 N Inv) (h8 : nOp8 N Inv) (h9 : nOp9 N Inv) (h10 : nOp10 N Inv) (h11 : nOp11 N Inv) (h12 : nOp12 N Inv) (h13 : nOp13 N Inv) (h14 : nOp14 N Inv) (h15 : nOp15 N Inv) (h16 : nOp16 N Inv) (h17 : nOp17 N Inv) (h18 : nOp18 N Inv) (h19 : nOp19 N Inv) (h20 : nOp20 N Inv) (h21 : nOp21 N Inv) (h22 : nOp22 N Inv) (h23 : nOp23 N Inv) (h24 : nOp24 N Inv) (h25 : nOp25 N Inv) (h26 : nOp26 N Inv) (h27 : nOp27 N Inv) (h28 : nOp28 N Inv) (hI0 : Inv 0 nS0 nM0) (hL : L ≤ 4096) (C0 : lw_At p s m meth c bb L xs) : W p l e room_1 s m #[Value.ref bb] below meth c s.heap [] 0 0 (lw_Z below #[Value.ref bb] s) (entryFrame m ([Value.ref bb] : List Value).toArray 4) := by
  obtain ⟨hx, hb, hr, hml, hown, hts, hX, hbl, hlocks, hgv⟩ := id C0
  have hb : c.code = cL_law := hb
  have hA : ∀ q : Nat, s.heap.size ≤ q → (fun q : Nat => s.heap.size ≤ q) q := fun _ h => h
  obtain ⟨c0, i0, hKn0⟩ := u_known (C := RX0) (T := TX0) (N := 6) (n := 6) hts wsL_X0_in (nk_misc hts 19 rfl)
  obtain ⟨c1, i1, hKn1⟩ := u_known (C := RX1) (T := TX1) (N := 4) (n := 4) hts wsL_X1_in (nk_misc hts 20 rfl)
  obtain ⟨c2, i2, hKn2⟩ := u_known (C := RX2) (T := TX2) (N := 5) (n := 5) hts wsL_X2_in (nk_misc hts 21 rfl)
  obtain ⟨c3, i3, hKn3⟩ := u_known (C := RX3) (T := TX3) (N := 1) (n := 1) hts wsL_X3_in (nk_misc hts 22 rfl)
  obtain ⟨c4, i4, hKn4⟩ := u_known (C := RX4) (T := TX4) (N := 14) (n := 14) hts wsL_X4_in (nk_misc hts 23 rfl)
  obtain ⟨c5, i5, hKn5⟩ := u_known (C := RX5) (T := TX5) (N := 11) (n := 11) hts wsL_X5_in (nk_misc hts 24 rfl)
  obtain ⟨c6, i6, hKn6⟩ := u_known (C := RX6) (T := TX6) (N := 12) (n := 12) hts wsL_X6_in (nk_misc hts 25 rfl)
  obtain ⟨c7, i7, hKn7⟩ := u_known (C := RX7) (T := TX7) (N := 9) (n := 9) hts wsL_X7_in (nk_misc hts 26 rfl)
  obtain ⟨c8, i8, hKn8⟩ := u_known (C := RX8) (T := TX8) (N := 13) (n := 13) hts wsL_X8_in (nk_misc hts 27 rfl)
  obtain ⟨c9, i9, hKn9⟩ := u_known (C := RX9) (T := TX9) (N := 11) (n := 11) hts wsL_X9_in (nk_misc hts 28 rfl)
  obtain ⟨c10, i10, hKn10⟩ := u_known (C := RX10) (T := TX10) (N := 8) (n := 8) hts wsL_X10_in (nk_misc hts 29 rfl)
  obtain ⟨c11, i11, hKn11⟩ := u_known (C := RX11) (T := TX11) (N := 68) (n := 68) hts wsL_X11_in (nk_misc hts 30 rfl)
  obtain ⟨dC, dI, hKc⟩ : ∃ (dC : Nat → ClassId) (dI : Nat → Nat → Nat), ∀ (k : Nat) (q : vw_C), vwCl[k]? = some q → u_Kn s q.1 q.2.1 q.2.2 (dC k) (dI k) := by
    refine ⟨fun k => ([c0, c1, c2, c3, c4, c5, c6, c7, c8, c9, c10, c11] : List ClassId).getD k c0, fun k => ([i0, i1, i2, i3, i4, i5, i6, i7, i8, i9, i10, i11] : List (Nat → Nat)).getD k i0, ?_⟩
    intro k q hq
    match k, hq with
    | 0, hq => cases hq; exact hKn0
    | 1, hq => cases hq; exact hKn1
    | 2, hq => cases hq; exact hKn2
    | 3, hq => cases hq; exact hKn3
    | 4, hq => cases hq; exact hKn4
    | 5, hq => cases hq; exact hKn5
    | 6, hq => cases hq; exact hKn6
    | 7, hq => cases hq; exact hKn7
    | 8, hq => cases hq; exact hKn8
    | 9, hq => cases hq; exact hKn9
    | 10, hq => cases hq; exact hKn10
    | 11, hq => cases hq; exact hKn11
    | k + 12, hq => simp [vwCl] at hq
  obtain ⟨y0, hy0, hz0⟩ := nk_arr (ty := .int) (fun _ _ h => h) (nk_misc hts 7 rfl)
  obtain ⟨y1, hy1, hz1⟩ := nk_arr (ty := .long) (fun _ _ h => h) (nk_misc hts 8 rfl)
  obtain ⟨y2, hy2, hz2⟩ := nk_arr (ty := .byte) (fun _ _ h => h) (nk_misc hts 9 rfl)
  obtain ⟨y3, hy3, hz3⟩ := nk_arr (ty := .boolean) (fun _ _ h => h) (nk_misc hts 10 rfl)
  obtain ⟨cy, ecy⟩ : ∃ cy : Nat → ClassId, cy = fun k => ([y0, y1, y2, y3] : List ClassId).getD k y0 := ⟨_, rfl⟩
  have hK : va_K (dC, dI) vwCl (nTy cy) s := by
    refine ⟨hKc, fun k q h => ?_⟩
    subst ecy
    match k, h with
    | 0, h => cases h; exact ⟨hy0, hz0⟩
    | 1, h => cases h; exact ⟨hy1, hz1⟩
    | 2, h => cases h; exact ⟨hy2, hz2⟩
    | 3, h => cases h; exact ⟨hy3, hz3⟩
    | k + 4, h => simp [nTy] at h
  obtain ⟨kt, vt, henv⟩ := nk_env hts hgv hK
  have hNM : ∀ q ∈ nNestM, va_Nw (.methodLinkNest q.1 q.2.1 q.2.2.1 q.2.2.2) s := fun q hq => va_Nw.of rfl (hts _ (tb_nestM _ (nk_in (f := fun q : nQM => Cond.methodLinkNest q.1 q.2.1 q.2.2.1 q.2.2.2) hq)))
  have hfl : ∀ w ∈ nFl, w.before #[Value.ref bb] s = true := flat_of_before _ hgv
  have hA9 : ∀ a : Nat, a < s.heap.size → ¬ (fun q : Nat => s.heap.size ≤ q) a := fun a h => Nat.not_le.mpr h
  have hZT : nZT (fun q : Nat => s.heap.size ≤ q) s s.heap := ⟨nk_zq (va_Zqof (nk_misc hts 4 rfl) (nk_misc hts 6 rfl) (hfl _ (fl_st _ (List.mem_cons_of_mem _ (List.mem_cons_of_mem _ List.mem_cons_self)))) hA9), nk_zq (va_Zqof (nk_misc hts 5 rfl) (nk_misc hts 6 rfl) (hfl _ (fl_st _ (List.mem_cons_of_mem _ (List.mem_cons_of_mem _ (List.mem_cons_of_mem _ List.mem_cons_self))))) hA9)⟩
  have hS : va_S (fun q : Nat => s.heap.size ≤ q) s.heap s.heap [] := va_S.rf
  have hP : va_P (dC, dI) vwCl [] s.heap := fun k q h => by simp at h
  have hD : va_D (fun q : Nat => s.heap.size ≤ q) [] := ⟨fun i j p q h => by simp at h, fun k q h => by simp at h⟩
  have hl := lv_entry ([.ref bb]) (n := 4) (Nat.le_of_ble_eq_true rfl)
  rw [lg_entry_eq]
  generalize (lg_sl ([.ref bb]) ++ List.replicate (4 - (lg_sl ([.ref bb])).length) Slot.unset).toArray = ls at hl ⊢
  have hl : lv_has ls 4 [(0, .ref bb)] := hl
  refine va_new (ci := 8) (fs := [.null, .null, .null, .null, .null, .null, .null, .null, .null, .null, .null, .null, .int 0]) (C := RX8) (T := TX8) (N := 13) hx hb hts wsL_X8_in tyX8 tyX8_ok hown (nk_misc hts 11 rfl) (nk_misc hts 27 rfl) (nk_misc hts 13 rfl) hK hP hD hS hA rfl (by decide) (Nat.le_of_ble_eq_true rfl) (Nat.le_of_ble_eq_true rfl) dL_law_0 (fun q0 H hP hD hS => ?_)
  have hP : va_P (dC, dI) vwCl [(q0, .inr (8, [.null, .null, .null, .null, .null, .null, .null, .null, .null, .null, .null, .null, .int 0]))] H := hP
  have hD : va_D (fun q : Nat => s.heap.size ≤ q) [(q0, .inr (8, [.null, .null, .null, .null, .null, .null, .null, .null, .null, .null, .null, .null, .int 0]))] := hD
  refine W.widen (k := 1) (n := 13) (Nat.le_of_ble_eq_true rfl) (Nat.le_of_ble_eq_true rfl) ?_
  refine lv_dup hx hb dL_law_3 rfl ?_
  have hFc := va_free (wc := [(q0, .inr (8, [.null, .null, .null, .null, .null, .null, .null, .null, .null, .null, .null, .null, .int 0]))]) hD hS hA [0] rfl
  refine va_callv (va_runI (As := []) (rest := [.ref q0]) ⟨hx, hb, hml, hown, hts⟩ (c_X8_init l (dC, dI) cy q0 H.size) (cwI 0 hts gM_X8_init rfl rfl rfl (nk_misc hts 13 rfl) (nk_misc hts 15 rfl) (nk_misc hts 17 rfl) rfl (by decide +kernel) ⟨Nat.le_of_ble_eq_true rfl, Nat.le_of_ble_eq_true rfl⟩) ⟨fun a U g mk q => by obtain ⟨q0, q1, qP, qK, qD, qN⟩ := q; exact ⟨q0, q1, qP, va_K.moved (u := U) (U := U.calling g mk a) (Vm.Alike.refl U.vm) qK, qD, fun x hx => va_Nw.same rfl (u := U) (U := U.calling g mk a) rfl (qN x hx)⟩, fun U hU hW => ⟨rfl, by rw [hU], by rw [hU]; exact hP, va_K.moved hW.alike hK, hD.weaken (fun _ _ _ _ => trivial), fun q hq => va_Nw.warmM hW (hNM q hq)⟩⟩ rfl rfl hl.1 rfl (lv_room (Nat.le_of_ble_eq_true rfl)) dL_law_4 ⟨Nat.le_of_ble_eq_true rfl, Nat.le_of_ble_eq_true rfl⟩) hS (fun q _ h => hFc q h) hFc (fun a t H1 locs ht hvm hw hB hz1 hk1 hS => ?_)
  obtain ⟨hP1, hD1⟩ := hB
  rw [ht] at hP1
  have hw : a 0 = q0 := hw
  subst hw
  have hD1 : va_D (fun q : Nat => s.heap.size ≤ q) (NBw cy a nS0) := hD1.weaken (fun k q _ h => hFc q.1 h)
  refine W.widen (k := 36) (n := 5748) (Nat.le_of_ble_eq_true rfl) (Nat.le_of_ble_eq_true rfl) ?_
  refine lv_astore_n (lv' := [(1, .ref (a 0)), (0, .ref bb)]) hx hb dL_law_7 rfl hl (by decide) rfl (fun ls hl => ?_)
  clear hP hD hFc
  refine va_new (ci := 11) (fs := [.int 0, .int 0, .int 0, .int 0, .int 0, .int 0, .int 0, .int 0, .int 0, .null, .null, .null, .null, .null, .null, .null, .null, .null, .null, .int 0, .int 0, .int 0, .int 0, .int 0, .int 0, .int 0, .long 0, .null, .null, .null, .null, .int 0, .int 0, .int 0, .int 0, .int 0, .int 0, .int 0, .int 0, .int 0, .int 0, .int 0, .int 0, .null, .null, .null, .int 0, .int 0, .int 0, .int 0, .int 0, .null, .null, .null, .null, .null, .int 0, .int 0, .null, .null, .null, .int 0, .null, .null, .null, .int 0, .int 0, .int 0]) (C := RX11) (T := TX11) (N := 68) hx hb hts wsL_X11_in tyX11 tyX11_ok hown (nk_misc hts 12 rfl) (nk_misc hts 30 rfl) (nk_misc hts 14 rfl) hK hP1 hD1 hS hA rfl (by decide) (Nat.le_of_ble_eq_true rfl) (Nat.le_of_ble_eq_true rfl) dL_law_8 (fun q1 H hP hD hS => ?_)
  refine W.widen (k := 37) (n := 5816) (Nat.le_of_ble_eq_true rfl) (Nat.le_of_ble_eq_true rfl) ?_
  refine lv_dup hx hb dL_law_11 rfl ?_
  have hPc := hP.sub (ws' := [(q1, .inr (11, [.int 0, .int 0, .int 0, .int 0, .int 0, .int 0, .int 0, .int 0, .int 0, .null, .null, .null, .null, .null, .null, .null, .null, .null, .null, .int 0, .int 0, .int 0, .int 0, .int 0, .int 0, .int 0, .long 0, .null, .null, .null, .null, .int 0, .int 0, .int 0, .int 0, .int 0, .int 0, .int 0, .int 0, .int 0, .int 0, .int 0, .int 0, .null, .null, .null, .int 0, .int 0, .int 0, .int 0, .int 0, .null, .null, .null, .null, .null, .int 0, .int 0, .null, .null, .null, .int 0, .null, .null, .null, .int 0, .int 0, .int 0]))]) [36] rfl
  have hDc := hD.sub (ws' := [(q1, .inr (11, [.int 0, .int 0, .int 0, .int 0, .int 0, .int 0, .int 0, .int 0, .int 0, .null, .null, .null, .null, .null, .null, .null, .null, .null, .null, .int 0, .int 0, .int 0, .int 0, .int 0, .int 0, .int 0, .long 0, .null, .null, .null, .null, .int 0, .int 0, .int 0, .int 0, .int 0, .int 0, .int 0, .int 0, .int 0, .int 0, .int 0, .int 0, .null, .null, .null, .int 0, .int 0, .int 0, .int 0, .int 0, .null, .null, .null, .null, .null, .int 0, .int 0, .null, .null, .null, .int 0, .null, .null, .null, .int 0, .int 0, .int 0]))]) [36] (by decide) rfl
  have hFc := va_free (wc := [(q1, .inr (11, [.int 0, .int 0, .int 0, .int 0, .int 0, .int 0, .int 0, .int 0, .int 0, .null, .null, .null, .null, .null, .null, .null, .null, .null, .null, .int 0, .int 0, .int 0, .int 0, .int 0, .int 0, .int 0, .long 0, .null, .null, .null, .null, .int 0, .int 0, .int 0, .int 0, .int 0, .int 0, .int 0, .int 0, .int 0, .int 0, .int 0, .int 0, .null, .null, .null, .int 0, .int 0, .int 0, .int 0, .int 0, .null, .null, .null, .null, .null, .int 0, .int 0, .null, .null, .null, .int 0, .null, .null, .null, .int 0, .int 0, .int 0]))]) hD hS hA [36] rfl
  refine va_callv (va_runI (As := []) (rest := [.ref q1]) ⟨hx, hb, hml, hown, hts⟩ (c_X11_init l (dC, dI) cy q1 H.size) (cwI 0 hts gB_X11_init rfl rfl rfl (nk_misc hts 14 rfl) (nk_misc hts 16 rfl) (nk_misc hts 18 rfl) rfl (by decide +kernel) ⟨Nat.le_of_ble_eq_true rfl, Nat.le_of_ble_eq_true rfl⟩) ⟨fun a U g mk q => by obtain ⟨q0, q1, qP, qK, qD, qN, qZ⟩ := q; exact ⟨q0, q1, qP, va_K.moved (u := U) (U := U.calling g mk a) (Vm.Alike.refl U.vm) qK, qD, fun x hx => va_Nw.same rfl (u := U) (U := U.calling g mk a) rfl (qN x hx), nZT.moved (u := U) (U := U.calling g mk a) (Vm.Alike.refl U.vm) qZ⟩, fun U hU hW => ⟨rfl, by rw [hU], by rw [hU]; exact hPc, va_K.moved hW.alike hK, hDc.weaken (fun _ _ _ _ => trivial), fun q hq => va_Nw.warmM hW (hNM q hq), by rw [hU]; exact nZT.moved hW.alike ((hZT.kept hS.2.1).narrow hFc)⟩⟩ rfl rfl hl.1 rfl (lv_room (Nat.le_of_ble_eq_true rfl)) dL_law_12 ⟨Nat.le_of_ble_eq_true rfl, Nat.le_of_ble_eq_true rfl⟩) hS (fun q _ h => hFc q h) hFc (fun b t H1 locs ht hvm hw hB hz1 hk1 hS => ?_)
  obtain ⟨hP2, hD2⟩ := hB
  rw [ht] at hP2
  have hw : b 0 = q1 := hw
  obtain ⟨hPj, hDj⟩ := va_join (wr := NBw cy a nS0) (w1 := Mw cy b nM0) hP hD [36] [0, 1, 2, 3, 4, 5, 6, 7, 8, 9, 10, 11, 12, 13, 14, 15, 16, 17, 18, 19, 20, 21, 22, 23, 24, 25, 26, 27, 28, 29, 30, 31, 32, 33, 34, 35] rfl rfl (by decide) (by decide) hk1 hFc hP2 hD2
  subst hw
  have hPa := hPj.sub (ws' := NBw cy a nS0) [0, 1, 2, 3, 4, 5, 6, 7, 8, 9, 10, 11, 12, 13, 14, 15, 16, 17, 18, 19, 20, 21, 22, 23, 24, 25, 26, 27, 28, 29, 30, 31, 32, 33, 34, 35] rfl
  have hPb := hPj.sub (ws' := Mw cy b nM0) [36, 37, 38, 39, 40, 41, 42, 43, 44, 45, 46, 47, 48, 49, 50, 51, 52, 53, 54, 55, 56, 57, 58, 59, 60, 61, 62, 63, 64] rfl
  have hDa := hDj.sub (ws' := NBw cy a nS0) [0, 1, 2, 3, 4, 5, 6, 7, 8, 9, 10, 11, 12, 13, 14, 15, 16, 17, 18, 19, 20, 21, 22, 23, 24, 25, 26, 27, 28, 29, 30, 31, 32, 33, 34, 35] (by decide) rfl
  have hDb := hDj.sub (ws' := Mw cy b nM0) [36, 37, 38, 39, 40, 41, 42, 43, 44, 45, 46, 47, 48, 49, 50, 51, 52, 53, 54, 55, 56, 57, 58, 59, 60, 61, 62, 63, 64] (by decide) rfl
  refine W.widen (k := 65) (n := 25549) (Nat.le_of_ble_eq_true rfl) (Nat.le_of_ble_eq_true rfl) ?_
  refine lv_astore_n (lv' := [(2, .ref (b 0)), (1, .ref (a 0)), (0, .ref bb)]) hx hb dL_law_15 rfl hl (by decide) rfl (fun ls hl => ?_)
  refine lv_iconst (v := 0) hx hb dL_law_16 (by decide) ?_
  refine lv_istore_n (lv' := [(3, .int 0), (2, .ref (b 0)), (1, .ref (a 0)), (0, .ref bb)]) hx hb dL_law_17 rfl hl (by decide) rfl (fun ls hl => ?_)
  have h01 : ∀ q, nA1 a 36 q → s.heap.size ≤ q := by
    intro q hq
    obtain ⟨k, hk, rfl⟩ := hq
    obtain ⟨x, hx1, hx2⟩ := nw_NBg (cy := cy) (a := a) (σ := nS0) hk
    rw [← hx2]
    exact hDa.2 k x hx1
  have h02 : ∀ q, nA1 b 29 q → s.heap.size ≤ q := by
    intro q hq
    obtain ⟨k, hk, rfl⟩ := hq
    obtain ⟨x, hx1, hx2⟩ := nw_Mg (cy := cy) (a := b) (σ := nM0) hk
    rw [← hx2]
    exact hDb.2 k x hx1
  have hdis : ∀ q, nA1 a 36 q → ¬ nA1 b 29 q := by
    intro q h1 h2
    obtain ⟨i, hi, e1⟩ := h1
    obtain ⟨j, hj, e2⟩ := h2
    obtain ⟨x, hx1, hx2⟩ := nw_NBg (cy := cy) (a := a) (σ := nS0) hi
    obtain ⟨y, hy1, hy2⟩ := nw_Mg (cy := cy) (a := b) (σ := nM0) hj
    have g1 : (NBw cy a nS0 ++ Mw cy b nM0)[i]? = some x := by rw [List.getElem?_append_left (show i < (NBw cy a nS0).length from hi)]; exact hx1
    have g2 : (NBw cy a nS0 ++ Mw cy b nM0)[36 + j]? = some y := by rw [List.getElem?_append_right (show (NBw cy a nS0).length ≤ 36 + j from Nat.le_add_right 36 j), show 36 + j - (NBw cy a nS0).length = j from Nat.add_sub_cancel_left 36 j]; exact hy1
    have := hDj.1 i (36 + j) x y g1 g2 (by rw [hx2, hy2, ← e1, ← e2])
    omega
  exact law_loop hL C0 ⟨henv _ _ h01 (nw_NBD hDa), henv _ _ h02 (nw_MD hDb), h01, h02, hdis⟩ hmono h0 h1 h2 h3 h4 h5 h6 h7 h8 h9 h10 h11 h12 h13 h14 h15 h16 h17 h18 h19 h20 h21 h22 h23 h24 h25 h26 h27 h28 513 0 0 (by decide) (by decide) nI_0.symm nS0 nM0 _ _ ls hI0 hPa hPb hS (lv_sub hl [3, 2, 1, 0] rfl)
