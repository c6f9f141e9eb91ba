/-! THE STATE: int cells by (cell, place), long cells likewise; a pure program over it: let, index, bind -/
abbrev nS : Type := (Nat → Nat → Int32) × (Nat → Nat → Int64)
def wr (σ : nS) (c k : Nat) (v : Int32) : nS := (fun d => bif Nat.beq d c then upd (σ.1 c) k v else σ.1 d, σ.2)
def wl (σ : nS) (c k : Nat) (v : Int64) : nS := (σ.1, fun d => bif Nat.beq d c then vp_updL (σ.2 c) k v else σ.2 d)
def nLet {α R : Type} (e : α) (k : α → Option R) : Option R := k e
theorem nLet_e {α R : Type} {e y : α} {k : α → Option R} {r : R} (h : nLet e k = some r) (ey : y = e) : k y = some r := by
  subst ey; exact h
def nIx {R : Type} (i : Int32) (n : Nat) (b : Option R) : Option R := if 0 ≤ i.toInt ∧ i.toInt < (n : Int) then b else none
theorem nIx_e {R : Type} {i : Int32} {n : Nat} {b : Option R} {r : R} (h : nIx i n b = some r) : vp_in i n ∧ b = some r := by
  unfold nIx at h
  by_cases hc : 0 ≤ i.toInt ∧ i.toInt < (n : Int)
  · rw [if_pos hc] at h
    exact ⟨vp_in_iff.mpr hc, h⟩
  · rw [if_neg hc] at h
    cases h
def nNz {R : Type} (i : Int32) (b : Option R) : Option R := if i = 0 then none else b
theorem nNz_e {R : Type} {i : Int32} {b : Option R} {r : R} (h : nNz i b = some r) : ¬ i = 0 ∧ b = some r := by
  unfold nNz at h
  by_cases hc : i = 0
  · rw [if_pos hc] at h
    cases h
  · rw [if_neg hc] at h
    exact ⟨hc, h⟩
def nBd {T R : Type} (o : Option (T × nS)) (k : T → nS → Option R) : Option R := match o with
  | none => none
  | some q => k q.1 q.2
theorem nBd_e {T R : Type} {o : Option (T × nS)} {k : T → nS → Option R} {r : R} (h : nBd o k = some r) : ∃ (x : T) (σ : nS), o = some (x, σ) ∧ k x σ = some r := by
  cases o with
  | none => cases h
  | some q => exact ⟨q.1, q.2, rfl, h⟩
theorem nIf_t {R : Type} {c : Prop} {i : Decidable c} {a b : Option R} {r : R} (hc : c) (h : @ite _ c i a b = some r) : a = some r := by
  rw [if_pos hc] at h; exact h
theorem nIf_f {R : Type} {c : Prop} {i : Decidable c} {a b : Option R} {r : R} (hc : ¬ c) (h : @ite _ c i a b = some r) : b = some r := by
  rw [if_neg hc] at h; exact h
theorem nSo {R : Type} {a b : R} (h : some a = some b) : a = b := Option.some.inj h
/-! THE ENVIRONMENT of a method: tables, nest mates' links, the text constants -/
abbrev nN : Type := String × Nat × String × String × String × String
def nNw (q : nN) : Cond := .fieldLinkNest q.1 q.2.1 q.2.2.1 q.2.2.2.1 q.2.2.2.2.1 q.2.2.2.2.2
def nNest : List nN := [(RX8, 84, RX7, "facts", "I", RX8), (RX4, 150, RX7, "facts", "I", RX8), (RX8, 94, RX7, "signs", "I", RX8), (RX4, 159, RX7, "signs", "I", RX8), (RX3, 21, RX7, "people", "I", RX8), (RX8, 104, RX7, "people", "I", RX8), (RX8, 128, RX7, "books", "I", RX8), (RX4, 88, RX7, "books", "I", RX8), (RX6, 88, RX7, "goal", "I", RX8), (RX8, 111, RX7, "goal", "I", RX8), (RX8, 97, RX7, "factOfSign", "[I", RX8), (RX3, 27, RX7, "skills", "[I", RX8), (RX8, 121, RX4, "held", "I", RX8), (RX8, 131, RX4, "fault", "I", RX8), (RX8, 134, RX4, "place", "I", RX8), (RX8, 199, RX6, "clock", "I", RX8), (RX8, 266, RX6, "waited", "I", RX8), (RX2, 28, RX6, "comings", "I", RX8), (RX8, 162, RX6, "end", "I", RX8), (RX8, 183, RX5, "rows", "[I", RX8), (RX8, 241, RX5, "told", "Z", RX8), (RX8, 230, RX5, "book", "I", RX8), (RX8, 227, RX5, "plays", "I", RX8), (RX8, 206, RX5, "bad", "I", RX8), (RX8, 257, RX1, "count", "I", RX8), (RX8, 275, RX2, "size", "I", RX8), (RX8, 285, RX2, "left", "I", RX8), (RX8, 282, RX2, "added", "I", RX8), (RX11, 143, RX10, "kind", "I", RX11), (RX11, 145, RX10, "place", "I", RX11), (RX11, 368, RX9, "book", "I", RX11), (RX11, 371, RX9, "step", "I", RX11), (RX11, 375, RX9, "next", "I", RX11), (RX11, 374, RX9, "bad", "I", RX11), (RX11, 392, RX9, "lies", "I", RX11), (RX11, 361, RX9, "end", "I", RX11), (RX11, 365, RX9, "until", "I", RX11), (RX11, 414, RX9, "ticks", "I", RX11), (RX11, 401, RX9, "waits", "I", RX11), (RX11, 362, RX9, "isOn", "Z", RX11), (RX11, 381, RX9, "isWaiting", "Z", RX11)]
def nLen : List Nat := [2, 3, 4, 2, 4, 5, 5, 5, 2, 4, 4, 4]
def nByt : List (List Int32) := [[100, 111], [97, 115, 107], [119, 97, 105, 116], [103, 111], [99, 97, 108, 109], [119, 114, 111, 110, 103], [114, 105, 103, 104, 116], [116, 97, 107, 101, 115], [105, 102], [104, 97, 114, 109], [116, 104, 101, 110], [101, 108, 115, 101]]
abbrev nT : Type := String × Nat × String × Nat
def nStr : List nT := [(RX4, 101, "do", 0), (RX4, 103, "ask", 1), (RX4, 105, "wait", 2), (RX4, 107, "go", 3), (RX4, 109, "calm", 4), (RX4, 146, "wrong", 5), (RX4, 148, "right", 6), (RX4, 153, "takes", 7), (RX4, 155, "if", 8), (RX4, 157, "harm", 9), (RX4, 162, "then", 10), (RX4, 164, "else", 11), (RX11, 204, "do", 0), (RX11, 206, "ask", 1), (RX11, 208, "wait", 2), (RX11, 210, "go", 3), (RX11, 212, "calm", 4), (RX11, 222, "right", 6), (RX11, 224, "wrong", 5), (RX11, 226, "takes", 7), (RX11, 232, "if", 8), (RX11, 234, "harm", 9), (RX11, 235, "then", 10), (RX11, 240, "else", 11)]
abbrev nTy (cy : Nat → ClassId) : List (ClassId × FieldType) := [(cy 0, .int), (cy 1, .long), (cy 2, .byte), (cy 3, .boolean)]
/-- what a method may stand on: the tables, the world's cells apart, the nest's links, the text constants -/
def nEn (D : va_G) (A : Nat → Prop) (cy : Nat → ClassId) (X : nS → va_W) (kt vt : Nat → Nat) (U : State) : Prop :=
  va_K D vwCl (nTy cy) U ∧ (∀ σ, va_D A (X σ)) ∧ (∀ q ∈ nNest, va_Nw (nNw q) U) ∧ vk_S 12 nLen nByt kt vt A U U.heap ∧ (∀ q ∈ nStr, vk_R q.1 q.2.1 q.2.2.1 (kt q.2.2.2) U) ∧ va_Z "java/lang/String" "COMPACT_STRINGS" "Z" (.int 1) A U U.heap ∧ ∃ fv : Value, (fv = .null ∨ ∃ q : Nat, fv = .ref q) ∧ va_Z "jdk/internal/util/Preconditions" "SIOOBE_FORMATTER" "Ljava/util/function/BiFunction;" fv A U U.heap
theorem nEn_go {D : va_G} {A : Nat → Prop} {cy : Nat → ClassId} {X : nS → va_W} {kt vt : Nat → Nat} {s : State} {H : Heap} {locs : List Loc} (hE : nEn D A cy X kt vt s) (hS : va_S A s.heap H locs) : ∀ U : State, U.heap = H → s.WarmedH U.vm → nEn D A cy X kt vt U := by
  intro U hU hW
  obtain ⟨h1, h2, h3, h4, h5, h6, fv, h7, h8⟩ := hE
  refine ⟨va_K.moved hW.alike h1, h2, fun q hq => va_Nw.warmF hW (h3 q hq), ?_, fun q hq => vk_R.warm hW (h5 q hq), ?_, fv, h7, ?_⟩
  · rw [hU]
    exact vk_S.moved hW.alike (h4.kept hS.2.1)
  · rw [hU]
    exact va_Z.moved hW.alike (h6.kept hS.2.1)
  · rw [hU]
    exact va_Z.moved hW.alike (h8.kept hS.2.1)
/-- a method's start -/
def nPre (D : va_G) (A : Nat → Prop) (cy : Nat → ClassId) (X : nS → va_W) (kt vt : Nat → Nat) (σ : nS) (U : State) : Prop := va_P D vwCl (X σ) U.heap ∧ nEn D A cy X kt vt U
theorem nPre_blind {D : va_G} {A : Nat → Prop} {cy : Nat → ClassId} {X : nS → va_W} {kt vt : Nat → Nat} {σ : nS} {av : List Value} : FrameBlind (va_Pc av (nPre D A cy X kt vt σ)) := by
  intro a U g mk q
  obtain ⟨q0, qP, h1, h2, h3, h4, h5, h6, fv, h7, h8⟩ := q
  exact ⟨q0, qP, va_K.moved (u := U) (U := U.calling g mk a) (Vm.Alike.refl U.vm) h1, h2, fun q hq => va_Nw.same rfl (u := U) (U := U.calling g mk a) rfl (h3 q hq), vk_S.moved (u := U) (U := U.calling g mk a) (Vm.Alike.refl U.vm) h4, fun q hq => vk_R.same (u := U) (U := U.calling g mk a) rfl (h5 q hq), va_Z.moved (u := U) (U := U.calling g mk a) (Vm.Alike.refl U.vm) h6, fv, h7, va_Z.moved (u := U) (U := U.calling g mk a) (Vm.Alike.refl U.vm) h8⟩
/-- the contracts: from σ a method answers r (or nothing) and leaves σ' -/
def nMi (l : Launch) (y : MethodName) (ws : List Cond) (rm : Room) (D : va_G) (A : Nat → Prop) (cy : Nat → ClassId) (X : nS → va_W) (kt vt : Nat → Nat) (av : List Value) (σ : nS) (r : Int32) (σ' : nS) : Prop :=
  Met l y ws rm (va_Pc av (nPre D A cy X kt vt σ)) (va_Qi (S := Unit) (fun x _ => x = r) (fun _ t => va_P D vwCl (X σ') t.heap) A) 0 0 A
def nMl (l : Launch) (y : MethodName) (ws : List Cond) (rm : Room) (D : va_G) (A : Nat → Prop) (cy : Nat → ClassId) (X : nS → va_W) (kt vt : Nat → Nat) (av : List Value) (σ : nS) (r : Int64) (σ' : nS) : Prop :=
  Met l y ws rm (va_Pc av (nPre D A cy X kt vt σ)) (va_Ql (S := Unit) (fun x _ => x = r) (fun _ t => va_P D vwCl (X σ') t.heap) A) 0 0 A
def nMv (l : Launch) (y : MethodName) (ws : List Cond) (rm : Room) (D : va_G) (A : Nat → Prop) (cy : Nat → ClassId) (X : nS → va_W) (kt vt : Nat → Nat) (av : List Value) (σ : nS) (σ' : nS) : Prop :=
  Met l y ws rm (va_Pc av (nPre D A cy X kt vt σ)) (va_Qv (S := Unit) (fun _ => True) (fun _ t => va_P D vwCl (X σ') t.heap) A) 0 0 A
section NROW
variable {p : Program} {l : Launch} {e : Env} {R : Room} {s : State} {m : MethodId} {args : Array Value} {below : List Frame} {meth : Method} {c : Code} {H : Heap} {locs : List Loc} {Q : State → Prop}
variable {cc : ByteArray} {pc : Nat} {ls : Array Slot} {rest st0 : List Value} {D : va_G} {A : Nat → Prop} {ad : Nat} {X : nS → va_W} {σ : nS} {kt vt : Nat → Nat} {cy : Nat → ClassId}
theorem nb_get (hx : p.tables.exec = Jvm.exec) (hb : c.code = cc) {own C : String} {T : u_T} {N ci index : Nat} {Ts : List Cond} (hts : ∀ w ∈ Ts, w.before args s = true) (hin : ∀ w ∈ u_ws C T N, w ∈ Ts) (hown : s.vm.findClass own = some m.cls) (hE : nEn D A cy X kt vt s) (hP : va_P D vwCl (X σ) H) (q0 : Nat) {fs : List Value} (he : (X σ)[q0]? = some (ad, .inr (ci, fs))) (hc : vwCl[ci]? = some (C, T, N)) (k : Nat) (hk : k < N) (hlink : Cond.fieldLink own index C (T k).2.1 (T k).2.2.1 ∈ Ts) (hT : (T k).1 = C) {v : Value} (hv : fs[k]? = some v) (hdg : decode cc pc = .ok (.getfield index, 3))
    (kk : W p l e R s m args below meth c H locs 0 0 Q (F0 m (pc + 3) ls (v :: rest))) : W p l e R s m args below meth c H locs 0 0 Q (F0 m pc ls (.ref ad :: rest)) :=
  va_get hx hb hts hin hown hE.1 hP q0 he hc k hk (hts _ hlink) (fun _ h => by rw [hT] at h; exact h) hv hdg kk
theorem nb_getN (hx : p.tables.exec = Jvm.exec) (hb : c.code = cc) {own C host : String} {T : u_T} {N ci index : Nat} {Ts : List Cond} (hts : ∀ w ∈ Ts, w.before args s = true) (hin : ∀ w ∈ u_ws C T N, w ∈ Ts) (hown : s.vm.findClass own = some m.cls) (hE : nEn D A cy X kt vt s) (hP : va_P D vwCl (X σ) H) (q0 : Nat) {fs : List Value} (he : (X σ)[q0]? = some (ad, .inr (ci, fs))) (hc : vwCl[ci]? = some (C, T, N)) (k : Nat) (hk : k < N) (hlink : (own, index, C, (T k).2.1, (T k).2.2.1, host) ∈ nNest) (hT : (T k).1 = C) {v : Value} (hv : fs[k]? = some v) (hdg : decode cc pc = .ok (.getfield index, 3))
    (kk : W p l e R s m args below meth c H locs 0 0 Q (F0 m (pc + 3) ls (v :: rest))) : W p l e R s m args below meth c H locs 0 0 Q (F0 m pc ls (.ref ad :: rest)) :=
  va_getN hx hb hts hin hown hE.1 hP q0 he hc k hk (va_Nw.use rfl (hE.2.2.1 _ hlink)) (fun _ h => by rw [hT] at h; exact h) hv hdg kk
theorem nb_put (hx : p.tables.exec = Jvm.exec) (hb : c.code = cc) {own C : String} {T : u_T} {N ci index : Nat} {Ts : List Cond} (hts : ∀ w ∈ Ts, w.before args s = true) (hin : ∀ w ∈ u_ws C T N, w ∈ Ts) (ty0 : Nat → FieldType) (hty : ∀ k, k < N → parseFieldDescriptor (T k).2.2.1 = some (ty0 k)) (hnm : ∀ a, a < N → ∀ b, b < N → a ≠ b → (T a).2.1 ≠ (T b).2.1) (hown : s.vm.findClass own = some m.cls) (hE : nEn D A cy X kt vt s) (hP : va_P D vwCl (X σ) H) (hS : va_S A s.heap H locs) (q0 : Nat) {fs : List Value} (he : (X σ)[q0]? = some (ad, .inr (ci, fs))) (hc : vwCl[ci]? = some (C, T, N)) (k : Nat) (hk : k < N) (hlink : Cond.fieldLink own index C (T k).2.1 (T k).2.2.1 ∈ Ts) (hT : (T k).1 = C) (hfin : (T k).2.2.2 = false) {v : Int32} (hn : narrow (ty0 k) (.int v) = .int v) (hfit : fits (ty0 k) (.int v) = true) (hl : k < fs.length) (hdg : decode cc pc = .ok (.putfield index, 3))
    (hset : (X σ).set q0 (ad, .inr (ci, fs.set k (.int v))) = X (wr σ q0 k v))
    (kk : ∀ (σ1 : nS), σ1 = wr σ q0 k v → ∀ (H1 : Heap) (locs1 : List Loc), va_P D vwCl (X σ1) H1 → va_S A s.heap H1 locs1 → W p l e R s m args below meth c H1 locs1 0 0 Q (F0 m (pc + 3) ls rest)) : W p l e R s m args below meth c H locs 0 0 Q (F0 m pc ls (.int v :: .ref ad :: rest)) :=
  va_put hx hb hts hin ty0 hty hnm hown hE.1 hP (hE.2.1 σ) hS q0 he hc k hk (hts _ hlink) (fun _ h => by rw [hT] at h; exact h) hfin (hty k hk) hn hfit hl hdg (fun H1 l1 h1 h2 h3 => kk _ rfl H1 l1 (by rw [← hset]; exact h1) h3)
theorem nb_putN (hx : p.tables.exec = Jvm.exec) (hb : c.code = cc) {own C host : String} {T : u_T} {N ci index : Nat} {Ts : List Cond} (hts : ∀ w ∈ Ts, w.before args s = true) (hin : ∀ w ∈ u_ws C T N, w ∈ Ts) (ty0 : Nat → FieldType) (hty : ∀ k, k < N → parseFieldDescriptor (T k).2.2.1 = some (ty0 k)) (hnm : ∀ a, a < N → ∀ b, b < N → a ≠ b → (T a).2.1 ≠ (T b).2.1) (hown : s.vm.findClass own = some m.cls) (hE : nEn D A cy X kt vt s) (hP : va_P D vwCl (X σ) H) (hS : va_S A s.heap H locs) (q0 : Nat) {fs : List Value} (he : (X σ)[q0]? = some (ad, .inr (ci, fs))) (hc : vwCl[ci]? = some (C, T, N)) (k : Nat) (hk : k < N) (hlink : (own, index, C, (T k).2.1, (T k).2.2.1, host) ∈ nNest) (hT : (T k).1 = C) (hfin : (T k).2.2.2 = false) {v : Int32} (hn : narrow (ty0 k) (.int v) = .int v) (hfit : fits (ty0 k) (.int v) = true) (hl : k < fs.length) (hdg : decode cc pc = .ok (.putfield index, 3))
    (hset : (X σ).set q0 (ad, .inr (ci, fs.set k (.int v))) = X (wr σ q0 k v))
    (kk : ∀ (σ1 : nS), σ1 = wr σ q0 k v → ∀ (H1 : Heap) (locs1 : List Loc), va_P D vwCl (X σ1) H1 → va_S A s.heap H1 locs1 → W p l e R s m args below meth c H1 locs1 0 0 Q (F0 m (pc + 3) ls rest)) : W p l e R s m args below meth c H locs 0 0 Q (F0 m pc ls (.int v :: .ref ad :: rest)) :=
  va_putN hx hb hts hin ty0 hty hnm hown hE.1 hP (hE.2.1 σ) hS q0 he hc k hk (va_Nw.use rfl (hE.2.2.1 _ hlink)) (fun _ h => by rw [hT] at h; exact h) hfin (hty k hk) hn hfit hl hdg (fun H1 l1 h1 h2 h3 => kk _ rfl H1 l1 (by rw [← hset]; exact h1) h3)
theorem nb_putL (hx : p.tables.exec = Jvm.exec) (hb : c.code = cc) {own C : String} {T : u_T} {N ci index : Nat} {Ts : List Cond} (hts : ∀ w ∈ Ts, w.before args s = true) (hin : ∀ w ∈ u_ws C T N, w ∈ Ts) (ty0 : Nat → FieldType) (hty : ∀ k, k < N → parseFieldDescriptor (T k).2.2.1 = some (ty0 k)) (hnm : ∀ a, a < N → ∀ b, b < N → a ≠ b → (T a).2.1 ≠ (T b).2.1) (hown : s.vm.findClass own = some m.cls) (hE : nEn D A cy X kt vt s) (hP : va_P D vwCl (X σ) H) (hS : va_S A s.heap H locs) (q0 : Nat) {fs : List Value} (he : (X σ)[q0]? = some (ad, .inr (ci, fs))) (hc : vwCl[ci]? = some (C, T, N)) (k : Nat) (hk : k < N) (hlink : Cond.fieldLink own index C (T k).2.1 (T k).2.2.1 ∈ Ts) (hT : (T k).1 = C) (hfin : (T k).2.2.2 = false) {v : Int64} (hn : narrow (ty0 k) (.long v) = .long v) (hfit : fits (ty0 k) (.long v) = true) (hl : k < fs.length) (hdg : decode cc pc = .ok (.putfield index, 3))
    (hset : (X σ).set q0 (ad, .inr (ci, fs.set k (.long v))) = X (wl σ q0 k v))
    (kk : ∀ (σ1 : nS), σ1 = wl σ q0 k v → ∀ (H1 : Heap) (locs1 : List Loc), va_P D vwCl (X σ1) H1 → va_S A s.heap H1 locs1 → W p l e R s m args below meth c H1 locs1 0 0 Q (F0 m (pc + 3) ls rest)) : W p l e R s m args below meth c H locs 0 0 Q (F0 m pc ls (.long v :: .ref ad :: rest)) :=
  va_put hx hb hts hin ty0 hty hnm hown hE.1 hP (hE.2.1 σ) hS q0 he hc k hk (hts _ hlink) (fun _ h => by rw [hT] at h; exact h) hfin (hty k hk) hn hfit hl hdg (fun H1 l1 h1 h2 h3 => kk _ rfl H1 l1 (by rw [← hset]; exact h1) h3)
theorem nb_iald (hx : p.tables.exec = Jvm.exec) (hb : c.code = cc) (hE : nEn D A cy X kt vt s) (hP : va_P D vwCl (X σ) H) (q0 : Nat) {n : Nat} (ha : (X σ)[q0]? = some (ad, .inl (cy 0, n, .inl (σ.1 q0)))) {i : Int32} (hin : vp_in i n) (hdg : decode cc pc = .ok (.iaload, 1))
    (kk : W p l e R s m args below meth c H locs 0 0 Q (F0 m (pc + 1) ls (.int (σ.1 q0 i.toNatClampNeg) :: rest))) : W p l e R s m args below meth c H locs 0 0 Q (F0 m pc ls (.int i :: .ref ad :: rest)) :=
  va_iald hx hb hE.1 hP q0 0 ha rfl hin hdg kk
theorem nb_bald (hx : p.tables.exec = Jvm.exec) (hb : c.code = cc) (hE : nEn D A cy X kt vt s) (hP : va_P D vwCl (X σ) H) (q0 : Nat) {n : Nat} (ha : (X σ)[q0]? = some (ad, .inl (cy 2, n, .inl (σ.1 q0)))) {i : Int32} (hin : vp_in i n) (hdg : decode cc pc = .ok (.baload, 1))
    (kk : W p l e R s m args below meth c H locs 0 0 Q (F0 m (pc + 1) ls (.int (σ.1 q0 i.toNatClampNeg) :: rest))) : W p l e R s m args below meth c H locs 0 0 Q (F0 m pc ls (.int i :: .ref ad :: rest)) :=
  va_bald hx hb hE.1 hP q0 2 ha rfl hin hdg kk
theorem nb_zald (hx : p.tables.exec = Jvm.exec) (hb : c.code = cc) (hE : nEn D A cy X kt vt s) (hP : va_P D vwCl (X σ) H) (q0 : Nat) {n : Nat} (ha : (X σ)[q0]? = some (ad, .inl (cy 3, n, .inl (σ.1 q0)))) {i : Int32} (hin : vp_in i n) (hdg : decode cc pc = .ok (.baload, 1))
    (kk : W p l e R s m args below meth c H locs 0 0 Q (F0 m (pc + 1) ls (.int (σ.1 q0 i.toNatClampNeg) :: rest))) : W p l e R s m args below meth c H locs 0 0 Q (F0 m pc ls (.int i :: .ref ad :: rest)) :=
  va_zald hx hb hE.1 hP q0 3 ha rfl hin hdg kk
theorem nb_lald (hx : p.tables.exec = Jvm.exec) (hb : c.code = cc) (hE : nEn D A cy X kt vt s) (hP : va_P D vwCl (X σ) H) (q0 : Nat) {n : Nat} (ha : (X σ)[q0]? = some (ad, .inl (cy 1, n, .inr (.inl (σ.2 q0))))) {i : Int32} (hin : vp_in i n) (hdg : decode cc pc = .ok (.laload, 1))
    (kk : W p l e R s m args below meth c H locs 0 0 Q (F0 m (pc + 1) ls (.long (σ.2 q0 i.toNatClampNeg) :: rest))) : W p l e R s m args below meth c H locs 0 0 Q (F0 m pc ls (.int i :: .ref ad :: rest)) :=
  va_lald hx hb hE.1 hP q0 1 ha rfl hin hdg kk
theorem nb_iast (hx : p.tables.exec = Jvm.exec) (hb : c.code = cc) (hE : nEn D A cy X kt vt s) (hP : va_P D vwCl (X σ) H) (hS : va_S A s.heap H locs) (q0 : Nat) {n : Nat} (ha : (X σ)[q0]? = some (ad, .inl (cy 0, n, .inl (σ.1 q0)))) {i x : Int32} (hin : vp_in i n) (hdg : decode cc pc = .ok (.iastore, 1))
    (hset : (X σ).set q0 (ad, .inl (cy 0, n, .inl (upd (σ.1 q0) i.toNatClampNeg x))) = X (wr σ q0 i.toNatClampNeg x))
    (kk : ∀ (σ1 : nS), σ1 = wr σ q0 i.toNatClampNeg x → ∀ (H1 : Heap) (locs1 : List Loc), va_P D vwCl (X σ1) H1 → va_S A s.heap H1 locs1 → W p l e R s m args below meth c H1 locs1 0 0 Q (F0 m (pc + 1) ls rest)) : W p l e R s m args below meth c H locs 0 0 Q (F0 m pc ls (.int x :: .int i :: .ref ad :: rest)) :=
  va_iast hx hb hE.1 hP (hE.2.1 σ) hS q0 0 ha rfl hin hdg (fun H1 l1 h1 h2 h3 => kk _ rfl H1 l1 (by rw [← hset]; exact h1) h3)
theorem nb_last (hx : p.tables.exec = Jvm.exec) (hb : c.code = cc) (hE : nEn D A cy X kt vt s) (hP : va_P D vwCl (X σ) H) (hS : va_S A s.heap H locs) (q0 : Nat) {n : Nat} (ha : (X σ)[q0]? = some (ad, .inl (cy 1, n, .inr (.inl (σ.2 q0))))) {i : Int32} {x : Int64} (hin : vp_in i n) (hdg : decode cc pc = .ok (.lastore, 1))
    (hset : (X σ).set q0 (ad, .inl (cy 1, n, .inr (.inl (vp_updL (σ.2 q0) i.toNatClampNeg x)))) = X (wl σ q0 i.toNatClampNeg x))
    (kk : ∀ (σ1 : nS), σ1 = wl σ q0 i.toNatClampNeg x → ∀ (H1 : Heap) (locs1 : List Loc), va_P D vwCl (X σ1) H1 → va_S A s.heap H1 locs1 → W p l e R s m args below meth c H1 locs1 0 0 Q (F0 m (pc + 1) ls rest)) : W p l e R s m args below meth c H locs 0 0 Q (F0 m pc ls (.long x :: .int i :: .ref ad :: rest)) :=
  va_last hx hb hE.1 hP (hE.2.1 σ) hS q0 1 ha rfl hin hdg (fun H1 l1 h1 h2 h3 => kk _ rfl H1 l1 (by rw [← hset]; exact h1) h3)
theorem nb_alen (hx : p.tables.exec = Jvm.exec) (hb : c.code = cc) (hE : nEn D A cy X kt vt s) (hP : va_P D vwCl (X σ) H) (q0 t0 : Nat) {cA : ClassId} {x : vp_A} (ha : (X σ)[q0]? = some (ad, .inl (cA, x))) {ty : FieldType} (ht : (nTy cy)[t0]? = some (cA, ty)) (hdg : decode cc pc = .ok (.arraylength, 1))
    (kk : W p l e R s m args below meth c H locs 0 0 Q (F0 m (pc + 1) ls (.int (Int32.ofNat x.1) :: rest))) : W p l e R s m args below meth c H locs 0 0 Q (F0 m pc ls (.ref ad :: rest)) :=
  va_alen hx hb hE.1 hP q0 t0 ha ht rfl hdg kk
variable {y : MethodName} {bytes : ByteArray} {maxL nL n index q0 ci N : Nat} {ret : Option FieldType} {ws Ts : List Cond} {rm : Room} {own C : String} {b : Addr} {As fs : List Value} {T : u_T} {σ' : nS}
theorem nb_callVi {r : Int32} (S : CallFix p m c cc nL s args Ts own) (hM : nMi l y ws rm D A cy X kt vt (.ref b :: As) σ r σ') (cw : CallW R s args own C index y bytes maxL ret ws rm 0 0 n) (hE : nEn D A cy X kt vt s) (hP : va_P D vwCl (X σ) H) (hS : va_S A s.heap H locs) (he : (X σ)[q0]? = some (b, .inr (ci, fs))) (hc : vwCl[ci]? = some (C, T, N))
    (hn : As.length = n) (hsize : ls.size = nL) (hstack : st0 = As.reverse ++ .ref b :: rest) (hW : (rest.map fun v => v.category).sum ≤ 8) (hdg : decode cc pc = .ok (.invokevirtual index, 3))
    (kk : ∀ (H1 : Heap) (locs1 : List Loc), va_P D vwCl (X σ') H1 → va_S A s.heap H1 locs1 → W p l e R s m args below meth c H1 locs1 0 0 Q (F0 m (pc + 3) ls (.int r :: rest))) : W p l e R s m args below meth c H locs 0 0 Q (F0 m pc ls st0) :=
  va_calli (va_runV (As := As) (rest := rest) S hM cw ⟨nPre_blind, va_recv hE.1 hP (ci := ci) (q := (C, T, N)) hc he, fun U hU hW2 => ⟨rfl, by rw [hU]; exact hP, nEn_go hE hS U hU hW2⟩⟩ rfl hn hsize hstack (lv_room hW) hdg ⟨Nat.zero_le _, Nat.zero_le _⟩) hS (fun _ _ h => h) (fun _ h => h) (fun x _ t H1 l1 ht _ hw hB _ _ hS1 => by rw [hw]; exact kk H1 l1 (by rw [← ht]; exact hB) hS1)
theorem nb_callVv (S : CallFix p m c cc nL s args Ts own) (hM : nMv l y ws rm D A cy X kt vt (.ref b :: As) σ σ') (cw : CallW R s args own C index y bytes maxL ret ws rm 0 0 n) (hE : nEn D A cy X kt vt s) (hP : va_P D vwCl (X σ) H) (hS : va_S A s.heap H locs) (he : (X σ)[q0]? = some (b, .inr (ci, fs))) (hc : vwCl[ci]? = some (C, T, N))
    (hn : As.length = n) (hsize : ls.size = nL) (hstack : st0 = As.reverse ++ .ref b :: rest) (hW : (rest.map fun v => v.category).sum ≤ 8) (hdg : decode cc pc = .ok (.invokevirtual index, 3))
    (kk : ∀ (H1 : Heap) (locs1 : List Loc), va_P D vwCl (X σ') H1 → va_S A s.heap H1 locs1 → W p l e R s m args below meth c H1 locs1 0 0 Q (F0 m (pc + 3) ls rest)) : W p l e R s m args below meth c H locs 0 0 Q (F0 m pc ls st0) :=
  va_callv (va_runV (As := As) (rest := rest) S hM cw ⟨nPre_blind, va_recv hE.1 hP (ci := ci) (q := (C, T, N)) hc he, fun U hU hW2 => ⟨rfl, by rw [hU]; exact hP, nEn_go hE hS U hU hW2⟩⟩ rfl hn hsize hstack (lv_room hW) hdg ⟨Nat.zero_le _, Nat.zero_le _⟩) hS (fun _ _ h => h) (fun _ h => h) (fun _ t H1 l1 ht _ _ hB _ _ hS1 => kk H1 l1 (by rw [← ht]; exact hB) hS1)
theorem nb_callTi {r : Int32} {j : Nat} (S : CallFix p m c cc nL s args Ts own) (hM : nMi l y ws rm D A cy X kt vt (.ref (kt j) :: As) σ r σ') (cw : CallW R s args own RJ0 index y bytes maxL ret ws rm 0 0 n) (hE : nEn D A cy X kt vt s) (hP : va_P D vwCl (X σ) H) (hS : va_S A s.heap H locs) (hj : j < 12)
    (hn : As.length = n) (hsize : ls.size = nL) (hstack : st0 = As.reverse ++ .ref (kt j) :: rest) (hW : (rest.map fun v => v.category).sum ≤ 8) (hdg : decode cc pc = .ok (.invokevirtual index, 3))
    (kk : ∀ (H1 : Heap) (locs1 : List Loc), va_P D vwCl (X σ') H1 → va_S A s.heap H1 locs1 → W p l e R s m args below meth c H1 locs1 0 0 Q (F0 m (pc + 3) ls (.int r :: rest))) : W p l e R s m args below meth c H locs 0 0 Q (F0 m pc ls st0) :=
  va_calli (va_runV (As := As) (rest := rest) S hM cw ⟨nPre_blind, vk_recv hE.2.2.2.1 hj hS, fun U hU hW2 => ⟨rfl, by rw [hU]; exact hP, nEn_go hE hS U hU hW2⟩⟩ rfl hn hsize hstack (lv_room hW) hdg ⟨Nat.zero_le _, Nat.zero_le _⟩) hS (fun _ _ h => h) (fun _ h => h) (fun x _ t H1 l1 ht _ hw hB _ _ hS1 => by rw [hw]; exact kk H1 l1 (by rw [← ht]; exact hB) hS1)
theorem nb_callSi {r : Int32} (S : CallFix p m c cc nL s args Ts own) (hM : nMi l y ws rm D A cy X kt vt As σ r σ') (cw : CallB R s args own index y bytes maxL ret ws rm 0 0 n ∧ (Cond.static y).before args s = true) (hE : nEn D A cy X kt vt s) (hP : va_P D vwCl (X σ) H) (hS : va_S A s.heap H locs)
    (hn : As.length = n) (hsize : ls.size = nL) (hstack : st0 = As.reverse ++ rest) (hW : (rest.map fun v => v.category).sum ≤ 8) (hdg : decode cc pc = .ok (.invokestatic index, 3))
    (kk : ∀ (H1 : Heap) (locs1 : List Loc), va_P D vwCl (X σ') H1 → va_S A s.heap H1 locs1 → W p l e R s m args below meth c H1 locs1 0 0 Q (F0 m (pc + 3) ls (.int r :: rest))) : W p l e R s m args below meth c H locs 0 0 Q (F0 m pc ls st0) :=
  va_calli (va_runS (As := As) (rest := rest) S hM cw ⟨nPre_blind, fun U hU hW2 => ⟨rfl, by rw [hU]; exact hP, nEn_go hE hS U hU hW2⟩⟩ rfl hn hsize hstack (lv_room hW) hdg ⟨Nat.zero_le _, Nat.zero_le _⟩) hS (fun _ _ h => h) (fun _ h => h) (fun x _ t H1 l1 ht _ hw hB _ _ hS1 => by rw [hw]; exact kk H1 l1 (by rw [← ht]; exact hB) hS1)
theorem nb_callSl {r : Int64} (S : CallFix p m c cc nL s args Ts own) (hM : nMl l y ws rm D A cy X kt vt As σ r σ') (cw : CallB R s args own index y bytes maxL ret ws rm 0 0 n ∧ (Cond.static y).before args s = true) (hE : nEn D A cy X kt vt s) (hP : va_P D vwCl (X σ) H) (hS : va_S A s.heap H locs)
    (hn : As.length = n) (hsize : ls.size = nL) (hstack : st0 = As.reverse ++ rest) (hW : (rest.map fun v => v.category).sum ≤ 8) (hdg : decode cc pc = .ok (.invokestatic index, 3))
    (kk : ∀ (H1 : Heap) (locs1 : List Loc), va_P D vwCl (X σ') H1 → va_S A s.heap H1 locs1 → W p l e R s m args below meth c H1 locs1 0 0 Q (F0 m (pc + 3) ls (.long r :: rest))) : W p l e R s m args below meth c H locs 0 0 Q (F0 m pc ls st0) :=
  va_calll (va_runS (As := As) (rest := rest) S hM cw ⟨nPre_blind, fun U hU hW2 => ⟨rfl, by rw [hU]; exact hP, nEn_go hE hS U hU hW2⟩⟩ rfl hn hsize hstack (lv_room hW) hdg ⟨Nat.zero_le _, Nat.zero_le _⟩) hS (fun _ _ h => h) (fun _ h => h) (fun x _ t H1 l1 ht _ hw hB _ _ hS1 => by rw [hw]; exact kk H1 l1 (by rw [← ht]; exact hB) hS1)
theorem nb_callSv (S : CallFix p m c cc nL s args Ts own) (hM : nMv l y ws rm D A cy X kt vt As σ σ') (cw : CallB R s args own index y bytes maxL ret ws rm 0 0 n ∧ (Cond.static y).before args s = true) (hE : nEn D A cy X kt vt s) (hP : va_P D vwCl (X σ) H) (hS : va_S A s.heap H locs)
    (hn : As.length = n) (hsize : ls.size = nL) (hstack : st0 = As.reverse ++ rest) (hW : (rest.map fun v => v.category).sum ≤ 8) (hdg : decode cc pc = .ok (.invokestatic index, 3))
    (kk : ∀ (H1 : Heap) (locs1 : List Loc), va_P D vwCl (X σ') H1 → va_S A s.heap H1 locs1 → W p l e R s m args below meth c H1 locs1 0 0 Q (F0 m (pc + 3) ls rest)) : W p l e R s m args below meth c H locs 0 0 Q (F0 m pc ls st0) :=
  va_callv (va_runS (As := As) (rest := rest) S hM cw ⟨nPre_blind, fun U hU hW2 => ⟨rfl, by rw [hU]; exact hP, nEn_go hE hS U hU hW2⟩⟩ rfl hn hsize hstack (lv_room hW) hdg ⟨Nat.zero_le _, Nat.zero_le _⟩) hS (fun _ _ h => h) (fun _ h => h) (fun _ t H1 l1 ht _ _ hB _ _ hS1 => kk H1 l1 (by rw [← ht]; exact hB) hS1)
/-- a method's own end -/
abbrev nQi (below : List Frame) (D : va_G) (A : Nat → Prop) (X : nS → va_W) (args : Array Value) (s : State) (q : Int32 × nS) : State → Prop := MQ below (va_Qi (S := Unit) (fun x _ => x = q.1) (fun _ t => va_P D vwCl (X q.2) t.heap) A) args s 0 0 A
abbrev nQl (below : List Frame) (D : va_G) (A : Nat → Prop) (X : nS → va_W) (args : Array Value) (s : State) (q : Int64 × nS) : State → Prop := MQ below (va_Ql (S := Unit) (fun x _ => x = q.1) (fun _ t => va_P D vwCl (X q.2) t.heap) A) args s 0 0 A
abbrev nQv (below : List Frame) (D : va_G) (A : Nat → Prop) (X : nS → va_W) (args : Array Value) (s : State) (q : Int32 × nS) : State → Prop := MQ below (va_Qv (S := Unit) (fun _ => True) (fun _ t => va_P D vwCl (X q.2) t.heap) A) args s 0 0 A
theorem nb_iret (hx : p.tables.exec = Jvm.exec) (hb : c.code = cc) (hr : meth.sig.returnType = some .int) (hlocks : meth.locks = false) (hP : va_P D vwCl (X σ) H) (hS : va_S A s.heap H locs) {v : Int32} {q : Int32 × nS} (hq : (v, σ) = q) (hdg : decode cc pc = .ok (.ireturn, 1)) : W p l e R s m args below meth c H locs 0 0 (nQi below D A X args s q) (F0 m pc ls [.int v]) := by
  subst hq
  exact W.iret hx hb hr (fun t ht _ => ⟨⟨v, (), rfl, rfl, (show va_P D vwCl (X σ) t.heap by rw [ht]; exact hP)⟩, hS.F ht⟩) hS.2.2 hdg hlocks
theorem nb_zret (hx : p.tables.exec = Jvm.exec) (hb : c.code = cc) {ty : FieldType} (hr : meth.sig.returnType = some ty) (hlocks : meth.locks = false) (hP : va_P D vwCl (X σ) H) (hS : va_S A s.heap H locs) {v : Int32} {q : Int32 × nS} (hq : (v, σ) = q) (hn : narrow ty (.int v) = .int v) (hdg : decode cc pc = .ok (.ireturn, 1)) : W p l e R s m args below meth c H locs 0 0 (nQi below D A X args s q) (F0 m pc ls [.int v]) := by
  subst hq
  exact W.zret hx hb hr hn (fun t ht _ => ⟨⟨v, (), rfl, rfl, (show va_P D vwCl (X σ) t.heap by rw [ht]; exact hP)⟩, hS.F ht⟩) hS.2.2 hdg hlocks
theorem nb_lret (hx : p.tables.exec = Jvm.exec) (hb : c.code = cc) (hr : meth.sig.returnType = some .long) (hlocks : meth.locks = false) (hP : va_P D vwCl (X σ) H) (hS : va_S A s.heap H locs) {v : Int64} {q : Int64 × nS} (hq : (v, σ) = q) (hdg : decode cc pc = .ok (.lreturn, 1)) : W p l e R s m args below meth c H locs 0 0 (nQl below D A X args s q) (F0 m pc ls [.long v]) := by
  subst hq
  exact W.lret hx hb hr (fun t ht _ => ⟨⟨v, (), rfl, rfl, (show va_P D vwCl (X σ) t.heap by rw [ht]; exact hP)⟩, hS.F ht⟩) hS.2.2 hdg hlocks
theorem nb_vret (hx : p.tables.exec = Jvm.exec) (hb : c.code = cc) (hr : meth.sig.returnType = none) (hlocks : meth.locks = false) (hP : va_P D vwCl (X σ) H) (hS : va_S A s.heap H locs) {q : Int32 × nS} (hq : (0, σ) = q) (hdg : decode cc pc = .ok (.return_, 1)) : W p l e R s m args below meth c H locs 0 0 (nQv below D A X args s q) (F0 m pc ls []) := by
  subst hq
  exact W.vret hx hb hr (fun t ht _ => ⟨⟨(), rfl, trivial, (show va_P D vwCl (X σ) t.heap by rw [ht]; exact hP)⟩, hS.F ht⟩) hS.2.2 hdg hlocks
end NROW
