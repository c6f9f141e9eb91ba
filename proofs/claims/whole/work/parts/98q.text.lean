/-! BOOK: the whole text -/
def bF (B : Nat) (σ τ σ' τ' : nS) : Prop := ((∀ d, d ≠ 4 → d ≠ 5 → d ≠ 6 → d ≠ 8 → d ≠ 9 → σ'.1 d = σ.1 d) ∧ (∀ f, f < 3 → σ'.1 6 f = σ.1 6 f) ∧ (∀ j, j ≠ B → σ'.1 4 j = σ.1 4 j) ∧ ∀ i, i < B * 120 → σ'.1 5 i = σ.1 5 i) ∧ (∀ d, d ≠ 0 → d ≠ 3 → d ≠ 9 → d ≠ 11 → (d < 4 ∨ 8 < d) → τ'.1 d = τ.1 d) ∧ (∀ f, (f < 21 ∨ 24 < f) → τ'.1 0 f = τ.1 0 f) ∧ (∀ j, j ≠ B → τ'.1 3 j = τ.1 3 j) ∧ ∀ d, 4 ≤ d → d ≤ 8 → ∀ i, i < 24 * B → τ'.1 d i = τ.1 d i
theorem bF.of {B k t : Nat} {σ τ σ' τ' : nS} (h : gC B k t σ σ') (g : gM B k τ τ') : bF B σ τ σ' τ' :=
  ⟨⟨fun d _ e2 e3 e4 e5 => h.1 d e2 e3 e4 e5, h.2.1, fun j _ => by rw [h.1 4 (by decide) (by decide) (by decide) (by decide)], fun i e => h.2.2.1 i (by omega)⟩, fun d e1 _ e3 e4 e5 => g.1 d e1 e3 e4 e5, g.2.1, fun j _ => by rw [g.1 3 (by decide) (by decide) (by decide) (by decide)], fun d e1 e2 i e => g.2.2.1 d e1 e2 i (by omega)⟩
theorem bF.trans {B : Nat} {a b c d e f : nS} (h : bF B a b c d) (g : bF B c d e f) : bF B a b e f :=
  ⟨⟨fun x e1 e2 e3 e4 e5 => (g.1.1 x e1 e2 e3 e4 e5).trans (h.1.1 x e1 e2 e3 e4 e5), fun x e1 => (g.1.2.1 x e1).trans (h.1.2.1 x e1), fun x e1 => (g.1.2.2.1 x e1).trans (h.1.2.2.1 x e1), fun x e1 => (g.1.2.2.2 x e1).trans (h.1.2.2.2 x e1)⟩, fun x e1 e2 e3 e4 e5 => (g.2.1 x e1 e2 e3 e4 e5).trans (h.2.1 x e1 e2 e3 e4 e5), fun x e1 => (g.2.2.1 x e1).trans (h.2.2.1 x e1), fun x e1 => (g.2.2.2.1 x e1).trans (h.2.2.2.1 x e1), fun x e1 e2 i e3 => (g.2.2.2.2 x e1 e2 i e3).trans (h.2.2.2.2 x e1 e2 i e3)⟩
theorem bF.rf {B : Nat} {a b : nS} : bF B a b a b := ⟨⟨fun _ _ _ _ _ _ => rfl, fun _ _ => rfl, fun _ _ => rfl, fun _ _ => rfl⟩, fun _ _ _ _ _ _ => rfl, fun _ _ => rfl, fun _ _ => rfl, fun _ _ _ _ _ => rfl⟩
theorem bF.w4 {B : Nat} {a b : nS} (v : Int32) : bF B a b (wr a 4 B v) b := ⟨⟨fun d e1 _ _ _ _ => wrc _ _ _ e1, fun f _ => by rw [wrc _ _ _ (by decide)], fun j e => wrk _ _ _ e, fun i _ => by rw [wrc _ _ _ (by decide)]⟩, (bF.rf (B := B) (a := a) (b := b)).2⟩
theorem bF.w3 {B : Nat} {a b : nS} (v : Int32) : bF B a b a (wr b 3 B v) := ⟨(bF.rf (B := B) (a := a) (b := b)).1, fun d _ e2 _ _ _ => wrc _ _ _ e2, fun f _ => by rw [wrc _ _ _ (by decide)], fun j e => wrk _ _ _ e, fun d e1 e2 i _ => by rw [wrc _ _ _ (by omega)]⟩
def LR (σ : nS) (TL : List (Nat × Nat)) : Prop := ∀ i v q, TL[i]? = some (v, q) → v < 100 ∧ σ.1 8 i = nI v ∧ σ.1 9 i = nI q
theorem LR.nil (σ : nS) : LR σ [] := fun i v q h => by simp at h
theorem LR.fr {σ σ' : nS} {TL : List (Nat × Nat)} (h : LR σ TL) (e : ∀ i, i < TL.length → σ'.1 8 i = σ.1 8 i ∧ σ'.1 9 i = σ.1 9 i) : LR σ' TL := by
  intro i v q hi
  have hl : i < TL.length := (List.getElem?_eq_some_iff.mp hi).1
  rw [(e i hl).1, (e i hl).2]
  exact h i v q hi
theorem LR.one {σ : nS} {TL : List (Nat × Nat)} {v q : Nat} (h : LR σ TL) (hv : v < 100) (e8 : σ.1 8 TL.length = nI v) (e9 : σ.1 9 TL.length = nI q) : LR σ (TL ++ [(v, q)]) := by
  intro i v' q' hi
  by_cases e : i < TL.length
  · rw [List.getElem?_append_left e] at hi
    exact h i v' q' hi
  · have hl : i < (TL ++ [(v, q)]).length := (List.getElem?_eq_some_iff.mp hi).1
    rw [List.length_append, List.length_singleton] at hl
    have hi2 : i = TL.length := by omega
    subst hi2
    rw [List.getElem?_append_right (Nat.le_refl _), Nat.sub_self] at hi
    have h2 : (v, q) = (v', q') := by simpa using hi
    injection h2 with h3 h4
    subst h3 h4
    exact ⟨hv, e8, e9⟩
def tX (B F S n : Nat) (c : Nat → Nat) (k p : Nat) (TL : List (Nat × Nat)) (σ0 τ0 σ τ : nS) : Prop :=
  bF B σ0 τ0 σ τ ∧ tR n c p σ τ ∧ τ.1 3 B = nI k ∧ (∀ k', k' < k → iStep F S 100 B k' (σ.1 5) (τ.1 4) (τ.1 5) (τ.1 6) (τ.1 7) (τ.1 8)) ∧ mTL τ B k TL ∧ srt TL ∧ (∀ x, x ∈ TL → x.2 < p) ∧ σ.1 6 13 = nI TL.length ∧ LR σ TL ∧ TL.length ≤ 2 * k ∧ σ.1 6 9 = nI 0
theorem srt_one {L : List (Nat × Nat)} {v q p : Nat} (h : srt L) (hp : ∀ x, x ∈ L → x.2 < p) (hq : p ≤ q) : srt (L ++ [(v, q)]) := by
  unfold srt
  rw [List.pairwise_append]
  refine ⟨h, List.pairwise_singleton _ _, fun a ha b hb => ?_⟩
  rw [List.mem_singleton] at hb
  subst hb
  have := hp a ha
  show a.2 < q
  omega
theorem tX.next {B F S n k p p' : Nat} {c : Nat → Nat} {TL : List (Nat × Nat)} {σ0 τ0 σ τ σ' τ' : nS} (hn : n ≤ 600) (h : tX B F S n c k p TL σ0 τ0 σ τ) (hp : p < p') (ht : tR n c p' σ' τ') (gc : gC B k TL.length σ σ') (gm : gM B k τ τ') (h9 : σ'.1 6 9 = σ.1 6 9) (hst : iStep F S 100 B k (σ'.1 5) (τ'.1 4) (τ'.1 5) (τ'.1 6) (τ'.1 7) (τ'.1 8)) (hg : tgO B k TL.length p p' σ' τ') :
    ∃ TL', tX B F S n c (k + 1) p' TL' σ0 τ0 σ' (wr τ' 3 B (nI (k + 1))) := by
  obtain ⟨x1, x2, x3, x4, x5, x6, x7, x8, x9, x10, x11⟩ := h
  have hpn := ht.1
  have hb : bF B σ0 τ0 σ' (wr τ' 3 B (nI (k + 1))) := x1.trans ((bF.of gc gm).trans (bF.w3 _))
  have ht' : tR n c p' σ' (wr τ' 3 B (nI (k + 1))) := ht.fr (fun _ _ => rfl) (fun f _ => by rw [wrc _ _ _ (by decide)]) rfl
  have steps : ∀ k', k' < k + 1 → iStep F S 100 B k' (σ'.1 5) ((wr τ' 3 B (nI (k + 1))).1 4) ((wr τ' 3 B (nI (k + 1))).1 5) ((wr τ' 3 B (nI (k + 1))).1 6) ((wr τ' 3 B (nI (k + 1))).1 7) ((wr τ' 3 B (nI (k + 1))).1 8) := by
    intro k' hk'
    simp (disch := decide) only [wrs, wrk, wrc, wr2, wl1, wls, wlk, wlc]
    by_cases e : k' = k
    · subst e; exact hst
    · have h := x4 k' (by omega)
      unfold iStep at h ⊢
      rw [gc.2.2.1 _ (by omega), gc.2.2.1 _ (by omega), gc.2.2.1 _ (by omega), gc.2.2.1 _ (by omega), gc.2.2.1 _ (by omega), gm.2.2.1 4 (by decide) (by decide) _ (by omega), gm.2.2.1 5 (by decide) (by decide) _ (by omega), gm.2.2.1 6 (by decide) (by decide) _ (by omega), gm.2.2.1 7 (by decide) (by decide) _ (by omega), gm.2.2.1 8 (by decide) (by decide) _ (by omega)]
      exact h
  have mt : mTL (wr τ' 3 B (nI (k + 1))) B k TL := (x5.fr gm.2.2.1 gm.2.2.2).fr (fun d d1 d2 i hi => by rw [wrc _ _ _ (by omega)]) (fun i hi => by rw [wrc _ _ _ (by decide)])
  have lr : LR σ' TL := x9.fr gc.2.2.2
  rcases hg with ⟨n2, n4, e13⟩ | ⟨k4, v, q, hv, hq1, hq2, e5, e11, e8, e9, e13⟩ | ⟨k2, v, q, v2, q2, hv, hv2, hq1, hq2, hq3, e6, e11, e7, e12, s8, s9, s8', s9', e13⟩
  · refine ⟨TL, hb, ht', wrs _ _ _ _, steps, ⟨TL, [], (List.append_nil TL).symm, mt, Or.inl ⟨?_, ?_, rfl⟩⟩, x6, fun x hx => ?_, e13, lr, by omega, h9.trans x11⟩
    · rw [wrc _ _ _ (by decide)]; exact n2
    · rw [wrc _ _ _ (by decide)]; exact n4
    · have := x7 x hx; omega
  · refine ⟨TL ++ [(v, q)], hb, ht', wrs _ _ _ _, steps, ⟨TL, [(v, q)], rfl, mt, Or.inr (Or.inl ⟨?_, v, q, hv, by omega, ?_, ?_, rfl⟩)⟩, srt_one x6 x7 (by omega), fun x hx => ?_, ?_, lr.one hv e8 e9, ?_, h9.trans x11⟩
    · rw [wrc _ _ _ (by decide)]; exact k4
    · rw [wrc _ _ _ (by decide)]; exact e5
    · rw [wrc _ _ _ (by decide)]; exact e11
    · rcases List.mem_append.mp hx with hx | hx
      · have := x7 x hx; omega
      · rw [List.mem_singleton] at hx; subst hx; exact hq2
    · rw [List.length_append]; exact e13
    · rw [List.length_append, List.length_singleton]; omega
  · have sr1 := srt_one (v := v) (q := q) x6 x7 (by omega)
    have sr2 : srt (TL ++ [(v, q)] ++ [(v2, q2)]) := srt_one (p := q2) sr1 (fun x hx => by
      rcases List.mem_append.mp hx with hx | hx
      · have := x7 x hx; omega
      · rw [List.mem_singleton] at hx; subst hx; exact hq2) (Nat.le_refl q2)
    have ea : TL ++ [(v, q)] ++ [(v2, q2)] = TL ++ [(v, q), (v2, q2)] := by rw [List.append_assoc]; rfl
    rw [ea] at sr2
    have lr1 := lr.one hv s8 s9
    have lr2 : LR σ' (TL ++ [(v, q)] ++ [(v2, q2)]) := lr1.one hv2 (by rw [List.length_append]; exact s8') (by rw [List.length_append]; exact s9')
    rw [ea] at lr2
    refine ⟨TL ++ [(v, q), (v2, q2)], hb, ht', wrs _ _ _ _, steps, ⟨TL, [(v, q), (v2, q2)], rfl, mt, Or.inr (Or.inr ⟨?_, v, q, v2, q2, hv, hv2, by omega, by omega, ?_, ?_, ?_, ?_, rfl⟩)⟩, sr2, fun x hx => ?_, ?_, lr2, ?_, h9.trans x11⟩
    · rw [wrc _ _ _ (by decide)]; exact k2
    · rw [wrc _ _ _ (by decide)]; exact e6
    · rw [wrc _ _ _ (by decide)]; exact e11
    · rw [wrc _ _ _ (by decide)]; exact e7
    · rw [wrc _ _ _ (by decide)]; exact e12
    · rcases List.mem_append.mp hx with hx | hx
      · have := x7 x hx; omega
      · rcases List.mem_cons.mp hx with hx | hx
        · subst hx; show q < p'; omega
        · rw [List.mem_singleton] at hx; subst hx; exact hq3
    · rw [List.length_append]; exact e13
    · rw [List.length_append]; show TL.length + 2 ≤ _; omega
/-- how the reading ends -/
def tRes (B F S : Nat) (σ0 τ0 : nS) (R8 : Option (Int32 × nS)) (R11 : Option (Option Int32 × nS)) : Prop :=
  (∃ K σ' τ', 1 ≤ K ∧ K ≤ 24 ∧ R8 = some (nI 1, σ') ∧ R11 = some (some (nI 0), τ') ∧ bF B σ0 τ0 σ' τ' ∧ σ'.1 4 B = nI K ∧ τ'.1 3 B = nI K ∧ (∀ k, k < K → iStep F S K B k (σ'.1 5) (τ'.1 4) (τ'.1 5) (τ'.1 6) (τ'.1 7) (τ'.1 8)) ∧ σ'.1 6 9 = nI 0) ∨
  ∃ f q σ' τ', R8 = some (nI 0, σ') ∧ R11 = some (none, τ') ∧ bF B σ0 τ0 σ' τ' ∧ σ'.1 6 9 = nI f ∧ σ'.1 6 10 = nI q ∧ τ'.1 9 6 = nI f ∧ τ'.1 9 7 = nI q
theorem failT {B F S f q : Nat} {σ0 τ0 σ1 τ1 : nS} {R8 : Option (Int32 × nS)} {R11 : Option (Option Int32 × nS)} (h : bF B σ0 τ0 σ1 τ1) (e1 : R8 = some (nI 0, flC σ1 f q)) (e2 : R11 = some (none, flM τ1 f q)) : tRes B F S σ0 τ0 R8 R11 := by
  refine Or.inr ⟨f, q, _, _, e1, e2, h.trans (bF.of (k := 0) (t := 0) ((gC.w6 9 _ (by decide)).trans (gC.w6 10 _ (by decide))) ((gM.w9 6 _).trans (gM.w9 7 _))), ?_, ?_, ?_, ?_⟩
  · unfold flC; simp (disch := decide) only [wrs, wrk, wrc, wr2, wl1, wls, wlk, wlc]
  · unfold flC; simp (disch := decide) only [wrs, wrk, wrc, wr2, wl1, wls, wlk, wlc]
  · unfold flM; simp (disch := decide) only [wrs, wrk, wrc, wr2, wl1, wls, wlk, wlc]
  · unfold flM; simp (disch := decide) only [wrs, wrk, wrc, wr2, wl1, wls, wlk, wlc]
theorem sOK.cut {F S K : Nat} {kd o t h m : Int32} (H : sOK F S 100 kd o t h m) (h2 : kd = nI 2 → (∃ x, x < K ∧ t = nI x) ∧ ∃ x, x < K ∧ h = nI x) (h4 : kd = nI 4 → ∃ x, x < K ∧ o = nI x) : sOK F S K kd o t h m := by
  rcases H with H | ⟨a, b, _⟩ | H | ⟨a, _⟩ | H
  · exact Or.inl H
  · exact Or.inr (Or.inl ⟨a, b, h2 a⟩)
  · exact Or.inr (Or.inr (Or.inl H))
  · exact Or.inr (Or.inr (Or.inr (Or.inl ⟨a, h4 a⟩)))
  · exact Or.inr (Or.inr (Or.inr (Or.inr H)))
