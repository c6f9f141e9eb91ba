/-! BOOK: the other steps -/
def dT (N : Nat) (x2 : Int32) (σ4 : nS) : Option (Int32 × nS) := nLet ((σ4.1 1 0) - (1 : Int32) : Int32) (fun v5 => nBd (f_X4_takeNumber N 0 v5 σ4) (fun r6 σ7 => (if r6 = 0 then some (0, σ7) else nBd (f_X4_keep N x2 2 σ7) (fun r8 σ9 => nBd (f_X4_takeWord N 7 σ9) (fun r10 σ11 => (if r10 = 0 then some (0, σ11) else nBd (f_X4_takeNumber N 1 60 σ11) (fun r12 σ13 => (if r12 = 0 then some (0, σ13) else nBd (f_X4_keep N x2 3 σ13) (fun r14 σ15 => nBd (f_X4_isWord N 8 σ15) (fun r16 σ17 => (if r16 = 0 then some (1, σ17) else nBd (f_X4_advance N σ17) (fun r18 σ19 => nLet ((σ19.1 1 0) - (1 : Int32) : Int32) (fun v20 => nBd (f_X4_takeNumber N 0 v20 σ19) (fun r21 σ22 => (if r21 = 0 then some (0, σ22) else nBd (f_X4_keep N x2 4 σ22) (fun r23 σ24 => (if r23 = 0 then some (0, σ24) else nBd (f_X4_takeWord N 9 σ24) (fun r25 σ26 => (if r25 = 0 then some (0, σ26) else some (1, σ26))))))))))))))))))))
def mT (N : Nat) (x1 : Int32) (σ3 : nS) : Option (Option Int32 × nS) := nLet ((σ3.1 0 4) - (1 : Int32) : Int32) (fun v4 => nBx (f_X11_needNumber N 0 v4 σ3) (fun r5 σ6 => nIx x1 120 (nLet (wr σ6 6 (x1).toNatClampNeg r5) (fun σ7 => nBx (f_X11_needWord N 7 σ7) (fun r8 σ9 => nBx (f_X11_needNumber N 1 60 σ9) (fun r10 σ11 => nIx x1 120 (nLet (wr σ11 7 (x1).toNatClampNeg r10) (fun σ12 => nBd (f_X11_isWord N 8 σ12) (fun r13 σ14 => (if r13 = 0 then some (some 0, σ14) else nBd (f_X11_next N σ14) (fun r15 σ16 => nLet ((σ16.1 0 4) - (1 : Int32) : Int32) (fun v17 => nBx (f_X11_needNumber N 0 v17 σ16) (fun r18 σ19 => nIx x1 120 (nLet (wr σ19 8 (x1).toNatClampNeg r18) (fun σ20 => nBx (f_X11_needWord N 9 σ20) (fun r21 σ22 => some (some 0, σ22)))))))))))))))))
theorem mT_is {N i F : Nat} {τ : nS} (hi : i < 120) (h4 : τ.1 0 4 = nI F) : mT N (nI i) τ = nBx (f_X11_needNumber N (nI 0) (nI F - nI 1) τ) (fun r s => nBx (f_X11_needWord N 7 (wr s 6 i r)) (fun _ s => nBx (f_X11_needNumber N (nI 1) (nI 60) s) (fun r s => nBd (f_X11_isWord N 8 (wr s 7 i r)) (fun q s => if q = nI 0 then some (some (nI 0), s) else nBd (f_X11_next N s) (fun _ s => nLet ((s.1 0 4) - nI 1) (fun v => nBx (f_X11_needNumber N (nI 0) v s) (fun r s => nBx (f_X11_needWord N 9 (wr s 8 i r)) (fun _ s => some (some (nI 0), s)))))))) ) := by
  unfold mT
  simp (disch := first | omega | exact nM1_n | exact nM2_n | assumption) only [h4, nIxt, nI_clamp, ↓nLetR, e_0, e_1, e_2, e_3, e_4, e_5, e_6, e_7, e_8, e_9, e_10, e_11, e_12, e_13, e_14, e_15, e_16, e_17, e_18, e_19, e_20, e_21, e_22, e_23, e_24, e_25, e_26, e_27, e_28, e_29, e_30, e_31, e_32, e_33, e_48, e_57, e_59, e_60, e_63, e_64, e_96, e_97, e_99, e_120, e_122, e_192, e_200, e_255, e_256, e_300, e_500, e_600, e_2000, e_5000, e_5240, e_6146, e_20000, e_65536]
theorem doTail {N B k t p p5 kd v1 F S n : Nat} {c : Nat → Nat} {σ τ σ5 τ5 : nS} (hN : 700 ≤ N) (hB : B < 5) (hk : k < 24) (hF : F ≤ 8) (hr : rdR n c σ τ) (hkd : kd < 2) (hv1 : v1 < 8) (hp : p < p5) (g5 : gC B k t σ σ5) (m5 : gM B k τ τ5) (ht : tR n c p5 σ5 τ5) (h13 : σ5.1 6 13 = nI t) (h9 : σ5.1 6 9 = σ.1 6 9) (hb : σ.1 1 3 = nI B) (hf : σ.1 1 0 = nI F) (hfm : τ.1 0 4 = nI F)
    (c0 : σ5.1 5 ((B * 24 + k) * 5) = nI kd) (c1 : σ5.1 5 ((B * 24 + k) * 5 + 1) = nI v1) (c4 : σ5.1 5 ((B * 24 + k) * 5 + 4) = nM1) (d0 : τ5.1 4 (24 * B + k) = nI kd) (d1 : τ5.1 5 (24 * B + k) = nI v1) (d4 : τ5.1 8 (24 * B + k) = nM1) :
    sRes B k t p F S n c σ τ (dT N (nI k) σ5) (mT N (nI (24 * B + k)) τ5) := by
  have hi : 24 * B + k < 120 := by omega
  have f5 : σ5.1 1 0 = nI F := by rw [g5.1 1 (by decide) (by decide) (by decide) (by decide)]; exact hf
  have f5m : τ5.1 0 4 = nI F := by rw [m5.2.1 4 (by decide)]; exact hfm
  rw [mT_is hi f5m]
  rcases tn_is (N := N) (l := 0) (hi := nI F - nI 1) hN (by decide) (hr.g g5 m5) ht with ⟨v2, p6, σ6, τ6, hv2, _, hh2, hp6, a1, a2, a7, a8, a3, a4, a5⟩ | ⟨f, _, a1, a2⟩
  rotate_left
  · refine failS g5 m5 (f := f) (q := p5) ?_ ?_
    · simp (disch := first | omega | exact nM1_n | exact nM2_n | assumption) only [dT, f5, a1, ↓nLetR, ↓reduceIte, ↓e_m1, ↓e_m2, e_0, e_1, e_2, e_3, e_4, e_5, e_6, e_7, e_8, e_9, e_10, e_11, e_12, e_13, e_14, e_15, e_16, e_17, e_18, e_19, e_20, e_21, e_22, e_23, e_24, e_25, e_26, e_27, e_28, e_29, e_30, e_31, e_32, e_33, e_48, e_57, e_59, e_60, e_63, e_64, e_96, e_97, e_99, e_120, e_122, e_192, e_200, e_255, e_256, e_300, e_500, e_600, e_2000, e_5000, e_5240, e_6146, e_20000, e_65536, nIo, nI_clamp, nIxt, nI_1, nI_add, nI_mul, nI_eqF, nI_ltT, nI_ltF, nI_leT, nI_leF, nN_lt0, nN_le, nN_lt, nN_eq, nN_eq', eq_self, nBdS]
    · rw [a2, nBxN]
  have hv2F : v2 < F := hiS hv2 hF hh2
  have g6 := g5.trans (B := B) (k := k) (t := t) a4.g
  have m6 := m5.trans (B := B) (k := k) a5.g
  have b6 : σ6.1 1 3 = nI B := by rw [g6.1 1 (by decide) (by decide) (by decide) (by decide)]; exact hb
  have k6 := keep_is (N := N) (j := 2) hB hk (by decide) b6 a7
  have g7 := g6.trans (B := B) (k := k) (t := t) (gC.w5 2 (nI v2))
  have m7 := m6.trans (B := B) (k := k) (gM.wd 6 (nI v2) (by decide))
  have t7 : tR n c p6 (wr σ6 5 ((B * 24 + k) * 5 + 2) (nI v2)) (wr τ6 6 (24 * B + k) (nI v2)) := a3.fr (fun f _ => by rw [wrc _ _ _ (by decide)]) (fun f _ => by rw [wrc _ _ _ (by decide)]) rfl
  rcases tw_is (N := N) (j := 7) hN (hr.g g7 m7) t7 (by decide) with ⟨p8, σ8, τ8, hp8, w1, w2, w3, w4, w5⟩ | ⟨w1, w2⟩
  rotate_left
  · refine failS g7 m7 (f := 1) (q := p6) ?_ ?_
    · simp (disch := first | omega | exact nM1_n | exact nM2_n | assumption) only [dT, f5, a1, k6, w1, ↓nLetR, ↓reduceIte, ↓e_m1, ↓e_m2, e_0, e_1, e_2, e_3, e_4, e_5, e_6, e_7, e_8, e_9, e_10, e_11, e_12, e_13, e_14, e_15, e_16, e_17, e_18, e_19, e_20, e_21, e_22, e_23, e_24, e_25, e_26, e_27, e_28, e_29, e_30, e_31, e_32, e_33, e_48, e_57, e_59, e_60, e_63, e_64, e_96, e_97, e_99, e_120, e_122, e_192, e_200, e_255, e_256, e_300, e_500, e_600, e_2000, e_5000, e_5240, e_6146, e_20000, e_65536, nIo, nI_clamp, nIxt, nI_1, nI_add, nI_mul, nI_eqF, nI_ltT, nI_ltF, nI_leT, nI_leF, nN_lt0, nN_le, nN_lt, nN_eq, nN_eq', eq_self, nBdS]
    · rw [a2, nBxS, w2, nBxN]
  have g8 := g7.trans (B := B) (k := k) (t := t) w4.d.g
  have m8 := m7.trans (B := B) (k := k) w5.g
  rcases tn_is (N := N) (l := 1) (hi := nI 60) hN (by decide) (hr.g g8 m8) w3 with ⟨v3, p9, σ9, τ9, hv3, hl3, hh3, hp9, x1, x2, x7, x8, x3, x4, x5⟩ | ⟨f, _, x1, x2⟩
  rotate_left
  · refine failS g8 m8 (f := f) (q := p8) ?_ ?_
    · simp (disch := first | omega | exact nM1_n | exact nM2_n | assumption) only [dT, f5, a1, k6, w1, x1, ↓nLetR, ↓reduceIte, ↓e_m1, ↓e_m2, e_0, e_1, e_2, e_3, e_4, e_5, e_6, e_7, e_8, e_9, e_10, e_11, e_12, e_13, e_14, e_15, e_16, e_17, e_18, e_19, e_20, e_21, e_22, e_23, e_24, e_25, e_26, e_27, e_28, e_29, e_30, e_31, e_32, e_33, e_48, e_57, e_59, e_60, e_63, e_64, e_96, e_97, e_99, e_120, e_122, e_192, e_200, e_255, e_256, e_300, e_500, e_600, e_2000, e_5000, e_5240, e_6146, e_20000, e_65536, nIo, nI_clamp, nIxt, nI_1, nI_add, nI_mul, nI_eqF, nI_ltT, nI_ltF, nI_leT, nI_leF, nN_lt0, nN_le, nN_lt, nN_eq, nN_eq', eq_self, nBdS]
    · rw [a2, nBxS, w2, nBxS, x2, nBxN]
  have hv60 : v3 ≤ 60 := by
    by_cases q : v3 ≤ 60
    · exact q
    · exact absurd hh3 (nI_ge (by omega) (by omega))
  have g9 := g8.trans (B := B) (k := k) (t := t) x4.g
  have m9 := m8.trans (B := B) (k := k) x5.g
  have b9 : σ9.1 1 3 = nI B := by rw [g9.1 1 (by decide) (by decide) (by decide) (by decide)]; exact hb
  have k9 := keep_is (N := N) (j := 3) hB hk (by decide) b9 x7
  have g10 := g9.trans (B := B) (k := k) (t := t) (gC.w5 3 (nI v3))
  have m10 := m9.trans (B := B) (k := k) (gM.wd 7 (nI v3) (by decide))
  have t10 : tR n c p9 (wr σ9 5 ((B * 24 + k) * 5 + 3) (nI v3)) (wr τ9 7 (24 * B + k) (nI v3)) := x3.fr (fun f _ => by rw [wrc _ _ _ (by decide)]) (fun f _ => by rw [wrc _ _ _ (by decide)]) rfl
  have s10 : (wr σ9 5 ((B * 24 + k) * 5 + 3) (nI v3)).1 5 = upd (upd (σ5.1 5) ((B * 24 + k) * 5 + 2) (nI v2)) ((B * 24 + k) * 5 + 3) (nI v3) := by rw [wrf, x4.1 5 (by decide), w4.1 5 (by decide), wrf, a4.1 5 (by decide)]
  have n10 : (wr σ9 5 ((B * 24 + k) * 5 + 3) (nI v3)).1 6 13 = nI t := by rw [wrc _ _ _ (by decide), x4.2 13 (by decide), w4.2 13 (by decide), wrc _ _ _ (by decide), a4.2 13 (by decide)]; exact h13
  have n9 : (wr σ9 5 ((B * 24 + k) * 5 + 3) (nI v3)).1 6 9 = σ.1 6 9 := by rw [wrc _ _ _ (by decide), x4.2 9 (by decide), w4.2 9 (by decide), wrc _ _ _ (by decide), a4.2 9 (by decide)]; exact h9
  have y4 : (wr τ9 7 (24 * B + k) (nI v3)).1 4 (24 * B + k) = nI kd := by rw [wrc _ _ _ (by decide), x5.1 4 (by decide), w5.1 4 (by decide), wrc _ _ _ (by decide), a5.1 4 (by decide)]; exact d0
  have y5 : (wr τ9 7 (24 * B + k) (nI v3)).1 5 (24 * B + k) = nI v1 := by rw [wrc _ _ _ (by decide), x5.1 5 (by decide), w5.1 5 (by decide), wrc _ _ _ (by decide), a5.1 5 (by decide)]; exact d1
  have y6 : (wr τ9 7 (24 * B + k) (nI v3)).1 6 (24 * B + k) = nI v2 := by rw [wrc _ _ _ (by decide), x5.1 6 (by decide), w5.1 6 (by decide), wrs]
  have y7 : (wr τ9 7 (24 * B + k) (nI v3)).1 7 (24 * B + k) = nI v3 := wrs _ _ _ _
  have y8 : (wr τ9 7 (24 * B + k) (nI v3)).1 8 (24 * B + k) = nM1 := by rw [wrc _ _ _ (by decide), x5.1 8 (by decide), w5.1 8 (by decide), wrc _ _ _ (by decide), a5.1 8 (by decide)]; exact d4
  have nk2 : ¬ nI kd = nI 2 := fun h => nkx h hkd (by decide) (by decide)
  have nk4 : ¬ nI kd = nI 4 := fun h => nkx h hkd (by decide) (by decide)
  have kd01 : nI kd = 0 ∨ nI kd = 1 := by
    have : kd = 0 ∨ kd = 1 := by omega
    rcases this with rfl | rfl
    · exact Or.inl rfl
    · exact Or.inr rfl
  obtain ⟨r8, hr8, q1, q2, q3⟩ := word_is (N := N) (j := 8) (by omega) (hr.g g10 m10) t10 (by decide)
  have hr82 : r8 = 0 ∨ r8 = 1 := by omega
  rcases hr82 with rfl | rfl
  · refine Or.inl ⟨p9, _, _, ?_, ?_, by omega, t10, g10, m10, n9, ⟨⟨?_, ?_, ?_, ?_, ?_⟩, ?_⟩, Or.inl ⟨by rw [y4]; exact nk2, by rw [y4]; exact nk4, n10⟩⟩
    · simp (disch := first | omega | exact nM1_n | exact nM2_n | assumption) only [dT, f5, a1, k6, w1, x1, k9, q1, ↓nLetR, ↓reduceIte, ↓e_m1, ↓e_m2, e_0, e_1, e_2, e_3, e_4, e_5, e_6, e_7, e_8, e_9, e_10, e_11, e_12, e_13, e_14, e_15, e_16, e_17, e_18, e_19, e_20, e_21, e_22, e_23, e_24, e_25, e_26, e_27, e_28, e_29, e_30, e_31, e_32, e_33, e_48, e_57, e_59, e_60, e_63, e_64, e_96, e_97, e_99, e_120, e_122, e_192, e_200, e_255, e_256, e_300, e_500, e_600, e_2000, e_5000, e_5240, e_6146, e_20000, e_65536, nIo, nI_clamp, nIxt, nI_1, nI_add, nI_mul, nI_eqF, nI_ltT, nI_ltF, nI_leT, nI_leF, nN_lt0, nN_le, nN_lt, nN_eq, nN_eq', eq_self, nBdS]
    · rw [a2, nBxS, w2, nBxS, x2, nBxS, q2, nBdS, if_pos rfl]
    · rw [y4, s10]; simp (disch := omega) only [pk_us, pk_un]; exact c0
    · rw [y5, s10]; simp (disch := omega) only [pk_us, pk_un]; exact c1
    · rw [y6, s10]; simp (disch := omega) only [pk_us, pk_un]
    · rw [y7, s10]; simp (disch := omega) only [pk_us, pk_un]
    · rw [y8, s10]; simp (disch := omega) only [pk_us, pk_un]; exact c4
    · rw [y4, y5, y6, y7, y8]
      exact Or.inl ⟨kd01, ⟨v1, hv1, rfl⟩, ⟨v2, hv2F, rfl⟩, ⟨v3, hl3, hv60, rfl⟩, Or.inl rfl⟩
  obtain ⟨_, a, ha1, ha2, ha3, ha4⟩ := q3 rfl
  obtain ⟨p11, σ11, τ11, z1, z2, z3, z4, z5, z6⟩ := adv_is (N := N) hN (hr.g g10 m10) ha3 ha4 ha2
  have g11 := g10.trans (B := B) (k := k) (t := t) z5.d.g
  have m11 := m10.trans (B := B) (k := k) z6.g
  have f11 : σ11.1 1 0 = nI F := by rw [g11.1 1 (by decide) (by decide) (by decide) (by decide)]; exact hf
  have f11m : τ11.1 0 4 = nI F := by rw [m11.2.1 4 (by decide)]; exact hfm
  rcases tn_is (N := N) (l := 0) (hi := nI F - nI 1) hN (by decide) (hr.g g11 m11) z4 with ⟨v4, p12, σ12, τ12, hv4, _, hh4, hp12, u1, u2, u7, u8, u3, u4, u5⟩ | ⟨f, _, u1, u2⟩
  rotate_left
  · refine failS g11 m11 (f := f) (q := p11) ?_ ?_
    · simp (disch := first | omega | exact nM1_n | exact nM2_n | assumption) only [dT, f5, a1, k6, w1, x1, k9, q1, z2, f11, u1, ↓nLetR, ↓reduceIte, ↓e_m1, ↓e_m2, e_0, e_1, e_2, e_3, e_4, e_5, e_6, e_7, e_8, e_9, e_10, e_11, e_12, e_13, e_14, e_15, e_16, e_17, e_18, e_19, e_20, e_21, e_22, e_23, e_24, e_25, e_26, e_27, e_28, e_29, e_30, e_31, e_32, e_33, e_48, e_57, e_59, e_60, e_63, e_64, e_96, e_97, e_99, e_120, e_122, e_192, e_200, e_255, e_256, e_300, e_500, e_600, e_2000, e_5000, e_5240, e_6146, e_20000, e_65536, nIo, nI_clamp, nIxt, nI_1, nI_add, nI_mul, nI_eqF, nI_ltT, nI_ltF, nI_leT, nI_leF, nN_lt0, nN_le, nN_lt, nN_eq, nN_eq', eq_self, nBdS]
    · rw [a2, nBxS, w2, nBxS, x2, nBxS, q2, nBdS, if_neg (by decide), z3, nBdS, nLetR, f11m, u2, nBxN]
  have hv4F : v4 < F := hiS hv4 hF hh4
  have g12 := g11.trans (B := B) (k := k) (t := t) u4.g
  have m12 := m11.trans (B := B) (k := k) u5.g
  have b12 : σ12.1 1 3 = nI B := by rw [g12.1 1 (by decide) (by decide) (by decide) (by decide)]; exact hb
  have k12 := keep_is (N := N) (j := 4) hB hk (by decide) b12 u7
  have g13 := g12.trans (B := B) (k := k) (t := t) (gC.w5 4 (nI v4))
  have m13 := m12.trans (B := B) (k := k) (gM.wd 8 (nI v4) (by decide))
  have t13 : tR n c p12 (wr σ12 5 ((B * 24 + k) * 5 + 4) (nI v4)) (wr τ12 8 (24 * B + k) (nI v4)) := u3.fr (fun f _ => by rw [wrc _ _ _ (by decide)]) (fun f _ => by rw [wrc _ _ _ (by decide)]) rfl
  rcases tw_is (N := N) (j := 9) hN (hr.g g13 m13) t13 (by decide) with ⟨p14, σ14, τ14, hp14, r1, r2, r3, r4, r5⟩ | ⟨r1, r2⟩
  · have s14 : σ14.1 5 = upd (upd (upd (σ5.1 5) ((B * 24 + k) * 5 + 2) (nI v2)) ((B * 24 + k) * 5 + 3) (nI v3)) ((B * 24 + k) * 5 + 4) (nI v4) := by rw [r4.1 5 (by decide), wrf, u4.1 5 (by decide), z5.1 5 (by decide), s10]
    have n14 : σ14.1 6 13 = nI t := by rw [r4.2 13 (by decide), wrc _ _ _ (by decide), u4.2 13 (by decide), z5.2 13 (by decide)]; exact n10
    have e4 : ∀ d, d ≠ 0 → d ≠ 8 → τ14.1 d = (wr τ9 7 (24 * B + k) (nI v3)).1 d := fun d e1 e2 => by rw [r5.1 d e1, wrc _ _ _ e2, u5.1 d e1, z6.1 d e1]
    have e8 : τ14.1 8 (24 * B + k) = nI v4 := by rw [r5.1 8 (by decide), wrs]
    refine Or.inl ⟨p14, σ14, τ14, ?_, ?_, by omega, r3, g13.trans r4.d.g, m13.trans r5.g, (by rw [r4.2 9 (by decide), wrc _ _ _ (by decide), u4.2 9 (by decide), z5.2 9 (by decide)]; exact n9), ⟨⟨?_, ?_, ?_, ?_, ?_⟩, ?_⟩, Or.inl ⟨by rw [e4 4 (by decide) (by decide), y4]; exact nk2, by rw [e4 4 (by decide) (by decide), y4]; exact nk4, n14⟩⟩
    · simp (disch := first | omega | exact nM1_n | exact nM2_n | assumption) only [dT, f5, a1, k6, w1, x1, k9, q1, z2, f11, u1, k12, r1, ↓nLetR, ↓reduceIte, ↓e_m1, ↓e_m2, e_0, e_1, e_2, e_3, e_4, e_5, e_6, e_7, e_8, e_9, e_10, e_11, e_12, e_13, e_14, e_15, e_16, e_17, e_18, e_19, e_20, e_21, e_22, e_23, e_24, e_25, e_26, e_27, e_28, e_29, e_30, e_31, e_32, e_33, e_48, e_57, e_59, e_60, e_63, e_64, e_96, e_97, e_99, e_120, e_122, e_192, e_200, e_255, e_256, e_300, e_500, e_600, e_2000, e_5000, e_5240, e_6146, e_20000, e_65536, nIo, nI_clamp, nIxt, nI_1, nI_add, nI_mul, nI_eqF, nI_ltT, nI_ltF, nI_leT, nI_leF, nN_lt0, nN_le, nN_lt, nN_eq, nN_eq', eq_self, nBdS]
    · rw [a2, nBxS, w2, nBxS, x2, nBxS, q2, nBdS, if_neg (by decide), z3, nBdS, nLetR, f11m, u2, nBxS, r2, nBxS]
    · rw [e4 4 (by decide) (by decide), y4, s14]; simp (disch := omega) only [pk_us, pk_un]; exact c0
    · rw [e4 5 (by decide) (by decide), y5, s14]; simp (disch := omega) only [pk_us, pk_un]; exact c1
    · rw [e4 6 (by decide) (by decide), y6, s14]; simp (disch := omega) only [pk_us, pk_un]
    · rw [e4 7 (by decide) (by decide), y7, s14]; simp (disch := omega) only [pk_us, pk_un]
    · rw [e8, s14]; simp (disch := omega) only [pk_us, pk_un]
    · rw [e4 4 (by decide) (by decide), e4 5 (by decide) (by decide), e4 6 (by decide) (by decide), e4 7 (by decide) (by decide), y4, y5, y6, y7, e8]
      exact Or.inl ⟨kd01, ⟨v1, hv1, rfl⟩, ⟨v2, hv2F, rfl⟩, ⟨v3, hl3, hv60, rfl⟩, Or.inr ⟨v4, hv4F, rfl⟩⟩
  · refine failS g13 m13 (f := 1) (q := p12) ?_ ?_
    · simp (disch := first | omega | exact nM1_n | exact nM2_n | assumption) only [dT, f5, a1, k6, w1, x1, k9, q1, z2, f11, u1, k12, r1, ↓nLetR, ↓reduceIte, ↓e_m1, ↓e_m2, e_0, e_1, e_2, e_3, e_4, e_5, e_6, e_7, e_8, e_9, e_10, e_11, e_12, e_13, e_14, e_15, e_16, e_17, e_18, e_19, e_20, e_21, e_22, e_23, e_24, e_25, e_26, e_27, e_28, e_29, e_30, e_31, e_32, e_33, e_48, e_57, e_59, e_60, e_63, e_64, e_96, e_97, e_99, e_120, e_122, e_192, e_200, e_255, e_256, e_300, e_500, e_600, e_2000, e_5000, e_5240, e_6146, e_20000, e_65536, nIo, nI_clamp, nIxt, nI_1, nI_add, nI_mul, nI_eqF, nI_ltT, nI_ltF, nI_leT, nI_leF, nN_lt0, nN_le, nN_lt, nN_eq, nN_eq', eq_self, nBdS]
    · rw [a2, nBxS, w2, nBxS, x2, nBxS, q2, nBdS, if_neg (by decide), z3, nBdS, nLetR, f11m, u2, nBxS, r2, nBxN]
