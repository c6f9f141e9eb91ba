/-! A WALK OF THE CLASS: its pieces -/
theorem nLetR {α R : Type} (e : α) (k : α → Option R) : nLet e k = k e := by
  unfold nLet
  exact Eq.refl _
theorem nPl_le (w : Nat) : nPl w ≤ 2000 := by
  unfold nPl
  cases Nat.beq w 24
  · exact Nat.zero_le _
  · exact Nat.le_refl _
theorem cell_is {N b k j : Nat} {σ : nS} (hb : b < 5) (hk : k < 24) (hj : j < 5) : f_X7_cell N (nI b) (nI k) (nI j) σ = some (σ.1 5 ((b * 24 + k) * 5 + j), σ) := by
  simp (disch := first | omega | exact nM1_n | exact nM2_n | assumption) only [b_X7_cell_0, l_X7_cell_0, f_X7_cell, nLetR, ↓e_m1, ↓e_m2, e_0, e_1, e_2, e_3, e_4, e_5, e_6, e_7, e_8, e_9, e_10, e_11, e_12, e_13, e_14, e_15, e_16, e_17, e_18, e_19, e_20, e_21, e_22, e_23, e_24, e_25, e_26, e_27, e_28, e_29, e_30, e_31, e_32, e_33, e_48, e_57, e_59, e_60, e_63, e_64, e_96, e_97, e_99, e_120, e_122, e_192, e_200, e_255, e_256, e_300, e_500, e_600, e_2000, e_5000, e_5240, e_6146, e_20000, e_65536, nIo, nI_leI, nI_ltI, nI_eq, nI_clamp, nIxt, nI_1, nI_add, nI_mul, nN_lt0, nN_le, nN_lt, nN_eq, nN_eq', eq_self, if_true, if_false, if_neg]
theorem cell_is0 {N b k : Nat} {σ : nS} (hb : b < 5) (hk : k < 24) : f_X7_cell N (nI b) (nI k) (nI 0) σ = some (σ.1 5 ((b * 24 + k) * 5), σ) := cell_is hb hk (by decide)
theorem size_is {N b : Nat} {σ : nS} (hb : b < 5) : f_X7_sizeOf N (nI b) σ = some (σ.1 4 b, σ) := by
  simp (disch := first | omega | exact nM1_n | exact nM2_n | assumption) only [b_X7_sizeOf_0, l_X7_sizeOf_0, f_X7_sizeOf, nLetR, ↓e_m1, ↓e_m2, e_0, e_1, e_2, e_3, e_4, e_5, e_6, e_7, e_8, e_9, e_10, e_11, e_12, e_13, e_14, e_15, e_16, e_17, e_18, e_19, e_20, e_21, e_22, e_23, e_24, e_25, e_26, e_27, e_28, e_29, e_30, e_31, e_32, e_33, e_48, e_57, e_59, e_60, e_63, e_64, e_96, e_97, e_99, e_120, e_122, e_192, e_200, e_255, e_256, e_300, e_500, e_600, e_2000, e_5000, e_5240, e_6146, e_20000, e_65536, nIo, nI_leI, nI_ltI, nI_eq, nI_clamp, nIxt, nI_1, nI_add, nI_mul, nN_lt0, nN_le, nN_lt, nN_eq, nN_eq', eq_self, if_true, if_false, if_neg]
theorem factOf_is {N s : Nat} {σ : nS} (hs : s < 8) : f_X7_factOf N (nI s) σ = some (σ.1 2 s, σ) := by
  simp (disch := first | omega | exact nM1_n | exact nM2_n | assumption) only [b_X7_factOf_0, l_X7_factOf_0, f_X7_factOf, nLetR, ↓e_m1, ↓e_m2, e_0, e_1, e_2, e_3, e_4, e_5, e_6, e_7, e_8, e_9, e_10, e_11, e_12, e_13, e_14, e_15, e_16, e_17, e_18, e_19, e_20, e_21, e_22, e_23, e_24, e_25, e_26, e_27, e_28, e_29, e_30, e_31, e_32, e_33, e_48, e_57, e_59, e_60, e_63, e_64, e_96, e_97, e_99, e_120, e_122, e_192, e_200, e_255, e_256, e_300, e_500, e_600, e_2000, e_5000, e_5240, e_6146, e_20000, e_65536, nIo, nI_leI, nI_ltI, nI_eq, nI_clamp, nIxt, nI_1, nI_add, nI_mul, nN_lt0, nN_le, nN_lt, nN_eq, nN_eq', eq_self, if_true, if_false, if_neg]
theorem take_is {N p : Nat} {v : Int32} {σ : nS} (hp : p < 4) : f_X3_take N (nI p) v σ = some (nI 0, wr σ 11 p v) := by
  simp (disch := first | omega | exact nM1_n | exact nM2_n | assumption) only [b_X3_take_0, l_X3_take_0, f_X3_take, nLetR, ↓e_m1, ↓e_m2, e_0, e_1, e_2, e_3, e_4, e_5, e_6, e_7, e_8, e_9, e_10, e_11, e_12, e_13, e_14, e_15, e_16, e_17, e_18, e_19, e_20, e_21, e_22, e_23, e_24, e_25, e_26, e_27, e_28, e_29, e_30, e_31, e_32, e_33, e_48, e_57, e_59, e_60, e_63, e_64, e_96, e_97, e_99, e_120, e_122, e_192, e_200, e_255, e_256, e_300, e_500, e_600, e_2000, e_5000, e_5240, e_6146, e_20000, e_65536, nIo, nI_leI, nI_ltI, nI_eq, nI_clamp, nIxt, nI_1, nI_add, nI_mul, nN_lt0, nN_le, nN_lt, nN_eq, nN_eq', eq_self, if_true, if_false, if_neg]
theorem isDo_y {N b k kd : Nat} {σ : nS} (hb : b < 5) (hk : k < 24) (h : σ.1 5 ((b * 24 + k) * 5) = nI kd) (hd : kd < 2) : f_X7_isDo N (nI b) (nI k) σ = some (nI 1, σ) := by
  have h1 : kd = 0 ∨ kd = 1 := by omega
  simp (disch := first | omega | exact nM1_n | exact nM2_n | assumption) only [b_X7_isDo_0, l_X7_isDo_0, f_X7_isDo, e_0, e_1, e_2, e_3, e_4, e_5, e_6, e_7, e_8, e_9, e_10, e_11, e_12, e_13, e_14, e_15, e_16, e_17, e_18, e_19, e_20, e_21, e_22, e_23, e_24, e_25, e_26, e_27, e_28, e_29, e_30, e_31, e_32, e_33, e_48, e_57, e_59, e_60, e_63, e_64, e_96, e_97, e_99, e_120, e_122, e_192, e_200, e_255, e_256, e_300, e_500, e_600, e_2000, e_5000, e_5240, e_6146, e_20000, e_65536, cell_is0, nBdS, h]
  rcases h1 with rfl | rfl
  · simp (disch := first | omega | exact nM1_n | exact nM2_n | assumption) only [↓e_m1, ↓e_m2, e_0, e_1, e_2, e_3, e_4, e_5, e_6, e_7, e_8, e_9, e_10, e_11, e_12, e_13, e_14, e_15, e_16, e_17, e_18, e_19, e_20, e_21, e_22, e_23, e_24, e_25, e_26, e_27, e_28, e_29, e_30, e_31, e_32, e_33, e_48, e_57, e_59, e_60, e_63, e_64, e_96, e_97, e_99, e_120, e_122, e_192, e_200, e_255, e_256, e_300, e_500, e_600, e_2000, e_5000, e_5240, e_6146, e_20000, e_65536, nIo, nI_leI, nI_ltI, nI_eq, nI_clamp, nIxt, nI_1, nI_add, nI_mul, nN_lt0, nN_le, nN_lt, nN_eq, nN_eq', eq_self, if_true, if_false]
  · simp (disch := first | omega | exact nM1_n | exact nM2_n | assumption) only [↓e_m1, ↓e_m2, e_0, e_1, e_2, e_3, e_4, e_5, e_6, e_7, e_8, e_9, e_10, e_11, e_12, e_13, e_14, e_15, e_16, e_17, e_18, e_19, e_20, e_21, e_22, e_23, e_24, e_25, e_26, e_27, e_28, e_29, e_30, e_31, e_32, e_33, e_48, e_57, e_59, e_60, e_63, e_64, e_96, e_97, e_99, e_120, e_122, e_192, e_200, e_255, e_256, e_300, e_500, e_600, e_2000, e_5000, e_5240, e_6146, e_20000, e_65536, nIo, nI_leI, nI_ltI, nI_eq, nI_clamp, nIxt, nI_1, nI_add, nI_mul, nN_lt0, nN_le, nN_lt, nN_eq, nN_eq', eq_self, if_true, if_false, if_neg]
theorem isDo_n {N b k kd : Nat} {σ : nS} (hb : b < 5) (hk : k < 24) (h : σ.1 5 ((b * 24 + k) * 5) = nI kd) (hd : 2 ≤ kd) (hd2 : kd < 6) : f_X7_isDo N (nI b) (nI k) σ = some (nI 0, σ) := by
  simp (disch := first | omega | exact nM1_n | exact nM2_n | assumption) only [b_X7_isDo_0, l_X7_isDo_0, f_X7_isDo, cell_is0, nBdS, h, ↓e_m1, ↓e_m2, e_0, e_1, e_2, e_3, e_4, e_5, e_6, e_7, e_8, e_9, e_10, e_11, e_12, e_13, e_14, e_15, e_16, e_17, e_18, e_19, e_20, e_21, e_22, e_23, e_24, e_25, e_26, e_27, e_28, e_29, e_30, e_31, e_32, e_33, e_48, e_57, e_59, e_60, e_63, e_64, e_96, e_97, e_99, e_120, e_122, e_192, e_200, e_255, e_256, e_300, e_500, e_600, e_2000, e_5000, e_5240, e_6146, e_20000, e_65536, nIo, nI_leI, nI_ltI, nI_eq, nI_clamp, nIxt, nI_1, nI_add, nI_mul, nN_lt0, nN_le, nN_lt, nN_eq, nN_eq', eq_self, if_true, if_false, if_neg]
/-- the path with one more -/
def pW (w c k : Nat) (σ : nS) : nS := if c < nPl w then wr σ (w + 2) c (nI k) else σ
theorem pW_1 {w c k d : Nat} {σ : nS} (h : d ≠ w + 2) : (pW w c k σ).1 d = σ.1 d := by
  unfold pW
  by_cases hc : c < nPl w
  · rw [if_pos hc, wrc _ _ _ h]
  · rw [if_neg hc]
theorem pW_2 {w c k : Nat} {σ : nS} : (pW w c k σ).2 = σ.2 := by
  unfold pW
  by_cases hc : c < nPl w
  · rw [if_pos hc, wr2]
  · rw [if_neg hc]
theorem pW_p {w c k i : Nat} {σ : nS} (hi : i ≠ c) : (pW w c k σ).1 (w + 2) i = σ.1 (w + 2) i := by
  unfold pW
  by_cases hc : c < nPl w
  · rw [if_pos hc, wrk _ _ _ hi]
  · rw [if_neg hc]
theorem pW_q {w c k : Nat} {σ : nS} (hc : c < nPl w) : (pW w c k σ).1 (w + 2) c = nI k := by
  unfold pW
  rw [if_pos hc, wrs]
theorem come_h {N w b n k c : Nat} {σ : nS} (hb : b < 5) (hn : n ≤ 24) (hk : k < n) (hc : c < 10000) (h2 : σ.1 w 2 = nI b) (hs : σ.1 4 b = nI n) (h6 : σ.1 w 6 = nI k) (h10 : σ.1 w 10 = nI c) :
    f_X6_come N w σ = l_X6_come_53 N w (pW w c k σ) := by
  have hp := nPl_le w
  unfold pW f_X6_come l_X6_come_0 b_X6_come_0
  generalize nPl w = L at hp ⊢
  rw [h2, size_is hb, nBdS, h6, hs, if_pos (nI_lt hk (by omega)), h10, if_neg (nI_pos (by omega))]
  simp only [nLetR]
  by_cases h : c < L
  · rw [if_neg (show ¬ Int32.ofNat L ≤ nI c from nI_ge h (by omega)), nIxt h (by omega), nI_clamp (by omega), if_pos h]
  · rw [if_pos (show Int32.ofNat L ≤ nI c from nI_le (by omega) (by omega)), if_neg h]
theorem come_over {N w b n : Nat} {σ : nS} (hb : b < 5) (hn : n ≤ 24) (h2 : σ.1 w 2 = nI b) (hs : σ.1 4 b = nI n) (h6 : σ.1 w 6 = nI n) :
    f_X6_come N w σ = some (nI 0, wr σ w 11 (nI 5)) := by
  unfold f_X6_come l_X6_come_0 b_X6_come_0
  rw [h2, size_is hb, nBdS, h6, hs, if_neg (nI_nlt (Nat.le_refl n) (by omega))]
  rfl
theorem come_new {N w b n k x c : Nat} {σ : nS} (hw : 24 ≤ w) (hb : b < 5) (hn : n ≤ 24) (hk : k < n) (hx : x < 256) (hc : c < 10000) (h2 : σ.1 w 2 = nI b) (hs : σ.1 4 b = nI n) (h6 : σ.1 w 6 = nI k) (h3 : σ.1 w 3 = nI x) (h10 : σ.1 w 10 = nI c)
    (hbit : sb (σ.2 (w + 1) (k * 4 + x / 64)) (x % 64) = false) :
    f_X6_come N w σ = some (nI 0, wl (wr (pW w c k σ) w 10 (nI (c + 1))) (w + 1) (k * 4 + x / 64) (σ.2 (w + 1) (k * 4 + x / 64) ||| ((1 : Int64) <<< ((nI x &&& nI 63).toInt64 &&& 63)))) := by
  rw [come_h hb hn hk hc h2 hs h6 h10]
  have hz : lg_cmp (σ.2 (w + 1) (k * 4 + x / 64) &&& ((1 : Int64) <<< ((nI x &&& nI 63).toInt64 &&& 63))) 0 = nI 0 :=
    (lg_cmp_eq _ _).mpr ((sb_t (Nat.mod_lt _ (by decide)) (sb_m x hx)).mpr hbit)
  have hq : (nI x >>> (nI 6 &&& nI 31)) &&& nI 3 = nI (x / 64) := wk_i x hx
  have hx4 : x / 64 < 4 := by omega
  simp (disch := first | omega | exact nM1_n | exact nM2_n | assumption) only [l_X6_come_53, b_X6_come_53, nLetR, pW_1, pW_2, h10, h6, h3, ↓e_m1, ↓e_m2, e_0, e_1, e_2, e_3, e_4, e_5, e_6, e_7, e_8, e_9, e_10, e_11, e_12, e_13, e_14, e_15, e_16, e_17, e_18, e_19, e_20, e_21, e_22, e_23, e_24, e_25, e_26, e_27, e_28, e_29, e_30, e_31, e_32, e_33, e_48, e_57, e_59, e_60, e_63, e_64, e_96, e_97, e_99, e_120, e_122, e_192, e_200, e_255, e_256, e_300, e_500, e_600, e_2000, e_5000, e_5240, e_6146, e_20000, e_65536, nIo, nI_leI, nI_ltI, nI_eq, nI_clamp, nIxt, nI_1, nI_add, nI_mul, nN_lt0, nN_le, nN_lt, nN_eq, nN_eq', eq_self, if_true, if_false, wrs, wrk, wrc, wr2, wl1, wls, wlk, wlc, hq, hz, if_pos, if_neg]
theorem come_again {N w b n k x c : Nat} {σ : nS} (hw : 24 ≤ w) (hb : b < 5) (hn : n ≤ 24) (hk : k < n) (hx : x < 256) (hc : c < 10000) (h2 : σ.1 w 2 = nI b) (hs : σ.1 4 b = nI n) (h6 : σ.1 w 6 = nI k) (h3 : σ.1 w 3 = nI x) (h10 : σ.1 w 10 = nI c)
    (hbit : sb (σ.2 (w + 1) (k * 4 + x / 64)) (x % 64) = true) :
    f_X6_come N w σ = some (nI 0, wl (wr (wr (pW w c k σ) w 10 (nI (c + 1))) w 11 (nI 4)) (w + 1) (k * 4 + x / 64) (σ.2 (w + 1) (k * 4 + x / 64) ||| ((1 : Int64) <<< ((nI x &&& nI 63).toInt64 &&& 63)))) := by
  rw [come_h hb hn hk hc h2 hs h6 h10]
  have hz : ¬ lg_cmp (σ.2 (w + 1) (k * 4 + x / 64) &&& ((1 : Int64) <<< ((nI x &&& nI 63).toInt64 &&& 63))) 0 = nI 0 := fun e => by
    have := (sb_t (Nat.mod_lt _ (by decide)) (sb_m x hx)).mp ((lg_cmp_eq _ _).mp e)
    rw [hbit] at this
    cases this
  have hq : (nI x >>> (nI 6 &&& nI 31)) &&& nI 3 = nI (x / 64) := wk_i x hx
  have hx4 : x / 64 < 4 := by omega
  simp (disch := first | omega | exact nM1_n | exact nM2_n | assumption) only [l_X6_come_53, b_X6_come_53, nLetR, pW_1, pW_2, h10, h6, h3, ↓e_m1, ↓e_m2, e_0, e_1, e_2, e_3, e_4, e_5, e_6, e_7, e_8, e_9, e_10, e_11, e_12, e_13, e_14, e_15, e_16, e_17, e_18, e_19, e_20, e_21, e_22, e_23, e_24, e_25, e_26, e_27, e_28, e_29, e_30, e_31, e_32, e_33, e_48, e_57, e_59, e_60, e_63, e_64, e_96, e_97, e_99, e_120, e_122, e_192, e_200, e_255, e_256, e_300, e_500, e_600, e_2000, e_5000, e_5240, e_6146, e_20000, e_65536, nIo, nI_leI, nI_ltI, nI_eq, nI_clamp, nIxt, nI_1, nI_add, nI_mul, nN_lt0, nN_le, nN_lt, nN_eq, nN_eq', eq_self, if_true, if_false, wrs, wrk, wrc, wr2, wl1, wls, wlk, wlc, hq, hz, if_pos, if_neg]
