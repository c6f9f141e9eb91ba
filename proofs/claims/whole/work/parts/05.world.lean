/-! THE TWO WORLDS -/
def oX8 (a : Nat → Nat) (σ : nS) : List Value := [.ref (a 1), .ref (a 6), .ref (a 10), .ref (a 24), .ref (a 27), .ref (a 30), .ref (a 33), .ref (a 12), .ref (a 16), .ref (a 19), .ref (a 20), .ref (a 23), .int (σ.1 0 12)]
def oX7 (a : Nat → Nat) (σ : nS) : List Value := [.int (σ.1 1 0), .int (σ.1 1 1), .int (σ.1 1 2), .int (σ.1 1 3), .int (σ.1 1 4), .ref (a 2), .ref (a 3), .ref (a 4), .ref (a 5)]
def oX4 (a : Nat → Nat) (σ : nS) : List Value := [.ref (a 7), .int (σ.1 6 1), .int (σ.1 6 2), .int (σ.1 6 3), .int (σ.1 6 4), .int (σ.1 6 5), .int (σ.1 6 6), .int (σ.1 6 7), .int (σ.1 6 8), .int (σ.1 6 9), .int (σ.1 6 10), .ref (a 8), .ref (a 9), .int (σ.1 6 13)]
def oX3 (a : Nat → Nat) (σ : nS) : List Value := [.ref (a 11)]
def oX0 (a : Nat → Nat) (σ : nS) : List Value := [.ref (a 13), .ref (a 14), .ref (a 15), .int (σ.1 12 3), .int (σ.1 12 4), .int (σ.1 12 5)]
def oX5 (a : Nat → Nat) (σ : nS) : List Value := [.ref (a 17), .ref (a 18), .int (σ.1 16 2), .int (σ.1 16 3), .int (σ.1 16 4), .int (σ.1 16 5), .int (σ.1 16 6), .int (σ.1 16 7), .int (σ.1 16 8), .int (σ.1 16 9), .int (σ.1 16 10)]
def oX1 (a : Nat → Nat) (σ : nS) : List Value := [.int (σ.1 19 0), .int (σ.1 19 1), .int (σ.1 19 2), .int (σ.1 19 3)]
def oX2 (a : Nat → Nat) (σ : nS) : List Value := [.ref (a 21), .ref (a 22), .int (σ.1 20 2), .int (σ.1 20 3), .int (σ.1 20 4)]
def oX11 (a : Nat → Nat) (σ : nS) : List Value := [.int (σ.1 0 0), .int (σ.1 0 1), .int (σ.1 0 2), .int (σ.1 0 3), .int (σ.1 0 4), .int (σ.1 0 5), .int (σ.1 0 6), .int (σ.1 0 7), .int (σ.1 0 8), .ref (a 1), .ref (a 2), .ref (a 3), .ref (a 4), .ref (a 5), .ref (a 6), .ref (a 7), .ref (a 8), .ref (a 9), .ref (a 10), .int (σ.1 0 19), .int (σ.1 0 20), .int (σ.1 0 21), .int (σ.1 0 22), .int (σ.1 0 23), .int (σ.1 0 24), .int (σ.1 0 25), .long (σ.2 0 26), .ref (a 11), .ref (a 12), .ref (a 13), .ref (a 14), .int (σ.1 0 31), .int (σ.1 0 32), .int (σ.1 0 33), .int (σ.1 0 34), .int (σ.1 0 35), .int (σ.1 0 36), .int (σ.1 0 37), .int (σ.1 0 38), .int (σ.1 0 39), .int (σ.1 0 40), .int (σ.1 0 41), .int (σ.1 0 42), .ref (a 15), .ref (a 16), .ref (a 17), .int (σ.1 0 46), .int (σ.1 0 47), .int (σ.1 0 48), .int (σ.1 0 49), .int (σ.1 0 50), .ref (a 18), .ref (a 19), .ref (a 20), .ref (a 21), .ref (a 22), .int (σ.1 0 56), .int (σ.1 0 57), .ref (a 23), .ref (a 24), .ref (a 25), .int (σ.1 0 61), .ref (a 26), .ref (a 27), .ref (a 28), .int (σ.1 0 65), .int (σ.1 0 66), .int (σ.1 0 67)]
def oX10 (a : Nat → Nat) (σ : nS) : List Value := [.null, .null, .null, .null, .null, .int 0, .int (σ.1 9 6), .int (σ.1 9 7)]
def oX6 (a : Nat → Nat) (w : Nat) (σ : nS) : List Value := [.ref (a (w + 1)), .ref (a (w + 2)), .int (σ.1 w 2), .int (σ.1 w 3), .int (σ.1 w 4), .int (σ.1 w 5), .int (σ.1 w 6), .int (σ.1 w 7), .int (σ.1 w 8), .int (σ.1 w 9), .int (σ.1 w 10), .int (σ.1 w 11)]
def oX9 (n : Nat) (σ : nS) : List Value := [.int (σ.1 n 0), .int (σ.1 n 1), .int (σ.1 n 2), .int (σ.1 n 3), .int (σ.1 n 4), .int (σ.1 n 5), .int (σ.1 n 6), .int (σ.1 n 7), .int (σ.1 n 8), .int (σ.1 n 9), .int (σ.1 n 10)]
def NBw (cy : Nat → ClassId) (a : Nat → Nat) (σ : nS) : va_W := [(a 0, .inr (8, oX8 a σ)), (a 1, .inr (7, oX7 a σ)), (a 2, .inl (cy 0, 8, .inl (σ.1 2))), (a 3, .inl (cy 0, 4, .inl (σ.1 3))), (a 4, .inl (cy 0, 5, .inl (σ.1 4))), (a 5, .inl (cy 0, 600, .inl (σ.1 5))), (a 6, .inr (4, oX4 a σ)), (a 7, .inl (cy 0, 600, .inl (σ.1 7))), (a 8, .inl (cy 0, 48, .inl (σ.1 8))), (a 9, .inl (cy 0, 48, .inl (σ.1 9))), (a 10, .inr (3, oX3 a σ)), (a 11, .inl (cy 0, 4, .inl (σ.1 11))), (a 12, .inr (0, oX0 a σ)), (a 13, .inl (cy 0, 256, .inl (σ.1 13))), (a 14, .inl (cy 0, 256, .inl (σ.1 14))), (a 15, .inl (cy 0, 16, .inl (σ.1 15))), (a 16, .inr (5, oX5 a σ)), (a 17, .inl (cy 0, 500, .inl (σ.1 17))), (a 18, .inl (cy 0, 7, .inl (σ.1 18))), (a 19, .inr (1, oX1 a σ)), (a 20, .inr (2, oX2 a σ)), (a 21, .inl (cy 0, 200, .inl (σ.1 21))), (a 22, .inl (cy 0, 201, .inl (σ.1 22))), (a 23, .inl (cy 0, 500, .inl (σ.1 23))), (a 24, .inr (6, oX6 a 24 σ)), (a 25, .inl (cy 1, 96, .inr (.inl (σ.2 25)))), (a 26, .inl (cy 0, 2000, .inl (σ.1 26))), (a 27, .inr (6, oX6 a 27 σ)), (a 28, .inl (cy 1, 96, .inr (.inl (σ.2 28)))), (a 29, .inl (cy 0, 0, .inl (σ.1 29))), (a 30, .inr (6, oX6 a 30 σ)), (a 31, .inl (cy 1, 96, .inr (.inl (σ.2 31)))), (a 32, .inl (cy 0, 0, .inl (σ.1 32))), (a 33, .inr (6, oX6 a 33 σ)), (a 34, .inl (cy 1, 96, .inr (.inl (σ.2 34)))), (a 35, .inl (cy 0, 0, .inl (σ.1 35)))]
def Mw (cy : Nat → ClassId) (a : Nat → Nat) (σ : nS) : va_W := [(a 0, .inr (11, oX11 a σ)), (a 1, .inl (cy 0, 8, .inl (σ.1 1))), (a 2, .inl (cy 0, 4, .inl (σ.1 2))), (a 3, .inl (cy 0, 5, .inl (σ.1 3))), (a 4, .inl (cy 0, 120, .inl (σ.1 4))), (a 5, .inl (cy 0, 120, .inl (σ.1 5))), (a 6, .inl (cy 0, 120, .inl (σ.1 6))), (a 7, .inl (cy 0, 120, .inl (σ.1 7))), (a 8, .inl (cy 0, 120, .inl (σ.1 8))), (a 9, .inr (10, oX10 a σ)), (a 10, .inl (cy 2, 600, .inl (σ.1 10))), (a 11, .inl (cy 0, 48, .inl (σ.1 11))), (a 12, .inl (cy 0, 6144, .inl (σ.1 12))), (a 13, .inl (cy 0, 6144, .inl (σ.1 13))), (a 14, .inl (cy 0, 2000, .inl (σ.1 14))), (a 15, .inl (cy 0, 2000, .inl (σ.1 15))), (a 16, .inl (cy 0, 501, .inl (σ.1 16))), (a 17, .inl (cy 0, 501, .inl (σ.1 17))), (a 18, .inl (cy 0, 500, .inl (σ.1 18))), (a 19, .inl (cy 0, 7, .inl (σ.1 19))), (a 20, .inl (cy 0, 8, .inl (σ.1 20))), (a 21, .inl (cy 3, 24, .inl (σ.1 21))), (a 22, .inl (cy 0, 3, .inl (σ.1 22))), (a 23, .inr (9, oX9 23 σ)), (a 24, .inr (9, oX9 24 σ)), (a 25, .inl (cy 0, 4, .inl (σ.1 25))), (a 26, .inl (cy 0, 200, .inl (σ.1 26))), (a 27, .inl (cy 0, 201, .inl (σ.1 27))), (a 28, .inl (cy 0, 201, .inl (σ.1 28)))]
/-- an int array of a world at the place q, n long -/
def nAr (t : Nat) (X : nS → va_W) (cy : Nat → ClassId) (a : Nat → Nat) (q n : Nat) : Prop := ∀ σ : nS, (X σ)[q]? = some (a q, .inl (cy t, n, .inl (σ.1 q))) ∧ ∀ (i : Nat) (x : Int32), (X σ).set q (a q, .inl (cy t, n, .inl (upd (σ.1 q) i x))) = X (wr σ q i x)
def nAl (X : nS → va_W) (cy : Nat → ClassId) (a : Nat → Nat) (q n : Nat) : Prop := ∀ σ : nS, (X σ)[q]? = some (a q, .inl (cy 1, n, .inr (.inl (σ.2 q)))) ∧ ∀ (i : Nat) (x : Int64), (X σ).set q (a q, .inl (cy 1, n, .inr (.inl (vp_updL (σ.2 q) i x)))) = X (wl σ q i x)
def nWk (w : Nat) : Prop := w = 24 ∨ w = 27 ∨ w = 30 ∨ w = 33
def nPl (w : Nat) : Nat := bif Nat.beq w 24 then 2000 else 0
def nNt (n : Nat) : Prop := n = 23 ∨ n = 24
section NWORLD
variable {cy : Nat → ClassId} {a : Nat → Nat} {σ : nS}
theorem nbo_0 : (NBw cy a σ)[0]? = some (a 0, .inr (8, oX8 a σ)) := rfl
theorem nbp_0_12 (v : Int32) : (NBw cy a σ).set 0 (a 0, .inr (8, (oX8 a σ).set 12 (.int v))) = NBw cy a (wr σ 0 12 v) := rfl
theorem nbo_1 : (NBw cy a σ)[1]? = some (a 1, .inr (7, oX7 a σ)) := rfl
theorem nbp_1_0 (v : Int32) : (NBw cy a σ).set 1 (a 1, .inr (7, (oX7 a σ).set 0 (.int v))) = NBw cy a (wr σ 1 0 v) := rfl
theorem nbp_1_1 (v : Int32) : (NBw cy a σ).set 1 (a 1, .inr (7, (oX7 a σ).set 1 (.int v))) = NBw cy a (wr σ 1 1 v) := rfl
theorem nbp_1_2 (v : Int32) : (NBw cy a σ).set 1 (a 1, .inr (7, (oX7 a σ).set 2 (.int v))) = NBw cy a (wr σ 1 2 v) := rfl
theorem nbp_1_3 (v : Int32) : (NBw cy a σ).set 1 (a 1, .inr (7, (oX7 a σ).set 3 (.int v))) = NBw cy a (wr σ 1 3 v) := rfl
theorem nbp_1_4 (v : Int32) : (NBw cy a σ).set 1 (a 1, .inr (7, (oX7 a σ).set 4 (.int v))) = NBw cy a (wr σ 1 4 v) := rfl
theorem nbr_2 : nAr 0 (NBw cy a) cy a 2 8 := fun σ => ⟨rfl, fun i x => rfl⟩
theorem nbr_3 : nAr 0 (NBw cy a) cy a 3 4 := fun σ => ⟨rfl, fun i x => rfl⟩
theorem nbr_4 : nAr 0 (NBw cy a) cy a 4 5 := fun σ => ⟨rfl, fun i x => rfl⟩
theorem nbr_5 : nAr 0 (NBw cy a) cy a 5 600 := fun σ => ⟨rfl, fun i x => rfl⟩
theorem nbo_6 : (NBw cy a σ)[6]? = some (a 6, .inr (4, oX4 a σ)) := rfl
theorem nbp_6_1 (v : Int32) : (NBw cy a σ).set 6 (a 6, .inr (4, (oX4 a σ).set 1 (.int v))) = NBw cy a (wr σ 6 1 v) := rfl
theorem nbp_6_2 (v : Int32) : (NBw cy a σ).set 6 (a 6, .inr (4, (oX4 a σ).set 2 (.int v))) = NBw cy a (wr σ 6 2 v) := rfl
theorem nbp_6_3 (v : Int32) : (NBw cy a σ).set 6 (a 6, .inr (4, (oX4 a σ).set 3 (.int v))) = NBw cy a (wr σ 6 3 v) := rfl
theorem nbp_6_4 (v : Int32) : (NBw cy a σ).set 6 (a 6, .inr (4, (oX4 a σ).set 4 (.int v))) = NBw cy a (wr σ 6 4 v) := rfl
theorem nbp_6_5 (v : Int32) : (NBw cy a σ).set 6 (a 6, .inr (4, (oX4 a σ).set 5 (.int v))) = NBw cy a (wr σ 6 5 v) := rfl
theorem nbp_6_6 (v : Int32) : (NBw cy a σ).set 6 (a 6, .inr (4, (oX4 a σ).set 6 (.int v))) = NBw cy a (wr σ 6 6 v) := rfl
theorem nbp_6_7 (v : Int32) : (NBw cy a σ).set 6 (a 6, .inr (4, (oX4 a σ).set 7 (.int v))) = NBw cy a (wr σ 6 7 v) := rfl
theorem nbp_6_8 (v : Int32) : (NBw cy a σ).set 6 (a 6, .inr (4, (oX4 a σ).set 8 (.int v))) = NBw cy a (wr σ 6 8 v) := rfl
theorem nbp_6_9 (v : Int32) : (NBw cy a σ).set 6 (a 6, .inr (4, (oX4 a σ).set 9 (.int v))) = NBw cy a (wr σ 6 9 v) := rfl
theorem nbp_6_10 (v : Int32) : (NBw cy a σ).set 6 (a 6, .inr (4, (oX4 a σ).set 10 (.int v))) = NBw cy a (wr σ 6 10 v) := rfl
theorem nbp_6_13 (v : Int32) : (NBw cy a σ).set 6 (a 6, .inr (4, (oX4 a σ).set 13 (.int v))) = NBw cy a (wr σ 6 13 v) := rfl
theorem nbr_7 : nAr 0 (NBw cy a) cy a 7 600 := fun σ => ⟨rfl, fun i x => rfl⟩
theorem nbr_8 : nAr 0 (NBw cy a) cy a 8 48 := fun σ => ⟨rfl, fun i x => rfl⟩
theorem nbr_9 : nAr 0 (NBw cy a) cy a 9 48 := fun σ => ⟨rfl, fun i x => rfl⟩
theorem nbo_10 : (NBw cy a σ)[10]? = some (a 10, .inr (3, oX3 a σ)) := rfl
theorem nbr_11 : nAr 0 (NBw cy a) cy a 11 4 := fun σ => ⟨rfl, fun i x => rfl⟩
theorem nbo_12 : (NBw cy a σ)[12]? = some (a 12, .inr (0, oX0 a σ)) := rfl
theorem nbp_12_3 (v : Int32) : (NBw cy a σ).set 12 (a 12, .inr (0, (oX0 a σ).set 3 (.int v))) = NBw cy a (wr σ 12 3 v) := rfl
theorem nbp_12_4 (v : Int32) : (NBw cy a σ).set 12 (a 12, .inr (0, (oX0 a σ).set 4 (.int v))) = NBw cy a (wr σ 12 4 v) := rfl
theorem nbp_12_5 (v : Int32) : (NBw cy a σ).set 12 (a 12, .inr (0, (oX0 a σ).set 5 (.int v))) = NBw cy a (wr σ 12 5 v) := rfl
theorem nbr_13 : nAr 0 (NBw cy a) cy a 13 256 := fun σ => ⟨rfl, fun i x => rfl⟩
theorem nbr_14 : nAr 0 (NBw cy a) cy a 14 256 := fun σ => ⟨rfl, fun i x => rfl⟩
theorem nbr_15 : nAr 0 (NBw cy a) cy a 15 16 := fun σ => ⟨rfl, fun i x => rfl⟩
theorem nbo_16 : (NBw cy a σ)[16]? = some (a 16, .inr (5, oX5 a σ)) := rfl
theorem nbp_16_2 (v : Int32) : (NBw cy a σ).set 16 (a 16, .inr (5, (oX5 a σ).set 2 (.int v))) = NBw cy a (wr σ 16 2 v) := rfl
theorem nbp_16_3 (v : Int32) : (NBw cy a σ).set 16 (a 16, .inr (5, (oX5 a σ).set 3 (.int v))) = NBw cy a (wr σ 16 3 v) := rfl
theorem nbp_16_4 (v : Int32) : (NBw cy a σ).set 16 (a 16, .inr (5, (oX5 a σ).set 4 (.int v))) = NBw cy a (wr σ 16 4 v) := rfl
theorem nbp_16_5 (v : Int32) : (NBw cy a σ).set 16 (a 16, .inr (5, (oX5 a σ).set 5 (.int v))) = NBw cy a (wr σ 16 5 v) := rfl
theorem nbp_16_6 (v : Int32) : (NBw cy a σ).set 16 (a 16, .inr (5, (oX5 a σ).set 6 (.int v))) = NBw cy a (wr σ 16 6 v) := rfl
theorem nbp_16_7 (v : Int32) : (NBw cy a σ).set 16 (a 16, .inr (5, (oX5 a σ).set 7 (.int v))) = NBw cy a (wr σ 16 7 v) := rfl
theorem nbp_16_8 (v : Int32) : (NBw cy a σ).set 16 (a 16, .inr (5, (oX5 a σ).set 8 (.int v))) = NBw cy a (wr σ 16 8 v) := rfl
theorem nbp_16_9 (v : Int32) : (NBw cy a σ).set 16 (a 16, .inr (5, (oX5 a σ).set 9 (.int v))) = NBw cy a (wr σ 16 9 v) := rfl
theorem nbp_16_10 (v : Int32) : (NBw cy a σ).set 16 (a 16, .inr (5, (oX5 a σ).set 10 (.int v))) = NBw cy a (wr σ 16 10 v) := rfl
theorem nbr_17 : nAr 0 (NBw cy a) cy a 17 500 := fun σ => ⟨rfl, fun i x => rfl⟩
theorem nbr_18 : nAr 0 (NBw cy a) cy a 18 7 := fun σ => ⟨rfl, fun i x => rfl⟩
theorem nbo_19 : (NBw cy a σ)[19]? = some (a 19, .inr (1, oX1 a σ)) := rfl
theorem nbp_19_0 (v : Int32) : (NBw cy a σ).set 19 (a 19, .inr (1, (oX1 a σ).set 0 (.int v))) = NBw cy a (wr σ 19 0 v) := rfl
theorem nbp_19_1 (v : Int32) : (NBw cy a σ).set 19 (a 19, .inr (1, (oX1 a σ).set 1 (.int v))) = NBw cy a (wr σ 19 1 v) := rfl
theorem nbp_19_2 (v : Int32) : (NBw cy a σ).set 19 (a 19, .inr (1, (oX1 a σ).set 2 (.int v))) = NBw cy a (wr σ 19 2 v) := rfl
theorem nbp_19_3 (v : Int32) : (NBw cy a σ).set 19 (a 19, .inr (1, (oX1 a σ).set 3 (.int v))) = NBw cy a (wr σ 19 3 v) := rfl
theorem nbo_20 : (NBw cy a σ)[20]? = some (a 20, .inr (2, oX2 a σ)) := rfl
theorem nbp_20_2 (v : Int32) : (NBw cy a σ).set 20 (a 20, .inr (2, (oX2 a σ).set 2 (.int v))) = NBw cy a (wr σ 20 2 v) := rfl
theorem nbp_20_3 (v : Int32) : (NBw cy a σ).set 20 (a 20, .inr (2, (oX2 a σ).set 3 (.int v))) = NBw cy a (wr σ 20 3 v) := rfl
theorem nbp_20_4 (v : Int32) : (NBw cy a σ).set 20 (a 20, .inr (2, (oX2 a σ).set 4 (.int v))) = NBw cy a (wr σ 20 4 v) := rfl
theorem nbr_21 : nAr 0 (NBw cy a) cy a 21 200 := fun σ => ⟨rfl, fun i x => rfl⟩
theorem nbr_22 : nAr 0 (NBw cy a) cy a 22 201 := fun σ => ⟨rfl, fun i x => rfl⟩
theorem nbr_23 : nAr 0 (NBw cy a) cy a 23 500 := fun σ => ⟨rfl, fun i x => rfl⟩
theorem nbr_25 : nAl (NBw cy a) cy a 25 96 := fun σ => ⟨rfl, fun i x => rfl⟩
theorem nbr_26 : nAr 0 (NBw cy a) cy a 26 2000 := fun σ => ⟨rfl, fun i x => rfl⟩
theorem nbr_28 : nAl (NBw cy a) cy a 28 96 := fun σ => ⟨rfl, fun i x => rfl⟩
theorem nbr_29 : nAr 0 (NBw cy a) cy a 29 0 := fun σ => ⟨rfl, fun i x => rfl⟩
theorem nbr_31 : nAl (NBw cy a) cy a 31 96 := fun σ => ⟨rfl, fun i x => rfl⟩
theorem nbr_32 : nAr 0 (NBw cy a) cy a 32 0 := fun σ => ⟨rfl, fun i x => rfl⟩
theorem nbr_34 : nAl (NBw cy a) cy a 34 96 := fun σ => ⟨rfl, fun i x => rfl⟩
theorem nbr_35 : nAr 0 (NBw cy a) cy a 35 0 := fun σ => ⟨rfl, fun i x => rfl⟩
theorem mbo_0 : (Mw cy a σ)[0]? = some (a 0, .inr (11, oX11 a σ)) := rfl
theorem mbp_0_0 (v : Int32) : (Mw cy a σ).set 0 (a 0, .inr (11, (oX11 a σ).set 0 (.int v))) = Mw cy a (wr σ 0 0 v) := rfl
theorem mbp_0_1 (v : Int32) : (Mw cy a σ).set 0 (a 0, .inr (11, (oX11 a σ).set 1 (.int v))) = Mw cy a (wr σ 0 1 v) := rfl
theorem mbp_0_2 (v : Int32) : (Mw cy a σ).set 0 (a 0, .inr (11, (oX11 a σ).set 2 (.int v))) = Mw cy a (wr σ 0 2 v) := rfl
theorem mbp_0_3 (v : Int32) : (Mw cy a σ).set 0 (a 0, .inr (11, (oX11 a σ).set 3 (.int v))) = Mw cy a (wr σ 0 3 v) := rfl
theorem mbp_0_4 (v : Int32) : (Mw cy a σ).set 0 (a 0, .inr (11, (oX11 a σ).set 4 (.int v))) = Mw cy a (wr σ 0 4 v) := rfl
theorem mbp_0_5 (v : Int32) : (Mw cy a σ).set 0 (a 0, .inr (11, (oX11 a σ).set 5 (.int v))) = Mw cy a (wr σ 0 5 v) := rfl
theorem mbp_0_6 (v : Int32) : (Mw cy a σ).set 0 (a 0, .inr (11, (oX11 a σ).set 6 (.int v))) = Mw cy a (wr σ 0 6 v) := rfl
theorem mbp_0_7 (v : Int32) : (Mw cy a σ).set 0 (a 0, .inr (11, (oX11 a σ).set 7 (.int v))) = Mw cy a (wr σ 0 7 v) := rfl
theorem mbp_0_8 (v : Int32) : (Mw cy a σ).set 0 (a 0, .inr (11, (oX11 a σ).set 8 (.int v))) = Mw cy a (wr σ 0 8 v) := rfl
theorem mbp_0_19 (v : Int32) : (Mw cy a σ).set 0 (a 0, .inr (11, (oX11 a σ).set 19 (.int v))) = Mw cy a (wr σ 0 19 v) := rfl
theorem mbp_0_20 (v : Int32) : (Mw cy a σ).set 0 (a 0, .inr (11, (oX11 a σ).set 20 (.int v))) = Mw cy a (wr σ 0 20 v) := rfl
theorem mbp_0_21 (v : Int32) : (Mw cy a σ).set 0 (a 0, .inr (11, (oX11 a σ).set 21 (.int v))) = Mw cy a (wr σ 0 21 v) := rfl
theorem mbp_0_22 (v : Int32) : (Mw cy a σ).set 0 (a 0, .inr (11, (oX11 a σ).set 22 (.int v))) = Mw cy a (wr σ 0 22 v) := rfl
theorem mbp_0_23 (v : Int32) : (Mw cy a σ).set 0 (a 0, .inr (11, (oX11 a σ).set 23 (.int v))) = Mw cy a (wr σ 0 23 v) := rfl
theorem mbp_0_24 (v : Int32) : (Mw cy a σ).set 0 (a 0, .inr (11, (oX11 a σ).set 24 (.int v))) = Mw cy a (wr σ 0 24 v) := rfl
theorem mbp_0_25 (v : Int32) : (Mw cy a σ).set 0 (a 0, .inr (11, (oX11 a σ).set 25 (.int v))) = Mw cy a (wr σ 0 25 v) := rfl
theorem mbp_0_26 (v : Int64) : (Mw cy a σ).set 0 (a 0, .inr (11, (oX11 a σ).set 26 (.long v))) = Mw cy a (wl σ 0 26 v) := rfl
theorem mbp_0_31 (v : Int32) : (Mw cy a σ).set 0 (a 0, .inr (11, (oX11 a σ).set 31 (.int v))) = Mw cy a (wr σ 0 31 v) := rfl
theorem mbp_0_32 (v : Int32) : (Mw cy a σ).set 0 (a 0, .inr (11, (oX11 a σ).set 32 (.int v))) = Mw cy a (wr σ 0 32 v) := rfl
theorem mbp_0_33 (v : Int32) : (Mw cy a σ).set 0 (a 0, .inr (11, (oX11 a σ).set 33 (.int v))) = Mw cy a (wr σ 0 33 v) := rfl
theorem mbp_0_34 (v : Int32) : (Mw cy a σ).set 0 (a 0, .inr (11, (oX11 a σ).set 34 (.int v))) = Mw cy a (wr σ 0 34 v) := rfl
theorem mbp_0_35 (v : Int32) : (Mw cy a σ).set 0 (a 0, .inr (11, (oX11 a σ).set 35 (.int v))) = Mw cy a (wr σ 0 35 v) := rfl
theorem mbp_0_36 (v : Int32) : (Mw cy a σ).set 0 (a 0, .inr (11, (oX11 a σ).set 36 (.int v))) = Mw cy a (wr σ 0 36 v) := rfl
theorem mbp_0_37 (v : Int32) : (Mw cy a σ).set 0 (a 0, .inr (11, (oX11 a σ).set 37 (.int v))) = Mw cy a (wr σ 0 37 v) := rfl
theorem mbp_0_38 (v : Int32) : (Mw cy a σ).set 0 (a 0, .inr (11, (oX11 a σ).set 38 (.int v))) = Mw cy a (wr σ 0 38 v) := rfl
theorem mbp_0_39 (v : Int32) : (Mw cy a σ).set 0 (a 0, .inr (11, (oX11 a σ).set 39 (.int v))) = Mw cy a (wr σ 0 39 v) := rfl
theorem mbp_0_40 (v : Int32) : (Mw cy a σ).set 0 (a 0, .inr (11, (oX11 a σ).set 40 (.int v))) = Mw cy a (wr σ 0 40 v) := rfl
theorem mbp_0_41 (v : Int32) : (Mw cy a σ).set 0 (a 0, .inr (11, (oX11 a σ).set 41 (.int v))) = Mw cy a (wr σ 0 41 v) := rfl
theorem mbp_0_42 (v : Int32) : (Mw cy a σ).set 0 (a 0, .inr (11, (oX11 a σ).set 42 (.int v))) = Mw cy a (wr σ 0 42 v) := rfl
theorem mbp_0_46 (v : Int32) : (Mw cy a σ).set 0 (a 0, .inr (11, (oX11 a σ).set 46 (.int v))) = Mw cy a (wr σ 0 46 v) := rfl
theorem mbp_0_47 (v : Int32) : (Mw cy a σ).set 0 (a 0, .inr (11, (oX11 a σ).set 47 (.int v))) = Mw cy a (wr σ 0 47 v) := rfl
theorem mbp_0_48 (v : Int32) : (Mw cy a σ).set 0 (a 0, .inr (11, (oX11 a σ).set 48 (.int v))) = Mw cy a (wr σ 0 48 v) := rfl
theorem mbp_0_49 (v : Int32) : (Mw cy a σ).set 0 (a 0, .inr (11, (oX11 a σ).set 49 (.int v))) = Mw cy a (wr σ 0 49 v) := rfl
theorem mbp_0_50 (v : Int32) : (Mw cy a σ).set 0 (a 0, .inr (11, (oX11 a σ).set 50 (.int v))) = Mw cy a (wr σ 0 50 v) := rfl
theorem mbp_0_56 (v : Int32) : (Mw cy a σ).set 0 (a 0, .inr (11, (oX11 a σ).set 56 (.int v))) = Mw cy a (wr σ 0 56 v) := rfl
theorem mbp_0_57 (v : Int32) : (Mw cy a σ).set 0 (a 0, .inr (11, (oX11 a σ).set 57 (.int v))) = Mw cy a (wr σ 0 57 v) := rfl
theorem mbp_0_61 (v : Int32) : (Mw cy a σ).set 0 (a 0, .inr (11, (oX11 a σ).set 61 (.int v))) = Mw cy a (wr σ 0 61 v) := rfl
theorem mbp_0_65 (v : Int32) : (Mw cy a σ).set 0 (a 0, .inr (11, (oX11 a σ).set 65 (.int v))) = Mw cy a (wr σ 0 65 v) := rfl
theorem mbp_0_66 (v : Int32) : (Mw cy a σ).set 0 (a 0, .inr (11, (oX11 a σ).set 66 (.int v))) = Mw cy a (wr σ 0 66 v) := rfl
theorem mbp_0_67 (v : Int32) : (Mw cy a σ).set 0 (a 0, .inr (11, (oX11 a σ).set 67 (.int v))) = Mw cy a (wr σ 0 67 v) := rfl
theorem mbr_1 : nAr 0 (Mw cy a) cy a 1 8 := fun σ => ⟨rfl, fun i x => rfl⟩
theorem mbr_2 : nAr 0 (Mw cy a) cy a 2 4 := fun σ => ⟨rfl, fun i x => rfl⟩
theorem mbr_3 : nAr 0 (Mw cy a) cy a 3 5 := fun σ => ⟨rfl, fun i x => rfl⟩
theorem mbr_4 : nAr 0 (Mw cy a) cy a 4 120 := fun σ => ⟨rfl, fun i x => rfl⟩
theorem mbr_5 : nAr 0 (Mw cy a) cy a 5 120 := fun σ => ⟨rfl, fun i x => rfl⟩
theorem mbr_6 : nAr 0 (Mw cy a) cy a 6 120 := fun σ => ⟨rfl, fun i x => rfl⟩
theorem mbr_7 : nAr 0 (Mw cy a) cy a 7 120 := fun σ => ⟨rfl, fun i x => rfl⟩
theorem mbr_8 : nAr 0 (Mw cy a) cy a 8 120 := fun σ => ⟨rfl, fun i x => rfl⟩
theorem mbo_9 : (Mw cy a σ)[9]? = some (a 9, .inr (10, oX10 a σ)) := rfl
theorem mbp_9_6 (v : Int32) : (Mw cy a σ).set 9 (a 9, .inr (10, (oX10 a σ).set 6 (.int v))) = Mw cy a (wr σ 9 6 v) := rfl
theorem mbp_9_7 (v : Int32) : (Mw cy a σ).set 9 (a 9, .inr (10, (oX10 a σ).set 7 (.int v))) = Mw cy a (wr σ 9 7 v) := rfl
theorem mbr_10 : nAr 2 (Mw cy a) cy a 10 600 := fun σ => ⟨rfl, fun i x => rfl⟩
theorem mbr_11 : nAr 0 (Mw cy a) cy a 11 48 := fun σ => ⟨rfl, fun i x => rfl⟩
theorem mbr_12 : nAr 0 (Mw cy a) cy a 12 6144 := fun σ => ⟨rfl, fun i x => rfl⟩
theorem mbr_13 : nAr 0 (Mw cy a) cy a 13 6144 := fun σ => ⟨rfl, fun i x => rfl⟩
theorem mbr_14 : nAr 0 (Mw cy a) cy a 14 2000 := fun σ => ⟨rfl, fun i x => rfl⟩
theorem mbr_15 : nAr 0 (Mw cy a) cy a 15 2000 := fun σ => ⟨rfl, fun i x => rfl⟩
theorem mbr_16 : nAr 0 (Mw cy a) cy a 16 501 := fun σ => ⟨rfl, fun i x => rfl⟩
theorem mbr_17 : nAr 0 (Mw cy a) cy a 17 501 := fun σ => ⟨rfl, fun i x => rfl⟩
theorem mbr_18 : nAr 0 (Mw cy a) cy a 18 500 := fun σ => ⟨rfl, fun i x => rfl⟩
theorem mbr_19 : nAr 0 (Mw cy a) cy a 19 7 := fun σ => ⟨rfl, fun i x => rfl⟩
theorem mbr_20 : nAr 0 (Mw cy a) cy a 20 8 := fun σ => ⟨rfl, fun i x => rfl⟩
theorem mbr_21 : nAr 3 (Mw cy a) cy a 21 24 := fun σ => ⟨rfl, fun i x => rfl⟩
theorem mbr_22 : nAr 0 (Mw cy a) cy a 22 3 := fun σ => ⟨rfl, fun i x => rfl⟩
theorem mbr_25 : nAr 0 (Mw cy a) cy a 25 4 := fun σ => ⟨rfl, fun i x => rfl⟩
theorem mbr_26 : nAr 0 (Mw cy a) cy a 26 200 := fun σ => ⟨rfl, fun i x => rfl⟩
theorem mbr_27 : nAr 0 (Mw cy a) cy a 27 201 := fun σ => ⟨rfl, fun i x => rfl⟩
theorem mbr_28 : nAr 0 (Mw cy a) cy a 28 201 := fun σ => ⟨rfl, fun i x => rfl⟩
theorem nboW {w : Nat} (hw : nWk w) : (NBw cy a σ)[w]? = some (a w, .inr (6, oX6 a w σ)) := by rcases hw with rfl | rfl | rfl | rfl <;> rfl
theorem nbpW_2 {w : Nat} (hw : nWk w) (v : Int32) : (NBw cy a σ).set w (a w, .inr (6, (oX6 a w σ).set 2 (.int v))) = NBw cy a (wr σ w 2 v) := by rcases hw with rfl | rfl | rfl | rfl <;> rfl
theorem nbpW_3 {w : Nat} (hw : nWk w) (v : Int32) : (NBw cy a σ).set w (a w, .inr (6, (oX6 a w σ).set 3 (.int v))) = NBw cy a (wr σ w 3 v) := by rcases hw with rfl | rfl | rfl | rfl <;> rfl
theorem nbpW_4 {w : Nat} (hw : nWk w) (v : Int32) : (NBw cy a σ).set w (a w, .inr (6, (oX6 a w σ).set 4 (.int v))) = NBw cy a (wr σ w 4 v) := by rcases hw with rfl | rfl | rfl | rfl <;> rfl
theorem nbpW_5 {w : Nat} (hw : nWk w) (v : Int32) : (NBw cy a σ).set w (a w, .inr (6, (oX6 a w σ).set 5 (.int v))) = NBw cy a (wr σ w 5 v) := by rcases hw with rfl | rfl | rfl | rfl <;> rfl
theorem nbpW_6 {w : Nat} (hw : nWk w) (v : Int32) : (NBw cy a σ).set w (a w, .inr (6, (oX6 a w σ).set 6 (.int v))) = NBw cy a (wr σ w 6 v) := by rcases hw with rfl | rfl | rfl | rfl <;> rfl
theorem nbpW_7 {w : Nat} (hw : nWk w) (v : Int32) : (NBw cy a σ).set w (a w, .inr (6, (oX6 a w σ).set 7 (.int v))) = NBw cy a (wr σ w 7 v) := by rcases hw with rfl | rfl | rfl | rfl <;> rfl
theorem nbpW_8 {w : Nat} (hw : nWk w) (v : Int32) : (NBw cy a σ).set w (a w, .inr (6, (oX6 a w σ).set 8 (.int v))) = NBw cy a (wr σ w 8 v) := by rcases hw with rfl | rfl | rfl | rfl <;> rfl
theorem nbpW_9 {w : Nat} (hw : nWk w) (v : Int32) : (NBw cy a σ).set w (a w, .inr (6, (oX6 a w σ).set 9 (.int v))) = NBw cy a (wr σ w 9 v) := by rcases hw with rfl | rfl | rfl | rfl <;> rfl
theorem nbpW_10 {w : Nat} (hw : nWk w) (v : Int32) : (NBw cy a σ).set w (a w, .inr (6, (oX6 a w σ).set 10 (.int v))) = NBw cy a (wr σ w 10 v) := by rcases hw with rfl | rfl | rfl | rfl <;> rfl
theorem nbpW_11 {w : Nat} (hw : nWk w) (v : Int32) : (NBw cy a σ).set w (a w, .inr (6, (oX6 a w σ).set 11 (.int v))) = NBw cy a (wr σ w 11 v) := by rcases hw with rfl | rfl | rfl | rfl <;> rfl
theorem nbrS {w : Nat} (hw : nWk w) : nAl (NBw cy a) cy a (w + 1) 96 := by rcases hw with rfl | rfl | rfl | rfl <;> exact fun σ => ⟨rfl, fun i x => rfl⟩
theorem nbrP {w : Nat} (hw : nWk w) : nAr 0 (NBw cy a) cy a (w + 2) (nPl w) := by rcases hw with rfl | rfl | rfl | rfl <;> exact fun σ => ⟨rfl, fun i x => rfl⟩
theorem mboN {n : Nat} (hn : nNt n) : (Mw cy a σ)[n]? = some (a n, .inr (9, oX9 n σ)) := by rcases hn with rfl | rfl <;> rfl
theorem mbpN_0 {n : Nat} (hn : nNt n) (v : Int32) : (Mw cy a σ).set n (a n, .inr (9, (oX9 n σ).set 0 (.int v))) = Mw cy a (wr σ n 0 v) := by rcases hn with rfl | rfl <;> rfl
theorem mbpN_1 {n : Nat} (hn : nNt n) (v : Int32) : (Mw cy a σ).set n (a n, .inr (9, (oX9 n σ).set 1 (.int v))) = Mw cy a (wr σ n 1 v) := by rcases hn with rfl | rfl <;> rfl
theorem mbpN_2 {n : Nat} (hn : nNt n) (v : Int32) : (Mw cy a σ).set n (a n, .inr (9, (oX9 n σ).set 2 (.int v))) = Mw cy a (wr σ n 2 v) := by rcases hn with rfl | rfl <;> rfl
theorem mbpN_3 {n : Nat} (hn : nNt n) (v : Int32) : (Mw cy a σ).set n (a n, .inr (9, (oX9 n σ).set 3 (.int v))) = Mw cy a (wr σ n 3 v) := by rcases hn with rfl | rfl <;> rfl
theorem mbpN_4 {n : Nat} (hn : nNt n) (v : Int32) : (Mw cy a σ).set n (a n, .inr (9, (oX9 n σ).set 4 (.int v))) = Mw cy a (wr σ n 4 v) := by rcases hn with rfl | rfl <;> rfl
theorem mbpN_5 {n : Nat} (hn : nNt n) (v : Int32) : (Mw cy a σ).set n (a n, .inr (9, (oX9 n σ).set 5 (.int v))) = Mw cy a (wr σ n 5 v) := by rcases hn with rfl | rfl <;> rfl
theorem mbpN_6 {n : Nat} (hn : nNt n) (v : Int32) : (Mw cy a σ).set n (a n, .inr (9, (oX9 n σ).set 6 (.int v))) = Mw cy a (wr σ n 6 v) := by rcases hn with rfl | rfl <;> rfl
theorem mbpN_7 {n : Nat} (hn : nNt n) (v : Int32) : (Mw cy a σ).set n (a n, .inr (9, (oX9 n σ).set 7 (.int v))) = Mw cy a (wr σ n 7 v) := by rcases hn with rfl | rfl <;> rfl
theorem mbpN_8 {n : Nat} (hn : nNt n) (v : Int32) : (Mw cy a σ).set n (a n, .inr (9, (oX9 n σ).set 8 (.int v))) = Mw cy a (wr σ n 8 v) := by rcases hn with rfl | rfl <;> rfl
theorem mbpN_9 {n : Nat} (hn : nNt n) (v : Int32) : (Mw cy a σ).set n (a n, .inr (9, (oX9 n σ).set 9 (.int v))) = Mw cy a (wr σ n 9 v) := by rcases hn with rfl | rfl <;> rfl
theorem mbpN_10 {n : Nat} (hn : nNt n) (v : Int32) : (Mw cy a σ).set n (a n, .inr (9, (oX9 n σ).set 10 (.int v))) = Mw cy a (wr σ n 10 v) := by rcases hn with rfl | rfl <;> rfl
theorem nWk_24 : nWk 24 := by unfold nWk; omega
theorem nWk_27 : nWk 27 := by unfold nWk; omega
theorem nWk_30 : nWk 30 := by unfold nWk; omega
theorem nWk_33 : nWk 33 := by unfold nWk; omega
theorem nNt_23 : nNt 23 := by unfold nNt; omega
theorem nNt_24 : nNt 24 := by unfold nNt; omega
end NWORLD
section NROW2
variable {p : Program} {l : Launch} {e : Env} {R : Room} {s : State} {m : MethodId} {args : Array Value} {below : List Frame} {meth : Method} {c : Code} {H : Heap} {locs : List Loc} {Q : State → Prop}
variable {cc : ByteArray} {pc : Nat} {ls : Array Slot} {rest st0 : List Value} {D : va_G} {A : Nat → Prop} {X : nS → va_W} {σ : nS} {kt vt : Nat → Nat} {cy : Nat → ClassId} {a : Nat → Nat}
theorem na_iald (hx : p.tables.exec = Jvm.exec) (hb : c.code = cc) (hE : nEn D A cy X kt vt s) (hP : va_P D vwCl (X σ) H) {q n : Nat} (ha : nAr 0 X cy a q n) {i : Int32} (hin : vp_in i n) (hdg : decode cc pc = .ok (.iaload, 1))
    (kk : W p l e R s m args below meth c H locs 0 0 Q (F0 m (pc + 1) ls (.int (σ.1 q i.toNatClampNeg) :: rest))) : W p l e R s m args below meth c H locs 0 0 Q (F0 m pc ls (.int i :: .ref (a q) :: rest)) := nb_iald hx hb hE hP q (ha σ).1 hin hdg kk
theorem na_bald (hx : p.tables.exec = Jvm.exec) (hb : c.code = cc) (hE : nEn D A cy X kt vt s) (hP : va_P D vwCl (X σ) H) {q n : Nat} (ha : nAr 2 X cy a q n) {i : Int32} (hin : vp_in i n) (hdg : decode cc pc = .ok (.baload, 1))
    (kk : W p l e R s m args below meth c H locs 0 0 Q (F0 m (pc + 1) ls (.int (σ.1 q i.toNatClampNeg) :: rest))) : W p l e R s m args below meth c H locs 0 0 Q (F0 m pc ls (.int i :: .ref (a q) :: rest)) := nb_bald hx hb hE hP q (ha σ).1 hin hdg kk
theorem na_zald (hx : p.tables.exec = Jvm.exec) (hb : c.code = cc) (hE : nEn D A cy X kt vt s) (hP : va_P D vwCl (X σ) H) {q n : Nat} (ha : nAr 3 X cy a q n) {i : Int32} (hin : vp_in i n) (hdg : decode cc pc = .ok (.baload, 1))
    (kk : W p l e R s m args below meth c H locs 0 0 Q (F0 m (pc + 1) ls (.int (σ.1 q i.toNatClampNeg) :: rest))) : W p l e R s m args below meth c H locs 0 0 Q (F0 m pc ls (.int i :: .ref (a q) :: rest)) := nb_zald hx hb hE hP q (ha σ).1 hin hdg kk
theorem na_lald (hx : p.tables.exec = Jvm.exec) (hb : c.code = cc) (hE : nEn D A cy X kt vt s) (hP : va_P D vwCl (X σ) H) {q n : Nat} (ha : nAl X cy a q n) {i : Int32} (hin : vp_in i n) (hdg : decode cc pc = .ok (.laload, 1))
    (kk : W p l e R s m args below meth c H locs 0 0 Q (F0 m (pc + 1) ls (.long (σ.2 q i.toNatClampNeg) :: rest))) : W p l e R s m args below meth c H locs 0 0 Q (F0 m pc ls (.int i :: .ref (a q) :: rest)) := nb_lald hx hb hE hP q (ha σ).1 hin hdg kk
theorem na_iast (hx : p.tables.exec = Jvm.exec) (hb : c.code = cc) (hE : nEn D A cy X kt vt s) (hP : va_P D vwCl (X σ) H) (hS : va_S A s.heap H locs) {q n : Nat} (ha : nAr 0 X cy a q n) {i x : Int32} (hin : vp_in i n) (hdg : decode cc pc = .ok (.iastore, 1))
    (kk : ∀ (σ1 : nS), σ1 = wr σ q i.toNatClampNeg x → ∀ (H1 : Heap) (locs1 : List Loc), va_P D vwCl (X σ1) H1 → va_S A s.heap H1 locs1 → W p l e R s m args below meth c H1 locs1 0 0 Q (F0 m (pc + 1) ls rest)) : W p l e R s m args below meth c H locs 0 0 Q (F0 m pc ls (.int x :: .int i :: .ref (a q) :: rest)) := nb_iast hx hb hE hP hS q (ha σ).1 hin hdg ((ha σ).2 _ _) kk
theorem na_last (hx : p.tables.exec = Jvm.exec) (hb : c.code = cc) (hE : nEn D A cy X kt vt s) (hP : va_P D vwCl (X σ) H) (hS : va_S A s.heap H locs) {q n : Nat} (ha : nAl X cy a q n) {i : Int32} {x : Int64} (hin : vp_in i n) (hdg : decode cc pc = .ok (.lastore, 1))
    (kk : ∀ (σ1 : nS), σ1 = wl σ q i.toNatClampNeg x → ∀ (H1 : Heap) (locs1 : List Loc), va_P D vwCl (X σ1) H1 → va_S A s.heap H1 locs1 → W p l e R s m args below meth c H1 locs1 0 0 Q (F0 m (pc + 1) ls rest)) : W p l e R s m args below meth c H locs 0 0 Q (F0 m pc ls (.long x :: .int i :: .ref (a q) :: rest)) := nb_last hx hb hE hP hS q (ha σ).1 hin hdg ((ha σ).2 _ _) kk
theorem na_bast (hx : p.tables.exec = Jvm.exec) (hb : c.code = cc) (hE : nEn D A cy X kt vt s) (hP : va_P D vwCl (X σ) H) (hS : va_S A s.heap H locs) {q n : Nat} (ha : nAr 2 X cy a q n) {i x : Int32} (hin : vp_in i n) (hdg : decode cc pc = .ok (.bastore, 1))
    (kk : ∀ (σ1 : nS), σ1 = wr σ q i.toNatClampNeg (vp_nar .byte x) → ∀ (H1 : Heap) (locs1 : List Loc), va_P D vwCl (X σ1) H1 → va_S A s.heap H1 locs1 → W p l e R s m args below meth c H1 locs1 0 0 Q (F0 m (pc + 1) ls rest)) : W p l e R s m args below meth c H locs 0 0 Q (F0 m pc ls (.int x :: .int i :: .ref (a q) :: rest)) :=
  va_bast hx hb hE.1 hP (hE.2.1 σ) hS q 2 (ha σ).1 rfl hin hdg (fun H1 l1 h1 h2 h3 => kk _ rfl H1 l1 (by rw [← (ha σ).2]; exact h1) h3)
theorem na_zast (hx : p.tables.exec = Jvm.exec) (hb : c.code = cc) (hE : nEn D A cy X kt vt s) (hP : va_P D vwCl (X σ) H) (hS : va_S A s.heap H locs) {q n : Nat} (ha : nAr 3 X cy a q n) {i x : Int32} (hin : vp_in i n) (hdg : decode cc pc = .ok (.bastore, 1))
    (kk : ∀ (σ1 : nS), σ1 = wr σ q i.toNatClampNeg (vp_nar .boolean x) → ∀ (H1 : Heap) (locs1 : List Loc), va_P D vwCl (X σ1) H1 → va_S A s.heap H1 locs1 → W p l e R s m args below meth c H1 locs1 0 0 Q (F0 m (pc + 1) ls rest)) : W p l e R s m args below meth c H locs 0 0 Q (F0 m pc ls (.int x :: .int i :: .ref (a q) :: rest)) :=
  va_zast hx hb hE.1 hP (hE.2.1 σ) hS q 3 (ha σ).1 rfl hin hdg (fun H1 l1 h1 h2 h3 => kk _ rfl H1 l1 (by rw [← (ha σ).2]; exact h1) h3)
theorem na_alen (hx : p.tables.exec = Jvm.exec) (hb : c.code = cc) (hE : nEn D A cy X kt vt s) (hP : va_P D vwCl (X σ) H) {q n : Nat} (ha : nAr 0 X cy a q n) (hdg : decode cc pc = .ok (.arraylength, 1))
    (kk : W p l e R s m args below meth c H locs 0 0 Q (F0 m (pc + 1) ls (.int (Int32.ofNat n) :: rest))) : W p l e R s m args below meth c H locs 0 0 Q (F0 m pc ls (.ref (a q) :: rest)) := nb_alen hx hb hE hP q 0 (ha σ).1 rfl hdg kk
theorem na_alenL (hx : p.tables.exec = Jvm.exec) (hb : c.code = cc) (hE : nEn D A cy X kt vt s) (hP : va_P D vwCl (X σ) H) {q n : Nat} (ha : nAl X cy a q n) (hdg : decode cc pc = .ok (.arraylength, 1))
    (kk : W p l e R s m args below meth c H locs 0 0 Q (F0 m (pc + 1) ls (.int (Int32.ofNat n) :: rest))) : W p l e R s m args below meth c H locs 0 0 Q (F0 m pc ls (.ref (a q) :: rest)) := nb_alen hx hb hE hP q 1 (ha σ).1 rfl hdg kk
end NROW2
/-- what is fixed through a method's walk -/
def nCx (p : Program) (s : State) (m : MethodId) (args : Array Value) (meth : Method) (c : Code) (cc : ByteArray) (nL : Nat) (ret : Option FieldType) (own : String) (ws : List Cond) : Prop :=
  p.tables.exec = Jvm.exec ∧ c.code = cc ∧ meth.sig.returnType = ret ∧ c.maxLocals = nL ∧ s.vm.findClass own = some m.cls ∧ (∀ w ∈ ws, w.before args s = true) ∧ meth.locks = false
/-- a loop as n turns of its body at most -/
def nLp {β : Type} (z : β) (F : β → β) : Nat → β
  | 0 => z
  | n + 1 => F (nLp z F n)
/-- a truth value: 0 or 1 -/
def nZ {R : Type} (x : Int32) (b : Option R) : Option R := if x = 0 ∨ x = 1 then b else none
theorem nZ_e {R : Type} {x : Int32} {b : Option R} {r : R} (h : nZ x b = some r) : narrow .boolean (.int x) = .int x ∧ b = some r := by
  unfold nZ at h
  by_cases hc : x = 0 ∨ x = 1
  · rw [if_pos hc] at h
    rcases hc with rfl | rfl
    · exact ⟨rfl, h⟩
    · exact ⟨rfl, h⟩
  · rw [if_neg hc] at h
    cases h
theorem nI_ne {x k : Int32} {z : Int} (h : ¬ x = k) (hk : k.toInt = z) : x.toInt ≠ z := fun e => h (Int32.toInt_inj.mp (e.trans hk.symm))
/-- a char -/
def nCg {R : Type} (x : Int32) (b : Option R) : Option R := if 0 ≤ x.toInt ∧ x.toInt < 65536 then b else none
theorem nCg_e {R : Type} {x : Int32} {b : Option R} {r : R} (h : nCg x b = some r) : narrow .char (.int x) = .int x ∧ b = some r := by
  unfold nCg at h
  by_cases hc : 0 ≤ x.toInt ∧ x.toInt < 65536
  · rw [if_pos hc] at h
    refine ⟨?_, h⟩
    obtain ⟨j, hj, rfl⟩ := vp_in_of (x := x) (n := 65536) (vp_in_iff.mpr ⟨hc.1, by omega⟩) (by decide)
    exact (pk_charN hj).1
  · rw [if_neg hc] at h
    cases h
