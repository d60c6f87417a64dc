/-! LITERALS -/
theorem lt0 : (0 : Int32).toInt = 0 := by decide
theorem ln0 : (0 : Int32).toInt.toNat = 0 := by decide
theorem lx0 (V : List Value) : x_ix 0 V = V[0]? := rfl
theorem lt1 : (1 : Int32).toInt = 1 := by decide
theorem ln1 : (1 : Int32).toInt.toNat = 1 := by decide
theorem lx1 (V : List Value) : x_ix 1 V = V[1]? := rfl
theorem lt2 : (2 : Int32).toInt = 2 := by decide
theorem ln2 : (2 : Int32).toInt.toNat = 2 := by decide
theorem lx2 (V : List Value) : x_ix 2 V = V[2]? := rfl
theorem lt3 : (3 : Int32).toInt = 3 := by decide
theorem ln3 : (3 : Int32).toInt.toNat = 3 := by decide
theorem lx3 (V : List Value) : x_ix 3 V = V[3]? := rfl
theorem lt4 : (4 : Int32).toInt = 4 := by decide
theorem ln4 : (4 : Int32).toInt.toNat = 4 := by decide
theorem lx4 (V : List Value) : x_ix 4 V = V[4]? := rfl
theorem lt5 : (5 : Int32).toInt = 5 := by decide
theorem ln5 : (5 : Int32).toInt.toNat = 5 := by decide
theorem lx5 (V : List Value) : x_ix 5 V = V[5]? := rfl
theorem lt6 : (6 : Int32).toInt = 6 := by decide
theorem ln6 : (6 : Int32).toInt.toNat = 6 := by decide
theorem lx6 (V : List Value) : x_ix 6 V = V[6]? := rfl
theorem lt7 : (7 : Int32).toInt = 7 := by decide
theorem ln7 : (7 : Int32).toInt.toNat = 7 := by decide
theorem lx7 (V : List Value) : x_ix 7 V = V[7]? := rfl
theorem lt8 : (8 : Int32).toInt = 8 := by decide
theorem ln8 : (8 : Int32).toInt.toNat = 8 := by decide
theorem lx8 (V : List Value) : x_ix 8 V = V[8]? := rfl
theorem lt9 : (9 : Int32).toInt = 9 := by decide
theorem ln9 : (9 : Int32).toInt.toNat = 9 := by decide
theorem lx9 (V : List Value) : x_ix 9 V = V[9]? := rfl
theorem lt10 : (10 : Int32).toInt = 10 := by decide
theorem ln10 : (10 : Int32).toInt.toNat = 10 := by decide
theorem lx10 (V : List Value) : x_ix 10 V = V[10]? := rfl
theorem lt11 : (11 : Int32).toInt = 11 := by decide
theorem ln11 : (11 : Int32).toInt.toNat = 11 := by decide
theorem lx11 (V : List Value) : x_ix 11 V = V[11]? := rfl
theorem lt12 : (12 : Int32).toInt = 12 := by decide
theorem ln12 : (12 : Int32).toInt.toNat = 12 := by decide
theorem lx12 (V : List Value) : x_ix 12 V = V[12]? := rfl
theorem lt13 : (13 : Int32).toInt = 13 := by decide
theorem ln13 : (13 : Int32).toInt.toNat = 13 := by decide
theorem lx13 (V : List Value) : x_ix 13 V = V[13]? := rfl
theorem lt14 : (14 : Int32).toInt = 14 := by decide
theorem ln14 : (14 : Int32).toInt.toNat = 14 := by decide
theorem lx14 (V : List Value) : x_ix 14 V = V[14]? := rfl
theorem lt15 : (15 : Int32).toInt = 15 := by decide
theorem ln15 : (15 : Int32).toInt.toNat = 15 := by decide
theorem lx15 (V : List Value) : x_ix 15 V = V[15]? := rfl
theorem lt16 : (16 : Int32).toInt = 16 := by decide
theorem ln16 : (16 : Int32).toInt.toNat = 16 := by decide
theorem lx16 (V : List Value) : x_ix 16 V = V[16]? := rfl
theorem lt17 : (17 : Int32).toInt = 17 := by decide
theorem ln17 : (17 : Int32).toInt.toNat = 17 := by decide
theorem lx17 (V : List Value) : x_ix 17 V = V[17]? := rfl
theorem lt18 : (18 : Int32).toInt = 18 := by decide
theorem ln18 : (18 : Int32).toInt.toNat = 18 := by decide
theorem lx18 (V : List Value) : x_ix 18 V = V[18]? := rfl
theorem lt19 : (19 : Int32).toInt = 19 := by decide
theorem ln19 : (19 : Int32).toInt.toNat = 19 := by decide
theorem lx19 (V : List Value) : x_ix 19 V = V[19]? := rfl
theorem lt20 : (20 : Int32).toInt = 20 := by decide
theorem ln20 : (20 : Int32).toInt.toNat = 20 := by decide
theorem lx20 (V : List Value) : x_ix 20 V = V[20]? := rfl
theorem lt21 : (21 : Int32).toInt = 21 := by decide
theorem ln21 : (21 : Int32).toInt.toNat = 21 := by decide
theorem lx21 (V : List Value) : x_ix 21 V = V[21]? := rfl
theorem lt22 : (22 : Int32).toInt = 22 := by decide
theorem ln22 : (22 : Int32).toInt.toNat = 22 := by decide
theorem lx22 (V : List Value) : x_ix 22 V = V[22]? := rfl
theorem lt23 : (23 : Int32).toInt = 23 := by decide
theorem ln23 : (23 : Int32).toInt.toNat = 23 := by decide
theorem lx23 (V : List Value) : x_ix 23 V = V[23]? := rfl
theorem lt24 : (24 : Int32).toInt = 24 := by decide
theorem ln24 : (24 : Int32).toInt.toNat = 24 := by decide
theorem lx24 (V : List Value) : x_ix 24 V = V[24]? := rfl
theorem la0 : (0 : Int32) + 1 = 1 := by decide
theorem la1 : (1 : Int32) + 1 = 2 := by decide
theorem la2 : (2 : Int32) + 1 = 3 := by decide
theorem la3 : (3 : Int32) + 1 = 4 := by decide
theorem la4 : (4 : Int32) + 1 = 5 := by decide
theorem la5 : (5 : Int32) + 1 = 6 := by decide
theorem la6 : (6 : Int32) + 1 = 7 := by decide
theorem la7 : (7 : Int32) + 1 = 8 := by decide
theorem la8 : (8 : Int32) + 1 = 9 := by decide
theorem la9 : (9 : Int32) + 1 = 10 := by decide
theorem la10 : (10 : Int32) + 1 = 11 := by decide
theorem la11 : (11 : Int32) + 1 = 12 := by decide
theorem la12 : (12 : Int32) + 1 = 13 := by decide
theorem lb0 : (12 : Int32) + 0 = 12 := by decide
theorem lb1 : (12 : Int32) + 1 = 13 := by decide
theorem lb2 : (12 : Int32) + 2 = 14 := by decide
theorem lb3 : (12 : Int32) + 3 = 15 := by decide
theorem lb4 : (12 : Int32) + 4 = 16 := by decide
theorem lb5 : (12 : Int32) + 5 = 17 := by decide
theorem lb6 : (12 : Int32) + 6 = 18 := by decide
theorem lb7 : (12 : Int32) + 7 = 19 := by decide
theorem lb8 : (12 : Int32) + 8 = 20 := by decide
theorem lb9 : (12 : Int32) + 9 = 21 := by decide
theorem lb10 : (12 : Int32) + 10 = 22 := by decide
theorem lb11 : (12 : Int32) + 11 = 23 := by decide
theorem lb12 : (12 : Int32) + 12 = 24 := by decide
theorem lt60 : (60 : Int32).toInt = 60 := by decide
theorem lt400 : (400 : Int32).toInt = 400 := by decide
theorem lt900 : (900 : Int32).toInt = 900 := by decide
theorem ltm1 : (-1 : Int32).toInt = -1 := by decide
theorem ltm2 : (-2 : Int32).toInt = -2 := by decide
theorem ltm4 : (-4 : Int32).toInt = -4 := by decide
theorem ltm10000 : (-10000 : Int32).toInt = -10000 := by decide
theorem lt10000 : (10000 : Int32).toInt = 10000 := by decide
theorem lt1000000 : (1000000 : Int32).toInt = 1000000 := by decide
theorem ltm1000000 : (-1000000 : Int32).toInt = -1000000 := by decide
theorem lt10000000 : (10000000 : Int32).toInt = 10000000 := by decide
theorem lt2000 : (2000 : Int32).toInt = 2000 := by decide
theorem lt100000 : (100000 : Int32).toInt = 100000 := by decide
theorem x_ix_nI {j : Nat} {V : List Value} (h : j < 2 ^ 31) : x_ix (nI j) V = V[j]? := by
  unfold x_ix
  rw [nI_toInt h, if_neg (by omega)]
  rfl
theorem nI_nat {j : Nat} (h : j < 2 ^ 31) : (nI j).toInt.toNat = j := by rw [nI_toInt h]; rfl
theorem nI_400 : (400 : Int32) = nI 400 := rfl
theorem x_tag {w : xM} {a b t u : Nat} {f g : List Value} (ha : w a = some (t, f)) (hb : w b = some (u, g)) (h : t ≠ u) : a ≠ b := by
  intro e
  subst e
  rw [ha] at hb
  cases hb
  exact h rfl
theorem ls44 : (4 : Int32) - 4 = 0 := by decide
theorem ls54 : (5 : Int32) - 4 = 1 := by decide
theorem ls64 : (6 : Int32) - 4 = 2 := by decide
theorem ls74 : (7 : Int32) - 4 = 3 := by decide
theorem i1ne0 : ((1 : Int32) = 0) = False := by decide
theorem i0eq0 : ((0 : Int32) = 0) = True := by decide
