def wX (cy : Nat → ClassId) (a : Nat → Nat) (σ : St) : va_W := [(a 0, .inr (11, [.ref (a 1), .ref (a 2), .ref (a 3), .ref (a 5), .ref (a 6), .ref (a 7), .ref (a 8), .ref (a 9), .ref (a 10), .ref (a 16), .ref (a 17), .int (σ.1 0), .int (σ.1 1), .int (σ.1 2)])),
  (a 1, .inr (10, [.ref (a 18), .int (σ.1 3)])),
  (a 2, .inr (5, [.ref (a 1), .ref (a 4), .int (σ.1 4), .int (σ.1 5), .int (σ.1 6)])),
  (a 3, .inr (4, [.ref (a 19), .ref (a 20), .ref (a 21), .ref (a 22), .ref (a 23), .int (σ.1 7)])),
  (a 4, .inr (4, [.ref (a 24), .ref (a 25), .ref (a 26), .ref (a 27), .ref (a 28), .int (σ.1 8)])),
  (a 5, .inr (1, [.ref (a 29), .ref (a 30), .ref (a 31), .ref (a 32), .int (σ.1 9)])),
  (a 6, .inr (9, [.ref (a 33), .ref (a 34), .ref (a 35), .ref (a 36), .ref (a 37), .int (σ.1 10), .int (σ.1 11)])),
  (a 7, .inr (0, [.ref (a 38), .ref (a 39), .ref (a 40), .ref (a 11), .int (σ.1 12)])),
  (a 8, .inr (6, [.ref (a 41), .ref (a 42), .ref (a 43), .ref (a 44), .ref (a 45), .ref (a 12), .int (σ.1 13)])),
  (a 9, .inr (8, [.ref (a 46), .ref (a 47), .ref (a 48), .ref (a 13), .int (σ.1 14)])),
  (a 10, .inr (8, [.ref (a 49), .ref (a 50), .ref (a 51), .ref (a 14), .int (σ.1 15)])),
  (a 11, .inr (3, [.int 12, .ref (a 52), .ref (a 53)])),
  (a 12, .inr (3, [.int 80, .ref (a 54), .ref (a 55)])),
  (a 13, .inr (3, [.int 60, .ref (a 56), .ref (a 57)])),
  (a 14, .inr (3, [.int 40, .ref (a 58), .ref (a 59)])),
  (a 15, .inr (7, [.ref (a 60), .ref (a 61), .ref (a 62), .int (σ.1 16), .int (σ.1 17)])),
  (a 16, .inr (2, [.ref (a 3), .ref (a 5), .ref (a 6), .ref (a 7), .ref (a 8), .ref (a 9), .ref (a 10), .ref (a 15), .ref (a 63), .ref (a 64), .ref (a 72), .ref (a 73), .ref (a 74), .ref (a 75), .int (σ.1 18)])),
  (a 17, .inl (cy 1, 201, .inl (σ.2.1 17))),
  (a 18, .inl (cy 0, 400, .inl (σ.2.1 18))),
  (a 19, .inl (cy 1, 30, .inl (σ.2.1 19))),
  (a 20, .inl (cy 1, 30, .inl (σ.2.1 20))),
  (a 21, .inl (cy 1, 30, .inl (σ.2.1 21))),
  (a 22, .inl (cy 1, 30, .inl (σ.2.1 22))),
  (a 23, .inl (cy 1, 8, .inl (σ.2.1 23))),
  (a 24, .inl (cy 1, 30, .inl (σ.2.1 24))),
  (a 25, .inl (cy 1, 30, .inl (σ.2.1 25))),
  (a 26, .inl (cy 1, 30, .inl (σ.2.1 26))),
  (a 27, .inl (cy 1, 30, .inl (σ.2.1 27))),
  (a 28, .inl (cy 1, 8, .inl (σ.2.1 28))),
  (a 29, .inl (cy 1, 60, .inl (σ.2.1 29))),
  (a 30, .inl (cy 1, 60, .inl (σ.2.1 30))),
  (a 31, .inl (cy 1, 60, .inl (σ.2.1 31))),
  (a 32, .inl (cy 1, 40, .inl (σ.2.1 32))),
  (a 33, .inl (cy 1, 4, .inl (σ.2.1 33))),
  (a 34, .inl (cy 1, 60, .inl (σ.2.1 34))),
  (a 35, .inl (cy 1, 60, .inl (σ.2.1 35))),
  (a 36, .inl (cy 1, 60, .inl (σ.2.1 36))),
  (a 37, .inl (cy 1, 4, .inl (σ.2.1 37))),
  (a 38, .inl (cy 1, 12, .inl (σ.2.1 38))),
  (a 39, .inl (cy 1, 12, .inl (σ.2.1 39))),
  (a 40, .inl (cy 1, 12, .inl (σ.2.1 40))),
  (a 41, .inl (cy 1, 80, .inl (σ.2.1 41))),
  (a 42, .inl (cy 1, 80, .inl (σ.2.1 42))),
  (a 43, .inl (cy 1, 80, .inl (σ.2.1 43))),
  (a 44, .inl (cy 1, 80, .inl (σ.2.1 44))),
  (a 45, .inl (cy 1, 80, .inl (σ.2.1 45))),
  (a 46, .inl (cy 1, 60, .inl (σ.2.1 46))),
  (a 47, .inl (cy 1, 60, .inl (σ.2.1 47))),
  (a 48, .inl (cy 1, 60, .inl (σ.2.1 48))),
  (a 49, .inl (cy 1, 40, .inl (σ.2.1 49))),
  (a 50, .inl (cy 1, 40, .inl (σ.2.1 50))),
  (a 51, .inl (cy 1, 40, .inl (σ.2.1 51))),
  (a 52, .inl (cy 1, 144, .inl (σ.2.1 52))),
  (a 53, .inl (cy 1, 12, .inl (σ.2.1 53))),
  (a 54, .inl (cy 1, 960, .inl (σ.2.1 54))),
  (a 55, .inl (cy 1, 12, .inl (σ.2.1 55))),
  (a 56, .inl (cy 1, 720, .inl (σ.2.1 56))),
  (a 57, .inl (cy 1, 12, .inl (σ.2.1 57))),
  (a 58, .inl (cy 1, 480, .inl (σ.2.1 58))),
  (a 59, .inl (cy 1, 12, .inl (σ.2.1 59))),
  (a 60, .inl (cy 1, 80, .inl (σ.2.1 60))),
  (a 61, .inl (cy 1, 80, .inl (σ.2.1 61))),
  (a 62, .inl (cy 1, 80, .inl (σ.2.1 62))),
  (a 63, .inl (cy 1, 12, .inl (σ.2.1 63))),
  (a 64, .inl (cy 3, 7, .inr (.inr (.inr (.inr (fun i => if i < 7 then some (a (65 + i)) else none)))))),
  (a 65, .inl (cy 1, 12, .inl (σ.2.1 65))),
  (a 66, .inl (cy 1, 12, .inl (σ.2.1 66))),
  (a 67, .inl (cy 1, 12, .inl (σ.2.1 67))),
  (a 68, .inl (cy 1, 12, .inl (σ.2.1 68))),
  (a 69, .inl (cy 1, 12, .inl (σ.2.1 69))),
  (a 70, .inl (cy 1, 12, .inl (σ.2.1 70))),
  (a 71, .inl (cy 1, 12, .inl (σ.2.1 71))),
  (a 72, .inl (cy 2, 80, .inl (σ.2.1 72))),
  (a 73, .inl (cy 1, 80, .inl (σ.2.1 73))),
  (a 74, .inl (cy 1, 8, .inl (σ.2.1 74))),
  (a 75, .inl (cy 1, 8, .inl (σ.2.1 75)))]
theorem wX_fst (cy : Nat → ClassId) (a : Nat → Nat) (σ σ2 : St) : (wX cy a σ2).map (fun q => q.1) = (wX cy a σ).map (fun q => q.1) := rfl
theorem eX_0 (cy : Nat → ClassId) (a : Nat → Nat) (σ : St) : (wX cy a σ)[0]? = some (a 0, .inr (11, [.ref (a 1), .ref (a 2), .ref (a 3), .ref (a 5), .ref (a 6), .ref (a 7), .ref (a 8), .ref (a 9), .ref (a 10), .ref (a 16), .ref (a 17), .int (σ.1 0), .int (σ.1 1), .int (σ.1 2)])) := rfl
theorem eX_1 (cy : Nat → ClassId) (a : Nat → Nat) (σ : St) : (wX cy a σ)[1]? = some (a 1, .inr (10, [.ref (a 18), .int (σ.1 3)])) := rfl
theorem eX_2 (cy : Nat → ClassId) (a : Nat → Nat) (σ : St) : (wX cy a σ)[2]? = some (a 2, .inr (5, [.ref (a 1), .ref (a 4), .int (σ.1 4), .int (σ.1 5), .int (σ.1 6)])) := rfl
theorem eX_3 (cy : Nat → ClassId) (a : Nat → Nat) (σ : St) : (wX cy a σ)[3]? = some (a 3, .inr (4, [.ref (a 19), .ref (a 20), .ref (a 21), .ref (a 22), .ref (a 23), .int (σ.1 7)])) := rfl
theorem eX_4 (cy : Nat → ClassId) (a : Nat → Nat) (σ : St) : (wX cy a σ)[4]? = some (a 4, .inr (4, [.ref (a 24), .ref (a 25), .ref (a 26), .ref (a 27), .ref (a 28), .int (σ.1 8)])) := rfl
theorem eX_5 (cy : Nat → ClassId) (a : Nat → Nat) (σ : St) : (wX cy a σ)[5]? = some (a 5, .inr (1, [.ref (a 29), .ref (a 30), .ref (a 31), .ref (a 32), .int (σ.1 9)])) := rfl
theorem eX_6 (cy : Nat → ClassId) (a : Nat → Nat) (σ : St) : (wX cy a σ)[6]? = some (a 6, .inr (9, [.ref (a 33), .ref (a 34), .ref (a 35), .ref (a 36), .ref (a 37), .int (σ.1 10), .int (σ.1 11)])) := rfl
theorem eX_7 (cy : Nat → ClassId) (a : Nat → Nat) (σ : St) : (wX cy a σ)[7]? = some (a 7, .inr (0, [.ref (a 38), .ref (a 39), .ref (a 40), .ref (a 11), .int (σ.1 12)])) := rfl
theorem eX_8 (cy : Nat → ClassId) (a : Nat → Nat) (σ : St) : (wX cy a σ)[8]? = some (a 8, .inr (6, [.ref (a 41), .ref (a 42), .ref (a 43), .ref (a 44), .ref (a 45), .ref (a 12), .int (σ.1 13)])) := rfl
theorem eX_9 (cy : Nat → ClassId) (a : Nat → Nat) (σ : St) : (wX cy a σ)[9]? = some (a 9, .inr (8, [.ref (a 46), .ref (a 47), .ref (a 48), .ref (a 13), .int (σ.1 14)])) := rfl
theorem eX_10 (cy : Nat → ClassId) (a : Nat → Nat) (σ : St) : (wX cy a σ)[10]? = some (a 10, .inr (8, [.ref (a 49), .ref (a 50), .ref (a 51), .ref (a 14), .int (σ.1 15)])) := rfl
theorem eX_11 (cy : Nat → ClassId) (a : Nat → Nat) (σ : St) : (wX cy a σ)[11]? = some (a 11, .inr (3, [.int 12, .ref (a 52), .ref (a 53)])) := rfl
theorem eX_12 (cy : Nat → ClassId) (a : Nat → Nat) (σ : St) : (wX cy a σ)[12]? = some (a 12, .inr (3, [.int 80, .ref (a 54), .ref (a 55)])) := rfl
theorem eX_13 (cy : Nat → ClassId) (a : Nat → Nat) (σ : St) : (wX cy a σ)[13]? = some (a 13, .inr (3, [.int 60, .ref (a 56), .ref (a 57)])) := rfl
theorem eX_14 (cy : Nat → ClassId) (a : Nat → Nat) (σ : St) : (wX cy a σ)[14]? = some (a 14, .inr (3, [.int 40, .ref (a 58), .ref (a 59)])) := rfl
theorem eX_15 (cy : Nat → ClassId) (a : Nat → Nat) (σ : St) : (wX cy a σ)[15]? = some (a 15, .inr (7, [.ref (a 60), .ref (a 61), .ref (a 62), .int (σ.1 16), .int (σ.1 17)])) := rfl
theorem eX_16 (cy : Nat → ClassId) (a : Nat → Nat) (σ : St) : (wX cy a σ)[16]? = some (a 16, .inr (2, [.ref (a 3), .ref (a 5), .ref (a 6), .ref (a 7), .ref (a 8), .ref (a 9), .ref (a 10), .ref (a 15), .ref (a 63), .ref (a 64), .ref (a 72), .ref (a 73), .ref (a 74), .ref (a 75), .int (σ.1 18)])) := rfl
theorem eX_17 (cy : Nat → ClassId) (a : Nat → Nat) (σ : St) : (wX cy a σ)[17]? = some (a 17, .inl (cy 1, 201, .inl (σ.2.1 17))) := rfl
theorem eX_18 (cy : Nat → ClassId) (a : Nat → Nat) (σ : St) : (wX cy a σ)[18]? = some (a 18, .inl (cy 0, 400, .inl (σ.2.1 18))) := rfl
theorem eX_19 (cy : Nat → ClassId) (a : Nat → Nat) (σ : St) : (wX cy a σ)[19]? = some (a 19, .inl (cy 1, 30, .inl (σ.2.1 19))) := rfl
theorem eX_20 (cy : Nat → ClassId) (a : Nat → Nat) (σ : St) : (wX cy a σ)[20]? = some (a 20, .inl (cy 1, 30, .inl (σ.2.1 20))) := rfl
theorem eX_21 (cy : Nat → ClassId) (a : Nat → Nat) (σ : St) : (wX cy a σ)[21]? = some (a 21, .inl (cy 1, 30, .inl (σ.2.1 21))) := rfl
theorem eX_22 (cy : Nat → ClassId) (a : Nat → Nat) (σ : St) : (wX cy a σ)[22]? = some (a 22, .inl (cy 1, 30, .inl (σ.2.1 22))) := rfl
theorem eX_23 (cy : Nat → ClassId) (a : Nat → Nat) (σ : St) : (wX cy a σ)[23]? = some (a 23, .inl (cy 1, 8, .inl (σ.2.1 23))) := rfl
theorem eX_24 (cy : Nat → ClassId) (a : Nat → Nat) (σ : St) : (wX cy a σ)[24]? = some (a 24, .inl (cy 1, 30, .inl (σ.2.1 24))) := rfl
theorem eX_25 (cy : Nat → ClassId) (a : Nat → Nat) (σ : St) : (wX cy a σ)[25]? = some (a 25, .inl (cy 1, 30, .inl (σ.2.1 25))) := rfl
theorem eX_26 (cy : Nat → ClassId) (a : Nat → Nat) (σ : St) : (wX cy a σ)[26]? = some (a 26, .inl (cy 1, 30, .inl (σ.2.1 26))) := rfl
theorem eX_27 (cy : Nat → ClassId) (a : Nat → Nat) (σ : St) : (wX cy a σ)[27]? = some (a 27, .inl (cy 1, 30, .inl (σ.2.1 27))) := rfl
theorem eX_28 (cy : Nat → ClassId) (a : Nat → Nat) (σ : St) : (wX cy a σ)[28]? = some (a 28, .inl (cy 1, 8, .inl (σ.2.1 28))) := rfl
theorem eX_29 (cy : Nat → ClassId) (a : Nat → Nat) (σ : St) : (wX cy a σ)[29]? = some (a 29, .inl (cy 1, 60, .inl (σ.2.1 29))) := rfl
theorem eX_30 (cy : Nat → ClassId) (a : Nat → Nat) (σ : St) : (wX cy a σ)[30]? = some (a 30, .inl (cy 1, 60, .inl (σ.2.1 30))) := rfl
theorem eX_31 (cy : Nat → ClassId) (a : Nat → Nat) (σ : St) : (wX cy a σ)[31]? = some (a 31, .inl (cy 1, 60, .inl (σ.2.1 31))) := rfl
theorem eX_32 (cy : Nat → ClassId) (a : Nat → Nat) (σ : St) : (wX cy a σ)[32]? = some (a 32, .inl (cy 1, 40, .inl (σ.2.1 32))) := rfl
theorem eX_33 (cy : Nat → ClassId) (a : Nat → Nat) (σ : St) : (wX cy a σ)[33]? = some (a 33, .inl (cy 1, 4, .inl (σ.2.1 33))) := rfl
theorem eX_34 (cy : Nat → ClassId) (a : Nat → Nat) (σ : St) : (wX cy a σ)[34]? = some (a 34, .inl (cy 1, 60, .inl (σ.2.1 34))) := rfl
theorem eX_35 (cy : Nat → ClassId) (a : Nat → Nat) (σ : St) : (wX cy a σ)[35]? = some (a 35, .inl (cy 1, 60, .inl (σ.2.1 35))) := rfl
theorem eX_36 (cy : Nat → ClassId) (a : Nat → Nat) (σ : St) : (wX cy a σ)[36]? = some (a 36, .inl (cy 1, 60, .inl (σ.2.1 36))) := rfl
theorem eX_37 (cy : Nat → ClassId) (a : Nat → Nat) (σ : St) : (wX cy a σ)[37]? = some (a 37, .inl (cy 1, 4, .inl (σ.2.1 37))) := rfl
theorem eX_38 (cy : Nat → ClassId) (a : Nat → Nat) (σ : St) : (wX cy a σ)[38]? = some (a 38, .inl (cy 1, 12, .inl (σ.2.1 38))) := rfl
theorem eX_39 (cy : Nat → ClassId) (a : Nat → Nat) (σ : St) : (wX cy a σ)[39]? = some (a 39, .inl (cy 1, 12, .inl (σ.2.1 39))) := rfl
theorem eX_40 (cy : Nat → ClassId) (a : Nat → Nat) (σ : St) : (wX cy a σ)[40]? = some (a 40, .inl (cy 1, 12, .inl (σ.2.1 40))) := rfl
theorem eX_41 (cy : Nat → ClassId) (a : Nat → Nat) (σ : St) : (wX cy a σ)[41]? = some (a 41, .inl (cy 1, 80, .inl (σ.2.1 41))) := rfl
theorem eX_42 (cy : Nat → ClassId) (a : Nat → Nat) (σ : St) : (wX cy a σ)[42]? = some (a 42, .inl (cy 1, 80, .inl (σ.2.1 42))) := rfl
theorem eX_43 (cy : Nat → ClassId) (a : Nat → Nat) (σ : St) : (wX cy a σ)[43]? = some (a 43, .inl (cy 1, 80, .inl (σ.2.1 43))) := rfl
theorem eX_44 (cy : Nat → ClassId) (a : Nat → Nat) (σ : St) : (wX cy a σ)[44]? = some (a 44, .inl (cy 1, 80, .inl (σ.2.1 44))) := rfl
theorem eX_45 (cy : Nat → ClassId) (a : Nat → Nat) (σ : St) : (wX cy a σ)[45]? = some (a 45, .inl (cy 1, 80, .inl (σ.2.1 45))) := rfl
theorem eX_46 (cy : Nat → ClassId) (a : Nat → Nat) (σ : St) : (wX cy a σ)[46]? = some (a 46, .inl (cy 1, 60, .inl (σ.2.1 46))) := rfl
theorem eX_47 (cy : Nat → ClassId) (a : Nat → Nat) (σ : St) : (wX cy a σ)[47]? = some (a 47, .inl (cy 1, 60, .inl (σ.2.1 47))) := rfl
theorem eX_48 (cy : Nat → ClassId) (a : Nat → Nat) (σ : St) : (wX cy a σ)[48]? = some (a 48, .inl (cy 1, 60, .inl (σ.2.1 48))) := rfl
theorem eX_49 (cy : Nat → ClassId) (a : Nat → Nat) (σ : St) : (wX cy a σ)[49]? = some (a 49, .inl (cy 1, 40, .inl (σ.2.1 49))) := rfl
theorem eX_50 (cy : Nat → ClassId) (a : Nat → Nat) (σ : St) : (wX cy a σ)[50]? = some (a 50, .inl (cy 1, 40, .inl (σ.2.1 50))) := rfl
theorem eX_51 (cy : Nat → ClassId) (a : Nat → Nat) (σ : St) : (wX cy a σ)[51]? = some (a 51, .inl (cy 1, 40, .inl (σ.2.1 51))) := rfl
theorem eX_52 (cy : Nat → ClassId) (a : Nat → Nat) (σ : St) : (wX cy a σ)[52]? = some (a 52, .inl (cy 1, 144, .inl (σ.2.1 52))) := rfl
theorem eX_53 (cy : Nat → ClassId) (a : Nat → Nat) (σ : St) : (wX cy a σ)[53]? = some (a 53, .inl (cy 1, 12, .inl (σ.2.1 53))) := rfl
theorem eX_54 (cy : Nat → ClassId) (a : Nat → Nat) (σ : St) : (wX cy a σ)[54]? = some (a 54, .inl (cy 1, 960, .inl (σ.2.1 54))) := rfl
theorem eX_55 (cy : Nat → ClassId) (a : Nat → Nat) (σ : St) : (wX cy a σ)[55]? = some (a 55, .inl (cy 1, 12, .inl (σ.2.1 55))) := rfl
theorem eX_56 (cy : Nat → ClassId) (a : Nat → Nat) (σ : St) : (wX cy a σ)[56]? = some (a 56, .inl (cy 1, 720, .inl (σ.2.1 56))) := rfl
theorem eX_57 (cy : Nat → ClassId) (a : Nat → Nat) (σ : St) : (wX cy a σ)[57]? = some (a 57, .inl (cy 1, 12, .inl (σ.2.1 57))) := rfl
theorem eX_58 (cy : Nat → ClassId) (a : Nat → Nat) (σ : St) : (wX cy a σ)[58]? = some (a 58, .inl (cy 1, 480, .inl (σ.2.1 58))) := rfl
theorem eX_59 (cy : Nat → ClassId) (a : Nat → Nat) (σ : St) : (wX cy a σ)[59]? = some (a 59, .inl (cy 1, 12, .inl (σ.2.1 59))) := rfl
theorem eX_60 (cy : Nat → ClassId) (a : Nat → Nat) (σ : St) : (wX cy a σ)[60]? = some (a 60, .inl (cy 1, 80, .inl (σ.2.1 60))) := rfl
theorem eX_61 (cy : Nat → ClassId) (a : Nat → Nat) (σ : St) : (wX cy a σ)[61]? = some (a 61, .inl (cy 1, 80, .inl (σ.2.1 61))) := rfl
theorem eX_62 (cy : Nat → ClassId) (a : Nat → Nat) (σ : St) : (wX cy a σ)[62]? = some (a 62, .inl (cy 1, 80, .inl (σ.2.1 62))) := rfl
theorem eX_63 (cy : Nat → ClassId) (a : Nat → Nat) (σ : St) : (wX cy a σ)[63]? = some (a 63, .inl (cy 1, 12, .inl (σ.2.1 63))) := rfl
theorem eX_64 (cy : Nat → ClassId) (a : Nat → Nat) (σ : St) : (wX cy a σ)[64]? = some (a 64, .inl (cy 3, 7, .inr (.inr (.inr (.inr (fun i => if i < 7 then some (a (65 + i)) else none)))))) := rfl
theorem eX_65 (cy : Nat → ClassId) (a : Nat → Nat) (σ : St) : (wX cy a σ)[65]? = some (a 65, .inl (cy 1, 12, .inl (σ.2.1 65))) := rfl
theorem eX_66 (cy : Nat → ClassId) (a : Nat → Nat) (σ : St) : (wX cy a σ)[66]? = some (a 66, .inl (cy 1, 12, .inl (σ.2.1 66))) := rfl
theorem eX_67 (cy : Nat → ClassId) (a : Nat → Nat) (σ : St) : (wX cy a σ)[67]? = some (a 67, .inl (cy 1, 12, .inl (σ.2.1 67))) := rfl
theorem eX_68 (cy : Nat → ClassId) (a : Nat → Nat) (σ : St) : (wX cy a σ)[68]? = some (a 68, .inl (cy 1, 12, .inl (σ.2.1 68))) := rfl
theorem eX_69 (cy : Nat → ClassId) (a : Nat → Nat) (σ : St) : (wX cy a σ)[69]? = some (a 69, .inl (cy 1, 12, .inl (σ.2.1 69))) := rfl
theorem eX_70 (cy : Nat → ClassId) (a : Nat → Nat) (σ : St) : (wX cy a σ)[70]? = some (a 70, .inl (cy 1, 12, .inl (σ.2.1 70))) := rfl
theorem eX_71 (cy : Nat → ClassId) (a : Nat → Nat) (σ : St) : (wX cy a σ)[71]? = some (a 71, .inl (cy 1, 12, .inl (σ.2.1 71))) := rfl
theorem eX_72 (cy : Nat → ClassId) (a : Nat → Nat) (σ : St) : (wX cy a σ)[72]? = some (a 72, .inl (cy 2, 80, .inl (σ.2.1 72))) := rfl
theorem eX_73 (cy : Nat → ClassId) (a : Nat → Nat) (σ : St) : (wX cy a σ)[73]? = some (a 73, .inl (cy 1, 80, .inl (σ.2.1 73))) := rfl
theorem eX_74 (cy : Nat → ClassId) (a : Nat → Nat) (σ : St) : (wX cy a σ)[74]? = some (a 74, .inl (cy 1, 8, .inl (σ.2.1 74))) := rfl
theorem eX_75 (cy : Nat → ClassId) (a : Nat → Nat) (σ : St) : (wX cy a σ)[75]? = some (a 75, .inl (cy 1, 8, .inl (σ.2.1 75))) := rfl
theorem sX_0 (cy : Nat → ClassId) (a : Nat → Nat) (σ : St) (v : Int32) : (wX cy a σ).set 0 (a 0, .inr (11, [.ref (a 1), .ref (a 2), .ref (a 3), .ref (a 5), .ref (a 6), .ref (a 7), .ref (a 8), .ref (a 9), .ref (a 10), .ref (a 16), .ref (a 17), .int (σ.1 0), .int (σ.1 1), .int (σ.1 2)].set 11 (.int v))) = wX cy a (fF σ 0 v) := rfl
theorem sX_1 (cy : Nat → ClassId) (a : Nat → Nat) (σ : St) (v : Int32) : (wX cy a σ).set 0 (a 0, .inr (11, [.ref (a 1), .ref (a 2), .ref (a 3), .ref (a 5), .ref (a 6), .ref (a 7), .ref (a 8), .ref (a 9), .ref (a 10), .ref (a 16), .ref (a 17), .int (σ.1 0), .int (σ.1 1), .int (σ.1 2)].set 12 (.int v))) = wX cy a (fF σ 1 v) := rfl
theorem sX_2 (cy : Nat → ClassId) (a : Nat → Nat) (σ : St) (v : Int32) : (wX cy a σ).set 0 (a 0, .inr (11, [.ref (a 1), .ref (a 2), .ref (a 3), .ref (a 5), .ref (a 6), .ref (a 7), .ref (a 8), .ref (a 9), .ref (a 10), .ref (a 16), .ref (a 17), .int (σ.1 0), .int (σ.1 1), .int (σ.1 2)].set 13 (.int v))) = wX cy a (fF σ 2 v) := rfl
theorem sX_3 (cy : Nat → ClassId) (a : Nat → Nat) (σ : St) (v : Int32) : (wX cy a σ).set 1 (a 1, .inr (10, [.ref (a 18), .int (σ.1 3)].set 1 (.int v))) = wX cy a (fF σ 3 v) := rfl
theorem sX_4 (cy : Nat → ClassId) (a : Nat → Nat) (σ : St) (v : Int32) : (wX cy a σ).set 2 (a 2, .inr (5, [.ref (a 1), .ref (a 4), .int (σ.1 4), .int (σ.1 5), .int (σ.1 6)].set 2 (.int v))) = wX cy a (fF σ 4 v) := rfl
theorem sX_5 (cy : Nat → ClassId) (a : Nat → Nat) (σ : St) (v : Int32) : (wX cy a σ).set 2 (a 2, .inr (5, [.ref (a 1), .ref (a 4), .int (σ.1 4), .int (σ.1 5), .int (σ.1 6)].set 3 (.int v))) = wX cy a (fF σ 5 v) := rfl
theorem sX_6 (cy : Nat → ClassId) (a : Nat → Nat) (σ : St) (v : Int32) : (wX cy a σ).set 2 (a 2, .inr (5, [.ref (a 1), .ref (a 4), .int (σ.1 4), .int (σ.1 5), .int (σ.1 6)].set 4 (.int v))) = wX cy a (fF σ 6 v) := rfl
theorem sX_7 (cy : Nat → ClassId) (a : Nat → Nat) (σ : St) (v : Int32) : (wX cy a σ).set 3 (a 3, .inr (4, [.ref (a 19), .ref (a 20), .ref (a 21), .ref (a 22), .ref (a 23), .int (σ.1 7)].set 5 (.int v))) = wX cy a (fF σ 7 v) := rfl
theorem sX_8 (cy : Nat → ClassId) (a : Nat → Nat) (σ : St) (v : Int32) : (wX cy a σ).set 4 (a 4, .inr (4, [.ref (a 24), .ref (a 25), .ref (a 26), .ref (a 27), .ref (a 28), .int (σ.1 8)].set 5 (.int v))) = wX cy a (fF σ 8 v) := rfl
theorem sX_9 (cy : Nat → ClassId) (a : Nat → Nat) (σ : St) (v : Int32) : (wX cy a σ).set 5 (a 5, .inr (1, [.ref (a 29), .ref (a 30), .ref (a 31), .ref (a 32), .int (σ.1 9)].set 4 (.int v))) = wX cy a (fF σ 9 v) := rfl
theorem sX_10 (cy : Nat → ClassId) (a : Nat → Nat) (σ : St) (v : Int32) : (wX cy a σ).set 6 (a 6, .inr (9, [.ref (a 33), .ref (a 34), .ref (a 35), .ref (a 36), .ref (a 37), .int (σ.1 10), .int (σ.1 11)].set 5 (.int v))) = wX cy a (fF σ 10 v) := rfl
theorem sX_11 (cy : Nat → ClassId) (a : Nat → Nat) (σ : St) (v : Int32) : (wX cy a σ).set 6 (a 6, .inr (9, [.ref (a 33), .ref (a 34), .ref (a 35), .ref (a 36), .ref (a 37), .int (σ.1 10), .int (σ.1 11)].set 6 (.int v))) = wX cy a (fF σ 11 v) := rfl
theorem sX_12 (cy : Nat → ClassId) (a : Nat → Nat) (σ : St) (v : Int32) : (wX cy a σ).set 7 (a 7, .inr (0, [.ref (a 38), .ref (a 39), .ref (a 40), .ref (a 11), .int (σ.1 12)].set 4 (.int v))) = wX cy a (fF σ 12 v) := rfl
theorem sX_13 (cy : Nat → ClassId) (a : Nat → Nat) (σ : St) (v : Int32) : (wX cy a σ).set 8 (a 8, .inr (6, [.ref (a 41), .ref (a 42), .ref (a 43), .ref (a 44), .ref (a 45), .ref (a 12), .int (σ.1 13)].set 6 (.int v))) = wX cy a (fF σ 13 v) := rfl
theorem sX_14 (cy : Nat → ClassId) (a : Nat → Nat) (σ : St) (v : Int32) : (wX cy a σ).set 9 (a 9, .inr (8, [.ref (a 46), .ref (a 47), .ref (a 48), .ref (a 13), .int (σ.1 14)].set 4 (.int v))) = wX cy a (fF σ 14 v) := rfl
theorem sX_15 (cy : Nat → ClassId) (a : Nat → Nat) (σ : St) (v : Int32) : (wX cy a σ).set 10 (a 10, .inr (8, [.ref (a 49), .ref (a 50), .ref (a 51), .ref (a 14), .int (σ.1 15)].set 4 (.int v))) = wX cy a (fF σ 15 v) := rfl
theorem sX_16 (cy : Nat → ClassId) (a : Nat → Nat) (σ : St) (v : Int32) : (wX cy a σ).set 15 (a 15, .inr (7, [.ref (a 60), .ref (a 61), .ref (a 62), .int (σ.1 16), .int (σ.1 17)].set 3 (.int v))) = wX cy a (fF σ 16 v) := rfl
theorem sX_17 (cy : Nat → ClassId) (a : Nat → Nat) (σ : St) (v : Int32) : (wX cy a σ).set 15 (a 15, .inr (7, [.ref (a 60), .ref (a 61), .ref (a 62), .int (σ.1 16), .int (σ.1 17)].set 4 (.int v))) = wX cy a (fF σ 17 v) := rfl
theorem sX_18 (cy : Nat → ClassId) (a : Nat → Nat) (σ : St) (v : Int32) : (wX cy a σ).set 16 (a 16, .inr (2, [.ref (a 3), .ref (a 5), .ref (a 6), .ref (a 7), .ref (a 8), .ref (a 9), .ref (a 10), .ref (a 15), .ref (a 63), .ref (a 64), .ref (a 72), .ref (a 73), .ref (a 74), .ref (a 75), .int (σ.1 18)].set 14 (.int v))) = wX cy a (fF σ 18 v) := rfl
theorem qX_17 (cy : Nat → ClassId) (a : Nat → Nat) (σ : St) (f : Nat → Int32) : (wX cy a σ).set 17 (a 17, .inl (cy 1, 201, .inl f)) = wX cy a (fR σ 17 f) := rfl
theorem qX_18 (cy : Nat → ClassId) (a : Nat → Nat) (σ : St) (f : Nat → Int32) : (wX cy a σ).set 18 (a 18, .inl (cy 0, 400, .inl f)) = wX cy a (fR σ 18 f) := rfl
theorem qX_19 (cy : Nat → ClassId) (a : Nat → Nat) (σ : St) (f : Nat → Int32) : (wX cy a σ).set 19 (a 19, .inl (cy 1, 30, .inl f)) = wX cy a (fR σ 19 f) := rfl
theorem qX_20 (cy : Nat → ClassId) (a : Nat → Nat) (σ : St) (f : Nat → Int32) : (wX cy a σ).set 20 (a 20, .inl (cy 1, 30, .inl f)) = wX cy a (fR σ 20 f) := rfl
theorem qX_21 (cy : Nat → ClassId) (a : Nat → Nat) (σ : St) (f : Nat → Int32) : (wX cy a σ).set 21 (a 21, .inl (cy 1, 30, .inl f)) = wX cy a (fR σ 21 f) := rfl
theorem qX_22 (cy : Nat → ClassId) (a : Nat → Nat) (σ : St) (f : Nat → Int32) : (wX cy a σ).set 22 (a 22, .inl (cy 1, 30, .inl f)) = wX cy a (fR σ 22 f) := rfl
theorem qX_23 (cy : Nat → ClassId) (a : Nat → Nat) (σ : St) (f : Nat → Int32) : (wX cy a σ).set 23 (a 23, .inl (cy 1, 8, .inl f)) = wX cy a (fR σ 23 f) := rfl
theorem qX_24 (cy : Nat → ClassId) (a : Nat → Nat) (σ : St) (f : Nat → Int32) : (wX cy a σ).set 24 (a 24, .inl (cy 1, 30, .inl f)) = wX cy a (fR σ 24 f) := rfl
theorem qX_25 (cy : Nat → ClassId) (a : Nat → Nat) (σ : St) (f : Nat → Int32) : (wX cy a σ).set 25 (a 25, .inl (cy 1, 30, .inl f)) = wX cy a (fR σ 25 f) := rfl
theorem qX_26 (cy : Nat → ClassId) (a : Nat → Nat) (σ : St) (f : Nat → Int32) : (wX cy a σ).set 26 (a 26, .inl (cy 1, 30, .inl f)) = wX cy a (fR σ 26 f) := rfl
theorem qX_27 (cy : Nat → ClassId) (a : Nat → Nat) (σ : St) (f : Nat → Int32) : (wX cy a σ).set 27 (a 27, .inl (cy 1, 30, .inl f)) = wX cy a (fR σ 27 f) := rfl
theorem qX_28 (cy : Nat → ClassId) (a : Nat → Nat) (σ : St) (f : Nat → Int32) : (wX cy a σ).set 28 (a 28, .inl (cy 1, 8, .inl f)) = wX cy a (fR σ 28 f) := rfl
theorem qX_29 (cy : Nat → ClassId) (a : Nat → Nat) (σ : St) (f : Nat → Int32) : (wX cy a σ).set 29 (a 29, .inl (cy 1, 60, .inl f)) = wX cy a (fR σ 29 f) := rfl
theorem qX_30 (cy : Nat → ClassId) (a : Nat → Nat) (σ : St) (f : Nat → Int32) : (wX cy a σ).set 30 (a 30, .inl (cy 1, 60, .inl f)) = wX cy a (fR σ 30 f) := rfl
theorem qX_31 (cy : Nat → ClassId) (a : Nat → Nat) (σ : St) (f : Nat → Int32) : (wX cy a σ).set 31 (a 31, .inl (cy 1, 60, .inl f)) = wX cy a (fR σ 31 f) := rfl
theorem qX_32 (cy : Nat → ClassId) (a : Nat → Nat) (σ : St) (f : Nat → Int32) : (wX cy a σ).set 32 (a 32, .inl (cy 1, 40, .inl f)) = wX cy a (fR σ 32 f) := rfl
theorem qX_33 (cy : Nat → ClassId) (a : Nat → Nat) (σ : St) (f : Nat → Int32) : (wX cy a σ).set 33 (a 33, .inl (cy 1, 4, .inl f)) = wX cy a (fR σ 33 f) := rfl
theorem qX_34 (cy : Nat → ClassId) (a : Nat → Nat) (σ : St) (f : Nat → Int32) : (wX cy a σ).set 34 (a 34, .inl (cy 1, 60, .inl f)) = wX cy a (fR σ 34 f) := rfl
theorem qX_35 (cy : Nat → ClassId) (a : Nat → Nat) (σ : St) (f : Nat → Int32) : (wX cy a σ).set 35 (a 35, .inl (cy 1, 60, .inl f)) = wX cy a (fR σ 35 f) := rfl
theorem qX_36 (cy : Nat → ClassId) (a : Nat → Nat) (σ : St) (f : Nat → Int32) : (wX cy a σ).set 36 (a 36, .inl (cy 1, 60, .inl f)) = wX cy a (fR σ 36 f) := rfl
theorem qX_37 (cy : Nat → ClassId) (a : Nat → Nat) (σ : St) (f : Nat → Int32) : (wX cy a σ).set 37 (a 37, .inl (cy 1, 4, .inl f)) = wX cy a (fR σ 37 f) := rfl
theorem qX_38 (cy : Nat → ClassId) (a : Nat → Nat) (σ : St) (f : Nat → Int32) : (wX cy a σ).set 38 (a 38, .inl (cy 1, 12, .inl f)) = wX cy a (fR σ 38 f) := rfl
theorem qX_39 (cy : Nat → ClassId) (a : Nat → Nat) (σ : St) (f : Nat → Int32) : (wX cy a σ).set 39 (a 39, .inl (cy 1, 12, .inl f)) = wX cy a (fR σ 39 f) := rfl
theorem qX_40 (cy : Nat → ClassId) (a : Nat → Nat) (σ : St) (f : Nat → Int32) : (wX cy a σ).set 40 (a 40, .inl (cy 1, 12, .inl f)) = wX cy a (fR σ 40 f) := rfl
theorem qX_41 (cy : Nat → ClassId) (a : Nat → Nat) (σ : St) (f : Nat → Int32) : (wX cy a σ).set 41 (a 41, .inl (cy 1, 80, .inl f)) = wX cy a (fR σ 41 f) := rfl
theorem qX_42 (cy : Nat → ClassId) (a : Nat → Nat) (σ : St) (f : Nat → Int32) : (wX cy a σ).set 42 (a 42, .inl (cy 1, 80, .inl f)) = wX cy a (fR σ 42 f) := rfl
theorem qX_43 (cy : Nat → ClassId) (a : Nat → Nat) (σ : St) (f : Nat → Int32) : (wX cy a σ).set 43 (a 43, .inl (cy 1, 80, .inl f)) = wX cy a (fR σ 43 f) := rfl
theorem qX_44 (cy : Nat → ClassId) (a : Nat → Nat) (σ : St) (f : Nat → Int32) : (wX cy a σ).set 44 (a 44, .inl (cy 1, 80, .inl f)) = wX cy a (fR σ 44 f) := rfl
theorem qX_45 (cy : Nat → ClassId) (a : Nat → Nat) (σ : St) (f : Nat → Int32) : (wX cy a σ).set 45 (a 45, .inl (cy 1, 80, .inl f)) = wX cy a (fR σ 45 f) := rfl
theorem qX_46 (cy : Nat → ClassId) (a : Nat → Nat) (σ : St) (f : Nat → Int32) : (wX cy a σ).set 46 (a 46, .inl (cy 1, 60, .inl f)) = wX cy a (fR σ 46 f) := rfl
theorem qX_47 (cy : Nat → ClassId) (a : Nat → Nat) (σ : St) (f : Nat → Int32) : (wX cy a σ).set 47 (a 47, .inl (cy 1, 60, .inl f)) = wX cy a (fR σ 47 f) := rfl
theorem qX_48 (cy : Nat → ClassId) (a : Nat → Nat) (σ : St) (f : Nat → Int32) : (wX cy a σ).set 48 (a 48, .inl (cy 1, 60, .inl f)) = wX cy a (fR σ 48 f) := rfl
theorem qX_49 (cy : Nat → ClassId) (a : Nat → Nat) (σ : St) (f : Nat → Int32) : (wX cy a σ).set 49 (a 49, .inl (cy 1, 40, .inl f)) = wX cy a (fR σ 49 f) := rfl
theorem qX_50 (cy : Nat → ClassId) (a : Nat → Nat) (σ : St) (f : Nat → Int32) : (wX cy a σ).set 50 (a 50, .inl (cy 1, 40, .inl f)) = wX cy a (fR σ 50 f) := rfl
theorem qX_51 (cy : Nat → ClassId) (a : Nat → Nat) (σ : St) (f : Nat → Int32) : (wX cy a σ).set 51 (a 51, .inl (cy 1, 40, .inl f)) = wX cy a (fR σ 51 f) := rfl
theorem qX_52 (cy : Nat → ClassId) (a : Nat → Nat) (σ : St) (f : Nat → Int32) : (wX cy a σ).set 52 (a 52, .inl (cy 1, 144, .inl f)) = wX cy a (fR σ 52 f) := rfl
theorem qX_53 (cy : Nat → ClassId) (a : Nat → Nat) (σ : St) (f : Nat → Int32) : (wX cy a σ).set 53 (a 53, .inl (cy 1, 12, .inl f)) = wX cy a (fR σ 53 f) := rfl
theorem qX_54 (cy : Nat → ClassId) (a : Nat → Nat) (σ : St) (f : Nat → Int32) : (wX cy a σ).set 54 (a 54, .inl (cy 1, 960, .inl f)) = wX cy a (fR σ 54 f) := rfl
theorem qX_55 (cy : Nat → ClassId) (a : Nat → Nat) (σ : St) (f : Nat → Int32) : (wX cy a σ).set 55 (a 55, .inl (cy 1, 12, .inl f)) = wX cy a (fR σ 55 f) := rfl
theorem qX_56 (cy : Nat → ClassId) (a : Nat → Nat) (σ : St) (f : Nat → Int32) : (wX cy a σ).set 56 (a 56, .inl (cy 1, 720, .inl f)) = wX cy a (fR σ 56 f) := rfl
theorem qX_57 (cy : Nat → ClassId) (a : Nat → Nat) (σ : St) (f : Nat → Int32) : (wX cy a σ).set 57 (a 57, .inl (cy 1, 12, .inl f)) = wX cy a (fR σ 57 f) := rfl
theorem qX_58 (cy : Nat → ClassId) (a : Nat → Nat) (σ : St) (f : Nat → Int32) : (wX cy a σ).set 58 (a 58, .inl (cy 1, 480, .inl f)) = wX cy a (fR σ 58 f) := rfl
theorem qX_59 (cy : Nat → ClassId) (a : Nat → Nat) (σ : St) (f : Nat → Int32) : (wX cy a σ).set 59 (a 59, .inl (cy 1, 12, .inl f)) = wX cy a (fR σ 59 f) := rfl
theorem qX_60 (cy : Nat → ClassId) (a : Nat → Nat) (σ : St) (f : Nat → Int32) : (wX cy a σ).set 60 (a 60, .inl (cy 1, 80, .inl f)) = wX cy a (fR σ 60 f) := rfl
theorem qX_61 (cy : Nat → ClassId) (a : Nat → Nat) (σ : St) (f : Nat → Int32) : (wX cy a σ).set 61 (a 61, .inl (cy 1, 80, .inl f)) = wX cy a (fR σ 61 f) := rfl
theorem qX_62 (cy : Nat → ClassId) (a : Nat → Nat) (σ : St) (f : Nat → Int32) : (wX cy a σ).set 62 (a 62, .inl (cy 1, 80, .inl f)) = wX cy a (fR σ 62 f) := rfl
theorem qX_63 (cy : Nat → ClassId) (a : Nat → Nat) (σ : St) (f : Nat → Int32) : (wX cy a σ).set 63 (a 63, .inl (cy 1, 12, .inl f)) = wX cy a (fR σ 63 f) := rfl
theorem qX_65 (cy : Nat → ClassId) (a : Nat → Nat) (σ : St) (f : Nat → Int32) : (wX cy a σ).set 65 (a 65, .inl (cy 1, 12, .inl f)) = wX cy a (fR σ 65 f) := rfl
theorem qX_66 (cy : Nat → ClassId) (a : Nat → Nat) (σ : St) (f : Nat → Int32) : (wX cy a σ).set 66 (a 66, .inl (cy 1, 12, .inl f)) = wX cy a (fR σ 66 f) := rfl
theorem qX_67 (cy : Nat → ClassId) (a : Nat → Nat) (σ : St) (f : Nat → Int32) : (wX cy a σ).set 67 (a 67, .inl (cy 1, 12, .inl f)) = wX cy a (fR σ 67 f) := rfl
theorem qX_68 (cy : Nat → ClassId) (a : Nat → Nat) (σ : St) (f : Nat → Int32) : (wX cy a σ).set 68 (a 68, .inl (cy 1, 12, .inl f)) = wX cy a (fR σ 68 f) := rfl
theorem qX_69 (cy : Nat → ClassId) (a : Nat → Nat) (σ : St) (f : Nat → Int32) : (wX cy a σ).set 69 (a 69, .inl (cy 1, 12, .inl f)) = wX cy a (fR σ 69 f) := rfl
theorem qX_70 (cy : Nat → ClassId) (a : Nat → Nat) (σ : St) (f : Nat → Int32) : (wX cy a σ).set 70 (a 70, .inl (cy 1, 12, .inl f)) = wX cy a (fR σ 70 f) := rfl
theorem qX_71 (cy : Nat → ClassId) (a : Nat → Nat) (σ : St) (f : Nat → Int32) : (wX cy a σ).set 71 (a 71, .inl (cy 1, 12, .inl f)) = wX cy a (fR σ 71 f) := rfl
theorem qX_72 (cy : Nat → ClassId) (a : Nat → Nat) (σ : St) (f : Nat → Int32) : (wX cy a σ).set 72 (a 72, .inl (cy 2, 80, .inl f)) = wX cy a (fR σ 72 f) := rfl
theorem qX_73 (cy : Nat → ClassId) (a : Nat → Nat) (σ : St) (f : Nat → Int32) : (wX cy a σ).set 73 (a 73, .inl (cy 1, 80, .inl f)) = wX cy a (fR σ 73 f) := rfl
theorem qX_74 (cy : Nat → ClassId) (a : Nat → Nat) (σ : St) (f : Nat → Int32) : (wX cy a σ).set 74 (a 74, .inl (cy 1, 8, .inl f)) = wX cy a (fR σ 74 f) := rfl
theorem qX_75 (cy : Nat → ClassId) (a : Nat → Nat) (σ : St) (f : Nat → Int32) : (wX cy a σ).set 75 (a 75, .inl (cy 1, 8, .inl f)) = wX cy a (fR σ 75 f) := rfl
def AX (a : Nat → Nat) : Nat → Prop := fun q => ∃ k, k < 76 ∧ q = a k
