def wf1 (ca : Nat → ClassId) (a : Nat) (f : Nat → Int64) : va_W := [(a, .inl (ca 1, 6, .inr (.inl f)))]
def flA (f : Nat → Int64) (v : Int64) : Nat → (Nat → Int64)
  | 0 => f
  | n + 1 => vp_updL (flA f v n) n v
/-- the state of a new object -/
def Sc0 : sSt := (fun _ _ => 0, fun q => if q = 6 then flA (fun _ => 0) 1 6 else fun _ => 0)
def wx1 (ca : Nat → ClassId) (ad : Nat → Nat) : va_W := [((ad 1), .inr (1, [.ref (ad 6), .ref (ad 7), .ref (ad 8), .ref (ad 9)])),
  ((ad 6), .inl (ca 1, 6, .inr (.inl (Sc0.2 6)))),
  ((ad 7), .inl (ca 2, 6, .inl (Sc0.1 7))),
  ((ad 8), .inl (ca 0, 6, .inl (Sc0.1 8))),
  ((ad 9), .inl (ca 0, 6, .inl (Sc0.1 9)))]
def wi1 (ca : Nat → ClassId) (ad : Nat → Nat) : va_W := wx1 ca ad
def wx2 (ca : Nat → ClassId) (ad : Nat → Nat) (o13 : Nat → Option Nat) : va_W := [((ad 2), .inr (0, [.int (Sc0.1 2 0), .ref (ad 10), .ref (ad 11), .ref (ad 12), .ref (ad 13)])),
  ((ad 10), .inl (ca 1, 6, .inr (.inl (Sc0.2 10)))),
  ((ad 11), .inl (ca 1, 6, .inr (.inl (Sc0.2 11)))),
  ((ad 12), .inl (ca 1, 6, .inr (.inl (Sc0.2 12)))),
  ((ad 13), .inl (ca 3, 12, .inr (.inr (.inr (.inr o13))))),
  ((ad 14), .inl (ca 1, 6, .inr (.inl (Sc0.2 14)))),
  ((ad 15), .inl (ca 1, 6, .inr (.inl (Sc0.2 15)))),
  ((ad 16), .inl (ca 1, 6, .inr (.inl (Sc0.2 16)))),
  ((ad 17), .inl (ca 1, 6, .inr (.inl (Sc0.2 17)))),
  ((ad 18), .inl (ca 1, 6, .inr (.inl (Sc0.2 18)))),
  ((ad 19), .inl (ca 1, 6, .inr (.inl (Sc0.2 19)))),
  ((ad 20), .inl (ca 1, 6, .inr (.inl (Sc0.2 20)))),
  ((ad 21), .inl (ca 1, 6, .inr (.inl (Sc0.2 21)))),
  ((ad 22), .inl (ca 1, 6, .inr (.inl (Sc0.2 22)))),
  ((ad 23), .inl (ca 1, 6, .inr (.inl (Sc0.2 23)))),
  ((ad 24), .inl (ca 1, 6, .inr (.inl (Sc0.2 24)))),
  ((ad 25), .inl (ca 1, 6, .inr (.inl (Sc0.2 25))))]
def wi2 (ca : Nat → ClassId) (ad : Nat → Nat) : va_W := wx2 ca ad (fun i => if i < 12 then some (ad (14 + i)) else none)
def wx3 (ca : Nat → ClassId) (ad : Nat → Nat) : va_W := [((ad 3), .inr (3, [.int (Sc0.1 3 0), .ref (ad 26), .ref (ad 27), .ref (ad 28), .ref (ad 29), .ref (ad 30), .ref (ad 31), .ref (ad 32), .ref (ad 33)])),
  ((ad 26), .inl (ca 0, 201, .inl (Sc0.1 26))),
  ((ad 27), .inl (ca 0, 201, .inl (Sc0.1 27))),
  ((ad 28), .inl (ca 0, 201, .inl (Sc0.1 28))),
  ((ad 29), .inl (ca 0, 201, .inl (Sc0.1 29))),
  ((ad 30), .inl (ca 0, 201, .inl (Sc0.1 30))),
  ((ad 31), .inl (ca 0, 201, .inl (Sc0.1 31))),
  ((ad 32), .inl (ca 1, 201, .inr (.inl (Sc0.2 32)))),
  ((ad 33), .inl (ca 1, 201, .inr (.inl (Sc0.2 33))))]
def wi3 (ca : Nat → ClassId) (ad : Nat → Nat) : va_W := wx3 ca ad
def wx4 (ca : Nat → ClassId) (ad : Nat → Nat) (o35 : Nat → Option Nat) (o42 : Nat → Option Nat) : va_W := [((ad 4), .inr (2, [.ref (ad 34), .ref (ad 35), .ref (ad 42)])),
  ((ad 34), .inl (ca 0, 6, .inl (Sc0.1 34))),
  ((ad 35), .inl (ca 4, 6, .inr (.inr (.inr (.inr o35))))),
  ((ad 36), .inl (ca 0, 8, .inl (Sc0.1 36))),
  ((ad 37), .inl (ca 0, 8, .inl (Sc0.1 37))),
  ((ad 38), .inl (ca 0, 8, .inl (Sc0.1 38))),
  ((ad 39), .inl (ca 0, 8, .inl (Sc0.1 39))),
  ((ad 40), .inl (ca 0, 8, .inl (Sc0.1 40))),
  ((ad 41), .inl (ca 0, 8, .inl (Sc0.1 41))),
  ((ad 42), .inl (ca 3, 6, .inr (.inr (.inr (.inr o42))))),
  ((ad 43), .inl (ca 1, 8, .inr (.inl (Sc0.2 43)))),
  ((ad 44), .inl (ca 1, 8, .inr (.inl (Sc0.2 44)))),
  ((ad 45), .inl (ca 1, 8, .inr (.inl (Sc0.2 45)))),
  ((ad 46), .inl (ca 1, 8, .inr (.inl (Sc0.2 46)))),
  ((ad 47), .inl (ca 1, 8, .inr (.inl (Sc0.2 47)))),
  ((ad 48), .inl (ca 1, 8, .inr (.inl (Sc0.2 48))))]
def wi4 (ca : Nat → ClassId) (ad : Nat → Nat) : va_W := wx4 ca ad (fun i => if i < 6 then some (ad (36 + i)) else none) (fun i => if i < 6 then some (ad (43 + i)) else none)
def wx5 (ca : Nat → ClassId) (ad : Nat → Nat) : va_W := [((ad 5), .inr (4, [.ref (ad 49), .ref (ad 50), .ref (ad 51)])),
  ((ad 49), .inl (ca 1, 6, .inr (.inl (Sc0.2 49)))),
  ((ad 50), .inl (ca 1, 6, .inr (.inl (Sc0.2 50)))),
  ((ad 51), .inl (ca 1, 6, .inr (.inl (Sc0.2 51))))]
def wi5 (ca : Nat → ClassId) (ad : Nat → Nat) : va_W := wx5 ca ad
def wcx (ca : Nat → ClassId) (ad : Nat → Nat) (o13 o35 o42 : Nat → Option Nat) : va_W := [((ad 0), .inr (5, [.ref (ad 1), .ref (ad 2), .ref (ad 3), .ref (ad 4), .ref (ad 5), .int (Sc0.1 0 5), .int (Sc0.1 0 6)])),
  ((ad 1), .inr (1, [.ref (ad 6), .ref (ad 7), .ref (ad 8), .ref (ad 9)])),
  ((ad 2), .inr (0, [.int (Sc0.1 2 0), .ref (ad 10), .ref (ad 11), .ref (ad 12), .ref (ad 13)])),
  ((ad 3), .inr (3, [.int (Sc0.1 3 0), .ref (ad 26), .ref (ad 27), .ref (ad 28), .ref (ad 29), .ref (ad 30), .ref (ad 31), .ref (ad 32), .ref (ad 33)])),
  ((ad 4), .inr (2, [.ref (ad 34), .ref (ad 35), .ref (ad 42)])),
  ((ad 5), .inr (4, [.ref (ad 49), .ref (ad 50), .ref (ad 51)])),
  ((ad 6), .inl (ca 1, 6, .inr (.inl (Sc0.2 6)))),
  ((ad 7), .inl (ca 2, 6, .inl (Sc0.1 7))),
  ((ad 8), .inl (ca 0, 6, .inl (Sc0.1 8))),
  ((ad 9), .inl (ca 0, 6, .inl (Sc0.1 9))),
  ((ad 10), .inl (ca 1, 6, .inr (.inl (Sc0.2 10)))),
  ((ad 11), .inl (ca 1, 6, .inr (.inl (Sc0.2 11)))),
  ((ad 12), .inl (ca 1, 6, .inr (.inl (Sc0.2 12)))),
  ((ad 13), .inl (ca 3, 12, .inr (.inr (.inr (.inr o13))))),
  ((ad 14), .inl (ca 1, 6, .inr (.inl (Sc0.2 14)))),
  ((ad 15), .inl (ca 1, 6, .inr (.inl (Sc0.2 15)))),
  ((ad 16), .inl (ca 1, 6, .inr (.inl (Sc0.2 16)))),
  ((ad 17), .inl (ca 1, 6, .inr (.inl (Sc0.2 17)))),
  ((ad 18), .inl (ca 1, 6, .inr (.inl (Sc0.2 18)))),
  ((ad 19), .inl (ca 1, 6, .inr (.inl (Sc0.2 19)))),
  ((ad 20), .inl (ca 1, 6, .inr (.inl (Sc0.2 20)))),
  ((ad 21), .inl (ca 1, 6, .inr (.inl (Sc0.2 21)))),
  ((ad 22), .inl (ca 1, 6, .inr (.inl (Sc0.2 22)))),
  ((ad 23), .inl (ca 1, 6, .inr (.inl (Sc0.2 23)))),
  ((ad 24), .inl (ca 1, 6, .inr (.inl (Sc0.2 24)))),
  ((ad 25), .inl (ca 1, 6, .inr (.inl (Sc0.2 25)))),
  ((ad 26), .inl (ca 0, 201, .inl (Sc0.1 26))),
  ((ad 27), .inl (ca 0, 201, .inl (Sc0.1 27))),
  ((ad 28), .inl (ca 0, 201, .inl (Sc0.1 28))),
  ((ad 29), .inl (ca 0, 201, .inl (Sc0.1 29))),
  ((ad 30), .inl (ca 0, 201, .inl (Sc0.1 30))),
  ((ad 31), .inl (ca 0, 201, .inl (Sc0.1 31))),
  ((ad 32), .inl (ca 1, 201, .inr (.inl (Sc0.2 32)))),
  ((ad 33), .inl (ca 1, 201, .inr (.inl (Sc0.2 33)))),
  ((ad 34), .inl (ca 0, 6, .inl (Sc0.1 34))),
  ((ad 35), .inl (ca 4, 6, .inr (.inr (.inr (.inr o35))))),
  ((ad 36), .inl (ca 0, 8, .inl (Sc0.1 36))),
  ((ad 37), .inl (ca 0, 8, .inl (Sc0.1 37))),
  ((ad 38), .inl (ca 0, 8, .inl (Sc0.1 38))),
  ((ad 39), .inl (ca 0, 8, .inl (Sc0.1 39))),
  ((ad 40), .inl (ca 0, 8, .inl (Sc0.1 40))),
  ((ad 41), .inl (ca 0, 8, .inl (Sc0.1 41))),
  ((ad 42), .inl (ca 3, 6, .inr (.inr (.inr (.inr o42))))),
  ((ad 43), .inl (ca 1, 8, .inr (.inl (Sc0.2 43)))),
  ((ad 44), .inl (ca 1, 8, .inr (.inl (Sc0.2 44)))),
  ((ad 45), .inl (ca 1, 8, .inr (.inl (Sc0.2 45)))),
  ((ad 46), .inl (ca 1, 8, .inr (.inl (Sc0.2 46)))),
  ((ad 47), .inl (ca 1, 8, .inr (.inl (Sc0.2 47)))),
  ((ad 48), .inl (ca 1, 8, .inr (.inl (Sc0.2 48)))),
  ((ad 49), .inl (ca 1, 6, .inr (.inl (Sc0.2 49)))),
  ((ad 50), .inl (ca 1, 6, .inr (.inl (Sc0.2 50)))),
  ((ad 51), .inl (ca 1, 6, .inr (.inl (Sc0.2 51))))]
theorem wcx_eq (ca : Nat → ClassId) (ad : Nat → Nat) : wc ca ad Sc0 = wcx ca ad (fun i => if i < 12 then some (ad (14 + i)) else none) (fun i => if i < 6 then some (ad (36 + i)) else none) (fun i => if i < 6 then some (ad (43 + i)) else none) := rfl
theorem cn_o1 {f : Nat → Nat} {N b q : Nat} (h : ∀ i, i < N → f (b + i) = q + 1 + i) : (fun i => if i < N then some (f (b + i)) else none) = (fun i => if i < N then some (q + 1 + i) else none) := by
  funext i
  by_cases z : i < N
  · rw [if_pos z, if_pos z, h i z]
  · rw [if_neg z, if_neg z]
theorem cn_o2 {f g : Nat → Nat} {N b : Nat} (h : ∀ i, i < N → f (b + i) = g (b + i)) : (fun i => if i < N then some (f (b + i)) else none) = (fun i => if i < N then some (g (b + i)) else none) := by
  funext i
  by_cases z : i < N
  · rw [if_pos z, if_pos z, h i z]
  · rw [if_neg z, if_neg z]
theorem cn_s1 : "[" ++ (FieldType.array FieldType.long).toString = "[[J" := by decide +kernel
theorem cn_s2 : "[" ++ (FieldType.array FieldType.int).toString = "[[I" := by decide +kernel
theorem dX1_init_0 : decode cX1_init 0 = .ok (.aload_n 0, 1) := by decide +kernel
theorem dX1_init_1 : decode cX1_init 1 = .ok (.invokespecial 3, 3) := by decide +kernel
theorem dX1_init_4 : decode cX1_init 4 = .ok (.aload_n 0, 1) := by decide +kernel
theorem dX1_init_5 : decode cX1_init 5 = .ok (.bipush 6, 2) := by decide +kernel
theorem dX1_init_7 : decode cX1_init 7 = .ok (.newarray .long, 2) := by decide +kernel
theorem dX1_init_9 : decode cX1_init 9 = .ok (.putfield 9, 3) := by decide +kernel
theorem dX1_init_12 : decode cX1_init 12 = .ok (.aload_n 0, 1) := by decide +kernel
theorem dX1_init_13 : decode cX1_init 13 = .ok (.bipush 6, 2) := by decide +kernel
theorem dX1_init_15 : decode cX1_init 15 = .ok (.newarray .boolean, 2) := by decide +kernel
theorem dX1_init_17 : decode cX1_init 17 = .ok (.putfield 15, 3) := by decide +kernel
theorem dX1_init_20 : decode cX1_init 20 = .ok (.aload_n 0, 1) := by decide +kernel
theorem dX1_init_21 : decode cX1_init 21 = .ok (.bipush 6, 2) := by decide +kernel
theorem dX1_init_23 : decode cX1_init 23 = .ok (.newarray .int, 2) := by decide +kernel
theorem dX1_init_25 : decode cX1_init 25 = .ok (.putfield 19, 3) := by decide +kernel
theorem dX1_init_28 : decode cX1_init 28 = .ok (.aload_n 0, 1) := by decide +kernel
theorem dX1_init_29 : decode cX1_init 29 = .ok (.bipush 6, 2) := by decide +kernel
theorem dX1_init_31 : decode cX1_init 31 = .ok (.newarray .int, 2) := by decide +kernel
theorem dX1_init_33 : decode cX1_init 33 = .ok (.putfield 23, 3) := by decide +kernel
theorem dX1_init_36 : decode cX1_init 36 = .ok (.aload_n 0, 1) := by decide +kernel
theorem dX1_init_37 : decode cX1_init 37 = .ok (.getfield 9, 3) := by decide +kernel
theorem dX1_init_40 : decode cX1_init 40 = .ok (.lconst 1, 1) := by decide +kernel
theorem dX1_init_41 : decode cX1_init 41 = .ok (.invokestatic 26, 3) := by decide +kernel
theorem dX1_init_44 : decode cX1_init 44 = .ok (.return_, 1) := by decide +kernel

theorem dX0_init_0 : decode cX0_init 0 = .ok (.aload_n 0, 1) := by decide +kernel
theorem dX0_init_1 : decode cX0_init 1 = .ok (.invokespecial 3, 3) := by decide +kernel
theorem dX0_init_4 : decode cX0_init 4 = .ok (.aload_n 0, 1) := by decide +kernel
theorem dX0_init_5 : decode cX0_init 5 = .ok (.bipush 6, 2) := by decide +kernel
theorem dX0_init_7 : decode cX0_init 7 = .ok (.newarray .long, 2) := by decide +kernel
theorem dX0_init_9 : decode cX0_init 9 = .ok (.putfield 9, 3) := by decide +kernel
theorem dX0_init_12 : decode cX0_init 12 = .ok (.aload_n 0, 1) := by decide +kernel
theorem dX0_init_13 : decode cX0_init 13 = .ok (.bipush 6, 2) := by decide +kernel
theorem dX0_init_15 : decode cX0_init 15 = .ok (.newarray .long, 2) := by decide +kernel
theorem dX0_init_17 : decode cX0_init 17 = .ok (.putfield 15, 3) := by decide +kernel
theorem dX0_init_20 : decode cX0_init 20 = .ok (.aload_n 0, 1) := by decide +kernel
theorem dX0_init_21 : decode cX0_init 21 = .ok (.bipush 6, 2) := by decide +kernel
theorem dX0_init_23 : decode cX0_init 23 = .ok (.newarray .long, 2) := by decide +kernel
theorem dX0_init_25 : decode cX0_init 25 = .ok (.putfield 18, 3) := by decide +kernel
theorem dX0_init_28 : decode cX0_init 28 = .ok (.aload_n 0, 1) := by decide +kernel
theorem dX0_init_29 : decode cX0_init 29 = .ok (.bipush 12, 2) := by decide +kernel
theorem dX0_init_31 : decode cX0_init 31 = .ok (.bipush 6, 2) := by decide +kernel
theorem dX0_init_33 : decode cX0_init 33 = .ok (.multianewarray 21 2, 4) := by decide +kernel
theorem dX0_init_37 : decode cX0_init 37 = .ok (.putfield 23, 3) := by decide +kernel
theorem dX0_init_40 : decode cX0_init 40 = .ok (.return_, 1) := by decide +kernel

theorem dX2_init_0 : decode cX2_init 0 = .ok (.aload_n 0, 1) := by decide +kernel
theorem dX2_init_1 : decode cX2_init 1 = .ok (.invokespecial 3, 3) := by decide +kernel
theorem dX2_init_4 : decode cX2_init 4 = .ok (.aload_n 0, 1) := by decide +kernel
theorem dX2_init_5 : decode cX2_init 5 = .ok (.bipush 6, 2) := by decide +kernel
theorem dX2_init_7 : decode cX2_init 7 = .ok (.newarray .int, 2) := by decide +kernel
theorem dX2_init_9 : decode cX2_init 9 = .ok (.putfield 9, 3) := by decide +kernel
theorem dX2_init_12 : decode cX2_init 12 = .ok (.aload_n 0, 1) := by decide +kernel
theorem dX2_init_13 : decode cX2_init 13 = .ok (.bipush 6, 2) := by decide +kernel
theorem dX2_init_15 : decode cX2_init 15 = .ok (.bipush 8, 2) := by decide +kernel
theorem dX2_init_17 : decode cX2_init 17 = .ok (.multianewarray 15 2, 4) := by decide +kernel
theorem dX2_init_21 : decode cX2_init 21 = .ok (.putfield 17, 3) := by decide +kernel
theorem dX2_init_24 : decode cX2_init 24 = .ok (.aload_n 0, 1) := by decide +kernel
theorem dX2_init_25 : decode cX2_init 25 = .ok (.bipush 6, 2) := by decide +kernel
theorem dX2_init_27 : decode cX2_init 27 = .ok (.bipush 8, 2) := by decide +kernel
theorem dX2_init_29 : decode cX2_init 29 = .ok (.multianewarray 20 2, 4) := by decide +kernel
theorem dX2_init_33 : decode cX2_init 33 = .ok (.putfield 22, 3) := by decide +kernel
theorem dX2_init_36 : decode cX2_init 36 = .ok (.return_, 1) := by decide +kernel

theorem dX3_init_0 : decode cX3_init 0 = .ok (.aload_n 0, 1) := by decide +kernel
theorem dX3_init_1 : decode cX3_init 1 = .ok (.invokespecial 3, 3) := by decide +kernel
theorem dX3_init_4 : decode cX3_init 4 = .ok (.aload_n 0, 1) := by decide +kernel
theorem dX3_init_5 : decode cX3_init 5 = .ok (.sipush 201, 3) := by decide +kernel
theorem dX3_init_8 : decode cX3_init 8 = .ok (.newarray .int, 2) := by decide +kernel
theorem dX3_init_10 : decode cX3_init 10 = .ok (.putfield 9, 3) := by decide +kernel
theorem dX3_init_13 : decode cX3_init 13 = .ok (.aload_n 0, 1) := by decide +kernel
theorem dX3_init_14 : decode cX3_init 14 = .ok (.sipush 201, 3) := by decide +kernel
theorem dX3_init_17 : decode cX3_init 17 = .ok (.newarray .int, 2) := by decide +kernel
theorem dX3_init_19 : decode cX3_init 19 = .ok (.putfield 15, 3) := by decide +kernel
theorem dX3_init_22 : decode cX3_init 22 = .ok (.aload_n 0, 1) := by decide +kernel
theorem dX3_init_23 : decode cX3_init 23 = .ok (.sipush 201, 3) := by decide +kernel
theorem dX3_init_26 : decode cX3_init 26 = .ok (.newarray .int, 2) := by decide +kernel
theorem dX3_init_28 : decode cX3_init 28 = .ok (.putfield 18, 3) := by decide +kernel
theorem dX3_init_31 : decode cX3_init 31 = .ok (.aload_n 0, 1) := by decide +kernel
theorem dX3_init_32 : decode cX3_init 32 = .ok (.sipush 201, 3) := by decide +kernel
theorem dX3_init_35 : decode cX3_init 35 = .ok (.newarray .int, 2) := by decide +kernel
theorem dX3_init_37 : decode cX3_init 37 = .ok (.putfield 21, 3) := by decide +kernel
theorem dX3_init_40 : decode cX3_init 40 = .ok (.aload_n 0, 1) := by decide +kernel
theorem dX3_init_41 : decode cX3_init 41 = .ok (.sipush 201, 3) := by decide +kernel
theorem dX3_init_44 : decode cX3_init 44 = .ok (.newarray .int, 2) := by decide +kernel
theorem dX3_init_46 : decode cX3_init 46 = .ok (.putfield 24, 3) := by decide +kernel
theorem dX3_init_49 : decode cX3_init 49 = .ok (.aload_n 0, 1) := by decide +kernel
theorem dX3_init_50 : decode cX3_init 50 = .ok (.sipush 201, 3) := by decide +kernel
theorem dX3_init_53 : decode cX3_init 53 = .ok (.newarray .int, 2) := by decide +kernel
theorem dX3_init_55 : decode cX3_init 55 = .ok (.putfield 27, 3) := by decide +kernel
theorem dX3_init_58 : decode cX3_init 58 = .ok (.aload_n 0, 1) := by decide +kernel
theorem dX3_init_59 : decode cX3_init 59 = .ok (.sipush 201, 3) := by decide +kernel
theorem dX3_init_62 : decode cX3_init 62 = .ok (.newarray .long, 2) := by decide +kernel
theorem dX3_init_64 : decode cX3_init 64 = .ok (.putfield 30, 3) := by decide +kernel
theorem dX3_init_67 : decode cX3_init 67 = .ok (.aload_n 0, 1) := by decide +kernel
theorem dX3_init_68 : decode cX3_init 68 = .ok (.sipush 201, 3) := by decide +kernel
theorem dX3_init_71 : decode cX3_init 71 = .ok (.newarray .long, 2) := by decide +kernel
theorem dX3_init_73 : decode cX3_init 73 = .ok (.putfield 34, 3) := by decide +kernel
theorem dX3_init_76 : decode cX3_init 76 = .ok (.return_, 1) := by decide +kernel

theorem dX4_init_0 : decode cX4_init 0 = .ok (.aload_n 0, 1) := by decide +kernel
theorem dX4_init_1 : decode cX4_init 1 = .ok (.invokespecial 3, 3) := by decide +kernel
theorem dX4_init_4 : decode cX4_init 4 = .ok (.aload_n 0, 1) := by decide +kernel
theorem dX4_init_5 : decode cX4_init 5 = .ok (.bipush 6, 2) := by decide +kernel
theorem dX4_init_7 : decode cX4_init 7 = .ok (.newarray .long, 2) := by decide +kernel
theorem dX4_init_9 : decode cX4_init 9 = .ok (.putfield 9, 3) := by decide +kernel
theorem dX4_init_12 : decode cX4_init 12 = .ok (.aload_n 0, 1) := by decide +kernel
theorem dX4_init_13 : decode cX4_init 13 = .ok (.bipush 6, 2) := by decide +kernel
theorem dX4_init_15 : decode cX4_init 15 = .ok (.newarray .long, 2) := by decide +kernel
theorem dX4_init_17 : decode cX4_init 17 = .ok (.putfield 15, 3) := by decide +kernel
theorem dX4_init_20 : decode cX4_init 20 = .ok (.aload_n 0, 1) := by decide +kernel
theorem dX4_init_21 : decode cX4_init 21 = .ok (.bipush 6, 2) := by decide +kernel
theorem dX4_init_23 : decode cX4_init 23 = .ok (.newarray .long, 2) := by decide +kernel
theorem dX4_init_25 : decode cX4_init 25 = .ok (.putfield 18, 3) := by decide +kernel
theorem dX4_init_28 : decode cX4_init 28 = .ok (.return_, 1) := by decide +kernel

theorem dX5_init_0 : decode cX5_init 0 = .ok (.aload_n 0, 1) := by decide +kernel
theorem dX5_init_1 : decode cX5_init 1 = .ok (.invokespecial 1, 3) := by decide +kernel
theorem dX5_init_4 : decode cX5_init 4 = .ok (.aload_n 0, 1) := by decide +kernel
theorem dX5_init_5 : decode cX5_init 5 = .ok (.new 7, 3) := by decide +kernel
theorem dX5_init_8 : decode cX5_init 8 = .ok (.dup, 1) := by decide +kernel
theorem dX5_init_9 : decode cX5_init 9 = .ok (.invokespecial 9, 3) := by decide +kernel
theorem dX5_init_12 : decode cX5_init 12 = .ok (.putfield 10, 3) := by decide +kernel
theorem dX5_init_15 : decode cX5_init 15 = .ok (.aload_n 0, 1) := by decide +kernel
theorem dX5_init_16 : decode cX5_init 16 = .ok (.new 16, 3) := by decide +kernel
theorem dX5_init_19 : decode cX5_init 19 = .ok (.dup, 1) := by decide +kernel
theorem dX5_init_20 : decode cX5_init 20 = .ok (.invokespecial 18, 3) := by decide +kernel
theorem dX5_init_23 : decode cX5_init 23 = .ok (.putfield 19, 3) := by decide +kernel
theorem dX5_init_26 : decode cX5_init 26 = .ok (.aload_n 0, 1) := by decide +kernel
theorem dX5_init_27 : decode cX5_init 27 = .ok (.new 23, 3) := by decide +kernel
theorem dX5_init_30 : decode cX5_init 30 = .ok (.dup, 1) := by decide +kernel
theorem dX5_init_31 : decode cX5_init 31 = .ok (.invokespecial 25, 3) := by decide +kernel
theorem dX5_init_34 : decode cX5_init 34 = .ok (.putfield 26, 3) := by decide +kernel
theorem dX5_init_37 : decode cX5_init 37 = .ok (.aload_n 0, 1) := by decide +kernel
theorem dX5_init_38 : decode cX5_init 38 = .ok (.new 30, 3) := by decide +kernel
theorem dX5_init_41 : decode cX5_init 41 = .ok (.dup, 1) := by decide +kernel
theorem dX5_init_42 : decode cX5_init 42 = .ok (.invokespecial 32, 3) := by decide +kernel
theorem dX5_init_45 : decode cX5_init 45 = .ok (.putfield 33, 3) := by decide +kernel
theorem dX5_init_48 : decode cX5_init 48 = .ok (.aload_n 0, 1) := by decide +kernel
theorem dX5_init_49 : decode cX5_init 49 = .ok (.new 37, 3) := by decide +kernel
theorem dX5_init_52 : decode cX5_init 52 = .ok (.dup, 1) := by decide +kernel
theorem dX5_init_53 : decode cX5_init 53 = .ok (.invokespecial 39, 3) := by decide +kernel
theorem dX5_init_56 : decode cX5_init 56 = .ok (.putfield 40, 3) := by decide +kernel
theorem dX5_init_59 : decode cX5_init 59 = .ok (.return_, 1) := by decide +kernel

theorem dX6_init_0 : decode cX6_init 0 = .ok (.aload_n 0, 1) := by decide +kernel
theorem dX6_init_1 : decode cX6_init 1 = .ok (.invokespecial 1, 3) := by decide +kernel
theorem dX6_init_4 : decode cX6_init 4 = .ok (.aload_n 0, 1) := by decide +kernel
theorem dX6_init_5 : decode cX6_init 5 = .ok (.bipush 6, 2) := by decide +kernel
theorem dX6_init_7 : decode cX6_init 7 = .ok (.newarray .long, 2) := by decide +kernel
theorem dX6_init_9 : decode cX6_init 9 = .ok (.putfield 7, 3) := by decide +kernel
theorem dX6_init_12 : decode cX6_init 12 = .ok (.aload_n 0, 1) := by decide +kernel
theorem dX6_init_13 : decode cX6_init 13 = .ok (.bipush 6, 2) := by decide +kernel
theorem dX6_init_15 : decode cX6_init 15 = .ok (.newarray .long, 2) := by decide +kernel
theorem dX6_init_17 : decode cX6_init 17 = .ok (.putfield 13, 3) := by decide +kernel
theorem dX6_init_20 : decode cX6_init 20 = .ok (.aload_n 0, 1) := by decide +kernel
theorem dX6_init_21 : decode cX6_init 21 = .ok (.bipush 6, 2) := by decide +kernel
theorem dX6_init_23 : decode cX6_init 23 = .ok (.newarray .long, 2) := by decide +kernel
theorem dX6_init_25 : decode cX6_init 25 = .ok (.putfield 16, 3) := by decide +kernel
theorem dX6_init_28 : decode cX6_init 28 = .ok (.aload_n 0, 1) := by decide +kernel
theorem dX6_init_29 : decode cX6_init 29 = .ok (.bipush 72, 2) := by decide +kernel
theorem dX6_init_31 : decode cX6_init 31 = .ok (.newarray .long, 2) := by decide +kernel
theorem dX6_init_33 : decode cX6_init 33 = .ok (.putfield 19, 3) := by decide +kernel
theorem dX6_init_36 : decode cX6_init 36 = .ok (.aload_n 0, 1) := by decide +kernel
theorem dX6_init_37 : decode cX6_init 37 = .ok (.bipush 6, 2) := by decide +kernel
theorem dX6_init_39 : decode cX6_init 39 = .ok (.newarray .long, 2) := by decide +kernel
theorem dX6_init_41 : decode cX6_init 41 = .ok (.dup, 1) := by decide +kernel
theorem dX6_init_42 : decode cX6_init 42 = .ok (.iconst 0, 1) := by decide +kernel
theorem dX6_init_43 : decode cX6_init 43 = .ok (.lconst 1, 1) := by decide +kernel
theorem dX6_init_44 : decode cX6_init 44 = .ok (.lastore, 1) := by decide +kernel
theorem dX6_init_45 : decode cX6_init 45 = .ok (.dup, 1) := by decide +kernel
theorem dX6_init_46 : decode cX6_init 46 = .ok (.iconst 1, 1) := by decide +kernel
theorem dX6_init_47 : decode cX6_init 47 = .ok (.lconst 1, 1) := by decide +kernel
theorem dX6_init_48 : decode cX6_init 48 = .ok (.lastore, 1) := by decide +kernel
theorem dX6_init_49 : decode cX6_init 49 = .ok (.dup, 1) := by decide +kernel
theorem dX6_init_50 : decode cX6_init 50 = .ok (.iconst 2, 1) := by decide +kernel
theorem dX6_init_51 : decode cX6_init 51 = .ok (.lconst 1, 1) := by decide +kernel
theorem dX6_init_52 : decode cX6_init 52 = .ok (.lastore, 1) := by decide +kernel
theorem dX6_init_53 : decode cX6_init 53 = .ok (.dup, 1) := by decide +kernel
theorem dX6_init_54 : decode cX6_init 54 = .ok (.iconst 3, 1) := by decide +kernel
theorem dX6_init_55 : decode cX6_init 55 = .ok (.lconst 1, 1) := by decide +kernel
theorem dX6_init_56 : decode cX6_init 56 = .ok (.lastore, 1) := by decide +kernel
theorem dX6_init_57 : decode cX6_init 57 = .ok (.dup, 1) := by decide +kernel
theorem dX6_init_58 : decode cX6_init 58 = .ok (.iconst 4, 1) := by decide +kernel
theorem dX6_init_59 : decode cX6_init 59 = .ok (.lconst 1, 1) := by decide +kernel
theorem dX6_init_60 : decode cX6_init 60 = .ok (.lastore, 1) := by decide +kernel
theorem dX6_init_61 : decode cX6_init 61 = .ok (.dup, 1) := by decide +kernel
theorem dX6_init_62 : decode cX6_init 62 = .ok (.iconst 5, 1) := by decide +kernel
theorem dX6_init_63 : decode cX6_init 63 = .ok (.lconst 1, 1) := by decide +kernel
theorem dX6_init_64 : decode cX6_init 64 = .ok (.lastore, 1) := by decide +kernel
theorem dX6_init_65 : decode cX6_init 65 = .ok (.putfield 22, 3) := by decide +kernel
theorem dX6_init_68 : decode cX6_init 68 = .ok (.aload_n 0, 1) := by decide +kernel
theorem dX6_init_69 : decode cX6_init 69 = .ok (.bipush 6, 2) := by decide +kernel
theorem dX6_init_71 : decode cX6_init 71 = .ok (.newarray .int, 2) := by decide +kernel
theorem dX6_init_73 : decode cX6_init 73 = .ok (.putfield 25, 3) := by decide +kernel
theorem dX6_init_76 : decode cX6_init 76 = .ok (.aload_n 0, 1) := by decide +kernel
theorem dX6_init_77 : decode cX6_init 77 = .ok (.bipush 6, 2) := by decide +kernel
theorem dX6_init_79 : decode cX6_init 79 = .ok (.newarray .boolean, 2) := by decide +kernel
theorem dX6_init_81 : decode cX6_init 81 = .ok (.putfield 29, 3) := by decide +kernel
theorem dX6_init_84 : decode cX6_init 84 = .ok (.aload_n 0, 1) := by decide +kernel
theorem dX6_init_85 : decode cX6_init 85 = .ok (.bipush 36, 2) := by decide +kernel
theorem dX6_init_87 : decode cX6_init 87 = .ok (.newarray .boolean, 2) := by decide +kernel
theorem dX6_init_89 : decode cX6_init 89 = .ok (.putfield 33, 3) := by decide +kernel
theorem dX6_init_92 : decode cX6_init 92 = .ok (.aload_n 0, 1) := by decide +kernel
theorem dX6_init_93 : decode cX6_init 93 = .ok (.bipush 6, 2) := by decide +kernel
theorem dX6_init_95 : decode cX6_init 95 = .ok (.newarray .int, 2) := by decide +kernel
theorem dX6_init_97 : decode cX6_init 97 = .ok (.putfield 36, 3) := by decide +kernel
theorem dX6_init_100 : decode cX6_init 100 = .ok (.aload_n 0, 1) := by decide +kernel
theorem dX6_init_101 : decode cX6_init 101 = .ok (.bipush 48, 2) := by decide +kernel
theorem dX6_init_103 : decode cX6_init 103 = .ok (.newarray .int, 2) := by decide +kernel
theorem dX6_init_105 : decode cX6_init 105 = .ok (.putfield 39, 3) := by decide +kernel
theorem dX6_init_108 : decode cX6_init 108 = .ok (.aload_n 0, 1) := by decide +kernel
theorem dX6_init_109 : decode cX6_init 109 = .ok (.bipush 48, 2) := by decide +kernel
theorem dX6_init_111 : decode cX6_init 111 = .ok (.newarray .long, 2) := by decide +kernel
theorem dX6_init_113 : decode cX6_init 113 = .ok (.putfield 42, 3) := by decide +kernel
theorem dX6_init_116 : decode cX6_init 116 = .ok (.aload_n 0, 1) := by decide +kernel
theorem dX6_init_117 : decode cX6_init 117 = .ok (.sipush 201, 3) := by decide +kernel
theorem dX6_init_120 : decode cX6_init 120 = .ok (.newarray .int, 2) := by decide +kernel
theorem dX6_init_122 : decode cX6_init 122 = .ok (.putfield 45, 3) := by decide +kernel
theorem dX6_init_125 : decode cX6_init 125 = .ok (.aload_n 0, 1) := by decide +kernel
theorem dX6_init_126 : decode cX6_init 126 = .ok (.sipush 201, 3) := by decide +kernel
theorem dX6_init_129 : decode cX6_init 129 = .ok (.newarray .int, 2) := by decide +kernel
theorem dX6_init_131 : decode cX6_init 131 = .ok (.putfield 48, 3) := by decide +kernel
theorem dX6_init_134 : decode cX6_init 134 = .ok (.aload_n 0, 1) := by decide +kernel
theorem dX6_init_135 : decode cX6_init 135 = .ok (.sipush 201, 3) := by decide +kernel
theorem dX6_init_138 : decode cX6_init 138 = .ok (.newarray .int, 2) := by decide +kernel
theorem dX6_init_140 : decode cX6_init 140 = .ok (.putfield 51, 3) := by decide +kernel
theorem dX6_init_143 : decode cX6_init 143 = .ok (.aload_n 0, 1) := by decide +kernel
theorem dX6_init_144 : decode cX6_init 144 = .ok (.sipush 201, 3) := by decide +kernel
theorem dX6_init_147 : decode cX6_init 147 = .ok (.newarray .int, 2) := by decide +kernel
theorem dX6_init_149 : decode cX6_init 149 = .ok (.putfield 54, 3) := by decide +kernel
theorem dX6_init_152 : decode cX6_init 152 = .ok (.aload_n 0, 1) := by decide +kernel
theorem dX6_init_153 : decode cX6_init 153 = .ok (.sipush 201, 3) := by decide +kernel
theorem dX6_init_156 : decode cX6_init 156 = .ok (.newarray .long, 2) := by decide +kernel
theorem dX6_init_158 : decode cX6_init 158 = .ok (.putfield 57, 3) := by decide +kernel
theorem dX6_init_161 : decode cX6_init 161 = .ok (.aload_n 0, 1) := by decide +kernel
theorem dX6_init_162 : decode cX6_init 162 = .ok (.sipush 201, 3) := by decide +kernel
theorem dX6_init_165 : decode cX6_init 165 = .ok (.newarray .int, 2) := by decide +kernel
theorem dX6_init_167 : decode cX6_init 167 = .ok (.putfield 60, 3) := by decide +kernel
theorem dX6_init_170 : decode cX6_init 170 = .ok (.aload_n 0, 1) := by decide +kernel
theorem dX6_init_171 : decode cX6_init 171 = .ok (.sipush 201, 3) := by decide +kernel
theorem dX6_init_174 : decode cX6_init 174 = .ok (.newarray .int, 2) := by decide +kernel
theorem dX6_init_176 : decode cX6_init 176 = .ok (.putfield 63, 3) := by decide +kernel
theorem dX6_init_179 : decode cX6_init 179 = .ok (.aload_n 0, 1) := by decide +kernel
theorem dX6_init_180 : decode cX6_init 180 = .ok (.sipush 201, 3) := by decide +kernel
theorem dX6_init_183 : decode cX6_init 183 = .ok (.newarray .boolean, 2) := by decide +kernel
theorem dX6_init_185 : decode cX6_init 185 = .ok (.putfield 66, 3) := by decide +kernel
theorem dX6_init_188 : decode cX6_init 188 = .ok (.aload_n 0, 1) := by decide +kernel
theorem dX6_init_189 : decode cX6_init 189 = .ok (.bipush 6, 2) := by decide +kernel
theorem dX6_init_191 : decode cX6_init 191 = .ok (.newarray .long, 2) := by decide +kernel
theorem dX6_init_193 : decode cX6_init 193 = .ok (.putfield 69, 3) := by decide +kernel
theorem dX6_init_196 : decode cX6_init 196 = .ok (.aload_n 0, 1) := by decide +kernel
theorem dX6_init_197 : decode cX6_init 197 = .ok (.bipush 6, 2) := by decide +kernel
theorem dX6_init_199 : decode cX6_init 199 = .ok (.newarray .long, 2) := by decide +kernel
theorem dX6_init_201 : decode cX6_init 201 = .ok (.putfield 72, 3) := by decide +kernel
theorem dX6_init_204 : decode cX6_init 204 = .ok (.aload_n 0, 1) := by decide +kernel
theorem dX6_init_205 : decode cX6_init 205 = .ok (.bipush 6, 2) := by decide +kernel
theorem dX6_init_207 : decode cX6_init 207 = .ok (.newarray .boolean, 2) := by decide +kernel
theorem dX6_init_209 : decode cX6_init 209 = .ok (.putfield 75, 3) := by decide +kernel
theorem dX6_init_212 : decode cX6_init 212 = .ok (.return_, 1) := by decide +kernel

set_option maxHeartbeats 4000000 in
set_option maxRecDepth 100000 in
theorem kJ7_fillA (l : Launch) (dC : Nat → ClassId) (dI : Nat → Nat → Nat) (ca : Nat → ClassId) (a : Nat) (S : (Nat → Int64)) (vv : Int64) : ct_V l yJ7_fill (Cond.code yJ7_fill cJ7_fill 5 none :: wa_T) ({ frames := 0, cells := 0, slots := 0, locals := 0 } : Room) (dC, dI) vwCl (tyl ca) (wf1 ca a) S [.ref a, .long vv] (fun S2 => S2 = flA S vv 6) := by
  refine ct_ofV (by decide) (Nat.le_of_ble_eq_true rfl) ?_
  intro p e s m below meth c A ls hx hb hr hml hts hown hlocks hK hA hw hl
  have hl : lv_has ls 5 [(0, .ref a), (1, .long vv)] := hl
  refine lv_iconst (v := nI 0) hx hb dJ7_fill_0 (by decide) ?_
  refine lv_istore_n (lv' := [(3, .int (nI 0)), (0, .ref a), (1, .long vv)]) hx hb dJ7_fill_1 rfl hl (by decide) rfl (fun ls hl => ?_)
  refine lv_aload_n hx hb dJ7_fill_2 rfl (lv_at hl 1 rfl) ?_
  refine wo_alen hx hb hK hw 0 1 rfl rfl dJ7_fill_3 ?_
  refine lv_istore (lv' := [(4, .int (nI 6)), (3, .int (nI 0)), (0, .ref a), (1, .long vv)]) hx hb dJ7_fill_4 hl (by decide) rfl (fun ls hl => ?_)
  have lp_6 : ∀ (n : Nat) (i : Nat), i ≤ 6 → 7 ≤ i + n → ∀ (H : Heap) (locs : List Loc) (ls : Array Slot), wo_w (dC, dI) vwCl A s.heap (wf1 ca a (flA S vv i)) H locs → lv_has ls 5 [(0, .ref a), (1, .long vv), (3, .int (nI i)), (4, .int (nI 6))] → W p l e ({ frames := 0, cells := 0, slots := 0, locals := 0 } : Room) s m ([.ref a, .long vv] : List Value).toArray below meth c H locs 0 0 (MQ below (va_Qv (fun S2 => S2 = flA S vv 6) (ct_B (dC, dI) vwCl (tyl ca) (wf1 ca a) A) A) ([.ref a, .long vv] : List Value).toArray s 0 0 A) (F0 m 6 ls []) := by
    intro n
    induction n with
    | zero =>
      intro i hi hn
      exfalso
      omega
    | succ n ih_6 =>
      intro i hi hn H locs ls hw hl
      refine lv_iload_n hx hb dJ7_fill_6 rfl (lv_at hl 2 rfl) ?_
      refine lv_iload hx hb dJ7_fill_7 (lv_at hl 3 rfl) ?_
      refine lv_icmp_ge (tgt := 22) hx hb dJ7_fill_9 (by decide) (fun c_1 => ?_) (fun c_1 => ?_)
      · skip
        have c_1 : 6 ≤ i := (nI_leI (a := 6) (b := i) (by omega) (by omega)).mp c_1
        obtain rfl : 6 = i := by omega
        exact ct_vret (S := flA S vv 6) hx hb hr hlocks hK hw (rfl) dJ7_fill_22
      · skip
        have c_1 : ¬ (6 ≤ i) := fun h9 => c_1 ((nI_leI (a := 6) (b := i) (by omega) (by omega)).mpr h9)
        refine lv_aload_n hx hb dJ7_fill_12 rfl (lv_at hl 0 rfl) ?_
        refine lv_iload_n hx hb dJ7_fill_13 rfl (lv_at hl 2 rfl) ?_
        refine lv_lload_n hx hb dJ7_fill_14 rfl (lv_at hl 1 rfl) ?_
        refine wo_last hx hb hK hw 0 1 rfl rfl i rfl (by first | assumption | omega) (by decide) (show _ = (wf1 ca a) (vp_updL (flA S vv i) i vv) from rfl) dJ7_fill_15 (fun H locs hw => ?_)
        refine lv_iinc (v := nI (i + 1)) (lv' := [(3, .int (nI (i + 1))), (0, .ref a), (1, .long vv), (4, .int (nI 6))]) hx hb dJ7_fill_16 hl (k := 2) rfl (nI_inc _) (by decide) rfl (fun ls hl => ?_)
        refine lv_goto (tgt := 6) hx hb dJ7_fill_19 (by decide) ?_
        have e9 : vp_updL (flA S vv i) i vv = flA S vv (i + 1) := rfl
        try rw [e9] at hw
        exact ih_6 (i + 1) (by omega) (by omega) _ _ _ hw (lv_sub hl [1, 2, 0, 3] rfl)
  have e9 : S = flA S vv 0 := rfl
  try rw [e9] at hw
  exact lp_6 7 0 (by omega) (by omega) _ _ _ hw (lv_sub hl [2, 3, 1, 0] rfl)

set_option maxHeartbeats 1000000 in
set_option maxRecDepth 100000 in
theorem kX1_init (l : Launch) (dC : Nat → ClassId) (dI : Nat → Nat → Nat) (ca : Nat → ClassId) (a : Nat) : cn_M l yX1_init (Cond.code yX1_init cX1_init 1 none :: wa_T) ({ frames := 1, cells := 4, slots := 24, locals := 40 } : Room) (dC, dI) vwCl (tyl ca) [(a, .inr (1, [.null, .null, .null, .null]))] (wi1 ca) [.ref a] (fun ad => ad 1 = a) 4 24 := by
  refine cn_of (by decide) rfl (Nat.le_of_ble_eq_true rfl) ?_
  intro p e s m below meth c A ls hx hb hr hml hts hown hlocks hK hA hw hl hin hZ
  have hl : lv_has ls 1 [(0, .ref a)] := hl
  have hw : wo_w (dC, dI) vwCl A s.heap [(a, .inr (1, [.null, .null, .null, .null]))] s.heap [] := hw
  skip
  refine lv_aload_n hx hb dX1_init_0 rfl (lv_at hl 0 rfl) ?_
  refine W.objInit hx hb hown (hts _ wd_31) (hts _ wd_24) (hts _ wd_25) rfl (by rw [hml]; exact hl.1) rfl dX1_init_1 (Nat.le_of_ble_eq_true rfl) (Nat.le_of_ble_eq_true rfl) ?_
  refine W.eq (g2 := F0 m 4 ls []) rfl ?_
  refine lv_aload_n hx hb dX1_init_4 rfl (lv_at hl 0 rfl) ?_
  refine lv_bipush (v := nI 6) hx hb dX1_init_5 (by decide) ?_
  refine wo_newa (atype := .long) (N := 6) (a0 := (6, .inr (.inl fun _ => 0))) hx hb (hts _ wd_52) rfl (fun C h => by cases h) hK hw hA 1 rfl (fun _ => rfl) (by decide) (by decide) ⟨Nat.le_of_ble_eq_true rfl, Nat.le_of_ble_eq_true rfl⟩ dX1_init_7 (fun q_1 H hw => ?_)
  have hw : wo_w (dC, dI) vwCl A s.heap ([(a, .inr (1, [.null, .null, .null, .null])), (q_1, .inl (ca 1, (6, .inr (.inl fun _ => 0))))]) H [] := hw
  refine wo_putF (ty := .array .long) (v := .ref q_1) hx hb hts inX1 tyX1 tyX1_ok nmX1 hown hK hw 0 rfl rfl 0 (by decide) (hts _ wd_35) (fun _ h9 => h9) rfl hin rfl (by decide +kernel) rfl rfl (Nat.le_of_ble_eq_true rfl) (show _ = [(a, .inr (1, [.ref q_1, .null, .null, .null])), (q_1, .inl (ca 1, (6, .inr (.inl fun _ => 0))))] from rfl) dX1_init_9 (fun H locs hw => ?_)
  refine lv_aload_n hx hb dX1_init_12 rfl (lv_at hl 0 rfl) ?_
  refine lv_bipush (v := nI 6) hx hb dX1_init_13 (by decide) ?_
  refine wo_newa (atype := .boolean) (N := 6) (a0 := (6, .inl fun _ => 0)) hx hb (hts _ wd_53) rfl (fun C h => by cases h) hK hw hA 2 rfl (fun _ => rfl) (by decide) (by decide) ⟨Nat.le_of_ble_eq_true rfl, Nat.le_of_ble_eq_true rfl⟩ dX1_init_15 (fun q_2 H hw => ?_)
  have hw : wo_w (dC, dI) vwCl A s.heap ([(a, .inr (1, [.ref q_1, .null, .null, .null])), (q_1, .inl (ca 1, (6, .inr (.inl fun _ => 0)))), (q_2, .inl (ca 2, (6, .inl fun _ => 0)))]) H locs := hw
  refine wo_putF (ty := .array .boolean) (v := .ref q_2) hx hb hts inX1 tyX1 tyX1_ok nmX1 hown hK hw 0 rfl rfl 1 (by decide) (hts _ wd_37) (fun _ h9 => h9) rfl hin rfl (by decide +kernel) rfl rfl (Nat.le_of_ble_eq_true rfl) (show _ = [(a, .inr (1, [.ref q_1, .ref q_2, .null, .null])), (q_1, .inl (ca 1, (6, .inr (.inl fun _ => 0)))), (q_2, .inl (ca 2, (6, .inl fun _ => 0)))] from rfl) dX1_init_17 (fun H locs hw => ?_)
  refine lv_aload_n hx hb dX1_init_20 rfl (lv_at hl 0 rfl) ?_
  refine lv_bipush (v := nI 6) hx hb dX1_init_21 (by decide) ?_
  refine wo_newa (atype := .int) (N := 6) (a0 := (6, .inl fun _ => 0)) hx hb (hts _ wd_54) rfl (fun C h => by cases h) hK hw hA 0 rfl (fun _ => rfl) (by decide) (by decide) ⟨Nat.le_of_ble_eq_true rfl, Nat.le_of_ble_eq_true rfl⟩ dX1_init_23 (fun q_3 H hw => ?_)
  have hw : wo_w (dC, dI) vwCl A s.heap ([(a, .inr (1, [.ref q_1, .ref q_2, .null, .null])), (q_1, .inl (ca 1, (6, .inr (.inl fun _ => 0)))), (q_2, .inl (ca 2, (6, .inl fun _ => 0))), (q_3, .inl (ca 0, (6, .inl fun _ => 0)))]) H locs := hw
  refine wo_putF (ty := .array .int) (v := .ref q_3) hx hb hts inX1 tyX1 tyX1_ok nmX1 hown hK hw 0 rfl rfl 2 (by decide) (hts _ wd_39) (fun _ h9 => h9) rfl hin rfl (by decide +kernel) rfl rfl (Nat.le_of_ble_eq_true rfl) (show _ = [(a, .inr (1, [.ref q_1, .ref q_2, .ref q_3, .null])), (q_1, .inl (ca 1, (6, .inr (.inl fun _ => 0)))), (q_2, .inl (ca 2, (6, .inl fun _ => 0))), (q_3, .inl (ca 0, (6, .inl fun _ => 0)))] from rfl) dX1_init_25 (fun H locs hw => ?_)
  refine lv_aload_n hx hb dX1_init_28 rfl (lv_at hl 0 rfl) ?_
  refine lv_bipush (v := nI 6) hx hb dX1_init_29 (by decide) ?_
  refine wo_newa (atype := .int) (N := 6) (a0 := (6, .inl fun _ => 0)) hx hb (hts _ wd_54) rfl (fun C h => by cases h) hK hw hA 0 rfl (fun _ => rfl) (by decide) (by decide) ⟨Nat.le_of_ble_eq_true rfl, Nat.le_of_ble_eq_true rfl⟩ dX1_init_31 (fun q_4 H hw => ?_)
  have hw : wo_w (dC, dI) vwCl A s.heap ([(a, .inr (1, [.ref q_1, .ref q_2, .ref q_3, .null])), (q_1, .inl (ca 1, (6, .inr (.inl fun _ => 0)))), (q_2, .inl (ca 2, (6, .inl fun _ => 0))), (q_3, .inl (ca 0, (6, .inl fun _ => 0))), (q_4, .inl (ca 0, (6, .inl fun _ => 0)))]) H locs := hw
  refine wo_putF (ty := .array .int) (v := .ref q_4) hx hb hts inX1 tyX1 tyX1_ok nmX1 hown hK hw 0 rfl rfl 3 (by decide) (hts _ wd_41) (fun _ h9 => h9) rfl hin rfl (by decide +kernel) rfl rfl (Nat.le_of_ble_eq_true rfl) (show _ = [(a, .inr (1, [.ref q_1, .ref q_2, .ref q_3, .ref q_4])), (q_1, .inl (ca 1, (6, .inr (.inl fun _ => 0)))), (q_2, .inl (ca 2, (6, .inl fun _ => 0))), (q_3, .inl (ca 0, (6, .inl fun _ => 0))), (q_4, .inl (ca 0, (6, .inl fun _ => 0)))] from rfl) dX1_init_33 (fun H locs hw => ?_)
  refine lv_aload_n hx hb dX1_init_36 rfl (lv_at hl 0 rfl) ?_
  refine wo_get hx hb hts inX1 hown hK hw 0 rfl rfl 0 (by decide) (hts _ wd_35) (fun _ h9 => h9) rfl dX1_init_37 ?_
  refine lv_lconst (v := 1) hx hb dX1_init_40 (by decide) ?_
  refine fw_N (w1 := [(a, .inr (1, [.ref q_1, .ref q_2, .ref q_3, .ref q_4]))]) (w0 := (wf1 ca q_1) (fun _ => 0)) (w2 := [(q_2, .inl (ca 2, (6, .inl fun _ => 0))), (q_3, .inl (ca 0, (6, .inl fun _ => 0))), (q_4, .inl (ca 0, (6, .inl fun _ => 0)))]) (wd := (wf1 ca q_1)) hw hA (va_runS (As := [.ref q_1, .long 1]) (rest := []) ⟨hx, hb, hml, hown, hts⟩ (kJ7_fillA l dC dI ca q_1 (fun _ => 0) 1 _) (va_cwS 2 hts (wa_gS wd_32 wd_33 wd_3 wd_34) rfl rfl rfl (by decide +kernel) ⟨Nat.le_of_ble_eq_true rfl, Nat.le_of_ble_eq_true rfl⟩) (wo_pre (wd := (wf1 ca q_1)) (S := fun _ => 0) hK (fr_part (w1 := [(a, .inr (1, [.ref q_1, .ref q_2, .ref q_3, .ref q_4]))]) (w2 := [(q_2, .inl (ca 2, (6, .inl fun _ => 0))), (q_3, .inl (ca 0, (6, .inl fun _ => 0))), (q_4, .inl (ca 0, (6, .inl fun _ => 0)))]) hw) _) rfl rfl hl.1 rfl (lv_room (Nat.le_of_ble_eq_true rfl)) dX1_init_41 ⟨Nat.le_of_ble_eq_true rfl, Nat.le_of_ble_eq_true rfl⟩) (fun u H locs hp hw => ?_)
  subst hp
  have hw : wo_w (dC, dI) vwCl A s.heap ([(a, .inr (1, [.ref q_1, .ref q_2, .ref q_3, .ref q_4])), (q_1, .inl (ca 1, (6, .inr (.inl (flA (fun _ => 0) 1 6))))), (q_2, .inl (ca 2, (6, .inl fun _ => 0))), (q_3, .inl (ca 0, (6, .inl fun _ => 0))), (q_4, .inl (ca 0, (6, .inl fun _ => 0)))]) H locs := hw
  refine cn_ret (S := fun k => if k = 1 then a else if k = 6 then q_1 else if k = 7 then q_2 else if k = 8 then q_3 else q_4) hx hb hr hlocks hK ?_ rfl dX1_init_44
  exact hw

set_option maxHeartbeats 1000000 in
set_option maxRecDepth 100000 in
theorem kX0_init (l : Launch) (dC : Nat → ClassId) (dI : Nat → Nat → Nat) (ca : Nat → ClassId) (a : Nat) : cn_M l yX0_init (Cond.code yX0_init cX0_init 1 none :: wa_T) ({ frames := 1, cells := 16, slots := 102, locals := 40 } : Room) (dC, dI) vwCl (tyl ca) [(a, .inr (0, [.int 0, .null, .null, .null, .null]))] (wi2 ca) [.ref a] (fun ad => ad 2 = a) 16 102 := by
  refine cn_of (by decide) rfl (Nat.le_of_ble_eq_true rfl) ?_
  intro p e s m below meth c A ls hx hb hr hml hts hown hlocks hK hA hw hl hin hZ
  have hl : lv_has ls 1 [(0, .ref a)] := hl
  have hw : wo_w (dC, dI) vwCl A s.heap [(a, .inr (0, [.int 0, .null, .null, .null, .null]))] s.heap [] := hw
  skip
  refine lv_aload_n hx hb dX0_init_0 rfl (lv_at hl 0 rfl) ?_
  refine W.objInit hx hb hown (hts _ wd_60) (hts _ wd_24) (hts _ wd_25) rfl (by rw [hml]; exact hl.1) rfl dX0_init_1 (Nat.le_of_ble_eq_true rfl) (Nat.le_of_ble_eq_true rfl) ?_
  refine W.eq (g2 := F0 m 4 ls []) rfl ?_
  refine lv_aload_n hx hb dX0_init_4 rfl (lv_at hl 0 rfl) ?_
  refine lv_bipush (v := nI 6) hx hb dX0_init_5 (by decide) ?_
  refine wo_newa (atype := .long) (N := 6) (a0 := (6, .inr (.inl fun _ => 0))) hx hb (hts _ wd_52) rfl (fun C h => by cases h) hK hw hA 1 rfl (fun _ => rfl) (by decide) (by decide) ⟨Nat.le_of_ble_eq_true rfl, Nat.le_of_ble_eq_true rfl⟩ dX0_init_7 (fun q_1 H hw => ?_)
  have hw : wo_w (dC, dI) vwCl A s.heap ([(a, .inr (0, [.int 0, .null, .null, .null, .null])), (q_1, .inl (ca 1, (6, .inr (.inl fun _ => 0))))]) H [] := hw
  refine wo_putF (ty := .array .long) (v := .ref q_1) hx hb hts inX0 tyX0 tyX0_ok nmX0 hown hK hw 0 rfl rfl 1 (by decide) (hts _ wd_65) (fun _ h9 => h9) rfl hin rfl (by decide +kernel) rfl rfl (Nat.le_of_ble_eq_true rfl) (show _ = [(a, .inr (0, [.int 0, .ref q_1, .null, .null, .null])), (q_1, .inl (ca 1, (6, .inr (.inl fun _ => 0))))] from rfl) dX0_init_9 (fun H locs hw => ?_)
  refine lv_aload_n hx hb dX0_init_12 rfl (lv_at hl 0 rfl) ?_
  refine lv_bipush (v := nI 6) hx hb dX0_init_13 (by decide) ?_
  refine wo_newa (atype := .long) (N := 6) (a0 := (6, .inr (.inl fun _ => 0))) hx hb (hts _ wd_52) rfl (fun C h => by cases h) hK hw hA 1 rfl (fun _ => rfl) (by decide) (by decide) ⟨Nat.le_of_ble_eq_true rfl, Nat.le_of_ble_eq_true rfl⟩ dX0_init_15 (fun q_2 H hw => ?_)
  have hw : wo_w (dC, dI) vwCl A s.heap ([(a, .inr (0, [.int 0, .ref q_1, .null, .null, .null])), (q_1, .inl (ca 1, (6, .inr (.inl fun _ => 0)))), (q_2, .inl (ca 1, (6, .inr (.inl fun _ => 0))))]) H locs := hw
  refine wo_putF (ty := .array .long) (v := .ref q_2) hx hb hts inX0 tyX0 tyX0_ok nmX0 hown hK hw 0 rfl rfl 2 (by decide) (hts _ wd_67) (fun _ h9 => h9) rfl hin rfl (by decide +kernel) rfl rfl (Nat.le_of_ble_eq_true rfl) (show _ = [(a, .inr (0, [.int 0, .ref q_1, .ref q_2, .null, .null])), (q_1, .inl (ca 1, (6, .inr (.inl fun _ => 0)))), (q_2, .inl (ca 1, (6, .inr (.inl fun _ => 0))))] from rfl) dX0_init_17 (fun H locs hw => ?_)
  refine lv_aload_n hx hb dX0_init_20 rfl (lv_at hl 0 rfl) ?_
  refine lv_bipush (v := nI 6) hx hb dX0_init_21 (by decide) ?_
  refine wo_newa (atype := .long) (N := 6) (a0 := (6, .inr (.inl fun _ => 0))) hx hb (hts _ wd_52) rfl (fun C h => by cases h) hK hw hA 1 rfl (fun _ => rfl) (by decide) (by decide) ⟨Nat.le_of_ble_eq_true rfl, Nat.le_of_ble_eq_true rfl⟩ dX0_init_23 (fun q_3 H hw => ?_)
  have hw : wo_w (dC, dI) vwCl A s.heap ([(a, .inr (0, [.int 0, .ref q_1, .ref q_2, .null, .null])), (q_1, .inl (ca 1, (6, .inr (.inl fun _ => 0)))), (q_2, .inl (ca 1, (6, .inr (.inl fun _ => 0)))), (q_3, .inl (ca 1, (6, .inr (.inl fun _ => 0))))]) H locs := hw
  refine wo_putF (ty := .array .long) (v := .ref q_3) hx hb hts inX0 tyX0 tyX0_ok nmX0 hown hK hw 0 rfl rfl 3 (by decide) (hts _ wd_69) (fun _ h9 => h9) rfl hin rfl (by decide +kernel) rfl rfl (Nat.le_of_ble_eq_true rfl) (show _ = [(a, .inr (0, [.int 0, .ref q_1, .ref q_2, .ref q_3, .null])), (q_1, .inl (ca 1, (6, .inr (.inl fun _ => 0)))), (q_2, .inl (ca 1, (6, .inr (.inl fun _ => 0)))), (q_3, .inl (ca 1, (6, .inr (.inl fun _ => 0))))] from rfl) dX0_init_25 (fun H locs hw => ?_)
  refine lv_aload_n hx hb dX0_init_28 rfl (lv_at hl 0 rfl) ?_
  refine lv_bipush (v := nI 12) hx hb dX0_init_29 (by decide) ?_
  refine lv_bipush (v := nI 6) hx hb dX0_init_31 (by decide) ?_
  refine wo_mna (ty := .long) (N := 12) (K := 6) (z := (6, .inr (.inl fun _ => 0))) hx hb hown (by rw [cn_s1]; exact hts _ wd_61) hZ.2.1 (hts _ wd_52) (fun C h => by cases h) hK hw hA 3 1 rfl rfl (by decide) (by decide) (by decide) (by decide) (by decide) rfl rfl ⟨Nat.le_of_ble_eq_true rfl, Nat.le_of_ble_eq_true rfl⟩ (fun _ => rfl) dX0_init_33 (fun q_4 H hw => ?_)
  have hw : wo_w (dC, dI) vwCl A s.heap ([(a, .inr (0, [.int 0, .ref q_1, .ref q_2, .ref q_3, .null])), (q_1, .inl (ca 1, (6, .inr (.inl fun _ => 0)))), (q_2, .inl (ca 1, (6, .inr (.inl fun _ => 0)))), (q_3, .inl (ca 1, (6, .inr (.inl fun _ => 0)))), (q_4, .inl (ca 3, 12, .inr (.inr (.inr (.inr (fun i => if i < 12 then some (q_4 + 1 + i) else none)))))), (q_4 + 1 + 0, .inl (ca 1, (6, .inr (.inl fun _ => 0)))), (q_4 + 1 + 1, .inl (ca 1, (6, .inr (.inl fun _ => 0)))), (q_4 + 1 + 2, .inl (ca 1, (6, .inr (.inl fun _ => 0)))), (q_4 + 1 + 3, .inl (ca 1, (6, .inr (.inl fun _ => 0)))), (q_4 + 1 + 4, .inl (ca 1, (6, .inr (.inl fun _ => 0)))), (q_4 + 1 + 5, .inl (ca 1, (6, .inr (.inl fun _ => 0)))), (q_4 + 1 + 6, .inl (ca 1, (6, .inr (.inl fun _ => 0)))), (q_4 + 1 + 7, .inl (ca 1, (6, .inr (.inl fun _ => 0)))), (q_4 + 1 + 8, .inl (ca 1, (6, .inr (.inl fun _ => 0)))), (q_4 + 1 + 9, .inl (ca 1, (6, .inr (.inl fun _ => 0)))), (q_4 + 1 + 10, .inl (ca 1, (6, .inr (.inl fun _ => 0)))), (q_4 + 1 + 11, .inl (ca 1, (6, .inr (.inl fun _ => 0))))]) H locs := hw
  refine wo_putF (ty := .array (.array .long)) (v := .ref q_4) hx hb hts inX0 tyX0 tyX0_ok nmX0 hown hK hw 0 rfl rfl 4 (by decide) (hts _ wd_71) (fun _ h9 => h9) rfl hin rfl (by decide +kernel) rfl rfl (Nat.le_of_ble_eq_true rfl) (show _ = [(a, .inr (0, [.int 0, .ref q_1, .ref q_2, .ref q_3, .ref q_4])), (q_1, .inl (ca 1, (6, .inr (.inl fun _ => 0)))), (q_2, .inl (ca 1, (6, .inr (.inl fun _ => 0)))), (q_3, .inl (ca 1, (6, .inr (.inl fun _ => 0)))), (q_4, .inl (ca 3, 12, .inr (.inr (.inr (.inr (fun i => if i < 12 then some (q_4 + 1 + i) else none)))))), (q_4 + 1 + 0, .inl (ca 1, (6, .inr (.inl fun _ => 0)))), (q_4 + 1 + 1, .inl (ca 1, (6, .inr (.inl fun _ => 0)))), (q_4 + 1 + 2, .inl (ca 1, (6, .inr (.inl fun _ => 0)))), (q_4 + 1 + 3, .inl (ca 1, (6, .inr (.inl fun _ => 0)))), (q_4 + 1 + 4, .inl (ca 1, (6, .inr (.inl fun _ => 0)))), (q_4 + 1 + 5, .inl (ca 1, (6, .inr (.inl fun _ => 0)))), (q_4 + 1 + 6, .inl (ca 1, (6, .inr (.inl fun _ => 0)))), (q_4 + 1 + 7, .inl (ca 1, (6, .inr (.inl fun _ => 0)))), (q_4 + 1 + 8, .inl (ca 1, (6, .inr (.inl fun _ => 0)))), (q_4 + 1 + 9, .inl (ca 1, (6, .inr (.inl fun _ => 0)))), (q_4 + 1 + 10, .inl (ca 1, (6, .inr (.inl fun _ => 0)))), (q_4 + 1 + 11, .inl (ca 1, (6, .inr (.inl fun _ => 0))))] from rfl) dX0_init_37 (fun H locs hw => ?_)
  refine cn_ret (S := fun k => if 14 ≤ k then q_4 + 1 + (k - 14) else if k = 2 then a else if k = 10 then q_1 else if k = 11 then q_2 else if k = 12 then q_3 else q_4) hx hb hr hlocks hK ?_ rfl dX0_init_40
  have e13 : (fun i => if i < 12 then some ((fun k => if 14 ≤ k then q_4 + 1 + (k - 14) else if k = 2 then a else if k = 10 then q_1 else if k = 11 then q_2 else if k = 12 then q_3 else q_4) (14 + i)) else none) = (fun i => if i < 12 then some (q_4 + 1 + i) else none) := cn_o1 (f := fun k => if 14 ≤ k then q_4 + 1 + (k - 14) else if k = 2 then a else if k = 10 then q_1 else if k = 11 then q_2 else if k = 12 then q_3 else q_4) (fun i hi => by (try dsimp only); rw [if_pos (by omega)]; omega)
  unfold wi2
  rw [e13]
  exact hw

set_option maxHeartbeats 1000000 in
set_option maxRecDepth 100000 in
theorem kX2_init (l : Launch) (dC : Nat → ClassId) (dI : Nat → Nat → Nat) (ca : Nat → ClassId) (a : Nat) : cn_M l yX2_init (Cond.code yX2_init cX2_init 1 none :: wa_T) ({ frames := 1, cells := 15, slots := 114, locals := 40 } : Room) (dC, dI) vwCl (tyl ca) [(a, .inr (2, [.null, .null, .null]))] (wi4 ca) [.ref a] (fun ad => ad 4 = a) 15 114 := by
  refine cn_of (by decide) rfl (Nat.le_of_ble_eq_true rfl) ?_
  intro p e s m below meth c A ls hx hb hr hml hts hown hlocks hK hA hw hl hin hZ
  have hl : lv_has ls 1 [(0, .ref a)] := hl
  have hw : wo_w (dC, dI) vwCl A s.heap [(a, .inr (2, [.null, .null, .null]))] s.heap [] := hw
  skip
  refine lv_aload_n hx hb dX2_init_0 rfl (lv_at hl 0 rfl) ?_
  refine W.objInit hx hb hown (hts _ wd_131) (hts _ wd_24) (hts _ wd_25) rfl (by rw [hml]; exact hl.1) rfl dX2_init_1 (Nat.le_of_ble_eq_true rfl) (Nat.le_of_ble_eq_true rfl) ?_
  refine W.eq (g2 := F0 m 4 ls []) rfl ?_
  refine lv_aload_n hx hb dX2_init_4 rfl (lv_at hl 0 rfl) ?_
  refine lv_bipush (v := nI 6) hx hb dX2_init_5 (by decide) ?_
  refine wo_newa (atype := .int) (N := 6) (a0 := (6, .inl fun _ => 0)) hx hb (hts _ wd_54) rfl (fun C h => by cases h) hK hw hA 0 rfl (fun _ => rfl) (by decide) (by decide) ⟨Nat.le_of_ble_eq_true rfl, Nat.le_of_ble_eq_true rfl⟩ dX2_init_7 (fun q_1 H hw => ?_)
  have hw : wo_w (dC, dI) vwCl A s.heap ([(a, .inr (2, [.null, .null, .null])), (q_1, .inl (ca 0, (6, .inl fun _ => 0)))]) H [] := hw
  refine wo_putF (ty := .array .int) (v := .ref q_1) hx hb hts inX2 tyX2 tyX2_ok nmX2 hown hK hw 0 rfl rfl 0 (by decide) (hts _ wd_135) (fun _ h9 => h9) rfl hin rfl (by decide +kernel) rfl rfl (Nat.le_of_ble_eq_true rfl) (show _ = [(a, .inr (2, [.ref q_1, .null, .null])), (q_1, .inl (ca 0, (6, .inl fun _ => 0)))] from rfl) dX2_init_9 (fun H locs hw => ?_)
  refine lv_aload_n hx hb dX2_init_12 rfl (lv_at hl 0 rfl) ?_
  refine lv_bipush (v := nI 6) hx hb dX2_init_13 (by decide) ?_
  refine lv_bipush (v := nI 8) hx hb dX2_init_15 (by decide) ?_
  refine wo_mna (ty := .int) (N := 6) (K := 8) (z := (8, .inl fun _ => 0)) hx hb hown (by rw [cn_s2]; exact hts _ wd_132) hZ.2.2 (hts _ wd_54) (fun C h => by cases h) hK hw hA 4 0 rfl rfl (by decide) (by decide) (by decide) (by decide) (by decide) rfl rfl ⟨Nat.le_of_ble_eq_true rfl, Nat.le_of_ble_eq_true rfl⟩ (fun _ => rfl) dX2_init_17 (fun q_2 H hw => ?_)
  have hw : wo_w (dC, dI) vwCl A s.heap ([(a, .inr (2, [.ref q_1, .null, .null])), (q_1, .inl (ca 0, (6, .inl fun _ => 0))), (q_2, .inl (ca 4, 6, .inr (.inr (.inr (.inr (fun i => if i < 6 then some (q_2 + 1 + i) else none)))))), (q_2 + 1 + 0, .inl (ca 0, (8, .inl fun _ => 0))), (q_2 + 1 + 1, .inl (ca 0, (8, .inl fun _ => 0))), (q_2 + 1 + 2, .inl (ca 0, (8, .inl fun _ => 0))), (q_2 + 1 + 3, .inl (ca 0, (8, .inl fun _ => 0))), (q_2 + 1 + 4, .inl (ca 0, (8, .inl fun _ => 0))), (q_2 + 1 + 5, .inl (ca 0, (8, .inl fun _ => 0)))]) H locs := hw
  refine wo_putF (ty := .array (.array .int)) (v := .ref q_2) hx hb hts inX2 tyX2 tyX2_ok nmX2 hown hK hw 0 rfl rfl 1 (by decide) (hts _ wd_137) (fun _ h9 => h9) rfl hin rfl (by decide +kernel) rfl rfl (Nat.le_of_ble_eq_true rfl) (show _ = [(a, .inr (2, [.ref q_1, .ref q_2, .null])), (q_1, .inl (ca 0, (6, .inl fun _ => 0))), (q_2, .inl (ca 4, 6, .inr (.inr (.inr (.inr (fun i => if i < 6 then some (q_2 + 1 + i) else none)))))), (q_2 + 1 + 0, .inl (ca 0, (8, .inl fun _ => 0))), (q_2 + 1 + 1, .inl (ca 0, (8, .inl fun _ => 0))), (q_2 + 1 + 2, .inl (ca 0, (8, .inl fun _ => 0))), (q_2 + 1 + 3, .inl (ca 0, (8, .inl fun _ => 0))), (q_2 + 1 + 4, .inl (ca 0, (8, .inl fun _ => 0))), (q_2 + 1 + 5, .inl (ca 0, (8, .inl fun _ => 0)))] from rfl) dX2_init_21 (fun H locs hw => ?_)
  refine lv_aload_n hx hb dX2_init_24 rfl (lv_at hl 0 rfl) ?_
  refine lv_bipush (v := nI 6) hx hb dX2_init_25 (by decide) ?_
  refine lv_bipush (v := nI 8) hx hb dX2_init_27 (by decide) ?_
  refine wo_mna (ty := .long) (N := 6) (K := 8) (z := (8, .inr (.inl fun _ => 0))) hx hb hown (by rw [cn_s1]; exact hts _ wd_134) hZ.2.1 (hts _ wd_52) (fun C h => by cases h) hK hw hA 3 1 rfl rfl (by decide) (by decide) (by decide) (by decide) (by decide) rfl rfl ⟨Nat.le_of_ble_eq_true rfl, Nat.le_of_ble_eq_true rfl⟩ (fun _ => rfl) dX2_init_29 (fun q_3 H hw => ?_)
  have hw : wo_w (dC, dI) vwCl A s.heap ([(a, .inr (2, [.ref q_1, .ref q_2, .null])), (q_1, .inl (ca 0, (6, .inl fun _ => 0))), (q_2, .inl (ca 4, 6, .inr (.inr (.inr (.inr (fun i => if i < 6 then some (q_2 + 1 + i) else none)))))), (q_2 + 1 + 0, .inl (ca 0, (8, .inl fun _ => 0))), (q_2 + 1 + 1, .inl (ca 0, (8, .inl fun _ => 0))), (q_2 + 1 + 2, .inl (ca 0, (8, .inl fun _ => 0))), (q_2 + 1 + 3, .inl (ca 0, (8, .inl fun _ => 0))), (q_2 + 1 + 4, .inl (ca 0, (8, .inl fun _ => 0))), (q_2 + 1 + 5, .inl (ca 0, (8, .inl fun _ => 0))), (q_3, .inl (ca 3, 6, .inr (.inr (.inr (.inr (fun i => if i < 6 then some (q_3 + 1 + i) else none)))))), (q_3 + 1 + 0, .inl (ca 1, (8, .inr (.inl fun _ => 0)))), (q_3 + 1 + 1, .inl (ca 1, (8, .inr (.inl fun _ => 0)))), (q_3 + 1 + 2, .inl (ca 1, (8, .inr (.inl fun _ => 0)))), (q_3 + 1 + 3, .inl (ca 1, (8, .inr (.inl fun _ => 0)))), (q_3 + 1 + 4, .inl (ca 1, (8, .inr (.inl fun _ => 0)))), (q_3 + 1 + 5, .inl (ca 1, (8, .inr (.inl fun _ => 0))))]) H locs := hw
  refine wo_putF (ty := .array (.array .long)) (v := .ref q_3) hx hb hts inX2 tyX2 tyX2_ok nmX2 hown hK hw 0 rfl rfl 2 (by decide) (hts _ wd_139) (fun _ h9 => h9) rfl hin rfl (by decide +kernel) rfl rfl (Nat.le_of_ble_eq_true rfl) (show _ = [(a, .inr (2, [.ref q_1, .ref q_2, .ref q_3])), (q_1, .inl (ca 0, (6, .inl fun _ => 0))), (q_2, .inl (ca 4, 6, .inr (.inr (.inr (.inr (fun i => if i < 6 then some (q_2 + 1 + i) else none)))))), (q_2 + 1 + 0, .inl (ca 0, (8, .inl fun _ => 0))), (q_2 + 1 + 1, .inl (ca 0, (8, .inl fun _ => 0))), (q_2 + 1 + 2, .inl (ca 0, (8, .inl fun _ => 0))), (q_2 + 1 + 3, .inl (ca 0, (8, .inl fun _ => 0))), (q_2 + 1 + 4, .inl (ca 0, (8, .inl fun _ => 0))), (q_2 + 1 + 5, .inl (ca 0, (8, .inl fun _ => 0))), (q_3, .inl (ca 3, 6, .inr (.inr (.inr (.inr (fun i => if i < 6 then some (q_3 + 1 + i) else none)))))), (q_3 + 1 + 0, .inl (ca 1, (8, .inr (.inl fun _ => 0)))), (q_3 + 1 + 1, .inl (ca 1, (8, .inr (.inl fun _ => 0)))), (q_3 + 1 + 2, .inl (ca 1, (8, .inr (.inl fun _ => 0)))), (q_3 + 1 + 3, .inl (ca 1, (8, .inr (.inl fun _ => 0)))), (q_3 + 1 + 4, .inl (ca 1, (8, .inr (.inl fun _ => 0)))), (q_3 + 1 + 5, .inl (ca 1, (8, .inr (.inl fun _ => 0))))] from rfl) dX2_init_33 (fun H locs hw => ?_)
  refine cn_ret (S := fun k => if 43 ≤ k then q_3 + 1 + (k - 43) else if k = 42 then q_3 else if 36 ≤ k then q_2 + 1 + (k - 36) else if k = 4 then a else if k = 34 then q_1 else q_2) hx hb hr hlocks hK ?_ rfl dX2_init_36
  have e35 : (fun i => if i < 6 then some ((fun k => if 43 ≤ k then q_3 + 1 + (k - 43) else if k = 42 then q_3 else if 36 ≤ k then q_2 + 1 + (k - 36) else if k = 4 then a else if k = 34 then q_1 else q_2) (36 + i)) else none) = (fun i => if i < 6 then some (q_2 + 1 + i) else none) := cn_o1 (f := fun k => if 43 ≤ k then q_3 + 1 + (k - 43) else if k = 42 then q_3 else if 36 ≤ k then q_2 + 1 + (k - 36) else if k = 4 then a else if k = 34 then q_1 else q_2) (fun i hi => by (try dsimp only); rw [if_neg (by omega), if_neg (by omega), if_pos (by omega)]; omega)
  have e42 : (fun i => if i < 6 then some ((fun k => if 43 ≤ k then q_3 + 1 + (k - 43) else if k = 42 then q_3 else if 36 ≤ k then q_2 + 1 + (k - 36) else if k = 4 then a else if k = 34 then q_1 else q_2) (43 + i)) else none) = (fun i => if i < 6 then some (q_3 + 1 + i) else none) := cn_o1 (f := fun k => if 43 ≤ k then q_3 + 1 + (k - 43) else if k = 42 then q_3 else if 36 ≤ k then q_2 + 1 + (k - 36) else if k = 4 then a else if k = 34 then q_1 else q_2) (fun i hi => by (try dsimp only); rw [if_pos (by omega)]; omega)
  unfold wi4
  rw [e35, e42]
  exact hw

set_option maxHeartbeats 1000000 in
set_option maxRecDepth 100000 in
theorem kX3_init (l : Launch) (dC : Nat → ClassId) (dI : Nat → Nat → Nat) (ca : Nat → ClassId) (a : Nat) : cn_M l yX3_init (Cond.code yX3_init cX3_init 1 none :: wa_T) ({ frames := 1, cells := 8, slots := 1608, locals := 40 } : Room) (dC, dI) vwCl (tyl ca) [(a, .inr (3, [.int 0, .null, .null, .null, .null, .null, .null, .null, .null]))] (wi3 ca) [.ref a] (fun ad => ad 3 = a) 8 1608 := by
  refine cn_of (by decide) rfl (Nat.le_of_ble_eq_true rfl) ?_
  intro p e s m below meth c A ls hx hb hr hml hts hown hlocks hK hA hw hl hin hZ
  have hl : lv_has ls 1 [(0, .ref a)] := hl
  have hw : wo_w (dC, dI) vwCl A s.heap [(a, .inr (3, [.int 0, .null, .null, .null, .null, .null, .null, .null, .null]))] s.heap [] := hw
  skip
  refine lv_aload_n hx hb dX3_init_0 rfl (lv_at hl 0 rfl) ?_
  refine W.objInit hx hb hown (hts _ wd_88) (hts _ wd_24) (hts _ wd_25) rfl (by rw [hml]; exact hl.1) rfl dX3_init_1 (Nat.le_of_ble_eq_true rfl) (Nat.le_of_ble_eq_true rfl) ?_
  refine W.eq (g2 := F0 m 4 ls []) rfl ?_
  refine lv_aload_n hx hb dX3_init_4 rfl (lv_at hl 0 rfl) ?_
  refine lv_sipush (v := nI 201) hx hb dX3_init_5 (by decide) ?_
  refine wo_newa (atype := .int) (N := 201) (a0 := (201, .inl fun _ => 0)) hx hb (hts _ wd_54) rfl (fun C h => by cases h) hK hw hA 0 rfl (fun _ => rfl) (by decide) (by decide) ⟨Nat.le_of_ble_eq_true rfl, Nat.le_of_ble_eq_true rfl⟩ dX3_init_8 (fun q_1 H hw => ?_)
  have hw : wo_w (dC, dI) vwCl A s.heap ([(a, .inr (3, [.int 0, .null, .null, .null, .null, .null, .null, .null, .null])), (q_1, .inl (ca 0, (201, .inl fun _ => 0)))]) H [] := hw
  refine wo_putF (ty := .array .int) (v := .ref q_1) hx hb hts inX3 tyX3 tyX3_ok nmX3 hown hK hw 0 rfl rfl 1 (by decide) (hts _ wd_91) (fun _ h9 => h9) rfl hin rfl (by decide +kernel) rfl rfl (Nat.le_of_ble_eq_true rfl) (show _ = [(a, .inr (3, [.int 0, .ref q_1, .null, .null, .null, .null, .null, .null, .null])), (q_1, .inl (ca 0, (201, .inl fun _ => 0)))] from rfl) dX3_init_10 (fun H locs hw => ?_)
  refine lv_aload_n hx hb dX3_init_13 rfl (lv_at hl 0 rfl) ?_
  refine lv_sipush (v := nI 201) hx hb dX3_init_14 (by decide) ?_
  refine wo_newa (atype := .int) (N := 201) (a0 := (201, .inl fun _ => 0)) hx hb (hts _ wd_54) rfl (fun C h => by cases h) hK hw hA 0 rfl (fun _ => rfl) (by decide) (by decide) ⟨Nat.le_of_ble_eq_true rfl, Nat.le_of_ble_eq_true rfl⟩ dX3_init_17 (fun q_2 H hw => ?_)
  have hw : wo_w (dC, dI) vwCl A s.heap ([(a, .inr (3, [.int 0, .ref q_1, .null, .null, .null, .null, .null, .null, .null])), (q_1, .inl (ca 0, (201, .inl fun _ => 0))), (q_2, .inl (ca 0, (201, .inl fun _ => 0)))]) H locs := hw
  refine wo_putF (ty := .array .int) (v := .ref q_2) hx hb hts inX3 tyX3 tyX3_ok nmX3 hown hK hw 0 rfl rfl 2 (by decide) (hts _ wd_93) (fun _ h9 => h9) rfl hin rfl (by decide +kernel) rfl rfl (Nat.le_of_ble_eq_true rfl) (show _ = [(a, .inr (3, [.int 0, .ref q_1, .ref q_2, .null, .null, .null, .null, .null, .null])), (q_1, .inl (ca 0, (201, .inl fun _ => 0))), (q_2, .inl (ca 0, (201, .inl fun _ => 0)))] from rfl) dX3_init_19 (fun H locs hw => ?_)
  refine lv_aload_n hx hb dX3_init_22 rfl (lv_at hl 0 rfl) ?_
  refine lv_sipush (v := nI 201) hx hb dX3_init_23 (by decide) ?_
  refine wo_newa (atype := .int) (N := 201) (a0 := (201, .inl fun _ => 0)) hx hb (hts _ wd_54) rfl (fun C h => by cases h) hK hw hA 0 rfl (fun _ => rfl) (by decide) (by decide) ⟨Nat.le_of_ble_eq_true rfl, Nat.le_of_ble_eq_true rfl⟩ dX3_init_26 (fun q_3 H hw => ?_)
  have hw : wo_w (dC, dI) vwCl A s.heap ([(a, .inr (3, [.int 0, .ref q_1, .ref q_2, .null, .null, .null, .null, .null, .null])), (q_1, .inl (ca 0, (201, .inl fun _ => 0))), (q_2, .inl (ca 0, (201, .inl fun _ => 0))), (q_3, .inl (ca 0, (201, .inl fun _ => 0)))]) H locs := hw
  refine wo_putF (ty := .array .int) (v := .ref q_3) hx hb hts inX3 tyX3 tyX3_ok nmX3 hown hK hw 0 rfl rfl 3 (by decide) (hts _ wd_95) (fun _ h9 => h9) rfl hin rfl (by decide +kernel) rfl rfl (Nat.le_of_ble_eq_true rfl) (show _ = [(a, .inr (3, [.int 0, .ref q_1, .ref q_2, .ref q_3, .null, .null, .null, .null, .null])), (q_1, .inl (ca 0, (201, .inl fun _ => 0))), (q_2, .inl (ca 0, (201, .inl fun _ => 0))), (q_3, .inl (ca 0, (201, .inl fun _ => 0)))] from rfl) dX3_init_28 (fun H locs hw => ?_)
  refine lv_aload_n hx hb dX3_init_31 rfl (lv_at hl 0 rfl) ?_
  refine lv_sipush (v := nI 201) hx hb dX3_init_32 (by decide) ?_
  refine wo_newa (atype := .int) (N := 201) (a0 := (201, .inl fun _ => 0)) hx hb (hts _ wd_54) rfl (fun C h => by cases h) hK hw hA 0 rfl (fun _ => rfl) (by decide) (by decide) ⟨Nat.le_of_ble_eq_true rfl, Nat.le_of_ble_eq_true rfl⟩ dX3_init_35 (fun q_4 H hw => ?_)
  have hw : wo_w (dC, dI) vwCl A s.heap ([(a, .inr (3, [.int 0, .ref q_1, .ref q_2, .ref q_3, .null, .null, .null, .null, .null])), (q_1, .inl (ca 0, (201, .inl fun _ => 0))), (q_2, .inl (ca 0, (201, .inl fun _ => 0))), (q_3, .inl (ca 0, (201, .inl fun _ => 0))), (q_4, .inl (ca 0, (201, .inl fun _ => 0)))]) H locs := hw
  refine wo_putF (ty := .array .int) (v := .ref q_4) hx hb hts inX3 tyX3 tyX3_ok nmX3 hown hK hw 0 rfl rfl 4 (by decide) (hts _ wd_97) (fun _ h9 => h9) rfl hin rfl (by decide +kernel) rfl rfl (Nat.le_of_ble_eq_true rfl) (show _ = [(a, .inr (3, [.int 0, .ref q_1, .ref q_2, .ref q_3, .ref q_4, .null, .null, .null, .null])), (q_1, .inl (ca 0, (201, .inl fun _ => 0))), (q_2, .inl (ca 0, (201, .inl fun _ => 0))), (q_3, .inl (ca 0, (201, .inl fun _ => 0))), (q_4, .inl (ca 0, (201, .inl fun _ => 0)))] from rfl) dX3_init_37 (fun H locs hw => ?_)
  refine lv_aload_n hx hb dX3_init_40 rfl (lv_at hl 0 rfl) ?_
  refine lv_sipush (v := nI 201) hx hb dX3_init_41 (by decide) ?_
  refine wo_newa (atype := .int) (N := 201) (a0 := (201, .inl fun _ => 0)) hx hb (hts _ wd_54) rfl (fun C h => by cases h) hK hw hA 0 rfl (fun _ => rfl) (by decide) (by decide) ⟨Nat.le_of_ble_eq_true rfl, Nat.le_of_ble_eq_true rfl⟩ dX3_init_44 (fun q_5 H hw => ?_)
  have hw : wo_w (dC, dI) vwCl A s.heap ([(a, .inr (3, [.int 0, .ref q_1, .ref q_2, .ref q_3, .ref q_4, .null, .null, .null, .null])), (q_1, .inl (ca 0, (201, .inl fun _ => 0))), (q_2, .inl (ca 0, (201, .inl fun _ => 0))), (q_3, .inl (ca 0, (201, .inl fun _ => 0))), (q_4, .inl (ca 0, (201, .inl fun _ => 0))), (q_5, .inl (ca 0, (201, .inl fun _ => 0)))]) H locs := hw
  refine wo_putF (ty := .array .int) (v := .ref q_5) hx hb hts inX3 tyX3 tyX3_ok nmX3 hown hK hw 0 rfl rfl 5 (by decide) (hts _ wd_99) (fun _ h9 => h9) rfl hin rfl (by decide +kernel) rfl rfl (Nat.le_of_ble_eq_true rfl) (show _ = [(a, .inr (3, [.int 0, .ref q_1, .ref q_2, .ref q_3, .ref q_4, .ref q_5, .null, .null, .null])), (q_1, .inl (ca 0, (201, .inl fun _ => 0))), (q_2, .inl (ca 0, (201, .inl fun _ => 0))), (q_3, .inl (ca 0, (201, .inl fun _ => 0))), (q_4, .inl (ca 0, (201, .inl fun _ => 0))), (q_5, .inl (ca 0, (201, .inl fun _ => 0)))] from rfl) dX3_init_46 (fun H locs hw => ?_)
  refine lv_aload_n hx hb dX3_init_49 rfl (lv_at hl 0 rfl) ?_
  refine lv_sipush (v := nI 201) hx hb dX3_init_50 (by decide) ?_
  refine wo_newa (atype := .int) (N := 201) (a0 := (201, .inl fun _ => 0)) hx hb (hts _ wd_54) rfl (fun C h => by cases h) hK hw hA 0 rfl (fun _ => rfl) (by decide) (by decide) ⟨Nat.le_of_ble_eq_true rfl, Nat.le_of_ble_eq_true rfl⟩ dX3_init_53 (fun q_6 H hw => ?_)
  have hw : wo_w (dC, dI) vwCl A s.heap ([(a, .inr (3, [.int 0, .ref q_1, .ref q_2, .ref q_3, .ref q_4, .ref q_5, .null, .null, .null])), (q_1, .inl (ca 0, (201, .inl fun _ => 0))), (q_2, .inl (ca 0, (201, .inl fun _ => 0))), (q_3, .inl (ca 0, (201, .inl fun _ => 0))), (q_4, .inl (ca 0, (201, .inl fun _ => 0))), (q_5, .inl (ca 0, (201, .inl fun _ => 0))), (q_6, .inl (ca 0, (201, .inl fun _ => 0)))]) H locs := hw
  refine wo_putF (ty := .array .int) (v := .ref q_6) hx hb hts inX3 tyX3 tyX3_ok nmX3 hown hK hw 0 rfl rfl 6 (by decide) (hts _ wd_101) (fun _ h9 => h9) rfl hin rfl (by decide +kernel) rfl rfl (Nat.le_of_ble_eq_true rfl) (show _ = [(a, .inr (3, [.int 0, .ref q_1, .ref q_2, .ref q_3, .ref q_4, .ref q_5, .ref q_6, .null, .null])), (q_1, .inl (ca 0, (201, .inl fun _ => 0))), (q_2, .inl (ca 0, (201, .inl fun _ => 0))), (q_3, .inl (ca 0, (201, .inl fun _ => 0))), (q_4, .inl (ca 0, (201, .inl fun _ => 0))), (q_5, .inl (ca 0, (201, .inl fun _ => 0))), (q_6, .inl (ca 0, (201, .inl fun _ => 0)))] from rfl) dX3_init_55 (fun H locs hw => ?_)
  refine lv_aload_n hx hb dX3_init_58 rfl (lv_at hl 0 rfl) ?_
  refine lv_sipush (v := nI 201) hx hb dX3_init_59 (by decide) ?_
  refine wo_newa (atype := .long) (N := 201) (a0 := (201, .inr (.inl fun _ => 0))) hx hb (hts _ wd_52) rfl (fun C h => by cases h) hK hw hA 1 rfl (fun _ => rfl) (by decide) (by decide) ⟨Nat.le_of_ble_eq_true rfl, Nat.le_of_ble_eq_true rfl⟩ dX3_init_62 (fun q_7 H hw => ?_)
  have hw : wo_w (dC, dI) vwCl A s.heap ([(a, .inr (3, [.int 0, .ref q_1, .ref q_2, .ref q_3, .ref q_4, .ref q_5, .ref q_6, .null, .null])), (q_1, .inl (ca 0, (201, .inl fun _ => 0))), (q_2, .inl (ca 0, (201, .inl fun _ => 0))), (q_3, .inl (ca 0, (201, .inl fun _ => 0))), (q_4, .inl (ca 0, (201, .inl fun _ => 0))), (q_5, .inl (ca 0, (201, .inl fun _ => 0))), (q_6, .inl (ca 0, (201, .inl fun _ => 0))), (q_7, .inl (ca 1, (201, .inr (.inl fun _ => 0))))]) H locs := hw
  refine wo_putF (ty := .array .long) (v := .ref q_7) hx hb hts inX3 tyX3 tyX3_ok nmX3 hown hK hw 0 rfl rfl 7 (by decide) (hts _ wd_103) (fun _ h9 => h9) rfl hin rfl (by decide +kernel) rfl rfl (Nat.le_of_ble_eq_true rfl) (show _ = [(a, .inr (3, [.int 0, .ref q_1, .ref q_2, .ref q_3, .ref q_4, .ref q_5, .ref q_6, .ref q_7, .null])), (q_1, .inl (ca 0, (201, .inl fun _ => 0))), (q_2, .inl (ca 0, (201, .inl fun _ => 0))), (q_3, .inl (ca 0, (201, .inl fun _ => 0))), (q_4, .inl (ca 0, (201, .inl fun _ => 0))), (q_5, .inl (ca 0, (201, .inl fun _ => 0))), (q_6, .inl (ca 0, (201, .inl fun _ => 0))), (q_7, .inl (ca 1, (201, .inr (.inl fun _ => 0))))] from rfl) dX3_init_64 (fun H locs hw => ?_)
  refine lv_aload_n hx hb dX3_init_67 rfl (lv_at hl 0 rfl) ?_
  refine lv_sipush (v := nI 201) hx hb dX3_init_68 (by decide) ?_
  refine wo_newa (atype := .long) (N := 201) (a0 := (201, .inr (.inl fun _ => 0))) hx hb (hts _ wd_52) rfl (fun C h => by cases h) hK hw hA 1 rfl (fun _ => rfl) (by decide) (by decide) ⟨Nat.le_of_ble_eq_true rfl, Nat.le_of_ble_eq_true rfl⟩ dX3_init_71 (fun q_8 H hw => ?_)
  have hw : wo_w (dC, dI) vwCl A s.heap ([(a, .inr (3, [.int 0, .ref q_1, .ref q_2, .ref q_3, .ref q_4, .ref q_5, .ref q_6, .ref q_7, .null])), (q_1, .inl (ca 0, (201, .inl fun _ => 0))), (q_2, .inl (ca 0, (201, .inl fun _ => 0))), (q_3, .inl (ca 0, (201, .inl fun _ => 0))), (q_4, .inl (ca 0, (201, .inl fun _ => 0))), (q_5, .inl (ca 0, (201, .inl fun _ => 0))), (q_6, .inl (ca 0, (201, .inl fun _ => 0))), (q_7, .inl (ca 1, (201, .inr (.inl fun _ => 0)))), (q_8, .inl (ca 1, (201, .inr (.inl fun _ => 0))))]) H locs := hw
  refine wo_putF (ty := .array .long) (v := .ref q_8) hx hb hts inX3 tyX3 tyX3_ok nmX3 hown hK hw 0 rfl rfl 8 (by decide) (hts _ wd_105) (fun _ h9 => h9) rfl hin rfl (by decide +kernel) rfl rfl (Nat.le_of_ble_eq_true rfl) (show _ = [(a, .inr (3, [.int 0, .ref q_1, .ref q_2, .ref q_3, .ref q_4, .ref q_5, .ref q_6, .ref q_7, .ref q_8])), (q_1, .inl (ca 0, (201, .inl fun _ => 0))), (q_2, .inl (ca 0, (201, .inl fun _ => 0))), (q_3, .inl (ca 0, (201, .inl fun _ => 0))), (q_4, .inl (ca 0, (201, .inl fun _ => 0))), (q_5, .inl (ca 0, (201, .inl fun _ => 0))), (q_6, .inl (ca 0, (201, .inl fun _ => 0))), (q_7, .inl (ca 1, (201, .inr (.inl fun _ => 0)))), (q_8, .inl (ca 1, (201, .inr (.inl fun _ => 0))))] from rfl) dX3_init_73 (fun H locs hw => ?_)
  refine cn_ret (S := fun k => if k = 3 then a else if k = 26 then q_1 else if k = 27 then q_2 else if k = 28 then q_3 else if k = 29 then q_4 else if k = 30 then q_5 else if k = 31 then q_6 else if k = 32 then q_7 else q_8) hx hb hr hlocks hK ?_ rfl dX3_init_76
  exact hw

set_option maxHeartbeats 1000000 in
set_option maxRecDepth 100000 in
theorem kX4_init (l : Launch) (dC : Nat → ClassId) (dI : Nat → Nat → Nat) (ca : Nat → ClassId) (a : Nat) : cn_M l yX4_init (Cond.code yX4_init cX4_init 1 none :: wa_T) ({ frames := 1, cells := 3, slots := 18, locals := 40 } : Room) (dC, dI) vwCl (tyl ca) [(a, .inr (4, [.null, .null, .null]))] (wi5 ca) [.ref a] (fun ad => ad 5 = a) 3 18 := by
  refine cn_of (by decide) rfl (Nat.le_of_ble_eq_true rfl) ?_
  intro p e s m below meth c A ls hx hb hr hml hts hown hlocks hK hA hw hl hin hZ
  have hl : lv_has ls 1 [(0, .ref a)] := hl
  have hw : wo_w (dC, dI) vwCl A s.heap [(a, .inr (4, [.null, .null, .null]))] s.heap [] := hw
  skip
  refine lv_aload_n hx hb dX4_init_0 rfl (lv_at hl 0 rfl) ?_
  refine W.objInit hx hb hown (hts _ wd_153) (hts _ wd_24) (hts _ wd_25) rfl (by rw [hml]; exact hl.1) rfl dX4_init_1 (Nat.le_of_ble_eq_true rfl) (Nat.le_of_ble_eq_true rfl) ?_
  refine W.eq (g2 := F0 m 4 ls []) rfl ?_
  refine lv_aload_n hx hb dX4_init_4 rfl (lv_at hl 0 rfl) ?_
  refine lv_bipush (v := nI 6) hx hb dX4_init_5 (by decide) ?_
  refine wo_newa (atype := .long) (N := 6) (a0 := (6, .inr (.inl fun _ => 0))) hx hb (hts _ wd_52) rfl (fun C h => by cases h) hK hw hA 1 rfl (fun _ => rfl) (by decide) (by decide) ⟨Nat.le_of_ble_eq_true rfl, Nat.le_of_ble_eq_true rfl⟩ dX4_init_7 (fun q_1 H hw => ?_)
  have hw : wo_w (dC, dI) vwCl A s.heap ([(a, .inr (4, [.null, .null, .null])), (q_1, .inl (ca 1, (6, .inr (.inl fun _ => 0))))]) H [] := hw
  refine wo_putF (ty := .array .long) (v := .ref q_1) hx hb hts inX4 tyX4 tyX4_ok nmX4 hown hK hw 0 rfl rfl 0 (by decide) (hts _ wd_154) (fun _ h9 => h9) rfl hin rfl (by decide +kernel) rfl rfl (Nat.le_of_ble_eq_true rfl) (show _ = [(a, .inr (4, [.ref q_1, .null, .null])), (q_1, .inl (ca 1, (6, .inr (.inl fun _ => 0))))] from rfl) dX4_init_9 (fun H locs hw => ?_)
  refine lv_aload_n hx hb dX4_init_12 rfl (lv_at hl 0 rfl) ?_
  refine lv_bipush (v := nI 6) hx hb dX4_init_13 (by decide) ?_
  refine wo_newa (atype := .long) (N := 6) (a0 := (6, .inr (.inl fun _ => 0))) hx hb (hts _ wd_52) rfl (fun C h => by cases h) hK hw hA 1 rfl (fun _ => rfl) (by decide) (by decide) ⟨Nat.le_of_ble_eq_true rfl, Nat.le_of_ble_eq_true rfl⟩ dX4_init_15 (fun q_2 H hw => ?_)
  have hw : wo_w (dC, dI) vwCl A s.heap ([(a, .inr (4, [.ref q_1, .null, .null])), (q_1, .inl (ca 1, (6, .inr (.inl fun _ => 0)))), (q_2, .inl (ca 1, (6, .inr (.inl fun _ => 0))))]) H locs := hw
  refine wo_putF (ty := .array .long) (v := .ref q_2) hx hb hts inX4 tyX4 tyX4_ok nmX4 hown hK hw 0 rfl rfl 1 (by decide) (hts _ wd_156) (fun _ h9 => h9) rfl hin rfl (by decide +kernel) rfl rfl (Nat.le_of_ble_eq_true rfl) (show _ = [(a, .inr (4, [.ref q_1, .ref q_2, .null])), (q_1, .inl (ca 1, (6, .inr (.inl fun _ => 0)))), (q_2, .inl (ca 1, (6, .inr (.inl fun _ => 0))))] from rfl) dX4_init_17 (fun H locs hw => ?_)
  refine lv_aload_n hx hb dX4_init_20 rfl (lv_at hl 0 rfl) ?_
  refine lv_bipush (v := nI 6) hx hb dX4_init_21 (by decide) ?_
  refine wo_newa (atype := .long) (N := 6) (a0 := (6, .inr (.inl fun _ => 0))) hx hb (hts _ wd_52) rfl (fun C h => by cases h) hK hw hA 1 rfl (fun _ => rfl) (by decide) (by decide) ⟨Nat.le_of_ble_eq_true rfl, Nat.le_of_ble_eq_true rfl⟩ dX4_init_23 (fun q_3 H hw => ?_)
  have hw : wo_w (dC, dI) vwCl A s.heap ([(a, .inr (4, [.ref q_1, .ref q_2, .null])), (q_1, .inl (ca 1, (6, .inr (.inl fun _ => 0)))), (q_2, .inl (ca 1, (6, .inr (.inl fun _ => 0)))), (q_3, .inl (ca 1, (6, .inr (.inl fun _ => 0))))]) H locs := hw
  refine wo_putF (ty := .array .long) (v := .ref q_3) hx hb hts inX4 tyX4 tyX4_ok nmX4 hown hK hw 0 rfl rfl 2 (by decide) (hts _ wd_158) (fun _ h9 => h9) rfl hin rfl (by decide +kernel) rfl rfl (Nat.le_of_ble_eq_true rfl) (show _ = [(a, .inr (4, [.ref q_1, .ref q_2, .ref q_3])), (q_1, .inl (ca 1, (6, .inr (.inl fun _ => 0)))), (q_2, .inl (ca 1, (6, .inr (.inl fun _ => 0)))), (q_3, .inl (ca 1, (6, .inr (.inl fun _ => 0))))] from rfl) dX4_init_25 (fun H locs hw => ?_)
  refine cn_ret (S := fun k => if k = 5 then a else if k = 49 then q_1 else if k = 50 then q_2 else q_3) hx hb hr hlocks hK ?_ rfl dX4_init_28
  exact hw

set_option maxHeartbeats 1000000 in
set_option maxRecDepth 100000 in
theorem kX5_init (l : Launch) (dC : Nat → ClassId) (dI : Nat → Nat → Nat) (ca : Nat → ClassId) (a : Nat) : cn_M l yX5_init (Cond.code yX5_init cX5_init 1 none :: wa_T) ({ frames := 2, cells := 51, slots := 1890, locals := 60 } : Room) (dC, dI) vwCl (tyl ca) [(a, .inr (5, [.null, .null, .null, .null, .null, .int 0, .int 0]))] (fun ad => wc ca ad Sc0) [.ref a] (fun ad => ad 0 = a) 51 1890 := by
  refine cn_of (by decide) rfl (Nat.le_of_ble_eq_true rfl) ?_
  intro p e s m below meth c A ls hx hb hr hml hts hown hlocks hK hA hw hl hin hZ
  have hl : lv_has ls 1 [(0, .ref a)] := hl
  have hw : wo_w (dC, dI) vwCl A s.heap [(a, .inr (5, [.null, .null, .null, .null, .null, .int 0, .int 0]))] s.heap [] := hw
  skip
  refine lv_aload_n hx hb dX5_init_0 rfl (lv_at hl 0 rfl) ?_
  refine W.objInit hx hb hown (hts _ wd_23) (hts _ wd_24) (hts _ wd_25) rfl (by rw [hml]; exact hl.1) rfl dX5_init_1 (Nat.le_of_ble_eq_true rfl) (Nat.le_of_ble_eq_true rfl) ?_
  refine W.eq (g2 := F0 m 4 ls []) rfl ?_
  refine lv_aload_n hx hb dX5_init_4 rfl (lv_at hl 0 rfl) ?_
  refine wo_new (ci := 1) (fs := [.null, .null, .null, .null]) hx hb hts inX1 tyX1 tyX1_ok hown (hts _ wd_26) (hts _ wd_27) (hts _ wd_2) hK hw hA rfl (by decide +kernel) ⟨Nat.le_of_ble_eq_true rfl, Nat.le_of_ble_eq_true rfl⟩ dX5_init_5 (fun q_1 H hw => ?_)
  refine lv_dup hx hb dX5_init_8 rfl ?_
  refine fw_N (w1 := ((a, .inr (5, [.null, .null, .null, .null, .null, .int 0, .int 0])) :: (([] : va_W)))) (w0 := [(q_1, .inr (1, [.null, .null, .null, .null]))]) (w2 := []) (wd := wi1 ca) hw hA (va_runI (As := []) (rest := [.ref q_1, .ref a]) ⟨hx, hb, hml, hown, hts⟩ (kX1_init l dC dI ca q_1 _) ⟨callB_of 0 hts (wa_code wd_30) rfl rfl rfl (hts _ wd_2) (hts _ wd_28) (by decide +kernel) ⟨Nat.le_of_ble_eq_true rfl, Nat.le_of_ble_eq_true rfl⟩, rfl, hts _ wd_29⟩ (cn_pre (w1 := ((a, .inr (5, [.null, .null, .null, .null, .null, .int 0, .int 0])) :: (([] : va_W)))) (w2 := []) hK hZ hw _) rfl rfl hl.1 rfl (lv_room (Nat.le_of_ble_eq_true rfl)) dX5_init_9 ⟨Nat.le_of_ble_eq_true rfl, Nat.le_of_ble_eq_true rfl⟩) (fun u1 H locs hp hw9 => ?_)
  subst hp
  have hw : wo_w (dC, dI) vwCl A s.heap (((a, .inr (5, [.null, .null, .null, .null, .null, .int 0, .int 0])) :: (wi1 ca u1))) H locs := hw9
  refine wo_putF (ty := .object "LentBounds$People") (v := .ref (u1 1)) hx hb hts inX5 tyX5 tyX5_ok nmX5 hown hK hw 0 rfl rfl 0 (by decide) (hts _ wd_166) (fun _ h9 => h9) rfl hin rfl (by decide +kernel) rfl rfl (Nat.le_of_ble_eq_true rfl) (show _ = ((a, .inr (5, [.ref (u1 1), .null, .null, .null, .null, .int 0, .int 0])) :: (wi1 ca u1)) from rfl) dX5_init_12 (fun H locs hw => ?_)
  refine lv_aload_n hx hb dX5_init_15 rfl (lv_at hl 0 rfl) ?_
  refine wo_new (ci := 0) (fs := [.int 0, .null, .null, .null, .null]) hx hb hts inX0 tyX0 tyX0_ok hown (hts _ wd_55) (hts _ wd_56) (hts _ wd_4) hK hw hA rfl (by decide +kernel) ⟨Nat.le_of_ble_eq_true rfl, Nat.le_of_ble_eq_true rfl⟩ dX5_init_16 (fun q_2 H hw => ?_)
  refine lv_dup hx hb dX5_init_19 rfl ?_
  refine fw_N (w1 := ((a, .inr (5, [.ref (u1 1), .null, .null, .null, .null, .int 0, .int 0])) :: (wi1 ca u1))) (w0 := [(q_2, .inr (0, [.int 0, .null, .null, .null, .null]))]) (w2 := []) (wd := wi2 ca) hw hA (va_runIN (As := []) (rest := [.ref q_2, .ref a]) ⟨hx, hb, hml, hown, hts⟩ (kX0_init l dC dI ca q_2 _) ⟨va_cnB 0 hts (wa_code wd_59) rfl rfl rfl (hZ.1 (18, "LentBounds$Bounds") (by simp [cn_L])) (hts _ wd_4) (by decide +kernel) ⟨Nat.le_of_ble_eq_true rfl, Nat.le_of_ble_eq_true rfl⟩, rfl, hts _ wd_58⟩ (cn_pre (w1 := ((a, .inr (5, [.ref (u1 1), .null, .null, .null, .null, .int 0, .int 0])) :: (wi1 ca u1))) (w2 := []) hK hZ hw _) rfl rfl hl.1 rfl (lv_room (Nat.le_of_ble_eq_true rfl)) dX5_init_20 ⟨Nat.le_of_ble_eq_true rfl, Nat.le_of_ble_eq_true rfl⟩) (fun u2 H locs hp hw9 => ?_)
  subst hp
  have hw : wo_w (dC, dI) vwCl A s.heap (((a, .inr (5, [.ref (u1 1), .null, .null, .null, .null, .int 0, .int 0])) :: (wi1 ca u1 ++ (wi2 ca u2)))) H locs := hw9
  refine wo_putF (ty := .object "LentBounds$Bounds") (v := .ref (u2 2)) hx hb hts inX5 tyX5 tyX5_ok nmX5 hown hK hw 0 rfl rfl 1 (by decide) (hts _ wd_167) (fun _ h9 => h9) rfl hin rfl (by decide +kernel) rfl rfl (Nat.le_of_ble_eq_true rfl) (show _ = ((a, .inr (5, [.ref (u1 1), .ref (u2 2), .null, .null, .null, .int 0, .int 0])) :: (wi1 ca u1 ++ (wi2 ca u2))) from rfl) dX5_init_23 (fun H locs hw => ?_)
  refine lv_aload_n hx hb dX5_init_26 rfl (lv_at hl 0 rfl) ?_
  refine wo_new (ci := 3) (fs := [.int 0, .null, .null, .null, .null, .null, .null, .null, .null]) hx hb hts inX3 tyX3 tyX3_ok hown (hts _ wd_83) (hts _ wd_84) (hts _ wd_5) hK hw hA rfl (by decide +kernel) ⟨Nat.le_of_ble_eq_true rfl, Nat.le_of_ble_eq_true rfl⟩ dX5_init_27 (fun q_3 H hw => ?_)
  refine lv_dup hx hb dX5_init_30 rfl ?_
  refine fw_N (w1 := ((a, .inr (5, [.ref (u1 1), .ref (u2 2), .null, .null, .null, .int 0, .int 0])) :: (wi1 ca u1 ++ (wi2 ca u2)))) (w0 := [(q_3, .inr (3, [.int 0, .null, .null, .null, .null, .null, .null, .null, .null]))]) (w2 := []) (wd := wi3 ca) hw hA (va_runIN (As := []) (rest := [.ref q_3, .ref a]) ⟨hx, hb, hml, hown, hts⟩ (kX3_init l dC dI ca q_3 _) ⟨va_cnB 0 hts (wa_code wd_87) rfl rfl rfl (hZ.1 (25, "LentBounds$Rows") (by simp [cn_L])) (hts _ wd_5) (by decide +kernel) ⟨Nat.le_of_ble_eq_true rfl, Nat.le_of_ble_eq_true rfl⟩, rfl, hts _ wd_86⟩ (cn_pre (w1 := ((a, .inr (5, [.ref (u1 1), .ref (u2 2), .null, .null, .null, .int 0, .int 0])) :: (wi1 ca u1 ++ (wi2 ca u2)))) (w2 := []) hK hZ hw _) rfl rfl hl.1 rfl (lv_room (Nat.le_of_ble_eq_true rfl)) dX5_init_31 ⟨Nat.le_of_ble_eq_true rfl, Nat.le_of_ble_eq_true rfl⟩) (fun u3 H locs hp hw9 => ?_)
  subst hp
  have hw : wo_w (dC, dI) vwCl A s.heap (((a, .inr (5, [.ref (u1 1), .ref (u2 2), .null, .null, .null, .int 0, .int 0])) :: (wi1 ca u1 ++ (wi2 ca u2 ++ (wi3 ca u3))))) H locs := hw9
  refine wo_putF (ty := .object "LentBounds$Rows") (v := .ref (u3 3)) hx hb hts inX5 tyX5 tyX5_ok nmX5 hown hK hw 0 rfl rfl 2 (by decide) (hts _ wd_168) (fun _ h9 => h9) rfl hin rfl (by decide +kernel) rfl rfl (Nat.le_of_ble_eq_true rfl) (show _ = ((a, .inr (5, [.ref (u1 1), .ref (u2 2), .ref (u3 3), .null, .null, .int 0, .int 0])) :: (wi1 ca u1 ++ (wi2 ca u2 ++ (wi3 ca u3)))) from rfl) dX5_init_34 (fun H locs hw => ?_)
  refine lv_aload_n hx hb dX5_init_37 rfl (lv_at hl 0 rfl) ?_
  refine wo_new (ci := 2) (fs := [.null, .null, .null]) hx hb hts inX2 tyX2 tyX2_ok hown (hts _ wd_126) (hts _ wd_127) (hts _ wd_6) hK hw hA rfl (by decide +kernel) ⟨Nat.le_of_ble_eq_true rfl, Nat.le_of_ble_eq_true rfl⟩ dX5_init_38 (fun q_4 H hw => ?_)
  refine lv_dup hx hb dX5_init_41 rfl ?_
  refine fw_N (w1 := ((a, .inr (5, [.ref (u1 1), .ref (u2 2), .ref (u3 3), .null, .null, .int 0, .int 0])) :: (wi1 ca u1 ++ (wi2 ca u2 ++ (wi3 ca u3))))) (w0 := [(q_4, .inr (2, [.null, .null, .null]))]) (w2 := []) (wd := wi4 ca) hw hA (va_runIN (As := []) (rest := [.ref q_4, .ref a]) ⟨hx, hb, hml, hown, hts⟩ (kX2_init l dC dI ca q_4 _) ⟨va_cnB 0 hts (wa_code wd_130) rfl rfl rfl (hZ.1 (32, "LentBounds$Queues") (by simp [cn_L])) (hts _ wd_6) (by decide +kernel) ⟨Nat.le_of_ble_eq_true rfl, Nat.le_of_ble_eq_true rfl⟩, rfl, hts _ wd_129⟩ (cn_pre (w1 := ((a, .inr (5, [.ref (u1 1), .ref (u2 2), .ref (u3 3), .null, .null, .int 0, .int 0])) :: (wi1 ca u1 ++ (wi2 ca u2 ++ (wi3 ca u3))))) (w2 := []) hK hZ hw _) rfl rfl hl.1 rfl (lv_room (Nat.le_of_ble_eq_true rfl)) dX5_init_42 ⟨Nat.le_of_ble_eq_true rfl, Nat.le_of_ble_eq_true rfl⟩) (fun u4 H locs hp hw9 => ?_)
  subst hp
  have hw : wo_w (dC, dI) vwCl A s.heap (((a, .inr (5, [.ref (u1 1), .ref (u2 2), .ref (u3 3), .null, .null, .int 0, .int 0])) :: (wi1 ca u1 ++ (wi2 ca u2 ++ (wi3 ca u3 ++ (wi4 ca u4)))))) H locs := hw9
  refine wo_putF (ty := .object "LentBounds$Queues") (v := .ref (u4 4)) hx hb hts inX5 tyX5 tyX5_ok nmX5 hown hK hw 0 rfl rfl 3 (by decide) (hts _ wd_169) (fun _ h9 => h9) rfl hin rfl (by decide +kernel) rfl rfl (Nat.le_of_ble_eq_true rfl) (show _ = ((a, .inr (5, [.ref (u1 1), .ref (u2 2), .ref (u3 3), .ref (u4 4), .null, .int 0, .int 0])) :: (wi1 ca u1 ++ (wi2 ca u2 ++ (wi3 ca u3 ++ (wi4 ca u4))))) from rfl) dX5_init_45 (fun H locs hw => ?_)
  refine lv_aload_n hx hb dX5_init_48 rfl (lv_at hl 0 rfl) ?_
  refine wo_new (ci := 4) (fs := [.null, .null, .null]) hx hb hts inX4 tyX4 tyX4_ok hown (hts _ wd_148) (hts _ wd_149) (hts _ wd_7) hK hw hA rfl (by decide +kernel) ⟨Nat.le_of_ble_eq_true rfl, Nat.le_of_ble_eq_true rfl⟩ dX5_init_49 (fun q_5 H hw => ?_)
  refine lv_dup hx hb dX5_init_52 rfl ?_
  refine fw_N (w1 := ((a, .inr (5, [.ref (u1 1), .ref (u2 2), .ref (u3 3), .ref (u4 4), .null, .int 0, .int 0])) :: (wi1 ca u1 ++ (wi2 ca u2 ++ (wi3 ca u3 ++ (wi4 ca u4)))))) (w0 := [(q_5, .inr (4, [.null, .null, .null]))]) (w2 := []) (wd := wi5 ca) hw hA (va_runIN (As := []) (rest := [.ref q_5, .ref a]) ⟨hx, hb, hml, hown, hts⟩ (kX4_init l dC dI ca q_5 _) ⟨va_cnB 0 hts (wa_code wd_152) rfl rfl rfl (hZ.1 (39, "LentBounds$Splitter") (by simp [cn_L])) (hts _ wd_7) (by decide +kernel) ⟨Nat.le_of_ble_eq_true rfl, Nat.le_of_ble_eq_true rfl⟩, rfl, hts _ wd_151⟩ (cn_pre (w1 := ((a, .inr (5, [.ref (u1 1), .ref (u2 2), .ref (u3 3), .ref (u4 4), .null, .int 0, .int 0])) :: (wi1 ca u1 ++ (wi2 ca u2 ++ (wi3 ca u3 ++ (wi4 ca u4)))))) (w2 := []) hK hZ hw _) rfl rfl hl.1 rfl (lv_room (Nat.le_of_ble_eq_true rfl)) dX5_init_53 ⟨Nat.le_of_ble_eq_true rfl, Nat.le_of_ble_eq_true rfl⟩) (fun u5 H locs hp hw9 => ?_)
  subst hp
  have hw : wo_w (dC, dI) vwCl A s.heap (((a, .inr (5, [.ref (u1 1), .ref (u2 2), .ref (u3 3), .ref (u4 4), .null, .int 0, .int 0])) :: (wi1 ca u1 ++ (wi2 ca u2 ++ (wi3 ca u3 ++ (wi4 ca u4 ++ (wi5 ca u5))))))) H locs := hw9
  refine wo_putF (ty := .object "LentBounds$Splitter") (v := .ref (u5 5)) hx hb hts inX5 tyX5 tyX5_ok nmX5 hown hK hw 0 rfl rfl 4 (by decide) (hts _ wd_170) (fun _ h9 => h9) rfl hin rfl (by decide +kernel) rfl rfl (Nat.le_of_ble_eq_true rfl) (show _ = ((a, .inr (5, [.ref (u1 1), .ref (u2 2), .ref (u3 3), .ref (u4 4), .ref (u5 5), .int 0, .int 0])) :: (wi1 ca u1 ++ (wi2 ca u2 ++ (wi3 ca u3 ++ (wi4 ca u4 ++ (wi5 ca u5)))))) from rfl) dX5_init_56 (fun H locs hw => ?_)
  refine cn_ret (S := fun k => if k = 0 then a else if k = 1 then u1 1 else if k = 2 then u2 2 else if k = 3 then u3 3 else if k = 4 then u4 4 else if k = 5 then u5 5 else if k < 10 then u1 k else if k < 26 then u2 k else if k < 34 then u3 k else if k < 49 then u4 k else u5 k) hx hb hr hlocks hK ?_ rfl dX5_init_59
  have e13 : (fun i => if i < 12 then some ((fun k => if k = 0 then a else if k = 1 then u1 1 else if k = 2 then u2 2 else if k = 3 then u3 3 else if k = 4 then u4 4 else if k = 5 then u5 5 else if k < 10 then u1 k else if k < 26 then u2 k else if k < 34 then u3 k else if k < 49 then u4 k else u5 k) (14 + i)) else none) = (fun i => if i < 12 then some (u2 (14 + i)) else none) := cn_o2 (f := fun k => if k = 0 then a else if k = 1 then u1 1 else if k = 2 then u2 2 else if k = 3 then u3 3 else if k = 4 then u4 4 else if k = 5 then u5 5 else if k < 10 then u1 k else if k < 26 then u2 k else if k < 34 then u3 k else if k < 49 then u4 k else u5 k) (fun i hi => by (try dsimp only); rw [if_neg (by omega), if_neg (by omega), if_neg (by omega), if_neg (by omega), if_neg (by omega), if_neg (by omega), if_neg (by omega), if_pos (by omega)])
  have e35 : (fun i => if i < 6 then some ((fun k => if k = 0 then a else if k = 1 then u1 1 else if k = 2 then u2 2 else if k = 3 then u3 3 else if k = 4 then u4 4 else if k = 5 then u5 5 else if k < 10 then u1 k else if k < 26 then u2 k else if k < 34 then u3 k else if k < 49 then u4 k else u5 k) (36 + i)) else none) = (fun i => if i < 6 then some (u4 (36 + i)) else none) := cn_o2 (f := fun k => if k = 0 then a else if k = 1 then u1 1 else if k = 2 then u2 2 else if k = 3 then u3 3 else if k = 4 then u4 4 else if k = 5 then u5 5 else if k < 10 then u1 k else if k < 26 then u2 k else if k < 34 then u3 k else if k < 49 then u4 k else u5 k) (fun i hi => by (try dsimp only); rw [if_neg (by omega), if_neg (by omega), if_neg (by omega), if_neg (by omega), if_neg (by omega), if_neg (by omega), if_neg (by omega), if_neg (by omega), if_neg (by omega), if_pos (by omega)])
  have e42 : (fun i => if i < 6 then some ((fun k => if k = 0 then a else if k = 1 then u1 1 else if k = 2 then u2 2 else if k = 3 then u3 3 else if k = 4 then u4 4 else if k = 5 then u5 5 else if k < 10 then u1 k else if k < 26 then u2 k else if k < 34 then u3 k else if k < 49 then u4 k else u5 k) (43 + i)) else none) = (fun i => if i < 6 then some (u4 (43 + i)) else none) := cn_o2 (f := fun k => if k = 0 then a else if k = 1 then u1 1 else if k = 2 then u2 2 else if k = 3 then u3 3 else if k = 4 then u4 4 else if k = 5 then u5 5 else if k < 10 then u1 k else if k < 26 then u2 k else if k < 34 then u3 k else if k < 49 then u4 k else u5 k) (fun i hi => by (try dsimp only); rw [if_neg (by omega), if_neg (by omega), if_neg (by omega), if_neg (by omega), if_neg (by omega), if_neg (by omega), if_neg (by omega), if_neg (by omega), if_neg (by omega), if_pos (by omega)])
  show wo_w (dC, dI) vwCl A s.heap (wc ca (fun k => if k = 0 then a else if k = 1 then u1 1 else if k = 2 then u2 2 else if k = 3 then u3 3 else if k = 4 then u4 4 else if k = 5 then u5 5 else if k < 10 then u1 k else if k < 26 then u2 k else if k < 34 then u3 k else if k < 49 then u4 k else u5 k) Sc0) H locs
  rw [wcx_eq, e13, e35, e42]
  exact wo_perm hw [0, 1, 6, 23, 32, 48, 2, 3, 4, 5, 7, 8, 9, 10, 11, 12, 13, 14, 15, 16, 17, 18, 19, 20, 21, 22, 24, 25, 26, 27, 28, 29, 30, 31, 33, 34, 35, 36, 37, 38, 39, 40, 41, 42, 43, 44, 45, 46, 47, 49, 50, 51] (by decide) rfl

def Mc0 : sSt := (fun _ _ => 0, fun q => if q = 5 then vp_updL (vp_updL (vp_updL (vp_updL (vp_updL (vp_updL (fun _ => 0) 0 1) 1 1) 2 1) 3 1) 4 1) 5 1 else fun _ => 0)
set_option maxHeartbeats 1000000 in
set_option maxRecDepth 100000 in
theorem kX6_init (l : Launch) (dC : Nat → ClassId) (dI : Nat → Nat → Nat) (ca : Nat → ClassId) (a : Nat) : cn_M l yX6_init (Cond.code yX6_init cX6_init 1 none :: wa_T) ({ frames := 1, cells := 22, slots := 1872, locals := 40 } : Room) (dC, dI) vwCl (tyl ca) [(a, .inr (6, [.int 0, .int 0, .null, .null, .null, .null, .null, .null, .null, .null, .null, .null, .null, .int 0, .null, .null, .null, .null, .null, .null, .null, .null, .int 0, .int 0, .null, .null, .null]))] (fun ad => wq ca ad Mc0) [.ref a] (fun ad => ad 0 = a) 22 1872 := by
  refine cn_of (by decide) rfl (Nat.le_of_ble_eq_true rfl) ?_
  intro p e s m below meth c A ls hx hb hr hml hts hown hlocks hK hA hw hl hin hZ
  have hl : lv_has ls 1 [(0, .ref a)] := hl
  have hw : wo_w (dC, dI) vwCl A s.heap [(a, .inr (6, [.int 0, .int 0, .null, .null, .null, .null, .null, .null, .null, .null, .null, .null, .null, .int 0, .null, .null, .null, .null, .null, .null, .null, .null, .int 0, .int 0, .null, .null, .null]))] s.heap [] := hw
  skip
  refine lv_aload_n hx hb dX6_init_0 rfl (lv_at hl 0 rfl) ?_
  refine W.objInit hx hb hown (hts _ wd_564) (hts _ wd_24) (hts _ wd_25) rfl (by rw [hml]; exact hl.1) rfl dX6_init_1 (Nat.le_of_ble_eq_true rfl) (Nat.le_of_ble_eq_true rfl) ?_
  refine W.eq (g2 := F0 m 4 ls []) rfl ?_
  refine lv_aload_n hx hb dX6_init_4 rfl (lv_at hl 0 rfl) ?_
  refine lv_bipush (v := nI 6) hx hb dX6_init_5 (by decide) ?_
  refine wo_newa (atype := .long) (N := 6) (a0 := (6, .inr (.inl fun _ => 0))) hx hb (hts _ wd_52) rfl (fun C h => by cases h) hK hw hA 1 rfl (fun _ => rfl) (by decide) (by decide) ⟨Nat.le_of_ble_eq_true rfl, Nat.le_of_ble_eq_true rfl⟩ dX6_init_7 (fun q_1 H hw => ?_)
  have hw : wo_w (dC, dI) vwCl A s.heap ([(a, .inr (6, [.int 0, .int 0, .null, .null, .null, .null, .null, .null, .null, .null, .null, .null, .null, .int 0, .null, .null, .null, .null, .null, .null, .null, .null, .int 0, .int 0, .null, .null, .null])), (q_1, .inl (ca 1, (6, .inr (.inl fun _ => 0))))]) H [] := hw
  refine wo_putF (ty := .array .long) (v := .ref q_1) hx hb hts inX6 tyX6 tyX6_ok nmX6 hown hK hw 0 rfl rfl 2 (by decide) (hts _ wd_567) (fun _ h9 => h9) rfl hin rfl (by decide +kernel) rfl rfl (Nat.le_of_ble_eq_true rfl) (show _ = [(a, .inr (6, [.int 0, .int 0, .ref q_1, .null, .null, .null, .null, .null, .null, .null, .null, .null, .null, .int 0, .null, .null, .null, .null, .null, .null, .null, .null, .int 0, .int 0, .null, .null, .null])), (q_1, .inl (ca 1, (6, .inr (.inl fun _ => 0))))] from rfl) dX6_init_9 (fun H locs hw => ?_)
  refine lv_aload_n hx hb dX6_init_12 rfl (lv_at hl 0 rfl) ?_
  refine lv_bipush (v := nI 6) hx hb dX6_init_13 (by decide) ?_
  refine wo_newa (atype := .long) (N := 6) (a0 := (6, .inr (.inl fun _ => 0))) hx hb (hts _ wd_52) rfl (fun C h => by cases h) hK hw hA 1 rfl (fun _ => rfl) (by decide) (by decide) ⟨Nat.le_of_ble_eq_true rfl, Nat.le_of_ble_eq_true rfl⟩ dX6_init_15 (fun q_2 H hw => ?_)
  have hw : wo_w (dC, dI) vwCl A s.heap ([(a, .inr (6, [.int 0, .int 0, .ref q_1, .null, .null, .null, .null, .null, .null, .null, .null, .null, .null, .int 0, .null, .null, .null, .null, .null, .null, .null, .null, .int 0, .int 0, .null, .null, .null])), (q_1, .inl (ca 1, (6, .inr (.inl fun _ => 0)))), (q_2, .inl (ca 1, (6, .inr (.inl fun _ => 0))))]) H locs := hw
  refine wo_putF (ty := .array .long) (v := .ref q_2) hx hb hts inX6 tyX6 tyX6_ok nmX6 hown hK hw 0 rfl rfl 3 (by decide) (hts _ wd_568) (fun _ h9 => h9) rfl hin rfl (by decide +kernel) rfl rfl (Nat.le_of_ble_eq_true rfl) (show _ = [(a, .inr (6, [.int 0, .int 0, .ref q_1, .ref q_2, .null, .null, .null, .null, .null, .null, .null, .null, .null, .int 0, .null, .null, .null, .null, .null, .null, .null, .null, .int 0, .int 0, .null, .null, .null])), (q_1, .inl (ca 1, (6, .inr (.inl fun _ => 0)))), (q_2, .inl (ca 1, (6, .inr (.inl fun _ => 0))))] from rfl) dX6_init_17 (fun H locs hw => ?_)
  refine lv_aload_n hx hb dX6_init_20 rfl (lv_at hl 0 rfl) ?_
  refine lv_bipush (v := nI 6) hx hb dX6_init_21 (by decide) ?_
  refine wo_newa (atype := .long) (N := 6) (a0 := (6, .inr (.inl fun _ => 0))) hx hb (hts _ wd_52) rfl (fun C h => by cases h) hK hw hA 1 rfl (fun _ => rfl) (by decide) (by decide) ⟨Nat.le_of_ble_eq_true rfl, Nat.le_of_ble_eq_true rfl⟩ dX6_init_23 (fun q_3 H hw => ?_)
  have hw : wo_w (dC, dI) vwCl A s.heap ([(a, .inr (6, [.int 0, .int 0, .ref q_1, .ref q_2, .null, .null, .null, .null, .null, .null, .null, .null, .null, .int 0, .null, .null, .null, .null, .null, .null, .null, .null, .int 0, .int 0, .null, .null, .null])), (q_1, .inl (ca 1, (6, .inr (.inl fun _ => 0)))), (q_2, .inl (ca 1, (6, .inr (.inl fun _ => 0)))), (q_3, .inl (ca 1, (6, .inr (.inl fun _ => 0))))]) H locs := hw
  refine wo_putF (ty := .array .long) (v := .ref q_3) hx hb hts inX6 tyX6 tyX6_ok nmX6 hown hK hw 0 rfl rfl 4 (by decide) (hts _ wd_569) (fun _ h9 => h9) rfl hin rfl (by decide +kernel) rfl rfl (Nat.le_of_ble_eq_true rfl) (show _ = [(a, .inr (6, [.int 0, .int 0, .ref q_1, .ref q_2, .ref q_3, .null, .null, .null, .null, .null, .null, .null, .null, .int 0, .null, .null, .null, .null, .null, .null, .null, .null, .int 0, .int 0, .null, .null, .null])), (q_1, .inl (ca 1, (6, .inr (.inl fun _ => 0)))), (q_2, .inl (ca 1, (6, .inr (.inl fun _ => 0)))), (q_3, .inl (ca 1, (6, .inr (.inl fun _ => 0))))] from rfl) dX6_init_25 (fun H locs hw => ?_)
  refine lv_aload_n hx hb dX6_init_28 rfl (lv_at hl 0 rfl) ?_
  refine lv_bipush (v := nI 72) hx hb dX6_init_29 (by decide) ?_
  refine wo_newa (atype := .long) (N := 72) (a0 := (72, .inr (.inl fun _ => 0))) hx hb (hts _ wd_52) rfl (fun C h => by cases h) hK hw hA 1 rfl (fun _ => rfl) (by decide) (by decide) ⟨Nat.le_of_ble_eq_true rfl, Nat.le_of_ble_eq_true rfl⟩ dX6_init_31 (fun q_4 H hw => ?_)
  have hw : wo_w (dC, dI) vwCl A s.heap ([(a, .inr (6, [.int 0, .int 0, .ref q_1, .ref q_2, .ref q_3, .null, .null, .null, .null, .null, .null, .null, .null, .int 0, .null, .null, .null, .null, .null, .null, .null, .null, .int 0, .int 0, .null, .null, .null])), (q_1, .inl (ca 1, (6, .inr (.inl fun _ => 0)))), (q_2, .inl (ca 1, (6, .inr (.inl fun _ => 0)))), (q_3, .inl (ca 1, (6, .inr (.inl fun _ => 0)))), (q_4, .inl (ca 1, (72, .inr (.inl fun _ => 0))))]) H locs := hw
  refine wo_putF (ty := .array .long) (v := .ref q_4) hx hb hts inX6 tyX6 tyX6_ok nmX6 hown hK hw 0 rfl rfl 5 (by decide) (hts _ wd_570) (fun _ h9 => h9) rfl hin rfl (by decide +kernel) rfl rfl (Nat.le_of_ble_eq_true rfl) (show _ = [(a, .inr (6, [.int 0, .int 0, .ref q_1, .ref q_2, .ref q_3, .ref q_4, .null, .null, .null, .null, .null, .null, .null, .int 0, .null, .null, .null, .null, .null, .null, .null, .null, .int 0, .int 0, .null, .null, .null])), (q_1, .inl (ca 1, (6, .inr (.inl fun _ => 0)))), (q_2, .inl (ca 1, (6, .inr (.inl fun _ => 0)))), (q_3, .inl (ca 1, (6, .inr (.inl fun _ => 0)))), (q_4, .inl (ca 1, (72, .inr (.inl fun _ => 0))))] from rfl) dX6_init_33 (fun H locs hw => ?_)
  refine lv_aload_n hx hb dX6_init_36 rfl (lv_at hl 0 rfl) ?_
  refine lv_bipush (v := nI 6) hx hb dX6_init_37 (by decide) ?_
  refine wo_newa (atype := .long) (N := 6) (a0 := (6, .inr (.inl fun _ => 0))) hx hb (hts _ wd_52) rfl (fun C h => by cases h) hK hw hA 1 rfl (fun _ => rfl) (by decide) (by decide) ⟨Nat.le_of_ble_eq_true rfl, Nat.le_of_ble_eq_true rfl⟩ dX6_init_39 (fun q_5 H hw => ?_)
  have hw : wo_w (dC, dI) vwCl A s.heap ([(a, .inr (6, [.int 0, .int 0, .ref q_1, .ref q_2, .ref q_3, .ref q_4, .null, .null, .null, .null, .null, .null, .null, .int 0, .null, .null, .null, .null, .null, .null, .null, .null, .int 0, .int 0, .null, .null, .null])), (q_1, .inl (ca 1, (6, .inr (.inl fun _ => 0)))), (q_2, .inl (ca 1, (6, .inr (.inl fun _ => 0)))), (q_3, .inl (ca 1, (6, .inr (.inl fun _ => 0)))), (q_4, .inl (ca 1, (72, .inr (.inl fun _ => 0)))), (q_5, .inl (ca 1, (6, .inr (.inl fun _ => 0))))]) H locs := hw
  refine lv_dup hx hb dX6_init_41 rfl ?_
  refine lv_iconst (v := nI 0) hx hb dX6_init_42 (by decide) ?_
  refine lv_lconst (v := 1) hx hb dX6_init_43 (by decide) ?_
  refine wo_last hx hb hK hw 5 1 rfl rfl 0 rfl (by decide) (by decide) (show _ = [(a, .inr (6, [.int 0, .int 0, .ref q_1, .ref q_2, .ref q_3, .ref q_4, .null, .null, .null, .null, .null, .null, .null, .int 0, .null, .null, .null, .null, .null, .null, .null, .null, .int 0, .int 0, .null, .null, .null])), (q_1, .inl (ca 1, (6, .inr (.inl fun _ => 0)))), (q_2, .inl (ca 1, (6, .inr (.inl fun _ => 0)))), (q_3, .inl (ca 1, (6, .inr (.inl fun _ => 0)))), (q_4, .inl (ca 1, (72, .inr (.inl fun _ => 0)))), (q_5, .inl (ca 1, (6, .inr (.inl (vp_updL (fun _ => 0) 0 1)))))] from rfl) dX6_init_44 (fun H locs hw => ?_)
  refine lv_dup hx hb dX6_init_45 rfl ?_
  refine lv_iconst (v := nI 1) hx hb dX6_init_46 (by decide) ?_
  refine lv_lconst (v := 1) hx hb dX6_init_47 (by decide) ?_
  refine wo_last hx hb hK hw 5 1 rfl rfl 1 rfl (by decide) (by decide) (show _ = [(a, .inr (6, [.int 0, .int 0, .ref q_1, .ref q_2, .ref q_3, .ref q_4, .null, .null, .null, .null, .null, .null, .null, .int 0, .null, .null, .null, .null, .null, .null, .null, .null, .int 0, .int 0, .null, .null, .null])), (q_1, .inl (ca 1, (6, .inr (.inl fun _ => 0)))), (q_2, .inl (ca 1, (6, .inr (.inl fun _ => 0)))), (q_3, .inl (ca 1, (6, .inr (.inl fun _ => 0)))), (q_4, .inl (ca 1, (72, .inr (.inl fun _ => 0)))), (q_5, .inl (ca 1, (6, .inr (.inl (vp_updL (vp_updL (fun _ => 0) 0 1) 1 1)))))] from rfl) dX6_init_48 (fun H locs hw => ?_)
  refine lv_dup hx hb dX6_init_49 rfl ?_
  refine lv_iconst (v := nI 2) hx hb dX6_init_50 (by decide) ?_
  refine lv_lconst (v := 1) hx hb dX6_init_51 (by decide) ?_
  refine wo_last hx hb hK hw 5 1 rfl rfl 2 rfl (by decide) (by decide) (show _ = [(a, .inr (6, [.int 0, .int 0, .ref q_1, .ref q_2, .ref q_3, .ref q_4, .null, .null, .null, .null, .null, .null, .null, .int 0, .null, .null, .null, .null, .null, .null, .null, .null, .int 0, .int 0, .null, .null, .null])), (q_1, .inl (ca 1, (6, .inr (.inl fun _ => 0)))), (q_2, .inl (ca 1, (6, .inr (.inl fun _ => 0)))), (q_3, .inl (ca 1, (6, .inr (.inl fun _ => 0)))), (q_4, .inl (ca 1, (72, .inr (.inl fun _ => 0)))), (q_5, .inl (ca 1, (6, .inr (.inl (vp_updL (vp_updL (vp_updL (fun _ => 0) 0 1) 1 1) 2 1)))))] from rfl) dX6_init_52 (fun H locs hw => ?_)
  refine lv_dup hx hb dX6_init_53 rfl ?_
  refine lv_iconst (v := nI 3) hx hb dX6_init_54 (by decide) ?_
  refine lv_lconst (v := 1) hx hb dX6_init_55 (by decide) ?_
  refine wo_last hx hb hK hw 5 1 rfl rfl 3 rfl (by decide) (by decide) (show _ = [(a, .inr (6, [.int 0, .int 0, .ref q_1, .ref q_2, .ref q_3, .ref q_4, .null, .null, .null, .null, .null, .null, .null, .int 0, .null, .null, .null, .null, .null, .null, .null, .null, .int 0, .int 0, .null, .null, .null])), (q_1, .inl (ca 1, (6, .inr (.inl fun _ => 0)))), (q_2, .inl (ca 1, (6, .inr (.inl fun _ => 0)))), (q_3, .inl (ca 1, (6, .inr (.inl fun _ => 0)))), (q_4, .inl (ca 1, (72, .inr (.inl fun _ => 0)))), (q_5, .inl (ca 1, (6, .inr (.inl (vp_updL (vp_updL (vp_updL (vp_updL (fun _ => 0) 0 1) 1 1) 2 1) 3 1)))))] from rfl) dX6_init_56 (fun H locs hw => ?_)
  refine lv_dup hx hb dX6_init_57 rfl ?_
  refine lv_iconst (v := nI 4) hx hb dX6_init_58 (by decide) ?_
  refine lv_lconst (v := 1) hx hb dX6_init_59 (by decide) ?_
  refine wo_last hx hb hK hw 5 1 rfl rfl 4 rfl (by decide) (by decide) (show _ = [(a, .inr (6, [.int 0, .int 0, .ref q_1, .ref q_2, .ref q_3, .ref q_4, .null, .null, .null, .null, .null, .null, .null, .int 0, .null, .null, .null, .null, .null, .null, .null, .null, .int 0, .int 0, .null, .null, .null])), (q_1, .inl (ca 1, (6, .inr (.inl fun _ => 0)))), (q_2, .inl (ca 1, (6, .inr (.inl fun _ => 0)))), (q_3, .inl (ca 1, (6, .inr (.inl fun _ => 0)))), (q_4, .inl (ca 1, (72, .inr (.inl fun _ => 0)))), (q_5, .inl (ca 1, (6, .inr (.inl (vp_updL (vp_updL (vp_updL (vp_updL (vp_updL (fun _ => 0) 0 1) 1 1) 2 1) 3 1) 4 1)))))] from rfl) dX6_init_60 (fun H locs hw => ?_)
  refine lv_dup hx hb dX6_init_61 rfl ?_
  refine lv_iconst (v := nI 5) hx hb dX6_init_62 (by decide) ?_
  refine lv_lconst (v := 1) hx hb dX6_init_63 (by decide) ?_
  refine wo_last hx hb hK hw 5 1 rfl rfl 5 rfl (by decide) (by decide) (show _ = [(a, .inr (6, [.int 0, .int 0, .ref q_1, .ref q_2, .ref q_3, .ref q_4, .null, .null, .null, .null, .null, .null, .null, .int 0, .null, .null, .null, .null, .null, .null, .null, .null, .int 0, .int 0, .null, .null, .null])), (q_1, .inl (ca 1, (6, .inr (.inl fun _ => 0)))), (q_2, .inl (ca 1, (6, .inr (.inl fun _ => 0)))), (q_3, .inl (ca 1, (6, .inr (.inl fun _ => 0)))), (q_4, .inl (ca 1, (72, .inr (.inl fun _ => 0)))), (q_5, .inl (ca 1, (6, .inr (.inl (vp_updL (vp_updL (vp_updL (vp_updL (vp_updL (vp_updL (fun _ => 0) 0 1) 1 1) 2 1) 3 1) 4 1) 5 1)))))] from rfl) dX6_init_64 (fun H locs hw => ?_)
  refine wo_putF (ty := .array .long) (v := .ref q_5) hx hb hts inX6 tyX6 tyX6_ok nmX6 hown hK hw 0 rfl rfl 6 (by decide) (hts _ wd_571) (fun _ h9 => h9) rfl hin rfl (by decide +kernel) rfl rfl (Nat.le_of_ble_eq_true rfl) (show _ = [(a, .inr (6, [.int 0, .int 0, .ref q_1, .ref q_2, .ref q_3, .ref q_4, .ref q_5, .null, .null, .null, .null, .null, .null, .int 0, .null, .null, .null, .null, .null, .null, .null, .null, .int 0, .int 0, .null, .null, .null])), (q_1, .inl (ca 1, (6, .inr (.inl fun _ => 0)))), (q_2, .inl (ca 1, (6, .inr (.inl fun _ => 0)))), (q_3, .inl (ca 1, (6, .inr (.inl fun _ => 0)))), (q_4, .inl (ca 1, (72, .inr (.inl fun _ => 0)))), (q_5, .inl (ca 1, (6, .inr (.inl (vp_updL (vp_updL (vp_updL (vp_updL (vp_updL (vp_updL (fun _ => 0) 0 1) 1 1) 2 1) 3 1) 4 1) 5 1)))))] from rfl) dX6_init_65 (fun H locs hw => ?_)
  refine lv_aload_n hx hb dX6_init_68 rfl (lv_at hl 0 rfl) ?_
  refine lv_bipush (v := nI 6) hx hb dX6_init_69 (by decide) ?_
  refine wo_newa (atype := .int) (N := 6) (a0 := (6, .inl fun _ => 0)) hx hb (hts _ wd_54) rfl (fun C h => by cases h) hK hw hA 0 rfl (fun _ => rfl) (by decide) (by decide) ⟨Nat.le_of_ble_eq_true rfl, Nat.le_of_ble_eq_true rfl⟩ dX6_init_71 (fun q_6 H hw => ?_)
  have hw : wo_w (dC, dI) vwCl A s.heap ([(a, .inr (6, [.int 0, .int 0, .ref q_1, .ref q_2, .ref q_3, .ref q_4, .ref q_5, .null, .null, .null, .null, .null, .null, .int 0, .null, .null, .null, .null, .null, .null, .null, .null, .int 0, .int 0, .null, .null, .null])), (q_1, .inl (ca 1, (6, .inr (.inl fun _ => 0)))), (q_2, .inl (ca 1, (6, .inr (.inl fun _ => 0)))), (q_3, .inl (ca 1, (6, .inr (.inl fun _ => 0)))), (q_4, .inl (ca 1, (72, .inr (.inl fun _ => 0)))), (q_5, .inl (ca 1, (6, .inr (.inl (vp_updL (vp_updL (vp_updL (vp_updL (vp_updL (vp_updL (fun _ => 0) 0 1) 1 1) 2 1) 3 1) 4 1) 5 1))))), (q_6, .inl (ca 0, (6, .inl fun _ => 0)))]) H locs := hw
  refine wo_putF (ty := .array .int) (v := .ref q_6) hx hb hts inX6 tyX6 tyX6_ok nmX6 hown hK hw 0 rfl rfl 7 (by decide) (hts _ wd_572) (fun _ h9 => h9) rfl hin rfl (by decide +kernel) rfl rfl (Nat.le_of_ble_eq_true rfl) (show _ = [(a, .inr (6, [.int 0, .int 0, .ref q_1, .ref q_2, .ref q_3, .ref q_4, .ref q_5, .ref q_6, .null, .null, .null, .null, .null, .int 0, .null, .null, .null, .null, .null, .null, .null, .null, .int 0, .int 0, .null, .null, .null])), (q_1, .inl (ca 1, (6, .inr (.inl fun _ => 0)))), (q_2, .inl (ca 1, (6, .inr (.inl fun _ => 0)))), (q_3, .inl (ca 1, (6, .inr (.inl fun _ => 0)))), (q_4, .inl (ca 1, (72, .inr (.inl fun _ => 0)))), (q_5, .inl (ca 1, (6, .inr (.inl (vp_updL (vp_updL (vp_updL (vp_updL (vp_updL (vp_updL (fun _ => 0) 0 1) 1 1) 2 1) 3 1) 4 1) 5 1))))), (q_6, .inl (ca 0, (6, .inl fun _ => 0)))] from rfl) dX6_init_73 (fun H locs hw => ?_)
  refine lv_aload_n hx hb dX6_init_76 rfl (lv_at hl 0 rfl) ?_
  refine lv_bipush (v := nI 6) hx hb dX6_init_77 (by decide) ?_
  refine wo_newa (atype := .boolean) (N := 6) (a0 := (6, .inl fun _ => 0)) hx hb (hts _ wd_53) rfl (fun C h => by cases h) hK hw hA 2 rfl (fun _ => rfl) (by decide) (by decide) ⟨Nat.le_of_ble_eq_true rfl, Nat.le_of_ble_eq_true rfl⟩ dX6_init_79 (fun q_7 H hw => ?_)
  have hw : wo_w (dC, dI) vwCl A s.heap ([(a, .inr (6, [.int 0, .int 0, .ref q_1, .ref q_2, .ref q_3, .ref q_4, .ref q_5, .ref q_6, .null, .null, .null, .null, .null, .int 0, .null, .null, .null, .null, .null, .null, .null, .null, .int 0, .int 0, .null, .null, .null])), (q_1, .inl (ca 1, (6, .inr (.inl fun _ => 0)))), (q_2, .inl (ca 1, (6, .inr (.inl fun _ => 0)))), (q_3, .inl (ca 1, (6, .inr (.inl fun _ => 0)))), (q_4, .inl (ca 1, (72, .inr (.inl fun _ => 0)))), (q_5, .inl (ca 1, (6, .inr (.inl (vp_updL (vp_updL (vp_updL (vp_updL (vp_updL (vp_updL (fun _ => 0) 0 1) 1 1) 2 1) 3 1) 4 1) 5 1))))), (q_6, .inl (ca 0, (6, .inl fun _ => 0))), (q_7, .inl (ca 2, (6, .inl fun _ => 0)))]) H locs := hw
  refine wo_putF (ty := .array .boolean) (v := .ref q_7) hx hb hts inX6 tyX6 tyX6_ok nmX6 hown hK hw 0 rfl rfl 8 (by decide) (hts _ wd_573) (fun _ h9 => h9) rfl hin rfl (by decide +kernel) rfl rfl (Nat.le_of_ble_eq_true rfl) (show _ = [(a, .inr (6, [.int 0, .int 0, .ref q_1, .ref q_2, .ref q_3, .ref q_4, .ref q_5, .ref q_6, .ref q_7, .null, .null, .null, .null, .int 0, .null, .null, .null, .null, .null, .null, .null, .null, .int 0, .int 0, .null, .null, .null])), (q_1, .inl (ca 1, (6, .inr (.inl fun _ => 0)))), (q_2, .inl (ca 1, (6, .inr (.inl fun _ => 0)))), (q_3, .inl (ca 1, (6, .inr (.inl fun _ => 0)))), (q_4, .inl (ca 1, (72, .inr (.inl fun _ => 0)))), (q_5, .inl (ca 1, (6, .inr (.inl (vp_updL (vp_updL (vp_updL (vp_updL (vp_updL (vp_updL (fun _ => 0) 0 1) 1 1) 2 1) 3 1) 4 1) 5 1))))), (q_6, .inl (ca 0, (6, .inl fun _ => 0))), (q_7, .inl (ca 2, (6, .inl fun _ => 0)))] from rfl) dX6_init_81 (fun H locs hw => ?_)
  refine lv_aload_n hx hb dX6_init_84 rfl (lv_at hl 0 rfl) ?_
  refine lv_bipush (v := nI 36) hx hb dX6_init_85 (by decide) ?_
  refine wo_newa (atype := .boolean) (N := 36) (a0 := (36, .inl fun _ => 0)) hx hb (hts _ wd_53) rfl (fun C h => by cases h) hK hw hA 2 rfl (fun _ => rfl) (by decide) (by decide) ⟨Nat.le_of_ble_eq_true rfl, Nat.le_of_ble_eq_true rfl⟩ dX6_init_87 (fun q_8 H hw => ?_)
  have hw : wo_w (dC, dI) vwCl A s.heap ([(a, .inr (6, [.int 0, .int 0, .ref q_1, .ref q_2, .ref q_3, .ref q_4, .ref q_5, .ref q_6, .ref q_7, .null, .null, .null, .null, .int 0, .null, .null, .null, .null, .null, .null, .null, .null, .int 0, .int 0, .null, .null, .null])), (q_1, .inl (ca 1, (6, .inr (.inl fun _ => 0)))), (q_2, .inl (ca 1, (6, .inr (.inl fun _ => 0)))), (q_3, .inl (ca 1, (6, .inr (.inl fun _ => 0)))), (q_4, .inl (ca 1, (72, .inr (.inl fun _ => 0)))), (q_5, .inl (ca 1, (6, .inr (.inl (vp_updL (vp_updL (vp_updL (vp_updL (vp_updL (vp_updL (fun _ => 0) 0 1) 1 1) 2 1) 3 1) 4 1) 5 1))))), (q_6, .inl (ca 0, (6, .inl fun _ => 0))), (q_7, .inl (ca 2, (6, .inl fun _ => 0))), (q_8, .inl (ca 2, (36, .inl fun _ => 0)))]) H locs := hw
  refine wo_putF (ty := .array .boolean) (v := .ref q_8) hx hb hts inX6 tyX6 tyX6_ok nmX6 hown hK hw 0 rfl rfl 9 (by decide) (hts _ wd_574) (fun _ h9 => h9) rfl hin rfl (by decide +kernel) rfl rfl (Nat.le_of_ble_eq_true rfl) (show _ = [(a, .inr (6, [.int 0, .int 0, .ref q_1, .ref q_2, .ref q_3, .ref q_4, .ref q_5, .ref q_6, .ref q_7, .ref q_8, .null, .null, .null, .int 0, .null, .null, .null, .null, .null, .null, .null, .null, .int 0, .int 0, .null, .null, .null])), (q_1, .inl (ca 1, (6, .inr (.inl fun _ => 0)))), (q_2, .inl (ca 1, (6, .inr (.inl fun _ => 0)))), (q_3, .inl (ca 1, (6, .inr (.inl fun _ => 0)))), (q_4, .inl (ca 1, (72, .inr (.inl fun _ => 0)))), (q_5, .inl (ca 1, (6, .inr (.inl (vp_updL (vp_updL (vp_updL (vp_updL (vp_updL (vp_updL (fun _ => 0) 0 1) 1 1) 2 1) 3 1) 4 1) 5 1))))), (q_6, .inl (ca 0, (6, .inl fun _ => 0))), (q_7, .inl (ca 2, (6, .inl fun _ => 0))), (q_8, .inl (ca 2, (36, .inl fun _ => 0)))] from rfl) dX6_init_89 (fun H locs hw => ?_)
  refine lv_aload_n hx hb dX6_init_92 rfl (lv_at hl 0 rfl) ?_
  refine lv_bipush (v := nI 6) hx hb dX6_init_93 (by decide) ?_
  refine wo_newa (atype := .int) (N := 6) (a0 := (6, .inl fun _ => 0)) hx hb (hts _ wd_54) rfl (fun C h => by cases h) hK hw hA 0 rfl (fun _ => rfl) (by decide) (by decide) ⟨Nat.le_of_ble_eq_true rfl, Nat.le_of_ble_eq_true rfl⟩ dX6_init_95 (fun q_9 H hw => ?_)
  have hw : wo_w (dC, dI) vwCl A s.heap ([(a, .inr (6, [.int 0, .int 0, .ref q_1, .ref q_2, .ref q_3, .ref q_4, .ref q_5, .ref q_6, .ref q_7, .ref q_8, .null, .null, .null, .int 0, .null, .null, .null, .null, .null, .null, .null, .null, .int 0, .int 0, .null, .null, .null])), (q_1, .inl (ca 1, (6, .inr (.inl fun _ => 0)))), (q_2, .inl (ca 1, (6, .inr (.inl fun _ => 0)))), (q_3, .inl (ca 1, (6, .inr (.inl fun _ => 0)))), (q_4, .inl (ca 1, (72, .inr (.inl fun _ => 0)))), (q_5, .inl (ca 1, (6, .inr (.inl (vp_updL (vp_updL (vp_updL (vp_updL (vp_updL (vp_updL (fun _ => 0) 0 1) 1 1) 2 1) 3 1) 4 1) 5 1))))), (q_6, .inl (ca 0, (6, .inl fun _ => 0))), (q_7, .inl (ca 2, (6, .inl fun _ => 0))), (q_8, .inl (ca 2, (36, .inl fun _ => 0))), (q_9, .inl (ca 0, (6, .inl fun _ => 0)))]) H locs := hw
  refine wo_putF (ty := .array .int) (v := .ref q_9) hx hb hts inX6 tyX6 tyX6_ok nmX6 hown hK hw 0 rfl rfl 10 (by decide) (hts _ wd_575) (fun _ h9 => h9) rfl hin rfl (by decide +kernel) rfl rfl (Nat.le_of_ble_eq_true rfl) (show _ = [(a, .inr (6, [.int 0, .int 0, .ref q_1, .ref q_2, .ref q_3, .ref q_4, .ref q_5, .ref q_6, .ref q_7, .ref q_8, .ref q_9, .null, .null, .int 0, .null, .null, .null, .null, .null, .null, .null, .null, .int 0, .int 0, .null, .null, .null])), (q_1, .inl (ca 1, (6, .inr (.inl fun _ => 0)))), (q_2, .inl (ca 1, (6, .inr (.inl fun _ => 0)))), (q_3, .inl (ca 1, (6, .inr (.inl fun _ => 0)))), (q_4, .inl (ca 1, (72, .inr (.inl fun _ => 0)))), (q_5, .inl (ca 1, (6, .inr (.inl (vp_updL (vp_updL (vp_updL (vp_updL (vp_updL (vp_updL (fun _ => 0) 0 1) 1 1) 2 1) 3 1) 4 1) 5 1))))), (q_6, .inl (ca 0, (6, .inl fun _ => 0))), (q_7, .inl (ca 2, (6, .inl fun _ => 0))), (q_8, .inl (ca 2, (36, .inl fun _ => 0))), (q_9, .inl (ca 0, (6, .inl fun _ => 0)))] from rfl) dX6_init_97 (fun H locs hw => ?_)
  refine lv_aload_n hx hb dX6_init_100 rfl (lv_at hl 0 rfl) ?_
  refine lv_bipush (v := nI 48) hx hb dX6_init_101 (by decide) ?_
  refine wo_newa (atype := .int) (N := 48) (a0 := (48, .inl fun _ => 0)) hx hb (hts _ wd_54) rfl (fun C h => by cases h) hK hw hA 0 rfl (fun _ => rfl) (by decide) (by decide) ⟨Nat.le_of_ble_eq_true rfl, Nat.le_of_ble_eq_true rfl⟩ dX6_init_103 (fun q_10 H hw => ?_)
  have hw : wo_w (dC, dI) vwCl A s.heap ([(a, .inr (6, [.int 0, .int 0, .ref q_1, .ref q_2, .ref q_3, .ref q_4, .ref q_5, .ref q_6, .ref q_7, .ref q_8, .ref q_9, .null, .null, .int 0, .null, .null, .null, .null, .null, .null, .null, .null, .int 0, .int 0, .null, .null, .null])), (q_1, .inl (ca 1, (6, .inr (.inl fun _ => 0)))), (q_2, .inl (ca 1, (6, .inr (.inl fun _ => 0)))), (q_3, .inl (ca 1, (6, .inr (.inl fun _ => 0)))), (q_4, .inl (ca 1, (72, .inr (.inl fun _ => 0)))), (q_5, .inl (ca 1, (6, .inr (.inl (vp_updL (vp_updL (vp_updL (vp_updL (vp_updL (vp_updL (fun _ => 0) 0 1) 1 1) 2 1) 3 1) 4 1) 5 1))))), (q_6, .inl (ca 0, (6, .inl fun _ => 0))), (q_7, .inl (ca 2, (6, .inl fun _ => 0))), (q_8, .inl (ca 2, (36, .inl fun _ => 0))), (q_9, .inl (ca 0, (6, .inl fun _ => 0))), (q_10, .inl (ca 0, (48, .inl fun _ => 0)))]) H locs := hw
  refine wo_putF (ty := .array .int) (v := .ref q_10) hx hb hts inX6 tyX6 tyX6_ok nmX6 hown hK hw 0 rfl rfl 11 (by decide) (hts _ wd_576) (fun _ h9 => h9) rfl hin rfl (by decide +kernel) rfl rfl (Nat.le_of_ble_eq_true rfl) (show _ = [(a, .inr (6, [.int 0, .int 0, .ref q_1, .ref q_2, .ref q_3, .ref q_4, .ref q_5, .ref q_6, .ref q_7, .ref q_8, .ref q_9, .ref q_10, .null, .int 0, .null, .null, .null, .null, .null, .null, .null, .null, .int 0, .int 0, .null, .null, .null])), (q_1, .inl (ca 1, (6, .inr (.inl fun _ => 0)))), (q_2, .inl (ca 1, (6, .inr (.inl fun _ => 0)))), (q_3, .inl (ca 1, (6, .inr (.inl fun _ => 0)))), (q_4, .inl (ca 1, (72, .inr (.inl fun _ => 0)))), (q_5, .inl (ca 1, (6, .inr (.inl (vp_updL (vp_updL (vp_updL (vp_updL (vp_updL (vp_updL (fun _ => 0) 0 1) 1 1) 2 1) 3 1) 4 1) 5 1))))), (q_6, .inl (ca 0, (6, .inl fun _ => 0))), (q_7, .inl (ca 2, (6, .inl fun _ => 0))), (q_8, .inl (ca 2, (36, .inl fun _ => 0))), (q_9, .inl (ca 0, (6, .inl fun _ => 0))), (q_10, .inl (ca 0, (48, .inl fun _ => 0)))] from rfl) dX6_init_105 (fun H locs hw => ?_)
  refine lv_aload_n hx hb dX6_init_108 rfl (lv_at hl 0 rfl) ?_
  refine lv_bipush (v := nI 48) hx hb dX6_init_109 (by decide) ?_
  refine wo_newa (atype := .long) (N := 48) (a0 := (48, .inr (.inl fun _ => 0))) hx hb (hts _ wd_52) rfl (fun C h => by cases h) hK hw hA 1 rfl (fun _ => rfl) (by decide) (by decide) ⟨Nat.le_of_ble_eq_true rfl, Nat.le_of_ble_eq_true rfl⟩ dX6_init_111 (fun q_11 H hw => ?_)
  have hw : wo_w (dC, dI) vwCl A s.heap ([(a, .inr (6, [.int 0, .int 0, .ref q_1, .ref q_2, .ref q_3, .ref q_4, .ref q_5, .ref q_6, .ref q_7, .ref q_8, .ref q_9, .ref q_10, .null, .int 0, .null, .null, .null, .null, .null, .null, .null, .null, .int 0, .int 0, .null, .null, .null])), (q_1, .inl (ca 1, (6, .inr (.inl fun _ => 0)))), (q_2, .inl (ca 1, (6, .inr (.inl fun _ => 0)))), (q_3, .inl (ca 1, (6, .inr (.inl fun _ => 0)))), (q_4, .inl (ca 1, (72, .inr (.inl fun _ => 0)))), (q_5, .inl (ca 1, (6, .inr (.inl (vp_updL (vp_updL (vp_updL (vp_updL (vp_updL (vp_updL (fun _ => 0) 0 1) 1 1) 2 1) 3 1) 4 1) 5 1))))), (q_6, .inl (ca 0, (6, .inl fun _ => 0))), (q_7, .inl (ca 2, (6, .inl fun _ => 0))), (q_8, .inl (ca 2, (36, .inl fun _ => 0))), (q_9, .inl (ca 0, (6, .inl fun _ => 0))), (q_10, .inl (ca 0, (48, .inl fun _ => 0))), (q_11, .inl (ca 1, (48, .inr (.inl fun _ => 0))))]) H locs := hw
  refine wo_putF (ty := .array .long) (v := .ref q_11) hx hb hts inX6 tyX6 tyX6_ok nmX6 hown hK hw 0 rfl rfl 12 (by decide) (hts _ wd_577) (fun _ h9 => h9) rfl hin rfl (by decide +kernel) rfl rfl (Nat.le_of_ble_eq_true rfl) (show _ = [(a, .inr (6, [.int 0, .int 0, .ref q_1, .ref q_2, .ref q_3, .ref q_4, .ref q_5, .ref q_6, .ref q_7, .ref q_8, .ref q_9, .ref q_10, .ref q_11, .int 0, .null, .null, .null, .null, .null, .null, .null, .null, .int 0, .int 0, .null, .null, .null])), (q_1, .inl (ca 1, (6, .inr (.inl fun _ => 0)))), (q_2, .inl (ca 1, (6, .inr (.inl fun _ => 0)))), (q_3, .inl (ca 1, (6, .inr (.inl fun _ => 0)))), (q_4, .inl (ca 1, (72, .inr (.inl fun _ => 0)))), (q_5, .inl (ca 1, (6, .inr (.inl (vp_updL (vp_updL (vp_updL (vp_updL (vp_updL (vp_updL (fun _ => 0) 0 1) 1 1) 2 1) 3 1) 4 1) 5 1))))), (q_6, .inl (ca 0, (6, .inl fun _ => 0))), (q_7, .inl (ca 2, (6, .inl fun _ => 0))), (q_8, .inl (ca 2, (36, .inl fun _ => 0))), (q_9, .inl (ca 0, (6, .inl fun _ => 0))), (q_10, .inl (ca 0, (48, .inl fun _ => 0))), (q_11, .inl (ca 1, (48, .inr (.inl fun _ => 0))))] from rfl) dX6_init_113 (fun H locs hw => ?_)
  refine lv_aload_n hx hb dX6_init_116 rfl (lv_at hl 0 rfl) ?_
  refine lv_sipush (v := nI 201) hx hb dX6_init_117 (by decide) ?_
  refine wo_newa (atype := .int) (N := 201) (a0 := (201, .inl fun _ => 0)) hx hb (hts _ wd_54) rfl (fun C h => by cases h) hK hw hA 0 rfl (fun _ => rfl) (by decide) (by decide) ⟨Nat.le_of_ble_eq_true rfl, Nat.le_of_ble_eq_true rfl⟩ dX6_init_120 (fun q_12 H hw => ?_)
  have hw : wo_w (dC, dI) vwCl A s.heap ([(a, .inr (6, [.int 0, .int 0, .ref q_1, .ref q_2, .ref q_3, .ref q_4, .ref q_5, .ref q_6, .ref q_7, .ref q_8, .ref q_9, .ref q_10, .ref q_11, .int 0, .null, .null, .null, .null, .null, .null, .null, .null, .int 0, .int 0, .null, .null, .null])), (q_1, .inl (ca 1, (6, .inr (.inl fun _ => 0)))), (q_2, .inl (ca 1, (6, .inr (.inl fun _ => 0)))), (q_3, .inl (ca 1, (6, .inr (.inl fun _ => 0)))), (q_4, .inl (ca 1, (72, .inr (.inl fun _ => 0)))), (q_5, .inl (ca 1, (6, .inr (.inl (vp_updL (vp_updL (vp_updL (vp_updL (vp_updL (vp_updL (fun _ => 0) 0 1) 1 1) 2 1) 3 1) 4 1) 5 1))))), (q_6, .inl (ca 0, (6, .inl fun _ => 0))), (q_7, .inl (ca 2, (6, .inl fun _ => 0))), (q_8, .inl (ca 2, (36, .inl fun _ => 0))), (q_9, .inl (ca 0, (6, .inl fun _ => 0))), (q_10, .inl (ca 0, (48, .inl fun _ => 0))), (q_11, .inl (ca 1, (48, .inr (.inl fun _ => 0)))), (q_12, .inl (ca 0, (201, .inl fun _ => 0)))]) H locs := hw
  refine wo_putF (ty := .array .int) (v := .ref q_12) hx hb hts inX6 tyX6 tyX6_ok nmX6 hown hK hw 0 rfl rfl 14 (by decide) (hts _ wd_579) (fun _ h9 => h9) rfl hin rfl (by decide +kernel) rfl rfl (Nat.le_of_ble_eq_true rfl) (show _ = [(a, .inr (6, [.int 0, .int 0, .ref q_1, .ref q_2, .ref q_3, .ref q_4, .ref q_5, .ref q_6, .ref q_7, .ref q_8, .ref q_9, .ref q_10, .ref q_11, .int 0, .ref q_12, .null, .null, .null, .null, .null, .null, .null, .int 0, .int 0, .null, .null, .null])), (q_1, .inl (ca 1, (6, .inr (.inl fun _ => 0)))), (q_2, .inl (ca 1, (6, .inr (.inl fun _ => 0)))), (q_3, .inl (ca 1, (6, .inr (.inl fun _ => 0)))), (q_4, .inl (ca 1, (72, .inr (.inl fun _ => 0)))), (q_5, .inl (ca 1, (6, .inr (.inl (vp_updL (vp_updL (vp_updL (vp_updL (vp_updL (vp_updL (fun _ => 0) 0 1) 1 1) 2 1) 3 1) 4 1) 5 1))))), (q_6, .inl (ca 0, (6, .inl fun _ => 0))), (q_7, .inl (ca 2, (6, .inl fun _ => 0))), (q_8, .inl (ca 2, (36, .inl fun _ => 0))), (q_9, .inl (ca 0, (6, .inl fun _ => 0))), (q_10, .inl (ca 0, (48, .inl fun _ => 0))), (q_11, .inl (ca 1, (48, .inr (.inl fun _ => 0)))), (q_12, .inl (ca 0, (201, .inl fun _ => 0)))] from rfl) dX6_init_122 (fun H locs hw => ?_)
  refine lv_aload_n hx hb dX6_init_125 rfl (lv_at hl 0 rfl) ?_
  refine lv_sipush (v := nI 201) hx hb dX6_init_126 (by decide) ?_
  refine wo_newa (atype := .int) (N := 201) (a0 := (201, .inl fun _ => 0)) hx hb (hts _ wd_54) rfl (fun C h => by cases h) hK hw hA 0 rfl (fun _ => rfl) (by decide) (by decide) ⟨Nat.le_of_ble_eq_true rfl, Nat.le_of_ble_eq_true rfl⟩ dX6_init_129 (fun q_13 H hw => ?_)
  have hw : wo_w (dC, dI) vwCl A s.heap ([(a, .inr (6, [.int 0, .int 0, .ref q_1, .ref q_2, .ref q_3, .ref q_4, .ref q_5, .ref q_6, .ref q_7, .ref q_8, .ref q_9, .ref q_10, .ref q_11, .int 0, .ref q_12, .null, .null, .null, .null, .null, .null, .null, .int 0, .int 0, .null, .null, .null])), (q_1, .inl (ca 1, (6, .inr (.inl fun _ => 0)))), (q_2, .inl (ca 1, (6, .inr (.inl fun _ => 0)))), (q_3, .inl (ca 1, (6, .inr (.inl fun _ => 0)))), (q_4, .inl (ca 1, (72, .inr (.inl fun _ => 0)))), (q_5, .inl (ca 1, (6, .inr (.inl (vp_updL (vp_updL (vp_updL (vp_updL (vp_updL (vp_updL (fun _ => 0) 0 1) 1 1) 2 1) 3 1) 4 1) 5 1))))), (q_6, .inl (ca 0, (6, .inl fun _ => 0))), (q_7, .inl (ca 2, (6, .inl fun _ => 0))), (q_8, .inl (ca 2, (36, .inl fun _ => 0))), (q_9, .inl (ca 0, (6, .inl fun _ => 0))), (q_10, .inl (ca 0, (48, .inl fun _ => 0))), (q_11, .inl (ca 1, (48, .inr (.inl fun _ => 0)))), (q_12, .inl (ca 0, (201, .inl fun _ => 0))), (q_13, .inl (ca 0, (201, .inl fun _ => 0)))]) H locs := hw
  refine wo_putF (ty := .array .int) (v := .ref q_13) hx hb hts inX6 tyX6 tyX6_ok nmX6 hown hK hw 0 rfl rfl 15 (by decide) (hts _ wd_580) (fun _ h9 => h9) rfl hin rfl (by decide +kernel) rfl rfl (Nat.le_of_ble_eq_true rfl) (show _ = [(a, .inr (6, [.int 0, .int 0, .ref q_1, .ref q_2, .ref q_3, .ref q_4, .ref q_5, .ref q_6, .ref q_7, .ref q_8, .ref q_9, .ref q_10, .ref q_11, .int 0, .ref q_12, .ref q_13, .null, .null, .null, .null, .null, .null, .int 0, .int 0, .null, .null, .null])), (q_1, .inl (ca 1, (6, .inr (.inl fun _ => 0)))), (q_2, .inl (ca 1, (6, .inr (.inl fun _ => 0)))), (q_3, .inl (ca 1, (6, .inr (.inl fun _ => 0)))), (q_4, .inl (ca 1, (72, .inr (.inl fun _ => 0)))), (q_5, .inl (ca 1, (6, .inr (.inl (vp_updL (vp_updL (vp_updL (vp_updL (vp_updL (vp_updL (fun _ => 0) 0 1) 1 1) 2 1) 3 1) 4 1) 5 1))))), (q_6, .inl (ca 0, (6, .inl fun _ => 0))), (q_7, .inl (ca 2, (6, .inl fun _ => 0))), (q_8, .inl (ca 2, (36, .inl fun _ => 0))), (q_9, .inl (ca 0, (6, .inl fun _ => 0))), (q_10, .inl (ca 0, (48, .inl fun _ => 0))), (q_11, .inl (ca 1, (48, .inr (.inl fun _ => 0)))), (q_12, .inl (ca 0, (201, .inl fun _ => 0))), (q_13, .inl (ca 0, (201, .inl fun _ => 0)))] from rfl) dX6_init_131 (fun H locs hw => ?_)
  refine lv_aload_n hx hb dX6_init_134 rfl (lv_at hl 0 rfl) ?_
  refine lv_sipush (v := nI 201) hx hb dX6_init_135 (by decide) ?_
  refine wo_newa (atype := .int) (N := 201) (a0 := (201, .inl fun _ => 0)) hx hb (hts _ wd_54) rfl (fun C h => by cases h) hK hw hA 0 rfl (fun _ => rfl) (by decide) (by decide) ⟨Nat.le_of_ble_eq_true rfl, Nat.le_of_ble_eq_true rfl⟩ dX6_init_138 (fun q_14 H hw => ?_)
  have hw : wo_w (dC, dI) vwCl A s.heap ([(a, .inr (6, [.int 0, .int 0, .ref q_1, .ref q_2, .ref q_3, .ref q_4, .ref q_5, .ref q_6, .ref q_7, .ref q_8, .ref q_9, .ref q_10, .ref q_11, .int 0, .ref q_12, .ref q_13, .null, .null, .null, .null, .null, .null, .int 0, .int 0, .null, .null, .null])), (q_1, .inl (ca 1, (6, .inr (.inl fun _ => 0)))), (q_2, .inl (ca 1, (6, .inr (.inl fun _ => 0)))), (q_3, .inl (ca 1, (6, .inr (.inl fun _ => 0)))), (q_4, .inl (ca 1, (72, .inr (.inl fun _ => 0)))), (q_5, .inl (ca 1, (6, .inr (.inl (vp_updL (vp_updL (vp_updL (vp_updL (vp_updL (vp_updL (fun _ => 0) 0 1) 1 1) 2 1) 3 1) 4 1) 5 1))))), (q_6, .inl (ca 0, (6, .inl fun _ => 0))), (q_7, .inl (ca 2, (6, .inl fun _ => 0))), (q_8, .inl (ca 2, (36, .inl fun _ => 0))), (q_9, .inl (ca 0, (6, .inl fun _ => 0))), (q_10, .inl (ca 0, (48, .inl fun _ => 0))), (q_11, .inl (ca 1, (48, .inr (.inl fun _ => 0)))), (q_12, .inl (ca 0, (201, .inl fun _ => 0))), (q_13, .inl (ca 0, (201, .inl fun _ => 0))), (q_14, .inl (ca 0, (201, .inl fun _ => 0)))]) H locs := hw
  refine wo_putF (ty := .array .int) (v := .ref q_14) hx hb hts inX6 tyX6 tyX6_ok nmX6 hown hK hw 0 rfl rfl 16 (by decide) (hts _ wd_581) (fun _ h9 => h9) rfl hin rfl (by decide +kernel) rfl rfl (Nat.le_of_ble_eq_true rfl) (show _ = [(a, .inr (6, [.int 0, .int 0, .ref q_1, .ref q_2, .ref q_3, .ref q_4, .ref q_5, .ref q_6, .ref q_7, .ref q_8, .ref q_9, .ref q_10, .ref q_11, .int 0, .ref q_12, .ref q_13, .ref q_14, .null, .null, .null, .null, .null, .int 0, .int 0, .null, .null, .null])), (q_1, .inl (ca 1, (6, .inr (.inl fun _ => 0)))), (q_2, .inl (ca 1, (6, .inr (.inl fun _ => 0)))), (q_3, .inl (ca 1, (6, .inr (.inl fun _ => 0)))), (q_4, .inl (ca 1, (72, .inr (.inl fun _ => 0)))), (q_5, .inl (ca 1, (6, .inr (.inl (vp_updL (vp_updL (vp_updL (vp_updL (vp_updL (vp_updL (fun _ => 0) 0 1) 1 1) 2 1) 3 1) 4 1) 5 1))))), (q_6, .inl (ca 0, (6, .inl fun _ => 0))), (q_7, .inl (ca 2, (6, .inl fun _ => 0))), (q_8, .inl (ca 2, (36, .inl fun _ => 0))), (q_9, .inl (ca 0, (6, .inl fun _ => 0))), (q_10, .inl (ca 0, (48, .inl fun _ => 0))), (q_11, .inl (ca 1, (48, .inr (.inl fun _ => 0)))), (q_12, .inl (ca 0, (201, .inl fun _ => 0))), (q_13, .inl (ca 0, (201, .inl fun _ => 0))), (q_14, .inl (ca 0, (201, .inl fun _ => 0)))] from rfl) dX6_init_140 (fun H locs hw => ?_)
  refine lv_aload_n hx hb dX6_init_143 rfl (lv_at hl 0 rfl) ?_
  refine lv_sipush (v := nI 201) hx hb dX6_init_144 (by decide) ?_
  refine wo_newa (atype := .int) (N := 201) (a0 := (201, .inl fun _ => 0)) hx hb (hts _ wd_54) rfl (fun C h => by cases h) hK hw hA 0 rfl (fun _ => rfl) (by decide) (by decide) ⟨Nat.le_of_ble_eq_true rfl, Nat.le_of_ble_eq_true rfl⟩ dX6_init_147 (fun q_15 H hw => ?_)
  have hw : wo_w (dC, dI) vwCl A s.heap ([(a, .inr (6, [.int 0, .int 0, .ref q_1, .ref q_2, .ref q_3, .ref q_4, .ref q_5, .ref q_6, .ref q_7, .ref q_8, .ref q_9, .ref q_10, .ref q_11, .int 0, .ref q_12, .ref q_13, .ref q_14, .null, .null, .null, .null, .null, .int 0, .int 0, .null, .null, .null])), (q_1, .inl (ca 1, (6, .inr (.inl fun _ => 0)))), (q_2, .inl (ca 1, (6, .inr (.inl fun _ => 0)))), (q_3, .inl (ca 1, (6, .inr (.inl fun _ => 0)))), (q_4, .inl (ca 1, (72, .inr (.inl fun _ => 0)))), (q_5, .inl (ca 1, (6, .inr (.inl (vp_updL (vp_updL (vp_updL (vp_updL (vp_updL (vp_updL (fun _ => 0) 0 1) 1 1) 2 1) 3 1) 4 1) 5 1))))), (q_6, .inl (ca 0, (6, .inl fun _ => 0))), (q_7, .inl (ca 2, (6, .inl fun _ => 0))), (q_8, .inl (ca 2, (36, .inl fun _ => 0))), (q_9, .inl (ca 0, (6, .inl fun _ => 0))), (q_10, .inl (ca 0, (48, .inl fun _ => 0))), (q_11, .inl (ca 1, (48, .inr (.inl fun _ => 0)))), (q_12, .inl (ca 0, (201, .inl fun _ => 0))), (q_13, .inl (ca 0, (201, .inl fun _ => 0))), (q_14, .inl (ca 0, (201, .inl fun _ => 0))), (q_15, .inl (ca 0, (201, .inl fun _ => 0)))]) H locs := hw
  refine wo_putF (ty := .array .int) (v := .ref q_15) hx hb hts inX6 tyX6 tyX6_ok nmX6 hown hK hw 0 rfl rfl 17 (by decide) (hts _ wd_582) (fun _ h9 => h9) rfl hin rfl (by decide +kernel) rfl rfl (Nat.le_of_ble_eq_true rfl) (show _ = [(a, .inr (6, [.int 0, .int 0, .ref q_1, .ref q_2, .ref q_3, .ref q_4, .ref q_5, .ref q_6, .ref q_7, .ref q_8, .ref q_9, .ref q_10, .ref q_11, .int 0, .ref q_12, .ref q_13, .ref q_14, .ref q_15, .null, .null, .null, .null, .int 0, .int 0, .null, .null, .null])), (q_1, .inl (ca 1, (6, .inr (.inl fun _ => 0)))), (q_2, .inl (ca 1, (6, .inr (.inl fun _ => 0)))), (q_3, .inl (ca 1, (6, .inr (.inl fun _ => 0)))), (q_4, .inl (ca 1, (72, .inr (.inl fun _ => 0)))), (q_5, .inl (ca 1, (6, .inr (.inl (vp_updL (vp_updL (vp_updL (vp_updL (vp_updL (vp_updL (fun _ => 0) 0 1) 1 1) 2 1) 3 1) 4 1) 5 1))))), (q_6, .inl (ca 0, (6, .inl fun _ => 0))), (q_7, .inl (ca 2, (6, .inl fun _ => 0))), (q_8, .inl (ca 2, (36, .inl fun _ => 0))), (q_9, .inl (ca 0, (6, .inl fun _ => 0))), (q_10, .inl (ca 0, (48, .inl fun _ => 0))), (q_11, .inl (ca 1, (48, .inr (.inl fun _ => 0)))), (q_12, .inl (ca 0, (201, .inl fun _ => 0))), (q_13, .inl (ca 0, (201, .inl fun _ => 0))), (q_14, .inl (ca 0, (201, .inl fun _ => 0))), (q_15, .inl (ca 0, (201, .inl fun _ => 0)))] from rfl) dX6_init_149 (fun H locs hw => ?_)
  refine lv_aload_n hx hb dX6_init_152 rfl (lv_at hl 0 rfl) ?_
  refine lv_sipush (v := nI 201) hx hb dX6_init_153 (by decide) ?_
  refine wo_newa (atype := .long) (N := 201) (a0 := (201, .inr (.inl fun _ => 0))) hx hb (hts _ wd_52) rfl (fun C h => by cases h) hK hw hA 1 rfl (fun _ => rfl) (by decide) (by decide) ⟨Nat.le_of_ble_eq_true rfl, Nat.le_of_ble_eq_true rfl⟩ dX6_init_156 (fun q_16 H hw => ?_)
  have hw : wo_w (dC, dI) vwCl A s.heap ([(a, .inr (6, [.int 0, .int 0, .ref q_1, .ref q_2, .ref q_3, .ref q_4, .ref q_5, .ref q_6, .ref q_7, .ref q_8, .ref q_9, .ref q_10, .ref q_11, .int 0, .ref q_12, .ref q_13, .ref q_14, .ref q_15, .null, .null, .null, .null, .int 0, .int 0, .null, .null, .null])), (q_1, .inl (ca 1, (6, .inr (.inl fun _ => 0)))), (q_2, .inl (ca 1, (6, .inr (.inl fun _ => 0)))), (q_3, .inl (ca 1, (6, .inr (.inl fun _ => 0)))), (q_4, .inl (ca 1, (72, .inr (.inl fun _ => 0)))), (q_5, .inl (ca 1, (6, .inr (.inl (vp_updL (vp_updL (vp_updL (vp_updL (vp_updL (vp_updL (fun _ => 0) 0 1) 1 1) 2 1) 3 1) 4 1) 5 1))))), (q_6, .inl (ca 0, (6, .inl fun _ => 0))), (q_7, .inl (ca 2, (6, .inl fun _ => 0))), (q_8, .inl (ca 2, (36, .inl fun _ => 0))), (q_9, .inl (ca 0, (6, .inl fun _ => 0))), (q_10, .inl (ca 0, (48, .inl fun _ => 0))), (q_11, .inl (ca 1, (48, .inr (.inl fun _ => 0)))), (q_12, .inl (ca 0, (201, .inl fun _ => 0))), (q_13, .inl (ca 0, (201, .inl fun _ => 0))), (q_14, .inl (ca 0, (201, .inl fun _ => 0))), (q_15, .inl (ca 0, (201, .inl fun _ => 0))), (q_16, .inl (ca 1, (201, .inr (.inl fun _ => 0))))]) H locs := hw
  refine wo_putF (ty := .array .long) (v := .ref q_16) hx hb hts inX6 tyX6 tyX6_ok nmX6 hown hK hw 0 rfl rfl 18 (by decide) (hts _ wd_583) (fun _ h9 => h9) rfl hin rfl (by decide +kernel) rfl rfl (Nat.le_of_ble_eq_true rfl) (show _ = [(a, .inr (6, [.int 0, .int 0, .ref q_1, .ref q_2, .ref q_3, .ref q_4, .ref q_5, .ref q_6, .ref q_7, .ref q_8, .ref q_9, .ref q_10, .ref q_11, .int 0, .ref q_12, .ref q_13, .ref q_14, .ref q_15, .ref q_16, .null, .null, .null, .int 0, .int 0, .null, .null, .null])), (q_1, .inl (ca 1, (6, .inr (.inl fun _ => 0)))), (q_2, .inl (ca 1, (6, .inr (.inl fun _ => 0)))), (q_3, .inl (ca 1, (6, .inr (.inl fun _ => 0)))), (q_4, .inl (ca 1, (72, .inr (.inl fun _ => 0)))), (q_5, .inl (ca 1, (6, .inr (.inl (vp_updL (vp_updL (vp_updL (vp_updL (vp_updL (vp_updL (fun _ => 0) 0 1) 1 1) 2 1) 3 1) 4 1) 5 1))))), (q_6, .inl (ca 0, (6, .inl fun _ => 0))), (q_7, .inl (ca 2, (6, .inl fun _ => 0))), (q_8, .inl (ca 2, (36, .inl fun _ => 0))), (q_9, .inl (ca 0, (6, .inl fun _ => 0))), (q_10, .inl (ca 0, (48, .inl fun _ => 0))), (q_11, .inl (ca 1, (48, .inr (.inl fun _ => 0)))), (q_12, .inl (ca 0, (201, .inl fun _ => 0))), (q_13, .inl (ca 0, (201, .inl fun _ => 0))), (q_14, .inl (ca 0, (201, .inl fun _ => 0))), (q_15, .inl (ca 0, (201, .inl fun _ => 0))), (q_16, .inl (ca 1, (201, .inr (.inl fun _ => 0))))] from rfl) dX6_init_158 (fun H locs hw => ?_)
  refine lv_aload_n hx hb dX6_init_161 rfl (lv_at hl 0 rfl) ?_
  refine lv_sipush (v := nI 201) hx hb dX6_init_162 (by decide) ?_
  refine wo_newa (atype := .int) (N := 201) (a0 := (201, .inl fun _ => 0)) hx hb (hts _ wd_54) rfl (fun C h => by cases h) hK hw hA 0 rfl (fun _ => rfl) (by decide) (by decide) ⟨Nat.le_of_ble_eq_true rfl, Nat.le_of_ble_eq_true rfl⟩ dX6_init_165 (fun q_17 H hw => ?_)
  have hw : wo_w (dC, dI) vwCl A s.heap ([(a, .inr (6, [.int 0, .int 0, .ref q_1, .ref q_2, .ref q_3, .ref q_4, .ref q_5, .ref q_6, .ref q_7, .ref q_8, .ref q_9, .ref q_10, .ref q_11, .int 0, .ref q_12, .ref q_13, .ref q_14, .ref q_15, .ref q_16, .null, .null, .null, .int 0, .int 0, .null, .null, .null])), (q_1, .inl (ca 1, (6, .inr (.inl fun _ => 0)))), (q_2, .inl (ca 1, (6, .inr (.inl fun _ => 0)))), (q_3, .inl (ca 1, (6, .inr (.inl fun _ => 0)))), (q_4, .inl (ca 1, (72, .inr (.inl fun _ => 0)))), (q_5, .inl (ca 1, (6, .inr (.inl (vp_updL (vp_updL (vp_updL (vp_updL (vp_updL (vp_updL (fun _ => 0) 0 1) 1 1) 2 1) 3 1) 4 1) 5 1))))), (q_6, .inl (ca 0, (6, .inl fun _ => 0))), (q_7, .inl (ca 2, (6, .inl fun _ => 0))), (q_8, .inl (ca 2, (36, .inl fun _ => 0))), (q_9, .inl (ca 0, (6, .inl fun _ => 0))), (q_10, .inl (ca 0, (48, .inl fun _ => 0))), (q_11, .inl (ca 1, (48, .inr (.inl fun _ => 0)))), (q_12, .inl (ca 0, (201, .inl fun _ => 0))), (q_13, .inl (ca 0, (201, .inl fun _ => 0))), (q_14, .inl (ca 0, (201, .inl fun _ => 0))), (q_15, .inl (ca 0, (201, .inl fun _ => 0))), (q_16, .inl (ca 1, (201, .inr (.inl fun _ => 0)))), (q_17, .inl (ca 0, (201, .inl fun _ => 0)))]) H locs := hw
  refine wo_putF (ty := .array .int) (v := .ref q_17) hx hb hts inX6 tyX6 tyX6_ok nmX6 hown hK hw 0 rfl rfl 19 (by decide) (hts _ wd_584) (fun _ h9 => h9) rfl hin rfl (by decide +kernel) rfl rfl (Nat.le_of_ble_eq_true rfl) (show _ = [(a, .inr (6, [.int 0, .int 0, .ref q_1, .ref q_2, .ref q_3, .ref q_4, .ref q_5, .ref q_6, .ref q_7, .ref q_8, .ref q_9, .ref q_10, .ref q_11, .int 0, .ref q_12, .ref q_13, .ref q_14, .ref q_15, .ref q_16, .ref q_17, .null, .null, .int 0, .int 0, .null, .null, .null])), (q_1, .inl (ca 1, (6, .inr (.inl fun _ => 0)))), (q_2, .inl (ca 1, (6, .inr (.inl fun _ => 0)))), (q_3, .inl (ca 1, (6, .inr (.inl fun _ => 0)))), (q_4, .inl (ca 1, (72, .inr (.inl fun _ => 0)))), (q_5, .inl (ca 1, (6, .inr (.inl (vp_updL (vp_updL (vp_updL (vp_updL (vp_updL (vp_updL (fun _ => 0) 0 1) 1 1) 2 1) 3 1) 4 1) 5 1))))), (q_6, .inl (ca 0, (6, .inl fun _ => 0))), (q_7, .inl (ca 2, (6, .inl fun _ => 0))), (q_8, .inl (ca 2, (36, .inl fun _ => 0))), (q_9, .inl (ca 0, (6, .inl fun _ => 0))), (q_10, .inl (ca 0, (48, .inl fun _ => 0))), (q_11, .inl (ca 1, (48, .inr (.inl fun _ => 0)))), (q_12, .inl (ca 0, (201, .inl fun _ => 0))), (q_13, .inl (ca 0, (201, .inl fun _ => 0))), (q_14, .inl (ca 0, (201, .inl fun _ => 0))), (q_15, .inl (ca 0, (201, .inl fun _ => 0))), (q_16, .inl (ca 1, (201, .inr (.inl fun _ => 0)))), (q_17, .inl (ca 0, (201, .inl fun _ => 0)))] from rfl) dX6_init_167 (fun H locs hw => ?_)
  refine lv_aload_n hx hb dX6_init_170 rfl (lv_at hl 0 rfl) ?_
  refine lv_sipush (v := nI 201) hx hb dX6_init_171 (by decide) ?_
  refine wo_newa (atype := .int) (N := 201) (a0 := (201, .inl fun _ => 0)) hx hb (hts _ wd_54) rfl (fun C h => by cases h) hK hw hA 0 rfl (fun _ => rfl) (by decide) (by decide) ⟨Nat.le_of_ble_eq_true rfl, Nat.le_of_ble_eq_true rfl⟩ dX6_init_174 (fun q_18 H hw => ?_)
  have hw : wo_w (dC, dI) vwCl A s.heap ([(a, .inr (6, [.int 0, .int 0, .ref q_1, .ref q_2, .ref q_3, .ref q_4, .ref q_5, .ref q_6, .ref q_7, .ref q_8, .ref q_9, .ref q_10, .ref q_11, .int 0, .ref q_12, .ref q_13, .ref q_14, .ref q_15, .ref q_16, .ref q_17, .null, .null, .int 0, .int 0, .null, .null, .null])), (q_1, .inl (ca 1, (6, .inr (.inl fun _ => 0)))), (q_2, .inl (ca 1, (6, .inr (.inl fun _ => 0)))), (q_3, .inl (ca 1, (6, .inr (.inl fun _ => 0)))), (q_4, .inl (ca 1, (72, .inr (.inl fun _ => 0)))), (q_5, .inl (ca 1, (6, .inr (.inl (vp_updL (vp_updL (vp_updL (vp_updL (vp_updL (vp_updL (fun _ => 0) 0 1) 1 1) 2 1) 3 1) 4 1) 5 1))))), (q_6, .inl (ca 0, (6, .inl fun _ => 0))), (q_7, .inl (ca 2, (6, .inl fun _ => 0))), (q_8, .inl (ca 2, (36, .inl fun _ => 0))), (q_9, .inl (ca 0, (6, .inl fun _ => 0))), (q_10, .inl (ca 0, (48, .inl fun _ => 0))), (q_11, .inl (ca 1, (48, .inr (.inl fun _ => 0)))), (q_12, .inl (ca 0, (201, .inl fun _ => 0))), (q_13, .inl (ca 0, (201, .inl fun _ => 0))), (q_14, .inl (ca 0, (201, .inl fun _ => 0))), (q_15, .inl (ca 0, (201, .inl fun _ => 0))), (q_16, .inl (ca 1, (201, .inr (.inl fun _ => 0)))), (q_17, .inl (ca 0, (201, .inl fun _ => 0))), (q_18, .inl (ca 0, (201, .inl fun _ => 0)))]) H locs := hw
  refine wo_putF (ty := .array .int) (v := .ref q_18) hx hb hts inX6 tyX6 tyX6_ok nmX6 hown hK hw 0 rfl rfl 20 (by decide) (hts _ wd_585) (fun _ h9 => h9) rfl hin rfl (by decide +kernel) rfl rfl (Nat.le_of_ble_eq_true rfl) (show _ = [(a, .inr (6, [.int 0, .int 0, .ref q_1, .ref q_2, .ref q_3, .ref q_4, .ref q_5, .ref q_6, .ref q_7, .ref q_8, .ref q_9, .ref q_10, .ref q_11, .int 0, .ref q_12, .ref q_13, .ref q_14, .ref q_15, .ref q_16, .ref q_17, .ref q_18, .null, .int 0, .int 0, .null, .null, .null])), (q_1, .inl (ca 1, (6, .inr (.inl fun _ => 0)))), (q_2, .inl (ca 1, (6, .inr (.inl fun _ => 0)))), (q_3, .inl (ca 1, (6, .inr (.inl fun _ => 0)))), (q_4, .inl (ca 1, (72, .inr (.inl fun _ => 0)))), (q_5, .inl (ca 1, (6, .inr (.inl (vp_updL (vp_updL (vp_updL (vp_updL (vp_updL (vp_updL (fun _ => 0) 0 1) 1 1) 2 1) 3 1) 4 1) 5 1))))), (q_6, .inl (ca 0, (6, .inl fun _ => 0))), (q_7, .inl (ca 2, (6, .inl fun _ => 0))), (q_8, .inl (ca 2, (36, .inl fun _ => 0))), (q_9, .inl (ca 0, (6, .inl fun _ => 0))), (q_10, .inl (ca 0, (48, .inl fun _ => 0))), (q_11, .inl (ca 1, (48, .inr (.inl fun _ => 0)))), (q_12, .inl (ca 0, (201, .inl fun _ => 0))), (q_13, .inl (ca 0, (201, .inl fun _ => 0))), (q_14, .inl (ca 0, (201, .inl fun _ => 0))), (q_15, .inl (ca 0, (201, .inl fun _ => 0))), (q_16, .inl (ca 1, (201, .inr (.inl fun _ => 0)))), (q_17, .inl (ca 0, (201, .inl fun _ => 0))), (q_18, .inl (ca 0, (201, .inl fun _ => 0)))] from rfl) dX6_init_176 (fun H locs hw => ?_)
  refine lv_aload_n hx hb dX6_init_179 rfl (lv_at hl 0 rfl) ?_
  refine lv_sipush (v := nI 201) hx hb dX6_init_180 (by decide) ?_
  refine wo_newa (atype := .boolean) (N := 201) (a0 := (201, .inl fun _ => 0)) hx hb (hts _ wd_53) rfl (fun C h => by cases h) hK hw hA 2 rfl (fun _ => rfl) (by decide) (by decide) ⟨Nat.le_of_ble_eq_true rfl, Nat.le_of_ble_eq_true rfl⟩ dX6_init_183 (fun q_19 H hw => ?_)
  have hw : wo_w (dC, dI) vwCl A s.heap ([(a, .inr (6, [.int 0, .int 0, .ref q_1, .ref q_2, .ref q_3, .ref q_4, .ref q_5, .ref q_6, .ref q_7, .ref q_8, .ref q_9, .ref q_10, .ref q_11, .int 0, .ref q_12, .ref q_13, .ref q_14, .ref q_15, .ref q_16, .ref q_17, .ref q_18, .null, .int 0, .int 0, .null, .null, .null])), (q_1, .inl (ca 1, (6, .inr (.inl fun _ => 0)))), (q_2, .inl (ca 1, (6, .inr (.inl fun _ => 0)))), (q_3, .inl (ca 1, (6, .inr (.inl fun _ => 0)))), (q_4, .inl (ca 1, (72, .inr (.inl fun _ => 0)))), (q_5, .inl (ca 1, (6, .inr (.inl (vp_updL (vp_updL (vp_updL (vp_updL (vp_updL (vp_updL (fun _ => 0) 0 1) 1 1) 2 1) 3 1) 4 1) 5 1))))), (q_6, .inl (ca 0, (6, .inl fun _ => 0))), (q_7, .inl (ca 2, (6, .inl fun _ => 0))), (q_8, .inl (ca 2, (36, .inl fun _ => 0))), (q_9, .inl (ca 0, (6, .inl fun _ => 0))), (q_10, .inl (ca 0, (48, .inl fun _ => 0))), (q_11, .inl (ca 1, (48, .inr (.inl fun _ => 0)))), (q_12, .inl (ca 0, (201, .inl fun _ => 0))), (q_13, .inl (ca 0, (201, .inl fun _ => 0))), (q_14, .inl (ca 0, (201, .inl fun _ => 0))), (q_15, .inl (ca 0, (201, .inl fun _ => 0))), (q_16, .inl (ca 1, (201, .inr (.inl fun _ => 0)))), (q_17, .inl (ca 0, (201, .inl fun _ => 0))), (q_18, .inl (ca 0, (201, .inl fun _ => 0))), (q_19, .inl (ca 2, (201, .inl fun _ => 0)))]) H locs := hw
  refine wo_putF (ty := .array .boolean) (v := .ref q_19) hx hb hts inX6 tyX6 tyX6_ok nmX6 hown hK hw 0 rfl rfl 21 (by decide) (hts _ wd_586) (fun _ h9 => h9) rfl hin rfl (by decide +kernel) rfl rfl (Nat.le_of_ble_eq_true rfl) (show _ = [(a, .inr (6, [.int 0, .int 0, .ref q_1, .ref q_2, .ref q_3, .ref q_4, .ref q_5, .ref q_6, .ref q_7, .ref q_8, .ref q_9, .ref q_10, .ref q_11, .int 0, .ref q_12, .ref q_13, .ref q_14, .ref q_15, .ref q_16, .ref q_17, .ref q_18, .ref q_19, .int 0, .int 0, .null, .null, .null])), (q_1, .inl (ca 1, (6, .inr (.inl fun _ => 0)))), (q_2, .inl (ca 1, (6, .inr (.inl fun _ => 0)))), (q_3, .inl (ca 1, (6, .inr (.inl fun _ => 0)))), (q_4, .inl (ca 1, (72, .inr (.inl fun _ => 0)))), (q_5, .inl (ca 1, (6, .inr (.inl (vp_updL (vp_updL (vp_updL (vp_updL (vp_updL (vp_updL (fun _ => 0) 0 1) 1 1) 2 1) 3 1) 4 1) 5 1))))), (q_6, .inl (ca 0, (6, .inl fun _ => 0))), (q_7, .inl (ca 2, (6, .inl fun _ => 0))), (q_8, .inl (ca 2, (36, .inl fun _ => 0))), (q_9, .inl (ca 0, (6, .inl fun _ => 0))), (q_10, .inl (ca 0, (48, .inl fun _ => 0))), (q_11, .inl (ca 1, (48, .inr (.inl fun _ => 0)))), (q_12, .inl (ca 0, (201, .inl fun _ => 0))), (q_13, .inl (ca 0, (201, .inl fun _ => 0))), (q_14, .inl (ca 0, (201, .inl fun _ => 0))), (q_15, .inl (ca 0, (201, .inl fun _ => 0))), (q_16, .inl (ca 1, (201, .inr (.inl fun _ => 0)))), (q_17, .inl (ca 0, (201, .inl fun _ => 0))), (q_18, .inl (ca 0, (201, .inl fun _ => 0))), (q_19, .inl (ca 2, (201, .inl fun _ => 0)))] from rfl) dX6_init_185 (fun H locs hw => ?_)
  refine lv_aload_n hx hb dX6_init_188 rfl (lv_at hl 0 rfl) ?_
  refine lv_bipush (v := nI 6) hx hb dX6_init_189 (by decide) ?_
  refine wo_newa (atype := .long) (N := 6) (a0 := (6, .inr (.inl fun _ => 0))) hx hb (hts _ wd_52) rfl (fun C h => by cases h) hK hw hA 1 rfl (fun _ => rfl) (by decide) (by decide) ⟨Nat.le_of_ble_eq_true rfl, Nat.le_of_ble_eq_true rfl⟩ dX6_init_191 (fun q_20 H hw => ?_)
  have hw : wo_w (dC, dI) vwCl A s.heap ([(a, .inr (6, [.int 0, .int 0, .ref q_1, .ref q_2, .ref q_3, .ref q_4, .ref q_5, .ref q_6, .ref q_7, .ref q_8, .ref q_9, .ref q_10, .ref q_11, .int 0, .ref q_12, .ref q_13, .ref q_14, .ref q_15, .ref q_16, .ref q_17, .ref q_18, .ref q_19, .int 0, .int 0, .null, .null, .null])), (q_1, .inl (ca 1, (6, .inr (.inl fun _ => 0)))), (q_2, .inl (ca 1, (6, .inr (.inl fun _ => 0)))), (q_3, .inl (ca 1, (6, .inr (.inl fun _ => 0)))), (q_4, .inl (ca 1, (72, .inr (.inl fun _ => 0)))), (q_5, .inl (ca 1, (6, .inr (.inl (vp_updL (vp_updL (vp_updL (vp_updL (vp_updL (vp_updL (fun _ => 0) 0 1) 1 1) 2 1) 3 1) 4 1) 5 1))))), (q_6, .inl (ca 0, (6, .inl fun _ => 0))), (q_7, .inl (ca 2, (6, .inl fun _ => 0))), (q_8, .inl (ca 2, (36, .inl fun _ => 0))), (q_9, .inl (ca 0, (6, .inl fun _ => 0))), (q_10, .inl (ca 0, (48, .inl fun _ => 0))), (q_11, .inl (ca 1, (48, .inr (.inl fun _ => 0)))), (q_12, .inl (ca 0, (201, .inl fun _ => 0))), (q_13, .inl (ca 0, (201, .inl fun _ => 0))), (q_14, .inl (ca 0, (201, .inl fun _ => 0))), (q_15, .inl (ca 0, (201, .inl fun _ => 0))), (q_16, .inl (ca 1, (201, .inr (.inl fun _ => 0)))), (q_17, .inl (ca 0, (201, .inl fun _ => 0))), (q_18, .inl (ca 0, (201, .inl fun _ => 0))), (q_19, .inl (ca 2, (201, .inl fun _ => 0))), (q_20, .inl (ca 1, (6, .inr (.inl fun _ => 0))))]) H locs := hw
  refine wo_putF (ty := .array .long) (v := .ref q_20) hx hb hts inX6 tyX6 tyX6_ok nmX6 hown hK hw 0 rfl rfl 24 (by decide) (hts _ wd_589) (fun _ h9 => h9) rfl hin rfl (by decide +kernel) rfl rfl (Nat.le_of_ble_eq_true rfl) (show _ = [(a, .inr (6, [.int 0, .int 0, .ref q_1, .ref q_2, .ref q_3, .ref q_4, .ref q_5, .ref q_6, .ref q_7, .ref q_8, .ref q_9, .ref q_10, .ref q_11, .int 0, .ref q_12, .ref q_13, .ref q_14, .ref q_15, .ref q_16, .ref q_17, .ref q_18, .ref q_19, .int 0, .int 0, .ref q_20, .null, .null])), (q_1, .inl (ca 1, (6, .inr (.inl fun _ => 0)))), (q_2, .inl (ca 1, (6, .inr (.inl fun _ => 0)))), (q_3, .inl (ca 1, (6, .inr (.inl fun _ => 0)))), (q_4, .inl (ca 1, (72, .inr (.inl fun _ => 0)))), (q_5, .inl (ca 1, (6, .inr (.inl (vp_updL (vp_updL (vp_updL (vp_updL (vp_updL (vp_updL (fun _ => 0) 0 1) 1 1) 2 1) 3 1) 4 1) 5 1))))), (q_6, .inl (ca 0, (6, .inl fun _ => 0))), (q_7, .inl (ca 2, (6, .inl fun _ => 0))), (q_8, .inl (ca 2, (36, .inl fun _ => 0))), (q_9, .inl (ca 0, (6, .inl fun _ => 0))), (q_10, .inl (ca 0, (48, .inl fun _ => 0))), (q_11, .inl (ca 1, (48, .inr (.inl fun _ => 0)))), (q_12, .inl (ca 0, (201, .inl fun _ => 0))), (q_13, .inl (ca 0, (201, .inl fun _ => 0))), (q_14, .inl (ca 0, (201, .inl fun _ => 0))), (q_15, .inl (ca 0, (201, .inl fun _ => 0))), (q_16, .inl (ca 1, (201, .inr (.inl fun _ => 0)))), (q_17, .inl (ca 0, (201, .inl fun _ => 0))), (q_18, .inl (ca 0, (201, .inl fun _ => 0))), (q_19, .inl (ca 2, (201, .inl fun _ => 0))), (q_20, .inl (ca 1, (6, .inr (.inl fun _ => 0))))] from rfl) dX6_init_193 (fun H locs hw => ?_)
  refine lv_aload_n hx hb dX6_init_196 rfl (lv_at hl 0 rfl) ?_
  refine lv_bipush (v := nI 6) hx hb dX6_init_197 (by decide) ?_
  refine wo_newa (atype := .long) (N := 6) (a0 := (6, .inr (.inl fun _ => 0))) hx hb (hts _ wd_52) rfl (fun C h => by cases h) hK hw hA 1 rfl (fun _ => rfl) (by decide) (by decide) ⟨Nat.le_of_ble_eq_true rfl, Nat.le_of_ble_eq_true rfl⟩ dX6_init_199 (fun q_21 H hw => ?_)
  have hw : wo_w (dC, dI) vwCl A s.heap ([(a, .inr (6, [.int 0, .int 0, .ref q_1, .ref q_2, .ref q_3, .ref q_4, .ref q_5, .ref q_6, .ref q_7, .ref q_8, .ref q_9, .ref q_10, .ref q_11, .int 0, .ref q_12, .ref q_13, .ref q_14, .ref q_15, .ref q_16, .ref q_17, .ref q_18, .ref q_19, .int 0, .int 0, .ref q_20, .null, .null])), (q_1, .inl (ca 1, (6, .inr (.inl fun _ => 0)))), (q_2, .inl (ca 1, (6, .inr (.inl fun _ => 0)))), (q_3, .inl (ca 1, (6, .inr (.inl fun _ => 0)))), (q_4, .inl (ca 1, (72, .inr (.inl fun _ => 0)))), (q_5, .inl (ca 1, (6, .inr (.inl (vp_updL (vp_updL (vp_updL (vp_updL (vp_updL (vp_updL (fun _ => 0) 0 1) 1 1) 2 1) 3 1) 4 1) 5 1))))), (q_6, .inl (ca 0, (6, .inl fun _ => 0))), (q_7, .inl (ca 2, (6, .inl fun _ => 0))), (q_8, .inl (ca 2, (36, .inl fun _ => 0))), (q_9, .inl (ca 0, (6, .inl fun _ => 0))), (q_10, .inl (ca 0, (48, .inl fun _ => 0))), (q_11, .inl (ca 1, (48, .inr (.inl fun _ => 0)))), (q_12, .inl (ca 0, (201, .inl fun _ => 0))), (q_13, .inl (ca 0, (201, .inl fun _ => 0))), (q_14, .inl (ca 0, (201, .inl fun _ => 0))), (q_15, .inl (ca 0, (201, .inl fun _ => 0))), (q_16, .inl (ca 1, (201, .inr (.inl fun _ => 0)))), (q_17, .inl (ca 0, (201, .inl fun _ => 0))), (q_18, .inl (ca 0, (201, .inl fun _ => 0))), (q_19, .inl (ca 2, (201, .inl fun _ => 0))), (q_20, .inl (ca 1, (6, .inr (.inl fun _ => 0)))), (q_21, .inl (ca 1, (6, .inr (.inl fun _ => 0))))]) H locs := hw
  refine wo_putF (ty := .array .long) (v := .ref q_21) hx hb hts inX6 tyX6 tyX6_ok nmX6 hown hK hw 0 rfl rfl 25 (by decide) (hts _ wd_590) (fun _ h9 => h9) rfl hin rfl (by decide +kernel) rfl rfl (Nat.le_of_ble_eq_true rfl) (show _ = [(a, .inr (6, [.int 0, .int 0, .ref q_1, .ref q_2, .ref q_3, .ref q_4, .ref q_5, .ref q_6, .ref q_7, .ref q_8, .ref q_9, .ref q_10, .ref q_11, .int 0, .ref q_12, .ref q_13, .ref q_14, .ref q_15, .ref q_16, .ref q_17, .ref q_18, .ref q_19, .int 0, .int 0, .ref q_20, .ref q_21, .null])), (q_1, .inl (ca 1, (6, .inr (.inl fun _ => 0)))), (q_2, .inl (ca 1, (6, .inr (.inl fun _ => 0)))), (q_3, .inl (ca 1, (6, .inr (.inl fun _ => 0)))), (q_4, .inl (ca 1, (72, .inr (.inl fun _ => 0)))), (q_5, .inl (ca 1, (6, .inr (.inl (vp_updL (vp_updL (vp_updL (vp_updL (vp_updL (vp_updL (fun _ => 0) 0 1) 1 1) 2 1) 3 1) 4 1) 5 1))))), (q_6, .inl (ca 0, (6, .inl fun _ => 0))), (q_7, .inl (ca 2, (6, .inl fun _ => 0))), (q_8, .inl (ca 2, (36, .inl fun _ => 0))), (q_9, .inl (ca 0, (6, .inl fun _ => 0))), (q_10, .inl (ca 0, (48, .inl fun _ => 0))), (q_11, .inl (ca 1, (48, .inr (.inl fun _ => 0)))), (q_12, .inl (ca 0, (201, .inl fun _ => 0))), (q_13, .inl (ca 0, (201, .inl fun _ => 0))), (q_14, .inl (ca 0, (201, .inl fun _ => 0))), (q_15, .inl (ca 0, (201, .inl fun _ => 0))), (q_16, .inl (ca 1, (201, .inr (.inl fun _ => 0)))), (q_17, .inl (ca 0, (201, .inl fun _ => 0))), (q_18, .inl (ca 0, (201, .inl fun _ => 0))), (q_19, .inl (ca 2, (201, .inl fun _ => 0))), (q_20, .inl (ca 1, (6, .inr (.inl fun _ => 0)))), (q_21, .inl (ca 1, (6, .inr (.inl fun _ => 0))))] from rfl) dX6_init_201 (fun H locs hw => ?_)
  refine lv_aload_n hx hb dX6_init_204 rfl (lv_at hl 0 rfl) ?_
  refine lv_bipush (v := nI 6) hx hb dX6_init_205 (by decide) ?_
  refine wo_newa (atype := .boolean) (N := 6) (a0 := (6, .inl fun _ => 0)) hx hb (hts _ wd_53) rfl (fun C h => by cases h) hK hw hA 2 rfl (fun _ => rfl) (by decide) (by decide) ⟨Nat.le_of_ble_eq_true rfl, Nat.le_of_ble_eq_true rfl⟩ dX6_init_207 (fun q_22 H hw => ?_)
  have hw : wo_w (dC, dI) vwCl A s.heap ([(a, .inr (6, [.int 0, .int 0, .ref q_1, .ref q_2, .ref q_3, .ref q_4, .ref q_5, .ref q_6, .ref q_7, .ref q_8, .ref q_9, .ref q_10, .ref q_11, .int 0, .ref q_12, .ref q_13, .ref q_14, .ref q_15, .ref q_16, .ref q_17, .ref q_18, .ref q_19, .int 0, .int 0, .ref q_20, .ref q_21, .null])), (q_1, .inl (ca 1, (6, .inr (.inl fun _ => 0)))), (q_2, .inl (ca 1, (6, .inr (.inl fun _ => 0)))), (q_3, .inl (ca 1, (6, .inr (.inl fun _ => 0)))), (q_4, .inl (ca 1, (72, .inr (.inl fun _ => 0)))), (q_5, .inl (ca 1, (6, .inr (.inl (vp_updL (vp_updL (vp_updL (vp_updL (vp_updL (vp_updL (fun _ => 0) 0 1) 1 1) 2 1) 3 1) 4 1) 5 1))))), (q_6, .inl (ca 0, (6, .inl fun _ => 0))), (q_7, .inl (ca 2, (6, .inl fun _ => 0))), (q_8, .inl (ca 2, (36, .inl fun _ => 0))), (q_9, .inl (ca 0, (6, .inl fun _ => 0))), (q_10, .inl (ca 0, (48, .inl fun _ => 0))), (q_11, .inl (ca 1, (48, .inr (.inl fun _ => 0)))), (q_12, .inl (ca 0, (201, .inl fun _ => 0))), (q_13, .inl (ca 0, (201, .inl fun _ => 0))), (q_14, .inl (ca 0, (201, .inl fun _ => 0))), (q_15, .inl (ca 0, (201, .inl fun _ => 0))), (q_16, .inl (ca 1, (201, .inr (.inl fun _ => 0)))), (q_17, .inl (ca 0, (201, .inl fun _ => 0))), (q_18, .inl (ca 0, (201, .inl fun _ => 0))), (q_19, .inl (ca 2, (201, .inl fun _ => 0))), (q_20, .inl (ca 1, (6, .inr (.inl fun _ => 0)))), (q_21, .inl (ca 1, (6, .inr (.inl fun _ => 0)))), (q_22, .inl (ca 2, (6, .inl fun _ => 0)))]) H locs := hw
  refine wo_putF (ty := .array .boolean) (v := .ref q_22) hx hb hts inX6 tyX6 tyX6_ok nmX6 hown hK hw 0 rfl rfl 26 (by decide) (hts _ wd_591) (fun _ h9 => h9) rfl hin rfl (by decide +kernel) rfl rfl (Nat.le_of_ble_eq_true rfl) (show _ = [(a, .inr (6, [.int 0, .int 0, .ref q_1, .ref q_2, .ref q_3, .ref q_4, .ref q_5, .ref q_6, .ref q_7, .ref q_8, .ref q_9, .ref q_10, .ref q_11, .int 0, .ref q_12, .ref q_13, .ref q_14, .ref q_15, .ref q_16, .ref q_17, .ref q_18, .ref q_19, .int 0, .int 0, .ref q_20, .ref q_21, .ref q_22])), (q_1, .inl (ca 1, (6, .inr (.inl fun _ => 0)))), (q_2, .inl (ca 1, (6, .inr (.inl fun _ => 0)))), (q_3, .inl (ca 1, (6, .inr (.inl fun _ => 0)))), (q_4, .inl (ca 1, (72, .inr (.inl fun _ => 0)))), (q_5, .inl (ca 1, (6, .inr (.inl (vp_updL (vp_updL (vp_updL (vp_updL (vp_updL (vp_updL (fun _ => 0) 0 1) 1 1) 2 1) 3 1) 4 1) 5 1))))), (q_6, .inl (ca 0, (6, .inl fun _ => 0))), (q_7, .inl (ca 2, (6, .inl fun _ => 0))), (q_8, .inl (ca 2, (36, .inl fun _ => 0))), (q_9, .inl (ca 0, (6, .inl fun _ => 0))), (q_10, .inl (ca 0, (48, .inl fun _ => 0))), (q_11, .inl (ca 1, (48, .inr (.inl fun _ => 0)))), (q_12, .inl (ca 0, (201, .inl fun _ => 0))), (q_13, .inl (ca 0, (201, .inl fun _ => 0))), (q_14, .inl (ca 0, (201, .inl fun _ => 0))), (q_15, .inl (ca 0, (201, .inl fun _ => 0))), (q_16, .inl (ca 1, (201, .inr (.inl fun _ => 0)))), (q_17, .inl (ca 0, (201, .inl fun _ => 0))), (q_18, .inl (ca 0, (201, .inl fun _ => 0))), (q_19, .inl (ca 2, (201, .inl fun _ => 0))), (q_20, .inl (ca 1, (6, .inr (.inl fun _ => 0)))), (q_21, .inl (ca 1, (6, .inr (.inl fun _ => 0)))), (q_22, .inl (ca 2, (6, .inl fun _ => 0)))] from rfl) dX6_init_209 (fun H locs hw => ?_)
  refine cn_ret (S := fun k => if k = 0 then a else if k = 1 then q_1 else if k = 2 then q_2 else if k = 3 then q_3 else if k = 4 then q_4 else if k = 5 then q_5 else if k = 6 then q_6 else if k = 7 then q_7 else if k = 8 then q_8 else if k = 9 then q_9 else if k = 10 then q_10 else if k = 11 then q_11 else if k = 12 then q_12 else if k = 13 then q_13 else if k = 14 then q_14 else if k = 15 then q_15 else if k = 16 then q_16 else if k = 17 then q_17 else if k = 18 then q_18 else if k = 19 then q_19 else if k = 20 then q_20 else if k = 21 then q_21 else q_22) hx hb hr hlocks hK ?_ rfl dX6_init_212
  exact hw
