/-- array classes: 0 int, 1 long, 2 boolean, 3 lines of longs, 4 lines of ints -/
def tyl (ca : Nat → ClassId) : List (ClassId × FieldType) := [(ca 0, .int), (ca 1, .long), (ca 2, .boolean), (ca 3, .array .long), (ca 4, .array .int)]
/-- the class's cells -/
def wc (ca : Nat → ClassId) (ad : Nat → Nat) (S : sSt) : va_W := [(ad 0, .inr (5, [.ref (ad 1), .ref (ad 2), .ref (ad 3), .ref (ad 4), .ref (ad 5), .int (S.1 0 5), .int (S.1 0 6)])),
  (ad 1, .inr (1, [.ref (ad 6), .ref (ad 7), .ref (ad 8), .ref (ad 9)])),
  (ad 2, .inr (0, [.int (S.1 2 0), .ref (ad 10), .ref (ad 11), .ref (ad 12), .ref (ad 13)])),
  (ad 3, .inr (3, [.int (S.1 3 0), .ref (ad 26), .ref (ad 27), .ref (ad 28), .ref (ad 29), .ref (ad 30), .ref (ad 31), .ref (ad 32), .ref (ad 33)])),
  (ad 4, .inr (2, [.ref (ad 34), .ref (ad 35), .ref (ad 42)])),
  (ad 5, .inr (4, [.ref (ad 49), .ref (ad 50), .ref (ad 51)])),
  (ad 6, .inl (ca 1, 6, .inr (.inl (S.2 6)))),
  (ad 7, .inl (ca 2, 6, .inl (S.1 7))),
  (ad 8, .inl (ca 0, 6, .inl (S.1 8))),
  (ad 9, .inl (ca 0, 6, .inl (S.1 9))),
  (ad 10, .inl (ca 1, 6, .inr (.inl (S.2 10)))),
  (ad 11, .inl (ca 1, 6, .inr (.inl (S.2 11)))),
  (ad 12, .inl (ca 1, 6, .inr (.inl (S.2 12)))),
  (ad 13, .inl (ca 3, 12, .inr (.inr (.inr (.inr (fun i => if i < 12 then some (ad (14 + i)) else none)))))),
  (ad 14, .inl (ca 1, 6, .inr (.inl (S.2 14)))),
  (ad 15, .inl (ca 1, 6, .inr (.inl (S.2 15)))),
  (ad 16, .inl (ca 1, 6, .inr (.inl (S.2 16)))),
  (ad 17, .inl (ca 1, 6, .inr (.inl (S.2 17)))),
  (ad 18, .inl (ca 1, 6, .inr (.inl (S.2 18)))),
  (ad 19, .inl (ca 1, 6, .inr (.inl (S.2 19)))),
  (ad 20, .inl (ca 1, 6, .inr (.inl (S.2 20)))),
  (ad 21, .inl (ca 1, 6, .inr (.inl (S.2 21)))),
  (ad 22, .inl (ca 1, 6, .inr (.inl (S.2 22)))),
  (ad 23, .inl (ca 1, 6, .inr (.inl (S.2 23)))),
  (ad 24, .inl (ca 1, 6, .inr (.inl (S.2 24)))),
  (ad 25, .inl (ca 1, 6, .inr (.inl (S.2 25)))),
  (ad 26, .inl (ca 0, 201, .inl (S.1 26))),
  (ad 27, .inl (ca 0, 201, .inl (S.1 27))),
  (ad 28, .inl (ca 0, 201, .inl (S.1 28))),
  (ad 29, .inl (ca 0, 201, .inl (S.1 29))),
  (ad 30, .inl (ca 0, 201, .inl (S.1 30))),
  (ad 31, .inl (ca 0, 201, .inl (S.1 31))),
  (ad 32, .inl (ca 1, 201, .inr (.inl (S.2 32)))),
  (ad 33, .inl (ca 1, 201, .inr (.inl (S.2 33)))),
  (ad 34, .inl (ca 0, 6, .inl (S.1 34))),
  (ad 35, .inl (ca 4, 6, .inr (.inr (.inr (.inr (fun i => if i < 6 then some (ad (36 + i)) else none)))))),
  (ad 36, .inl (ca 0, 8, .inl (S.1 36))),
  (ad 37, .inl (ca 0, 8, .inl (S.1 37))),
  (ad 38, .inl (ca 0, 8, .inl (S.1 38))),
  (ad 39, .inl (ca 0, 8, .inl (S.1 39))),
  (ad 40, .inl (ca 0, 8, .inl (S.1 40))),
  (ad 41, .inl (ca 0, 8, .inl (S.1 41))),
  (ad 42, .inl (ca 3, 6, .inr (.inr (.inr (.inr (fun i => if i < 6 then some (ad (43 + i)) else none)))))),
  (ad 43, .inl (ca 1, 8, .inr (.inl (S.2 43)))),
  (ad 44, .inl (ca 1, 8, .inr (.inl (S.2 44)))),
  (ad 45, .inl (ca 1, 8, .inr (.inl (S.2 45)))),
  (ad 46, .inl (ca 1, 8, .inr (.inl (S.2 46)))),
  (ad 47, .inl (ca 1, 8, .inr (.inl (S.2 47)))),
  (ad 48, .inl (ca 1, 8, .inr (.inl (S.2 48)))),
  (ad 49, .inl (ca 1, 6, .inr (.inl (S.2 49)))),
  (ad 50, .inl (ca 1, 6, .inr (.inl (S.2 50)))),
  (ad 51, .inl (ca 1, 6, .inr (.inl (S.2 51))))]
theorem se_6 (ca : Nat → ClassId) (ad : Nat → Nat) (S : sSt) (j : Nat) (x : Int64) : (wc ca ad S).set 6 (ad 6, .inl (ca 1, 6, .inr (.inl (vp_updL (S.2 6) j x)))) = wc ca ad (sL S 6 j x) := rfl
theorem se_10 (ca : Nat → ClassId) (ad : Nat → Nat) (S : sSt) (j : Nat) (x : Int64) : (wc ca ad S).set 10 (ad 10, .inl (ca 1, 6, .inr (.inl (vp_updL (S.2 10) j x)))) = wc ca ad (sL S 10 j x) := rfl
theorem se_11 (ca : Nat → ClassId) (ad : Nat → Nat) (S : sSt) (j : Nat) (x : Int64) : (wc ca ad S).set 11 (ad 11, .inl (ca 1, 6, .inr (.inl (vp_updL (S.2 11) j x)))) = wc ca ad (sL S 11 j x) := rfl
theorem se_12 (ca : Nat → ClassId) (ad : Nat → Nat) (S : sSt) (j : Nat) (x : Int64) : (wc ca ad S).set 12 (ad 12, .inl (ca 1, 6, .inr (.inl (vp_updL (S.2 12) j x)))) = wc ca ad (sL S 12 j x) := rfl
theorem se_49 (ca : Nat → ClassId) (ad : Nat → Nat) (S : sSt) (j : Nat) (x : Int64) : (wc ca ad S).set 49 (ad 49, .inl (ca 1, 6, .inr (.inl (vp_updL (S.2 49) j x)))) = wc ca ad (sL S 49 j x) := rfl
theorem se_50 (ca : Nat → ClassId) (ad : Nat → Nat) (S : sSt) (j : Nat) (x : Int64) : (wc ca ad S).set 50 (ad 50, .inl (ca 1, 6, .inr (.inl (vp_updL (S.2 50) j x)))) = wc ca ad (sL S 50 j x) := rfl
theorem se_51 (ca : Nat → ClassId) (ad : Nat → Nat) (S : sSt) (j : Nat) (x : Int64) : (wc ca ad S).set 51 (ad 51, .inl (ca 1, 6, .inr (.inl (vp_updL (S.2 51) j x)))) = wc ca ad (sL S 51 j x) := rfl
theorem se_7 (ca : Nat → ClassId) (ad : Nat → Nat) (S : sSt) (j : Nat) (x : Int32) : (wc ca ad S).set 7 (ad 7, .inl (ca 2, 6, .inl (upd (S.1 7) j x))) = wc ca ad (sI S 7 j x) := rfl
theorem se_8 (ca : Nat → ClassId) (ad : Nat → Nat) (S : sSt) (j : Nat) (x : Int32) : (wc ca ad S).set 8 (ad 8, .inl (ca 0, 6, .inl (upd (S.1 8) j x))) = wc ca ad (sI S 8 j x) := rfl
theorem se_9 (ca : Nat → ClassId) (ad : Nat → Nat) (S : sSt) (j : Nat) (x : Int32) : (wc ca ad S).set 9 (ad 9, .inl (ca 0, 6, .inl (upd (S.1 9) j x))) = wc ca ad (sI S 9 j x) := rfl
theorem se_34 (ca : Nat → ClassId) (ad : Nat → Nat) (S : sSt) (j : Nat) (x : Int32) : (wc ca ad S).set 34 (ad 34, .inl (ca 0, 6, .inl (upd (S.1 34) j x))) = wc ca ad (sI S 34 j x) := rfl
theorem se_26 (ca : Nat → ClassId) (ad : Nat → Nat) (S : sSt) (j : Nat) (x : Int32) : (wc ca ad S).set 26 (ad 26, .inl (ca 0, 201, .inl (upd (S.1 26) j x))) = wc ca ad (sI S 26 j x) := rfl
theorem se_27 (ca : Nat → ClassId) (ad : Nat → Nat) (S : sSt) (j : Nat) (x : Int32) : (wc ca ad S).set 27 (ad 27, .inl (ca 0, 201, .inl (upd (S.1 27) j x))) = wc ca ad (sI S 27 j x) := rfl
theorem se_28 (ca : Nat → ClassId) (ad : Nat → Nat) (S : sSt) (j : Nat) (x : Int32) : (wc ca ad S).set 28 (ad 28, .inl (ca 0, 201, .inl (upd (S.1 28) j x))) = wc ca ad (sI S 28 j x) := rfl
theorem se_29 (ca : Nat → ClassId) (ad : Nat → Nat) (S : sSt) (j : Nat) (x : Int32) : (wc ca ad S).set 29 (ad 29, .inl (ca 0, 201, .inl (upd (S.1 29) j x))) = wc ca ad (sI S 29 j x) := rfl
theorem se_30 (ca : Nat → ClassId) (ad : Nat → Nat) (S : sSt) (j : Nat) (x : Int32) : (wc ca ad S).set 30 (ad 30, .inl (ca 0, 201, .inl (upd (S.1 30) j x))) = wc ca ad (sI S 30 j x) := rfl
theorem se_31 (ca : Nat → ClassId) (ad : Nat → Nat) (S : sSt) (j : Nat) (x : Int32) : (wc ca ad S).set 31 (ad 31, .inl (ca 0, 201, .inl (upd (S.1 31) j x))) = wc ca ad (sI S 31 j x) := rfl
theorem se_32 (ca : Nat → ClassId) (ad : Nat → Nat) (S : sSt) (j : Nat) (x : Int64) : (wc ca ad S).set 32 (ad 32, .inl (ca 1, 201, .inr (.inl (vp_updL (S.2 32) j x)))) = wc ca ad (sL S 32 j x) := rfl
theorem se_33 (ca : Nat → ClassId) (ad : Nat → Nat) (S : sSt) (j : Nat) (x : Int64) : (wc ca ad S).set 33 (ad 33, .inl (ca 1, 201, .inr (.inl (vp_updL (S.2 33) j x)))) = wc ca ad (sL S 33 j x) := rfl
theorem sf_0_5 (ca : Nat → ClassId) (ad : Nat → Nat) (S : sSt) (x : Int32) : (wc ca ad S).set 0 (ad 0, .inr (5, [.ref (ad 1), .ref (ad 2), .ref (ad 3), .ref (ad 4), .ref (ad 5), .int x, .int (S.1 0 6)])) = wc ca ad (sI S 0 5 x) := rfl
theorem sf_0_6 (ca : Nat → ClassId) (ad : Nat → Nat) (S : sSt) (x : Int32) : (wc ca ad S).set 0 (ad 0, .inr (5, [.ref (ad 1), .ref (ad 2), .ref (ad 3), .ref (ad 4), .ref (ad 5), .int (S.1 0 5), .int x])) = wc ca ad (sI S 0 6 x) := rfl
theorem sf_2_0 (ca : Nat → ClassId) (ad : Nat → Nat) (S : sSt) (x : Int32) : (wc ca ad S).set 2 (ad 2, .inr (0, [.int x, .ref (ad 10), .ref (ad 11), .ref (ad 12), .ref (ad 13)])) = wc ca ad (sI S 2 0 x) := rfl
theorem sf_3_0 (ca : Nat → ClassId) (ad : Nat → Nat) (S : sSt) (x : Int32) : (wc ca ad S).set 3 (ad 3, .inr (3, [.int x, .ref (ad 26), .ref (ad 27), .ref (ad 28), .ref (ad 29), .ref (ad 30), .ref (ad 31), .ref (ad 32), .ref (ad 33)])) = wc ca ad (sI S 3 0 x) := rfl
theorem rw_13 (ca : Nat → ClassId) (ad : Nat → Nat) (S : sSt) (i : Nat) (hi : i < 12) : (wc ca ad S)[14 + i]? = some (ad (14 + i), .inl (ca 1, 6, .inr (.inl (S.2 (14 + i))))) := by
  rcases (show i = 0 ∨ i = 1 ∨ i = 2 ∨ i = 3 ∨ i = 4 ∨ i = 5 ∨ i = 6 ∨ i = 7 ∨ i = 8 ∨ i = 9 ∨ i = 10 ∨ i = 11 by omega) with rfl | rfl | rfl | rfl | rfl | rfl | rfl | rfl | rfl | rfl | rfl | rfl <;> rfl
theorem se_13 (ca : Nat → ClassId) (ad : Nat → Nat) (S : sSt) (i : Nat) (hi : i < 12) (j : Nat) (x : Int64) : (wc ca ad S).set (14 + i) (ad (14 + i), .inl (ca 1, 6, .inr (.inl (vp_updL (S.2 (14 + i)) j x)))) = wc ca ad (sL S (14 + i) j x) := by
  rcases (show i = 0 ∨ i = 1 ∨ i = 2 ∨ i = 3 ∨ i = 4 ∨ i = 5 ∨ i = 6 ∨ i = 7 ∨ i = 8 ∨ i = 9 ∨ i = 10 ∨ i = 11 by omega) with rfl | rfl | rfl | rfl | rfl | rfl | rfl | rfl | rfl | rfl | rfl | rfl <;> rfl
theorem rw_35 (ca : Nat → ClassId) (ad : Nat → Nat) (S : sSt) (i : Nat) (hi : i < 6) : (wc ca ad S)[36 + i]? = some (ad (36 + i), .inl (ca 0, 8, .inl (S.1 (36 + i)))) := by
  rcases (show i = 0 ∨ i = 1 ∨ i = 2 ∨ i = 3 ∨ i = 4 ∨ i = 5 by omega) with rfl | rfl | rfl | rfl | rfl | rfl <;> rfl
theorem se_35 (ca : Nat → ClassId) (ad : Nat → Nat) (S : sSt) (i : Nat) (hi : i < 6) (j : Nat) (x : Int32) : (wc ca ad S).set (36 + i) (ad (36 + i), .inl (ca 0, 8, .inl (upd (S.1 (36 + i)) j x))) = wc ca ad (sI S (36 + i) j x) := by
  rcases (show i = 0 ∨ i = 1 ∨ i = 2 ∨ i = 3 ∨ i = 4 ∨ i = 5 by omega) with rfl | rfl | rfl | rfl | rfl | rfl <;> rfl
theorem rw_42 (ca : Nat → ClassId) (ad : Nat → Nat) (S : sSt) (i : Nat) (hi : i < 6) : (wc ca ad S)[43 + i]? = some (ad (43 + i), .inl (ca 1, 8, .inr (.inl (S.2 (43 + i))))) := by
  rcases (show i = 0 ∨ i = 1 ∨ i = 2 ∨ i = 3 ∨ i = 4 ∨ i = 5 by omega) with rfl | rfl | rfl | rfl | rfl | rfl <;> rfl
theorem se_42 (ca : Nat → ClassId) (ad : Nat → Nat) (S : sSt) (i : Nat) (hi : i < 6) (j : Nat) (x : Int64) : (wc ca ad S).set (43 + i) (ad (43 + i), .inl (ca 1, 8, .inr (.inl (vp_updL (S.2 (43 + i)) j x)))) = wc ca ad (sL S (43 + i) j x) := by
  rcases (show i = 0 ∨ i = 1 ∨ i = 2 ∨ i = 3 ∨ i = 4 ∨ i = 5 by omega) with rfl | rfl | rfl | rfl | rfl | rfl <;> rfl
