/-- the reference's cells -/
def wq (ca : Nat → ClassId) (ad : Nat → Nat) (S : sSt) : va_W := [(ad 0, .inr (6, [.int (S.1 0 0), .int (S.1 0 1), .ref (ad 1), .ref (ad 2), .ref (ad 3), .ref (ad 4), .ref (ad 5), .ref (ad 6), .ref (ad 7), .ref (ad 8), .ref (ad 9), .ref (ad 10), .ref (ad 11), .int (S.1 0 13), .ref (ad 12), .ref (ad 13), .ref (ad 14), .ref (ad 15), .ref (ad 16), .ref (ad 17), .ref (ad 18), .ref (ad 19), .int (S.1 0 22), .int (S.1 0 23), .ref (ad 20), .ref (ad 21), .ref (ad 22)])),
  (ad 1, .inl (ca 1, 6, .inr (.inl (S.2 1)))),
  (ad 2, .inl (ca 1, 6, .inr (.inl (S.2 2)))),
  (ad 3, .inl (ca 1, 6, .inr (.inl (S.2 3)))),
  (ad 4, .inl (ca 1, 72, .inr (.inl (S.2 4)))),
  (ad 5, .inl (ca 1, 6, .inr (.inl (S.2 5)))),
  (ad 6, .inl (ca 0, 6, .inl (S.1 6))),
  (ad 7, .inl (ca 2, 6, .inl (S.1 7))),
  (ad 8, .inl (ca 2, 36, .inl (S.1 8))),
  (ad 9, .inl (ca 0, 6, .inl (S.1 9))),
  (ad 10, .inl (ca 0, 48, .inl (S.1 10))),
  (ad 11, .inl (ca 1, 48, .inr (.inl (S.2 11)))),
  (ad 12, .inl (ca 0, 201, .inl (S.1 12))),
  (ad 13, .inl (ca 0, 201, .inl (S.1 13))),
  (ad 14, .inl (ca 0, 201, .inl (S.1 14))),
  (ad 15, .inl (ca 0, 201, .inl (S.1 15))),
  (ad 16, .inl (ca 1, 201, .inr (.inl (S.2 16)))),
  (ad 17, .inl (ca 0, 201, .inl (S.1 17))),
  (ad 18, .inl (ca 0, 201, .inl (S.1 18))),
  (ad 19, .inl (ca 2, 201, .inl (S.1 19))),
  (ad 20, .inl (ca 1, 6, .inr (.inl (S.2 20)))),
  (ad 21, .inl (ca 1, 6, .inr (.inl (S.2 21)))),
  (ad 22, .inl (ca 2, 6, .inl (S.1 22)))]
theorem sm_1 (ca : Nat → ClassId) (ad : Nat → Nat) (S : sSt) (j : Nat) (x : Int64) : (wq ca ad S).set 1 (ad 1, .inl (ca 1, 6, .inr (.inl (vp_updL (S.2 1) j x)))) = wq ca ad (sL S 1 j x) := rfl
theorem sm_2 (ca : Nat → ClassId) (ad : Nat → Nat) (S : sSt) (j : Nat) (x : Int64) : (wq ca ad S).set 2 (ad 2, .inl (ca 1, 6, .inr (.inl (vp_updL (S.2 2) j x)))) = wq ca ad (sL S 2 j x) := rfl
theorem sm_3 (ca : Nat → ClassId) (ad : Nat → Nat) (S : sSt) (j : Nat) (x : Int64) : (wq ca ad S).set 3 (ad 3, .inl (ca 1, 6, .inr (.inl (vp_updL (S.2 3) j x)))) = wq ca ad (sL S 3 j x) := rfl
theorem sm_4 (ca : Nat → ClassId) (ad : Nat → Nat) (S : sSt) (j : Nat) (x : Int64) : (wq ca ad S).set 4 (ad 4, .inl (ca 1, 72, .inr (.inl (vp_updL (S.2 4) j x)))) = wq ca ad (sL S 4 j x) := rfl
theorem sm_5 (ca : Nat → ClassId) (ad : Nat → Nat) (S : sSt) (j : Nat) (x : Int64) : (wq ca ad S).set 5 (ad 5, .inl (ca 1, 6, .inr (.inl (vp_updL (S.2 5) j x)))) = wq ca ad (sL S 5 j x) := rfl
theorem sm_6 (ca : Nat → ClassId) (ad : Nat → Nat) (S : sSt) (j : Nat) (x : Int32) : (wq ca ad S).set 6 (ad 6, .inl (ca 0, 6, .inl (upd (S.1 6) j x))) = wq ca ad (sI S 6 j x) := rfl
theorem sm_7 (ca : Nat → ClassId) (ad : Nat → Nat) (S : sSt) (j : Nat) (x : Int32) : (wq ca ad S).set 7 (ad 7, .inl (ca 2, 6, .inl (upd (S.1 7) j x))) = wq ca ad (sI S 7 j x) := rfl
theorem sm_8 (ca : Nat → ClassId) (ad : Nat → Nat) (S : sSt) (j : Nat) (x : Int32) : (wq ca ad S).set 8 (ad 8, .inl (ca 2, 36, .inl (upd (S.1 8) j x))) = wq ca ad (sI S 8 j x) := rfl
theorem sm_9 (ca : Nat → ClassId) (ad : Nat → Nat) (S : sSt) (j : Nat) (x : Int32) : (wq ca ad S).set 9 (ad 9, .inl (ca 0, 6, .inl (upd (S.1 9) j x))) = wq ca ad (sI S 9 j x) := rfl
theorem sm_10 (ca : Nat → ClassId) (ad : Nat → Nat) (S : sSt) (j : Nat) (x : Int32) : (wq ca ad S).set 10 (ad 10, .inl (ca 0, 48, .inl (upd (S.1 10) j x))) = wq ca ad (sI S 10 j x) := rfl
theorem sm_11 (ca : Nat → ClassId) (ad : Nat → Nat) (S : sSt) (j : Nat) (x : Int64) : (wq ca ad S).set 11 (ad 11, .inl (ca 1, 48, .inr (.inl (vp_updL (S.2 11) j x)))) = wq ca ad (sL S 11 j x) := rfl
theorem sm_12 (ca : Nat → ClassId) (ad : Nat → Nat) (S : sSt) (j : Nat) (x : Int32) : (wq ca ad S).set 12 (ad 12, .inl (ca 0, 201, .inl (upd (S.1 12) j x))) = wq ca ad (sI S 12 j x) := rfl
theorem sm_13 (ca : Nat → ClassId) (ad : Nat → Nat) (S : sSt) (j : Nat) (x : Int32) : (wq ca ad S).set 13 (ad 13, .inl (ca 0, 201, .inl (upd (S.1 13) j x))) = wq ca ad (sI S 13 j x) := rfl
theorem sm_14 (ca : Nat → ClassId) (ad : Nat → Nat) (S : sSt) (j : Nat) (x : Int32) : (wq ca ad S).set 14 (ad 14, .inl (ca 0, 201, .inl (upd (S.1 14) j x))) = wq ca ad (sI S 14 j x) := rfl
theorem sm_15 (ca : Nat → ClassId) (ad : Nat → Nat) (S : sSt) (j : Nat) (x : Int32) : (wq ca ad S).set 15 (ad 15, .inl (ca 0, 201, .inl (upd (S.1 15) j x))) = wq ca ad (sI S 15 j x) := rfl
theorem sm_16 (ca : Nat → ClassId) (ad : Nat → Nat) (S : sSt) (j : Nat) (x : Int64) : (wq ca ad S).set 16 (ad 16, .inl (ca 1, 201, .inr (.inl (vp_updL (S.2 16) j x)))) = wq ca ad (sL S 16 j x) := rfl
theorem sm_17 (ca : Nat → ClassId) (ad : Nat → Nat) (S : sSt) (j : Nat) (x : Int32) : (wq ca ad S).set 17 (ad 17, .inl (ca 0, 201, .inl (upd (S.1 17) j x))) = wq ca ad (sI S 17 j x) := rfl
theorem sm_18 (ca : Nat → ClassId) (ad : Nat → Nat) (S : sSt) (j : Nat) (x : Int32) : (wq ca ad S).set 18 (ad 18, .inl (ca 0, 201, .inl (upd (S.1 18) j x))) = wq ca ad (sI S 18 j x) := rfl
theorem sm_19 (ca : Nat → ClassId) (ad : Nat → Nat) (S : sSt) (j : Nat) (x : Int32) : (wq ca ad S).set 19 (ad 19, .inl (ca 2, 201, .inl (upd (S.1 19) j x))) = wq ca ad (sI S 19 j x) := rfl
theorem sm_20 (ca : Nat → ClassId) (ad : Nat → Nat) (S : sSt) (j : Nat) (x : Int64) : (wq ca ad S).set 20 (ad 20, .inl (ca 1, 6, .inr (.inl (vp_updL (S.2 20) j x)))) = wq ca ad (sL S 20 j x) := rfl
theorem sm_21 (ca : Nat → ClassId) (ad : Nat → Nat) (S : sSt) (j : Nat) (x : Int64) : (wq ca ad S).set 21 (ad 21, .inl (ca 1, 6, .inr (.inl (vp_updL (S.2 21) j x)))) = wq ca ad (sL S 21 j x) := rfl
theorem sm_22 (ca : Nat → ClassId) (ad : Nat → Nat) (S : sSt) (j : Nat) (x : Int32) : (wq ca ad S).set 22 (ad 22, .inl (ca 2, 6, .inl (upd (S.1 22) j x))) = wq ca ad (sI S 22 j x) := rfl
theorem sg_0 (ca : Nat → ClassId) (ad : Nat → Nat) (S : sSt) (x : Int32) : (wq ca ad S).set 0 (ad 0, .inr (6, [.int x, .int (S.1 0 1), .ref (ad 1), .ref (ad 2), .ref (ad 3), .ref (ad 4), .ref (ad 5), .ref (ad 6), .ref (ad 7), .ref (ad 8), .ref (ad 9), .ref (ad 10), .ref (ad 11), .int (S.1 0 13), .ref (ad 12), .ref (ad 13), .ref (ad 14), .ref (ad 15), .ref (ad 16), .ref (ad 17), .ref (ad 18), .ref (ad 19), .int (S.1 0 22), .int (S.1 0 23), .ref (ad 20), .ref (ad 21), .ref (ad 22)])) = wq ca ad (sI S 0 0 x) := rfl
theorem sg_1 (ca : Nat → ClassId) (ad : Nat → Nat) (S : sSt) (x : Int32) : (wq ca ad S).set 0 (ad 0, .inr (6, [.int (S.1 0 0), .int x, .ref (ad 1), .ref (ad 2), .ref (ad 3), .ref (ad 4), .ref (ad 5), .ref (ad 6), .ref (ad 7), .ref (ad 8), .ref (ad 9), .ref (ad 10), .ref (ad 11), .int (S.1 0 13), .ref (ad 12), .ref (ad 13), .ref (ad 14), .ref (ad 15), .ref (ad 16), .ref (ad 17), .ref (ad 18), .ref (ad 19), .int (S.1 0 22), .int (S.1 0 23), .ref (ad 20), .ref (ad 21), .ref (ad 22)])) = wq ca ad (sI S 0 1 x) := rfl
theorem sg_13 (ca : Nat → ClassId) (ad : Nat → Nat) (S : sSt) (x : Int32) : (wq ca ad S).set 0 (ad 0, .inr (6, [.int (S.1 0 0), .int (S.1 0 1), .ref (ad 1), .ref (ad 2), .ref (ad 3), .ref (ad 4), .ref (ad 5), .ref (ad 6), .ref (ad 7), .ref (ad 8), .ref (ad 9), .ref (ad 10), .ref (ad 11), .int x, .ref (ad 12), .ref (ad 13), .ref (ad 14), .ref (ad 15), .ref (ad 16), .ref (ad 17), .ref (ad 18), .ref (ad 19), .int (S.1 0 22), .int (S.1 0 23), .ref (ad 20), .ref (ad 21), .ref (ad 22)])) = wq ca ad (sI S 0 13 x) := rfl
theorem sg_22 (ca : Nat → ClassId) (ad : Nat → Nat) (S : sSt) (x : Int32) : (wq ca ad S).set 0 (ad 0, .inr (6, [.int (S.1 0 0), .int (S.1 0 1), .ref (ad 1), .ref (ad 2), .ref (ad 3), .ref (ad 4), .ref (ad 5), .ref (ad 6), .ref (ad 7), .ref (ad 8), .ref (ad 9), .ref (ad 10), .ref (ad 11), .int (S.1 0 13), .ref (ad 12), .ref (ad 13), .ref (ad 14), .ref (ad 15), .ref (ad 16), .ref (ad 17), .ref (ad 18), .ref (ad 19), .int x, .int (S.1 0 23), .ref (ad 20), .ref (ad 21), .ref (ad 22)])) = wq ca ad (sI S 0 22 x) := rfl
theorem sg_23 (ca : Nat → ClassId) (ad : Nat → Nat) (S : sSt) (x : Int32) : (wq ca ad S).set 0 (ad 0, .inr (6, [.int (S.1 0 0), .int (S.1 0 1), .ref (ad 1), .ref (ad 2), .ref (ad 3), .ref (ad 4), .ref (ad 5), .ref (ad 6), .ref (ad 7), .ref (ad 8), .ref (ad 9), .ref (ad 10), .ref (ad 11), .int (S.1 0 13), .ref (ad 12), .ref (ad 13), .ref (ad 14), .ref (ad 15), .ref (ad 16), .ref (ad 17), .ref (ad 18), .ref (ad 19), .int (S.1 0 22), .int x, .ref (ad 20), .ref (ad 21), .ref (ad 22)])) = wq ca ad (sI S 0 23 x) := rfl
