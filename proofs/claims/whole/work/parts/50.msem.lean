/-! The reference's state, as two tables again. Places: 0 the object (fields by their number: 0 thrown, 1 bounds, 13 rows, 22 done, 23 refused); 1 floor, 2 value, 3 ceiling, 4 share, 5 weight, 6 how, 7 patient, 8 told, 9 waits, 10 waitBound, 11 waitFor, 12 rowBound, 13 rowSide, 14 from, 15 to, 16 much, 17 state, 18 times, 19 isBack, 20 part, 21 rest, 22 more. -/
def wth (x lo hi : Int64) : Bool := !decide (x < lo) && !decide (hi < x)
def mwl (M : sSt) (pp : Int32) : Bool := wth pp.toInt64 0 5 && decide (M.1 6 pp.toNatClampNeg = 0)
def mbd (M : sSt) (bb : Int32) : Bool := wth bb.toInt64 0 ((M.1 0 1).toInt64 - 1)
def mrw (M : sSt) (rr : Int32) : Bool := wth rr.toInt64 1 (M.1 0 13).toInt64
theorem wth_n {x : Int32} {lo hi : Int64} {a : Nat} {b : Int} (ha : lo.toInt = (a : Int)) (hb : hi.toInt = b) (h : wth x.toInt64 lo hi = true) : ∃ n : Nat, a ≤ n ∧ (n : Int) ≤ b ∧ n < 2 ^ 31 ∧ x = nI n := by
  unfold wth at h
  rw [Bool.and_eq_true, Bool.not_eq_true', Bool.not_eq_true', decide_eq_false_iff_not, decide_eq_false_iff_not, Int64.lt_iff_toInt_lt, Int64.lt_iff_toInt_lt, Int32.toInt_toInt64, ha, hb] at h
  have h0 : ¬ x < 0 := fun q => by
    rw [Int32.lt_iff_toInt_lt, Int32.toInt_zero] at q
    omega
  obtain ⟨j, hj, e⟩ := nI_of h0
  subst e
  rw [nI_toInt hj] at h
  exact ⟨j, by omega, by omega, hj, rfl⟩
theorem w5_n {x : Int32} (h : wth x.toInt64 0 5 = true) : ∃ n, n < 6 ∧ x = nI n := by
  obtain ⟨n, h1, h2, h3, e⟩ := wth_n (a := 0) (b := 5) (by decide) (by decide) h
  exact ⟨n, by omega, e⟩
theorem w1_n {x : Int32} (h : wth x.toInt64 0 1 = true) : ∃ n, n < 2 ∧ x = nI n := by
  obtain ⟨n, h1, h2, h3, e⟩ := wth_n (a := 0) (b := 1) (by decide) (by decide) h
  exact ⟨n, by omega, e⟩
theorem w8_n {x : Int32} (h : wth x.toInt64 0 8 = true) : ∃ n, n < 9 ∧ x = nI n := by
  obtain ⟨n, h1, h2, h3, e⟩ := wth_n (a := 0) (b := 8) (by decide) (by decide) h
  exact ⟨n, by omega, e⟩
theorem mwl_n {M : sSt} {pp : Int32} (h : mwl M pp = true) : ∃ n, n < 6 ∧ pp = nI n := by
  unfold mwl at h
  rw [Bool.and_eq_true] at h
  exact w5_n h.1
theorem nb1_toInt {nb : Nat} (h : nb ≤ 200) : ((nI nb).toInt64 - 1).toInt = (nb : Int) - 1 := by
  rw [nI_l (by omega)]
  cases nb with
  | zero => decide
  | succ k =>
    rw [show (1 : Int64) = lN 1 from rfl, lN_sub (by omega), lN_toInt (by omega)]
    omega
theorem mbd_n {M : sSt} {bb : Int32} {nb : Nat} (hc : M.1 0 1 = nI nb) (hb : nb ≤ 6) (h : mbd M bb = true) : ∃ n, n < nb ∧ bb = nI n := by
  unfold mbd at h
  rw [hc] at h
  obtain ⟨n, h1, h2, h3, e⟩ := wth_n (a := 0) (by decide) (nb1_toInt (by omega)) h
  exact ⟨n, by omega, e⟩
theorem mrw_n {M : sSt} {rr : Int32} {nr : Nat} (hc : M.1 0 13 = nI nr) (hb : nr ≤ 200) (h : mrw M rr = true) : ∃ n, 1 ≤ n ∧ n ≤ nr ∧ rr = nI n := by
  unfold mrw at h
  rw [hc] at h
  obtain ⟨n, h1, h2, h3, e⟩ := wth_n (a := 1) (b := (nr : Int)) (by decide) (by rw [nI_l (by omega), lN_toInt (by omega)]) h
  exact ⟨n, by omega, by omega, e⟩
-- split
def mown (M : sSt) (b0 : Bool) (p : Nat) : Int64 := if mwl M (nI p) = false then 0 else if b0 = false then M.2 5 p else 1
def mall (M : sSt) (b0 : Bool) : Nat → Int64
  | 0 => 0
  | n + 1 => mall M b0 n + mown M b0 n
def msp1 (T : sSt) (room all own : Int64) (n : Nat) : sSt := sI (sL (sL T 20 n (room * own / all)) 21 n (room * own - room * own / all * all)) 22 n (nI 0)
def mspl1 (M : sSt) (room all : Int64) (b0 : Bool) : Nat → sSt × Int64
  | 0 => (M, room)
  | n + 1 => (msp1 (mspl1 M room all b0 n).1 room all (mown (mspl1 M room all b0 n).1 b0 n) n, (mspl1 M room all b0 n).2 - (msp1 (mspl1 M room all b0 n).1 room all (mown (mspl1 M room all b0 n).1 b0 n) n).2 20 n)
def mbest (M : sSt) : Nat → Int32
  | 0 => (-1)
  | n + 1 => if ¬ M.1 22 n = 0 then mbest M n else if mbest M n = (-1) then nI n else if M.2 21 n ≤ M.2 21 (mbest M n).toNatClampNeg then mbest M n else nI n
theorem mbest_n (M : sSt) : ∀ n, mbest M n = (-1) ∨ ∃ q, q < n ∧ mbest M n = nI q
  | 0 => Or.inl rfl
  | n + 1 => by
    have ih := mbest_n M n
    have ih2 : mbest M n = (-1) ∨ ∃ q, q < n + 1 ∧ mbest M n = nI q := by
      rcases ih with h | ⟨q, hq, h⟩
      · exact Or.inl h
      · exact Or.inr ⟨q, by omega, h⟩
    rw [mbest]
    split
    · exact ih2
    · split
      · exact Or.inr ⟨n, by omega, rfl⟩
      · split
        · exact ih2
        · exact Or.inr ⟨n, by omega, rfl⟩
def mp2 (X : sSt × Int64) : sSt × Int64 := (sL (sI X.1 22 (mbest X.1 6).toNatClampNeg (nI 1)) 20 (mbest X.1 6).toNatClampNeg ((sI X.1 22 (mbest X.1 6).toNatClampNeg (nI 1)).2 20 (mbest X.1 6).toNatClampNeg + 1), X.2 - 1)
def mspl2 : Nat → sSt × Int64 → sSt × Int64
  | 0, X => X
  | n + 1, X => if X.2 ≤ 0 then X else mspl2 n (mp2 X)
/-- the splitting loop comes to its end within n rounds, and there is one to serve in each -/
def mspOk : Nat → sSt × Int64 → Prop
  | 0, X => X.2 ≤ 0
  | n + 1, X => X.2 ≤ 0 ∨ (¬ mbest X.1 6 = (-1) ∧ mspOk n (mp2 X))
def msplF (M : sSt) (room : Int64) (b0 : Bool) : sSt := (mspl2 6 (mspl1 M room (mall M b0 6) b0 6)).1
-- moves
def mmvOk (M : sSt) (bb pp : Nat) (vv : Int64) : Bool := if vv ≤ 0 then decide (-vv ≤ M.2 4 (12 * bb + 6 * 1 + pp)) else decide (vv ≤ M.2 4 (12 * bb + 6 * 0 + pp))
def mmv1 (M : sSt) (bb pp sd : Nat) (vv sz : Int64) : sSt := sL (sL M 4 (12 * bb + 6 * sd + pp) (M.2 4 (12 * bb + 6 * sd + pp) - sz)) 4 (12 * bb + 6 * (1 - sd) + pp) ((sL M 4 (12 * bb + 6 * sd + pp) (M.2 4 (12 * bb + 6 * sd + pp) - sz)).2 4 (12 * bb + 6 * (1 - sd) + pp) + sz)
def mmv2 (M : sSt) (bb : Nat) (vv : Int64) : sSt := sI (sL M 2 bb (M.2 2 bb - vv)) 0 22 ((sL M 2 bb (M.2 2 bb - vv)).1 0 22 + nI 1)
def mmvS (M : sSt) (bb pp : Nat) (vv : Int64) : sSt := if vv ≤ 0 then mmv2 (mmv1 M bb pp 1 vv (-vv)) bb vv else mmv2 (mmv1 M bb pp 0 vv vv) bb vv
theorem mspl2_step {i : Nat} {X t : sSt × Int64} (h : mspl2 (6 - i) X = t) (hi : i < 6) (hc : ¬ X.2 ≤ 0) : mspl2 (6 - (i + 1)) (mp2 X) = t := by
  have e : 6 - i = (6 - (i + 1)) + 1 := by omega
  rw [e, mspl2, if_neg hc] at h
  exact h
theorem mspl2_stop {n : Nat} {X t : sSt × Int64} (h : mspl2 n X = t) (hc : X.2 ≤ 0) : X = t := by
  cases n with
  | zero => exact h
  | succ n => rw [mspl2, if_pos hc] at h; exact h
theorem mspOk_lt {i : Nat} {X : sSt × Int64} (h : mspOk (6 - i) X) (hc : ¬ X.2 ≤ 0) : i < 6 := by
  rcases Nat.lt_or_ge i 6 with q | q
  · exact q
  · have e : 6 - i = 0 := by omega
    rw [e] at h
    exact absurd h hc
