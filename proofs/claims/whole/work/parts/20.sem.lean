/-! The class's state as two tables (ints, longs) of places and indices; what each method of the class does to it, in the order of the program. Places: 0 the object, 1 people, 2 bounds, 3 rows, 4 queues, 5 splitter; 6 weights, 7 patience, 8 states, 9 tellers; 10 floors, 11 values, 12 ceilings, 13 shares (its lines 14..25); 26 boundOf, 27 sideOf, 28 lenders, 29 borrowers, 30 states, 31 deliveries, 32 amounts, 33 held; 34 lengths, 35 boundOf (36..41), 42 amounts (43..48); 49 weights, 50 parts, 51 rests. -/
abbrev sSt : Type := (Nat → Nat → Int32) × (Nat → Nat → Int64)
def sI (S : sSt) (k j : Nat) (x : Int32) : sSt := (fun q => if q = k then upd (S.1 k) j x else S.1 q, S.2)
def sL (S : sSt) (k j : Nat) (x : Int64) : sSt := (S.1, fun q => if q = k then vp_updL (S.2 k) j x else S.2 q)
theorem sI_2 (S : sSt) (k j : Nat) (x : Int32) : (sI S k j x).2 = S.2 := rfl
theorem sL_1 (S : sSt) (k j : Nat) (x : Int64) : (sL S k j x).1 = S.1 := rfl
theorem sI_1 (S : sSt) (k j : Nat) (x : Int32) (q i : Nat) : (sI S k j x).1 q i = if q = k ∧ i = j then x else S.1 q i := by
  unfold sI upd
  by_cases h : q = k
  · subst h
    by_cases h2 : i = j <;> simp [h2]
  · simp [h]
theorem sL_2 (S : sSt) (k j : Nat) (x : Int64) (q i : Nat) : (sL S k j x).2 q i = if q = k ∧ i = j then x else S.2 q i := by
  unfold sL vp_updL
  by_cases h : q = k
  · subst h
    by_cases h2 : i = j <;> simp [h2]
  · simp [h]
-- people
def h6 (pp : Int32) : Bool := !decide (pp < 0) && !decide (nI 6 ≤ pp)
def wl (S : sSt) (pp : Int32) : Bool := h6 pp && decide (S.1 8 pp.toNatClampNeg = 0)
def wn (S : sSt) (pp : Nat) : Bool := decide (S.1 8 pp = 0)
def bt1 (pp : Nat) : Int32 := nI 1 <<< (nI pp &&& 31)
def tk (S : sSt) (gg pp : Nat) : Bool := decide (S.1 9 gg &&& bt1 pp = 0)
def wm (S : sSt) : Nat → Int32
  | 0 => nI 0
  | n + 1 => if S.1 8 n = 0 then wm S n ||| bt1 n else wm S n
def cr (S : sSt) (gg : Nat) : Bool := decide (S.1 8 gg = nI 1) && (!decide (wm S 6 = 0) && decide (S.1 9 gg &&& wm S 6 = wm S 6))
-- bounds
def hbd (S : sSt) (bb : Int32) : Bool := !decide (bb < 0) && !decide (S.1 2 0 ≤ bb)
def bopen (S : sSt) (nb : Nat) (fl va ce : Int64) : sSt := sI (sL (sL (sL S 10 nb fl) 11 nb va) 12 nb ce) 2 0 (nI (nb + 1))
def setSh (S : sSt) (k : Nat) : Nat → sSt
  | 0 => S
  | n + 1 => sL (setSh S k n) (14 + k) n ((setSh S k n).2 50 n)
def addSh (S : sSt) (k pp : Nat) (vv : Int64) : sSt := sL S (14 + k) pp (S.2 (14 + k) pp + vv)
def mvOk (S : sSt) (bb pp : Nat) (vv : Int64) : Bool := decide ((if 0 < vv then vv else -vv) ≤ (if vv ≤ 0 then S.2 (14 + (bb * 2 + 1)) pp else S.2 (14 + (bb * 2 + 0)) pp))
def mvS (S : sSt) (bb pp : Nat) (vv : Int64) : sSt := sL (addSh (addSh S (bb * 2 + 0) pp (-vv)) (bb * 2 + 1) pp vv) 11 bb ((addSh (addSh S (bb * 2 + 0) pp (-vv)) (bb * 2 + 1) pp vv).2 11 bb - vv)
-- rows
def hrw (S : sSt) (rr : Int32) : Bool := !decide (rr < nI 1) && !decide (S.1 3 0 < rr)
def isOf (S : sSt) (rr bb sd : Nat) : Bool := decide (S.1 26 rr = nI bb) && decide (S.1 27 rr = nI sd)
def ropen (S : sSt) (nr bb sd fr to : Nat) (vv : Int64) : sSt :=
  sL (sL (sI (sI (sI (sI (sI S 3 0 (nI (nr + 1))) 26 (nr + 1) (nI bb)) 27 (nr + 1) (nI sd)) 28 (nr + 1) (nI fr)) 29 (nr + 1) (nI to)) 32 (nr + 1) vv) 33 (nr + 1) vv
def cbk (S : sSt) (bb sd pp : Nat) : Nat → sSt × Int64
  | 0 => (S, 0)
  | n + 1 => if (decide ((cbk S bb sd pp n).1.1 28 (n + 1) = nI pp) || decide ((cbk S bb sd pp n).1.1 29 (n + 1) = nI pp)) && (isOf (cbk S bb sd pp n).1 (n + 1) bb sd && !decide ((cbk S bb sd pp n).1.1 30 (n + 1) = nI 1)) then
      (sL (sI (cbk S bb sd pp n).1 30 (n + 1) (nI 2)) 33 (n + 1) 0, (cbk S bb sd pp n).2 + (cbk S bb sd pp n).1.2 33 (n + 1)) else cbk S bb sd pp n
-- queues
def qapp (S : sSt) (pp k : Nat) (bb : Nat) (vv : Int64) : sSt := sI (sL (sI S (36 + pp) k (nI bb)) (43 + pp) k vv) 34 pp (nI (k + 1))
def qsh (S : sSt) (pp : Nat) : Nat → sSt
  | 0 => S
  | n + 1 => sL (sI (qsh S pp n) (36 + pp) n ((qsh S pp n).1 (36 + pp) (n + 1))) (43 + pp) n ((sI (qsh S pp n) (36 + pp) n ((qsh S pp n).1 (36 + pp) (n + 1))).2 (43 + pp) (n + 1))
def qrem (S : sSt) (pp k : Nat) : sSt := sI (qsh S pp k) 34 pp (nI k)
-- splitter
def sumW (S : sSt) : Nat → Int64
  | 0 => 0
  | n + 1 => sumW S n + S.2 49 n
def gRest (S : sSt) : Nat → Nat
  | 0 => 0
  | n + 1 => if S.2 51 (n + 1) ≤ S.2 51 (gRest S n) then gRest S n else n + 1
theorem gRest_le (S : sSt) : ∀ n, gRest S n ≤ n
  | 0 => Nat.le_refl 0
  | n + 1 => by
    have := gRest_le S n
    unfold gRest
    by_cases h : S.2 51 (n + 1) ≤ S.2 51 (gRest S n)
    · rw [if_pos h]; omega
    · rw [if_neg h]; omega
theorem h6_n {pp : Int32} (h : h6 pp = true) : ∃ n, n < 6 ∧ pp = nI n := by
  rcases pk_ix pp (n := 6) (by decide) with h1 | h1 | h1
  · simp [h6, h1] at h
  · simp [h6, h1] at h
  · exact h1
theorem qsh_34 (S : sSt) (pp : Nat) (hp : pp < 6) : ∀ n, (qsh S pp n).1 34 = S.1 34
  | 0 => rfl
  | n + 1 => by
    have h := qsh_34 S pp hp n
    funext j
    rw [qsh, sL_1, sI_1, if_neg (by omega), h]
theorem cbk_cnt (S : sSt) (bb sd pp : Nat) : ∀ n, (cbk S bb sd pp n).1.1 3 = S.1 3
  | 0 => rfl
  | n + 1 => by
    have h := cbk_cnt S bb sd pp n
    rw [cbk]
    split
    · exact h
    · exact h
