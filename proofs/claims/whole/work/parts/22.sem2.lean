/-! split, receive, recover and the rest of the class, as the program does them -/
def flL (S : sSt) (vv : Int64) : Nat → sSt
  | 0 => S
  | n + 1 => sL (flL S vv n) 50 n vv
def spl1 (S : sSt) (room all : Int64) : Nat → sSt × Int64
  | 0 => (S, room)
  | n + 1 => (sL (sL (spl1 S room all n).1 50 n (room * (spl1 S room all n).1.2 49 n / all)) 51 n (room * (spl1 S room all n).1.2 49 n - room * (spl1 S room all n).1.2 49 n / all * all),
      (spl1 S room all n).2 - (sL (sL (spl1 S room all n).1 50 n (room * (spl1 S room all n).1.2 49 n / all)) 51 n (room * (spl1 S room all n).1.2 49 n - room * (spl1 S room all n).1.2 49 n / all * all)).2 50 n)
def sp2 (X : sSt × Int64) : sSt × Int64 := (sL (sL X.1 50 (gRest X.1 5) (X.1.2 50 (gRest X.1 5) + 1)) 51 (gRest X.1 5) (-1), X.2 - 1)
def spl2 : Nat → sSt × Int64 → sSt × Int64
  | 0, X => X
  | n + 1, X => if X.2 ≤ 0 then X else spl2 n (sp2 X)
def splF (S : sSt) (room : Int64) : sSt := if 0 < sumW S 6 then (spl2 6 (spl1 S room (sumW S 6) 6)).1 else flL S 0 6
theorem spl2_step {i : Nat} {X t : sSt × Int64} (h : spl2 (6 - i) X = t) (hi : i < 6) (hc : ¬ X.2 ≤ 0) : spl2 (6 - (i + 1)) (sp2 X) = t := by
  have e : 6 - i = (6 - (i + 1)) + 1 := by omega
  rw [e, spl2, if_neg hc] at h
  exact h
theorem spl2_stop {n : Nat} {X t : sSt × Int64} (h : spl2 n X = t) (hc : X.2 ≤ 0) : X = t := by
  cases n with
  | zero => exact h
  | succ n => rw [spl2, if_pos hc] at h; exact h
theorem spl2_end {i : Nat} {X t : sSt × Int64} (h : spl2 (6 - i) X = t) (hi : 6 ≤ i) : X = t := by
  have e : 6 - i = 0 := by omega
  rw [e] at h; exact h
-- numbers and sides
def rmOk (dd : Int64) : Bool := !decide (dd < 0) && !decide (1000000000000 < dd)
def ordOk (fl va ce : Int64) : Bool := !decide (va < fl) && (!decide (ce < va) && (rmOk (va - fl) && rmOk (ce - va)))
def sdOk (sd : Int32) : Bool := decide (sd = 0) || decide (sd = nI 1)
def caf (S : sSt) (bb sd pp : Int32) (vv : Int64) : Bool := hbd S bb && (sdOk sd && (wl S pp && !decide (vv < 1)))
def rich (S : sSt) (k pp : Nat) : Nat → Int32 × Int64
  | 0 => ((-1), 0)
  | n + 1 => if n = pp then rich S k pp n else if wl S (nI n) = false then rich S k pp n else if S.2 (14 + k) n ≤ (rich S k pp n).2 then rich S k pp n else (nI n, S.2 (14 + k) n)
def sendS (S : sSt) (nr bb sd fr to : Nat) (vv : Int64) : sSt := if nr < 200 then ropen (addSh S (bb * 2 + sd) fr (-vv)) nr bb sd fr to vv else S
-- queues
def gfB (S : sSt) (pp : Nat) : Nat := (S.1 (36 + pp) 0).toNatClampNeg
def gfOk (S : sSt) (pp : Nat) : Bool := !decide (S.1 34 pp = 0) && mvOk S (gfB S pp) pp (S.2 (43 + pp) 0)
def gfS (S : sSt) (pp : Nat) : sSt := qrem (mvS S (gfB S pp) pp (S.2 (43 + pp) 0)) pp ((S.1 34 pp).toNatClampNeg - 1)
def dnS (S : sSt) : sSt := sI S 0 5 (S.1 0 5 + nI 1)
def rcvL (pp : Nat) : Nat → sSt → sSt
  | 0, S => S
  | n + 1, S => if gfOk S pp = true then rcvL pp n (dnS (gfS S pp)) else S
def rcvF (S : sSt) (bb sd pp : Nat) (vv : Int64) : sSt := if 0 < vv then rcvL pp 8 (addSh S (bb * 2 + sd) pp vv) else S
/-- a queue that is in order -/
def QW (S : sSt) (pp : Nat) : Prop := ∃ k, k ≤ 8 ∧ S.1 34 pp = nI k ∧ ∀ j, j < k → ∃ b, b < 6 ∧ S.1 (36 + pp) j = nI b
theorem mvS_1 (S : sSt) (bb pp : Nat) (vv : Int64) : (mvS S bb pp vv).1 = S.1 := rfl
theorem addSh_1 (S : sSt) (k pp : Nat) (vv : Int64) : (addSh S k pp vv).1 = S.1 := rfl
theorem qsh_2 (S : sSt) (pp : Nat) : ∀ n q, q ≠ 36 + pp → (qsh S pp n).1 q = S.1 q
  | 0, _, _ => rfl
  | n + 1, q, h => by
    funext j
    rw [qsh, sL_1, sI_1, if_neg (fun e => h e.1), qsh_2 S pp n q h]
theorem qsh_b (S : sSt) (pp : Nat) : ∀ n j, (qsh S pp n).1 (36 + pp) j = if j < n then S.1 (36 + pp) (j + 1) else S.1 (36 + pp) j
  | 0, j => by simp [qsh]
  | n + 1, j => by
    rw [qsh, sL_1, sI_1, qsh_b S pp n (n + 1), if_neg (show ¬ (n + 1 < n) by omega)]
    by_cases h : j = n
    · subst h
      rw [if_pos ⟨rfl, rfl⟩, if_pos (by omega)]
    · rw [if_neg (fun e => h e.2), qsh_b S pp n j]
      by_cases h2 : j < n
      · rw [if_pos h2, if_pos (by omega)]
      · rw [if_neg h2, if_neg (by omega)]
theorem QW_mv {S : sSt} {pp bb q : Nat} {vv : Int64} (h : QW S q) : QW (mvS S bb pp vv) q := h
theorem QW_add {S : sSt} {pp k q : Nat} {vv : Int64} (h : QW S q) : QW (addSh S k pp vv) q := h
theorem QW_dn {S : sSt} {q : Nat} (hq : q < 6) (h : QW S q) : QW (dnS S) q := by
  obtain ⟨k, h1, h2, h3⟩ := h
  refine ⟨k, h1, ?_, fun j hj => ?_⟩
  · rw [dnS, sI_1, if_neg (by omega)]; exact h2
  · rw [dnS, sI_1, if_neg (by omega)]; exact h3 j hj
theorem QW_rem {S : sSt} {pp k q : Nat} (hp : pp < 6) (hq : q < 6) (h : QW S q) (hk : S.1 34 pp = nI (k + 1)) (hk8 : k ≤ 7) : QW (qrem S pp k) q := by
  obtain ⟨m, h1, h2, h3⟩ := h
  by_cases e : q = pp
  · subst e
    have hm : m = k + 1 := by
      rw [hk] at h2
      exact ((nI_eq (by omega) (by omega)).mp h2).symm
    subst hm
    refine ⟨k, by omega, ?_, fun j hj => ?_⟩
    · rw [qrem, sI_1, if_pos ⟨rfl, rfl⟩]
    · rw [qrem, sI_1, if_neg (by omega), qsh_b, if_pos hj]
      exact h3 (j + 1) (by omega)
  · refine ⟨m, h1, ?_, fun j hj => ?_⟩
    · rw [qrem, sI_1, if_neg (by omega), qsh_2 S pp k 34 (by omega)]; exact h2
    · rw [qrem, sI_1, if_neg (by omega), qsh_2 S pp k (36 + q) (by omega)]; exact h3 j hj
/-- what goFirst finds: a queue with k + 1 in it, the first one's bound -/
theorem QW_first {S : sSt} {pp : Nat} (h : QW S pp) (hn : ¬ S.1 34 pp = 0) : ∃ k b, k ≤ 7 ∧ b < 6 ∧ S.1 34 pp = nI (k + 1) ∧ S.1 (36 + pp) 0 = nI b := by
  obtain ⟨k, h1, h2, h3⟩ := h
  cases k with
  | zero => exact absurd h2 hn
  | succ k =>
    obtain ⟨b, hb, e⟩ := h3 0 (by omega)
    exact ⟨k, b, by omega, hb, h2, e⟩
theorem gfS_eq {S : sSt} {pp k b : Nat} (h1 : S.1 34 pp = nI (k + 1)) (hk : k ≤ 7) (h2 : S.1 (36 + pp) 0 = nI b) (hb : b < 6) : gfS S pp = qrem (mvS S b pp (S.2 (43 + pp) 0)) pp k ∧ gfB S pp = b := by
  have e2 : gfB S pp = b := by rw [gfB, h2, nI_clamp (by omega)]
  refine ⟨?_, e2⟩
  rw [gfS, e2, h1, nI_clamp (by omega)]
  rfl
theorem QW_gf {S : sSt} {pp q : Nat} (hp : pp < 6) (hq : q < 6) (h : QW S q) (hpq : QW S pp) (ho : gfOk S pp = true) : QW (gfS S pp) q := by
  have hn : ¬ S.1 34 pp = 0 := fun e => by simp [gfOk, e] at ho
  obtain ⟨k, b, hk, hb, e1, e2⟩ := QW_first hpq hn
  rw [(gfS_eq e1 hk e2 hb).1]
  exact QW_rem hp hq (QW_mv h) e1 hk
theorem rcvL_step {i pp : Nat} {X t : sSt} (h : rcvL pp (8 - i) X = t) (hi : i < 8) (hc : gfOk X pp = true) : rcvL pp (8 - (i + 1)) (dnS (gfS X pp)) = t := by
  have e : 8 - i = (8 - (i + 1)) + 1 := by omega
  rw [e, rcvL, if_pos hc] at h
  exact h
theorem rcvL_stop {n pp : Nat} {X t : sSt} (h : rcvL pp n X = t) (hc : gfOk X pp = false) : X = t := by
  cases n with
  | zero => exact h
  | succ n => rw [rcvL, if_neg (by rw [hc]; decide)] at h; exact h
theorem rcvL_end {i pp : Nat} {X t : sSt} (h : rcvL pp (8 - i) X = t) (hi : 8 ≤ i) : X = t := by
  have e : 8 - i = 0 := by omega
  rw [e] at h; exact h
