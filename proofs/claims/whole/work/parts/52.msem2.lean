/-! more of the reference -/
def mt0 (M : sSt) : sSt := sI M 0 0 (nI 0)
def mtg (lo hi : Int64) : Bool := decide (hi - lo < 0) || !decide (hi - lo ≤ 1000000000000)
def mwgOk (M : sSt) (pp : Int32) (ww : Int64) : Bool := mwl M pp && wth ww 0 1000000
def mptOk (M : sSt) (pp : Int32) (b0 : Bool) : Bool := mwl M pp && !decide (M.1 7 pp.toNatClampNeg = bI b0)
def mrfS (M : sSt) : sSt := sI M 0 23 (M.1 0 23 + nI 1)
def mqapp (M : sSt) (p k b : Nat) (v : Int64) : sSt := sI (sL (sI M 10 (8 * p + k) (nI b)) 11 (8 * p + k) v) 9 p (nI (k + 1))
def mtkR (M : sSt) (b p k : Nat) (v : Int64) : Int32 × sSt := if mmvOk M b p v = true then (nI 1, mmvS M b p v) else if M.1 7 p = 0 then (nI 0, mrfS M) else if k = 8 then (nI 0, mrfS M) else (nI 2, mqapp M p k b v)
def mtkG (M : sSt) (bb pp : Int32) (vv : Int64) : Bool := mbd M bb && (mwl M pp && (!decide (vv = 0) && wth vv (-1000000000000) 1000000000000))
def mtkF (M : sSt) (bb pp : Int32) (vv : Int64) : Int32 × sSt := if mtkG M bb pp vv = true then mtkR M bb.toNatClampNeg pp.toNatClampNeg (M.1 9 pp.toNatClampNeg).toNatClampNeg vv else ((-1), M)
/-- the reference's state in order: counts, queues -/
def MQW (M : sSt) (p : Nat) : Prop := ∃ k, k ≤ 8 ∧ M.1 9 p = nI k ∧ ∀ j, j < k → ∃ b, b < 6 ∧ M.1 10 (8 * p + j) = nI b
def MI (nb nr : Nat) (M : sSt) : Prop := (∀ q, q < 6 → MQW M q) ∧ M.1 0 1 = nI nb ∧ M.1 0 13 = nI nr
theorem MI_of {nb nr : Nat} {M T : sSt} (h : MI nb nr M) (h9 : T.1 9 = M.1 9) (h10 : T.1 10 = M.1 10) (h1 : T.1 0 1 = M.1 0 1) (h13 : T.1 0 13 = M.1 0 13) : MI nb nr T := by
  obtain ⟨a, b, c⟩ := h
  refine ⟨fun q hq => ?_, by rw [h1]; exact b, by rw [h13]; exact c⟩
  obtain ⟨k, k1, k2, k3⟩ := a q hq
  exact ⟨k, k1, by rw [h9]; exact k2, fun j hj => by rw [h10]; exact k3 j hj⟩
theorem MI_0 {nb nr : Nat} {M : sSt} (h : MI nb nr M) : MI nb nr (mt0 M) := MI_of h rfl rfl rfl rfl
theorem mmvS_1 (M : sSt) (bb pp : Nat) (vv : Int64) (q : Nat) (h : q ≠ 0) : (mmvS M bb pp vv).1 q = M.1 q := by
  unfold mmvS
  split <;> (funext j; simp only [mmv2, mmv1]; rw [sI_1, if_neg (fun e => h e.1)]; rfl)
theorem mmvS_0 (M : sSt) (bb pp : Nat) (vv : Int64) (j : Nat) (h : j ≠ 22) : (mmvS M bb pp vv).1 0 j = M.1 0 j := by
  unfold mmvS
  split <;> (simp only [mmv2, mmv1]; rw [sI_1, if_neg (fun e => h e.2)]; rfl)
-- came
def mgB (M : sSt) (p : Nat) : Nat := (M.1 10 (8 * p)).toNatClampNeg
def mgOk (M : sSt) (p : Nat) : Bool := mwl M (nI p) && (!decide (M.1 9 p ≤ 0) && mmvOk M (mgB M p) p (M.2 11 (8 * p)))
def msh (M : sSt) (p : Nat) : Nat → sSt
  | 0 => M
  | n + 1 => sL (sI (msh M p n) 10 (8 * p + n) ((msh M p n).1 10 (8 * p + n + 1))) 11 (8 * p + n) ((sI (msh M p n) 10 (8 * p + n) ((msh M p n).1 10 (8 * p + n + 1))).2 11 (8 * p + n + 1))
def mgY (M : sSt) (p k b : Nat) : sSt := sI (mmvS M b p (M.2 11 (8 * p))) 9 p (nI k)
def mgS (M : sSt) (p : Nat) : sSt := msh (mgY M p ((M.1 9 p).toNatClampNeg - 1) (mgB M p)) p ((M.1 9 p).toNatClampNeg - 1)
def cmL (p : Nat) : Nat → sSt → sSt
  | 0, M => M
  | n + 1, M => if mgOk M p = true then cmL p n (mgS M p) else M
theorem msh_q (M : sSt) (p : Nat) : ∀ n q, q ≠ 10 → (msh M p n).1 q = M.1 q
  | 0, _, _ => rfl
  | n + 1, q, h => by
    funext j
    rw [msh, sL_1, sI_1, if_neg (fun e => h e.1), msh_q M p n q h]
theorem msh_10 (M : sSt) (p : Nat) : ∀ n j, (msh M p n).1 10 j = if 8 * p ≤ j ∧ j < 8 * p + n then M.1 10 (j + 1) else M.1 10 j
  | 0, j => by
    rw [if_neg (by omega)]; rfl
  | n + 1, j => by
    rw [msh, sL_1, sI_1, msh_10 M p n (8 * p + n + 1), if_neg (show ¬ (8 * p ≤ 8 * p + n + 1 ∧ 8 * p + n + 1 < 8 * p + n) by omega)]
    by_cases h : j = 8 * p + n
    · subst h
      rw [if_pos ⟨rfl, rfl⟩, if_pos (by omega)]
    · rw [if_neg (fun e => h e.2), msh_10 M p n j]
      by_cases h2 : 8 * p ≤ j ∧ j < 8 * p + n
      · rw [if_pos h2, if_pos (by omega)]
      · rw [if_neg h2, if_neg (by omega)]
theorem mgS_eq {M : sSt} {p k b : Nat} (h1 : M.1 9 p = nI (k + 1)) (hk : k ≤ 7) (h2 : M.1 10 (8 * p) = nI b) (hb : b < 6) : mgS M p = msh (mgY M p k b) p k ∧ mgB M p = b := by
  have e2 : mgB M p = b := by rw [mgB, h2, nI_clamp (by omega)]
  refine ⟨?_, e2⟩
  rw [mgS, e2, h1, nI_clamp (by omega)]
  rfl
theorem MQW_first {M : sSt} {p k : Nat} (hk : M.1 9 p = nI k) (h8 : k ≤ 8) (h : ∀ j, j < k → ∃ b, b < 6 ∧ M.1 10 (8 * p + j) = nI b) (hn : ¬ k ≤ 0) : ∃ m b, m ≤ 7 ∧ b < 6 ∧ k = m + 1 ∧ M.1 10 (8 * p) = nI b := by
  obtain ⟨b, hb, e⟩ := h 0 (by omega)
  exact ⟨k - 1, b, by omega, hb, by omega, e⟩
theorem msh_MI {nb nr p k b : Nat} {M : sSt} (hp : p < 6) (h : MI nb nr M) (h1 : M.1 9 p = nI (k + 1)) (hk : k ≤ 7) : MI nb nr (msh (mgY M p k b) p k) := by
  obtain ⟨a, c, d⟩ := h
  refine ⟨fun q hq => ?_, ?_, ?_⟩
  · obtain ⟨m, k1, k2, k3⟩ := a q hq
    have e9 : (msh (mgY M p k b) p k).1 9 q = if q = p then nI k else M.1 9 q := by
      rw [msh_q _ p k 9 (by omega), mgY, sI_1]
      by_cases e : q = p
      · rw [if_pos ⟨rfl, e⟩, if_pos e]
      · rw [if_neg (fun z => e z.2), if_neg e, mmvS_1 _ _ _ _ 9 (by omega)]
    have e10 : ∀ j, (mgY M p k b).1 10 j = M.1 10 j := fun j => by rw [mgY, sI_1, if_neg (by omega), mmvS_1 _ _ _ _ 10 (by omega)]
    by_cases e : q = p
    · subst e
      have hm : m = k + 1 := by
        rw [h1] at k2
        exact ((nI_eq (by omega) (by omega)).mp k2).symm
      subst hm
      refine ⟨k, by omega, by rw [e9, if_pos rfl], fun j hj => ?_⟩
      rw [msh_10, if_pos (by omega), e10]
      exact k3 (j + 1) (by omega)
    · refine ⟨m, k1, by rw [e9, if_neg e]; exact k2, fun j hj => ?_⟩
      rw [msh_10, if_neg (by omega), e10]
      exact k3 j hj
  · rw [msh_q _ p k 0 (by omega), mgY, sI_1, if_neg (by omega), mmvS_0 _ _ _ _ 1 (by omega)]; exact c
  · rw [msh_q _ p k 0 (by omega), mgY, sI_1, if_neg (by omega), mmvS_0 _ _ _ _ 13 (by omega)]; exact d
theorem cmL_step {i p : Nat} {X t : sSt} (h : cmL p (9 - i) X = t) (hi : i < 9) (hc : mgOk X p = true) : cmL p (9 - (i + 1)) (mgS X p) = t := by
  have e : 9 - i = (9 - (i + 1)) + 1 := by omega
  rw [e, cmL, if_pos hc] at h
  exact h
theorem cmL_stop {n p : Nat} {X t : sSt} (h : cmL p n X = t) (hc : mgOk X p = false) : X = t := by
  cases n with
  | zero => exact h
  | succ n => rw [cmL, if_neg (by rw [hc]; decide)] at h; exact h
-- rows
def madd (M : sSt) (nr b s f t : Nat) (v : Int64) : sSt :=
  sI (sI (sI (sL (sI (sI (sI (sI (sI M 0 13 (nI (nr + 1))) 12 (nr + 1) (nI b)) 13 (nr + 1) (nI s)) 14 (nr + 1) (nI f)) 15 (nr + 1) (nI t)) 16 (nr + 1) v) 17 (nr + 1) (nI 0)) 18 (nr + 1) (nI 0)) 19 (nr + 1) (nI 0)
def madS (M : sSt) (nr b s f t : Nat) (v : Int64) : sSt := sL (madd M nr b s f t v) 4 (12 * b + 6 * s + f) ((madd M nr b s f t v).2 4 (12 * b + 6 * s + f) - v)
def mldG (M : sSt) (bb sd fr to : Int32) (vv : Int64) : Bool := mbd M bb && (wth sd.toInt64 0 1 && (mwl M fr && (mwl M to && (!decide (fr = to) && decide (1 ≤ vv)))))
def mldR (M : sSt) (nr b s f t : Nat) (v : Int64) : Int32 × sSt := if M.2 4 (12 * b + 6 * s + f) < v then (nI 0, M) else if nr = 200 then (nI 0, M) else (nI (nr + 1), madS M nr b s f t v)
def mldF (M : sSt) (nr : Nat) (bb sd fr to : Int32) (vv : Int64) : Int32 × sSt := if mldG M bb sd fr to vv = true then mldR M nr bb.toNatClampNeg sd.toNatClampNeg fr.toNatClampNeg to.toNatClampNeg vv else ((-1), M)
def makG (M : sSt) (bb sd pp : Int32) (vv : Int64) : Bool := mbd M bb && (wth sd.toInt64 0 1 && (mwl M pp && decide (1 ≤ vv)))
def mrich (M : sSt) (b s p : Nat) : Nat → Int32
  | 0 => (-1)
  | n + 1 => if n = p then mrich M b s p n else if mwl M (nI n) = false then mrich M b s p n else if mrich M b s p n = (-1) then nI n else if M.2 4 (12 * b + 6 * s + n) ≤ M.2 4 (12 * b + 6 * s + (mrich M b s p n).toNatClampNeg) then mrich M b s p n else nI n
theorem mrich_n (M : sSt) (b s p : Nat) : ∀ n, mrich M b s p n = (-1) ∨ ∃ q, q < n ∧ mrich M b s p n = nI q
  | 0 => Or.inl rfl
  | n + 1 => by
    have ih := mrich_n M b s p n
    have ih2 : mrich M b s p n = (-1) ∨ ∃ q, q < n + 1 ∧ mrich M b s p n = nI q := by
      rcases ih with h | ⟨q, hq, h⟩
      · exact Or.inl h
      · exact Or.inr ⟨q, by omega, h⟩
    rw [mrich]
    split
    · exact ih2
    · split
      · exact ih2
      · split
        · exact Or.inr ⟨n, by omega, rfl⟩
        · split
          · exact ih2
          · exact Or.inr ⟨n, by omega, rfl⟩
def makR (M : sSt) (nr b s p : Nat) (v : Int64) (q : Int32) : Int32 × sSt := if q = (-1) then (nI 0, M) else if M.2 4 (12 * b + 6 * s + q.toNatClampNeg) = 0 then (nI 0, M) else if nr = 200 then (nI 0, M) else
  (nI (nr + 1), madS M nr b s q.toNatClampNeg p (if v ≤ M.2 4 (12 * b + 6 * s + q.toNatClampNeg) then v else M.2 4 (12 * b + 6 * s + q.toNatClampNeg)))
def makF (M : sSt) (nr : Nat) (bb sd pp : Int32) (vv : Int64) : Int32 × sSt := if makG M bb sd pp vv = true then makR M nr bb.toNatClampNeg sd.toNatClampNeg pp.toNatClampNeg vv (mrich M bb.toNatClampNeg sd.toNatClampNeg pp.toNatClampNeg 6) else ((-1), M)
def mlsOk (M : sSt) (rr : Int32) : Bool := mrw M rr && decide (M.1 17 rr.toNatClampNeg = 0)
def MRW (nb nr : Nat) (M : sSt) : Prop := ∀ r, 1 ≤ r → r ≤ nr → ∃ b s f t, b < nb ∧ s < 2 ∧ f < 6 ∧ t < 6 ∧ M.1 12 r = nI b ∧ M.1 13 r = nI s ∧ M.1 14 r = nI f ∧ M.1 15 r = nI t
def mdl1 (M : sSt) (r : Nat) : sSt := sI M 18 r (M.1 18 r + nI 1)
def mdl2 (M : sSt) (r b s t : Nat) : sSt := sL (sI (mdl1 M r) 17 r (nI 1)) 4 (12 * b + 6 * s + t) ((sI (mdl1 M r) 17 r (nI 1)).2 4 (12 * b + 6 * s + t) + (sI (mdl1 M r) 17 r (nI 1)).2 16 r)
def mdlR (M : sSt) (r b s t : Nat) : Int32 × sSt := if (mdl1 M r).1 17 r = nI 1 then (nI 0, mdl1 M r) else (nI 1, cmL t 9 (mdl2 M r b s t))
def mdlF (M : sSt) (rr : Int32) : Int32 × sSt := if (mrw M rr && !decide (M.1 17 rr.toNatClampNeg = nI 2)) = true then
  mdlR M rr.toNatClampNeg (M.1 12 rr.toNatClampNeg).toNatClampNeg (M.1 13 rr.toNatClampNeg).toNatClampNeg (M.1 15 rr.toNatClampNeg).toNatClampNeg else ((-1), M)
def mrwV (M : sSt) (r : Nat) (wh : Int32) : Int32 := if wh = nI 0 then M.1 12 r else if wh = nI 1 then M.1 13 r else if wh = nI 2 then M.1 14 r else if wh = nI 3 then M.1 15 r else if wh = nI 4 then M.1 17 r else if wh = nI 5 then M.1 18 r else (-1)
def mrwF (M : sSt) (rr wh : Int32) : Int32 := if mrw M rr = true then mrwV M rr.toNatClampNeg wh else (-1)
def mttF (M : sSt) (wh : Int32) : Int32 := if wh = 0 then M.1 0 1 else if wh = nI 1 then M.1 0 13 else if wh = nI 2 then M.1 0 22 else if wh = nI 3 then M.1 0 23 else (-1)
def mcnt (M : sSt) (p : Nat) : Nat → Int32
  | 0 => nI 0
  | n + 1 => mcnt M p n + (if M.1 8 (6 * p + n) = 0 then nI 0 else nI 1)
def mpsV (M : sSt) (p : Nat) (wh : Int32) : Int32 := if wh = 0 then M.1 6 p else if wh = nI 1 then (if M.1 7 p = 0 then nI 0 else nI 1) else if wh = nI 2 then M.1 9 p else if wh = nI 3 then mcnt M p 6 else (-1)
def mpsF (M : sSt) (pp wh : Int32) : Int32 := if wth pp.toInt64 0 5 = true then mpsV M pp.toNatClampNeg wh else (-1)
def mshG (M : sSt) (bb sd pp : Int32) : Bool := mbd M bb && (wth sd.toInt64 0 1 && wth pp.toInt64 0 5)
def mthr (M : sSt) (b : Bool) : sSt := sI M 0 0 (if b = true then nI 0 else nI 1)
def mwtG (M : sSt) (pp kk : Int32) : Bool := wth pp.toInt64 0 5 && wth kk.toInt64 0 ((M.1 9 pp.toNatClampNeg).toInt64 - 1)
theorem mgOk_0 {X : sSt} {p k : Nat} (h : X.1 9 p = nI k) (hk : k = 0) : mgOk X p = false := by
  subst hk
  rw [mgOk, h]
  have e : decide (nI 0 ≤ 0) = true := by decide
  rw [e]
  simp
