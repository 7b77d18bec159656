/-! the public methods of the class that don't throw -/
theorem wl_n {S : sSt} {pp : Int32} (h : wl S pp = true) : ∃ n, n < 6 ∧ pp = nI n := by
  unfold wl at h
  rw [Bool.and_eq_true] at h
  exact h6_n h.1
theorem hbd_n {S : sSt} {bb : Int32} {nb : Nat} (hc : S.1 2 0 = nI nb) (hb : nb ≤ 6) (h : hbd S bb = true) : ∃ n, n < nb ∧ bb = nI n := by
  rcases pk_ix bb (n := nb) (by omega) with h1 | h1 | h1
  · simp [hbd, h1] at h
  · simp [hbd, hc, h1] at h
  · exact h1
theorem hrw_n {S : sSt} {rr : Int32} {nr : Nat} (hc : S.1 3 0 = nI nr) (hb : nr ≤ 200) (h : hrw S rr = true) : ∃ n, 1 ≤ n ∧ n ≤ nr ∧ rr = nI n := by
  unfold hrw at h
  rw [hc, Bool.and_eq_true, Bool.not_eq_true', Bool.not_eq_true', decide_eq_false_iff_not, decide_eq_false_iff_not] at h
  have h0 : ¬ rr < 0 := fun q => h.1 (by
    rw [Int32.lt_iff_toInt_lt] at q ⊢
    rw [nI_toInt (by omega)]
    rw [Int32.toInt_zero] at q
    omega)
  obtain ⟨j, hj, e⟩ := nI_of h0
  subst e
  refine ⟨j, ?_, ?_, rfl⟩
  · exact Nat.not_lt.mp (fun q => h.1 ((nI_ltI (by omega) (by omega)).mpr q))
  · exact Nat.not_lt.mp (fun q => h.2 ((nI_ltI (by omega) (by omega)).mpr q))
theorem sdOk_n {sd : Int32} (h : sdOk sd = true) : ∃ n, n < 2 ∧ sd = nI n := by
  unfold sdOk at h
  rw [Bool.or_eq_true, decide_eq_true_iff, decide_eq_true_iff] at h
  rcases h with h | h
  · exact ⟨0, by omega, h⟩
  · exact ⟨1, by omega, h⟩
theorem caf_n {S : sSt} {bb sd pp : Int32} {vv : Int64} {nb : Nat} (hc : S.1 2 0 = nI nb) (hb : nb ≤ 6) (h : caf S bb sd pp vv = true) : ∃ b s p, b < nb ∧ s < 2 ∧ p < 6 ∧ bb = nI b ∧ sd = nI s ∧ pp = nI p := by
  unfold caf at h
  rw [Bool.and_eq_true, Bool.and_eq_true, Bool.and_eq_true] at h
  obtain ⟨b, hb, e1⟩ := hbd_n hc hb h.1
  obtain ⟨s, hs, e2⟩ := sdOk_n h.2.1
  obtain ⟨p, hp, e3⟩ := wl_n h.2.2.1
  exact ⟨b, s, p, hb, hs, hp, e1, e2, e3⟩
theorem nI_20 : ¬ nI 2 = 0 := by decide
theorem nb_v (b : Bool) : vp_nar .boolean (bI b) = bI b := by
  cases b <;> decide
def wgOk (S : sSt) (pp : Int32) (ww : Int64) : Bool := wl S pp && (!decide (ww < 0) && decide (ww ≤ 1000000))
def ptOk (S : sSt) (pp : Int32) (b0 : Bool) : Bool := wl S pp && !decide (S.1 7 pp.toNatClampNeg = bI b0)
def rfS (S : sSt) : sSt := sI S 0 6 (S.1 0 6 + nI 1)
def tkG (S : sSt) (bb pp : Int32) (vv : Int64) : Bool := hbd S bb && (wl S pp && (!decide (vv = 0) && (!decide (vv < (-1000000000000)) && decide (vv ≤ 1000000000000))))
def tkR (S : sSt) (bb pp kq : Nat) (vv : Int64) : Int32 × sSt := if mvOk S bb pp vv = true then (nI 1, dnS (mvS S bb pp vv)) else if S.1 7 pp = 0 then (nI 0, rfS S) else if kq < 8 then (nI 2, qapp S pp kq bb vv) else (nI 0, rfS S)
def tkF (S : sSt) (bb pp : Int32) (vv : Int64) : Int32 × sSt := if tkG S bb pp vv = true then tkR S bb.toNatClampNeg pp.toNatClampNeg (S.1 34 pp.toNatClampNeg).toNatClampNeg vv else ((-1), S)
def sdR (S : sSt) (nr bb sd fr to : Nat) (vv : Int64) : Int32 × sSt := ((if nr < 200 then nI (nr + 1) else nI 0), sendS S nr bb sd fr to vv)
def ldF (S : sSt) (nr : Nat) (bb sd fr to : Int32) (vv : Int64) : Int32 × sSt := if (caf S bb sd to vv && (wl S fr && !decide (fr = to))) = true then
  (if vv ≤ S.2 (14 + (bb.toNatClampNeg * 2 + sd.toNatClampNeg)) fr.toNatClampNeg then sdR S nr bb.toNatClampNeg sd.toNatClampNeg fr.toNatClampNeg to.toNatClampNeg vv else (nI 0, S)) else ((-1), S)
def akR (S : sSt) (nr bb sd pp : Nat) (vv : Int64) (q : Int32) : Int32 × sSt := if q = (-1) then (nI 0, S) else sdR S nr bb sd q.toNatClampNeg pp (if S.2 (14 + (bb * 2 + sd)) q.toNatClampNeg < vv then S.2 (14 + (bb * 2 + sd)) q.toNatClampNeg else vv)
def akF (S : sSt) (nr : Nat) (bb sd pp : Int32) (vv : Int64) : Int32 × sSt := if caf S bb sd pp vv = true then akR S nr bb.toNatClampNeg sd.toNatClampNeg pp.toNatClampNeg vv (rich S (bb.toNatClampNeg * 2 + sd.toNatClampNeg) pp.toNatClampNeg 6).1 else ((-1), S)
theorem rich_n (S : sSt) (k pp : Nat) : ∀ n, (rich S k pp n).1 = (-1) ∨ ∃ q, q < n ∧ (rich S k pp n).1 = nI q
  | 0 => Or.inl rfl
  | n + 1 => by
    have ih := rich_n S k pp n
    have ih2 : (rich S k pp n).1 = (-1) ∨ ∃ q, q < n + 1 ∧ (rich S k pp n).1 = nI q := by
      rcases ih with h | ⟨q, hq, h⟩
      · exact Or.inl h
      · exact Or.inr ⟨q, by omega, h⟩
    rw [rich]
    split
    · exact ih2
    · split
      · exact ih2
      · split
        · exact ih2
        · exact Or.inr ⟨n, by omega, rfl⟩
/-- rows in order -/
def RW (nb nr : Nat) (S : sSt) : Prop := ∀ r, 1 ≤ r → r ≤ nr → ∃ b s f t, b < nb ∧ s < 2 ∧ f < 6 ∧ t < 6 ∧ S.1 26 r = nI b ∧ S.1 27 r = nI s ∧ S.1 28 r = nI f ∧ S.1 29 r = nI t
def dlR (S : sSt) (r b s t : Nat) : Int32 × sSt := if (sI S 31 r (S.1 31 r + nI 1)).1 30 r = nI 1 then (nI 0, sI S 31 r (S.1 31 r + nI 1)) else
  (nI 1, rcvF (sL (sI (sI S 31 r (S.1 31 r + nI 1)) 30 r (nI 1)) 33 r 0) b s t ((sI (sI S 31 r (S.1 31 r + nI 1)) 30 r (nI 1)).2 33 r))
def dlF (S : sSt) (rr : Int32) : Int32 × sSt := if (hrw S rr && !decide (S.1 30 rr.toNatClampNeg = nI 2)) = true then
  dlR S rr.toNatClampNeg (S.1 26 rr.toNatClampNeg).toNatClampNeg (S.1 27 rr.toNatClampNeg).toNatClampNeg (S.1 29 rr.toNatClampNeg).toNatClampNeg else ((-1), S)
def lsOk (S : sSt) (rr : Int32) : Bool := hrw S rr && decide (S.1 30 rr.toNatClampNeg = 0)
def enL (nb nr : Nat) (S : sSt) : Nat → sSt
  | 0 => S
  | n + 1 => if cr (enL nb nr S n) n = true then recF (enL nb nr S n) n nb nr else enL nb nr S n
def enF (S : sSt) (nb nr : Nat) (pp : Int32) : sSt := if wl S pp = true then enL nb nr (sI (sI S 8 pp.toNatClampNeg (nI 1)) 34 pp.toNatClampNeg (nI 0)) 6 else S
def vcG (S : sSt) (pp ee : Int32) : Bool := wl S pp && (h6 ee && !decide (S.1 8 ee.toNatClampNeg = 0))
def vcT (S : sSt) (p e : Nat) : sSt := sI S 9 e (S.1 9 e ||| bt1 p)
def vcR (S : sSt) (nb nr p e : Nat) : Int32 × sSt := if S.1 8 e = nI 2 then (nI 0, S) else if tk S e p = true then (if cr (vcT S p e) e = true then (nI 2, recF (vcT S p e) e nb nr) else (nI 1, vcT S p e)) else (nI 0, S)
def vcF (S : sSt) (nb nr : Nat) (pp ee : Int32) : Int32 × sSt := if vcG S pp ee = true then vcR S nb nr pp.toNatClampNeg ee.toNatClampNeg else ((-1), S)
def rwV (S : sSt) (r : Nat) (wh : Int32) : Int32 := if wh = nI 0 then S.1 26 r else if wh = nI 1 then S.1 27 r else if wh = nI 2 then S.1 28 r else if wh = nI 3 then S.1 29 r else if wh = nI 4 then S.1 30 r else if wh = nI 5 then S.1 31 r else (-1)
def rwF (S : sSt) (rr wh : Int32) : Int32 := if hrw S rr = true then rwV S rr.toNatClampNeg wh else (-1)
def ttF (S : sSt) (wh : Int32) : Int32 := if wh = nI 0 then S.1 2 0 else if wh = nI 1 then S.1 3 0 else if wh = nI 2 then S.1 0 5 else if wh = nI 3 then S.1 0 6 else (-1)
def bc1 (x : Int32) : Int32 := x - ((x.toUInt32 >>> ((nI 1).toUInt32 &&& Int32.toUInt32 31)).toInt32 &&& 1431655765)
def bc2 (x : Int32) : Int32 := (x &&& 858993459) + ((x.toUInt32 >>> ((nI 2).toUInt32 &&& Int32.toUInt32 31)).toInt32 &&& 858993459)
def bc3 (x : Int32) : Int32 := (x + (x.toUInt32 >>> ((nI 4).toUInt32 &&& Int32.toUInt32 31)).toInt32) &&& 252645135
def bc4 (x : Int32) : Int32 := x + (x.toUInt32 >>> ((nI 8).toUInt32 &&& Int32.toUInt32 31)).toInt32
def bc5 (x : Int32) : Int32 := x + (x.toUInt32 >>> ((nI 16).toUInt32 &&& Int32.toUInt32 31)).toInt32
def bcF (x : Int32) : Int32 := bc5 (bc4 (bc3 (bc2 (bc1 x)))) &&& nI 63
def psV (S : sSt) (p : Nat) (wh : Int32) : Int32 := if wh = nI 0 then S.1 8 p else if wh = nI 1 then (if S.1 7 p = 0 then nI 0 else nI 1) else if wh = nI 2 then S.1 34 p else if wh = nI 3 then bcF (S.1 9 p) else (-1)
def psF (S : sSt) (pp wh : Int32) : Int32 := if h6 pp = true then psV S pp.toNatClampNeg wh else (-1)
theorem RI_recF {nb nr gg : Nat} {S : sSt} (h : RI nb nr S) : RI nb nr (recF S gg nb nr) := by
  unfold recF
  exact RI_recB (RI_eq (RI_of (T := sI S 8 gg (nI 2)) h rfl (fun q hq => by funext j; rw [sI_1, if_neg (by omega)]) rfl rfl) (uew_1 _ _)) nb
theorem RI_enL {nb nr : Nat} {S : sSt} (h : RI nb nr S) : ∀ n, RI nb nr (enL nb nr S n)
  | 0 => h
  | n + 1 => by
    rw [enL]
    split
    · exact RI_recF (RI_enL h n)
    · exact RI_enL h n
theorem RI_end {nb nr p : Nat} {S : sSt} (hp : p < 6) (h : RI nb nr S) (x : Int32) : RI nb nr (sI (sI S 8 p x) 34 p (nI 0)) := by
  obtain ⟨a, b, c⟩ := h
  refine ⟨fun q hq => ?_, b, c⟩
  obtain ⟨k, k1, k2, k3⟩ := a q hq
  by_cases e : q = p
  · subst e
    refine ⟨0, by omega, ?_, fun j hj => absurd hj (Nat.not_lt_zero j)⟩
    rw [sI_1, if_pos ⟨rfl, rfl⟩]
  · refine ⟨k, k1, ?_, fun j hj => ?_⟩
    · rw [sI_1, if_neg (fun q9 => e q9.2), sI_1, if_neg (by omega)]; exact k2
    · rw [sI_1, if_neg (by omega), sI_1, if_neg (by omega)]; exact k3 j hj
theorem RI_sI {nb nr k j : Nat} {x : Int32} {S : sSt} (h : RI nb nr S) (hk : k = 9 ∨ k = 31 ∨ k = 30 ∨ k = 7) : RI nb nr (sI S k j x) := by
  refine RI_of h ?_ (fun q hq => ?_) ?_ ?_ <;> (funext i; rw [sI_1, if_neg (by omega)])
