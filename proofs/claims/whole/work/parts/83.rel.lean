/-! class and reference side by side -/
def shI (S : sSt) (b s p : Nat) : Int := (S.2 (14 + (b * 2 + s)) p).toInt
def hdI (S : sSt) (b r : Nat) : Int := if S.1 26 (r + 1) = nI b then (S.2 33 (r + 1)).toInt else 0
def totI (S : sSt) (nr b : Nat) : Int := sN (shI S b 0) 6 + sN (shI S b 1) 6 + sN (hdI S b) nr
def jN (S M : sSt) : Prop := S.1 0 5 = M.1 0 22 ∧ S.1 0 6 = M.1 0 23
def jP (S M : sSt) : Prop := ∀ p, p < 6 → S.2 6 p = M.2 5 p ∧ S.1 7 p = M.1 7 p ∧ S.1 8 p = M.1 6 p ∧ 0 ≤ (S.2 6 p).toInt ∧ (S.2 6 p).toInt ≤ 1000000
def jT (S M : sSt) : Prop := ∀ e, e < 6 → ∃ w, w < 64 ∧ S.1 9 e = nI w ∧ ∀ p, p < 6 → M.1 8 (6 * e + p) = if w.testBit p then nI 1 else nI 0
def jB (S M : sSt) : Prop := ∀ b, b < 6 → S.2 10 b = M.2 1 b ∧ S.2 11 b = M.2 2 b ∧ S.2 12 b = M.2 3 b
def jS (S M : sSt) : Prop := ∀ b s p, b < 6 → s < 2 → p < 6 → S.2 (14 + (b * 2 + s)) p = M.2 4 (12 * b + 6 * s + p)
def jQ (S M : sSt) (nb : Nat) : Prop := ∀ p, p < 6 → ∃ k, k ≤ 8 ∧ S.1 34 p = nI k ∧ M.1 9 p = nI k ∧ (¬ S.1 8 p = 0 → k = 0) ∧ ∀ j, j < k → ∃ b, b < nb ∧ S.1 (36 + p) j = nI b ∧ M.1 10 (8 * p + j) = nI b ∧ S.2 (43 + p) j = M.2 11 (8 * p + j) ∧ -1000000000000 ≤ (S.2 (43 + p) j).toInt ∧ (S.2 (43 + p) j).toInt ≤ 1000000000000
def jR (S M : sSt) (nb nr : Nat) : Prop := ∀ r, 1 ≤ r → r ≤ nr → (∃ b s f t, b < nb ∧ s < 2 ∧ f < 6 ∧ t < 6 ∧ S.1 26 r = nI b ∧ S.1 27 r = nI s ∧ S.1 28 r = nI f ∧ S.1 29 r = nI t ∧ M.1 12 r = nI b ∧ M.1 13 r = nI s ∧ M.1 14 r = nI f ∧ M.1 15 r = nI t) ∧
  S.1 30 r = M.1 17 r ∧ S.1 31 r = M.1 18 r ∧ S.2 32 r = M.2 16 r ∧ 1 ≤ (S.2 32 r).toInt ∧ ((M.1 19 r = 0 ∧ (S.1 30 r = nI 1 → S.2 33 r = 0) ∧ (¬ S.1 30 r = nI 1 → S.2 33 r = S.2 32 r)) ∨ (¬ M.1 19 r = 0 ∧ S.1 30 r = nI 2 ∧ S.2 33 r = 0))
def jZ (S : sSt) (nr : Nat) : Prop := ∀ r, nr < r → r ≤ 200 → S.1 30 r = 0 ∧ S.1 31 r = 0
def jC (S : sSt) (nb nr : Nat) (ex : Nat → Int) : Prop := (∀ b s p, b < nb → s < 2 → p < 6 → 0 ≤ shI S b s p) ∧ (∀ r, 1 ≤ r → r ≤ nr → 0 ≤ (S.2 33 r).toInt) ∧ ∀ b, b < nb → 0 ≤ ex b ∧ totI S nr b + ex b ≤ 2000000000000
def jK (S M : sSt) (nb nr : Nat) : Prop := nb ≤ 6 ∧ nr ≤ 200 ∧ S.1 2 0 = nI nb ∧ M.1 0 1 = nI nb ∧ S.1 3 0 = nI nr ∧ M.1 0 13 = nI nr
/-- all of it; ex b: what is on its way between cells of bound b -/
def JJ (S M : sSt) (nb nr : Nat) (ex : Nat → Int) : Prop := jK S M nb nr ∧ jN S M ∧ jP S M ∧ jT S M ∧ jB S M ∧ jS S M ∧ jQ S M nb ∧ jR S M nb nr ∧ jZ S nr ∧ jC S nb nr ex
theorem jP_c {S M S' M' : sSt} (h : jP S M) (a1 : S'.2 6 = S.2 6) (a2 : S'.1 7 = S.1 7) (a3 : S'.1 8 = S.1 8) (b1 : M'.2 5 = M.2 5) (b2 : M'.1 7 = M.1 7) (b3 : M'.1 6 = M.1 6) : jP S' M' := fun p hp => by
  rw [a1, a2, a3, b1, b2, b3]; exact h p hp
theorem jT_c {S M S' M' : sSt} (h : jT S M) (a1 : S'.1 9 = S.1 9) (b1 : M'.1 8 = M.1 8) : jT S' M' := fun e he => by
  rw [a1, b1]; exact h e he
theorem jB_c {S M S' M' : sSt} (h : jB S M) (a1 : S'.2 10 = S.2 10) (a2 : S'.2 11 = S.2 11) (a3 : S'.2 12 = S.2 12) (b1 : M'.2 1 = M.2 1) (b2 : M'.2 2 = M.2 2) (b3 : M'.2 3 = M.2 3) : jB S' M' := fun b hb => by
  rw [a1, a2, a3, b1, b2, b3]; exact h b hb
theorem jQ_c {S M S' M' : sSt} {nb : Nat} (h : jQ S M nb) (a1 : S'.1 34 = S.1 34) (a2 : S'.1 8 = S.1 8) (a3 : ∀ p, p < 6 → S'.1 (36 + p) = S.1 (36 + p)) (a4 : ∀ p, p < 6 → S'.2 (43 + p) = S.2 (43 + p)) (b1 : M'.1 9 = M.1 9) (b2 : M'.1 10 = M.1 10) (b3 : M'.2 11 = M.2 11) : jQ S' M' nb := fun p hp => by
  rw [a1, a2, a3 p hp, a4 p hp, b1, b2, b3]; exact h p hp
theorem jR_c {S M S' M' : sSt} {nb nr : Nat} (h : jR S M nb nr) (a : ∀ q, 26 ≤ q → q ≤ 31 → S'.1 q = S.1 q) (a2 : S'.2 32 = S.2 32) (a3 : S'.2 33 = S.2 33) (b : ∀ q, 12 ≤ q → q ≤ 19 → M'.1 q = M.1 q) (b2 : M'.2 16 = M.2 16) : jR S' M' nb nr := fun r h1 h2 => by
  rw [a 26 (by omega) (by omega), a 27 (by omega) (by omega), a 28 (by omega) (by omega), a 29 (by omega) (by omega), a 30 (by omega) (by omega), a 31 (by omega) (by omega), a2, a3, b 12 (by omega) (by omega), b 13 (by omega) (by omega), b 14 (by omega) (by omega), b 15 (by omega) (by omega), b 17 (by omega) (by omega), b 18 (by omega) (by omega), b 19 (by omega) (by omega), b2]
  exact h r h1 h2
theorem jZ_c {S S' : sSt} {nr : Nat} (h : jZ S nr) (a1 : S'.1 30 = S.1 30) (a2 : S'.1 31 = S.1 31) : jZ S' nr := fun r h1 h2 => by
  rw [a1, a2]; exact h r h1 h2
theorem jK_c {S M S' M' : sSt} {nb nr : Nat} (h : jK S M nb nr) (a1 : S'.1 2 0 = S.1 2 0) (a2 : S'.1 3 0 = S.1 3 0) (b1 : M'.1 0 1 = M.1 0 1) (b2 : M'.1 0 13 = M.1 0 13) : jK S' M' nb nr := by
  obtain ⟨k1, k2, k3, k4, k5, k6⟩ := h
  exact ⟨k1, k2, by rw [a1]; exact k3, by rw [b1]; exact k4, by rw [a2]; exact k5, by rw [b2]; exact k6⟩
/-- places of shares -/
theorem pl_inj {b s b' s' : Nat} (hs : s < 2) (hs' : s' < 2) : 14 + (b * 2 + s) = 14 + (b' * 2 + s') ↔ b = b' ∧ s = s' := by
  constructor
  · intro h; omega
  · rintro ⟨rfl, rfl⟩; rfl
theorem ix_inj {b s p b' s' p' : Nat} (hs : s < 2) (hs' : s' < 2) (hp : p < 6) (hp' : p' < 6) : 12 * b + 6 * s + p = 12 * b' + 6 * s' + p' ↔ b = b' ∧ s = s' ∧ p = p' := by
  constructor
  · intro h; omega
  · rintro ⟨rfl, rfl, rfl⟩; rfl
/-- one share set to x in both -/
theorem jS_set {S M : sSt} {b s p : Nat} {x : Int64} (h : jS S M) (hb : b < 6) (hs : s < 2) (hp : p < 6) : jS (sL S (14 + (b * 2 + s)) p x) (sL M 4 (12 * b + 6 * s + p) x) := fun b' s' p' hb' hs' hp' => by
  rw [sL_2, sL_2]
  by_cases e : b' = b ∧ s' = s ∧ p' = p
  · obtain ⟨rfl, rfl, rfl⟩ := e
    rw [if_pos ⟨rfl, rfl⟩, if_pos ⟨rfl, rfl⟩]
  · rw [if_neg (fun z => e (by have := (pl_inj hs' hs).mp z.1; exact ⟨this.1, this.2, z.2⟩)), if_neg (fun z => e ((ix_inj hs' hs hp' hp).mp z.2))]
    exact h b' s' p' hb' hs' hp'
theorem shI_set (S : sSt) (b s p b' s' p' : Nat) (x : Int64) (hs : s < 2) (hs' : s' < 2) : shI (sL S (14 + (b * 2 + s)) p x) b' s' p' = if b' = b ∧ s' = s ∧ p' = p then x.toInt else shI S b' s' p' := by
  unfold shI
  rw [sL_2]
  by_cases e : b' = b ∧ s' = s ∧ p' = p
  · obtain ⟨rfl, rfl, rfl⟩ := e
    rw [if_pos ⟨rfl, rfl⟩, if_pos ⟨rfl, rfl, rfl⟩]
  · rw [if_neg (fun z => e (by have := (pl_inj hs' hs).mp z.1; exact ⟨this.1, this.2, z.2⟩)), if_neg e]
theorem hdI_set (S : sSt) (b s p b' : Nat) (x : Int64) (hb : b < 6) (hs : s < 2) : hdI (sL S (14 + (b * 2 + s)) p x) b' = hdI S b' := by
  funext r
  unfold hdI
  rw [sL_1, sL_q (show (33 : Nat) ≠ 14 + (b * 2 + s) by omega)]
theorem totI_set (S : sSt) (nr b s p b' : Nat) (x : Int64) (hb : b < 6) (hs : s < 2) (hp : p < 6) : totI (sL S (14 + (b * 2 + s)) p x) nr b' = totI S nr b' + (if b' = b then x.toInt - shI S b s p else 0) := by
  unfold totI
  rw [hdI_set S b s p b' x hb hs]
  by_cases e : b' = b
  · subst e
    rw [if_pos rfl]
    rcases (show s = 0 ∨ s = 1 by omega) with rfl | rfl
    · have h1 : sN (shI (sL S (14 + (b' * 2 + 1)) p x) b' 0) 6 = sN (shI (sL S (14 + (b' * 2 + 1)) p x) b' 0) 6 := rfl
      have h2 : sN (shI (sL S (14 + (b' * 2 + 0)) p x) b' 1) 6 = sN (shI S b' 1) 6 := sN_congr 6 (fun i _ => by rw [shI_set S b' 0 p b' 1 i x (by omega) (by omega), if_neg (by omega)])
      have h3 := sN_upd (f := shI S b' 0) (g := shI (sL S (14 + (b' * 2 + 0)) p x) b' 0) (k := p) 6 hp (fun i _ hi => by rw [shI_set S b' 0 p b' 0 i x (by omega) (by omega), if_neg (fun z => hi z.2.2)])
      have h4 : shI (sL S (14 + (b' * 2 + 0)) p x) b' 0 p = x.toInt := by rw [shI_set S b' 0 p b' 0 p x (by omega) (by omega), if_pos ⟨rfl, rfl, rfl⟩]
      rw [h2, h3, h4]
      omega
    · have h2 : sN (shI (sL S (14 + (b' * 2 + 1)) p x) b' 0) 6 = sN (shI S b' 0) 6 := sN_congr 6 (fun i _ => by rw [shI_set S b' 1 p b' 0 i x (by omega) (by omega), if_neg (by omega)])
      have h3 := sN_upd (f := shI S b' 1) (g := shI (sL S (14 + (b' * 2 + 1)) p x) b' 1) (k := p) 6 hp (fun i _ hi => by rw [shI_set S b' 1 p b' 1 i x (by omega) (by omega), if_neg (fun z => hi z.2.2)])
      have h4 : shI (sL S (14 + (b' * 2 + 1)) p x) b' 1 p = x.toInt := by rw [shI_set S b' 1 p b' 1 p x (by omega) (by omega), if_pos ⟨rfl, rfl, rfl⟩]
      rw [h2, h3, h4]
      omega
  · rw [if_neg e]
    have h0 : sN (shI (sL S (14 + (b * 2 + s)) p x) b' 0) 6 = sN (shI S b' 0) 6 := sN_congr 6 (fun i _ => by rw [shI_set S b s p b' 0 i x hs (by omega), if_neg (fun z => e z.1)])
    have h1 : sN (shI (sL S (14 + (b * 2 + s)) p x) b' 1) 6 = sN (shI S b' 1) 6 := sN_congr 6 (fun i _ => by rw [shI_set S b s p b' 1 i x hs (by omega), if_neg (fun z => e z.1)])
    rw [h0, h1]
    omega
def exA (ex : Nat → Int) (b : Nat) (v : Int) : Nat → Int := fun b' => if b' = b then ex b' + v else ex b'
/-- a share set, in both: what it lost goes on its way, what it got came from there -/
theorem JJ_set {S M : sSt} {nb nr b s p : Nat} {ex : Nat → Int} {x : Int64} (h : JJ S M nb nr ex) (hb : b < nb) (hs : s < 2) (hp : p < 6) (hx : 0 ≤ x.toInt) (hex : 0 ≤ ex b + (shI S b s p - x.toInt)) : JJ (sL S (14 + (b * 2 + s)) p x) (sL M 4 (12 * b + 6 * s + p) x) nb nr (exA ex b (shI S b s p - x.toInt)) := by
  obtain ⟨k, n, P, T, B, Sh, Q, R, Z, c1, c2, c3⟩ := h
  have hb6 : b < 6 := by have := k.1; omega
  refine ⟨jK_c k rfl rfl rfl rfl, n, jP_c P (sL_q (by omega)) rfl rfl (sL_q (by omega)) rfl rfl, jT_c T rfl rfl, jB_c B (sL_q (by omega)) (sL_q (by omega)) (sL_q (by omega)) (sL_q (by omega)) (sL_q (by omega)) (sL_q (by omega)), jS_set Sh hb6 hs hp,
    jQ_c Q rfl rfl (fun _ _ => rfl) (fun q _ => sL_q (by omega)) rfl rfl (sL_q (by omega)), jR_c R (fun _ _ _ => rfl) (sL_q (by omega)) (sL_q (by omega)) (fun _ _ _ => rfl) (sL_q (by omega)), jZ_c Z rfl rfl, fun b' s' p' hb' hs' hp' => ?_, fun r h1 h2 => ?_, fun b' hb' => ?_⟩
  · rw [shI_set S b s p b' s' p' x hs hs']
    split
    · exact hx
    · exact c1 b' s' p' hb' hs' hp'
  · rw [sL_q (show (33 : Nat) ≠ 14 + (b * 2 + s) by omega)]
    exact c2 r h1 h2
  · have := c3 b' hb'
    rw [totI_set S nr b s p b' x hb6 hs hp, exA]
    by_cases e : b' = b
    · subst e
      rw [if_pos rfl, if_pos rfl]
      omega
    · rw [if_neg e, if_neg e]
      omega
theorem JJ_ex {S M : sSt} {nb nr : Nat} {ex ex' : Nat → Int} (h : JJ S M nb nr ex) (e : ∀ b, b < nb → ex' b = ex b) : JJ S M nb nr ex' := by
  obtain ⟨k, n, P, T, B, Sh, Q, R, Z, c1, c2, c3⟩ := h
  exact ⟨k, n, P, T, B, Sh, Q, R, Z, c1, c2, fun b hb => by rw [e b hb]; exact c3 b hb⟩
/-- every share is within the bound's room -/
theorem JJ_sh {S M : sSt} {nb nr b s p : Nat} {ex : Nat → Int} (h : JJ S M nb nr ex) (hb : b < nb) (hs : s < 2) (hp : p < 6) : 0 ≤ shI S b s p ∧ shI S b s p + ex b ≤ 2000000000000 ∧ 0 ≤ ex b := by
  obtain ⟨k, n, P, T, B, Sh, Q, R, Z, c1, c2, c3⟩ := h
  have h3 := c3 b hb
  have a0 := sN_nn (f := shI S b 0) 6 (fun i hi => c1 b 0 i hb (by omega) hi)
  have a1 := sN_nn (f := shI S b 1) 6 (fun i hi => c1 b 1 i hb (by omega) hi)
  have a2 := sN_nn (f := hdI S b) nr (fun i hi => by
    unfold hdI
    split
    · exact c2 (i + 1) (by omega) (by omega)
    · exact Int.le_refl 0)
  refine ⟨c1 b s p hb hs hp, ?_, h3.1⟩
  unfold totI at h3
  rcases (show s = 0 ∨ s = 1 by omega) with rfl | rfl
  · have := sN_one (f := shI S b 0) (k := p) 6 hp (fun i hi => c1 b 0 i hb (by omega) hi)
    omega
  · have := sN_one (f := shI S b 1) (k := p) 6 hp (fun i hi => c1 b 1 i hb (by omega) hi)
    omega
