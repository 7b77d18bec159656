/-! moves and queues, in both -/
theorem i_addneg (a v : Int64) : a + -v = a - v := by rw [Int64.sub_eq_add_neg]
theorem i_subneg (a v : Int64) : a - -v = a + v := by rw [Int64.sub_eq_add_neg, Int64.neg_neg]
theorem JJ_agree {S M S' M' : sSt} {nb nr : Nat} {ex : Nat → Int} (h : JJ S M nb nr ex) (a1 : ∀ q, q ≠ 0 → S'.1 q = S.1 q) (a2 : S'.2 = S.2) (b1 : ∀ q, q ≠ 0 → M'.1 q = M.1 q) (b2 : M'.2 = M.2) (b3 : M'.1 0 1 = M.1 0 1) (b4 : M'.1 0 13 = M.1 0 13) (hn : jN S' M') : JJ S' M' nb nr ex := by
  obtain ⟨k, n, P, T, B, Sh, Q, R, Z, c1, c2, c3⟩ := h
  refine ⟨jK_c k (by rw [a1 2 (by omega)]) (by rw [a1 3 (by omega)]) b3 b4, hn, jP_c P (by rw [a2]) (a1 7 (by omega)) (a1 8 (by omega)) (by rw [b2]) (b1 7 (by omega)) (b1 6 (by omega)), jT_c T (a1 9 (by omega)) (b1 8 (by omega)), jB_c B (by rw [a2]) (by rw [a2]) (by rw [a2]) (by rw [b2]) (by rw [b2]) (by rw [b2]), fun b s p hb hs hp => by rw [a2, b2]; exact Sh b s p hb hs hp,
    jQ_c Q (a1 34 (by omega)) (a1 8 (by omega)) (fun p _ => a1 (36 + p) (by omega)) (fun p _ => by rw [a2]) (b1 9 (by omega)) (b1 10 (by omega)) (by rw [b2]), jR_c R (fun q _ _ => a1 q (by omega)) (by rw [a2]) (by rw [a2]) (fun q _ _ => b1 q (by omega)) (by rw [b2]), jZ_c Z (a1 30 (by omega)) (a1 31 (by omega)), fun b s p hb hs hp => by unfold shI; rw [a2]; exact c1 b s p hb hs hp, fun r h1 h2 => by rw [a2]; exact c2 r h1 h2, fun b hb => ?_⟩
  have e : totI S' nr b = totI S nr b := by
    unfold totI
    have e1 : ∀ s, shI S' b s = shI S b s := fun s => by funext p; unfold shI; rw [a2]
    have e2 : hdI S' b = hdI S b := by funext r; unfold hdI; rw [a2, a1 26 (by omega)]
    rw [e1, e1, e2]
  rw [e]
  exact c3 b hb
theorem JJ_val {S M : sSt} {nb nr b : Nat} {ex : Nat → Int} {x : Int64} (h : JJ S M nb nr ex) (hb : b < 6) : JJ (sL S 11 b x) (sL M 2 b x) nb nr ex := by
  obtain ⟨k, n, P, T, B, Sh, Q, R, Z, c1, c2, c3⟩ := h
  refine ⟨jK_c k rfl rfl rfl rfl, n, jP_c P (sL_q (by omega)) rfl rfl (sL_q (by omega)) rfl rfl, jT_c T rfl rfl, fun b' hb' => ?_, fun b' s p hb' hs hp => by rw [sL_q (show 14 + (b' * 2 + s) ≠ 11 by omega), sL_q (show (4 : Nat) ≠ 2 by omega)]; exact Sh b' s p hb' hs hp,
    jQ_c Q rfl rfl (fun _ _ => rfl) (fun q _ => sL_q (by omega)) rfl rfl (sL_q (by omega)), jR_c R (fun _ _ _ => rfl) (sL_q (by omega)) (sL_q (by omega)) (fun _ _ _ => rfl) (sL_q (by omega)), jZ_c Z rfl rfl, fun b' s p hb' hs hp => by unfold shI; rw [sL_q (show 14 + (b' * 2 + s) ≠ 11 by omega)]; exact c1 b' s p hb' hs hp, fun r h1 h2 => by rw [sL_q (show (33 : Nat) ≠ 11 by omega)]; exact c2 r h1 h2, fun b' hb' => ?_⟩
  · have hB := B b' hb'
    rw [sL_q (show (10 : Nat) ≠ 11 by omega), sL_q (show (12 : Nat) ≠ 11 by omega), sL_q (show (1 : Nat) ≠ 2 by omega), sL_q (show (3 : Nat) ≠ 2 by omega), sL_2, sL_2]
    refine ⟨hB.1, ?_, hB.2.2⟩
    by_cases e : b' = b
    · rw [if_pos ⟨rfl, e⟩, if_pos ⟨rfl, e⟩]
    · rw [if_neg (fun z => e z.2), if_neg (fun z => e z.2)]; exact hB.2.1
  · have e : totI (sL S 11 b x) nr b' = totI S nr b' := by
      unfold totI
      have e1 : ∀ s, shI (sL S 11 b x) b' s = shI S b' s := fun s => by funext p; unfold shI; rw [sL_q (show 14 + (b' * 2 + s) ≠ 11 by omega)]
      have e2 : hdI (sL S 11 b x) b' = hdI S b' := by funext r; unfold hdI; rw [sL_q (show (33 : Nat) ≠ 11 by omega), sL_1]
      rw [e1, e1, e2]
    rw [e]
    exact c3 b' hb'
theorem sL_comm {S : sSt} {k k' j j' : Nat} {x x' : Int64} (h : k ≠ k' ∨ j ≠ j') : sL (sL S k j x) k' j' x' = sL (sL S k' j' x') k j x := by
  have e : ∀ q i, (sL (sL S k j x) k' j' x').2 q i = (sL (sL S k' j' x') k j x).2 q i := fun q i => by
    rw [sL_2, sL_2, sL_2, sL_2]
    by_cases c1 : q = k' ∧ i = j'
    · by_cases c2 : q = k ∧ i = j
      · exact absurd h (by omega)
      · rw [if_pos c1, if_neg c2, if_pos c1]
    · rw [if_neg c1, if_neg c1]
  exact Prod.ext rfl (by funext q i; exact e q i)
/-- shares equal: the test is the same -/
theorem mv_ok {S M : sSt} {nb nr b p : Nat} {ex : Nat → Int} {v : Int64} (h : JJ S M nb nr ex) (hb : b < nb) (hp : p < 6) : mvOk S b p v = mmvOk M b p v := by
  obtain ⟨k, n, P, T, B, Sh, Q, R, Z, C⟩ := h
  have hb6 : b < 6 := by have := k.1; omega
  have e0 := Sh b 0 p hb6 (by omega) hp
  have e1 := Sh b 1 p hb6 (by omega) hp
  rw [mvOk, mmvOk, ← e0, ← e1]
  by_cases c : v ≤ 0
  · have c2 : ¬ 0 < v := fun z => by rw [i_lt, i_0] at z; rw [i_le, i_0] at c; omega
    rw [if_neg c2, if_pos c, if_pos c]
  · have c2 : 0 < v := by rw [i_le, i_0] at c; rw [i_lt, i_0]; omega
    rw [if_pos c2, if_neg c, if_neg c]
/-- a move in both; the reference counts it at once -/
theorem JJ_mv {S M : sSt} {nb nr b p : Nat} {ex : Nat → Int} {v : Int64} (h : JJ S M nb nr ex) (hb : b < nb) (hp : p < 6) (h1 : -1000000000000 ≤ v.toInt) (h2 : v.toInt ≤ 1000000000000) (ho : mvOk S b p v = true) :
    ∃ Y, JJ (mvS S b p v) Y nb nr ex ∧ mmvS M b p v = sI Y 0 22 (Y.1 0 22 + nI 1) := by
  have hJ := h
  obtain ⟨k, n, P, T, B, Sh, Q, R, Z, C⟩ := h
  have hb6 : b < 6 := by have := k.1; omega
  have e0 := Sh b 0 p hb6 (by omega) hp
  have e1 := Sh b 1 p hb6 (by omega) hp
  have s0 := JJ_sh hJ hb (show 0 < 2 by omega) hp
  have s1 := JJ_sh hJ hb (show 1 < 2 by omega) hp
  unfold shI at s0 s1
  rw [mvOk] at ho
  have ho := of_decide_eq_true ho
  have ev : (-v).toInt = -v.toInt := i_neg (by omega)
  by_cases c : v ≤ 0
  · have c2 : ¬ 0 < v := fun z => by rw [i_lt, i_0] at z; rw [i_le, i_0] at c; omega
    rw [if_neg c2, if_pos c, i_le, ev] at ho
    rw [i_le, i_0] at c
    -- UP falls, DOWN rises
    have x1 : (S.2 (14 + (b * 2 + 1)) p + v).toInt = (S.2 (14 + (b * 2 + 1)) p).toInt + v.toInt := i_add (by omega) (by omega)
    have x0 : (S.2 (14 + (b * 2 + 0)) p + -v).toInt = (S.2 (14 + (b * 2 + 0)) p).toInt + -v.toInt := by rw [i_add (by rw [ev]; omega) (by rw [ev]; omega), ev]
    have A1 := JJ_set (x := S.2 (14 + (b * 2 + 1)) p + v) hJ hb (show 1 < 2 by omega) hp (by omega) (by unfold shI; omega)
    have A2 := JJ_set (b := b) (s := 0) (p := p) (x := S.2 (14 + (b * 2 + 0)) p + -v) A1 hb (by omega) hp (by omega) (by rw [shI_set S b 1 p b 0 p _ (by omega) (by omega), if_neg (by omega), exA, if_pos rfl]; unfold shI; omega)
    have A3 := JJ_val (b := b) (x := S.2 11 b - v) A2 hb6
    have em : mvS S b p v = sL (sL (sL S (14 + (b * 2 + 1)) p (S.2 (14 + (b * 2 + 1)) p + v)) (14 + (b * 2 + 0)) p (S.2 (14 + (b * 2 + 0)) p + -v)) 11 b (S.2 11 b - v) := by
      rw [mvS, addSh, addSh, sL_q (show 14 + (b * 2 + 1) ≠ 14 + (b * 2 + 0) by omega), sL_q (show (11 : Nat) ≠ 14 + (b * 2 + 1) by omega), sL_q (show (11 : Nat) ≠ 14 + (b * 2 + 0) by omega), sL_comm (Or.inl (show 14 + (b * 2 + 0) ≠ 14 + (b * 2 + 1) by omega))]
    rw [← em] at A3
    refine ⟨_, JJ_ex A3 (fun b' hb' => ?_), ?_⟩
    · unfold exA
      by_cases q : b' = b
      · subst q
        rw [if_pos rfl, if_pos rfl, shI_set S b' 1 p b' 0 p _ (by omega) (by omega), if_neg (by omega), x1, x0]
        unfold shI
        omega
      · rw [if_neg q, if_neg q]
    · have hc : v ≤ 0 := by rw [i_le, i_0]; exact c
      have hv := (B b hb6).2.1
      rw [mmvS, if_pos hc, mmv2, mmv1, sL_q (show (2 : Nat) ≠ 4 by omega), sL_q (show (2 : Nat) ≠ 4 by omega), sL_2, if_neg (by omega), i_subneg, ← e1, ← hv, show 1 - 1 = 0 from rfl, ← e0]
  · have c2 : 0 < v := by rw [i_le, i_0] at c; rw [i_lt, i_0]; omega
    rw [if_pos c2, if_neg c, i_le] at ho
    have c3 := c
    rw [i_le, i_0] at c
    have x0 : (S.2 (14 + (b * 2 + 0)) p + -v).toInt = (S.2 (14 + (b * 2 + 0)) p).toInt + -v.toInt := by rw [i_add (by rw [ev]; omega) (by rw [ev]; omega), ev]
    have x1 : (S.2 (14 + (b * 2 + 1)) p + v).toInt = (S.2 (14 + (b * 2 + 1)) p).toInt + v.toInt := i_add (by omega) (by omega)
    have A1 := JJ_set (x := S.2 (14 + (b * 2 + 0)) p + -v) hJ hb (show 0 < 2 by omega) hp (by omega) (by unfold shI; omega)
    have A2 := JJ_set (b := b) (s := 1) (p := p) (x := S.2 (14 + (b * 2 + 1)) p + v) A1 hb (by omega) hp (by omega) (by rw [shI_set S b 0 p b 1 p _ (by omega) (by omega), if_neg (by omega), exA, if_pos rfl]; unfold shI; omega)
    have A3 := JJ_val (b := b) (x := S.2 11 b - v) A2 hb6
    have em : mvS S b p v = sL (sL (sL S (14 + (b * 2 + 0)) p (S.2 (14 + (b * 2 + 0)) p + -v)) (14 + (b * 2 + 1)) p (S.2 (14 + (b * 2 + 1)) p + v)) 11 b (S.2 11 b - v) := by
      rw [mvS, addSh, addSh, sL_q (show 14 + (b * 2 + 1) ≠ 14 + (b * 2 + 0) by omega), sL_q (show (11 : Nat) ≠ 14 + (b * 2 + 1) by omega), sL_q (show (11 : Nat) ≠ 14 + (b * 2 + 0) by omega)]
    rw [← em] at A3
    refine ⟨_, JJ_ex A3 (fun b' hb' => ?_), ?_⟩
    · unfold exA
      by_cases q : b' = b
      · subst q
        rw [if_pos rfl, if_pos rfl, shI_set S b' 0 p b' 1 p _ (by omega) (by omega), if_neg (by omega), x1, x0]
        unfold shI
        omega
      · rw [if_neg q, if_neg q]
    · have hv := (B b hb6).2.1
      rw [mmvS, if_neg c3, mmv2, mmv1, sL_q (show (2 : Nat) ≠ 4 by omega), sL_q (show (2 : Nat) ≠ 4 by omega), sL_2, if_neg (by omega), ← i_addneg, ← e0, ← hv, show 1 - 0 = 1 from rfl, ← e1]
