/-! lend, ask, deliver, end, vouch -/
theorem madd_2 (M : sSt) (nr b s f t : Nat) (v : Int64) : (madd M nr b s f t v).2 = (sL M 16 (nr + 1) v).2 := rfl
theorem JJ_send {S M : sSt} {nb nr b s f t : Nat} {v : Int64} (h : JJ S M nb nr (fun _ => 0)) (hb : b < nb) (hs : s < 2) (hf : f < 6) (ht : t < 6) (hv : 1 ≤ v.toInt) (hsh : v.toInt ≤ shI S b s f) (hnr : nr < 200) : JJ (ropen (addSh S (b * 2 + s) f (-v)) nr b s f t v) (madS M nr b s f t v) nb (nr + 1) (fun _ => 0) := by
  have nb6 := h.1.1
  have q := JJ_sh h hb hs hf
  have eS := h.2.2.2.2.2.1 b s f (by omega) hs hf
  have ev : (-v).toInt = -v.toInt := i_neg (by omega)
  have x : (S.2 (14 + (b * 2 + s)) f + -v).toInt = shI S b s f - v.toInt := by
    unfold shI at q hsh ⊢
    rw [i_add (by rw [ev]; omega) (by rw [ev]; omega), ev]
    omega
  have J1 := JJ_set (x := S.2 (14 + (b * 2 + s)) f + -v) h hb hs hf (by omega) (by rw [x]; (try dsimp only); omega)
  have hex : v.toInt ≤ exA (fun _ => 0) b (shI S b s f - (S.2 (14 + (b * 2 + s)) f + -v).toInt) b := by
    unfold exA
    rw [if_pos rfl, x]
    dsimp only
    omega
  have J2 := JJ_open J1 hb hs hf ht hv hex hnr
  have em : madS M nr b s f t v = madd (sL M 4 (12 * b + 6 * s + f) (S.2 (14 + (b * 2 + s)) f + -v)) nr b s f t v := by
    have e4 : (madd M nr b s f t v).2 4 = M.2 4 := by
      show (sL _ 16 (nr + 1) v).2 4 = _
      rw [sL_q (by omega)]; rfl
    rw [madS, e4, ← eS, ← i_addneg]
    refine Prod.ext rfl ?_
    funext q i
    rw [sL_2, madd_2, madd_2, sL_2, sL_2, sL_2]
    by_cases c1 : q = 4 ∧ i = 12 * b + 6 * s + f
    · rw [if_pos c1, if_neg (by omega), if_pos c1]
    · rw [if_neg c1, if_neg c1]
  rw [em]
  refine JJ_ex J2 (fun b' _ => ?_)
  unfold exA
  by_cases z : b' = b
  · rw [if_pos z, if_pos z, x]
    dsimp only
    omega
  · rw [if_neg z, if_neg z]
theorem bl_6 (x1 x2 x3 x4 x5 x6 : Bool) : ((x1 && (x2 && (x4 && x6))) && (x3 && x5)) = (x1 && (x2 && (x3 && (x4 && (x5 && x6))))) := by
  cases x1 <;> cases x2 <;> cases x3 <;> cases x4 <;> cases x5 <;> cases x6 <;> rfl
theorem v_1 (v : Int64) : (!decide (v < 1)) = decide (1 ≤ v) := by
  by_cases z : 1 ≤ v
  · rw [decide_eq_true z, decide_eq_false (fun q => by rw [i_lt] at q; rw [i_le] at z; omega)]; rfl
  · rw [decide_eq_false z, decide_eq_true (by rw [i_le] at z; rw [i_lt]; omega)]; rfl
theorem ropen_8 (S : sSt) (nr b s f t : Nat) (v : Int64) : (ropen S nr b s f t v).1 8 = S.1 8 := by
  rw [ropen, sL_1, sL_1, sI_q (by omega), sI_q (by omega), sI_q (by omega), sI_q (by omega), sI_q (by omega)]
theorem sim_lend {S M : sSt} {nb nr : Nat} (h : JJ S M nb nr (fun _ => 0)) (bb sd fr to : Int32) (vv : Int64) : (ldF S nr bb sd fr to vv).1 = (mldF M nr bb sd fr to vv).1 ∧ (∃ nr', JJ (ldF S nr bb sd fr to vv).2 (mldF M nr bb sd fr to vv).2 nb nr' (fun _ => 0)) ∧ (ldF S nr bb sd fr to vv).2.1 8 = S.1 8 := by
  have hJ := h
  obtain ⟨K, n, P, T, B, Sh, Q, R, Z, C⟩ := h
  have nb6 := K.1
  have r200 := K.2.1
  have eg : (caf S bb sd to vv && (wl S fr && !decide (fr = to))) = mldG M bb sd fr to vv := by
    rw [caf, mldG, bd_w K bb, sd_w sd, wl_w P to, wl_w P fr, v_1, bl_6]
  rw [ldF, mldF, ← eg]
  by_cases z : (caf S bb sd to vv && (wl S fr && !decide (fr = to))) = true
  · rw [if_pos z, if_pos z]
    rw [Bool.and_eq_true, Bool.and_eq_true] at z
    obtain ⟨b, s, t, hb, hs, ht, e1, e2, e3⟩ := caf_n K.2.2.1 K.1 z.1
    obtain ⟨f, hf, e4⟩ := wl_n z.2.1
    have hv := z.1
    rw [caf, Bool.and_eq_true, Bool.and_eq_true, Bool.and_eq_true, v_1, decide_eq_true_iff, i_le, i_1] at hv
    subst e1; subst e2; subst e3; subst e4
    rw [nI_clamp (show b < 2 ^ 31 by omega), nI_clamp (show s < 2 ^ 31 by omega), nI_clamp (show f < 2 ^ 31 by omega), nI_clamp (show t < 2 ^ 31 by omega), mldR, ← Sh b s f (by omega) hs hf]
    by_cases c : vv ≤ S.2 (14 + (b * 2 + s)) f
    · have c' : ¬ S.2 (14 + (b * 2 + s)) f < vv := fun q => by rw [i_lt] at q; rw [i_le] at c; omega
      rw [if_pos c, if_neg c', sdR, sendS]
      by_cases c2 : nr < 200
      · rw [if_pos c2, if_pos c2, if_neg (show ¬ nr = 200 by omega)]
        exact ⟨rfl, ⟨nr + 1, JJ_send hJ hb hs hf ht hv.2.2.2 (by unfold shI; rw [i_le] at c; exact c) c2⟩, by rw [ropen_8]; rfl⟩
      · rw [if_neg c2, if_neg c2, if_pos (show nr = 200 by omega)]
        exact ⟨rfl, ⟨nr, hJ⟩, rfl⟩
    · have c' : S.2 (14 + (b * 2 + s)) f < vv := by rw [i_le] at c; rw [i_lt]; omega
      rw [if_neg c, if_pos c']
      exact ⟨rfl, ⟨nr, hJ⟩, rfl⟩
  · rw [if_neg z, if_neg z]
    exact ⟨rfl, ⟨nr, hJ⟩, rfl⟩
/-- who has most, in both -/
theorem rich_eq {S M : sSt} {nb nr b s p : Nat} {ex : Nat → Int} (h : JJ S M nb nr ex) (hb : b < nb) (hs : s < 2) : ∀ n, n ≤ 6 → (mrich M b s p n = (-1) ∧ rich S (b * 2 + s) p n = ((-1), 0)) ∨ ∃ q, q < n ∧ mrich M b s p n = nI q ∧ ((S.2 (14 + (b * 2 + s)) q = 0 ∧ rich S (b * 2 + s) p n = ((-1), 0)) ∨ (0 < (S.2 (14 + (b * 2 + s)) q).toInt ∧ rich S (b * 2 + s) p n = (nI q, S.2 (14 + (b * 2 + s)) q)))
  | 0, _ => Or.inl ⟨rfl, rfl⟩
  | n + 1, hn => by
    have nb6 := h.1.1
    have ih := rich_eq (p := p) h hb hs n (by omega)
    have up : ((mrich M b s p n = (-1) ∧ rich S (b * 2 + s) p n = ((-1), 0)) ∨ ∃ q, q < n + 1 ∧ mrich M b s p n = nI q ∧ ((S.2 (14 + (b * 2 + s)) q = 0 ∧ rich S (b * 2 + s) p n = ((-1), 0)) ∨ (0 < (S.2 (14 + (b * 2 + s)) q).toInt ∧ rich S (b * 2 + s) p n = (nI q, S.2 (14 + (b * 2 + s)) q)))) := by
      rcases ih with w | ⟨q, hq, w⟩
      · exact Or.inl w
      · exact Or.inr ⟨q, by omega, w⟩
    rw [mrich, rich, ← wl_w h.2.2.1 (nI n)]
    by_cases c1 : n = p
    · rw [if_pos c1, if_pos c1]; exact up
    · rw [if_neg c1, if_neg c1]
      by_cases c2 : wl S (nI n) = false
      · rw [if_pos c2, if_pos c2]; exact up
      · rw [if_neg c2, if_neg c2]
        have sn := (JJ_sh h hb hs (show n < 6 by omega)).1
        unfold shI at sn
        rcases ih with ⟨w1, w2⟩ | ⟨q, hq, w1, w2⟩
        · rw [w1, w2, if_pos rfl]
          by_cases c3 : S.2 (14 + (b * 2 + s)) n ≤ 0
          · right
            refine ⟨n, by omega, rfl, Or.inl ⟨i_eq (by rw [i_le, i_0] at c3; rw [i_0]; omega), ?_⟩⟩
            show (if S.2 (14 + (b * 2 + s)) n ≤ 0 then _ else _) = _
            rw [if_pos c3]
          · right
            refine ⟨n, by omega, rfl, Or.inr ⟨by rw [i_le, i_0] at c3; omega, ?_⟩⟩
            show (if S.2 (14 + (b * 2 + s)) n ≤ 0 then _ else _) = _
            rw [if_neg c3]
        · have hne : ¬ nI q = (-1) := fun z => by
            have := congrArg Int32.toInt z
            rw [nI_toInt (by omega)] at this
            have e1 : (-1 : Int32).toInt = -1 := by decide
            rw [e1] at this
            omega
          rw [w1, if_neg hne, nI_clamp (by omega), ← h.2.2.2.2.2.1 b s n (by omega) hs (by omega), ← h.2.2.2.2.2.1 b s q (by omega) hs (by omega)]
          rcases w2 with ⟨g1, g2⟩ | ⟨g1, g2⟩
          · rw [g2, g1]
            by_cases c3 : S.2 (14 + (b * 2 + s)) n ≤ 0
            · rw [if_pos c3]
              right
              refine ⟨q, by omega, rfl, Or.inl ⟨g1, ?_⟩⟩
              show (if S.2 (14 + (b * 2 + s)) n ≤ 0 then _ else _) = _
              rw [if_pos c3]
            · rw [if_neg c3]
              right
              refine ⟨n, by omega, rfl, Or.inr ⟨by rw [i_le, i_0] at c3; omega, ?_⟩⟩
              show (if S.2 (14 + (b * 2 + s)) n ≤ 0 then _ else _) = _
              rw [if_neg c3]
          · rw [g2]
            by_cases c3 : S.2 (14 + (b * 2 + s)) n ≤ S.2 (14 + (b * 2 + s)) q
            · rw [if_pos c3]
              right
              refine ⟨q, by omega, rfl, Or.inr ⟨g1, ?_⟩⟩
              show (if S.2 (14 + (b * 2 + s)) n ≤ S.2 (14 + (b * 2 + s)) q then _ else _) = _
              rw [if_pos c3]
            · rw [if_neg c3]
              right
              refine ⟨n, by omega, rfl, Or.inr ⟨by rw [i_le] at c3; omega, ?_⟩⟩
              show (if S.2 (14 + (b * 2 + s)) n ≤ S.2 (14 + (b * 2 + s)) q then _ else _) = _
              rw [if_neg c3]
theorem sim_ask {S M : sSt} {nb nr : Nat} (h : JJ S M nb nr (fun _ => 0)) (bb sd pp : Int32) (vv : Int64) : (akF S nr bb sd pp vv).1 = (makF M nr bb sd pp vv).1 ∧ (∃ nr', JJ (akF S nr bb sd pp vv).2 (makF M nr bb sd pp vv).2 nb nr' (fun _ => 0)) ∧ (akF S nr bb sd pp vv).2.1 8 = S.1 8 := by
  have hJ := h
  obtain ⟨K, n, P, T, B, Sh, Q, R, Z, C⟩ := h
  have nb6 := K.1
  have r200 := K.2.1
  have eg : caf S bb sd pp vv = makG M bb sd pp vv := by rw [caf, makG, bd_w K bb, sd_w sd, wl_w P pp, v_1]
  rw [akF, makF, ← eg]
  by_cases z : caf S bb sd pp vv = true
  · rw [if_pos z, if_pos z]
    obtain ⟨b, s, p, hb, hs, hp, e1, e2, e3⟩ := caf_n K.2.2.1 K.1 z
    rw [caf, Bool.and_eq_true, Bool.and_eq_true, Bool.and_eq_true, v_1, decide_eq_true_iff, i_le, i_1] at z
    subst e1; subst e2; subst e3
    rw [nI_clamp (show b < 2 ^ 31 by omega), nI_clamp (show s < 2 ^ 31 by omega), nI_clamp (show p < 2 ^ 31 by omega), akR, makR]
    rcases rich_eq (p := p) hJ hb hs 6 (by omega) with ⟨w1, w2⟩ | ⟨q, hq, w1, w2⟩
    · rw [w1, w2, if_pos rfl, if_pos rfl]
      exact ⟨rfl, ⟨nr, hJ⟩, rfl⟩
    · have hne : ¬ nI q = (-1) := fun z => by
        have := congrArg Int32.toInt z
        rw [nI_toInt (by omega)] at this
        have e1 : (-1 : Int32).toInt = -1 := by decide
        rw [e1] at this
        omega
      rw [w1, if_neg hne, nI_clamp (by omega), ← Sh b s q (by omega) hs hq]
      rcases w2 with ⟨g1, g2⟩ | ⟨g1, g2⟩
      · rw [g2, if_pos rfl, if_pos g1]
        exact ⟨rfl, ⟨nr, hJ⟩, rfl⟩
      · have gne : ¬ S.2 (14 + (b * 2 + s)) q = 0 := fun w => by rw [w, i_0] at g1; omega
        rw [g2, if_neg hne, if_neg gne, nI_clamp (by omega), sdR, sendS]
        have emin : (if S.2 (14 + (b * 2 + s)) q < vv then S.2 (14 + (b * 2 + s)) q else vv) = (if vv ≤ S.2 (14 + (b * 2 + s)) q then vv else S.2 (14 + (b * 2 + s)) q) := by
          by_cases y : vv ≤ S.2 (14 + (b * 2 + s)) q
          · rw [if_pos y, if_neg (fun w => by rw [i_lt] at w; rw [i_le] at y; omega)]
          · rw [if_neg y, if_pos (by rw [i_le] at y; rw [i_lt]; omega)]
        rw [emin]
        by_cases c2 : nr < 200
        · rw [if_pos c2, if_pos c2, if_neg (show ¬ nr = 200 by omega)]
          refine ⟨rfl, ⟨nr + 1, JJ_send hJ hb hs hq hp ?_ ?_ c2⟩, by rw [ropen_8]; rfl⟩
          · split
            · exact z.2.2.2
            · omega
          · unfold shI
            by_cases y : vv ≤ S.2 (14 + (b * 2 + s)) q
            · rw [if_pos y]; rw [i_le] at y; exact y
            · rw [if_neg y]; exact Int.le_refl _
        · rw [if_neg c2, if_neg c2, if_pos (show nr = 200 by omega)]
          exact ⟨rfl, ⟨nr, hJ⟩, rfl⟩
  · rw [if_neg z, if_neg z]
    exact ⟨rfl, ⟨nr, hJ⟩, rfl⟩
