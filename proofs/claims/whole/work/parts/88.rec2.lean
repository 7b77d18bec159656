/-! recovering to its end, in both -/
def ew (S : sSt) : Prop := ∀ p, p < 6 → S.2 49 p = if S.1 8 p = 0 then 1 else 0
theorem ew_of {S T : sSt} (h : ew S) (e1 : T.2 49 = S.2 49) (e2 : T.1 8 = S.1 8) : ew T := fun p hp => by rw [e1, e2]; exact h p hp
theorem JJ_rec1 {S M : sSt} {nb nr b s e : Nat} (h : JJ S M nb nr (fun _ => 0)) (hb : b < nb) (hs : s < 2) (he : e < 6) (hw : ew S) (hp : ∃ p, p < 6 ∧ S.1 8 p = 0) :
    JJ (rec1 S e nr b s) (mrec1 M e nr b s) nb nr (fun _ => 0) ∧ mspG (mcb0 M e nr b s).1 (mcb0 M e nr b s).2 true ∧ (rec1 S e nr b s).2 49 = S.2 49 ∧ (rec1 S e nr b s).1 8 = S.1 8 := by
  have nb6 := h.1.1
  have q := JJ_sh h hb hs he
  have eS := h.2.2.2.2.2.1 b s e (by omega) hs he
  have x0 : S.2 (14 + (b * 2 + s)) e + -S.2 (14 + (b * 2 + s)) e = 0 := by
    apply i_eq
    unfold shI at q
    have en : (-S.2 (14 + (b * 2 + s)) e).toInt = -(S.2 (14 + (b * 2 + s)) e).toInt := i_neg (by omega)
    rw [i_add (by rw [en]; omega) (by rw [en]; omega), en, i_0]
    omega
  have ea : addSh S (b * 2 + s) e (-S.2 (14 + (b * 2 + s)) e) = sL S (14 + (b * 2 + s)) e 0 := by rw [addSh, x0]
  have J1 := JJ_set (x := 0) h hb hs he (by rw [i_0]; omega) (by rw [i_0]; omega)
  obtain ⟨J2, e2, e3⟩ := JJ_cbk (s := s) (e := e) (r0 := M.2 4 (12 * b + 6 * s + e)) J1 hb nr (Nat.le_refl nr)
  have hm0 : mcb0 M e nr b s = mcbk (sL M 4 (12 * b + 6 * s + e) 0) (M.2 4 (12 * b + 6 * s + e)) e b s nr := rfl
  -- the class's and the reference's states behind the rows
  generalize hC : cbk (sL S (14 + (b * 2 + s)) e 0) b s e nr = C at J2 e2 e3
  have hD : mcbk (sL M 4 (12 * b + 6 * s + e) 0) (M.2 4 (12 * b + 6 * s + e)) e b s nr = mcb0 M e nr b s := rfl
  rw [hD] at J2 e2
  generalize hDD : mcb0 M e nr b s = D at J2 e2 ⊢
  have hr : rec1 S e nr b s = rcvP b s (splF C.1 (S.2 (14 + (b * 2 + s)) e + C.2)) 6 := by rw [rec1, ea, hC]
  have hq := JJ_sh J2 hb (show 0 < 2 by omega) (show 0 < 6 by omega)
  have hexb : exA (exA (fun _ => 0) b (shI S b s e - (0 : Int64).toInt)) b C.2.toInt b = shI S b s e + C.2.toInt := by
    unfold exA
    rw [if_pos rfl, if_pos rfl, i_0]
    dsimp only
    omega
  rw [hexb] at hq
  have room : (S.2 (14 + (b * 2 + s)) e + C.2).toInt = shI S b s e + C.2.toInt := by
    unfold shI at hq q ⊢
    exact i_add (by omega) (by omega)
  have eroom : D.2 = S.2 (14 + (b * 2 + s)) e + C.2 := by rw [e2, eS]
  have c49 : C.1.2 49 = S.2 49 := by rw [← hC, cbk_L _ b s e 49 (by omega), sL_q (by omega)]
  have c8 : C.1.1 8 = S.1 8 := by rw [← hC, cbk_1 _ b s e nr 8 (by omega), sL_1]
  have hP2 := J2.2.2.1
  have hown : ∀ p, p < 6 → C.1.2 49 p = mown D.1 true p := fun p hp6 => by
    rw [mown, mwl_eq hP2 hp6, c49, c8, hw p hp6]
    by_cases z : S.1 8 p = 0
    · rw [if_pos z, decide_eq_true z, if_neg (by decide), if_neg (by decide)]
    · rw [if_neg z, decide_eq_false z, if_pos rfl]
  have w01 : ∀ p, p < 6 → 0 ≤ (C.1.2 49 p).toInt ∧ (C.1.2 49 p).toInt ≤ 1 := fun p hp6 => by
    rw [c49, hw p hp6]
    split
    · rw [i_1]; omega
    · rw [i_0]; omega
  have hsp : spW (C.1.2 49) (S.2 (14 + (b * 2 + s)) e + C.2) := by
    refine ⟨fun p hp6 => ⟨(w01 p hp6).1, by have := (w01 p hp6).2; omega⟩, by rw [room]; omega, by rw [room]; omega, fun p hp6 => ?_⟩
    have h1 := Int.mul_le_mul_of_nonneg_left (w01 p hp6).2 (show 0 ≤ (S.2 (14 + (b * 2 + s)) e + C.2).toInt by rw [room]; omega)
    rw [room] at h1 ⊢
    omega
  have hpos : 0 < sumW C.1 6 := by
    obtain ⟨p, hp6, hp0⟩ := hp
    rw [i_lt, i_0, (sumW_int C.1 hsp.1 6 (by omega)).1]
    have h1 := sN_one (f := fun p => (C.1.2 49 p).toInt) (k := p) 6 hp6 (fun i hi => (w01 i hi).1)
    have h2 : (C.1.2 49 p).toInt = 1 := by rw [c49, hw p hp6, if_pos hp0, i_1]
    omega
  obtain ⟨g1, g2, g3, g4⟩ := split_eq hown hsp hpos
  have J3 : JJ (splF C.1 (S.2 (14 + (b * 2 + s)) e + C.2)) (msplF D.1 D.2 true) nb nr (exA (exA (fun _ => 0) b (shI S b s e - (0 : Int64).toInt)) b C.2.toInt) :=
    JJ_scr J2 (fun q => by rw [splF_1]) (fun q hq => splF_o _ _ q (by omega) (by omega)) (fun q hq => msplF_q _ _ _ q hq) (fun q hq => msplF_o _ _ _ q (by omega) (by omega))
  rw [← eroom] at g1 g2 J3
  obtain ⟨J4, f1, f2, -⟩ := JJ_parts J3 hb hs g2 (by rw [eroom]; exact g3) (by rw [eroom, g4, room, hexb]; omega) 6 (by omega)
  refine ⟨?_, g1, ?_, ?_⟩
  · have hm : mrec1 M e nr b s = mrcP b s (msplF D.1 D.2 true) 6 := by
      rw [mrec1, hDD]
    rw [hr, hm, ← eroom]
    refine JJ_ex J4 (fun b' hb' => ?_)
    rw [eroom, g4, room]
    unfold exA
    by_cases z : b' = b
    · rw [if_pos z, if_pos z, if_pos z, i_0]
      dsimp only
      omega
    · rw [if_neg z, if_neg z, if_neg z]
  · rw [hr, ← eroom, f1 49 (by omega), eroom, splF_o _ _ 49 (by omega) (by omega), c49]
  · rw [hr, ← eroom, f2, splF_1, c8]
theorem JJ_recS {S M : sSt} {nb nr b e : Nat} (h : JJ S M nb nr (fun _ => 0)) (hb : b < nb) (he : e < 6) (hw : ew S) (hp : ∃ p, p < 6 ∧ S.1 8 p = 0) : ∀ n, n ≤ 2 →
    JJ (recS e nr b S n) (mrecS e nr b M n) nb nr (fun _ => 0) ∧ ew (recS e nr b S n) ∧ (recS e nr b S n).1 8 = S.1 8 ∧ ∀ j, j < n → mspG (mcb0 (mrecS e nr b M j) e nr b j).1 (mcb0 (mrecS e nr b M j) e nr b j).2 true
  | 0, _ => ⟨h, hw, rfl, fun j hj => absurd hj (Nat.not_lt_zero j)⟩
  | n + 1, hn => by
    obtain ⟨J, w, e8, g⟩ := JJ_recS h hb he hw hp n (by omega)
    obtain ⟨J1, g1, a1, a2⟩ := JJ_rec1 J hb (show n < 2 by omega) he w (by obtain ⟨p, hp6, hp0⟩ := hp; exact ⟨p, hp6, by rw [e8]; exact hp0⟩)
    rw [recS, mrecS]
    refine ⟨J1, ew_of w a1 a2, a2.trans e8, fun j hj => ?_⟩
    by_cases z : j = n
    · subst z; exact g1
    · exact g j (by omega)
theorem JJ_recB {S M : sSt} {nb nr e : Nat} (h : JJ S M nb nr (fun _ => 0)) (he : e < 6) (hw : ew S) (hp : ∃ p, p < 6 ∧ S.1 8 p = 0) : ∀ n, n ≤ nb →
    JJ (recB e nr S n) (mrecB e nr M n) nb nr (fun _ => 0) ∧ ew (recB e nr S n) ∧ (recB e nr S n).1 8 = S.1 8 ∧ ∀ b s, b < n → s < 2 → mspG (mcb0 (mrecS e nr b (mrecB e nr M b) s) e nr b s).1 (mcb0 (mrecS e nr b (mrecB e nr M b) s) e nr b s).2 true
  | 0, _ => ⟨h, hw, rfl, fun j _ hj => absurd hj (Nat.not_lt_zero j)⟩
  | n + 1, hn => by
    obtain ⟨J, w, e8, g⟩ := JJ_recB h he hw hp n (by omega)
    obtain ⟨J1, w1, a2, g1⟩ := JJ_recS J (show n < nb by omega) he w (by obtain ⟨p, hp6, hp0⟩ := hp; exact ⟨p, hp6, by rw [e8]; exact hp0⟩) 2 (by omega)
    rw [recB, mrecB]
    refine ⟨J1, w1, a2.trans e8, fun b s hb hs => ?_⟩
    by_cases z : b = n
    · subst z; exact g1 s hs
    · exact g b s (by omega) hs
theorem uew_p (S : sSt) : ∀ n, n ≤ 6 → (∀ q, q ≠ 49 → (uew S n).2 q = S.2 q) ∧ ∀ p, p < n → (uew S n).2 49 p = if S.1 8 p = 0 then 1 else 0
  | 0, _ => ⟨fun _ _ => rfl, fun p hp => absurd hp (Nat.not_lt_zero p)⟩
  | n + 1, hn => by
    obtain ⟨h1, h2⟩ := uew_p S n (by omega)
    refine ⟨fun q hq => by rw [uew, sL_q hq, h1 q hq], fun p hp => ?_⟩
    rw [uew, sL_2]
    by_cases e : p = n
    · subst e
      rw [if_pos ⟨rfl, rfl⟩, wl_nI (show p < 6 by omega), uew_1]
      by_cases z : S.1 8 p = 0
      · rw [decide_eq_true z, if_neg (by decide), if_pos z]
      · rw [decide_eq_false z, if_pos rfl, if_neg z]
    · rw [if_neg (fun z => e z.2)]
      exact h2 p (by omega)
/-- a person that isn't well gets another state -/
theorem JJ_state {S M : sSt} {nb nr e : Nat} {ex : Nat → Int} {x : Int32} (h : JJ S M nb nr ex) (he : e < 6) (hx : ¬ x = 0) (hq : S.1 34 e = nI 0) : JJ (sI S 8 e x) (sI M 6 e x) nb nr ex := by
  obtain ⟨k, n, P, T, B, Sh, Q, R, Z, c1, c2, c3⟩ := h
  refine ⟨jK_c k rfl rfl rfl rfl, n, fun p hp => ?_, jT_c T rfl rfl, jB_c B rfl rfl rfl rfl rfl rfl, Sh, fun p hp => ?_, jR_c R (fun q _ _ => sI_q (by omega)) rfl rfl (fun q _ _ => sI_q (by omega)) rfl, jZ_c Z rfl rfl, c1, c2, fun b hb => ?_⟩
  · have hP := P p hp
    rw [sI_2, sI_2, sI_q (show (7 : Nat) ≠ 8 by omega), sI_q (show (7 : Nat) ≠ 6 by omega), sI_1, sI_1]
    refine ⟨hP.1, hP.2.1, ?_, hP.2.2.2⟩
    by_cases z : p = e
    · rw [if_pos ⟨rfl, z⟩, if_pos ⟨rfl, z⟩]
    · rw [if_neg (fun w => z w.2), if_neg (fun w => z w.2)]; exact hP.2.2.1
  · obtain ⟨m, m8, m1, m2, m3, m4⟩ := Q p hp
    refine ⟨m, m8, by rw [sI_q (show (34 : Nat) ≠ 8 by omega)]; exact m1, by rw [sI_q (show (9 : Nat) ≠ 6 by omega)]; exact m2, fun w => ?_, fun j hj => ?_⟩
    · by_cases z : p = e
      · subst z
        rw [hq] at m1
        exact ((nI_eq (by omega) (by omega)).mp m1).symm
      · rw [sI_1, if_neg (fun v => z v.2)] at w
        exact m3 w
    · rw [sI_q (show 36 + p ≠ 8 by omega), sI_q (show (10 : Nat) ≠ 6 by omega), sI_2, sI_2]
      exact m4 j hj
  · have e1 : totI (sI S 8 e x) nr b = totI S nr b := by
      unfold totI
      have e2 : hdI (sI S 8 e x) b = hdI S b := by funext r; unfold hdI; rw [sI_q (show (26 : Nat) ≠ 8 by omega), sI_2]
      rw [e2]
      rfl
    rw [e1]
    exact c3 b hb
theorem JJ_recF {S M : sSt} {nb nr e : Nat} (h : JJ S M nb nr (fun _ => 0)) (he : e < 6) (h8 : ¬ S.1 8 e = 0) (hp : ∃ p, p < 6 ∧ S.1 8 p = 0) : JJ (recF S e nb nr) (mrecF M e nb nr) nb nr (fun _ => 0) ∧ mrecH M e nb nr ∧ (recF S e nb nr).1 8 = (sI S 8 e (nI 2)).1 8 := by
  have hq : S.1 34 e = nI 0 := by
    obtain ⟨m, m8, m1, m2, m3, m4⟩ := h.2.2.2.2.2.2.1 e he
    rw [m1, m3 h8]
  have J0 := JJ_state (x := nI 2) h he (by decide) hq
  have J1 : JJ (uew (sI S 8 e (nI 2)) 6) (sI M 6 e (nI 2)) nb nr (fun _ => 0) := JJ_scr J0 (fun q => by rw [uew_1]) (fun q hq => (uew_p _ 6 (by omega)).1 q (by omega)) (fun _ _ => rfl) (fun _ _ => rfl)
  have w : ew (uew (sI S 8 e (nI 2)) 6) := fun p hp6 => by rw [(uew_p _ 6 (by omega)).2 p hp6, uew_1]
  have hp' : ∃ p, p < 6 ∧ (uew (sI S 8 e (nI 2)) 6).1 8 p = 0 := by
    obtain ⟨p, hp6, hp0⟩ := hp
    refine ⟨p, hp6, ?_⟩
    rw [uew_1, sI_1, if_neg (fun z => h8 (by rw [← z.2]; exact hp0))]
    exact hp0
  obtain ⟨J, -, e8, g⟩ := JJ_recB J1 he w hp' nb (Nat.le_refl nb)
  refine ⟨J, g, ?_⟩
  show (recB e nr (uew (sI S 8 e (nI 2)) 6) nb).1 8 = _
  rw [e8, uew_1]
