/-! who has told: bits in the class, a table in the reference -/
theorem ny_and (a b : Nat) : nI a &&& nI b = nI (a &&& b) := by
  apply Int32.toBitVec_inj.1
  show BitVec.ofNat 32 a &&& BitVec.ofNat 32 b = BitVec.ofNat 32 (a &&& b)
  apply BitVec.eq_of_getLsbD_eq
  intro i hi
  simp [hi]
theorem ny_or (a b : Nat) : nI a ||| nI b = nI (a ||| b) := by
  apply Int32.toBitVec_inj.1
  show BitVec.ofNat 32 a ||| BitVec.ofNat 32 b = BitVec.ofNat 32 (a ||| b)
  apply BitVec.eq_of_getLsbD_eq
  intro i hi
  simp [hi]
theorem bt1_n : ∀ p, p < 6 → bt1 p = nI (2 ^ p) := by decide +kernel
theorem wm_n (S : sSt) : ∀ n, n ≤ 6 → ∃ m, m < 2 ^ n ∧ wm S n = nI m ∧ ∀ p, p < n → m.testBit p = decide (S.1 8 p = 0)
  | 0, _ => ⟨0, by omega, rfl, fun p hp => absurd hp (Nat.not_lt_zero p)⟩
  | n + 1, hn => by
    obtain ⟨m, h1, h2, h3⟩ := wm_n S n (by omega)
    have hp : 2 ^ (n + 1) = 2 * 2 ^ n := by rw [Nat.pow_succ, Nat.mul_comm]
    by_cases e : S.1 8 n = 0
    · refine ⟨m ||| 2 ^ n, ?_, ?_, fun p hpn => ?_⟩
      · exact Nat.or_lt_two_pow (by omega) (Nat.pow_lt_pow_right (by omega) (by omega))
      · rw [wm, if_pos e, h2, bt1_n n (by omega), ny_or]
      · rw [Nat.testBit_or, Nat.testBit_two_pow]
        by_cases z : p = n
        · subst z
          rw [decide_eq_true e]
          simp
        · rw [h3 p (by omega), decide_eq_false (show ¬ n = p by omega)]
          simp
    · refine ⟨m, by omega, by rw [wm, if_neg e, h2], fun p hpn => ?_⟩
      by_cases z : p = n
      · subst z
        rw [decide_eq_false e]
        exact Nat.testBit_lt_two_pow h1
      · exact h3 p (by omega)
theorem p64 {i : Nat} (h : 6 ≤ i) : 64 ≤ 2 ^ i := by
  have := Nat.pow_le_pow_right (show 0 < 2 by omega) h
  simpa using this
theorem sub_bits {w m : Nat} (hw : w < 64) (hm : m < 64) : w &&& m = m ↔ ∀ p, p < 6 → m.testBit p = true → w.testBit p = true := by
  constructor
  · intro h p hp h1
    have := congrArg (fun z => z.testBit p) h
    simp only [Nat.testBit_and, h1, Bool.and_true] at this
    exact this
  · intro h
    apply Nat.eq_of_testBit_eq
    intro i
    rw [Nat.testBit_and]
    by_cases hi : i < 6
    · by_cases z : m.testBit i = true
      · rw [z, h i hi z]; rfl
      · rw [Bool.not_eq_true] at z
        rw [z]; simp
    · have e : m.testBit i = false := Nat.testBit_lt_two_pow (Nat.lt_of_lt_of_le hm (p64 (by omega)))
      rw [e]; simp
theorem mta_n {S M : sSt} (hP : jP S M) {e w : Nat} (hw : ∀ p, p < 6 → M.1 8 (6 * e + p) = if w.testBit p then nI 1 else nI 0) : ∀ n, n ≤ 6 → (mta M e n = true ↔ ∀ p, p < n → S.1 8 p = 0 → w.testBit p = true)
  | 0, _ => ⟨fun _ p hp => absurd hp (Nat.not_lt_zero p), fun _ => rfl⟩
  | n + 1, hn => by
    have ih := mta_n hP hw n (by omega)
    have n10 : ¬ nI 1 = 0 := by decide
    have n00 : nI 0 = 0 := rfl
    rw [mta, mwl_eq hP (show n < 6 by omega), hw n (by omega), Bool.and_eq_true, ih]
    constructor
    · rintro ⟨h1, h2⟩ p hp h8
      by_cases z : p = n
      · subst z
        rw [decide_eq_true h8] at h2
        by_cases t : w.testBit p = true
        · exact t
        · rw [if_neg t] at h2
          simp [n00] at h2
      · exact h1 p (by omega) h8
    · intro h
      refine ⟨fun p hp h8 => h p (by omega) h8, ?_⟩
      by_cases z : S.1 8 n = 0
      · rw [h n (by omega) z]
        simp [n10]
      · rw [decide_eq_false z]
        rfl
theorem mwc_n {S M : sSt} (hP : jP S M) : ∀ n, n ≤ 6 → ∃ c, c ≤ n ∧ mwc M n = nI c ∧ (c = 0 ↔ ∀ p, p < n → ¬ S.1 8 p = 0)
  | 0, _ => ⟨0, by omega, rfl, fun _ p hp => absurd hp (Nat.not_lt_zero p), fun _ => rfl⟩
  | n + 1, hn => by
    obtain ⟨c, h1, h2, h3⟩ := mwc_n hP n (by omega)
    rw [mwc, mwl_eq hP (show n < 6 by omega), h2]
    by_cases z : S.1 8 n = 0
    · refine ⟨c + 1, by omega, ?_, fun q => absurd q (by omega), fun q => absurd z (q n (by omega))⟩
      rw [decide_eq_true z, if_neg (by decide), nI_add]
    · refine ⟨c, by omega, ?_, fun q p hp => ?_, fun q => h3.mpr (fun p hp => q p (by omega))⟩
      · rw [decide_eq_false z, if_pos rfl, nI_add]
        rfl
      · by_cases y : p = n
        · subst y; exact z
        · exact h3.mp q p (by omega)
/-- class and reference know the same -/
theorem told_eq {S M : sSt} {nb nr e : Nat} {ex : Nat → Int} (h : JJ S M nb nr ex) (he : e < 6) : (!decide (wm S 6 = 0) && decide (S.1 9 e &&& wm S 6 = wm S 6)) = mtl M e ∧ (mtl M e = true → ∃ p, p < 6 ∧ S.1 8 p = 0) := by
  obtain ⟨k, n, P, T, B, Sh, Q, R, Z, C⟩ := h
  obtain ⟨w, w64, w9, wt⟩ := T e he
  obtain ⟨m, m64, m1, m2⟩ := wm_n S 6 (by omega)
  have m64 : m < 64 := m64
  obtain ⟨c, c6, c1, c2⟩ := mwc_n P 6 (by omega)
  have a := mta_n P wt 6 (by omega)
  have hand : w &&& m < 64 := Nat.and_lt_two_pow (n := 6) w m64
  have e1 : decide (S.1 9 e &&& wm S 6 = wm S 6) = mta M e 6 := by
    rw [w9, m1, ny_and]
    by_cases z : mta M e 6 = true
    · rw [z]
      refine decide_eq_true (congrArg nI ((sub_bits w64 m64).mpr (fun p hp hm => ?_)))
      rw [m2 p hp] at hm
      exact a.mp z p hp (of_decide_eq_true hm)
    · rw [Bool.not_eq_true] at z
      rw [z]
      refine decide_eq_false (fun q => ?_)
      have q := (nI_eq (by omega) (by omega)).mp q
      have := a.mpr (fun p hp h8 => (sub_bits w64 m64).mp q p hp (by rw [m2 p hp]; exact decide_eq_true h8))
      rw [z] at this
      exact absurd this (by decide)
  have hm0 : m = 0 ↔ c = 0 := by
    rw [c2]
    constructor
    · intro q p hp h8
      have := m2 p hp
      rw [q, decide_eq_true h8, Nat.zero_testBit] at this
      exact absurd this (by decide)
    · intro q
      apply Nat.eq_of_testBit_eq
      intro i
      rw [Nat.zero_testBit]
      by_cases hi : i < 6
      · rw [m2 i hi, decide_eq_false (q i hi)]
      · exact Nat.testBit_lt_two_pow (Nat.lt_of_lt_of_le m64 (p64 (by omega)))
  have e2 : decide (wm S 6 = 0) = decide (mwc M 6 ≤ 0) := by
    rw [m1, c1]
    by_cases z : c = 0
    · rw [z, hm0.mpr z]
      rfl
    · rw [decide_eq_false (show ¬ nI m = 0 from fun q => z (hm0.mp ((nI_eq (b := 0) (by omega) (by omega)).mp q))), decide_eq_false (show ¬ nI c ≤ 0 from nI_nle (by omega) (by omega))]
  refine ⟨?_, fun q => ?_⟩
  · rw [mtl, e1, e2, Bool.and_comm]
  · rw [mtl, Bool.and_eq_true, Bool.not_eq_true', decide_eq_false_iff_not, c1] at q
    have hc : ¬ c = 0 := fun z => q.2 (by rw [z]; decide)
    rw [c2] at hc
    exact Classical.byContradiction (fun z => hc (fun p hp h8 => z ⟨p, hp, h8⟩))
theorem cr_eq {S M : sSt} {nb nr e : Nat} {ex : Nat → Int} (h : JJ S M nb nr ex) (he : e < 6) : cr S e = (decide (M.1 6 e = nI 1) && mtl M e) := by
  rw [cr, (told_eq h he).1, (h.2.2.1 e he).2.2.1]
theorem tk_eq {S M : sSt} {nb nr e p : Nat} {ex : Nat → Int} (h : JJ S M nb nr ex) (he : e < 6) (hp : p < 6) : tk S e p = decide (M.1 8 (6 * e + p) = 0) ∧ JJ (vcT S p e) (mvcT M p e) nb nr ex := by
  obtain ⟨k, n, P, T, B, Sh, Q, R, Z, c1, c2, c3⟩ := h
  obtain ⟨w, w64, w9, wt⟩ := T e he
  have n10 : ¬ nI 1 = 0 := by decide
  have h2 : 2 ^ p < 64 := Nat.pow_lt_pow_right (a := 2) (n := 6) (by omega) (by omega)
  have hb : w &&& 2 ^ p = 0 ↔ w.testBit p = false := by
    constructor
    · intro q
      have := congrArg (fun z => z.testBit p) q
      simp only [Nat.testBit_and, Nat.testBit_two_pow, Nat.zero_testBit] at this
      simpa using this
    · intro q
      apply Nat.eq_of_testBit_eq
      intro i
      rw [Nat.testBit_and, Nat.testBit_two_pow, Nat.zero_testBit]
      by_cases z : p = i
      · subst z; rw [q]; rfl
      · rw [decide_eq_false z]; simp
  refine ⟨?_, jK_c k rfl rfl rfl rfl, n, jP_c P rfl rfl rfl rfl rfl rfl, fun e' he' => ?_, jB_c B rfl rfl rfl rfl rfl rfl, Sh, jQ_c Q rfl rfl (fun q _ => sI_q (by omega)) (fun _ _ => rfl) rfl rfl rfl, jR_c R (fun q _ _ => sI_q (by omega)) rfl rfl (fun q _ _ => sI_q (by omega)) rfl, jZ_c Z rfl rfl, c1, c2, fun b hb' => ?_⟩
  · rw [tk, w9, bt1_n p hp, ny_and, wt p hp]
    have hlt : w &&& 2 ^ p < 64 := Nat.and_lt_two_pow (n := 6) w h2
    by_cases z : w.testBit p = true
    · rw [if_pos z, decide_eq_false n10, decide_eq_false (fun q => by
        have := hb.mp ((nI_eq (b := 0) (by omega) (by omega)).mp q)
        rw [z] at this
        exact absurd this (by decide))]
    · rw [if_neg z]
      rw [Bool.not_eq_true] at z
      rw [hb.mpr z]
  · obtain ⟨w', w64', w9', wt'⟩ := T e' he'
    by_cases z : e' = e
    · subst z
      have ew' : w' = w := by
        rw [w9] at w9'
        exact ((nI_eq (by omega) (by omega)).mp w9').symm
      subst ew'
      refine ⟨w' ||| 2 ^ p, Nat.or_lt_two_pow (n := 6) w64' h2, ?_, fun q hq => ?_⟩
      · rw [vcT, sI_1, if_pos ⟨rfl, rfl⟩, w9, bt1_n p hp, ny_or]
      · rw [mvcT, sI_1, Nat.testBit_or, Nat.testBit_two_pow]
        by_cases y : q = p
        · subst y
          rw [if_pos ⟨rfl, rfl⟩]
          simp
        · rw [if_neg (by omega), wt' q hq, decide_eq_false (fun v => y v.symm)]
          simp
    · refine ⟨w', w64', ?_, fun q hq => ?_⟩
      · rw [vcT, sI_1, if_neg (fun v => z v.2)]; exact w9'
      · rw [mvcT, sI_1, if_neg (by omega)]; exact wt' q hq
  · have e1 : totI (vcT S p e) nr b = totI S nr b := by
      unfold totI
      have e2 : hdI (vcT S p e) b = hdI S b := by funext r; unfold hdI; rw [vcT, sI_q (show (26 : Nat) ≠ 9 by omega), sI_2]
      rw [e2]
      rfl
    rw [e1]
    exact c3 b hb'
/-- counting bits -/
def pcN (w : Nat) : Nat → Nat
  | 0 => 0
  | n + 1 => pcN w n + (if w.testBit n then 1 else 0)
theorem bc_64 : ∀ w, w < 64 → bcF (nI w) = nI (pcN w 6) := by decide +kernel
theorem mcnt_n {M : sSt} {p w : Nat} (hw : ∀ q, q < 6 → M.1 8 (6 * p + q) = if w.testBit q then nI 1 else nI 0) : ∀ n, n ≤ 6 → mcnt M p n = nI (pcN w n)
  | 0, _ => rfl
  | n + 1, hn => by
    have n10 : ¬ nI 1 = 0 := by decide
    have n00 : nI 0 = 0 := rfl
    rw [mcnt, pcN, mcnt_n hw n (by omega), hw n (by omega)]
    by_cases z : w.testBit n = true
    · rw [if_pos z, if_pos z, if_neg n10, nI_add]
    · rw [if_neg z, if_neg z, if_pos n00, nI_add]
