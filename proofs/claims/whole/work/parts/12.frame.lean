/-! worlds side by side: a call that takes its part of the world and leaves the rest -/
theorem fr_l {w1 w2 : va_W} {i : Nat} {q : Nat × va_E} (h : w1[i]? = some q) : (w1 ++ w2)[i]? = some q := by
  have hi : i < w1.length := (List.getElem?_eq_some_iff.mp h).1
  rw [List.getElem?_append_left hi]; exact h
theorem fr_r {w1 w2 : va_W} {i : Nat} {q : Nat × va_E} (h : w2[i]? = some q) : (w1 ++ w2)[w1.length + i]? = some q := by
  rw [List.getElem?_append_right (Nat.le_add_right _ _), Nat.add_sub_cancel_left]; exact h
theorem fr_Pl {D : va_G} {cl : List vw_C} {w1 w2 : va_W} {H : Heap} (h : va_P D cl (w1 ++ w2) H) : va_P D cl w1 H := fun k q hk => h k q (fr_l hk)
theorem fr_Pr {D : va_G} {cl : List vw_C} {w1 w2 : va_W} {H : Heap} (h : va_P D cl (w1 ++ w2) H) : va_P D cl w2 H := fun k q hk => h _ q (fr_r hk)
theorem fr_Dl {A : Nat → Prop} {w1 w2 : va_W} (h : va_D A (w1 ++ w2)) : va_D A w1 := ⟨fun i j p q hi hj e => h.1 i j p q (fr_l hi) (fr_l hj) e, fun k q hk => h.2 k q (fr_l hk)⟩
theorem fr_Dr {A : Nat → Prop} {w1 w2 : va_W} (h : va_D A (w1 ++ w2)) : va_D A w2 := ⟨fun i j p q hi hj e => by
  have := h.1 _ _ p q (fr_r hi) (fr_r hj) e
  omega, fun k q hk => h.2 _ q (fr_r hk)⟩
theorem fr_Dx {A : Nat → Prop} {w1 w2 : va_W} (h : va_D A (w1 ++ w2)) : ∀ (i j : Nat) (p q : Nat × va_E), w1[i]? = some p → w2[j]? = some q → p.1 ≠ q.1 := fun i j p q hi hj e => by
  have h1 := h.1 _ _ p q (fr_l hi) (fr_r hj) e
  have hi : i < w1.length := (List.getElem?_eq_some_iff.mp hi).1
  omega
theorem fr_keep {D : va_G} {cl : List vw_C} {x w : va_W} {H H1 : Heap} (hP : va_P D cl w H) (hx : ∀ (i j : Nat) (p q : Nat × va_E), x[i]? = some p → w[j]? = some q → p.1 ≠ q.1) (hk : ∀ q : Nat, q < H.size → ¬ va_A x H.size q → H1[q]? = H[q]?) : va_P D cl w H1 :=
  hP.kept (fun k q hq => hk q.1 (hP k q hq).lt (fun h => by
    rcases h with ⟨i, e, hi⟩ | h
    · exact hx i k (q.1, e) q hi hq rfl
    · exact absurd (hP k q hq).lt (Nat.not_lt.mpr h)))
theorem fr_apart {A : Nat → Prop} {D : va_G} {cl : List vw_C} {x x2 w : va_W} {H : Heap} (hP : va_P D cl w H) (hx : ∀ (i j : Nat) (p q : Nat × va_E), x[i]? = some p → w[j]? = some q → p.1 ≠ q.1) (h2 : va_D (va_A x H.size) x2) : ∀ (i j : Nat) (p q : Nat × va_E), x2[i]? = some p → w[j]? = some q → p.1 ≠ q.1 := fun i j p q hi hj e => by
  rcases h2.2 i p hi with ⟨k, e9, hk⟩ | h
  · exact hx k j (p.1, e9) q hk hj e
  · rw [e] at h
    exact absurd (hP j q hj).lt (Nat.not_lt.mpr h)
/-- the part x of a world is changed to x2 by a call; what stands ahead of it and behind it stays -/
theorem fr_call {D : va_G} {cl : List vw_C} {A : Nat → Prop} {H0 H H1 : Heap} {locs locs1 : List Loc} {w1 x w2 x2 : va_W} (hw : wo_w D cl A H0 (w1 ++ (x ++ w2)) H locs) (hF : ∀ q, va_A x H.size q → A q) (hP1 : va_P D cl x2 H1) (hD1 : va_D (va_A x H.size) x2) (hk : ∀ q : Nat, q < H.size → ¬ va_A x H.size q → H1[q]? = H[q]?) (hS : va_S A H0 H1 locs1) : wo_w D cl A H0 (w1 ++ (x2 ++ w2)) H1 locs1 := by
  obtain ⟨hP, hD, hS0⟩ := hw
  have hPw := fr_Pl hP
  have hPr := fr_Pr (fr_Pr hP)
  have hDw := fr_Dl hD
  have hDr := fr_Dr (fr_Dr hD)
  have x1 : ∀ (i j : Nat) (p q : Nat × va_E), x[i]? = some p → w1[j]? = some q → p.1 ≠ q.1 := fun i j p q hi hj e => fr_Dx hD j i q p hj (fr_l hi) e.symm
  have x2' : ∀ (i j : Nat) (p q : Nat × va_E), x[i]? = some p → w2[j]? = some q → p.1 ≠ q.1 := fr_Dx (fr_Dr hD)
  have D2 : va_D A x2 := hD1.weaken (fun _ _ _ h => hF _ h)
  have y1 := fr_apart (A := A) hPw x1 hD1
  have y2 := fr_apart (A := A) hPr x2' hD1
  refine ⟨(fr_keep hPw x1 hk).app (hP1.app (fr_keep hPr x2' hk)), hDw.app (D2.app hDr y2) ?_, hS⟩
  intro i j p q hi hj e
  rcases Nat.lt_or_ge j x2.length with h | h
  · rw [List.getElem?_append_left h] at hj
    exact y1 j i q p hj hi e.symm
  · rw [List.getElem?_append_right h] at hj
    have hj2 : (x ++ w2)[x.length + (j - x2.length)]? = some q := fr_r hj
    exact fr_Dx hD i _ p q hi hj2 e
theorem fr_free {D : va_G} {cl : List vw_C} {A : Nat → Prop} {H0 H : Heap} {locs : List Loc} {w1 x w2 : va_W} (hw : wo_w D cl A H0 (w1 ++ (x ++ w2)) H locs) (hA : ∀ q, H0.size ≤ q → A q) : ∀ q, va_A x H.size q → A q := by
  intro q hq
  rcases hq with ⟨k, e, hk⟩ | hq
  · exact (fr_Dl (fr_Dr hw.2.1)).2 k _ hk
  · exact hA q (Nat.le_trans hw.2.2.1 hq)
/-- the part alone -/
theorem fr_part {D : va_G} {cl : List vw_C} {A : Nat → Prop} {H0 H : Heap} {locs : List Loc} {w1 x w2 : va_W} (hw : wo_w D cl A H0 (w1 ++ (x ++ w2)) H locs) : wo_w D cl A H0 x H locs := ⟨fr_Pl (fr_Pr hw.1), fr_Dl (fr_Dr hw.2.1), hw.2.2⟩
