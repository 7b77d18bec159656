def sdm (w : Int32) : Int32 := (w - nI 1) - (w - nI 1) / nI 2 * nI 2
def msmG (M : sSt) (bb wh : Int32) : Bool := mbd M bb && wth wh.toInt64 0 8
def msmV (M : sSt) (b nr : Nat) (wh : Int32) : Int64 := if wh = nI 0 then M.2 2 b else if wh = nI 1 then M.2 1 b else if wh = nI 2 then M.2 3 b else if wh = nI 3 then mshs M b 0 true 6 else if wh = nI 4 then mshs M b 1 true 6 else if wh = nI 5 then minr M b 0 false nr else if wh = nI 6 then minr M b 1 false nr else if wh = nI 7 then mshs M b 0 false 6 + minr M b 0 true nr else mshs M b 1 false 6 + minr M b 1 true nr
theorem sum78 {wh : Int32} (h : ∃ n, n < 9 ∧ wh = nI n) (c0 : ¬ wh = nI 0) (c1 : ¬ wh = nI 1) (c2 : ¬ wh = nI 2) (c3 : ¬ wh = nI 3) (c4 : ¬ wh = nI 4) (c5 : ¬ wh = nI 5) (c6 : ¬ wh = nI 6) : wh = nI 7 ∨ wh = nI 8 := by
  obtain ⟨n, hn, e⟩ := h
  subst e
  have f : ∀ k, ¬ nI n = nI k → n ≠ k := fun k h q => h (congrArg nI q)
  have := f 0 c0; have := f 1 c1; have := f 2 c2; have := f 3 c3; have := f 4 c4; have := f 5 c5; have := f 6 c6
  rcases (show n = 7 ∨ n = 8 by omega) with e | e
  · exact Or.inl (congrArg nI e)
  · exact Or.inr (congrArg nI e)
