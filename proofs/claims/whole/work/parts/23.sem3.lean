/-! weights, sums, recover -/
def uow (S : sSt) : Nat → sSt
  | 0 => S
  | n + 1 => sL (uow S n) 49 n (if wl (uow S n) (nI n) = false then 0 else (uow S n).2 6 n)
def uew (S : sSt) : Nat → sSt
  | 0 => S
  | n + 1 => sL (uew S n) 49 n (if wl (uew S n) (nI n) = false then 0 else 1)
def shT (S : sSt) (k : Nat) (b : Bool) : Nat → Int64
  | 0 => 0
  | n + 1 => if wl S (nI n) = b then shT S k b n + S.2 (14 + k) n else shT S k b n
def stk (S : sSt) (rr : Nat) : Bool := decide (S.1 30 rr = nI 2) || !wl S (S.1 29 rr)
def hbr (S : sSt) (bb sd : Nat) (b : Bool) : Nat → Int64
  | 0 => 0
  | n + 1 => if isOf S (n + 1) bb sd = false then hbr S bb sd b n else if stk S (n + 1) = b then hbr S bb sd b n + S.2 33 (n + 1) else hbr S bb sd b n
/-- the people's parts are handed out -/
def rcvP (bb sd : Nat) (S : sSt) : Nat → sSt
  | 0 => S
  | n + 1 => rcvF (rcvP bb sd S n) bb sd n ((rcvP bb sd S n).2 50 n)
def rec1 (S : sSt) (gg nr bb sd : Nat) : sSt :=
  rcvP bb sd (splF (cbk (addSh S (bb * 2 + sd) gg (-S.2 (14 + (bb * 2 + sd)) gg)) bb sd gg nr).1 (S.2 (14 + (bb * 2 + sd)) gg + (cbk (addSh S (bb * 2 + sd) gg (-S.2 (14 + (bb * 2 + sd)) gg)) bb sd gg nr).2)) 6
def recS (gg nr bb : Nat) (S : sSt) : Nat → sSt
  | 0 => S
  | n + 1 => rec1 (recS gg nr bb S n) gg nr bb n
def recB (gg nr : Nat) (S : sSt) : Nat → sSt
  | 0 => S
  | n + 1 => recS gg nr n (recB gg nr S n) 2
def recF (S : sSt) (gg nb nr : Nat) : sSt := recB gg nr (uew (sI S 8 gg (nI 2)) 6) nb
theorem bI_eq {a b : Bool} : bI a = bI b ↔ a = b := by
  cases a <;> cases b <;> decide
/-- what recover needs of a state: queues in order, the counts -/
def QA (S : sSt) : Prop := ∀ q, q < 6 → QW S q
def RI (nb nr : Nat) (S : sSt) : Prop := QA S ∧ S.1 2 0 = nI nb ∧ S.1 3 0 = nI nr
theorem uew_1 (S : sSt) : ∀ n, (uew S n).1 = S.1
  | 0 => rfl
  | n + 1 => uew_1 S n
theorem uow_1 (S : sSt) : ∀ n, (uow S n).1 = S.1
  | 0 => rfl
  | n + 1 => uow_1 S n
theorem flL_1 (S : sSt) (v : Int64) : ∀ n, (flL S v n).1 = S.1
  | 0 => rfl
  | n + 1 => flL_1 S v n
theorem spl1_1 (S : sSt) (r a : Int64) : ∀ n, (spl1 S r a n).1.1 = S.1
  | 0 => rfl
  | n + 1 => spl1_1 S r a n
theorem spl2_1 : ∀ n (X : sSt × Int64), (spl2 n X).1.1 = X.1.1
  | 0, _ => rfl
  | n + 1, X => by
    rw [spl2]
    split
    · rfl
    · rw [spl2_1 n]; rfl
theorem splF_1 (S : sSt) (r : Int64) : (splF S r).1 = S.1 := by
  unfold splF
  split
  · rw [spl2_1, spl1_1]
  · rw [flL_1]
theorem cbk_1 (S : sSt) (bb sd pp : Nat) : ∀ n q, q ≠ 30 → (cbk S bb sd pp n).1.1 q = S.1 q
  | 0, _, _ => rfl
  | n + 1, q, h => by
    have ih := cbk_1 S bb sd pp n q h
    rw [cbk]
    split
    · funext j
      show (sI (cbk S bb sd pp n).1 30 (n + 1) (nI 2)).1 q j = _
      rw [sI_1, if_neg (fun e => h e.1), ih]
    · exact ih
theorem RI_of {nb nr : Nat} {S T : sSt} (h : RI nb nr S) (h34 : T.1 34 = S.1 34) (h36 : ∀ q, q < 6 → T.1 (36 + q) = S.1 (36 + q)) (h2 : T.1 2 = S.1 2) (h3 : T.1 3 = S.1 3) : RI nb nr T := by
  obtain ⟨a, b, c⟩ := h
  refine ⟨fun q hq => ?_, by rw [h2]; exact b, by rw [h3]; exact c⟩
  obtain ⟨k, k1, k2, k3⟩ := a q hq
  exact ⟨k, k1, by rw [h34]; exact k2, fun j hj => by rw [h36 q hq]; exact k3 j hj⟩
theorem RI_eq {nb nr : Nat} {S T : sSt} (h : RI nb nr S) (e : T.1 = S.1) : RI nb nr T := RI_of h (by rw [e]) (fun _ _ => by rw [e]) (by rw [e]) (by rw [e])
theorem RI_gf {nb nr pp : Nat} {S : sSt} (hp : pp < 6) (h : RI nb nr S) (ho : gfOk S pp = true) : RI nb nr (gfS S pp) := by
  obtain ⟨a, b, c⟩ := h
  have hn : ¬ S.1 34 pp = 0 := fun e => by simp [gfOk, e] at ho
  obtain ⟨k, bb, hk, hb, e1, e2⟩ := QW_first (a pp hp) hn
  refine ⟨fun q hq => QW_gf hp hq (a q hq) (a pp hp) ho, ?_, ?_⟩
  · rw [(gfS_eq e1 hk e2 hb).1, qrem, sI_1, if_neg (by omega), qsh_2 _ pp k 2 (by omega)]; exact b
  · rw [(gfS_eq e1 hk e2 hb).1, qrem, sI_1, if_neg (by omega), qsh_2 _ pp k 3 (by omega)]; exact c
theorem RI_dn {nb nr : Nat} {S : sSt} (h : RI nb nr S) : RI nb nr (dnS S) := by
  obtain ⟨a, b, c⟩ := h
  refine ⟨fun q hq => QW_dn hq (a q hq), ?_, ?_⟩
  · rw [dnS, sI_1, if_neg (by omega)]; exact b
  · rw [dnS, sI_1, if_neg (by omega)]; exact c
theorem RI_rcvL {nb nr pp : Nat} (hp : pp < 6) : ∀ n (S : sSt), RI nb nr S → RI nb nr (rcvL pp n S)
  | 0, _, h => h
  | n + 1, S, h => by
    rw [rcvL]
    split
    · exact RI_rcvL hp n _ (RI_dn (RI_gf hp h ‹_›))
    · exact h
theorem RI_rcvF {nb nr bb sd pp : Nat} {vv : Int64} {S : sSt} (hp : pp < 6) (h : RI nb nr S) : RI nb nr (rcvF S bb sd pp vv) := by
  unfold rcvF
  split
  · exact RI_rcvL hp 8 _ (RI_eq h rfl)
  · exact h
theorem RI_rcvP {nb nr bb sd : Nat} {S : sSt} (h : RI nb nr S) : ∀ n, n ≤ 6 → RI nb nr (rcvP bb sd S n)
  | 0, _ => h
  | n + 1, hn => by
    rw [rcvP]
    exact RI_rcvF (by omega) (RI_rcvP h n (by omega))
theorem RI_cbk {nb nr bb sd pp n : Nat} {S : sSt} (h : RI nb nr S) : RI nb nr (cbk S bb sd pp n).1 :=
  RI_of h (cbk_1 S bb sd pp n 34 (by omega)) (fun q _ => cbk_1 S bb sd pp n (36 + q) (by omega)) (cbk_1 S bb sd pp n 2 (by omega)) (cbk_1 S bb sd pp n 3 (by omega))
theorem RI_rec1 {nb nr gg n bb sd : Nat} {S : sSt} (h : RI nb nr S) : RI nb nr (rec1 S gg n bb sd) := by
  unfold rec1
  refine RI_rcvP (bb := bb) (sd := sd) ?_ 6 (Nat.le_refl 6)
  have h1 : RI nb nr (addSh S (bb * 2 + sd) gg (-S.2 (14 + (bb * 2 + sd)) gg)) := RI_eq h (addSh_1 _ _ _ _)
  have h2 := RI_cbk (bb := bb) (sd := sd) (pp := gg) (n := n) h1
  exact RI_eq h2 (splF_1 _ _)
theorem RI_recS {nb nr gg n bb : Nat} {S : sSt} (h : RI nb nr S) : ∀ k, RI nb nr (recS gg n bb S k)
  | 0 => h
  | k + 1 => by
    rw [recS]
    exact RI_rec1 (RI_recS h k)
theorem RI_recB {nb nr gg n : Nat} {S : sSt} (h : RI nb nr S) : ∀ k, RI nb nr (recB gg n S k)
  | 0 => h
  | k + 1 => by
    rw [recB]
    exact RI_recS (RI_recB h k) 2
