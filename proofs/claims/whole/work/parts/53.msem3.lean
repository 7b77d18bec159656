/-! the rest of the reference -/
theorem nI_21 : ¬ nI 2 = nI 1 := by decide
def mwc (M : sSt) : Nat → Int32
  | 0 => nI 0
  | n + 1 => mwc M n + (if mwl M (nI n) = false then nI 0 else nI 1)
def mta (M : sSt) (e : Nat) : Nat → Bool
  | 0 => true
  | n + 1 => mta M e n && (!mwl M (nI n) || !decide (M.1 8 (6 * e + n) = 0))
def mtl (M : sSt) (e : Nat) : Bool := mta M e 6 && !decide (mwc M 6 ≤ 0)
theorem mta_mono (M : sSt) (e : Nat) {n : Nat} (h : mta M e n = false) : ∀ k, mta M e (n + k) = false
  | 0 => h
  | k + 1 => by
    rw [show n + (k + 1) = (n + k) + 1 from rfl, mta, mta_mono M e h k]
    rfl
theorem mtl_no {M : sSt} {e i : Nat} (hi : i < 6) (h1 : mwl M (nI i) = true) (h2 : M.1 8 (6 * e + i) = 0) : mtl M e = false := by
  have h : mta M e (i + 1) = false := by
    rw [mta, h1, decide_eq_true h2]
    simp
  have h6 := mta_mono M e h (6 - (i + 1))
  rw [show i + 1 + (6 - (i + 1)) = 6 by omega] at h6
  rw [mtl, h6]
  rfl
-- recover
def mcc (T : sSt) (r e b s : Nat) : Bool := decide (T.1 12 r = nI b) && (decide (T.1 13 r = nI s) && (!decide (T.1 17 r = nI 1) && (decide (T.1 19 r = 0) && (decide (T.1 14 r = nI e) || decide (T.1 15 r = nI e)))))
def mcbk (M : sSt) (r0 : Int64) (e b s : Nat) : Nat → sSt × Int64
  | 0 => (M, r0)
  | n + 1 => if mcc (mcbk M r0 e b s n).1 (n + 1) e b s = true then (sI (sI (mcbk M r0 e b s n).1 17 (n + 1) (nI 2)) 19 (n + 1) (nI 1), (mcbk M r0 e b s n).2 + (mcbk M r0 e b s n).1.2 16 (n + 1)) else mcbk M r0 e b s n
def mcb0 (M : sSt) (e nr b s : Nat) : sSt × Int64 := mcbk (sL M 4 (12 * b + 6 * s + e) 0) (M.2 4 (12 * b + 6 * s + e)) e b s nr
def mrcP (b s : Nat) (M : sSt) : Nat → sSt
  | 0 => M
  | n + 1 => if (mrcP b s M n).2 20 n = 0 then mrcP b s M n else cmL n 9 (sL (mrcP b s M n) 4 (12 * b + 6 * s + n) ((mrcP b s M n).2 4 (12 * b + 6 * s + n) + (mrcP b s M n).2 20 n))
def mrec1 (M : sSt) (e nr b s : Nat) : sSt := mrcP b s (msplF (mcb0 M e nr b s).1 (mcb0 M e nr b s).2 true) 6
def mrecS (e nr b : Nat) (M : sSt) : Nat → sSt
  | 0 => M
  | n + 1 => mrec1 (mrecS e nr b M n) e nr b n
def mrecB (e nr : Nat) (M : sSt) : Nat → sSt
  | 0 => M
  | n + 1 => mrecS e nr n (mrecB e nr M n) 2
def mrecF (M : sSt) (e nb nr : Nat) : sSt := mrecB e nr (sI M 6 e (nI 2)) nb
/-- a split that comes to its end -/
def mspG (Y : sSt) (room : Int64) (b0 : Bool) : Prop := ¬ mall Y b0 6 = 0 ∧ mspOk 6 (mspl1 Y room (mall Y b0 6) b0 6)
def mrecH (M : sSt) (e nb nr : Nat) : Prop := ∀ b s, b < nb → s < 2 → mspG (mcb0 (mrecS e nr b (mrecB e nr (sI M 6 e (nI 2)) b) s) e nr b s).1 (mcb0 (mrecS e nr b (mrecB e nr (sI M 6 e (nI 2)) b) s) e nr b s).2 true
theorem msp1_q (T : sSt) (r a o : Int64) (n q : Nat) (h : q ≠ 22) : (msp1 T r a o n).1 q = T.1 q := by
  funext j
  rw [msp1, sI_1, if_neg (fun e => h e.1)]
  rfl
theorem mspl1_q (M : sSt) (r a : Int64) (b0 : Bool) (q : Nat) (h : q ≠ 22) : ∀ n, (mspl1 M r a b0 n).1.1 q = M.1 q
  | 0 => rfl
  | n + 1 => by
    rw [mspl1]
    show (msp1 _ _ _ _ _).1 q = _
    rw [msp1_q _ _ _ _ _ _ h, mspl1_q M r a b0 q h n]
theorem mspl2_q (q : Nat) (h : q ≠ 22) : ∀ n (X : sSt × Int64), (mspl2 n X).1.1 q = X.1.1 q
  | 0, _ => rfl
  | n + 1, X => by
    rw [mspl2]
    split
    · rfl
    · rw [mspl2_q q h n]
      funext j
      show (sI X.1 22 _ (nI 1)).1 q j = _
      rw [sI_1, if_neg (fun e => h e.1)]
theorem msplF_q (M : sSt) (r : Int64) (b0 : Bool) (q : Nat) (h : q ≠ 22) : (msplF M r b0).1 q = M.1 q := by
  rw [msplF, mspl2_q q h, mspl1_q _ _ _ _ q h]
theorem mcbk_q (M : sSt) (r0 : Int64) (e b s q : Nat) (h1 : q ≠ 17) (h2 : q ≠ 19) : ∀ n, (mcbk M r0 e b s n).1.1 q = M.1 q
  | 0 => rfl
  | n + 1 => by
    have ih := mcbk_q M r0 e b s q h1 h2 n
    rw [mcbk]
    split
    · funext j
      show (sI (sI (mcbk M r0 e b s n).1 17 (n + 1) (nI 2)) 19 (n + 1) (nI 1)).1 q j = _
      rw [sI_1, if_neg (fun e => h2 e.1), sI_1, if_neg (fun e => h1 e.1), ih]
    · exact ih
theorem MI_q {nb nr : Nat} {M T : sSt} (h : MI nb nr M) (e : ∀ q, q = 0 ∨ q = 9 ∨ q = 10 → T.1 q = M.1 q) : MI nb nr T := MI_of h (e 9 (by omega)) (e 10 (by omega)) (by rw [e 0 (by omega)]) (by rw [e 0 (by omega)])
theorem MI_mgS {nb nr p : Nat} {M : sSt} (hp : p < 6) (h : MI nb nr M) (ho : mgOk M p = true) : MI nb nr (mgS M p) := by
  obtain ⟨k, k8, k2, k3⟩ := h.1 p hp
  have hn : ¬ k ≤ 0 := fun z => by
    rw [mgOk_0 k2 (by omega)] at ho
    exact absurd ho (by decide)
  obtain ⟨m, b, hm, hb, e1, e2⟩ := MQW_first k2 k8 k3 hn
  subst e1
  rw [(mgS_eq k2 hm e2 hb).1]
  exact msh_MI hp h k2 hm
theorem MI_cmL {nb nr p : Nat} (hp : p < 6) : ∀ n (M : sSt), MI nb nr M → MI nb nr (cmL p n M)
  | 0, _, h => h
  | n + 1, M, h => by
    rw [cmL]
    split
    · exact MI_cmL hp n _ (MI_mgS hp h ‹_›)
    · exact h
theorem MI_mrcP {nb nr b s : Nat} {M : sSt} (h : MI nb nr M) : ∀ n, n ≤ 6 → MI nb nr (mrcP b s M n)
  | 0, _ => h
  | n + 1, hn => by
    have ih := MI_mrcP (b := b) (s := s) h n (by omega)
    rw [mrcP]
    split
    · exact ih
    · exact MI_cmL (by omega) 9 _ (MI_of ih rfl rfl rfl rfl)
theorem MI_mcb0 {nb nr e n b s : Nat} {M : sSt} (h : MI nb nr M) : MI nb nr (mcb0 M e n b s).1 := by
  unfold mcb0
  refine MI_q h (fun q hq => ?_)
  rw [mcbk_q _ _ _ _ _ q (by omega) (by omega)]
  rfl
theorem MI_mspl {nb nr : Nat} {M : sSt} (h : MI nb nr M) (r : Int64) (b0 : Bool) : MI nb nr (msplF M r b0) := MI_q h (fun q hq => msplF_q M r b0 q (by omega))
theorem MI_mrec1 {nb nr e n b s : Nat} {M : sSt} (h : MI nb nr M) : MI nb nr (mrec1 M e n b s) := by
  unfold mrec1
  exact MI_mrcP (MI_mspl (MI_mcb0 h) _ _) 6 (Nat.le_refl 6)
theorem MI_mrecS {nb nr e n b : Nat} {M : sSt} (h : MI nb nr M) : ∀ k, MI nb nr (mrecS e n b M k)
  | 0 => h
  | k + 1 => by
    rw [mrecS]
    exact MI_mrec1 (MI_mrecS h k)
theorem MI_mrecB {nb nr e n : Nat} {M : sSt} (h : MI nb nr M) : ∀ k, MI nb nr (mrecB e n M k)
  | 0 => h
  | k + 1 => by
    rw [mrecB]
    exact MI_mrecS (MI_mrecB h k) 2
theorem MI_sI {nb nr k j : Nat} {x : Int32} {M : sSt} (h : MI nb nr M) (hk : k ≠ 0 ∧ k ≠ 9 ∧ k ≠ 10) : MI nb nr (sI M k j x) := MI_q h (fun q hq => by funext i; rw [sI_1, if_neg (by omega)])
theorem MI_mrecF {nb nr e : Nat} {M : sSt} (h : MI nb nr M) : MI nb nr (mrecF M e nb nr) := by
  unfold mrecF
  exact MI_mrecB (MI_sI h (by omega)) nb
-- end, vouch
def menL (nb nr : Nat) (M : sSt) : Nat → sSt
  | 0 => M
  | n + 1 => if (decide ((menL nb nr M n).1 6 n = nI 1) && mtl (menL nb nr M n) n) = true then mrecF (menL nb nr M n) n nb nr else menL nb nr M n
theorem MI_menL {nb nr : Nat} {M : sSt} (h : MI nb nr M) : ∀ n, MI nb nr (menL nb nr M n)
  | 0 => h
  | n + 1 => by
    rw [menL]
    split
    · exact MI_mrecF (MI_menL h n)
    · exact MI_menL h n
def men0 (M : sSt) (p : Nat) : sSt := sI (sI M 6 p (nI 1)) 9 p (nI 0)
theorem MI_men0 {nb nr p : Nat} {M : sSt} (h : MI nb nr M) : MI nb nr (men0 M p) := by
  obtain ⟨a, b, c⟩ := h
  refine ⟨fun q hq => ?_, b, c⟩
  obtain ⟨k, k1, k2, k3⟩ := a q hq
  by_cases e : q = p
  · subst e
    refine ⟨0, by omega, ?_, fun j hj => absurd hj (Nat.not_lt_zero j)⟩
    rw [men0, sI_1, if_pos ⟨rfl, rfl⟩]
  · refine ⟨k, k1, ?_, fun j hj => ?_⟩
    · rw [men0, sI_1, if_neg (fun q9 => e q9.2), sI_1, if_neg (by omega)]; exact k2
    · rw [men0, sI_1, if_neg (by omega), sI_1, if_neg (by omega)]; exact k3 j hj
def menH (M : sSt) (nb nr p : Nat) : Prop := ∀ e, e < 6 → (decide ((menL nb nr (men0 M p) e).1 6 e = nI 1) && mtl (menL nb nr (men0 M p) e) e) = true → mrecH (menL nb nr (men0 M p) e) e nb nr
def menF (M : sSt) (nb nr : Nat) (pp : Int32) : sSt := if mwl M pp = true then menL nb nr (men0 M pp.toNatClampNeg) 6 else M
def mvcG (M : sSt) (pp ee : Int32) : Bool := mwl M pp && (wth ee.toInt64 0 5 && !decide (M.1 6 ee.toNatClampNeg = 0))
def mvcT (M : sSt) (p e : Nat) : sSt := sI M 8 (6 * e + p) (nI 1)
def mvcR (M : sSt) (nb nr p e : Nat) : Int32 × sSt := if M.1 6 e = nI 2 then (nI 0, M) else if M.1 8 (6 * e + p) = 0 then (if mtl (mvcT M p e) e = true then (nI 2, mrecF (mvcT M p e) e nb nr) else (nI 1, mvcT M p e)) else (nI 0, M)
def mvcF (M : sSt) (nb nr : Nat) (pp ee : Int32) : Int32 × sSt := if mvcG M pp ee = true then mvcR M nb nr pp.toNatClampNeg ee.toNatClampNeg else ((-1), M)
-- sums
def mshs (M : sSt) (b s : Nat) (b0 : Bool) : Nat → Int64
  | 0 => 0
  | n + 1 => mshs M b s b0 n + (if mwl M (nI n) = b0 then M.2 4 (12 * b + 6 * s + n) else 0)
def mstk (M : sSt) (r : Nat) : Bool := decide (M.1 17 r = nI 2) || !mwl M (M.1 15 r)
def minr (M : sSt) (b s : Nat) (b0 : Bool) : Nat → Int64
  | 0 => 0
  | n + 1 => if (decide (M.1 12 (n + 1) = nI b) && (decide (M.1 13 (n + 1) = nI s) && (!decide (M.1 17 (n + 1) = nI 1) && decide (M.1 19 (n + 1) = 0)))) = true then minr M b s b0 n + (if mstk M (n + 1) = b0 then M.2 16 (n + 1) else 0) else minr M b s b0 n
-- bound
def mcp (nb s : Nat) (M : sSt) : Nat → sSt
  | 0 => M
  | n + 1 => sL (mcp nb s M n) 4 (12 * nb + 6 * s + n) ((mcp nb s M n).2 20 n)
def mb0 (M : sSt) (nb : Nat) (lo v hi : Int64) : sSt := sL (sL (sL (mt0 M) 1 nb lo) 2 nb v) 3 nb hi
def mbr (lo v hi : Int64) (j : Nat) : Int64 := if j = 0 then v - lo else hi - v
def mbs (M : sSt) (nb : Nat) (lo v hi : Int64) : Nat → sSt
  | 0 => M
  | n + 1 => mcp nb n (msplF (mbs M nb lo v hi n) (mbr lo v hi n) false) 6
theorem mcp_1 (nb s : Nat) (M : sSt) : ∀ n, (mcp nb s M n).1 = M.1
  | 0 => rfl
  | n + 1 => mcp_1 nb s M n
theorem mbs_q (M : sSt) (nb : Nat) (lo v hi : Int64) (q : Nat) (h : q ≠ 22) : ∀ n, (mbs M nb lo v hi n).1 q = M.1 q
  | 0 => rfl
  | n + 1 => by rw [mbs, mcp_1, msplF_q _ _ _ q h, mbs_q M nb lo v hi q h n]
def mbG (lo v hi : Int64) : Bool := !decide (v < lo) && (!decide (hi < v) && (!mtg lo v && !mtg v hi))
def mbdR (M : sSt) (nb : Nat) (lo v hi : Int64) : Int32 × sSt := if mall M false 6 = 0 then (nI 0, sI M 0 0 (nI 2)) else if nb = 6 then (nI 0, sI M 0 0 (nI 3)) else (nI nb, sI (mbs (mb0 M nb lo v hi) nb lo v hi 2) 0 1 (nI (nb + 1)))
def mbdF (M : sSt) (nb : Nat) (lo v hi : Int64) : Int32 × sSt := if mbG lo v hi = true then mbdR M nb lo v hi else (nI 0, sI M 0 0 (nI 1))
def mbH (M : sSt) (nb : Nat) (lo v hi : Int64) : Prop := mbG lo v hi = true → ¬ mall M false 6 = 0 → nb < 6 → ∀ j, j < 2 → mspG (mbs (mb0 M nb lo v hi) nb lo v hi j) (mbr lo v hi j) false
