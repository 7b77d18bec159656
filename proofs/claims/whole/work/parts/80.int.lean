/-! Int64 by its Int -/
theorem bm_id {x : Int} (h1 : -9223372036854775808 ≤ x) (h2 : x < 9223372036854775808) : x.bmod (2 ^ 64) = x := by
  unfold Int.bmod
  simp only [show ((2 ^ 64 : Nat) : Int) = 18446744073709551616 from rfl]
  omega
theorem i_add {a b : Int64} (h1 : -9223372036854775808 ≤ a.toInt + b.toInt) (h2 : a.toInt + b.toInt < 9223372036854775808) : (a + b).toInt = a.toInt + b.toInt := by
  rw [Int64.toInt_add]; exact bm_id h1 h2
theorem i_sub {a b : Int64} (h1 : -9223372036854775808 ≤ a.toInt - b.toInt) (h2 : a.toInt - b.toInt < 9223372036854775808) : (a - b).toInt = a.toInt - b.toInt := by
  rw [Int64.toInt_sub]; exact bm_id h1 h2
theorem i_neg {a : Int64} (h1 : -9223372036854775808 < a.toInt) : (-a).toInt = -a.toInt := by
  rw [Int64.toInt_neg]
  have := Int64.toInt_lt a
  exact bm_id (by omega) (by omega)
theorem i_mul {a b : Int64} (h1 : -9223372036854775808 ≤ a.toInt * b.toInt) (h2 : a.toInt * b.toInt < 9223372036854775808) : (a * b).toInt = a.toInt * b.toInt := by
  rw [Int64.toInt_mul]; exact bm_id h1 h2
theorem i_div {a b : Int64} (ha : 0 ≤ a.toInt) (hb : 0 < b.toInt) : (a / b).toInt = a.toInt / b.toInt := by
  have h2 := Int64.toInt_lt a
  have h3 : a.toInt / b.toInt ≤ a.toInt := Int.ediv_le_self _ ha
  have h4 : 0 ≤ a.toInt / b.toInt := Int.ediv_nonneg ha (by omega)
  rw [Int64.toInt_div, Int.tdiv_eq_ediv_of_nonneg ha]
  exact bm_id (by omega) (by omega)
theorem i_ub (a : Int64) : a.toInt < 9223372036854775808 := by
  have := Int64.toInt_lt a
  omega
theorem i_lb (a : Int64) : -9223372036854775808 ≤ a.toInt := by
  have := Int64.le_toInt a
  omega
theorem i_lt {a b : Int64} : a < b ↔ a.toInt < b.toInt := Int64.lt_iff_toInt_lt
theorem i_le {a b : Int64} : a ≤ b ↔ a.toInt ≤ b.toInt := Int64.le_iff_toInt_le
theorem i_0 : (0 : Int64).toInt = 0 := rfl
theorem i_1 : (1 : Int64).toInt = 1 := rfl
theorem i_m1 : (-1 : Int64).toInt = -1 := by decide
theorem i_eq {a b : Int64} (h : a.toInt = b.toInt) : a = b := Int64.toInt_inj.mp h
/-- finite sums -/
def sN (f : Nat → Int) : Nat → Int
  | 0 => 0
  | n + 1 => sN f n + f n
theorem sN_congr {f g : Nat → Int} : ∀ n, (∀ i, i < n → f i = g i) → sN f n = sN g n
  | 0, _ => rfl
  | n + 1, h => by rw [sN, sN, sN_congr n (fun i hi => h i (by omega)), h n (by omega)]
theorem sN_nn {f : Nat → Int} : ∀ n, (∀ i, i < n → 0 ≤ f i) → 0 ≤ sN f n
  | 0, _ => Int.le_refl 0
  | n + 1, h => by
    have h1 := sN_nn n (fun i hi => h i (by omega))
    have h2 := h n (by omega)
    rw [sN]; omega
theorem sN_one {f : Nat → Int} {k : Nat} : ∀ n, k < n → (∀ i, i < n → 0 ≤ f i) → f k ≤ sN f n
  | 0, h, _ => absurd h (Nat.not_lt_zero k)
  | n + 1, h, hn => by
    rw [sN]
    by_cases e : k = n
    · subst e
      have := sN_nn k (fun i hi => hn i (by omega))
      omega
    · have h1 := sN_one (k := k) n (by omega) (fun i hi => hn i (by omega))
      have h2 := hn n (by omega)
      omega
/-- one term changed -/
theorem sN_upd {f g : Nat → Int} {k : Nat} : ∀ n, k < n → (∀ i, i < n → i ≠ k → g i = f i) → sN g n = sN f n - f k + g k
  | 0, h, _ => absurd h (Nat.not_lt_zero k)
  | n + 1, h, hn => by
    rw [sN, sN]
    by_cases e : k = n
    · subst e
      rw [sN_congr k (fun i hi => hn i (by omega) (by omega))]
      omega
    · rw [sN_upd n (by omega) (fun i hi hk => hn i (by omega) hk), hn n (by omega) (fun q => e q.symm)]
      omega
theorem sN_add {f g : Nat → Int} : ∀ n, sN (fun i => f i + g i) n = sN f n + sN g n
  | 0 => rfl
  | n + 1 => by rw [sN, sN, sN, sN_add n]; omega
theorem sN_mul {f : Nat → Int} (c : Int) : ∀ n, sN (fun i => c * f i) n = c * sN f n
  | 0 => by simp [sN]
  | n + 1 => by rw [sN, sN, sN_mul c n, Int.mul_add]
theorem sN_lt {f : Nat → Int} {c : Int} : ∀ n, (∀ i, i < n → f i ≤ c) → sN f n ≤ n * c
  | 0, _ => by simp [sN]
  | n + 1, h => by
    have h1 := sN_lt n (fun i hi => h i (by omega))
    have h2 := h n (by omega)
    rw [sN]
    have e : ((n + 1 : Nat) : Int) * c = n * c + c := by
      rw [Int.natCast_add, Int.add_mul]; simp
    omega
