/-! numbers: ints of 32 bits as whole numbers, sums over rows -/
theorem sg_bmod {n : Int} (h1 : -2147483648 ≤ n) (h2 : n ≤ 2147483647) : n.bmod (2 ^ 32) = n := by
  first
  | exact Int.bmod_eq_of_le (by omega) (by omega)
  | (simp only [Int.bmod]; split <;> omega)
theorem sg_add {x y : Int32} (h1 : -2147483648 ≤ x.toInt + y.toInt) (h2 : x.toInt + y.toInt ≤ 2147483647) : (x + y).toInt = x.toInt + y.toInt := by
  rw [Int32.toInt_add]
  exact sg_bmod h1 h2
theorem sg_sub {x y : Int32} (h1 : -2147483648 ≤ x.toInt - y.toInt) (h2 : x.toInt - y.toInt ≤ 2147483647) : (x - y).toInt = x.toInt - y.toInt := by
  rw [Int32.toInt_sub]
  exact sg_bmod h1 h2
theorem sg_mul {x y : Int32} (h1 : -2147483648 ≤ x.toInt * y.toInt) (h2 : x.toInt * y.toInt ≤ 2147483647) : (x * y).toInt = x.toInt * y.toInt := by
  rw [Int32.toInt_mul]
  exact sg_bmod h1 h2
theorem sg_lo (x : Int32) : -2147483648 ≤ x.toInt := by
  have h := Int32.le_toInt x
  omega
theorem sg_hi (x : Int32) : x.toInt ≤ 2147483647 := by
  have h := Int32.toInt_lt x
  omega
theorem sg_neg {x : Int32} (h : -2147483647 ≤ x.toInt) : (-x).toInt = -x.toInt := by
  have := sg_hi x
  rw [Int32.toInt_neg]
  exact sg_bmod (by omega) (by omega)
theorem sg_ext {x y : Int32} (h : x.toInt = y.toInt) : x = y := Int32.toInt_inj.mp h
theorem sg_le {x y : Int32} : x ≤ y ↔ x.toInt ≤ y.toInt := Int32.le_iff_toInt_le
theorem sg_lts {x y : Int32} : x < y ↔ x.toInt < y.toInt := Int32.lt_iff_toInt_lt
theorem sg_z0 : (0 : Int32).toInt = 0 := by decide
theorem sg_z1 : (1 : Int32).toInt = 1 := by decide
theorem sg_zm : (-1 : Int32).toInt = -1 := by decide
theorem sg_pos {x : Int32} (h : ¬ (x ≤ 0)) : 0 < x.toInt := by
  have h1 : ¬ x.toInt ≤ (0 : Int32).toInt := fun q => h (sg_le.mpr q)
  rw [sg_z0] at h1
  omega
/-- a sum over the first n -/
def sg_sum (f : Nat → Int) : Nat → Int
  | 0 => 0
  | n + 1 => sg_sum f n + f n
theorem sg_sum_congr {f g : Nat → Int} : ∀ n, (∀ i, i < n → f i = g i) → sg_sum f n = sg_sum g n
  | 0, _ => rfl
  | n + 1, h => by
    rw [sg_sum, sg_sum, sg_sum_congr n (fun i hi => h i (by omega)), h n (by omega)]
theorem sg_sum_nn {f : Nat → Int} : ∀ n, (∀ i, i < n → 0 ≤ f i) → 0 ≤ sg_sum f n
  | 0, _ => Int.le_refl 0
  | n + 1, h => by
    have h1 := sg_sum_nn n (fun i hi => h i (by omega))
    have h2 := h n (by omega)
    rw [sg_sum]
    omega
theorem sg_sum_one {f : Nat → Int} : ∀ n, (∀ i, i < n → 0 ≤ f i) → ∀ i, i < n → f i ≤ sg_sum f n
  | 0, _, i, hi => absurd hi (Nat.not_lt_zero _)
  | n + 1, h, i, hi => by
    have h0 := sg_sum_nn n (fun i hi => h i (by omega))
    have h2 := h n (by omega)
    rw [sg_sum]
    by_cases e : i = n
    · subst e
      omega
    · have h1 := sg_sum_one n (fun i hi => h i (by omega)) i (by omega)
      omega
theorem sg_sum_up {f g : Nat → Int} {k : Nat} {d : Int} (hk : g k = f k + d) (hne : ∀ i, i ≠ k → g i = f i) : ∀ n, sg_sum g n = sg_sum f n + (if k < n then d else 0)
  | 0 => by simp [sg_sum]
  | n + 1 => by
    have h := sg_sum_up hk hne n
    rw [sg_sum, sg_sum, h]
    by_cases e : n = k
    · subst e
      rw [hk, if_neg (Nat.lt_irrefl n), if_pos (Nat.lt_succ_self n)]
      omega
    · rw [hne n e]
      by_cases c : k < n
      · rw [if_pos c, if_pos (by omega)]
        omega
      · rw [if_neg c, if_neg (by omega)]
        omega
theorem sg_sum_in {f g : Nat → Int} {k : Nat} {d : Int} {n : Nat} (hk : g k = f k + d) (hne : ∀ i, i ≠ k → g i = f i) (h : k < n) : sg_sum g n = sg_sum f n + d := by
  rw [sg_sum_up hk hne n, if_pos h]
theorem sg_sum_zero {f : Nat → Int} : ∀ n, (∀ i, i < n → f i = 0) → sg_sum f n = 0
  | 0, _ => rfl
  | n + 1, h => by
    rw [sg_sum, sg_sum_zero n (fun i hi => h i (by omega)), h n (by omega)]
    rfl
theorem sg_sum_all0 {f : Nat → Int} {n : Nat} (hn : ∀ i, i < n → 0 ≤ f i) (h : sg_sum f n = 0) : ∀ i, i < n → f i = 0 := fun i hi => by
  have h1 := sg_sum_one n hn i hi
  have h2 := hn i hi
  omega
theorem sg_sum_le {f g : Nat → Int} : ∀ n, (∀ i, i < n → f i ≤ g i) → sg_sum f n ≤ sg_sum g n
  | 0, _ => Int.le_refl 0
  | n + 1, h => by
    have h1 := sg_sum_le n (fun i hi => h i (by omega))
    have h2 := h n (by omega)
    rw [sg_sum, sg_sum]
    omega
theorem sg_sum_bd {f : Nat → Int} {b : Int} : ∀ n : Nat, (∀ i, i < n → f i ≤ b) → sg_sum f n ≤ b * (n : Int)
  | 0, _ => by simp [sg_sum]
  | n + 1, h => by
    have h1 := sg_sum_bd n (fun i hi => h i (by omega))
    have h2 := h n (by omega)
    rw [sg_sum, show ((n + 1 : Nat) : Int) = (n : Int) + 1 from rfl, Int.mul_add, Int.mul_one]
    omega
theorem sg_sum_add {f g : Nat → Int} : ∀ n, sg_sum (fun i => f i + g i) n = sg_sum f n + sg_sum g n
  | 0 => rfl
  | n + 1 => by
    rw [sg_sum, sg_sum, sg_sum, sg_sum_add n]
    omega
theorem sg_sum_tail {f : Nat → Int} {n : Nat} : ∀ m, (∀ i, n ≤ i → i < n + m → f i = 0) → sg_sum f (n + m) = sg_sum f n
  | 0, _ => rfl
  | m + 1, h => by
    rw [show n + (m + 1) = (n + m) + 1 from rfl, sg_sum, sg_sum_tail m (fun i h1 h2 => h i h1 (by omega)), h (n + m) (by omega) (by omega)]
    omega
theorem sg_sum_mul {f : Nat → Int} {b : Int} : ∀ n : Nat, sg_sum (fun i => f i * b) n = sg_sum f n * b
  | 0 => by simp [sg_sum]
  | n + 1 => by
    rw [sg_sum, sg_sum, sg_sum_mul n, Int.add_mul]
theorem sg_rem_b {a b : Nat} (hb : 0 < b) (ha : a < 2 ^ 31) (hb2 : b < 2 ^ 31) : (nI a - nI a / nI b * nI b).toInt = ((a % b : Nat) : Int) := by
  have e0 : (nI a).toInt = a := nI_toInt ha
  have e1 : (nI b).toInt = b := nI_toInt hb2
  obtain ⟨q, hq⟩ : ∃ q, q = a / b := ⟨_, rfl⟩
  obtain ⟨r, hr⟩ : ∃ r, r = a % b := ⟨_, rfl⟩
  obtain ⟨w, hw⟩ : ∃ w, w = q * b := ⟨_, rfl⟩
  have q1 : q ≤ a := by
    rw [hq]
    exact Nat.div_le_self a b
  have q2 : w ≤ a := by
    rw [hw, hq]
    exact Nat.div_mul_le_self a b
  have m : w + r = a := by
    rw [hw, hr, hq, Nat.mul_comm]
    exact Nat.div_add_mod a b
  have e5 : (q : Int) * (b : Int) = (w : Int) := by
    rw [hw]
    exact (Int.natCast_mul _ _).symm
  have e2 : (nI a / nI b).toInt = (q : Int) := by
    rw [Int32.toInt_div, e0, e1]
    have e3 : Int.tdiv (a : Int) (b : Int) = (q : Int) := by
      rw [hq]
      rfl
    rw [e3]
    exact sg_bmod (by omega) (by omega)
  have e4 : (nI a / nI b * nI b).toInt = (w : Int) := by
    rw [sg_mul (by rw [e2, e1, e5]; omega) (by rw [e2, e1, e5]; omega), e2, e1, e5]
  rw [sg_sub (by rw [e0, e4]; omega) (by rw [e0, e4]; omega), e0, e4, ← hr]
  omega
