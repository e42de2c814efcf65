/-! rows that sending leaves as they are -/
theorem sg_tadd_f {P : sg_Pic} {x y z v x5 : Int32} (r : Nat) (h0 : r ≠ 0) (h1 : r < 60 ∨ 65 < r) : sg_tadd P x y z v x5 r = P r := by
  unfold sg_tadd
  split
  · rw [sg_up_n h0, sg_up_n (by omega), sg_up_n (by omega), sg_up_n (by omega), sg_up_n (by omega), sg_up_n (by omega), sg_up_n (by omega)]
  · rfl
theorem sg_su33_f {P : sg_Pic} {x y z v : Int32} (r : Nat) (h0 : r ≠ 0) (h1 : r < 60 ∨ 65 < r) (h2 : r ≠ 42) : ∀ (n : Nat) (s : Int32) (R : sg_Pic), (sg_sendUnits_33 P x y z v n s R).2 r = R r
  | 0, s, R => by
    rw [sg_sendUnits_33]
  | n + 1, s, R => by
    rw [sg_sendUnits_33]
    by_cases c1 : v ≤ s
    · rw [if_pos c1]
    · rw [if_neg c1]
      by_cases c2 : sg_full R = 0
      · rw [if_pos c2]
        by_cases c3 : sg_firstFree R x y (((P 0 0) + (sg_daysBetween P y z)) + 1) = -1
        · rw [if_pos c3]
        · rw [if_neg c3, sg_su33_f r h0 h1 h2 n, sg_up_n h2, sg_tadd_f r h0 h1]
      · rw [if_neg c2]
theorem sg_sendUnits_11 {P : sg_Pic} {x y z v : Int32} : sg_sendUnits P x y z v 11 = P 11 := by
  unfold sg_sendUnits
  split
  · rfl
  · exact sg_su33_f 11 (by decide) (by decide) (by decide) _ _ _
