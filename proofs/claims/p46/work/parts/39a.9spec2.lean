/-! lots, orders, what is free, room -/
theorem lg_cmp_self (x : Int64) : lg_cmp x x = 0 := by simp [lg_cmp]
theorem sg_fu_v {P : sg_Pic} (hr : sg_RI P) (hl : sg_LI P) (x y : Int32) : ∀ j, j ≤ sg_cn P 3 → j ≤ 200 → 0 ≤ (sg_freeFrom_6 P x y 0 j).toInt ∧ (sg_freeFrom_6 P x y 0 j).toInt ≤ (sg_unitsUpTo_6 P x y 1000000 j).toInt ∧ (sg_unitsUpTo_6 P x y 1000000 j).toInt ≤ 1300 * (j : Int) ∧ (sg_unitsUpTo_6 P x y 1000000 j).toInt = sg_sum (fun l => if P 40 l = x then (if P 41 l = y then (P 42 l).toInt else 0) else 0) j
  | 0, _, _ => by
    rw [sg_freeFrom_6, sg_unitsUpTo_6]
    exact ⟨by decide, by decide, by decide, rfl⟩
  | j + 1, h1, h2 => by
    obtain ⟨i1, i2, i3, i4⟩ := sg_fu_v hr hl x y j (by omega) (by omega)
    have fv := sg_freeOf_v hr (show j < 200 by omega)
    have ln := hr.ln (show j < 200 by omega)
    have ub := hr.2.2.2.2.1 j (by omega)
    have lb := (hl.1 j (by omega)).2.2
    rw [sg_freeFrom_6, sg_unitsUpTo_6, sg_sum]
    by_cases c1 : P 40 j = x
    · rw [if_pos c1, if_pos c1, if_pos c1]
      by_cases c2 : P 41 j = y
      · have c3 : ¬ ((1000000 : Int32) < P 44 j) := by
          rw [sg_lts]
          have e9 : (1000000 : Int32).toInt = 1000000 := by decide
          omega
        rw [if_pos c2, if_pos c2, if_pos c2, if_neg c3]
        have e : (sg_unitsUpTo_6 P x y 1000000 j + P 42 j).toInt = (sg_unitsUpTo_6 P x y 1000000 j).toInt + (P 42 j).toInt := sg_add (by omega) (by omega)
        by_cases c4 : P 44 j < 0
        · rw [if_pos c4]
          exact ⟨i1, by omega, by omega, by omega⟩
        · rw [if_neg c4]
          have e2 : (sg_freeFrom_6 P x y 0 j + sg_freeOf P j).toInt = (sg_freeFrom_6 P x y 0 j).toInt + (sg_freeOf P j).toInt := sg_add (by omega) (by omega)
          exact ⟨by omega, by omega, by omega, by omega⟩
      · rw [if_neg c2, if_neg c2, if_neg c2]
        exact ⟨i1, i2, by omega, by omega⟩
    · rw [if_neg c1, if_neg c1, if_neg c1]
      exact ⟨i1, i2, by omega, by omega⟩
theorem sg_free_0 {k d ni ns : Nat} {fp : Nat → Int32} {P : sg_Pic} {i s : Nat} (hB : sg_B k d ni ns fp P) (_hi : i < ni) (_hs : s < ns) : ¬ (sg_freeAt P (nI i) (nI s) < 0) := by
  unfold sg_freeAt sg_freeFrom
  rw [sg_lts, sg_z0]
  have q := (sg_fu_v hB.V.R hB.V.LI (nI i) (nI s) _ (Nat.le_refl _) hB.W.n3).1
  omega
theorem sg_free_1 {k d ni ns : Nat} {fp : Nat → Int32} {P : sg_Pic} {i s : Nat} (hB : sg_B k d ni ns fp P) (_hi : i < ni) (_hs : s < ns) : ¬ (sg_unitsAt P (nI i) (nI s) < sg_freeAt P (nI i) (nI s)) := by
  unfold sg_freeAt sg_freeFrom sg_unitsAt sg_unitsUpTo
  rw [sg_lts]
  have q := (sg_fu_v hB.V.R hB.V.LI (nI i) (nI s) _ (Nat.le_refl _) hB.W.n3).2.1
  omega
theorem sg_room_0 {k d ni ns : Nat} {fp : Nat → Int32} {P : sg_Pic} {s : Nat} (hB : sg_B k d ni ns fp P) (hs : s < ns) : 0 ≤ sg_roomAt P (nI s) := by
  have c2 := hB.c2
  have hs2 : s < sg_cn P 2 := by omega
  rw [sg_le, sg_z0, sg_roomAt_v hB.W hB.V.R hB.V.LI hB.V.SI hs2]
  have q := (hB.V.SI s hs2).1
  omega
theorem sg_lot_0 {k d ni ns : Nat} {fp : Nat → Int32} {P : sg_Pic} {x : Nat} (hB : sg_B k d ni ns fp P) (hx : x < sg_cn P 3) : ¬ (sg_ltell P x 3 < 0) := by
  have h3 := hB.W.n3
  have e : sg_ltell P x 3 = P 43 x := rfl
  have q := hB.V.R.ln (show x < 200 by omega)
  rw [e, sg_lts, sg_z0]
  omega
theorem sg_lot_1 {k d ni ns : Nat} {fp : Nat → Int32} {P : sg_Pic} {x : Nat} (hB : sg_B k d ni ns fp P) (hx : x < sg_cn P 3) : ¬ (sg_ltell P x 2 < sg_ltell P x 3) := by
  have h3 := hB.W.n3
  have e : sg_ltell P x 3 = P 43 x := rfl
  have e2 : sg_ltell P x 2 = P 42 x := rfl
  have q := (hB.V.R.2.2.2.2.1 x (by omega)).1
  rw [e, e2, sg_lts]
  omega
theorem sg_lot_2 {k d ni ns : Nat} {fp : Nat → Int32} {P : sg_Pic} {x : Nat} (hB : sg_B k d ni ns fp P) (hx : x < sg_cn P 3) (c : ¬ (sg_ltell P x 2 ≤ 0)) : P 0 0 ≤ sg_ltell P x 4 := by
  have h3 := hB.W.n3
  have e : sg_ltell P x 4 = P 44 x := rfl
  have e2 : sg_ltell P x 2 = P 42 x := rfl
  rw [e2] at c
  have q := hB.LA x (by omega) (sg_pos c)
  rw [sg_lts] at q
  rw [e, sg_le]
  omega
theorem sg_ord_0 {k d ni ns : Nat} {fp : Nat → Int32} {P : sg_Pic} {o : Nat} (hB : sg_B k d ni ns fp P) (ho : o < sg_cn P 4) (_c : sg_otell P o 0 = 0) : ¬ (sg_otell P o 1 < sg_otell P o 2) := by
  have h4 := hB.W.n4
  have e : sg_otell P o 1 = P 52 o := rfl
  have e2 : sg_otell P o 2 = P 53 o := rfl
  have q := (hB.V.R.2.2.2.2.2 o (by omega)).1
  rw [e, e2, sg_lts]
  omega
theorem sg_ord_1 {k d ni ns : Nat} {fp : Nat → Int32} {P : sg_Pic} {o : Nat} (hB : sg_B k d ni ns fp P) (ho : o < sg_cn P 4) (c : ¬ (sg_otell P o 0 = 0)) : ¬ (0 < sg_otell P o 2) := by
  have h4 := hB.W.n4
  have e : sg_otell P o 0 = P 57 o := rfl
  have e2 : sg_otell P o 2 = P 53 o := rfl
  rw [e] at c
  have q := hB.V.R.2.1 o (by omega)
  have z : sg_sum (fun x => sg_h P o x) 200 = 0 := sg_sum_zero 200 (fun x hx => by
    by_cases e : sg_h P o x = 0
    · exact e
    · exact absurd (hB.V.R.2.2.2.1 o x (by omega) hx e).1 c)
  rw [e2, sg_lts, sg_z0]
  omega
theorem sg_ord_2 {k d ni ns : Nat} {fp : Nat → Int32} {P : sg_Pic} {o : Nat} (hB : sg_B k d ni ns fp P) (ho : o < sg_cn P 4) (c : sg_otell P o 0 = 1) : ¬ (sg_otell P o 4 < 0) := by
  have e : sg_otell P o 0 = P 57 o := rfl
  have e2 : sg_otell P o 4 = P 58 o := rfl
  rw [e] at c
  have q := (hB.V.OI.1 o ho).2.mp c
  rw [e2, sg_lts, sg_z0]
  omega
theorem sg_ord_3 {k d ni ns : Nat} {fp : Nat → Int32} {P : sg_Pic} {o : Nat} (hB : sg_B k d ni ns fp P) (ho : o < sg_cn P 4) (c : ¬ (sg_otell P o 0 = 1)) : ¬ ¬ (sg_otell P o 4 < 0) := by
  have e : sg_otell P o 0 = P 57 o := rfl
  have e2 : sg_otell P o 4 = P 58 o := rfl
  rw [e] at c
  intro q
  rw [e2, sg_lts, sg_z0] at q
  exact c ((hB.V.OI.1 o ho).2.mpr (by omega))
