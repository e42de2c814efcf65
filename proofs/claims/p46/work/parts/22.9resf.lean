/-! reserving for an order, for all of them; shipping -/
theorem sg_firstFree_6_S {P : sg_Pic} {x y z : Int32} : ∀ j, sg_firstFree_6 P x y z j = -1 ∨ ∃ f, f < j ∧ sg_firstFree_6 P x y z j = nI f ∧ P 40 f = x ∧ P 41 f = y ∧ ¬ (P 44 f < z) ∧ ¬ (sg_freeOf P f ≤ 0)
  | 0 => Or.inl rfl
  | j + 1 => by
    have h := sg_firstFree_6_S (P := P) (x := x) (y := y) (z := z) j
    have h1 : sg_firstFree_6 P x y z j = -1 ∨ ∃ f, f < j + 1 ∧ sg_firstFree_6 P x y z j = nI f ∧ P 40 f = x ∧ P 41 f = y ∧ ¬ (P 44 f < z) ∧ ¬ (sg_freeOf P f ≤ 0) := by
      rcases h with h | ⟨f, hf, h⟩
      · exact Or.inl h
      · exact Or.inr ⟨f, by omega, h⟩
    rw [sg_firstFree_6]
    by_cases c1 : P 40 j = x
    · by_cases c2 : P 41 j = y
      · by_cases c3 : P 44 j < z
        · rw [if_pos c1, if_pos c2, if_pos c3]
          exact h1
        · by_cases c4 : sg_freeOf P j ≤ 0
          · rw [if_pos c1, if_pos c2, if_neg c3, if_pos c4]
            exact h1
          · rw [if_pos c1, if_pos c2, if_neg c3, if_neg c4]
            repeat' split
            all_goals first | exact h1 | exact Or.inr ⟨j, by omega, rfl, c1, c2, c3, c4⟩
      · rw [if_pos c1, if_neg c2]
        exact h1
    · rw [if_neg c1]
      exact h1
theorem sg_firstFree_S {P : sg_Pic} {x y z : Int32} (h3 : sg_cn P 3 ≤ 200) (c : ¬ (sg_firstFree P x y z = -1)) : Int32.toNatClampNeg (sg_firstFree P x y z) < sg_cn P 3 ∧ P 40 (Int32.toNatClampNeg (sg_firstFree P x y z)) = x ∧ P 41 (Int32.toNatClampNeg (sg_firstFree P x y z)) = y ∧ ¬ (P 44 (Int32.toNatClampNeg (sg_firstFree P x y z)) < z) ∧ ¬ (sg_freeOf P (Int32.toNatClampNeg (sg_firstFree P x y z)) ≤ 0) := by
  unfold sg_firstFree at c ⊢
  rcases sg_firstFree_6_S (P := P) (x := x) (y := y) (z := z) (sg_cn P 3) with q | ⟨f, hf, q, r⟩
  · exact absurd q c
  · rw [q, nI_clamp (by omega)]
    exact ⟨hf, r⟩
theorem sg_freeOf_v {P : sg_Pic} (h : sg_RI P) {x : Nat} (hx : x < 200) : (sg_freeOf P x).toInt = (P 42 x).toInt - (P 43 x).toInt := by
  have a := h.2.2.2.2.1 x hx
  have b := h.ln hx
  exact sg_sub (by omega) (by omega)
theorem sg_missing_v {P : sg_Pic} (h : sg_RI P) {o : Nat} (ho : o < 60) : (sg_missing P o).toInt = (P 52 o).toInt - (P 53 o).toInt := by
  have a := h.2.2.2.2.2 o ho
  have b := h.on ho
  exact sg_sub (by omega) (by omega)
theorem sg_min_v {x y : Int32} : (if x < y then x else y).toInt ≤ x.toInt ∧ (if x < y then x else y).toInt ≤ y.toInt ∧ ((if x < y then x else y) = x ∨ (if x < y then x else y) = y) := by
  split
  · rename_i h
    have := sg_lts.mp h
    exact ⟨Int.le_refl _, by omega, Or.inl rfl⟩
  · rename_i h
    have : ¬ x.toInt < y.toInt := fun q => h (sg_lts.mpr q)
    exact ⟨by omega, Int.le_refl _, Or.inr rfl⟩
/-- more is held, no more than is free and than is missing -/
theorem sg_take_RI {P : sg_Pic} {o x : Nat} {v : Int32} (h : sg_RI P) (ho : o < 60) (hx : x < 200) (h0 : 0 ≤ v.toInt) (h1 : v.toInt ≤ (sg_freeOf P x).toInt) (h2 : v.toInt ≤ (sg_missing P o).toInt) (h4 : P 57 o = 0 ∧ P 40 x = P 50 o ∧ P 41 x = P 51 o ∧ o < sg_cn P 4 ∧ x < sg_cn P 3) : sg_RI (sg_hold P o x v) := by
  have a := h.1 o x ho hx
  rw [sg_freeOf_v h hx] at h1
  rw [sg_missing_v h ho] at h2
  exact sg_hold_RI h ho hx (by omega) (by omega) (by omega) (fun _ => h4)
theorem sg_rf_RI {P0 : sg_Pic} {o : Nat} (ho : o < 60) : ∀ (n : Nat) (P : sg_Pic), sg_RI P → P 57 o = 0 → o < sg_cn P 4 → sg_cn P 3 ≤ 200 → sg_RI (sg_reserveFor_29 P0 o n P) ∧ (∀ r, r ≠ 43 → r ≠ 53 → r ≠ 59 → sg_reserveFor_29 P0 o n P r = P r)
  | 0, P, h, _, _, _ => by
    rw [sg_reserveFor_29]
    exact ⟨h, fun _ _ _ _ => rfl⟩
  | n + 1, P, h, hs, h4, h3 => by
    rw [sg_reserveFor_29]
    by_cases c1 : sg_missing P o ≤ 0
    · rw [if_pos c1]
      exact ⟨h, fun _ _ _ _ => rfl⟩
    · rw [if_neg c1]
      generalize ((if (P0 54 o) < (P0 0 0) then (P0 0 0) else (P0 54 o)) + (P0 56 o)) = z
      by_cases c2 : sg_firstFree P (P 50 o) (P 51 o) z = -1
      · rw [if_pos c2]
        exact ⟨h, fun _ _ _ _ => rfl⟩
      · rw [if_neg c2]
        obtain ⟨f1, f2, f3, f4, f5⟩ := sg_firstFree_S h3 c2
        generalize Int32.toNatClampNeg (sg_firstFree P (P 50 o) (P 51 o) z) = f at f1 f2 f3 f4 f5 ⊢
        have m := @sg_min_v (sg_freeOf P f) (sg_missing P o)
        generalize (if (sg_freeOf P f) < (sg_missing P o) then (sg_freeOf P f) else (sg_missing P o)) = v at m ⊢
        have p1 : 0 < (sg_freeOf P f).toInt := by
          exact sg_pos f5
        have p2 : 0 < (sg_missing P o).toInt := by
          exact sg_pos c1
        have p0 : 0 ≤ v.toInt := by
          rcases m.2.2 with q | q <;> rw [q] <;> omega
        have g := sg_take_RI h ho (show f < 200 by omega) p0 m.1 m.2.1 ⟨hs, f2, f3, h4, f1⟩
        have e0 : sg_hold P o f v 0 = P 0 := sg_hold_f 0 (by decide) (by decide) (by decide)
        have i := sg_rf_RI (P0 := P0) ho n _ g (by rw [sg_hold_f 57 (by decide) (by decide) (by decide)]; exact hs) (by unfold sg_cn; rw [e0]; exact h4) (by unfold sg_cn; rw [e0]; exact h3)
        exact ⟨i.1, fun r r1 r2 r3 => (i.2 r r1 r2 r3).trans (sg_hold_f r r1 r2 r3)⟩
theorem sg_reserveFor_RI {P : sg_Pic} {o : Nat} (h : sg_RI P) (hw : sg_W P) (ho : o < sg_cn P 4) (hs : P 57 o = 0) : sg_RI (sg_reserveFor P o) ∧ (∀ r, r ≠ 43 → r ≠ 53 → r ≠ 59 → sg_reserveFor P o r = P r) := by
  have h4 := hw.n4
  exact sg_rf_RI (by omega) 200 P h hs ho hw.n3
/-- what stands in the queue: open orders -/
theorem sg_q29p {P : sg_Pic} {q0 : Nat → Int32} {j4 k : Nat} {q4 : Nat → Int32} {R : Int32 → Prop} : ∀ (m : Nat) (q : Nat → Int32), m ≤ k → (∀ p, p < k + 1 → p ≠ m → R (q p)) → ∀ p, p < k + 1 → p ≠ (sg_queue_29 P q0 j4 k q4 m q).1 → R ((sg_queue_29 P q0 j4 k q4 m q).2 p)
  | 0, q, _, h => h
  | m + 1, q, hm, h => by
    rw [sg_queue_29]
    split
    · exact h
    · refine sg_q29p m _ (by omega) (fun p hp hne => ?_)
      by_cases c : p = m + 1
      · subst c
        rw [pk_us]
        exact h m (by omega) (by omega)
      · rw [pk_un c]
        exact h p hp c
theorem sg_q4p {P : sg_Pic} {q : Nat → Int32} : ∀ j, j ≤ 60 → ∀ p, p < (sg_queue_4 P q j).1 → ∃ o, o < j ∧ (sg_queue_4 P q j).2 p = nI o ∧ P 57 o = 0
  | 0, _, p, hp => absurd hp (Nat.not_lt_zero _)
  | j + 1, hj, p, hp => by
    have h := sg_q4p (P := P) (q := q) j (by omega)
    rw [sg_queue_4] at hp ⊢
    by_cases c : P 57 j = 0
    · rw [if_pos c] at hp ⊢
      have hp1 : p < (sg_queue_4 P q j).1 + 1 := hp
      have g := sg_q29p (P := P) (q0 := q) (j4 := j) (k := (sg_queue_4 P q j).1) (q4 := (sg_queue_4 P q j).2) (R := fun v => ∃ o, o < j + 1 ∧ v = nI o ∧ P 57 o = 0) (sg_queue_4 P q j).1 (sg_queue_4 P q j).2 (Nat.le_refl _) (fun p hp hne => by
        obtain ⟨o, ho, e, s⟩ := h p (by omega)
        exact ⟨o, by omega, e, s⟩)
      show ∃ o, o < j + 1 ∧ upd _ _ _ p = nI o ∧ P 57 o = 0
      by_cases cz : p = (sg_queue_29 P q j (sg_queue_4 P q j).1 (sg_queue_4 P q j).2 (sg_queue_4 P q j).1 (sg_queue_4 P q j).2).1
      · rw [← cz, pk_us]
        exact ⟨j, by omega, rfl, c⟩
      · rw [pk_un cz]
        exact g p hp1 cz
    · rw [if_neg c] at hp ⊢
      obtain ⟨o, ho, e⟩ := h p hp
      exact ⟨o, by omega, e⟩
theorem sg_qat_open {P : sg_Pic} (hw : sg_W P) {p : Nat} (hp : p < sg_qlen P) : sg_qat P p < sg_cn P 4 ∧ P 57 (sg_qat P p) = 0 := by
  have h4 := hw.n4
  obtain ⟨o, ho, e, s⟩ := sg_q4p (P := P) (q := fun _ => 0) (sg_cn P 4) h4 p hp
  unfold sg_qat
  rw [e, nI_clamp (by omega)]
  exact ⟨ho, s⟩
theorem sg_rall_RI {P : sg_Pic} (h : sg_RI P) (hw : sg_W P) : ∀ j, j ≤ sg_qlen P → sg_RI (sg_reserveForAll_7 P j) ∧ (∀ r, r ≠ 43 → r ≠ 53 → r ≠ 59 → sg_reserveForAll_7 P j r = P r)
  | 0, _ => ⟨h, fun _ _ _ _ => rfl⟩
  | j + 1, hj => by
    obtain ⟨i1, i2⟩ := sg_rall_RI h hw j (by omega)
    obtain ⟨o1, o2⟩ := sg_qat_open hw (show j < sg_qlen P by omega)
    have e0 := i2 0 (by decide) (by decide) (by decide)
    have k : sg_K (sg_reserveForAll_7 P j) P := sg_reserveForAll_7_K P j
    have g := sg_reserveFor_RI (o := sg_qat P j) i1 (k.W hw) (by rw [k.c 4]; exact o1) (by rw [i2 57 (by decide) (by decide) (by decide)]; exact o2)
    rw [sg_reserveForAll_7]
    exact ⟨g.1, fun r r1 r2 r3 => (g.2 r r1 r2 r3).trans (i2 r r1 r2 r3)⟩
theorem sg_reserveForAll_RI {P : sg_Pic} (h : sg_RI P) (hw : sg_W P) : sg_RI (sg_reserveForAll P) ∧ (∀ r, r ≠ 43 → r ≠ 53 → r ≠ 59 → sg_reserveForAll P r = P r) := sg_rall_RI h hw _ (Nat.le_refl _)
theorem sg_anew_2_RI {P : sg_Pic} (h : sg_RI P) (hw : sg_W P) : ∀ j, j ≤ sg_cn P 4 → sg_RI (sg_g_reserveAnew_2 P j) ∧ (∀ r, r ≠ 43 → r ≠ 53 → r ≠ 59 → sg_g_reserveAnew_2 P j r = P r)
  | 0, _ => ⟨h, fun _ _ _ _ => rfl⟩
  | j + 1, hj => by
    have h4 := hw.n4
    have h3 := hw.n3
    obtain ⟨i1, i2⟩ := sg_anew_2_RI h hw j (by omega)
    have k : sg_K (sg_g_reserveAnew_2 P j) P := sg_g_reserveAnew_2_K P j
    rw [sg_g_reserveAnew_2, sg_release, k.c 3]
    exact ⟨(sg_release_2_RI i1 (show j < 60 by omega) (sg_cn P 3) h3).1, fun r r1 r2 r3 => (sg_release_2_f r r1 r2 r3 _).trans (i2 r r1 r2 r3)⟩
theorem sg_anew_RI {P : sg_Pic} (h : sg_RI P) (hw : sg_W P) : sg_RI (sg_g_reserveAnew P) ∧ (∀ r, r ≠ 43 → r ≠ 53 → r ≠ 59 → sg_g_reserveAnew P r = P r) := by
  obtain ⟨i1, i2⟩ := sg_anew_2_RI h hw _ (Nat.le_refl _)
  have k : sg_K (sg_g_reserveAnew_2 P (sg_cn P 4)) P := sg_g_reserveAnew_2_K P _
  obtain ⟨j1, j2⟩ := sg_reserveForAll_RI i1 (k.W hw)
  exact ⟨j1, fun r r1 r2 r3 => (j2 r r1 r2 r3).trans (i2 r r1 r2 r3)⟩
