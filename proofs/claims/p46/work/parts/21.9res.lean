/-! what is reserved: by order and lot, by order, by lot -/
/-- the units of a lot that are held for an order -/
def sg_h (P : sg_Pic) (o x : Nat) : Int := (P 59 (o * 200 + x)).toInt
def sg_RI (P : sg_Pic) : Prop :=
  (∀ o x, o < 60 → x < 200 → 0 ≤ sg_h P o x) ∧
  (∀ o, o < 60 → (P 53 o).toInt = sg_sum (fun x => sg_h P o x) 200) ∧
  (∀ x, x < 200 → (P 43 x).toInt = sg_sum (fun o => sg_h P o x) 60) ∧
  (∀ o x, o < 60 → x < 200 → sg_h P o x ≠ 0 → P 57 o = 0 ∧ P 40 x = P 50 o ∧ P 41 x = P 51 o ∧ o < sg_cn P 4 ∧ x < sg_cn P 3) ∧
  (∀ x, x < 200 → (P 43 x).toInt ≤ (P 42 x).toInt ∧ (P 42 x).toInt ≤ 1300) ∧
  (∀ o, o < 60 → (P 53 o).toInt ≤ (P 52 o).toInt ∧ (P 52 o).toInt ≤ 20)
theorem sg_RI.o1 {P : sg_Pic} (h : sg_RI P) {o x : Nat} (ho : o < 60) (hx : x < 200) : sg_h P o x ≤ (P 53 o).toInt := by
  rw [h.2.1 o ho]
  exact sg_sum_one (f := fun x => sg_h P o x) 200 (fun i hi => h.1 o i ho hi) x hx
theorem sg_RI.l1 {P : sg_Pic} (h : sg_RI P) {o x : Nat} (ho : o < 60) (hx : x < 200) : sg_h P o x ≤ (P 43 x).toInt := by
  rw [h.2.2.1 x hx]
  exact sg_sum_one (f := fun o => sg_h P o x) 60 (fun i hi => h.1 i x hi hx) o ho
theorem sg_RI.on {P : sg_Pic} (h : sg_RI P) {o : Nat} (ho : o < 60) : 0 ≤ (P 53 o).toInt := by
  rw [h.2.1 o ho]
  exact sg_sum_nn 200 (fun i hi => h.1 o i ho hi)
theorem sg_RI.ln {P : sg_Pic} (h : sg_RI P) {x : Nat} (hx : x < 200) : 0 ≤ (P 43 x).toInt := by
  rw [h.2.2.1 x hx]
  exact sg_sum_nn 60 (fun i hi => h.1 i x hi hx)
theorem sg_RI.un {P : sg_Pic} (h : sg_RI P) {x : Nat} (hx : x < 200) : 0 ≤ (P 42 x).toInt := by
  have h1 := h.ln hx
  have h2 := (h.2.2.2.2.1 x hx).1
  omega
/-- the rows that reserving changes -/
theorem sg_hold_f {P : sg_Pic} {o x : Nat} {v : Int32} (r : Nat) (h1 : r ≠ 43) (h2 : r ≠ 53) (h3 : r ≠ 59) : sg_hold P o x v r = P r := by
  unfold sg_hold
  rw [sg_up_n h1, sg_up_n h2, sg_up_n h3]
theorem sg_hold_59 {P : sg_Pic} {o x : Nat} {v : Int32} : sg_hold P o x v 59 = upd (P 59) (o * 200 + x) ((P 59 (o * 200 + x)) + v) := rfl
theorem sg_hold_53 {P : sg_Pic} {o x : Nat} {v : Int32} : sg_hold P o x v 53 = upd (P 53) o ((P 53 o) + v) := rfl
theorem sg_hold_43 {P : sg_Pic} {o x : Nat} {v : Int32} : sg_hold P o x v 43 = upd (P 43) x ((P 43 x) + v) := rfl
theorem sg_hold_hn {P : sg_Pic} {o x : Nat} {v : Int32} {o1 x1 : Nat} (hx : x < 200) (hx1 : x1 < 200) (h : ¬ (o1 = o ∧ x1 = x)) : sg_h (sg_hold P o x v) o1 x1 = sg_h P o1 x1 := by
  unfold sg_h
  rw [sg_hold_59, pk_un (by omega)]
theorem sg_hold_hs {P : sg_Pic} {o x : Nat} {v : Int32} (h1 : -2147483648 ≤ sg_h P o x + v.toInt) (h2 : sg_h P o x + v.toInt ≤ 2147483647) : sg_h (sg_hold P o x v) o x = sg_h P o x + v.toInt := by
  unfold sg_h at h1 h2 ⊢
  rw [sg_hold_59, pk_us]
  exact sg_add h1 h2
theorem sg_hold_RI {P : sg_Pic} {o x : Nat} {v : Int32} (h : sg_RI P) (ho : o < 60) (hx : x < 200) (h1 : 0 ≤ sg_h P o x + v.toInt) (h2 : (P 43 x).toInt + v.toInt ≤ (P 42 x).toInt) (h3 : (P 53 o).toInt + v.toInt ≤ (P 52 o).toInt)
    (h4 : sg_h P o x + v.toInt ≠ 0 → P 57 o = 0 ∧ P 40 x = P 50 o ∧ P 41 x = P 51 o ∧ o < sg_cn P 4 ∧ x < sg_cn P 3) : sg_RI (sg_hold P o x v) := by
  have a1 := h.o1 ho hx
  have a2 := h.l1 ho hx
  have a3 := h.2.2.2.2.1 x hx
  have a4 := h.2.2.2.2.2 o ho
  have e0 : sg_h (sg_hold P o x v) o x = sg_h P o x + v.toInt := sg_hold_hs (by omega) (by omega)
  have e43 : (sg_hold P o x v 43 x).toInt = (P 43 x).toInt + v.toInt := by
    rw [sg_hold_43, pk_us]
    exact sg_add (by omega) (by omega)
  have e53 : (sg_hold P o x v 53 o).toInt = (P 53 o).toInt + v.toInt := by
    rw [sg_hold_53, pk_us]
    exact sg_add (by omega) (by omega)
  refine ⟨fun o1 x1 ho1 hx1 => ?_, fun o1 ho1 => ?_, fun x1 hx1 => ?_, fun o1 x1 ho1 hx1 hne => ?_, fun x1 hx1 => ?_, fun o1 ho1 => ?_⟩
  · by_cases c : o1 = o ∧ x1 = x
    · obtain ⟨rfl, rfl⟩ := c
      rw [e0]
      exact h1
    · rw [sg_hold_hn hx hx1 c]
      exact h.1 o1 x1 ho1 hx1
  · by_cases c : o1 = o
    · subst c
      rw [e53, h.2.1 o1 ho1]
      refine (sg_sum_in (k := x) e0 (fun i hi => ?_) hx).symm
      by_cases ci : i < 200
      · exact sg_hold_hn hx ci (fun q => hi q.2)
      · unfold sg_h
        rw [sg_hold_59, pk_un (by omega)]
    · rw [sg_hold_53, pk_un c, h.2.1 o1 ho1]
      exact (sg_sum_congr 200 (fun i hi => sg_hold_hn hx hi (fun q => c q.1))).symm
  · by_cases c : x1 = x
    · subst c
      rw [e43, h.2.2.1 x1 hx1]
      exact (sg_sum_in (k := o) e0 (fun i hi => sg_hold_hn hx hx1 (fun q => hi q.1)) ho).symm
    · rw [sg_hold_43, pk_un c, h.2.2.1 x1 hx1]
      exact (sg_sum_congr 60 (fun i hi => sg_hold_hn hx hx1 (fun q => c q.2))).symm
  · by_cases c : o1 = o ∧ x1 = x
    · obtain ⟨rfl, rfl⟩ := c
      rw [e0] at hne
      exact h4 hne
    · rw [sg_hold_hn hx hx1 c] at hne
      exact h.2.2.2.1 o1 x1 ho1 hx1 hne
  · by_cases c : x1 = x
    · subst c
      rw [e43]
      exact ⟨h2, a3.2⟩
    · rw [sg_hold_43, pk_un c]
      exact h.2.2.2.2.1 x1 hx1
  · by_cases c : o1 = o
    · subst c
      rw [e53]
      exact ⟨h3, a4.2⟩
    · rw [sg_hold_53, pk_un c]
      exact h.2.2.2.2.2 o1 ho1
/-- what is held of a lot for an order is given back -/
theorem sg_drop_v {P : sg_Pic} {o x : Nat} (h : sg_RI P) (ho : o < 60) (hx : x < 200) : (-(sg_heldOf P o x)).toInt = -(sg_h P o x) := by
  have h1 := h.1 o x ho hx
  exact sg_neg (show -2147483647 ≤ (P 59 (o * 200 + x)).toInt from by unfold sg_h at h1; omega)
theorem sg_back_RI {P : sg_Pic} {o x : Nat} (h : sg_RI P) (ho : o < 60) (hx : x < 200) : sg_RI (sg_hold P o x (-(sg_heldOf P o x))) ∧ sg_h (sg_hold P o x (-(sg_heldOf P o x))) o x = 0 := by
  have e := sg_drop_v h ho hx
  have a1 := h.1 o x ho hx
  have a3 := h.2.2.2.2.1 x hx
  have a4 := h.2.2.2.2.2 o ho
  refine ⟨sg_hold_RI h ho hx (by omega) (by omega) (by omega) (fun c => absurd (by omega) c), ?_⟩
  rw [sg_hold_hs (by omega) (by omega)]
  omega
/-- all that is held for an order is given back -/
theorem sg_release_2_f {P : sg_Pic} {o : Nat} (r : Nat) (h1 : r ≠ 43) (h2 : r ≠ 53) (h3 : r ≠ 59) : ∀ j, sg_release_2 P o j r = P r
  | 0 => rfl
  | j + 1 => by
    rw [sg_release_2, sg_hold_f r h1 h2 h3]
    exact sg_release_2_f r h1 h2 h3 j
theorem sg_release_2_RI {P : sg_Pic} {o : Nat} (h : sg_RI P) (ho : o < 60) : ∀ j, j ≤ 200 → sg_RI (sg_release_2 P o j) ∧ (∀ x, x < j → sg_h (sg_release_2 P o j) o x = 0) ∧ (∀ o1 x, o1 ≠ o → x < 200 → sg_h (sg_release_2 P o j) o1 x = sg_h P o1 x) ∧ (∀ x, j ≤ x → x < 200 → sg_h (sg_release_2 P o j) o x = sg_h P o x)
  | 0, _ => ⟨h, fun x hx => absurd hx (Nat.not_lt_zero _), fun _ _ _ _ => rfl, fun _ _ _ => rfl⟩
  | j + 1, hj => by
    obtain ⟨r1, r2, r3, r4⟩ := sg_release_2_RI h ho j (by omega)
    have b := sg_back_RI r1 ho (show j < 200 by omega)
    rw [sg_release_2]
    refine ⟨b.1, fun x hx => ?_, fun o1 x hne hx => ?_, fun x h1 h2 => ?_⟩
    · by_cases c : x = j
      · subst c
        exact b.2
      · rw [sg_hold_hn (by omega) (by omega) (fun q => c q.2)]
        exact r2 x (by omega)
    · rw [sg_hold_hn (by omega) hx (fun q => hne q.1)]
      exact r3 o1 x hne hx
    · rw [sg_hold_hn (by omega) h2 (fun q => by omega)]
      exact r4 x (by omega) h2
