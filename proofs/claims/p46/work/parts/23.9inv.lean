/-! what always holds of a stock -/
def sg_pr (P : sg_Pic) (x : Int32) : Int := (sg_priceOf P x).toInt
/-- what lies there, what is under way, what was shipped, in prices -/
def sg_ML (P : sg_Pic) : Int := sg_sum (fun x => (P 42 x).toInt * sg_pr P (P 40 x)) 200
def sg_MT (P : sg_Pic) : Int := sg_sum (fun t => (if P 65 t = 1 then (P 62 t).toInt else 0) * sg_pr P (P 60 t)) 90
def sg_ME (P : sg_Pic) : Int := sg_sum (fun o => (if P 57 o = 1 then (P 52 o).toInt else 0) * sg_pr P (P 50 o)) 60
/-- how many transports are moving -/
def sg_mv (P : sg_Pic) : Int := sg_sum (fun t => if P 65 t = 1 then 1 else 0) 90
/-- the units at a site -/
def sg_us (P : sg_Pic) (s : Nat) : Int := sg_sum (fun x => if P 41 x = nI s then (P 42 x).toInt else 0) 200
def sg_PI (P : sg_Pic) : Prop :=
  (∀ i, i < 6 → (0 ≤ (P 11 i).toInt ∧ (P 11 i).toInt ≤ 20) ∧ (0 ≤ (P 12 i).toInt ∧ (P 12 i).toInt ≤ 20) ∧ (0 ≤ (P 10 i).toInt ∧ (P 10 i).toInt ≤ 99)) ∧
  (∀ k, k < 30 → (0 ≤ (P 31 k).toInt ∧ (P 31 k).toInt ≤ (P 32 k).toInt) ∧ (0 ≤ (P 32 k).toInt ∧ (P 32 k).toInt ≤ 20) ∧ (0 ≤ (P 34 k).toInt ∧ (P 34 k).toInt ≤ 20)) ∧
  (∀ k, k < 25 → 0 ≤ (P 21 k).toInt ∧ (P 21 k).toInt ≤ 9)
def sg_LI (P : sg_Pic) : Prop :=
  (∀ x, x < sg_cn P 3 → (∃ i, i < sg_cn P 1 ∧ P 40 x = nI i) ∧ (∃ s, s < sg_cn P 2 ∧ P 41 x = nI s) ∧ (P 44 x).toInt ≤ 5000) ∧
  (∀ x, sg_cn P 3 ≤ x → x < 200 → P 42 x = 0)
def sg_TI (P : sg_Pic) : Prop :=
  (∀ t, t < sg_cn P 5 → (∃ i, i < sg_cn P 1 ∧ P 60 t = nI i) ∧ (∃ s, s < sg_cn P 2 ∧ P 61 t = nI s) ∧ (0 ≤ (P 62 t).toInt ∧ (P 62 t).toInt ≤ 1300 ∧ (P 64 t).toInt ≤ 5000)) ∧
  (∀ t, sg_cn P 5 ≤ t → t < 90 → P 65 t = 0)
def sg_SI (P : sg_Pic) : Prop := ∀ s, s < sg_cn P 2 → sg_us P s ≤ (P 20 s).toInt ∧ (P 20 s).toInt ≤ 9999
def sg_OI (P : sg_Pic) : Prop := (∀ o, o < sg_cn P 4 → (P 57 o = 0 ∨ P 57 o = 1) ∧ (P 57 o = 1 ↔ 0 ≤ (P 58 o).toInt)) ∧ (∀ o, sg_cn P 4 ≤ o → o < 60 → P 57 o = 0)
def sg_MI (P : sg_Pic) : Prop := (P 70 4).toInt = 2 * sg_ME P ∧ (P 70 3).toInt = sg_ML P + sg_MT P + sg_ME P + (P 70 1).toInt ∧ 0 ≤ (P 70 1).toInt
/-- no lot with units is past its last day -/
def sg_LA (P : sg_Pic) : Prop := ∀ x, x < 200 → 0 < (P 42 x).toInt → ¬ (P 44 x < P 0 0)
def sg_DI (d : Nat) (P : sg_Pic) : Prop := P 0 0 = nI d
/-- bounds that grow with the steps taken and the days -/
def sg_CI (k : Nat) (P : sg_Pic) : Prop := (sg_cn P 3 : Int) + sg_mv P ≤ (k : Int) + (sg_cn P 5 : Int) ∧ (sg_cn P 4 ≤ k ∧ k ≤ 50) ∧ (P 70 3).toInt ≤ 26000 * ((k : Int) + (sg_cn P 5 : Int))
def sg_AI (d : Nat) (P : sg_Pic) : Prop := (0 ≤ (P 70 0).toInt ∧ (P 70 0).toInt ≤ 5200000 * (d : Int)) ∧ (0 ≤ (P 70 2).toInt ∧ (P 70 2).toInt ≤ 1200 * (d : Int))
/-- all of it but what is reserved, the days and the counts of days -/
def sg_J (P : sg_Pic) : Prop := sg_PI P ∧ sg_LI P ∧ sg_TI P ∧ sg_SI P ∧ sg_OI P ∧ sg_MI P
/-- three rows put in the place of those of a picture -/
def sg_put3 (P : sg_Pic) (f g h : Nat → Int32) : sg_Pic := fun r => match r with
  | 43 => f
  | 53 => g
  | 59 => h
  | r => P r
theorem sg_put3_eq {P Q : sg_Pic} (h : ∀ r, r ≠ 43 → r ≠ 53 → r ≠ 59 → Q r = P r) : Q = sg_put3 P (Q 43) (Q 53) (Q 59) := funext fun r => by
  by_cases c1 : r = 43
  · subst c1
    rfl
  · by_cases c2 : r = 53
    · subst c2
      rfl
    · by_cases c3 : r = 59
      · subst c3
        rfl
      · rw [h r c1 c2 c3]
        unfold sg_put3
        split
        · exact absurd rfl c1
        · exact absurd rfl c2
        · exact absurd rfl c3
        · rfl
theorem sg_J.put3 {P Q : sg_Pic} (hJ : sg_J P) (h : ∀ r, r ≠ 43 → r ≠ 53 → r ≠ 59 → Q r = P r) : sg_J Q := by
  rw [sg_put3_eq h]
  exact hJ
theorem sg_LA.put3 {P Q : sg_Pic} (hJ : sg_LA P) (h : ∀ r, r ≠ 43 → r ≠ 53 → r ≠ 59 → Q r = P r) : sg_LA Q := by
  rw [sg_put3_eq h]
  exact hJ
theorem sg_DI.put3 {d : Nat} {P Q : sg_Pic} (hJ : sg_DI d P) (h : ∀ r, r ≠ 43 → r ≠ 53 → r ≠ 59 → Q r = P r) : sg_DI d Q := by
  rw [sg_put3_eq h]
  exact hJ
theorem sg_CI.put3 {k : Nat} {P Q : sg_Pic} (hJ : sg_CI k P) (h : ∀ r, r ≠ 43 → r ≠ 53 → r ≠ 59 → Q r = P r) : sg_CI k Q := by
  rw [sg_put3_eq h]
  exact hJ
theorem sg_AI.put3 {d : Nat} {P Q : sg_Pic} (hJ : sg_AI d P) (h : ∀ r, r ≠ 43 → r ≠ 53 → r ≠ 59 → Q r = P r) : sg_AI d Q := by
  rw [sg_put3_eq h]
  exact hJ
theorem sg_W.put3 {P Q : sg_Pic} (hJ : sg_W P) (h : ∀ r, r ≠ 43 → r ≠ 53 → r ≠ 59 → Q r = P r) : sg_W Q := by
  rw [sg_put3_eq h]
  exact hJ
theorem sg_pr_b {P : sg_Pic} (hw : sg_W P) (h : sg_PI P) (x : Int32) : 0 ≤ sg_pr P x ∧ sg_pr P x ≤ 20 := by
  unfold sg_pr sg_priceOf
  split
  · decide
  · rename_i c
    have h1 := (sg_hasI hw c).2
    have h6 := hw.n1
    exact (h.1 _ (by omega)).1
theorem sg_ML_nn {P : sg_Pic} (hw : sg_W P) (hp : sg_PI P) (hr : sg_RI P) : 0 ≤ sg_ML P := sg_sum_nn 200 (fun x hx => Int.mul_nonneg (hr.un hx) (sg_pr_b hw hp _).1)
theorem sg_MT_nn {P : sg_Pic} (hw : sg_W P) (hp : sg_PI P) (ht : sg_TI P) : 0 ≤ sg_MT P := sg_sum_nn 90 (fun t h => by
  refine Int.mul_nonneg ?_ (sg_pr_b hw hp _).1
  split
  · rename_i c
    rcases Nat.lt_or_ge t (sg_cn P 5) with q | q
    · exact (ht.1 t q).2.2.1
    · rw [ht.2 t q h] at c
      exact absurd c (by decide)
  · exact Int.le_refl 0)
theorem sg_ME_nn {P : sg_Pic} (hw : sg_W P) (hp : sg_PI P) (hr : sg_RI P) : 0 ≤ sg_ME P := sg_sum_nn 60 (fun o ho => by
  refine Int.mul_nonneg ?_ (sg_pr_b hw hp _).1
  split
  · have a := hr.on ho
    have b := (hr.2.2.2.2.2 o ho).1
    omega
  · exact Int.le_refl 0)
