/-! a lot's units grow less; sums of ints -/
theorem sg_sumI {F : Nat → Int32} {g : Nat → Int} {B : Int} (hB : 0 ≤ B) (h0 : F 0 = 0) : ∀ n : Nat, (∀ j, j < n → ∃ u : Int32, F (j + 1) = F j + u ∧ u.toInt = g j) → (∀ j, j < n → 0 ≤ g j ∧ g j ≤ B) → B * (n : Int) ≤ 2147483647 → (F n).toInt = sg_sum g n ∧ 0 ≤ sg_sum g n ∧ sg_sum g n ≤ B * (n : Int)
  | 0, _, _, _ => by
    rw [h0]
    simp [sg_sum]
  | n + 1, hs, hb, hn => by
    have e1 : B * ((n + 1 : Nat) : Int) = B * (n : Int) + B := by
      rw [show ((n + 1 : Nat) : Int) = (n : Int) + 1 from rfl, Int.mul_add, Int.mul_one]
    rw [e1] at hn ⊢
    obtain ⟨i1, i2, i3⟩ := sg_sumI hB h0 n (fun j hj => hs j (by omega)) (fun j hj => hb j (by omega)) (by omega)
    obtain ⟨u, e, eu⟩ := hs n (Nat.lt_succ_self n)
    have b := hb n (Nat.lt_succ_self n)
    rw [e, sg_sum]
    refine ⟨?_, by omega, by omega⟩
    rw [sg_add (by omega) (by omega), i1, eu]
theorem sg_u42_RI {P : sg_Pic} {x : Nat} {v : Int32} (h : sg_RI P) (hx : x < 200) (h1 : (P 43 x).toInt ≤ v.toInt) (h2 : v.toInt ≤ 1300) : sg_RI (sg_up P 42 x v) := by
  refine ⟨h.1, h.2.1, h.2.2.1, h.2.2.2.1, fun x1 hx1 => ?_, h.2.2.2.2.2⟩
  show (P 43 x1).toInt ≤ (upd (P 42) x v x1).toInt ∧ (upd (P 42) x v x1).toInt ≤ 1300
  by_cases c : x1 = x
  · subst c
    rw [pk_us]
    exact ⟨h1, h2⟩
  · rw [pk_un c]
    exact h.2.2.2.2.1 x1 hx1
theorem sg_u42_LI {P : sg_Pic} {x : Nat} {v : Int32} (h : sg_LI P) (hv : sg_cn P 3 ≤ x → v = 0) : sg_LI (sg_up P 42 x v) := by
  refine ⟨h.1, fun x1 h1 h2 => ?_⟩
  show upd (P 42) x v x1 = 0
  by_cases c : x1 = x
  · subst c
    rw [pk_us]
    exact hv h1
  · rw [pk_un c]
    exact h.2 x1 h1 h2
theorem sg_u42_us {P : sg_Pic} {x : Nat} {v : Int32} (s : Nat) (h : v.toInt ≤ (P 42 x).toInt) : sg_us (sg_up P 42 x v) s ≤ sg_us P s := by
  refine sg_sum_le 200 (fun i hi => ?_)
  show (if P 41 i = nI s then (upd (P 42) x v i).toInt else 0) ≤ (if P 41 i = nI s then (P 42 i).toInt else 0)
  split
  · by_cases c : i = x
    · subst c
      rw [pk_us]
      exact h
    · rw [pk_un c]
      exact Int.le_refl _
  · exact Int.le_refl 0
theorem sg_u42_SI {P : sg_Pic} {x : Nat} {v : Int32} (hs : sg_SI P) (h : v.toInt ≤ (P 42 x).toInt) : sg_SI (sg_up P 42 x v) := fun s h1 => by
  have a := hs s h1
  have b := sg_u42_us (P := P) (x := x) (v := v) s h
  exact ⟨Int.le_trans b a.1, a.2⟩
theorem sg_u42_ML {P : sg_Pic} {x : Nat} {v : Int32} (hx : x < 200) : sg_ML (sg_up P 42 x v) = sg_ML P - ((P 42 x).toInt - v.toInt) * sg_pr P (P 40 x) := by
  have e : sg_ML (sg_up P 42 x v) = sg_ML P + (-(((P 42 x).toInt - v.toInt) * sg_pr P (P 40 x))) := by
    refine sg_sum_in (k := x) ?_ (fun i hi => ?_) hx
    · show (upd (P 42) x v x).toInt * sg_pr P (P 40 x) = _
      rw [pk_us, Int.sub_mul]
      omega
    · show (upd (P 42) x v i).toInt * sg_pr P (P 40 i) = _
      rw [pk_un hi]
  omega
theorem sg_u42_LA {P : sg_Pic} {x : Nat} {v : Int32} (h : sg_LA P) (h1 : v.toInt ≤ (P 42 x).toInt) : sg_LA (sg_up P 42 x v) := fun x1 hx1 hp => by
  have hp1 : 0 < (upd (P 42) x v x1).toInt := hp
  show ¬ (P 44 x1 < P 0 0)
  by_cases c : x1 = x
  · subst c
    rw [pk_us] at hp1
    exact h x1 hx1 (by omega)
  · rw [pk_un c] at hp1
    exact h x1 hx1 hp1
/-- what is lost is counted -/
theorem sg_waste_v {P : sg_Pic} {x v : Int32} (h : -2147483648 ≤ (P 70 1).toInt + v.toInt * sg_pr P x) (h2 : (P 70 1).toInt + v.toInt * sg_pr P x ≤ 2147483647) (h3 : 0 ≤ v.toInt * sg_pr P x) (h4 : v.toInt * sg_pr P x ≤ 2147483647) : (sg_waste P x v 70 1).toInt = (P 70 1).toInt + v.toInt * sg_pr P x := by
  have e : (v * sg_priceOf P x).toInt = v.toInt * sg_pr P x := sg_mul (by unfold sg_pr at h3; omega) (by unfold sg_pr at h4; omega)
  show (upd (P 70) 1 ((P 70 1) + (v * sg_priceOf P x)) 1).toInt = _
  rw [pk_us, sg_add (by rw [e]; exact h) (by rw [e]; exact h2), e]
theorem sg_waste_o {P : sg_Pic} {x v : Int32} {k : Nat} (hk : k ≠ 1) : sg_waste P x v 70 k = P 70 k := by
  show upd (P 70) 1 _ k = P 70 k
  exact pk_un hk
/-- all that holds but for the days -/
def sg_V (k d : Nat) (P : sg_Pic) : Prop := sg_W P ∧ sg_RI P ∧ sg_J P ∧ sg_CI k P ∧ sg_DI d P
theorem sg_V.W {k d : Nat} {P : sg_Pic} (h : sg_V k d P) : sg_W P := h.1
theorem sg_V.R {k d : Nat} {P : sg_Pic} (h : sg_V k d P) : sg_RI P := h.2.1
theorem sg_V.PI {k d : Nat} {P : sg_Pic} (h : sg_V k d P) : sg_PI P := h.2.2.1.1
theorem sg_V.LI {k d : Nat} {P : sg_Pic} (h : sg_V k d P) : sg_LI P := h.2.2.1.2.1
theorem sg_V.TI {k d : Nat} {P : sg_Pic} (h : sg_V k d P) : sg_TI P := h.2.2.1.2.2.1
theorem sg_V.SI {k d : Nat} {P : sg_Pic} (h : sg_V k d P) : sg_SI P := h.2.2.1.2.2.2.1
theorem sg_V.OI {k d : Nat} {P : sg_Pic} (h : sg_V k d P) : sg_OI P := h.2.2.1.2.2.2.2.1
theorem sg_V.MI {k d : Nat} {P : sg_Pic} (h : sg_V k d P) : sg_MI P := h.2.2.1.2.2.2.2.2
theorem sg_V.CI {k d : Nat} {P : sg_Pic} (h : sg_V k d P) : sg_CI k P := h.2.2.2.1
theorem sg_V.DI {k d : Nat} {P : sg_Pic} (h : sg_V k d P) : sg_DI d P := h.2.2.2.2
theorem sg_V.put3 {k d : Nat} {P Q : sg_Pic} (h : sg_V k d P) (hr : sg_RI Q) (f : ∀ r, r ≠ 43 → r ≠ 53 → r ≠ 59 → Q r = P r) : sg_V k d Q := ⟨h.W.put3 f, hr, h.2.2.1.put3 f, h.CI.put3 f, h.DI.put3 f⟩
/-- the lot's units go down, and what goes is counted as waste -/
theorem sg_lose_V {k d : Nat} {P : sg_Pic} {x : Nat} (h : sg_V k d P) (hx : x < 200) (h0 : (P 43 x).toInt = 0) : sg_V k d (sg_up (sg_waste P (P 40 x) (P 42 x)) 42 x 0) := by
  have hu := h.R.un hx
  have hb := (h.R.2.2.2.2.1 x hx).2
  have hp := sg_pr_b h.W h.PI (P 40 x)
  have m0 : 0 ≤ (P 42 x).toInt * sg_pr P (P 40 x) := Int.mul_nonneg hu hp.1
  have m1 : (P 42 x).toInt * sg_pr P (P 40 x) ≤ sg_ML P := sg_sum_one (f := fun x => (P 42 x).toInt * sg_pr P (P 40 x)) 200 (fun i hi => Int.mul_nonneg (h.R.un hi) (sg_pr_b h.W h.PI _).1) x hx
  have m2 := sg_MT_nn h.W h.PI h.TI
  have m3 := sg_ME_nn h.W h.PI h.R
  have m4 := h.MI.2.1
  have m5 := h.MI.2.2
  have m6 := sg_hi (P 70 3)
  have e1 : (sg_waste P (P 40 x) (P 42 x) 70 1).toInt = (P 70 1).toInt + (P 42 x).toInt * sg_pr P (P 40 x) := sg_waste_v (by omega) (by omega) m0 (by omega)
  have eML : sg_ML (sg_up (sg_waste P (P 40 x) (P 42 x)) 42 x 0) = sg_ML P - (P 42 x).toInt * sg_pr P (P 40 x) := by
    have e := sg_u42_ML (P := sg_waste P (P 40 x) (P 42 x)) (x := x) (v := 0) hx
    rw [sg_z0, Int.sub_zero] at e
    exact e
  refine ⟨h.W, sg_u42_RI (P := sg_waste P (P 40 x) (P 42 x)) h.R hx (by show (P 43 x).toInt ≤ _; rw [h0]; exact Int.le_refl 0) (by decide), ⟨h.PI, sg_u42_LI (P := sg_waste P (P 40 x) (P 42 x)) h.LI (fun _ => rfl), h.TI, sg_u42_SI (P := sg_waste P (P 40 x) (P 42 x)) h.SI (by show (0 : Int32).toInt ≤ (P 42 x).toInt; rw [sg_z0]; exact hu), h.OI, ?_, ?_, ?_⟩, ?_, h.DI⟩
  · show (sg_waste P (P 40 x) (P 42 x) 70 4).toInt = 2 * sg_ME P
    rw [sg_waste_o (by decide)]
    exact h.MI.1
  · show (sg_waste P (P 40 x) (P 42 x) 70 3).toInt = sg_ML (sg_up (sg_waste P (P 40 x) (P 42 x)) 42 x 0) + sg_MT P + sg_ME P + (sg_waste P (P 40 x) (P 42 x) 70 1).toInt
    rw [sg_waste_o (by decide), e1, eML]
    omega
  · show 0 ≤ (sg_waste P (P 40 x) (P 42 x) 70 1).toInt
    rw [e1]
    omega
  · refine ⟨h.CI.1, h.CI.2.1, ?_⟩
    show (sg_waste P (P 40 x) (P 42 x) 70 3).toInt ≤ _
    rw [sg_waste_o (by decide)]
    exact h.CI.2.2
