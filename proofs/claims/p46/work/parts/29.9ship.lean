/-! a day: what is due is shipped, or lacks -/
/-- one lot's part of an order goes -/
theorem sg_shipstep {P : sg_Pic} {o x : Nat} (hw : sg_W P) (hr : sg_RI P) (hl : sg_LI P) (hs : sg_SI P) (ha : sg_LA P) (ho : o < 60) (hx : x < 200) : let Q := sg_up (sg_hold P o x (-(sg_heldOf P o x))) 42 x (((sg_hold P o x (-(sg_heldOf P o x))) 42 x) - (sg_heldOf P o x))
    sg_RI Q ∧ sg_LI Q ∧ sg_SI Q ∧ sg_LA Q ∧ sg_ML Q = sg_ML P - sg_h P o x * sg_pr P (P 50 o) ∧ sg_h Q o x = 0 ∧ (∀ o1 x1, x1 < 200 → ¬ (o1 = o ∧ x1 = x) → sg_h Q o1 x1 = sg_h P o1 x1) ∧ (∀ r, r ≠ 42 → r ≠ 43 → r ≠ 53 → r ≠ 59 → Q r = P r) := by
  intro Q
  have b := sg_back_RI hr ho hx
  have f := fun r c1 c2 c3 => @sg_hold_f P o x (-(sg_heldOf P o x)) r c1 c2 c3
  have hn := fun o1 x1 h1 c => @sg_hold_hn P o x (-(sg_heldOf P o x)) o1 x1 hx h1 c
  have a1 := hr.1 o x ho hx
  have a2 := hr.l1 ho hx
  have a3 := hr.2.2.2.2.1 x hx
  have ev : ((P 42 x) - (sg_heldOf P o x)).toInt = (P 42 x).toInt - sg_h P o x := sg_sub (show -2147483648 ≤ (P 42 x).toInt - sg_h P o x by omega) (show (P 42 x).toInt - sg_h P o x ≤ 2147483647 by omega)
  have e43 : ((sg_hold P o x (-(sg_heldOf P o x))) 43 x).toInt = (P 43 x).toInt - sg_h P o x := by
    have ed := sg_drop_v hr ho hx
    rw [sg_hold_43, pk_us, sg_add (by rw [ed]; omega) (by rw [ed]; omega), ed]
    omega
  have eQ : Q = sg_up (sg_hold P o x (-(sg_heldOf P o x))) 42 x ((P 42 x) - (sg_heldOf P o x)) := rfl
  have f42 : (sg_hold P o x (-(sg_heldOf P o x))) 42 = P 42 := f 42 (by decide) (by decide) (by decide)
  rw [eQ]
  generalize sg_hold P o x (-(sg_heldOf P o x)) = T at b f hn e43 f42 ⊢
  have k0 : sg_put3 P (T 43) (T 53) (T 59) = T := (sg_put3_eq f).symm
  have hlT : sg_LI T := by rw [← k0]; exact hl
  have hsT : sg_SI T := by rw [← k0]; exact hs
  have haT : sg_LA T := by rw [← k0]; exact ha
  have hmT : sg_ML T = sg_ML P := by rw [← k0]; rfl
  have hpT : sg_pr T (T 40 x) = sg_pr P (P 40 x) := by rw [← k0]; rfl
  have u42 : T 42 x = P 42 x := by rw [f42]
  refine ⟨sg_u42_RI b.1 hx (by rw [e43, ev]; omega) (by rw [ev]; omega), sg_u42_LI hlT (fun q => ?_), sg_u42_SI hsT (by rw [ev, u42]; omega), sg_u42_LA haT (by rw [ev, u42]; omega), ?_, b.2, hn, fun r c0 c1 c2 c3 => (sg_up_n c0).trans (f r c1 c2 c3)⟩
  · have e0 : T 42 x = 0 := hlT.2 x q hx
    have e1 : (P 42 x).toInt = 0 := by rw [← u42, e0]; rfl
    apply sg_ext
    rw [ev, sg_z0]
    omega
  · rw [sg_u42_ML hx, hmT, hpT, ev, u42]
    by_cases c : sg_h P o x = 0
    · rw [c]
      simp
    · rw [(hr.2.2.2.1 o x ho hx c).2.1]
      rw [show (P 42 x).toInt - ((P 42 x).toInt - sg_h P o x) = sg_h P o x by omega]
theorem sg_so2 {P : sg_Pic} {o : Nat} (hw : sg_W P) (hr : sg_RI P) (hl : sg_LI P) (hs : sg_SI P) (ha : sg_LA P) (ho : o < 60) : ∀ j, j ≤ 200 → sg_RI (sg_shipOrder_2 P o j) ∧ sg_LI (sg_shipOrder_2 P o j) ∧ sg_SI (sg_shipOrder_2 P o j) ∧ sg_LA (sg_shipOrder_2 P o j) ∧
    sg_ML (sg_shipOrder_2 P o j) = sg_ML P - sg_sum (fun x => sg_h P o x) j * sg_pr P (P 50 o) ∧ (∀ x, x < j → sg_h (sg_shipOrder_2 P o j) o x = 0) ∧ (∀ x, j ≤ x → x < 200 → sg_h (sg_shipOrder_2 P o j) o x = sg_h P o x) ∧ (∀ r, r ≠ 42 → r ≠ 43 → r ≠ 53 → r ≠ 59 → sg_shipOrder_2 P o j r = P r)
  | 0, _ => ⟨hr, hl, hs, ha, by simp [sg_sum, sg_shipOrder_2], fun x hx => absurd hx (Nat.not_lt_zero _), fun _ _ _ => rfl, fun _ _ _ _ _ => rfl⟩
  | j + 1, hj => by
    obtain ⟨i1, i2, i3, i4, i5, i6, i7, i8⟩ := sg_so2 hw hr hl hs ha ho j (by omega)
    have k0 : sg_K (sg_shipOrder_2 P o j) P := sg_shipOrder_2_K _ _ _
    have st := sg_shipstep (k0.W hw) i1 i2 i3 i4 ho (show j < 200 by omega)
    have e7 := i7 j (Nat.le_refl _) (by omega)
    have ep : sg_pr (sg_shipOrder_2 P o j) (sg_shipOrder_2 P o j 50 o) = sg_pr P (P 50 o) := by
      rw [i8 50 (by decide) (by decide) (by decide) (by decide)]
      unfold sg_pr sg_priceOf sg_X0_has
      rw [i8 0 (by decide) (by decide) (by decide) (by decide), i8 11 (by decide) (by decide) (by decide) (by decide)]
    rw [sg_shipOrder_2]
    generalize sg_shipOrder_2 P o j = R at i1 i2 i3 i4 i5 i6 i7 i8 st e7 ep ⊢
    obtain ⟨s1, s2, s3, s4, s5, s6, s7, s8⟩ := st
    refine ⟨s1, s2, s3, s4, ?_, fun x hx => ?_, fun x h1 h2 => ?_, fun r c0 c1 c2 c3 => (s8 r c0 c1 c2 c3).trans (i8 r c0 c1 c2 c3)⟩
    · rw [s5, i5, e7, ep]
      show _ = sg_ML P - (sg_sum (fun x => sg_h P o x) j + sg_h P o j) * sg_pr P (P 50 o)
      rw [Int.add_mul]
      omega
    · by_cases c : x = j
      · subst c
        exact s6
      · rw [s7 o x (by omega) (fun q => c q.2)]
        exact i6 x (by omega)
    · rw [s7 o x h2 (fun q => by omega)]
      exact i7 x (by omega) h2
theorem sg_pr_ext {P Q : sg_Pic} (h0 : P 0 1 = Q 0 1) (h : P 11 = Q 11) (x : Int32) : sg_pr P x = sg_pr Q x := by
  unfold sg_pr sg_priceOf sg_X0_has
  rw [h0, h]
/-- an order's state becomes shipped -/
theorem sg_57_ME {P : sg_Pic} {o : Nat} (ho : o < 60) (h0 : P 57 o = 0) : sg_ME (sg_up P 57 o 1) = sg_ME P + (P 52 o).toInt * sg_pr P (P 50 o) := by
  refine sg_sum_in (k := o) ?_ (fun i hi => ?_) ho
  · show (if upd (P 57) o 1 o = 1 then (P 52 o).toInt else 0) * sg_pr P (P 50 o) = (if P 57 o = 1 then (P 52 o).toInt else 0) * sg_pr P (P 50 o) + _
    rw [pk_us, if_pos rfl, h0, if_neg (by decide), Int.zero_mul]
    omega
  · show (if upd (P 57) o 1 i = 1 then (P 52 i).toInt else 0) * sg_pr P (P 50 i) = _
    rw [pk_un hi]
theorem sg_57_RI {P : sg_Pic} {o : Nat} {v : Int32} (h : sg_RI P) (h0 : ∀ x, x < 200 → sg_h P o x = 0) : sg_RI (sg_up P 57 o v) := by
  refine ⟨h.1, h.2.1, h.2.2.1, fun o1 x ho1 hx hne => ?_, h.2.2.2.2.1, h.2.2.2.2.2⟩
  have hne1 : sg_h P o1 x ≠ 0 := hne
  have q := h.2.2.2.1 o1 x ho1 hx hne1
  refine ⟨?_, q.2⟩
  show upd (P 57) o v o1 = 0
  by_cases c : o1 = o
  · subst c
    exact absurd (h0 x hx) hne1
  · rw [pk_un c]
    exact q.1
