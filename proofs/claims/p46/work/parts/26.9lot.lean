/-! a new lot -/
def sg_L5 (P : sg_Pic) (x y z v : Int32) : sg_Pic := sg_up (sg_up (sg_up (sg_up (sg_up (sg_up P 40 (sg_cn P 3) x) 41 (sg_cn P 3) y) 42 (sg_cn P 3) z) 43 (sg_cn P 3) 0) 44 (sg_cn P 3) v) 0 3 ((P 0 3) + 1)
theorem sg_ladd_L5 {P : sg_Pic} {x y z v : Int32} (hw : sg_W P) (h : sg_cn P 3 < 200) : sg_ladd P x y z v = sg_L5 P x y z v := by
  unfold sg_ladd
  rw [if_pos (by rw [hw.e3]; exact nI_lt h (by decide))]
  rfl
theorem sg_up3_c {P : sg_Pic} (hw : sg_W P) (h : sg_cn P 3 < 200) : Int32.toNatClampNeg ((P 0 3) + 1) = sg_cn P 3 + 1 := by
  rw [hw.e3, nI_1, nI_clamp (by omega)]
theorem sg_L5_c3 {P : sg_Pic} {x y z v : Int32} (hw : sg_W P) (h : sg_cn P 3 < 200) : sg_cn (sg_L5 P x y z v) 3 = sg_cn P 3 + 1 := by
  show Int32.toNatClampNeg (upd (P 0) 3 ((P 0 3) + 1) 3) = _
  rw [pk_us]
  exact sg_up3_c hw h
theorem sg_L5_c {P : sg_Pic} {x y z v : Int32} (k : Nat) (hk : k ≠ 3) : sg_cn (sg_L5 P x y z v) k = sg_cn P k := by
  show Int32.toNatClampNeg (upd (P 0) 3 ((P 0 3) + 1) k) = Int32.toNatClampNeg (P 0 k)
  rw [pk_un hk]
theorem sg_L5_W {P : sg_Pic} {x y z v : Int32} (hw : sg_W P) (h : sg_cn P 3 < 200) : sg_W (sg_L5 P x y z v) := hw.up3 h
theorem sg_L5_RI {P : sg_Pic} {x y z v : Int32} (hw : sg_W P) (h : sg_cn P 3 < 200) (hr : sg_RI P) (h0 : 0 ≤ z.toInt) (h1 : z.toInt ≤ 1300) : sg_RI (sg_L5 P x y z v) := by
  refine ⟨hr.1, hr.2.1, fun x1 hx1 => ?_, fun o x1 ho hx1 hne => ?_, fun x1 hx1 => ?_, hr.2.2.2.2.2⟩
  · show (upd (P 43) (sg_cn P 3) 0 x1).toInt = sg_sum (fun o => sg_h P o x1) 60
    by_cases c : x1 = sg_cn P 3
    · rw [c, pk_us]
      refine (sg_sum_zero 60 (fun o ho => ?_)).symm
      by_cases e : sg_h P o (sg_cn P 3) = 0
      · exact e
      · exact absurd (hr.2.2.2.1 o _ ho h e).2.2.2.2 (Nat.lt_irrefl _)
    · rw [pk_un c]
      exact hr.2.2.1 x1 hx1
  · have q := hr.2.2.2.1 o x1 ho hx1 hne
    have c : x1 ≠ sg_cn P 3 := Nat.ne_of_lt q.2.2.2.2
    refine ⟨q.1, ?_, ?_, ?_, ?_⟩
    · show upd (P 40) (sg_cn P 3) x x1 = P 50 o
      rw [pk_un c]
      exact q.2.1
    · show upd (P 41) (sg_cn P 3) y x1 = P 51 o
      rw [pk_un c]
      exact q.2.2.1
    · rw [sg_L5_c 4 (by decide)]
      exact q.2.2.2.1
    · rw [sg_L5_c3 hw h]
      have := q.2.2.2.2
      omega
  · show (upd (P 43) (sg_cn P 3) 0 x1).toInt ≤ (upd (P 42) (sg_cn P 3) z x1).toInt ∧ (upd (P 42) (sg_cn P 3) z x1).toInt ≤ 1300
    by_cases c : x1 = sg_cn P 3
    · rw [c, pk_us, pk_us]
      exact ⟨h0, h1⟩
    · rw [pk_un c, pk_un c]
      exact hr.2.2.2.2.1 x1 hx1
theorem sg_L5_LI {P : sg_Pic} {z v : Int32} {i s : Nat} (hw : sg_W P) (h : sg_cn P 3 < 200) (hl : sg_LI P) (hi : i < sg_cn P 1) (hs : s < sg_cn P 2) (hv : v.toInt ≤ 5000) : sg_LI (sg_L5 P (nI i) (nI s) z v) := by
  refine ⟨fun x1 hx1 => ?_, fun x1 h1 h2 => ?_⟩
  · rw [sg_L5_c3 hw h] at hx1
    rw [sg_L5_c 1 (by decide), sg_L5_c 2 (by decide)]
    show (∃ i', i' < sg_cn P 1 ∧ upd (P 40) (sg_cn P 3) (nI i) x1 = nI i') ∧ (∃ s', s' < sg_cn P 2 ∧ upd (P 41) (sg_cn P 3) (nI s) x1 = nI s') ∧ (upd (P 44) (sg_cn P 3) v x1).toInt ≤ 5000
    by_cases c : x1 = sg_cn P 3
    · rw [c, pk_us, pk_us, pk_us]
      exact ⟨⟨i, hi, rfl⟩, ⟨s, hs, rfl⟩, hv⟩
    · rw [pk_un c, pk_un c, pk_un c]
      exact hl.1 x1 (by omega)
  · rw [sg_L5_c3 hw h] at h1
    show upd (P 42) (sg_cn P 3) z x1 = 0
    rw [pk_un (by omega)]
    exact hl.2 x1 (by omega) h2
theorem sg_L5_us {P : sg_Pic} {x z v : Int32} {s s1 : Nat} (h : sg_cn P 3 < 200) (hl : sg_LI P) (hs : s < 2 ^ 31) (hs1 : s1 < 2 ^ 31) : sg_us (sg_L5 P x (nI s) z v) s1 = sg_us P s1 + (if s = s1 then z.toInt else 0) := by
  have e42 : P 42 (sg_cn P 3) = 0 := hl.2 _ (Nat.le_refl _) h
  refine sg_sum_in (k := sg_cn P 3) ?_ (fun i hi => ?_) h
  · show (if upd (P 41) (sg_cn P 3) (nI s) (sg_cn P 3) = nI s1 then (upd (P 42) (sg_cn P 3) z (sg_cn P 3)).toInt else 0) = (if P 41 (sg_cn P 3) = nI s1 then (P 42 (sg_cn P 3)).toInt else 0) + _
    rw [pk_us, pk_us, e42, sg_z0]
    by_cases c : s = s1
    · rw [if_pos (by rw [c]), if_pos c]
      split <;> omega
    · rw [if_neg (fun q => c ((nI_eq hs hs1).mp q)), if_neg c]
      split <;> omega
  · show (if upd (P 41) (sg_cn P 3) (nI s) i = nI s1 then (upd (P 42) (sg_cn P 3) z i).toInt else 0) = _
    rw [pk_un hi, pk_un hi]
theorem sg_L5_pr {P : sg_Pic} {x y z v : Int32} (w : Int32) : sg_pr (sg_L5 P x y z v) w = sg_pr P w := rfl
theorem sg_L5_ML {P : sg_Pic} {x y z v : Int32} (h : sg_cn P 3 < 200) (hl : sg_LI P) : sg_ML (sg_L5 P x y z v) = sg_ML P + z.toInt * sg_pr P x := by
  have e42 : P 42 (sg_cn P 3) = 0 := hl.2 _ (Nat.le_refl _) h
  refine sg_sum_in (k := sg_cn P 3) ?_ (fun i hi => ?_) h
  · show (upd (P 42) (sg_cn P 3) z (sg_cn P 3)).toInt * sg_pr P (upd (P 40) (sg_cn P 3) x (sg_cn P 3)) = (P 42 (sg_cn P 3)).toInt * sg_pr P (P 40 (sg_cn P 3)) + _
    rw [pk_us, pk_us, e42, sg_z0]
    omega
  · show (upd (P 42) (sg_cn P 3) z i).toInt * sg_pr P (upd (P 40) (sg_cn P 3) x i) = _
    rw [pk_un hi, pk_un hi]
theorem sg_L5_LA {P : sg_Pic} {x y z v : Int32} (ha : sg_LA P) (hv : ¬ (v < P 0 0)) : sg_LA (sg_L5 P x y z v) := fun x1 hx1 hp => by
  have hp1 : 0 < (upd (P 42) (sg_cn P 3) z x1).toInt := hp
  show ¬ (upd (P 44) (sg_cn P 3) v x1 < P 0 0)
  by_cases c : x1 = sg_cn P 3
  · rw [c, pk_us]
    exact hv
  · rw [pk_un c]
    rw [pk_un c] at hp1
    exact ha x1 hx1 hp1
theorem sg_L5_SI {P : sg_Pic} {x z v : Int32} {s : Nat} (hw : sg_W P) (h : sg_cn P 3 < 200) (hl : sg_LI P) (hsi : sg_SI P) (hs : s < sg_cn P 2) (hr : sg_us P s + z.toInt ≤ (P 20 s).toInt) : sg_SI (sg_L5 P x (nI s) z v) := fun s1 h1 => by
  rw [sg_L5_c 2 (by decide)] at h1
  have h2 := hw.n2
  rw [sg_L5_us h hl (by omega) (by omega)]
  show sg_us P s1 + (if s = s1 then z.toInt else 0) ≤ (P 20 s1).toInt ∧ (P 20 s1).toInt ≤ 9999
  by_cases c : s = s1
  · subst c
    rw [if_pos rfl]
    exact ⟨hr, (hsi s h1).2⟩
  · rw [if_neg c]
    have := hsi s1 h1
    exact ⟨by omega, this.2⟩
/-- the units at a site, as the class counts them -/
theorem sg_allUnitsAt_v {P : sg_Pic} (hw : sg_W P) (hr : sg_RI P) (hl : sg_LI P) (s : Nat) : (sg_allUnitsAt P (nI s)).toInt = sg_us P s ∧ 0 ≤ sg_us P s ∧ sg_us P s ≤ 260000 := by
  have h3 := hw.n3
  have a := sg_sumI (F := sg_allUnitsAt_4 P (nI s)) (g := fun x => if P 41 x = nI s then (P 42 x).toInt else 0) (B := 1300) (by decide) rfl (sg_cn P 3) (fun j hj => by
    rw [sg_allUnitsAt_4]
    by_cases c : P 41 j = nI s
    · refine ⟨P 42 j, by rw [if_pos c], ?_⟩
      show _ = (if P 41 j = nI s then (P 42 j).toInt else 0)
      rw [if_pos c]
    · refine ⟨0, by rw [if_neg c]; exact (Int32.add_zero _).symm, ?_⟩
      show _ = (if P 41 j = nI s then (P 42 j).toInt else 0)
      rw [if_neg c]
      rfl) (fun j hj => by
    show 0 ≤ (if P 41 j = nI s then (P 42 j).toInt else 0) ∧ (if P 41 j = nI s then (P 42 j).toInt else 0) ≤ 1300
    split
    · exact ⟨hr.un (by omega), (hr.2.2.2.2.1 j (by omega)).2⟩
    · decide) (by omega)
  have t : sg_us P s = sg_sum (fun x => if P 41 x = nI s then (P 42 x).toInt else 0) (sg_cn P 3) := by
    have e := sg_sum_tail (f := fun x => if P 41 x = nI s then (P 42 x).toInt else 0) (n := sg_cn P 3) (200 - sg_cn P 3) (fun i h1 h2 => by
      show (if P 41 i = nI s then (P 42 i).toInt else 0) = 0
      rw [hl.2 i h1 (by omega), sg_z0]
      split <;> rfl)
    rw [show sg_cn P 3 + (200 - sg_cn P 3) = 200 by omega] at e
    exact e
  rw [t]
  exact ⟨a.1, a.2.1, by have := a.2.2; omega⟩
theorem sg_roomAt_v {P : sg_Pic} (hw : sg_W P) (hr : sg_RI P) (hl : sg_LI P) (hsi : sg_SI P) {s : Nat} (hs : s < sg_cn P 2) : (sg_roomAt P (nI s)).toInt = (P 20 s).toInt - sg_us P s := by
  have h2 := hw.n2
  have a := sg_allUnitsAt_v hw hr hl s
  have b := hsi s hs
  unfold sg_roomAt
  rw [if_neg (sg_hasS1 hw hs), nI_clamp (by omega)]
  rw [sg_sub (by rw [a.1]; omega) (by rw [a.1]; omega), a.1]
