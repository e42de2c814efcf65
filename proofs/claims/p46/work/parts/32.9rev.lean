/-! the stock's position, and what is ordered by it -/
theorem sg_unitsAt_b {P : sg_Pic} (hw : sg_W P) (hr : sg_RI P) (x y : Int32) : 0 ≤ (sg_unitsAt P x y).toInt ∧ (sg_unitsAt P x y).toInt ≤ 260000 := by
  have h3 := hw.n3
  have a := sg_sumI (F := sg_unitsUpTo_6 P x y 1000000) (g := fun j => if P 40 j = x then (if P 41 j = y then (if (1000000 : Int32) < P 44 j then 0 else (P 42 j).toInt) else 0) else 0) (B := 1300) (by decide) rfl (sg_cn P 3) (fun j hj => by
    rw [sg_unitsUpTo_6]
    refine ⟨if P 40 j = x then (if P 41 j = y then (if (1000000 : Int32) < P 44 j then 0 else P 42 j) else 0) else 0, ?_, ?_⟩
    · repeat' split
      all_goals first | rfl | exact (Int32.add_zero _).symm
    · show _ = (if P 40 j = x then (if P 41 j = y then (if (1000000 : Int32) < P 44 j then 0 else (P 42 j).toInt) else 0) else 0)
      repeat' split
      all_goals first | rfl | exact sg_z0) (fun j hj => by
    have h1 := hr.un (show j < 200 by omega)
    have h2 := (hr.2.2.2.2.1 j (by omega)).2
    show 0 ≤ (if P 40 j = x then (if P 41 j = y then (if (1000000 : Int32) < P 44 j then 0 else (P 42 j).toInt) else 0) else 0) ∧ (if P 40 j = x then (if P 41 j = y then (if (1000000 : Int32) < P 44 j then 0 else (P 42 j).toInt) else 0) else 0) ≤ 1300
    repeat' split
    all_goals omega) (by omega)
  have e : (sg_unitsAt P x y) = sg_unitsUpTo_6 P x y 1000000 (sg_cn P 3) := rfl
  rw [e, a.1]
  exact ⟨a.2.1, by have := a.2.2; omega⟩
theorem sg_unitsTo_b {P : sg_Pic} (hw : sg_W P) (ht : sg_TI P) (x y : Int32) : 0 ≤ (sg_unitsTo P x y).toInt ∧ (sg_unitsTo P x y).toInt ≤ 117000 := by
  have h5 := hw.n5
  have a := sg_sumI (F := sg_unitsTo_5 P x y) (g := fun j => if P 65 j = 1 then (if P 60 j = x then (if P 61 j = y then (P 62 j).toInt else 0) else 0) else 0) (B := 1300) (by decide) rfl (sg_cn P 5) (fun j hj => by
    rw [sg_unitsTo_5]
    refine ⟨if P 65 j = 1 then (if P 60 j = x then (if P 61 j = y then P 62 j else 0) else 0) else 0, ?_, ?_⟩
    · repeat' split
      all_goals first | rfl | exact (Int32.add_zero _).symm
    · show _ = (if P 65 j = 1 then (if P 60 j = x then (if P 61 j = y then (P 62 j).toInt else 0) else 0) else 0)
      repeat' split
      all_goals first | rfl | exact sg_z0) (fun j hj => by
    have h1 := (ht.1 j hj).2.2
    show 0 ≤ (if P 65 j = 1 then (if P 60 j = x then (if P 61 j = y then (P 62 j).toInt else 0) else 0) else 0) ∧ (if P 65 j = 1 then (if P 60 j = x then (if P 61 j = y then (P 62 j).toInt else 0) else 0) else 0) ≤ 1300
    repeat' split
    all_goals omega) (by omega)
  have e : (sg_unitsTo P x y) = sg_unitsTo_5 P x y (sg_cn P 5) := rfl
  rw [e, a.1]
  exact ⟨a.2.1, by have := a.2.2; omega⟩
theorem sg_open_b {P : sg_Pic} (hw : sg_W P) (hr : sg_RI P) (x y : Int32) : 0 ≤ (sg_openUnitsFrom P x y).toInt ∧ (sg_openUnitsFrom P x y).toInt ≤ 1200 := by
  have h4 := hw.n4
  have a := sg_sumI (F := sg_openUnitsFrom_5 P x y) (g := fun j => if P 57 j = 0 then (if sg_isFrom P j x y = 0 then 0 else (P 52 j).toInt) else 0) (B := 20) (by decide) rfl (sg_cn P 4) (fun j hj => by
    rw [sg_openUnitsFrom_5]
    refine ⟨if P 57 j = 0 then (if sg_isFrom P j x y = 0 then 0 else P 52 j) else 0, ?_, ?_⟩
    · repeat' split
      all_goals first | rfl | exact (Int32.add_zero _).symm
    · show _ = (if P 57 j = 0 then (if sg_isFrom P j x y = 0 then 0 else (P 52 j).toInt) else 0)
      repeat' split
      all_goals first | rfl | exact sg_z0) (fun j hj => by
    have h1 := hr.on (show j < 60 by omega)
    have h2 := hr.2.2.2.2.2 j (by omega)
    show 0 ≤ (if P 57 j = 0 then (if sg_isFrom P j x y = 0 then 0 else (P 52 j).toInt) else 0) ∧ (if P 57 j = 0 then (if sg_isFrom P j x y = 0 then 0 else (P 52 j).toInt) else 0) ≤ 20
    repeat' split
    all_goals omega) (by omega)
  have e : (sg_openUnitsFrom P x y) = sg_openUnitsFrom_5 P x y (sg_cn P 4) := rfl
  rw [e, a.1]
  exact ⟨a.2.1, by have := a.2.2; omega⟩
theorem sg_pos_v {P : sg_Pic} (hw : sg_W P) (hr : sg_RI P) (ht : sg_TI P) (x y : Int32) : (sg_positionAt P x y).toInt = (sg_unitsAt P x y).toInt + (sg_unitsTo P x y).toInt - (sg_openUnitsFrom P x y).toInt := by
  have a := sg_unitsAt_b hw hr x y
  have b := sg_unitsTo_b hw ht x y
  have c := sg_open_b hw hr x y
  have e : ((sg_unitsAt P x y) + (sg_unitsTo P x y)).toInt = (sg_unitsAt P x y).toInt + (sg_unitsTo P x y).toInt := sg_add (by omega) (by omega)
  unfold sg_positionAt
  rw [sg_sub (by rw [e]; omega) (by rw [e]; omega), e]
theorem sg_pos_b {P : sg_Pic} (hw : sg_W P) (hr : sg_RI P) (ht : sg_TI P) (x y : Int32) : -1200 ≤ (sg_positionAt P x y).toInt ∧ (sg_positionAt P x y).toInt ≤ 377000 := by
  have a := sg_unitsAt_b hw hr x y
  have b := sg_unitsTo_b hw ht x y
  have c := sg_open_b hw hr x y
  rw [sg_pos_v hw hr ht]
  omega
theorem sg_inPacks_b {P : sg_Pic} (hw : sg_W P) (hp : sg_PI P) {x y : Int32} (h0 : 0 < y.toInt) (h1 : y.toInt ≤ 1250) : 0 ≤ (sg_inPacks P x y).toInt ∧ (sg_inPacks P x y).toInt ≤ 1300 := by
  have h6 := hw.n1
  unfold sg_inPacks
  split
  · omega
  · rename_i c
    have hx := (sg_hasI hw c).2
    have pk := (hp.1 (Int32.toNatClampNeg x) (by omega)).2.1
    generalize P 12 (Int32.toNatClampNeg x) = z at pk ⊢
    split
    · rename_i c1
      have c2 := sg_lts.mp c1
      rw [sg_z0] at c2
      obtain ⟨a, ha, rfl⟩ := nI_of (x := y) (fun q => by have := sg_lts.mp q; rw [sg_z0] at this; omega)
      obtain ⟨b, hb, rfl⟩ := nI_of (x := z) (fun q => by have := sg_lts.mp q; rw [sg_z0] at this; omega)
      rw [nI_toInt ha] at h0 h1
      rw [nI_toInt hb] at c2 pk
      have r := sg_rem_b (a := a) (b := b) (by omega) ha hb
      have rb : a % b < b := Nat.mod_lt _ (by omega)
      split
      · rw [nI_toInt ha]
        omega
      · have e1 : (nI a + nI b).toInt = (a : Int) + b := by rw [sg_add (by rw [nI_toInt ha, nI_toInt hb]; omega) (by rw [nI_toInt ha, nI_toInt hb]; omega), nI_toInt ha, nI_toInt hb]
        rw [sg_sub (by rw [e1, r]; omega) (by rw [e1, r]; omega), e1, r]
        omega
    · omega
theorem sg_review_V {k d : Nat} {P : sg_Pic} {i s : Nat} (h : sg_V k d P) (ha : sg_LA P) (hd : d ≤ 1000) (hi : i < sg_cn P 1) (hs : s < sg_cn P 2) : sg_V k d (sg_review P i s) ∧ sg_LA (sg_review P i s) ∧ (sg_review P i s 70 0 = P 70 0 ∧ sg_review P i s 70 2 = P 70 2) := by
  have h1 := h.W.n1
  have h2 := h.W.n2
  have pb := sg_pos_b h.W h.R h.TI (nI i) (nI s)
  have pl := h.PI.2.1 (i * 5 + s) (by omega)
  unfold sg_review
  split
  · exact ⟨h, ha, rfl, rfl⟩
  · split
    · exact ⟨h, ha, rfl, rfl⟩
    · split
      · rename_i c
        have c1 := sg_lts.mp c
        have e1 : ((P 32 ((i * 5) + s)) - (sg_positionAt P (nI i) (nI s))).toInt = (P 32 ((i * 5) + s)).toInt - (sg_positionAt P (nI i) (nI s)).toInt := sg_sub (by omega) (by omega)
        have ib := sg_inPacks_b h.W h.PI (x := nI i) (y := (P 32 ((i * 5) + s)) - (sg_positionAt P (nI i) (nI s))) (by rw [e1]; omega) (by rw [e1]; omega)
        split
        · exact sg_orderOutside_V h ha hd hi hs ib.1 ib.2 pl.2.2.1 pl.2.2.2
        · have g := sg_sendUnits_V (y := P 33 ((i * 5) + s)) h ha hi hs ib.1
          exact ⟨g.1, g.2.1, by rw [g.2.2.1], by rw [g.2.2.1]⟩
      · exact ⟨h, ha, rfl, rfl⟩
theorem sg_rv15_V {k d : Nat} {P P2 : sg_Pic} {i : Nat} (h : sg_V k d P2) (ha : sg_LA P2) (hd : d ≤ 1000) (hi : i < sg_cn P2 1) : ∀ j, j ≤ sg_cn P2 2 → sg_V k d (sg_reviewAll_15 P i P2 j) ∧ sg_LA (sg_reviewAll_15 P i P2 j) ∧ (sg_reviewAll_15 P i P2 j 70 0 = P2 70 0 ∧ sg_reviewAll_15 P i P2 j 70 2 = P2 70 2)
  | 0, _ => ⟨h, ha, rfl, rfl⟩
  | j + 1, hj => by
    obtain ⟨i1, i2, i3⟩ := sg_rv15_V (P := P) h ha hd hi j (by omega)
    have k0 : sg_K5 (sg_reviewAll_15 P i P2 j) P2 := sg_reviewAll_15_K _ _ _ _
    have e1 : sg_cn (sg_reviewAll_15 P i P2 j) 1 = sg_cn P2 1 := by
      unfold sg_cn
      rw [k0.e 1 (by decide)]
    have e2 : sg_cn (sg_reviewAll_15 P i P2 j) 2 = sg_cn P2 2 := by
      unfold sg_cn
      rw [k0.e 2 (by decide)]
    rw [sg_reviewAll_15]
    have g := sg_review_V i1 i2 hd (i := i) (s := j) (by omega) (by omega)
    exact ⟨g.1, g.2.1, g.2.2.1.trans i3.1, g.2.2.2.trans i3.2⟩
theorem sg_rv2_V {k d : Nat} {P : sg_Pic} (h : sg_V k d P) (ha : sg_LA P) (hd : d ≤ 1000) : ∀ j, j ≤ sg_cn P 1 → sg_V k d (sg_reviewAll_2 P j) ∧ sg_LA (sg_reviewAll_2 P j) ∧ (sg_reviewAll_2 P j 70 0 = P 70 0 ∧ sg_reviewAll_2 P j 70 2 = P 70 2)
  | 0, _ => ⟨h, ha, rfl, rfl⟩
  | j + 1, hj => by
    obtain ⟨i1, i2, i3⟩ := sg_rv2_V h ha hd j (by omega)
    have k0 : sg_K5 (sg_reviewAll_2 P j) P := sg_reviewAll_2_K _ _
    have e1 : sg_cn (sg_reviewAll_2 P j) 1 = sg_cn P 1 := by
      unfold sg_cn
      rw [k0.e 1 (by decide)]
    have e2 : sg_cn (sg_reviewAll_2 P j) 2 = sg_cn P 2 := by
      unfold sg_cn
      rw [k0.e 2 (by decide)]
    rw [sg_reviewAll_2]
    have g := sg_rv15_V (P := P) i1 i2 hd (i := j) (by omega) (sg_cn P 2) (by omega)
    exact ⟨g.1, g.2.1, g.2.2.1.trans i3.1, g.2.2.2.trans i3.2⟩
theorem sg_reviewAll_V {k d : Nat} {P : sg_Pic} (h : sg_V k d P) (ha : sg_LA P) (hd : d ≤ 1000) : sg_V k d (sg_reviewAll P) ∧ sg_LA (sg_reviewAll P) ∧ (sg_reviewAll P 70 0 = P 70 0 ∧ sg_reviewAll P 70 2 = P 70 2) := sg_rv2_V h ha hd _ (Nat.le_refl _)
