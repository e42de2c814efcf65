/-! what the law's questions come to -/
/-- a stock with items and sites alone keeps all -/
theorem sg_F0.B {k ni ns : Nat} {fp : Nat → Int32} {P : sg_Pic} (h : sg_F0 ni ns P) (hk : k ≤ 50) (hf : ∀ i, i < ni → fp i = P 11 i) : sg_B k 0 ni ns fp P := by
  obtain ⟨c1, c2, c3, c4, c5, c6⟩ := h.2.1
  have z := h.2.2.2.2
  have zz : ∀ r i, 21 ≤ r → (P r i).toInt = 0 := fun r i hr => by
    rw [z r hr]
    rfl
  have zv : ∀ r i, 21 ≤ r → P r i = 0 := fun r i hr => by
    rw [z r hr]
    rfl
  have hh : ∀ o x, sg_h P o x = 0 := fun o x => zz 59 _ (by decide)
  have hp : ∀ x, sg_pr P x * 0 = 0 := fun x => Int.mul_zero _
  have eML : sg_ML P = 0 := sg_sum_zero 200 (fun x _ => by rw [zz 42 x (by decide), Int.zero_mul])
  have eMT : sg_MT P = 0 := sg_sum_zero 90 (fun x _ => by rw [zv 65 x (by decide), if_neg (by decide), Int.zero_mul])
  have eME : sg_ME P = 0 := sg_sum_zero 60 (fun x _ => by rw [zv 57 x (by decide), if_neg (by decide), Int.zero_mul])
  have emv : sg_mv P = 0 := sg_sum_zero 90 (fun x _ => by rw [zv 65 x (by decide), if_neg (by decide)])
  refine ⟨⟨h.1, ⟨fun o x _ _ => by rw [hh]; exact Int.le_refl 0, fun o _ => ?_, fun x _ => ?_, fun o x _ _ hne => absurd (hh o x) hne, fun x _ => ?_, fun o _ => ?_⟩, ⟨⟨h.2.2.1, fun k _ => ?_, fun k _ => ?_⟩, ⟨fun x hx => ?_, fun x _ _ => zv 42 x (by decide)⟩, ⟨fun t ht => ?_, fun t _ _ => zv 65 t (by decide)⟩, fun s hs => ?_, ⟨fun o ho => ?_, fun o _ _ => zv 57 o (by decide)⟩, ?_, ?_, ?_⟩, ⟨?_, ⟨?_, hk⟩, ?_⟩, ?_⟩, fun x _ hx => ?_, ⟨⟨?_, ?_⟩, ?_, ?_⟩, c1, c2, hf⟩
  · rw [zz 53 o (by decide)]
    exact (sg_sum_zero 200 (fun x _ => hh o x)).symm
  · rw [zz 43 x (by decide)]
    exact (sg_sum_zero 60 (fun o _ => hh o x)).symm
  · rw [zz 43 x (by decide), zz 42 x (by decide)]
    decide
  · rw [zz 53 o (by decide), zz 52 o (by decide)]
    decide
  · rw [zz 31 k (by decide), zz 32 k (by decide), zz 34 k (by decide)]
    decide
  · rw [zz 21 k (by decide)]
    decide
  · omega
  · omega
  · have q := h.2.2.2.1 s (by have := h.1.n2; omega)
    have e : sg_us P s = 0 := sg_sum_zero 200 (fun x _ => by rw [zz 42 x (by decide)]; split <;> rfl)
    rw [e]
    exact q
  · omega
  · rw [zz 70 4 (by decide), eME]
    rfl
  · rw [zz 70 3 (by decide), zz 70 1 (by decide), eML, eMT, eME]
    rfl
  · rw [zz 70 1 (by decide)]
    exact Int.le_refl 0
  · rw [emv, c3]
    omega
  · rw [c4]
    exact Nat.zero_le _
  · rw [zz 70 3 (by decide)]
    omega
  · exact c6
  · rw [zz 42 x (by decide)] at hx
    exact absurd hx (by decide)
  · rw [zz 70 0 (by decide)]
    exact Int.le_refl 0
  · rw [zz 70 0 (by decide)]
    omega
  · rw [zz 70 2 (by decide)]
    exact Int.le_refl 0
  · rw [zz 70 2 (by decide)]
    omega
/-! the prices stay as they are -/
theorem sg_ite_11 {c : Prop} [Decidable c] {A B P : sg_Pic} (h1 : A 11 = P 11) (h2 : B 11 = P 11) : (if c then A else B) 11 = P 11 := by
  by_cases h : c
  · rw [if_pos h, h1]
  · rw [if_neg h, h2]
theorem sg_w43_11 {P : sg_Pic} {j2 : Nat} {P2 : sg_Pic} : ∀ j, sg_wasteExpired_43 P j2 P2 j 11 = P2 11
  | 0 => by rw [sg_wasteExpired_43]
  | j + 1 => by rw [sg_wasteExpired_43, sg_hold_f 11 (by decide) (by decide) (by decide), sg_w43_11 j]
theorem sg_wst_11 {P : sg_Pic} {x v : Int32} : sg_waste P x v 11 = P 11 := by
  unfold sg_waste
  rw [sg_up_n (by decide)]
theorem sg_we_11 {P : sg_Pic} : ∀ j, sg_wasteExpired_2 P j 11 = P 11
  | 0 => by rw [sg_wasteExpired_2]
  | j + 1 => by
    have h := sg_we_11 (P := P) j
    rw [sg_wasteExpired_2]
    refine sg_ite_11 h (sg_ite_11 h ?_)
    rw [sg_up_n (by decide), sg_wst_11, sg_w43_11, h]
theorem sg_ladd_11 {P : sg_Pic} {x y z v : Int32} : sg_ladd P x y z v 11 = P 11 := by
  unfold sg_ladd
  refine sg_ite_11 ?_ rfl
  rw [sg_up_n (by decide), sg_up_n (by decide), sg_up_n (by decide), sg_up_n (by decide), sg_up_n (by decide), sg_up_n (by decide)]
theorem sg_takeIn_11 {P : sg_Pic} {x : Nat} : sg_takeIn P x 11 = P 11 := by
  unfold sg_takeIn
  refine sg_ite_11 ?_ (sg_ite_11 (sg_ite_11 ?_ ?_) ?_)
  · rw [sg_wst_11, sg_up_n (by decide)]
  · rw [sg_wst_11, sg_up_n (by decide)]
  · rw [sg_wst_11, sg_ladd_11, sg_up_n (by decide)]
  · rw [sg_wst_11, sg_up_n (by decide)]
theorem sg_ta_11 {P : sg_Pic} : ∀ j, sg_takeArrivals_2 P j 11 = P 11
  | 0 => by rw [sg_takeArrivals_2]
  | j + 1 => by
    have h := sg_ta_11 (P := P) j
    rw [sg_takeArrivals_2]
    exact sg_ite_11 (sg_ite_11 (sg_takeIn_11.trans h) h) h
theorem sg_rf29_11 {P : sg_Pic} {o : Nat} : ∀ (n : Nat) (R : sg_Pic), sg_reserveFor_29 P o n R 11 = R 11
  | 0, R => by rw [sg_reserveFor_29]
  | n + 1, R => by
    rw [sg_reserveFor_29]
    exact sg_ite_11 rfl (sg_ite_11 rfl ((sg_rf29_11 n _).trans (sg_hold_f 11 (by decide) (by decide) (by decide))))
theorem sg_rf_11 {P : sg_Pic} {o : Nat} : sg_reserveFor P o 11 = P 11 := by
  unfold sg_reserveFor
  exact sg_rf29_11 200 P
theorem sg_ra7_11 {P : sg_Pic} : ∀ j, sg_reserveForAll_7 P j 11 = P 11
  | 0 => by rw [sg_reserveForAll_7]
  | j + 1 => by rw [sg_reserveForAll_7, sg_rf_11, sg_ra7_11 j]
theorem sg_so2_11 {P : sg_Pic} {o : Nat} : ∀ j, sg_shipOrder_2 P o j 11 = P 11
  | 0 => by rw [sg_shipOrder_2]
  | j + 1 => by rw [sg_shipOrder_2, sg_up_n (by decide), sg_hold_f 11 (by decide) (by decide) (by decide), sg_so2_11 j]
theorem sg_so_11 {P : sg_Pic} {o : Nat} : sg_shipOrder P o 11 = P 11 := by
  unfold sg_shipOrder
  refine sg_ite_11 ?_ ?_
  · rw [sg_up_n (by decide), sg_up_n (by decide), sg_up_n (by decide), sg_so2_11]
  · rw [sg_up_n (by decide), sg_up_n (by decide), sg_up_n (by decide), sg_up_n (by decide), sg_so2_11]
theorem sg_sd_11 {P : sg_Pic} : ∀ j, sg_serveDueOrders_2 P j 11 = P 11
  | 0 => by rw [sg_serveDueOrders_2]
  | j + 1 => by
    have h := sg_sd_11 (P := P) j
    rw [sg_serveDueOrders_2]
    exact sg_ite_11 (sg_ite_11 h (sg_ite_11 (sg_so_11.trans h) ((sg_up_n (by decide)).trans h))) h
theorem sg_oo_11 {P : sg_Pic} {x y z v : Int32} : sg_orderOutside P x y z v 11 = P 11 := by
  unfold sg_orderOutside
  refine sg_ite_11 (sg_ite_11 rfl ?_) rfl
  rw [sg_up_n (by decide), sg_tadd_f 11 (by decide) (by decide)]
theorem sg_review_11 {P : sg_Pic} {i s : Nat} : sg_review P i s 11 = P 11 := by
  unfold sg_review
  exact sg_ite_11 rfl (sg_ite_11 rfl (sg_ite_11 (sg_ite_11 sg_oo_11 sg_sendUnits_11) rfl))
theorem sg_ra15_11 {P : sg_Pic} {j2 : Nat} {P2 : sg_Pic} : ∀ j, sg_reviewAll_15 P j2 P2 j 11 = P2 11
  | 0 => by rw [sg_reviewAll_15]
  | j + 1 => by rw [sg_reviewAll_15, sg_review_11, sg_ra15_11 j]
theorem sg_ra2_11 {P : sg_Pic} : ∀ j, sg_reviewAll_2 P j 11 = P 11
  | 0 => by rw [sg_reviewAll_2]
  | j + 1 => by rw [sg_reviewAll_2, sg_ra15_11, sg_ra2_11 j]
theorem sg_ch_11 {P : sg_Pic} : ∀ j, sg_countHolding_2 P j 11 = P 11
  | 0 => by rw [sg_countHolding_2]
  | j + 1 => by rw [sg_countHolding_2, sg_up_n (by decide), sg_ch_11 j]
theorem sg_day1_11 {P : sg_Pic} : sg_day1 P 11 = P 11 := by
  unfold sg_day1 sg_countHolding
  rw [sg_ch_11]
  unfold sg_reviewAll
  rw [sg_ra2_11]
  unfold sg_serveDueOrders
  rw [sg_sd_11]
  unfold sg_reserveForAll
  rw [sg_ra7_11]
  unfold sg_takeArrivals
  rw [sg_ta_11]
  unfold sg_wasteExpired
  rw [sg_we_11, sg_up_n (by decide)]
/-! days that go by -/
theorem sg_day1_K (P : sg_Pic) : sg_KD (sg_day1 P) P := by
  have h := sg_liveDays_K P 1
  rw [sg_live_1] at h
  exact h
theorem sg_dnB {k d ni ns : Nat} {fp : Nat → Int32} {P : sg_Pic} (hB : sg_B k d ni ns fp P) : ∀ j, d + j ≤ 300 → sg_B k (d + j) ni ns fp (sg_liveDays_2 P 0 j) ∧ (P 70 0).toInt ≤ (sg_liveDays_2 P 0 j 70 0).toInt ∧ (P 70 2).toInt ≤ (sg_liveDays_2 P 0 j 70 2).toInt
  | 0, _ => by
    rw [sg_live_z]
    exact ⟨hB, Int.le_refl _, Int.le_refl _⟩
  | j + 1, h => by
    obtain ⟨q, q0, q2⟩ := sg_dnB hB j (by omega)
    rw [sg_live_s]
    generalize sg_liveDays_2 P 0 j = R at q q0 q2 ⊢
    obtain ⟨a1, a2, a3, a4, a5⟩ := sg_day1_V q.1 q.2.2.1 (show d + j + 1 ≤ 300 by omega)
    have kd := sg_day1_K R
    have e11 := @sg_day1_11 R
    generalize sg_day1 R = S at a1 a2 a3 a4 a5 kd e11 ⊢
    refine ⟨⟨a1, a2, a3, ?_, ?_, fun i hi => ?_⟩, by omega, by omega⟩
    · unfold sg_cn
      rw [kd.1]
      exact q.c1
    · unfold sg_cn
      rw [kd.2.1]
      exact q.c2
    · rw [e11]
      exact q.2.2.2.2.2 i hi
theorem sg_dn_s {P R : sg_Pic} {j : Nat} (h : R = sg_liveDays_2 P 0 j) : sg_g_pass R 1 = sg_liveDays_2 P 0 (j + 1) := by
  unfold sg_g_pass
  rw [sg_live_1, sg_live_s, h]
theorem sg_dn_W {k d ni ns : Nat} {fp : Nat → Int32} {P R : sg_Pic} {j : Nat} (hB : sg_B k d ni ns fp P) (h : R = sg_liveDays_2 P 0 j) : sg_W R := by
  rw [h]
  exact (sg_liveDays_2_K P 0 j).W hB.W
theorem sg_dn_B {k d ni ns : Nat} {fp : Nat → Int32} {P R : sg_Pic} {j : Nat} (hB : sg_B k d ni ns fp P) (h : R = sg_liveDays_2 P 0 j) (hj : d + j ≤ 300) : sg_B k (d + j) ni ns fp R := by
  rw [h]
  exact (sg_dnB hB j hj).1
theorem sg_dn_d {k d ni ns : Nat} {fp : Nat → Int32} {P R : sg_Pic} {j : Nat} (hB : sg_B k d ni ns fp P) (h : R = sg_liveDays_2 P 0 j) (hj : d + (j + 1) ≤ 300) : sg_g_pass_r R 1 = P 0 0 + nI (j + 1) := by
  have e : sg_g_pass_r R 1 = (sg_g_pass R 1) 0 0 := rfl
  rw [e, sg_dn_s h, show sg_liveDays_2 P 0 (j + 1) 0 0 = nI (d + (j + 1)) from (sg_dnB hB (j + 1) hj).1.V.DI, show P 0 0 = nI d from hB.V.DI]
  apply sg_ext
  rw [sg_add (by rw [nI_toInt (by omega), nI_toInt (by omega)]; omega) (by rw [nI_toInt (by omega), nI_toInt (by omega)]; omega), nI_toInt (by omega), nI_toInt (by omega), nI_toInt (by omega)]
  omega
theorem sg_dn_0 {k d ni ns : Nat} {fp : Nat → Int32} {P R : sg_Pic} {j : Nat} (hB : sg_B k d ni ns fp P) (h : R = sg_liveDays_2 P 0 j) (hj : d + (j + 1) ≤ 300) : ¬ ((sg_g_pass R 1) 70 0 < P 70 0) := by
  rw [sg_dn_s h, sg_lts]
  have := (sg_dnB hB (j + 1) hj).2.1
  omega
theorem sg_dn_2 {k d ni ns : Nat} {fp : Nat → Int32} {P R : sg_Pic} {j : Nat} (hB : sg_B k d ni ns fp P) (h : R = sg_liveDays_2 P 0 j) (hj : d + (j + 1) ≤ 300) : P 70 2 ≤ (sg_g_pass R 1) 70 2 := by
  rw [sg_dn_s h, sg_le]
  exact (sg_dnB hB (j + 1) hj).2.2
theorem sg_dn_h {k d ni ns : Nat} {fp : Nat → Int32} {P R : sg_Pic} {dn ii fr : Nat} (_hB : sg_B k d ni ns fp P) (h : R = sg_liveDays_2 P 0 dn) : sg_unitsAt R (nI ii) (nI fr) = sg_g_onHandIn_r P ii fr dn := by
  unfold sg_g_onHandIn_r sg_liveDays
  rw [h, sg_live_n P 0 dn dn]
/-- the first day of a lack, found day by day -/
def sg_fy (P : sg_Pic) (dy : Nat) : Nat → Int32
  | 0 => -1
  | j + 1 => if 0 ≤ sg_fy P dy j then sg_fy P dy j else if (sg_liveDays_2 P 0 (j + 1)) 70 2 ≤ P 70 2 then sg_fy P dy j else P 0 0 + nI (j + 1)
theorem sg_fy_n {P R : sg_Pic} {dy j : Nat} {x : Int32} (_h : R = sg_liveDays_2 P 0 j) (hx : x = sg_fy P dy j) (c : 0 ≤ x) : x = sg_fy P dy (j + 1) := by
  rw [sg_fy, if_pos (by rw [← hx]; exact c), hx]
theorem sg_fy_s {P R : sg_Pic} {dy j : Nat} {x : Int32} (h : R = sg_liveDays_2 P 0 j) (hx : x = sg_fy P dy j) (c : ¬ (0 ≤ x)) (c2 : (sg_g_pass R 1) 70 2 ≤ P 70 2) : x = sg_fy P dy (j + 1) := by
  rw [sg_dn_s h] at c2
  rw [sg_fy, if_neg (by rw [← hx]; exact c), if_pos c2, hx]
theorem sg_fy_t {P R : sg_Pic} {dy j : Nat} {x : Int32} (h : R = sg_liveDays_2 P 0 j) (hx : x = sg_fy P dy j) (c : ¬ (0 ≤ x)) (c2 : ¬ ((sg_g_pass R 1) 70 2 ≤ P 70 2)) : P 0 0 + nI (j + 1) = sg_fy P dy (j + 1) := by
  rw [sg_dn_s h] at c2
  rw [sg_fy, if_neg (by rw [← hx]; exact c), if_neg c2]
theorem sg_fy_k {P : sg_Pic} {dy j : Nat} (h : 0 ≤ sg_fy P dy j) : ∀ n, sg_fy P dy (j + n) = sg_fy P dy j
  | 0 => rfl
  | n + 1 => by
    have q := sg_fy_k h n
    rw [show j + (n + 1) = (j + n) + 1 from rfl, sg_fy, q, if_pos h]
theorem sg_fy_i {k d ni ns : Nat} {fp : Nat → Int32} {P : sg_Pic} {dy dn : Nat} (hB : sg_B k d ni ns fp P) : ∀ n j, d + (j + n) ≤ 300 → sg_fy P dy j = -1 → sg_fy P dy (j + n) = (if (sg_g_firstShort_30 P dn n (sg_liveDays_2 P 0 j)).1 = 0 then (sg_g_firstShort_30 P dn n (sg_liveDays_2 P 0 j)).2 0 0 else -1)
  | 0, j, _, h => by
    rw [sg_g_firstShort_30]
    dsimp only
    first
    | (rw [if_neg (by decide)]; exact h)
    | exact h
  | n + 1, j, hd, h => by
    have m := (sg_dnB hB (j + 1) (by omega)).2.2
    have di : sg_liveDays_2 P 0 (j + 1) 0 0 = nI (d + (j + 1)) := (sg_dnB hB (j + 1) (by omega)).1.V.DI
    have dp : P 0 0 = nI d := hB.V.DI
    rw [sg_g_firstShort_30, sg_live_1, ← sg_live_s]
    have e1 : sg_fy P dy (j + 1) = if 0 ≤ sg_fy P dy j then sg_fy P dy j else if (sg_liveDays_2 P 0 (j + 1)) 70 2 ≤ P 70 2 then sg_fy P dy j else P 0 0 + nI (j + 1) := by rw [sg_fy]
    rw [h, if_neg (by decide)] at e1
    by_cases c : sg_liveDays_2 P 0 (j + 1) 70 2 = P 70 2
    · rw [if_pos c]
      rw [if_pos (by rw [sg_le, c]; exact Int.le_refl _)] at e1
      have q := sg_fy_i (dy := dy) (dn := dn) hB n (j + 1) (by omega) e1
      rw [← q, show j + 1 + n = j + (n + 1) by omega]
    · rw [if_neg c]
      dsimp only
      first
      | rw [if_pos rfl]
      | skip
      have c2 : ¬ (sg_liveDays_2 P 0 (j + 1) 70 2 ≤ P 70 2) := fun q => c (sg_ext (by have := sg_le.mp q; omega))
      rw [if_neg c2] at e1
      have e2 : P 0 0 + nI (j + 1) = nI (d + (j + 1)) := by
        rw [dp]
        apply sg_ext
        rw [sg_add (by rw [nI_toInt (by omega), nI_toInt (by omega)]; omega) (by rw [nI_toInt (by omega), nI_toInt (by omega)]; omega), nI_toInt (by omega), nI_toInt (by omega), nI_toInt (by omega)]
        omega
      rw [e2] at e1
      have e3 : 0 ≤ sg_fy P dy (j + 1) := by
        rw [e1, sg_le, nI_toInt (by omega), sg_z0]
        omega
      rw [show j + (n + 1) = j + 1 + n by omega, sg_fy_k e3 n, e1]
      exact di.symm
theorem sg_fy_eq {k d ni ns : Nat} {fp : Nat → Int32} {P : sg_Pic} {dy dn : Nat} {x : Int32} (hB : sg_B k d ni ns fp P) (hx : x = sg_fy P dy dn) (h : d + dn ≤ 300) : x = sg_g_firstShort_r P dn := by
  have q := sg_fy_i (dy := dy) (dn := dn) hB dn 0 (by omega) rfl
  rw [Nat.zero_add, sg_live_z] at q
  unfold sg_g_firstShort_r
  rw [hx, q]
theorem sg_eqk {dn j : Nat} (c : nI dn < nI (j + 1)) (hj : j ≤ dn) (hd : dn ≤ 1000) : j = dn := by
  rw [sg_lts, nI_toInt (by omega), nI_toInt (by omega)] at c
  omega
theorem sg_ltk {dn j : Nat} (c : ¬ (nI dn < nI (j + 1))) (h : j ≤ dn ∧ dn ≤ 1000) : j < dn := by
  rw [sg_lts, nI_toInt (by omega), nI_toInt (by omega)] at c
  omega
