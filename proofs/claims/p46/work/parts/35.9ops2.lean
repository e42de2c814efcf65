/-! an order; routes; policies -/
def sg_O10 (P : sg_Pic) (x y z v x5 x6 : Int32) : sg_Pic := sg_up (sg_up (sg_up (sg_up (sg_up (sg_up (sg_up (sg_up (sg_up (sg_up P 50 (sg_cn P 4) x) 51 (sg_cn P 4) y) 52 (sg_cn P 4) z) 53 (sg_cn P 4) 0) 54 (sg_cn P 4) v) 55 (sg_cn P 4) x5) 56 (sg_cn P 4) x6) 57 (sg_cn P 4) 0) 58 (sg_cn P 4) (-1)) 0 4 ((P 0 4) + 1)
theorem sg_oadd_O10 {P : sg_Pic} {x y z v x5 x6 : Int32} (hw : sg_W P) (h : sg_cn P 4 < 60) : sg_oadd P x y z v x5 x6 = sg_O10 P x y z v x5 x6 := by
  unfold sg_oadd
  rw [if_pos (by rw [hw.e4]; exact nI_lt h (by decide))]
  rfl
theorem sg_O10_c4 {P : sg_Pic} {x y z v x5 x6 : Int32} (hw : sg_W P) (h : sg_cn P 4 < 60) : sg_cn (sg_O10 P x y z v x5 x6) 4 = sg_cn P 4 + 1 := by
  show Int32.toNatClampNeg (upd (P 0) 4 ((P 0 4) + 1) 4) = _
  rw [pk_us, hw.e4, nI_1, nI_clamp (by omega)]
theorem sg_O10_h0 {P : sg_Pic} (hr : sg_RI P) (h : sg_cn P 4 < 60) {x : Nat} (hx : x < 200) : sg_h P (sg_cn P 4) x = 0 := by
  by_cases e : sg_h P (sg_cn P 4) x = 0
  · exact e
  · exact absurd (hr.2.2.2.1 _ x h hx e).2.2.2.1 (Nat.lt_irrefl _)
theorem sg_O10_RI {P : sg_Pic} {x y z v x5 x6 : Int32} (hw : sg_W P) (h : sg_cn P 4 < 60) (hr : sg_RI P) (h0 : 0 ≤ z.toInt) (h1 : z.toInt ≤ 20) : sg_RI (sg_O10 P x y z v x5 x6) := by
  refine ⟨hr.1, fun o ho => ?_, hr.2.2.1, fun o x1 ho hx1 hne => ?_, hr.2.2.2.2.1, fun o ho => ?_⟩
  · show (upd (P 53) (sg_cn P 4) 0 o).toInt = sg_sum (fun x => sg_h P o x) 200
    by_cases c : o = sg_cn P 4
    · rw [c, pk_us]
      exact (sg_sum_zero 200 (fun x hx => sg_O10_h0 hr h hx)).symm
    · rw [pk_un c]
      exact hr.2.1 o ho
  · have q := hr.2.2.2.1 o x1 ho hx1 hne
    have c : o ≠ sg_cn P 4 := Nat.ne_of_lt q.2.2.2.1
    refine ⟨?_, ?_, ?_, ?_, q.2.2.2.2⟩
    · show upd (P 57) (sg_cn P 4) 0 o = 0
      rw [pk_un c]
      exact q.1
    · show P 40 x1 = upd (P 50) (sg_cn P 4) x o
      rw [pk_un c]
      exact q.2.1
    · show P 41 x1 = upd (P 51) (sg_cn P 4) y o
      rw [pk_un c]
      exact q.2.2.1
    · rw [sg_O10_c4 hw h]
      have := q.2.2.2.1
      omega
  · show (upd (P 53) (sg_cn P 4) 0 o).toInt ≤ (upd (P 52) (sg_cn P 4) z o).toInt ∧ (upd (P 52) (sg_cn P 4) z o).toInt ≤ 20
    by_cases c : o = sg_cn P 4
    · rw [c, pk_us, pk_us]
      exact ⟨h0, h1⟩
    · rw [pk_un c, pk_un c]
      exact hr.2.2.2.2.2 o ho
theorem sg_O10_ME {P : sg_Pic} {x y z v x5 x6 : Int32} (h : sg_cn P 4 < 60) (ho : sg_OI P) : sg_ME (sg_O10 P x y z v x5 x6) = sg_ME P := by
  refine sg_sum_congr 60 (fun o ho1 => ?_)
  show (if upd (P 57) (sg_cn P 4) 0 o = 1 then (upd (P 52) (sg_cn P 4) z o).toInt else 0) * sg_pr P (upd (P 50) (sg_cn P 4) x o) = (if P 57 o = 1 then (P 52 o).toInt else 0) * sg_pr P (P 50 o)
  by_cases c : o = sg_cn P 4
  · rw [c, pk_us, if_neg (by decide), ho.2 _ (Nat.le_refl _) h, if_neg (by decide), Int.zero_mul, Int.zero_mul]
  · rw [pk_un c, pk_un c, pk_un c]
theorem sg_B.order {k d ni ns i s x y : Nat} {z v : Int32} {fp : Nat → Int32} {P : sg_Pic} (h : sg_B k d ni ns fp P) (hk : k + 1 ≤ 50) (hd : d ≤ 1000) (hi : i < ni) (hs : s < ns) (hx : x ≤ 20) (hy : y ≤ 60) : sg_B (k + 1) d ni ns fp (sg_g_order P i s (nI x) (nI y) z v) := by
  have hV := h.V
  have h4 := h.c4
  have hc := hV.CI
  have ex : (nI x).toInt = x := nI_toInt (by omega)
  have e9 : sg_g_order P i s (nI x) (nI y) z v = sg_reserveFor (sg_O10 P (nI i) (nI s) (nI x) ((P 0 0) + nI y) z v) (sg_cn P 4) := by
    unfold sg_g_order
    rw [sg_oadd_O10 h.W h4]
  rw [e9]
  have hW1 : sg_W (sg_O10 P (nI i) (nI s) (nI x) ((P 0 0) + nI y) z v) := h.W.up4 h4
  have hR1 := sg_O10_RI (x := nI i) (y := nI s) (z := nI x) (v := (P 0 0) + nI y) (x5 := z) (x6 := v) h.W h4 hV.R (by omega) (by omega)
  have b1 : sg_B (k + 1) d ni ns fp (sg_O10 P (nI i) (nI s) (nI x) ((P 0 0) + nI y) z v) := by
    refine ⟨⟨hW1, hR1, ⟨hV.PI, hV.LI, hV.TI, hV.SI, ⟨fun o ho => ?_, fun o c1 c2 => ?_⟩, ?_, ?_, hV.MI.2.2⟩, ⟨?_, ⟨?_, hk⟩, ?_⟩, hV.DI⟩, h.LA, h.2.2.1, h.c1, h.c2, h.2.2.2.2.2⟩
    · rw [sg_O10_c4 h.W h4] at ho
      show (upd (P 57) (sg_cn P 4) 0 o = 0 ∨ upd (P 57) (sg_cn P 4) 0 o = 1) ∧ (upd (P 57) (sg_cn P 4) 0 o = 1 ↔ 0 ≤ (upd (P 58) (sg_cn P 4) (-1) o).toInt)
      by_cases c : o = sg_cn P 4
      · rw [c, pk_us, pk_us]
        exact ⟨Or.inl rfl, by decide⟩
      · rw [pk_un c, pk_un c]
        exact hV.OI.1 o (by omega)
    · rw [sg_O10_c4 h.W h4] at c1
      show upd (P 57) (sg_cn P 4) 0 o = 0
      rw [pk_un (by omega)]
      exact hV.OI.2 o (by omega) c2
    · show (P 70 4).toInt = 2 * sg_ME (sg_O10 P (nI i) (nI s) (nI x) ((P 0 0) + nI y) z v)
      rw [sg_O10_ME h4 hV.OI]
      exact hV.MI.1
    · show (P 70 3).toInt = sg_ML P + sg_MT P + sg_ME (sg_O10 P (nI i) (nI s) (nI x) ((P 0 0) + nI y) z v) + (P 70 1).toInt
      rw [sg_O10_ME h4 hV.OI]
      exact hV.MI.2.1
    · show (sg_cn P 3 : Int) + sg_mv P ≤ ((k + 1 : Nat) : Int) + (sg_cn P 5 : Int)
      have := hc.1
      omega
    · rw [sg_O10_c4 h.W h4]
      have := hc.2.1
      omega
    · show (P 70 3).toInt ≤ 26000 * (((k + 1 : Nat) : Int) + (sg_cn P 5 : Int))
      have := hc.2.2
      omega
  have g := sg_reserveFor_RI (o := sg_cn P 4) hR1 hW1 (by rw [sg_O10_c4 h.W h4]; omega) (by show upd (P 57) (sg_cn P 4) 0 (sg_cn P 4) = 0; exact pk_us)
  exact b1.put3 g.1 g.2
/-- one row put in the place of that of the flags -/
def sg_put30 (P : sg_Pic) (f : Nat → Int32) : sg_Pic := fun r => match r with
  | 30 => f
  | r => P r
theorem sg_put30_eq {P Q : sg_Pic} (h : ∀ r, r ≠ 30 → Q r = P r) : Q = sg_put30 P (Q 30) := funext fun r => by
  by_cases c1 : r = 30
  · subst c1
    rfl
  · rw [h r c1]
    unfold sg_put30
    split
    · exact absurd rfl c1
    · rfl
theorem sg_B.put30 {k d ni ns : Nat} {fp : Nat → Int32} {P Q : sg_Pic} (h : sg_B k d ni ns fp P) (hw : sg_W Q) (f : ∀ r, r ≠ 30 → Q r = P r) : sg_B k d ni ns fp Q := by
  rw [sg_put30_eq f] at hw ⊢
  have hV := h.V
  exact ⟨⟨hw, hV.R, hV.2.2.1, hV.CI, hV.DI⟩, h.2⟩
theorem sg_drop_2_f {P : sg_Pic} {x : Int32} {xt : Nat} : ∀ j r, r ≠ 30 → sg_drop_2 P x xt j r = P r
  | 0, _, _ => rfl
  | j + 1, r, hr => by
    rw [sg_drop_2]
    split
    · rw [sg_up_n hr]
      exact sg_drop_2_f j r hr
    · exact sg_drop_2_f j r hr
theorem sg_B.route {k d ni ns f t x : Nat} {fp : Nat → Int32} {P : sg_Pic} (h : sg_B k d ni ns fp P) (hx : x ≤ 9) : sg_B k d ni ns fp (sg_up P 21 (f * 5 + t) (nI x)) := by
  have hV := h.V
  refine ⟨⟨hV.W, hV.R, ⟨⟨hV.PI.1, hV.PI.2.1, fun k hk => ?_⟩, hV.2.2.1.2⟩, hV.CI, hV.DI⟩, h.2⟩
  show 0 ≤ (upd (P 21) (f * 5 + t) (nI x) k).toInt ∧ (upd (P 21) (f * 5 + t) (nI x) k).toInt ≤ 9
  by_cases c : k = f * 5 + t
  · rw [c, pk_us, nI_toInt (by omega)]
    omega
  · rw [pk_un c]
    exact hV.PI.2.2 k hk
theorem sg_B.setRoute {k d ni ns f t x : Nat} {fp : Nat → Int32} {P : sg_Pic} (h : sg_B k d ni ns fp P) (hf : f < ns) (ht : t < ns) (hx : x ≤ 9) : sg_B k d ni ns fp (sg_g_setRoute P f t (nI x)) := by
  have b := h.route (f := f) (t := t) hx
  unfold sg_g_setRoute
  split
  · exact b.put30 ((sg_drop_K _ _ _).W b.W) (fun r hr => sg_drop_2_f 6 r hr)
  · exact b
theorem sg_B.setPolicy {k d ni ns i s x y v : Nat} {z : Int32} {fp : Nat → Int32} {P : sg_Pic} (h : sg_B k d ni ns fp P) (hi : i < ni) (hs : s < ns) (hx : x ≤ y) (hy : y ≤ 20) (hv : v ≤ 20) : sg_B k d ni ns fp (sg_g_setPolicy P i s (nI x) (nI y) z (nI v)) := by
  have hV := h.V
  have g : sg_B k d ni ns fp (sg_up (sg_up (sg_up (sg_up (sg_up P 30 ((i * 5) + s) 1) 31 ((i * 5) + s) (nI x)) 32 ((i * 5) + s) (nI y)) 33 ((i * 5) + s) z) 34 ((i * 5) + s) (nI v)) := by
    have hw := (sg_KZ.z (P := P) ((i * 5) + s) (v := 1) (Or.inr rfl)).W hV.W
    refine ⟨⟨hw, hV.R, ⟨⟨hV.PI.1, fun k hk => ?_, hV.PI.2.2⟩, hV.2.2.1.2⟩, hV.CI, hV.DI⟩, h.2⟩
    have q := hV.PI.2.1 k hk
    show (0 ≤ (upd (P 31) ((i * 5) + s) (nI x) k).toInt ∧ (upd (P 31) ((i * 5) + s) (nI x) k).toInt ≤ (upd (P 32) ((i * 5) + s) (nI y) k).toInt) ∧ (0 ≤ (upd (P 32) ((i * 5) + s) (nI y) k).toInt ∧ (upd (P 32) ((i * 5) + s) (nI y) k).toInt ≤ 20) ∧ (0 ≤ (upd (P 34) ((i * 5) + s) (nI v) k).toInt ∧ (upd (P 34) ((i * 5) + s) (nI v) k).toInt ≤ 20)
    by_cases c : k = (i * 5) + s
    · rw [c, pk_us, pk_us, pk_us, nI_toInt (by omega), nI_toInt (by omega), nI_toInt (by omega)]
      omega
    · rw [pk_un c, pk_un c, pk_un c]
      exact q
  unfold sg_g_setPolicy
  split <;> exact g
