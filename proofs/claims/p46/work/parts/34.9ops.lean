/-! what the law asks of the class, one by one -/
def sg_B (k d ni ns : Nat) (fp : Nat → Int32) (P : sg_Pic) : Prop := sg_V k d P ∧ sg_LA P ∧ sg_AI d P ∧ sg_cn P 1 = ni ∧ sg_cn P 2 = ns ∧ (∀ i, i < ni → fp i = P 11 i)
theorem sg_B.V {k d ni ns : Nat} {fp : Nat → Int32} {P : sg_Pic} (h : sg_B k d ni ns fp P) : sg_V k d P := h.1
theorem sg_B.W {k d ni ns : Nat} {fp : Nat → Int32} {P : sg_Pic} (h : sg_B k d ni ns fp P) : sg_W P := h.1.1
theorem sg_B.LA {k d ni ns : Nat} {fp : Nat → Int32} {P : sg_Pic} (h : sg_B k d ni ns fp P) : sg_LA P := h.2.1
theorem sg_B.c1 {k d ni ns : Nat} {fp : Nat → Int32} {P : sg_Pic} (h : sg_B k d ni ns fp P) : sg_cn P 1 = ni := h.2.2.2.1
theorem sg_B.c2 {k d ni ns : Nat} {fp : Nat → Int32} {P : sg_Pic} (h : sg_B k d ni ns fp P) : sg_cn P 2 = ns := h.2.2.2.2.1
theorem sg_V.mono {k d : Nat} {P : sg_Pic} (h : sg_V k d P) (hk : k + 1 ≤ 50) : sg_V (k + 1) d P := by
  have c := h.CI
  exact ⟨h.W, h.R, h.2.2.1, ⟨by have := c.1; omega, ⟨by have := c.2.1; omega, hk⟩, by have := c.2.2; omega⟩, h.DI⟩
theorem sg_B.mono {k d ni ns : Nat} {fp : Nat → Int32} {P : sg_Pic} (h : sg_B k d ni ns fp P) (hk : k + 1 ≤ 50) : sg_B (k + 1) d ni ns fp P := ⟨h.V.mono hk, h.2⟩
theorem sg_B.c3 {k d ni ns : Nat} {fp : Nat → Int32} {P : sg_Pic} (h : sg_B k d ni ns fp P) : sg_cn P 3 < 200 := by
  have c := h.V.CI
  have h5 := h.W.n5
  have m : 0 ≤ sg_mv P := sg_sum_nn 90 (fun t _ => by split <;> decide)
  have := c.1
  have := c.2.1
  omega
theorem sg_B.c4 {k d ni ns : Nat} {fp : Nat → Int32} {P : sg_Pic} (h : sg_B k d ni ns fp P) : sg_cn P 4 < 60 := by
  have := h.V.CI.2.1
  omega
theorem sg_B.receive {k d ni ns i s u v : Nat} {fp : Nat → Int32} {P : sg_Pic} (h : sg_B k d ni ns fp P) (hk : k + 1 ≤ 50) (hd : d ≤ 1000) (hi : i < ni) (hs : s < ns) (hu : u ≤ 1300) (hv : v ≤ 99) (hr : nI u ≤ sg_roomAt P (nI s)) : sg_B (k + 1) d ni ns fp (sg_g_receive P i s (nI u) (nI v)) := by
  have hV := h.V
  have hc1 := h.c1
  have hc2 := h.c2
  have h2 := h.W.n2
  have h5 := h.W.n5
  have hc := hV.CI
  have eu : (nI u).toInt = u := nI_toInt (by omega)
  have ev : (nI v).toInt = v := nI_toInt (by omega)
  have ed : (P 0 0).toInt = d := by rw [show P 0 0 = nI d from hV.DI, nI_toInt (by omega)]
  have el : ((P 0 0) + nI v).toInt = (d : Int) + v := by rw [sg_add (by rw [ed, ev]; omega) (by rw [ed, ev]; omega), ed, ev]
  have rv := sg_roomAt_v hV.W hV.R hV.LI hV.SI (s := s) (by omega)
  have hr1 := sg_le.mp hr
  rw [eu, rv] at hr1
  have hp := sg_pr_b hV.W hV.PI (nI i)
  have b0 : 0 ≤ (nI u).toInt * sg_pr P (nI i) := Int.mul_nonneg (by omega) hp.1
  have b1 : (nI u).toInt * sg_pr P (nI i) ≤ 1300 * 20 := Int.mul_le_mul (by omega) hp.2 hp.1 (by decide)
  have m1 := hV.MI.2.1
  have m2 := sg_ML_nn hV.W hV.PI hV.R
  have m3 := sg_MT_nn hV.W hV.PI hV.TI
  have m4 := sg_ME_nn hV.W hV.PI hV.R
  have m5 := hV.MI.2.2
  have hA := hc.2.2
  have hk2 := hc.2.1.2
  have e3 : (nI u * sg_priceOf P (nI i)).toInt = (nI u).toInt * sg_pr P (nI i) := sg_mul (x := nI u) (y := sg_priceOf P (nI i)) (by show -2147483648 ≤ (nI u).toInt * sg_pr P (nI i); omega) (by show (nI u).toInt * sg_pr P (nI i) ≤ _; omega)
  have e4 : ((P 70 3) + (nI u * sg_priceOf P (nI i))).toInt = (P 70 3).toInt + (nI u).toInt * sg_pr P (nI i) := by rw [sg_add (by rw [e3]; omega) (by rw [e3]; omega), e3]
  unfold sg_g_receive
  generalize ((P 70 3) + (nI u * sg_priceOf P (nI i))) = w at e4 ⊢
  have h3 : sg_cn (sg_up P 70 3 w) 3 < 200 := h.c3
  have hW1 : sg_W (sg_up P 70 3 w) := hV.W
  rw [sg_ladd_L5 hW1 h3]
  have eML : sg_ML (sg_L5 (sg_up P 70 3 w) (nI i) (nI s) (nI u) ((P 0 0) + nI v)) = sg_ML P + (nI u).toInt * sg_pr P (nI i) := sg_L5_ML (P := sg_up P 70 3 w) h3 hV.LI
  refine ⟨⟨sg_L5_W hW1 h3, sg_L5_RI hW1 h3 hV.R (by omega) (by omega), ⟨hV.PI, sg_L5_LI hW1 h3 hV.LI (by show i < sg_cn P 1; omega) (by show s < sg_cn P 2; omega) (by rw [el]; omega), hV.TI, sg_L5_SI hW1 h3 hV.LI hV.SI (by show s < sg_cn P 2; omega) (by show sg_us P s + (nI u).toInt ≤ (P 20 s).toInt; omega), hV.OI, ?_, ?_, ?_⟩, ⟨?_, ?_, ?_⟩, hV.DI⟩, sg_L5_LA (P := sg_up P 70 3 w) h.LA (fun q => ?_), ?_, ?_, ?_, h.2.2.2.2.2⟩
  · show (upd (P 70) 3 w 4).toInt = 2 * sg_ME P
    rw [pk_un (by decide)]
    exact hV.MI.1
  · show (upd (P 70) 3 w 3).toInt = sg_ML (sg_L5 (sg_up P 70 3 w) (nI i) (nI s) (nI u) ((P 0 0) + nI v)) + sg_MT P + sg_ME P + (upd (P 70) 3 w 1).toInt
    rw [pk_us, pk_un (by decide), eML, e4]
    omega
  · show 0 ≤ (upd (P 70) 3 w 1).toInt
    rw [pk_un (by decide)]
    exact m5
  · show (sg_cn (sg_L5 (sg_up P 70 3 w) (nI i) (nI s) (nI u) ((P 0 0) + nI v)) 3 : Int) + sg_mv P ≤ ((k + 1 : Nat) : Int) + (sg_cn P 5 : Int)
    rw [sg_L5_c3 hW1 h3]
    have e : sg_cn (sg_up P 70 3 w) 3 = sg_cn P 3 := rfl
    rw [e]
    have := hc.1
    omega
  · show sg_cn P 4 ≤ k + 1 ∧ k + 1 ≤ 50
    have := hc.2.1
    omega
  · show (upd (P 70) 3 w 3).toInt ≤ 26000 * (((k + 1 : Nat) : Int) + (sg_cn P 5 : Int))
    rw [pk_us, e4]
    omega
  · have q1 := sg_lts.mp q
    rw [el] at q1
    have q2 : ((sg_up P 70 3 w) 0 0).toInt = d := ed
    rw [q2] at q1
    omega
  · have a := h.2.2.1
    show (0 ≤ (upd (P 70) 3 w 0).toInt ∧ (upd (P 70) 3 w 0).toInt ≤ 5200000 * (d : Int)) ∧ (0 ≤ (upd (P 70) 3 w 2).toInt ∧ (upd (P 70) 3 w 2).toInt ≤ 1200 * (d : Int))
    rw [pk_un (by decide), pk_un (by decide)]
    exact a
  · exact (sg_L5_c 1 (by decide)).trans hc1
  · exact (sg_L5_c 2 (by decide)).trans hc2
theorem sg_B.put3 {k d ni ns : Nat} {fp : Nat → Int32} {P Q : sg_Pic} (h : sg_B k d ni ns fp P) (hr : sg_RI Q) (f : ∀ r, r ≠ 43 → r ≠ 53 → r ≠ 59 → Q r = P r) : sg_B k d ni ns fp Q := by
  have f0 := f 0 (by decide) (by decide) (by decide)
  refine ⟨h.V.put3 hr f, h.LA.put3 f, h.2.2.1.put3 f, ?_, ?_, ?_⟩
  · unfold sg_cn
    rw [f0]
    exact h.c1
  · unfold sg_cn
    rw [f0]
    exact h.c2
  · rw [f 11 (by decide) (by decide) (by decide)]
    exact h.2.2.2.2.2
theorem sg_B.anew {k d ni ns : Nat} {fp : Nat → Int32} {P : sg_Pic} (h : sg_B k d ni ns fp P) : sg_B k d ni ns fp (sg_g_reserveAnew P) := h.put3 (sg_anew_RI h.V.R h.W).1 (sg_anew_RI h.V.R h.W).2
theorem sg_B.send {k d ni ns i s : Nat} {y v : Int32} {fp : Nat → Int32} {P : sg_Pic} (h : sg_B k d ni ns fp P) (hi : i < ni) (hs : s < ns) (hv : 0 ≤ v.toInt) : sg_B k d ni ns fp (sg_sendUnits P (nI i) y (nI s) v) ∧ 0 ≤ (sg_sendUnits_r P (nI i) y (nI s) v).toInt ∧ (sg_sendUnits_r P (nI i) y (nI s) v).toInt ≤ v.toInt := by
  have hc1 := h.c1
  have hc2 := h.c2
  have g := sg_sendUnits_V (y := y) h.V h.LA (i := i) (s := s) (v := v) (by omega) (by omega) hv
  have k0 : sg_K5 (sg_sendUnits P (nI i) y (nI s) v) P := sg_sendUnits_K _ _ _ _ _
  refine ⟨⟨g.1, g.2.1, ?_, ?_, ?_, ?_⟩, g.2.2.2.1, g.2.2.2.2⟩
  · unfold sg_AI
    rw [g.2.2.1]
    exact h.2.2.1
  · unfold sg_cn
    rw [k0.e 1 (by decide)]
    exact hc1
  · unfold sg_cn
    rw [k0.e 2 (by decide)]
    exact hc2
  · rw [sg_sendUnits_11]
    exact h.2.2.2.2.2
