/-! what lies there and what is under way, in prices -/
theorem sg_ut_v {P : sg_Pic} (ht : sg_TI P) (x y : Int32) : ∀ j, j ≤ sg_cn P 5 → j ≤ 90 → (sg_unitsTo_5 P x y j).toInt = sg_sum (fun t => if P 60 t = x then (if P 61 t = y then (if P 65 t = 1 then (P 62 t).toInt else 0) else 0) else 0) j ∧ 0 ≤ (sg_unitsTo_5 P x y j).toInt ∧ (sg_unitsTo_5 P x y j).toInt ≤ 1300 * (j : Int)
  | 0, _, _ => by
    rw [sg_unitsTo_5]
    exact ⟨rfl, by decide, by decide⟩
  | j + 1, h1, h2 => by
    obtain ⟨i1, i2, i3⟩ := sg_ut_v ht x y j (by omega) (by omega)
    have b := (ht.1 j (by omega)).2.2
    rw [sg_unitsTo_5, sg_sum]
    by_cases c0 : P 65 j = 1
    · rw [if_pos c0, if_pos c0]
      by_cases c1 : P 60 j = x
      · rw [if_pos c1, if_pos c1]
        by_cases c2 : P 61 j = y
        · rw [if_pos c2, if_pos c2]
          have e : (sg_unitsTo_5 P x y j + P 62 j).toInt = (sg_unitsTo_5 P x y j).toInt + (P 62 j).toInt := sg_add (by omega) (by omega)
          exact ⟨by omega, by omega, by omega⟩
        · rw [if_neg c2, if_neg c2]
          exact ⟨by omega, i2, by omega⟩
      · rw [if_neg c1, if_neg c1]
        exact ⟨by omega, i2, by omega⟩
    · rw [if_neg c0, if_neg c0, ite_self, ite_self]
      exact ⟨by omega, i2, by omega⟩
theorem sg_sum_inb {f g : Nat → Int} {k : Nat} {d : Int} (hk : g k = f k + d) : ∀ n, (∀ i, i < n → i ≠ k → g i = f i) → sg_sum g n = sg_sum f n + (if k < n then d else 0)
  | 0, _ => by simp [sg_sum]
  | n + 1, hne => by
    have h := sg_sum_inb hk n (fun i hi => hne i (by omega))
    rw [sg_sum, sg_sum, h]
    by_cases e : n = k
    · subst e
      rw [hk, if_neg (Nat.lt_irrefl n), if_pos (Nat.lt_succ_self n)]
      omega
    · rw [hne n (by omega) e]
      by_cases c : k < n
      · rw [if_pos c, if_pos (by omega)]
        omega
      · rw [if_neg c, if_neg (by omega)]
        omega
/-- over items and sites -/
def sg_dbl (F : Nat → Nat → Int) (ns ni : Nat) : Int := sg_sum (fun i => sg_sum (fun s => F i s) ns) ni
theorem sg_dbl_in {F G : Nat → Nat → Int} {i0 s0 ni ns : Nat} {d : Int} (hi : i0 < ni) (hs : s0 < ns) (h1 : G i0 s0 = F i0 s0 + d) (h2 : ∀ i s, i < ni → s < ns → ¬ (i = i0 ∧ s = s0) → G i s = F i s) : sg_dbl G ns ni = sg_dbl F ns ni + d := by
  unfold sg_dbl
  have a : (fun i => sg_sum (fun s => G i s) ns) i0 = (fun i => sg_sum (fun s => F i s) ns) i0 + d := by
    have b := sg_sum_inb (f := fun s => F i0 s) (g := fun s => G i0 s) (k := s0) h1 ns (fun s hs1 hne => h2 i0 s hi hs1 (fun q => hne q.2))
    rw [if_pos hs] at b
    exact b
  have b := sg_sum_inb (f := fun i => sg_sum (fun s => F i s) ns) (g := fun i => sg_sum (fun s => G i s) ns) (k := i0) a ni (fun i hi1 hne => sg_sum_congr ns (fun s hs1 => h2 i s hi1 hs1 (fun q => hne q.1)))
  rw [if_pos hi] at b
  exact b
theorem sg_nIi {a b : Nat} (ha : a < 1000) (hb : b < 1000) (h : nI a = nI b) : a = b := by
  have q := congrArg Int32.toInt h
  rw [nI_toInt (by omega), nI_toInt (by omega)] at q
  omega
theorem sg_dblsum {X Y : Nat → Int32} {u pr w : Nat → Int} {ni ns n : Nat} (hni : ni ≤ 6) (hns : ns ≤ 5) (h : ∀ l, l < n → ∃ i, i < ni ∧ X l = nI i ∧ pr l = w i) (h' : ∀ l, l < n → ∃ s, s < ns ∧ Y l = nI s) : ∀ j, j ≤ n → sg_dbl (fun i s => w i * sg_sum (fun l => if X l = nI i then (if Y l = nI s then u l else 0) else 0) j) ns ni = sg_sum (fun l => u l * pr l) j
  | 0, _ => by
    unfold sg_dbl
    exact sg_sum_zero ni (fun i _ => sg_sum_zero ns (fun s _ => Int.mul_zero _))
  | j + 1, hj => by
    obtain ⟨i, hi, ex, ep⟩ := h j (by omega)
    obtain ⟨s, hs, ey⟩ := h' j (by omega)
    have q := sg_dblsum (u := u) hni hns h h' j (by omega)
    rw [sg_sum, ← q]
    refine sg_dbl_in hi hs ?_ (fun i1 s1 hi1 hs1 hne => ?_)
    · show w i * sg_sum (fun l => if X l = nI i then (if Y l = nI s then u l else 0) else 0) (j + 1) = w i * sg_sum (fun l => if X l = nI i then (if Y l = nI s then u l else 0) else 0) j + u j * pr j
      rw [sg_sum, if_pos ex, if_pos ey, Int.mul_add, ep, Int.mul_comm (u j)]
    · show w i1 * sg_sum (fun l => if X l = nI i1 then (if Y l = nI s1 then u l else 0) else 0) (j + 1) = w i1 * sg_sum (fun l => if X l = nI i1 then (if Y l = nI s1 then u l else 0) else 0) j
      rw [sg_sum]
      by_cases c1 : X j = nI i1
      · by_cases c2 : Y j = nI s1
        · exact absurd ⟨sg_nIi (by omega) (by omega) (c1.symm.trans ex), sg_nIi (by omega) (by omega) (c2.symm.trans ey)⟩ hne
        · rw [if_pos c1, if_neg c2, Int.add_zero]
      · rw [if_neg c1, Int.add_zero]
theorem sg_l1_v {P : sg_Pic} {f x : Int32} {i : Nat} {E : Nat → Int} (hE : ∀ s, (f * (sg_unitsAt P (nI i) (nI s) + sg_unitsTo P (nI i) (nI s))).toInt = E s ∧ 0 ≤ E s ∧ E s ≤ 8000000) (hx : 0 ≤ x.toInt ∧ x.toInt ≤ 1000000000) : ∀ s, s ≤ 5 → (sg_l1 P f i x s).toInt = x.toInt + sg_sum E s ∧ 0 ≤ sg_sum E s ∧ sg_sum E s ≤ 8000000 * (s : Int)
  | 0, _ => by
    rw [sg_l1, sg_sum]
    exact ⟨by omega, by omega, by omega⟩
  | s + 1, h => by
    obtain ⟨i1, i2, i3⟩ := sg_l1_v hE hx s (by omega)
    obtain ⟨e1, e2, e3⟩ := hE s
    rw [sg_l1, sg_sum, sg_add (by rw [e1]; omega) (by rw [e1]; omega), e1]
    exact ⟨by omega, by omega, by omega⟩
theorem sg_ls_v {P : sg_Pic} {fp : Nat → Int32} {ns ni : Nat} {E : Nat → Nat → Int} (hns : ns ≤ 5) (hE : ∀ i s, i < ni → ((fp i) * (sg_unitsAt P (nI i) (nI s) + sg_unitsTo P (nI i) (nI s))).toInt = E i s ∧ 0 ≤ E i s ∧ E i s ≤ 8000000) : ∀ n, n ≤ ni → n ≤ 6 → (sg_ls P fp ns n).toInt = sg_sum (fun i => sg_sum (E i) ns) n ∧ 0 ≤ sg_sum (fun i => sg_sum (E i) ns) n ∧ sg_sum (fun i => sg_sum (E i) ns) n ≤ 40000000 * (n : Int)
  | 0, _, _ => by
    rw [sg_ls, sg_sum]
    exact ⟨rfl, by omega, by omega⟩
  | n + 1, h1, h2 => by
    obtain ⟨i1, i2, i3⟩ := sg_ls_v hns hE n (by omega) (by omega)
    obtain ⟨e1, e2, e3⟩ := sg_l1_v (x := sg_ls P fp ns n) (E := E n) (fun s => hE n s (by omega)) (by omega) ns hns
    rw [sg_ls, sg_sum, e1]
    exact ⟨by omega, by omega, by omega⟩
theorem sg_money {k d ni ns : Nat} {fp : Nat → Int32} {P : sg_Pic} (hB : sg_B k d ni ns fp P) (hni : 1 ≤ ni ∧ ni ≤ 3) (hns : 2 ≤ ns ∧ ns ≤ 4) : P 70 3 = ((sg_ls P fp ns ni + (P 70 4) / 2) + P 70 1) := by
  have hV := hB.V
  have c1 := hB.c1
  have c2 := hB.c2
  have n3 := hV.W.n3
  have n5 := hV.W.n5
  have prv : ∀ i, i < ni → sg_pr P (nI i) = (fp i).toInt := fun i hi => by
    unfold sg_pr sg_priceOf
    rw [if_neg (sg_hasI1 hV.W (show i < sg_cn P 1 by omega)), nI_clamp (by omega), hB.2.2.2.2.2 i hi]
  have pb := fun i => sg_pr_b hV.W hV.PI (nI i)
  have av := fun i s => sg_fu_v hV.R hV.LI (nI i) (nI s) _ (Nat.le_refl _) n3
  have tv := fun i s => sg_ut_v hV.TI (nI i) (nI s) _ (Nat.le_refl _) n5
  have hE : ∀ i s, i < ni → ((fp i) * (sg_unitsAt P (nI i) (nI s) + sg_unitsTo P (nI i) (nI s))).toInt = (fp i).toInt * (sg_unitsAt P (nI i) (nI s)).toInt + (fp i).toInt * (sg_unitsTo P (nI i) (nI s)).toInt ∧ 0 ≤ (fp i).toInt * (sg_unitsAt P (nI i) (nI s)).toInt + (fp i).toInt * (sg_unitsTo P (nI i) (nI s)).toInt ∧ (fp i).toInt * (sg_unitsAt P (nI i) (nI s)).toInt + (fp i).toInt * (sg_unitsTo P (nI i) (nI s)).toInt ≤ 8000000 := fun i s hi => by
    have p0 := pb i
    rw [prv i hi] at p0
    have a1 : 0 ≤ (sg_unitsAt P (nI i) (nI s)).toInt ∧ (sg_unitsAt P (nI i) (nI s)).toInt ≤ 260000 := by
      unfold sg_unitsAt sg_unitsUpTo
      have q := av i s
      omega
    have t1 : 0 ≤ (sg_unitsTo P (nI i) (nI s)).toInt ∧ (sg_unitsTo P (nI i) (nI s)).toInt ≤ 117000 := by
      unfold sg_unitsTo
      have q := tv i s
      omega
    generalize sg_unitsAt P (nI i) (nI s) = A at a1 ⊢
    generalize sg_unitsTo P (nI i) (nI s) = T at t1 ⊢
    generalize fp i = f at p0 ⊢
    have e1 : (A + T).toInt = A.toInt + T.toInt := sg_add (by omega) (by omega)
    have m1 : 0 ≤ f.toInt * A.toInt := Int.mul_nonneg p0.1 a1.1
    have m2 : 0 ≤ f.toInt * T.toInt := Int.mul_nonneg p0.1 t1.1
    have m3 : f.toInt * A.toInt ≤ 20 * 260000 := Int.mul_le_mul p0.2 a1.2 a1.1 (by decide)
    have m4 : f.toInt * T.toInt ≤ 20 * 117000 := Int.mul_le_mul p0.2 t1.2 t1.1 (by decide)
    have e2 : f.toInt * (A + T).toInt = f.toInt * A.toInt + f.toInt * T.toInt := by rw [e1, Int.mul_add]
    exact ⟨by rw [sg_mul (by omega) (by omega), e2], by omega, by omega⟩
  have L := (sg_ls_v (fp := fp) (ns := ns) (by omega) hE ni (Nat.le_refl _) (by omega)).1
  have dA : sg_dbl (fun i s => (fp i).toInt * (sg_unitsAt P (nI i) (nI s)).toInt) ns ni = sg_ML P := by
    have q := sg_dblsum (X := P 40) (Y := P 41) (u := fun l => (P 42 l).toInt) (pr := fun l => sg_pr P (P 40 l)) (w := fun i => (fp i).toInt) (ni := ni) (ns := ns) (n := sg_cn P 3) (by omega) (by omega) (fun l hl => by
      obtain ⟨i, hi, e⟩ := (hV.LI.1 l hl).1
      exact ⟨i, by omega, e, by show sg_pr P (P 40 l) = _; rw [e]; exact prv i (by omega)⟩) (fun l hl => by
      obtain ⟨s, hs, e⟩ := (hV.LI.1 l hl).2.1
      exact ⟨s, by omega, e⟩) _ (Nat.le_refl _)
    have z : sg_ML P = sg_sum (fun l => (P 42 l).toInt * sg_pr P (P 40 l)) (sg_cn P 3) := by
      unfold sg_ML
      have t := sg_sum_tail (f := fun l => (P 42 l).toInt * sg_pr P (P 40 l)) (n := sg_cn P 3) (200 - sg_cn P 3) (fun l h1 h2 => by
        show (P 42 l).toInt * sg_pr P (P 40 l) = 0
        rw [hV.LI.2 l h1 (by omega), sg_z0, Int.zero_mul])
      rw [show sg_cn P 3 + (200 - sg_cn P 3) = 200 by omega] at t
      exact t
    rw [z, ← q]
    unfold sg_dbl
    refine sg_sum_congr ni (fun i _ => sg_sum_congr ns (fun s _ => ?_))
    have e := (av i s).2.2.2
    show (fp i).toInt * (sg_unitsUpTo_6 P (nI i) (nI s) 1000000 (sg_cn P 3)).toInt = _
    rw [e]
  have dT : sg_dbl (fun i s => (fp i).toInt * (sg_unitsTo P (nI i) (nI s)).toInt) ns ni = sg_MT P := by
    have q := sg_dblsum (X := P 60) (Y := P 61) (u := fun l => if P 65 l = 1 then (P 62 l).toInt else 0) (pr := fun l => sg_pr P (P 60 l)) (w := fun i => (fp i).toInt) (ni := ni) (ns := ns) (n := sg_cn P 5) (by omega) (by omega) (fun l hl => by
      obtain ⟨i, hi, e⟩ := (hV.TI.1 l hl).1
      exact ⟨i, by omega, e, by show sg_pr P (P 60 l) = _; rw [e]; exact prv i (by omega)⟩) (fun l hl => by
      obtain ⟨s, hs, e⟩ := (hV.TI.1 l hl).2.1
      exact ⟨s, by omega, e⟩) _ (Nat.le_refl _)
    have z : sg_MT P = sg_sum (fun l => (if P 65 l = 1 then (P 62 l).toInt else 0) * sg_pr P (P 60 l)) (sg_cn P 5) := by
      unfold sg_MT
      have t := sg_sum_tail (f := fun l => (if P 65 l = 1 then (P 62 l).toInt else 0) * sg_pr P (P 60 l)) (n := sg_cn P 5) (90 - sg_cn P 5) (fun l h1 h2 => by
        show (if P 65 l = 1 then (P 62 l).toInt else 0) * sg_pr P (P 60 l) = 0
        rw [hV.TI.2 l h1 (by omega), if_neg (by decide), Int.zero_mul])
      rw [show sg_cn P 5 + (90 - sg_cn P 5) = 90 by omega] at t
      exact t
    rw [z, ← q]
    unfold sg_dbl
    refine sg_sum_congr ni (fun i _ => sg_sum_congr ns (fun s _ => ?_))
    have e := (tv i s).1
    show (fp i).toInt * (sg_unitsTo_5 P (nI i) (nI s) (sg_cn P 5)).toInt = _
    rw [e]
  have Ls : (sg_ls P fp ns ni).toInt = sg_ML P + sg_MT P := by
    rw [L, ← dA, ← dT]
    unfold sg_dbl
    rw [← sg_sum_add]
    exact sg_sum_congr ni (fun i _ => sg_sum_add ns)
  have m1 := hV.MI.1
  have m2 := hV.MI.2.1
  have m3 := hV.MI.2.2
  have m4 := sg_ML_nn hV.W hV.PI hV.R
  have m5 := sg_MT_nn hV.W hV.PI hV.TI
  have m6 := sg_ME_nn hV.W hV.PI hV.R
  have m7 := hV.CI.2.2
  have m8 := hV.CI.2.1.2
  have e4 : ((P 70 4) / 2).toInt = sg_ME P := by
    rw [Int32.toInt_div, m1, show (2 : Int32).toInt = 2 by decide, Int.tdiv_eq_ediv_of_nonneg (by omega), show 2 * sg_ME P / 2 = sg_ME P by omega]
    exact sg_bmod (by omega) (by omega)
  have e5 : (sg_ls P fp ns ni + (P 70 4) / 2).toInt = sg_ML P + sg_MT P + sg_ME P := by
    rw [sg_add (by rw [Ls, e4]; omega) (by rw [Ls, e4]; omega), Ls, e4]
  apply sg_ext
  rw [sg_add (by rw [e5]; omega) (by rw [e5]; omega), e5]
  exact m2
