/-! the plan, from its first round to its last -/
theorem sg_mk148_FI {n xi : Nat} {sp la : Nat → Int} {rt : Nat → Prop} {U P : sg_Pic} {V : sg_PiL} (hn : n ≤ 5) (hd : ∀ x, x < n → ¬ (0 < sp x ∧ 0 < la x)) (hb : ∀ x, x < n → sp x ≤ 1000000 ∧ la x ≤ 1000000) : ∀ (k : Nat) (A : sg_Pic) (C : sg_PiL), sg_UN A → sg_cn A 0 = n → sg_FI n sp la rt (A 1) (A 2) (A 6) (C 3) → sg_FI n sp la rt (sg_fst (sg_make_148 U V P xi k A C) 1) (sg_fst (sg_make_148 U V P xi k A C) 2) (sg_fst (sg_make_148 U V P xi k A C) 6) (sg_snd (sg_make_148 U V P xi k A C) 3)
  | 0, A, C, _, _, h => by
    rw [sg_make_148, sg_p1n, sg_p2n]
    exact h
  | k + 1, A, C, gA, hA, h => by
    have f1 := sg_fw_f (U := A) (V := C) (r := 1) (by decide)
    have f2 := sg_fw_f (U := A) (V := C) (r := 2) (by decide)
    have f6 := sg_fw_f (U := A) (V := C) (r := 6) (by decide)
    have ah := sg_fw_AH (V := C) hn hA
    have ka := sg_findWays_KU A C
    have ga := ka.N gA
    have na := (sg_cn_KU ka).trans hA
    rw [← f1.1, ← f2.1, ← f6.1, ← f1.2] at h
    clear f1 f2 f6 ka
    rw [sg_make_148]
    generalize sg_findWays_U A C = A1 at h ah ga na ⊢
    generalize sg_findWays_V A C = C1 at h ah ⊢
    by_cases c : sg_cheapestEnd A1 C1 = -1
    · rw [if_pos c, sg_p1n, sg_p2n]
      exact h
    · rcases sg_ce4_o (U := A1) (V := C1) (sg_cn A1 0) with o | ⟨f, hf, o, o2, o3⟩
      · exact absurd o c
      · have e : sg_cheapestEnd A1 C1 = nI f := o
        rw [if_neg c, e, nI_clamp (by omega)]
        have k1 := sg_sendAlong_KU A1 C1 f
        exact sg_mk148_FI hn hd hb k _ _ (k1.N ga) ((sg_cn_KU k1).trans na) (sg_sa_FI hn hd hb h ah (by omega) o2 o3)
theorem sg_mx0 {x : Int32} : ((if 0 < x then x else 0).toInt = x.toInt ∧ 0 < x.toInt) ∨ ((if 0 < x then x else 0).toInt = 0 ∧ x.toInt ≤ 0) := by
  by_cases c : 0 < x
  · rw [if_pos c]
    have q := sg_lts.mp c
    rw [sg_z0] at q
    exact Or.inl ⟨rfl, q⟩
  · rw [if_neg c]
    have q : ¬ (0 : Int32).toInt < x.toInt := fun q => c (sg_lts.mpr q)
    rw [sg_z0] at q
    exact Or.inr ⟨sg_z0, by omega⟩
/-- what can be spared and what is lacked -/
theorem sg_sl {k d ni ns : Nat} {fp : Nat → Int32} {P : sg_Pic} {i s : Nat} (hB : sg_B k d ni ns fp P) (hi : i < ni) (hs : s < ns) : (0 ≤ (sg_spareAt P i s).toInt ∧ (sg_spareAt P i s).toInt ≤ 1000000) ∧ (0 ≤ (sg_lackAt P i s).toInt ∧ (sg_lackAt P i s).toInt ≤ 1000000) ∧ ¬ (0 < (sg_spareAt P i s).toInt ∧ 0 < (sg_lackAt P i s).toInt) := by
  have hV := hB.V
  have c1 := hB.c1
  have c2 := hB.c2
  have n1 := hV.W.n1
  have n2 := hV.W.n2
  have pb := sg_pos_b hV.W hV.R hV.TI (nI i) (nI s)
  have q := hV.PI.2.1 (i * 5 + s) (by omega)
  have fr : (sg_freeAt P (nI i) (nI s)).toInt ≤ 260000 := by
    have z := (sg_fu_v hV.R hV.LI (nI i) (nI s) _ (Nat.le_refl _) hV.W.n3)
    unfold sg_freeAt sg_freeFrom
    have := hV.W.n3
    omega
  unfold sg_spareAt sg_lackAt
  by_cases st : sg_stands P i s = 0
  · rw [if_pos st, if_pos st, sg_z0]
    omega
  · rw [if_neg st, if_neg st]
    generalize sg_freeAt P (nI i) (nI s) = F at fr ⊢
    generalize sg_positionAt P (nI i) (nI s) = po at pb ⊢
    generalize P 31 (i * 5 + s) = lo at q ⊢
    generalize P 32 (i * 5 + s) = up at q ⊢
    have e1 : (lo - po).toInt = lo.toInt - po.toInt := sg_sub (by omega) (by omega)
    have e2 : (po - up).toInt = po.toInt - up.toInt := sg_sub (by omega) (by omega)
    have m := @sg_mn F (po - up)
    generalize (if F < po - up then F else po - up) = mi at m ⊢
    rcases @sg_mx0 mi with a | a <;> rcases @sg_mx0 (lo - po) with b | b <;> rw [a.1, b.1] <;> omega
theorem sg_make_FI {k d ni ns : Nat} {fp : Nat → Int32} {P : sg_Pic} {i : Nat} {U : sg_Pic} {V : sg_PiL} (hB : sg_B k d ni ns fp P) (hi : i < ni) : sg_FI ns (fun x => (sg_spareAt P i x).toInt) (fun x => (sg_lackAt P i x).toInt) (fun z => P 21 z ≠ 0) (sg_make_U U V P i 1) (sg_make_U U V P i 2) (sg_make_U U V P i 6) (sg_make_V U V P i 3) := by
  have c2 := hB.c2
  have hn : ns ≤ 5 := by
    have := hB.W.n2
    omega
  have hd : ∀ x, x < ns → ¬ (0 < (sg_spareAt P i x).toInt ∧ 0 < (sg_lackAt P i x).toInt) := fun x hx => (sg_sl hB hi hx).2.2
  have hb : ∀ x, x < ns → (sg_spareAt P i x).toInt ≤ 1000000 ∧ (sg_lackAt P i x).toInt ≤ 1000000 := fun x hx => ⟨(sg_sl hB hi hx).1.2, (sg_sl hB hi hx).2.1.2⟩
  have un := sg_mk_UN (U := U) (V := V) (xi := i) (j := ns) hB.W
  rw [c2] at un
  unfold sg_make_U sg_make_V
  rw [c2]
  obtain ⟨a, a2⟩ := sg_mk53 (U := U) (V := V) (xi := i) c2 hn ns (Nat.le_refl ns)
  have c := sg_mk13 (U := U) (P := P) (V := V) (xi := i) ns
  refine sg_mk148_FI hn hd hb sg_M _ _ un.1 un.2 ⟨fun f t hf ht hne => ?_, fun f t hf ht => ?_, fun f hf => ?_, fun t ht => ?_⟩
  · rw [(a2 f t hf ht).2] at hne
    unfold sg_cst at hne
    rw [(c.2 f hf).1, (c.2 t ht).2] at hne
    by_cases d1 : sg_spareAt P i f ≤ 0
    · rw [if_pos d1] at hne
      exact absurd rfl hne
    · rw [if_neg d1] at hne
      by_cases d2 : sg_lackAt P i t ≤ 0
      · rw [if_pos d2] at hne
        exact absurd rfl hne
      · rw [if_neg d2] at hne
        refine ⟨sg_pos d1, sg_pos d2, fun q => hne ?_⟩
        unfold sg_costOf
        exact if_pos q
  · rw [(a2 f t hf ht).1, sg_z0]
    exact ⟨Int.le_refl 0, fun _ => rfl⟩
  · rw [a 1 (by decide), (c.2 f hf).1, sg_sum_zero ns (fun t ht => by rw [(a2 f t hf ht).1]; rfl)]
    exact ⟨(Int.sub_self _).symm, (sg_sl hB hi hf).1.1⟩
  · rw [a 2 (by decide), (c.2 t ht).2, sg_sum_zero ns (fun f hf => by rw [(a2 f t hf ht).1]; rfl)]
    exact ⟨(Int.sub_self _).symm, (sg_sl hB hi ht).2.1.1⟩
theorem sg_make_b {k d ni ns : Nat} {fp : Nat → Int32} {P : sg_Pic} {i f t : Nat} {U : sg_Pic} {V : sg_PiL} (hB : sg_B k d ni ns fp P) (hi : i < ni) (hf : f < ns) (ht : t < ns) : 0 ≤ (sg_make_U U V P i 6 (f * 5 + t)).toInt ∧ (sg_make_U U V P i 6 (f * 5 + t)).toInt ≤ 1000000 := by
  have h := sg_make_FI (U := U) (V := V) hB hi
  refine ⟨(h.2.1 f t hf ht).1, ?_⟩
  have s : (sg_make_U U V P i 6 (f * 5 + t)).toInt ≤ sg_sum (fun t => (sg_make_U U V P i 6 (f * 5 + t)).toInt) ns := sg_sum_one (f := fun t => (sg_make_U U V P i 6 (f * 5 + t)).toInt) ns (fun t ht => (h.2.1 f t hf ht).1) t ht
  have q := h.2.2.1 f hf
  have b := (sg_sl hB hi hf).1.2
  have q1 : sg_sum (fun t => (sg_make_U U V P i 6 (f * 5 + t)).toInt) ns = (sg_spareAt P i f).toInt - (sg_make_U U V P i 1 f).toInt := q.1
  omega
theorem sg_plan_01 {k d ni ns : Nat} {fp : Nat → Int32} {P : sg_Pic} {i s t : Nat} (hB : sg_B k d ni ns fp P) (hi : i < ni) (hs : s < ns) (ht : t < ns) : ¬ (sg_plan P i (s * 5 + t) < 0) := by
  have q := (sg_make_b (U := sg_0) (V := sg_L0) hB hi hs ht).1
  unfold sg_plan
  rw [sg_lts, sg_z0]
  omega
theorem sg_plan_r1 {k d ni ns : Nat} {fp : Nat → Int32} {P : sg_Pic} {i s t : Nat} (hB : sg_B k d ni ns fp P) (hi : i < ni) (hs : s < ns) (ht : t < ns) (c : ¬ (sg_plan P i (s * 5 + t) ≤ 0)) : ¬ (sg_daysBetween P (nI s) (nI t) = 0) := by
  have c2 := hB.c2
  have n2 := hB.W.n2
  have h := sg_make_FI (U := sg_0) (V := sg_L0) hB hi
  have p := sg_pos c
  unfold sg_plan at p
  have w : sg_make_V sg_0 sg_L0 P i 3 (s * 5 + t) ≠ 0 := fun q => by
    have z := (h.2.1 s t hs ht).2 q
    omega
  have r : P 21 (s * 5 + t) ≠ 0 := (h.1 s t hs ht w).2.2
  unfold sg_daysBetween
  rw [if_neg (sg_hasS1 hB.W (by omega)), if_neg (sg_hasS1 hB.W (by omega)), nI_clamp (by omega), nI_clamp (by omega)]
  exact r
theorem sg_row_v {P : sg_Pic} {i s n : Nat} (h : ∀ t, t < n → 0 ≤ (sg_plan P i (s * 5 + t)).toInt ∧ (sg_plan P i (s * 5 + t)).toInt ≤ 1000000) : ∀ j, j ≤ n → j ≤ 5 → (sg_row P i s j).toInt = sg_sum (fun t => (sg_plan P i (s * 5 + t)).toInt) j ∧ 0 ≤ (sg_row P i s j).toInt ∧ (sg_row P i s j).toInt ≤ 1000000 * (j : Int)
  | 0, _, _ => by
    rw [sg_row, sg_sum]
    exact ⟨rfl, by decide, by decide⟩
  | j + 1, h1, h2 => by
    obtain ⟨i1, i2, i3⟩ := sg_row_v h j (by omega) (by omega)
    have b := h j (by omega)
    rw [sg_row, sg_sum, sg_add (by omega) (by omega)]
    exact ⟨by omega, by omega, by omega⟩
theorem sg_col_v {P : sg_Pic} {i s n : Nat} (h : ∀ t, t < n → 0 ≤ (sg_plan P i (t * 5 + s)).toInt ∧ (sg_plan P i (t * 5 + s)).toInt ≤ 1000000) : ∀ j, j ≤ n → j ≤ 5 → (sg_col P i s j).toInt = sg_sum (fun t => (sg_plan P i (t * 5 + s)).toInt) j ∧ 0 ≤ (sg_col P i s j).toInt ∧ (sg_col P i s j).toInt ≤ 1000000 * (j : Int)
  | 0, _, _ => by
    rw [sg_col, sg_sum]
    exact ⟨rfl, by decide, by decide⟩
  | j + 1, h1, h2 => by
    obtain ⟨i1, i2, i3⟩ := sg_col_v h j (by omega) (by omega)
    have b := h j (by omega)
    rw [sg_col, sg_sum, sg_add (by omega) (by omega)]
    exact ⟨by omega, by omega, by omega⟩
theorem sg_plan_s1 {k d ni ns : Nat} {fp : Nat → Int32} {P : sg_Pic} {i s : Nat} (hB : sg_B k d ni ns fp P) (hi : i < ni) (hs : s < ns) : ¬ (sg_spareAt P i s < sg_row P i s ns) := by
  have c2 := hB.c2
  have n2 := hB.W.n2
  have h := sg_make_FI (U := sg_0) (V := sg_L0) hB hi
  have v := (sg_row_v (n := ns) (fun t ht => sg_make_b (U := sg_0) (V := sg_L0) hB hi hs ht) ns (Nat.le_refl ns) (by omega)).1
  have q : sg_sum (fun t => (sg_plan P i (s * 5 + t)).toInt) ns = (sg_spareAt P i s).toInt - (sg_make_U sg_0 sg_L0 P i 1 s).toInt ∧ 0 ≤ (sg_make_U sg_0 sg_L0 P i 1 s).toInt := h.2.2.1 s hs
  rw [sg_lts]
  omega
theorem sg_plan_l1 {k d ni ns : Nat} {fp : Nat → Int32} {P : sg_Pic} {i s : Nat} (hB : sg_B k d ni ns fp P) (hi : i < ni) (hs : s < ns) : sg_col P i s ns ≤ sg_lackAt P i s := by
  have c2 := hB.c2
  have n2 := hB.W.n2
  have h := sg_make_FI (U := sg_0) (V := sg_L0) hB hi
  have v := (sg_col_v (n := ns) (fun t ht => sg_make_b (U := sg_0) (V := sg_L0) hB hi ht hs) ns (Nat.le_refl ns) (by omega)).1
  have q : sg_sum (fun t => (sg_plan P i (t * 5 + s)).toInt) ns = (sg_lackAt P i s).toInt - (sg_make_U sg_0 sg_L0 P i 2 s).toInt ∧ 0 ≤ (sg_make_U sg_0 sg_L0 P i 2 s).toInt := h.2.2.2 s hs
  rw [sg_le]
  omega
/-! balancing -/
theorem sg_bal38 {k d ni ns : Nat} {fp : Nat → Int32} {P R U : sg_Pic} {V : sg_PiL} {i f : Nat} {x : Int32} {b : Int} (hR : sg_B k d ni ns fp R) (hi : i < ni) (hp : ∀ t, t < ns → 0 ≤ (sg_make_U U V P i 6 (f * 5 + t)).toInt ∧ (sg_make_U U V P i 6 (f * 5 + t)).toInt ≤ 1000000) (hx : 0 ≤ x.toInt ∧ x.toInt ≤ b) (hb : b ≤ 100000000) : ∀ j, j ≤ ns → j ≤ 5 → sg_B k d ni ns fp (sg_g_balance_38 U V P i f x R j).2 ∧ 0 ≤ (sg_g_balance_38 U V P i f x R j).1.toInt ∧ (sg_g_balance_38 U V P i f x R j).1.toInt ≤ b + 1000000 * (j : Int)
  | 0, _, _ => by
    rw [sg_g_balance_38]
    exact ⟨hR, hx.1, by show x.toInt ≤ _; omega⟩
  | j + 1, h1, h2 => by
    obtain ⟨q1, q2, q3⟩ := sg_bal38 (x := x) hR hi hp hx hb j (by omega) (by omega)
    rw [sg_g_balance_38]
    generalize (sg_g_balance_38 U V P i f x R j).1 = z at q2 q3 ⊢
    generalize (sg_g_balance_38 U V P i f x R j).2 = Q at q1 ⊢
    have p := hp j (by omega)
    have s := q1.send (y := nI f) (i := i) (s := j) (v := sg_make_U U V P i 6 (f * 5 + j)) hi (by omega) p.1
    have e : (z + sg_sendUnits_r Q (nI i) (nI f) (nI j) (sg_make_U U V P i 6 (f * 5 + j))).toInt = z.toInt + (sg_sendUnits_r Q (nI i) (nI f) (nI j) (sg_make_U U V P i 6 (f * 5 + j))).toInt := sg_add (by omega) (by omega)
    refine ⟨s.1, ?_, ?_⟩
    · show 0 ≤ (z + sg_sendUnits_r Q (nI i) (nI f) (nI j) (sg_make_U U V P i 6 (f * 5 + j))).toInt
      omega
    · show (z + sg_sendUnits_r Q (nI i) (nI f) (nI j) (sg_make_U U V P i 6 (f * 5 + j))).toInt ≤ _
      omega
theorem sg_bal21 {k d ni ns : Nat} {fp : Nat → Int32} {P U : sg_Pic} {V : sg_PiL} {i : Nat} (hB : sg_B k d ni ns fp P) (hi : i < ni) : ∀ j, j ≤ ns → j ≤ 5 → sg_B k d ni ns fp (sg_g_balance_21 U V P i j).2 ∧ 0 ≤ (sg_g_balance_21 U V P i j).1.toInt ∧ (sg_g_balance_21 U V P i j).1.toInt ≤ 5000000 * (j : Int)
  | 0, _, _ => by
    rw [sg_g_balance_21]
    exact ⟨hB, show 0 ≤ (0 : Int32).toInt by decide, show (0 : Int32).toInt ≤ 5000000 * ((0 : Nat) : Int) by decide⟩
  | j + 1, h1, h2 => by
    obtain ⟨q1, q2, q3⟩ := sg_bal21 (U := U) (V := V) hB hi j (by omega) (by omega)
    have c2 := hB.c2
    have n2 := hB.W.n2
    have a := sg_bal38 (U := U) (V := V) (P := P) (f := j) q1 hi (fun t ht => sg_make_b hB hi (by omega) ht) ⟨q2, q3⟩ (by omega) ns (Nat.le_refl ns) (by omega)
    rw [sg_g_balance_21, c2]
    exact ⟨a.1, a.2.1, by have := a.2.2; show (sg_g_balance_38 U V P i j (sg_g_balance_21 U V P i j).1 (sg_g_balance_21 U V P i j).2 ns).1.toInt ≤ _; omega⟩
theorem sg_B.balance1 {k d ni ns : Nat} {fp : Nat → Int32} {P : sg_Pic} {i : Nat} (hB : sg_B k d ni ns fp P) (U : sg_Pic) (V : sg_PiL) (hi : i < ni) : sg_B k d ni ns fp (sg_g_balance U V P i) ∧ 0 ≤ sg_g_balance_r U V P i := by
  have c2 := hB.c2
  have n2 := hB.W.n2
  have a := sg_bal21 (U := U) (V := V) hB hi ns (Nat.le_refl ns) (by omega)
  unfold sg_g_balance sg_g_balance_r
  rw [c2]
  exact ⟨a.1, by rw [sg_le, sg_z0]; exact a.2.1⟩
