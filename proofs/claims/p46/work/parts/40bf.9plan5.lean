/-! what is sent along a way keeps the plan's sums -/
theorem sg_nn1 {F : Nat → Int} {z1 w : Nat} {M : Int} (h0 : 0 ≤ F w) (hM : 0 ≤ M) : 0 ≤ sg_ad F z1 M w := by
  by_cases c1 : w = z1
  · rw [c1, sg_ad_s, ← c1]
    omega
  · rw [sg_ad_n c1]
    exact h0
theorem sg_nn3 {F : Nat → Int} {z1 z2 z3 w : Nat} {M : Int} (h0 : 0 ≤ F w) (hM : 0 ≤ M) (h2 : w = z2 → M ≤ F w) : 0 ≤ sg_ad (sg_sb (sg_ad F z1 M) z2 M) z3 M w := by
  refine sg_nn1 ?_ hM
  by_cases c2 : w = z2
  · have q := h2 c2
    have q1 : F w ≤ sg_ad F z1 M w := by
      by_cases c1 : w = z1
      · rw [c1, sg_ad_s]
        omega
      · rw [sg_ad_n c1]
        exact Int.le_refl _
    rw [← c2, sg_sb_s]
    omega
  · rw [sg_sb_n c2]
    exact sg_nn1 h0 hM
theorem sg_nn5 {F : Nat → Int} {z1 z2 z3 z4 z5 w : Nat} {M : Int} (h0 : 0 ≤ F w) (hM : 0 ≤ M) (h2 : w = z2 → M ≤ F w) (h4 : w = z4 → M ≤ F w) (h24 : z2 = z4 → z3 = z2) : 0 ≤ sg_ad (sg_sb (sg_ad (sg_sb (sg_ad F z1 M) z2 M) z3 M) z4 M) z5 M w := by
  refine sg_nn1 ?_ hM
  by_cases c4 : w = z4
  · have q := h4 c4
    have q1 : F w ≤ sg_ad F z1 M w := by
      by_cases c1 : w = z1
      · rw [c1, sg_ad_s]
        omega
      · rw [sg_ad_n c1]
        exact Int.le_refl _
    rw [← c4, sg_sb_s]
    by_cases c2 : w = z2
    · have c3 : z3 = w := (h24 (c2.symm.trans c4)).trans c2.symm
      rw [c3, sg_ad_s, ← c2, sg_sb_s]
      omega
    · have q2 : sg_ad F z1 M w ≤ sg_ad (sg_sb (sg_ad F z1 M) z2 M) z3 M w := by
        by_cases c3 : w = z3
        · rw [← c3, sg_ad_s, sg_sb_n c2]
          omega
        · rw [sg_ad_n c3, sg_sb_n c2]
          exact Int.le_refl _
      omega
  · rw [sg_sb_n c4]
    exact sg_nn3 h0 hM h2
theorem sg_sa_FI {n xe : Nat} {sp la : Nat → Int} {rt : Nat → Prop} {U : sg_Pic} {V : sg_PiL} (hn : n ≤ 5) (hd : ∀ x, x < n → ¬ (0 < sp x ∧ 0 < la x)) (hb : ∀ x, x < n → sp x ≤ 1000000 ∧ la x ≤ 1000000) (h : sg_FI n sp la rt (U 1) (U 2) (U 6) (V 3)) (ha : sg_AH n U V) (he : xe < n) (hl : 0 < (U 2 xe).toInt) (hr : V 4 xe ≠ 1152921504606846976) : sg_FI n sp la rt (sg_sendAlong_U U V xe 1) (sg_sendAlong_U U V xe 2) (sg_sendAlong_U U V xe 6) (V 3) := by
  have p0 : ∀ f t, f < n → t < n → 0 ≤ (U 6 (f * 5 + t)).toInt := fun f t hf ht => (h.2.1 f t hf ht).1
  have u1 : ∀ f, f < n → (U 1 f).toInt ≤ sp f := fun f hf => by
    have q := h.2.2.1 f hf
    have s := sg_sum_nn (f := fun t => (U 6 (f * 5 + t)).toInt) n (fun t ht => p0 f t hf ht)
    omega
  have u2 : ∀ t, t < n → (U 2 t).toInt ≤ la t := fun t ht => by
    have q := h.2.2.2 t ht
    have s := sg_sum_nn (f := fun f => (U 6 (f * 5 + t)).toInt) n (fun f hf => p0 f t hf ht)
    omega
  have u6 : ∀ f t, f < n → t < n → (U 6 (f * 5 + t)).toInt ≤ 1000000 := fun f t hf ht => by
    have q := h.2.2.1 f hf
    have s : (U 6 (f * 5 + t)).toInt ≤ sg_sum (fun t => (U 6 (f * 5 + t)).toInt) n := sg_sum_one (f := fun t => (U 6 (f * 5 + t)).toInt) n (fun t ht => p0 f t hf ht) t ht
    have b := (hb f hf).1
    omega
  have F1 : ∀ y, y < n → 0 < la y → U 5 y ≠ -1 → ∃ a, a < n ∧ U 5 y = nI a ∧ V 3 (y * 5 + a) = 0 ∧ 0 < sp a ∧ V 3 (a * 5 + y) ≠ 0 := fun y hy hly hne => by
    rcases ha.1 y hy with q | ⟨a, han, q1, q2, q3⟩
    · exact absurd q hne
    · have z : V 3 (y * 5 + a) = 0 := by
        by_cases c : V 3 (y * 5 + a) = 0
        · exact c
        · exact absurd ⟨(h.1 y a hy han c).1, hly⟩ (hd y hy)
      have w : V 3 (a * 5 + y) ≠ 0 := by
        rcases q2 with q | q
        · exact q
        · exact absurd z q
      exact ⟨a, han, q1, z, (h.1 a y han hy w).1, w⟩
  have F2 : ∀ a, a < n → 0 < sp a → U 5 a ≠ -1 → ∃ b, b < n ∧ U 5 a = nI b ∧ V 3 (a * 5 + b) ≠ 0 ∧ 0 < la b ∧ U 5 b ≠ -1 := fun a han hsa hne => by
    rcases ha.1 a han with q | ⟨b, hbn, q1, q2, q3⟩
    · exact absurd q hne
    · have w : V 3 (a * 5 + b) ≠ 0 := by
        rcases q2 with q | q
        · exact absurd ⟨hsa, (h.1 b a hbn han q).2.1⟩ (hd a han)
        · exact q
      have lb := (h.1 a b han hbn w).2.1
      refine ⟨b, hbn, q1, w, lb, ?_⟩
      rcases q3 with q | q
      · exact q
      · exact absurd ⟨Int.lt_of_lt_of_le q (u1 b hbn), lb⟩ (hd b hbn)
  have lxe : 0 < la xe := Int.lt_of_lt_of_le hl (u2 xe he)
  have nxe : U 5 xe ≠ -1 := by
    rcases ha.2 xe he hr with q | q
    · exact q
    · exact absurd ⟨Int.lt_of_lt_of_le q (u1 xe he), lxe⟩ (hd xe he)
  obtain ⟨F0, hF0⟩ : ∃ F0 : Nat → Int, F0 = fun z => (U 6 z).toInt := ⟨_, rfl⟩
  have F0v : ∀ z, F0 z = (U 6 z).toInt := fun z => by rw [hF0]
  have sh0 : sg_sh n 1000000 U F0 := fun f t hf ht => by
    rw [F0v]
    have a1 := p0 f t hf ht
    exact ⟨rfl, by omega, u6 f t hf ht⟩
  have r0 : ∀ f, sg_sum (fun t => F0 (f * 5 + t)) n = sg_sum (fun t => (U 6 (f * 5 + t)).toInt) n := fun f => by rw [hF0]
  have c0 : ∀ t, sg_sum (fun f => F0 (f * 5 + t)) n = sg_sum (fun f => (U 6 (f * 5 + t)).toInt) n := fun t => by rw [hF0]
  have zz : ∀ f t, f < n → t < n → V 3 (f * 5 + t) = 0 → F0 (f * 5 + t) = 0 := fun f t hf ht q => by
    rw [F0v]
    exact (h.2.1 f t hf ht).2 q
  have nn : ∀ f t, f < n → t < n → 0 ≤ F0 (f * 5 + t) := fun f t hf ht => by
    rw [F0v]
    exact p0 f t hf ht
  clear hF0
  have l2 := u2 xe he
  have l3 := (hb xe he).2
  have l4 := (h.2.2.2 xe he).2
  obtain ⟨a1, n1, e1, z1, s1, w1⟩ := F1 xe he lxe nxe
  obtain ⟨m, hm⟩ : ∃ m, m = sg_mst U V xe := ⟨_, rfl⟩
  obtain ⟨A1, hA1⟩ : ∃ A, A = sg_up U 6 (a1 * 5 + xe) (U 6 (a1 * 5 + xe) + sg_mst U V xe) := ⟨_, rfl⟩
  have f1 : A1 5 = U 5 := by
    rw [hA1]
    exact sg_up_n (by decide)
  have x1 : sg_sendAlong_94 U V xe 5 xe U = sg_sendAlong_94 U V xe 4 a1 A1 := by
    rw [hA1]
    exact sg_x_f (k := 4) e1 (by omega) z1
  have y1 : sg_sendAlong_12 U V xe 5 xe (U 2 xe) = sg_sendAlong_12 U V xe 4 a1 (U 2 xe) := sg_w_f (k := 4) e1 (by omega) z1
  have sh1 : 0 ≤ m.toInt → m.toInt ≤ 1000000 → sg_sh n (1000000 + 1000000) A1 (sg_ad F0 (a1 * 5 + xe) m.toInt) := fun m0 mu => by
    rw [hA1]
    exact sg_sh_ad sh0 n1 he (by rw [hm]) m0 mu (by omega)
  by_cases c1 : U 5 a1 = -1
  · have e12 : sg_sendAlong_12 U V xe 5 xe (U 2 xe) = (a1, U 2 xe) := y1.trans (sg_w_st (k := 3) c1)
    have es : sg_sst U V xe = a1 := by
      unfold sg_sst
      rw [e12]
    have em : m = if U 1 a1 < U 2 xe then U 1 a1 else U 2 xe := by
      rw [hm]
      unfold sg_mst
      rw [e12]
    have mm := @sg_mn (U 1 a1) (U 2 xe)
    rw [← em] at mm
    have m0 := mm.2.2 (h.2.2.1 a1 n1).2 l4
    have mu : m.toInt ≤ 1000000 := by omega
    have x2 : sg_sendAlong_94 U V xe 5 xe U = (a1, A1) := x1.trans (sg_x_st (k := 3) (by rw [f1]; exact c1))
    refine sg_sa_fin h n1 he es x2 (by rw [← hm]; exact m0) (by rw [← hm]; exact mm.1) (by rw [← hm]; exact mm.2.1) (sh1 m0 mu) (fun f t hf ht => ⟨sg_nn1 (nn f t hf ht) m0, fun q => ?_⟩) (fun f hf => ?_) (fun t ht => ?_)
    · rw [sg_ad_n (fun q1 => w1 (by rw [← q1]; exact q))]
      exact zz f t hf ht q
    · rw [sg_ad_r hn he, r0, hm]
    · rw [sg_ad_c hn he n1 ht, c0, hm]
  obtain ⟨b1, nb1, e2, w2, lb1, nb1n⟩ := F2 a1 n1 s1 c1
  obtain ⟨a2, n2, e3, z3, s2, w3⟩ := F1 b1 nb1 lb1 nb1n
  obtain ⟨X1, hX1⟩ : ∃ X, X = if U 6 (a1 * 5 + b1) < U 2 xe then U 6 (a1 * 5 + b1) else U 2 xe := ⟨_, rfl⟩
  have mX1 := @sg_mn (U 6 (a1 * 5 + b1)) (U 2 xe)
  rw [← hX1] at mX1
  have X10 := mX1.2.2 (p0 a1 b1 n1 nb1) l4
  obtain ⟨A2, hA2⟩ : ∃ A, A = sg_up A1 6 (a1 * 5 + b1) (A1 6 (a1 * 5 + b1) - sg_mst U V xe) := ⟨_, rfl⟩
  have f2 : A2 5 = U 5 := by
    rw [hA2, ← f1]
    exact sg_up_n (by decide)
  have x2 : sg_sendAlong_94 U V xe 5 xe U = sg_sendAlong_94 U V xe 3 b1 A2 := by
    rw [hA2]
    exact x1.trans (sg_x_b (k := 3) (by rw [f1]; exact e2) (by omega) w2)
  have y2 : sg_sendAlong_12 U V xe 5 xe (U 2 xe) = sg_sendAlong_12 U V xe 3 b1 X1 := by
    rw [hX1]
    exact y1.trans (sg_w_b (k := 3) e2 (by omega) w2)
  have sh2 : 0 ≤ m.toInt → m.toInt ≤ 1000000 → sg_sh n (1000000 + 1000000 + 1000000) A2 (sg_sb (sg_ad F0 (a1 * 5 + xe) m.toInt) (a1 * 5 + b1) m.toInt) := fun m0 mu => by
    rw [hA2]
    exact sg_sh_sb (sh1 m0 mu) n1 nb1 (by rw [hm]) m0 mu (by omega)
  obtain ⟨A3, hA3⟩ : ∃ A, A = sg_up A2 6 (a2 * 5 + b1) (A2 6 (a2 * 5 + b1) + sg_mst U V xe) := ⟨_, rfl⟩
  have f3 : A3 5 = U 5 := by
    rw [hA3, ← f2]
    exact sg_up_n (by decide)
  have x3 : sg_sendAlong_94 U V xe 5 xe U = sg_sendAlong_94 U V xe 2 a2 A3 := by
    rw [hA3]
    exact x2.trans (sg_x_f (k := 2) (by rw [f2]; exact e3) (by omega) z3)
  have y3 : sg_sendAlong_12 U V xe 5 xe (U 2 xe) = sg_sendAlong_12 U V xe 2 a2 X1 := y2.trans (sg_w_f (k := 2) e3 (by omega) z3)
  have sh3 : 0 ≤ m.toInt → m.toInt ≤ 1000000 → sg_sh n (1000000 + 1000000 + 1000000 + 1000000) A3 (sg_ad (sg_sb (sg_ad F0 (a1 * 5 + xe) m.toInt) (a1 * 5 + b1) m.toInt) (a2 * 5 + b1) m.toInt) := fun m0 mu => by
    rw [hA3]
    exact sg_sh_ad (sh2 m0 mu) n2 nb1 (by rw [hm]) m0 mu (by omega)
  by_cases c2 : U 5 a2 = -1
  · have e12 : sg_sendAlong_12 U V xe 5 xe (U 2 xe) = (a2, X1) := y3.trans (sg_w_st (k := 1) c2)
    have es : sg_sst U V xe = a2 := by
      unfold sg_sst
      rw [e12]
    have em : m = if U 1 a2 < X1 then U 1 a2 else X1 := by
      rw [hm]
      unfold sg_mst
      rw [e12]
    have mm := @sg_mn (U 1 a2) X1
    rw [← em] at mm
    have m0 := mm.2.2 (h.2.2.1 a2 n2).2 X10
    have mu : m.toInt ≤ 1000000 := by omega
    have x4 : sg_sendAlong_94 U V xe 5 xe U = (a2, A3) := x3.trans (sg_x_st (k := 1) (by rw [f3]; exact c2))
    refine sg_sa_fin h n2 he es x4 (by rw [← hm]; exact m0) (by rw [← hm]; exact mm.1) (by rw [← hm]; omega) (sh3 m0 mu) (fun f t hf ht => ⟨sg_nn3 (nn f t hf ht) m0 (fun q => ?_), fun q => ?_⟩) (fun f hf => ?_) (fun t ht => ?_)
    · rw [q, F0v]
      omega
    · rw [sg_ad_n (fun q1 => w3 (by rw [← q1]; exact q)), sg_sb_n (fun q1 => w2 (by rw [← q1]; exact q)), sg_ad_n (fun q1 => w1 (by rw [← q1]; exact q))]
      exact zz f t hf ht q
    · rw [sg_ad_r hn nb1, sg_sb_r hn nb1, sg_ad_r hn he, r0, hm]
      omega
    · rw [sg_ad_c hn nb1 n2 ht, sg_sb_c hn nb1 n1 ht, sg_ad_c hn he n1 ht, c0, hm]
      omega
  obtain ⟨b2, nb2, e4, w4, lb2, nb2n⟩ := F2 a2 n2 s2 c2
  obtain ⟨a3, n3, e5, z5, s3, w5⟩ := F1 b2 nb2 lb2 nb2n
  obtain ⟨X2, hX2⟩ : ∃ X, X = if U 6 (a2 * 5 + b2) < X1 then U 6 (a2 * 5 + b2) else X1 := ⟨_, rfl⟩
  have mX2 := @sg_mn (U 6 (a2 * 5 + b2)) X1
  rw [← hX2] at mX2
  have X20 := mX2.2.2 (p0 a2 b2 n2 nb2) X10
  obtain ⟨A4, hA4⟩ : ∃ A, A = sg_up A3 6 (a2 * 5 + b2) (A3 6 (a2 * 5 + b2) - sg_mst U V xe) := ⟨_, rfl⟩
  have f4 : A4 5 = U 5 := by
    rw [hA4, ← f3]
    exact sg_up_n (by decide)
  have x4 : sg_sendAlong_94 U V xe 5 xe U = sg_sendAlong_94 U V xe 1 b2 A4 := by
    rw [hA4]
    exact x3.trans (sg_x_b (k := 1) (by rw [f3]; exact e4) (by omega) w4)
  have y4 : sg_sendAlong_12 U V xe 5 xe (U 2 xe) = sg_sendAlong_12 U V xe 1 b2 X2 := by
    rw [hX2]
    exact y3.trans (sg_w_b (k := 1) e4 (by omega) w4)
  have sh4 : 0 ≤ m.toInt → m.toInt ≤ 1000000 → sg_sh n (1000000 + 1000000 + 1000000 + 1000000 + 1000000) A4 (sg_sb (sg_ad (sg_sb (sg_ad F0 (a1 * 5 + xe) m.toInt) (a1 * 5 + b1) m.toInt) (a2 * 5 + b1) m.toInt) (a2 * 5 + b2) m.toInt) := fun m0 mu => by
    rw [hA4]
    exact sg_sh_sb (sh3 m0 mu) n2 nb2 (by rw [hm]) m0 mu (by omega)
  obtain ⟨A5, hA5⟩ : ∃ A, A = sg_up A4 6 (a3 * 5 + b2) (A4 6 (a3 * 5 + b2) + sg_mst U V xe) := ⟨_, rfl⟩
  have x5 : sg_sendAlong_94 U V xe 5 xe U = (a3, A5) := by
    rw [hA5]
    exact (x4.trans (sg_x_f (k := 0) (by rw [f4]; exact e5) (by omega) z5)).trans sg_x_0
  have e12 : sg_sendAlong_12 U V xe 5 xe (U 2 xe) = (a3, X2) := (y4.trans (sg_w_f (k := 0) e5 (by omega) z5)).trans sg_w_0
  have es : sg_sst U V xe = a3 := by
    unfold sg_sst
    rw [e12]
  have em : m = if U 1 a3 < X2 then U 1 a3 else X2 := by
    rw [hm]
    unfold sg_mst
    rw [e12]
  have mm := @sg_mn (U 1 a3) X2
  rw [← em] at mm
  have m0 := mm.2.2 (h.2.2.1 a3 n3).2 X20
  have mu : m.toInt ≤ 1000000 := by omega
  have sh5 : sg_sh n (1000000 + 1000000 + 1000000 + 1000000 + 1000000 + 1000000) A5 (sg_ad (sg_sb (sg_ad (sg_sb (sg_ad F0 (a1 * 5 + xe) m.toInt) (a1 * 5 + b1) m.toInt) (a2 * 5 + b1) m.toInt) (a2 * 5 + b2) m.toInt) (a3 * 5 + b2) m.toInt) := by
    rw [hA5]
    exact sg_sh_ad (sh4 m0 mu) n3 nb2 (by rw [hm]) m0 mu (by omega)
  refine sg_sa_fin h n3 he es x5 (by rw [← hm]; exact m0) (by rw [← hm]; exact mm.1) (by rw [← hm]; omega) sh5 (fun f t hf ht => ⟨sg_nn5 (nn f t hf ht) m0 (fun q => ?_) (fun q => ?_) (fun q => by omega), fun q => ?_⟩) (fun f hf => ?_) (fun t ht => ?_)
  · rw [q, F0v]
    omega
  · rw [q, F0v]
    omega
  · rw [sg_ad_n (fun q1 => w5 (by rw [← q1]; exact q)), sg_sb_n (fun q1 => w4 (by rw [← q1]; exact q)), sg_ad_n (fun q1 => w3 (by rw [← q1]; exact q)), sg_sb_n (fun q1 => w2 (by rw [← q1]; exact q)), sg_ad_n (fun q1 => w1 (by rw [← q1]; exact q))]
    exact zz f t hf ht q
  · rw [sg_ad_r hn nb2, sg_sb_r hn nb2, sg_ad_r hn nb1, sg_sb_r hn nb1, sg_ad_r hn he, r0, hm]
    omega
  · rw [sg_ad_c hn nb2 n3 ht, sg_sb_c hn nb2 n2 ht, sg_ad_c hn nb1 n2 ht, sg_sb_c hn nb1 n1 ht, sg_ad_c hn he n1 ht, c0, hm]
    omega
