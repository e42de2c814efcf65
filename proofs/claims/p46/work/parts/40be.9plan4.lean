/-! what goes along a way, in whole numbers -/
def sg_ad (F : Nat → Int) (z : Nat) (m : Int) : Nat → Int := fun w => if w = z then F w + m else F w
def sg_sb (F : Nat → Int) (z : Nat) (m : Int) : Nat → Int := fun w => if w = z then F w - m else F w
theorem sg_ad_n {F : Nat → Int} {z w : Nat} {m : Int} (h : w ≠ z) : sg_ad F z m w = F w := if_neg h
theorem sg_sb_n {F : Nat → Int} {z w : Nat} {m : Int} (h : w ≠ z) : sg_sb F z m w = F w := if_neg h
theorem sg_ad_s {F : Nat → Int} {z : Nat} {m : Int} : sg_ad F z m z = F z + m := if_pos rfl
theorem sg_sb_s {F : Nat → Int} {z : Nat} {m : Int} : sg_sb F z m z = F z - m := if_pos rfl
theorem sg_ad_r {F : Nat → Int} {a y n f : Nat} {m : Int} (hn : n ≤ 5) (hy : y < n) : sg_sum (fun t => sg_ad F (a * 5 + y) m (f * 5 + t)) n = sg_sum (fun t => F (f * 5 + t)) n + (if f = a then m else 0) := by
  by_cases e : f = a
  · subst e
    rw [if_pos rfl]
    have q := sg_sum_inb (f := fun t => F (f * 5 + t)) (g := fun t => sg_ad F (f * 5 + y) m (f * 5 + t)) (k := y) (d := m) sg_ad_s n (fun i _ hne => sg_ad_n (by omega))
    rw [if_pos hy] at q
    exact q
  · rw [if_neg e, Int.add_zero]
    exact sg_sum_congr n (fun i hi => sg_ad_n (by omega))
theorem sg_sb_r {F : Nat → Int} {a y n f : Nat} {m : Int} (hn : n ≤ 5) (hy : y < n) : sg_sum (fun t => sg_sb F (a * 5 + y) m (f * 5 + t)) n = sg_sum (fun t => F (f * 5 + t)) n - (if f = a then m else 0) := by
  by_cases e : f = a
  · subst e
    rw [if_pos rfl]
    have q := sg_sum_inb (f := fun t => F (f * 5 + t)) (g := fun t => sg_sb F (f * 5 + y) m (f * 5 + t)) (k := y) (d := -m) sg_sb_s n (fun i _ hne => sg_sb_n (by omega))
    rw [if_pos hy] at q
    exact q
  · rw [if_neg e, Int.sub_zero]
    exact sg_sum_congr n (fun i hi => sg_sb_n (by omega))
theorem sg_ad_c {F : Nat → Int} {a y n t : Nat} {m : Int} (hn : n ≤ 5) (hy : y < n) (ha : a < n) (ht : t < n) : sg_sum (fun f => sg_ad F (a * 5 + y) m (f * 5 + t)) n = sg_sum (fun f => F (f * 5 + t)) n + (if t = y then m else 0) := by
  by_cases e : t = y
  · subst e
    rw [if_pos rfl]
    have q := sg_sum_inb (f := fun f => F (f * 5 + t)) (g := fun f => sg_ad F (a * 5 + t) m (f * 5 + t)) (k := a) (d := m) sg_ad_s n (fun i _ hne => sg_ad_n (by omega))
    rw [if_pos ha] at q
    exact q
  · rw [if_neg e, Int.add_zero]
    exact sg_sum_congr n (fun i hi => sg_ad_n (by omega))
theorem sg_sb_c {F : Nat → Int} {a y n t : Nat} {m : Int} (hn : n ≤ 5) (hy : y < n) (ha : a < n) (ht : t < n) : sg_sum (fun f => sg_sb F (a * 5 + y) m (f * 5 + t)) n = sg_sum (fun f => F (f * 5 + t)) n - (if t = y then m else 0) := by
  by_cases e : t = y
  · subst e
    rw [if_pos rfl]
    have q := sg_sum_inb (f := fun f => F (f * 5 + t)) (g := fun f => sg_sb F (a * 5 + t) m (f * 5 + t)) (k := a) (d := -m) sg_sb_s n (fun i _ hne => sg_sb_n (by omega))
    rw [if_pos ha] at q
    exact q
  · rw [if_neg e, Int.sub_zero]
    exact sg_sum_congr n (fun i hi => sg_sb_n (by omega))
/-- the whole numbers of the pairs -/
def sg_sh (n : Nat) (B : Int) (A : sg_Pic) (F : Nat → Int) : Prop := ∀ f t, f < n → t < n → (A 6 (f * 5 + t)).toInt = F (f * 5 + t) ∧ -B ≤ F (f * 5 + t) ∧ F (f * 5 + t) ≤ B
theorem sg_sh_ad {n f0 t0 : Nat} {B m : Int} {A : sg_Pic} {F : Nat → Int} {v : Int32} (h : sg_sh n B A F) (hf : f0 < n) (ht : t0 < n) (hv : v.toInt = m) (h0 : 0 ≤ m) (h1 : m ≤ 1000000) (hB : B ≤ 100000000) : sg_sh n (B + 1000000) (sg_up A 6 (f0 * 5 + t0) (A 6 (f0 * 5 + t0) + v)) (sg_ad F (f0 * 5 + t0) m) := by
  intro f t h2 h3
  have q := h f t h2 h3
  have q0 := h f0 t0 hf ht
  show (upd (A 6) (f0 * 5 + t0) (A 6 (f0 * 5 + t0) + v) (f * 5 + t)).toInt = _ ∧ _
  by_cases e : f * 5 + t = f0 * 5 + t0
  · rw [e, pk_us, sg_ad_s, sg_add (by omega) (by omega), q0.1, hv]
    exact ⟨rfl, by omega, by omega⟩
  · rw [pk_un e, sg_ad_n e]
    exact ⟨q.1, by omega, by omega⟩
theorem sg_sh_sb {n f0 t0 : Nat} {B m : Int} {A : sg_Pic} {F : Nat → Int} {v : Int32} (h : sg_sh n B A F) (hf : f0 < n) (ht : t0 < n) (hv : v.toInt = m) (h0 : 0 ≤ m) (h1 : m ≤ 1000000) (hB : B ≤ 100000000) : sg_sh n (B + 1000000) (sg_up A 6 (f0 * 5 + t0) (A 6 (f0 * 5 + t0) - v)) (sg_sb F (f0 * 5 + t0) m) := by
  intro f t h2 h3
  have q := h f t h2 h3
  have q0 := h f0 t0 hf ht
  show (upd (A 6) (f0 * 5 + t0) (A 6 (f0 * 5 + t0) - v) (f * 5 + t)).toInt = _ ∧ _
  by_cases e : f * 5 + t = f0 * 5 + t0
  · rw [e, pk_us, sg_sb_s, sg_sub (by omega) (by omega), q0.1, hv]
    exact ⟨rfl, by omega, by omega⟩
  · rw [pk_un e, sg_sb_n e]
    exact ⟨q.1, by omega, by omega⟩
theorem sg_mn {x y : Int32} : (if x < y then x else y).toInt ≤ x.toInt ∧ (if x < y then x else y).toInt ≤ y.toInt ∧ (0 ≤ x.toInt → 0 ≤ y.toInt → 0 ≤ (if x < y then x else y).toInt) := by
  by_cases c : x < y
  · rw [if_pos c]
    have q := sg_lts.mp c
    exact ⟨Int.le_refl _, by omega, fun h _ => h⟩
  · rw [if_neg c]
    have q : ¬ x.toInt < y.toInt := fun q => c (sg_lts.mpr q)
    exact ⟨by omega, Int.le_refl _, fun _ h => h⟩
/-! a step of the walk back -/
theorem sg_w_st {U : sg_Pic} {V : sg_PiL} {xe k y : Nat} {x : Int32} (c : U 5 y = -1) : sg_sendAlong_12 U V xe (k + 1) y x = (y, x) := by
  rw [sg_sendAlong_12, if_pos c]
theorem sg_w_f {U : sg_Pic} {V : sg_PiL} {xe k y a : Nat} {x : Int32} (c : U 5 y = nI a) (ha : a < 5) (hv : V 3 (y * 5 + a) = 0) : sg_sendAlong_12 U V xe (k + 1) y x = sg_sendAlong_12 U V xe k a x := by
  rw [sg_sendAlong_12, c, if_neg (sg_nIm (by omega)), nI_clamp (by omega), if_pos (lg_cmp_0.mpr hv)]
theorem sg_w_b {U : sg_Pic} {V : sg_PiL} {xe k y a : Nat} {x : Int32} (c : U 5 y = nI a) (ha : a < 5) (hv : V 3 (y * 5 + a) ≠ 0) : sg_sendAlong_12 U V xe (k + 1) y x = sg_sendAlong_12 U V xe k a (if U 6 (y * 5 + a) < x then U 6 (y * 5 + a) else x) := by
  rw [sg_sendAlong_12, c, if_neg (sg_nIm (by omega)), nI_clamp (by omega), if_neg (fun q => hv (lg_cmp_0.mp q))]
theorem sg_w_0 {U : sg_Pic} {V : sg_PiL} {xe y : Nat} {x : Int32} : sg_sendAlong_12 U V xe 0 y x = (y, x) := by rw [sg_sendAlong_12]
theorem sg_x_st {U A : sg_Pic} {V : sg_PiL} {xe k y : Nat} (c : A 5 y = -1) : sg_sendAlong_94 U V xe (k + 1) y A = (y, A) := by
  rw [sg_sa94_s, if_pos c]
theorem sg_x_f {U A : sg_Pic} {V : sg_PiL} {xe k y a : Nat} (c : A 5 y = nI a) (ha : a < 5) (hv : V 3 (y * 5 + a) = 0) : sg_sendAlong_94 U V xe (k + 1) y A = sg_sendAlong_94 U V xe k a (sg_up A 6 (a * 5 + y) (A 6 (a * 5 + y) + sg_mst U V xe)) := by
  rw [sg_sa94_s, c, if_neg (sg_nIm (by omega)), nI_clamp (by omega), if_pos (lg_cmp_0.mpr hv)]
theorem sg_x_b {U A : sg_Pic} {V : sg_PiL} {xe k y a : Nat} (c : A 5 y = nI a) (ha : a < 5) (hv : V 3 (y * 5 + a) ≠ 0) : sg_sendAlong_94 U V xe (k + 1) y A = sg_sendAlong_94 U V xe k a (sg_up A 6 (y * 5 + a) (A 6 (y * 5 + a) - sg_mst U V xe)) := by
  rw [sg_sa94_s, c, if_neg (sg_nIm (by omega)), nI_clamp (by omega), if_neg (fun q => hv (lg_cmp_0.mp q))]
theorem sg_x_0 {U A : sg_Pic} {V : sg_PiL} {xe y : Nat} : sg_sendAlong_94 U V xe 0 y A = (y, A) := by rw [sg_sendAlong_94]
/-- what the plan keeps -/
def sg_FI (n : Nat) (sp la : Nat → Int) (rt : Nat → Prop) (u1 u2 u6 : Nat → Int32) (v3 : Nat → Int64) : Prop :=
  (∀ f t, f < n → t < n → v3 (f * 5 + t) ≠ 0 → 0 < sp f ∧ 0 < la t ∧ rt (f * 5 + t)) ∧
  (∀ f t, f < n → t < n → 0 ≤ (u6 (f * 5 + t)).toInt ∧ (v3 (f * 5 + t) = 0 → (u6 (f * 5 + t)).toInt = 0)) ∧
  (∀ f, f < n → sg_sum (fun t => (u6 (f * 5 + t)).toInt) n = sp f - (u1 f).toInt ∧ 0 ≤ (u1 f).toInt) ∧
  (∀ t, t < n → sg_sum (fun f => (u6 (f * 5 + t)).toInt) n = la t - (u2 t).toInt ∧ 0 ≤ (u2 t).toInt)
theorem sg_sa_fin {n xe s : Nat} {sp la : Nat → Int} {rt : Nat → Prop} {U : sg_Pic} {V : sg_PiL} {G : Nat → Int} {A : sg_Pic} {B : Int} (h : sg_FI n sp la rt (U 1) (U 2) (U 6) (V 3)) (hs : s < n) (he : xe < n) (es : sg_sst U V xe = s) (e94 : sg_sendAlong_94 U V xe 5 xe U = (s, A)) (h0 : 0 ≤ (sg_mst U V xe).toInt) (h1 : (sg_mst U V xe).toInt ≤ (U 1 s).toInt) (h2 : (sg_mst U V xe).toInt ≤ (U 2 xe).toInt) (hG : sg_sh n B A G)
    (g1 : ∀ f t, f < n → t < n → 0 ≤ G (f * 5 + t) ∧ (V 3 (f * 5 + t) = 0 → G (f * 5 + t) = 0))
    (g2 : ∀ f, f < n → sg_sum (fun t => G (f * 5 + t)) n = sg_sum (fun t => (U 6 (f * 5 + t)).toInt) n + (if f = s then (sg_mst U V xe).toInt else 0))
    (g3 : ∀ t, t < n → sg_sum (fun f => G (f * 5 + t)) n = sg_sum (fun f => (U 6 (f * 5 + t)).toInt) n + (if t = xe then (sg_mst U V xe).toInt else 0)) :
    sg_FI n sp la rt (sg_sendAlong_U U V xe 1) (sg_sendAlong_U U V xe 2) (sg_sendAlong_U U V xe 6) (V 3) := by
  have f1 := sg_sa94_f (U := U) (V := V) (xe := xe) (r := 1) (by decide) 5 xe U
  have f2 := sg_sa94_f (U := U) (V := V) (xe := xe) (r := 2) (by decide) 5 xe U
  have x1 : sg_sendAlong_U U V xe 1 = upd (U 1) s (U 1 s - sg_mst U V xe) := by
    rw [sg_sa_U, es, f1]
    rw [sg_up_n (by decide), sg_up_s, f1]
  have x2 : sg_sendAlong_U U V xe 2 = upd (U 2) xe (U 2 xe - sg_mst U V xe) := by
    rw [sg_sa_U, es, f2]
    rw [sg_up_s, sg_up_n (by decide), f2]
  have x6 : sg_sendAlong_U U V xe 6 = A 6 := by
    rw [sg_sa_U]
    rw [sg_up_n (by decide), sg_up_n (by decide), e94]
  rw [x1, x2, x6]
  generalize sg_mst U V xe = m at *
  refine ⟨h.1, fun f t hf ht => ?_, fun f hf => ?_, fun t ht => ?_⟩
  · rw [(hG f t hf ht).1]
    exact g1 f t hf ht
  · have q := h.2.2.1 f hf
    have e : sg_sum (fun t => (A 6 (f * 5 + t)).toInt) n = sg_sum (fun t => G (f * 5 + t)) n := sg_sum_congr n (fun t ht => (hG f t hf ht).1)
    rw [e, g2 f hf]
    by_cases c : f = s
    · subst c
      rw [pk_us, if_pos rfl, sg_sub (by have := sg_hi (U 1 f); omega) (by have := sg_hi (U 1 f); omega)]
      omega
    · rw [pk_un c, if_neg c]
      omega
  · have q := h.2.2.2 t ht
    have e : sg_sum (fun f => (A 6 (f * 5 + t)).toInt) n = sg_sum (fun f => G (f * 5 + t)) n := sg_sum_congr n (fun f hf => (hG f t hf ht).1)
    rw [e, g3 t ht]
    by_cases c : t = xe
    · subst c
      rw [pk_us, if_pos rfl, sg_sub (by have := sg_hi (U 2 t); omega) (by have := sg_hi (U 2 t); omega)]
      omega
    · rw [pk_un c, if_neg c]
      omega
