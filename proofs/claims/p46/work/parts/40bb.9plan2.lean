/-! the plan: the rest of what it decides depends on what is used alone -/
theorem sg_EQ.no {w : Prop} {n : Nat} {U T : sg_Pic} {V S : sg_PiL} (h : sg_EQ w n U T V S) : sg_EQ False n U T V S := ⟨h.1, h.2.1, h.2.2.1, fun q => q.elim⟩
theorem sg_ce4_EQ {n : Nat} {U T : sg_Pic} {V S : sg_PiL} (h : sg_EQ True n U T V S) (hn : n ≤ 5) : ∀ j, j ≤ n → sg_cheapestEnd_4 U V j = sg_cheapestEnd_4 T S j
  | 0, _ => by rw [sg_cheapestEnd_4, sg_cheapestEnd_4]
  | j + 1, hj => by
    have q := sg_ce4_EQ h hn j (by omega)
    have r := sg_ce_R U V j
    rw [sg_cheapestEnd_4, sg_cheapestEnd_4, ← q, (h.2.1 j (by omega)).2, (h.2.2.2 trivial j (by omega)).2]
    generalize sg_cheapestEnd_4 U V j = z at r ⊢
    rcases r with r | ⟨f, hf, r⟩
    · subst r
      rw [if_pos (show (-1 : Int32) = -1 from rfl), if_pos (show (-1 : Int32) = -1 from rfl)]
    · subst r
      rw [nI_clamp (by omega), (h.2.2.2 trivial f (by omega)).2]
theorem sg_sa12_EQ {n xe : Nat} {U T : sg_Pic} {V S : sg_PiL} (h : sg_EQ True n U T V S) (hn : n ≤ 5) (hA : sg_UA n U) : ∀ (k y : Nat) (x : Int32), y < n → sg_sendAlong_12 U V xe k y x = sg_sendAlong_12 T S xe k y x
  | 0, y, x, hy => by rw [sg_sendAlong_12, sg_sendAlong_12]
  | k + 1, y, x, hy => by
    rw [sg_sendAlong_12, sg_sendAlong_12, ← (h.2.2.2 trivial y hy).1]
    by_cases c : U 5 y = -1
    · rw [if_pos c, if_pos c]
    · have ha := (hA.n hn hy c).2
      rw [if_neg c, if_neg c, (h.2.2.1 y _ hy ha).1, (h.2.2.1 y _ hy ha).2]
      by_cases c2 : lg_cmp (S 3 (y * 5 + Int32.toNatClampNeg (U 5 y))) 0 = 0
      · rw [if_pos c2, if_pos c2]
        exact sg_sa12_EQ h hn hA k _ _ ha
      · rw [if_neg c2, if_neg c2]
        exact sg_sa12_EQ h hn hA k _ _ ha
/-- where a way begins -/
def sg_sst (U : sg_Pic) (V : sg_PiL) (xe : Nat) : Nat := (sg_sendAlong_12 U V xe 5 xe (U 2 xe)).1
/-- how much goes along it -/
def sg_mst (U : sg_Pic) (V : sg_PiL) (xe : Nat) : Int32 := if U 1 ((sg_sendAlong_12 U V xe 5 xe (U 2 xe)).1) < (sg_sendAlong_12 U V xe 5 xe (U 2 xe)).2 then U 1 ((sg_sendAlong_12 U V xe 5 xe (U 2 xe)).1) else (sg_sendAlong_12 U V xe 5 xe (U 2 xe)).2
theorem sg_sa94_s {U A : sg_Pic} {V : sg_PiL} {xe k y : Nat} : sg_sendAlong_94 U V xe (k + 1) y A = if A 5 y = -1 then (y, A) else if lg_cmp (V 3 (y * 5 + Int32.toNatClampNeg (A 5 y))) 0 = 0 then sg_sendAlong_94 U V xe k (Int32.toNatClampNeg (A 5 y)) (sg_up A 6 (Int32.toNatClampNeg (A 5 y) * 5 + y) (A 6 (Int32.toNatClampNeg (A 5 y) * 5 + y) + sg_mst U V xe)) else sg_sendAlong_94 U V xe k (Int32.toNatClampNeg (A 5 y)) (sg_up A 6 (y * 5 + Int32.toNatClampNeg (A 5 y)) (A 6 (y * 5 + Int32.toNatClampNeg (A 5 y)) - sg_mst U V xe)) := by
  rw [sg_sendAlong_94]
  unfold sg_mst
  rfl
theorem sg_sa_U {U : sg_Pic} {V : sg_PiL} {xe : Nat} : sg_sendAlong_U U V xe = sg_up (sg_up (sg_sendAlong_94 U V xe 5 xe U).2 1 (sg_sst U V xe) ((sg_sendAlong_94 U V xe 5 xe U).2 1 (sg_sst U V xe) - sg_mst U V xe)) 2 xe ((sg_sendAlong_94 U V xe 5 xe U).2 2 xe - sg_mst U V xe) := by
  unfold sg_sendAlong_U sg_sst sg_mst
  rfl
theorem sg_sa94_f {U : sg_Pic} {V : sg_PiL} {xe r : Nat} (hr : r ≠ 6) : ∀ (k y : Nat) (A : sg_Pic), (sg_sendAlong_94 U V xe k y A).2 r = A r
  | 0, y, A => by rw [sg_sendAlong_94]
  | k + 1, y, A => by
    rw [sg_sa94_s]
    by_cases c : A 5 y = -1
    · rw [if_pos c]
    · rw [if_neg c]
      by_cases c2 : lg_cmp (V 3 (y * 5 + Int32.toNatClampNeg (A 5 y))) 0 = 0
      · rw [if_pos c2, sg_sa94_f hr k, sg_up_n hr]
      · rw [if_neg c2, sg_sa94_f hr k, sg_up_n hr]
theorem sg_set6_EQ {w : Prop} {n z : Nat} {v : Int32} {U T : sg_Pic} {V S : sg_PiL} (h : sg_EQ w n U T V S) : sg_EQ w n (sg_up U 6 z v) (sg_up T 6 z v) V S := by
  refine ⟨h.1, fun x hx => h.2.1 x hx, fun f t h1 h2 => ⟨?_, (h.2.2.1 f t h1 h2).2⟩, fun q x hx => h.2.2.2 q x hx⟩
  show upd (U 6) z v (f * 5 + t) = upd (T 6) z v (f * 5 + t)
  by_cases e : f * 5 + t = z
  · rw [e, pk_us, pk_us]
  · rw [pk_un e, pk_un e]
    exact (h.2.2.1 f t h1 h2).1
theorem sg_set1_EQ {w : Prop} {n z : Nat} {v : Int32} {U T : sg_Pic} {V S : sg_PiL} (h : sg_EQ w n U T V S) : sg_EQ w n (sg_up U 1 z v) (sg_up T 1 z v) V S := by
  refine ⟨h.1, fun x hx => ⟨?_, (h.2.1 x hx).2⟩, fun f t h1 h2 => h.2.2.1 f t h1 h2, fun q x hx => h.2.2.2 q x hx⟩
  show upd (U 1) z v x = upd (T 1) z v x
  by_cases e : x = z
  · rw [e, pk_us, pk_us]
  · rw [pk_un e, pk_un e]
    exact (h.2.1 x hx).1
theorem sg_set2_EQ {w : Prop} {n z : Nat} {v : Int32} {U T : sg_Pic} {V S : sg_PiL} (h : sg_EQ w n U T V S) : sg_EQ w n (sg_up U 2 z v) (sg_up T 2 z v) V S := by
  refine ⟨h.1, fun x hx => ⟨(h.2.1 x hx).1, ?_⟩, fun f t h1 h2 => h.2.2.1 f t h1 h2, fun q x hx => h.2.2.2 q x hx⟩
  show upd (U 2) z v x = upd (T 2) z v x
  by_cases e : x = z
  · rw [e, pk_us, pk_us]
  · rw [pk_un e, pk_un e]
    exact (h.2.1 x hx).2
theorem sg_sa94_EQ {n xe : Nat} {U T : sg_Pic} {V S : sg_PiL} (hn : n ≤ 5) (hm : sg_mst U V xe = sg_mst T S xe) : ∀ (k y : Nat) (A B : sg_Pic), y < n → sg_UA n A → sg_EQ True n A B V S → sg_EQ True n (sg_sendAlong_94 U V xe k y A).2 (sg_sendAlong_94 T S xe k y B).2 V S
  | 0, y, A, B, hy, hA, h => by
    rw [sg_sendAlong_94, sg_sendAlong_94]
    exact h
  | k + 1, y, A, B, hy, hA, h => by
    rw [sg_sa94_s, sg_sa94_s, ← (h.2.2.2 trivial y hy).1, ← hm]
    by_cases c : A 5 y = -1
    · rw [if_pos c, if_pos c]
      exact h
    · have ha := (hA.n hn hy c).2
      rw [if_neg c, if_neg c, ← (h.2.2.1 y _ hy ha).1, ← (h.2.2.1 y _ hy ha).2, ← (h.2.2.1 _ y ha hy).1]
      by_cases c2 : lg_cmp (V 3 (y * 5 + Int32.toNatClampNeg (A 5 y))) 0 = 0
      · rw [if_pos c2, if_pos c2]
        exact sg_sa94_EQ hn hm k _ _ _ ha hA (sg_set6_EQ h)
      · rw [if_neg c2, if_neg c2]
        exact sg_sa94_EQ hn hm k _ _ _ ha hA (sg_set6_EQ h)
theorem sg_sst_n {n xe : Nat} {U : sg_Pic} {V : sg_PiL} (hU : sg_cn U 0 = n) (hn : n ≤ 5) (hA : sg_UA n U) (he : xe < n) : sg_sst U V xe < n := by
  unfold sg_sst
  subst hU
  exact sg_sa12 hA hn 5 _ _ he
theorem sg_sa_EQ {n xe : Nat} {U T : sg_Pic} {V S : sg_PiL} (h : sg_EQ True n U T V S) (hU : sg_cn U 0 = n) (hn : n ≤ 5) (hA : sg_UA n U) (he : xe < n) : sg_EQ True n (sg_sendAlong_U U V xe) (sg_sendAlong_U T S xe) V S := by
  have e12 : sg_sendAlong_12 U V xe 5 xe (U 2 xe) = sg_sendAlong_12 T S xe 5 xe (T 2 xe) := by
    rw [← (h.2.1 xe he).2]
    exact sg_sa12_EQ h hn hA 5 _ _ he
  have es : sg_sst U V xe = sg_sst T S xe := by
    unfold sg_sst
    rw [e12]
  have hs := sg_sst_n (V := V) hU hn hA he
  have em : sg_mst U V xe = sg_mst T S xe := by
    have q := (h.2.1 _ hs).1
    unfold sg_sst at q
    unfold sg_mst
    rw [q, e12]
  have q := sg_sa94_EQ hn em 5 xe U T he hA h
  rw [sg_sa_U, sg_sa_U, ← es, ← em, ← (q.2.1 _ hs).1, ← (q.2.1 xe he).2]
  exact sg_set2_EQ (sg_set1_EQ q)
theorem sg_cn_KU {U T : sg_Pic} (h : sg_KU U T) : sg_cn U 0 = sg_cn T 0 := by
  unfold sg_cn
  rw [h.e]
theorem sg_mk148_EQ {n xi : Nat} {U T P : sg_Pic} {V S : sg_PiL} (hn : n ≤ 5) : ∀ (k : Nat) (A B : sg_Pic) (C D : sg_PiL), sg_UN A → sg_UN B → sg_cn A 0 = n → sg_cn B 0 = n → sg_EQ False n A B C D → sg_EQ False n (sg_fst (sg_make_148 U V P xi k A C)) (sg_fst (sg_make_148 T S P xi k B D)) (sg_snd (sg_make_148 U V P xi k A C)) (sg_snd (sg_make_148 T S P xi k B D))
  | 0, A, B, C, D, _, _, _, _, h => by
    rw [sg_make_148, sg_make_148, sg_p1n, sg_p1n, sg_p2n, sg_p2n]
    exact h
  | k + 1, A, B, C, D, gA, gB, hA, hB, h => by
    have q := sg_fw_EQ hA hB h
    have uA := sg_fw_A (V := C) gA
    have ka := sg_findWays_KU A C
    have kb := sg_findWays_KU B D
    have ga := ka.N gA
    have gb := kb.N gB
    have na : sg_cn (sg_findWays_U A C) 0 = n := (sg_cn_KU ka).trans hA
    have nb : sg_cn (sg_findWays_U B D) 0 = n := (sg_cn_KU kb).trans hB
    rw [sg_make_148, sg_make_148]
    generalize sg_findWays_U A C = A1 at q uA ka ga na ⊢
    generalize sg_findWays_V A C = C1 at q ⊢
    generalize sg_findWays_U B D = B1 at q kb gb nb ⊢
    generalize sg_findWays_V B D = D1 at q ⊢
    have ec : sg_cheapestEnd A1 C1 = sg_cheapestEnd B1 D1 := by
      unfold sg_cheapestEnd
      rw [na, nb]
      exact sg_ce4_EQ q hn n (Nat.le_refl n)
    rw [← ec]
    by_cases c : sg_cheapestEnd A1 C1 = -1
    · rw [if_pos c, if_pos c, sg_p1n, sg_p1n, sg_p2n, sg_p2n]
      exact q.no
    · have l := (sg_ce ga c).2
      rw [na] at l uA
      rw [if_neg c, if_neg c]
      generalize Int32.toNatClampNeg (sg_cheapestEnd A1 C1) = xe at l ⊢
      have k1 := sg_sendAlong_KU A1 C1 xe
      have k2 := sg_sendAlong_KU B1 D1 xe
      exact sg_mk148_EQ hn k _ _ _ _ (k1.N ga) (k2.N gb) ((sg_cn_KU k1).trans na) ((sg_cn_KU k2).trans nb) (sg_sa_EQ q na hn uA l).no
/-! what the plan is made of -/
def sg_cst (A P : sg_Pic) (f t : Nat) : Int64 := if A 1 f ≤ 0 then 0 else if A 2 t ≤ 0 then 0 else sg_costOf (f * 5 + t) (P 21 (f * 5 + t))
theorem sg_mk13 {U P : sg_Pic} {V : sg_PiL} {xi : Nat} : ∀ j, sg_make_13 U V P xi j 0 0 = P 0 2 ∧ ∀ x, x < j → sg_make_13 U V P xi j 1 x = sg_spareAt P xi x ∧ sg_make_13 U V P xi j 2 x = sg_lackAt P xi x
  | 0 => by
    rw [sg_make_13]
    refine ⟨?_, fun x hx => absurd hx (Nat.not_lt_zero x)⟩
    show upd (U 0) 0 (P 0 2) 0 = P 0 2
    exact pk_us
  | j + 1 => by
    have q := sg_mk13 (U := U) (P := P) (V := V) (xi := xi) j
    rw [sg_make_13]
    generalize sg_make_13 U V P xi j = A at q ⊢
    refine ⟨q.1, fun x hx => ?_⟩
    show upd (A 1) j (sg_spareAt P xi j) x = sg_spareAt P xi x ∧ upd (A 2) j (sg_lackAt P xi j) x = sg_lackAt P xi x
    by_cases e : x = j
    · subst e
      rw [pk_us, pk_us]
      exact ⟨rfl, rfl⟩
    · rw [pk_un e, pk_un e]
      exact q.2 x (by omega)
theorem sg_ul_v {V : sg_PiL} {k i j : Nat} {v : Int64} : sg_ul V k i v k j = if j = i then v else V k j := by
  have e0 : sg_ul V k i v k = vp_updL (V k) i v := by
    unfold sg_ul
    rw [show Nat.beq k k = true from Nat.beq_refl k]
  rw [e0]
  by_cases e : j = i
  · rw [if_pos e, e, pk_uLs]
  · rw [if_neg e, pk_uLn e]
theorem sg_mk64 {U P A : sg_Pic} {V C : sg_PiL} {xi f : Nat} : ∀ j, j ≤ 5 → (∀ r, r ≠ 6 → (sg_make_64 U V P xi f A C j).1 r = A r) ∧ ∀ z, ((∀ t, t < j → z ≠ f * 5 + t) → (sg_make_64 U V P xi f A C j).1 6 z = A 6 z ∧ (sg_make_64 U V P xi f A C j).2 3 z = C 3 z) ∧ ∀ t, t < j → z = f * 5 + t → (sg_make_64 U V P xi f A C j).1 6 z = 0 ∧ (sg_make_64 U V P xi f A C j).2 3 z = sg_cst A P f t
  | 0, _ => by
    rw [sg_make_64]
    exact ⟨fun _ _ => rfl, fun z => ⟨fun _ => ⟨rfl, rfl⟩, fun t ht => absurd ht (Nat.not_lt_zero t)⟩⟩
  | j + 1, hj => by
    obtain ⟨q, q2⟩ := sg_mk64 (U := U) (P := P) (V := V) (xi := xi) (A := A) (C := C) (f := f) j (by omega)
    have e : ∃ v, v = sg_cst A P f j ∧ sg_make_64 U V P xi f A C (j + 1) = (sg_up (sg_make_64 U V P xi f A C j).1 6 (f * 5 + j) 0, sg_ul (sg_make_64 U V P xi f A C j).2 3 (f * 5 + j) v) := by
      refine ⟨_, rfl, ?_⟩
      rw [sg_make_64]
      unfold sg_cst
      rw [q 1 (by decide), q 2 (by decide)]
      split
      · rfl
      · split <;> rfl
    obtain ⟨v, hv, e⟩ := e
    rw [e]
    generalize (sg_make_64 U V P xi f A C j).1 = A1 at q q2 ⊢
    generalize (sg_make_64 U V P xi f A C j).2 = C1 at q2 ⊢
    refine ⟨fun r hr => ?_, fun z => ⟨fun hz => ?_, fun t ht hz => ?_⟩⟩
    · show sg_up A1 6 (f * 5 + j) 0 r = A r
      rw [sg_up_n hr, q r hr]
    · have h1 := hz j (Nat.lt_succ_self j)
      show upd (A1 6) (f * 5 + j) 0 z = A 6 z ∧ sg_ul C1 3 (f * 5 + j) v 3 z = C 3 z
      rw [pk_un h1, sg_ul_v, if_neg h1]
      exact (q2 z).1 (fun t ht => hz t (by omega))
    · show upd (A1 6) (f * 5 + j) 0 z = 0 ∧ sg_ul C1 3 (f * 5 + j) v 3 z = sg_cst A P f t
      by_cases c : t = j
      · subst c
        rw [hz, pk_us, sg_ul_v, if_pos rfl]
        exact ⟨rfl, hv⟩
      · have h1 : z ≠ f * 5 + j := by omega
        rw [pk_un h1, sg_ul_v, if_neg h1]
        exact (q2 z).2 t (by omega) hz
theorem sg_mk53 {U P : sg_Pic} {V : sg_PiL} {xi n : Nat} (hP : sg_cn P 2 = n) (hn : n ≤ 5) : ∀ j, j ≤ n → (∀ r, r ≠ 6 → (sg_make_53 U V P xi j).1 r = sg_make_13 U V P xi n r) ∧ ∀ f t, f < j → t < n → (sg_make_53 U V P xi j).1 6 (f * 5 + t) = 0 ∧ (sg_make_53 U V P xi j).2 3 (f * 5 + t) = sg_cst (sg_make_13 U V P xi n) P f t
  | 0, _ => by
    rw [sg_make_53, hP]
    exact ⟨fun _ _ => rfl, fun f t hf => absurd hf (Nat.not_lt_zero f)⟩
  | j + 1, hj => by
    obtain ⟨q, q2⟩ := sg_mk53 (U := U) (P := P) (V := V) (xi := xi) hP hn j (by omega)
    rw [sg_make_53, hP]
    generalize (sg_make_53 U V P xi j).1 = A at q q2 ⊢
    generalize (sg_make_53 U V P xi j).2 = C at q2 ⊢
    obtain ⟨w, w2⟩ := sg_mk64 (U := U) (P := P) (V := V) (xi := xi) (A := A) (C := C) (f := j) n hn
    refine ⟨fun r hr => (w r hr).trans (q r hr), fun f t hf ht => ?_⟩
    by_cases c : f = j
    · subst c
      have z := (w2 (f * 5 + t)).2 t ht rfl
      refine ⟨z.1, z.2.trans ?_⟩
      unfold sg_cst
      rw [q 1 (by decide), q 2 (by decide)]
    · have z := (w2 (f * 5 + t)).1 (fun t1 ht1 => by omega)
      rw [z.1, z.2]
      exact q2 f t (by omega) ht
theorem sg_mk_EQ {U T P : sg_Pic} {V S : sg_PiL} {xi n : Nat} (hP : sg_cn P 2 = n) (hn : n ≤ 5) : sg_EQ False n (sg_make_53 U V P xi n).1 (sg_make_53 T S P xi n).1 (sg_make_53 U V P xi n).2 (sg_make_53 T S P xi n).2 := by
  obtain ⟨a, a2⟩ := sg_mk53 (U := U) (V := V) (xi := xi) hP hn n (Nat.le_refl n)
  obtain ⟨b, b2⟩ := sg_mk53 (U := T) (V := S) (xi := xi) hP hn n (Nat.le_refl n)
  have c := sg_mk13 (U := U) (P := P) (V := V) (xi := xi) n
  have d := sg_mk13 (U := T) (P := P) (V := S) (xi := xi) n
  refine ⟨?_, fun x hx => ?_, fun f t hf ht => ?_, fun q => q.elim⟩
  · rw [a 0 (by decide), b 0 (by decide), c.1, d.1]
  · rw [a 1 (by decide), b 1 (by decide), a 2 (by decide), b 2 (by decide), (c.2 x hx).1, (c.2 x hx).2, (d.2 x hx).1, (d.2 x hx).2]
    exact ⟨rfl, rfl⟩
  · rw [(a2 f t hf ht).1, (a2 f t hf ht).2, (b2 f t hf ht).1, (b2 f t hf ht).2]
    refine ⟨rfl, ?_⟩
    unfold sg_cst
    rw [(c.2 f hf).1, (c.2 t ht).2, (d.2 f hf).1, (d.2 t ht).2]
theorem sg_mk_UN {U P : sg_Pic} {V : sg_PiL} {xi j : Nat} (hw : sg_W P) : sg_UN (sg_make_53 U V P xi j).1 ∧ sg_cn (sg_make_53 U V P xi j).1 0 = sg_cn P 2 := by
  have k : sg_KU (sg_make_53 U V P xi j).1 (sg_up U 0 0 (P 0 2)) := (sg_make_53_KU U V P xi j).trans (sg_make_13_KU U V P xi _)
  refine ⟨k.N hw.un, ?_⟩
  rw [sg_cn_KU k]
  show Int32.toNatClampNeg (upd (U 0) 0 (P 0 2) 0) = sg_cn P 2
  rw [pk_us]
  rfl
theorem sg_make_EQ {U T P : sg_Pic} {V S : sg_PiL} {xi : Nat} (hw : sg_W P) : sg_EQ False (sg_cn P 2) (sg_make_U U V P xi) (sg_make_U T S P xi) (sg_make_V U V P xi) (sg_make_V T S P xi) := by
  have a := sg_mk_UN (U := U) (V := V) (xi := xi) (j := sg_cn P 2) hw
  have b := sg_mk_UN (U := T) (V := S) (xi := xi) (j := sg_cn P 2) hw
  unfold sg_make_U sg_make_V
  exact sg_mk148_EQ hw.n2 sg_M _ _ _ _ a.1 b.1 a.2 b.2 (sg_mk_EQ rfl hw.n2)
theorem sg_plan_e1 {P : sg_Pic} {i s t : Nat} (hw : sg_W P) (hs : s < sg_cn P 2) (ht : t < sg_cn P 2) (U : sg_Pic) (V : sg_PiL) : sg_g_planned_r U V P i s t = sg_plan P i (s * 5 + t) := by
  unfold sg_g_planned_r sg_plan
  exact ((sg_make_EQ (U := U) (T := sg_0) (V := V) (S := sg_L0) (xi := i) hw).2.2.1 s t hs ht).1
