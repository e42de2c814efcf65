/-! what the plan keeps: the sites ahead -/
theorem lg_cmp_0 {x y : Int64} : lg_cmp x y = 0 ↔ x = y := by
  unfold lg_cmp
  by_cases c : x > y
  · rw [if_pos c]
    refine ⟨fun h => absurd h (by decide), fun h => ?_⟩
    subst h
    exact absurd (Int64.lt_iff_toInt_lt.mp c) (Int.lt_irrefl _)
  · rw [if_neg c]
    by_cases d : x = y
    · rw [if_pos d]
      exact ⟨fun _ => d, fun _ => rfl⟩
    · rw [if_neg d]
      exact ⟨fun h => absurd h (by decide), fun h => absurd h d⟩
theorem sg_nIm {f : Nat} (h : f < 1000) : nI f ≠ -1 := fun q => by
  have e := congrArg Int32.toInt q
  rw [nI_toInt (by omega), sg_zm] at e
  omega
theorem sg_st_o {U : sg_Pic} {V : sg_PiL} {f t : Nat} {r : Int64} (h : sg_st U V f t = some r) : V 4 f ≠ 1152921504606846976 ∧ (V 3 (f * 5 + t) ≠ 0 ∨ V 3 (t * 5 + f) ≠ 0) := by
  unfold sg_st at h
  by_cases c : lg_cmp (V 4 f) 1152921504606846976 = 0
  · rw [if_pos c] at h
    cases h
  rw [if_neg c] at h
  refine ⟨fun q => c (lg_cmp_0.mpr q), ?_⟩
  by_cases d : lg_cmp (V 3 (f * 5 + t)) 0 = 0
  · right
    rw [if_pos d] at h
    by_cases e : U 6 (t * 5 + f) ≤ 0
    · rw [if_pos e, if_pos d] at h
      cases h
    · rw [if_neg e] at h
      intro q
      rw [q, if_pos (show lg_cmp (-(0 : Int64)) 0 = 0 from lg_cmp_0.mpr (by decide))] at h
      cases h
  · exact Or.inl (fun q => d (lg_cmp_0.mpr q))
def sg_AH (n : Nat) (U : sg_Pic) (V : sg_PiL) : Prop := (∀ y, y < n → U 5 y = -1 ∨ ∃ a, a < n ∧ U 5 y = nI a ∧ (V 3 (a * 5 + y) ≠ 0 ∨ V 3 (y * 5 + a) ≠ 0) ∧ (U 5 a ≠ -1 ∨ 0 < (U 1 a).toInt)) ∧ ∀ y, y < n → V 4 y ≠ 1152921504606846976 → U 5 y ≠ -1 ∨ 0 < (U 1 y).toInt
theorem sg_AH.up {n f t : Nat} {r : Int64} {U : sg_Pic} {V : sg_PiL} (hn : n ≤ 5) (h : sg_AH n U V) (hf : f < n) (hs : V 4 f ≠ 1152921504606846976) (hc : V 3 (f * 5 + t) ≠ 0 ∨ V 3 (t * 5 + f) ≠ 0) : sg_AH n (sg_up U 5 t (nI f)) (sg_ul V 4 t r) := by
  have nf : nI f ≠ -1 := sg_nIm (by omega)
  refine ⟨fun y hy => ?_, fun y hy hv => ?_⟩
  · show upd (U 5) t (nI f) y = -1 ∨ ∃ a, a < n ∧ upd (U 5) t (nI f) y = nI a ∧ (V 3 (a * 5 + y) ≠ 0 ∨ V 3 (y * 5 + a) ≠ 0) ∧ (upd (U 5) t (nI f) a ≠ -1 ∨ 0 < (U 1 a).toInt)
    by_cases e : y = t
    · subst e
      refine Or.inr ⟨f, hf, pk_us, hc, ?_⟩
      by_cases e2 : f = y
      · left
        rw [show upd (U 5) y (nI f) f = nI f by rw [e2, pk_us]]
        exact nf
      · rw [pk_un e2]
        exact h.2 f hf hs
    · rw [pk_un e]
      rcases h.1 y hy with q | ⟨a, ha, q1, q2, q3⟩
      · exact Or.inl q
      · refine Or.inr ⟨a, ha, q1, q2, ?_⟩
        by_cases e2 : a = t
        · left
          rw [e2, pk_us]
          exact nf
        · rw [pk_un e2]
          exact q3
  · show upd (U 5) t (nI f) y ≠ -1 ∨ 0 < (U 1 y).toInt
    by_cases e : y = t
    · left
      rw [e, pk_us]
      exact nf
    · rw [pk_un e]
      rw [sg_ul_v, if_neg e] at hv
      exact h.2 y hy hv
theorem sg_step_AH {n f t : Nat} {U : sg_Pic} {V : sg_PiL} (hn : n ≤ 5) (h : sg_AH n U V) (hf : f < n) : sg_AH n (sg_step_U U V f t) (sg_step_V U V f t) := by
  rw [sg_step_apU, sg_step_apV]
  cases e : sg_st U V f t with
  | none => exact h
  | some r => exact h.up hn hf (sg_st_o e).1 (sg_st_o e).2
theorem sg_fw67_AH {n a1 f : Nat} {U A1 A2 : sg_Pic} {V C1 C2 : sg_PiL} (hn : n ≤ 5) (h : sg_AH n A2 C2) (hf : f < n) : ∀ j, sg_AH n (sg_findWays_67 U V a1 A1 C1 f A2 C2 j).1 (sg_findWays_67 U V a1 A1 C1 f A2 C2 j).2
  | 0 => by
    rw [sg_findWays_67]
    exact h
  | j + 1 => by
    have q := sg_fw67_AH (a1 := a1) (U := U) (V := V) (A1 := A1) (C1 := C1) hn h hf j
    rw [sg_findWays_67]
    exact sg_step_AH hn q hf
theorem sg_fw57_AH {n a1 : Nat} {U A1 : sg_Pic} {V C1 : sg_PiL} (hn : n ≤ 5) (h : sg_AH n A1 C1) : ∀ j, j ≤ n → sg_AH n (sg_findWays_57 U V a1 A1 C1 j).1 (sg_findWays_57 U V a1 A1 C1 j).2
  | 0, _ => by
    rw [sg_findWays_57]
    exact h
  | j + 1, hj => by
    have q := sg_fw57_AH (a1 := a1) (U := U) (V := V) hn h j (by omega)
    rw [sg_findWays_57]
    exact sg_fw67_AH hn q (by omega) _
theorem sg_fw47_AH {n : Nat} {U : sg_Pic} {V : sg_PiL} (hn : n ≤ 5) (hU : sg_cn U 0 = n) (h : sg_AH n (sg_findWays_2 U V n).1 (sg_findWays_2 U V n).2) : ∀ j, sg_AH n (sg_findWays_47 U V j).1 (sg_findWays_47 U V j).2
  | 0 => by
    rw [sg_findWays_47, hU]
    exact h
  | j + 1 => by
    have q := sg_fw47_AH hn hU h j
    rw [sg_findWays_47, hU]
    exact sg_fw57_AH hn q n (Nat.le_refl n)
theorem sg_fw2_AH {U : sg_Pic} {V : sg_PiL} : ∀ j, (sg_findWays_2 U V j).1 1 = U 1 ∧ ∀ y, y < j → (sg_findWays_2 U V j).1 5 y = -1 ∧ ((sg_findWays_2 U V j).2 4 y ≠ 1152921504606846976 → 0 < (U 1 y).toInt)
  | 0 => by
    rw [sg_findWays_2]
    exact ⟨rfl, fun y hy => absurd hy (Nat.not_lt_zero y)⟩
  | j + 1 => by
    have q := sg_fw2_AH (U := U) (V := V) j
    rw [sg_findWays_2]
    generalize (sg_findWays_2 U V j).1 = A at q ⊢
    generalize (sg_findWays_2 U V j).2 = B at q ⊢
    by_cases c : A 1 j ≤ 0
    · rw [if_pos c]
      refine ⟨q.1, fun y hy => ?_⟩
      show upd (A 5) j (-1) y = -1 ∧ (sg_ul B 4 j 1152921504606846976 4 y ≠ 1152921504606846976 → 0 < (U 1 y).toInt)
      by_cases e : y = j
      · subst e
        rw [pk_us, sg_ul_v, if_pos rfl]
        exact ⟨rfl, fun w => absurd rfl w⟩
      · rw [pk_un e, sg_ul_v, if_neg e]
        exact q.2 y (by omega)
    · rw [if_neg c]
      refine ⟨q.1, fun y hy => ?_⟩
      show upd (A 5) j (-1) y = -1 ∧ (sg_ul B 4 j 0 4 y ≠ 1152921504606846976 → 0 < (U 1 y).toInt)
      by_cases e : y = j
      · subst e
        rw [pk_us]
        exact ⟨rfl, fun _ => by rw [← q.1]; exact sg_pos c⟩
      · rw [pk_un e, sg_ul_v, if_neg e]
        exact q.2 y (by omega)
theorem sg_fw_AH {n : Nat} {U : sg_Pic} {V : sg_PiL} (hn : n ≤ 5) (hU : sg_cn U 0 = n) : sg_AH n (sg_findWays_U U V) (sg_findWays_V U V) := by
  have q := sg_fw2_AH (U := U) (V := V) n
  unfold sg_findWays_U sg_findWays_V
  rw [hU]
  refine sg_fw47_AH hn hU ⟨fun y hy => Or.inl (q.2 y hy).1, fun y hy hv => Or.inr ?_⟩ n
  rw [q.1]
  exact (q.2 y hy).2 hv
/-! rows that finding ways leaves as they are -/
theorem sg_step_f {U : sg_Pic} {V : sg_PiL} {f t r : Nat} (hr : r ≠ 5) : sg_step_U U V f t r = U r ∧ sg_step_V U V f t 3 = V 3 := by
  rw [sg_step_apU, sg_step_apV]
  cases sg_st U V f t with
  | none => exact ⟨rfl, rfl⟩
  | some z => exact ⟨sg_up_n hr, rfl⟩
theorem sg_fw67_f {a1 f r : Nat} {U A1 A2 : sg_Pic} {V C1 C2 : sg_PiL} (hr : r ≠ 5) : ∀ j, (sg_findWays_67 U V a1 A1 C1 f A2 C2 j).1 r = A2 r ∧ (sg_findWays_67 U V a1 A1 C1 f A2 C2 j).2 3 = C2 3
  | 0 => by
    rw [sg_findWays_67]
    exact ⟨rfl, rfl⟩
  | j + 1 => by
    have q := sg_fw67_f (a1 := a1) (f := f) (U := U) (V := V) (A1 := A1) (A2 := A2) (C1 := C1) (C2 := C2) hr j
    rw [sg_findWays_67]
    exact ⟨(sg_step_f hr).1.trans q.1, (sg_step_f hr).2.trans q.2⟩
theorem sg_fw57_f {a1 r : Nat} {U A1 : sg_Pic} {V C1 : sg_PiL} (hr : r ≠ 5) : ∀ j, (sg_findWays_57 U V a1 A1 C1 j).1 r = A1 r ∧ (sg_findWays_57 U V a1 A1 C1 j).2 3 = C1 3
  | 0 => by
    rw [sg_findWays_57]
    exact ⟨rfl, rfl⟩
  | j + 1 => by
    have q := sg_fw57_f (a1 := a1) (U := U) (V := V) (A1 := A1) (C1 := C1) hr j
    rw [sg_findWays_57]
    exact ⟨(sg_fw67_f hr _).1.trans q.1, (sg_fw67_f hr _).2.trans q.2⟩
theorem sg_fw2_f {r : Nat} {U : sg_Pic} {V : sg_PiL} (hr : r ≠ 5) : ∀ j, (sg_findWays_2 U V j).1 r = U r ∧ (sg_findWays_2 U V j).2 3 = V 3
  | 0 => by
    rw [sg_findWays_2]
    exact ⟨rfl, rfl⟩
  | j + 1 => by
    have q := sg_fw2_f (U := U) (V := V) hr j
    rw [sg_findWays_2]
    split
    · exact ⟨(sg_up_n hr).trans q.1, q.2⟩
    · exact ⟨(sg_up_n hr).trans q.1, q.2⟩
theorem sg_fw47_f {r : Nat} {U : sg_Pic} {V : sg_PiL} (hr : r ≠ 5) : ∀ j, (sg_findWays_47 U V j).1 r = U r ∧ (sg_findWays_47 U V j).2 3 = V 3
  | 0 => by
    rw [sg_findWays_47]
    exact sg_fw2_f hr _
  | j + 1 => by
    have q := sg_fw47_f (U := U) (V := V) hr j
    rw [sg_findWays_47]
    exact ⟨(sg_fw57_f hr _).1.trans q.1, (sg_fw57_f hr _).2.trans q.2⟩
theorem sg_fw_f {r : Nat} {U : sg_Pic} {V : sg_PiL} (hr : r ≠ 5) : sg_findWays_U U V r = U r ∧ sg_findWays_V U V 3 = V 3 := by
  unfold sg_findWays_U sg_findWays_V
  exact sg_fw47_f hr _
theorem sg_ce4_o {U : sg_Pic} {V : sg_PiL} : ∀ j, sg_cheapestEnd_4 U V j = -1 ∨ ∃ f, f < j ∧ sg_cheapestEnd_4 U V j = nI f ∧ 0 < (U 2 f).toInt ∧ V 4 f ≠ 1152921504606846976
  | 0 => Or.inl (by rw [sg_cheapestEnd_4])
  | j + 1 => by
    have h1 : sg_cheapestEnd_4 U V j = -1 ∨ ∃ f, f < j + 1 ∧ sg_cheapestEnd_4 U V j = nI f ∧ 0 < (U 2 f).toInt ∧ V 4 f ≠ 1152921504606846976 := by
      rcases sg_ce4_o (U := U) (V := V) j with h | ⟨f, hf, h⟩
      · exact Or.inl h
      · exact Or.inr ⟨f, by omega, h⟩
    rw [sg_cheapestEnd_4]
    by_cases c : U 2 j ≤ 0
    · rw [if_pos c]
      exact h1
    rw [if_neg c]
    by_cases d : lg_cmp (V 4 j) 1152921504606846976 = 0
    · rw [if_pos d]
      exact h1
    rw [if_neg d]
    have h2 : nI j = -1 ∨ ∃ f, f < j + 1 ∧ nI j = nI f ∧ 0 < (U 2 f).toInt ∧ V 4 f ≠ 1152921504606846976 := Or.inr ⟨j, by omega, rfl, sg_pos c, fun q => d (lg_cmp_0.mpr q)⟩
    split
    · exact h2
    · split
      · exact h1
      · exact h2
