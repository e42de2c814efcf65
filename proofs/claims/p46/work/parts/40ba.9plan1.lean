/-! the plan: what it decides depends on what is used alone -/
/-- the new reach of a site by a way, if it is better -/
def sg_st (U : sg_Pic) (V : sg_PiL) (f t : Nat) : Option Int64 := (if (lg_cmp (V 4 f) 1152921504606846976) = 0 then none else (if (lg_cmp (V 3 ((f * 5) + t)) 0) = 0 then (if (U 6 ((t * 5) + f)) ≤ 0 then (if (lg_cmp (V 3 ((f * 5) + t)) 0) = 0 then none else (if (lg_cmp (V 4 t) 1152921504606846976) = 0 then some ((V 4 f) + (V 3 ((f * 5) + t))) else (if 0 ≤ (lg_cmp ((V 4 f) + (V 3 ((f * 5) + t))) (V 4 t)) then none else some ((V 4 f) + (V 3 ((f * 5) + t)))))) else (if (lg_cmp (-(V 3 ((t * 5) + f))) 0) = 0 then none else (if (lg_cmp (V 4 t) 1152921504606846976) = 0 then some ((V 4 f) + (-(V 3 ((t * 5) + f)))) else (if 0 ≤ (lg_cmp ((V 4 f) + (-(V 3 ((t * 5) + f)))) (V 4 t)) then none else some ((V 4 f) + (-(V 3 ((t * 5) + f)))))))) else (if (lg_cmp (V 3 ((f * 5) + t)) 0) = 0 then none else (if (lg_cmp (V 4 t) 1152921504606846976) = 0 then some ((V 4 f) + (V 3 ((f * 5) + t))) else (if 0 ≤ (lg_cmp ((V 4 f) + (V 3 ((f * 5) + t))) (V 4 t)) then none else some ((V 4 f) + (V 3 ((f * 5) + t))))))))
def sg_apU (U : sg_Pic) (f t : Nat) : Option Int64 → sg_Pic
  | none => U
  | some _ => sg_up U 5 t (nI f)
def sg_apV (V : sg_PiL) (t : Nat) : Option Int64 → sg_PiL
  | none => V
  | some r => sg_ul V 4 t r
theorem sg_apU_i {U : sg_Pic} {f t : Nat} {c : Prop} [Decidable c] {a b : Option Int64} : sg_apU U f t (if c then a else b) = if c then sg_apU U f t a else sg_apU U f t b := by split <;> rfl
theorem sg_apV_i {V : sg_PiL} {t : Nat} {c : Prop} [Decidable c] {a b : Option Int64} : sg_apV V t (if c then a else b) = if c then sg_apV V t a else sg_apV V t b := by split <;> rfl
theorem sg_apU_n {U : sg_Pic} {f t : Nat} : sg_apU U f t none = U := rfl
theorem sg_apU_s {U : sg_Pic} {f t : Nat} {r : Int64} : sg_apU U f t (some r) = sg_up U 5 t (nI f) := rfl
theorem sg_apV_n {V : sg_PiL} {t : Nat} : sg_apV V t none = V := rfl
theorem sg_apV_s {V : sg_PiL} {t : Nat} {r : Int64} : sg_apV V t (some r) = sg_ul V 4 t r := rfl
theorem sg_step_apU (U : sg_Pic) (V : sg_PiL) (f t : Nat) : sg_step_U U V f t = sg_apU U f t (sg_st U V f t) := by
  unfold sg_step_U sg_st
  simp only [sg_apU_i, sg_apU_n, sg_apU_s]
theorem sg_step_apV (U : sg_Pic) (V : sg_PiL) (f t : Nat) : sg_step_V U V f t = sg_apV V t (sg_st U V f t) := by
  unfold sg_step_V sg_st
  simp only [sg_apV_i, sg_apV_n, sg_apV_s]
/-- alike in what is used, of n sites; w: the ways too -/
def sg_EQ (w : Prop) (n : Nat) (U T : sg_Pic) (V S : sg_PiL) : Prop := U 0 0 = T 0 0 ∧ (∀ x, x < n → U 1 x = T 1 x ∧ U 2 x = T 2 x) ∧ (∀ f t, f < n → t < n → U 6 (f * 5 + t) = T 6 (f * 5 + t) ∧ V 3 (f * 5 + t) = S 3 (f * 5 + t)) ∧ (w → ∀ x, x < n → U 5 x = T 5 x ∧ V 4 x = S 4 x)
theorem sg_up_v {U : sg_Pic} {r k i j : Nat} {v : Int32} : sg_up U r i v k j = if k = r ∧ j = i then v else U k j := by
  by_cases c : k = r
  · subst c
    by_cases e : j = i
    · subst e
      rw [sg_up_s, pk_us, if_pos ⟨rfl, rfl⟩]
    · rw [sg_up_s, pk_un e, if_neg (fun q => e q.2)]
  · rw [sg_up_n c, if_neg (fun q => c q.1)]
theorem sg_st_EQ {n f t : Nat} {U T : sg_Pic} {V S : sg_PiL} (h : sg_EQ True n U T V S) (hf : f < n) (ht : t < n) : sg_st U V f t = sg_st T S f t := by
  have a := (h.2.2.1 f t hf ht).2
  have b := h.2.2.1 t f ht hf
  have c := (h.2.2.2 trivial f hf).2
  have d := (h.2.2.2 trivial t ht).2
  unfold sg_st
  rw [a, b.1, b.2, c, d]
theorem sg_set5_EQ {n t : Nat} {v : Int32} {r : Int64} {U T : sg_Pic} {V S : sg_PiL} (h : sg_EQ True n U T V S) : sg_EQ True n (sg_up U 5 t v) (sg_up T 5 t v) (sg_ul V 4 t r) (sg_ul S 4 t r) := by
  refine ⟨h.1, fun x hx => h.2.1 x hx, fun f1 t1 h1 h2 => h.2.2.1 f1 t1 h1 h2, fun _ x hx => ?_⟩
  have q := h.2.2.2 trivial x hx
  show upd (U 5) t v x = upd (T 5) t v x ∧ vp_updL (V 4) t r x = vp_updL (S 4) t r x
  by_cases e : x = t
  · subst e
    rw [pk_us, pk_us, pk_uLs, pk_uLs]
    exact ⟨rfl, rfl⟩
  · rw [pk_un e, pk_un e, pk_uLn e, pk_uLn e]
    exact q
theorem sg_step_EQ {n f t : Nat} {U T : sg_Pic} {V S : sg_PiL} (h : sg_EQ True n U T V S) (hf : f < n) (ht : t < n) : sg_EQ True n (sg_step_U U V f t) (sg_step_U T S f t) (sg_step_V U V f t) (sg_step_V T S f t) := by
  rw [sg_step_apU, sg_step_apU, sg_step_apV, sg_step_apV, ← sg_st_EQ h hf ht]
  cases sg_st U V f t with
  | none => exact h
  | some r => exact sg_set5_EQ h
theorem sg_fw67_EQ {n a1 c1 f : Nat} {U T A1 B1 A2 B2 : sg_Pic} {V S C1 D1 C2 D2 : sg_PiL} (h : sg_EQ True n A2 B2 C2 D2) (hf : f < n) : ∀ j, j ≤ n → sg_EQ True n (sg_findWays_67 U V a1 A1 C1 f A2 C2 j).1 (sg_findWays_67 T S c1 B1 D1 f B2 D2 j).1 (sg_findWays_67 U V a1 A1 C1 f A2 C2 j).2 (sg_findWays_67 T S c1 B1 D1 f B2 D2 j).2
  | 0, _ => by
    rw [sg_findWays_67, sg_findWays_67]
    exact h
  | j + 1, hj => by
    have q := sg_fw67_EQ (a1 := a1) (c1 := c1) (U := U) (T := T) (V := V) (S := S) (A1 := A1) (B1 := B1) (C1 := C1) (D1 := D1) h hf j (by omega)
    rw [sg_findWays_67, sg_findWays_67]
    exact sg_step_EQ q hf (by omega)
theorem sg_fw57_EQ {n a1 c1 : Nat} {U T A1 B1 : sg_Pic} {V S C1 D1 : sg_PiL} (hU : sg_cn U 0 = n) (hT : sg_cn T 0 = n) (h : sg_EQ True n A1 B1 C1 D1) : ∀ j, j ≤ n → sg_EQ True n (sg_findWays_57 U V a1 A1 C1 j).1 (sg_findWays_57 T S c1 B1 D1 j).1 (sg_findWays_57 U V a1 A1 C1 j).2 (sg_findWays_57 T S c1 B1 D1 j).2
  | 0, _ => by
    rw [sg_findWays_57, sg_findWays_57]
    exact h
  | j + 1, hj => by
    have q := sg_fw57_EQ (a1 := a1) (c1 := c1) (V := V) (S := S) hU hT h j (by omega)
    rw [sg_findWays_57, sg_findWays_57, hU, hT]
    exact sg_fw67_EQ q (by omega) n (Nat.le_refl n)
theorem sg_fw47_EQ {n : Nat} {U T : sg_Pic} {V S : sg_PiL} (hU : sg_cn U 0 = n) (hT : sg_cn T 0 = n) (h : sg_EQ True n (sg_findWays_2 U V n).1 (sg_findWays_2 T S n).1 (sg_findWays_2 U V n).2 (sg_findWays_2 T S n).2) : ∀ j, sg_EQ True n (sg_findWays_47 U V j).1 (sg_findWays_47 T S j).1 (sg_findWays_47 U V j).2 (sg_findWays_47 T S j).2
  | 0 => by
    rw [sg_findWays_47, sg_findWays_47, hU, hT]
    exact h
  | j + 1 => by
    have q := sg_fw47_EQ hU hT h j
    rw [sg_findWays_47, sg_findWays_47, hU, hT]
    exact sg_fw57_EQ hU hT q n (Nat.le_refl n)
theorem sg_fw2_EQ {n : Nat} {U T : sg_Pic} {V S : sg_PiL} (h : sg_EQ False n U T V S) : ∀ j, j ≤ n → sg_EQ False n (sg_findWays_2 U V j).1 (sg_findWays_2 T S j).1 (sg_findWays_2 U V j).2 (sg_findWays_2 T S j).2 ∧ ∀ x, x < j → (sg_findWays_2 U V j).1 5 x = (sg_findWays_2 T S j).1 5 x ∧ (sg_findWays_2 U V j).2 4 x = (sg_findWays_2 T S j).2 4 x
  | 0, _ => by
    rw [sg_findWays_2, sg_findWays_2]
    exact ⟨h, fun x hx => absurd hx (Nat.not_lt_zero x)⟩
  | j + 1, hj => by
    obtain ⟨q, q5⟩ := sg_fw2_EQ h j (by omega)
    rw [sg_findWays_2, sg_findWays_2]
    generalize (sg_findWays_2 U V j).1 = A at q q5 ⊢
    generalize (sg_findWays_2 U V j).2 = B at q q5 ⊢
    generalize (sg_findWays_2 T S j).1 = C at q q5 ⊢
    generalize (sg_findWays_2 T S j).2 = E at q q5 ⊢
    have e := (q.2.1 j (by omega)).1
    have go : ∀ r : Int64, sg_EQ False n (sg_up A 5 j (-1)) (sg_up C 5 j (-1)) (sg_ul B 4 j r) (sg_ul E 4 j r) ∧ ∀ x, x < j + 1 → (sg_up A 5 j (-1)) 5 x = (sg_up C 5 j (-1)) 5 x ∧ (sg_ul B 4 j r) 4 x = (sg_ul E 4 j r) 4 x := fun r => by
      refine ⟨⟨q.1, fun x hx => q.2.1 x hx, fun f t h1 h2 => q.2.2.1 f t h1 h2, fun w => absurd w id⟩, fun x hx => ?_⟩
      show upd (A 5) j (-1) x = upd (C 5) j (-1) x ∧ vp_updL (B 4) j r x = vp_updL (E 4) j r x
      by_cases c : x = j
      · subst c
        rw [pk_us, pk_us, pk_uLs, pk_uLs]
        exact ⟨rfl, rfl⟩
      · rw [pk_un c, pk_un c, pk_uLn c, pk_uLn c]
        exact q5 x (by omega)
    rw [← e]
    by_cases c : A 1 j ≤ 0
    · rw [if_pos c, if_pos c]
      exact go _
    · rw [if_neg c, if_neg c]
      exact go _
theorem sg_fw_EQ {n : Nat} {U T : sg_Pic} {V S : sg_PiL} (hU : sg_cn U 0 = n) (hT : sg_cn T 0 = n) (h : sg_EQ False n U T V S) : sg_EQ True n (sg_findWays_U U V) (sg_findWays_U T S) (sg_findWays_V U V) (sg_findWays_V T S) := by
  obtain ⟨q, q5⟩ := sg_fw2_EQ h n (Nat.le_refl n)
  unfold sg_findWays_U sg_findWays_V
  rw [hU, hT]
  exact sg_fw47_EQ hU hT ⟨q.1, q.2.1, q.2.2.1, fun _ => q5⟩ n
