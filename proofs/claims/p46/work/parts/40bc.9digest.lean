/-! the digest doesn't depend on the plan that stood there -/
theorem sg_make_6 {U T P : sg_Pic} {V S : sg_PiL} {xi f t : Nat} (hw : sg_W P) (hf : f < sg_cn P 2) (ht : t < sg_cn P 2) : sg_make_U U V P xi 6 (f * 5 + t) = sg_make_U T S P xi 6 (f * 5 + t) := ((sg_make_EQ (U := U) (T := T) (V := V) (S := S) (xi := xi) hw).2.2.1 f t hf ht).1
theorem sg_mp72_e {U T U5 T5 P : sg_Pic} {V S V5 S5 : sg_PiL} {x x5 x54 : Int64} {i f : Nat} (hw : sg_W P) (hf : f < sg_cn P 2) : ∀ j, j ≤ sg_cn P 2 → sg_g_mixPlans_72 U V P x i x5 U5 V5 f x54 j = sg_g_mixPlans_72 T S P x i x5 T5 S5 f x54 j
  | 0, _ => by rw [sg_g_mixPlans_72, sg_g_mixPlans_72]
  | j + 1, hj => by
    rw [sg_g_mixPlans_72, sg_g_mixPlans_72, sg_mp72_e (T := T) (S := S) (T5 := T5) (S5 := S5) hw hf j (by omega), sg_make_6 (T := T5) (S := S5) hw hf (by omega)]
theorem sg_mp54_e {U T U5 T5 P : sg_Pic} {V S V5 S5 : sg_PiL} {x x5 : Int64} {i : Nat} (hw : sg_W P) : ∀ j, j ≤ sg_cn P 2 → sg_g_mixPlans_54 U V P x i x5 U5 V5 j = sg_g_mixPlans_54 T S P x i x5 T5 S5 j
  | 0, _ => by rw [sg_g_mixPlans_54, sg_g_mixPlans_54]
  | j + 1, hj => by
    rw [sg_g_mixPlans_54, sg_g_mixPlans_54, sg_mp54_e (T := T) (S := S) (T5 := T5) (S5 := S5) hw j (by omega)]
    exact sg_mp72_e hw (by omega) _ (Nat.le_refl _)
theorem sg_mp5_e {U T P : sg_Pic} {V S : sg_PiL} {x : Int64} (hw : sg_W P) : ∀ j, (sg_g_mixPlans_5 U V P x j).1 = (sg_g_mixPlans_5 T S P x j).1
  | 0 => by rw [sg_g_mixPlans_5, sg_g_mixPlans_5]
  | j + 1 => by
    rw [sg_g_mixPlans_5, sg_g_mixPlans_5]
    show sg_g_mixPlans_54 U V P x j (sg_g_mixPlans_5 U V P x j).1 _ _ _ = sg_g_mixPlans_54 T S P x j (sg_g_mixPlans_5 T S P x j).1 _ _ _
    rw [sg_mp5_e (T := T) (S := S) hw j]
    exact sg_mp54_e hw _ (Nat.le_refl _)
theorem sg_dg46_e {U T P : sg_Pic} {V S : sg_PiL} (hw : sg_W P) : ∀ j, sg_g_digest_46 U V P j = sg_g_digest_46 T S P j
  | 0 => by
    rw [sg_g_digest_46, sg_g_digest_46]
    unfold sg_g_mixPlans_r
    exact sg_mp5_e hw _
  | j + 1 => by rw [sg_g_digest_46, sg_g_digest_46, sg_dg46_e (T := T) (S := S) hw j]
theorem sg_dig_e1 {U T P : sg_Pic} {V S : sg_PiL} (hw : sg_W P) : sg_g_digest_r U V P = sg_g_digest_r T S P := by
  unfold sg_g_digest_r
  exact sg_dg46_e hw _
