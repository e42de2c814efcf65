/-! what the plan comes to -/
def sg_dig (P : sg_Pic) : Int64 := sg_g_digest_r sg_0 sg_L0 P
theorem sg_dig_eq {P : sg_Pic} (hw : sg_W P) (U : sg_Pic) (V : sg_PiL) : sg_g_digest_r U V P = sg_dig P := sg_dig_e1 hw
theorem sg_plan_eq {P : sg_Pic} {i s t : Nat} (hw : sg_W P) (hi : i < sg_cn P 1) (hs : s < sg_cn P 2) (ht : t < sg_cn P 2) (U : sg_Pic) (V : sg_PiL) : sg_g_planned_r U V P i s t = sg_plan P i (s * 5 + t) := sg_plan_e1 hw hs ht U V
theorem sg_plan_0 {k d ni ns : Nat} {fp : Nat → Int32} {P : sg_Pic} {i s t : Nat} (hB : sg_B k d ni ns fp P) (hi : i < ni) (hs : s < ns) (ht : t < ns) : ¬ (sg_plan P i (s * 5 + t) < 0) := sg_plan_01 hB hi hs ht
theorem sg_plan_r {k d ni ns : Nat} {fp : Nat → Int32} {P : sg_Pic} {i s t : Nat} (hB : sg_B k d ni ns fp P) (hi : i < ni) (hs : s < ns) (ht : t < ns) (c : ¬ (sg_plan P i (s * 5 + t) ≤ 0)) : ¬ (sg_daysBetween P (nI s) (nI t) = 0) := sg_plan_r1 hB hi hs ht c
theorem sg_plan_s {k d ni ns : Nat} {fp : Nat → Int32} {P : sg_Pic} {i s : Nat} (hB : sg_B k d ni ns fp P) (hi : i < ni) (hs : s < ns) : ¬ (sg_spareAt P i s < sg_row P i s ns) := sg_plan_s1 hB hi hs
theorem sg_plan_l {k d ni ns : Nat} {fp : Nat → Int32} {P : sg_Pic} {i s : Nat} (hB : sg_B k d ni ns fp P) (hi : i < ni) (hs : s < ns) : sg_col P i s ns ≤ sg_lackAt P i s := sg_plan_l1 hB hi hs
theorem sg_B.balance {k d ni ns : Nat} {fp : Nat → Int32} {P : sg_Pic} {i : Nat} (hB : sg_B k d ni ns fp P) (hd : d ≤ 1000) (U : sg_Pic) (V : sg_PiL) (hi : i < ni) : sg_B k d ni ns fp (sg_g_balance U V P i) ∧ 0 ≤ sg_g_balance_r U V P i := hB.balance1 U V hi
