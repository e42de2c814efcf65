def sg_sendAlong_12 (U : sg_Pic) (V : sg_PiL) (xe : Nat) : Nat → Nat → Int32 → Nat × Int32
  | 0, y12_3, x12_2 => (y12_3, x12_2)
  | n12 + 1, y12_3, x12_2 => (if (U 5 y12_3) = (-1) then (y12_3, x12_2) else (if (lg_cmp (V 3 ((y12_3 * 5) + (Int32.toNatClampNeg (U 5 y12_3)))) 0) = 0 then (sg_sendAlong_12 U V xe n12 (Int32.toNatClampNeg (U 5 y12_3)) x12_2) else (sg_sendAlong_12 U V xe n12 (Int32.toNatClampNeg (U 5 y12_3)) (if (U 6 ((y12_3 * 5) + (Int32.toNatClampNeg (U 5 y12_3)))) < x12_2 then (U 6 ((y12_3 * 5) + (Int32.toNatClampNeg (U 5 y12_3)))) else x12_2))))

def sg_sendAlong_94 (U : sg_Pic) (V : sg_PiL) (xe : Nat) : Nat → Nat → sg_Pic → Nat × sg_Pic
  | 0, y94_4, U94 => (y94_4, U94)
  | n94 + 1, y94_4, U94 => (if (U94 5 y94_4) = (-1) then (y94_4, U94) else (if (lg_cmp (V 3 ((y94_4 * 5) + (Int32.toNatClampNeg (U94 5 y94_4)))) 0) = 0 then (sg_sendAlong_94 U V xe n94 (Int32.toNatClampNeg (U94 5 y94_4)) (sg_up U94 6 (((Int32.toNatClampNeg (U94 5 y94_4)) * 5) + y94_4) ((U94 6 (((Int32.toNatClampNeg (U94 5 y94_4)) * 5) + y94_4)) + (if (U 1 (((sg_sendAlong_12 U V xe 5 xe (U 2 xe))).1)) < (((sg_sendAlong_12 U V xe 5 xe (U 2 xe))).2) then (U 1 (((sg_sendAlong_12 U V xe 5 xe (U 2 xe))).1)) else (((sg_sendAlong_12 U V xe 5 xe (U 2 xe))).2))))) else (sg_sendAlong_94 U V xe n94 (Int32.toNatClampNeg (U94 5 y94_4)) (sg_up U94 6 ((y94_4 * 5) + (Int32.toNatClampNeg (U94 5 y94_4))) ((U94 6 ((y94_4 * 5) + (Int32.toNatClampNeg (U94 5 y94_4)))) - (if (U 1 (((sg_sendAlong_12 U V xe 5 xe (U 2 xe))).1)) < (((sg_sendAlong_12 U V xe 5 xe (U 2 xe))).2) then (U 1 (((sg_sendAlong_12 U V xe 5 xe (U 2 xe))).1)) else (((sg_sendAlong_12 U V xe 5 xe (U 2 xe))).2)))))))
theorem sg_sendAlong_94_KU (U : sg_Pic) (V : sg_PiL) (xe : Nat) : ∀ (n : Nat) (y94_4 : Nat) (U94 : sg_Pic), sg_KU ((sg_sendAlong_94 U V xe n y94_4 U94).2) U94
  | 0, y94_4, U94 => by
    rw [sg_sendAlong_94]
    exact rfl
  | n + 1, y94_4, U94 => by
    rw [sg_sendAlong_94]
    repeat' split
    all_goals first | exact rfl | exact Eq.trans (sg_sendAlong_94_KU U V xe n _ _) (by first | exact rfl)

def sg_sendAlong_U (U : sg_Pic) (V : sg_PiL) (xe : Nat) : sg_Pic := (sg_up (sg_up (((sg_sendAlong_94 U V xe 5 xe U)).2) 1 (((sg_sendAlong_12 U V xe 5 xe (U 2 xe))).1) (((((sg_sendAlong_94 U V xe 5 xe U)).2) 1 (((sg_sendAlong_12 U V xe 5 xe (U 2 xe))).1)) - (if (U 1 (((sg_sendAlong_12 U V xe 5 xe (U 2 xe))).1)) < (((sg_sendAlong_12 U V xe 5 xe (U 2 xe))).2) then (U 1 (((sg_sendAlong_12 U V xe 5 xe (U 2 xe))).1)) else (((sg_sendAlong_12 U V xe 5 xe (U 2 xe))).2)))) 2 xe (((((sg_sendAlong_94 U V xe 5 xe U)).2) 2 xe) - (if (U 1 (((sg_sendAlong_12 U V xe 5 xe (U 2 xe))).1)) < (((sg_sendAlong_12 U V xe 5 xe (U 2 xe))).2) then (U 1 (((sg_sendAlong_12 U V xe 5 xe (U 2 xe))).1)) else (((sg_sendAlong_12 U V xe 5 xe (U 2 xe))).2))))

theorem sg_sendAlong_KU (U : sg_Pic) (V : sg_PiL) (xe : Nat) : sg_KU (sg_sendAlong_U U V xe) U := by
  unfold sg_sendAlong_U
  repeat' split
  all_goals first | exact rfl | exact sg_sendAlong_94_KU _ _ _ _ _ _

theorem sg_sa12 {U : sg_Pic} {V : sg_PiL} {xe : Nat} (hA : sg_UA (sg_cn U 0) U) (hn : sg_cn U 0 ≤ 5) : ∀ (n y : Nat) (x : Int32), y < sg_cn U 0 → (sg_sendAlong_12 U V xe n y x).1 < sg_cn U 0
  | 0, y, x, h => h
  | n + 1, y, x, h => by
    rw [sg_sendAlong_12]
    repeat' split
    all_goals first | exact h | exact sg_sa12 hA hn n _ _ (hA.n hn h (by assumption)).2

set_option maxHeartbeats 4000000 in
set_option maxRecDepth 100000 in
/-- X3_sendAlong -/
theorem c_sendAlong (l : Launch) (D : va_G) (cI cZ cJ : ClassId) (lo sz : Nat) (pa : Nat → Nat) (U : sg_Pic) (V : sg_PiL) (xe : Nat) (hU : sg_UN U) (huA : sg_UA (sg_cn U 0) U) (hxe : xe < sg_cn U 0) : Met l yX3_sendAlong wsX3_sendAlong ({ frames := 1, cells := 0, slots := 0, locals := 21 }) (Pre lo D cI cZ cJ [.ref (pa 0), .int (nI xe)] sz (sg_Pl cI cJ pa U V)) (va_Qv (fun _ : Unit => True) (fun _ t => va_P D vwCl (sg_Pl cI cJ pa (sg_sendAlong_U U V xe) V) t.heap ∧ va_D (va_A (sg_Pl cI cJ pa U V) sz) (sg_Pl cI cJ pa (sg_sendAlong_U U V xe) V)) (va_A (sg_Pl cI cJ pa U V) sz)) 0 0 (va_A (sg_Pl cI cJ pa U V) sz) := by
  refine Met.ofW (cc := cX3_sendAlong) (maxL := 7) (ret := none) (by decide) rfl ?_
  intro p e s m args below meth c s₁ B hml hv
  obtain ⟨rfl, hsz, hP, hD0, hC⟩ := hv
  have hx := B.exec
  have hb := B.bytes
  have hr := B.returns
  have hts := atoms_spec (ws := wsX3_sendAlong) B.pre
  have hown : s.vm.findClass RX3 = some m.cls := findClass_of_methodNamed B.named
  have hlocks := B.notSynchronized
  subst hsz
  have hnU : sg_cn U 0 ≤ 5 := hU.n
  have hK := hC.K
  have hD := hD0.self (sz := s.heap.size)
  have hAlo0 := va_A_lo hD0 hC.1
  generalize hAe : va_A (sg_Pl cI cJ pa U V) s.heap.size = A at hD hAlo0 ⊢
  have hA : ∀ q : Nat, s.heap.size ≤ q → A q := fun q h => by rw [← hAe]; exact Or.inr h
  have hAlo : ∀ q, A q → lo ≤ q := hAlo0
  have hS : va_S A s.heap s.heap [] := va_S.rf
  have hP : va_P D vwCl (sg_Pl cI cJ pa U V) s.heap := hP
  have hl := lv_entry ([.ref (pa 0), .int (nI xe)]) (n := 7) (Nat.le_of_ble_eq_true rfl)
  rw [lg_entry_eq]
  generalize (lg_sl ([.ref (pa 0), .int (nI xe)]) ++ List.replicate (7 - (lg_sl ([.ref (pa 0), .int (nI xe)])).length) Slot.unset).toArray = ls at hl ⊢
  have hl : lv_has ls 7 [(0, .ref (pa 0)), (1, .int (nI xe))] := hl
  have in3 : ∀ w ∈ u_ws RX3 TX3 7, w ∈ wsX3_sendAlong := by decide +kernel
  refine lv_aload_n hx hb dX3_sendAlong_0 rfl (lv_at hl 0 rfl) ?_
  refine va_get (D := D) (ci := 3) (v := .ref (pa 2)) (C := RX3) (T := TX3) (N := 7) hx hb hts in3 hown hK hP 0 rfl rfl 2 (by decide) (hts (.fieldLink RX3 15 "Granary$Plan" "lack" "[I") (by decide +kernel)) (fun _ h9 => h9) rfl dX3_sendAlong_1 ?_
  refine lv_iload_n hx hb dX3_sendAlong_4 rfl (lv_at hl 1 rfl) ?_
  refine sg_iald hx hb hK hP 2 0 rfl rfl (j := xe) rfl (by omega) (Nat.le_of_ble_eq_true rfl) dX3_sendAlong_5 ?_
  refine lv_toi (y := U 2 xe) rfl ?_
  refine lv_istore_n (lv' := [(2, .int (U 2 xe)), (0, .ref (pa 0)), (1, .int (nI xe))]) hx hb dX3_sendAlong_6 rfl hl (by decide) rfl (fun ls hl => ?_)
  refine lv_iload_n hx hb dX3_sendAlong_7 rfl (lv_at hl 2 rfl) ?_
  refine lv_istore_n (lv' := [(3, .int (nI xe)), (2, .int (U 2 xe)), (0, .ref (pa 0)), (1, .int (nI xe))]) hx hb dX3_sendAlong_8 rfl hl (by decide) rfl (fun ls hl => ?_)
  refine lv_iconst (v := 0) hx hb dX3_sendAlong_9 (by decide) ?_
  refine lv_istore (lv' := [(4, .int 0), (3, .int (nI xe)), (2, .int (U 2 xe)), (0, .ref (pa 0)), (1, .int (nI xe))]) hx hb dX3_sendAlong_10 hl (by decide) rfl (fun ls hl => ?_)
  obtain ⟨H, hH9⟩ : ∃ z : Heap, z = s.heap := ⟨_, rfl⟩
  replace hS : va_S A s.heap H [] := by rw [hH9]; exact va_S.rf
  replace hP : va_P D vwCl (sg_Pl cI cJ pa U V) H := by rw [hH9]; exact hP
  rw [← hH9]
  clear hH9
  generalize ([] : List Loc) = locs at hS ⊢
  obtain ⟨T12, hTT12⟩ : ∃ z9 : Nat × Int32, z9 = sg_sendAlong_12 U V xe 5 xe (U 2 xe) := ⟨_, rfl⟩
  obtain ⟨y12_3, hy12_3⟩ : ∃ z9 : Nat, z9 = xe := ⟨_, rfl⟩
  obtain ⟨x12_2, hx12_2⟩ : ∃ z9 : Int32, z9 = U 2 xe := ⟨_, rfl⟩
  obtain ⟨j12, h0j12⟩ : ∃ j : Nat, j = 0 := ⟨_, rfl⟩
  obtain ⟨n12, hn12⟩ : ∃ n : Nat, n = 5 := ⟨_, rfl⟩
  replace hl : lv_has ls 7 [(4, .int (nI j12)), (3, .int (nI y12_3)), (2, .int x12_2), (0, .ref (pa 0)), (1, .int (nI xe))] := by rw [h0j12, hy12_3, hx12_2]; exact hl
  have hF12 : sg_sendAlong_12 U V xe n12 y12_3 x12_2 = T12 := by rw [hy12_3, hx12_2, hn12, hTT12]
  have hs12 : y12_3 < sg_cn U 0 := by rw [hy12_3]; exact hxe
  have hjj12 : j12 + n12 = 5 := by omega
  clear h0j12 hn12
  clear hy12_3
  clear hx12_2
  revert hP
  revert hD
  revert hS
  revert hl
  revert hF12
  revert hjj12
  revert hs12
  revert ls
  revert locs
  revert H
  revert x12_2
  revert y12_3
  revert j12
  induction n12 with
  | zero =>
    intro j12 y12_3 x12_2 H locs ls hs12 hjj12 hF12 hl hS hD hP
    refine lv_iload hx hb dX3_sendAlong_12 (lv_at hl 0 rfl) ?_
    refine lv_iconst (v := 5) hx hb dX3_sendAlong_14 (by decide) ?_
    have c_1 : (5 : Int32) ≤ nI j12 := sg_geN (show (5 : Int32) = nI (5) from rfl) (by omega) (by omega)
    refine lv_icmp_ge (tgt := 77) hx hb dX3_sendAlong_15 (by decide) (fun _ => ?_) (fun c9 => absurd c_1 c9)
    rw [sg_sendAlong_12] at hF12
    replace hl : lv_has ls 7 [(3, .int (nI ((T12).1))), (2, .int ((T12).2)), (0, .ref (pa 0)), (1, .int (nI xe))] := by rw [← hF12]; exact lv_sub hl [1, 2, 3, 4] rfl
    clear hF12
    subst hTT12
    refine lv_iload_n hx hb dX3_sendAlong_77 rfl (lv_at hl 1 rfl) ?_
    have l77 : ((sg_sendAlong_12 U V xe 5 xe (U 2 xe))).1 < sg_cn U 0 := sg_sa12 huA hnU 5 _ _ hxe
    refine lv_aload_n hx hb dX3_sendAlong_78 rfl (lv_at hl 2 rfl) ?_
    refine va_get (D := D) (ci := 3) (v := .ref (pa 1)) (C := RX3) (T := TX3) (N := 7) hx hb hts in3 hown hK hP 0 rfl rfl 1 (by decide) (hts (.fieldLink RX3 9 "Granary$Plan" "spare" "[I") (by decide +kernel)) (fun _ h9 => h9) rfl dX3_sendAlong_79 ?_
    refine lv_iload_n hx hb dX3_sendAlong_82 rfl (lv_at hl 0 rfl) ?_
    refine sg_iald hx hb hK hP 1 0 rfl rfl (j := ((sg_sendAlong_12 U V xe 5 xe (U 2 xe))).1) rfl (by omega) (Nat.le_of_ble_eq_true rfl) dX3_sendAlong_83 ?_
    refine lv_toi (y := U 1 (((sg_sendAlong_12 U V xe 5 xe (U 2 xe))).1)) rfl ?_
    refine va_mmin hx hb (hml.trans hl.1.symm) hown (hts (.methodLink RX3 80 Lib.Math.min.name) (by decide +kernel)) (hts (.static Lib.Math.min.name) (by decide +kernel)) (hts (.initialized "java/lang/Math") (by decide +kernel)) (hts (.code Lib.Math.min.name Lib.Math.min.code 2 (some .int)) (by decide +kernel)) (Nat.le_of_ble_eq_true rfl) (Nat.le_of_ble_eq_true rfl) (Nat.le_of_ble_eq_true rfl) (Nat.le_of_ble_eq_true rfl) dX3_sendAlong_84 ?_
    refine lv_istore_n (lv' := [(2, .int (if (U 1 (((sg_sendAlong_12 U V xe 5 xe (U 2 xe))).1)) < (((sg_sendAlong_12 U V xe 5 xe (U 2 xe))).2) then (U 1 (((sg_sendAlong_12 U V xe 5 xe (U 2 xe))).1)) else (((sg_sendAlong_12 U V xe 5 xe (U 2 xe))).2))), (3, .int (nI (((sg_sendAlong_12 U V xe 5 xe (U 2 xe))).1))), (0, .ref (pa 0)), (1, .int (nI xe))]) hx hb dX3_sendAlong_87 rfl hl (by decide) rfl (fun ls hl => ?_)
    refine lv_iload_n hx hb dX3_sendAlong_88 rfl (lv_at hl 3 rfl) ?_
    refine lv_istore (lv' := [(4, .int (nI xe)), (2, .int (if (U 1 (((sg_sendAlong_12 U V xe 5 xe (U 2 xe))).1)) < (((sg_sendAlong_12 U V xe 5 xe (U 2 xe))).2) then (U 1 (((sg_sendAlong_12 U V xe 5 xe (U 2 xe))).1)) else (((sg_sendAlong_12 U V xe 5 xe (U 2 xe))).2))), (3, .int (nI (((sg_sendAlong_12 U V xe 5 xe (U 2 xe))).1))), (0, .ref (pa 0)), (1, .int (nI xe))]) hx hb dX3_sendAlong_89 hl (by decide) rfl (fun ls hl => ?_)
    refine lv_iconst (v := 0) hx hb dX3_sendAlong_91 (by decide) ?_
    refine lv_istore (lv' := [(5, .int 0), (4, .int (nI xe)), (2, .int (if (U 1 (((sg_sendAlong_12 U V xe 5 xe (U 2 xe))).1)) < (((sg_sendAlong_12 U V xe 5 xe (U 2 xe))).2) then (U 1 (((sg_sendAlong_12 U V xe 5 xe (U 2 xe))).1)) else (((sg_sendAlong_12 U V xe 5 xe (U 2 xe))).2))), (3, .int (nI (((sg_sendAlong_12 U V xe 5 xe (U 2 xe))).1))), (0, .ref (pa 0)), (1, .int (nI xe))]) hx hb dX3_sendAlong_92 hl (by decide) rfl (fun ls hl => ?_)
    obtain ⟨T94, hTT94⟩ : ∃ z9 : Nat × sg_Pic, z9 = sg_sendAlong_94 U V xe 5 xe U := ⟨_, rfl⟩
    obtain ⟨y94_4, hy94_4⟩ : ∃ z9 : Nat, z9 = xe := ⟨_, rfl⟩
    obtain ⟨U94, hU94⟩ : ∃ z9 : sg_Pic, z9 = U := ⟨_, rfl⟩
    obtain ⟨j94, h0j94⟩ : ∃ j : Nat, j = 0 := ⟨_, rfl⟩
    obtain ⟨n94, hn94⟩ : ∃ n : Nat, n = 5 := ⟨_, rfl⟩
    replace hl : lv_has ls 7 [(5, .int (nI j94)), (4, .int (nI y94_4)), (2, .int (if (U 1 (((sg_sendAlong_12 U V xe 5 xe (U 2 xe))).1)) < (((sg_sendAlong_12 U V xe 5 xe (U 2 xe))).2) then (U 1 (((sg_sendAlong_12 U V xe 5 xe (U 2 xe))).1)) else (((sg_sendAlong_12 U V xe 5 xe (U 2 xe))).2))), (3, .int (nI (((sg_sendAlong_12 U V xe 5 xe (U 2 xe))).1))), (0, .ref (pa 0)), (1, .int (nI xe))] := by rw [h0j94, hy94_4]; exact hl
    replace hP : va_P D vwCl (sg_Pl cI cJ pa U94 V) H := by rw [hU94]; exact hP
    replace hD : va_D A (sg_Pl cI cJ pa U94 V) := by rw [hU94]; exact hD
    have hF94 : sg_sendAlong_94 U V xe n94 y94_4 U94 = T94 := by rw [hy94_4, hU94, hn94, hTT94]
    have hun94 : sg_UN U94 := by rw [hU94]; exact hU
    have hs94 : y94_4 < sg_cn U 0 := by rw [hy94_4]; exact hxe
    have hA94 : sg_UA (sg_cn U 0) U94 := by rw [hU94]; exact huA
    have hjj94 : j94 + n94 = 5 := by omega
    clear h0j94 hn94
    clear hy94_4
    clear hU94
    revert hP
    revert hD
    revert hS
    revert hl
    revert hF94
    revert hjj94
    revert hA94
    revert hs94
    revert hun94
    revert ls
    revert locs
    revert H
    revert U94
    revert y94_4
    revert j94
    induction n94 with
    | zero =>
      intro j94 y94_4 U94 H locs ls hun94 hs94 hA94 hjj94 hF94 hl hS hD hP
      refine lv_iload hx hb dX3_sendAlong_94 (lv_at hl 0 rfl) ?_
      refine lv_iconst (v := 5) hx hb dX3_sendAlong_96 (by decide) ?_
      have c_2 : (5 : Int32) ≤ nI j94 := sg_geN (show (5 : Int32) = nI (5) from rfl) (by omega) (by omega)
      refine lv_icmp_ge (tgt := 187) hx hb dX3_sendAlong_97 (by decide) (fun _ => ?_) (fun c9 => absurd c_2 c9)
      rw [sg_sendAlong_94] at hF94
      replace hl : lv_has ls 7 [(4, .int (nI ((T94).1))), (2, .int (if (U 1 (((sg_sendAlong_12 U V xe 5 xe (U 2 xe))).1)) < (((sg_sendAlong_12 U V xe 5 xe (U 2 xe))).2) then (U 1 (((sg_sendAlong_12 U V xe 5 xe (U 2 xe))).1)) else (((sg_sendAlong_12 U V xe 5 xe (U 2 xe))).2))), (3, .int (nI (((sg_sendAlong_12 U V xe 5 xe (U 2 xe))).1))), (0, .ref (pa 0)), (1, .int (nI xe))] := by rw [← hF94]; exact lv_sub hl [1, 2, 3, 4, 5] rfl
      replace hP : va_P D vwCl (sg_Pl cI cJ pa ((T94).2) V) H := by rw [← hF94]; exact hP
      replace hD : va_D A (sg_Pl cI cJ pa ((T94).2) V) := by rw [← hF94]; exact hD
      clear hF94
      subst hTT94
      refine lv_aload_n hx hb dX3_sendAlong_187 rfl (lv_at hl 3 rfl) ?_
      refine va_get (D := D) (ci := 3) (v := .ref (pa 1)) (C := RX3) (T := TX3) (N := 7) hx hb hts in3 hown hK hP 0 rfl rfl 1 (by decide) (hts (.fieldLink RX3 9 "Granary$Plan" "spare" "[I") (by decide +kernel)) (fun _ h9 => h9) rfl dX3_sendAlong_188 ?_
      refine lv_iload_n hx hb dX3_sendAlong_191 rfl (lv_at hl 2 rfl) ?_
      refine lv_dup2_11 hx hb dX3_sendAlong_192 rfl rfl ?_
      refine sg_iald hx hb hK hP 1 0 rfl rfl (j := ((sg_sendAlong_12 U V xe 5 xe (U 2 xe))).1) rfl (by omega) (Nat.le_of_ble_eq_true rfl) dX3_sendAlong_193 ?_
      refine lv_toi (y := (((sg_sendAlong_94 U V xe 5 xe U)).2) 1 (((sg_sendAlong_12 U V xe 5 xe (U 2 xe))).1)) rfl ?_
      refine lv_iload_n hx hb dX3_sendAlong_194 rfl (lv_at hl 1 rfl) ?_
      refine lv_isub hx hb dX3_sendAlong_195 ?_
      refine sg_iast hx hb hK hP hD hS 1 0 rfl rfl (j := ((sg_sendAlong_12 U V xe 5 xe (U 2 xe))).1) rfl (by omega) (Nat.le_of_ble_eq_true rfl) dX3_sendAlong_196 (fun H locs hP hD hS => ?_)
      replace hP : va_P D vwCl (sg_Pl cI cJ pa (sg_up (((sg_sendAlong_94 U V xe 5 xe U)).2) 1 (((sg_sendAlong_12 U V xe 5 xe (U 2 xe))).1) (((((sg_sendAlong_94 U V xe 5 xe U)).2) 1 (((sg_sendAlong_12 U V xe 5 xe (U 2 xe))).1)) - (if (U 1 (((sg_sendAlong_12 U V xe 5 xe (U 2 xe))).1)) < (((sg_sendAlong_12 U V xe 5 xe (U 2 xe))).2) then (U 1 (((sg_sendAlong_12 U V xe 5 xe (U 2 xe))).1)) else (((sg_sendAlong_12 U V xe 5 xe (U 2 xe))).2)))) V) H := hP
      replace hD : va_D A (sg_Pl cI cJ pa (sg_up (((sg_sendAlong_94 U V xe 5 xe U)).2) 1 (((sg_sendAlong_12 U V xe 5 xe (U 2 xe))).1) (((((sg_sendAlong_94 U V xe 5 xe U)).2) 1 (((sg_sendAlong_12 U V xe 5 xe (U 2 xe))).1)) - (if (U 1 (((sg_sendAlong_12 U V xe 5 xe (U 2 xe))).1)) < (((sg_sendAlong_12 U V xe 5 xe (U 2 xe))).2) then (U 1 (((sg_sendAlong_12 U V xe 5 xe (U 2 xe))).1)) else (((sg_sendAlong_12 U V xe 5 xe (U 2 xe))).2)))) V) := hD
      refine lv_aload_n hx hb dX3_sendAlong_197 rfl (lv_at hl 3 rfl) ?_
      refine va_get (D := D) (ci := 3) (v := .ref (pa 2)) (C := RX3) (T := TX3) (N := 7) hx hb hts in3 hown hK hP 0 rfl rfl 2 (by decide) (hts (.fieldLink RX3 15 "Granary$Plan" "lack" "[I") (by decide +kernel)) (fun _ h9 => h9) rfl dX3_sendAlong_198 ?_
      refine lv_iload_n hx hb dX3_sendAlong_201 rfl (lv_at hl 4 rfl) ?_
      refine lv_dup2_11 hx hb dX3_sendAlong_202 rfl rfl ?_
      refine sg_iald hx hb hK hP 2 0 rfl rfl (j := xe) rfl (by omega) (Nat.le_of_ble_eq_true rfl) dX3_sendAlong_203 ?_
      refine lv_toi (y := (((sg_sendAlong_94 U V xe 5 xe U)).2) 2 xe) rfl ?_
      refine lv_iload_n hx hb dX3_sendAlong_204 rfl (lv_at hl 1 rfl) ?_
      refine lv_isub hx hb dX3_sendAlong_205 ?_
      refine sg_iast hx hb hK hP hD hS 2 0 rfl rfl (j := xe) rfl (by omega) (Nat.le_of_ble_eq_true rfl) dX3_sendAlong_206 (fun H locs hP hD hS => ?_)
      replace hP : va_P D vwCl (sg_Pl cI cJ pa (sg_up (sg_up (((sg_sendAlong_94 U V xe 5 xe U)).2) 1 (((sg_sendAlong_12 U V xe 5 xe (U 2 xe))).1) (((((sg_sendAlong_94 U V xe 5 xe U)).2) 1 (((sg_sendAlong_12 U V xe 5 xe (U 2 xe))).1)) - (if (U 1 (((sg_sendAlong_12 U V xe 5 xe (U 2 xe))).1)) < (((sg_sendAlong_12 U V xe 5 xe (U 2 xe))).2) then (U 1 (((sg_sendAlong_12 U V xe 5 xe (U 2 xe))).1)) else (((sg_sendAlong_12 U V xe 5 xe (U 2 xe))).2)))) 2 xe (((((sg_sendAlong_94 U V xe 5 xe U)).2) 2 xe) - (if (U 1 (((sg_sendAlong_12 U V xe 5 xe (U 2 xe))).1)) < (((sg_sendAlong_12 U V xe 5 xe (U 2 xe))).2) then (U 1 (((sg_sendAlong_12 U V xe 5 xe (U 2 xe))).1)) else (((sg_sendAlong_12 U V xe 5 xe (U 2 xe))).2)))) V) H := hP
      replace hD : va_D A (sg_Pl cI cJ pa (sg_up (sg_up (((sg_sendAlong_94 U V xe 5 xe U)).2) 1 (((sg_sendAlong_12 U V xe 5 xe (U 2 xe))).1) (((((sg_sendAlong_94 U V xe 5 xe U)).2) 1 (((sg_sendAlong_12 U V xe 5 xe (U 2 xe))).1)) - (if (U 1 (((sg_sendAlong_12 U V xe 5 xe (U 2 xe))).1)) < (((sg_sendAlong_12 U V xe 5 xe (U 2 xe))).2) then (U 1 (((sg_sendAlong_12 U V xe 5 xe (U 2 xe))).1)) else (((sg_sendAlong_12 U V xe 5 xe (U 2 xe))).2)))) 2 xe (((((sg_sendAlong_94 U V xe 5 xe U)).2) 2 xe) - (if (U 1 (((sg_sendAlong_12 U V xe 5 xe (U 2 xe))).1)) < (((sg_sendAlong_12 U V xe 5 xe (U 2 xe))).2) then (U 1 (((sg_sendAlong_12 U V xe 5 xe (U 2 xe))).1)) else (((sg_sendAlong_12 U V xe 5 xe (U 2 xe))).2)))) V) := hD
      refine W.widen (k := 0) (n := 0) (by omega) (by omega) ?_
      have hP9 : va_P D vwCl (sg_Pl cI cJ pa (sg_sendAlong_U U V xe) V) H := by exact hP
      have hD9 : va_D A (sg_Pl cI cJ pa (sg_sendAlong_U U V xe) V) := by exact hD
      exact W.vret hx hb hr (fun t ht hW => ⟨⟨(), rfl, trivial, by rw [ht]; exact hP9, hD9⟩, hS.F ht⟩) hS.2.2 dX3_sendAlong_207
    | succ n94 ih94 =>
      intro j94 y94_4 U94 H locs ls hun94 hs94 hA94 hjj94 hF94 hl hS hD hP
      refine lv_iload hx hb dX3_sendAlong_94 (lv_at hl 0 rfl) ?_
      refine lv_iconst (v := 5) hx hb dX3_sendAlong_96 (by decide) ?_
      have c_3 : ¬ ((5 : Int32) ≤ nI j94) := sg_nge (show (5 : Int32) = nI (5) from rfl) (by omega) (by omega)
      refine lv_icmp_ge (tgt := 187) hx hb dX3_sendAlong_97 (by decide) (fun c9 => absurd c9 c_3) (fun _ => ?_)
      refine lv_aload_n hx hb dX3_sendAlong_100 rfl (lv_at hl 4 rfl) ?_
      refine va_get (D := D) (ci := 3) (v := .ref (pa 5)) (C := RX3) (T := TX3) (N := 7) hx hb hts in3 hown hK hP 0 rfl rfl 5 (by decide) (hts (.fieldLink RX3 25 "Granary$Plan" "ahead" "[I") (by decide +kernel)) (fun _ h9 => h9) rfl dX3_sendAlong_101 ?_
      refine lv_iload hx hb dX3_sendAlong_104 (lv_at hl 1 rfl) ?_
      refine sg_iald hx hb hK hP 5 0 rfl rfl (j := y94_4) rfl (by omega) (Nat.le_of_ble_eq_true rfl) dX3_sendAlong_106 ?_
      refine lv_toi (y := U94 5 y94_4) rfl ?_
      refine lv_iconst (v := (-1)) hx hb dX3_sendAlong_107 (by decide) ?_
      refine lv_icmp_eq (tgt := 187) hx hb dX3_sendAlong_108 (by decide) (fun c_4 => ?_) (fun c_4 => ?_)
      · rw [sg_sendAlong_94, if_pos c_4] at hF94
        replace hl : lv_has ls 7 [(4, .int (nI ((T94).1))), (2, .int (if (U 1 (((sg_sendAlong_12 U V xe 5 xe (U 2 xe))).1)) < (((sg_sendAlong_12 U V xe 5 xe (U 2 xe))).2) then (U 1 (((sg_sendAlong_12 U V xe 5 xe (U 2 xe))).1)) else (((sg_sendAlong_12 U V xe 5 xe (U 2 xe))).2))), (3, .int (nI (((sg_sendAlong_12 U V xe 5 xe (U 2 xe))).1))), (0, .ref (pa 0)), (1, .int (nI xe))] := by rw [← hF94]; exact lv_sub hl [1, 2, 3, 4, 5] rfl
        replace hP : va_P D vwCl (sg_Pl cI cJ pa ((T94).2) V) H := by rw [← hF94]; exact hP
        replace hD : va_D A (sg_Pl cI cJ pa ((T94).2) V) := by rw [← hF94]; exact hD
        clear hF94 ih94
        subst hTT94
        refine lv_aload_n hx hb dX3_sendAlong_187 rfl (lv_at hl 3 rfl) ?_
        refine va_get (D := D) (ci := 3) (v := .ref (pa 1)) (C := RX3) (T := TX3) (N := 7) hx hb hts in3 hown hK hP 0 rfl rfl 1 (by decide) (hts (.fieldLink RX3 9 "Granary$Plan" "spare" "[I") (by decide +kernel)) (fun _ h9 => h9) rfl dX3_sendAlong_188 ?_
        refine lv_iload_n hx hb dX3_sendAlong_191 rfl (lv_at hl 2 rfl) ?_
        refine lv_dup2_11 hx hb dX3_sendAlong_192 rfl rfl ?_
        refine sg_iald hx hb hK hP 1 0 rfl rfl (j := ((sg_sendAlong_12 U V xe 5 xe (U 2 xe))).1) rfl (by omega) (Nat.le_of_ble_eq_true rfl) dX3_sendAlong_193 ?_
        refine lv_toi (y := (((sg_sendAlong_94 U V xe 5 xe U)).2) 1 (((sg_sendAlong_12 U V xe 5 xe (U 2 xe))).1)) rfl ?_
        refine lv_iload_n hx hb dX3_sendAlong_194 rfl (lv_at hl 1 rfl) ?_
        refine lv_isub hx hb dX3_sendAlong_195 ?_
        refine sg_iast hx hb hK hP hD hS 1 0 rfl rfl (j := ((sg_sendAlong_12 U V xe 5 xe (U 2 xe))).1) rfl (by omega) (Nat.le_of_ble_eq_true rfl) dX3_sendAlong_196 (fun H locs hP hD hS => ?_)
        replace hP : va_P D vwCl (sg_Pl cI cJ pa (sg_up (((sg_sendAlong_94 U V xe 5 xe U)).2) 1 (((sg_sendAlong_12 U V xe 5 xe (U 2 xe))).1) (((((sg_sendAlong_94 U V xe 5 xe U)).2) 1 (((sg_sendAlong_12 U V xe 5 xe (U 2 xe))).1)) - (if (U 1 (((sg_sendAlong_12 U V xe 5 xe (U 2 xe))).1)) < (((sg_sendAlong_12 U V xe 5 xe (U 2 xe))).2) then (U 1 (((sg_sendAlong_12 U V xe 5 xe (U 2 xe))).1)) else (((sg_sendAlong_12 U V xe 5 xe (U 2 xe))).2)))) V) H := hP
        replace hD : va_D A (sg_Pl cI cJ pa (sg_up (((sg_sendAlong_94 U V xe 5 xe U)).2) 1 (((sg_sendAlong_12 U V xe 5 xe (U 2 xe))).1) (((((sg_sendAlong_94 U V xe 5 xe U)).2) 1 (((sg_sendAlong_12 U V xe 5 xe (U 2 xe))).1)) - (if (U 1 (((sg_sendAlong_12 U V xe 5 xe (U 2 xe))).1)) < (((sg_sendAlong_12 U V xe 5 xe (U 2 xe))).2) then (U 1 (((sg_sendAlong_12 U V xe 5 xe (U 2 xe))).1)) else (((sg_sendAlong_12 U V xe 5 xe (U 2 xe))).2)))) V) := hD
        refine lv_aload_n hx hb dX3_sendAlong_197 rfl (lv_at hl 3 rfl) ?_
        refine va_get (D := D) (ci := 3) (v := .ref (pa 2)) (C := RX3) (T := TX3) (N := 7) hx hb hts in3 hown hK hP 0 rfl rfl 2 (by decide) (hts (.fieldLink RX3 15 "Granary$Plan" "lack" "[I") (by decide +kernel)) (fun _ h9 => h9) rfl dX3_sendAlong_198 ?_
        refine lv_iload_n hx hb dX3_sendAlong_201 rfl (lv_at hl 4 rfl) ?_
        refine lv_dup2_11 hx hb dX3_sendAlong_202 rfl rfl ?_
        refine sg_iald hx hb hK hP 2 0 rfl rfl (j := xe) rfl (by omega) (Nat.le_of_ble_eq_true rfl) dX3_sendAlong_203 ?_
        refine lv_toi (y := (((sg_sendAlong_94 U V xe 5 xe U)).2) 2 xe) rfl ?_
        refine lv_iload_n hx hb dX3_sendAlong_204 rfl (lv_at hl 1 rfl) ?_
        refine lv_isub hx hb dX3_sendAlong_205 ?_
        refine sg_iast hx hb hK hP hD hS 2 0 rfl rfl (j := xe) rfl (by omega) (Nat.le_of_ble_eq_true rfl) dX3_sendAlong_206 (fun H locs hP hD hS => ?_)
        replace hP : va_P D vwCl (sg_Pl cI cJ pa (sg_up (sg_up (((sg_sendAlong_94 U V xe 5 xe U)).2) 1 (((sg_sendAlong_12 U V xe 5 xe (U 2 xe))).1) (((((sg_sendAlong_94 U V xe 5 xe U)).2) 1 (((sg_sendAlong_12 U V xe 5 xe (U 2 xe))).1)) - (if (U 1 (((sg_sendAlong_12 U V xe 5 xe (U 2 xe))).1)) < (((sg_sendAlong_12 U V xe 5 xe (U 2 xe))).2) then (U 1 (((sg_sendAlong_12 U V xe 5 xe (U 2 xe))).1)) else (((sg_sendAlong_12 U V xe 5 xe (U 2 xe))).2)))) 2 xe (((((sg_sendAlong_94 U V xe 5 xe U)).2) 2 xe) - (if (U 1 (((sg_sendAlong_12 U V xe 5 xe (U 2 xe))).1)) < (((sg_sendAlong_12 U V xe 5 xe (U 2 xe))).2) then (U 1 (((sg_sendAlong_12 U V xe 5 xe (U 2 xe))).1)) else (((sg_sendAlong_12 U V xe 5 xe (U 2 xe))).2)))) V) H := hP
        replace hD : va_D A (sg_Pl cI cJ pa (sg_up (sg_up (((sg_sendAlong_94 U V xe 5 xe U)).2) 1 (((sg_sendAlong_12 U V xe 5 xe (U 2 xe))).1) (((((sg_sendAlong_94 U V xe 5 xe U)).2) 1 (((sg_sendAlong_12 U V xe 5 xe (U 2 xe))).1)) - (if (U 1 (((sg_sendAlong_12 U V xe 5 xe (U 2 xe))).1)) < (((sg_sendAlong_12 U V xe 5 xe (U 2 xe))).2) then (U 1 (((sg_sendAlong_12 U V xe 5 xe (U 2 xe))).1)) else (((sg_sendAlong_12 U V xe 5 xe (U 2 xe))).2)))) 2 xe (((((sg_sendAlong_94 U V xe 5 xe U)).2) 2 xe) - (if (U 1 (((sg_sendAlong_12 U V xe 5 xe (U 2 xe))).1)) < (((sg_sendAlong_12 U V xe 5 xe (U 2 xe))).2) then (U 1 (((sg_sendAlong_12 U V xe 5 xe (U 2 xe))).1)) else (((sg_sendAlong_12 U V xe 5 xe (U 2 xe))).2)))) V) := hD
        refine W.widen (k := 0) (n := 0) (by omega) (by omega) ?_
        have hP9 : va_P D vwCl (sg_Pl cI cJ pa (sg_sendAlong_U U V xe) V) H := by exact hP
        have hD9 : va_D A (sg_Pl cI cJ pa (sg_sendAlong_U U V xe) V) := by exact hD
        exact W.vret hx hb hr (fun t ht hW => ⟨⟨(), rfl, trivial, by rw [ht]; exact hP9, hD9⟩, hS.F ht⟩) hS.2.2 dX3_sendAlong_207
      · refine lv_iload hx hb dX3_sendAlong_111 (lv_at hl 1 rfl) ?_
        refine lv_aload_n hx hb dX3_sendAlong_113 rfl (lv_at hl 4 rfl) ?_
        refine va_get (D := D) (ci := 3) (v := .ref (pa 5)) (C := RX3) (T := TX3) (N := 7) hx hb hts in3 hown hK hP 0 rfl rfl 5 (by decide) (hts (.fieldLink RX3 25 "Granary$Plan" "ahead" "[I") (by decide +kernel)) (fun _ h9 => h9) rfl dX3_sendAlong_114 ?_
        refine lv_iload hx hb dX3_sendAlong_117 (lv_at hl 1 rfl) ?_
        refine sg_iald hx hb hK hP 5 0 rfl rfl (j := y94_4) rfl (by omega) (Nat.le_of_ble_eq_true rfl) dX3_sendAlong_119 ?_
        refine lv_toi (y := U94 5 y94_4) rfl ?_
        have h120 := hA94.n hnU hs94 c_4
        have l120 : Int32.toNatClampNeg (U94 5 y94_4) < sg_cn U 0 := h120.2
        refine lv_toi (y := nI (Int32.toNatClampNeg (U94 5 y94_4))) h120.1 ?_
        have hPc := hP.sub (ws' := []) [] rfl
        have hDc := hD.sub (ws' := []) [] (by decide) rfl
        refine vp_callSi (sg_dr (va_runSN (As := [.int (nI y94_4), .int (nI (Int32.toNatClampNeg (U94 5 y94_4)))]) (rest := []) ⟨hx, hb, hml, hown, hts⟩ (c_pair l D cI cZ cJ lo H.size y94_4 (Int32.toNatClampNeg (U94 5 y94_4))) ⟨va_cnB 2 hts gX3_sendAlong_X8_pair_n52 rfl rfl rfl (hC.nestX3_52) (hts (.initialized RX8) (by decide +kernel)) (by decide +kernel) ⟨(Nat.le_of_ble_eq_true rfl), (Nat.le_of_ble_eq_true rfl)⟩, (hts (.static yX8_pair) (by decide +kernel)), trivial⟩ ⟨Pre.blind, Pre.mk hPc (hDc.weaken (fun _ _ _ h => hAlo _ h)) hC hS hAlo⟩ rfl rfl hl.1 rfl (lv_room (Nat.le_of_ble_eq_true rfl)) dX3_sendAlong_120 ⟨(Nat.le_of_ble_eq_true rfl), (Nat.le_of_ble_eq_true rfl)⟩)) (fun r_5 e_6 => ?_)
        clear hPc hDc
        have e_6 : nI ((y94_4 * 5) + (Int32.toNatClampNeg (U94 5 y94_4))) = r_5 := Eq.symm e_6
        subst e_6
        refine lv_istore (lv' := [(6, .int (nI ((y94_4 * 5) + (Int32.toNatClampNeg (U94 5 y94_4))))), (5, .int (nI j94)), (4, .int (nI y94_4)), (2, .int (if (U 1 (((sg_sendAlong_12 U V xe 5 xe (U 2 xe))).1)) < (((sg_sendAlong_12 U V xe 5 xe (U 2 xe))).2) then (U 1 (((sg_sendAlong_12 U V xe 5 xe (U 2 xe))).1)) else (((sg_sendAlong_12 U V xe 5 xe (U 2 xe))).2))), (3, .int (nI (((sg_sendAlong_12 U V xe 5 xe (U 2 xe))).1))), (0, .ref (pa 0)), (1, .int (nI xe))]) hx hb dX3_sendAlong_123 hl (by decide) rfl (fun ls hl => ?_)
        refine lv_aload_n hx hb dX3_sendAlong_125 rfl (lv_at hl 5 rfl) ?_
        refine va_get (D := D) (ci := 3) (v := .ref (pa 3)) (C := RX3) (T := TX3) (N := 7) hx hb hts in3 hown hK hP 0 rfl rfl 3 (by decide) (hts (.fieldLink RX3 18 "Granary$Plan" "cost" "[J") (by decide +kernel)) (fun _ h9 => h9) rfl dX3_sendAlong_126 ?_
        refine lv_iload hx hb dX3_sendAlong_129 (lv_at hl 0 rfl) ?_
        refine sg_lald hx hb hK hP 3 2 rfl rfl (j := (y94_4 * 5) + (Int32.toNatClampNeg (U94 5 y94_4))) rfl (by omega) (Nat.le_of_ble_eq_true rfl) dX3_sendAlong_131 ?_
        refine lv_tol (y := V 3 ((y94_4 * 5) + (Int32.toNatClampNeg (U94 5 y94_4)))) rfl ?_
        refine lv_lconst (v := 0) hx hb dX3_sendAlong_132 (by decide) ?_
        refine W.lcmp hx hb dX3_sendAlong_133 ?_
        refine lv_toi (y := lg_cmp (V 3 ((y94_4 * 5) + (Int32.toNatClampNeg (U94 5 y94_4)))) 0) rfl ?_
        refine lv_if_eq (tgt := 151) hx hb dX3_sendAlong_134 (by decide) (fun c_7 => ?_) (fun c_7 => ?_)
        · refine lv_aload_n hx hb dX3_sendAlong_151 rfl (lv_at hl 5 rfl) ?_
          refine va_get (D := D) (ci := 3) (v := .ref (pa 6)) (C := RX3) (T := TX3) (N := 7) hx hb hts in3 hown hK hP 0 rfl rfl 6 (by decide) (hts (.fieldLink RX3 28 "Granary$Plan" "units" "[I") (by decide +kernel)) (fun _ h9 => h9) rfl dX3_sendAlong_152 ?_
          refine lv_aload_n hx hb dX3_sendAlong_155 rfl (lv_at hl 5 rfl) ?_
          refine va_get (D := D) (ci := 3) (v := .ref (pa 5)) (C := RX3) (T := TX3) (N := 7) hx hb hts in3 hown hK hP 0 rfl rfl 5 (by decide) (hts (.fieldLink RX3 25 "Granary$Plan" "ahead" "[I") (by decide +kernel)) (fun _ h9 => h9) rfl dX3_sendAlong_156 ?_
          refine lv_iload hx hb dX3_sendAlong_159 (lv_at hl 2 rfl) ?_
          refine sg_iald hx hb hK hP 5 0 rfl rfl (j := y94_4) rfl (by omega) (Nat.le_of_ble_eq_true rfl) dX3_sendAlong_161 ?_
          refine lv_toi (y := U94 5 y94_4) rfl ?_
          have h162 := hA94.n hnU hs94 c_4
          have l162 : Int32.toNatClampNeg (U94 5 y94_4) < sg_cn U 0 := h162.2
          refine lv_toi (y := nI (Int32.toNatClampNeg (U94 5 y94_4))) h162.1 ?_
          refine lv_iload hx hb dX3_sendAlong_162 (lv_at hl 2 rfl) ?_
          have hPc := hP.sub (ws' := []) [] rfl
          have hDc := hD.sub (ws' := []) [] (by decide) rfl
          refine vp_callSi (sg_dr (va_runSN (As := [.int (nI (Int32.toNatClampNeg (U94 5 y94_4))), .int (nI y94_4)]) (rest := [.ref (pa 6)]) ⟨hx, hb, hml, hown, hts⟩ (c_pair l D cI cZ cJ lo H.size (Int32.toNatClampNeg (U94 5 y94_4)) y94_4) ⟨va_cnB 2 hts gX3_sendAlong_X8_pair_n52 rfl rfl rfl (hC.nestX3_52) (hts (.initialized RX8) (by decide +kernel)) (by decide +kernel) ⟨(Nat.le_of_ble_eq_true rfl), (Nat.le_of_ble_eq_true rfl)⟩, (hts (.static yX8_pair) (by decide +kernel)), trivial⟩ ⟨Pre.blind, Pre.mk hPc (hDc.weaken (fun _ _ _ h => hAlo _ h)) hC hS hAlo⟩ rfl rfl hl.1 rfl (lv_room (Nat.le_of_ble_eq_true rfl)) dX3_sendAlong_164 ⟨(Nat.le_of_ble_eq_true rfl), (Nat.le_of_ble_eq_true rfl)⟩)) (fun r_8 e_9 => ?_)
          clear hPc hDc
          have e_9 : nI (((Int32.toNatClampNeg (U94 5 y94_4)) * 5) + y94_4) = r_8 := Eq.symm e_9
          subst e_9
          refine lv_dup2_11 hx hb dX3_sendAlong_167 rfl rfl ?_
          refine sg_iald hx hb hK hP 6 0 rfl rfl (j := ((Int32.toNatClampNeg (U94 5 y94_4)) * 5) + y94_4) rfl (by omega) (Nat.le_of_ble_eq_true rfl) dX3_sendAlong_168 ?_
          refine lv_toi (y := U94 6 (((Int32.toNatClampNeg (U94 5 y94_4)) * 5) + y94_4)) rfl ?_
          refine lv_iload_n hx hb dX3_sendAlong_169 rfl (lv_at hl 3 rfl) ?_
          refine lv_iadd hx hb dX3_sendAlong_170 ?_
          refine sg_iast hx hb hK hP hD hS 6 0 rfl rfl (j := ((Int32.toNatClampNeg (U94 5 y94_4)) * 5) + y94_4) rfl (by omega) (Nat.le_of_ble_eq_true rfl) dX3_sendAlong_171 (fun H locs hP hD hS => ?_)
          replace hP : va_P D vwCl (sg_Pl cI cJ pa (sg_up U94 6 (((Int32.toNatClampNeg (U94 5 y94_4)) * 5) + y94_4) ((U94 6 (((Int32.toNatClampNeg (U94 5 y94_4)) * 5) + y94_4)) + (if (U 1 (((sg_sendAlong_12 U V xe 5 xe (U 2 xe))).1)) < (((sg_sendAlong_12 U V xe 5 xe (U 2 xe))).2) then (U 1 (((sg_sendAlong_12 U V xe 5 xe (U 2 xe))).1)) else (((sg_sendAlong_12 U V xe 5 xe (U 2 xe))).2)))) V) H := hP
          replace hD : va_D A (sg_Pl cI cJ pa (sg_up U94 6 (((Int32.toNatClampNeg (U94 5 y94_4)) * 5) + y94_4) ((U94 6 (((Int32.toNatClampNeg (U94 5 y94_4)) * 5) + y94_4)) + (if (U 1 (((sg_sendAlong_12 U V xe 5 xe (U 2 xe))).1)) < (((sg_sendAlong_12 U V xe 5 xe (U 2 xe))).2) then (U 1 (((sg_sendAlong_12 U V xe 5 xe (U 2 xe))).1)) else (((sg_sendAlong_12 U V xe 5 xe (U 2 xe))).2)))) V) := hD
          refine lv_aload_n hx hb dX3_sendAlong_172 rfl (lv_at hl 5 rfl) ?_
          refine va_get (D := D) (ci := 3) (v := .ref (pa 5)) (C := RX3) (T := TX3) (N := 7) hx hb hts in3 hown hK hP 0 rfl rfl 5 (by decide) (hts (.fieldLink RX3 25 "Granary$Plan" "ahead" "[I") (by decide +kernel)) (fun _ h9 => h9) rfl dX3_sendAlong_173 ?_
          refine lv_iload hx hb dX3_sendAlong_176 (lv_at hl 2 rfl) ?_
          refine sg_iald hx hb hK hP 5 0 rfl rfl (j := y94_4) rfl (by omega) (Nat.le_of_ble_eq_true rfl) dX3_sendAlong_178 ?_
          refine lv_toi (y := U94 5 y94_4) rfl ?_
          have h179 := hA94.n hnU hs94 c_4
          have l179 : Int32.toNatClampNeg (U94 5 y94_4) < sg_cn U 0 := h179.2
          refine lv_toi (y := nI (Int32.toNatClampNeg (U94 5 y94_4))) h179.1 ?_
          refine lv_istore (lv' := [(4, .int (nI (Int32.toNatClampNeg (U94 5 y94_4)))), (6, .int (nI ((y94_4 * 5) + (Int32.toNatClampNeg (U94 5 y94_4))))), (5, .int (nI j94)), (2, .int (if (U 1 (((sg_sendAlong_12 U V xe 5 xe (U 2 xe))).1)) < (((sg_sendAlong_12 U V xe 5 xe (U 2 xe))).2) then (U 1 (((sg_sendAlong_12 U V xe 5 xe (U 2 xe))).1)) else (((sg_sendAlong_12 U V xe 5 xe (U 2 xe))).2))), (3, .int (nI (((sg_sendAlong_12 U V xe 5 xe (U 2 xe))).1))), (0, .ref (pa 0)), (1, .int (nI xe))]) hx hb dX3_sendAlong_179 hl (by decide) rfl (fun ls hl => ?_)
          refine lv_iinc (v := nI (j94 + 1)) (lv' := [(5, .int (nI (j94 + 1))), (4, .int (nI (Int32.toNatClampNeg (U94 5 y94_4)))), (6, .int (nI ((y94_4 * 5) + (Int32.toNatClampNeg (U94 5 y94_4))))), (2, .int (if (U 1 (((sg_sendAlong_12 U V xe 5 xe (U 2 xe))).1)) < (((sg_sendAlong_12 U V xe 5 xe (U 2 xe))).2) then (U 1 (((sg_sendAlong_12 U V xe 5 xe (U 2 xe))).1)) else (((sg_sendAlong_12 U V xe 5 xe (U 2 xe))).2))), (3, .int (nI (((sg_sendAlong_12 U V xe 5 xe (U 2 xe))).1))), (0, .ref (pa 0)), (1, .int (nI xe))]) hx hb dX3_sendAlong_181 hl (k := 2) rfl (nI_1 j94) (by decide) rfl (fun ls hl => ?_)
          refine lv_goto (tgt := 94) hx hb dX3_sendAlong_184 (by decide) ?_
          exact ih94 (j94 + 1) (Int32.toNatClampNeg (U94 5 y94_4)) (sg_up U94 6 (((Int32.toNatClampNeg (U94 5 y94_4)) * 5) + y94_4) ((U94 6 (((Int32.toNatClampNeg (U94 5 y94_4)) * 5) + y94_4)) + (if (U 1 (((sg_sendAlong_12 U V xe 5 xe (U 2 xe))).1)) < (((sg_sendAlong_12 U V xe 5 xe (U 2 xe))).2) then (U 1 (((sg_sendAlong_12 U V xe 5 xe (U 2 xe))).1)) else (((sg_sendAlong_12 U V xe 5 xe (U 2 xe))).2)))) _ _ _ hun94 l179 hA94 (by omega) (show sg_sendAlong_94 U V xe n94 (Int32.toNatClampNeg (U94 5 y94_4)) (sg_up U94 6 (((Int32.toNatClampNeg (U94 5 y94_4)) * 5) + y94_4) ((U94 6 (((Int32.toNatClampNeg (U94 5 y94_4)) * 5) + y94_4)) + (if (U 1 (((sg_sendAlong_12 U V xe 5 xe (U 2 xe))).1)) < (((sg_sendAlong_12 U V xe 5 xe (U 2 xe))).2) then (U 1 (((sg_sendAlong_12 U V xe 5 xe (U 2 xe))).1)) else (((sg_sendAlong_12 U V xe 5 xe (U 2 xe))).2)))) = T94 from by rw [← hF94, sg_sendAlong_94, if_neg c_4, if_pos c_7]) (lv_sub hl [0, 1, 3, 4, 5, 6] rfl) hS hD hP
        · refine lv_aload_n hx hb dX3_sendAlong_137 rfl (lv_at hl 5 rfl) ?_
          refine va_get (D := D) (ci := 3) (v := .ref (pa 6)) (C := RX3) (T := TX3) (N := 7) hx hb hts in3 hown hK hP 0 rfl rfl 6 (by decide) (hts (.fieldLink RX3 28 "Granary$Plan" "units" "[I") (by decide +kernel)) (fun _ h9 => h9) rfl dX3_sendAlong_138 ?_
          refine lv_iload hx hb dX3_sendAlong_141 (lv_at hl 0 rfl) ?_
          refine lv_dup2_11 hx hb dX3_sendAlong_143 rfl rfl ?_
          refine sg_iald hx hb hK hP 6 0 rfl rfl (j := (y94_4 * 5) + (Int32.toNatClampNeg (U94 5 y94_4))) rfl (by omega) (Nat.le_of_ble_eq_true rfl) dX3_sendAlong_144 ?_
          refine lv_toi (y := U94 6 ((y94_4 * 5) + (Int32.toNatClampNeg (U94 5 y94_4)))) rfl ?_
          refine lv_iload_n hx hb dX3_sendAlong_145 rfl (lv_at hl 3 rfl) ?_
          refine lv_isub hx hb dX3_sendAlong_146 ?_
          refine sg_iast hx hb hK hP hD hS 6 0 rfl rfl (j := (y94_4 * 5) + (Int32.toNatClampNeg (U94 5 y94_4))) rfl (by omega) (Nat.le_of_ble_eq_true rfl) dX3_sendAlong_147 (fun H locs hP hD hS => ?_)
          replace hP : va_P D vwCl (sg_Pl cI cJ pa (sg_up U94 6 ((y94_4 * 5) + (Int32.toNatClampNeg (U94 5 y94_4))) ((U94 6 ((y94_4 * 5) + (Int32.toNatClampNeg (U94 5 y94_4)))) - (if (U 1 (((sg_sendAlong_12 U V xe 5 xe (U 2 xe))).1)) < (((sg_sendAlong_12 U V xe 5 xe (U 2 xe))).2) then (U 1 (((sg_sendAlong_12 U V xe 5 xe (U 2 xe))).1)) else (((sg_sendAlong_12 U V xe 5 xe (U 2 xe))).2)))) V) H := hP
          replace hD : va_D A (sg_Pl cI cJ pa (sg_up U94 6 ((y94_4 * 5) + (Int32.toNatClampNeg (U94 5 y94_4))) ((U94 6 ((y94_4 * 5) + (Int32.toNatClampNeg (U94 5 y94_4)))) - (if (U 1 (((sg_sendAlong_12 U V xe 5 xe (U 2 xe))).1)) < (((sg_sendAlong_12 U V xe 5 xe (U 2 xe))).2) then (U 1 (((sg_sendAlong_12 U V xe 5 xe (U 2 xe))).1)) else (((sg_sendAlong_12 U V xe 5 xe (U 2 xe))).2)))) V) := hD
          refine lv_goto (tgt := 172) hx hb dX3_sendAlong_148 (by decide) ?_
          refine lv_aload_n hx hb dX3_sendAlong_172 rfl (lv_at hl 5 rfl) ?_
          refine va_get (D := D) (ci := 3) (v := .ref (pa 5)) (C := RX3) (T := TX3) (N := 7) hx hb hts in3 hown hK hP 0 rfl rfl 5 (by decide) (hts (.fieldLink RX3 25 "Granary$Plan" "ahead" "[I") (by decide +kernel)) (fun _ h9 => h9) rfl dX3_sendAlong_173 ?_
          refine lv_iload hx hb dX3_sendAlong_176 (lv_at hl 2 rfl) ?_
          refine sg_iald hx hb hK hP 5 0 rfl rfl (j := y94_4) rfl (by omega) (Nat.le_of_ble_eq_true rfl) dX3_sendAlong_178 ?_
          refine lv_toi (y := U94 5 y94_4) rfl ?_
          have h179 := hA94.n hnU hs94 c_4
          have l179 : Int32.toNatClampNeg (U94 5 y94_4) < sg_cn U 0 := h179.2
          refine lv_toi (y := nI (Int32.toNatClampNeg (U94 5 y94_4))) h179.1 ?_
          refine lv_istore (lv' := [(4, .int (nI (Int32.toNatClampNeg (U94 5 y94_4)))), (6, .int (nI ((y94_4 * 5) + (Int32.toNatClampNeg (U94 5 y94_4))))), (5, .int (nI j94)), (2, .int (if (U 1 (((sg_sendAlong_12 U V xe 5 xe (U 2 xe))).1)) < (((sg_sendAlong_12 U V xe 5 xe (U 2 xe))).2) then (U 1 (((sg_sendAlong_12 U V xe 5 xe (U 2 xe))).1)) else (((sg_sendAlong_12 U V xe 5 xe (U 2 xe))).2))), (3, .int (nI (((sg_sendAlong_12 U V xe 5 xe (U 2 xe))).1))), (0, .ref (pa 0)), (1, .int (nI xe))]) hx hb dX3_sendAlong_179 hl (by decide) rfl (fun ls hl => ?_)
          refine lv_iinc (v := nI (j94 + 1)) (lv' := [(5, .int (nI (j94 + 1))), (4, .int (nI (Int32.toNatClampNeg (U94 5 y94_4)))), (6, .int (nI ((y94_4 * 5) + (Int32.toNatClampNeg (U94 5 y94_4))))), (2, .int (if (U 1 (((sg_sendAlong_12 U V xe 5 xe (U 2 xe))).1)) < (((sg_sendAlong_12 U V xe 5 xe (U 2 xe))).2) then (U 1 (((sg_sendAlong_12 U V xe 5 xe (U 2 xe))).1)) else (((sg_sendAlong_12 U V xe 5 xe (U 2 xe))).2))), (3, .int (nI (((sg_sendAlong_12 U V xe 5 xe (U 2 xe))).1))), (0, .ref (pa 0)), (1, .int (nI xe))]) hx hb dX3_sendAlong_181 hl (k := 2) rfl (nI_1 j94) (by decide) rfl (fun ls hl => ?_)
          refine lv_goto (tgt := 94) hx hb dX3_sendAlong_184 (by decide) ?_
          exact ih94 (j94 + 1) (Int32.toNatClampNeg (U94 5 y94_4)) (sg_up U94 6 ((y94_4 * 5) + (Int32.toNatClampNeg (U94 5 y94_4))) ((U94 6 ((y94_4 * 5) + (Int32.toNatClampNeg (U94 5 y94_4)))) - (if (U 1 (((sg_sendAlong_12 U V xe 5 xe (U 2 xe))).1)) < (((sg_sendAlong_12 U V xe 5 xe (U 2 xe))).2) then (U 1 (((sg_sendAlong_12 U V xe 5 xe (U 2 xe))).1)) else (((sg_sendAlong_12 U V xe 5 xe (U 2 xe))).2)))) _ _ _ hun94 l179 hA94 (by omega) (show sg_sendAlong_94 U V xe n94 (Int32.toNatClampNeg (U94 5 y94_4)) (sg_up U94 6 ((y94_4 * 5) + (Int32.toNatClampNeg (U94 5 y94_4))) ((U94 6 ((y94_4 * 5) + (Int32.toNatClampNeg (U94 5 y94_4)))) - (if (U 1 (((sg_sendAlong_12 U V xe 5 xe (U 2 xe))).1)) < (((sg_sendAlong_12 U V xe 5 xe (U 2 xe))).2) then (U 1 (((sg_sendAlong_12 U V xe 5 xe (U 2 xe))).1)) else (((sg_sendAlong_12 U V xe 5 xe (U 2 xe))).2)))) = T94 from by rw [← hF94, sg_sendAlong_94, if_neg c_4, if_neg c_7]) (lv_sub hl [0, 1, 3, 4, 5, 6] rfl) hS hD hP
  | succ n12 ih12 =>
    intro j12 y12_3 x12_2 H locs ls hs12 hjj12 hF12 hl hS hD hP
    refine lv_iload hx hb dX3_sendAlong_12 (lv_at hl 0 rfl) ?_
    refine lv_iconst (v := 5) hx hb dX3_sendAlong_14 (by decide) ?_
    have c_10 : ¬ ((5 : Int32) ≤ nI j12) := sg_nge (show (5 : Int32) = nI (5) from rfl) (by omega) (by omega)
    refine lv_icmp_ge (tgt := 77) hx hb dX3_sendAlong_15 (by decide) (fun c9 => absurd c9 c_10) (fun _ => ?_)
    refine lv_aload_n hx hb dX3_sendAlong_18 rfl (lv_at hl 3 rfl) ?_
    refine va_get (D := D) (ci := 3) (v := .ref (pa 5)) (C := RX3) (T := TX3) (N := 7) hx hb hts in3 hown hK hP 0 rfl rfl 5 (by decide) (hts (.fieldLink RX3 25 "Granary$Plan" "ahead" "[I") (by decide +kernel)) (fun _ h9 => h9) rfl dX3_sendAlong_19 ?_
    refine lv_iload_n hx hb dX3_sendAlong_22 rfl (lv_at hl 1 rfl) ?_
    refine sg_iald hx hb hK hP 5 0 rfl rfl (j := y12_3) rfl (by omega) (Nat.le_of_ble_eq_true rfl) dX3_sendAlong_23 ?_
    refine lv_toi (y := U 5 y12_3) rfl ?_
    refine lv_iconst (v := (-1)) hx hb dX3_sendAlong_24 (by decide) ?_
    refine lv_icmp_eq (tgt := 77) hx hb dX3_sendAlong_25 (by decide) (fun c_11 => ?_) (fun c_11 => ?_)
    · rw [sg_sendAlong_12, if_pos c_11] at hF12
      replace hl : lv_has ls 7 [(3, .int (nI ((T12).1))), (2, .int ((T12).2)), (0, .ref (pa 0)), (1, .int (nI xe))] := by rw [← hF12]; exact lv_sub hl [1, 2, 3, 4] rfl
      clear hF12 ih12
      subst hTT12
      refine lv_iload_n hx hb dX3_sendAlong_77 rfl (lv_at hl 1 rfl) ?_
      have l77 : ((sg_sendAlong_12 U V xe 5 xe (U 2 xe))).1 < sg_cn U 0 := sg_sa12 huA hnU 5 _ _ hxe
      refine lv_aload_n hx hb dX3_sendAlong_78 rfl (lv_at hl 2 rfl) ?_
      refine va_get (D := D) (ci := 3) (v := .ref (pa 1)) (C := RX3) (T := TX3) (N := 7) hx hb hts in3 hown hK hP 0 rfl rfl 1 (by decide) (hts (.fieldLink RX3 9 "Granary$Plan" "spare" "[I") (by decide +kernel)) (fun _ h9 => h9) rfl dX3_sendAlong_79 ?_
      refine lv_iload_n hx hb dX3_sendAlong_82 rfl (lv_at hl 0 rfl) ?_
      refine sg_iald hx hb hK hP 1 0 rfl rfl (j := ((sg_sendAlong_12 U V xe 5 xe (U 2 xe))).1) rfl (by omega) (Nat.le_of_ble_eq_true rfl) dX3_sendAlong_83 ?_
      refine lv_toi (y := U 1 (((sg_sendAlong_12 U V xe 5 xe (U 2 xe))).1)) rfl ?_
      refine va_mmin hx hb (hml.trans hl.1.symm) hown (hts (.methodLink RX3 80 Lib.Math.min.name) (by decide +kernel)) (hts (.static Lib.Math.min.name) (by decide +kernel)) (hts (.initialized "java/lang/Math") (by decide +kernel)) (hts (.code Lib.Math.min.name Lib.Math.min.code 2 (some .int)) (by decide +kernel)) (Nat.le_of_ble_eq_true rfl) (Nat.le_of_ble_eq_true rfl) (Nat.le_of_ble_eq_true rfl) (Nat.le_of_ble_eq_true rfl) dX3_sendAlong_84 ?_
      refine lv_istore_n (lv' := [(2, .int (if (U 1 (((sg_sendAlong_12 U V xe 5 xe (U 2 xe))).1)) < (((sg_sendAlong_12 U V xe 5 xe (U 2 xe))).2) then (U 1 (((sg_sendAlong_12 U V xe 5 xe (U 2 xe))).1)) else (((sg_sendAlong_12 U V xe 5 xe (U 2 xe))).2))), (3, .int (nI (((sg_sendAlong_12 U V xe 5 xe (U 2 xe))).1))), (0, .ref (pa 0)), (1, .int (nI xe))]) hx hb dX3_sendAlong_87 rfl hl (by decide) rfl (fun ls hl => ?_)
      refine lv_iload_n hx hb dX3_sendAlong_88 rfl (lv_at hl 3 rfl) ?_
      refine lv_istore (lv' := [(4, .int (nI xe)), (2, .int (if (U 1 (((sg_sendAlong_12 U V xe 5 xe (U 2 xe))).1)) < (((sg_sendAlong_12 U V xe 5 xe (U 2 xe))).2) then (U 1 (((sg_sendAlong_12 U V xe 5 xe (U 2 xe))).1)) else (((sg_sendAlong_12 U V xe 5 xe (U 2 xe))).2))), (3, .int (nI (((sg_sendAlong_12 U V xe 5 xe (U 2 xe))).1))), (0, .ref (pa 0)), (1, .int (nI xe))]) hx hb dX3_sendAlong_89 hl (by decide) rfl (fun ls hl => ?_)
      refine lv_iconst (v := 0) hx hb dX3_sendAlong_91 (by decide) ?_
      refine lv_istore (lv' := [(5, .int 0), (4, .int (nI xe)), (2, .int (if (U 1 (((sg_sendAlong_12 U V xe 5 xe (U 2 xe))).1)) < (((sg_sendAlong_12 U V xe 5 xe (U 2 xe))).2) then (U 1 (((sg_sendAlong_12 U V xe 5 xe (U 2 xe))).1)) else (((sg_sendAlong_12 U V xe 5 xe (U 2 xe))).2))), (3, .int (nI (((sg_sendAlong_12 U V xe 5 xe (U 2 xe))).1))), (0, .ref (pa 0)), (1, .int (nI xe))]) hx hb dX3_sendAlong_92 hl (by decide) rfl (fun ls hl => ?_)
      obtain ⟨T94, hTT94⟩ : ∃ z9 : Nat × sg_Pic, z9 = sg_sendAlong_94 U V xe 5 xe U := ⟨_, rfl⟩
      obtain ⟨y94_4, hy94_4⟩ : ∃ z9 : Nat, z9 = xe := ⟨_, rfl⟩
      obtain ⟨U94, hU94⟩ : ∃ z9 : sg_Pic, z9 = U := ⟨_, rfl⟩
      obtain ⟨j94, h0j94⟩ : ∃ j : Nat, j = 0 := ⟨_, rfl⟩
      obtain ⟨n94, hn94⟩ : ∃ n : Nat, n = 5 := ⟨_, rfl⟩
      replace hl : lv_has ls 7 [(5, .int (nI j94)), (4, .int (nI y94_4)), (2, .int (if (U 1 (((sg_sendAlong_12 U V xe 5 xe (U 2 xe))).1)) < (((sg_sendAlong_12 U V xe 5 xe (U 2 xe))).2) then (U 1 (((sg_sendAlong_12 U V xe 5 xe (U 2 xe))).1)) else (((sg_sendAlong_12 U V xe 5 xe (U 2 xe))).2))), (3, .int (nI (((sg_sendAlong_12 U V xe 5 xe (U 2 xe))).1))), (0, .ref (pa 0)), (1, .int (nI xe))] := by rw [h0j94, hy94_4]; exact hl
      replace hP : va_P D vwCl (sg_Pl cI cJ pa U94 V) H := by rw [hU94]; exact hP
      replace hD : va_D A (sg_Pl cI cJ pa U94 V) := by rw [hU94]; exact hD
      have hF94 : sg_sendAlong_94 U V xe n94 y94_4 U94 = T94 := by rw [hy94_4, hU94, hn94, hTT94]
      have hun94 : sg_UN U94 := by rw [hU94]; exact hU
      have hs94 : y94_4 < sg_cn U 0 := by rw [hy94_4]; exact hxe
      have hA94 : sg_UA (sg_cn U 0) U94 := by rw [hU94]; exact huA
      have hjj94 : j94 + n94 = 5 := by omega
      clear h0j94 hn94
      clear hy94_4
      clear hU94
      revert hP
      revert hD
      revert hS
      revert hl
      revert hF94
      revert hjj94
      revert hA94
      revert hs94
      revert hun94
      revert ls
      revert locs
      revert H
      revert U94
      revert y94_4
      revert j94
      induction n94 with
      | zero =>
        intro j94 y94_4 U94 H locs ls hun94 hs94 hA94 hjj94 hF94 hl hS hD hP
        refine lv_iload hx hb dX3_sendAlong_94 (lv_at hl 0 rfl) ?_
        refine lv_iconst (v := 5) hx hb dX3_sendAlong_96 (by decide) ?_
        have c_12 : (5 : Int32) ≤ nI j94 := sg_geN (show (5 : Int32) = nI (5) from rfl) (by omega) (by omega)
        refine lv_icmp_ge (tgt := 187) hx hb dX3_sendAlong_97 (by decide) (fun _ => ?_) (fun c9 => absurd c_12 c9)
        rw [sg_sendAlong_94] at hF94
        replace hl : lv_has ls 7 [(4, .int (nI ((T94).1))), (2, .int (if (U 1 (((sg_sendAlong_12 U V xe 5 xe (U 2 xe))).1)) < (((sg_sendAlong_12 U V xe 5 xe (U 2 xe))).2) then (U 1 (((sg_sendAlong_12 U V xe 5 xe (U 2 xe))).1)) else (((sg_sendAlong_12 U V xe 5 xe (U 2 xe))).2))), (3, .int (nI (((sg_sendAlong_12 U V xe 5 xe (U 2 xe))).1))), (0, .ref (pa 0)), (1, .int (nI xe))] := by rw [← hF94]; exact lv_sub hl [1, 2, 3, 4, 5] rfl
        replace hP : va_P D vwCl (sg_Pl cI cJ pa ((T94).2) V) H := by rw [← hF94]; exact hP
        replace hD : va_D A (sg_Pl cI cJ pa ((T94).2) V) := by rw [← hF94]; exact hD
        clear hF94
        subst hTT94
        refine lv_aload_n hx hb dX3_sendAlong_187 rfl (lv_at hl 3 rfl) ?_
        refine va_get (D := D) (ci := 3) (v := .ref (pa 1)) (C := RX3) (T := TX3) (N := 7) hx hb hts in3 hown hK hP 0 rfl rfl 1 (by decide) (hts (.fieldLink RX3 9 "Granary$Plan" "spare" "[I") (by decide +kernel)) (fun _ h9 => h9) rfl dX3_sendAlong_188 ?_
        refine lv_iload_n hx hb dX3_sendAlong_191 rfl (lv_at hl 2 rfl) ?_
        refine lv_dup2_11 hx hb dX3_sendAlong_192 rfl rfl ?_
        refine sg_iald hx hb hK hP 1 0 rfl rfl (j := ((sg_sendAlong_12 U V xe 5 xe (U 2 xe))).1) rfl (by omega) (Nat.le_of_ble_eq_true rfl) dX3_sendAlong_193 ?_
        refine lv_toi (y := (((sg_sendAlong_94 U V xe 5 xe U)).2) 1 (((sg_sendAlong_12 U V xe 5 xe (U 2 xe))).1)) rfl ?_
        refine lv_iload_n hx hb dX3_sendAlong_194 rfl (lv_at hl 1 rfl) ?_
        refine lv_isub hx hb dX3_sendAlong_195 ?_
        refine sg_iast hx hb hK hP hD hS 1 0 rfl rfl (j := ((sg_sendAlong_12 U V xe 5 xe (U 2 xe))).1) rfl (by omega) (Nat.le_of_ble_eq_true rfl) dX3_sendAlong_196 (fun H locs hP hD hS => ?_)
        replace hP : va_P D vwCl (sg_Pl cI cJ pa (sg_up (((sg_sendAlong_94 U V xe 5 xe U)).2) 1 (((sg_sendAlong_12 U V xe 5 xe (U 2 xe))).1) (((((sg_sendAlong_94 U V xe 5 xe U)).2) 1 (((sg_sendAlong_12 U V xe 5 xe (U 2 xe))).1)) - (if (U 1 (((sg_sendAlong_12 U V xe 5 xe (U 2 xe))).1)) < (((sg_sendAlong_12 U V xe 5 xe (U 2 xe))).2) then (U 1 (((sg_sendAlong_12 U V xe 5 xe (U 2 xe))).1)) else (((sg_sendAlong_12 U V xe 5 xe (U 2 xe))).2)))) V) H := hP
        replace hD : va_D A (sg_Pl cI cJ pa (sg_up (((sg_sendAlong_94 U V xe 5 xe U)).2) 1 (((sg_sendAlong_12 U V xe 5 xe (U 2 xe))).1) (((((sg_sendAlong_94 U V xe 5 xe U)).2) 1 (((sg_sendAlong_12 U V xe 5 xe (U 2 xe))).1)) - (if (U 1 (((sg_sendAlong_12 U V xe 5 xe (U 2 xe))).1)) < (((sg_sendAlong_12 U V xe 5 xe (U 2 xe))).2) then (U 1 (((sg_sendAlong_12 U V xe 5 xe (U 2 xe))).1)) else (((sg_sendAlong_12 U V xe 5 xe (U 2 xe))).2)))) V) := hD
        refine lv_aload_n hx hb dX3_sendAlong_197 rfl (lv_at hl 3 rfl) ?_
        refine va_get (D := D) (ci := 3) (v := .ref (pa 2)) (C := RX3) (T := TX3) (N := 7) hx hb hts in3 hown hK hP 0 rfl rfl 2 (by decide) (hts (.fieldLink RX3 15 "Granary$Plan" "lack" "[I") (by decide +kernel)) (fun _ h9 => h9) rfl dX3_sendAlong_198 ?_
        refine lv_iload_n hx hb dX3_sendAlong_201 rfl (lv_at hl 4 rfl) ?_
        refine lv_dup2_11 hx hb dX3_sendAlong_202 rfl rfl ?_
        refine sg_iald hx hb hK hP 2 0 rfl rfl (j := xe) rfl (by omega) (Nat.le_of_ble_eq_true rfl) dX3_sendAlong_203 ?_
        refine lv_toi (y := (((sg_sendAlong_94 U V xe 5 xe U)).2) 2 xe) rfl ?_
        refine lv_iload_n hx hb dX3_sendAlong_204 rfl (lv_at hl 1 rfl) ?_
        refine lv_isub hx hb dX3_sendAlong_205 ?_
        refine sg_iast hx hb hK hP hD hS 2 0 rfl rfl (j := xe) rfl (by omega) (Nat.le_of_ble_eq_true rfl) dX3_sendAlong_206 (fun H locs hP hD hS => ?_)
        replace hP : va_P D vwCl (sg_Pl cI cJ pa (sg_up (sg_up (((sg_sendAlong_94 U V xe 5 xe U)).2) 1 (((sg_sendAlong_12 U V xe 5 xe (U 2 xe))).1) (((((sg_sendAlong_94 U V xe 5 xe U)).2) 1 (((sg_sendAlong_12 U V xe 5 xe (U 2 xe))).1)) - (if (U 1 (((sg_sendAlong_12 U V xe 5 xe (U 2 xe))).1)) < (((sg_sendAlong_12 U V xe 5 xe (U 2 xe))).2) then (U 1 (((sg_sendAlong_12 U V xe 5 xe (U 2 xe))).1)) else (((sg_sendAlong_12 U V xe 5 xe (U 2 xe))).2)))) 2 xe (((((sg_sendAlong_94 U V xe 5 xe U)).2) 2 xe) - (if (U 1 (((sg_sendAlong_12 U V xe 5 xe (U 2 xe))).1)) < (((sg_sendAlong_12 U V xe 5 xe (U 2 xe))).2) then (U 1 (((sg_sendAlong_12 U V xe 5 xe (U 2 xe))).1)) else (((sg_sendAlong_12 U V xe 5 xe (U 2 xe))).2)))) V) H := hP
        replace hD : va_D A (sg_Pl cI cJ pa (sg_up (sg_up (((sg_sendAlong_94 U V xe 5 xe U)).2) 1 (((sg_sendAlong_12 U V xe 5 xe (U 2 xe))).1) (((((sg_sendAlong_94 U V xe 5 xe U)).2) 1 (((sg_sendAlong_12 U V xe 5 xe (U 2 xe))).1)) - (if (U 1 (((sg_sendAlong_12 U V xe 5 xe (U 2 xe))).1)) < (((sg_sendAlong_12 U V xe 5 xe (U 2 xe))).2) then (U 1 (((sg_sendAlong_12 U V xe 5 xe (U 2 xe))).1)) else (((sg_sendAlong_12 U V xe 5 xe (U 2 xe))).2)))) 2 xe (((((sg_sendAlong_94 U V xe 5 xe U)).2) 2 xe) - (if (U 1 (((sg_sendAlong_12 U V xe 5 xe (U 2 xe))).1)) < (((sg_sendAlong_12 U V xe 5 xe (U 2 xe))).2) then (U 1 (((sg_sendAlong_12 U V xe 5 xe (U 2 xe))).1)) else (((sg_sendAlong_12 U V xe 5 xe (U 2 xe))).2)))) V) := hD
        refine W.widen (k := 0) (n := 0) (by omega) (by omega) ?_
        have hP9 : va_P D vwCl (sg_Pl cI cJ pa (sg_sendAlong_U U V xe) V) H := by exact hP
        have hD9 : va_D A (sg_Pl cI cJ pa (sg_sendAlong_U U V xe) V) := by exact hD
        exact W.vret hx hb hr (fun t ht hW => ⟨⟨(), rfl, trivial, by rw [ht]; exact hP9, hD9⟩, hS.F ht⟩) hS.2.2 dX3_sendAlong_207
      | succ n94 ih94 =>
        intro j94 y94_4 U94 H locs ls hun94 hs94 hA94 hjj94 hF94 hl hS hD hP
        refine lv_iload hx hb dX3_sendAlong_94 (lv_at hl 0 rfl) ?_
        refine lv_iconst (v := 5) hx hb dX3_sendAlong_96 (by decide) ?_
        have c_13 : ¬ ((5 : Int32) ≤ nI j94) := sg_nge (show (5 : Int32) = nI (5) from rfl) (by omega) (by omega)
        refine lv_icmp_ge (tgt := 187) hx hb dX3_sendAlong_97 (by decide) (fun c9 => absurd c9 c_13) (fun _ => ?_)
        refine lv_aload_n hx hb dX3_sendAlong_100 rfl (lv_at hl 4 rfl) ?_
        refine va_get (D := D) (ci := 3) (v := .ref (pa 5)) (C := RX3) (T := TX3) (N := 7) hx hb hts in3 hown hK hP 0 rfl rfl 5 (by decide) (hts (.fieldLink RX3 25 "Granary$Plan" "ahead" "[I") (by decide +kernel)) (fun _ h9 => h9) rfl dX3_sendAlong_101 ?_
        refine lv_iload hx hb dX3_sendAlong_104 (lv_at hl 1 rfl) ?_
        refine sg_iald hx hb hK hP 5 0 rfl rfl (j := y94_4) rfl (by omega) (Nat.le_of_ble_eq_true rfl) dX3_sendAlong_106 ?_
        refine lv_toi (y := U94 5 y94_4) rfl ?_
        refine lv_iconst (v := (-1)) hx hb dX3_sendAlong_107 (by decide) ?_
        refine lv_icmp_eq (tgt := 187) hx hb dX3_sendAlong_108 (by decide) (fun c_14 => ?_) (fun c_14 => ?_)
        · rw [sg_sendAlong_94, if_pos c_14] at hF94
          replace hl : lv_has ls 7 [(4, .int (nI ((T94).1))), (2, .int (if (U 1 (((sg_sendAlong_12 U V xe 5 xe (U 2 xe))).1)) < (((sg_sendAlong_12 U V xe 5 xe (U 2 xe))).2) then (U 1 (((sg_sendAlong_12 U V xe 5 xe (U 2 xe))).1)) else (((sg_sendAlong_12 U V xe 5 xe (U 2 xe))).2))), (3, .int (nI (((sg_sendAlong_12 U V xe 5 xe (U 2 xe))).1))), (0, .ref (pa 0)), (1, .int (nI xe))] := by rw [← hF94]; exact lv_sub hl [1, 2, 3, 4, 5] rfl
          replace hP : va_P D vwCl (sg_Pl cI cJ pa ((T94).2) V) H := by rw [← hF94]; exact hP
          replace hD : va_D A (sg_Pl cI cJ pa ((T94).2) V) := by rw [← hF94]; exact hD
          clear hF94 ih94
          subst hTT94
          refine lv_aload_n hx hb dX3_sendAlong_187 rfl (lv_at hl 3 rfl) ?_
          refine va_get (D := D) (ci := 3) (v := .ref (pa 1)) (C := RX3) (T := TX3) (N := 7) hx hb hts in3 hown hK hP 0 rfl rfl 1 (by decide) (hts (.fieldLink RX3 9 "Granary$Plan" "spare" "[I") (by decide +kernel)) (fun _ h9 => h9) rfl dX3_sendAlong_188 ?_
          refine lv_iload_n hx hb dX3_sendAlong_191 rfl (lv_at hl 2 rfl) ?_
          refine lv_dup2_11 hx hb dX3_sendAlong_192 rfl rfl ?_
          refine sg_iald hx hb hK hP 1 0 rfl rfl (j := ((sg_sendAlong_12 U V xe 5 xe (U 2 xe))).1) rfl (by omega) (Nat.le_of_ble_eq_true rfl) dX3_sendAlong_193 ?_
          refine lv_toi (y := (((sg_sendAlong_94 U V xe 5 xe U)).2) 1 (((sg_sendAlong_12 U V xe 5 xe (U 2 xe))).1)) rfl ?_
          refine lv_iload_n hx hb dX3_sendAlong_194 rfl (lv_at hl 1 rfl) ?_
          refine lv_isub hx hb dX3_sendAlong_195 ?_
          refine sg_iast hx hb hK hP hD hS 1 0 rfl rfl (j := ((sg_sendAlong_12 U V xe 5 xe (U 2 xe))).1) rfl (by omega) (Nat.le_of_ble_eq_true rfl) dX3_sendAlong_196 (fun H locs hP hD hS => ?_)
          replace hP : va_P D vwCl (sg_Pl cI cJ pa (sg_up (((sg_sendAlong_94 U V xe 5 xe U)).2) 1 (((sg_sendAlong_12 U V xe 5 xe (U 2 xe))).1) (((((sg_sendAlong_94 U V xe 5 xe U)).2) 1 (((sg_sendAlong_12 U V xe 5 xe (U 2 xe))).1)) - (if (U 1 (((sg_sendAlong_12 U V xe 5 xe (U 2 xe))).1)) < (((sg_sendAlong_12 U V xe 5 xe (U 2 xe))).2) then (U 1 (((sg_sendAlong_12 U V xe 5 xe (U 2 xe))).1)) else (((sg_sendAlong_12 U V xe 5 xe (U 2 xe))).2)))) V) H := hP
          replace hD : va_D A (sg_Pl cI cJ pa (sg_up (((sg_sendAlong_94 U V xe 5 xe U)).2) 1 (((sg_sendAlong_12 U V xe 5 xe (U 2 xe))).1) (((((sg_sendAlong_94 U V xe 5 xe U)).2) 1 (((sg_sendAlong_12 U V xe 5 xe (U 2 xe))).1)) - (if (U 1 (((sg_sendAlong_12 U V xe 5 xe (U 2 xe))).1)) < (((sg_sendAlong_12 U V xe 5 xe (U 2 xe))).2) then (U 1 (((sg_sendAlong_12 U V xe 5 xe (U 2 xe))).1)) else (((sg_sendAlong_12 U V xe 5 xe (U 2 xe))).2)))) V) := hD
          refine lv_aload_n hx hb dX3_sendAlong_197 rfl (lv_at hl 3 rfl) ?_
          refine va_get (D := D) (ci := 3) (v := .ref (pa 2)) (C := RX3) (T := TX3) (N := 7) hx hb hts in3 hown hK hP 0 rfl rfl 2 (by decide) (hts (.fieldLink RX3 15 "Granary$Plan" "lack" "[I") (by decide +kernel)) (fun _ h9 => h9) rfl dX3_sendAlong_198 ?_
          refine lv_iload_n hx hb dX3_sendAlong_201 rfl (lv_at hl 4 rfl) ?_
          refine lv_dup2_11 hx hb dX3_sendAlong_202 rfl rfl ?_
          refine sg_iald hx hb hK hP 2 0 rfl rfl (j := xe) rfl (by omega) (Nat.le_of_ble_eq_true rfl) dX3_sendAlong_203 ?_
          refine lv_toi (y := (((sg_sendAlong_94 U V xe 5 xe U)).2) 2 xe) rfl ?_
          refine lv_iload_n hx hb dX3_sendAlong_204 rfl (lv_at hl 1 rfl) ?_
          refine lv_isub hx hb dX3_sendAlong_205 ?_
          refine sg_iast hx hb hK hP hD hS 2 0 rfl rfl (j := xe) rfl (by omega) (Nat.le_of_ble_eq_true rfl) dX3_sendAlong_206 (fun H locs hP hD hS => ?_)
          replace hP : va_P D vwCl (sg_Pl cI cJ pa (sg_up (sg_up (((sg_sendAlong_94 U V xe 5 xe U)).2) 1 (((sg_sendAlong_12 U V xe 5 xe (U 2 xe))).1) (((((sg_sendAlong_94 U V xe 5 xe U)).2) 1 (((sg_sendAlong_12 U V xe 5 xe (U 2 xe))).1)) - (if (U 1 (((sg_sendAlong_12 U V xe 5 xe (U 2 xe))).1)) < (((sg_sendAlong_12 U V xe 5 xe (U 2 xe))).2) then (U 1 (((sg_sendAlong_12 U V xe 5 xe (U 2 xe))).1)) else (((sg_sendAlong_12 U V xe 5 xe (U 2 xe))).2)))) 2 xe (((((sg_sendAlong_94 U V xe 5 xe U)).2) 2 xe) - (if (U 1 (((sg_sendAlong_12 U V xe 5 xe (U 2 xe))).1)) < (((sg_sendAlong_12 U V xe 5 xe (U 2 xe))).2) then (U 1 (((sg_sendAlong_12 U V xe 5 xe (U 2 xe))).1)) else (((sg_sendAlong_12 U V xe 5 xe (U 2 xe))).2)))) V) H := hP
          replace hD : va_D A (sg_Pl cI cJ pa (sg_up (sg_up (((sg_sendAlong_94 U V xe 5 xe U)).2) 1 (((sg_sendAlong_12 U V xe 5 xe (U 2 xe))).1) (((((sg_sendAlong_94 U V xe 5 xe U)).2) 1 (((sg_sendAlong_12 U V xe 5 xe (U 2 xe))).1)) - (if (U 1 (((sg_sendAlong_12 U V xe 5 xe (U 2 xe))).1)) < (((sg_sendAlong_12 U V xe 5 xe (U 2 xe))).2) then (U 1 (((sg_sendAlong_12 U V xe 5 xe (U 2 xe))).1)) else (((sg_sendAlong_12 U V xe 5 xe (U 2 xe))).2)))) 2 xe (((((sg_sendAlong_94 U V xe 5 xe U)).2) 2 xe) - (if (U 1 (((sg_sendAlong_12 U V xe 5 xe (U 2 xe))).1)) < (((sg_sendAlong_12 U V xe 5 xe (U 2 xe))).2) then (U 1 (((sg_sendAlong_12 U V xe 5 xe (U 2 xe))).1)) else (((sg_sendAlong_12 U V xe 5 xe (U 2 xe))).2)))) V) := hD
          refine W.widen (k := 0) (n := 0) (by omega) (by omega) ?_
          have hP9 : va_P D vwCl (sg_Pl cI cJ pa (sg_sendAlong_U U V xe) V) H := by exact hP
          have hD9 : va_D A (sg_Pl cI cJ pa (sg_sendAlong_U U V xe) V) := by exact hD
          exact W.vret hx hb hr (fun t ht hW => ⟨⟨(), rfl, trivial, by rw [ht]; exact hP9, hD9⟩, hS.F ht⟩) hS.2.2 dX3_sendAlong_207
        · refine lv_iload hx hb dX3_sendAlong_111 (lv_at hl 1 rfl) ?_
          refine lv_aload_n hx hb dX3_sendAlong_113 rfl (lv_at hl 4 rfl) ?_
          refine va_get (D := D) (ci := 3) (v := .ref (pa 5)) (C := RX3) (T := TX3) (N := 7) hx hb hts in3 hown hK hP 0 rfl rfl 5 (by decide) (hts (.fieldLink RX3 25 "Granary$Plan" "ahead" "[I") (by decide +kernel)) (fun _ h9 => h9) rfl dX3_sendAlong_114 ?_
          refine lv_iload hx hb dX3_sendAlong_117 (lv_at hl 1 rfl) ?_
          refine sg_iald hx hb hK hP 5 0 rfl rfl (j := y94_4) rfl (by omega) (Nat.le_of_ble_eq_true rfl) dX3_sendAlong_119 ?_
          refine lv_toi (y := U94 5 y94_4) rfl ?_
          have h120 := hA94.n hnU hs94 c_14
          have l120 : Int32.toNatClampNeg (U94 5 y94_4) < sg_cn U 0 := h120.2
          refine lv_toi (y := nI (Int32.toNatClampNeg (U94 5 y94_4))) h120.1 ?_
          have hPc := hP.sub (ws' := []) [] rfl
          have hDc := hD.sub (ws' := []) [] (by decide) rfl
          refine vp_callSi (sg_dr (va_runSN (As := [.int (nI y94_4), .int (nI (Int32.toNatClampNeg (U94 5 y94_4)))]) (rest := []) ⟨hx, hb, hml, hown, hts⟩ (c_pair l D cI cZ cJ lo H.size y94_4 (Int32.toNatClampNeg (U94 5 y94_4))) ⟨va_cnB 2 hts gX3_sendAlong_X8_pair_n52 rfl rfl rfl (hC.nestX3_52) (hts (.initialized RX8) (by decide +kernel)) (by decide +kernel) ⟨(Nat.le_of_ble_eq_true rfl), (Nat.le_of_ble_eq_true rfl)⟩, (hts (.static yX8_pair) (by decide +kernel)), trivial⟩ ⟨Pre.blind, Pre.mk hPc (hDc.weaken (fun _ _ _ h => hAlo _ h)) hC hS hAlo⟩ rfl rfl hl.1 rfl (lv_room (Nat.le_of_ble_eq_true rfl)) dX3_sendAlong_120 ⟨(Nat.le_of_ble_eq_true rfl), (Nat.le_of_ble_eq_true rfl)⟩)) (fun r_15 e_16 => ?_)
          clear hPc hDc
          have e_16 : nI ((y94_4 * 5) + (Int32.toNatClampNeg (U94 5 y94_4))) = r_15 := Eq.symm e_16
          subst e_16
          refine lv_istore (lv' := [(6, .int (nI ((y94_4 * 5) + (Int32.toNatClampNeg (U94 5 y94_4))))), (5, .int (nI j94)), (4, .int (nI y94_4)), (2, .int (if (U 1 (((sg_sendAlong_12 U V xe 5 xe (U 2 xe))).1)) < (((sg_sendAlong_12 U V xe 5 xe (U 2 xe))).2) then (U 1 (((sg_sendAlong_12 U V xe 5 xe (U 2 xe))).1)) else (((sg_sendAlong_12 U V xe 5 xe (U 2 xe))).2))), (3, .int (nI (((sg_sendAlong_12 U V xe 5 xe (U 2 xe))).1))), (0, .ref (pa 0)), (1, .int (nI xe))]) hx hb dX3_sendAlong_123 hl (by decide) rfl (fun ls hl => ?_)
          refine lv_aload_n hx hb dX3_sendAlong_125 rfl (lv_at hl 5 rfl) ?_
          refine va_get (D := D) (ci := 3) (v := .ref (pa 3)) (C := RX3) (T := TX3) (N := 7) hx hb hts in3 hown hK hP 0 rfl rfl 3 (by decide) (hts (.fieldLink RX3 18 "Granary$Plan" "cost" "[J") (by decide +kernel)) (fun _ h9 => h9) rfl dX3_sendAlong_126 ?_
          refine lv_iload hx hb dX3_sendAlong_129 (lv_at hl 0 rfl) ?_
          refine sg_lald hx hb hK hP 3 2 rfl rfl (j := (y94_4 * 5) + (Int32.toNatClampNeg (U94 5 y94_4))) rfl (by omega) (Nat.le_of_ble_eq_true rfl) dX3_sendAlong_131 ?_
          refine lv_tol (y := V 3 ((y94_4 * 5) + (Int32.toNatClampNeg (U94 5 y94_4)))) rfl ?_
          refine lv_lconst (v := 0) hx hb dX3_sendAlong_132 (by decide) ?_
          refine W.lcmp hx hb dX3_sendAlong_133 ?_
          refine lv_toi (y := lg_cmp (V 3 ((y94_4 * 5) + (Int32.toNatClampNeg (U94 5 y94_4)))) 0) rfl ?_
          refine lv_if_eq (tgt := 151) hx hb dX3_sendAlong_134 (by decide) (fun c_17 => ?_) (fun c_17 => ?_)
          · refine lv_aload_n hx hb dX3_sendAlong_151 rfl (lv_at hl 5 rfl) ?_
            refine va_get (D := D) (ci := 3) (v := .ref (pa 6)) (C := RX3) (T := TX3) (N := 7) hx hb hts in3 hown hK hP 0 rfl rfl 6 (by decide) (hts (.fieldLink RX3 28 "Granary$Plan" "units" "[I") (by decide +kernel)) (fun _ h9 => h9) rfl dX3_sendAlong_152 ?_
            refine lv_aload_n hx hb dX3_sendAlong_155 rfl (lv_at hl 5 rfl) ?_
            refine va_get (D := D) (ci := 3) (v := .ref (pa 5)) (C := RX3) (T := TX3) (N := 7) hx hb hts in3 hown hK hP 0 rfl rfl 5 (by decide) (hts (.fieldLink RX3 25 "Granary$Plan" "ahead" "[I") (by decide +kernel)) (fun _ h9 => h9) rfl dX3_sendAlong_156 ?_
            refine lv_iload hx hb dX3_sendAlong_159 (lv_at hl 2 rfl) ?_
            refine sg_iald hx hb hK hP 5 0 rfl rfl (j := y94_4) rfl (by omega) (Nat.le_of_ble_eq_true rfl) dX3_sendAlong_161 ?_
            refine lv_toi (y := U94 5 y94_4) rfl ?_
            have h162 := hA94.n hnU hs94 c_14
            have l162 : Int32.toNatClampNeg (U94 5 y94_4) < sg_cn U 0 := h162.2
            refine lv_toi (y := nI (Int32.toNatClampNeg (U94 5 y94_4))) h162.1 ?_
            refine lv_iload hx hb dX3_sendAlong_162 (lv_at hl 2 rfl) ?_
            have hPc := hP.sub (ws' := []) [] rfl
            have hDc := hD.sub (ws' := []) [] (by decide) rfl
            refine vp_callSi (sg_dr (va_runSN (As := [.int (nI (Int32.toNatClampNeg (U94 5 y94_4))), .int (nI y94_4)]) (rest := [.ref (pa 6)]) ⟨hx, hb, hml, hown, hts⟩ (c_pair l D cI cZ cJ lo H.size (Int32.toNatClampNeg (U94 5 y94_4)) y94_4) ⟨va_cnB 2 hts gX3_sendAlong_X8_pair_n52 rfl rfl rfl (hC.nestX3_52) (hts (.initialized RX8) (by decide +kernel)) (by decide +kernel) ⟨(Nat.le_of_ble_eq_true rfl), (Nat.le_of_ble_eq_true rfl)⟩, (hts (.static yX8_pair) (by decide +kernel)), trivial⟩ ⟨Pre.blind, Pre.mk hPc (hDc.weaken (fun _ _ _ h => hAlo _ h)) hC hS hAlo⟩ rfl rfl hl.1 rfl (lv_room (Nat.le_of_ble_eq_true rfl)) dX3_sendAlong_164 ⟨(Nat.le_of_ble_eq_true rfl), (Nat.le_of_ble_eq_true rfl)⟩)) (fun r_18 e_19 => ?_)
            clear hPc hDc
            have e_19 : nI (((Int32.toNatClampNeg (U94 5 y94_4)) * 5) + y94_4) = r_18 := Eq.symm e_19
            subst e_19
            refine lv_dup2_11 hx hb dX3_sendAlong_167 rfl rfl ?_
            refine sg_iald hx hb hK hP 6 0 rfl rfl (j := ((Int32.toNatClampNeg (U94 5 y94_4)) * 5) + y94_4) rfl (by omega) (Nat.le_of_ble_eq_true rfl) dX3_sendAlong_168 ?_
            refine lv_toi (y := U94 6 (((Int32.toNatClampNeg (U94 5 y94_4)) * 5) + y94_4)) rfl ?_
            refine lv_iload_n hx hb dX3_sendAlong_169 rfl (lv_at hl 3 rfl) ?_
            refine lv_iadd hx hb dX3_sendAlong_170 ?_
            refine sg_iast hx hb hK hP hD hS 6 0 rfl rfl (j := ((Int32.toNatClampNeg (U94 5 y94_4)) * 5) + y94_4) rfl (by omega) (Nat.le_of_ble_eq_true rfl) dX3_sendAlong_171 (fun H locs hP hD hS => ?_)
            replace hP : va_P D vwCl (sg_Pl cI cJ pa (sg_up U94 6 (((Int32.toNatClampNeg (U94 5 y94_4)) * 5) + y94_4) ((U94 6 (((Int32.toNatClampNeg (U94 5 y94_4)) * 5) + y94_4)) + (if (U 1 (((sg_sendAlong_12 U V xe 5 xe (U 2 xe))).1)) < (((sg_sendAlong_12 U V xe 5 xe (U 2 xe))).2) then (U 1 (((sg_sendAlong_12 U V xe 5 xe (U 2 xe))).1)) else (((sg_sendAlong_12 U V xe 5 xe (U 2 xe))).2)))) V) H := hP
            replace hD : va_D A (sg_Pl cI cJ pa (sg_up U94 6 (((Int32.toNatClampNeg (U94 5 y94_4)) * 5) + y94_4) ((U94 6 (((Int32.toNatClampNeg (U94 5 y94_4)) * 5) + y94_4)) + (if (U 1 (((sg_sendAlong_12 U V xe 5 xe (U 2 xe))).1)) < (((sg_sendAlong_12 U V xe 5 xe (U 2 xe))).2) then (U 1 (((sg_sendAlong_12 U V xe 5 xe (U 2 xe))).1)) else (((sg_sendAlong_12 U V xe 5 xe (U 2 xe))).2)))) V) := hD
            refine lv_aload_n hx hb dX3_sendAlong_172 rfl (lv_at hl 5 rfl) ?_
            refine va_get (D := D) (ci := 3) (v := .ref (pa 5)) (C := RX3) (T := TX3) (N := 7) hx hb hts in3 hown hK hP 0 rfl rfl 5 (by decide) (hts (.fieldLink RX3 25 "Granary$Plan" "ahead" "[I") (by decide +kernel)) (fun _ h9 => h9) rfl dX3_sendAlong_173 ?_
            refine lv_iload hx hb dX3_sendAlong_176 (lv_at hl 2 rfl) ?_
            refine sg_iald hx hb hK hP 5 0 rfl rfl (j := y94_4) rfl (by omega) (Nat.le_of_ble_eq_true rfl) dX3_sendAlong_178 ?_
            refine lv_toi (y := U94 5 y94_4) rfl ?_
            have h179 := hA94.n hnU hs94 c_14
            have l179 : Int32.toNatClampNeg (U94 5 y94_4) < sg_cn U 0 := h179.2
            refine lv_toi (y := nI (Int32.toNatClampNeg (U94 5 y94_4))) h179.1 ?_
            refine lv_istore (lv' := [(4, .int (nI (Int32.toNatClampNeg (U94 5 y94_4)))), (6, .int (nI ((y94_4 * 5) + (Int32.toNatClampNeg (U94 5 y94_4))))), (5, .int (nI j94)), (2, .int (if (U 1 (((sg_sendAlong_12 U V xe 5 xe (U 2 xe))).1)) < (((sg_sendAlong_12 U V xe 5 xe (U 2 xe))).2) then (U 1 (((sg_sendAlong_12 U V xe 5 xe (U 2 xe))).1)) else (((sg_sendAlong_12 U V xe 5 xe (U 2 xe))).2))), (3, .int (nI (((sg_sendAlong_12 U V xe 5 xe (U 2 xe))).1))), (0, .ref (pa 0)), (1, .int (nI xe))]) hx hb dX3_sendAlong_179 hl (by decide) rfl (fun ls hl => ?_)
            refine lv_iinc (v := nI (j94 + 1)) (lv' := [(5, .int (nI (j94 + 1))), (4, .int (nI (Int32.toNatClampNeg (U94 5 y94_4)))), (6, .int (nI ((y94_4 * 5) + (Int32.toNatClampNeg (U94 5 y94_4))))), (2, .int (if (U 1 (((sg_sendAlong_12 U V xe 5 xe (U 2 xe))).1)) < (((sg_sendAlong_12 U V xe 5 xe (U 2 xe))).2) then (U 1 (((sg_sendAlong_12 U V xe 5 xe (U 2 xe))).1)) else (((sg_sendAlong_12 U V xe 5 xe (U 2 xe))).2))), (3, .int (nI (((sg_sendAlong_12 U V xe 5 xe (U 2 xe))).1))), (0, .ref (pa 0)), (1, .int (nI xe))]) hx hb dX3_sendAlong_181 hl (k := 2) rfl (nI_1 j94) (by decide) rfl (fun ls hl => ?_)
            refine lv_goto (tgt := 94) hx hb dX3_sendAlong_184 (by decide) ?_
            exact ih94 (j94 + 1) (Int32.toNatClampNeg (U94 5 y94_4)) (sg_up U94 6 (((Int32.toNatClampNeg (U94 5 y94_4)) * 5) + y94_4) ((U94 6 (((Int32.toNatClampNeg (U94 5 y94_4)) * 5) + y94_4)) + (if (U 1 (((sg_sendAlong_12 U V xe 5 xe (U 2 xe))).1)) < (((sg_sendAlong_12 U V xe 5 xe (U 2 xe))).2) then (U 1 (((sg_sendAlong_12 U V xe 5 xe (U 2 xe))).1)) else (((sg_sendAlong_12 U V xe 5 xe (U 2 xe))).2)))) _ _ _ hun94 l179 hA94 (by omega) (show sg_sendAlong_94 U V xe n94 (Int32.toNatClampNeg (U94 5 y94_4)) (sg_up U94 6 (((Int32.toNatClampNeg (U94 5 y94_4)) * 5) + y94_4) ((U94 6 (((Int32.toNatClampNeg (U94 5 y94_4)) * 5) + y94_4)) + (if (U 1 (((sg_sendAlong_12 U V xe 5 xe (U 2 xe))).1)) < (((sg_sendAlong_12 U V xe 5 xe (U 2 xe))).2) then (U 1 (((sg_sendAlong_12 U V xe 5 xe (U 2 xe))).1)) else (((sg_sendAlong_12 U V xe 5 xe (U 2 xe))).2)))) = T94 from by rw [← hF94, sg_sendAlong_94, if_neg c_14, if_pos c_17]) (lv_sub hl [0, 1, 3, 4, 5, 6] rfl) hS hD hP
          · refine lv_aload_n hx hb dX3_sendAlong_137 rfl (lv_at hl 5 rfl) ?_
            refine va_get (D := D) (ci := 3) (v := .ref (pa 6)) (C := RX3) (T := TX3) (N := 7) hx hb hts in3 hown hK hP 0 rfl rfl 6 (by decide) (hts (.fieldLink RX3 28 "Granary$Plan" "units" "[I") (by decide +kernel)) (fun _ h9 => h9) rfl dX3_sendAlong_138 ?_
            refine lv_iload hx hb dX3_sendAlong_141 (lv_at hl 0 rfl) ?_
            refine lv_dup2_11 hx hb dX3_sendAlong_143 rfl rfl ?_
            refine sg_iald hx hb hK hP 6 0 rfl rfl (j := (y94_4 * 5) + (Int32.toNatClampNeg (U94 5 y94_4))) rfl (by omega) (Nat.le_of_ble_eq_true rfl) dX3_sendAlong_144 ?_
            refine lv_toi (y := U94 6 ((y94_4 * 5) + (Int32.toNatClampNeg (U94 5 y94_4)))) rfl ?_
            refine lv_iload_n hx hb dX3_sendAlong_145 rfl (lv_at hl 3 rfl) ?_
            refine lv_isub hx hb dX3_sendAlong_146 ?_
            refine sg_iast hx hb hK hP hD hS 6 0 rfl rfl (j := (y94_4 * 5) + (Int32.toNatClampNeg (U94 5 y94_4))) rfl (by omega) (Nat.le_of_ble_eq_true rfl) dX3_sendAlong_147 (fun H locs hP hD hS => ?_)
            replace hP : va_P D vwCl (sg_Pl cI cJ pa (sg_up U94 6 ((y94_4 * 5) + (Int32.toNatClampNeg (U94 5 y94_4))) ((U94 6 ((y94_4 * 5) + (Int32.toNatClampNeg (U94 5 y94_4)))) - (if (U 1 (((sg_sendAlong_12 U V xe 5 xe (U 2 xe))).1)) < (((sg_sendAlong_12 U V xe 5 xe (U 2 xe))).2) then (U 1 (((sg_sendAlong_12 U V xe 5 xe (U 2 xe))).1)) else (((sg_sendAlong_12 U V xe 5 xe (U 2 xe))).2)))) V) H := hP
            replace hD : va_D A (sg_Pl cI cJ pa (sg_up U94 6 ((y94_4 * 5) + (Int32.toNatClampNeg (U94 5 y94_4))) ((U94 6 ((y94_4 * 5) + (Int32.toNatClampNeg (U94 5 y94_4)))) - (if (U 1 (((sg_sendAlong_12 U V xe 5 xe (U 2 xe))).1)) < (((sg_sendAlong_12 U V xe 5 xe (U 2 xe))).2) then (U 1 (((sg_sendAlong_12 U V xe 5 xe (U 2 xe))).1)) else (((sg_sendAlong_12 U V xe 5 xe (U 2 xe))).2)))) V) := hD
            refine lv_goto (tgt := 172) hx hb dX3_sendAlong_148 (by decide) ?_
            refine lv_aload_n hx hb dX3_sendAlong_172 rfl (lv_at hl 5 rfl) ?_
            refine va_get (D := D) (ci := 3) (v := .ref (pa 5)) (C := RX3) (T := TX3) (N := 7) hx hb hts in3 hown hK hP 0 rfl rfl 5 (by decide) (hts (.fieldLink RX3 25 "Granary$Plan" "ahead" "[I") (by decide +kernel)) (fun _ h9 => h9) rfl dX3_sendAlong_173 ?_
            refine lv_iload hx hb dX3_sendAlong_176 (lv_at hl 2 rfl) ?_
            refine sg_iald hx hb hK hP 5 0 rfl rfl (j := y94_4) rfl (by omega) (Nat.le_of_ble_eq_true rfl) dX3_sendAlong_178 ?_
            refine lv_toi (y := U94 5 y94_4) rfl ?_
            have h179 := hA94.n hnU hs94 c_14
            have l179 : Int32.toNatClampNeg (U94 5 y94_4) < sg_cn U 0 := h179.2
            refine lv_toi (y := nI (Int32.toNatClampNeg (U94 5 y94_4))) h179.1 ?_
            refine lv_istore (lv' := [(4, .int (nI (Int32.toNatClampNeg (U94 5 y94_4)))), (6, .int (nI ((y94_4 * 5) + (Int32.toNatClampNeg (U94 5 y94_4))))), (5, .int (nI j94)), (2, .int (if (U 1 (((sg_sendAlong_12 U V xe 5 xe (U 2 xe))).1)) < (((sg_sendAlong_12 U V xe 5 xe (U 2 xe))).2) then (U 1 (((sg_sendAlong_12 U V xe 5 xe (U 2 xe))).1)) else (((sg_sendAlong_12 U V xe 5 xe (U 2 xe))).2))), (3, .int (nI (((sg_sendAlong_12 U V xe 5 xe (U 2 xe))).1))), (0, .ref (pa 0)), (1, .int (nI xe))]) hx hb dX3_sendAlong_179 hl (by decide) rfl (fun ls hl => ?_)
            refine lv_iinc (v := nI (j94 + 1)) (lv' := [(5, .int (nI (j94 + 1))), (4, .int (nI (Int32.toNatClampNeg (U94 5 y94_4)))), (6, .int (nI ((y94_4 * 5) + (Int32.toNatClampNeg (U94 5 y94_4))))), (2, .int (if (U 1 (((sg_sendAlong_12 U V xe 5 xe (U 2 xe))).1)) < (((sg_sendAlong_12 U V xe 5 xe (U 2 xe))).2) then (U 1 (((sg_sendAlong_12 U V xe 5 xe (U 2 xe))).1)) else (((sg_sendAlong_12 U V xe 5 xe (U 2 xe))).2))), (3, .int (nI (((sg_sendAlong_12 U V xe 5 xe (U 2 xe))).1))), (0, .ref (pa 0)), (1, .int (nI xe))]) hx hb dX3_sendAlong_181 hl (k := 2) rfl (nI_1 j94) (by decide) rfl (fun ls hl => ?_)
            refine lv_goto (tgt := 94) hx hb dX3_sendAlong_184 (by decide) ?_
            exact ih94 (j94 + 1) (Int32.toNatClampNeg (U94 5 y94_4)) (sg_up U94 6 ((y94_4 * 5) + (Int32.toNatClampNeg (U94 5 y94_4))) ((U94 6 ((y94_4 * 5) + (Int32.toNatClampNeg (U94 5 y94_4)))) - (if (U 1 (((sg_sendAlong_12 U V xe 5 xe (U 2 xe))).1)) < (((sg_sendAlong_12 U V xe 5 xe (U 2 xe))).2) then (U 1 (((sg_sendAlong_12 U V xe 5 xe (U 2 xe))).1)) else (((sg_sendAlong_12 U V xe 5 xe (U 2 xe))).2)))) _ _ _ hun94 l179 hA94 (by omega) (show sg_sendAlong_94 U V xe n94 (Int32.toNatClampNeg (U94 5 y94_4)) (sg_up U94 6 ((y94_4 * 5) + (Int32.toNatClampNeg (U94 5 y94_4))) ((U94 6 ((y94_4 * 5) + (Int32.toNatClampNeg (U94 5 y94_4)))) - (if (U 1 (((sg_sendAlong_12 U V xe 5 xe (U 2 xe))).1)) < (((sg_sendAlong_12 U V xe 5 xe (U 2 xe))).2) then (U 1 (((sg_sendAlong_12 U V xe 5 xe (U 2 xe))).1)) else (((sg_sendAlong_12 U V xe 5 xe (U 2 xe))).2)))) = T94 from by rw [← hF94, sg_sendAlong_94, if_neg c_14, if_neg c_17]) (lv_sub hl [0, 1, 3, 4, 5, 6] rfl) hS hD hP
    · refine lv_iload_n hx hb dX3_sendAlong_28 rfl (lv_at hl 1 rfl) ?_
      refine lv_aload_n hx hb dX3_sendAlong_29 rfl (lv_at hl 3 rfl) ?_
      refine va_get (D := D) (ci := 3) (v := .ref (pa 5)) (C := RX3) (T := TX3) (N := 7) hx hb hts in3 hown hK hP 0 rfl rfl 5 (by decide) (hts (.fieldLink RX3 25 "Granary$Plan" "ahead" "[I") (by decide +kernel)) (fun _ h9 => h9) rfl dX3_sendAlong_30 ?_
      refine lv_iload_n hx hb dX3_sendAlong_33 rfl (lv_at hl 1 rfl) ?_
      refine sg_iald hx hb hK hP 5 0 rfl rfl (j := y12_3) rfl (by omega) (Nat.le_of_ble_eq_true rfl) dX3_sendAlong_34 ?_
      refine lv_toi (y := U 5 y12_3) rfl ?_
      have h35 := huA.n hnU hs12 c_11
      have l35 : Int32.toNatClampNeg (U 5 y12_3) < sg_cn U 0 := h35.2
      refine lv_toi (y := nI (Int32.toNatClampNeg (U 5 y12_3))) h35.1 ?_
      have hPc := hP.sub (ws' := []) [] rfl
      have hDc := hD.sub (ws' := []) [] (by decide) rfl
      refine vp_callSi (sg_dr (va_runSN (As := [.int (nI y12_3), .int (nI (Int32.toNatClampNeg (U 5 y12_3)))]) (rest := []) ⟨hx, hb, hml, hown, hts⟩ (c_pair l D cI cZ cJ lo H.size y12_3 (Int32.toNatClampNeg (U 5 y12_3))) ⟨va_cnB 2 hts gX3_sendAlong_X8_pair_n52 rfl rfl rfl (hC.nestX3_52) (hts (.initialized RX8) (by decide +kernel)) (by decide +kernel) ⟨(Nat.le_of_ble_eq_true rfl), (Nat.le_of_ble_eq_true rfl)⟩, (hts (.static yX8_pair) (by decide +kernel)), trivial⟩ ⟨Pre.blind, Pre.mk hPc (hDc.weaken (fun _ _ _ h => hAlo _ h)) hC hS hAlo⟩ rfl rfl hl.1 rfl (lv_room (Nat.le_of_ble_eq_true rfl)) dX3_sendAlong_35 ⟨(Nat.le_of_ble_eq_true rfl), (Nat.le_of_ble_eq_true rfl)⟩)) (fun r_20 e_21 => ?_)
      clear hPc hDc
      have e_21 : nI ((y12_3 * 5) + (Int32.toNatClampNeg (U 5 y12_3))) = r_20 := Eq.symm e_21
      subst e_21
      refine lv_istore (lv' := [(5, .int (nI ((y12_3 * 5) + (Int32.toNatClampNeg (U 5 y12_3))))), (4, .int (nI j12)), (3, .int (nI y12_3)), (2, .int x12_2), (0, .ref (pa 0)), (1, .int (nI xe))]) hx hb dX3_sendAlong_38 hl (by decide) rfl (fun ls hl => ?_)
      refine lv_aload_n hx hb dX3_sendAlong_40 rfl (lv_at hl 4 rfl) ?_
      refine va_get (D := D) (ci := 3) (v := .ref (pa 3)) (C := RX3) (T := TX3) (N := 7) hx hb hts in3 hown hK hP 0 rfl rfl 3 (by decide) (hts (.fieldLink RX3 18 "Granary$Plan" "cost" "[J") (by decide +kernel)) (fun _ h9 => h9) rfl dX3_sendAlong_41 ?_
      refine lv_iload hx hb dX3_sendAlong_44 (lv_at hl 0 rfl) ?_
      refine sg_lald hx hb hK hP 3 2 rfl rfl (j := (y12_3 * 5) + (Int32.toNatClampNeg (U 5 y12_3))) rfl (by omega) (Nat.le_of_ble_eq_true rfl) dX3_sendAlong_46 ?_
      refine lv_tol (y := V 3 ((y12_3 * 5) + (Int32.toNatClampNeg (U 5 y12_3)))) rfl ?_
      refine lv_lconst (v := 0) hx hb dX3_sendAlong_47 (by decide) ?_
      refine W.lcmp hx hb dX3_sendAlong_48 ?_
      refine lv_toi (y := lg_cmp (V 3 ((y12_3 * 5) + (Int32.toNatClampNeg (U 5 y12_3)))) 0) rfl ?_
      refine lv_if_eq (tgt := 64) hx hb dX3_sendAlong_49 (by decide) (fun c_22 => ?_) (fun c_22 => ?_)
      · refine lv_aload_n hx hb dX3_sendAlong_64 rfl (lv_at hl 4 rfl) ?_
        refine va_get (D := D) (ci := 3) (v := .ref (pa 5)) (C := RX3) (T := TX3) (N := 7) hx hb hts in3 hown hK hP 0 rfl rfl 5 (by decide) (hts (.fieldLink RX3 25 "Granary$Plan" "ahead" "[I") (by decide +kernel)) (fun _ h9 => h9) rfl dX3_sendAlong_65 ?_
        refine lv_iload_n hx hb dX3_sendAlong_68 rfl (lv_at hl 2 rfl) ?_
        refine sg_iald hx hb hK hP 5 0 rfl rfl (j := y12_3) rfl (by omega) (Nat.le_of_ble_eq_true rfl) dX3_sendAlong_69 ?_
        refine lv_toi (y := U 5 y12_3) rfl ?_
        have h70 := huA.n hnU hs12 c_11
        have l70 : Int32.toNatClampNeg (U 5 y12_3) < sg_cn U 0 := h70.2
        refine lv_toi (y := nI (Int32.toNatClampNeg (U 5 y12_3))) h70.1 ?_
        refine lv_istore_n (lv' := [(3, .int (nI (Int32.toNatClampNeg (U 5 y12_3)))), (5, .int (nI ((y12_3 * 5) + (Int32.toNatClampNeg (U 5 y12_3))))), (4, .int (nI j12)), (2, .int x12_2), (0, .ref (pa 0)), (1, .int (nI xe))]) hx hb dX3_sendAlong_70 rfl hl (by decide) rfl (fun ls hl => ?_)
        refine lv_iinc (v := nI (j12 + 1)) (lv' := [(4, .int (nI (j12 + 1))), (3, .int (nI (Int32.toNatClampNeg (U 5 y12_3)))), (5, .int (nI ((y12_3 * 5) + (Int32.toNatClampNeg (U 5 y12_3))))), (2, .int x12_2), (0, .ref (pa 0)), (1, .int (nI xe))]) hx hb dX3_sendAlong_71 hl (k := 2) rfl (nI_1 j12) (by decide) rfl (fun ls hl => ?_)
        refine lv_goto (tgt := 12) hx hb dX3_sendAlong_74 (by decide) ?_
        exact ih12 (j12 + 1) (Int32.toNatClampNeg (U 5 y12_3)) x12_2 _ _ _ l70 (by omega) (show sg_sendAlong_12 U V xe n12 (Int32.toNatClampNeg (U 5 y12_3)) x12_2 = T12 from by rw [← hF12, sg_sendAlong_12, if_neg c_11, if_pos c_22]) (lv_sub hl [0, 1, 3, 4, 5] rfl) hS hD hP
      · refine lv_iload_n hx hb dX3_sendAlong_52 rfl (lv_at hl 3 rfl) ?_
        refine lv_aload_n hx hb dX3_sendAlong_53 rfl (lv_at hl 4 rfl) ?_
        refine va_get (D := D) (ci := 3) (v := .ref (pa 6)) (C := RX3) (T := TX3) (N := 7) hx hb hts in3 hown hK hP 0 rfl rfl 6 (by decide) (hts (.fieldLink RX3 28 "Granary$Plan" "units" "[I") (by decide +kernel)) (fun _ h9 => h9) rfl dX3_sendAlong_54 ?_
        refine lv_iload hx hb dX3_sendAlong_57 (lv_at hl 0 rfl) ?_
        refine sg_iald hx hb hK hP 6 0 rfl rfl (j := (y12_3 * 5) + (Int32.toNatClampNeg (U 5 y12_3))) rfl (by omega) (Nat.le_of_ble_eq_true rfl) dX3_sendAlong_59 ?_
        refine lv_toi (y := U 6 ((y12_3 * 5) + (Int32.toNatClampNeg (U 5 y12_3)))) rfl ?_
        refine va_mmin hx hb (hml.trans hl.1.symm) hown (hts (.methodLink RX3 80 Lib.Math.min.name) (by decide +kernel)) (hts (.static Lib.Math.min.name) (by decide +kernel)) (hts (.initialized "java/lang/Math") (by decide +kernel)) (hts (.code Lib.Math.min.name Lib.Math.min.code 2 (some .int)) (by decide +kernel)) (Nat.le_of_ble_eq_true rfl) (Nat.le_of_ble_eq_true rfl) (Nat.le_of_ble_eq_true rfl) (Nat.le_of_ble_eq_true rfl) dX3_sendAlong_60 ?_
        refine lv_istore_n (lv' := [(2, .int (if (U 6 ((y12_3 * 5) + (Int32.toNatClampNeg (U 5 y12_3)))) < x12_2 then (U 6 ((y12_3 * 5) + (Int32.toNatClampNeg (U 5 y12_3)))) else x12_2)), (5, .int (nI ((y12_3 * 5) + (Int32.toNatClampNeg (U 5 y12_3))))), (4, .int (nI j12)), (3, .int (nI y12_3)), (0, .ref (pa 0)), (1, .int (nI xe))]) hx hb dX3_sendAlong_63 rfl hl (by decide) rfl (fun ls hl => ?_)
        refine lv_aload_n hx hb dX3_sendAlong_64 rfl (lv_at hl 4 rfl) ?_
        refine va_get (D := D) (ci := 3) (v := .ref (pa 5)) (C := RX3) (T := TX3) (N := 7) hx hb hts in3 hown hK hP 0 rfl rfl 5 (by decide) (hts (.fieldLink RX3 25 "Granary$Plan" "ahead" "[I") (by decide +kernel)) (fun _ h9 => h9) rfl dX3_sendAlong_65 ?_
        refine lv_iload_n hx hb dX3_sendAlong_68 rfl (lv_at hl 3 rfl) ?_
        refine sg_iald hx hb hK hP 5 0 rfl rfl (j := y12_3) rfl (by omega) (Nat.le_of_ble_eq_true rfl) dX3_sendAlong_69 ?_
        refine lv_toi (y := U 5 y12_3) rfl ?_
        have h70 := huA.n hnU hs12 c_11
        have l70 : Int32.toNatClampNeg (U 5 y12_3) < sg_cn U 0 := h70.2
        refine lv_toi (y := nI (Int32.toNatClampNeg (U 5 y12_3))) h70.1 ?_
        refine lv_istore_n (lv' := [(3, .int (nI (Int32.toNatClampNeg (U 5 y12_3)))), (2, .int (if (U 6 ((y12_3 * 5) + (Int32.toNatClampNeg (U 5 y12_3)))) < x12_2 then (U 6 ((y12_3 * 5) + (Int32.toNatClampNeg (U 5 y12_3)))) else x12_2)), (5, .int (nI ((y12_3 * 5) + (Int32.toNatClampNeg (U 5 y12_3))))), (4, .int (nI j12)), (0, .ref (pa 0)), (1, .int (nI xe))]) hx hb dX3_sendAlong_70 rfl hl (by decide) rfl (fun ls hl => ?_)
        refine lv_iinc (v := nI (j12 + 1)) (lv' := [(4, .int (nI (j12 + 1))), (3, .int (nI (Int32.toNatClampNeg (U 5 y12_3)))), (2, .int (if (U 6 ((y12_3 * 5) + (Int32.toNatClampNeg (U 5 y12_3)))) < x12_2 then (U 6 ((y12_3 * 5) + (Int32.toNatClampNeg (U 5 y12_3)))) else x12_2)), (5, .int (nI ((y12_3 * 5) + (Int32.toNatClampNeg (U 5 y12_3))))), (0, .ref (pa 0)), (1, .int (nI xe))]) hx hb dX3_sendAlong_71 hl (k := 3) rfl (nI_1 j12) (by decide) rfl (fun ls hl => ?_)
        refine lv_goto (tgt := 12) hx hb dX3_sendAlong_74 (by decide) ?_
        exact ih12 (j12 + 1) (Int32.toNatClampNeg (U 5 y12_3)) (if (U 6 ((y12_3 * 5) + (Int32.toNatClampNeg (U 5 y12_3)))) < x12_2 then (U 6 ((y12_3 * 5) + (Int32.toNatClampNeg (U 5 y12_3)))) else x12_2) _ _ _ l70 (by omega) (show sg_sendAlong_12 U V xe n12 (Int32.toNatClampNeg (U 5 y12_3)) (if (U 6 ((y12_3 * 5) + (Int32.toNatClampNeg (U 5 y12_3)))) < x12_2 then (U 6 ((y12_3 * 5) + (Int32.toNatClampNeg (U 5 y12_3)))) else x12_2) = T12 from by rw [← hF12, sg_sendAlong_12, if_neg c_11, if_neg c_22]) (lv_sub hl [0, 1, 2, 4, 5] rfl) hS hD hP
