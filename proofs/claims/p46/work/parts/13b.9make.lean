def sg_fst {α β : Type} (p : α × β) : α := p.1
def sg_snd {α β : Type} (p : α × β) : β := p.2
theorem sg_p1n {α β : Type} {x : α} {y : β} : sg_fst (x, y) = x := rfl
theorem sg_p2n {α β : Type} {x : α} {y : β} : sg_snd (x, y) = y := rfl
theorem sg_p1 {α β : Type} {x : α} {y : β} : (x, y).1 = x := rfl
theorem sg_p2 {α β : Type} {x : α} {y : β} : (x, y).2 = y := rfl
theorem sg_p21 {α β γ : Type} {x : α} {y : β} {z : γ} : (x, y, z).2.1 = y := rfl
theorem sg_p22 {α β γ : Type} {x : α} {y : β} {z : γ} : (x, y, z).2.2 = z := rfl
/-- the most rounds -/
def sg_M : Nat := 1000000
theorem sg_M_l : sg_M < 2147483648 := by decide
theorem sg_M_b : (1000000 : Int32) = nI sg_M := by decide +kernel

def sg_make_13 (U : sg_Pic) (V : sg_PiL) (P : sg_Pic) (xi : Nat) : Nat → sg_Pic
  | 0 => sg_up U 0 0 (P 0 2)
  | j13 + 1 => (sg_up (sg_up (sg_make_13 U V P xi j13) 1 j13 (sg_spareAt P xi j13)) 2 j13 (sg_lackAt P xi j13))
theorem sg_make_13_KU (U : sg_Pic) (V : sg_PiL) (P : sg_Pic) (xi : Nat) : ∀ j : Nat, sg_KU (sg_make_13 U V P xi j) (sg_up U 0 0 (P 0 2))
  | 0 => by exact rfl
  | j + 1 => by
    have h := sg_make_13_KU U V P xi j
    rw [sg_make_13]
    repeat' split
    all_goals first | exact h

def sg_make_64 (U : sg_Pic) (V : sg_PiL) (P : sg_Pic) (xi : Nat) (j53 : Nat) (U53 : sg_Pic) (V53 : sg_PiL) : Nat → sg_Pic × sg_PiL
  | 0 => (U53, V53)
  | j64 + 1 => (if (((sg_make_64 U V P xi j53 U53 V53 j64).1) 1 j53) ≤ 0 then (sg_up ((sg_make_64 U V P xi j53 U53 V53 j64).1) 6 ((j53 * 5) + j64) 0, sg_ul ((sg_make_64 U V P xi j53 U53 V53 j64).2) 3 ((j53 * 5) + j64) 0) else (if (((sg_make_64 U V P xi j53 U53 V53 j64).1) 2 j64) ≤ 0 then (sg_up ((sg_make_64 U V P xi j53 U53 V53 j64).1) 6 ((j53 * 5) + j64) 0, sg_ul ((sg_make_64 U V P xi j53 U53 V53 j64).2) 3 ((j53 * 5) + j64) 0) else (sg_up ((sg_make_64 U V P xi j53 U53 V53 j64).1) 6 ((j53 * 5) + j64) 0, sg_ul ((sg_make_64 U V P xi j53 U53 V53 j64).2) 3 ((j53 * 5) + j64) (sg_costOf ((j53 * 5) + j64) (P 21 ((j53 * 5) + j64))))))
theorem sg_make_64_KU (U : sg_Pic) (V : sg_PiL) (P : sg_Pic) (xi : Nat) (j53 : Nat) (U53 : sg_Pic) (V53 : sg_PiL) : ∀ j : Nat, sg_KU ((sg_make_64 U V P xi j53 U53 V53 j).1) U53
  | 0 => by exact rfl
  | j + 1 => by
    have h := sg_make_64_KU U V P xi j53 U53 V53 j
    rw [sg_make_64]
    repeat' split
    all_goals first | exact h

def sg_make_53 (U : sg_Pic) (V : sg_PiL) (P : sg_Pic) (xi : Nat) : Nat → sg_Pic × sg_PiL
  | 0 => (sg_make_13 U V P xi (sg_cn P 2), V)
  | j53 + 1 => ((sg_make_64 U V P xi j53 ((sg_make_53 U V P xi j53).1) ((sg_make_53 U V P xi j53).2) (sg_cn P 2)).1, (sg_make_64 U V P xi j53 ((sg_make_53 U V P xi j53).1) ((sg_make_53 U V P xi j53).2) (sg_cn P 2)).2)
theorem sg_make_53_KU (U : sg_Pic) (V : sg_PiL) (P : sg_Pic) (xi : Nat) : ∀ j : Nat, sg_KU ((sg_make_53 U V P xi j).1) (sg_make_13 U V P xi (sg_cn P 2))
  | 0 => by exact rfl
  | j + 1 => by
    have h := sg_make_53_KU U V P xi j
    rw [sg_make_53]
    repeat' split
    all_goals first | exact h | (refine Eq.trans ?_ h; exact sg_make_64_KU _ _ _ _ _ _ _ _)

def sg_make_148 (U : sg_Pic) (V : sg_PiL) (P : sg_Pic) (xi : Nat) : Nat → sg_Pic → sg_PiL → sg_Pic × sg_PiL
  | 0, U148, V148 => (U148, V148)
  | n148 + 1, U148, V148 => (if (sg_cheapestEnd (sg_findWays_U U148 V148) (sg_findWays_V U148 V148)) = (-1) then (sg_findWays_U U148 V148, sg_findWays_V U148 V148) else (sg_make_148 U V P xi n148 (sg_sendAlong_U (sg_findWays_U U148 V148) (sg_findWays_V U148 V148) (Int32.toNatClampNeg (sg_cheapestEnd (sg_findWays_U U148 V148) (sg_findWays_V U148 V148)))) (sg_findWays_V U148 V148)))
theorem sg_make_148_KU (U : sg_Pic) (V : sg_PiL) (P : sg_Pic) (xi : Nat) : ∀ (n : Nat) (U148 : sg_Pic) (V148 : sg_PiL), sg_KU (sg_fst (sg_make_148 U V P xi n U148 V148)) U148
  | 0, U148, V148 => by
    rw [sg_make_148]
    exact rfl
  | n + 1, U148, V148 => by
    rw [sg_make_148]
    repeat' split
    all_goals first | exact rfl | exact sg_findWays_KU _ _ | exact Eq.trans (sg_make_148_KU U V P xi n _ _) (by first | exact rfl | exact Eq.trans (sg_sendAlong_KU _ _ _) (sg_findWays_KU _ _))

def sg_make_U (U : sg_Pic) (V : sg_PiL) (P : sg_Pic) (xi : Nat) : sg_Pic := (sg_fst ((sg_make_148 U V P xi sg_M ((sg_make_53 U V P xi (sg_cn P 2)).1) ((sg_make_53 U V P xi (sg_cn P 2)).2))))

def sg_make_V (U : sg_Pic) (V : sg_PiL) (P : sg_Pic) (xi : Nat) : sg_PiL := (sg_snd ((sg_make_148 U V P xi sg_M ((sg_make_53 U V P xi (sg_cn P 2)).1) ((sg_make_53 U V P xi (sg_cn P 2)).2))))

set_option maxHeartbeats 4000000 in
set_option maxRecDepth 100000 in
/-- X3_make -/
theorem c_make (l : Launch) (D : va_G) (cI cZ cJ : ClassId) (lo sz : Nat) (pa : Nat → Nat) (U : sg_Pic) (V : sg_PiL) (a : Nat → Nat) (P : sg_Pic) (q : Nat → Int32) (xi : Nat) (hw : sg_W P) (hi : xi < 6) : Met l yX3_make wsX3_make ({ frames := 4, cells := 0, slots := 0, locals := 92 }) (Pre lo D cI cZ cJ [.ref (pa 0), .ref (a 0), .int (nI xi)] sz (sg_St cI cZ a P q ++ sg_Pl cI cJ pa U V)) (va_Qv (fun _ : Unit => True) (fun _ t => va_P D vwCl (sg_St cI cZ a P q ++ sg_Pl cI cJ pa (sg_make_U U V P xi) (sg_make_V U V P xi)) t.heap ∧ va_D (va_A (sg_St cI cZ a P q ++ sg_Pl cI cJ pa U V) sz) (sg_St cI cZ a P q ++ sg_Pl cI cJ pa (sg_make_U U V P xi) (sg_make_V U V P xi))) (va_A (sg_St cI cZ a P q ++ sg_Pl cI cJ pa U V) sz)) 0 0 (va_A (sg_St cI cZ a P q ++ sg_Pl cI cJ pa U V) sz) := by
  refine Met.ofW (cc := cX3_make) (maxL := 6) (ret := none) (by decide) rfl ?_
  intro p e s m args below meth c s₁ B hml hv
  obtain ⟨rfl, hsz, hP, hD0, hC⟩ := hv
  have hx := B.exec
  have hb := B.bytes
  have hr := B.returns
  have hts := atoms_spec (ws := wsX3_make) B.pre
  have hown : s.vm.findClass RX3 = some m.cls := findClass_of_methodNamed B.named
  have hlocks := B.notSynchronized
  subst hsz
  have hn1 : sg_cn P 1 ≤ 6 := hw.n1
  have hn2 : sg_cn P 2 ≤ 5 := hw.n2
  have hn3 : sg_cn P 3 ≤ 200 := hw.n3
  have hn4 : sg_cn P 4 ≤ 60 := hw.n4
  have hn5 : sg_cn P 5 ≤ 90 := hw.n5
  have hK := hC.K
  have hD := hD0.self (sz := s.heap.size)
  have hAlo0 := va_A_lo hD0 hC.1
  generalize hAe : va_A (sg_St cI cZ a P q ++ sg_Pl cI cJ pa U V) s.heap.size = A at hD hAlo0 ⊢
  have hA : ∀ q : Nat, s.heap.size ≤ q → A q := fun q h => by rw [← hAe]; exact Or.inr h
  have hAlo : ∀ q, A q → lo ≤ q := hAlo0
  have hS : va_S A s.heap s.heap [] := va_S.rf
  have hP : va_P D vwCl (sg_St cI cZ a P q ++ sg_Pl cI cJ pa U V) s.heap := hP
  have hl := lv_entry ([.ref (pa 0), .ref (a 0), .int (nI xi)]) (n := 6) (Nat.le_of_ble_eq_true rfl)
  rw [lg_entry_eq]
  generalize (lg_sl ([.ref (pa 0), .ref (a 0), .int (nI xi)]) ++ List.replicate (6 - (lg_sl ([.ref (pa 0), .ref (a 0), .int (nI xi)])).length) Slot.unset).toArray = ls at hl ⊢
  have hl : lv_has ls 6 [(0, .ref (pa 0)), (1, .ref (a 0)), (2, .int (nI xi))] := hl
  have in3 : ∀ w ∈ u_ws RX3 TX3 7, w ∈ wsX3_make := by decide +kernel
  have in5 : ∀ w ∈ u_ws RX5 TX5 3, w ∈ wsX3_make := by decide +kernel
  have in6 : ∀ w ∈ u_ws RX6 TX6 9, w ∈ wsX3_make := by decide +kernel
  refine lv_aload_n hx hb dX3_make_0 rfl (lv_at hl 0 rfl) ?_
  refine lv_aload_n hx hb dX3_make_1 rfl (lv_at hl 1 rfl) ?_
  refine va_get (D := D) (ci := 6) (v := .ref (a 2)) (C := RX6) (T := TX6) (N := 9) hx hb hts in6 hown hK hP 0 rfl rfl 2 (by decide) (hts (.fieldLink RX3 31 "Granary$Stock" "sites" "LGranary$Sites;") (by decide +kernel)) (fun _ h9 => h9) rfl dX3_make_2 ?_
  refine va_get (D := D) (ci := 5) (v := .int (P 0 2)) (C := RX5) (T := TX5) (N := 3) hx hb hts in5 hown hK hP 2 rfl rfl 0 (by decide) (hts (.fieldLink RX3 37 "Granary$Sites" "count" "I") (by decide +kernel)) (fun _ h9 => h9) rfl dX3_make_5 ?_
  refine va_put (D := D) (ci := 3) (v := .int (P 0 2)) (ty := .int) (C := RX3) (T := TX3) (N := 7) hx hb hts in3 tyX3 tyX3_ok nmX3 hown hK hP hD hS 41 rfl rfl 0 (by decide) (hts (.fieldLink RX3 43 "Granary$Plan" "sites" "I") (by decide +kernel)) (fun _ h9 => h9) rfl (by decide +kernel) rfl rfl (Nat.le_of_ble_eq_true rfl) dX3_make_8 (fun H locs hP hD hS => ?_)
  replace hP : va_P D vwCl (sg_St cI cZ a P q ++ sg_Pl cI cJ pa (sg_up U 0 0 (P 0 2)) V) H := hP
  replace hD : va_D A (sg_St cI cZ a P q ++ sg_Pl cI cJ pa (sg_up U 0 0 (P 0 2)) V) := hD
  refine lv_iconst (v := 0) hx hb dX3_make_11 (by decide) ?_
  refine lv_istore_n (lv' := [(3, .int 0), (0, .ref (pa 0)), (1, .ref (a 0)), (2, .int (nI xi))]) hx hb dX3_make_12 rfl hl (by decide) rfl (fun ls hl => ?_)
  obtain ⟨j13, h0j13⟩ : ∃ j : Nat, j = 0 := ⟨_, rfl⟩
  obtain ⟨U13, hU13⟩ : ∃ z9 : sg_Pic, z9 = sg_make_13 U V P xi j13 := ⟨_, rfl⟩
  replace hl : lv_has ls 6 [(3, .int (nI j13)), (0, .ref (pa 0)), (1, .ref (a 0)), (2, .int (nI xi))] := by rw [h0j13]; exact hl
  replace hP : va_P D vwCl (sg_St cI cZ a P q ++ sg_Pl cI cJ pa U13 V) H := by rw [hU13, h0j13]; exact hP
  replace hD : va_D A (sg_St cI cZ a P q ++ sg_Pl cI cJ pa U13 V) := by rw [hU13, h0j13]; exact hD
  have hjj13 : j13 ≤ sg_cn P 2 := by omega
  clear h0j13
  obtain ⟨n13, hn13⟩ : ∃ n : Nat, sg_cn P 2 < j13 + n := ⟨sg_cn P 2 + 1, by omega⟩
  revert hP
  revert hD
  revert hS
  revert hl
  revert hn13
  revert hjj13
  revert hU13
  revert ls
  revert locs
  revert H
  revert U13
  revert j13
  induction n13 with
  | zero =>
    intro j13 U13 H locs ls hU13 hjj13 hn13 hl hS hD hP
    exact absurd hn13 (by omega)
  | succ n13 ih13 =>
    intro j13 U13 H locs ls hU13 hjj13 hn13 hl hS hD hP
    refine lv_iload_n hx hb dX3_make_13 rfl (lv_at hl 0 rfl) ?_
    refine lv_aload_n hx hb dX3_make_14 rfl (lv_at hl 1 rfl) ?_
    refine va_get (D := D) (ci := 3) (v := .int (U13 0 0)) (C := RX3) (T := TX3) (N := 7) hx hb hts in3 hown hK hP 41 rfl rfl 0 (by decide) (hts (.fieldLink RX3 43 "Granary$Plan" "sites" "I") (by decide +kernel)) (fun _ h9 => h9) rfl dX3_make_15 ?_
    have hkU13 : sg_KU U13 (sg_up U 0 0 (P 0 2)) := by rw [hU13]; exact sg_make_13_KU U V P xi j13
    have hB13 : ((U13 0 0) : Int32) = nI (sg_cn P 2) := (hkU13.e.trans (hw.e2))
    refine lv_icmp_ge (tgt := 51) hx hb dX3_make_18 (by decide) (fun c_1 => ?_) (fun c_1 => ?_)
    · have hE13 : sg_cn P 2 = j13 := (sg_eq hB13 c_1 hjj13 (by omega)).symm
      clear ih13 hn13
      subst hE13
      subst hU13
      refine lv_iconst (v := 0) hx hb dX3_make_51 (by decide) ?_
      refine lv_istore_n (lv' := [(3, .int 0), (0, .ref (pa 0)), (1, .ref (a 0)), (2, .int (nI xi))]) hx hb dX3_make_52 rfl hl (by decide) rfl (fun ls hl => ?_)
      obtain ⟨j53, h0j53⟩ : ∃ j : Nat, j = 0 := ⟨_, rfl⟩
      obtain ⟨U53, hU53⟩ : ∃ z9 : sg_Pic, z9 = (sg_make_53 U V P xi j53).1 := ⟨_, rfl⟩
      obtain ⟨V53, hV53⟩ : ∃ z9 : sg_PiL, z9 = (sg_make_53 U V P xi j53).2 := ⟨_, rfl⟩
      replace hl : lv_has ls 6 [(3, .int (nI j53)), (0, .ref (pa 0)), (1, .ref (a 0)), (2, .int (nI xi))] := by rw [h0j53]; exact hl
      replace hP : va_P D vwCl (sg_St cI cZ a P q ++ sg_Pl cI cJ pa U53 V53) H := by rw [hU53, hV53, h0j53]; exact hP
      replace hD : va_D A (sg_St cI cZ a P q ++ sg_Pl cI cJ pa U53 V53) := by rw [hU53, hV53, h0j53]; exact hD
      have hjj53 : j53 ≤ sg_cn P 2 := by omega
      clear h0j53
      obtain ⟨n53, hn53⟩ : ∃ n : Nat, sg_cn P 2 < j53 + n := ⟨sg_cn P 2 + 1, by omega⟩
      revert hP
      revert hD
      revert hS
      revert hl
      revert hn53
      revert hjj53
      revert hU53
      revert hV53
      revert ls
      revert locs
      revert H
      revert U53
      revert V53
      revert j53
      induction n53 with
      | zero =>
        intro j53 V53 U53 H locs ls hV53 hU53 hjj53 hn53 hl hS hD hP
        exact absurd hn53 (by omega)
      | succ n53 ih53 =>
        intro j53 V53 U53 H locs ls hV53 hU53 hjj53 hn53 hl hS hD hP
        refine lv_iload_n hx hb dX3_make_53 rfl (lv_at hl 0 rfl) ?_
        refine lv_aload_n hx hb dX3_make_54 rfl (lv_at hl 1 rfl) ?_
        refine va_get (D := D) (ci := 3) (v := .int (U53 0 0)) (C := RX3) (T := TX3) (N := 7) hx hb hts in3 hown hK hP 41 rfl rfl 0 (by decide) (hts (.fieldLink RX3 43 "Granary$Plan" "sites" "I") (by decide +kernel)) (fun _ h9 => h9) rfl dX3_make_55 ?_
        have hkU53 : sg_KU U53 (sg_make_13 U V P xi (sg_cn P 2)) := by rw [hU53]; exact sg_make_53_KU U V P xi j53
        have hB53 : ((U53 0 0) : Int32) = nI (sg_cn P 2) := (hkU53.e.trans (hkU13.e.trans (hw.e2)))
        refine lv_icmp_ge (tgt := 146) hx hb dX3_make_58 (by decide) (fun c_2 => ?_) (fun c_2 => ?_)
        · have hE53 : sg_cn P 2 = j53 := (sg_eq hB53 c_2 hjj53 (by omega)).symm
          clear ih53 hn53
          subst hE53
          subst hU53
          subst hV53
          refine lv_iconst (v := 0) hx hb dX3_make_146 (by decide) ?_
          have hMb : sg_M < 2147483648 := sg_M_l
          refine lv_istore_n (lv' := [(3, .int 0), (0, .ref (pa 0)), (1, .ref (a 0)), (2, .int (nI xi))]) hx hb dX3_make_147 rfl hl (by decide) rfl (fun ls hl => ?_)
          obtain ⟨T148, hTT148⟩ : ∃ z9 : sg_Pic × sg_PiL, z9 = sg_make_148 U V P xi sg_M ((sg_make_53 U V P xi (sg_cn P 2)).1) ((sg_make_53 U V P xi (sg_cn P 2)).2) := ⟨_, rfl⟩
          obtain ⟨U148, hU148⟩ : ∃ z9 : sg_Pic, z9 = (sg_make_53 U V P xi (sg_cn P 2)).1 := ⟨_, rfl⟩
          obtain ⟨V148, hV148⟩ : ∃ z9 : sg_PiL, z9 = (sg_make_53 U V P xi (sg_cn P 2)).2 := ⟨_, rfl⟩
          obtain ⟨j148, h0j148⟩ : ∃ j : Nat, j = 0 := ⟨_, rfl⟩
          obtain ⟨n148, hn148⟩ : ∃ n : Nat, n = sg_M := ⟨_, rfl⟩
          replace hl : lv_has ls 6 [(3, .int (nI j148)), (0, .ref (pa 0)), (1, .ref (a 0)), (2, .int (nI xi))] := by rw [h0j148]; exact hl
          replace hP : va_P D vwCl (sg_St cI cZ a P q ++ sg_Pl cI cJ pa U148 V148) H := by rw [hU148, hV148]; exact hP
          replace hD : va_D A (sg_St cI cZ a P q ++ sg_Pl cI cJ pa U148 V148) := by rw [hU148, hV148]; exact hD
          have hF148 : sg_make_148 U V P xi n148 U148 V148 = T148 := by rw [hU148, hV148, hn148, hTT148]
          have hun148 : sg_UN U148 := by rw [hU148]; exact (hkU53.N (hkU13.N hw.un))
          have hjj148 : j148 + n148 = sg_M := by omega
          clear h0j148 hn148
          clear hU148
          clear hV148
          revert hP
          revert hD
          revert hS
          revert hl
          revert hF148
          revert hjj148
          revert hun148
          revert ls
          revert locs
          revert H
          revert V148
          revert U148
          revert j148
          induction n148 with
          | zero =>
            intro j148 U148 V148 H locs ls hun148 hjj148 hF148 hl hS hD hP
            refine lv_iload_n hx hb dX3_make_148 rfl (lv_at hl 0 rfl) ?_
            refine lv_ldc hx hb (v := 1000000) hown (hts (.constant RX3 62 (1000000)) (by decide +kernel)) dX3_make_149 ?_
            have c_3 : (1000000 : Int32) ≤ nI j148 := sg_geN (show (1000000 : Int32) = nI (sg_M) from sg_M_b) (by omega) (by omega)
            refine lv_icmp_ge (tgt := 183) hx hb dX3_make_151 (by decide) (fun _ => ?_) (fun c9 => absurd c_3 c9)
            rw [sg_make_148] at hF148
            have hq148_0 : sg_fst (T148) = U148 := (congrArg (fun z9 => sg_fst (z9)) hF148).symm.trans sg_p1n
            have hq148_1 : sg_snd (T148) = V148 := (congrArg (fun z9 => sg_snd (z9)) hF148).symm.trans sg_p2n
            replace hl : lv_has ls 6 [(0, .ref (pa 0)), (1, .ref (a 0)), (2, .int (nI xi))] := by exact lv_sub hl [1, 2, 3] rfl
            replace hP : va_P D vwCl (sg_St cI cZ a P q ++ sg_Pl cI cJ pa (sg_fst (T148)) (sg_snd (T148))) H := by rw [hq148_0, hq148_1]; exact hP
            replace hD : va_D A (sg_St cI cZ a P q ++ sg_Pl cI cJ pa (sg_fst (T148)) (sg_snd (T148))) := by rw [hq148_0, hq148_1]; exact hD
            clear hq148_0 hq148_1
            clear hF148
            subst hTT148
            refine W.widen (k := 0) (n := 0) (by omega) (by omega) ?_
            have hP9 : va_P D vwCl (sg_St cI cZ a P q ++ sg_Pl cI cJ pa (sg_make_U U V P xi) (sg_make_V U V P xi)) H := by exact hP
            have hD9 : va_D A (sg_St cI cZ a P q ++ sg_Pl cI cJ pa (sg_make_U U V P xi) (sg_make_V U V P xi)) := by exact hD
            exact W.vret hx hb hr (fun t ht hW => ⟨⟨(), rfl, trivial, by rw [ht]; exact hP9, hD9⟩, hS.F ht⟩) hS.2.2 dX3_make_183
          | succ n148 ih148 =>
            intro j148 U148 V148 H locs ls hun148 hjj148 hF148 hl hS hD hP
            refine lv_iload_n hx hb dX3_make_148 rfl (lv_at hl 0 rfl) ?_
            refine lv_ldc hx hb (v := 1000000) hown (hts (.constant RX3 62 (1000000)) (by decide +kernel)) dX3_make_149 ?_
            have c_4 : ¬ ((1000000 : Int32) ≤ nI j148) := sg_nge (show (1000000 : Int32) = nI (sg_M) from sg_M_b) (by omega) (by omega)
            refine lv_icmp_ge (tgt := 183) hx hb dX3_make_151 (by decide) (fun c9 => absurd c9 c_4) (fun _ => ?_)
            refine lv_aload_n hx hb dX3_make_154 rfl (lv_at hl 1 rfl) ?_
            have hPc := hP.sub (ws' := (sg_Pl cI cJ pa U148 V148)) [41, 42, 43, 44, 45, 46, 47] rfl
            have hDc := hD.sub (ws' := (sg_Pl cI cJ pa U148 V148)) [41, 42, 43, 44, 45, 46, 47] (by decide) rfl
            have hFc := va_free (wc := (sg_Pl cI cJ pa U148 V148)) hD hS hA [41, 42, 43, 44, 45, 46, 47] rfl
            refine va_callv (va_runV (As := []) (rest := []) ⟨hx, hb, hml, hown, hts⟩ (c_findWays l D cI cZ cJ lo H.size pa U148 V148 hun148) (cwV 0 hts gX3_make_X3_findWays rfl rfl rfl (by decide +kernel) ⟨(Nat.le_of_ble_eq_true rfl), (Nat.le_of_ble_eq_true rfl)⟩) ⟨Pre.blind, va_recv hK hP (ci := 3) (q0 := 41) rfl rfl, Pre.mk hPc (hDc.weaken (fun _ _ _ h => hAlo _ h)) hC hS hAlo⟩ rfl rfl hl.1 rfl (lv_room (Nat.le_of_ble_eq_true rfl)) dX3_make_155 ⟨(Nat.le_of_ble_eq_true rfl), (Nat.le_of_ble_eq_true rfl)⟩) hS (fun q _ h => hFc q h) hFc (fun u t H1 locs1 ht hvm e_5 hB hz1 hk1 hS1 => ?_)
            have hS := hS1
            obtain ⟨hP1, hD1⟩ := hB
            rw [ht] at hP1
            obtain ⟨hP, hD⟩ := va_join (wr := (sg_St cI cZ a P q)) (w1 := (sg_Pl cI cJ pa (sg_findWays_U U148 V148) (sg_findWays_V U148 V148))) hP hD [41, 42, 43, 44, 45, 46, 47] [0, 1, 2, 3, 4, 5, 6, 7, 8, 9, 10, 11, 12, 13, 14, 15, 16, 17, 18, 19, 20, 21, 22, 23, 24, 25, 26, 27, 28, 29, 30, 31, 32, 33, 34, 35, 36, 37, 38, 39, 40] rfl rfl (by decide) (by decide) hk1 hFc hP1 hD1
            have e_5 : True := e_5
            clear hFc hPc hDc ht hvm hz1 hk1 hS1 hP1 hD1
            generalize H1 = H at hP hS ⊢
            replace hP : va_P D vwCl (sg_St cI cZ a P q ++ sg_Pl cI cJ pa (sg_findWays_U U148 V148) (sg_findWays_V U148 V148)) H := hP
            replace hD : va_D A (sg_St cI cZ a P q ++ sg_Pl cI cJ pa (sg_findWays_U U148 V148) (sg_findWays_V U148 V148)) := hD
            refine lv_aload_n hx hb dX3_make_158 rfl (lv_at hl 1 rfl) ?_
            have hPc := hP.sub (ws' := (sg_Pl cI cJ pa (sg_findWays_U U148 V148) (sg_findWays_V U148 V148))) [41, 42, 43, 44, 45, 46, 47] rfl
            have hDc := hD.sub (ws' := (sg_Pl cI cJ pa (sg_findWays_U U148 V148) (sg_findWays_V U148 V148))) [41, 42, 43, 44, 45, 46, 47] (by decide) rfl
            refine vp_callSi (W.runV (As := []) (rest := []) ⟨hx, hb, hml, hown, hts⟩ (c_cheapestEnd l D cI cZ cJ lo H.size pa (sg_findWays_U U148 V148) (sg_findWays_V U148 V148) ((sg_findWays_KU U148 V148).N hun148)) (cwV 0 hts gX3_make_X3_cheapestEnd rfl rfl rfl (by decide +kernel) ⟨(Nat.le_of_ble_eq_true rfl), (Nat.le_of_ble_eq_true rfl)⟩) ⟨Pre.blind, va_recv hK hP (ci := 3) (q0 := 41) rfl rfl, Pre.mk hPc (hDc.weaken (fun _ _ _ h => hAlo _ h)) hC hS hAlo⟩ rfl rfl hl.1 rfl (lv_room (Nat.le_of_ble_eq_true rfl)) dX3_make_159 ⟨(Nat.le_of_ble_eq_true rfl), (Nat.le_of_ble_eq_true rfl)⟩) (fun r_6 e_7 => ?_)
            clear hPc hDc
            have e_7 : sg_cheapestEnd (sg_findWays_U U148 V148) (sg_findWays_V U148 V148) = r_6 := Eq.symm e_7
            subst e_7
            refine lv_istore (lv' := [(4, .int (sg_cheapestEnd (sg_findWays_U U148 V148) (sg_findWays_V U148 V148))), (3, .int (nI j148)), (0, .ref (pa 0)), (1, .ref (a 0)), (2, .int (nI xi))]) hx hb dX3_make_162 hl (by decide) rfl (fun ls hl => ?_)
            refine lv_iload hx hb dX3_make_164 (lv_at hl 0 rfl) ?_
            refine lv_iconst (v := (-1)) hx hb dX3_make_166 (by decide) ?_
            refine lv_icmp_ne (tgt := 171) hx hb dX3_make_167 (by decide) (fun c_8 => ?_) (fun c_8 => ?_)
            · have h171 := sg_ce (U := sg_findWays_U U148 V148) (((sg_findWays_KU U148 V148).N hun148)) c_8
              have h171u := (((sg_findWays_KU U148 V148).N hun148)).n
              have l171 : Int32.toNatClampNeg (sg_cheapestEnd (sg_findWays_U U148 V148) (sg_findWays_V U148 V148)) < sg_cn (sg_findWays_U U148 V148) 0 := h171.2
              replace hl : lv_has ls 6 [(4, .int (nI (Int32.toNatClampNeg (sg_cheapestEnd (sg_findWays_U U148 V148) (sg_findWays_V U148 V148))))), (3, .int (nI j148)), (0, .ref (pa 0)), (1, .ref (a 0)), (2, .int (nI xi))] := by rw [← h171.1]; exact hl
              refine lv_aload_n hx hb dX3_make_171 rfl (lv_at hl 2 rfl) ?_
              refine lv_iload hx hb dX3_make_172 (lv_at hl 0 rfl) ?_
              have hPc := hP.sub (ws' := (sg_Pl cI cJ pa (sg_findWays_U U148 V148) (sg_findWays_V U148 V148))) [41, 42, 43, 44, 45, 46, 47] rfl
              have hDc := hD.sub (ws' := (sg_Pl cI cJ pa (sg_findWays_U U148 V148) (sg_findWays_V U148 V148))) [41, 42, 43, 44, 45, 46, 47] (by decide) rfl
              have hFc := va_free (wc := (sg_Pl cI cJ pa (sg_findWays_U U148 V148) (sg_findWays_V U148 V148))) hD hS hA [41, 42, 43, 44, 45, 46, 47] rfl
              refine va_callv (va_runV (As := [.int (nI (Int32.toNatClampNeg (sg_cheapestEnd (sg_findWays_U U148 V148) (sg_findWays_V U148 V148))))]) (rest := []) ⟨hx, hb, hml, hown, hts⟩ (c_sendAlong l D cI cZ cJ lo H.size pa (sg_findWays_U U148 V148) (sg_findWays_V U148 V148) (Int32.toNatClampNeg (sg_cheapestEnd (sg_findWays_U U148 V148) (sg_findWays_V U148 V148))) ((sg_findWays_KU U148 V148).N hun148) (sg_fw_A hun148) l171) (cwV 1 hts gX3_make_X3_sendAlong rfl rfl rfl (by decide +kernel) ⟨(Nat.le_of_ble_eq_true rfl), (Nat.le_of_ble_eq_true rfl)⟩) ⟨Pre.blind, va_recv hK hP (ci := 3) (q0 := 41) rfl rfl, Pre.mk hPc (hDc.weaken (fun _ _ _ h => hAlo _ h)) hC hS hAlo⟩ rfl rfl hl.1 rfl (lv_room (Nat.le_of_ble_eq_true rfl)) dX3_make_174 ⟨(Nat.le_of_ble_eq_true rfl), (Nat.le_of_ble_eq_true rfl)⟩) hS (fun q _ h => hFc q h) hFc (fun u t H1 locs1 ht hvm e_9 hB hz1 hk1 hS1 => ?_)
              have hS := hS1
              obtain ⟨hP1, hD1⟩ := hB
              rw [ht] at hP1
              obtain ⟨hP, hD⟩ := va_join (wr := (sg_St cI cZ a P q)) (w1 := (sg_Pl cI cJ pa (sg_sendAlong_U (sg_findWays_U U148 V148) (sg_findWays_V U148 V148) (Int32.toNatClampNeg (sg_cheapestEnd (sg_findWays_U U148 V148) (sg_findWays_V U148 V148)))) (sg_findWays_V U148 V148))) hP hD [41, 42, 43, 44, 45, 46, 47] [0, 1, 2, 3, 4, 5, 6, 7, 8, 9, 10, 11, 12, 13, 14, 15, 16, 17, 18, 19, 20, 21, 22, 23, 24, 25, 26, 27, 28, 29, 30, 31, 32, 33, 34, 35, 36, 37, 38, 39, 40] rfl rfl (by decide) (by decide) hk1 hFc hP1 hD1
              have e_9 : True := e_9
              clear hFc hPc hDc ht hvm hz1 hk1 hS1 hP1 hD1
              generalize H1 = H at hP hS ⊢
              replace hP : va_P D vwCl (sg_St cI cZ a P q ++ sg_Pl cI cJ pa (sg_sendAlong_U (sg_findWays_U U148 V148) (sg_findWays_V U148 V148) (Int32.toNatClampNeg (sg_cheapestEnd (sg_findWays_U U148 V148) (sg_findWays_V U148 V148)))) (sg_findWays_V U148 V148)) H := hP
              replace hD : va_D A (sg_St cI cZ a P q ++ sg_Pl cI cJ pa (sg_sendAlong_U (sg_findWays_U U148 V148) (sg_findWays_V U148 V148) (Int32.toNatClampNeg (sg_cheapestEnd (sg_findWays_U U148 V148) (sg_findWays_V U148 V148)))) (sg_findWays_V U148 V148)) := hD
              refine lv_iinc (v := nI (j148 + 1)) (lv' := [(3, .int (nI (j148 + 1))), (4, .int (nI (Int32.toNatClampNeg (sg_cheapestEnd (sg_findWays_U U148 V148) (sg_findWays_V U148 V148))))), (0, .ref (pa 0)), (1, .ref (a 0)), (2, .int (nI xi))]) hx hb dX3_make_177 hl (k := 1) rfl (nI_1 j148) (by decide) rfl (fun ls hl => ?_)
              refine lv_goto (tgt := 148) hx hb dX3_make_180 (by decide) ?_
              exact ih148 (j148 + 1) (sg_sendAlong_U (sg_findWays_U U148 V148) (sg_findWays_V U148 V148) (Int32.toNatClampNeg (sg_cheapestEnd (sg_findWays_U U148 V148) (sg_findWays_V U148 V148)))) (sg_findWays_V U148 V148) _ _ _ ((sg_sendAlong_KU (sg_findWays_U U148 V148) (sg_findWays_V U148 V148) (Int32.toNatClampNeg (sg_cheapestEnd (sg_findWays_U U148 V148) (sg_findWays_V U148 V148)))).N ((sg_findWays_KU U148 V148).N hun148)) (by omega) (show sg_make_148 U V P xi n148 (sg_sendAlong_U (sg_findWays_U U148 V148) (sg_findWays_V U148 V148) (Int32.toNatClampNeg (sg_cheapestEnd (sg_findWays_U U148 V148) (sg_findWays_V U148 V148)))) (sg_findWays_V U148 V148) = T148 from by rw [← hF148, sg_make_148, if_neg c_8]) (lv_sub hl [0, 2, 3, 4] rfl) hS hD hP
            · rw [sg_make_148, if_pos c_8] at hF148
              have hq148_0 : sg_fst (T148) = sg_findWays_U U148 V148 := (congrArg (fun z9 => sg_fst (z9)) hF148).symm.trans sg_p1n
              have hq148_1 : sg_snd (T148) = sg_findWays_V U148 V148 := (congrArg (fun z9 => sg_snd (z9)) hF148).symm.trans sg_p2n
              replace hl : lv_has ls 6 [(0, .ref (pa 0)), (1, .ref (a 0)), (2, .int (nI xi))] := by exact lv_sub hl [2, 3, 4] rfl
              replace hP : va_P D vwCl (sg_St cI cZ a P q ++ sg_Pl cI cJ pa (sg_fst (T148)) (sg_snd (T148))) H := by rw [hq148_0, hq148_1]; exact hP
              replace hD : va_D A (sg_St cI cZ a P q ++ sg_Pl cI cJ pa (sg_fst (T148)) (sg_snd (T148))) := by rw [hq148_0, hq148_1]; exact hD
              clear hq148_0 hq148_1
              clear hF148 ih148
              subst hTT148
              refine W.widen (k := 0) (n := 0) (by omega) (by omega) ?_
              have hP9 : va_P D vwCl (sg_St cI cZ a P q ++ sg_Pl cI cJ pa (sg_make_U U V P xi) (sg_make_V U V P xi)) H := by exact hP
              have hD9 : va_D A (sg_St cI cZ a P q ++ sg_Pl cI cJ pa (sg_make_U U V P xi) (sg_make_V U V P xi)) := by exact hD
              exact W.vret hx hb hr (fun t ht hW => ⟨⟨(), rfl, trivial, by rw [ht]; exact hP9, hD9⟩, hS.F ht⟩) hS.2.2 dX3_make_170
        · have hL53 : j53 < sg_cn P 2 := sg_lt hB53 c_2 (by omega)
          refine lv_iconst (v := 0) hx hb dX3_make_61 (by decide) ?_
          refine lv_istore (lv' := [(4, .int 0), (3, .int (nI j53)), (0, .ref (pa 0)), (1, .ref (a 0)), (2, .int (nI xi))]) hx hb dX3_make_62 hl (by decide) rfl (fun ls hl => ?_)
          obtain ⟨j64, h0j64⟩ : ∃ j : Nat, j = 0 := ⟨_, rfl⟩
          obtain ⟨U64, hU64⟩ : ∃ z9 : sg_Pic, z9 = (sg_make_64 U V P xi j53 U53 V53 j64).1 := ⟨_, rfl⟩
          obtain ⟨V64, hV64⟩ : ∃ z9 : sg_PiL, z9 = (sg_make_64 U V P xi j53 U53 V53 j64).2 := ⟨_, rfl⟩
          replace hl : lv_has ls 6 [(4, .int (nI j64)), (3, .int (nI j53)), (0, .ref (pa 0)), (1, .ref (a 0)), (2, .int (nI xi))] := by rw [h0j64]; exact hl
          replace hP : va_P D vwCl (sg_St cI cZ a P q ++ sg_Pl cI cJ pa U64 V64) H := by rw [hU64, hV64, h0j64]; exact hP
          replace hD : va_D A (sg_St cI cZ a P q ++ sg_Pl cI cJ pa U64 V64) := by rw [hU64, hV64, h0j64]; exact hD
          have hjj64 : j64 ≤ sg_cn P 2 := by omega
          clear h0j64
          obtain ⟨n64, hn64⟩ : ∃ n : Nat, sg_cn P 2 < j64 + n := ⟨sg_cn P 2 + 1, by omega⟩
          revert hP
          revert hD
          revert hS
          revert hl
          revert hn64
          revert hjj64
          revert hU64
          revert hV64
          revert ls
          revert locs
          revert H
          revert U64
          revert V64
          revert j64
          induction n64 with
          | zero =>
            intro j64 V64 U64 H locs ls hV64 hU64 hjj64 hn64 hl hS hD hP
            exact absurd hn64 (by omega)
          | succ n64 ih64 =>
            intro j64 V64 U64 H locs ls hV64 hU64 hjj64 hn64 hl hS hD hP
            refine lv_iload hx hb dX3_make_64 (lv_at hl 0 rfl) ?_
            refine lv_aload_n hx hb dX3_make_66 rfl (lv_at hl 2 rfl) ?_
            refine va_get (D := D) (ci := 3) (v := .int (U64 0 0)) (C := RX3) (T := TX3) (N := 7) hx hb hts in3 hown hK hP 41 rfl rfl 0 (by decide) (hts (.fieldLink RX3 43 "Granary$Plan" "sites" "I") (by decide +kernel)) (fun _ h9 => h9) rfl dX3_make_67 ?_
            have hkU64 : sg_KU U64 U53 := by rw [hU64]; exact sg_make_64_KU U V P xi j53 U53 V53 j64
            have hB64 : ((U64 0 0) : Int32) = nI (sg_cn P 2) := (hkU64.e.trans (hkU53.e.trans (hkU13.e.trans (hw.e2))))
            refine lv_icmp_ge (tgt := 140) hx hb dX3_make_70 (by decide) (fun c_10 => ?_) (fun c_10 => ?_)
            · have hE64 : sg_cn P 2 = j64 := (sg_eq hB64 c_10 hjj64 (by omega)).symm
              clear ih64 hn64
              subst hE64
              subst hU64
              subst hV64
              refine lv_iinc (v := nI (j53 + 1)) (lv' := [(3, .int (nI (j53 + 1))), (4, .int (nI (sg_cn P 2))), (0, .ref (pa 0)), (1, .ref (a 0)), (2, .int (nI xi))]) hx hb dX3_make_140 hl (k := 1) rfl (nI_1 j53) (by decide) rfl (fun ls hl => ?_)
              refine lv_goto (tgt := 53) hx hb dX3_make_143 (by decide) ?_
              have hl8 := hl; have hS8 := hS; have hD8 := hD; have hP8 := hP
              subst hU53
              subst hV53
              exact ih53 (j53 + 1) ((sg_make_64 U V P xi j53 ((sg_make_53 U V P xi j53).1) ((sg_make_53 U V P xi j53).2) (sg_cn P 2)).2) ((sg_make_64 U V P xi j53 ((sg_make_53 U V P xi j53).1) ((sg_make_53 U V P xi j53).2) (sg_cn P 2)).1) _ _ _ (show ((sg_make_64 U V P xi j53 ((sg_make_53 U V P xi j53).1) ((sg_make_53 U V P xi j53).2) (sg_cn P 2)).2 : sg_PiL) = (sg_make_53 U V P xi (j53 + 1)).2 from by rw [sg_make_53]) (show ((sg_make_64 U V P xi j53 ((sg_make_53 U V P xi j53).1) ((sg_make_53 U V P xi j53).2) (sg_cn P 2)).1 : sg_Pic) = (sg_make_53 U V P xi (j53 + 1)).1 from by rw [sg_make_53]) (by omega) (by omega) (lv_sub hl8 [0, 2, 3, 4] rfl) hS8 hD8 hP8
            · have hL64 : j64 < sg_cn P 2 := sg_lt hB64 c_10 (by omega)
              refine lv_iload_n hx hb dX3_make_73 rfl (lv_at hl 1 rfl) ?_
              refine lv_iload hx hb dX3_make_74 (lv_at hl 0 rfl) ?_
              have hPc := hP.sub (ws' := []) [] rfl
              have hDc := hD.sub (ws' := []) [] (by decide) rfl
              refine vp_callSi (sg_dr (va_runSN (As := [.int (nI j53), .int (nI j64)]) (rest := []) ⟨hx, hb, hml, hown, hts⟩ (c_pair l D cI cZ cJ lo H.size j53 j64) ⟨va_cnB 2 hts gX3_make_X8_pair_n52 rfl rfl rfl (hC.nestX3_52) (hts (.initialized RX8) (by decide +kernel)) (by decide +kernel) ⟨(Nat.le_of_ble_eq_true rfl), (Nat.le_of_ble_eq_true rfl)⟩, (hts (.static yX8_pair) (by decide +kernel)), trivial⟩ ⟨Pre.blind, Pre.mk hPc (hDc.weaken (fun _ _ _ h => hAlo _ h)) hC hS hAlo⟩ rfl rfl hl.1 rfl (lv_room (Nat.le_of_ble_eq_true rfl)) dX3_make_76 ⟨(Nat.le_of_ble_eq_true rfl), (Nat.le_of_ble_eq_true rfl)⟩)) (fun r_11 e_12 => ?_)
              clear hPc hDc
              have e_12 : nI ((j53 * 5) + j64) = r_11 := Eq.symm e_12
              subst e_12
              refine lv_istore (lv' := [(5, .int (nI ((j53 * 5) + j64))), (4, .int (nI j64)), (3, .int (nI j53)), (0, .ref (pa 0)), (1, .ref (a 0)), (2, .int (nI xi))]) hx hb dX3_make_79 hl (by decide) rfl (fun ls hl => ?_)
              refine lv_aload_n hx hb dX3_make_81 rfl (lv_at hl 3 rfl) ?_
              refine va_get (D := D) (ci := 3) (v := .ref (pa 6)) (C := RX3) (T := TX3) (N := 7) hx hb hts in3 hown hK hP 41 rfl rfl 6 (by decide) (hts (.fieldLink RX3 28 "Granary$Plan" "units" "[I") (by decide +kernel)) (fun _ h9 => h9) rfl dX3_make_82 ?_
              refine lv_iload hx hb dX3_make_85 (lv_at hl 0 rfl) ?_
              refine lv_iconst (v := 0) hx hb dX3_make_87 (by decide) ?_
              refine sg_iast hx hb hK hP hD hS 47 0 rfl rfl (j := (j53 * 5) + j64) rfl (by omega) (Nat.le_of_ble_eq_true rfl) dX3_make_88 (fun H locs hP hD hS => ?_)
              replace hP : va_P D vwCl (sg_St cI cZ a P q ++ sg_Pl cI cJ pa (sg_up U64 6 ((j53 * 5) + j64) 0) V64) H := hP
              replace hD : va_D A (sg_St cI cZ a P q ++ sg_Pl cI cJ pa (sg_up U64 6 ((j53 * 5) + j64) 0) V64) := hD
              refine lv_aload_n hx hb dX3_make_89 rfl (lv_at hl 3 rfl) ?_
              refine va_get (D := D) (ci := 3) (v := .ref (pa 3)) (C := RX3) (T := TX3) (N := 7) hx hb hts in3 hown hK hP 41 rfl rfl 3 (by decide) (hts (.fieldLink RX3 18 "Granary$Plan" "cost" "[J") (by decide +kernel)) (fun _ h9 => h9) rfl dX3_make_90 ?_
              refine lv_iload hx hb dX3_make_93 (lv_at hl 0 rfl) ?_
              refine lv_aload_n hx hb dX3_make_95 rfl (lv_at hl 3 rfl) ?_
              refine va_get (D := D) (ci := 3) (v := .ref (pa 1)) (C := RX3) (T := TX3) (N := 7) hx hb hts in3 hown hK hP 41 rfl rfl 1 (by decide) (hts (.fieldLink RX3 9 "Granary$Plan" "spare" "[I") (by decide +kernel)) (fun _ h9 => h9) rfl dX3_make_96 ?_
              refine lv_iload_n hx hb dX3_make_99 rfl (lv_at hl 2 rfl) ?_
              refine sg_iald hx hb hK hP 42 0 rfl rfl (j := j53) rfl (by omega) (Nat.le_of_ble_eq_true rfl) dX3_make_100 ?_
              refine lv_toi (y := U64 1 j53) rfl ?_
              refine lv_if_le (tgt := 132) hx hb dX3_make_101 (by decide) (fun c_13 => ?_) (fun c_13 => ?_)
              · refine lv_lconst (v := 0) hx hb dX3_make_132 (by decide) ?_
                refine sg_last hx hb hK hP hD hS 44 2 rfl rfl (j := (j53 * 5) + j64) rfl (by omega) (Nat.le_of_ble_eq_true rfl) dX3_make_133 (fun H locs hP hD hS => ?_)
                replace hP : va_P D vwCl (sg_St cI cZ a P q ++ sg_Pl cI cJ pa (sg_up U64 6 ((j53 * 5) + j64) 0) (sg_ul V64 3 ((j53 * 5) + j64) 0)) H := hP
                replace hD : va_D A (sg_St cI cZ a P q ++ sg_Pl cI cJ pa (sg_up U64 6 ((j53 * 5) + j64) 0) (sg_ul V64 3 ((j53 * 5) + j64) 0)) := hD
                refine lv_iinc (v := nI (j64 + 1)) (lv' := [(4, .int (nI (j64 + 1))), (5, .int (nI ((j53 * 5) + j64))), (3, .int (nI j53)), (0, .ref (pa 0)), (1, .ref (a 0)), (2, .int (nI xi))]) hx hb dX3_make_134 hl (k := 1) rfl (nI_1 j64) (by decide) rfl (fun ls hl => ?_)
                refine lv_goto (tgt := 64) hx hb dX3_make_137 (by decide) ?_
                have hl8 := hl; have hS8 := hS; have hD8 := hD; have hP8 := hP
                subst hU64
                subst hV64
                exact ih64 (j64 + 1) (sg_ul ((sg_make_64 U V P xi j53 U53 V53 j64).2) 3 ((j53 * 5) + j64) 0) (sg_up ((sg_make_64 U V P xi j53 U53 V53 j64).1) 6 ((j53 * 5) + j64) 0) _ _ _ (show (sg_ul ((sg_make_64 U V P xi j53 U53 V53 j64).2) 3 ((j53 * 5) + j64) 0 : sg_PiL) = (sg_make_64 U V P xi j53 U53 V53 (j64 + 1)).2 from by rw [sg_make_64, if_pos c_13]) (show (sg_up ((sg_make_64 U V P xi j53 U53 V53 j64).1) 6 ((j53 * 5) + j64) 0 : sg_Pic) = (sg_make_64 U V P xi j53 U53 V53 (j64 + 1)).1 from by rw [sg_make_64, if_pos c_13]) (by omega) (by omega) (lv_sub hl8 [0, 2, 3, 4, 5] rfl) hS8 hD8 hP8
              · refine lv_aload_n hx hb dX3_make_104 rfl (lv_at hl 3 rfl) ?_
                refine va_get (D := D) (ci := 3) (v := .ref (pa 2)) (C := RX3) (T := TX3) (N := 7) hx hb hts in3 hown hK hP 41 rfl rfl 2 (by decide) (hts (.fieldLink RX3 15 "Granary$Plan" "lack" "[I") (by decide +kernel)) (fun _ h9 => h9) rfl dX3_make_105 ?_
                refine lv_iload hx hb dX3_make_108 (lv_at hl 1 rfl) ?_
                refine sg_iald hx hb hK hP 43 0 rfl rfl (j := j64) rfl (by omega) (Nat.le_of_ble_eq_true rfl) dX3_make_110 ?_
                refine lv_toi (y := U64 2 j64) rfl ?_
                refine lv_if_le (tgt := 132) hx hb dX3_make_111 (by decide) (fun c_14 => ?_) (fun c_14 => ?_)
                · refine lv_lconst (v := 0) hx hb dX3_make_132 (by decide) ?_
                  refine sg_last hx hb hK hP hD hS 44 2 rfl rfl (j := (j53 * 5) + j64) rfl (by omega) (Nat.le_of_ble_eq_true rfl) dX3_make_133 (fun H locs hP hD hS => ?_)
                  replace hP : va_P D vwCl (sg_St cI cZ a P q ++ sg_Pl cI cJ pa (sg_up U64 6 ((j53 * 5) + j64) 0) (sg_ul V64 3 ((j53 * 5) + j64) 0)) H := hP
                  replace hD : va_D A (sg_St cI cZ a P q ++ sg_Pl cI cJ pa (sg_up U64 6 ((j53 * 5) + j64) 0) (sg_ul V64 3 ((j53 * 5) + j64) 0)) := hD
                  refine lv_iinc (v := nI (j64 + 1)) (lv' := [(4, .int (nI (j64 + 1))), (5, .int (nI ((j53 * 5) + j64))), (3, .int (nI j53)), (0, .ref (pa 0)), (1, .ref (a 0)), (2, .int (nI xi))]) hx hb dX3_make_134 hl (k := 1) rfl (nI_1 j64) (by decide) rfl (fun ls hl => ?_)
                  refine lv_goto (tgt := 64) hx hb dX3_make_137 (by decide) ?_
                  have hl8 := hl; have hS8 := hS; have hD8 := hD; have hP8 := hP
                  subst hU64
                  subst hV64
                  exact ih64 (j64 + 1) (sg_ul ((sg_make_64 U V P xi j53 U53 V53 j64).2) 3 ((j53 * 5) + j64) 0) (sg_up ((sg_make_64 U V P xi j53 U53 V53 j64).1) 6 ((j53 * 5) + j64) 0) _ _ _ (show (sg_ul ((sg_make_64 U V P xi j53 U53 V53 j64).2) 3 ((j53 * 5) + j64) 0 : sg_PiL) = (sg_make_64 U V P xi j53 U53 V53 (j64 + 1)).2 from by rw [sg_make_64, if_neg c_13, if_pos c_14]) (show (sg_up ((sg_make_64 U V P xi j53 U53 V53 j64).1) 6 ((j53 * 5) + j64) 0 : sg_Pic) = (sg_make_64 U V P xi j53 U53 V53 (j64 + 1)).1 from by rw [sg_make_64, if_neg c_13, if_pos c_14]) (by omega) (by omega) (lv_sub hl8 [0, 2, 3, 4, 5] rfl) hS8 hD8 hP8
                · refine lv_iload hx hb dX3_make_114 (lv_at hl 0 rfl) ?_
                  refine lv_aload_n hx hb dX3_make_116 rfl (lv_at hl 4 rfl) ?_
                  refine va_get (D := D) (ci := 6) (v := .ref (a 2)) (C := RX6) (T := TX6) (N := 9) hx hb hts in6 hown hK hP 0 rfl rfl 2 (by decide) (hts (.fieldLink RX3 31 "Granary$Stock" "sites" "LGranary$Sites;") (by decide +kernel)) (fun _ h9 => h9) rfl dX3_make_117 ?_
                  refine va_get (D := D) (ci := 5) (v := .ref (a 21)) (C := RX5) (T := TX5) (N := 3) hx hb hts in5 hown hK hP 2 rfl rfl 2 (by decide) (hts (.fieldLink RX3 55 "Granary$Sites" "days" "[I") (by decide +kernel)) (fun _ h9 => h9) rfl dX3_make_120 ?_
                  refine lv_iload hx hb dX3_make_123 (lv_at hl 0 rfl) ?_
                  refine sg_iald hx hb hK hP 12 0 rfl rfl (j := (j53 * 5) + j64) rfl (by omega) (Nat.le_of_ble_eq_true rfl) dX3_make_125 ?_
                  refine lv_toi (y := P 21 ((j53 * 5) + j64)) rfl ?_
                  have hPc := hP.sub (ws' := []) [] rfl
                  have hDc := hD.sub (ws' := []) [] (by decide) rfl
                  refine vp_callSl (W.runS (As := [.int (nI ((j53 * 5) + j64)), .int (P 21 ((j53 * 5) + j64))]) (rest := [.int (nI ((j53 * 5) + j64)), .ref (pa 3)]) ⟨hx, hb, hml, hown, hts⟩ (c_costOf l D cI cZ cJ lo H.size ((j53 * 5) + j64) (P 21 ((j53 * 5) + j64))) (va_cwS 2 hts gX3_make_X3_costOf rfl rfl rfl (by decide +kernel) ⟨(Nat.le_of_ble_eq_true rfl), (Nat.le_of_ble_eq_true rfl)⟩) ⟨Pre.blind, Pre.mk hPc (hDc.weaken (fun _ _ _ h => hAlo _ h)) hC hS hAlo⟩ rfl rfl hl.1 rfl (lv_room (Nat.le_of_ble_eq_true rfl)) dX3_make_126 ⟨(Nat.le_of_ble_eq_true rfl), (Nat.le_of_ble_eq_true rfl)⟩) (fun r_15 e_16 => ?_)
                  clear hPc hDc
                  have e_16 : sg_costOf ((j53 * 5) + j64) (P 21 ((j53 * 5) + j64)) = r_15 := Eq.symm e_16
                  subst e_16
                  refine lv_goto (tgt := 133) hx hb dX3_make_129 (by decide) ?_
                  refine sg_last hx hb hK hP hD hS 44 2 rfl rfl (j := (j53 * 5) + j64) rfl (by omega) (Nat.le_of_ble_eq_true rfl) dX3_make_133 (fun H locs hP hD hS => ?_)
                  replace hP : va_P D vwCl (sg_St cI cZ a P q ++ sg_Pl cI cJ pa (sg_up U64 6 ((j53 * 5) + j64) 0) (sg_ul V64 3 ((j53 * 5) + j64) (sg_costOf ((j53 * 5) + j64) (P 21 ((j53 * 5) + j64))))) H := hP
                  replace hD : va_D A (sg_St cI cZ a P q ++ sg_Pl cI cJ pa (sg_up U64 6 ((j53 * 5) + j64) 0) (sg_ul V64 3 ((j53 * 5) + j64) (sg_costOf ((j53 * 5) + j64) (P 21 ((j53 * 5) + j64))))) := hD
                  refine lv_iinc (v := nI (j64 + 1)) (lv' := [(4, .int (nI (j64 + 1))), (5, .int (nI ((j53 * 5) + j64))), (3, .int (nI j53)), (0, .ref (pa 0)), (1, .ref (a 0)), (2, .int (nI xi))]) hx hb dX3_make_134 hl (k := 1) rfl (nI_1 j64) (by decide) rfl (fun ls hl => ?_)
                  refine lv_goto (tgt := 64) hx hb dX3_make_137 (by decide) ?_
                  have hl8 := hl; have hS8 := hS; have hD8 := hD; have hP8 := hP
                  subst hU64
                  subst hV64
                  exact ih64 (j64 + 1) (sg_ul ((sg_make_64 U V P xi j53 U53 V53 j64).2) 3 ((j53 * 5) + j64) (sg_costOf ((j53 * 5) + j64) (P 21 ((j53 * 5) + j64)))) (sg_up ((sg_make_64 U V P xi j53 U53 V53 j64).1) 6 ((j53 * 5) + j64) 0) _ _ _ (show (sg_ul ((sg_make_64 U V P xi j53 U53 V53 j64).2) 3 ((j53 * 5) + j64) (sg_costOf ((j53 * 5) + j64) (P 21 ((j53 * 5) + j64))) : sg_PiL) = (sg_make_64 U V P xi j53 U53 V53 (j64 + 1)).2 from by rw [sg_make_64, if_neg c_13, if_neg c_14]) (show (sg_up ((sg_make_64 U V P xi j53 U53 V53 j64).1) 6 ((j53 * 5) + j64) 0 : sg_Pic) = (sg_make_64 U V P xi j53 U53 V53 (j64 + 1)).1 from by rw [sg_make_64, if_neg c_13, if_neg c_14]) (by omega) (by omega) (lv_sub hl8 [0, 2, 3, 4, 5] rfl) hS8 hD8 hP8
    · have hL13 : j13 < sg_cn P 2 := sg_lt hB13 c_1 (by omega)
      refine lv_aload_n hx hb dX3_make_21 rfl (lv_at hl 1 rfl) ?_
      refine va_get (D := D) (ci := 3) (v := .ref (pa 1)) (C := RX3) (T := TX3) (N := 7) hx hb hts in3 hown hK hP 41 rfl rfl 1 (by decide) (hts (.fieldLink RX3 9 "Granary$Plan" "spare" "[I") (by decide +kernel)) (fun _ h9 => h9) rfl dX3_make_22 ?_
      refine lv_iload_n hx hb dX3_make_25 rfl (lv_at hl 0 rfl) ?_
      refine lv_aload_n hx hb dX3_make_26 rfl (lv_at hl 2 rfl) ?_
      refine lv_iload_n hx hb dX3_make_27 rfl (lv_at hl 3 rfl) ?_
      refine lv_iload_n hx hb dX3_make_28 rfl (lv_at hl 0 rfl) ?_
      have hPc := hP.sub (ws' := [(a 0, .inr (6, [.int (P 0 0), .ref (a 1), .ref (a 2), .ref (a 3), .ref (a 4), .ref (a 5), .ref (a 6), .ref (a 70), .ref (a 71)])), (a 3, .inr (4, [.ref (a 30), .ref (a 31), .ref (a 32), .ref (a 33), .ref (a 34)])), (a 4, .inr (1, [.int (P 0 3), .ref (a 40), .ref (a 41), .ref (a 42), .ref (a 43), .ref (a 44)])), (a 5, .inr (2, [.int (P 0 4), .ref (a 50), .ref (a 51), .ref (a 52), .ref (a 53), .ref (a 54), .ref (a 55), .ref (a 56), .ref (a 57), .ref (a 58), .ref (a 59)])), (a 6, .inr (7, [.int (P 0 5), .ref (a 60), .ref (a 61), .ref (a 62), .ref (a 63), .ref (a 64), .ref (a 65)])), (a 30, .inl (cZ, 30, .inl (P 30))), (a 31, .inl (cI, 30, .inl (P 31))), (a 32, .inl (cI, 30, .inl (P 32))), (a 33, .inl (cI, 30, .inl (P 33))), (a 34, .inl (cI, 30, .inl (P 34))), (a 40, .inl (cI, 200, .inl (P 40))), (a 41, .inl (cI, 200, .inl (P 41))), (a 42, .inl (cI, 200, .inl (P 42))), (a 43, .inl (cI, 200, .inl (P 43))), (a 44, .inl (cI, 200, .inl (P 44))), (a 50, .inl (cI, 60, .inl (P 50))), (a 51, .inl (cI, 60, .inl (P 51))), (a 52, .inl (cI, 60, .inl (P 52))), (a 53, .inl (cI, 60, .inl (P 53))), (a 54, .inl (cI, 60, .inl (P 54))), (a 55, .inl (cI, 60, .inl (P 55))), (a 56, .inl (cI, 60, .inl (P 56))), (a 57, .inl (cI, 60, .inl (P 57))), (a 58, .inl (cI, 60, .inl (P 58))), (a 59, .inl (cI, 12000, .inl (P 59))), (a 60, .inl (cI, 90, .inl (P 60))), (a 61, .inl (cI, 90, .inl (P 61))), (a 62, .inl (cI, 90, .inl (P 62))), (a 63, .inl (cI, 90, .inl (P 63))), (a 64, .inl (cI, 90, .inl (P 64))), (a 65, .inl (cI, 90, .inl (P 65)))]) [0, 3, 4, 5, 6, 13, 14, 15, 16, 17, 18, 19, 20, 21, 22, 23, 24, 25, 26, 27, 28, 29, 30, 31, 32, 33, 34, 35, 36, 37, 38] rfl
      have hDc := hD.sub (ws' := [(a 0, .inr (6, [.int (P 0 0), .ref (a 1), .ref (a 2), .ref (a 3), .ref (a 4), .ref (a 5), .ref (a 6), .ref (a 70), .ref (a 71)])), (a 3, .inr (4, [.ref (a 30), .ref (a 31), .ref (a 32), .ref (a 33), .ref (a 34)])), (a 4, .inr (1, [.int (P 0 3), .ref (a 40), .ref (a 41), .ref (a 42), .ref (a 43), .ref (a 44)])), (a 5, .inr (2, [.int (P 0 4), .ref (a 50), .ref (a 51), .ref (a 52), .ref (a 53), .ref (a 54), .ref (a 55), .ref (a 56), .ref (a 57), .ref (a 58), .ref (a 59)])), (a 6, .inr (7, [.int (P 0 5), .ref (a 60), .ref (a 61), .ref (a 62), .ref (a 63), .ref (a 64), .ref (a 65)])), (a 30, .inl (cZ, 30, .inl (P 30))), (a 31, .inl (cI, 30, .inl (P 31))), (a 32, .inl (cI, 30, .inl (P 32))), (a 33, .inl (cI, 30, .inl (P 33))), (a 34, .inl (cI, 30, .inl (P 34))), (a 40, .inl (cI, 200, .inl (P 40))), (a 41, .inl (cI, 200, .inl (P 41))), (a 42, .inl (cI, 200, .inl (P 42))), (a 43, .inl (cI, 200, .inl (P 43))), (a 44, .inl (cI, 200, .inl (P 44))), (a 50, .inl (cI, 60, .inl (P 50))), (a 51, .inl (cI, 60, .inl (P 51))), (a 52, .inl (cI, 60, .inl (P 52))), (a 53, .inl (cI, 60, .inl (P 53))), (a 54, .inl (cI, 60, .inl (P 54))), (a 55, .inl (cI, 60, .inl (P 55))), (a 56, .inl (cI, 60, .inl (P 56))), (a 57, .inl (cI, 60, .inl (P 57))), (a 58, .inl (cI, 60, .inl (P 58))), (a 59, .inl (cI, 12000, .inl (P 59))), (a 60, .inl (cI, 90, .inl (P 60))), (a 61, .inl (cI, 90, .inl (P 61))), (a 62, .inl (cI, 90, .inl (P 62))), (a 63, .inl (cI, 90, .inl (P 63))), (a 64, .inl (cI, 90, .inl (P 64))), (a 65, .inl (cI, 90, .inl (P 65)))]) [0, 3, 4, 5, 6, 13, 14, 15, 16, 17, 18, 19, 20, 21, 22, 23, 24, 25, 26, 27, 28, 29, 30, 31, 32, 33, 34, 35, 36, 37, 38] (by decide) rfl
      refine vp_callSi (W.runV (As := [.int (nI xi), .int (nI j13)]) (rest := [.int (nI j13), .ref (pa 1)]) ⟨hx, hb, hml, hown, hts⟩ (c_spareAt l D cI cZ cJ lo H.size a P xi j13 hw (by omega) (by omega)) (cwV 2 hts gX3_make_X6_spareAt rfl rfl rfl (by decide +kernel) ⟨(Nat.le_of_ble_eq_true rfl), (Nat.le_of_ble_eq_true rfl)⟩) ⟨Pre.blind, va_recv hK hP (ci := 6) (q0 := 0) rfl rfl, Pre.mk hPc (hDc.weaken (fun _ _ _ h => hAlo _ h)) hC hS hAlo⟩ rfl rfl hl.1 rfl (lv_room (Nat.le_of_ble_eq_true rfl)) dX3_make_29 ⟨(Nat.le_of_ble_eq_true rfl), (Nat.le_of_ble_eq_true rfl)⟩) (fun r_17 e_18 => ?_)
      clear hPc hDc
      refine sg_iast hx hb hK hP hD hS 42 0 rfl rfl (j := j13) rfl (by omega) (Nat.le_of_ble_eq_true rfl) dX3_make_32 (fun H locs hP hD hS => ?_)
      replace hP : va_P D vwCl (sg_St cI cZ a P q ++ sg_Pl cI cJ pa (sg_up U13 1 j13 r_17) V) H := hP
      replace hD : va_D A (sg_St cI cZ a P q ++ sg_Pl cI cJ pa (sg_up U13 1 j13 r_17) V) := hD
      refine lv_aload_n hx hb dX3_make_33 rfl (lv_at hl 1 rfl) ?_
      refine va_get (D := D) (ci := 3) (v := .ref (pa 2)) (C := RX3) (T := TX3) (N := 7) hx hb hts in3 hown hK hP 41 rfl rfl 2 (by decide) (hts (.fieldLink RX3 15 "Granary$Plan" "lack" "[I") (by decide +kernel)) (fun _ h9 => h9) rfl dX3_make_34 ?_
      refine lv_iload_n hx hb dX3_make_37 rfl (lv_at hl 0 rfl) ?_
      refine lv_aload_n hx hb dX3_make_38 rfl (lv_at hl 2 rfl) ?_
      refine lv_iload_n hx hb dX3_make_39 rfl (lv_at hl 3 rfl) ?_
      refine lv_iload_n hx hb dX3_make_40 rfl (lv_at hl 0 rfl) ?_
      have hPc := hP.sub (ws' := [(a 0, .inr (6, [.int (P 0 0), .ref (a 1), .ref (a 2), .ref (a 3), .ref (a 4), .ref (a 5), .ref (a 6), .ref (a 70), .ref (a 71)])), (a 3, .inr (4, [.ref (a 30), .ref (a 31), .ref (a 32), .ref (a 33), .ref (a 34)])), (a 4, .inr (1, [.int (P 0 3), .ref (a 40), .ref (a 41), .ref (a 42), .ref (a 43), .ref (a 44)])), (a 5, .inr (2, [.int (P 0 4), .ref (a 50), .ref (a 51), .ref (a 52), .ref (a 53), .ref (a 54), .ref (a 55), .ref (a 56), .ref (a 57), .ref (a 58), .ref (a 59)])), (a 6, .inr (7, [.int (P 0 5), .ref (a 60), .ref (a 61), .ref (a 62), .ref (a 63), .ref (a 64), .ref (a 65)])), (a 30, .inl (cZ, 30, .inl (P 30))), (a 31, .inl (cI, 30, .inl (P 31))), (a 32, .inl (cI, 30, .inl (P 32))), (a 33, .inl (cI, 30, .inl (P 33))), (a 34, .inl (cI, 30, .inl (P 34))), (a 40, .inl (cI, 200, .inl (P 40))), (a 41, .inl (cI, 200, .inl (P 41))), (a 42, .inl (cI, 200, .inl (P 42))), (a 43, .inl (cI, 200, .inl (P 43))), (a 44, .inl (cI, 200, .inl (P 44))), (a 50, .inl (cI, 60, .inl (P 50))), (a 51, .inl (cI, 60, .inl (P 51))), (a 52, .inl (cI, 60, .inl (P 52))), (a 53, .inl (cI, 60, .inl (P 53))), (a 54, .inl (cI, 60, .inl (P 54))), (a 55, .inl (cI, 60, .inl (P 55))), (a 56, .inl (cI, 60, .inl (P 56))), (a 57, .inl (cI, 60, .inl (P 57))), (a 58, .inl (cI, 60, .inl (P 58))), (a 59, .inl (cI, 12000, .inl (P 59))), (a 60, .inl (cI, 90, .inl (P 60))), (a 61, .inl (cI, 90, .inl (P 61))), (a 62, .inl (cI, 90, .inl (P 62))), (a 63, .inl (cI, 90, .inl (P 63))), (a 64, .inl (cI, 90, .inl (P 64))), (a 65, .inl (cI, 90, .inl (P 65)))]) [0, 3, 4, 5, 6, 13, 14, 15, 16, 17, 18, 19, 20, 21, 22, 23, 24, 25, 26, 27, 28, 29, 30, 31, 32, 33, 34, 35, 36, 37, 38] rfl
      have hDc := hD.sub (ws' := [(a 0, .inr (6, [.int (P 0 0), .ref (a 1), .ref (a 2), .ref (a 3), .ref (a 4), .ref (a 5), .ref (a 6), .ref (a 70), .ref (a 71)])), (a 3, .inr (4, [.ref (a 30), .ref (a 31), .ref (a 32), .ref (a 33), .ref (a 34)])), (a 4, .inr (1, [.int (P 0 3), .ref (a 40), .ref (a 41), .ref (a 42), .ref (a 43), .ref (a 44)])), (a 5, .inr (2, [.int (P 0 4), .ref (a 50), .ref (a 51), .ref (a 52), .ref (a 53), .ref (a 54), .ref (a 55), .ref (a 56), .ref (a 57), .ref (a 58), .ref (a 59)])), (a 6, .inr (7, [.int (P 0 5), .ref (a 60), .ref (a 61), .ref (a 62), .ref (a 63), .ref (a 64), .ref (a 65)])), (a 30, .inl (cZ, 30, .inl (P 30))), (a 31, .inl (cI, 30, .inl (P 31))), (a 32, .inl (cI, 30, .inl (P 32))), (a 33, .inl (cI, 30, .inl (P 33))), (a 34, .inl (cI, 30, .inl (P 34))), (a 40, .inl (cI, 200, .inl (P 40))), (a 41, .inl (cI, 200, .inl (P 41))), (a 42, .inl (cI, 200, .inl (P 42))), (a 43, .inl (cI, 200, .inl (P 43))), (a 44, .inl (cI, 200, .inl (P 44))), (a 50, .inl (cI, 60, .inl (P 50))), (a 51, .inl (cI, 60, .inl (P 51))), (a 52, .inl (cI, 60, .inl (P 52))), (a 53, .inl (cI, 60, .inl (P 53))), (a 54, .inl (cI, 60, .inl (P 54))), (a 55, .inl (cI, 60, .inl (P 55))), (a 56, .inl (cI, 60, .inl (P 56))), (a 57, .inl (cI, 60, .inl (P 57))), (a 58, .inl (cI, 60, .inl (P 58))), (a 59, .inl (cI, 12000, .inl (P 59))), (a 60, .inl (cI, 90, .inl (P 60))), (a 61, .inl (cI, 90, .inl (P 61))), (a 62, .inl (cI, 90, .inl (P 62))), (a 63, .inl (cI, 90, .inl (P 63))), (a 64, .inl (cI, 90, .inl (P 64))), (a 65, .inl (cI, 90, .inl (P 65)))]) [0, 3, 4, 5, 6, 13, 14, 15, 16, 17, 18, 19, 20, 21, 22, 23, 24, 25, 26, 27, 28, 29, 30, 31, 32, 33, 34, 35, 36, 37, 38] (by decide) rfl
      refine vp_callSi (W.runV (As := [.int (nI xi), .int (nI j13)]) (rest := [.int (nI j13), .ref (pa 2)]) ⟨hx, hb, hml, hown, hts⟩ (c_lackAt l D cI cZ cJ lo H.size a P xi j13 hw (by omega) (by omega)) (cwV 2 hts gX3_make_X6_lackAt rfl rfl rfl (by decide +kernel) ⟨(Nat.le_of_ble_eq_true rfl), (Nat.le_of_ble_eq_true rfl)⟩) ⟨Pre.blind, va_recv hK hP (ci := 6) (q0 := 0) rfl rfl, Pre.mk hPc (hDc.weaken (fun _ _ _ h => hAlo _ h)) hC hS hAlo⟩ rfl rfl hl.1 rfl (lv_room (Nat.le_of_ble_eq_true rfl)) dX3_make_41 ⟨(Nat.le_of_ble_eq_true rfl), (Nat.le_of_ble_eq_true rfl)⟩) (fun r_19 e_20 => ?_)
      clear hPc hDc
      refine sg_iast hx hb hK hP hD hS 43 0 rfl rfl (j := j13) rfl (by omega) (Nat.le_of_ble_eq_true rfl) dX3_make_44 (fun H locs hP hD hS => ?_)
      replace hP : va_P D vwCl (sg_St cI cZ a P q ++ sg_Pl cI cJ pa (sg_up (sg_up U13 1 j13 r_17) 2 j13 r_19) V) H := hP
      replace hD : va_D A (sg_St cI cZ a P q ++ sg_Pl cI cJ pa (sg_up (sg_up U13 1 j13 r_17) 2 j13 r_19) V) := hD
      refine lv_iinc (v := nI (j13 + 1)) (lv' := [(3, .int (nI (j13 + 1))), (0, .ref (pa 0)), (1, .ref (a 0)), (2, .int (nI xi))]) hx hb dX3_make_45 hl (k := 0) rfl (nI_1 j13) (by decide) rfl (fun ls hl => ?_)
      refine lv_goto (tgt := 13) hx hb dX3_make_48 (by decide) ?_
      have e_18 : sg_spareAt P xi j13 = r_17 := Eq.symm e_18
      subst e_18
      have e_20 : sg_lackAt P xi j13 = r_19 := Eq.symm e_20
      subst e_20
      have hl8 := hl; have hS8 := hS; have hD8 := hD; have hP8 := hP
      subst hU13
      exact ih13 (j13 + 1) (sg_up (sg_up (sg_make_13 U V P xi j13) 1 j13 (sg_spareAt P xi j13)) 2 j13 (sg_lackAt P xi j13)) _ _ _ (show (sg_up (sg_up (sg_make_13 U V P xi j13) 1 j13 (sg_spareAt P xi j13)) 2 j13 (sg_lackAt P xi j13) : sg_Pic) = sg_make_13 U V P xi (j13 + 1) from by rw [sg_make_13]) (by omega) (by omega) (lv_sub hl8 [0, 1, 2, 3] rfl) hS8 hD8 hP8
