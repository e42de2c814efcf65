/-- the links between nest mates -/
def NX (U : State) : Prop := va_Nw (.methodLinkNest RX5 26 yX8_pair "Granary") U ∧ va_Nw (.methodLinkNest RX4 28 yX8_pair "Granary") U ∧ va_Nw (.methodLinkNest RX6 117 yX8_pair "Granary") U ∧ va_Nw (.methodLinkNest RX3 52 yX8_pair "Granary") U ∧ va_Nw (.methodLinkNest RX8 9 yX6_init "Granary") U ∧ va_Nw (.methodLinkNest RX6 11 yX0_init "Granary") U ∧ va_Nw (.methodLinkNest RX6 20 yX5_init "Granary") U ∧ va_Nw (.methodLinkNest RX6 27 yX4_init "Granary") U ∧ va_Nw (.methodLinkNest RX6 34 yX1_init "Granary") U ∧ va_Nw (.methodLinkNest RX6 41 yX2_init "Granary") U ∧ va_Nw (.methodLinkNest RX6 48 yX7_init "Granary") U ∧ va_Nw (.methodLinkNest RX8 21 yX3_init "Granary") U ∧ va_Nw (.methodLinkNest RX9 57 yL_cell "GranaryLaw") U ∧ va_Nw (.methodLinkNest RX9 63 yL_below "GranaryLaw") U
theorem NX.warm {s U : State} (hW : s.WarmedH U.vm) (h : NX s) : NX U := by
  obtain ⟨h0, h1, h2, h3, h4, h5, h6, h7, h8, h9, h10, h11, h12, h13⟩ := h
  exact ⟨va_Nw.warmM hW h0, va_Nw.warmM hW h1, va_Nw.warmM hW h2, va_Nw.warmM hW h3, va_Nw.warmM hW h4, va_Nw.warmM hW h5, va_Nw.warmM hW h6, va_Nw.warmM hW h7, va_Nw.warmM hW h8, va_Nw.warmM hW h9, va_Nw.warmM hW h10, va_Nw.warmM hW h11, va_Nw.warmM hW h12, va_Nw.warmM hW h13⟩
/-- what every contract takes of its state: lo is below all that is of this run -/
def CX (lo : Nat) (D : va_G) (cI cZ cJ : ClassId) (U : State) : Prop := lo ≤ U.heap.size ∧ va_K D vwCl [(cI, .int), (cZ, .boolean), (cJ, .long)] U ∧ NX U
theorem CX.at {lo : Nat} {D : va_G} {cI cZ cJ : ClassId} {s U : State} {H : Heap} {A : Nat → Prop} {locs : List Loc} (h : CX lo D cI cZ cJ s) (hS : va_S A s.heap H locs) (hAlo : ∀ q, A q → lo ≤ q) (hU : U.heap = H) (hW : s.WarmedH U.vm) : CX lo D cI cZ cJ U :=
  ⟨by rw [hU]; exact Nat.le_trans h.1 hS.1, va_K.moved hW.alike h.2.1, h.2.2.warm hW⟩
theorem CX.call {lo : Nat} {D : va_G} {cI cZ cJ : ClassId} {U : State} (h : CX lo D cI cZ cJ U) (g : JFrame) (mk : MethodId) (a : Array Value) : CX lo D cI cZ cJ (U.calling g mk a) :=
  h.at (A := fun _ => False) (locs := []) (H := U.heap) va_S.rf (fun _ h => h.elim) rfl (State.WarmedH.refl U)
theorem CX.K {lo : Nat} {D : va_G} {cI cZ cJ : ClassId} {U : State} (h : CX lo D cI cZ cJ U) : va_K D vwCl [(cI, .int), (cZ, .boolean), (cJ, .long)] U := h.2.1
/-- a contract's start: these arguments, a heap of sz cells, the cells ws among those from lo on -/
def Pre (lo : Nat) (D : va_G) (cI cZ cJ : ClassId) (av : List Value) (sz : Nat) (ws : va_W) : Array Value → State → Prop := va_Pc av (fun U => U.heap.size = sz ∧ va_P D vwCl ws U.heap ∧ va_D (fun q => lo ≤ q) ws ∧ CX lo D cI cZ cJ U)
theorem Pre.blind {lo : Nat} {D : va_G} {cI cZ cJ : ClassId} {av : List Value} {sz : Nat} {ws : va_W} : FrameBlind (Pre lo D cI cZ cJ av sz ws) := fun a _ g mk q => ⟨q.1, q.2.1, q.2.2.1, q.2.2.2.1, q.2.2.2.2.call g mk a⟩
theorem Pre.mk {lo : Nat} {D : va_G} {cI cZ cJ : ClassId} {av : List Value} {wc : va_W} {s : State} {H : Heap} {A : Nat → Prop} {locs : List Loc} (hP : va_P D vwCl wc H) (hD : va_D (fun q => lo ≤ q) wc) (hC : CX lo D cI cZ cJ s) (hS : va_S A s.heap H locs) (hAlo : ∀ q, A q → lo ≤ q) : ∀ U : State, U.heap = H → s.WarmedH U.vm → Pre lo D cI cZ cJ av H.size wc av.toArray U :=
  fun U hU hW => ⟨rfl, by rw [hU], by rw [hU]; exact hP, hD, hC.at hS hAlo hU hW⟩
theorem va_A_lo {lo sz : Nat} {ws : va_W} (hD : va_D (fun q => lo ≤ q) ws) (h : lo ≤ sz) : ∀ q, va_A ws sz q → lo ≤ q := fun q hq => by
  rcases hq with ⟨k, e, hk⟩ | hq
  · exact hD.2 k _ hk
  · exact Nat.le_trans h hq
theorem va_rest {A0 : Nat → Prop} {D : va_G} {cl : List vw_C} {ws wc wr : va_W} {H H1 : Heap} (hP : va_P D cl ws H) (hD : va_D A0 ws) (isC isR : List Nat) (hC : isC.map (fun i => ws[i]?) = wc.map some) (hR : isR.map (fun i => ws[i]?) = wr.map some) (hn : va_nd isR = true) (hdis : ∀ i ∈ isR, i ∉ isC)
    (hk : ∀ q : Nat, q < H.size → ¬ va_A wc H.size q → H1[q]? = H[q]?) (hF : ∀ q, va_A wc H.size q → A0 q) : va_P D cl wr H1 ∧ va_D A0 wr := by
  have h := va_join (w1 := []) hP hD isC isR hC hR hn hdis hk hF (fun k q h => by simp at h) ⟨fun i j p q h => by simp at h, fun k q h => by simp at h⟩
  rwa [List.append_nil] at h
theorem CX.nestX5_26 {lo : Nat} {D : va_G} {cI cZ cJ : ClassId} {U : State} (h : CX lo D cI cZ cJ U) : va_Nw (.methodLinkNest RX5 26 yX8_pair "Granary") U := h.2.2.1
theorem CX.nestX4_28 {lo : Nat} {D : va_G} {cI cZ cJ : ClassId} {U : State} (h : CX lo D cI cZ cJ U) : va_Nw (.methodLinkNest RX4 28 yX8_pair "Granary") U := h.2.2.2.1
theorem CX.nestX6_117 {lo : Nat} {D : va_G} {cI cZ cJ : ClassId} {U : State} (h : CX lo D cI cZ cJ U) : va_Nw (.methodLinkNest RX6 117 yX8_pair "Granary") U := h.2.2.2.2.1
theorem CX.nestX3_52 {lo : Nat} {D : va_G} {cI cZ cJ : ClassId} {U : State} (h : CX lo D cI cZ cJ U) : va_Nw (.methodLinkNest RX3 52 yX8_pair "Granary") U := h.2.2.2.2.2.1
theorem CX.nestX8_9 {lo : Nat} {D : va_G} {cI cZ cJ : ClassId} {U : State} (h : CX lo D cI cZ cJ U) : va_Nw (.methodLinkNest RX8 9 yX6_init "Granary") U := h.2.2.2.2.2.2.1
theorem CX.nestX6_11 {lo : Nat} {D : va_G} {cI cZ cJ : ClassId} {U : State} (h : CX lo D cI cZ cJ U) : va_Nw (.methodLinkNest RX6 11 yX0_init "Granary") U := h.2.2.2.2.2.2.2.1
theorem CX.nestX6_20 {lo : Nat} {D : va_G} {cI cZ cJ : ClassId} {U : State} (h : CX lo D cI cZ cJ U) : va_Nw (.methodLinkNest RX6 20 yX5_init "Granary") U := h.2.2.2.2.2.2.2.2.1
theorem CX.nestX6_27 {lo : Nat} {D : va_G} {cI cZ cJ : ClassId} {U : State} (h : CX lo D cI cZ cJ U) : va_Nw (.methodLinkNest RX6 27 yX4_init "Granary") U := h.2.2.2.2.2.2.2.2.2.1
theorem CX.nestX6_34 {lo : Nat} {D : va_G} {cI cZ cJ : ClassId} {U : State} (h : CX lo D cI cZ cJ U) : va_Nw (.methodLinkNest RX6 34 yX1_init "Granary") U := h.2.2.2.2.2.2.2.2.2.2.1
theorem CX.nestX6_41 {lo : Nat} {D : va_G} {cI cZ cJ : ClassId} {U : State} (h : CX lo D cI cZ cJ U) : va_Nw (.methodLinkNest RX6 41 yX2_init "Granary") U := h.2.2.2.2.2.2.2.2.2.2.2.1
theorem CX.nestX6_48 {lo : Nat} {D : va_G} {cI cZ cJ : ClassId} {U : State} (h : CX lo D cI cZ cJ U) : va_Nw (.methodLinkNest RX6 48 yX7_init "Granary") U := h.2.2.2.2.2.2.2.2.2.2.2.2.1
theorem CX.nestX8_21 {lo : Nat} {D : va_G} {cI cZ cJ : ClassId} {U : State} (h : CX lo D cI cZ cJ U) : va_Nw (.methodLinkNest RX8 21 yX3_init "Granary") U := h.2.2.2.2.2.2.2.2.2.2.2.2.2.1
theorem CX.nestX9_57 {lo : Nat} {D : va_G} {cI cZ cJ : ClassId} {U : State} (h : CX lo D cI cZ cJ U) : va_Nw (.methodLinkNest RX9 57 yL_cell "GranaryLaw") U := h.2.2.2.2.2.2.2.2.2.2.2.2.2.2.1
theorem CX.nestX9_63 {lo : Nat} {D : va_G} {cI cZ cJ : ClassId} {U : State} (h : CX lo D cI cZ cJ U) : va_Nw (.methodLinkNest RX9 63 yL_below "GranaryLaw") U := h.2.2.2.2.2.2.2.2.2.2.2.2.2.2.2
section TO
variable {p : Program} {l : Launch} {e : Env} {R : Room} {s : State} {m : MethodId} {args : Array Value} {below : List Frame} {meth : Method} {c : Code} {H : Heap} {locs : List Loc} {cells slots : Nat} {Q : State → Prop} {pc : Nat} {ls : Array Slot} {rest : List Value}
theorem lv_toi {x y : Int32} (h : x = y) (k : W p l e R s m args below meth c H locs cells slots Q (F0 m pc ls (.int y :: rest))) : W p l e R s m args below meth c H locs cells slots Q (F0 m pc ls (.int x :: rest)) := by rw [h]; exact k
theorem lv_tol {x y : Int64} (h : x = y) (k : W p l e R s m args below meth c H locs cells slots Q (F0 m pc ls (.long y :: rest))) : W p l e R s m args below meth c H locs cells slots Q (F0 m pc ls (.long x :: rest)) := by rw [h]; exact k
theorem na_i {cc : ByteArray} {D : va_G} {cI cZ cJ : ClassId} {A : Nat → Prop} {H0 : Heap} {ws : va_W} (hexec : p.tables.exec = Jvm.exec) (hb : c.code = cc) (harr : (Cond.arrayClass .int).before args s = true) (hK : va_K D vwCl [(cI, .int), (cZ, .boolean), (cJ, .long)] s) (hP : va_P D vwCl ws H) (hD : va_D A ws) (hS : va_S A H0 H locs) (hA : ∀ q, H0.size ≤ q → A q)
    {n : Int32} {N' : Nat} (hn : ¬ n < 0) (hN : n.toNatClampNeg = N') (hbytes : N' * 4 ≤ 536870912) (hcells : cells + 1 ≤ R.cells) (hslots : slots + N' ≤ R.slots) (hdg : decode cc pc = .ok (.newarray .int, 2))
    (kk : ∀ (q : Nat) (H1 : Heap), va_P D vwCl (ws ++ [(q, .inl (cI, N', .inl (fun _ => 0)))]) H1 → va_D A (ws ++ [(q, .inl (cI, N', .inl (fun _ => 0)))]) → va_S A H0 H1 locs →
      W p l e R s m args below meth c H1 locs (cells + 1) (slots + N') Q (F0 m (pc + 2) ls (.ref q :: rest))) : W p l e R s m args below meth c H locs cells slots Q (F0 m pc ls (.int n :: rest)) := by
  refine va_newa (atype := .int) (ty := .int) (a0 := (N', .inl (fun _ => 0))) hexec hb harr rfl hK hP hD hS hA (fun _ => rfl) hn hN hbytes hcells hslots hdg (fun q cA H1 hK1 hP1 hD1 hS1 => ?_)
  have e1 := (hK1.2 3 _ rfl).2
  have e0 := (hK.2 0 _ rfl).2
  have e : cA = cI := Option.some.inj (e1.symm.trans e0)
  subst e
  exact kk q H1 hP1 hD1 hS1
theorem na_z {cc : ByteArray} {D : va_G} {cI cZ cJ : ClassId} {A : Nat → Prop} {H0 : Heap} {ws : va_W} (hexec : p.tables.exec = Jvm.exec) (hb : c.code = cc) (harr : (Cond.arrayClass .boolean).before args s = true) (hK : va_K D vwCl [(cI, .int), (cZ, .boolean), (cJ, .long)] s) (hP : va_P D vwCl ws H) (hD : va_D A ws) (hS : va_S A H0 H locs) (hA : ∀ q, H0.size ≤ q → A q)
    {n : Int32} {N' : Nat} (hn : ¬ n < 0) (hN : n.toNatClampNeg = N') (hbytes : N' * 1 ≤ 536870912) (hcells : cells + 1 ≤ R.cells) (hslots : slots + N' ≤ R.slots) (hdg : decode cc pc = .ok (.newarray .boolean, 2))
    (kk : ∀ (q : Nat) (H1 : Heap), va_P D vwCl (ws ++ [(q, .inl (cZ, N', .inl (fun _ => 0)))]) H1 → va_D A (ws ++ [(q, .inl (cZ, N', .inl (fun _ => 0)))]) → va_S A H0 H1 locs →
      W p l e R s m args below meth c H1 locs (cells + 1) (slots + N') Q (F0 m (pc + 2) ls (.ref q :: rest))) : W p l e R s m args below meth c H locs cells slots Q (F0 m pc ls (.int n :: rest)) := by
  refine va_newa (atype := .boolean) (ty := .boolean) (a0 := (N', .inl (fun _ => 0))) hexec hb harr rfl hK hP hD hS hA (fun _ => rfl) hn hN hbytes hcells hslots hdg (fun q cA H1 hK1 hP1 hD1 hS1 => ?_)
  have e1 := (hK1.2 3 _ rfl).2
  have e0 := (hK.2 1 _ rfl).2
  have e : cA = cZ := Option.some.inj (e1.symm.trans e0)
  subst e
  exact kk q H1 hP1 hD1 hS1
theorem na_l {cc : ByteArray} {D : va_G} {cI cZ cJ : ClassId} {A : Nat → Prop} {H0 : Heap} {ws : va_W} (hexec : p.tables.exec = Jvm.exec) (hb : c.code = cc) (harr : (Cond.arrayClass .long).before args s = true) (hK : va_K D vwCl [(cI, .int), (cZ, .boolean), (cJ, .long)] s) (hP : va_P D vwCl ws H) (hD : va_D A ws) (hS : va_S A H0 H locs) (hA : ∀ q, H0.size ≤ q → A q)
    {n : Int32} {N' : Nat} (hn : ¬ n < 0) (hN : n.toNatClampNeg = N') (hbytes : N' * 8 ≤ 536870912) (hcells : cells + 1 ≤ R.cells) (hslots : slots + N' ≤ R.slots) (hdg : decode cc pc = .ok (.newarray .long, 2))
    (kk : ∀ (q : Nat) (H1 : Heap), va_P D vwCl (ws ++ [(q, .inl (cJ, N', .inr (.inl (fun _ => 0))))]) H1 → va_D A (ws ++ [(q, .inl (cJ, N', .inr (.inl (fun _ => 0))))]) → va_S A H0 H1 locs →
      W p l e R s m args below meth c H1 locs (cells + 1) (slots + N') Q (F0 m (pc + 2) ls (.ref q :: rest))) : W p l e R s m args below meth c H locs cells slots Q (F0 m pc ls (.int n :: rest)) := by
  refine va_newa (atype := .long) (ty := .long) (a0 := (N', .inr (.inl (fun _ => 0)))) hexec hb harr rfl hK hP hD hS hA (fun _ => rfl) hn hN hbytes hcells hslots hdg (fun q cA H1 hK1 hP1 hD1 hS1 => ?_)
  have e1 := (hK1.2 3 _ rfl).2
  have e0 := (hK.2 2 _ rfl).2
  have e : cA = cJ := Option.some.inj (e1.symm.trans e0)
  subst e
  exact kk q H1 hP1 hD1 hS1
end TO
