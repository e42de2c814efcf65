/-! THE CLAIM OUT OF ONE WALK OF THE LAW'S BODY. Your part is whole_start (and what it stands on); all else here is the same for every law, but numbers. -/
def R_law : String := "GranaryLaw"
def lw_P (b : Addr) (xs : List Int32) (args : Array Value) (s : State) : Prop := args = #[.ref b] ∧ s.IntsAt b xs ∧ xs.length ≤ 260 ∧ (Jvm.Cond.and given_1 narrow_1).before args s = true
def lw_Q (_ : Array Value) (s : State) (o : Outcome) (t : State) : Prop := o = .returned (some (.int 1)) ∧ Framed s o t [] 600074 7301550
def lw_Z (below : List Frame) (a : Array Value) (s : State) : State → Prop := fun t => ∃ o, t.status = .running ∧ Ended t below o ∧ lw_Q a s o t
/-- the law's own end, with 1 on the stack, nothing written that was there before, its room as the claim has it -/
theorem lw_ret {p : Program} {l : Launch} {e : Env} {s : State} {m : MethodId} {below : List Frame} {meth : Method} {c : Code} {b : Nat} (hx : p.tables.exec = Jvm.exec) (hb : c.code = code) (hr : meth.sig.returnType = ret) (hlocks : meth.locks = false) {pc : Nat} {H : Heap} {ls : Array Slot} (hdg : decode code pc = .ok (.ireturn, 1)) : W p l e room_1 s m #[Value.ref b] below meth c H [] 600074 7301550 (lw_Z below #[Value.ref b] s) (F0 m pc ls [.int 1]) := by
  intro T hT X
  obtain ⟨fs, hret, hrun, hended, hW, hframe⟩ := X.leave (v := some (.int 1)) (hlocks := hlocks) (fun h => by rw [hr] at h; cases h)
  have hmeth' : T.vm.method? m = some meth := X.method'
  refine ⟨T.setFrames fs, ?_, .returned (some (.int 1)), hrun, hended, rfl, ⟨_, rfl⟩, hW, hframe⟩
  jvm_step X.here [X.here.top, hx, hb, hdg, hmeth', hr, ret, narrow_b1]
  (try refine ⟨rfl, ?_⟩); (try refine ⟨rfl, ?_⟩)
  first | (intro acts; rw [hret _ acts rfl rfl rfl]) | rw [hret _ _ rfl rfl rfl]
  exact Steps.refl _
/-- what holds at the law's entry: the machine, the code, the tables' words (any of lw_tbl by 'hts w (by decide +kernel)'), the script of L ints xs at the cell b, what the Statement gives of the start (any of its parts by flat_of_before) -/
def lw_At (p : Program) (s : State) (m : MethodId) (meth : Method) (c : Code) (b L : Nat) (xs : Nat → Int32) : Prop :=
  p.tables.exec = Jvm.exec ∧ c.code = code ∧ meth.sig.returnType = ret ∧ c.maxLocals = 21 ∧ s.vm.findClass R_law = some m.cls ∧ (∀ w ∈ lw_tbl, w.before #[Value.ref b] s = true) ∧ va_X b L xs s s.heap ∧ b < s.heap.size ∧ meth.locks = false ∧ (Jvm.Cond.and given_1 narrow_1).before #[Value.ref b] s = true

set_option maxHeartbeats 4000000 in
set_option maxRecDepth 100000 in
/-- what every contract takes, at the law's entry -/
theorem cx_start {p : Program} {s : State} {m : MethodId} {meth : Method} {c : Code} {b L : Nat} {xs : Nat → Int32} (C0 : lw_At p s m meth c b L xs) : ∃ (D : va_G) (cI cZ cJ : ClassId), CX s.heap.size D cI cZ cJ s ∧ sg_AOA s := by
  obtain ⟨hx, hb, hr, hml, hown, hts0, hX, hbl, hlocks, hgv⟩ := id C0
  have hts : ∀ w ∈ wsL_law, w.before #[Value.ref b] s = true := fun w h => hts0 w (wsL_law_in w h)
  obtain ⟨c0, iS0, hKn0⟩ := u_known (C := RX0) (T := TX0) (N := 5) (n := 5) hts inlX0 (hts (.instantiable RX0 5) (by decide +kernel))
  obtain ⟨c1, iS1, hKn1⟩ := u_known (C := RX1) (T := TX1) (N := 6) (n := 6) hts inlX1 (hts (.instantiable RX1 6) (by decide +kernel))
  obtain ⟨c2, iS2, hKn2⟩ := u_known (C := RX2) (T := TX2) (N := 11) (n := 11) hts inlX2 (hts (.instantiable RX2 11) (by decide +kernel))
  obtain ⟨c3, iS3, hKn3⟩ := u_known (C := RX3) (T := TX3) (N := 7) (n := 7) hts inlX3 (hts (.instantiable RX3 7) (by decide +kernel))
  obtain ⟨c4, iS4, hKn4⟩ := u_known (C := RX4) (T := TX4) (N := 5) (n := 5) hts inlX4 (hts (.instantiable RX4 5) (by decide +kernel))
  obtain ⟨c5, iS5, hKn5⟩ := u_known (C := RX5) (T := TX5) (N := 3) (n := 3) hts inlX5 (hts (.instantiable RX5 3) (by decide +kernel))
  obtain ⟨c6, iS6, hKn6⟩ := u_known (C := RX6) (T := TX6) (N := 9) (n := 9) hts inlX6 (hts (.instantiable RX6 9) (by decide +kernel))
  obtain ⟨c7, iS7, hKn7⟩ := u_known (C := RX7) (T := TX7) (N := 7) (n := 7) hts inlX7 (hts (.instantiable RX7 7) (by decide +kernel))
  obtain ⟨c8, iS8, hKn8⟩ := u_known (C := RX8) (T := TX8) (N := 3) (n := 3) hts inlX8 (hts (.instantiable RX8 3) (by decide +kernel))
  obtain ⟨c9, iS9, hKn9⟩ := u_known (C := RX9) (T := TX9) (N := 24) (n := 24) hts inlX9 (hts (.instantiable RX9 24) (by decide +kernel))
  obtain ⟨D, hKc⟩ : ∃ D : va_G, ∀ (k : Nat) (q : vw_C), vwCl[k]? = some q → u_Kn s q.1 q.2.1 q.2.2 (D.1 k) (D.2 k) := by
    refine ⟨(fun k => if k = 0 then c0 else if k = 1 then c1 else if k = 2 then c2 else if k = 3 then c3 else if k = 4 then c4 else if k = 5 then c5 else if k = 6 then c6 else if k = 7 then c7 else if k = 8 then c8 else c9, fun k => if k = 0 then iS0 else if k = 1 then iS1 else if k = 2 then iS2 else if k = 3 then iS3 else if k = 4 then iS4 else if k = 5 then iS5 else if k = 6 then iS6 else if k = 7 then iS7 else if k = 8 then iS8 else iS9), ?_⟩
    intro k q hq
    match k, hq with
    | 0, hq => cases hq; exact hKn0
    | 1, hq => cases hq; exact hKn1
    | 2, hq => cases hq; exact hKn2
    | 3, hq => cases hq; exact hKn3
    | 4, hq => cases hq; exact hKn4
    | 5, hq => cases hq; exact hKn5
    | 6, hq => cases hq; exact hKn6
    | 7, hq => cases hq; exact hKn7
    | 8, hq => cases hq; exact hKn8
    | 9, hq => cases hq; exact hKn9
    | k + 10, hq => simp [vwCl] at hq
  obtain ⟨cI, kI, pI, iI1, iI2, iI3⟩ := Cond.arrayClass_spec (hts (.arrayClass .int) (by decide +kernel))
  have aI : ArrOfT s cI .int ∧ va_RA s cI .int := ⟨fun n z => ⟨fun k h => (by cases h), kI, iI2, pI, iI3⟩, iI1⟩
  obtain ⟨cZ, kZ, pZ, iZ1, iZ2, iZ3⟩ := Cond.arrayClass_spec (hts (.arrayClass .boolean) (by decide +kernel))
  have aZ : ArrOfT s cZ .boolean ∧ va_RA s cZ .boolean := ⟨fun n z => ⟨fun k h => (by cases h), kZ, iZ2, pZ, iZ3⟩, iZ1⟩
  obtain ⟨cJ, kJ, pJ, iJ1, iJ2, iJ3⟩ := Cond.arrayClass_spec (hts (.arrayClass .long) (by decide +kernel))
  have aJ : ArrOfT s cJ .long ∧ va_RA s cJ .long := ⟨fun n z => ⟨fun k h => (by cases h), kJ, iJ2, pJ, iJ3⟩, iJ1⟩
  have hK : va_K D vwCl [(cI, .int), (cZ, .boolean), (cJ, .long)] s := by
    refine ⟨hKc, fun k q hq => ?_⟩
    match k, hq with
    | 0, hq => cases hq; exact aI
    | 1, hq => cases hq; exact aZ
    | 2, hq => cases hq; exact aJ
    | k + 3, hq => simp at hq
  have hN : NX s := ⟨va_Nw.of rfl (hts0 (.methodLinkNest RX5 26 yX8_pair "Granary") (by decide +kernel)), va_Nw.of rfl (hts0 (.methodLinkNest RX4 28 yX8_pair "Granary") (by decide +kernel)), va_Nw.of rfl (hts0 (.methodLinkNest RX6 117 yX8_pair "Granary") (by decide +kernel)), va_Nw.of rfl (hts0 (.methodLinkNest RX3 52 yX8_pair "Granary") (by decide +kernel)), va_Nw.of rfl (hts0 (.methodLinkNest RX8 9 yX6_init "Granary") (by decide +kernel)), va_Nw.of rfl (hts0 (.methodLinkNest RX6 11 yX0_init "Granary") (by decide +kernel)), va_Nw.of rfl (hts0 (.methodLinkNest RX6 20 yX5_init "Granary") (by decide +kernel)), va_Nw.of rfl (hts0 (.methodLinkNest RX6 27 yX4_init "Granary") (by decide +kernel)), va_Nw.of rfl (hts0 (.methodLinkNest RX6 34 yX1_init "Granary") (by decide +kernel)), va_Nw.of rfl (hts0 (.methodLinkNest RX6 41 yX2_init "Granary") (by decide +kernel)), va_Nw.of rfl (hts0 (.methodLinkNest RX6 48 yX7_init "Granary") (by decide +kernel)), va_Nw.of rfl (hts0 (.methodLinkNest RX8 21 yX3_init "Granary") (by decide +kernel)), va_Nw.of rfl (hts0 (.methodLinkNest RX9 57 yL_cell "GranaryLaw") (by decide +kernel)), va_Nw.of rfl (hts0 (.methodLinkNest RX9 63 yL_below "GranaryLaw") (by decide +kernel))⟩
  exact ⟨D, cI, cZ, cJ, ⟨Nat.le_refl _, hK, hN⟩, sg_AOA.of (hts0 (.arrayOver (.array .int)) (by decide +kernel))⟩
