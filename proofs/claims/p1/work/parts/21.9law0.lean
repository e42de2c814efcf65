def LA (s : State) : Nat → Prop := fun q => s.heap.size ≤ q
/-- what holds in the law's body all along -/
def LC (s : State) (p : Program) (m : MethodId) (c : Code) (D : va_G) (cI cZ cJ : ClassId) (b : Nat) (xs : Nat → Int32) : Prop :=
  p.tables.exec = Jvm.exec ∧ c.code = cL_law ∧ c.maxLocals = 9 ∧ s.vm.findClass RL = some m.cls ∧ (∀ w ∈ wsL_law, w.before #[Value.ref b] s = true) ∧ va_X b 7 xs s s.heap ∧ b < s.heap.size ∧ CX s.heap.size D cI cZ cJ s
/-- the way on behind a call -/
def LT (p : Program) (l : Launch) (e : Env) (s : State) (m : MethodId) (below : List Frame) (meth : Method) (c : Code) (b : Nat) (Q : State → Prop) : Prop :=
  ∀ (H : Heap) (locs : List Loc) (ls : Array Slot), va_S (LA s) s.heap H locs → lv_has ls 9 [(0, .ref b), (4, .int 0)] → W p l e room_1 s m #[Value.ref b] below meth c H locs 1000 200000 Q (F0 m 2855 ls [])
theorem lg_cmp_self (x : Int64) : lg_cmp x x = 0 := by simp [lg_cmp]

theorem len7 {L : Nat} (hL : L ≤ 7) (c : ¬ (Int32.ofNat L - 7 < 0)) : L = 7 := by
  rcases (show L = 0 ∨ L = 1 ∨ L = 2 ∨ L = 3 ∨ L = 4 ∨ L = 5 ∨ L = 6 ∨ L = 7 by omega) with rfl | rfl | rfl | rfl | rfl | rfl | rfl | rfl
  all_goals first | rfl | exact absurd (by decide) c

set_option maxHeartbeats 4000000 in
set_option maxRecDepth 100000 in
/-- behind a call: the loop ends -/
theorem law_tail {p : Program} {l : Launch} {e : Env} {s : State} {m : MethodId} {below : List Frame} {meth : Method} {c : Code} {Q : State → Prop} {D : va_G} {cI cZ cJ : ClassId} {b : Nat} {xs : Nat → Int32} (C0 : LC s p m c D cI cZ cJ b xs)
    (E : ∀ (H : Heap) (locs : List Loc) (ls : Array Slot), va_S (LA s) s.heap H locs → W p l e room_1 s m #[Value.ref b] below meth c H locs 1000 200000 Q (F0 m 2861 ls [])) : LT p l e s m below meth c b Q := by
  obtain ⟨hx, hb, hml, hown, hts, hX, hbl, hC⟩ := C0
  have hbA : ¬ LA s b := Nat.not_le.mpr hbl
  intro H locs ls hS hl
  refine lv_iinc (v := 7) (lv' := [(4, .int 7), (0, .ref b)]) hx hb dL_law_2855 hl (k := 1) rfl (by decide) (by decide) rfl (fun ls hl => ?_)
  refine lv_goto (tgt := 23) hx hb dL_law_2858 (by decide) ?_
  refine lv_iload hx hb dL_law_23 (lv_at hl 0 rfl) ?_
  refine lv_aload_n hx hb dL_law_25 rfl (lv_at hl 1 rfl) ?_
  refine va_slen hx hb hX hbl hbA hS dL_law_26 ?_
  refine lv_toi (y := 7) rfl ?_
  refine lv_bipush (v := 7) hx hb dL_law_27 (by decide) ?_
  refine lv_isub hx hb dL_law_29 ?_
  refine lv_toi (y := 0) (by decide) ?_
  refine lv_icmp_gt (tgt := 2861) hx hb dL_law_30 (by decide) (fun _ => ?_) (fun c9 => absurd (show (0 : Int32) < (7 : Int32) from (by decide)) c9)
  exact E H _ _ hS
