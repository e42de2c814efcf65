theorem sg_subN {a b : Nat} (h : b ≤ a) (ha : a < 2 ^ 31) : nI a - nI b = nI (a - b) := by
  apply sg_ext
  rw [sg_sub (by rw [nI_toInt ha, nI_toInt (by omega)]; omega) (by rw [nI_toInt ha, nI_toInt (by omega)]; omega), nI_toInt ha, nI_toInt (by omega), nI_toInt (by omega)]
  omega
theorem sg_ne_mod {f k n : Nat} (hn : 2 ≤ n) (hf : f < n) (hk : k < n - 1) : ¬ (f = (f + 1 + k) % n) := by
  rcases Nat.lt_or_ge (f + 1 + k) n with q | q
  · rw [Nat.mod_eq_of_lt q]
    omega
  · rw [Nat.mod_eq_sub_mod q, Nat.mod_eq_of_lt (by omega)]
    omega
theorem sg_room30 {x : Int32} {u : Nat} (c : ¬ (x ≤ 30)) (hu : u ≤ 30) : nI u ≤ x := by
  have c1 : ¬ x.toInt ≤ 30 := fun q => c (sg_le.mpr q)
  rw [sg_le, nI_toInt (by omega)]
  omega
def LA (s : State) : Nat → Prop := fun q => s.heap.size ≤ q
/-- what holds in the law's body all along -/
def LC (s : State) (p : Program) (m : MethodId) (c : Code) (D : va_G) (cI cZ cJ : ClassId) (b0 L0 : Nat) (xs : Nat → Int32) : Prop :=
  p.tables.exec = Jvm.exec ∧ c.code = cL_law ∧ c.maxLocals = 21 ∧ s.vm.findClass RL = some m.cls ∧ (∀ w ∈ wsL_law, w.before #[Value.ref b0] s = true) ∧ (b0 < s.heap.size ∧ va_X b0 L0 xs s s.heap ∧ L0 < 2 ^ 31) ∧ CX s.heap.size D cI cZ cJ s ∧ sg_AOA s
