/-- a picture of a stock: row 0 its numbers, the others its rows -/
abbrev sg_Pic : Type := Nat → Nat → Int32
def sg_up (P : sg_Pic) (k i : Nat) (v : Int32) : sg_Pic := fun r => match Nat.beq r k with
  | true => upd (P k) i v
  | false => P r
theorem sg_up_s {P : sg_Pic} {k i : Nat} {v : Int32} : sg_up P k i v k = upd (P k) i v := by
  unfold sg_up
  rw [show Nat.beq k k = true from Nat.beq_refl k]
theorem sg_up_n {P : sg_Pic} {k i r : Nat} {v : Int32} (h : r ≠ k) : sg_up P k i v r = P r := by
  unfold sg_up
  have : Nat.beq r k = false := by
    cases hb : Nat.beq r k with
    | true => exact absurd (Nat.eq_of_beq_eq_true hb) h
    | false => rfl
  rw [this]
/-- numbers and flags as they have to be -/
def sg_W0 (R Z : Nat → Int32) : Prop := (R 1 = nI (R 1).toNatClampNeg ∧ (R 1).toNatClampNeg ≤ 6) ∧ (R 2 = nI (R 2).toNatClampNeg ∧ (R 2).toNatClampNeg ≤ 5) ∧ (R 3 = nI (R 3).toNatClampNeg ∧ (R 3).toNatClampNeg ≤ 200) ∧ (R 4 = nI (R 4).toNatClampNeg ∧ (R 4).toNatClampNeg ≤ 60) ∧ (R 5 = nI (R 5).toNatClampNeg ∧ (R 5).toNatClampNeg ≤ 90) ∧ ∀ j, Z j = 0 ∨ Z j = 1
def sg_W (P : sg_Pic) : Prop := sg_W0 (P 0) (P 30)
def sg_cn (P : sg_Pic) (k : Nat) : Nat := (P 0 k).toNatClampNeg
theorem sg_W.n1 {P : sg_Pic} (h : sg_W P) : sg_cn P 1 ≤ 6 := h.1.2
theorem sg_W.n2 {P : sg_Pic} (h : sg_W P) : sg_cn P 2 ≤ 5 := h.2.1.2
theorem sg_W.n3 {P : sg_Pic} (h : sg_W P) : sg_cn P 3 ≤ 200 := h.2.2.1.2
theorem sg_W.n4 {P : sg_Pic} (h : sg_W P) : sg_cn P 4 ≤ 60 := h.2.2.2.1.2
theorem sg_W.n5 {P : sg_Pic} (h : sg_W P) : sg_cn P 5 ≤ 90 := h.2.2.2.2.1.2
theorem sg_W.e1 {P : sg_Pic} (h : sg_W P) : P 0 1 = nI (sg_cn P 1) := h.1.1
theorem sg_W.e2 {P : sg_Pic} (h : sg_W P) : P 0 2 = nI (sg_cn P 2) := h.2.1.1
theorem sg_W.e3 {P : sg_Pic} (h : sg_W P) : P 0 3 = nI (sg_cn P 3) := h.2.2.1.1
theorem sg_W.e4 {P : sg_Pic} (h : sg_W P) : P 0 4 = nI (sg_cn P 4) := h.2.2.2.1.1
theorem sg_W.e5 {P : sg_Pic} (h : sg_W P) : P 0 5 = nI (sg_cn P 5) := h.2.2.2.2.1.1
theorem sg_W.z {P : sg_Pic} (h : sg_W P) (j : Nat) : P 30 j = 0 ∨ P 30 j = 1 := h.2.2.2.2.2 j
/-- the same numbers, the same flags -/
def sg_K (P Q : sg_Pic) : Prop := P 0 = Q 0 ∧ P 30 = Q 30
theorem sg_K.W {P Q : sg_Pic} (h : sg_K P Q) (hw : sg_W Q) : sg_W P := by
  unfold sg_W
  rw [h.1, h.2]
  exact hw
theorem sg_K.c {P Q : sg_Pic} (h : sg_K P Q) (k : Nat) : sg_cn P k = sg_cn Q k := by
  unfold sg_cn
  rw [h.1]
theorem sg_K.e {P Q : sg_Pic} (h : sg_K P Q) (k : Nat) : P 0 k = Q 0 k := by rw [h.1]
theorem sg_K.trans {P Q R : sg_Pic} (h : sg_K P Q) (g : sg_K Q R) : sg_K P R := ⟨h.1.trans g.1, h.2.trans g.2⟩
/-- the same numbers but that of transports -/
def sg_K5 (P Q : sg_Pic) : Prop := (∀ k, k ≠ 5 → P 0 k = Q 0 k) ∧ P 30 = Q 30 ∧ (sg_W Q → sg_W P)
theorem sg_K5.W {P Q : sg_Pic} (h : sg_K5 P Q) (hw : sg_W Q) : sg_W P := h.2.2 hw
theorem sg_K5.e {P Q : sg_Pic} (h : sg_K5 P Q) (k : Nat) (hk : k ≠ 5) : P 0 k = Q 0 k := h.1 k hk
theorem sg_K5.of {P Q : sg_Pic} (h : sg_K P Q) : sg_K5 P Q := ⟨fun k _ => h.e k, h.2, h.W⟩
theorem sg_K5.trans {P Q R : sg_Pic} (h : sg_K5 P Q) (g : sg_K5 Q R) : sg_K5 P R := ⟨fun k hk => (h.1 k hk).trans (g.1 k hk), h.2.1.trans g.2.1, fun w => h.2.2 (g.2.2 w)⟩
/-- the same numbers but that of lots -/
def sg_K3 (P Q : sg_Pic) : Prop := (∀ k, k ≠ 3 → P 0 k = Q 0 k) ∧ P 30 = Q 30 ∧ (sg_W Q → sg_W P)
theorem sg_K3.W {P Q : sg_Pic} (h : sg_K3 P Q) (hw : sg_W Q) : sg_W P := h.2.2 hw
theorem sg_K3.e {P Q : sg_Pic} (h : sg_K3 P Q) (k : Nat) (hk : k ≠ 3) : P 0 k = Q 0 k := h.1 k hk
theorem sg_K3.of {P Q : sg_Pic} (h : sg_K P Q) : sg_K3 P Q := ⟨fun k _ => h.e k, h.2, h.W⟩
theorem sg_K3.trans {P Q R : sg_Pic} (h : sg_K3 P Q) (g : sg_K3 Q R) : sg_K3 P R := ⟨fun k hk => (h.1 k hk).trans (g.1 k hk), h.2.1.trans g.2.1, fun w => h.2.2 (g.2.2 w)⟩
/-- the same numbers of items, sites and orders -/
def sg_KD (P Q : sg_Pic) : Prop := P 0 1 = Q 0 1 ∧ P 0 2 = Q 0 2 ∧ P 0 4 = Q 0 4 ∧ P 30 = Q 30 ∧ (sg_W Q → sg_W P)
theorem sg_KD.W {P Q : sg_Pic} (h : sg_KD P Q) (hw : sg_W Q) : sg_W P := h.2.2.2.2 hw
theorem sg_KD.of {P Q : sg_Pic} (h : sg_K P Q) : sg_KD P Q := ⟨h.e 1, h.e 2, h.e 4, h.2, h.W⟩
theorem sg_KD.of5 {P Q : sg_Pic} (h : sg_K5 P Q) : sg_KD P Q := ⟨h.1 1 (by decide), h.1 2 (by decide), h.1 4 (by decide), h.2⟩
theorem sg_KD.of3 {P Q : sg_Pic} (h : sg_K3 P Q) : sg_KD P Q := ⟨h.1 1 (by decide), h.1 2 (by decide), h.1 4 (by decide), h.2⟩
theorem sg_KD.trans {P Q R : sg_Pic} (h : sg_KD P Q) (g : sg_KD Q R) : sg_KD P R := ⟨h.1.trans g.1, h.2.1.trans g.2.1, h.2.2.1.trans g.2.2.1, h.2.2.2.1.trans g.2.2.2.1, fun w => h.2.2.2.2 (g.2.2.2.2 w)⟩
theorem sg_geN {B : Int32} {N j : Nat} (hB : B = nI N) (h : N ≤ j) (hN : j < 2 ^ 31) : B ≤ nI j := by
  rw [hB]
  exact nI_le h hN
theorem sg_nge {B : Int32} {N j : Nat} (hB : B = nI N) (h : j < N) (hN : N < 2 ^ 31) : ¬ (B ≤ nI j) := by
  rw [hB]
  exact nI_ge h hN
theorem sg_lt {B : Int32} {N j : Nat} (hB : B = nI N) (c : ¬ (B ≤ nI j)) (hN : j < 2 ^ 31) : j < N := by
  rcases Nat.lt_or_ge j N with q | q
  · exact q
  · exact absurd (by rw [hB]; exact nI_le q hN) c
theorem sg_eq {B : Int32} {N j : Nat} (hB : B = nI N) (c : B ≤ nI j) (hj : j ≤ N) (hN : N < 2 ^ 31) : j = N := by
  rcases Nat.lt_or_ge j N with q | q
  · rw [hB] at c
    exact absurd c (nI_ge q hN)
  · omega
theorem sg_ix {B x : Int32} {N : Nat} (hB : B = nI N) (hN : N < 2 ^ 31) (h0 : ¬ x < 0) (h1 : ¬ B ≤ x) : x = nI (Int32.toNatClampNeg x) ∧ Int32.toNatClampNeg x < N := by
  obtain ⟨j, hj, rfl⟩ := nI_of h0
  rw [nI_clamp hj]
  exact ⟨rfl, sg_lt hB h1 hj⟩
theorem sg_ltg {B : Int32} {M j : Nat} (hB : B = nI M) (c : ¬ (B < nI j)) (hN : j < 2 ^ 31) : j < M + 1 := by
  rcases Nat.lt_or_ge j (M + 1) with q | q
  · exact q
  · exact absurd (by rw [hB]; exact nI_lt q hN) c
theorem sg_eqg {B : Int32} {M j : Nat} (hB : B = nI M) (c : B < nI j) (hj : j ≤ M + 1) (hN : M + 1 < 2 ^ 31) : j = M + 1 := by
  rcases Nat.lt_or_ge j (M + 1) with q | q
  · rw [hB] at c
    exact absurd c (nI_nlt (by omega) (by omega))
  · omega
theorem sg_dec (j : Nat) : nI (j + 1) + Int32.ofInt (-1) = nI j := by
  show nI (j + 1) + Int32.ofInt (-1) = nI j
  rw [← nI_1 j, Int32.add_assoc]
  show nI j + (1 + Int32.ofInt (-1)) = nI j
  have e : (1 : Int32) + Int32.ofInt (-1) = 0 := by decide
  rw [e]
  exact Int32.add_zero _
theorem sg_mulN (i j : Nat) : nI i * nI j = nI (i * j) := (Int32.ofNat_mul i j).symm
section SGR
variable {p : Program} {l : Launch} {e : Env} {R : Room} {s : State} {m : MethodId} {args : Array Value} {below : List Frame} {meth : Method} {c : Code} {H H0 : Heap} {locs : List Loc} {cells slots : Nat} {Q : State → Prop} {pc : Nat} {ls : Array Slot} {rest : List Value} {cc : ByteArray} {D : va_G} {cl : List vw_C} {tys : List (ClassId × FieldType)} {ws : va_W} {a : Nat} {A : Nat → Prop}

theorem sg_iald (hexec : p.tables.exec = Jvm.exec) (hb : c.code = cc) (hK : va_K D cl tys s) (hP : va_P D cl ws H) (q0 t0 : Nat) {cA : ClassId} {n : Nat} {f : Nat → Int32} (ha : ws[q0]? = some (a, .inl (cA, n, .inl f))) (ht : tys[t0]? = some (cA, .int)) {i : Int32} {j : Nat} (hi : i = nI j) (hj : j < n) (hn : n < 2 ^ 31) (hdg : decode cc pc = .ok (.iaload, 1))
    (kk : W p l e R s m args below meth c H locs cells slots Q (F0 m (pc + 1) ls (.int (f j) :: rest))) : W p l e R s m args below meth c H locs cells slots Q (F0 m pc ls (.int i :: .ref a :: rest)) := by
  subst hi
  have e9 : Int32.toNatClampNeg (nI j) = j := nI_clamp (Nat.lt_trans hj hn)
  refine va_iald hexec hb hK hP q0 t0 ha ht (vp_in_nI hj hn) hdg ?_
  rw [e9]
  exact kk

theorem sg_zald (hexec : p.tables.exec = Jvm.exec) (hb : c.code = cc) (hK : va_K D cl tys s) (hP : va_P D cl ws H) (q0 t0 : Nat) {cA : ClassId} {n : Nat} {f : Nat → Int32} (ha : ws[q0]? = some (a, .inl (cA, n, .inl f))) (ht : tys[t0]? = some (cA, .boolean)) {i : Int32} {j : Nat} (hi : i = nI j) (hj : j < n) (hn : n < 2 ^ 31) (hdg : decode cc pc = .ok (.baload, 1))
    (kk : W p l e R s m args below meth c H locs cells slots Q (F0 m (pc + 1) ls (.int (f j) :: rest))) : W p l e R s m args below meth c H locs cells slots Q (F0 m pc ls (.int i :: .ref a :: rest)) := by
  subst hi
  have e9 : Int32.toNatClampNeg (nI j) = j := nI_clamp (Nat.lt_trans hj hn)
  refine va_zald hexec hb hK hP q0 t0 ha ht (vp_in_nI hj hn) hdg ?_
  rw [e9]
  exact kk

theorem sg_lald (hexec : p.tables.exec = Jvm.exec) (hb : c.code = cc) (hK : va_K D cl tys s) (hP : va_P D cl ws H) (q0 t0 : Nat) {cA : ClassId} {n : Nat} {f : Nat → Int64} (ha : ws[q0]? = some (a, .inl (cA, n, .inr (.inl f)))) (ht : tys[t0]? = some (cA, .long)) {i : Int32} {j : Nat} (hi : i = nI j) (hj : j < n) (hn : n < 2 ^ 31) (hdg : decode cc pc = .ok (.laload, 1))
    (kk : W p l e R s m args below meth c H locs cells slots Q (F0 m (pc + 1) ls (.long (f j) :: rest))) : W p l e R s m args below meth c H locs cells slots Q (F0 m pc ls (.int i :: .ref a :: rest)) := by
  subst hi
  have e9 : Int32.toNatClampNeg (nI j) = j := nI_clamp (Nat.lt_trans hj hn)
  refine va_lald hexec hb hK hP q0 t0 ha ht (vp_in_nI hj hn) hdg ?_
  rw [e9]
  exact kk

theorem sg_iast (hexec : p.tables.exec = Jvm.exec) (hb : c.code = cc) (hK : va_K D cl tys s) (hP : va_P D cl ws H) (hD : va_D A ws) (hS : va_S A H0 H locs) (q0 t0 : Nat) {cA : ClassId} {n : Nat} {f : Nat → Int32} (ha : ws[q0]? = some (a, .inl (cA, n, .inl (f)))) (ht : tys[t0]? = some (cA, .int)) {i : Int32} {j : Nat} {x : Int32} (hi : i = nI j) (hj : j < n) (hn : n < 2 ^ 31) (hdg : decode cc pc = .ok (.iastore, 1))
    (kk : ∀ (H1 : Heap) (locs1 : List Loc), va_P D cl (ws.set q0 (a, .inl (cA, n, .inl (upd f j x)))) H1 → va_D A (ws.set q0 (a, .inl (cA, n, .inl (upd f j x)))) → va_S A H0 H1 locs1 → W p l e R s m args below meth c H1 locs1 cells slots Q (F0 m (pc + 1) ls rest)) : W p l e R s m args below meth c H locs cells slots Q (F0 m pc ls (.int x :: .int i :: .ref a :: rest)) := by
  subst hi
  have e9 : Int32.toNatClampNeg (nI j) = j := nI_clamp (Nat.lt_trans hj hn)
  refine va_iast hexec hb hK hP hD hS q0 t0 ha ht (vp_in_nI hj hn) hdg ?_
  rw [e9]
  exact kk

theorem sg_zast (hexec : p.tables.exec = Jvm.exec) (hb : c.code = cc) (hK : va_K D cl tys s) (hP : va_P D cl ws H) (hD : va_D A ws) (hS : va_S A H0 H locs) (q0 t0 : Nat) {cA : ClassId} {n : Nat} {f : Nat → Int32} (ha : ws[q0]? = some (a, .inl (cA, n, .inl (f)))) (ht : tys[t0]? = some (cA, .boolean)) {i : Int32} {j : Nat} {x : Int32} (hi : i = nI j) (hj : j < n) (hn : n < 2 ^ 31) (hz : vp_nar .boolean x = x) (hdg : decode cc pc = .ok (.bastore, 1))
    (kk : ∀ (H1 : Heap) (locs1 : List Loc), va_P D cl (ws.set q0 (a, .inl (cA, n, .inl (upd f j x)))) H1 → va_D A (ws.set q0 (a, .inl (cA, n, .inl (upd f j x)))) → va_S A H0 H1 locs1 → W p l e R s m args below meth c H1 locs1 cells slots Q (F0 m (pc + 1) ls rest)) : W p l e R s m args below meth c H locs cells slots Q (F0 m pc ls (.int x :: .int i :: .ref a :: rest)) := by
  subst hi
  have e9 : Int32.toNatClampNeg (nI j) = j := nI_clamp (Nat.lt_trans hj hn)
  refine va_zast hexec hb hK hP hD hS q0 t0 ha ht (vp_in_nI hj hn) hdg ?_
  rw [e9]
  rw [hz]
  exact kk

theorem sg_last (hexec : p.tables.exec = Jvm.exec) (hb : c.code = cc) (hK : va_K D cl tys s) (hP : va_P D cl ws H) (hD : va_D A ws) (hS : va_S A H0 H locs) (q0 t0 : Nat) {cA : ClassId} {n : Nat} {f : Nat → Int64} (ha : ws[q0]? = some (a, .inl (cA, n, .inr (.inl (f))))) (ht : tys[t0]? = some (cA, .long)) {i : Int32} {j : Nat} {x : Int64} (hi : i = nI j) (hj : j < n) (hn : n < 2 ^ 31) (hdg : decode cc pc = .ok (.lastore, 1))
    (kk : ∀ (H1 : Heap) (locs1 : List Loc), va_P D cl (ws.set q0 (a, .inl (cA, n, .inr (.inl (vp_updL f j x))))) H1 → va_D A (ws.set q0 (a, .inl (cA, n, .inr (.inl (vp_updL f j x))))) → va_S A H0 H1 locs1 → W p l e R s m args below meth c H1 locs1 cells slots Q (F0 m (pc + 1) ls rest)) : W p l e R s m args below meth c H locs cells slots Q (F0 m pc ls (.long x :: .int i :: .ref a :: rest)) := by
  subst hi
  have e9 : Int32.toNatClampNeg (nI j) = j := nI_clamp (Nat.lt_trans hj hn)
  refine va_last hexec hb hK hP hD hS q0 t0 ha ht (vp_in_nI hj hn) hdg ?_
  rw [e9]
  exact kk

theorem sg_cell {c0 : ClassId} {n : Nat} {f g : Nat → Int32} (h : ∀ j, j < n → f j = g j) : vp_cell c0 (n, .inl f) = vp_cell c0 (n, .inl g) := by
  have e : (fun j : Fin n => Value.int (f j.val)) = fun j : Fin n => Value.int (g j.val) := funext fun j => by rw [h j.val j.isLt]
  show arrV c0 n (fun j => .int (f j)) = arrV c0 n (fun j => .int (g j))
  unfold arrV
  rw [e]
theorem sg_swap {c0 : ClassId} {n i : Nat} {f g : Nat → Int32} (hP : va_P D cl ws H) (hi : ws[i]? = some (a, .inl (c0, n, .inl f))) (h : ∀ j, j < n → f j = g j) : va_P D cl (ws.set i (a, .inl (c0, n, .inl g))) H := fun k q hk => by
  by_cases e : i = k
  · subst e
    have hl : i < ws.length := (List.getElem?_eq_some_iff.mp hi).1
    rw [List.getElem?_set_self hl] at hk
    cases hk
    have h1 := hP i _ hi
    show H[a]? = some (vp_cell c0 (n, .inl g))
    rw [← sg_cell h]
    exact h1
  · rw [List.getElem?_set_ne e] at hk
    exact hP k q hk
theorem sg_copyi (hexec : p.tables.exec = Jvm.exec) (hb : c.code = cc) (hml : c.maxLocals = ls.size) {own : String} {index : Nat} (hown : s.vm.findClass own = some m.cls) (hlink : (Cond.methodLink own index arraycopyName).before args s = true) (hnat : (Cond.native arraycopyName).before args s = true) (hstat : (Cond.static arraycopyName).before args s = true) (hini : (Cond.initialized "java/lang/System").before args s = true)
    (hK : va_K D cl tys s) (hP : va_P D cl ws H) (hD : va_D A ws) (hS : va_S A H0 H locs) (q0 q1 t0 t1 : Nat) {a0 : Nat} {c0 c1 : ClassId} {n1 : Nat} {f g : Nat → Int32} (ha0 : ws[q0]? = some (a0, .inl (c0, n1, .inl f))) (ha1 : ws[q1]? = some (a, .inl (c1, n1, .inl g))) (ht0 : tys[t0]? = some (c0, .int)) (ht1 : tys[t1]? = some (c1, .int))
    {n : Int32} (hn : n = nI n1) (hN : n1 < 2 ^ 31) (hframes : 1 ≤ R.frames) (hlocals : (rest.map fun v => v.category).sum + (nativeFrameWords "java/lang/System" "arraycopy" 5 + 11) ≤ R.locals) (hdg : decode cc pc = .ok (.invokestatic index, 3))
    (kk : ∀ (H1 : Heap) (locs1 : List Loc), va_P D cl (ws.set q1 (a, .inl (c1, n1, .inl f))) H1 → va_D A (ws.set q1 (a, .inl (c1, n1, .inl f))) → va_S A H0 H1 locs1 → W p l e R s m args below meth c H1 locs1 cells slots Q (F0 m (pc + 3) ls rest)) : W p l e R s m args below meth c H locs cells slots Q (F0 m pc ls (.int n :: .int 0 :: .ref a :: .int 0 :: .ref a0 :: rest)) := by
  subst hn
  have e9 : Int32.toNatClampNeg (nI n1) = n1 := nI_clamp hN
  have e0 : Int32.toNatClampNeg 0 = 0 := by decide
  refine va_copyi hexec hb hml hown hlink hnat hstat hini hK hP hD hS q0 q1 t0 t1 ha0 ha1 ht0 ht1 rfl (by decide) (by decide) (nI_pos hN) (by rw [e9, e0]; omega) (by rw [e9, e0]; omega) (fun _ _ => rfl) hframes hlocals hdg (fun H1 locs1 hP1 hD1 hS1 => ?_)
  rw [e9, e0] at hP1
  have hl : q1 < ws.length := (List.getElem?_eq_some_iff.mp ha1).1
  have h2 := sg_swap (g := f) hP1 (List.getElem?_set_self hl) (fun j hj => by
    show (if 0 ≤ j ∧ j < 0 + n1 then f (0 + (j - 0)) else g j) = f j
    rw [if_pos ⟨Nat.zero_le _, by omega⟩, Nat.sub_zero, Nat.zero_add])
  rw [List.set_set] at h2
  exact kk H1 locs1 h2 (hD.set ha1) hS1
theorem sg_dr {mc ms : Nat} {g : JFrame} {Qa : State → Outcome → State → Prop} {free : Addr → Prop} (h : va_Run p l e R s m args below meth c H locs cells slots mc ms g rest Qa free) : CallRun p l e R s m args below meth c H locs cells slots mc ms g rest Qa free := fun T hT X => by
  obtain ⟨v, st₀, t, T', L, h0, X', hL, e1, _, q, st⟩ := h T hT X
  exact ⟨v, st₀, t, T', L, h0, X', hL, e1, q, st⟩
end SGR

/-- all cells of a stock -/
def sg_St (cI cZ : ClassId) (a : Nat → Nat) (P : sg_Pic) (q : Nat → Int32) : va_W := [(a 0, .inr (6, [.int (P 0 0), .ref (a 1), .ref (a 2), .ref (a 3), .ref (a 4), .ref (a 5), .ref (a 6), .ref (a 70), .ref (a 71)])),
  (a 1, .inr (0, [.int (P 0 1), .ref (a 10), .ref (a 11), .ref (a 12), .ref (a 13)])),
  (a 2, .inr (5, [.int (P 0 2), .ref (a 20), .ref (a 21)])),
  (a 3, .inr (4, [.ref (a 30), .ref (a 31), .ref (a 32), .ref (a 33), .ref (a 34)])),
  (a 4, .inr (1, [.int (P 0 3), .ref (a 40), .ref (a 41), .ref (a 42), .ref (a 43), .ref (a 44)])),
  (a 5, .inr (2, [.int (P 0 4), .ref (a 50), .ref (a 51), .ref (a 52), .ref (a 53), .ref (a 54), .ref (a 55), .ref (a 56), .ref (a 57), .ref (a 58), .ref (a 59)])),
  (a 6, .inr (7, [.int (P 0 5), .ref (a 60), .ref (a 61), .ref (a 62), .ref (a 63), .ref (a 64), .ref (a 65)])),
  (a 10, .inl (cI, 6, .inl (P 10))),
  (a 11, .inl (cI, 6, .inl (P 11))),
  (a 12, .inl (cI, 6, .inl (P 12))),
  (a 13, .inl (cI, 6, .inl (P 13))),
  (a 20, .inl (cI, 5, .inl (P 20))),
  (a 21, .inl (cI, 25, .inl (P 21))),
  (a 30, .inl (cZ, 30, .inl (P 30))),
  (a 31, .inl (cI, 30, .inl (P 31))),
  (a 32, .inl (cI, 30, .inl (P 32))),
  (a 33, .inl (cI, 30, .inl (P 33))),
  (a 34, .inl (cI, 30, .inl (P 34))),
  (a 40, .inl (cI, 200, .inl (P 40))),
  (a 41, .inl (cI, 200, .inl (P 41))),
  (a 42, .inl (cI, 200, .inl (P 42))),
  (a 43, .inl (cI, 200, .inl (P 43))),
  (a 44, .inl (cI, 200, .inl (P 44))),
  (a 50, .inl (cI, 60, .inl (P 50))),
  (a 51, .inl (cI, 60, .inl (P 51))),
  (a 52, .inl (cI, 60, .inl (P 52))),
  (a 53, .inl (cI, 60, .inl (P 53))),
  (a 54, .inl (cI, 60, .inl (P 54))),
  (a 55, .inl (cI, 60, .inl (P 55))),
  (a 56, .inl (cI, 60, .inl (P 56))),
  (a 57, .inl (cI, 60, .inl (P 57))),
  (a 58, .inl (cI, 60, .inl (P 58))),
  (a 59, .inl (cI, 12000, .inl (P 59))),
  (a 60, .inl (cI, 90, .inl (P 60))),
  (a 61, .inl (cI, 90, .inl (P 61))),
  (a 62, .inl (cI, 90, .inl (P 62))),
  (a 63, .inl (cI, 90, .inl (P 63))),
  (a 64, .inl (cI, 90, .inl (P 64))),
  (a 65, .inl (cI, 90, .inl (P 65))),
  (a 70, .inl (cI, 5, .inl (P 70))),
  (a 71, .inl (cI, 60, .inl (q)))]
