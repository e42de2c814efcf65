/-! the sums that the law keeps -/
def sg_plan (P : sg_Pic) (i z : Nat) : Int32 := (sg_make_U sg_0 sg_L0 P i) 6 z
def sg_l1 (P : sg_Pic) (f : Int32) (i : Nat) (x : Int32) : Nat → Int32
  | 0 => x
  | s + 1 => sg_l1 P f i x s + f * (sg_unitsAt P (nI i) (nI s) + sg_unitsTo P (nI i) (nI s))
theorem sg_l1_s {P : sg_Pic} {f x x0 : Int32} {i s : Nat} (h : x = sg_l1 P f i x0 s) : x + f * (sg_unitsAt P (nI i) (nI s) + sg_unitsTo P (nI i) (nI s)) = sg_l1 P f i x0 (s + 1) := by rw [sg_l1, h]
def sg_ls (P : sg_Pic) (fp : Nat → Int32) (ns : Nat) : Nat → Int32
  | 0 => 0
  | i + 1 => sg_l1 P (fp i) i (sg_ls P fp ns i) ns
def sg_row (P : sg_Pic) (i x : Nat) : Nat → Int32
  | 0 => 0
  | y + 1 => sg_row P i x y + sg_plan P i (x * 5 + y)
def sg_col (P : sg_Pic) (i y : Nat) : Nat → Int32
  | 0 => 0
  | x + 1 => sg_col P i y x + sg_plan P i (x * 5 + y)
theorem sg_se_0 {P : sg_Pic} {i j ns : Nat} {se : Nat → Int32} (h : ∀ x9, x9 < ns → se x9 = if x9 < j then sg_row P i x9 ns else 0) : ∀ x9, x9 < ns → se x9 = if x9 < j then sg_row P i x9 ns else if x9 = j then sg_row P i j 0 else 0 := fun x hx => by
  rw [h x hx]
  by_cases c : x < j
  · rw [if_pos c, if_pos c]
  · rw [if_neg c, if_neg c]
    by_cases e : x = j
    · rw [if_pos e, sg_row]
    · rw [if_neg e]
theorem sg_se_up {P : sg_Pic} {i j ns : Nat} {se : Nat → Int32} (h : ∀ x9, x9 < ns → se x9 = if x9 < j then sg_row P i x9 ns else if x9 = j then sg_row P i j ns else 0) : ∀ x9, x9 < ns → se x9 = if x9 < j + 1 then sg_row P i x9 ns else 0 := fun x hx => by
  rw [h x hx]
  by_cases c : x < j
  · rw [if_pos c, if_pos (by omega)]
  · rw [if_neg c]
    by_cases e : x = j
    · rw [if_pos e, if_pos (by omega), e]
    · rw [if_neg e, if_neg (by omega)]
theorem sg_se_s {P : sg_Pic} {i j y ns : Nat} {se : Nat → Int32} (hj : j < ns) (h : ∀ x9, x9 < ns → se x9 = if x9 < j then sg_row P i x9 ns else if x9 = j then sg_row P i j y else 0) : ∀ x9, x9 < ns → upd se j (se j + sg_plan P i (j * 5 + y)) x9 = if x9 < j then sg_row P i x9 ns else if x9 = j then sg_row P i j (y + 1) else 0 := fun x hx => by
  by_cases e : x = j
  · subst e
    rw [pk_us, h x hx, if_neg (Nat.lt_irrefl x), if_pos rfl, if_neg (Nat.lt_irrefl x), if_pos rfl, sg_row]
  · rw [pk_un e, h x hx, if_neg e, if_neg e]
theorem sg_go_0 {P : sg_Pic} {i j ns : Nat} {go : Nat → Int32} (h : ∀ y9, y9 < ns → go y9 = sg_col P i y9 j) : ∀ y9, y9 < ns → go y9 = if y9 < 0 then sg_col P i y9 (j + 1) else sg_col P i y9 j := fun y hy => by
  rw [if_neg (Nat.not_lt_zero y)]
  exact h y hy
theorem sg_go_up {P : sg_Pic} {i j ns : Nat} {go : Nat → Int32} (h : ∀ y9, y9 < ns → go y9 = if y9 < ns then sg_col P i y9 (j + 1) else sg_col P i y9 j) : ∀ y9, y9 < ns → go y9 = sg_col P i y9 (j + 1) := fun y hy => by
  rw [h y hy, if_pos hy]
theorem sg_go_s {P : sg_Pic} {i j z ns : Nat} {go : Nat → Int32} (hz : z < ns) (h : ∀ y9, y9 < ns → go y9 = if y9 < z then sg_col P i y9 (j + 1) else sg_col P i y9 j) : ∀ y9, y9 < ns → upd go z (go z + sg_plan P i (j * 5 + z)) y9 = if y9 < z + 1 then sg_col P i y9 (j + 1) else sg_col P i y9 j := fun y hy => by
  by_cases e : y = z
  · subst e
    rw [pk_us, h y hy, if_neg (Nat.lt_irrefl y), if_pos (Nat.lt_succ_self y), sg_col]
  · rw [pk_un e, h y hy]
    by_cases c : y < z
    · rw [if_pos c, if_pos (by omega)]
    · rw [if_neg c, if_neg (by omega)]
