/-! what the law's questions come to -/
/-- a stock with items and sites alone keeps all -/
theorem sg_F0.B {k ni ns : Nat} {fp : Nat → Int32} {P : sg_Pic} (h : sg_F0 ni ns P) (hk : k ≤ 50) (hf : ∀ i, i < ni → fp i = P 11 i) : sg_B k 0 ni ns fp P := by
  obtain ⟨c1, c2, c3, c4, c5, c6⟩ := h.2.1
  have z := h.2.2.2.2
  have zz : ∀ r i, 21 ≤ r → (P r i).toInt = 0 := fun r i hr => by
    rw [z r hr]
    rfl
  have zv : ∀ r i, 21 ≤ r → P r i = 0 := fun r i hr => by
    rw [z r hr]
    rfl
  have hh : ∀ o x, sg_h P o x = 0 := fun o x => zz 59 _ (by decide)
  have hp : ∀ x, sg_pr P x * 0 = 0 := fun x => Int.mul_zero _
  have eML : sg_ML P = 0 := sg_sum_zero 200 (fun x _ => by rw [zz 42 x (by decide), Int.zero_mul])
  have eMT : sg_MT P = 0 := sg_sum_zero 90 (fun x _ => by rw [zv 65 x (by decide), if_neg (by decide), Int.zero_mul])
  have eME : sg_ME P = 0 := sg_sum_zero 60 (fun x _ => by rw [zv 57 x (by decide), if_neg (by decide), Int.zero_mul])
  have emv : sg_mv P = 0 := sg_sum_zero 90 (fun x _ => by rw [zv 65 x (by decide), if_neg (by decide)])
  refine ⟨⟨h.1, ⟨fun o x _ _ => by rw [hh]; exact Int.le_refl 0, fun o _ => ?_, fun x _ => ?_, fun o x _ _ hne => absurd (hh o x) hne, fun x _ => ?_, fun o _ => ?_⟩, ⟨⟨h.2.2.1, fun k _ => ?_, fun k _ => ?_⟩, ⟨fun x hx => ?_, fun x _ _ => zv 42 x (by decide)⟩, ⟨fun t ht => ?_, fun t _ _ => zv 65 t (by decide)⟩, fun s hs => ?_, ⟨fun o ho => ?_, fun o _ _ => zv 57 o (by decide)⟩, ?_, ?_, ?_⟩, ⟨?_, ⟨?_, hk⟩, ?_⟩, ?_⟩, fun x _ hx => ?_, ⟨⟨?_, ?_⟩, ?_, ?_⟩, c1, c2, hf⟩
  · rw [zz 53 o (by decide)]
    exact (sg_sum_zero 200 (fun x _ => hh o x)).symm
  · rw [zz 43 x (by decide)]
    exact (sg_sum_zero 60 (fun o _ => hh o x)).symm
  · rw [zz 43 x (by decide), zz 42 x (by decide)]
    decide
  · rw [zz 53 o (by decide), zz 52 o (by decide)]
    decide
  · rw [zz 31 k (by decide), zz 32 k (by decide), zz 34 k (by decide)]
    decide
  · rw [zz 21 k (by decide)]
    decide
  · omega
  · omega
  · have q := h.2.2.2.1 s (by have := h.1.n2; omega)
    have e : sg_us P s = 0 := sg_sum_zero 200 (fun x _ => by rw [zz 42 x (by decide)]; split <;> rfl)
    rw [e]
    exact q
  · omega
  · rw [zz 70 4 (by decide), eME]
    rfl
  · rw [zz 70 3 (by decide), zz 70 1 (by decide), eML, eMT, eME]
    rfl
  · rw [zz 70 1 (by decide)]
    exact Int.le_refl 0
  · rw [emv, c3]
    omega
  · rw [c4]
    exact Nat.zero_le _
  · rw [zz 70 3 (by decide)]
    omega
  · exact c6
  · rw [zz 42 x (by decide)] at hx
    exact absurd hx (by decide)
  · rw [zz 70 0 (by decide)]
    exact Int.le_refl 0
  · rw [zz 70 0 (by decide)]
    omega
  · rw [zz 70 2 (by decide)]
    exact Int.le_refl 0
  · rw [zz 70 2 (by decide)]
    omega
