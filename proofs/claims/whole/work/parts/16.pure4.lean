theorem nbad {x : Int32} {a : Nat} (ha : a < 8) (ea : x = nI a) : ¬ badH x := by
  rintro (h | h)
  · rw [ea] at h; exact nI_pos (by omega) h
  · rw [ea] at h; have := nI_ge_of (a := a) (b := 8) h (by omega) (by omega); omega
theorem sl_gt {r : Int32} {X Y : Int64} (h : (r < 0 ↔ X < Y) ∧ (r = 0 ↔ X = Y) ∧ (0 < r ↔ Y < X)) (c : ¬ r ≤ 0) : Y < X := h.2.2.mp (Int32.not_le.mp c)
theorem sl_ngt {r : Int32} {X Y : Int64} (h : (r < 0 ↔ X < Y) ∧ (r = 0 ↔ X = Y) ∧ (0 < r ↔ Y < X)) (c : r ≤ 0) : ¬ Y < X := fun q => absurd (h.2.2.mpr q) (Int32.not_lt.mpr c)
theorem le_in {k : Int32} {S : Nat} (hS : S ≤ 40) (h0 : ¬ k < 0) (h1 : k ≤ nI S) : ∃ K, K ≤ S ∧ k = nI K := by
  obtain ⟨K, hK, rfl⟩ := nI_of h0
  exact ⟨K, (nI_leI hK (by omega)).mp h1, rfl⟩
def hangP (hf : Nat → Nat) (mk : Nat → Int32) (sz : Nat → Nat) (pl : Nat → Nat → Int64) (a : Nat) (y t r : Int32) (hf' : Nat → Nat) (mk' : Nat → Int32) (sz' : Nat → Nat) (pl' : Nat → Nat → Int64) : Prop :=
  (y = 6 ∧ r = 0 ∧ hf' = va_up hf a 9 ∧ mk' = mk ∧ sz' = sz ∧ pl' = pl) ∨ (¬ y = 6 ∧ y ≤ 4 ∧ t < 0 ∧ r = 4 ∧ hf' = hf ∧ mk' = mk ∧ sz' = sz ∧ pl' = pl) ∨
  (¬ y = 6 ∧ ∃ i N, i < 9 ∧ (∀ h, h < 8 → ¬ hf h = i) ∧ ((y ≤ 4 ∧ t = nI N ∧ N ≤ 40) ∨ (¬ y ≤ 4 ∧ N = 0)) ∧ r = 0 ∧ hf' = va_up hf a i ∧ mk' = va_up mk i y ∧ sz' = va_up sz i N ∧ pl' = blanked (va_up mk i y) pl i 0 N)
