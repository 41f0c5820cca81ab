/-! numbers and rows, without the machine -/
theorem nI_ge_of {a b : Nat} (h : nI b ≤ nI a) (ha : a < 2 ^ 31) (hb : b < 2 ^ 31) : b ≤ a := (nI_leI hb ha).mp h
theorem nI_lt_of {a b : Nat} (h : ¬ nI b ≤ nI a) (ha : a < 2 ^ 31) (hb : b < 2 ^ 31) : a < b := by
  rcases Nat.lt_or_ge a b with q | q
  · exact q
  · exact absurd ((nI_leI hb ha).mpr q) h
theorem pl_in {x : Int32} {S : Nat} (hS : S ≤ 40) (h0 : ¬ x < 0) (h1 : ¬ nI S ≤ x) : ∃ k, k < S ∧ x = nI k := by
  obtain ⟨j, hj, rfl⟩ := nI_of h0
  exact ⟨j, nI_lt_of h1 hj (by omega), rfl⟩
def noSpan (x y : Int32) (S : Nat) : Prop := x < 0 ∨ y < 0 ∨ (nI S).toInt64 < x.toInt64 + y.toInt64
theorem sp_gt {r : Int32} {X Y : Int64} (h : (r < 0 ↔ X < Y) ∧ (r = 0 ↔ X = Y) ∧ (0 < r ↔ Y < X)) (c : 0 < r) : Y < X := h.2.2.mp c
theorem sp_le {r : Int32} {X Y : Int64} (h : (r < 0 ↔ X < Y) ∧ (r = 0 ↔ X = Y) ∧ (0 < r ↔ Y < X)) (c : ¬ 0 < r) : ¬ Y < X := fun q => c (h.2.2.mpr q)
theorem sp_in {x y : Int32} {S : Nat} (hS : S ≤ 40) (h0 : ¬ x < 0) (h1 : ¬ y < 0) (h2 : ¬ (nI S).toInt64 < x.toInt64 + y.toInt64) : ∃ j k, x = nI j ∧ y = nI k ∧ j + k ≤ S := by
  obtain ⟨j, hj, rfl⟩ := nI_of h0
  obtain ⟨k, hk, rfl⟩ := nI_of h1
  refine ⟨j, k, rfl, rfl, ?_⟩
  rw [nI_l hj, nI_l hk, nI_l (by omega), lN_add, pk_lLT (by omega) (by omega)] at h2
  omega
theorem sp_no {j k S : Nat} (hj : j < 2 ^ 31) (hk : k < 2 ^ 31) (hS : S ≤ 40) (h : noSpan (nI j) (nI k) S) : S < j + k := by
  rcases h with h | h | h
  · exact absurd h (nI_pos hj)
  · exact absurd h (nI_pos hk)
  · rw [nI_l hj, nI_l hk, nI_l (by omega), lN_add, pk_lLT (by omega) (by omega)] at h
    exact h
def blankV (m : Int32) : Int64 := if m ≤ 2 then -1 else 0
theorem blankV_t {m : Int32} (h : m ≤ 2) : (-1 : Int64) = blankV m := (if_pos h).symm
theorem blankV_f {m : Int32} (h : ¬ m ≤ 2) : (0 : Int64) = blankV m := (if_neg h).symm
theorem up_self {α : Type} (f : Nat → α) (i : Nat) : va_up f i (f i) = f := by
  funext j; unfold va_up; split
  · next h => rw [h]
  · rfl
theorem up_up {α : Type} (f : Nat → α) (i : Nat) (x y : α) : va_up (va_up f i x) i y = va_up f i y := by
  funext j; unfold va_up; split <;> rfl
def blanked (mk : Nat → Int32) (pl : Nat → Nat → Int64) (i a b : Nat) : Nat → Nat → Int64 := va_up pl i (fun k => if a ≤ k ∧ k < b then blankV (mk i) else pl i k)
theorem blanked_0 (mk : Nat → Int32) (pl : Nat → Nat → Int64) (i a : Nat) : blanked mk pl i a a = pl := by
  unfold blanked
  have : (fun k => if a ≤ k ∧ k < a then blankV (mk i) else pl i k) = pl i := by
    funext k; rw [if_neg (by omega)]
  rw [this, up_self]
theorem blanked_s (mk : Nat → Int32) (pl : Nat → Nat → Int64) (i : Nat) {a k : Nat} (h : a ≤ k) : va_up (blanked mk pl i a k) i (vp_updL (blanked mk pl i a k i) k (blankV (mk i))) = blanked mk pl i a (k + 1) := by
  unfold blanked
  rw [up_up, va_up_self]
  congr 1
  funext q
  unfold vp_updL
  by_cases h1 : q = k
  · subst h1; rw [if_pos rfl, if_pos (by omega)]
  · rw [if_neg h1]
    dsimp only
    by_cases h2 : a ≤ q ∧ q < k
    · rw [if_pos h2, if_pos (by omega)]
    · rw [if_neg h2, if_neg (by omega)]
