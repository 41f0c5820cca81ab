/-! copying, sliding -/
theorem ne9 {mk : Nat → Int32} {i : Nat} (h9 : mk 9 = 6) (hi : i < 10) (h : ¬ mk i = 6) : i < 9 := by
  rcases Nat.lt_or_ge i 9 with q | q
  · exact q
  · exact absurd (by rw [show i = 9 by omega]; exact h9) h
theorem cpy_0 {pl : Nat → Nat → Int64} {f : Nat → Int64} {j X Y : Nat} : va_up pl j (va_cpy f (pl j) X Y 0) = pl := by
  have : va_cpy f (pl j) X Y 0 = pl j := by funext k; exact pk_cpy_out (by omega)
  rw [this, up_self]
theorem cpy_s {pl : Nat → Nat → Int64} {f : Nat → Int64} {j X Y q : Nat} : va_up (va_up pl j (va_cpy f (pl j) X Y q)) j (vp_updL (va_up pl j (va_cpy f (pl j) X Y q) j) (Y + q) (f (X + q))) = va_up pl j (va_cpy f (pl j) X Y (q + 1)) := by
  rw [up_up, va_up_self]
  congr 1
  funext k
  unfold vp_updL
  by_cases h1 : k = Y + q
  · rw [if_pos h1, h1, pk_cpy_in (by omega) (by omega)]; congr 1; omega
  · rw [if_neg h1]
    by_cases h2 : Y ≤ k ∧ k < Y + q
    · rw [pk_cpy_in h2.1 h2.2, pk_cpy_in h2.1 (by omega)]
    · rw [pk_cpy_out (by omega), pk_cpy_out (by omega)]
theorem nI_inj {a b : Nat} (ha : a < 2 ^ 31) (hb : b < 2 ^ 31) (h : nI a = nI b) : a = b := (nI_eq ha hb).mp h
/-- copySpan's end -/
def cpP (mk : Nat → Int32) (sz : Nat → Nat) (fk : Nat → Int32) (n : Nat) (pl : Nat → Nat → Int64) (i j : Nat) (x y k r : Int32) (pl' : Nat → Nat → Int64) : Prop :=
  ((mk i = 6 ∨ mk j = 6) ∧ r = 1 ∧ pl' = pl) ∨ (¬ (mk i = 6 ∨ mk j = 6) ∧ ¬ alike (mk i) (mk j) ∧ r = 2 ∧ pl' = pl) ∨ (¬ (mk i = 6 ∨ mk j = 6) ∧ alike (mk i) (mk j) ∧ (noSpan x k (sz i) ∨ noSpan y k (sz j)) ∧ r = 3 ∧ pl' = pl) ∨
  (¬ (mk i = 6 ∨ mk j = 6) ∧ alike (mk i) (mk j) ∧ ∃ X Y K q, x = nI X ∧ y = nI Y ∧ k = nI K ∧ X + K ≤ sz i ∧ Y + K ≤ sz j ∧ q ≤ K ∧ (∀ p, p < q → ¬ noTake (mk j) fk n (pl i (X + p))) ∧ pl' = va_up pl j (va_cpy (pl i) (pl j) X Y q) ∧ ((q = K ∧ r = 0) ∨ (q < K ∧ noTake (mk j) fk n (pl i (X + q)) ∧ r = 2)))
def laterR (mk : Nat → Int32) (sz : Nat → Nat) (pl : Nat → Nat → Int64) (i a b : Nat) : Nat → Nat → Int64 := blanked mk (va_up pl i (va_cpy (pl i) (pl i) a (a + b) (sz i - a - b))) i a (a + b)
def earlierR (mk : Nat → Int32) (sz : Nat → Nat) (pl : Nat → Nat → Int64) (i a b : Nat) : Nat → Nat → Int64 := blanked mk (va_up pl i (va_cpy (pl i) (pl i) a (a - b) (sz i - a))) i (sz i - b) (sz i)
