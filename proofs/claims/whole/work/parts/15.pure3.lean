/-! what the calls answer and do to a row: m the make, S the places, f the row -/
def badH (x : Int32) : Prop := x < 0 ∨ 8 ≤ x
def noteP (m : Int32) (S : Nat) (f : Nat → Int64) (i : Int32) (v : Int64) (r : Int32) (f' : Nat → Int64) : Prop :=
  (m = 6 ∧ r = 1 ∧ f' = f) ∨ (¬ m = 6 ∧ ¬ m = 3 ∧ ¬ m = 4 ∧ r = 2 ∧ f' = f) ∨ ((m = 3 ∨ m = 4) ∧ (i < 0 ∨ nI S ≤ i) ∧ r = 3 ∧ f' = f) ∨ ((m = 3 ∨ m = 4) ∧ ∃ k, k < S ∧ i = nI k ∧ r = 0 ∧ f' = vp_updL f k (if m = 3 then v.toInt32.toInt64 else v))
def putP (m : Int32) (S : Nat) (f : Nat → Int64) (fk : Nat → Int32) (n : Nat) (i x r : Int32) (f' : Nat → Int64) : Prop :=
  (m = 6 ∧ r = 1 ∧ f' = f) ∨ (¬ m = 6 ∧ ¬ m ≤ 2 ∧ r = 2 ∧ f' = f) ∨ (m ≤ 2 ∧ (i < 0 ∨ nI S ≤ i) ∧ r = 3 ∧ f' = f) ∨
  (m ≤ 2 ∧ ∃ k, k < S ∧ i = nI k ∧ ((noTake m fk n x.toInt64 ∧ r = 2 ∧ f' = f) ∨ (¬ noTake m fk n x.toInt64 ∧ r = 0 ∧ f' = vp_updL f k x.toInt64)))
def badSl (i k : Int32) (S : Nat) : Prop := i < 0 ∨ nI S < i ∨ i.toInt64 + k.toInt64 < 0 ∨ (nI S).toInt64 < i.toInt64 + k.toInt64
def slL (m : Int32) (S : Nat) (f : Nat → Int64) (I B : Nat) : Nat → Int64 := fun q => if q < I then f q else if q < I + B then blankV m else if q < S then f (q - B) else f q
def slE (m : Int32) (S : Nat) (f : Nat → Int64) (I B : Nat) : Nat → Int64 := fun q => if q < I - B then f q else if q < S - B then f (q + B) else if q < S then blankV m else f q
def slideP (m : Int32) (S : Nat) (f : Nat → Int64) (i k r : Int32) (f' : Nat → Int64) : Prop :=
  (m = 6 ∧ r = 1 ∧ f' = f) ∨ (¬ m = 6 ∧ ¬ m ≤ 4 ∧ r = 2 ∧ f' = f) ∨ (¬ m = 6 ∧ m ≤ 4 ∧ badSl i k S ∧ r = 3 ∧ f' = f) ∨
  (¬ m = 6 ∧ m ≤ 4 ∧ ∃ I B, i = nI I ∧ r = 0 ∧ ((k = nI B ∧ I + B ≤ S ∧ f' = slL m S f I B) ∨ (k = -nI B ∧ 0 < B ∧ B ≤ I ∧ I ≤ S ∧ f' = slE m S f I B)))
def tuR (S : Nat) (f : Nat → Int64) (K : Nat) : Nat → Int64 := fun q => if q < S - K then f (q + K) else if q < S then f (q - (S - K)) else f q
def turnP (m : Int32) (S : Nat) (f : Nat → Int64) (k r : Int32) (f' : Nat → Int64) : Prop :=
  (m = 6 ∧ r = 1 ∧ f' = f) ∨ (¬ m = 6 ∧ ¬ m ≤ 4 ∧ r = 2 ∧ f' = f) ∨ (¬ m = 6 ∧ m ≤ 4 ∧ (k < 0 ∨ nI S < k) ∧ r = 3 ∧ f' = f) ∨ (¬ m = 6 ∧ m ≤ 4 ∧ ∃ K, k = nI K ∧ K ≤ S ∧ r = 0 ∧ f' = tuR S f K)
theorem sl_in {i k : Int32} {S : Nat} (hS : S ≤ 40) (h0 : ¬ i < 0) (h1 : ¬ nI S < i) (h2 : ¬ i.toInt64 + k.toInt64 < 0) (h3 : ¬ (nI S).toInt64 < i.toInt64 + k.toInt64) :
    ∃ I, i = nI I ∧ I ≤ S ∧ ((¬ k < 0 → ∃ B, k = nI B ∧ I + B ≤ S) ∧ (k < 0 → ∃ B, k = -nI B ∧ 0 < B ∧ B ≤ I)) := by
  obtain ⟨I, hI, rfl⟩ := nI_of h0
  have hIS : I ≤ S := by
    rcases Nat.lt_or_ge S I with q | q
    · exact absurd ((nI_ltI (by omega) hI).mpr q) h1
    · exact q
  have e1 : ((nI I).toInt64 + k.toInt64).toInt = (I : Int) + k.toInt := by
    rw [Int64.toInt_add, Int32.toInt_toInt64, Int32.toInt_toInt64, nI_toInt hI]
    have q1 := Int32.toInt_lt k
    have q2 := Int32.le_toInt k
    exact Int.bmod_eq_of_le (by omega) (by omega)
  have h2' : ¬ (I : Int) + k.toInt < 0 := fun h => h2 (Int64.lt_iff_toInt_lt.mpr (by rw [e1]; exact h))
  have h3' : ¬ (S : Int) < (I : Int) + k.toInt := fun h => h3 (Int64.lt_iff_toInt_lt.mpr (by rw [e1, Int32.toInt_toInt64, nI_toInt (by omega)]; exact h))
  refine ⟨I, rfl, hIS, fun hk => ?_, fun hk => ?_⟩
  · obtain ⟨B, hB, rfl⟩ := nI_of hk
    rw [nI_toInt hB] at h3'
    exact ⟨B, rfl, by omega⟩
  · have hk' : k.toInt < 0 := Int32.lt_iff_toInt_lt.mp hk
    refine ⟨(-k.toInt).toNat, ?_, by omega, by omega⟩
    apply Int32.toInt_inj.mp
    rw [sb_negT (by omega)]; omega
theorem later_row {mk : Nat → Int32} {sz : Nat → Nat} {pl : Nat → Nat → Int64} {i a b : Nat} (h : a + b ≤ sz i) : laterR mk sz pl i a b = va_up pl i (slL (mk i) (sz i) (pl i) a b) := by
  unfold laterR blanked
  rw [up_up, va_up_self]
  congr 1
  funext q
  unfold slL
  by_cases h1 : a ≤ q ∧ q < a + b
  · rw [if_pos h1, if_neg (by omega), if_pos h1.2]
  · rw [if_neg h1]
    by_cases h2 : q < a
    · rw [if_pos h2, pk_cpy_out (by omega)]
    · rw [if_neg h2, if_neg (by omega)]
      by_cases h3 : q < sz i
      · rw [if_pos h3, pk_cpy_in (by omega) (by omega)]; congr 1; omega
      · rw [if_neg h3, pk_cpy_out (by omega)]
theorem earlier_row {mk : Nat → Int32} {sz : Nat → Nat} {pl : Nat → Nat → Int64} {i a b : Nat} (hb : b ≤ a) (h : a ≤ sz i) : earlierR mk sz pl i a b = va_up pl i (slE (mk i) (sz i) (pl i) a b) := by
  unfold earlierR blanked
  rw [up_up, va_up_self]
  congr 1
  funext q
  unfold slE
  by_cases h1 : sz i - b ≤ q ∧ q < sz i
  · rw [if_pos h1, if_neg (by omega), if_neg (by omega), if_pos h1.2]
  · rw [if_neg h1]
    by_cases h2 : q < a - b
    · rw [if_pos h2, pk_cpy_out (by omega)]
    · rw [if_neg h2]
      by_cases h3 : q < sz i - b
      · rw [if_pos h3, pk_cpy_in (by omega) (by omega)]; congr 1; omega
      · rw [if_neg h3, if_neg (by omega), pk_cpy_out (by omega)]
theorem turn_row {S : Nat} {pl : Nat → Nat → Int64} {ft : Nat → Int64} {i K : Nat} (h : K ≤ S) : va_up (va_up pl i (va_cpy (pl i) (pl i) K 0 (S - K))) i (va_cpy (va_cpy (pl i) ft 0 0 K) (va_up pl i (va_cpy (pl i) (pl i) K 0 (S - K)) i) 0 (S - K) K) = va_up pl i (tuR S (pl i) K) := by
  rw [up_up, va_up_self]
  congr 1
  funext q
  unfold tuR
  by_cases h1 : q < S - K
  · rw [if_pos h1, pk_cpy_out (by omega), pk_cpy_in (by omega) (by omega)]; congr 1; omega
  · rw [if_neg h1]
    by_cases h2 : q < S
    · rw [if_pos h2, pk_cpy_in (by omega) (by omega), pk_cpy_in (by omega) (by omega)]; congr 1; omega
    · rw [if_neg h2, pk_cpy_out (by omega), pk_cpy_out (by omega)]
/-- copying, by rows -/
def cpV (ma mb : Int32) (Sa Sb : Nat) (fa fb : Nat → Int64) (fk : Nat → Int32) (n : Nat) (x y k r : Int32) (fb' : Nat → Int64) : Prop :=
  ((ma = 6 ∨ mb = 6) ∧ r = 1 ∧ fb' = fb) ∨ (¬ (ma = 6 ∨ mb = 6) ∧ ¬ alike ma mb ∧ r = 2 ∧ fb' = fb) ∨ (¬ (ma = 6 ∨ mb = 6) ∧ alike ma mb ∧ (noSpan x k Sa ∨ noSpan y k Sb) ∧ r = 3 ∧ fb' = fb) ∨
  (¬ (ma = 6 ∨ mb = 6) ∧ alike ma mb ∧ ∃ X Y K q, x = nI X ∧ y = nI Y ∧ k = nI K ∧ X + K ≤ Sa ∧ Y + K ≤ Sb ∧ q ≤ K ∧ (∀ p, p < q → ¬ noTake mb fk n (fa (X + p))) ∧ fb' = va_cpy fa fb X Y q ∧ ((q = K ∧ r = 0) ∨ (q < K ∧ noTake mb fk n (fa (X + q)) ∧ r = 2)))
theorem cpP_V {mk : Nat → Int32} {sz : Nat → Nat} {fk : Nat → Int32} {n : Nat} {pl pl' : Nat → Nat → Int64} {i j : Nat} {x y k r : Int32} (h : cpP mk sz fk n pl i j x y k r pl') : ∃ f', pl' = va_up pl j f' ∧ cpV (mk i) (mk j) (sz i) (sz j) (pl i) (pl j) fk n x y k r f' := by
  rcases h with ⟨h1, h2, rfl⟩ | ⟨h1, h2, h3, rfl⟩ | ⟨h1, h2, h3, h4, rfl⟩ | ⟨h1, h2, X, Y, K, q, e1, e2, e3, e4, e5, e6, e7, rfl, e9⟩
  · exact ⟨_, (up_self _ _).symm, Or.inl ⟨h1, h2, rfl⟩⟩
  · exact ⟨_, (up_self _ _).symm, Or.inr (Or.inl ⟨h1, h2, h3, rfl⟩)⟩
  · exact ⟨_, (up_self _ _).symm, Or.inr (Or.inr (Or.inl ⟨h1, h2, h3, h4, rfl⟩))⟩
  · exact ⟨_, rfl, Or.inr (Or.inr (Or.inr ⟨h1, h2, X, Y, K, q, e1, e2, e3, e4, e5, e6, e7, rfl, e9⟩))⟩
/-- paying: the first k places have been gone through -/
def paid (fk : Nat → Int32) (n : Nat) (ro ho pa : Nat → Int64) (fp : Nat → Int64) : Nat → Nat → Int64
  | 0 => fp
  | k + 1 => payStep fk n (paid fk n ro ho pa fp k) (ro k) (ho k) (pa k)
def payP (ma mb mc : Int32) (Sa Sb Sc : Nat) (fa fb fc : Nat → Int64) (fk : Nat → Int32) (n : Nat) (fp : Nat → Int64) (r : Int32) (fp' : Nat → Int64) : Prop :=
  (((¬ ma = 6 ∧ ¬ fam ma = 0) ∨ (¬ mb = 6 ∧ ¬ fam mb = 3) ∨ (¬ mc = 6 ∧ ¬ fam mc = 4)) ∧ r = 2 ∧ fp' = fp) ∨
  (¬ ((¬ ma = 6 ∧ ¬ fam ma = 0) ∨ (¬ mb = 6 ∧ ¬ fam mb = 3) ∨ (¬ mc = 6 ∧ ¬ fam mc = 4)) ∧ (((ma = 6 ∨ mb = 6 ∨ mc = 6) ∧ r = 1 ∧ fp' = fp) ∨
   (¬ (ma = 6 ∨ mb = 6 ∨ mc = 6) ∧ ∃ q, q ≤ Sa ∧ (∀ p, p < q → p < Sb ∧ p < Sc) ∧ fp' = paid fk n fa fb fc fp q ∧ ((q = Sa ∧ r = 0) ∨ (q < Sa ∧ ¬ (q < Sb ∧ q < Sc) ∧ r = 3)))))
def lookP (m : Int32) (S : Nat) (hf : Nat → Nat) (j : Nat) (w r : Int32) : Prop :=
  (w = 0 ∧ r = m) ∨ (w = 1 ∧ ((m ≤ 4 ∧ r = nI S) ∨ (¬ m ≤ 4 ∧ r = -1))) ∨ (w = 2 ∧ ((m = 6 ∧ r = -1) ∨ (¬ m = 6 ∧ lhP hf (hf j) r))) ∨ (¬ w = 0 ∧ ¬ w = 1 ∧ ¬ w = 2 ∧ r = -1)
theorem tab3 {x : Int32} (h0 : ¬ x = 0) (h1 : ¬ x = 1) (h2 : ¬ x = 2) : x.toInt < 0 ∨ 2 < x.toInt := by
  have q : ∀ y : Int32, x.toInt = y.toInt → x = y := fun y h => Int32.toInt_inj.mp h
  have a0 : ¬ x.toInt = 0 := fun h => h0 (q 0 (by rw [h]; decide))
  have a1 : ¬ x.toInt = 1 := fun h => h1 (q 1 (by rw [h]; decide))
  have a2 : ¬ x.toInt = 2 := fun h => h2 (q 2 (by rw [h]; decide))
  omega
theorem pl_ge {k S : Nat} (hk : k < 2 ^ 31) (hS : S < 2 ^ 31) (h : nI k < 0 ∨ nI S ≤ nI k) : S ≤ k := h.elim (fun q => absurd q (nI_pos hk)) (fun q => nI_ge_of q hk hS)
