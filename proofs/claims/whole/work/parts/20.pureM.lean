/-! the reference's state: H h: what hook h holds (9: nothing), Z t: the size of thing t -/
def hv (t : Nat) : Int32 := if t = 9 then -1 else nI t
def hOK (hd : Nat → Int32) (H : Nat → Nat) : Prop := ∀ h, h < 8 → H h < 10 ∧ hd h = hv (H h)
def zOK (sz : Nat → Int32) (Z : Nat → Nat) : Prop := ∀ t, t < 9 → sz t = nI (Z t) ∧ Z t ≤ 40
def mV (mk : Nat → Int32) (t : Nat) : Int32 := if t = 9 then 6 else mk t
def sV (mk : Nat → Int32) (Z : Nat → Nat) (t : Nat) : Nat := if mV mk t ≤ 4 then Z t else 0
def rV (ce : Nat → Int64) (t : Nat) : Nat → Int64 := fun k => ce (40 * t + k)
def rowIs (ce : Nat → Int64) (t : Nat) (f ce' : Nat → Int64) : Prop := (∀ k, k < 40 → ce' (40 * t + k) = f k) ∧ ∀ q, q < 40 * t ∨ 40 * t + 40 ≤ q → ce' q = ce q
theorem rowIs_rf (ce : Nat → Int64) (t : Nat) : rowIs ce t (rV ce t) ce := ⟨fun _ _ => rfl, fun _ _ => rfl⟩
theorem rowIs_up {ce f ce1 : Nat → Int64} {t k : Nat} (h : rowIs ce t f ce1) (hk : k < 40) (v : Int64) : rowIs ce t (vp_updL f k v) (vp_updL ce1 (40 * t + k) v) := by
  refine ⟨fun q hq => ?_, fun q hq => ?_⟩
  · unfold vp_updL
    by_cases e : q = k
    · rw [if_pos e, if_pos (by rw [e])]
    · rw [if_neg e, if_neg (by omega)]; exact h.1 q hq
  · unfold vp_updL; rw [if_neg (by omega)]; exact h.2 q hq
theorem rowIs_eq {ce f g ce1 : Nat → Int64} {t : Nat} (h : rowIs ce t f ce1) (e : ∀ k, k < 40 → f k = g k) : rowIs ce t g ce1 := ⟨fun k hk => (h.1 k hk).trans (e k hk), h.2⟩
theorem hd_m1 {hd : Nat → Int32} {H : Nat → Nat} {j : Nat} (h : hOK hd H) (hj : j < 8) (c : hd j = -1) : H j = 9 := by
  obtain ⟨h1, h2⟩ := h j hj
  unfold hv at h2
  split at h2
  · assumption
  · exact absurd (h2.symm.trans c) (nI_nm1 (by omega))
theorem hd_t {hd : Nat → Int32} {H : Nat → Nat} {j : Nat} (h : hOK hd H) (hj : j < 8) (c : ¬ hd j = -1) : H j < 9 ∧ hd j = nI (H j) := by
  obtain ⟨h1, h2⟩ := h j hj
  unfold hv at h2
  split at h2
  · exact absurd h2 c
  · exact ⟨by omega, h2⟩
theorem hd_9 {hd : Nat → Int32} {H : Nat → Nat} {j : Nat} (h : hOK hd H) (hj : j < 8) (c : ¬ H j = 9) : H j < 9 ∧ hd j = nI (H j) := hd_t h hj (fun e => c (hd_m1 h hj e))
theorem hd_is9 {hd : Nat → Int32} {H : Nat → Nat} {j : Nat} (h : hOK hd H) (hj : j < 8) (c : H j = 9) : hd j = -1 := by
  have := (h j hj).2; rw [c] at this; exact this
theorem mV_9 {mk : Nat → Int32} {t : Nat} (h : t = 9) : mV mk t = 6 := if_pos h
theorem mV_t {mk : Nat → Int32} {t : Nat} (h : t < 9) : mV mk t = mk t := if_neg (by omega)
theorem mV_n6 {mk : Nat → Int32} {t : Nat} (h : ¬ mV mk t = 6) : ¬ t = 9 := fun e => h (mV_9 e)
theorem mV_n4 {mk : Nat → Int32} {t : Nat} (h : mV mk t ≤ 4) : ¬ t = 9 := fun e => by rw [mV_9 e] at h; exact absurd h (by decide)
theorem mV_n2 {mk : Nat → Int32} {t : Nat} (h : mV mk t ≤ 2) : ¬ t = 9 := fun e => by rw [mV_9 e] at h; exact absurd h (by decide)
theorem mV_n34 {mk : Nat → Int32} {t : Nat} (h : mV mk t = 3 ∨ mV mk t = 4) : ¬ t = 9 := fun e => by rw [mV_9 e] at h; revert h; decide
theorem sV_t {mk : Nat → Int32} {Z : Nat → Nat} {t : Nat} (h : mV mk t ≤ 4) : sV mk Z t = Z t := if_pos h
theorem sV_0 {mk : Nat → Int32} {Z : Nat → Nat} {t : Nat} (h : ¬ mV mk t ≤ 4) : sV mk Z t = 0 := if_neg h
theorem sV_40 {mk : Nat → Int32} {sz : Nat → Int32} {Z : Nat → Nat} {t : Nat} (h : zOK sz Z) (ht : t < 10) : sV mk Z t ≤ 40 := by
  unfold sV; split
  · next q => exact (h t (by have := mV_n4 q; omega)).2
  · omega
theorem le42 {m : Int32} (h : m ≤ 2) : m ≤ 4 := Int32.le_iff_toInt_le.mpr (Int.le_trans (Int32.le_iff_toInt_le.mp h) (by decide))
theorem le434 {m : Int32} (h : m = 3 ∨ m = 4) : m ≤ 4 := by rcases h with rfl | rfl <;> decide
theorem ix40 (t k : Nat) : (40 : Int32) * nI t + nI k = nI (40 * t + k) := by rw [show (40 : Int32) = nI 40 from rfl, pk_mul, nI_add]
theorem ix40' (t : Nat) : (40 : Int32) * nI t = nI (40 * t) := by rw [show (40 : Int32) = nI 40 from rfl, pk_mul]
theorem nIm1 {N : Nat} (h : N ≤ 60) : (nI N - 1).toInt = (N : Int) - 1 := by
  rw [show (1 : Int32) = nI 1 from rfl]; exact pk_sub_toInt (by omega) (by decide)
theorem out_y {x : Int32} {N : Nat} (hN : N ≤ 60) (h : x < 0 ∨ nI N - 1 < x) : x < 0 ∨ nI N ≤ x := by
  rcases h with h | h
  · exact Or.inl h
  · right
    have h1 := Int32.lt_iff_toInt_lt.mp h
    rw [nIm1 hN] at h1
    apply Int32.le_iff_toInt_le.mpr
    rw [nI_toInt (by omega)]; omega
theorem out_n {x : Int32} {N : Nat} (hN : N ≤ 60) (h : ¬ x < 0 ∧ ¬ nI N - 1 < x) : ∃ k, k < N ∧ x = nI k := by
  obtain ⟨k, hk, rfl⟩ := nI_of h.1
  refine ⟨k, ?_, rfl⟩
  have h1 : ¬ (nI N - 1).toInt < (nI k).toInt := fun q => h.2 (Int32.lt_iff_toInt_lt.mpr q)
  rw [nIm1 hN, nI_toInt hk] at h1
  omega
theorem out7_y {x : Int32} (h : x < 0 ∨ (7 : Int32) < x) : badH x := h.imp id (fun h => by
  have h1 := Int32.lt_iff_toInt_lt.mp h
  apply Int32.le_iff_toInt_le.mpr
  have e7 : (7 : Int32).toInt = 7 := by decide
  have e8 : (8 : Int32).toInt = 8 := by decide
  omega)
theorem out7_n {x : Int32} (h : ¬ x < 0 ∧ ¬ (7 : Int32) < x) : ∃ j, j < 8 ∧ x = nI j := by
  obtain ⟨k, hk, rfl⟩ := nI_of h.1
  refine ⟨k, ?_, rfl⟩
  have h1 : ¬ (7 : Int32).toInt < (nI k).toInt := fun q => h.2 (Int32.lt_iff_toInt_lt.mpr q)
  have e7 : (7 : Int32).toInt = 7 := by decide
  rw [nI_toInt hk, e7] at h1
  omega
def al2 (a b : Int32) : Prop := (a ≤ 2 ∧ b ≤ 2) ∨ a = b
theorem al2_fam {a b : Int32} : al2 a b ↔ fam a = fam b := by
  unfold al2 fam
  by_cases h1 : a ≤ 2
  · rw [if_pos h1]
    by_cases h2 : b ≤ 2
    · rw [if_pos h2]; exact ⟨fun _ => rfl, fun _ => Or.inl ⟨h1, h2⟩⟩
    · rw [if_neg h2]
      exact ⟨fun h => h.elim (fun q => absurd q.2 h2) (fun q => by rw [q] at h1; exact absurd h1 h2), fun h => absurd (by rw [← h]; decide) h2⟩
  · rw [if_neg h1]
    by_cases h2 : b ≤ 2
    · rw [if_pos h2]
      exact ⟨fun h => h.elim (fun q => absurd q.1 h1) (fun q => by rw [← q] at h2; exact absurd h2 h1), fun h => absurd (by rw [h]; decide) h1⟩
    · rw [if_neg h2]; exact ⟨fun h => h.elim (fun q => absurd q.1 h1) id, Or.inr⟩
def tkm (m k : Int32) : Prop := (m = 1 ∧ ¬ k = 0) ∨ (m = 2 ∧ ¬ k = 1)
theorem tkm_iff {m : Int32} {fk : Nat → Int32} {n k : Nat} (hn : n ≤ 60) (hk : k < n) (hm : ¬ m < 0) (h2 : m ≤ 2) : tkm m (fk k) ↔ noTake m fk n (lN k) := by
  obtain ⟨j, hj, rfl⟩ := nI_of hm
  have hj2 : j ≤ 2 := nI_ge_of (a := 2) (b := j) h2 (by decide) hj
  unfold tkm noTake
  constructor
  · rintro (⟨e, h⟩ | ⟨e, h⟩)
    · exact ⟨k, hk, rfl, by rw [e]; decide, h2, by rw [e]; exact h⟩
    · exact ⟨k, hk, rfl, by rw [e]; decide, h2, by rw [e]; exact h⟩
  · rintro ⟨k', hk', e, h0, -, h⟩
    have : k' = k := lN_inj (by omega) (by omega) e.symm
    subst this
    rcases (show j = 0 ∨ j = 1 ∨ j = 2 by omega) with rfl | rfl | rfl
    · exact absurd rfl h0
    · exact Or.inl ⟨rfl, h⟩
    · exact Or.inr ⟨rfl, h⟩
theorem lN_n0 {k : Nat} (h : k < 60) : ¬ lN k < 0 := fun q => by
  have h1 := Int64.lt_iff_toInt_lt.mp q
  rw [pk_lT (by omega)] at h1
  have h2 : (0 : Int64).toInt = 0 := by decide
  omega
/-- what a row may hold: in a roster nobody (-1) or one of the n hired -/
def okV (n : Nat) (v : Int64) : Prop := v = -1 ∨ ∃ k, k < n ∧ v = lN k
def rfP (ma mb : Int32) (Sa Sb : Nat) (x y k r : Int32) : Prop :=
  ((ma = 6 ∨ mb = 6) ∧ r = 1) ∨ (¬ (ma = 6 ∨ mb = 6) ∧ ¬ alike ma mb ∧ r = 2) ∨ (¬ (ma = 6 ∨ mb = 6) ∧ alike ma mb ∧ (noSpan x k Sa ∨ noSpan y k Sb) ∧ r = 3) ∨ (¬ (ma = 6 ∨ mb = 6) ∧ alike ma mb ∧ ¬ (noSpan x k Sa ∨ noSpan y k Sb) ∧ r = 0)
def dn (k : Nat) : Int32 := nI k - 1
theorem dn_s (k : Nat) : dn (k + 1) = nI k := by unfold dn; exact nI_pred k
theorem dn_0 : dn 0 = -1 := by decide
theorem dn_dec (k : Nat) : dn (k + 1) + (-1) = dn k := by
  rw [dn_s]; unfold dn; rw [Int32.sub_eq_add_neg]
theorem nI_ne {a b : Nat} (ha : a < 2 ^ 31) (hb : b < 2 ^ 31) (h : a ≠ b) : ¬ nI a = nI b := fun e => h (nI_inj ha hb e)
