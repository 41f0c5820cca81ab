/-! the reference: fresh, copies -/
theorem dn_neg {k : Nat} (hk : k ≤ 9) (h : dn k < 0) : k = 0 := by
  rcases (show k = 0 ∨ k = 1 ∨ k = 2 ∨ k = 3 ∨ k = 4 ∨ k = 5 ∨ k = 6 ∨ k = 7 ∨ k = 8 ∨ k = 9 by omega) with rfl | rfl | rfl | rfl | rfl | rfl | rfl | rfl | rfl | rfl <;> first | rfl | exact absurd h (by decide)
theorem dn_pos {k : Nat} (hk : k ≤ 9) (h : ¬ dn k < 0) : 0 < k := by
  rcases Nat.eq_zero_or_pos k with rfl | q
  · exact absurd (by decide) h
  · exact q
theorem dn_at {i : Nat} (h : i < 9) : dn (9 - i) = nI (8 - i) := by rw [show 9 - i = (8 - i) + 1 by omega, dn_s]
def frI (hd : Nat → Int32) (i : Nat) (c : Int32) : Prop := (∃ t, t < 9 ∧ c = nI t ∧ ∀ h, h < 8 → ¬ hd h = nI t) ∨ (c = -1 ∧ ∀ t, 9 - i ≤ t → t < 9 → ∃ h, h < 8 ∧ hd h = nI t)
theorem frI_no {hd : Nat → Int32} {i : Nat} {c : Int32} (hi : i < 9) (h : frI hd i c) (hh : ∃ h, h < 8 ∧ hd h = nI (8 - i)) : frI hd (i + 1) c := by
  rcases h with h | ⟨h1, h2⟩
  · exact Or.inl h
  · refine Or.inr ⟨h1, fun t h3 h4 => ?_⟩
    by_cases e : t = 8 - i
    · rw [e]; exact hh
    · exact h2 t (by omega) h4
theorem rf_no {ma mb : Int32} {Sa Sb : Nat} {fa fb : Nat → Int64} {fk : Nat → Int32} {n : Nat} {x y k r : Int32} (h : rfP ma mb Sa Sb x y k r) (c : ¬ r = 0) : cpV ma mb Sa Sb fa fb fk n x y k r fb := by
  rcases h with ⟨h1, h2⟩ | ⟨h1, h2, h3⟩ | ⟨h1, h2, h3, h4⟩ | ⟨h1, h2, h3, h4⟩
  · exact Or.inl ⟨h1, h2, rfl⟩
  · exact Or.inr (Or.inl ⟨h1, h2, h3, rfl⟩)
  · exact Or.inr (Or.inr (Or.inl ⟨h1, h2, h3, h4, rfl⟩))
  · exact absurd h4 c
theorem rf_yes {ma mb : Int32} {Sa Sb : Nat} {x y k r : Int32} (hA : Sa ≤ 40) (hB : Sb ≤ 40) (h : rfP ma mb Sa Sb x y k r) (c : r = 0) : ¬ (ma = 6 ∨ mb = 6) ∧ alike ma mb ∧ ∃ X Y K, x = nI X ∧ y = nI Y ∧ k = nI K ∧ X + K ≤ Sa ∧ Y + K ≤ Sb := by
  subst c
  rcases h with ⟨h1, h2⟩ | ⟨h1, h2, h3⟩ | ⟨h1, h2, h3, h4⟩ | ⟨h1, h2, h3, h4⟩
  · exact absurd h2 (by decide)
  · exact absurd h3 (by decide)
  · exact absurd h4 (by decide)
  · refine ⟨h1, h2, ?_⟩
    obtain ⟨X, K, eX, eK, hX⟩ := sp_in hA (fun q => h3 (Or.inl (Or.inl q))) (fun q => h3 (Or.inl (Or.inr (Or.inl q)))) (fun q => h3 (Or.inl (Or.inr (Or.inr q))))
    obtain ⟨Y, K2, eY, eK2, hY⟩ := sp_in hB (fun q => h3 (Or.inr (Or.inl q))) (fun q => h3 (Or.inr (Or.inr (Or.inl q)))) (fun q => h3 (Or.inr (Or.inr (Or.inr q))))
    have : K = K2 := nI_inj (by omega) (by omega) (eK.symm.trans eK2)
    subst this
    exact ⟨X, Y, K, eX, eY, eK, hX, hY⟩
theorem as_s {f g : Nat → Int64} {q : Nat} {v : Int64} (h : ∀ p, p < q → f p = g p) (e : v = g q) : ∀ p, p < q + 1 → vp_updL f q v p = g p := by
  intro p hp
  unfold vp_updL
  split
  · next h1 => rw [h1]; exact e
  · next h1 => exact h p (by omega)
theorem cpy_s1 {f g : Nat → Int64} {X Y q : Nat} : vp_updL (va_cpy f g X Y q) (Y + q) (f (X + q)) = va_cpy f g X Y (q + 1) := by
  funext k
  unfold vp_updL
  by_cases h1 : k = Y + q
  · rw [if_pos h1, h1, pk_cpy_in (by omega) (by omega)]; congr 1; omega
  · rw [if_neg h1]
    by_cases h2 : Y ≤ k ∧ k < Y + q
    · rw [pk_cpy_in h2.1 h2.2, pk_cpy_in h2.1 (by omega)]
    · rw [pk_cpy_out (by omega), pk_cpy_out (by omega)]
theorem cpy_01 {f g : Nat → Int64} {X Y : Nat} : va_cpy f g X Y 0 = g := by funext k; exact pk_cpy_out (by omega)
theorem al_ro {ma mb : Int32} (h : alike ma mb) (hb : mb ≤ 2) : ma ≤ 2 := by
  obtain ⟨-, -, h3⟩ := h
  unfold fam at h3
  rw [if_pos hb] at h3
  split at h3
  · assumption
  · rw [h3]; decide
theorem hOK_up {hd : Nat → Int32} {H : Nat → Nat} {b : Nat} {x : Int32} {t : Nat} (h : hOK hd H) (ht : t < 10) (hx : x = hv t) : hOK (upd hd b x) (va_up H b t) := by
  intro q hq
  unfold upd va_up
  by_cases e : q = b
  · rw [if_pos e, if_pos e]; exact ⟨ht, hx⟩
  · rw [if_neg e, if_neg e]; exact h q hq
theorem m1_nt {m : Int32} {fk : Nat → Int32} {n : Nat} (hn : n ≤ 60) : ¬ noTake m fk n (-1 : Int32).toInt64 := fun ⟨k, hk, e, _⟩ => lN_n0 (k := k) (by omega) (by rw [← e]; decide)
theorem mV_pos {mk : Nat → Int32} {t : Nat} (h : ∀ t, t < 9 → ¬ mk t < 0) (ht : t < 10) : ¬ mV mk t < 0 := by
  unfold mV; split
  · decide
  · exact h t (by omega)
theorem u1 {u : Int32} (h : (¬ (1 : Int32) = 0 ∧ u = 1) ∨ ((1 : Int32) = 0 ∧ ¬ (0 : Int32) = 0 ∧ u = 2)) : u = 1 := h.elim (fun q => q.2) (fun q => absurd q.1 (by decide))
theorem u1' {u : Int32} (h : (¬ (1 : Int32) = 0 ∧ u = 1) ∨ ((1 : Int32) = 0 ∧ ¬ (1 : Int32) = 0 ∧ u = 2)) : u = 1 := h.elim (fun q => q.2) (fun q => absurd q.1 (by decide))
theorem u2 {u : Int32} (h : (¬ (0 : Int32) = 0 ∧ u = 1) ∨ ((0 : Int32) = 0 ∧ ¬ (1 : Int32) = 0 ∧ u = 2)) : u = 2 := h.elim (fun q => absurd rfl q.1) (fun q => q.2.2)
