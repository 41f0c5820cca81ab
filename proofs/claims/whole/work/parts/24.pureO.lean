/-! the reference: what its public calls do -/
theorem ro_set {mk : Nat → Int32} {Z Hg : Nat → Nat} {np : Nat} {ce ce1 f : Nat → Int64} {b : Nat} (hSZ : ∀ h, h < 8 → sV mk Z (Hg h) ≤ 40) (hR : ∀ h, h < 8 → mV mk (Hg h) ≤ 2 → ∀ q, q < sV mk Z (Hg h) → okV np (rV ce (Hg h) q)) (hi : rowIs ce (Hg b) f ce1) (hf : mV mk (Hg b) ≤ 2 → ∀ q, q < sV mk Z (Hg b) → okV np (f q)) :
    ∀ h, h < 8 → mV mk (Hg h) ≤ 2 → ∀ q, q < sV mk Z (Hg h) → okV np (rV ce1 (Hg h) q) := by
  intro h hh hm q hq
  have h40 := hSZ h hh
  by_cases e : Hg h = Hg b
  · rw [e] at hm hq ⊢
    have : rV ce1 (Hg b) q = f q := hi.1 q (by rw [e] at h40; omega)
    rw [this]; exact hf hm q hq
  · have : rV ce1 (Hg h) q = rV ce (Hg h) q := hi.2 _ (by omega)
    rw [this]; exact hR h hh hm q hq
theorem cp_ok {ma mb : Int32} {Sa Sb : Nat} {fa fb f : Nat → Int64} {fk : Nat → Int32} {n : Nat} {x y k r : Int32} (h : cpV ma mb Sa Sb fa fb fk n x y k r f) (hA : ma ≤ 2 → ∀ q, q < Sa → okV n (fa q)) (hB : mb ≤ 2 → ∀ q, q < Sb → okV n (fb q)) : mb ≤ 2 → ∀ q, q < Sb → okV n (f q) := by
  intro hm q hq
  rcases h with ⟨h1, h2, rfl⟩ | ⟨h1, h2, h3, rfl⟩ | ⟨h1, h2, h3, h4, rfl⟩ | ⟨h1, h2, X, Y, K, p, e1, e2, e3, e4, e5, e6, e7, rfl, e9⟩
  · exact hB hm q hq
  · exact hB hm q hq
  · exact hB hm q hq
  · by_cases c : Y ≤ q ∧ q < Y + p
    · rw [pk_cpy_in c.1 c.2]; exact hA (al_ro h2 hm) _ (by omega)
    · rw [pk_cpy_out (by omega)]; exact hB hm q hq
theorem hv_inj {a b : Nat} (ha : a < 10) (hb : b < 10) (h : hv a = hv b) : a = b := by
  unfold hv at h
  split at h <;> split at h
  · omega
  · exact absurd h.symm (nI_nm1 (by omega))
  · exact absurd h (nI_nm1 (by omega))
  · exact nI_inj (by omega) (by omega) h
theorem hd_eq {hd : Nat → Int32} {H : Nat → Nat} {i j : Nat} (h : hOK hd H) (hi : i < 8) (hj : j < 8) : hd i = hd j ↔ H i = H j := by
  rw [(h i hi).2, (h j hj).2]
  exact ⟨hv_inj (h i hi).1 (h j hj).1, fun e => by rw [e]⟩
def lkI (H : Nat → Nat) (a i : Nat) (c : Int32) : Prop := ∃ t, t < 8 ∧ c = nI t ∧ H t = H a ∧ ∀ h, 8 - i ≤ h → h < t → ¬ H h = H a
theorem lkI_y {H : Nat → Nat} {a i : Nat} {c : Int32} (hi : i < 8) (e : H (7 - i) = H a) (hc : c = nI (7 - i)) : lkI H a (i + 1) c := ⟨7 - i, by omega, hc, e, fun h h1 h2 => absurd h1 (by omega)⟩
theorem lkI_n {H : Nat → Nat} {a i : Nat} {c : Int32} (hi : i < 8) (e : ¬ H (7 - i) = H a) (hk : lkI H a i c) : lkI H a (i + 1) c := by
  obtain ⟨t, h1, h2, h3, h4⟩ := hk
  refine ⟨t, h1, h2, h3, fun h h5 h6 => ?_⟩
  by_cases q : h = 7 - i
  · rw [q]; exact e
  · exact h4 h (by omega) h6
theorem lkI_e {H : Nat → Nat} {a : Nat} {c : Int32} (h : lkI H a 8 c) : lhP H (H a) c := by
  obtain ⟨t, h1, h2, h3, h4⟩ := h
  exact Or.inl ⟨t, h1, h3, fun h' hh => h4 h' (by omega) hh, h2⟩
theorem dn_at8 {i : Nat} (h : i < 8) : dn (8 - i) = nI (7 - i) := by rw [show 8 - i = (7 - i) + 1 by omega, dn_s]
theorem nI60 {n : Nat} (hn : n ≤ 60) (c : ¬ nI n = 60) : n < 60 := by
  rcases Nat.lt_or_ge n 60 with q | q
  · exact q
  · exact absurd (by rw [show n = 60 by omega]; rfl) c
theorem nI60' {n : Nat} (hn : n ≤ 60) (c : nI n = 60) : n = 60 := nI_inj (by omega) (by omega) c
theorem rV_e {ce : Nat → Int64} {t k : Nat} : ce (40 * t + k) = rV ce t k := rfl
