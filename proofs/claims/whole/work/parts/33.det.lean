/-! two rows that agree answer alike -/
theorem bH {a : Nat} (h : a < 8) : ¬ badH (nI a) := fun q => q.elim (nI_pos (by omega)) (fun q => absurd (nI_ge_of (a := a) (b := 8) q (by omega) (by omega)) (by omega))
theorem pl_no {k S : Nat} (hk : k < S) (hS : S ≤ 40) : ¬ (nI k < 0 ∨ nI S ≤ nI k) := fun q => q.elim (nI_pos (by omega)) (fun q => absurd (nI_ge_of q (by omega) (by omega)) (by omega))
theorem m36 {m : Int32} (h : m = 3 ∨ m = 4) : ¬ m = 6 := fun e => h.elim (fun q => absurd (q.symm.trans e) (by decide)) (fun q => absurd (q.symm.trans e) (by decide))
theorem m26 {m : Int32} (h : m ≤ 2) : ¬ m = 6 := fun e => absurd (e ▸ h) (by decide)
theorem updL_ag {f g : Nat → Int64} {S k : Nat} {v : Int64} (h : ∀ q, q < S → f q = g q) : ∀ q, q < S → vp_updL f k v q = vp_updL g k v q := by
  intro q hq
  unfold vp_updL
  split
  · rfl
  · exact h q hq
theorem det_note {m : Int32} {S : Nat} {f g : Nat → Int64} {i : Int32} {v : Int64} {r1 r2 : Int32} {f' g' : Nat → Int64} (hS : S ≤ 40) (hfg : ∀ k, k < S → f k = g k) (h1 : noteP m S f i v r1 f') (h2 : noteP m S g i v r2 g') : r1 = r2 ∧ ∀ k, k < S → f' k = g' k := by
  rcases h1 with ⟨a1, rfl, rfl⟩ | ⟨a1, a2, a3, rfl, rfl⟩ | ⟨a1, a2, rfl, rfl⟩ | ⟨a1, k, a2, a3, rfl, rfl⟩
  · rcases h2 with ⟨b1, rfl, rfl⟩ | ⟨b1, b2, b3, rfl, rfl⟩ | ⟨b1, b2, rfl, rfl⟩ | ⟨b1, k', b2, b3, rfl, rfl⟩
    · exact ⟨rfl, hfg⟩
    · exact absurd a1 b1
    · exact absurd a1 (m36 b1)
    · exact absurd a1 (m36 b1)
  · rcases h2 with ⟨b1, rfl, rfl⟩ | ⟨b1, b2, b3, rfl, rfl⟩ | ⟨b1, b2, rfl, rfl⟩ | ⟨b1, k', b2, b3, rfl, rfl⟩
    · exact absurd b1 a1
    · exact ⟨rfl, hfg⟩
    · exact absurd b1 (fun h => h.elim a2 a3)
    · exact absurd b1 (fun h => h.elim a2 a3)
  · rcases h2 with ⟨b1, rfl, rfl⟩ | ⟨b1, b2, b3, rfl, rfl⟩ | ⟨b1, b2, rfl, rfl⟩ | ⟨b1, k', b2, b3, rfl, rfl⟩
    · exact absurd b1 (m36 a1)
    · exact absurd a1 (fun h => h.elim b2 b3)
    · exact ⟨rfl, hfg⟩
    · exact absurd (b3 ▸ a2) (pl_no b2 hS)
  · rcases h2 with ⟨b1, rfl, rfl⟩ | ⟨b1, b2, b3, rfl, rfl⟩ | ⟨b1, b2, rfl, rfl⟩ | ⟨b1, k', b2, b3, rfl, rfl⟩
    · exact absurd b1 (m36 a1)
    · exact absurd a1 (fun h => h.elim b2 b3)
    · exact absurd (a3 ▸ b2) (pl_no a2 hS)
    · cases nI_inj (by omega) (by omega) (a3.symm.trans b3)
      exact ⟨rfl, updL_ag hfg⟩
theorem det_put {m : Int32} {S : Nat} {f g : Nat → Int64} {fk : Nat → Int32} {n : Nat} {i x : Int32} {r1 r2 : Int32} {f' g' : Nat → Int64} (hS : S ≤ 40) (hfg : ∀ k, k < S → f k = g k) (h1 : putP m S f fk n i x r1 f') (h2 : putP m S g fk n i x r2 g') : r1 = r2 ∧ ∀ k, k < S → f' k = g' k := by
  rcases h1 with ⟨a1, rfl, rfl⟩ | ⟨a1, a2, rfl, rfl⟩ | ⟨a1, a2, rfl, rfl⟩ | ⟨a1, k, a2, a3, a4⟩
  · rcases h2 with ⟨b1, rfl, rfl⟩ | ⟨b1, b2, rfl, rfl⟩ | ⟨b1, b2, rfl, rfl⟩ | ⟨b1, k', b2, b3, b4⟩
    · exact ⟨rfl, hfg⟩
    · exact absurd a1 b1
    · exact absurd a1 (m26 b1)
    · exact absurd a1 (m26 b1)
  · rcases h2 with ⟨b1, rfl, rfl⟩ | ⟨b1, b2, rfl, rfl⟩ | ⟨b1, b2, rfl, rfl⟩ | ⟨b1, k', b2, b3, b4⟩
    · exact absurd b1 a1
    · exact ⟨rfl, hfg⟩
    · exact absurd b1 a2
    · exact absurd b1 a2
  · rcases h2 with ⟨b1, rfl, rfl⟩ | ⟨b1, b2, rfl, rfl⟩ | ⟨b1, b2, rfl, rfl⟩ | ⟨b1, k', b2, b3, b4⟩
    · exact absurd b1 (m26 a1)
    · exact absurd a1 b2
    · exact ⟨rfl, hfg⟩
    · exact absurd (b3 ▸ a2) (pl_no b2 hS)
  · rcases h2 with ⟨b1, rfl, rfl⟩ | ⟨b1, b2, rfl, rfl⟩ | ⟨b1, b2, rfl, rfl⟩ | ⟨b1, k', b2, b3, b4⟩
    · exact absurd b1 (m26 a1)
    · exact absurd a1 b2
    · exact absurd (a3 ▸ b2) (pl_no a2 hS)
    · cases nI_inj (by omega) (by omega) (a3.symm.trans b3)
      rcases a4 with ⟨a4, rfl, rfl⟩ | ⟨a4, rfl, rfl⟩
      · rcases b4 with ⟨b4, rfl, rfl⟩ | ⟨b4, rfl, rfl⟩
        · exact ⟨rfl, hfg⟩
        · exact absurd a4 b4
      · rcases b4 with ⟨b4, rfl, rfl⟩ | ⟨b4, rfl, rfl⟩
        · exact absurd b4 a4
        · exact ⟨rfl, updL_ag hfg⟩
/-! slide -/
theorem sl_nL {I B S : Nat} (hS : S ≤ 40) (h : I + B ≤ S) : ¬ badSl (nI I) (nI B) S := by
  rintro (q | q | q | q)
  · exact nI_pos (by omega) q
  · exact absurd ((nI_ltI (by omega) (by omega)).mp q) (by omega)
  · rw [nI_l (by omega), nI_l (by omega), lN_add] at q
    exact absurd ((pk_lLT (a := I + B) (b := 0) (by omega) (by omega)).mp q) (by omega)
  · rw [nI_l (by omega), nI_l (by omega), nI_l (by omega), lN_add] at q
    exact absurd ((pk_lLT (by omega) (by omega)).mp q) (by omega)
theorem sl_nE {I B S : Nat} (hS : S ≤ 40) (h0 : 0 < B) (h1 : B ≤ I) (h2 : I ≤ S) : ¬ badSl (nI I) (-nI B) S := by
  have e0 : (-nI B).toInt = -(B : Int) := sb_negT (by omega)
  have e1 : ((nI I).toInt64 + (-nI B).toInt64).toInt = (I : Int) - B := by
    rw [Int64.toInt_add, Int32.toInt_toInt64, Int32.toInt_toInt64, nI_toInt (by omega), e0]
    rw [Int.bmod_eq_of_le (by omega) (by omega)]; omega
  rintro (q | q | q | q)
  · exact nI_pos (by omega) q
  · exact absurd ((nI_ltI (by omega) (by omega)).mp q) (by omega)
  · have := Int64.lt_iff_toInt_lt.mp q
    rw [e1] at this
    have h9 : (0 : Int64).toInt = 0 := by decide
    omega
  · have := Int64.lt_iff_toInt_lt.mp q
    rw [e1, Int32.toInt_toInt64, nI_toInt (by omega)] at this
    omega
theorem sl_LE {B B' : Nat} (h : B ≤ 40) (h' : B' ≤ 40) (h0 : 0 < B') : ¬ nI B = -nI B' := by
  intro e
  have := congrArg Int32.toInt e
  rw [sb_negT (by omega), nI_toInt (by omega)] at this
  omega
theorem neg_inj {B B' : Nat} (h : B ≤ 40) (h' : B' ≤ 40) (e : -nI B = -nI B') : B = B' := by
  have := congrArg Int32.toInt e
  rw [sb_negT (by omega), sb_negT (by omega)] at this
  omega
theorem slL_ag {m : Int32} {S I B : Nat} {f g : Nat → Int64} (h : ∀ q, q < S → f q = g q) : ∀ q, q < S → slL m S f I B q = slL m S g I B q := by
  intro q hq
  unfold slL
  by_cases h1 : q < I
  · rw [if_pos h1, if_pos h1]; exact h q hq
  · rw [if_neg h1, if_neg h1]
    by_cases h2 : q < I + B
    · rw [if_pos h2, if_pos h2]
    · rw [if_neg h2, if_neg h2, if_pos hq, if_pos hq]; exact h _ (by omega)
theorem slE_ag {m : Int32} {S I B : Nat} {f g : Nat → Int64} (hI : I ≤ S) (h : ∀ q, q < S → f q = g q) : ∀ q, q < S → slE m S f I B q = slE m S g I B q := by
  intro q hq
  unfold slE
  by_cases h1 : q < I - B
  · rw [if_pos h1, if_pos h1]; exact h q hq
  · rw [if_neg h1, if_neg h1]
    by_cases h2 : q < S - B
    · rw [if_pos h2, if_pos h2]; exact h _ (by omega)
    · rw [if_neg h2, if_neg h2, if_pos hq, if_pos hq]
theorem det_slide {m : Int32} {S : Nat} {f g : Nat → Int64} {i k : Int32} {r1 r2 : Int32} {f' g' : Nat → Int64} (hS : S ≤ 40) (hfg : ∀ k, k < S → f k = g k) (h1 : slideP m S f i k r1 f') (h2 : slideP m S g i k r2 g') : r1 = r2 ∧ ∀ k, k < S → f' k = g' k := by
  rcases h1 with ⟨a1, rfl, rfl⟩ | ⟨a1, a2, rfl, rfl⟩ | ⟨a1, a2, a3, rfl, rfl⟩ | ⟨a1, a2, I, B, a3, rfl, a4⟩
  · rcases h2 with ⟨b1, rfl, rfl⟩ | ⟨b1, b2, rfl, rfl⟩ | ⟨b1, b2, b3, rfl, rfl⟩ | ⟨b1, b2, I', B', b3, rfl, b4⟩
    · exact ⟨rfl, hfg⟩
    · exact absurd a1 b1
    · exact absurd a1 b1
    · exact absurd a1 b1
  · rcases h2 with ⟨b1, rfl, rfl⟩ | ⟨b1, b2, rfl, rfl⟩ | ⟨b1, b2, b3, rfl, rfl⟩ | ⟨b1, b2, I', B', b3, rfl, b4⟩
    · exact absurd b1 a1
    · exact ⟨rfl, hfg⟩
    · exact absurd b2 a2
    · exact absurd b2 a2
  · rcases h2 with ⟨b1, rfl, rfl⟩ | ⟨b1, b2, rfl, rfl⟩ | ⟨b1, b2, b3, rfl, rfl⟩ | ⟨b1, b2, I', B', b3, rfl, b4⟩
    · exact absurd b1 a1
    · exact absurd a2 b2
    · exact ⟨rfl, hfg⟩
    · subst b3
      rcases b4 with ⟨rfl, c1, -⟩ | ⟨rfl, c0, c1, c2, -⟩
      · exact absurd a3 (sl_nL hS c1)
      · exact absurd a3 (sl_nE hS c0 c1 c2)
  · rcases h2 with ⟨b1, rfl, rfl⟩ | ⟨b1, b2, rfl, rfl⟩ | ⟨b1, b2, b3, rfl, rfl⟩ | ⟨b1, b2, I', B', b3, rfl, b4⟩
    · exact absurd b1 a1
    · exact absurd a2 b2
    · subst a3
      rcases a4 with ⟨rfl, c1, -⟩ | ⟨rfl, c0, c1, c2, -⟩
      · exact absurd b3 (sl_nL hS c1)
      · exact absurd b3 (sl_nE hS c0 c1 c2)
    · rcases a4 with ⟨rfl, c1, rfl⟩ | ⟨rfl, c0, c1, c2, rfl⟩
      · rcases b4 with ⟨e, d1, rfl⟩ | ⟨e, d0, d1, d2, rfl⟩
        · cases nI_inj (by omega) (by omega) e
          cases nI_inj (by omega) (by omega) (a3.symm.trans b3)
          exact ⟨rfl, slL_ag hfg⟩
        · exact absurd e (sl_LE (by omega) (by omega) d0)
      · rcases b4 with ⟨e, d1, rfl⟩ | ⟨e, d0, d1, d2, rfl⟩
        · exact absurd e.symm (sl_LE (by omega) (by omega) c0)
        · cases neg_inj (by omega) (by omega) e
          cases nI_inj (by omega) (by omega) (a3.symm.trans b3)
          exact ⟨rfl, slE_ag c2 hfg⟩
theorem tuR_ag {S K : Nat} {f g : Nat → Int64} (hK : K ≤ S) (h : ∀ q, q < S → f q = g q) : ∀ q, q < S → tuR S f K q = tuR S g K q := by
  intro q hq
  unfold tuR
  by_cases h1 : q < S - K
  · rw [if_pos h1, if_pos h1]; exact h _ (by omega)
  · rw [if_neg h1, if_neg h1, if_pos hq, if_pos hq]; exact h _ (by omega)
theorem tu_no {K S : Nat} (hK : K ≤ S) (hS : S ≤ 40) : ¬ (nI K < 0 ∨ nI S < nI K) := fun q => q.elim (nI_pos (by omega)) (fun q => absurd ((nI_ltI (by omega) (by omega)).mp q) (by omega))
theorem det_turn {m : Int32} {S : Nat} {f g : Nat → Int64} {k : Int32} {r1 r2 : Int32} {f' g' : Nat → Int64} (hS : S ≤ 40) (hfg : ∀ k, k < S → f k = g k) (h1 : turnP m S f k r1 f') (h2 : turnP m S g k r2 g') : r1 = r2 ∧ ∀ k, k < S → f' k = g' k := by
  rcases h1 with ⟨a1, rfl, rfl⟩ | ⟨a1, a2, rfl, rfl⟩ | ⟨a1, a2, a3, rfl, rfl⟩ | ⟨a1, a2, K, a3, a4, rfl, rfl⟩
  · rcases h2 with ⟨b1, rfl, rfl⟩ | ⟨b1, b2, rfl, rfl⟩ | ⟨b1, b2, b3, rfl, rfl⟩ | ⟨b1, b2, K', b3, b4, rfl, rfl⟩
    · exact ⟨rfl, hfg⟩
    · exact absurd a1 b1
    · exact absurd a1 b1
    · exact absurd a1 b1
  · rcases h2 with ⟨b1, rfl, rfl⟩ | ⟨b1, b2, rfl, rfl⟩ | ⟨b1, b2, b3, rfl, rfl⟩ | ⟨b1, b2, K', b3, b4, rfl, rfl⟩
    · exact absurd b1 a1
    · exact ⟨rfl, hfg⟩
    · exact absurd b2 a2
    · exact absurd b2 a2
  · rcases h2 with ⟨b1, rfl, rfl⟩ | ⟨b1, b2, rfl, rfl⟩ | ⟨b1, b2, b3, rfl, rfl⟩ | ⟨b1, b2, K', b3, b4, rfl, rfl⟩
    · exact absurd b1 a1
    · exact absurd a2 b2
    · exact ⟨rfl, hfg⟩
    · exact absurd (b3 ▸ a3) (tu_no b4 hS)
  · rcases h2 with ⟨b1, rfl, rfl⟩ | ⟨b1, b2, rfl, rfl⟩ | ⟨b1, b2, b3, rfl, rfl⟩ | ⟨b1, b2, K', b3, b4, rfl, rfl⟩
    · exact absurd b1 a1
    · exact absurd a2 b2
    · exact absurd (a3 ▸ b3) (tu_no a4 hS)
    · cases nI_inj (by omega) (by omega) (a3.symm.trans b3)
      exact ⟨rfl, tuR_ag a4 hfg⟩
/-! copy -/
theorem sp_ok {X K S : Nat} (h : X + K ≤ S) (hS : S ≤ 40) : ¬ noSpan (nI X) (nI K) S := fun q => absurd (sp_no (by omega) (by omega) hS q) (by omega)
theorem det_cp {ma mb : Int32} {Sa Sb : Nat} {fa fb ga gb : Nat → Int64} {fk : Nat → Int32} {n : Nat} {x y k r1 r2 : Int32} {f' g' : Nat → Int64} (hSa : Sa ≤ 40) (hSb : Sb ≤ 40) (ha : ∀ k, k < Sa → fa k = ga k) (hb : ∀ k, k < Sb → fb k = gb k) (h1 : cpV ma mb Sa Sb fa fb fk n x y k r1 f') (h2 : cpV ma mb Sa Sb ga gb fk n x y k r2 g') : r1 = r2 ∧ ∀ k, k < Sb → f' k = g' k := by
  rcases h1 with ⟨a1, rfl, rfl⟩ | ⟨a1, a2, rfl, rfl⟩ | ⟨a1, a2, a3, rfl, rfl⟩ | ⟨a1, a2, X, Y, K, q, e1, e2, e3, e4, e5, e6, e7, rfl, e9⟩
  · rcases h2 with ⟨b1, rfl, rfl⟩ | ⟨b1, b2, rfl, rfl⟩ | ⟨b1, b2, b3, rfl, rfl⟩ | ⟨b1, b2, X', Y', K', q', d1, d2, d3, d4, d5, d6, d7, rfl, d9⟩
    · exact ⟨rfl, hb⟩
    · exact absurd a1 b1
    · exact absurd a1 b1
    · exact absurd a1 b1
  · rcases h2 with ⟨b1, rfl, rfl⟩ | ⟨b1, b2, rfl, rfl⟩ | ⟨b1, b2, b3, rfl, rfl⟩ | ⟨b1, b2, X', Y', K', q', d1, d2, d3, d4, d5, d6, d7, rfl, d9⟩
    · exact absurd b1 a1
    · exact ⟨rfl, hb⟩
    · exact absurd b2 a2
    · exact absurd b2 a2
  · rcases h2 with ⟨b1, rfl, rfl⟩ | ⟨b1, b2, rfl, rfl⟩ | ⟨b1, b2, b3, rfl, rfl⟩ | ⟨b1, b2, X', Y', K', q', d1, d2, d3, d4, d5, d6, d7, rfl, d9⟩
    · exact absurd b1 a1
    · exact absurd a2 b2
    · exact ⟨rfl, hb⟩
    · subst d1; subst d2; subst d3
      exact absurd a3 (fun h => h.elim (sp_ok d4 hSa) (sp_ok d5 hSb))
  · subst e1; subst e2; subst e3
    rcases h2 with ⟨b1, rfl, rfl⟩ | ⟨b1, b2, rfl, rfl⟩ | ⟨b1, b2, b3, rfl, rfl⟩ | ⟨b1, b2, X', Y', K', q', d1, d2, d3, d4, d5, d6, d7, rfl, d9⟩
    · exact absurd b1 a1
    · exact absurd a2 b2
    · exact absurd b3 (fun h => h.elim (sp_ok e4 hSa) (sp_ok e5 hSb))
    · cases nI_inj (by omega) (by omega) d1
      cases nI_inj (by omega) (by omega) d2
      cases nI_inj (by omega) (by omega) d3
      have hq : q = q' := by
        rcases Nat.lt_trichotomy q q' with h | h | h
        · rcases e9 with ⟨c1, -⟩ | ⟨c1, c2, -⟩
          · omega
          · exact absurd (by rw [← ha _ (by omega)]; exact c2) (d7 q h)
        · exact h
        · rcases d9 with ⟨c1, -⟩ | ⟨c1, c2, -⟩
          · omega
          · exact absurd (by rw [ha _ (by omega)]; exact c2) (e7 q' h)
      subst hq
      refine ⟨?_, fun p hp => ?_⟩
      · rcases e9 with ⟨c1, c2⟩ | ⟨c1, c2, c3⟩
        · rcases d9 with ⟨g1, g2⟩ | ⟨g1, g2, g3⟩
          · rw [c2, g2]
          · omega
        · rcases d9 with ⟨g1, g2⟩ | ⟨g1, g2, g3⟩
          · omega
          · rw [c3, g3]
      · unfold va_cpy
        by_cases h : Y ≤ p ∧ p < Y + q
        · rw [if_pos h, if_pos h]; exact ha _ (by omega)
        · rw [if_neg h, if_neg h]; exact hb p hp
/-! pay -/
theorem paid_ag {fk : Nat → Int32} {n : Nat} {fa fb fc ga gb gc fp : Nat → Int64} : ∀ q : Nat, (∀ p, p < q → fa p = ga p ∧ fb p = gb p ∧ fc p = gc p) → paid fk n fa fb fc fp q = paid fk n ga gb gc fp q := by
  intro q
  induction q with
  | zero => intro _; rfl
  | succ q ih =>
    intro h
    obtain ⟨h1, h2, h3⟩ := h q (by omega)
    show payStep fk n _ _ _ _ = payStep fk n _ _ _ _
    rw [ih (fun p hp => h p (by omega)), h1, h2, h3]
theorem det_pay {ma mb mc : Int32} {Sa Sb Sc : Nat} {fa fb fc ga gb gc : Nat → Int64} {fk : Nat → Int32} {n : Nat} {fp : Nat → Int64} {r1 r2 : Int32} {f' g' : Nat → Int64} (ha : ∀ k, k < Sa → fa k = ga k) (hb : ∀ k, k < Sb → fb k = gb k) (hc : ∀ k, k < Sc → fc k = gc k) (h1 : payP ma mb mc Sa Sb Sc fa fb fc fk n fp r1 f') (h2 : payP ma mb mc Sa Sb Sc ga gb gc fk n fp r2 g') : r1 = r2 ∧ f' = g' := by
  rcases h1 with ⟨a1, rfl, rfl⟩ | ⟨a1, ⟨a2, rfl, rfl⟩ | ⟨a2, q, a3, a4, rfl, a6⟩⟩
  · rcases h2 with ⟨b1, rfl, rfl⟩ | ⟨b1, -⟩
    · exact ⟨rfl, rfl⟩
    · exact absurd a1 b1
  · rcases h2 with ⟨b1, -⟩ | ⟨b1, ⟨b2, rfl, rfl⟩ | ⟨b2, -⟩⟩
    · exact absurd b1 a1
    · exact ⟨rfl, rfl⟩
    · exact absurd a2 b2
  · rcases h2 with ⟨b1, -⟩ | ⟨b1, ⟨b2, -⟩ | ⟨b2, q', b3, b4, rfl, b6⟩⟩
    · exact absurd b1 a1
    · exact absurd b2 a2
    · have hq : q = q' := by
        rcases Nat.lt_trichotomy q q' with h | h | h
        · rcases a6 with ⟨c1, -⟩ | ⟨c1, c2, -⟩
          · omega
          · exact absurd (b4 q h) c2
        · exact h
        · rcases b6 with ⟨c1, -⟩ | ⟨c1, c2, -⟩
          · omega
          · exact absurd (a4 q' h) c2
      subst hq
      refine ⟨?_, paid_ag q (fun p hp => ⟨ha p (by omega), hb p (a4 p hp).1, hc p (a4 p hp).2⟩)⟩
      rcases a6 with ⟨c1, c2⟩ | ⟨c1, c2, c3⟩
      · rcases b6 with ⟨g1, g2⟩ | ⟨g1, g2, g3⟩
        · rw [c2, g2]
        · omega
      · rcases b6 with ⟨g1, g2⟩ | ⟨g1, g2, g3⟩
        · omega
        · rw [c3, g3]
/-- beyond the hired nothing is paid -/
theorem paid_0 {fk : Nat → Int32} {n : Nat} (hn : n ≤ 60) {fa fb fc fp : Nat → Int64} (h0 : ∀ k, n ≤ k → fp k = 0) : ∀ q k : Nat, (∀ p, p < q → okV n (fa p)) → n ≤ k → paid fk n fa fb fc fp q k = 0 := by
  intro q
  induction q with
  | zero => intro k _ hk; exact h0 k hk
  | succ q ih =>
    intro k ho hk
    show payStep fk n _ _ _ _ k = 0
    rcases ho q (by omega) with e | ⟨j, hj, e⟩
    · rw [pay_m1 e]; exact ih k (fun p hp => ho p (by omega)) hk
    · rw [payStep_yes hn hj e]
      unfold vp_updL
      rw [if_neg (by omega)]
      exact ih k (fun p hp => ho p (by omega)) hk
