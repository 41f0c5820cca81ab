/-! hang -/
section SIM3
variable {hf : Nat → Nat} {fk : Nat → Int32} {fp : Nat → Int64} {n : Nat} {mk : Nat → Int32} {sz : Nat → Nat} {pl : Nat → Nat → Int64} {hd mk2 sz2 : Nat → Int32} {ce : Nat → Int64} {Hg Z : Nat → Nat}
theorem Inv.none (I : Inv hf fk fp n mk sz pl hd mk2 sz2 ce Hg Z) {a : Nat} : Inv (va_up hf a 9) fk fp n mk sz pl (upd hd a (-1)) mk2 sz2 ce (va_up Hg a 9) Z := by
  obtain ⟨⟨C1, C2, C3, C4, C5⟩, ⟨M1, M2, M3, M4, M5⟩, R1, R2, R3, R4⟩ := I
  refine ⟨⟨fun h hh => ?_, C2, C3, C4, C5⟩, ⟨fun h hh => ?_, M2, M3, fun h hh => ?_, M5⟩, R1, fun h hh => ?_, fun h h' hh hh' => ?_, fun h hh => ?_⟩
  · by_cases e : h = a
    · rw [e, va_up_self]; decide
    · rw [va_up_ne _ _ e]; exact C1 h hh
  · by_cases e : h = a
    · rw [e, va_up_self, upd_self]; exact ⟨by decide, rfl⟩
    · rw [va_up_ne _ _ e, upd_ne _ _ e]; exact M1 h hh
  · by_cases e : h = a
    · rw [e, va_up_self]
      intro hm
      exact absurd hm (show ¬ (6 : Int32) ≤ 2 by decide)
    · rw [va_up_ne _ _ e]; exact M4 h hh
  · by_cases e : h = a
    · rw [e, va_up_self, va_up_self]
      exact ⟨C4, C3, fun k hk => by rw [C3] at hk; exact absurd hk (by omega)⟩
    · rw [va_up_ne _ _ e, va_up_ne _ _ e]; exact R2 h hh
  · by_cases e : h = a
    · by_cases e' : h' = a
      · rw [e, e']; exact ⟨fun _ => rfl, fun _ => rfl⟩
      · rw [e, va_up_self, va_up_self, va_up_ne _ _ e', va_up_ne _ _ e']
        exact ⟨fun q => ((R4 h' hh').mp q.symm).symm, fun q => ((R4 h' hh').mpr q.symm).symm⟩
    · by_cases e' : h' = a
      · rw [e', va_up_self, va_up_self, va_up_ne _ _ e, va_up_ne _ _ e]; exact R4 h hh
      · rw [va_up_ne _ _ e, va_up_ne _ _ e, va_up_ne _ _ e', va_up_ne _ _ e']; exact R3 h h' hh hh'
  · by_cases e : h = a
    · rw [e, va_up_self, va_up_self]
    · rw [va_up_ne _ _ e, va_up_ne _ _ e]; exact R4 h hh
theorem hv_t {t : Nat} (h : t < 9) : hv t = nI t := by unfold hv; rw [if_neg (by omega)]
theorem mV_up {i t : Nat} {y : Int32} (h : ¬ t = i) : mV (upd mk2 i y) t = mV mk2 t := by unfold mV; rw [upd_ne _ _ h]
theorem mV_at {i : Nat} {y : Int32} (h : i < 9) : mV (upd mk2 i y) i = y := by unfold mV; rw [if_neg (by omega), upd_self]
theorem sV_up {i t N : Nat} {y : Int32} (h : ¬ t = i) : sV (upd mk2 i y) (va_up Z i N) t = sV mk2 Z t := by unfold sV; rw [mV_up h, va_up_ne _ _ h]
theorem Inv.hang (I : Inv hf fk fp n mk sz pl hd mk2 sz2 ce Hg Z) {a i i' N : Nat} {y : Int32} {ce' : Nat → Int64} (ha : a < 8) (hi : i < 9) (hi' : i' < 9) (hfr : ∀ h, h < 8 → ¬ hf h = i) (hfr' : ∀ h, h < 8 → ¬ upd hd a (-1) h = nI i') (hN : N ≤ 40) (hy0 : ¬ y < 0) (hy6 : ¬ y = 6) (hyN : ¬ y ≤ 4 → N = 0)
    (hrow : rowIs ce i' (part (rV ce i') (fun _ => blankV y) 0 N) ce') :
    Inv (va_up hf a i) fk fp n (va_up mk i y) (va_up sz i N) (blanked (va_up mk i y) pl i 0 N) (upd (upd hd a (-1)) a (nI i')) (upd mk2 i' y) (upd sz2 i' (nI N)) ce' (va_up Hg a i') (va_up Z i' N) := by
  have I0 := I
  obtain ⟨⟨C1, C2, C3, C4, C5⟩, ⟨M1, M2, M3, M4, M5⟩, R1, R2, R3, R4⟩ := I
  have hH' : ∀ h, h < 8 → ¬ h = a → ¬ Hg h = i' := by
    intro h hh e q
    refine hfr' h hh ?_
    rw [upd_ne _ _ e, (M1 h hh).2, q, hv_t hi']
  have hsN : sV (upd mk2 i' y) (va_up Z i' N) i' = N := by
    unfold sV
    rw [mV_at hi', va_up_self]
    split
    · rfl
    · next h => rw [hyN h]
  have hpl : ∀ k, k < N → blanked (va_up mk i y) pl i 0 N i k = blankV y := by
    intro k hk
    unfold blanked
    rw [va_up_self, va_up_self]
    exact if_pos ⟨by omega, hk⟩
  have hpn : ∀ t k, ¬ t = i → blanked (va_up mk i y) pl i 0 N t k = pl t k := by
    intro t k h
    unfold blanked
    rw [va_up_ne _ _ h]
  have hce : ∀ k, k < N → rV ce' i' k = blankV y := by
    intro k hk
    rw [row_at hrow (by omega)]
    unfold part
    exact if_pos ⟨by omega, hk⟩
  refine ⟨⟨fun h hh => ?_, fun t ht => ?_, ?_, ?_, C5⟩, ⟨fun h hh => ?_, fun t ht => ?_, fun t ht => ?_, fun h hh hm q hq => ?_, fun {t} ht => ?_⟩, R1, fun h hh => ?_, fun h h' hh hh' => ?_, fun h hh => ?_⟩
  · by_cases e : h = a
    · rw [e, va_up_self]; omega
    · rw [va_up_ne _ _ e]; exact C1 h hh
  · by_cases e : t = i
    · rw [e, va_up_self]; exact hN
    · rw [va_up_ne _ _ e]; exact C2 t ht
  · rw [va_up_ne _ _ (by omega)]; exact C3
  · rw [va_up_ne _ _ (by omega)]; exact C4
  · by_cases e : h = a
    · rw [e, va_up_self, upd_self]; exact ⟨by omega, (hv_t hi').symm⟩
    · rw [va_up_ne _ _ e, upd_ne _ _ e, upd_ne _ _ e]; exact M1 h hh
  · by_cases e : t = i'
    · rw [e, va_up_self, upd_self]; exact ⟨rfl, hN⟩
    · rw [va_up_ne _ _ e, upd_ne _ _ e]; exact M2 t ht
  · by_cases e : t = i'
    · rw [e, upd_self]; exact hy0
    · rw [upd_ne _ _ e]; exact M3 t ht
  · by_cases e : h = a
    · rw [e, va_up_self] at hm hq ⊢
      rw [hsN] at hq
      rw [mV_at hi'] at hm
      rw [hce q hq]
      exact ok_bl hm
    · rw [va_up_ne _ _ e] at hm hq ⊢
      have ne := hH' h hh e
      rw [mV_up ne] at hm
      rw [sV_up ne] at hq
      have h40 : sV mk2 Z (Hg h) ≤ 40 := by rw [I0.sz_ hh]; exact I0.sz40 hh
      rw [row_ne hrow ne (by omega)]
      exact M4 h hh hm q hq
  · by_cases e : t = i'
    · rw [e, mV_at hi']; exact hy6
    · rw [mV_up e]; exact M5 ht
  · by_cases e : h = a
    · rw [e, va_up_self, va_up_self, va_up_self, va_up_self, mV_at hi', hsN]
      exact ⟨rfl, rfl, fun k hk => by rw [hpl k hk, hce k hk]⟩
    · have ne := hH' h hh e
      have ne2 := hfr h hh
      rw [va_up_ne _ _ e, va_up_ne _ _ e, va_up_ne _ _ ne2, va_up_ne _ _ ne2, mV_up ne, sV_up ne]
      refine ⟨(R2 h hh).1, (R2 h hh).2.1, fun k hk => ?_⟩
      have h40 := I0.sz40 hh
      rw [hpn _ _ ne2, row_ne hrow ne (by omega)]
      exact (R2 h hh).2.2 k hk
  · by_cases e : h = a
    · by_cases e' : h' = a
      · rw [e, e']; exact ⟨fun _ => rfl, fun _ => rfl⟩
      · rw [e, va_up_self, va_up_self, va_up_ne _ _ e', va_up_ne _ _ e']
        exact ⟨fun q => absurd q.symm (hfr h' hh'), fun q => absurd q.symm (hH' h' hh' e')⟩
    · by_cases e' : h' = a
      · rw [e', va_up_self, va_up_self, va_up_ne _ _ e, va_up_ne _ _ e]
        exact ⟨fun q => absurd q (hfr h hh), fun q => absurd q (hH' h hh e)⟩
      · rw [va_up_ne _ _ e, va_up_ne _ _ e, va_up_ne _ _ e', va_up_ne _ _ e']; exact R3 h h' hh hh'
  · by_cases e : h = a
    · rw [e, va_up_self, va_up_self]; exact ⟨fun q => by omega, fun q => by omega⟩
    · rw [va_up_ne _ _ e, va_up_ne _ _ e]; exact R4 h hh
theorem sim_hang (I : Inv hf fk fp n mk sz pl hd mk2 sz2 ce Hg Z) {x y t k : Int32} {o : Int64} {u : (Nat → Nat) × (Nat → Int32) × (Nat → Nat) × (Nat → Nat → Int64)} {r2 : Int32} {u2 : Int32 × (Nat → Int32) × (Nat → Int32) × (Nat → Int32) × (Nat → Int64)}
    (hw : (k = 0 ∧ ∃ r : Int32, o = r.toInt64 ∧ ∃ a, a < 8 ∧ x = nI a ∧ (¬ y < 0 ∧ y ≤ 6 ∧ t ≤ 40) ∧ hangP hf mk sz pl a y t r u.1 u.2.1 u.2.2.1 u.2.2.2) ∨ (k = 1 ∧ (badH x ∨ (y < 0 ∨ 6 < y) ∨ 40 < t) ∧ u = (hf, mk, sz, pl)))
    (hm : (u2.1 = 1 ∧ (badH x ∨ (y < 0 ∨ 6 < y) ∨ 40 < t) ∧ u2.2 = (hd, mk2, sz2, ce)) ∨ (u2.1 = 0 ∧ ¬ y < 0 ∧ ¬ 6 < y ∧ t ≤ 40 ∧ ∃ a, a < 8 ∧ x = nI a ∧ hangM hd mk2 sz2 ce a y t r2 u2.2.1 u2.2.2.1 u2.2.2.2.1 u2.2.2.2.2)) :
    u2.1 = k ∧ (k = 0 → o = r2.toInt64) ∧ ∃ Hg' Z' : Nat → Nat, Inv u.1 fk fp n u.2.1 u.2.2.1 u.2.2.2 u2.2.1 u2.2.2.1 u2.2.2.2.1 u2.2.2.2.2 Hg' Z' := by
  obtain ⟨u1, um, us, up⟩ := u
  obtain ⟨th, h2, m2, s2, c2⟩ := u2
  dsimp only at hw hm ⊢
  rcases hw with ⟨rfl, r, rfl, a, ha, rfl, ⟨y1, y2, y3⟩, hp⟩ | ⟨rfl, h9, e9⟩
  · rcases hm with ⟨rfl, h9, -⟩ | ⟨rfl, -, -, -, a', ha', ea, hq⟩
    · exact absurd h9 (fun h => h.elim (bH ha) (fun h => h.elim (fun h => h.elim y1 (Int32.not_lt.mpr y2)) (Int32.not_lt.mpr y3)))
    · cases nI8 ha ha' ea
      refine ⟨rfl, ?_⟩
      rcases hp with ⟨p1, rfl, rfl, rfl, rfl, rfl⟩ | ⟨p1, p2, p3, rfl, rfl, rfl, rfl, rfl⟩ | ⟨p1, i, N, p2, p3, p4, rfl, rfl, rfl, rfl, rfl⟩
      · rcases hq with ⟨q1, rfl, rfl, rfl, rfl, rfl⟩ | ⟨q1, -⟩ | ⟨q1, -⟩
        · exact ⟨fun _ => rfl, _, _, I.none⟩
        · exact absurd p1 q1
        · exact absurd p1 q1
      · rcases hq with ⟨q1, -⟩ | ⟨q1, q2, q3, rfl, rfl, rfl, rfl, rfl⟩ | ⟨q1, i', N', q2, q3, q4, -⟩
        · exact absurd q1 p1
        · exact ⟨fun _ => rfl, _, _, I⟩
        · exact q4.elim (fun q => absurd (q.2.1 ▸ p3) (nI_pos (by omega))) (fun q => absurd p2 q.1)
      · rcases hq with ⟨q1, -⟩ | ⟨q1, q2, q3, -⟩ | ⟨q1, i', N', q2, q3, q4, rfl, rfl, rfl, rfl, hrow⟩
        · exact absurd q1 p1
        · exact p4.elim (fun q => absurd (q.2.1 ▸ q3) (nI_pos (by omega))) (fun q => absurd q2 q.1)
        · have eN : N = N' := by
            rcases p4 with ⟨g1, g2, g3⟩ | ⟨g1, g2⟩
            · rcases q4 with ⟨k1, k2, k3⟩ | ⟨k1, k2⟩
              · exact nI_inj (by omega) (by omega) (g2.symm.trans k2)
              · exact absurd g1 k1
            · rcases q4 with ⟨k1, k2, k3⟩ | ⟨k1, k2⟩
              · exact absurd k1 g1
              · rw [g2, k2]
          subst eN
          exact ⟨fun _ => rfl, _, _, I.hang ha p2 q2 p3 q3 (p4.elim (fun g => g.2.2) (fun g => by rw [g.2]; omega)) y1 p1 (fun h => p4.elim (fun g => absurd g.1 h) (fun g => g.2)) hrow⟩
  · cases e9
    rcases hm with ⟨rfl, -, e8⟩ | ⟨rfl, y1, y2, y3, a', ha', rfl, -⟩
    · cases e8
      exact ⟨rfl, fun h => absurd h (by decide), _, _, I⟩
    · exact absurd h9 (fun h => h.elim (bH ha') (fun h => h.elim (fun h => h.elim y1 y2) (Int32.not_lt.mpr y3)))
end SIM3
