/-! the class and the reference agree: the relation between their cells -/
def InvC (hf : Nat → Nat) (fk : Nat → Int32) (n : Nat) (mk : Nat → Int32) (sz : Nat → Nat) : Prop := (∀ h, h < 8 → hf h < 10) ∧ (∀ i, i < 10 → sz i ≤ 40) ∧ sz 9 = 0 ∧ mk 9 = 6 ∧ n ≤ 60 ∧ (∀ k, k < n → ∃ q, q < 3 ∧ fk k = nI q)
def InvM (n : Nat) (hd mk2 sz2 : Nat → Int32) (ce : Nat → Int64) (Hg Z : Nat → Nat) : Prop := hOK hd Hg ∧ zOK sz2 Z ∧ (∀ t, t < 9 → ¬ mk2 t < 0) ∧ (∀ h, h < 8 → mV mk2 (Hg h) ≤ 2 → ∀ q, q < sV mk2 Z (Hg h) → okV n (rV ce (Hg h) q)) ∧ (∀ {t : Nat}, t < 9 → ¬ mV mk2 t = 6)
def InvR (hf : Nat → Nat) (fp : Nat → Int64) (n : Nat) (mk : Nat → Int32) (sz : Nat → Nat) (pl : Nat → Nat → Int64) (mk2 : Nat → Int32) (ce : Nat → Int64) (Hg Z : Nat → Nat) : Prop := (∀ k, n ≤ k → fp k = 0) ∧ (∀ h, h < 8 → mk (hf h) = mV mk2 (Hg h) ∧ sz (hf h) = sV mk2 Z (Hg h) ∧ ∀ k, k < sz (hf h) → pl (hf h) k = rV ce (Hg h) k) ∧ (∀ h h', h < 8 → h' < 8 → (hf h = hf h' ↔ Hg h = Hg h')) ∧ (∀ h, h < 8 → (hf h = 9 ↔ Hg h = 9))
def Inv (hf : Nat → Nat) (fk : Nat → Int32) (fp : Nat → Int64) (n : Nat) (mk : Nat → Int32) (sz : Nat → Nat) (pl : Nat → Nat → Int64) (hd mk2 sz2 : Nat → Int32) (ce : Nat → Int64) (Hg Z : Nat → Nat) : Prop := InvC hf fk n mk sz ∧ InvM n hd mk2 sz2 ce Hg Z ∧ InvR hf fp n mk sz pl mk2 ce Hg Z
theorem row_at {ce : Nat → Int64} {t : Nat} {f ce' : Nat → Int64} (h : rowIs ce t f ce') {q : Nat} (hq : q < 40) : rV ce' t q = f q := h.1 q hq
theorem row_ne {ce : Nat → Int64} {t t' : Nat} {f ce' : Nat → Int64} (h : rowIs ce t f ce') (ht : ¬ t' = t) {q : Nat} (hq : q < 40) : rV ce' t' q = rV ce t' q := h.2 _ (by omega)
theorem ok_x {n : Nat} (hn : n ≤ 60) {x : Int32} (h : x = -1 ∨ ∃ k, k < n ∧ x = nI k) : okV n x.toInt64 := by
  rcases h with rfl | ⟨k, hk, rfl⟩
  · exact Or.inl (by decide)
  · exact Or.inr ⟨k, hk, nI_l (by omega)⟩
theorem ok_bl {n : Nat} {m : Int32} (h : m ≤ 2) : okV n (blankV m) := Or.inl (blankV_t h).symm
theorem ok_up {n S k : Nat} {f : Nat → Int64} {v : Int64} (h : ∀ q, q < S → okV n (f q)) (hv : okV n v) : ∀ q, q < S → okV n (vp_updL f k v q) := by
  intro q hq
  unfold vp_updL
  split
  · exact hv
  · exact h q hq
theorem ok_put {m : Int32} {S : Nat} {f : Nat → Int64} {fk : Nat → Int32} {n : Nat} (hn : n ≤ 60) {i x r : Int32} {f' : Nat → Int64} (hx : x = -1 ∨ ∃ k, k < n ∧ x = nI k) (h : putP m S f fk n i x r f') (ho : ∀ q, q < S → okV n (f q)) : ∀ q, q < S → okV n (f' q) := by
  rcases h with ⟨-, -, rfl⟩ | ⟨-, -, -, rfl⟩ | ⟨-, -, -, rfl⟩ | ⟨-, k, -, -, ⟨-, -, rfl⟩ | ⟨-, -, rfl⟩⟩
  · exact ho
  · exact ho
  · exact ho
  · exact ho
  · exact ok_up ho (ok_x hn hx)
theorem ok_note {m : Int32} {S : Nat} {f : Nat → Int64} {n : Nat} {i : Int32} {v : Int64} {r : Int32} {f' : Nat → Int64} (hm : m ≤ 2) (h : noteP m S f i v r f') (ho : ∀ q, q < S → okV n (f q)) : ∀ q, q < S → okV n (f' q) := by
  rcases h with ⟨-, -, rfl⟩ | ⟨-, -, -, -, rfl⟩ | ⟨-, -, -, rfl⟩ | ⟨h, -⟩
  · exact ho
  · exact ho
  · exact ho
  · exact absurd hm (fun hm => h.elim (fun e => absurd (e ▸ hm) (by decide)) (fun e => absurd (e ▸ hm) (by decide)))
theorem ok_slide {m : Int32} {S : Nat} {f : Nat → Int64} {n : Nat} {i k r : Int32} {f' : Nat → Int64} (hm : m ≤ 2) (h : slideP m S f i k r f') (ho : ∀ q, q < S → okV n (f q)) : ∀ q, q < S → okV n (f' q) := by
  rcases h with ⟨-, -, rfl⟩ | ⟨-, -, -, rfl⟩ | ⟨-, -, -, -, rfl⟩ | ⟨-, -, I, B, -, -, ⟨-, h1, rfl⟩ | ⟨-, h0, h1, h2, rfl⟩⟩
  · exact ho
  · exact ho
  · exact ho
  · intro q hq
    unfold slL
    split
    · exact ho q hq
    · split
      · exact ok_bl hm
      · exact ho _ (by omega)
  · intro q hq
    unfold slE
    split
    · exact ho q hq
    · split
      · exact ho _ (by omega)
      · exact ok_bl hm
theorem ok_turn {m : Int32} {S : Nat} {f : Nat → Int64} {n : Nat} {k r : Int32} {f' : Nat → Int64} (h : turnP m S f k r f') (ho : ∀ q, q < S → okV n (f q)) : ∀ q, q < S → okV n (f' q) := by
  rcases h with ⟨-, -, rfl⟩ | ⟨-, -, -, rfl⟩ | ⟨-, -, -, -, rfl⟩ | ⟨-, -, K, -, h1, -, rfl⟩
  · exact ho
  · exact ho
  · exact ho
  · intro q hq
    unfold tuR
    split
    · exact ho _ (by omega)
    · exact ho _ (by omega)
theorem al_rost {a b : Int32} (h : alike a b) (hb : b ≤ 2) : a ≤ 2 := by
  have e := h.2.2
  unfold fam at e
  rw [if_pos hb] at e
  by_cases ha : a ≤ 2
  · exact ha
  · rw [if_neg ha] at e; rw [e]; decide
theorem ok_cp {ma mb : Int32} {Sa Sb : Nat} {fa fb : Nat → Int64} {fk : Nat → Int32} {n : Nat} {x y k r : Int32} {f' : Nat → Int64} (hm : mb ≤ 2) (h : cpV ma mb Sa Sb fa fb fk n x y k r f') (ha : ma ≤ 2 → ∀ q, q < Sa → okV n (fa q)) (hb : ∀ q, q < Sb → okV n (fb q)) : ∀ q, q < Sb → okV n (f' q) := by
  rcases h with ⟨-, -, rfl⟩ | ⟨-, -, -, rfl⟩ | ⟨-, -, -, -, rfl⟩ | ⟨-, h2, X, Y, K, q, -, -, -, e4, e5, e6, -, rfl, -⟩
  · exact hb
  · exact hb
  · exact hb
  · intro p hp
    unfold va_cpy
    split
    · exact ha (al_rost h2 hm) _ (by omega)
    · exact hb p hp
section SIM
variable {hf : Nat → Nat} {fk : Nat → Int32} {fp : Nat → Int64} {n : Nat} {mk : Nat → Int32} {sz : Nat → Nat} {pl : Nat → Nat → Int64} {hd mk2 sz2 : Nat → Int32} {ce : Nat → Int64} {Hg Z : Nat → Nat}
theorem Inv.sz40 (I : Inv hf fk fp n mk sz pl hd mk2 sz2 ce Hg Z) {b : Nat} (hb : b < 8) : sz (hf b) ≤ 40 := I.1.2.1 _ (I.1.1 b hb)
theorem Inv.mk_ (I : Inv hf fk fp n mk sz pl hd mk2 sz2 ce Hg Z) {b : Nat} (hb : b < 8) : mV mk2 (Hg b) = mk (hf b) := (I.2.2.2.1 b hb).1.symm
theorem Inv.sz_ (I : Inv hf fk fp n mk sz pl hd mk2 sz2 ce Hg Z) {b : Nat} (hb : b < 8) : sV mk2 Z (Hg b) = sz (hf b) := (I.2.2.2.1 b hb).2.1.symm
theorem Inv.ag (I : Inv hf fk fp n mk sz pl hd mk2 sz2 ce Hg Z) {b : Nat} (hb : b < 8) : ∀ k, k < sz (hf b) → pl (hf b) k = rV ce (Hg b) k := (I.2.2.2.1 b hb).2.2
theorem Inv.ok (I : Inv hf fk fp n mk sz pl hd mk2 sz2 ce Hg Z) {b : Nat} (hb : b < 8) (hm : mk (hf b) ≤ 2) : ∀ q, q < sz (hf b) → okV n (pl (hf b) q) := by
  intro q hq
  rw [I.ag hb q hq]
  exact I.2.1.2.2.2.1 b hb (by rw [I.mk_ hb]; exact hm) q (by rw [I.sz_ hb]; exact hq)
theorem Inv.row (I : Inv hf fk fp n mk sz pl hd mk2 sz2 ce Hg Z) {b : Nat} (hb : b < 8) {f1 f2 ce' : Nat → Int64} (hrow : rowIs ce (Hg b) f2 ce') (hag : ∀ k, k < sz (hf b) → f1 k = f2 k) (hok : mk (hf b) ≤ 2 → ∀ k, k < sz (hf b) → okV n (f1 k)) : Inv hf fk fp n mk sz (va_up pl (hf b) f1) hd mk2 sz2 ce' Hg Z := by
  have I0 := I
  obtain ⟨C, ⟨M1, M2, M3, M4, M5⟩, R1, R2, R3, R4⟩ := I
  have hS := I0.sz40 hb
  refine ⟨C, ⟨M1, M2, M3, ?_, M5⟩, R1, ?_, R3, R4⟩
  · intro h hh hm q hq
    rw [I0.sz_ hh] at hq
    have h40 := I0.sz40 hh
    by_cases e : Hg h = Hg b
    · have e2 := (R3 h b hh hb).mpr e
      rw [e, row_at hrow (by omega)]
      rw [e2] at hq
      rw [← hag q hq]
      exact hok (by rw [← I0.mk_ hb, ← e]; exact hm) q hq
    · rw [row_ne hrow e (by omega)]
      exact M4 h hh hm q (by rw [I0.sz_ hh]; exact hq)
  · intro h hh
    refine ⟨(R2 h hh).1, (R2 h hh).2.1, fun k hk => ?_⟩
    have h40 := I0.sz40 hh
    by_cases e : Hg h = Hg b
    · have e2 := (R3 h b hh hb).mpr e
      rw [e2] at hk
      rw [e2, e, va_up_self, row_at hrow (by omega)]
      exact hag k hk
    · have e2 : ¬ hf h = hf b := fun q => e ((R3 h b hh hb).mp q)
      rw [va_up_ne _ _ e2, row_ne hrow e (by omega)]
      exact (R2 h hh).2.2 k hk
theorem Inv.same (I : Inv hf fk fp n mk sz pl hd mk2 sz2 ce Hg Z) {u : Nat → Nat → Int64} {ce' : Nat → Int64} (h1 : u = pl) (h2 : ce' = ce) : Inv hf fk fp n mk sz u hd mk2 sz2 ce' Hg Z := by rw [h1, h2]; exact I
theorem nI8 {a b : Nat} (ha : a < 8) (hb : b < 8) (h : nI a = nI b) : a = b := nI_inj (by omega) (by omega) h
/-! put, note, slide, turn, copy, join -/
theorem sim_put (I : Inv hf fk fp n mk sz pl hd mk2 sz2 ce Hg Z) {x i y k : Int32} {o : Int64} {u : Nat → Nat → Int64} {r2 th : Int32} {ce' : Nat → Int64}
    (hw : (k = 0 ∧ ∃ r : Int32, o = r.toInt64 ∧ ∃ a f, a < 8 ∧ x = nI a ∧ (y = -1 ∨ ∃ k, k < n ∧ y = nI k) ∧ u = va_up pl (hf a) f ∧ putP (mk (hf a)) (sz (hf a)) (pl (hf a)) fk n i y r f) ∨ (k = 1 ∧ badH x ∧ u = pl) ∨ (k = 2 ∧ (¬ badH x ∧ ¬ y = -1 ∧ (y < 0 ∨ nI n ≤ y)) ∧ u = pl))
    (hm : (th = 1 ∧ badH x ∧ ce' = ce) ∨ (th = 2 ∧ ¬ badH x ∧ ¬ y = -1 ∧ (y < 0 ∨ nI n ≤ y) ∧ ce' = ce) ∨ (th = 0 ∧ ∃ a f, a < 8 ∧ x = nI a ∧ (y = -1 ∨ ∃ k, k < n ∧ y = nI k) ∧ rowIs ce (Hg a) f ce' ∧ putP (mV mk2 (Hg a)) (sV mk2 Z (Hg a)) (rV ce (Hg a)) fk n i y r2 f)) :
    th = k ∧ (k = 0 → o = r2.toInt64) ∧ Inv hf fk fp n mk sz u hd mk2 sz2 ce' Hg Z := by
  have hn := I.1.2.2.2.2.1
  have hyno : ∀ {y : Int32}, (y = -1 ∨ ∃ k, k < n ∧ y = nI k) → ¬ y = -1 → ¬ (y < 0 ∨ nI n ≤ y) := by
    intro y h1 h2
    rcases h1 with h1 | ⟨k, hk, rfl⟩
    · exact absurd h1 h2
    · exact fun q => q.elim (nI_pos (by omega)) (fun q => absurd (nI_ge_of q (by omega) (by omega)) (by omega))
  rcases hw with ⟨rfl, r, rfl, a, f, ha, rfl, hy, rfl, hp⟩ | ⟨rfl, hb, rfl⟩ | ⟨rfl, ⟨hb, hy1, hy2⟩, rfl⟩
  · rcases hm with ⟨rfl, hb, -⟩ | ⟨rfl, -, h1, h2, -⟩ | ⟨rfl, a', g, ha', ea, -, hrow, hq⟩
    · exact absurd hb (bH ha)
    · exact absurd h2 (hyno hy h1)
    · cases nI8 ha ha' ea
      rw [I.mk_ ha, I.sz_ ha] at hq
      obtain ⟨e1, e2⟩ := det_put (I.sz40 ha) (I.ag ha) hp hq
      exact ⟨rfl, fun _ => by rw [e1], I.row ha hrow e2 (fun hm => ok_put hn hy hp (I.ok ha hm))⟩
  · rcases hm with ⟨rfl, -, rfl⟩ | ⟨rfl, h1, -⟩ | ⟨rfl, a', g, ha', rfl, -⟩
    · exact ⟨rfl, fun h => absurd h (by decide), I⟩
    · exact absurd hb h1
    · exact absurd hb (bH ha')
  · rcases hm with ⟨rfl, h1, rfl⟩ | ⟨rfl, h1, h2, h3, rfl⟩ | ⟨rfl, a', g, ha', rfl, hy, -⟩
    · exact absurd h1 hb
    · exact ⟨rfl, fun h => absurd h (by decide), I⟩
    · exact absurd hy2 (hyno hy hy1)
theorem sim_note (I : Inv hf fk fp n mk sz pl hd mk2 sz2 ce Hg Z) {x i k : Int32} {v o : Int64} {u : Nat → Nat → Int64} {r2 th : Int32} {ce' : Nat → Int64}
    (hw : (k = 0 ∧ ∃ r : Int32, o = r.toInt64 ∧ ∃ a f, a < 8 ∧ x = nI a ∧ u = va_up pl (hf a) f ∧ noteP (mk (hf a)) (sz (hf a)) (pl (hf a)) i v r f) ∨ (k = 1 ∧ badH x ∧ u = pl))
    (hm : (th = 1 ∧ badH x ∧ ce' = ce) ∨ (th = 0 ∧ ∃ a f, a < 8 ∧ x = nI a ∧ rowIs ce (Hg a) f ce' ∧ noteP (mV mk2 (Hg a)) (sV mk2 Z (Hg a)) (rV ce (Hg a)) i v r2 f)) :
    th = k ∧ (k = 0 → o = r2.toInt64) ∧ Inv hf fk fp n mk sz u hd mk2 sz2 ce' Hg Z := by
  rcases hw with ⟨rfl, r, rfl, a, f, ha, rfl, rfl, hp⟩ | ⟨rfl, hb, rfl⟩
  · rcases hm with ⟨rfl, hb, -⟩ | ⟨rfl, a', g, ha', ea, hrow, hq⟩
    · exact absurd hb (bH ha)
    · cases nI8 ha ha' ea
      rw [I.mk_ ha, I.sz_ ha] at hq
      obtain ⟨e1, e2⟩ := det_note (I.sz40 ha) (I.ag ha) hp hq
      exact ⟨rfl, fun _ => by rw [e1], I.row ha hrow e2 (fun hm => ok_note hm hp (I.ok ha hm))⟩
  · rcases hm with ⟨rfl, -, rfl⟩ | ⟨rfl, a', g, ha', rfl, -⟩
    · exact ⟨rfl, fun h => absurd h (by decide), I⟩
    · exact absurd hb (bH ha')
theorem sim_slide (I : Inv hf fk fp n mk sz pl hd mk2 sz2 ce Hg Z) {x i j k : Int32} {o : Int64} {u : Nat → Nat → Int64} {r2 th : Int32} {ce' : Nat → Int64}
    (hw : (k = 0 ∧ ∃ r : Int32, o = r.toInt64 ∧ ∃ a f, a < 8 ∧ x = nI a ∧ u = va_up pl (hf a) f ∧ slideP (mk (hf a)) (sz (hf a)) (pl (hf a)) i j r f) ∨ (k = 1 ∧ badH x ∧ u = pl))
    (hm : (th = 1 ∧ badH x ∧ ce' = ce) ∨ (th = 0 ∧ ∃ a f, a < 8 ∧ x = nI a ∧ rowIs ce (Hg a) f ce' ∧ slideP (mV mk2 (Hg a)) (sV mk2 Z (Hg a)) (rV ce (Hg a)) i j r2 f)) :
    th = k ∧ (k = 0 → o = r2.toInt64) ∧ Inv hf fk fp n mk sz u hd mk2 sz2 ce' Hg Z := by
  rcases hw with ⟨rfl, r, rfl, a, f, ha, rfl, rfl, hp⟩ | ⟨rfl, hb, rfl⟩
  · rcases hm with ⟨rfl, hb, -⟩ | ⟨rfl, a', g, ha', ea, hrow, hq⟩
    · exact absurd hb (bH ha)
    · cases nI8 ha ha' ea
      rw [I.mk_ ha, I.sz_ ha] at hq
      obtain ⟨e1, e2⟩ := det_slide (I.sz40 ha) (I.ag ha) hp hq
      exact ⟨rfl, fun _ => by rw [e1], I.row ha hrow e2 (fun hm => ok_slide hm hp (I.ok ha hm))⟩
  · rcases hm with ⟨rfl, -, rfl⟩ | ⟨rfl, a', g, ha', rfl, -⟩
    · exact ⟨rfl, fun h => absurd h (by decide), I⟩
    · exact absurd hb (bH ha')
theorem sim_turn (I : Inv hf fk fp n mk sz pl hd mk2 sz2 ce Hg Z) {x j k : Int32} {o : Int64} {u : Nat → Nat → Int64} {r2 th : Int32} {ce' : Nat → Int64}
    (hw : (k = 0 ∧ ∃ r : Int32, o = r.toInt64 ∧ ∃ a f, a < 8 ∧ x = nI a ∧ u = va_up pl (hf a) f ∧ turnP (mk (hf a)) (sz (hf a)) (pl (hf a)) j r f) ∨ (k = 1 ∧ badH x ∧ u = pl))
    (hm : (th = 1 ∧ badH x ∧ ce' = ce) ∨ (th = 0 ∧ ∃ a f, a < 8 ∧ x = nI a ∧ rowIs ce (Hg a) f ce' ∧ turnP (mV mk2 (Hg a)) (sV mk2 Z (Hg a)) (rV ce (Hg a)) j r2 f)) :
    th = k ∧ (k = 0 → o = r2.toInt64) ∧ Inv hf fk fp n mk sz u hd mk2 sz2 ce' Hg Z := by
  rcases hw with ⟨rfl, r, rfl, a, f, ha, rfl, rfl, hp⟩ | ⟨rfl, hb, rfl⟩
  · rcases hm with ⟨rfl, hb, -⟩ | ⟨rfl, a', g, ha', ea, hrow, hq⟩
    · exact absurd hb (bH ha)
    · cases nI8 ha ha' ea
      rw [I.mk_ ha, I.sz_ ha] at hq
      obtain ⟨e1, e2⟩ := det_turn (I.sz40 ha) (I.ag ha) hp hq
      exact ⟨rfl, fun _ => by rw [e1], I.row ha hrow e2 (fun hm => ok_turn hp (I.ok ha hm))⟩
  · rcases hm with ⟨rfl, -, rfl⟩ | ⟨rfl, a', g, ha', rfl, -⟩
    · exact ⟨rfl, fun h => absurd h (by decide), I⟩
    · exact absurd hb (bH ha')
/-- one copying, on both sides -/
theorem sim_cp (I : Inv hf fk fp n mk sz pl hd mk2 sz2 ce Hg Z) {a b : Nat} (ha : a < 8) (hb : b < 8) {x y k r1 r2 : Int32} {f g ce' : Nat → Int64} (hp : cpV (mk (hf a)) (mk (hf b)) (sz (hf a)) (sz (hf b)) (pl (hf a)) (pl (hf b)) fk n x y k r1 f)
    (hq : cpV (mk (hf a)) (mk (hf b)) (sz (hf a)) (sz (hf b)) (rV ce (Hg a)) (rV ce (Hg b)) fk n x y k r2 g) (hrow : rowIs ce (Hg b) g ce') : r1 = r2 ∧ Inv hf fk fp n mk sz (va_up pl (hf b) f) hd mk2 sz2 ce' Hg Z := by
  obtain ⟨e1, e2⟩ := det_cp (I.sz40 ha) (I.sz40 hb) (I.ag ha) (I.ag hb) hp hq
  exact ⟨e1, I.row hb hrow e2 (fun hm => ok_cp hm hp (I.ok ha) (I.ok hb hm))⟩
theorem sim_copy (I : Inv hf fk fp n mk sz pl hd mk2 sz2 ce Hg Z) {x i y j q k : Int32} {o : Int64} {u : Nat → Nat → Int64} {r2 th : Int32} {ce' : Nat → Int64}
    (hw : (k = 0 ∧ ∃ r : Int32, o = r.toInt64 ∧ ∃ a b f, a < 8 ∧ b < 8 ∧ x = nI a ∧ y = nI b ∧ u = va_up pl (hf b) f ∧ cpV (mk (hf a)) (mk (hf b)) (sz (hf a)) (sz (hf b)) (pl (hf a)) (pl (hf b)) fk n i j q r f) ∨ (k = 1 ∧ (badH x ∨ badH y) ∧ u = pl))
    (hm : (th = 1 ∧ (badH x ∨ badH y) ∧ ce' = ce) ∨ (th = 0 ∧ ∃ a b f, a < 8 ∧ b < 8 ∧ x = nI a ∧ y = nI b ∧ rowIs ce (Hg b) f ce' ∧ cpV (mV mk2 (Hg a)) (mV mk2 (Hg b)) (sV mk2 Z (Hg a)) (sV mk2 Z (Hg b)) (rV ce (Hg a)) (rV ce (Hg b)) fk n i j q r2 f)) :
    th = k ∧ (k = 0 → o = r2.toInt64) ∧ Inv hf fk fp n mk sz u hd mk2 sz2 ce' Hg Z := by
  rcases hw with ⟨rfl, r, rfl, a, b, f, ha, hb, rfl, rfl, rfl, hp⟩ | ⟨rfl, h9, rfl⟩
  · rcases hm with ⟨rfl, h9, -⟩ | ⟨rfl, a', b', g, ha', hb', ea, eb, hrow, hq⟩
    · exact absurd h9 (fun h => h.elim (bH ha) (bH hb))
    · cases nI8 ha ha' ea
      cases nI8 hb hb' eb
      rw [I.mk_ ha, I.sz_ ha, I.mk_ hb, I.sz_ hb] at hq
      obtain ⟨e1, e2⟩ := sim_cp I ha hb hp hq hrow
      exact ⟨rfl, fun _ => by rw [e1], e2⟩
  · rcases hm with ⟨rfl, -, rfl⟩ | ⟨rfl, a', b', g, ha', hb', rfl, rfl, -⟩
    · exact ⟨rfl, fun h => absurd h (by decide), I⟩
    · exact absurd h9 (fun h => h.elim (bH ha') (bH hb'))
theorem sim_join (I : Inv hf fk fp n mk sz pl hd mk2 sz2 ce Hg Z) {x y t k : Int32} {o : Int64} {u : Nat → Nat → Int64} {r2 th : Int32} {ce' : Nat → Int64}
    (hw : (k = 0 ∧ ∃ r : Int32, o = r.toInt64 ∧ ∃ a b d f1 r1, a < 8 ∧ b < 8 ∧ d < 8 ∧ x = nI a ∧ y = nI b ∧ t = nI d ∧ cpV (mk (hf a)) (mk (hf d)) (sz (hf a)) (sz (hf d)) (pl (hf a)) (pl (hf d)) fk n 0 0 (nI (sz (hf a))) r1 f1 ∧ ((¬ r1 = 0 ∧ r = r1 ∧ u = va_up pl (hf d) f1) ∨ (r1 = 0 ∧ ∃ f2, u = va_up (va_up pl (hf d) f1) (hf d) f2 ∧ cpV (mk (hf b)) (mk (hf d)) (sz (hf b)) (sz (hf d)) (va_up pl (hf d) f1 (hf b)) (va_up pl (hf d) f1 (hf d)) fk n 0 (nI (sz (hf a))) (nI (sz (hf b))) r f2))) ∨ (k = 1 ∧ (badH x ∨ badH y ∨ badH t) ∧ u = pl))
    (hm : (th = 1 ∧ (badH x ∨ badH y ∨ badH t) ∧ ce' = ce) ∨ (th = 0 ∧ ∃ a b d f1 r1 ce1, a < 8 ∧ b < 8 ∧ d < 8 ∧ x = nI a ∧ y = nI b ∧ t = nI d ∧ rowIs ce (Hg d) f1 ce1 ∧ cpV (mV mk2 (Hg a)) (mV mk2 (Hg d)) (sV mk2 Z (Hg a)) (sV mk2 Z (Hg d)) (rV ce (Hg a)) (rV ce (Hg d)) fk n 0 0 (nI (sV mk2 Z (Hg a))) r1 f1 ∧ ((¬ r1 = 0 ∧ r2 = r1 ∧ ce' = ce1) ∨ (r1 = 0 ∧ ∃ f2, rowIs ce1 (Hg d) f2 ce' ∧ cpV (mV mk2 (Hg b)) (mV mk2 (Hg d)) (sV mk2 Z (Hg b)) (sV mk2 Z (Hg d)) (rV ce1 (Hg b)) (rV ce1 (Hg d)) fk n 0 (nI (sV mk2 Z (Hg a))) (nI (sV mk2 Z (Hg b))) r2 f2)))) :
    th = k ∧ (k = 0 → o = r2.toInt64) ∧ Inv hf fk fp n mk sz u hd mk2 sz2 ce' Hg Z := by
  rcases hw with ⟨rfl, r, rfl, a, b, d, f1, r1, ha, hb, hd9, rfl, rfl, rfl, hp, hp2⟩ | ⟨rfl, h9, rfl⟩
  · rcases hm with ⟨rfl, h9, -⟩ | ⟨rfl, a', b', d', g1, q1, ce1, ha', hb', hd', ea, eb, ed, hrow, hq, hq2⟩
    · exact absurd h9 (fun h => h.elim (bH ha) (fun h => h.elim (bH hb) (bH hd9)))
    · cases nI8 ha ha' ea
      cases nI8 hb hb' eb
      cases nI8 hd9 hd' ed
      rw [I.mk_ ha, I.sz_ ha, I.mk_ hd9, I.sz_ hd9] at hq
      obtain ⟨e1, I1⟩ := sim_cp I ha hd9 hp hq hrow
      subst e1
      rcases hp2 with ⟨c1, rfl, rfl⟩ | ⟨c1, f2, rfl, hp2⟩
      · rcases hq2 with ⟨g1, rfl, rfl⟩ | ⟨g1, -⟩
        · exact ⟨rfl, fun _ => rfl, I1⟩
        · exact absurd g1 c1
      · rcases hq2 with ⟨g1, -⟩ | ⟨g1, g2, hrow2, hq2⟩
        · exact absurd c1 g1
        · rw [I.sz_ ha, I.mk_ hb, I.sz_ hb, I.mk_ hd9, I.sz_ hd9] at hq2
          obtain ⟨e1, I2⟩ := sim_cp I1 hb hd9 hp2 hq2 hrow2
          exact ⟨rfl, fun _ => by rw [e1], I2⟩
  · rcases hm with ⟨rfl, -, rfl⟩ | ⟨rfl, a', b', d', g1, q1, ce1, ha', hb', hd', rfl, rfl, rfl, -⟩
    · exact ⟨rfl, fun h => absurd h (by decide), I⟩
    · exact absurd h9 (fun h => h.elim (bH ha') (fun h => h.elim (bH hb') (bH hd')))
/-! pay -/
theorem sim_pay (I : Inv hf fk fp n mk sz pl hd mk2 sz2 ce Hg Z) {x y t k : Int32} {o : Int64} {u pu' : Nat → Int64} {r2 th : Int32}
    (hw : (k = 0 ∧ ∃ r : Int32, o = r.toInt64 ∧ ∃ a b d, a < 8 ∧ b < 8 ∧ d < 8 ∧ x = nI a ∧ y = nI b ∧ t = nI d ∧ payP (mk (hf a)) (mk (hf b)) (mk (hf d)) (sz (hf a)) (sz (hf b)) (sz (hf d)) (pl (hf a)) (pl (hf b)) (pl (hf d)) fk n fp r u) ∨ (k = 1 ∧ (badH x ∨ badH y ∨ badH t) ∧ u = fp))
    (hm : (th = 1 ∧ (badH x ∨ badH y ∨ badH t) ∧ pu' = fp) ∨ (th = 0 ∧ ∃ a b d, a < 8 ∧ b < 8 ∧ d < 8 ∧ x = nI a ∧ y = nI b ∧ t = nI d ∧ payP (mV mk2 (Hg a)) (mV mk2 (Hg b)) (mV mk2 (Hg d)) (sV mk2 Z (Hg a)) (sV mk2 Z (Hg b)) (sV mk2 Z (Hg d)) (rV ce (Hg a)) (rV ce (Hg b)) (rV ce (Hg d)) fk n fp r2 pu')) :
    th = k ∧ (k = 0 → o = r2.toInt64) ∧ pu' = u ∧ Inv hf fk u n mk sz pl hd mk2 sz2 ce Hg Z := by
  have I0 := I
  rcases hw with ⟨rfl, r, rfl, a, b, d, ha, hb, hd9, rfl, rfl, rfl, hp⟩ | ⟨rfl, h9, rfl⟩
  · rcases hm with ⟨rfl, h9, -⟩ | ⟨rfl, a', b', d', ha', hb', hd', ea, eb, ed, hq⟩
    · exact absurd h9 (fun h => h.elim (bH ha) (fun h => h.elim (bH hb) (bH hd9)))
    · cases nI8 ha ha' ea
      cases nI8 hb hb' eb
      cases nI8 hd9 hd' ed
      rw [I.mk_ ha, I.sz_ ha, I.mk_ hb, I.sz_ hb, I.mk_ hd9, I.sz_ hd9] at hq
      obtain ⟨e1, e2⟩ := det_pay (I.ag ha) (I.ag hb) (I.ag hd9) hp hq
      refine ⟨rfl, fun _ => by rw [e1], e2.symm, I.1, I.2.1, fun k hk => ?_, I.2.2.2⟩
      rcases hp with ⟨-, -, rfl⟩ | ⟨c1, ⟨-, -, rfl⟩ | ⟨c2, q, c3, c4, rfl, -⟩⟩
      · exact I.2.2.1 k hk
      · exact I.2.2.1 k hk
      · have hro : mk (hf a) ≤ 2 := Classical.byContradiction (fun h => c1 (Or.inl ⟨fun e => c2 (Or.inl e), fun e => h (by
          unfold fam at e
          rw [if_neg h] at e
          rw [e]; decide)⟩))
        exact paid_0 I.1.2.2.2.2.1 I.2.2.1 q k (fun p hp => I.ok ha hro p (by omega)) hk
  · rcases hm with ⟨rfl, -, rfl⟩ | ⟨rfl, a', b', d', ha', hb', hd', rfl, rfl, rfl, -⟩
    · exact ⟨rfl, fun h => absurd h (by decide), rfl, I⟩
    · exact absurd h9 (fun h => h.elim (bH ha') (fun h => h.elim (bH hb') (bH hd')))
end SIM
