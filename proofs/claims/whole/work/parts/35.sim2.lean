/-! share, hang, hire, look, at, person: the class and the reference side by side -/
def sg (a b h : Nat) : Nat := if h = b then a else h
theorem sg_lt {a b h : Nat} (ha : a < 8) (hh : h < 8) : sg a b h < 8 := by unfold sg; split <;> assumption
theorem up_sg {α : Type} (f : Nat → α) (a b h : Nat) : va_up f b (f a) h = f (sg a b h) := by unfold va_up sg; split <;> rfl
theorem upd_sg (f : Nat → Int32) (a b h : Nat) : upd f b (f a) h = f (sg a b h) := by unfold upd sg; split <;> rfl
theorem upd_self (f : Nat → Int32) (k : Nat) (x : Int32) : upd f k x k = x := by unfold upd; rw [if_pos rfl]
theorem upd_ne (f : Nat → Int32) {k j : Nat} (x : Int32) (h : ¬ j = k) : upd f k x j = f j := by unfold upd; rw [if_neg h]
theorem cntW_ag {f g : Nat → Int64} {v : Int64} : ∀ S : Nat, (∀ k, k < S → f k = g k) → cntW f v S = cntW g v S := by
  intro S
  induction S with
  | zero => intro _; rfl
  | succ S ih =>
    intro h
    show cntW f v S + _ = cntW g v S + _
    rw [ih (fun k hk => h k (by omega)), h S (by omega)]
def sumT (b : Nat → Bool) (g : Nat → Int32) : Nat → Int32
  | 0 => 0
  | t + 1 => sumT b g t + (if b t = true then g t else 0)
theorem sumT_0 {b : Nat → Bool} {g : Nat → Int32} : ∀ T : Nat, (∀ t, t < T → b t = false) → sumT b g T = 0 := by
  intro T
  induction T with
  | zero => intro _; rfl
  | succ T ih =>
    intro h
    show sumT b g T + _ = 0
    rw [ih (fun t ht => h t (by omega)), h T (by omega)]; rfl
theorem sumT_ag {b c : Nat → Bool} {g : Nat → Int32} : ∀ T : Nat, (∀ t, t < T → b t = c t) → sumT b g T = sumT c g T := by
  intro T
  induction T with
  | zero => intro _; rfl
  | succ T ih =>
    intro h
    show sumT b g T + _ = sumT c g T + _
    rw [ih (fun t ht => h t (by omega)), h T (by omega)]
theorem sumT_add {b c : Nat → Bool} {g : Nat → Int32} {k : Nat} (hb : b k = false) (hc : ∀ t, c t = (b t || (k == t))) : ∀ T : Nat, sumT c g T = sumT b g T + (if k < T then g k else 0) := by
  intro T
  induction T with
  | zero => rfl
  | succ T ih =>
    show sumT c g T + _ = sumT b g T + _ + _
    rw [ih, hc T]
    by_cases e : k = T
    · subst e
      rw [hb, if_neg (Nat.lt_irrefl k), if_pos (Nat.lt_succ_self k)]
      simp
    · have e1 : (k == T) = false := by simp [e]
      rw [e1, Bool.or_false]
      by_cases h : k < T
      · rw [if_pos h, if_pos (show k < T + 1 by omega), Int32.add_assoc, Int32.add_comm (g k), ← Int32.add_assoc]
      · rw [if_neg h, if_neg (show ¬ k < T + 1 by omega), Int32.add_zero, Int32.add_zero]
theorem okV_s {n : Nat} {v : Int64} (h : okV n v) : okV (n + 1) v := h.elim Or.inl (fun ⟨k, hk, e⟩ => Or.inr ⟨k, by omega, e⟩)
theorem lh_det {hf Hg : Nat → Nat} {j : Nat} (h : ∀ h, h < 8 → (hf h = hf j ↔ Hg h = Hg j)) {r1 r2 : Int32} (h1 : lhP hf (hf j) r1) (h2 : lhP Hg (Hg j) r2) : r1 = r2 := by
  rcases h1 with ⟨a, ha, ea, fa, rfl⟩ | ⟨na, rfl⟩
  · rcases h2 with ⟨b, hb, eb, fb, rfl⟩ | ⟨nb, rfl⟩
    · have : a = b := by
        rcases Nat.lt_trichotomy a b with q | q | q
        · exact absurd ((h a ha).mp ea) (fb a q)
        · exact q
        · exact absurd ((h b hb).mpr eb) (fa b q)
      rw [this]
    · exact absurd ((h a ha).mp ea) (nb a ha)
  · rcases h2 with ⟨b, hb, eb, fb, rfl⟩ | ⟨nb, rfl⟩
    · exact absurd ((h b hb).mpr eb) (na b hb)
    · rfl
theorem look_det {m : Int32} {S : Nat} {hf Hg : Nat → Nat} {j : Nat} {w r1 r2 : Int32} (h : ∀ h, h < 8 → (hf h = hf j ↔ Hg h = Hg j)) (h1 : lookP m S hf j w r1) (h2 : lookP m S Hg j w r2) : r1 = r2 := by
  rcases h1 with ⟨a1, rfl⟩ | ⟨a1, a2⟩ | ⟨a1, a2⟩ | ⟨a1, a2, a3, rfl⟩
  · rcases h2 with ⟨b1, rfl⟩ | ⟨b1, -⟩ | ⟨b1, -⟩ | ⟨b1, -⟩
    · rfl
    · exact absurd (a1.symm.trans b1) (by decide)
    · exact absurd (a1.symm.trans b1) (by decide)
    · exact absurd a1 b1
  · rcases h2 with ⟨b1, -⟩ | ⟨b1, b2⟩ | ⟨b1, -⟩ | ⟨b1, b2, -⟩
    · exact absurd (a1.symm.trans b1) (by decide)
    · rcases a2 with ⟨c1, rfl⟩ | ⟨c1, rfl⟩
      · exact b2.elim (fun q => q.2.symm) (fun q => absurd c1 q.1)
      · exact b2.elim (fun q => absurd q.1 c1) (fun q => q.2.symm)
    · exact absurd (a1.symm.trans b1) (by decide)
    · exact absurd a1 b2
  · rcases h2 with ⟨b1, -⟩ | ⟨b1, -⟩ | ⟨b1, b2⟩ | ⟨b1, b2, b3, -⟩
    · exact absurd (a1.symm.trans b1) (by decide)
    · exact absurd (a1.symm.trans b1) (by decide)
    · rcases a2 with ⟨c1, rfl⟩ | ⟨c1, c2⟩
      · exact b2.elim (fun q => q.2.symm) (fun q => absurd c1 q.1)
      · exact b2.elim (fun q => absurd q.1 c1) (fun q => lh_det h c2 q.2)
    · exact absurd a1 b3
  · rcases h2 with ⟨b1, -⟩ | ⟨b1, -⟩ | ⟨b1, -⟩ | ⟨-, -, -, rfl⟩
    · exact absurd b1 a1
    · exact absurd b1 a2
    · exact absurd b1 a3
    · rfl
theorem Inv_0 : Inv (fun _ => 9) (fun _ => 0) (fun _ => 0) 0 (fun _ => 6) (fun _ => 0) (fun _ _ => 0) hd0 (fun _ => 0) (fun _ => 0) (fun _ => 0) (fun _ => 9) (fun _ => 0) := by
  refine ⟨⟨fun _ _ => (show 9 < 10 by decide), fun _ _ => (show 0 ≤ 40 by decide), rfl, rfl, by decide, fun k hk => absurd hk (by omega)⟩, ⟨fun h hh => ⟨(show 9 < 10 by decide), ?_⟩, fun t _ => ⟨rfl, (show 0 ≤ 40 by decide)⟩, fun _ _ => (show ¬ (0 : Int32) < 0 by decide), fun h _ hm => absurd hm (show ¬ (6 : Int32) ≤ 2 by decide), fun {t} ht => ?_⟩, fun _ _ => rfl, fun h _ => ⟨rfl, rfl, fun k (hk : k < 0) => absurd hk (by omega)⟩, fun _ _ _ _ => ⟨fun _ => rfl, fun _ => rfl⟩, fun _ _ => ⟨fun _ => rfl, fun _ => rfl⟩⟩
  · rcases (show h = 0 ∨ h = 1 ∨ h = 2 ∨ h = 3 ∨ h = 4 ∨ h = 5 ∨ h = 6 ∨ h = 7 by omega) with rfl | rfl | rfl | rfl | rfl | rfl | rfl | rfl <;> rfl
  · show ¬ (if t = 9 then (6 : Int32) else 0) = 6
    rw [if_neg (by omega)]; decide
section SIM2
variable {hf : Nat → Nat} {fk : Nat → Int32} {fp : Nat → Int64} {n : Nat} {mk : Nat → Int32} {sz : Nat → Nat} {pl : Nat → Nat → Int64} {hd mk2 sz2 : Nat → Int32} {ce : Nat → Int64} {Hg Z : Nat → Nat}
theorem wall_at (I : Inv hf fk fp n mk sz pl hd mk2 sz2 ce Hg Z) (v : Int64) : ∀ m : Nat, m ≤ 8 → wallN hf mk sz pl v m = sumT (fun t => hangsB Hg t m) (fun t => if mV mk2 t ≤ 2 then cntW (rV ce t) v (Z t) else 0) 10 := by
  intro m
  induction m with
  | zero => intro _; exact (sumT_0 10 (fun t _ => rfl)).symm
  | succ m ih =>
    intro hm
    have R3 := I.2.2.2.2.1
    show wallN hf mk sz pl v m + _ = _
    rw [ih (by omega)]
    by_cases hh : hangsB Hg (Hg m) m = true
    · obtain ⟨h', h1, h2⟩ := (hangsB_iff m).mp hh
      rw [if_neg (fun q => q.2 h' h1 ((R3 h' m (by omega) (by omega)).mpr h2)), Int32.add_zero]
      refine sumT_ag 10 (fun t _ => ?_)
      show hangsB Hg t m = (hangsB Hg t m || (Hg m == t))
      by_cases e : Hg m = t
      · rw [← e, hh]; rfl
      · have : (Hg m == t) = false := by simp [e]
        rw [this, Bool.or_false]
    · have hh' : hangsB Hg (Hg m) m = false := by simpa using hh
      have hfirst : ∀ h', h' < m → ¬ hf h' = hf m := fun h' h1 h2 => hh ((hangsB_iff m).mpr ⟨h', h1, (R3 h' m (by omega) (by omega)).mp h2⟩)
      rw [sumT_add (b := fun t => hangsB Hg t m) (c := fun t => hangsB Hg t (m + 1)) (k := Hg m) hh' (fun t => rfl) 10, if_pos (I.2.1.1 m (by omega)).1]
      congr 1
      show _ = if mV mk2 (Hg m) ≤ 2 then cntW (rV ce (Hg m)) v (Z (Hg m)) else 0
      by_cases c : mk (hf m) ≤ 2
      · have c2 : mV mk2 (Hg m) ≤ 2 := by rw [I.mk_ (by omega)]; exact c
        rw [if_pos ⟨c, hfirst⟩, if_pos c2]
        have es : sz (hf m) = Z (Hg m) := by
          rw [← I.sz_ (by omega)]; unfold sV
          rw [if_pos (Int32.le_trans c2 (by decide))]
        rw [cntW_ag _ (I.ag (b := m) (by omega)), es]
      · rw [if_neg (fun q => c q.1), if_neg (by rw [I.mk_ (by omega)]; exact c)]
theorem stand_at (v : Int64) : ∀ T : Nat, T ≤ 9 → standN Hg mk2 Z ce v T = sumT (fun t => hangsB Hg t 8) (fun t => if mV mk2 t ≤ 2 then cntW (rV ce t) v (Z t) else 0) T := by
  intro T
  induction T with
  | zero => intro _; rfl
  | succ T ih =>
    intro hT
    show standN Hg mk2 Z ce v T + _ = sumT _ _ T + _
    rw [ih (by omega)]
    congr 1
    have e : mV mk2 T = mk2 T := by unfold mV; rw [if_neg (by omega)]
    show _ = if hangsB Hg T 8 = true then (if mV mk2 T ≤ 2 then cntW (rV ce T) v (Z T) else 0) else 0
    rw [e]
    by_cases h1 : hangsB Hg T 8 = true
    · by_cases h2 : mk2 T ≤ 2
      · rw [if_pos ⟨h1, h2⟩, if_pos h1, if_pos h2]
      · rw [if_neg (fun q => h2 q.2), if_pos h1, if_neg h2]
    · rw [if_neg (fun q => h1 q.1), if_neg h1]
theorem wall_stand (I : Inv hf fk fp n mk sz pl hd mk2 sz2 ce Hg Z) (v : Int64) : wallN hf mk sz pl v 8 = standN Hg mk2 Z ce v 9 := by
  rw [wall_at I v 8 (by omega), stand_at v 9 (by omega)]
  show sumT _ _ 9 + (if hangsB Hg 9 8 = true then (if mV mk2 9 ≤ 2 then cntW (rV ce 9) v (Z 9) else 0) else 0) = _
  have : (if mV mk2 9 ≤ 2 then cntW (rV ce 9) v (Z 9) else 0) = 0 := if_neg (by unfold mV; rw [if_pos rfl]; decide)
  rw [this, ite_self, Int32.add_zero]
theorem Inv.hook (I : Inv hf fk fp n mk sz pl hd mk2 sz2 ce Hg Z) {a b : Nat} (ha : a < 8) : Inv (va_up hf b (hf a)) fk fp n mk sz pl (upd hd b (hd a)) mk2 sz2 ce (va_up Hg b (Hg a)) Z := by
  obtain ⟨⟨C1, C2⟩, ⟨M1, M2, M3, M4, M5⟩, R1, R2, R3, R4⟩ := I
  refine ⟨⟨fun h hh => ?_, C2⟩, ⟨fun h hh => ?_, M2, M3, fun h hh => ?_, M5⟩, R1, fun h hh => ?_, fun h h' hh hh' => ?_, fun h hh => ?_⟩
  · rw [up_sg]; exact C1 _ (sg_lt ha hh)
  · rw [up_sg, upd_sg]; exact M1 _ (sg_lt ha hh)
  · rw [up_sg]; exact M4 _ (sg_lt ha hh)
  · rw [up_sg, up_sg]; exact R2 _ (sg_lt ha hh)
  · rw [up_sg, up_sg, up_sg, up_sg]; exact R3 _ _ (sg_lt ha hh) (sg_lt ha hh')
  · rw [up_sg, up_sg]; exact R4 _ (sg_lt ha hh)
theorem sim_share (I : Inv hf fk fp n mk sz pl hd mk2 sz2 ce Hg Z) {x y k : Int32} {o : Int64} {u : Nat → Nat} {r2 th : Int32} {hd' : Nat → Int32}
    (hw : (k = 0 ∧ ∃ r : Int32, o = r.toInt64 ∧ ∃ a b, a < 8 ∧ b < 8 ∧ x = nI a ∧ y = nI b ∧ r = mk (hf a) ∧ u = va_up hf b (hf a)) ∨ (k = 1 ∧ (badH x ∨ badH y) ∧ u = hf))
    (hm : (th = 1 ∧ (badH x ∨ badH y) ∧ hd' = hd) ∨ (th = 0 ∧ ∃ a b, a < 8 ∧ b < 8 ∧ x = nI a ∧ y = nI b ∧ hd' = upd hd b (hd a) ∧ r2 = mV mk2 (Hg a))) :
    th = k ∧ (k = 0 → o = r2.toInt64) ∧ ∃ Hg' : Nat → Nat, Inv u fk fp n mk sz pl hd' mk2 sz2 ce Hg' Z := by
  rcases hw with ⟨rfl, r, rfl, a, b, ha, hb, rfl, rfl, rfl, rfl⟩ | ⟨rfl, h9, rfl⟩
  · rcases hm with ⟨rfl, h9, -⟩ | ⟨rfl, a', b', ha', hb', ea, eb, rfl, rfl⟩
    · exact absurd h9 (fun h => h.elim (bH ha) (bH hb))
    · cases nI8 ha ha' ea
      cases nI8 hb hb' eb
      exact ⟨rfl, fun _ => by rw [I.mk_ ha], _, I.hook ha⟩
  · rcases hm with ⟨rfl, -, rfl⟩ | ⟨rfl, a', b', ha', hb', rfl, rfl, -⟩
    · exact ⟨rfl, fun h => absurd h (by decide), _, I⟩
    · exact absurd h9 (fun h => h.elim (bH ha') (bH hb'))
theorem sim_look (I : Inv hf fk fp n mk sz pl hd mk2 sz2 ce Hg Z) {x w k : Int32} {o : Int64} {r2 th : Int32}
    (hw : (k = 0 ∧ ∃ r : Int32, o = r.toInt64 ∧ ∃ a, a < 8 ∧ x = nI a ∧ lookP (mk (hf a)) (sz (hf a)) hf a w r) ∨ (k = 1 ∧ badH x))
    (hm : (th = 1 ∧ badH x) ∨ (th = 0 ∧ ∃ a, a < 8 ∧ x = nI a ∧ lookP (mV mk2 (Hg a)) (sV mk2 Z (Hg a)) Hg a w r2)) : th = k ∧ (k = 0 → o = r2.toInt64) := by
  rcases hw with ⟨rfl, r, rfl, a, ha, rfl, hp⟩ | ⟨rfl, h9⟩
  · rcases hm with ⟨rfl, h9⟩ | ⟨rfl, a', ha', ea, hq⟩
    · exact absurd h9 (bH ha)
    · cases nI8 ha ha' ea
      rw [I.mk_ ha, I.sz_ ha] at hq
      exact ⟨rfl, fun _ => by rw [look_det (fun h hh => I.2.2.2.2.1 h a hh ha) hp hq]⟩
  · rcases hm with ⟨rfl, -⟩ | ⟨rfl, a', ha', rfl, -⟩
    · exact ⟨rfl, fun h => absurd h (by decide)⟩
    · exact absurd h9 (bH ha')
theorem sim_at (I : Inv hf fk fp n mk sz pl hd mk2 sz2 ce Hg Z) {x i k : Int32} {o r2 : Int64} {th : Int32}
    (hw : (k = 0 ∧ ∃ r : Int64, o = r ∧ ∃ a k, a < 8 ∧ x = nI a ∧ mk (hf a) ≤ 4 ∧ k < sz (hf a) ∧ i = nI k ∧ r = pl (hf a) k) ∨ (k = 1 ∧ badH x) ∨ (k = 2 ∧ ∃ a, a < 8 ∧ x = nI a ∧ (¬ mk (hf a) ≤ 4 ∨ i < 0 ∨ nI (sz (hf a)) ≤ i)))
    (hm : (th = 1 ∧ badH x) ∨ (th = 2 ∧ ∃ a, a < 8 ∧ x = nI a ∧ (¬ mV mk2 (Hg a) ≤ 4 ∨ i < 0 ∨ nI (sV mk2 Z (Hg a)) ≤ i)) ∨ (th = 0 ∧ ∃ a k, a < 8 ∧ x = nI a ∧ mV mk2 (Hg a) ≤ 4 ∧ k < sV mk2 Z (Hg a) ∧ i = nI k ∧ r2 = rV ce (Hg a) k)) : th = k ∧ (k = 0 → o = r2) := by
  rcases hw with ⟨rfl, r, rfl, a, q, ha, rfl, h4, hq, rfl, rfl⟩ | ⟨rfl, h9⟩ | ⟨rfl, a, ha, rfl, h9⟩
  · have h40 := I.sz40 ha
    rcases hm with ⟨rfl, h9⟩ | ⟨rfl, a', ha', ea, h9⟩ | ⟨rfl, a', q', ha', ea, -, hq', ei, rfl⟩
    · exact absurd h9 (bH ha)
    · cases nI8 ha ha' ea
      rw [I.mk_ ha, I.sz_ ha] at h9
      exact absurd h9 (fun h => h.elim (fun g => g h4) (pl_no hq h40))
    · cases nI8 ha ha' ea
      rw [I.sz_ ha] at hq'
      cases nI_inj (by omega) (by omega) ei
      exact ⟨rfl, fun _ => I.ag ha q hq⟩
  · rcases hm with ⟨rfl, -⟩ | ⟨rfl, a', ha', rfl, -⟩ | ⟨rfl, a', q', ha', rfl, -⟩
    · exact ⟨rfl, fun h => absurd h (by decide)⟩
    · exact absurd h9 (bH ha')
    · exact absurd h9 (bH ha')
  · have h40 := I.sz40 ha
    rcases hm with ⟨rfl, g9⟩ | ⟨rfl, -⟩ | ⟨rfl, a', q', ha', ea, g4, hq', rfl, -⟩
    · exact absurd g9 (bH ha)
    · exact ⟨rfl, fun h => absurd h (by decide)⟩
    · cases nI8 ha ha' ea
      rw [I.mk_ ha] at g4
      rw [I.sz_ ha] at hq'
      exact absurd h9 (fun h => h.elim (fun g => g g4) (pl_no hq' h40))
theorem sim_person (I : Inv hf fk fp n mk sz pl hd mk2 sz2 ce Hg Z) {x w k : Int32} {o r2 : Int64} {th : Int32}
    (hw : (k = 0 ∧ ∃ r : Int64, o = r ∧ ∃ k, k < n ∧ x = nI k ∧ ((w = 0 ∧ r = (fk k).toInt64) ∨ (w = 1 ∧ r = fp k) ∨ (w = 2 ∧ r = (wallN hf mk sz pl (lN k) 8).toInt64) ∨ (¬ w = 0 ∧ ¬ w = 1 ∧ ¬ w = 2 ∧ r = -1))) ∨ (k = 1 ∧ (x < 0 ∨ nI n ≤ x)))
    (hm : (th = 1 ∧ (x < 0 ∨ nI n ≤ x)) ∨ (th = 0 ∧ ∃ k, k < n ∧ x = nI k ∧ ((w = 0 ∧ r2 = (fk k).toInt64) ∨ (w = 1 ∧ r2 = fp k) ∨ (w = 2 ∧ r2 = (standN Hg mk2 Z ce (lN k) 9).toInt64) ∨ (¬ w = 0 ∧ ¬ w = 1 ∧ ¬ w = 2 ∧ r2 = -1)))) : th = k ∧ (k = 0 → o = r2) := by
  have hn := I.1.2.2.2.2.1
  have hno : ∀ {q : Nat}, q < n → ¬ (nI q < 0 ∨ nI n ≤ nI q) := fun hq h => h.elim (nI_pos (by omega)) (fun h => absurd (nI_ge_of h (by omega) (by omega)) (by omega))
  rcases hw with ⟨rfl, r, rfl, q, hq, rfl, h1⟩ | ⟨rfl, h9⟩
  · rcases hm with ⟨rfl, h9⟩ | ⟨rfl, q', hq', eq, h2⟩
    · exact absurd h9 (hno hq)
    · cases nI_inj (by omega) (by omega) eq
      refine ⟨rfl, fun _ => ?_⟩
      rcases h1 with ⟨a, rfl⟩ | ⟨a, rfl⟩ | ⟨a, rfl⟩ | ⟨a, b, c, rfl⟩
      · rcases h2 with ⟨a', rfl⟩ | ⟨a', rfl⟩ | ⟨a', rfl⟩ | ⟨a', b', c', rfl⟩
        · rfl
        · exact absurd (a.symm.trans a') (by decide)
        · exact absurd (a.symm.trans a') (by decide)
        · exact absurd a a'
      · rcases h2 with ⟨a', rfl⟩ | ⟨a', rfl⟩ | ⟨a', rfl⟩ | ⟨a', b', c', rfl⟩
        · exact absurd (a.symm.trans a') (by decide)
        · rfl
        · exact absurd (a.symm.trans a') (by decide)
        · exact absurd a b'
      · rcases h2 with ⟨a', rfl⟩ | ⟨a', rfl⟩ | ⟨a', rfl⟩ | ⟨a', b', c', rfl⟩
        · exact absurd (a.symm.trans a') (by decide)
        · exact absurd (a.symm.trans a') (by decide)
        · rw [wall_stand I]
        · exact absurd a c'
      · rcases h2 with ⟨a', rfl⟩ | ⟨a', rfl⟩ | ⟨a', rfl⟩ | ⟨a', b', c', rfl⟩
        · exact absurd a' a
        · exact absurd a' b
        · exact absurd a' c
        · rfl
  · rcases hm with ⟨rfl, -⟩ | ⟨rfl, q', hq', rfl, -⟩
    · exact ⟨rfl, fun h => absurd h (by decide)⟩
    · exact absurd h9 (hno hq')
theorem sim_hire (I : Inv hf fk fp n mk sz pl hd mk2 sz2 ce Hg Z) {x r r2 : Int32} {u : (Nat → Int32) × Nat} {u2 : Int32 × Nat × (Nat → Int32) × (Nat → Int64)}
    (hw : ((x < 0 ∨ 2 < x ∨ n = 60) ∧ r = -1 ∧ u = (fk, n)) ∨ (¬ x < 0 ∧ ¬ 2 < x ∧ n < 60 ∧ r = nI n ∧ u = (upd fk n x, n + 1)))
    (hm : ((x < 0 ∨ 2 < x ∨ n = 60) ∧ r2 = -1 ∧ u2 = (0, n, fk, fp)) ∨ (¬ x < 0 ∧ ¬ 2 < x ∧ n < 60 ∧ r2 = nI n ∧ u2 = (0, n + 1, upd fk n x, vp_updL fp n 0))) :
    r = r2 ∧ u2 = (0, u.2, u.1, fp) ∧ Inv hf u.1 fp u.2 mk sz pl hd mk2 sz2 ce Hg Z := by
  rcases hw with ⟨h1, rfl, rfl⟩ | ⟨h1, h2, h3, rfl, rfl⟩
  · rcases hm with ⟨g1, rfl, rfl⟩ | ⟨g1, g2, g3, rfl, rfl⟩
    · exact ⟨rfl, rfl, I⟩
    · exact absurd h1 (fun h => h.elim g1 (fun h => h.elim g2 (fun h => by omega)))
  · rcases hm with ⟨g1, rfl, rfl⟩ | ⟨g1, g2, g3, rfl, rfl⟩
    · exact absurd g1 (fun h => h.elim h1 (fun h => h.elim h2 (fun h => by omega)))
    · obtain ⟨⟨C1, C2, C3, C4, C5, C6⟩, ⟨M1, M2, M3, M4, M5⟩, R1, R2⟩ := I
      refine ⟨rfl, ?_, ⟨C1, C2, C3, C4, by show n + 1 ≤ 60; omega, fun k hk => ?_⟩, ⟨M1, M2, M3, fun h hh hm q hq => okV_s (M4 h hh hm q hq), M5⟩, fun k hk => R1 k (by have : n + 1 ≤ k := hk; omega), R2⟩
      · have : vp_updL fp n 0 = fp := by
          funext j; unfold vp_updL
          split
          · next e => rw [e]; exact (R1 n (by omega)).symm
          · rfl
        rw [this]
      · show ∃ q, q < 3 ∧ upd fk n x k = nI q
        by_cases e : k = n
        · rw [e, upd_self]
          obtain ⟨q, hq, rfl⟩ := nI_of h1
          exact ⟨q, by
            rcases Nat.lt_or_ge q 3 with g | g
            · exact g
            · exact absurd ((nI_ltI (a := 2) (b := q) (by decide) hq).mpr (by omega)) h2, rfl⟩
        · rw [upd_ne _ _ e]; exact C6 k (by have : k < n + 1 := hk; omega)
end SIM2
