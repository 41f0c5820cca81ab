/-! the reference: slide, turn, pay, stands, hang -/
def part (f g : Nat → Int64) (a b : Nat) : Nat → Int64 := fun q => if a ≤ q ∧ q < b then g q else f q
theorem part_0 {f g : Nat → Int64} {a : Nat} : part f g a a = f := by funext q; unfold part; rw [if_neg (by omega)]
theorem part_s {f g : Nat → Int64} {a p : Nat} {v : Int64} (h : a ≤ p) (e : v = g p) : vp_updL (part f g a p) p v = part f g a (p + 1) := by
  funext q
  unfold vp_updL part
  by_cases h1 : q = p
  · subst h1; rw [if_pos rfl, if_pos (by omega)]; exact e
  · rw [if_neg h1]
    by_cases h2 : a ≤ q ∧ q < p
    · rw [if_pos h2, if_pos (by omega)]
    · rw [if_neg h2, if_neg (by omega)]
theorem part_L {m : Int32} {S : Nat} {f : Nat → Int64} {J B : Nat} (h : J + B ≤ S) : part f (slL m S f J B) J S = slL m S f J B := by
  funext q; unfold part
  by_cases h1 : J ≤ q ∧ q < S
  · rw [if_pos h1]
  · rw [if_neg h1]; unfold slL
    by_cases h2 : q < J
    · rw [if_pos h2]
    · rw [if_neg h2, if_neg (by omega), if_neg (by omega)]
theorem part_E {m : Int32} {S : Nat} {f : Nat → Int64} {J B : Nat} (h : B ≤ J) (h2 : J ≤ S) : part f (slE m S f J B) (J - B) S = slE m S f J B := by
  funext q; unfold part
  by_cases h1 : J - B ≤ q ∧ q < S
  · rw [if_pos h1]
  · rw [if_neg h1]; unfold slE
    by_cases h2 : q < J - B
    · rw [if_pos h2]
    · rw [if_neg h2, if_neg (by omega), if_neg (by omega)]
theorem part_T {S : Nat} {f : Nat → Int64} {K : Nat} (h : K ≤ S) : part f (tuR S f K) 0 S = tuR S f K := by
  funext q; unfold part
  by_cases h1 : 0 ≤ q ∧ q < S
  · rw [if_pos h1]
  · rw [if_neg h1]; unfold tuR; rw [if_neg (by omega), if_neg (by omega)]
theorem nr_no {m r : Int32} {S : Nat} {f : Nat → Int64} {i k : Int32} (h : (m = 6 ∧ r = 1) ∨ (¬ m = 6 ∧ ¬ m ≤ 4 ∧ r = 2) ∨ (¬ m = 6 ∧ m ≤ 4 ∧ r = 0)) (c : ¬ r = 0) : slideP m S f i k r f ∧ turnP m S f k r f := by
  rcases h with ⟨h1, h2⟩ | ⟨h1, h2, h3⟩ | ⟨-, -, h3⟩
  · exact ⟨Or.inl ⟨h1, h2, rfl⟩, Or.inl ⟨h1, h2, rfl⟩⟩
  · exact ⟨Or.inr (Or.inl ⟨h1, h2, h3, rfl⟩), Or.inr (Or.inl ⟨h1, h2, h3, rfl⟩)⟩
  · exact absurd h3 c
theorem nr_yes {m r : Int32} (h : (m = 6 ∧ r = 1) ∨ (¬ m = 6 ∧ ¬ m ≤ 4 ∧ r = 2) ∨ (¬ m = 6 ∧ m ≤ 4 ∧ r = 0)) (c : r = 0) : ¬ m = 6 ∧ m ≤ 4 := by
  subst c
  rcases h with ⟨-, h2⟩ | ⟨-, -, h3⟩ | ⟨h1, h2, -⟩
  · exact absurd h2 (by decide)
  · exact absurd h3 (by decide)
  · exact ⟨h1, h2⟩
theorem to_i {x y : Int32} : (x.toInt64 + y.toInt64).toInt32 = x + y := by
  rw [Int64.toInt32_add, Int32.toInt32_toInt64, Int32.toInt32_toInt64]
theorem neg_sub {J B : Nat} (h : B ≤ J) : nI J + -nI B = nI (J - B) := by rw [← Int32.sub_eq_add_neg, pk_sub h]
theorem sub_neg' {p B : Nat} : nI p - -nI B = nI (p + B) := by rw [Int32.sub_eq_add_neg, Int32.neg_neg, nI_add]
/-- later: the place p - B against J and S -/
theorem sub_lt {p B J : Nat} (hp : p ≤ 40) (hB : B ≤ 40) (hJ : J ≤ 40) : nI p - nI B < nI J ↔ (p : Int) - B < J := by
  rw [Int32.lt_iff_toInt_lt, pk_sub_toInt (by omega) (by omega), nI_toInt (by omega)]
theorem sub_ge {p B S : Nat} (hp : p ≤ 40) (hB : B ≤ 40) (hS : S ≤ 40) : nI S ≤ nI p - nI B ↔ (S : Int) ≤ (p : Int) - B := by
  rw [Int32.le_iff_toInt_le, pk_sub_toInt (by omega) (by omega), nI_toInt (by omega)]
theorem slL_b {m : Int32} {S : Nat} {f : Nat → Int64} {J B p : Nat} (h1 : J ≤ p) (h2 : p < J + B) : blankV m = slL m S f J B p := by unfold slL; rw [if_neg (by omega), if_pos h2]
theorem slL_f {m : Int32} {S : Nat} {f : Nat → Int64} {J B p : Nat} (h1 : J + B ≤ p) (h2 : p < S) : f (p - B) = slL m S f J B p := by unfold slL; rw [if_neg (by omega), if_neg (by omega), if_pos h2]
theorem slE_b {m : Int32} {S : Nat} {f : Nat → Int64} {J B p : Nat} (h0 : J - B ≤ p) (h1 : S - B ≤ p) (h2 : p < S) : blankV m = slE m S f J B p := by unfold slE; rw [if_neg (by omega), if_neg (by omega), if_pos h2]
theorem slE_f {m : Int32} {S : Nat} {f : Nat → Int64} {J B p : Nat} (h1 : J - B ≤ p) (h2 : p < S - B) : f (p + B) = slE m S f J B p := by unfold slE; rw [if_neg (by omega), if_pos h2]
theorem tuR_1 {S : Nat} {f : Nat → Int64} {K p : Nat} (h : p + K < S) : f (p + K) = tuR S f K p := by unfold tuR; rw [if_pos (by omega)]
theorem tuR_2 {S : Nat} {f : Nat → Int64} {K p : Nat} (hK : K ≤ S) (h : S ≤ p + K) (h2 : p < S) : f (p + K - S) = tuR S f K p := by unfold tuR; rw [if_neg (by omega), if_pos h2]; congr 1; omega
def hangsB (H : Nat → Nat) (t : Nat) : Nat → Bool
  | 0 => false
  | n + 1 => hangsB H t n || (H n == t)
theorem hangsB_iff {H : Nat → Nat} {t : Nat} : ∀ n, hangsB H t n = true ↔ ∃ h, h < n ∧ H h = t := by
  intro n
  induction n with
  | zero => exact ⟨fun h => absurd h (by unfold hangsB; decide), fun ⟨h, h1, _⟩ => absurd h1 (by omega)⟩
  | succ n ih =>
    show (hangsB H t n || (H n == t)) = true ↔ _
    rw [Bool.or_eq_true, ih, beq_iff_eq]
    constructor
    · rintro (⟨h, h1, h2⟩ | h)
      · exact ⟨h, by omega, h2⟩
      · exact ⟨n, by omega, h⟩
    · rintro ⟨h, h1, h2⟩
      by_cases e : h = n
      · rw [e] at h2; exact Or.inr h2
      · exact Or.inl ⟨h, by omega, h2⟩
/-- who stands where: thing by thing -/
def standN (H : Nat → Nat) (mk : Nat → Int32) (Z : Nat → Nat) (ce : Nat → Int64) (v : Int64) : Nat → Int32
  | 0 => 0
  | t + 1 => standN H mk Z ce v t + (if hangsB H t 8 = true ∧ mk t ≤ 2 then cntW (rV ce t) v (Z t) else 0)
theorem hd_is {hd : Nat → Int32} {H : Nat → Nat} {h t : Nat} (hH : hOK hd H) (hh : h < 8) (ht : t < 9) : hd h = nI t ↔ H h = t := by
  rw [(hH h hh).2]
  have : nI t = hv t := by unfold hv; rw [if_neg (by omega)]
  rw [this]
  exact ⟨hv_inj (hH h hh).1 (by omega), fun e => by rw [e]⟩
theorem stand_y {H : Nat → Nat} {mk : Nat → Int32} {Z : Nat → Nat} {ce : Nat → Int64} {v : Int64} {t : Nat} (h : ∃ h, h < 8 ∧ H h = t) (hm : mk t ≤ 2) : standN H mk Z ce v (t + 1) = standN H mk Z ce v t + cntW (rV ce t) v (Z t) := by
  show standN H mk Z ce v t + _ = _
  rw [if_pos ⟨(hangsB_iff 8).mpr h, hm⟩]
theorem stand_n {H : Nat → Nat} {mk : Nat → Int32} {Z : Nat → Nat} {ce : Nat → Int64} {v : Int64} {t : Nat} (h : ¬ ((∃ h, h < 8 ∧ H h = t) ∧ mk t ≤ 2)) : standN H mk Z ce v (t + 1) = standN H mk Z ce v t := by
  show standN H mk Z ce v t + _ = _
  rw [if_neg (fun q => h ⟨(hangsB_iff 8).mp q.1, q.2⟩), Int32.add_zero]
theorem stand_z {H : Nat → Nat} {mk : Nat → Int32} {Z : Nat → Nat} {ce : Nat → Int64} {v : Int64} {t : Nat} (hz : Z t = 0) : standN H mk Z ce v (t + 1) = standN H mk Z ce v t := by
  show standN H mk Z ce v t + _ = _; rw [hz]; split <;> exact Int32.add_zero _
/-- the inner sum: q places of thing t -/
def stQ (H : Nat → Nat) (mk : Nat → Int32) (Z : Nat → Nat) (ce : Nat → Int64) (v : Int64) (t q : Nat) (c : Int32) : Prop := (q = 0 ∧ c = standN H mk Z ce v t) ∨ ((∃ h, h < 8 ∧ H h = t) ∧ mk t ≤ 2 ∧ c = standN H mk Z ce v t + cntW (rV ce t) v q)
theorem stQ_s {H : Nat → Nat} {mk : Nat → Int32} {Z : Nat → Nat} {ce : Nat → Int64} {v : Int64} {t q : Nat} {c b : Int32} (h : stQ H mk Z ce v t q c) (h1 : ∃ h, h < 8 ∧ H h = t) (h2 : mk t ≤ 2) (hb : b = if rV ce t q = v then 1 else 0) : stQ H mk Z ce v t (q + 1) (c + b) := by
  refine Or.inr ⟨h1, h2, ?_⟩
  show _ = _ + (cntW (rV ce t) v q + _)
  rw [← hb, ← Int32.add_assoc]
  rcases h with ⟨rfl, rfl⟩ | ⟨-, -, rfl⟩
  · show _ = _ + 0 + b; rw [Int32.add_zero]
  · rfl
theorem stQ_e {H : Nat → Nat} {mk : Nat → Int32} {Z : Nat → Nat} {ce : Nat → Int64} {v : Int64} {t q : Nat} {c : Int32} (h : stQ H mk Z ce v t q c) (e : q = Z t ∨ ¬ ((∃ h, h < 8 ∧ H h = t) ∧ mk t ≤ 2)) : c = standN H mk Z ce v (t + 1) := by
  rcases h with ⟨rfl, rfl⟩ | ⟨h1, h2, rfl⟩
  · rcases e with e | e
    · rw [stand_z e.symm]
    · rw [stand_n e]
  · rcases e with e | e
    · rw [stand_y h1 h2, e]
    · exact absurd ⟨h1, h2⟩ e
theorem pg_some {hd : Nat → Int32} {H : Nat → Nat} {a : Nat} (hH : hOK hd H) (ha : a < 8) : ∃ t, t < 9 ∧ ∀ h, h < 8 → ¬ upd hd a (-1) h = nI t := by
  apply Classical.byContradiction
  intro hn
  refine pigeon 8 H (fun t ht => ?_)
  apply Classical.byContradiction
  intro h2
  refine hn ⟨t, ht, fun h hh e => ?_⟩
  unfold upd at e
  split at e
  · exact nI_nm1 (by omega) e.symm
  · exact h2 ⟨h, hh, (hd_is hH hh ht).mp e⟩
/-- hang, of the reference -/
def hangM (hd : Nat → Int32) (mk sz : Nat → Int32) (ce : Nat → Int64) (a : Nat) (y t r : Int32) (hd' mk' sz' : Nat → Int32) (ce' : Nat → Int64) : Prop :=
  (y = 6 ∧ r = 0 ∧ hd' = upd hd a (-1) ∧ mk' = mk ∧ sz' = sz ∧ ce' = ce) ∨ (¬ y = 6 ∧ y ≤ 4 ∧ t < 0 ∧ r = 4 ∧ hd' = hd ∧ mk' = mk ∧ sz' = sz ∧ ce' = ce) ∨
  (¬ y = 6 ∧ ∃ i N, i < 9 ∧ (∀ h, h < 8 → ¬ upd hd a (-1) h = nI i) ∧ ((y ≤ 4 ∧ t = nI N ∧ N ≤ 40) ∨ (¬ y ≤ 4 ∧ N = 0)) ∧ r = 0 ∧ hd' = upd (upd hd a (-1)) a (nI i) ∧ mk' = upd mk i y ∧ sz' = upd sz i (nI N) ∧ rowIs ce i (part (rV ce i) (fun _ => blankV y) 0 N) ce')
theorem fm_roster {m : Int32} (hm : ¬ m < 0) : ¬ (¬ m = 6 ∧ ¬ fam m = 0) ↔ (m = 6 ∨ m ≤ 2) := by
  unfold fam
  by_cases h : m ≤ 2
  · rw [if_pos h]; exact ⟨fun _ => Or.inr h, fun _ q => q.2 rfl⟩
  · rw [if_neg h]
    constructor
    · intro q
      left
      apply Classical.byContradiction
      intro h6
      exact q ⟨h6, fun e => h (by rw [e]; decide)⟩
    · rintro (h6 | h2)
      · exact fun q => q.1 h6
      · exact absurd h2 h
theorem fm_k {m k : Int32} (hk : ¬ k ≤ 2) (hk0 : ¬ k = 0) : fam m = k ↔ m = k := by
  unfold fam
  by_cases h : m ≤ 2
  · rw [if_pos h]; exact ⟨fun e => absurd e.symm hk0, fun e => absurd (e ▸ h) hk⟩
  · rw [if_neg h]
theorem l2i_m1 {n : Nat} {v : Int64} (hn : n ≤ 60) (h : okV n v) (c : v.toInt32 = -1) : v = -1 := by
  rcases h with h | ⟨k, hk, e⟩
  · exact h
  · rw [e, lN_i] at c; exact absurd c (nI_nm1 (by omega))
theorem l2i_k {n : Nat} {v : Int64} (h : okV n v) (c : ¬ v.toInt32 = -1) : ∃ k, k < n ∧ v = lN k := by
  rcases h with h | h
  · exact absurd (by rw [h]; decide) c
  · exact h
theorem pay_m1 {fk : Nat → Int32} {n : Nat} {fp : Nat → Int64} {v ho ex : Int64} (h : v = -1) : payStep fk n fp v ho ex = fp := payStep_no (Or.inl (by rw [h]; decide))
