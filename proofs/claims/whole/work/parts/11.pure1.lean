/-! what the private methods of DutyRota answer, without the machine -/
section WI
variable {ci : Nat → ClassId} {ad : Nat → Nat} {hf : Nat → Nat} {ft : Nat → Int64} {fk : Nat → Int32} {fp : Nat → Int64} {n : Nat} {mk : Nat → Int32} {sz : Nat → Nat} {pl : Nat → Nat → Int64} {F : va_W}
theorem wC_inj {A : Nat → Prop} (hD : va_D A (wC ci ad hf ft fk fp n mk sz pl ++ F)) {i j : Nat} (hi : i < 10) (hj : j < 10) (h : ad (10 + i) = ad (10 + j)) : i = j := by
  have h1 := hD.1 (6 + i) (6 + j) _ _ (wC_sh hi) (wC_sh hj) h
  omega
end WI
section AC
variable {p : Program} {l : Launch} {e : Env} {R : Room} {s : State} {m : MethodId} {args : Array Value} {below : List Frame} {meth : Method} {c : Code} {H : Heap} {locs : List Loc} {cells slots : Nat} {Q : State → Prop} {cc : ByteArray} {pc : Nat} {ls : Array Slot} {rest : List Value}
theorem rw_acne (hexec : p.tables.exec = Jvm.exec) (hb : c.code = cc) {a b : Nat} {off : Int} {tgt : Nat} (hdg : decode cc pc = .ok (.if_acmp .ne off, 3)) (ht : (pc : Int) + off = (tgt : Int)) (kt : ¬ a = b → W p l e R s m args below meth c H locs cells slots Q (F0 m tgt ls rest)) (kf : a = b → W p l e R s m args below meth c H locs cells slots Q (F0 m (pc + 3) ls rest)) :
    W p l e R s m args below meth c H locs cells slots Q (F0 m pc ls (.ref b :: .ref a :: rest)) :=
  lv_acmp_ne (rx := some a) (ry := some b) hexec hb hdg ht (fun h => kt (fun h2 => h (by rw [h2]))) (fun h => kf (Option.some.inj h))
end AC
theorem i32_ge {a b : Int32} (h : ¬ a < b) : b ≤ a := Int32.not_lt.mp h
theorem hk_in {x : Int32} (h0 : ¬ x < 0) (h1 : x < 8) : ∃ j, j < 8 ∧ x = nI j := by
  obtain ⟨j, hj, rfl⟩ := nI_of h0
  exact ⟨j, (nI_ltI hj (by decide : 8 < 2 ^ 31)).mp h1, rfl⟩
theorem lN_of {v : Int64} {n : Nat} (hn : n ≤ 60) (h0 : ¬ v < 0) (h1 : ¬ (nI n).toInt64 ≤ v) : ∃ k, k < n ∧ v = lN k := by
  rw [nI_l (by omega)] at h1
  have h2 : ¬ v.toInt < 0 := fun h => h0 (Int64.lt_iff_toInt_lt.mpr h)
  have h3 : ¬ (n : Int) ≤ v.toInt := fun h => h1 (Int64.le_iff_toInt_le.mpr (by rw [pk_lT (by omega)]; exact h))
  refine ⟨v.toInt.toNat, by omega, Int64.toInt_inj.mp ?_⟩
  rw [pk_lT (by omega)]; omega
theorem lN_no {n k : Nat} {v : Int64} (hn : n ≤ 60) (hk : k < n) (e : v = lN k) (h : v < 0 ∨ (nI n).toInt64 ≤ v) : False := by
  subst e
  rw [nI_l (by omega)] at h
  rcases h with h | h
  · have h1 := Int64.lt_iff_toInt_lt.mp h
    rw [pk_lT (by omega)] at h1
    have h2 : (0 : Int64).toInt = 0 := by decide
    omega
  · have h1 := Int64.le_iff_toInt_le.mp h
    rw [pk_lT (by omega), pk_lT (by omega)] at h1
    omega
theorem lN_inj {a b : Nat} (ha : a < 60) (hb : b < 60) (h : lN a = lN b) : a = b := (lN_eq (by omega) (by omega)).mp h
theorem lc_lt {r : Int32} {X Y : Int64} (h : (r < 0 ↔ X < Y) ∧ (r = 0 ↔ X = Y) ∧ (0 < r ↔ Y < X)) (c : r < 0) : X < Y := h.1.mp c
theorem lc_nlt {r : Int32} {X Y : Int64} (h : (r < 0 ↔ X < Y) ∧ (r = 0 ↔ X = Y) ∧ (0 < r ↔ Y < X)) (c : ¬ r < 0) : ¬ X < Y := fun q => c (h.1.mpr q)
theorem lc_ge {r : Int32} {X Y : Int64} (h : (r < 0 ↔ X < Y) ∧ (r = 0 ↔ X = Y) ∧ (0 < r ↔ Y < X)) (c : 0 ≤ r) : Y ≤ X := Int64.not_lt.mp (fun q => absurd (h.1.mpr q) (Int32.not_lt.mpr c))
theorem lc_nge {r : Int32} {X Y : Int64} (h : (r < 0 ↔ X < Y) ∧ (r = 0 ↔ X = Y) ∧ (0 < r ↔ Y < X)) (c : ¬ 0 ≤ r) : ¬ Y ≤ X := Int64.not_le.mpr (h.1.mp (Int32.not_le.mp c))
theorem lc_ne {r : Int32} {X Y : Int64} (h : (r < 0 ↔ X < Y) ∧ (r = 0 ↔ X = Y) ∧ (0 < r ↔ Y < X)) (c : ¬ r = 0) : ¬ X = Y := fun q => c (h.2.1.mpr q)
theorem lc_eq {r : Int32} {X Y : Int64} (h : (r < 0 ↔ X < Y) ∧ (r = 0 ↔ X = Y) ∧ (0 < r ↔ Y < X)) (c : r = 0) : X = Y := h.2.1.mp c
theorem i64_inj {x y : Int32} (h : x.toInt64 = y.toInt64) : x = y := by
  have h1 := congrArg Int64.toInt h
  rw [Int32.toInt_toInt64, Int32.toInt_toInt64] at h1
  exact Int32.toInt_inj.mp h1
theorem pe_in {x : Int32} {n : Nat} (hn : n ≤ 60) (h : ∃ k, k < n ∧ x.toInt64 = lN k) : ∃ k, k < n ∧ x = nI k := by
  obtain ⟨k, hk, e⟩ := h
  exact ⟨k, hk, i64_inj (by rw [e, nI_l (by omega)])⟩
theorem i64_lt0 {x : Int32} : x.toInt64 < 0 ↔ x < 0 := by
  rw [Int64.lt_iff_toInt_lt, Int32.lt_iff_toInt_lt, Int32.toInt_toInt64]; exact Iff.rfl
theorem i64_le {x y : Int32} : x.toInt64 ≤ y.toInt64 ↔ x ≤ y := by
  rw [Int64.le_iff_toInt_le, Int32.le_iff_toInt_le, Int32.toInt_toInt64, Int32.toInt_toInt64]
theorem pe_out {x : Int32} {n : Nat} (h : x.toInt64 < 0 ∨ (nI n).toInt64 ≤ x.toInt64) : x < 0 ∨ nI n ≤ x := h.imp i64_lt0.mp i64_le.mp
def lhP (hf : Nat → Nat) (i : Nat) (r : Int32) : Prop := (∃ h, h < 8 ∧ hf h = i ∧ (∀ h', h' < h → ¬ hf h' = i) ∧ r = nI h) ∨ ((∀ h, h < 8 → ¬ hf h = i) ∧ r = -1)
theorem nI_nm1 {h : Nat} (hh : h < 2 ^ 31) : ¬ nI h = -1 := fun e => by
  have h1 := congrArg Int32.toInt e
  rw [nI_toInt hh] at h1
  have h2 : (-1 : Int32).toInt = -1 := by decide
  omega
theorem lh_no {hf : Nat → Nat} {i : Nat} {r : Int32} (h : lhP hf i r) (e : r = -1) : ∀ h, h < 8 → ¬ hf h = i := by
  rcases h with ⟨h, h1, -, -, h4⟩ | ⟨h1, -⟩
  · exact absurd (h4.symm.trans e) (nI_nm1 (by omega))
  · exact h1
theorem lh_yes {hf : Nat → Nat} {i : Nat} {r : Int32} (h : lhP hf i r) (e : ¬ r = -1) : ∃ h, h < 8 ∧ hf h = i := by
  rcases h with ⟨h, h1, h2, -, -⟩ | ⟨-, h1⟩
  · exact ⟨h, h1, h2⟩
  · exact absurd h1 e
/-- eight hooks hold no nine things -/
theorem pigeon : ∀ (k : Nat) (f : Nat → Nat), (∀ t, t < k + 1 → ∃ h, h < k ∧ f h = t) → False := by
  intro k
  induction k with
  | zero => intro f h; obtain ⟨h0, h1, -⟩ := h 0 (by omega); omega
  | succ k ih =>
    intro f h
    obtain ⟨h0, hh0, e0⟩ := h (k + 1) (by omega)
    refine ih (fun q => if q = h0 then f k else f q) (fun t ht => ?_)
    obtain ⟨h1, hh1, e1⟩ := h t (by omega)
    by_cases hk : h1 = k
    · refine ⟨h0, ?_, by simp only [if_true]; rw [← hk]; exact e1⟩
      rcases Nat.lt_or_ge h0 k with q | q
      · exact q
      · exfalso; have : h0 = k := by omega
        rw [this] at e0; rw [hk] at e1; omega
    · have : h1 ≠ h0 := fun q => by rw [q] at e1; omega
      exact ⟨h1, by omega, by simp only [if_neg this]; exact e1⟩
theorem idle8 {hf : Nat → Nat} (h : ∀ t, t < 8 → ∃ q, q < 8 ∧ hf q = t) : ∀ q, q < 8 → ¬ hf q = 8 := by
  intro q hq e
  refine pigeon 8 hf (fun t ht => ?_)
  by_cases h8 : t = 8
  · exact ⟨q, hq, by rw [h8]; exact e⟩
  · exact h t (by omega)
def noTake (m : Int32) (fk : Nat → Int32) (n : Nat) (v : Int64) : Prop := ∃ k, k < n ∧ v = lN k ∧ ¬ m = 0 ∧ m ≤ 2 ∧ ¬ fk k = m - 1
def fam (m : Int32) : Int32 := if m ≤ 2 then 0 else m
def alike (a b : Int32) : Prop := a ≤ 4 ∧ b ≤ 4 ∧ fam a = fam b
def cntW (f : Nat → Int64) (v : Int64) : Nat → Int32
  | 0 => 0
  | k + 1 => cntW f v k + (if f k = v then 1 else 0)
def wallN (hf : Nat → Nat) (mk : Nat → Int32) (sz : Nat → Nat) (pl : Nat → Nat → Int64) (v : Int64) : Nat → Int32
  | 0 => 0
  | h + 1 => wallN hf mk sz pl v h + (if mk (hf h) ≤ 2 ∧ ∀ h', h' < h → ¬ hf h' = hf h then cntW (pl (hf h)) v (sz (hf h)) else 0)
theorem wall_no {hf : Nat → Nat} {mk : Nat → Int32} {sz : Nat → Nat} {pl : Nat → Nat → Int64} {v : Int64} {h : Nat} (c : ¬ (mk (hf h) ≤ 2 ∧ ∀ h', h' < h → ¬ hf h' = hf h)) : wallN hf mk sz pl v (h + 1) = wallN hf mk sz pl v h := by
  show wallN hf mk sz pl v h + _ = _
  rw [if_neg c, Int32.add_zero]
theorem wall_yes {hf : Nat → Nat} {mk : Nat → Int32} {sz : Nat → Nat} {pl : Nat → Nat → Int64} {v : Int64} {h : Nat} (c : mk (hf h) ≤ 2 ∧ ∀ h', h' < h → ¬ hf h' = hf h) : wallN hf mk sz pl v (h + 1) = wallN hf mk sz pl v h + cntW (pl (hf h)) v (sz (hf h)) := by
  show wallN hf mk sz pl v h + _ = _
  rw [if_pos c]
theorem lh_at {hf : Nat → Nat} {k : Nat} {r : Int32} (hk : k < 8) (h : lhP hf (hf k) r) (e : r = nI k) : ∀ h', h' < k → ¬ hf h' = hf k := by
  rcases h with ⟨h, h1, h2, h3, h4⟩ | ⟨h1, h2⟩
  · have : h = k := (nI_eq (by omega) (by omega)).mp (h4.symm.trans e)
    rw [← this]; intro h' hh'; rw [h2]; exact h3 h' hh'
  · exact absurd rfl (h1 k hk)
theorem lh_nat {hf : Nat → Nat} {k : Nat} {r : Int32} (hk : k < 8) (h : lhP hf (hf k) r) (e : ¬ r = nI k) : ¬ ∀ h', h' < k → ¬ hf h' = hf k := by
  intro hall
  rcases h with ⟨h, h1, h2, h3, h4⟩ | ⟨h1, h2⟩
  · rcases Nat.lt_trichotomy h k with q | q | q
    · exact hall h q h2
    · rw [q] at h4; exact e h4
    · exact h3 k q rfl
  · exact h1 k hk rfl
def idx (v : Int64) : Nat := v.toInt32.toNatClampNeg
theorem idx_lN {k : Nat} (h : k < 60) : idx (lN k) = k := by unfold idx; rw [lN_i, nI_clamp (by omega)]
def rateI (m : Int32) : Int32 := if m = 0 then 3 else if m = 1 then 2 else 1
def payStep (fk : Nat → Int32) (n : Nat) (fp : Nat → Int64) (v ho ex : Int64) : Nat → Int64 := if v < 0 ∨ (nI n).toInt64 ≤ v then fp else vp_updL fp (idx v) (fp (idx v) + (ho * (rateI (fk (idx v))).toInt64 + ex))
theorem payStep_no {fk : Nat → Int32} {n : Nat} {fp : Nat → Int64} {v ho ex : Int64} (h : v < 0 ∨ (nI n).toInt64 ≤ v) : payStep fk n fp v ho ex = fp := if_pos h
theorem payStep_yes {fk : Nat → Int32} {n : Nat} {fp : Nat → Int64} {v ho ex : Int64} {k : Nat} (hn : n ≤ 60) (hk : k < n) (e : v = lN k) : payStep fk n fp v ho ex = vp_updL fp k (fp k + (ho * (rateI (fk k)).toInt64 + ex)) := by
  unfold payStep
  rw [if_neg (fun h => lN_no hn hk e h), e, idx_lN (by omega)]
theorem rates_at {m : Int32} (h : ∃ q, q < 3 ∧ m = nI q) : vp_in m 3 ∧ rates m.toNatClampNeg = .int (rateI m) := by
  obtain ⟨q, hq, rfl⟩ := h
  refine ⟨vp_in_nI hq (by decide), ?_⟩
  rcases (show q = 0 ∨ q = 1 ∨ q = 2 by omega) with rfl | rfl | rfl <;> rfl
theorem lt9 {sz : Nat → Nat} {i k : Nat} (h9 : sz 9 = 0) (hi : i < 10) (hk : k < sz i) : i < 9 := by
  rcases Nat.lt_or_ge i 9 with q | q
  · exact q
  · have : i = 9 := by omega
    rw [this, h9] at hk; omega
