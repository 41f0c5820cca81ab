set_option maxHeartbeats 1000000 in
set_option maxRecDepth 100000 in
theorem c_L_hang (l : Launch) (D : va_G) (ci : Nat → ClassId) (ad : Nat → Nat) (z : Nat) (F : va_W) (hf : Nat → Nat) (ft : Nat → Int64) (fk : Nat → Int32) (fp : Nat → Int64) (n : Nat) (mk : Nat → Int32) (sz : Nat → Nat) (pl : Nat → Nat → Int64) (fo : Nat → Int64) (x y t : Int32) (hlt : l.stackTraces = false) (hHF : ∀ h, h < 8 → hf h < 10) (hSZ : ∀ i, i < 10 → sz i ≤ 40) (h9s : sz 9 = 0) (h9m : mk 9 = 6) (hN : n ≤ 60) (hKD : ∀ k, k < n → ∃ q, q < 3 ∧ fk k = nI q) : Met l yL_hang wsL_hang ({ frames := 8, cells := 3, slots := 18, locals := 140 }) (va_Pc [.ref (ad 0), .int x, .int y, .int t, .ref (ad 40)] (fun U => WD D ci ad z (wC ci ad hf ft fk fp n mk sz pl ++ (ad 40, .inl (ci 1, 1, .inr (.inl fo))) :: F) U ∧ va_Nc nsN iaeN U)) (va_Qi (fun (r : Int32) (u : ((Nat → Nat) × (Nat → Int32) × (Nat → Nat) × (Nat → Nat → Int64)) × (Nat → Int64)) => (r = 0 ∧ ∃ q : Int32, u.2 0 = q.toInt64 ∧ ∃ a, a < 8 ∧ x = nI a ∧ (¬ y < 0 ∧ y ≤ 6 ∧ t ≤ 40) ∧ hangP hf mk sz pl a y t q u.1.1 u.1.2.1 u.1.2.2.1 u.1.2.2.2) ∨ (r = 1 ∧ ((badH x ∨ (y < 0 ∨ 6 < y) ∨ 40 < t)) ∧ u.1 = (hf, mk, sz, pl))) (fun u t => va_P D vwCl (wC ci ad u.1.1 ft fk fp n u.1.2.1 u.1.2.2.1 u.1.2.2.2 ++ (ad 40, .inl (ci 1, 1, .inr (.inl u.2))) :: F) t.heap ∧ va_D (LA z) (wC ci ad u.1.1 ft fk fp n u.1.2.1 u.1.2.2.1 u.1.2.2.2 ++ (ad 40, .inl (ci 1, 1, .inr (.inl u.2))) :: F)) (LA z)) 3 18 (LA z) := by
  refine va_MetW (cc := cL_hang) (maxL := 6) (ret := (some .int)) (hh := [(0, 12, 15, 13)]) (by decide) rfl ?_
  intro p e s m args below meth c s₁ B hml hv
  obtain ⟨rfl, ⟨hP, hD, hK, hE⟩, hNc⟩ := hv
  have hx := B.exec
  have hb := B.bytes
  have hr := B.returns
  have hts := atoms_spec (ws := wsL_hang) B.pre
  have hown : s.vm.findClass RL = some m.cls := findClass_of_methodNamed B.named
  have hlocks := B.notSynchronized
  have htab := vx_table (x := yL_hang) B (hts _ List.mem_cons_self)
  have hS : va_S (LA z) s.heap s.heap [] := va_S.rf
  have hl := lv_entry ([.ref (ad 0), .int x, .int y, .int t, .ref (ad 40)]) (n := 6) (Nat.le_of_ble_eq_true rfl)
  rw [lg_entry_eq]
  generalize (lg_sl ([.ref (ad 0), .int x, .int y, .int t, .ref (ad 40)]) ++ List.replicate (6 - (lg_sl ([.ref (ad 0), .int x, .int y, .int t, .ref (ad 40)])).length) Slot.unset).toArray = ls at hl ⊢
  have hl : lv_has ls 6 [(0, .ref (ad 0)), (1, .int x), (2, .int y), (3, .int t), (4, .ref (ad 40))] := hl
  refine lv_aload hx hb dL_hang_0 (lv_at hl 4 rfl) ?_
  refine lv_iconst (v := 0) hx hb dL_hang_2 (by decide) ?_
  refine lv_aload_n hx hb dL_hang_3 rfl (lv_at hl 0 rfl) ?_
  refine lv_iload_n hx hb dL_hang_4 rfl (lv_at hl 1 rfl) ?_
  refine lv_iload_n hx hb dL_hang_5 rfl (lv_at hl 2 rfl) ?_
  refine lv_iload_n hx hb dL_hang_6 rfl (lv_at hl 3 rfl) ?_
  refine vx_calli (vx_runV (As := [.int x, .int y, .int t]) (rest := [.int 0, .ref (ad 40)]) ⟨hx, hb, hml, hown, hts⟩ (c_X1_hang l D ci ad z ((ad 40, .inl (ci 1, 1, .inr (.inl fo))) :: F) hf ft fk fp n mk sz pl x y t hlt hHF hSZ h9s h9m hN hKD) (cwV 3 hts gL_hang_X1_hang rfl rfl rfl (by decide +kernel) ⟨Nat.le_of_ble_eq_true rfl, Nat.le_of_ble_eq_true rfl⟩) ⟨WD.fb, (va_recv hK hP (ci := 1) (q0 := 0) rfl rfl), fun U hU hW => ⟨rfl, WD.call hP hD hK hE hS hU hW⟩⟩ rfl rfl hl.1 rfl (lv_room (Nat.le_of_ble_eq_true rfl)) dL_hang_7 ⟨Nat.le_of_ble_eq_true rfl, Nat.le_of_ble_eq_true rfl⟩) hS (fun q _ h => h) (fun q h => h) (fun q _ h => h) (fun E ce q9 u9 t9 H locs ht9 hvm9 hpx9 hBX hz9 hk9 hS hce hcv hcl => ?_) (fun r7 u7 t7 H locs ht7 hvm7 hw7 hB7 hz7 hk7 hS => ?_)
  · obtain ⟨hph, hP9, hD9⟩ := hBX
    rw [ht9] at hP9
    obtain ⟨rfl, hph⟩ := hph
    refine vx_catch (own := RL) (name := iaeN) hown [] ⟨0, 12, 15, 13⟩ [] htab (fun z hz => nomatch hz) (by decide) (by decide) (hts (.classLink RL 13 iaeN) (by decide +kernel)) (hE.exc _ (by decide +kernel)) hce hcv hcl ?_
    show W _ _ _ _ _ _ _ _ _ _ _ _ _ _ _ (F0 m 15 ls [.ref q9])
    refine lv_astore (lv' := [(5, .ref q9), (0, .ref (ad 0)), (1, .int x), (2, .int y), (3, .int t), (4, .ref (ad 40))]) hx hb dL_hang_15 hl (by decide) rfl (fun ls hl => ?_)
    refine lv_iconst (v := 1) hx hb dL_hang_17 (by decide) ?_
    exact W.iret (v := 1) hx hb hr (fun t ht _ => ⟨⟨_, ((hf, mk, sz, pl), fo), rfl, Or.inr ⟨rfl, hph, rfl⟩, by rw [ht]; exact hP9, hD9⟩, hS.F ht⟩) hS.2.2 dL_hang_18
  · obtain ⟨hP, hD⟩ := hB7
    rw [ht7] at hP
    refine lv_i2l hx hb dL_hang_10 rfl ?_
    refine rw_lst hx hb hK hP hD hS 26 1 rfl rfl (j := 0) rfl (by decide) (by decide) (ws' := wC ci ad u7.1 ft fk fp n u7.2.1 u7.2.2.1 u7.2.2.2 ++ (ad 40, .inl (ci 1, 1, .inr (.inl (vp_updL fo 0 r7.toInt64)))) :: F) rfl dL_hang_11 (fun H locs hP hD hS => ?_)
    refine lv_goto (tgt := 19) hx hb dL_hang_12 (by decide) ?_
    refine lv_iconst (v := 0) hx hb dL_hang_19 (by decide) ?_
    exact W.iret (v := 0) hx hb hr (fun t ht _ => ⟨⟨_, (u7, vp_updL fo 0 r7.toInt64), rfl, Or.inl ⟨rfl, r7, rfl, hw7⟩, by rw [ht]; exact hP, hD⟩, hS.F ht⟩) hS.2.2 dL_hang_20
set_option maxHeartbeats 1000000 in
set_option maxRecDepth 100000 in
theorem c_L_share (l : Launch) (D : va_G) (ci : Nat → ClassId) (ad : Nat → Nat) (z : Nat) (F : va_W) (hf : Nat → Nat) (ft : Nat → Int64) (fk : Nat → Int32) (fp : Nat → Int64) (n : Nat) (mk : Nat → Int32) (sz : Nat → Nat) (pl : Nat → Nat → Int64) (fo : Nat → Int64) (x y : Int32) (hlt : l.stackTraces = false) (hHF : ∀ h, h < 8 → hf h < 10) (hSZ : ∀ i, i < 10 → sz i ≤ 40) (h9s : sz 9 = 0) (h9m : mk 9 = 6) (hN : n ≤ 60) (hKD : ∀ k, k < n → ∃ q, q < 3 ∧ fk k = nI q) : Met l yL_share wsL_share ({ frames := 8, cells := 2, slots := 12, locals := 140 }) (va_Pc [.ref (ad 0), .int x, .int y, .ref (ad 40)] (fun U => WD D ci ad z (wC ci ad hf ft fk fp n mk sz pl ++ (ad 40, .inl (ci 1, 1, .inr (.inl fo))) :: F) U ∧ va_Nc nsN iaeN U)) (va_Qi (fun (r : Int32) (u : (Nat → Nat) × (Nat → Int64)) => (r = 0 ∧ ∃ q : Int32, u.2 0 = q.toInt64 ∧ ∃ a b, a < 8 ∧ b < 8 ∧ x = nI a ∧ y = nI b ∧ q = mk (hf a) ∧ u.1 = va_up hf b (hf a)) ∨ (r = 1 ∧ ((badH x ∨ badH y)) ∧ u.1 = hf)) (fun u t => va_P D vwCl (wC ci ad u.1 ft fk fp n mk sz pl ++ (ad 40, .inl (ci 1, 1, .inr (.inl u.2))) :: F) t.heap ∧ va_D (LA z) (wC ci ad u.1 ft fk fp n mk sz pl ++ (ad 40, .inl (ci 1, 1, .inr (.inl u.2))) :: F)) (LA z)) 2 12 (LA z) := by
  refine va_MetW (cc := cL_share) (maxL := 5) (ret := (some .int)) (hh := [(0, 10, 13, 13)]) (by decide) rfl ?_
  intro p e s m args below meth c s₁ B hml hv
  obtain ⟨rfl, ⟨hP, hD, hK, hE⟩, hNc⟩ := hv
  have hx := B.exec
  have hb := B.bytes
  have hr := B.returns
  have hts := atoms_spec (ws := wsL_share) B.pre
  have hown : s.vm.findClass RL = some m.cls := findClass_of_methodNamed B.named
  have hlocks := B.notSynchronized
  have htab := vx_table (x := yL_share) B (hts _ List.mem_cons_self)
  have hS : va_S (LA z) s.heap s.heap [] := va_S.rf
  have hl := lv_entry ([.ref (ad 0), .int x, .int y, .ref (ad 40)]) (n := 5) (Nat.le_of_ble_eq_true rfl)
  rw [lg_entry_eq]
  generalize (lg_sl ([.ref (ad 0), .int x, .int y, .ref (ad 40)]) ++ List.replicate (5 - (lg_sl ([.ref (ad 0), .int x, .int y, .ref (ad 40)])).length) Slot.unset).toArray = ls at hl ⊢
  have hl : lv_has ls 5 [(0, .ref (ad 0)), (1, .int x), (2, .int y), (3, .ref (ad 40))] := hl
  refine lv_aload_n hx hb dL_share_0 rfl (lv_at hl 3 rfl) ?_
  refine lv_iconst (v := 0) hx hb dL_share_1 (by decide) ?_
  refine lv_aload_n hx hb dL_share_2 rfl (lv_at hl 0 rfl) ?_
  refine lv_iload_n hx hb dL_share_3 rfl (lv_at hl 1 rfl) ?_
  refine lv_iload_n hx hb dL_share_4 rfl (lv_at hl 2 rfl) ?_
  refine vx_calli (vx_runV (As := [.int x, .int y]) (rest := [.int 0, .ref (ad 40)]) ⟨hx, hb, hml, hown, hts⟩ (c_X1_share l D ci ad z ((ad 40, .inl (ci 1, 1, .inr (.inl fo))) :: F) hf ft fk fp n mk sz pl x y hlt hHF hSZ h9s h9m hN hKD) (cwV 2 hts gL_share_X1_share rfl rfl rfl (by decide +kernel) ⟨Nat.le_of_ble_eq_true rfl, Nat.le_of_ble_eq_true rfl⟩) ⟨WD.fb, (va_recv hK hP (ci := 1) (q0 := 0) rfl rfl), fun U hU hW => ⟨rfl, WD.call hP hD hK hE hS hU hW⟩⟩ rfl rfl hl.1 rfl (lv_room (Nat.le_of_ble_eq_true rfl)) dL_share_5 ⟨Nat.le_of_ble_eq_true rfl, Nat.le_of_ble_eq_true rfl⟩) hS (fun q _ h => h) (fun q h => h) (fun q _ h => h) (fun E ce q9 u9 t9 H locs ht9 hvm9 hpx9 hBX hz9 hk9 hS hce hcv hcl => ?_) (fun r7 u7 t7 H locs ht7 hvm7 hw7 hB7 hz7 hk7 hS => ?_)
  · obtain ⟨hph, hP9, hD9⟩ := hBX
    rw [ht9] at hP9
    obtain ⟨rfl, hph⟩ := hph
    refine vx_catch (own := RL) (name := iaeN) hown [] ⟨0, 10, 13, 13⟩ [] htab (fun z hz => nomatch hz) (by decide) (by decide) (hts (.classLink RL 13 iaeN) (by decide +kernel)) (hE.exc _ (by decide +kernel)) hce hcv hcl ?_
    show W _ _ _ _ _ _ _ _ _ _ _ _ _ _ _ (F0 m 13 ls [.ref q9])
    refine lv_astore (lv' := [(4, .ref q9), (0, .ref (ad 0)), (1, .int x), (2, .int y), (3, .ref (ad 40))]) hx hb dL_share_13 hl (by decide) rfl (fun ls hl => ?_)
    refine lv_iconst (v := 1) hx hb dL_share_15 (by decide) ?_
    exact W.iret (v := 1) hx hb hr (fun t ht _ => ⟨⟨_, (hf, fo), rfl, Or.inr ⟨rfl, hph, rfl⟩, by rw [ht]; exact hP9, hD9⟩, hS.F ht⟩) hS.2.2 dL_share_16
  · obtain ⟨hP, hD⟩ := hB7
    rw [ht7] at hP
    refine lv_i2l hx hb dL_share_8 rfl ?_
    refine rw_lst hx hb hK hP hD hS 26 1 rfl rfl (j := 0) rfl (by decide) (by decide) (ws' := wC ci ad u7 ft fk fp n mk sz pl ++ (ad 40, .inl (ci 1, 1, .inr (.inl (vp_updL fo 0 r7.toInt64)))) :: F) rfl dL_share_9 (fun H locs hP hD hS => ?_)
    refine lv_goto (tgt := 17) hx hb dL_share_10 (by decide) ?_
    refine lv_iconst (v := 0) hx hb dL_share_17 (by decide) ?_
    exact W.iret (v := 0) hx hb hr (fun t ht _ => ⟨⟨_, (u7, vp_updL fo 0 r7.toInt64), rfl, Or.inl ⟨rfl, r7, rfl, hw7⟩, by rw [ht]; exact hP, hD⟩, hS.F ht⟩) hS.2.2 dL_share_18
set_option maxHeartbeats 1000000 in
set_option maxRecDepth 100000 in
theorem c_L_put (l : Launch) (D : va_G) (ci : Nat → ClassId) (ad : Nat → Nat) (z : Nat) (F : va_W) (hf : Nat → Nat) (ft : Nat → Int64) (fk : Nat → Int32) (fp : Nat → Int64) (n : Nat) (mk : Nat → Int32) (sz : Nat → Nat) (pl : Nat → Nat → Int64) (fo : Nat → Int64) (x i y : Int32) (hlt : l.stackTraces = false) (hHF : ∀ h, h < 8 → hf h < 10) (hSZ : ∀ i, i < 10 → sz i ≤ 40) (h9s : sz 9 = 0) (h9m : mk 9 = 6) (hN : n ≤ 60) (hKD : ∀ k, k < n → ∃ q, q < 3 ∧ fk k = nI q) : Met l yL_put wsL_put ({ frames := 8, cells := 2, slots := 12, locals := 140 }) (va_Pc [.ref (ad 0), .int x, .int i, .int y, .ref (ad 40)] (fun U => WD D ci ad z (wC ci ad hf ft fk fp n mk sz pl ++ (ad 40, .inl (ci 1, 1, .inr (.inl fo))) :: F) U ∧ va_Nc nsN iaeN U)) (va_Qi (fun (r : Int32) (u : (Nat → Nat → Int64) × (Nat → Int64)) => (r = 0 ∧ ∃ q : Int32, u.2 0 = q.toInt64 ∧ ∃ a f, a < 8 ∧ x = nI a ∧ (y = -1 ∨ ∃ k, k < n ∧ y = nI k) ∧ u.1 = va_up pl (hf a) f ∧ putP (mk (hf a)) (sz (hf a)) (pl (hf a)) fk n i y q f) ∨ (r = 1 ∧ badH x ∧ u.1 = pl) ∨ (r = 2 ∧ (¬ badH x ∧ ¬ y = -1 ∧ (y < 0 ∨ nI n ≤ y)) ∧ u.1 = pl)) (fun u t => va_P D vwCl (wC ci ad hf ft fk fp n mk sz u.1 ++ (ad 40, .inl (ci 1, 1, .inr (.inl u.2))) :: F) t.heap ∧ va_D (LA z) (wC ci ad hf ft fk fp n mk sz u.1 ++ (ad 40, .inl (ci 1, 1, .inr (.inl u.2))) :: F)) (LA z)) 2 12 (LA z) := by
  refine va_MetW (cc := cL_put) (maxL := 6) (ret := (some .int)) (hh := [(0, 12, 15, 13), (0, 12, 19, 22)]) (by decide) rfl ?_
  intro p e s m args below meth c s₁ B hml hv
  obtain ⟨rfl, ⟨hP, hD, hK, hE⟩, hNc⟩ := hv
  have hx := B.exec
  have hb := B.bytes
  have hr := B.returns
  have hts := atoms_spec (ws := wsL_put) B.pre
  have hown : s.vm.findClass RL = some m.cls := findClass_of_methodNamed B.named
  have hlocks := B.notSynchronized
  have htab := vx_table (x := yL_put) B (hts _ List.mem_cons_self)
  have hS : va_S (LA z) s.heap s.heap [] := va_S.rf
  have hl := lv_entry ([.ref (ad 0), .int x, .int i, .int y, .ref (ad 40)]) (n := 6) (Nat.le_of_ble_eq_true rfl)
  rw [lg_entry_eq]
  generalize (lg_sl ([.ref (ad 0), .int x, .int i, .int y, .ref (ad 40)]) ++ List.replicate (6 - (lg_sl ([.ref (ad 0), .int x, .int i, .int y, .ref (ad 40)])).length) Slot.unset).toArray = ls at hl ⊢
  have hl : lv_has ls 6 [(0, .ref (ad 0)), (1, .int x), (2, .int i), (3, .int y), (4, .ref (ad 40))] := hl
  refine lv_aload hx hb dL_put_0 (lv_at hl 4 rfl) ?_
  refine lv_iconst (v := 0) hx hb dL_put_2 (by decide) ?_
  refine lv_aload_n hx hb dL_put_3 rfl (lv_at hl 0 rfl) ?_
  refine lv_iload_n hx hb dL_put_4 rfl (lv_at hl 1 rfl) ?_
  refine lv_iload_n hx hb dL_put_5 rfl (lv_at hl 2 rfl) ?_
  refine lv_iload_n hx hb dL_put_6 rfl (lv_at hl 3 rfl) ?_
  refine vx_calli (vx_runV (As := [.int x, .int i, .int y]) (rest := [.int 0, .ref (ad 40)]) ⟨hx, hb, hml, hown, hts⟩ (c_X1_put l D ci ad z ((ad 40, .inl (ci 1, 1, .inr (.inl fo))) :: F) hf ft fk fp n mk sz pl x i y hlt hHF hSZ h9s h9m hN hKD) (cwV 3 hts gL_put_X1_put rfl rfl rfl (by decide +kernel) ⟨Nat.le_of_ble_eq_true rfl, Nat.le_of_ble_eq_true rfl⟩) ⟨WD.fb, (va_recv hK hP (ci := 1) (q0 := 0) rfl rfl), fun U hU hW => ⟨rfl, WD.call hP hD hK hE hS hU hW⟩⟩ rfl rfl hl.1 rfl (lv_room (Nat.le_of_ble_eq_true rfl)) dL_put_7 ⟨Nat.le_of_ble_eq_true rfl, Nat.le_of_ble_eq_true rfl⟩) hS (fun q _ h => h) (fun q h => h) (fun q _ h => h) (fun E ce q9 u9 t9 H locs ht9 hvm9 hpx9 hBX hz9 hk9 hS hce hcv hcl => ?_) (fun r7 u7 t7 H locs ht7 hvm7 hw7 hB7 hz7 hk7 hS => ?_)
  · obtain ⟨hph, hP9, hD9⟩ := hBX
    rw [ht9] at hP9
    rcases hph with ⟨rfl, hph⟩ | ⟨rfl, hph⟩
    · refine vx_catch (own := RL) (name := iaeN) hown [] ⟨0, 12, 15, 13⟩ [⟨0, 12, 19, 22⟩] htab (fun z hz => nomatch hz) (by decide) (by decide) (hts (.classLink RL 13 iaeN) (by decide +kernel)) (hE.exc _ (by decide +kernel)) hce hcv hcl ?_
      show W _ _ _ _ _ _ _ _ _ _ _ _ _ _ _ (F0 m 15 ls [.ref q9])
      refine lv_astore (lv' := [(5, .ref q9), (0, .ref (ad 0)), (1, .int x), (2, .int i), (3, .int y), (4, .ref (ad 40))]) hx hb dL_put_15 hl (by decide) rfl (fun ls hl => ?_)
      refine lv_iconst (v := 1) hx hb dL_put_17 (by decide) ?_
      exact W.iret (v := 1) hx hb hr (fun t ht _ => ⟨⟨_, (pl, fo), rfl, Or.inr (Or.inl ⟨rfl, hph, rfl⟩), by rw [ht]; exact hP9, hD9⟩, hS.F ht⟩) hS.2.2 dL_put_18
    · refine vx_catch (own := RL) (name := nsN) hown [⟨0, 12, 15, 13⟩] ⟨0, 12, 19, 22⟩ [] htab (fun z hz => by rcases List.mem_singleton.mp hz with rfl; exact Or.inr ⟨by decide, iaeN, hts (.classLink RL 13 iaeN) (by decide +kernel), hNc⟩) (by decide) (by decide) (hts (.classLink RL 22 nsN) (by decide +kernel)) (hE.exc _ (by decide +kernel)) hce hcv hcl ?_
      show W _ _ _ _ _ _ _ _ _ _ _ _ _ _ _ (F0 m 19 ls [.ref q9])
      refine lv_astore (lv' := [(5, .ref q9), (0, .ref (ad 0)), (1, .int x), (2, .int i), (3, .int y), (4, .ref (ad 40))]) hx hb dL_put_19 hl (by decide) rfl (fun ls hl => ?_)
      refine lv_iconst (v := 2) hx hb dL_put_21 (by decide) ?_
      exact W.iret (v := 2) hx hb hr (fun t ht _ => ⟨⟨_, (pl, fo), rfl, Or.inr (Or.inr ⟨rfl, hph, rfl⟩), by rw [ht]; exact hP9, hD9⟩, hS.F ht⟩) hS.2.2 dL_put_22
  · obtain ⟨hP, hD⟩ := hB7
    rw [ht7] at hP
    refine lv_i2l hx hb dL_put_10 rfl ?_
    refine rw_lst hx hb hK hP hD hS 26 1 rfl rfl (j := 0) rfl (by decide) (by decide) (ws' := wC ci ad hf ft fk fp n mk sz u7 ++ (ad 40, .inl (ci 1, 1, .inr (.inl (vp_updL fo 0 r7.toInt64)))) :: F) rfl dL_put_11 (fun H locs hP hD hS => ?_)
    refine lv_goto (tgt := 23) hx hb dL_put_12 (by decide) ?_
    refine lv_iconst (v := 0) hx hb dL_put_23 (by decide) ?_
    exact W.iret (v := 0) hx hb hr (fun t ht _ => ⟨⟨_, (u7, vp_updL fo 0 r7.toInt64), rfl, Or.inl ⟨rfl, r7, rfl, hw7⟩, by rw [ht]; exact hP, hD⟩, hS.F ht⟩) hS.2.2 dL_put_24
set_option maxHeartbeats 1000000 in
set_option maxRecDepth 100000 in
theorem c_L_note (l : Launch) (D : va_G) (ci : Nat → ClassId) (ad : Nat → Nat) (z : Nat) (F : va_W) (hf : Nat → Nat) (ft : Nat → Int64) (fk : Nat → Int32) (fp : Nat → Int64) (n : Nat) (mk : Nat → Int32) (sz : Nat → Nat) (pl : Nat → Nat → Int64) (fo : Nat → Int64) (x i : Int32) (v : Int64) (hlt : l.stackTraces = false) (hHF : ∀ h, h < 8 → hf h < 10) (hSZ : ∀ i, i < 10 → sz i ≤ 40) (h9s : sz 9 = 0) (h9m : mk 9 = 6) (hN : n ≤ 60) (hKD : ∀ k, k < n → ∃ q, q < 3 ∧ fk k = nI q) : Met l yL_note wsL_note ({ frames := 8, cells := 1, slots := 6, locals := 140 }) (va_Pc [.ref (ad 0), .int x, .int i, .long v, .ref (ad 40)] (fun U => WD D ci ad z (wC ci ad hf ft fk fp n mk sz pl ++ (ad 40, .inl (ci 1, 1, .inr (.inl fo))) :: F) U ∧ va_Nc nsN iaeN U)) (va_Qi (fun (r : Int32) (u : (Nat → Nat → Int64) × (Nat → Int64)) => (r = 0 ∧ ∃ q : Int32, u.2 0 = q.toInt64 ∧ ∃ a f, a < 8 ∧ x = nI a ∧ u.1 = va_up pl (hf a) f ∧ noteP (mk (hf a)) (sz (hf a)) (pl (hf a)) i v q f) ∨ (r = 1 ∧ badH x ∧ u.1 = pl)) (fun u t => va_P D vwCl (wC ci ad hf ft fk fp n mk sz u.1 ++ (ad 40, .inl (ci 1, 1, .inr (.inl u.2))) :: F) t.heap ∧ va_D (LA z) (wC ci ad hf ft fk fp n mk sz u.1 ++ (ad 40, .inl (ci 1, 1, .inr (.inl u.2))) :: F)) (LA z)) 1 6 (LA z) := by
  refine va_MetW (cc := cL_note) (maxL := 7) (ret := (some .int)) (hh := [(0, 12, 15, 13)]) (by decide) rfl ?_
  intro p e s m args below meth c s₁ B hml hv
  obtain ⟨rfl, ⟨hP, hD, hK, hE⟩, hNc⟩ := hv
  have hx := B.exec
  have hb := B.bytes
  have hr := B.returns
  have hts := atoms_spec (ws := wsL_note) B.pre
  have hown : s.vm.findClass RL = some m.cls := findClass_of_methodNamed B.named
  have hlocks := B.notSynchronized
  have htab := vx_table (x := yL_note) B (hts _ List.mem_cons_self)
  have hS : va_S (LA z) s.heap s.heap [] := va_S.rf
  have hl := lv_entry ([.ref (ad 0), .int x, .int i, .long v, .ref (ad 40)]) (n := 7) (Nat.le_of_ble_eq_true rfl)
  rw [lg_entry_eq]
  generalize (lg_sl ([.ref (ad 0), .int x, .int i, .long v, .ref (ad 40)]) ++ List.replicate (7 - (lg_sl ([.ref (ad 0), .int x, .int i, .long v, .ref (ad 40)])).length) Slot.unset).toArray = ls at hl ⊢
  have hl : lv_has ls 7 [(0, .ref (ad 0)), (1, .int x), (2, .int i), (3, .long v), (5, .ref (ad 40))] := hl
  refine lv_aload hx hb dL_note_0 (lv_at hl 4 rfl) ?_
  refine lv_iconst (v := 0) hx hb dL_note_2 (by decide) ?_
  refine lv_aload_n hx hb dL_note_3 rfl (lv_at hl 0 rfl) ?_
  refine lv_iload_n hx hb dL_note_4 rfl (lv_at hl 1 rfl) ?_
  refine lv_iload_n hx hb dL_note_5 rfl (lv_at hl 2 rfl) ?_
  refine lv_lload_n hx hb dL_note_6 rfl (lv_at hl 3 rfl) ?_
  refine vx_calli (vx_runV (As := [.int x, .int i, .long v]) (rest := [.int 0, .ref (ad 40)]) ⟨hx, hb, hml, hown, hts⟩ (c_X1_note l D ci ad z ((ad 40, .inl (ci 1, 1, .inr (.inl fo))) :: F) hf ft fk fp n mk sz pl x i v hlt hHF hSZ h9s h9m hN hKD) (cwV 3 hts gL_note_X1_note rfl rfl rfl (by decide +kernel) ⟨Nat.le_of_ble_eq_true rfl, Nat.le_of_ble_eq_true rfl⟩) ⟨WD.fb, (va_recv hK hP (ci := 1) (q0 := 0) rfl rfl), fun U hU hW => ⟨rfl, WD.call hP hD hK hE hS hU hW⟩⟩ rfl rfl hl.1 rfl (lv_room (Nat.le_of_ble_eq_true rfl)) dL_note_7 ⟨Nat.le_of_ble_eq_true rfl, Nat.le_of_ble_eq_true rfl⟩) hS (fun q _ h => h) (fun q h => h) (fun q _ h => h) (fun E ce q9 u9 t9 H locs ht9 hvm9 hpx9 hBX hz9 hk9 hS hce hcv hcl => ?_) (fun r7 u7 t7 H locs ht7 hvm7 hw7 hB7 hz7 hk7 hS => ?_)
  · obtain ⟨hph, hP9, hD9⟩ := hBX
    rw [ht9] at hP9
    obtain ⟨rfl, hph⟩ := hph
    refine vx_catch (own := RL) (name := iaeN) hown [] ⟨0, 12, 15, 13⟩ [] htab (fun z hz => nomatch hz) (by decide) (by decide) (hts (.classLink RL 13 iaeN) (by decide +kernel)) (hE.exc _ (by decide +kernel)) hce hcv hcl ?_
    show W _ _ _ _ _ _ _ _ _ _ _ _ _ _ _ (F0 m 15 ls [.ref q9])
    refine lv_astore (lv' := [(6, .ref q9), (0, .ref (ad 0)), (1, .int x), (2, .int i), (3, .long v), (5, .ref (ad 40))]) hx hb dL_note_15 hl (by decide) rfl (fun ls hl => ?_)
    refine lv_iconst (v := 1) hx hb dL_note_17 (by decide) ?_
    exact W.iret (v := 1) hx hb hr (fun t ht _ => ⟨⟨_, (pl, fo), rfl, Or.inr ⟨rfl, hph, rfl⟩, by rw [ht]; exact hP9, hD9⟩, hS.F ht⟩) hS.2.2 dL_note_18
  · obtain ⟨hP, hD⟩ := hB7
    rw [ht7] at hP
    refine lv_i2l hx hb dL_note_10 rfl ?_
    refine rw_lst hx hb hK hP hD hS 26 1 rfl rfl (j := 0) rfl (by decide) (by decide) (ws' := wC ci ad hf ft fk fp n mk sz u7 ++ (ad 40, .inl (ci 1, 1, .inr (.inl (vp_updL fo 0 r7.toInt64)))) :: F) rfl dL_note_11 (fun H locs hP hD hS => ?_)
    refine lv_goto (tgt := 19) hx hb dL_note_12 (by decide) ?_
    refine lv_iconst (v := 0) hx hb dL_note_19 (by decide) ?_
    exact W.iret (v := 0) hx hb hr (fun t ht _ => ⟨⟨_, (u7, vp_updL fo 0 r7.toInt64), rfl, Or.inl ⟨rfl, r7, rfl, hw7⟩, by rw [ht]; exact hP, hD⟩, hS.F ht⟩) hS.2.2 dL_note_20
set_option maxHeartbeats 1000000 in
set_option maxRecDepth 100000 in
theorem c_L_copy (l : Launch) (D : va_G) (ci : Nat → ClassId) (ad : Nat → Nat) (z : Nat) (F : va_W) (hf : Nat → Nat) (ft : Nat → Int64) (fk : Nat → Int32) (fp : Nat → Int64) (n : Nat) (mk : Nat → Int32) (sz : Nat → Nat) (pl : Nat → Nat → Int64) (fo : Nat → Int64) (x i y j k : Int32) (hlt : l.stackTraces = false) (hHF : ∀ h, h < 8 → hf h < 10) (hSZ : ∀ i, i < 10 → sz i ≤ 40) (h9s : sz 9 = 0) (h9m : mk 9 = 6) (hN : n ≤ 60) (hKD : ∀ k, k < n → ∃ q, q < 3 ∧ fk k = nI q) : Met l yL_copy wsL_copy ({ frames := 8, cells := 2, slots := 12, locals := 140 }) (va_Pc [.ref (ad 0), .int x, .int i, .int y, .int j, .int k, .ref (ad 40)] (fun U => WD D ci ad z (wC ci ad hf ft fk fp n mk sz pl ++ (ad 40, .inl (ci 1, 1, .inr (.inl fo))) :: F) U ∧ va_Nc nsN iaeN U)) (va_Qi (fun (r : Int32) (u : ((Nat → Int64) × (Nat → Nat → Int64)) × (Nat → Int64)) => (r = 0 ∧ ∃ q : Int32, u.2 0 = q.toInt64 ∧ ∃ a b f, a < 8 ∧ b < 8 ∧ x = nI a ∧ y = nI b ∧ u.1.2 = va_up pl (hf b) f ∧ cpV (mk (hf a)) (mk (hf b)) (sz (hf a)) (sz (hf b)) (pl (hf a)) (pl (hf b)) fk n i j k q f) ∨ (r = 1 ∧ ((badH x ∨ badH y)) ∧ u.1.2 = pl)) (fun u t => va_P D vwCl (wC ci ad hf u.1.1 fk fp n mk sz u.1.2 ++ (ad 40, .inl (ci 1, 1, .inr (.inl u.2))) :: F) t.heap ∧ va_D (LA z) (wC ci ad hf u.1.1 fk fp n mk sz u.1.2 ++ (ad 40, .inl (ci 1, 1, .inr (.inl u.2))) :: F)) (LA z)) 2 12 (LA z) := by
  refine va_MetW (cc := cL_copy) (maxL := 8) (ret := (some .int)) (hh := [(0, 16, 19, 13)]) (by decide) rfl ?_
  intro p e s m args below meth c s₁ B hml hv
  obtain ⟨rfl, ⟨hP, hD, hK, hE⟩, hNc⟩ := hv
  have hx := B.exec
  have hb := B.bytes
  have hr := B.returns
  have hts := atoms_spec (ws := wsL_copy) B.pre
  have hown : s.vm.findClass RL = some m.cls := findClass_of_methodNamed B.named
  have hlocks := B.notSynchronized
  have htab := vx_table (x := yL_copy) B (hts _ List.mem_cons_self)
  have hS : va_S (LA z) s.heap s.heap [] := va_S.rf
  have hl := lv_entry ([.ref (ad 0), .int x, .int i, .int y, .int j, .int k, .ref (ad 40)]) (n := 8) (Nat.le_of_ble_eq_true rfl)
  rw [lg_entry_eq]
  generalize (lg_sl ([.ref (ad 0), .int x, .int i, .int y, .int j, .int k, .ref (ad 40)]) ++ List.replicate (8 - (lg_sl ([.ref (ad 0), .int x, .int i, .int y, .int j, .int k, .ref (ad 40)])).length) Slot.unset).toArray = ls at hl ⊢
  have hl : lv_has ls 8 [(0, .ref (ad 0)), (1, .int x), (2, .int i), (3, .int y), (4, .int j), (5, .int k), (6, .ref (ad 40))] := hl
  refine lv_aload hx hb dL_copy_0 (lv_at hl 6 rfl) ?_
  refine lv_iconst (v := 0) hx hb dL_copy_2 (by decide) ?_
  refine lv_aload_n hx hb dL_copy_3 rfl (lv_at hl 0 rfl) ?_
  refine lv_iload_n hx hb dL_copy_4 rfl (lv_at hl 1 rfl) ?_
  refine lv_iload_n hx hb dL_copy_5 rfl (lv_at hl 2 rfl) ?_
  refine lv_iload_n hx hb dL_copy_6 rfl (lv_at hl 3 rfl) ?_
  refine lv_iload hx hb dL_copy_7 (lv_at hl 4 rfl) ?_
  refine lv_iload hx hb dL_copy_9 (lv_at hl 5 rfl) ?_
  refine vx_calli (vx_runV (As := [.int x, .int i, .int y, .int j, .int k]) (rest := [.int 0, .ref (ad 40)]) ⟨hx, hb, hml, hown, hts⟩ (c_X1_copy l D ci ad z ((ad 40, .inl (ci 1, 1, .inr (.inl fo))) :: F) hf ft fk fp n mk sz pl x i y j k hlt hHF hSZ h9s h9m hN hKD) (cwV 5 hts gL_copy_X1_copy rfl rfl rfl (by decide +kernel) ⟨Nat.le_of_ble_eq_true rfl, Nat.le_of_ble_eq_true rfl⟩) ⟨WD.fb, (va_recv hK hP (ci := 1) (q0 := 0) rfl rfl), fun U hU hW => ⟨rfl, WD.call hP hD hK hE hS hU hW⟩⟩ rfl rfl hl.1 rfl (lv_room (Nat.le_of_ble_eq_true rfl)) dL_copy_11 ⟨Nat.le_of_ble_eq_true rfl, Nat.le_of_ble_eq_true rfl⟩) hS (fun q _ h => h) (fun q h => h) (fun q _ h => h) (fun E ce q9 u9 t9 H locs ht9 hvm9 hpx9 hBX hz9 hk9 hS hce hcv hcl => ?_) (fun r7 u7 t7 H locs ht7 hvm7 hw7 hB7 hz7 hk7 hS => ?_)
  · obtain ⟨hph, hP9, hD9⟩ := hBX
    rw [ht9] at hP9
    obtain ⟨rfl, hph⟩ := hph
    refine vx_catch (own := RL) (name := iaeN) hown [] ⟨0, 16, 19, 13⟩ [] htab (fun z hz => nomatch hz) (by decide) (by decide) (hts (.classLink RL 13 iaeN) (by decide +kernel)) (hE.exc _ (by decide +kernel)) hce hcv hcl ?_
    show W _ _ _ _ _ _ _ _ _ _ _ _ _ _ _ (F0 m 19 ls [.ref q9])
    refine lv_astore (lv' := [(7, .ref q9), (0, .ref (ad 0)), (1, .int x), (2, .int i), (3, .int y), (4, .int j), (5, .int k), (6, .ref (ad 40))]) hx hb dL_copy_19 hl (by decide) rfl (fun ls hl => ?_)
    refine lv_iconst (v := 1) hx hb dL_copy_21 (by decide) ?_
    exact W.iret (v := 1) hx hb hr (fun t ht _ => ⟨⟨_, ((ft, pl), fo), rfl, Or.inr ⟨rfl, hph, rfl⟩, by rw [ht]; exact hP9, hD9⟩, hS.F ht⟩) hS.2.2 dL_copy_22
  · obtain ⟨hP, hD⟩ := hB7
    rw [ht7] at hP
    refine lv_i2l hx hb dL_copy_14 rfl ?_
    refine rw_lst hx hb hK hP hD hS 26 1 rfl rfl (j := 0) rfl (by decide) (by decide) (ws' := wC ci ad hf u7.1 fk fp n mk sz u7.2 ++ (ad 40, .inl (ci 1, 1, .inr (.inl (vp_updL fo 0 r7.toInt64)))) :: F) rfl dL_copy_15 (fun H locs hP hD hS => ?_)
    refine lv_goto (tgt := 23) hx hb dL_copy_16 (by decide) ?_
    refine lv_iconst (v := 0) hx hb dL_copy_23 (by decide) ?_
    exact W.iret (v := 0) hx hb hr (fun t ht _ => ⟨⟨_, (u7, vp_updL fo 0 r7.toInt64), rfl, Or.inl ⟨rfl, r7, rfl, hw7⟩, by rw [ht]; exact hP, hD⟩, hS.F ht⟩) hS.2.2 dL_copy_24
set_option maxHeartbeats 1000000 in
set_option maxRecDepth 100000 in
theorem c_L_slide (l : Launch) (D : va_G) (ci : Nat → ClassId) (ad : Nat → Nat) (z : Nat) (F : va_W) (hf : Nat → Nat) (ft : Nat → Int64) (fk : Nat → Int32) (fp : Nat → Int64) (n : Nat) (mk : Nat → Int32) (sz : Nat → Nat) (pl : Nat → Nat → Int64) (fo : Nat → Int64) (x i k : Int32) (hlt : l.stackTraces = false) (hHF : ∀ h, h < 8 → hf h < 10) (hSZ : ∀ i, i < 10 → sz i ≤ 40) (h9s : sz 9 = 0) (h9m : mk 9 = 6) (hN : n ≤ 60) (hKD : ∀ k, k < n → ∃ q, q < 3 ∧ fk k = nI q) : Met l yL_slide wsL_slide ({ frames := 8, cells := 1, slots := 6, locals := 140 }) (va_Pc [.ref (ad 0), .int x, .int i, .int k, .ref (ad 40)] (fun U => WD D ci ad z (wC ci ad hf ft fk fp n mk sz pl ++ (ad 40, .inl (ci 1, 1, .inr (.inl fo))) :: F) U ∧ va_Nc nsN iaeN U)) (va_Qi (fun (r : Int32) (u : (Nat → Nat → Int64) × (Nat → Int64)) => (r = 0 ∧ ∃ q : Int32, u.2 0 = q.toInt64 ∧ ∃ a f, a < 8 ∧ x = nI a ∧ u.1 = va_up pl (hf a) f ∧ slideP (mk (hf a)) (sz (hf a)) (pl (hf a)) i k q f) ∨ (r = 1 ∧ badH x ∧ u.1 = pl)) (fun u t => va_P D vwCl (wC ci ad hf ft fk fp n mk sz u.1 ++ (ad 40, .inl (ci 1, 1, .inr (.inl u.2))) :: F) t.heap ∧ va_D (LA z) (wC ci ad hf ft fk fp n mk sz u.1 ++ (ad 40, .inl (ci 1, 1, .inr (.inl u.2))) :: F)) (LA z)) 1 6 (LA z) := by
  refine va_MetW (cc := cL_slide) (maxL := 6) (ret := (some .int)) (hh := [(0, 12, 15, 13)]) (by decide) rfl ?_
  intro p e s m args below meth c s₁ B hml hv
  obtain ⟨rfl, ⟨hP, hD, hK, hE⟩, hNc⟩ := hv
  have hx := B.exec
  have hb := B.bytes
  have hr := B.returns
  have hts := atoms_spec (ws := wsL_slide) B.pre
  have hown : s.vm.findClass RL = some m.cls := findClass_of_methodNamed B.named
  have hlocks := B.notSynchronized
  have htab := vx_table (x := yL_slide) B (hts _ List.mem_cons_self)
  have hS : va_S (LA z) s.heap s.heap [] := va_S.rf
  have hl := lv_entry ([.ref (ad 0), .int x, .int i, .int k, .ref (ad 40)]) (n := 6) (Nat.le_of_ble_eq_true rfl)
  rw [lg_entry_eq]
  generalize (lg_sl ([.ref (ad 0), .int x, .int i, .int k, .ref (ad 40)]) ++ List.replicate (6 - (lg_sl ([.ref (ad 0), .int x, .int i, .int k, .ref (ad 40)])).length) Slot.unset).toArray = ls at hl ⊢
  have hl : lv_has ls 6 [(0, .ref (ad 0)), (1, .int x), (2, .int i), (3, .int k), (4, .ref (ad 40))] := hl
  refine lv_aload hx hb dL_slide_0 (lv_at hl 4 rfl) ?_
  refine lv_iconst (v := 0) hx hb dL_slide_2 (by decide) ?_
  refine lv_aload_n hx hb dL_slide_3 rfl (lv_at hl 0 rfl) ?_
  refine lv_iload_n hx hb dL_slide_4 rfl (lv_at hl 1 rfl) ?_
  refine lv_iload_n hx hb dL_slide_5 rfl (lv_at hl 2 rfl) ?_
  refine lv_iload_n hx hb dL_slide_6 rfl (lv_at hl 3 rfl) ?_
  refine vx_calli (vx_runV (As := [.int x, .int i, .int k]) (rest := [.int 0, .ref (ad 40)]) ⟨hx, hb, hml, hown, hts⟩ (c_X1_slide l D ci ad z ((ad 40, .inl (ci 1, 1, .inr (.inl fo))) :: F) hf ft fk fp n mk sz pl x i k hlt hHF hSZ h9s h9m hN hKD) (cwV 3 hts gL_slide_X1_slide rfl rfl rfl (by decide +kernel) ⟨Nat.le_of_ble_eq_true rfl, Nat.le_of_ble_eq_true rfl⟩) ⟨WD.fb, (va_recv hK hP (ci := 1) (q0 := 0) rfl rfl), fun U hU hW => ⟨rfl, WD.call hP hD hK hE hS hU hW⟩⟩ rfl rfl hl.1 rfl (lv_room (Nat.le_of_ble_eq_true rfl)) dL_slide_7 ⟨Nat.le_of_ble_eq_true rfl, Nat.le_of_ble_eq_true rfl⟩) hS (fun q _ h => h) (fun q h => h) (fun q _ h => h) (fun E ce q9 u9 t9 H locs ht9 hvm9 hpx9 hBX hz9 hk9 hS hce hcv hcl => ?_) (fun r7 u7 t7 H locs ht7 hvm7 hw7 hB7 hz7 hk7 hS => ?_)
  · obtain ⟨hph, hP9, hD9⟩ := hBX
    rw [ht9] at hP9
    obtain ⟨rfl, hph⟩ := hph
    refine vx_catch (own := RL) (name := iaeN) hown [] ⟨0, 12, 15, 13⟩ [] htab (fun z hz => nomatch hz) (by decide) (by decide) (hts (.classLink RL 13 iaeN) (by decide +kernel)) (hE.exc _ (by decide +kernel)) hce hcv hcl ?_
    show W _ _ _ _ _ _ _ _ _ _ _ _ _ _ _ (F0 m 15 ls [.ref q9])
    refine lv_astore (lv' := [(5, .ref q9), (0, .ref (ad 0)), (1, .int x), (2, .int i), (3, .int k), (4, .ref (ad 40))]) hx hb dL_slide_15 hl (by decide) rfl (fun ls hl => ?_)
    refine lv_iconst (v := 1) hx hb dL_slide_17 (by decide) ?_
    exact W.iret (v := 1) hx hb hr (fun t ht _ => ⟨⟨_, (pl, fo), rfl, Or.inr ⟨rfl, hph, rfl⟩, by rw [ht]; exact hP9, hD9⟩, hS.F ht⟩) hS.2.2 dL_slide_18
  · obtain ⟨hP, hD⟩ := hB7
    rw [ht7] at hP
    refine lv_i2l hx hb dL_slide_10 rfl ?_
    refine rw_lst hx hb hK hP hD hS 26 1 rfl rfl (j := 0) rfl (by decide) (by decide) (ws' := wC ci ad hf ft fk fp n mk sz u7 ++ (ad 40, .inl (ci 1, 1, .inr (.inl (vp_updL fo 0 r7.toInt64)))) :: F) rfl dL_slide_11 (fun H locs hP hD hS => ?_)
    refine lv_goto (tgt := 19) hx hb dL_slide_12 (by decide) ?_
    refine lv_iconst (v := 0) hx hb dL_slide_19 (by decide) ?_
    exact W.iret (v := 0) hx hb hr (fun t ht _ => ⟨⟨_, (u7, vp_updL fo 0 r7.toInt64), rfl, Or.inl ⟨rfl, r7, rfl, hw7⟩, by rw [ht]; exact hP, hD⟩, hS.F ht⟩) hS.2.2 dL_slide_20
set_option maxHeartbeats 1000000 in
set_option maxRecDepth 100000 in
theorem c_L_turn (l : Launch) (D : va_G) (ci : Nat → ClassId) (ad : Nat → Nat) (z : Nat) (F : va_W) (hf : Nat → Nat) (ft : Nat → Int64) (fk : Nat → Int32) (fp : Nat → Int64) (n : Nat) (mk : Nat → Int32) (sz : Nat → Nat) (pl : Nat → Nat → Int64) (fo : Nat → Int64) (x k : Int32) (hlt : l.stackTraces = false) (hHF : ∀ h, h < 8 → hf h < 10) (hSZ : ∀ i, i < 10 → sz i ≤ 40) (h9s : sz 9 = 0) (h9m : mk 9 = 6) (hN : n ≤ 60) (hKD : ∀ k, k < n → ∃ q, q < 3 ∧ fk k = nI q) : Met l yL_turn wsL_turn ({ frames := 8, cells := 1, slots := 6, locals := 140 }) (va_Pc [.ref (ad 0), .int x, .int k, .ref (ad 40)] (fun U => WD D ci ad z (wC ci ad hf ft fk fp n mk sz pl ++ (ad 40, .inl (ci 1, 1, .inr (.inl fo))) :: F) U ∧ va_Nc nsN iaeN U)) (va_Qi (fun (r : Int32) (u : ((Nat → Int64) × (Nat → Nat → Int64)) × (Nat → Int64)) => (r = 0 ∧ ∃ q : Int32, u.2 0 = q.toInt64 ∧ ∃ a f, a < 8 ∧ x = nI a ∧ u.1.2 = va_up pl (hf a) f ∧ turnP (mk (hf a)) (sz (hf a)) (pl (hf a)) k q f) ∨ (r = 1 ∧ badH x ∧ u.1.2 = pl)) (fun u t => va_P D vwCl (wC ci ad hf u.1.1 fk fp n mk sz u.1.2 ++ (ad 40, .inl (ci 1, 1, .inr (.inl u.2))) :: F) t.heap ∧ va_D (LA z) (wC ci ad hf u.1.1 fk fp n mk sz u.1.2 ++ (ad 40, .inl (ci 1, 1, .inr (.inl u.2))) :: F)) (LA z)) 1 6 (LA z) := by
  refine va_MetW (cc := cL_turn) (maxL := 5) (ret := (some .int)) (hh := [(0, 10, 13, 13)]) (by decide) rfl ?_
  intro p e s m args below meth c s₁ B hml hv
  obtain ⟨rfl, ⟨hP, hD, hK, hE⟩, hNc⟩ := hv
  have hx := B.exec
  have hb := B.bytes
  have hr := B.returns
  have hts := atoms_spec (ws := wsL_turn) B.pre
  have hown : s.vm.findClass RL = some m.cls := findClass_of_methodNamed B.named
  have hlocks := B.notSynchronized
  have htab := vx_table (x := yL_turn) B (hts _ List.mem_cons_self)
  have hS : va_S (LA z) s.heap s.heap [] := va_S.rf
  have hl := lv_entry ([.ref (ad 0), .int x, .int k, .ref (ad 40)]) (n := 5) (Nat.le_of_ble_eq_true rfl)
  rw [lg_entry_eq]
  generalize (lg_sl ([.ref (ad 0), .int x, .int k, .ref (ad 40)]) ++ List.replicate (5 - (lg_sl ([.ref (ad 0), .int x, .int k, .ref (ad 40)])).length) Slot.unset).toArray = ls at hl ⊢
  have hl : lv_has ls 5 [(0, .ref (ad 0)), (1, .int x), (2, .int k), (3, .ref (ad 40))] := hl
  refine lv_aload_n hx hb dL_turn_0 rfl (lv_at hl 3 rfl) ?_
  refine lv_iconst (v := 0) hx hb dL_turn_1 (by decide) ?_
  refine lv_aload_n hx hb dL_turn_2 rfl (lv_at hl 0 rfl) ?_
  refine lv_iload_n hx hb dL_turn_3 rfl (lv_at hl 1 rfl) ?_
  refine lv_iload_n hx hb dL_turn_4 rfl (lv_at hl 2 rfl) ?_
  refine vx_calli (vx_runV (As := [.int x, .int k]) (rest := [.int 0, .ref (ad 40)]) ⟨hx, hb, hml, hown, hts⟩ (c_X1_turn l D ci ad z ((ad 40, .inl (ci 1, 1, .inr (.inl fo))) :: F) hf ft fk fp n mk sz pl x k hlt hHF hSZ h9s h9m hN hKD) (cwV 2 hts gL_turn_X1_turn rfl rfl rfl (by decide +kernel) ⟨Nat.le_of_ble_eq_true rfl, Nat.le_of_ble_eq_true rfl⟩) ⟨WD.fb, (va_recv hK hP (ci := 1) (q0 := 0) rfl rfl), fun U hU hW => ⟨rfl, WD.call hP hD hK hE hS hU hW⟩⟩ rfl rfl hl.1 rfl (lv_room (Nat.le_of_ble_eq_true rfl)) dL_turn_5 ⟨Nat.le_of_ble_eq_true rfl, Nat.le_of_ble_eq_true rfl⟩) hS (fun q _ h => h) (fun q h => h) (fun q _ h => h) (fun E ce q9 u9 t9 H locs ht9 hvm9 hpx9 hBX hz9 hk9 hS hce hcv hcl => ?_) (fun r7 u7 t7 H locs ht7 hvm7 hw7 hB7 hz7 hk7 hS => ?_)
  · obtain ⟨hph, hP9, hD9⟩ := hBX
    rw [ht9] at hP9
    obtain ⟨rfl, hph⟩ := hph
    refine vx_catch (own := RL) (name := iaeN) hown [] ⟨0, 10, 13, 13⟩ [] htab (fun z hz => nomatch hz) (by decide) (by decide) (hts (.classLink RL 13 iaeN) (by decide +kernel)) (hE.exc _ (by decide +kernel)) hce hcv hcl ?_
    show W _ _ _ _ _ _ _ _ _ _ _ _ _ _ _ (F0 m 13 ls [.ref q9])
    refine lv_astore (lv' := [(4, .ref q9), (0, .ref (ad 0)), (1, .int x), (2, .int k), (3, .ref (ad 40))]) hx hb dL_turn_13 hl (by decide) rfl (fun ls hl => ?_)
    refine lv_iconst (v := 1) hx hb dL_turn_15 (by decide) ?_
    exact W.iret (v := 1) hx hb hr (fun t ht _ => ⟨⟨_, ((ft, pl), fo), rfl, Or.inr ⟨rfl, hph, rfl⟩, by rw [ht]; exact hP9, hD9⟩, hS.F ht⟩) hS.2.2 dL_turn_16
  · obtain ⟨hP, hD⟩ := hB7
    rw [ht7] at hP
    refine lv_i2l hx hb dL_turn_8 rfl ?_
    refine rw_lst hx hb hK hP hD hS 26 1 rfl rfl (j := 0) rfl (by decide) (by decide) (ws' := wC ci ad hf u7.1 fk fp n mk sz u7.2 ++ (ad 40, .inl (ci 1, 1, .inr (.inl (vp_updL fo 0 r7.toInt64)))) :: F) rfl dL_turn_9 (fun H locs hP hD hS => ?_)
    refine lv_goto (tgt := 17) hx hb dL_turn_10 (by decide) ?_
    refine lv_iconst (v := 0) hx hb dL_turn_17 (by decide) ?_
    exact W.iret (v := 0) hx hb hr (fun t ht _ => ⟨⟨_, (u7, vp_updL fo 0 r7.toInt64), rfl, Or.inl ⟨rfl, r7, rfl, hw7⟩, by rw [ht]; exact hP, hD⟩, hS.F ht⟩) hS.2.2 dL_turn_18
set_option maxHeartbeats 1000000 in
set_option maxRecDepth 100000 in
theorem c_L_join (l : Launch) (D : va_G) (ci : Nat → ClassId) (ad : Nat → Nat) (z : Nat) (F : va_W) (hf : Nat → Nat) (ft : Nat → Int64) (fk : Nat → Int32) (fp : Nat → Int64) (n : Nat) (mk : Nat → Int32) (sz : Nat → Nat) (pl : Nat → Nat → Int64) (fo : Nat → Int64) (x y t : Int32) (hlt : l.stackTraces = false) (hHF : ∀ h, h < 8 → hf h < 10) (hSZ : ∀ i, i < 10 → sz i ≤ 40) (h9s : sz 9 = 0) (h9m : mk 9 = 6) (hN : n ≤ 60) (hKD : ∀ k, k < n → ∃ q, q < 3 ∧ fk k = nI q) : Met l yL_join wsL_join ({ frames := 8, cells := 3, slots := 18, locals := 140 }) (va_Pc [.ref (ad 0), .int x, .int y, .int t, .ref (ad 40)] (fun U => WD D ci ad z (wC ci ad hf ft fk fp n mk sz pl ++ (ad 40, .inl (ci 1, 1, .inr (.inl fo))) :: F) U ∧ va_Nc nsN iaeN U)) (va_Qi (fun (r : Int32) (u : ((Nat → Int64) × (Nat → Nat → Int64)) × (Nat → Int64)) => (r = 0 ∧ ∃ q : Int32, u.2 0 = q.toInt64 ∧ ∃ a b d f1 r1, a < 8 ∧ b < 8 ∧ d < 8 ∧ x = nI a ∧ y = nI b ∧ t = nI d ∧ cpV (mk (hf a)) (mk (hf d)) (sz (hf a)) (sz (hf d)) (pl (hf a)) (pl (hf d)) fk n 0 0 (nI (sz (hf a))) r1 f1 ∧ ((¬ r1 = 0 ∧ q = r1 ∧ u.1.2 = va_up pl (hf d) f1) ∨ (r1 = 0 ∧ ∃ f2, u.1.2 = va_up (va_up pl (hf d) f1) (hf d) f2 ∧ cpV (mk (hf b)) (mk (hf d)) (sz (hf b)) (sz (hf d)) (va_up pl (hf d) f1 (hf b)) (va_up pl (hf d) f1 (hf d)) fk n 0 (nI (sz (hf a))) (nI (sz (hf b))) q f2))) ∨ (r = 1 ∧ ((badH x ∨ badH y ∨ badH t)) ∧ u.1.2 = pl)) (fun u t => va_P D vwCl (wC ci ad hf u.1.1 fk fp n mk sz u.1.2 ++ (ad 40, .inl (ci 1, 1, .inr (.inl u.2))) :: F) t.heap ∧ va_D (LA z) (wC ci ad hf u.1.1 fk fp n mk sz u.1.2 ++ (ad 40, .inl (ci 1, 1, .inr (.inl u.2))) :: F)) (LA z)) 3 18 (LA z) := by
  refine va_MetW (cc := cL_join) (maxL := 6) (ret := (some .int)) (hh := [(0, 12, 15, 13)]) (by decide) rfl ?_
  intro p e s m args below meth c s₁ B hml hv
  obtain ⟨rfl, ⟨hP, hD, hK, hE⟩, hNc⟩ := hv
  have hx := B.exec
  have hb := B.bytes
  have hr := B.returns
  have hts := atoms_spec (ws := wsL_join) B.pre
  have hown : s.vm.findClass RL = some m.cls := findClass_of_methodNamed B.named
  have hlocks := B.notSynchronized
  have htab := vx_table (x := yL_join) B (hts _ List.mem_cons_self)
  have hS : va_S (LA z) s.heap s.heap [] := va_S.rf
  have hl := lv_entry ([.ref (ad 0), .int x, .int y, .int t, .ref (ad 40)]) (n := 6) (Nat.le_of_ble_eq_true rfl)
  rw [lg_entry_eq]
  generalize (lg_sl ([.ref (ad 0), .int x, .int y, .int t, .ref (ad 40)]) ++ List.replicate (6 - (lg_sl ([.ref (ad 0), .int x, .int y, .int t, .ref (ad 40)])).length) Slot.unset).toArray = ls at hl ⊢
  have hl : lv_has ls 6 [(0, .ref (ad 0)), (1, .int x), (2, .int y), (3, .int t), (4, .ref (ad 40))] := hl
  refine lv_aload hx hb dL_join_0 (lv_at hl 4 rfl) ?_
  refine lv_iconst (v := 0) hx hb dL_join_2 (by decide) ?_
  refine lv_aload_n hx hb dL_join_3 rfl (lv_at hl 0 rfl) ?_
  refine lv_iload_n hx hb dL_join_4 rfl (lv_at hl 1 rfl) ?_
  refine lv_iload_n hx hb dL_join_5 rfl (lv_at hl 2 rfl) ?_
  refine lv_iload_n hx hb dL_join_6 rfl (lv_at hl 3 rfl) ?_
  refine vx_calli (vx_runV (As := [.int x, .int y, .int t]) (rest := [.int 0, .ref (ad 40)]) ⟨hx, hb, hml, hown, hts⟩ (c_X1_join l D ci ad z ((ad 40, .inl (ci 1, 1, .inr (.inl fo))) :: F) hf ft fk fp n mk sz pl x y t hlt hHF hSZ h9s h9m hN hKD) (cwV 3 hts gL_join_X1_join rfl rfl rfl (by decide +kernel) ⟨Nat.le_of_ble_eq_true rfl, Nat.le_of_ble_eq_true rfl⟩) ⟨WD.fb, (va_recv hK hP (ci := 1) (q0 := 0) rfl rfl), fun U hU hW => ⟨rfl, WD.call hP hD hK hE hS hU hW⟩⟩ rfl rfl hl.1 rfl (lv_room (Nat.le_of_ble_eq_true rfl)) dL_join_7 ⟨Nat.le_of_ble_eq_true rfl, Nat.le_of_ble_eq_true rfl⟩) hS (fun q _ h => h) (fun q h => h) (fun q _ h => h) (fun E ce q9 u9 t9 H locs ht9 hvm9 hpx9 hBX hz9 hk9 hS hce hcv hcl => ?_) (fun r7 u7 t7 H locs ht7 hvm7 hw7 hB7 hz7 hk7 hS => ?_)
  · obtain ⟨hph, hP9, hD9⟩ := hBX
    rw [ht9] at hP9
    obtain ⟨rfl, hph⟩ := hph
    refine vx_catch (own := RL) (name := iaeN) hown [] ⟨0, 12, 15, 13⟩ [] htab (fun z hz => nomatch hz) (by decide) (by decide) (hts (.classLink RL 13 iaeN) (by decide +kernel)) (hE.exc _ (by decide +kernel)) hce hcv hcl ?_
    show W _ _ _ _ _ _ _ _ _ _ _ _ _ _ _ (F0 m 15 ls [.ref q9])
    refine lv_astore (lv' := [(5, .ref q9), (0, .ref (ad 0)), (1, .int x), (2, .int y), (3, .int t), (4, .ref (ad 40))]) hx hb dL_join_15 hl (by decide) rfl (fun ls hl => ?_)
    refine lv_iconst (v := 1) hx hb dL_join_17 (by decide) ?_
    exact W.iret (v := 1) hx hb hr (fun t ht _ => ⟨⟨_, ((ft, pl), fo), rfl, Or.inr ⟨rfl, hph, rfl⟩, by rw [ht]; exact hP9, hD9⟩, hS.F ht⟩) hS.2.2 dL_join_18
  · obtain ⟨hP, hD⟩ := hB7
    rw [ht7] at hP
    refine lv_i2l hx hb dL_join_10 rfl ?_
    refine rw_lst hx hb hK hP hD hS 26 1 rfl rfl (j := 0) rfl (by decide) (by decide) (ws' := wC ci ad hf u7.1 fk fp n mk sz u7.2 ++ (ad 40, .inl (ci 1, 1, .inr (.inl (vp_updL fo 0 r7.toInt64)))) :: F) rfl dL_join_11 (fun H locs hP hD hS => ?_)
    refine lv_goto (tgt := 19) hx hb dL_join_12 (by decide) ?_
    refine lv_iconst (v := 0) hx hb dL_join_19 (by decide) ?_
    exact W.iret (v := 0) hx hb hr (fun t ht _ => ⟨⟨_, (u7, vp_updL fo 0 r7.toInt64), rfl, Or.inl ⟨rfl, r7, rfl, hw7⟩, by rw [ht]; exact hP, hD⟩, hS.F ht⟩) hS.2.2 dL_join_20
set_option maxHeartbeats 1000000 in
set_option maxRecDepth 100000 in
theorem c_L_pay (l : Launch) (D : va_G) (ci : Nat → ClassId) (ad : Nat → Nat) (z : Nat) (F : va_W) (hf : Nat → Nat) (ft : Nat → Int64) (fk : Nat → Int32) (fp : Nat → Int64) (n : Nat) (mk : Nat → Int32) (sz : Nat → Nat) (pl : Nat → Nat → Int64) (fo : Nat → Int64) (x y t : Int32) (hlt : l.stackTraces = false) (hHF : ∀ h, h < 8 → hf h < 10) (hSZ : ∀ i, i < 10 → sz i ≤ 40) (h9s : sz 9 = 0) (h9m : mk 9 = 6) (hN : n ≤ 60) (hKD : ∀ k, k < n → ∃ q, q < 3 ∧ fk k = nI q) : Met l yL_pay wsL_pay ({ frames := 8, cells := 3, slots := 18, locals := 140 }) (va_Pc [.ref (ad 0), .int x, .int y, .int t, .ref (ad 40)] (fun U => WD D ci ad z (wC ci ad hf ft fk fp n mk sz pl ++ (ad 40, .inl (ci 1, 1, .inr (.inl fo))) :: F) U ∧ va_Nc nsN iaeN U)) (va_Qi (fun (r : Int32) (u : (Nat → Int64) × (Nat → Int64)) => (r = 0 ∧ ∃ q : Int32, u.2 0 = q.toInt64 ∧ ∃ a b d, a < 8 ∧ b < 8 ∧ d < 8 ∧ x = nI a ∧ y = nI b ∧ t = nI d ∧ payP (mk (hf a)) (mk (hf b)) (mk (hf d)) (sz (hf a)) (sz (hf b)) (sz (hf d)) (pl (hf a)) (pl (hf b)) (pl (hf d)) fk n fp q u.1) ∨ (r = 1 ∧ ((badH x ∨ badH y ∨ badH t)) ∧ u.1 = fp)) (fun u t => va_P D vwCl (wC ci ad hf ft fk u.1 n mk sz pl ++ (ad 40, .inl (ci 1, 1, .inr (.inl u.2))) :: F) t.heap ∧ va_D (LA z) (wC ci ad hf ft fk u.1 n mk sz pl ++ (ad 40, .inl (ci 1, 1, .inr (.inl u.2))) :: F)) (LA z)) 3 18 (LA z) := by
  refine va_MetW (cc := cL_pay) (maxL := 6) (ret := (some .int)) (hh := [(0, 12, 15, 13)]) (by decide) rfl ?_
  intro p e s m args below meth c s₁ B hml hv
  obtain ⟨rfl, ⟨hP, hD, hK, hE⟩, hNc⟩ := hv
  have hx := B.exec
  have hb := B.bytes
  have hr := B.returns
  have hts := atoms_spec (ws := wsL_pay) B.pre
  have hown : s.vm.findClass RL = some m.cls := findClass_of_methodNamed B.named
  have hlocks := B.notSynchronized
  have htab := vx_table (x := yL_pay) B (hts _ List.mem_cons_self)
  have hS : va_S (LA z) s.heap s.heap [] := va_S.rf
  have hl := lv_entry ([.ref (ad 0), .int x, .int y, .int t, .ref (ad 40)]) (n := 6) (Nat.le_of_ble_eq_true rfl)
  rw [lg_entry_eq]
  generalize (lg_sl ([.ref (ad 0), .int x, .int y, .int t, .ref (ad 40)]) ++ List.replicate (6 - (lg_sl ([.ref (ad 0), .int x, .int y, .int t, .ref (ad 40)])).length) Slot.unset).toArray = ls at hl ⊢
  have hl : lv_has ls 6 [(0, .ref (ad 0)), (1, .int x), (2, .int y), (3, .int t), (4, .ref (ad 40))] := hl
  refine lv_aload hx hb dL_pay_0 (lv_at hl 4 rfl) ?_
  refine lv_iconst (v := 0) hx hb dL_pay_2 (by decide) ?_
  refine lv_aload_n hx hb dL_pay_3 rfl (lv_at hl 0 rfl) ?_
  refine lv_iload_n hx hb dL_pay_4 rfl (lv_at hl 1 rfl) ?_
  refine lv_iload_n hx hb dL_pay_5 rfl (lv_at hl 2 rfl) ?_
  refine lv_iload_n hx hb dL_pay_6 rfl (lv_at hl 3 rfl) ?_
  refine vx_calli (vx_runV (As := [.int x, .int y, .int t]) (rest := [.int 0, .ref (ad 40)]) ⟨hx, hb, hml, hown, hts⟩ (c_X1_pay l D ci ad z ((ad 40, .inl (ci 1, 1, .inr (.inl fo))) :: F) hf ft fk fp n mk sz pl x y t hlt hHF hSZ h9s h9m hN hKD) (cwV 3 hts gL_pay_X1_pay rfl rfl rfl (by decide +kernel) ⟨Nat.le_of_ble_eq_true rfl, Nat.le_of_ble_eq_true rfl⟩) ⟨WD.fb, (va_recv hK hP (ci := 1) (q0 := 0) rfl rfl), fun U hU hW => ⟨rfl, WD.call hP hD hK hE hS hU hW⟩⟩ rfl rfl hl.1 rfl (lv_room (Nat.le_of_ble_eq_true rfl)) dL_pay_7 ⟨Nat.le_of_ble_eq_true rfl, Nat.le_of_ble_eq_true rfl⟩) hS (fun q _ h => h) (fun q h => h) (fun q _ h => h) (fun E ce q9 u9 t9 H locs ht9 hvm9 hpx9 hBX hz9 hk9 hS hce hcv hcl => ?_) (fun r7 u7 t7 H locs ht7 hvm7 hw7 hB7 hz7 hk7 hS => ?_)
  · obtain ⟨hph, hP9, hD9⟩ := hBX
    rw [ht9] at hP9
    obtain ⟨rfl, hph⟩ := hph
    refine vx_catch (own := RL) (name := iaeN) hown [] ⟨0, 12, 15, 13⟩ [] htab (fun z hz => nomatch hz) (by decide) (by decide) (hts (.classLink RL 13 iaeN) (by decide +kernel)) (hE.exc _ (by decide +kernel)) hce hcv hcl ?_
    show W _ _ _ _ _ _ _ _ _ _ _ _ _ _ _ (F0 m 15 ls [.ref q9])
    refine lv_astore (lv' := [(5, .ref q9), (0, .ref (ad 0)), (1, .int x), (2, .int y), (3, .int t), (4, .ref (ad 40))]) hx hb dL_pay_15 hl (by decide) rfl (fun ls hl => ?_)
    refine lv_iconst (v := 1) hx hb dL_pay_17 (by decide) ?_
    exact W.iret (v := 1) hx hb hr (fun t ht _ => ⟨⟨_, (fp, fo), rfl, Or.inr ⟨rfl, hph, rfl⟩, by rw [ht]; exact hP9, hD9⟩, hS.F ht⟩) hS.2.2 dL_pay_18
  · obtain ⟨hP, hD⟩ := hB7
    rw [ht7] at hP
    refine lv_i2l hx hb dL_pay_10 rfl ?_
    refine rw_lst hx hb hK hP hD hS 26 1 rfl rfl (j := 0) rfl (by decide) (by decide) (ws' := wC ci ad hf ft fk u7 n mk sz pl ++ (ad 40, .inl (ci 1, 1, .inr (.inl (vp_updL fo 0 r7.toInt64)))) :: F) rfl dL_pay_11 (fun H locs hP hD hS => ?_)
    refine lv_goto (tgt := 19) hx hb dL_pay_12 (by decide) ?_
    refine lv_iconst (v := 0) hx hb dL_pay_19 (by decide) ?_
    exact W.iret (v := 0) hx hb hr (fun t ht _ => ⟨⟨_, (u7, vp_updL fo 0 r7.toInt64), rfl, Or.inl ⟨rfl, r7, rfl, hw7⟩, by rw [ht]; exact hP, hD⟩, hS.F ht⟩) hS.2.2 dL_pay_20
set_option maxHeartbeats 1000000 in
set_option maxRecDepth 100000 in
theorem c_L_look (l : Launch) (D : va_G) (ci : Nat → ClassId) (ad : Nat → Nat) (z : Nat) (F : va_W) (hf : Nat → Nat) (ft : Nat → Int64) (fk : Nat → Int32) (fp : Nat → Int64) (n : Nat) (mk : Nat → Int32) (sz : Nat → Nat) (pl : Nat → Nat → Int64) (fo : Nat → Int64) (x w : Int32) (hlt : l.stackTraces = false) (hHF : ∀ h, h < 8 → hf h < 10) (hSZ : ∀ i, i < 10 → sz i ≤ 40) (h9s : sz 9 = 0) (h9m : mk 9 = 6) (hN : n ≤ 60) (hKD : ∀ k, k < n → ∃ q, q < 3 ∧ fk k = nI q) : Met l yL_look wsL_look ({ frames := 8, cells := 1, slots := 6, locals := 140 }) (va_Pc [.ref (ad 0), .int x, .int w, .ref (ad 40)] (fun U => WD D ci ad z (wC ci ad hf ft fk fp n mk sz pl ++ (ad 40, .inl (ci 1, 1, .inr (.inl fo))) :: F) U ∧ va_Nc nsN iaeN U)) (va_Qi (fun (r : Int32) (u : (Unit) × (Nat → Int64)) => (r = 0 ∧ ∃ q : Int32, u.2 0 = q.toInt64 ∧ ∃ a, a < 8 ∧ x = nI a ∧ lookP (mk (hf a)) (sz (hf a)) hf a w q) ∨ (r = 1 ∧ badH x)) (fun u t => va_P D vwCl (wC ci ad hf ft fk fp n mk sz pl ++ (ad 40, .inl (ci 1, 1, .inr (.inl u.2))) :: F) t.heap ∧ va_D (LA z) (wC ci ad hf ft fk fp n mk sz pl ++ (ad 40, .inl (ci 1, 1, .inr (.inl u.2))) :: F)) (LA z)) 1 6 (LA z) := by
  refine va_MetW (cc := cL_look) (maxL := 5) (ret := (some .int)) (hh := [(0, 10, 13, 13)]) (by decide) rfl ?_
  intro p e s m args below meth c s₁ B hml hv
  obtain ⟨rfl, ⟨hP, hD, hK, hE⟩, hNc⟩ := hv
  have hx := B.exec
  have hb := B.bytes
  have hr := B.returns
  have hts := atoms_spec (ws := wsL_look) B.pre
  have hown : s.vm.findClass RL = some m.cls := findClass_of_methodNamed B.named
  have hlocks := B.notSynchronized
  have htab := vx_table (x := yL_look) B (hts _ List.mem_cons_self)
  have hS : va_S (LA z) s.heap s.heap [] := va_S.rf
  have hl := lv_entry ([.ref (ad 0), .int x, .int w, .ref (ad 40)]) (n := 5) (Nat.le_of_ble_eq_true rfl)
  rw [lg_entry_eq]
  generalize (lg_sl ([.ref (ad 0), .int x, .int w, .ref (ad 40)]) ++ List.replicate (5 - (lg_sl ([.ref (ad 0), .int x, .int w, .ref (ad 40)])).length) Slot.unset).toArray = ls at hl ⊢
  have hl : lv_has ls 5 [(0, .ref (ad 0)), (1, .int x), (2, .int w), (3, .ref (ad 40))] := hl
  refine lv_aload_n hx hb dL_look_0 rfl (lv_at hl 3 rfl) ?_
  refine lv_iconst (v := 0) hx hb dL_look_1 (by decide) ?_
  refine lv_aload_n hx hb dL_look_2 rfl (lv_at hl 0 rfl) ?_
  refine lv_iload_n hx hb dL_look_3 rfl (lv_at hl 1 rfl) ?_
  refine lv_iload_n hx hb dL_look_4 rfl (lv_at hl 2 rfl) ?_
  refine vx_calli (vx_runV (As := [.int x, .int w]) (rest := [.int 0, .ref (ad 40)]) ⟨hx, hb, hml, hown, hts⟩ (c_X1_look l D ci ad z ((ad 40, .inl (ci 1, 1, .inr (.inl fo))) :: F) hf ft fk fp n mk sz pl x w hlt hHF hSZ h9s h9m hN hKD) (cwV 2 hts gL_look_X1_look rfl rfl rfl (by decide +kernel) ⟨Nat.le_of_ble_eq_true rfl, Nat.le_of_ble_eq_true rfl⟩) ⟨WD.fb, (va_recv hK hP (ci := 1) (q0 := 0) rfl rfl), fun U hU hW => ⟨rfl, WD.call hP hD hK hE hS hU hW⟩⟩ rfl rfl hl.1 rfl (lv_room (Nat.le_of_ble_eq_true rfl)) dL_look_5 ⟨Nat.le_of_ble_eq_true rfl, Nat.le_of_ble_eq_true rfl⟩) hS (fun q _ h => h) (fun q h => h) (fun q _ h => h) (fun E ce q9 u9 t9 H locs ht9 hvm9 hpx9 hBX hz9 hk9 hS hce hcv hcl => ?_) (fun r7 u7 t7 H locs ht7 hvm7 hw7 hB7 hz7 hk7 hS => ?_)
  · obtain ⟨hph, hP9, hD9⟩ := hBX
    rw [ht9] at hP9
    obtain ⟨rfl, hph⟩ := hph
    refine vx_catch (own := RL) (name := iaeN) hown [] ⟨0, 10, 13, 13⟩ [] htab (fun z hz => nomatch hz) (by decide) (by decide) (hts (.classLink RL 13 iaeN) (by decide +kernel)) (hE.exc _ (by decide +kernel)) hce hcv hcl ?_
    show W _ _ _ _ _ _ _ _ _ _ _ _ _ _ _ (F0 m 13 ls [.ref q9])
    refine lv_astore (lv' := [(4, .ref q9), (0, .ref (ad 0)), (1, .int x), (2, .int w), (3, .ref (ad 40))]) hx hb dL_look_13 hl (by decide) rfl (fun ls hl => ?_)
    refine lv_iconst (v := 1) hx hb dL_look_15 (by decide) ?_
    exact W.iret (v := 1) hx hb hr (fun t ht _ => ⟨⟨_, ((), fo), rfl, Or.inr ⟨rfl, hph⟩, by rw [ht]; exact hP9, hD9⟩, hS.F ht⟩) hS.2.2 dL_look_16
  · obtain ⟨hP, hD⟩ := hB7
    rw [ht7] at hP
    refine lv_i2l hx hb dL_look_8 rfl ?_
    refine rw_lst hx hb hK hP hD hS 26 1 rfl rfl (j := 0) rfl (by decide) (by decide) (ws' := wC ci ad hf ft fk fp n mk sz pl ++ (ad 40, .inl (ci 1, 1, .inr (.inl (vp_updL fo 0 r7.toInt64)))) :: F) rfl dL_look_9 (fun H locs hP hD hS => ?_)
    refine lv_goto (tgt := 17) hx hb dL_look_10 (by decide) ?_
    refine lv_iconst (v := 0) hx hb dL_look_17 (by decide) ?_
    exact W.iret (v := 0) hx hb hr (fun t ht _ => ⟨⟨_, (u7, vp_updL fo 0 r7.toInt64), rfl, Or.inl ⟨rfl, r7, rfl, hw7⟩, by rw [ht]; exact hP, hD⟩, hS.F ht⟩) hS.2.2 dL_look_18
set_option maxHeartbeats 1000000 in
set_option maxRecDepth 100000 in
theorem c_L_at (l : Launch) (D : va_G) (ci : Nat → ClassId) (ad : Nat → Nat) (z : Nat) (F : va_W) (hf : Nat → Nat) (ft : Nat → Int64) (fk : Nat → Int32) (fp : Nat → Int64) (n : Nat) (mk : Nat → Int32) (sz : Nat → Nat) (pl : Nat → Nat → Int64) (fo : Nat → Int64) (x i : Int32) (hlt : l.stackTraces = false) (hHF : ∀ h, h < 8 → hf h < 10) (hSZ : ∀ i, i < 10 → sz i ≤ 40) (h9s : sz 9 = 0) (h9m : mk 9 = 6) (hN : n ≤ 60) (hKD : ∀ k, k < n → ∃ q, q < 3 ∧ fk k = nI q) : Met l yL_at wsL_at ({ frames := 8, cells := 2, slots := 12, locals := 140 }) (va_Pc [.ref (ad 0), .int x, .int i, .ref (ad 40)] (fun U => WD D ci ad z (wC ci ad hf ft fk fp n mk sz pl ++ (ad 40, .inl (ci 1, 1, .inr (.inl fo))) :: F) U ∧ va_Nc nsN iaeN U)) (va_Qi (fun (r : Int32) (u : (Unit) × (Nat → Int64)) => (r = 0 ∧ ∃ q : Int64, u.2 0 = q ∧ ∃ a k, a < 8 ∧ x = nI a ∧ mk (hf a) ≤ 4 ∧ k < sz (hf a) ∧ i = nI k ∧ q = pl (hf a) k) ∨ (r = 1 ∧ badH x) ∨ (r = 2 ∧ (∃ a, a < 8 ∧ x = nI a ∧ (¬ mk (hf a) ≤ 4 ∨ i < 0 ∨ nI (sz (hf a)) ≤ i)))) (fun u t => va_P D vwCl (wC ci ad hf ft fk fp n mk sz pl ++ (ad 40, .inl (ci 1, 1, .inr (.inl u.2))) :: F) t.heap ∧ va_D (LA z) (wC ci ad hf ft fk fp n mk sz pl ++ (ad 40, .inl (ci 1, 1, .inr (.inl u.2))) :: F)) (LA z)) 2 12 (LA z) := by
  refine va_MetW (cc := cL_at) (maxL := 5) (ret := (some .int)) (hh := [(0, 9, 12, 13), (0, 9, 16, 22)]) (by decide) rfl ?_
  intro p e s m args below meth c s₁ B hml hv
  obtain ⟨rfl, ⟨hP, hD, hK, hE⟩, hNc⟩ := hv
  have hx := B.exec
  have hb := B.bytes
  have hr := B.returns
  have hts := atoms_spec (ws := wsL_at) B.pre
  have hown : s.vm.findClass RL = some m.cls := findClass_of_methodNamed B.named
  have hlocks := B.notSynchronized
  have htab := vx_table (x := yL_at) B (hts _ List.mem_cons_self)
  have hS : va_S (LA z) s.heap s.heap [] := va_S.rf
  have hl := lv_entry ([.ref (ad 0), .int x, .int i, .ref (ad 40)]) (n := 5) (Nat.le_of_ble_eq_true rfl)
  rw [lg_entry_eq]
  generalize (lg_sl ([.ref (ad 0), .int x, .int i, .ref (ad 40)]) ++ List.replicate (5 - (lg_sl ([.ref (ad 0), .int x, .int i, .ref (ad 40)])).length) Slot.unset).toArray = ls at hl ⊢
  have hl : lv_has ls 5 [(0, .ref (ad 0)), (1, .int x), (2, .int i), (3, .ref (ad 40))] := hl
  refine lv_aload_n hx hb dL_at_0 rfl (lv_at hl 3 rfl) ?_
  refine lv_iconst (v := 0) hx hb dL_at_1 (by decide) ?_
  refine lv_aload_n hx hb dL_at_2 rfl (lv_at hl 0 rfl) ?_
  refine lv_iload_n hx hb dL_at_3 rfl (lv_at hl 1 rfl) ?_
  refine lv_iload_n hx hb dL_at_4 rfl (lv_at hl 2 rfl) ?_
  refine vx_calll (vx_runV (As := [.int x, .int i]) (rest := [.int 0, .ref (ad 40)]) ⟨hx, hb, hml, hown, hts⟩ (c_X1_at l D ci ad z ((ad 40, .inl (ci 1, 1, .inr (.inl fo))) :: F) hf ft fk fp n mk sz pl x i hlt hHF hSZ h9s h9m hN hKD) (cwV 2 hts gL_at_X1_at rfl rfl rfl (by decide +kernel) ⟨Nat.le_of_ble_eq_true rfl, Nat.le_of_ble_eq_true rfl⟩) ⟨WD.fb, (va_recv hK hP (ci := 1) (q0 := 0) rfl rfl), fun U hU hW => ⟨rfl, WD.call hP hD hK hE hS hU hW⟩⟩ rfl rfl hl.1 rfl (lv_room (Nat.le_of_ble_eq_true rfl)) dL_at_5 ⟨Nat.le_of_ble_eq_true rfl, Nat.le_of_ble_eq_true rfl⟩) hS (fun q _ h => h) (fun q h => h) (fun q _ h => h) (fun E ce q9 u9 t9 H locs ht9 hvm9 hpx9 hBX hz9 hk9 hS hce hcv hcl => ?_) (fun r7 u7 t7 H locs ht7 hvm7 hw7 hB7 hz7 hk7 hS => ?_)
  · obtain ⟨hph, hP9, hD9⟩ := hBX
    rw [ht9] at hP9
    rcases hph with ⟨rfl, hph⟩ | ⟨rfl, hph⟩
    · refine vx_catch (own := RL) (name := iaeN) hown [] ⟨0, 9, 12, 13⟩ [⟨0, 9, 16, 22⟩] htab (fun z hz => nomatch hz) (by decide) (by decide) (hts (.classLink RL 13 iaeN) (by decide +kernel)) (hE.exc _ (by decide +kernel)) hce hcv hcl ?_
      show W _ _ _ _ _ _ _ _ _ _ _ _ _ _ _ (F0 m 12 ls [.ref q9])
      refine lv_astore (lv' := [(4, .ref q9), (0, .ref (ad 0)), (1, .int x), (2, .int i), (3, .ref (ad 40))]) hx hb dL_at_12 hl (by decide) rfl (fun ls hl => ?_)
      refine lv_iconst (v := 1) hx hb dL_at_14 (by decide) ?_
      exact W.iret (v := 1) hx hb hr (fun t ht _ => ⟨⟨_, ((), fo), rfl, Or.inr (Or.inl ⟨rfl, hph⟩), by rw [ht]; exact hP9, hD9⟩, hS.F ht⟩) hS.2.2 dL_at_15
    · refine vx_catch (own := RL) (name := nsN) hown [⟨0, 9, 12, 13⟩] ⟨0, 9, 16, 22⟩ [] htab (fun z hz => by rcases List.mem_singleton.mp hz with rfl; exact Or.inr ⟨by decide, iaeN, hts (.classLink RL 13 iaeN) (by decide +kernel), hNc⟩) (by decide) (by decide) (hts (.classLink RL 22 nsN) (by decide +kernel)) (hE.exc _ (by decide +kernel)) hce hcv hcl ?_
      show W _ _ _ _ _ _ _ _ _ _ _ _ _ _ _ (F0 m 16 ls [.ref q9])
      refine lv_astore (lv' := [(4, .ref q9), (0, .ref (ad 0)), (1, .int x), (2, .int i), (3, .ref (ad 40))]) hx hb dL_at_16 hl (by decide) rfl (fun ls hl => ?_)
      refine lv_iconst (v := 2) hx hb dL_at_18 (by decide) ?_
      exact W.iret (v := 2) hx hb hr (fun t ht _ => ⟨⟨_, ((), fo), rfl, Or.inr (Or.inr ⟨rfl, hph⟩), by rw [ht]; exact hP9, hD9⟩, hS.F ht⟩) hS.2.2 dL_at_19
  · obtain ⟨hP, hD⟩ := hB7
    rw [ht7] at hP
    refine rw_lst hx hb hK hP hD hS 26 1 rfl rfl (j := 0) rfl (by decide) (by decide) (ws' := wC ci ad hf ft fk fp n mk sz pl ++ (ad 40, .inl (ci 1, 1, .inr (.inl (vp_updL fo 0 r7)))) :: F) rfl dL_at_8 (fun H locs hP hD hS => ?_)
    refine lv_goto (tgt := 20) hx hb dL_at_9 (by decide) ?_
    refine lv_iconst (v := 0) hx hb dL_at_20 (by decide) ?_
    exact W.iret (v := 0) hx hb hr (fun t ht _ => ⟨⟨_, (u7, vp_updL fo 0 r7), rfl, Or.inl ⟨rfl, r7, rfl, hw7⟩, by rw [ht]; exact hP, hD⟩, hS.F ht⟩) hS.2.2 dL_at_21
set_option maxHeartbeats 1000000 in
set_option maxRecDepth 100000 in
theorem c_L_person (l : Launch) (D : va_G) (ci : Nat → ClassId) (ad : Nat → Nat) (z : Nat) (F : va_W) (hf : Nat → Nat) (ft : Nat → Int64) (fk : Nat → Int32) (fp : Nat → Int64) (n : Nat) (mk : Nat → Int32) (sz : Nat → Nat) (pl : Nat → Nat → Int64) (fo : Nat → Int64) (x w : Int32) (hlt : l.stackTraces = false) (hHF : ∀ h, h < 8 → hf h < 10) (hSZ : ∀ i, i < 10 → sz i ≤ 40) (h9s : sz 9 = 0) (h9m : mk 9 = 6) (hN : n ≤ 60) (hKD : ∀ k, k < n → ∃ q, q < 3 ∧ fk k = nI q) : Met l yL_person wsL_person ({ frames := 8, cells := 1, slots := 6, locals := 140 }) (va_Pc [.ref (ad 0), .int x, .int w, .ref (ad 40)] (fun U => WD D ci ad z (wC ci ad hf ft fk fp n mk sz pl ++ (ad 40, .inl (ci 1, 1, .inr (.inl fo))) :: F) U ∧ va_Nc nsN iaeN U)) (va_Qi (fun (r : Int32) (u : (Unit) × (Nat → Int64)) => (r = 0 ∧ ∃ q : Int64, u.2 0 = q ∧ ∃ k, k < n ∧ x = nI k ∧ ((w = 0 ∧ q = (fk k).toInt64) ∨ (w = 1 ∧ q = fp k) ∨ (w = 2 ∧ q = (wallN hf mk sz pl (lN k) 8).toInt64) ∨ (¬ w = 0 ∧ ¬ w = 1 ∧ ¬ w = 2 ∧ q = -1))) ∨ (r = 1 ∧ ((x < 0 ∨ nI n ≤ x)))) (fun u t => va_P D vwCl (wC ci ad hf ft fk fp n mk sz pl ++ (ad 40, .inl (ci 1, 1, .inr (.inl u.2))) :: F) t.heap ∧ va_D (LA z) (wC ci ad hf ft fk fp n mk sz pl ++ (ad 40, .inl (ci 1, 1, .inr (.inl u.2))) :: F)) (LA z)) 1 6 (LA z) := by
  refine va_MetW (cc := cL_person) (maxL := 5) (ret := (some .int)) (hh := [(0, 9, 12, 22)]) (by decide) rfl ?_
  intro p e s m args below meth c s₁ B hml hv
  obtain ⟨rfl, ⟨hP, hD, hK, hE⟩, hNc⟩ := hv
  have hx := B.exec
  have hb := B.bytes
  have hr := B.returns
  have hts := atoms_spec (ws := wsL_person) B.pre
  have hown : s.vm.findClass RL = some m.cls := findClass_of_methodNamed B.named
  have hlocks := B.notSynchronized
  have htab := vx_table (x := yL_person) B (hts _ List.mem_cons_self)
  have hS : va_S (LA z) s.heap s.heap [] := va_S.rf
  have hl := lv_entry ([.ref (ad 0), .int x, .int w, .ref (ad 40)]) (n := 5) (Nat.le_of_ble_eq_true rfl)
  rw [lg_entry_eq]
  generalize (lg_sl ([.ref (ad 0), .int x, .int w, .ref (ad 40)]) ++ List.replicate (5 - (lg_sl ([.ref (ad 0), .int x, .int w, .ref (ad 40)])).length) Slot.unset).toArray = ls at hl ⊢
  have hl : lv_has ls 5 [(0, .ref (ad 0)), (1, .int x), (2, .int w), (3, .ref (ad 40))] := hl
  refine lv_aload_n hx hb dL_person_0 rfl (lv_at hl 3 rfl) ?_
  refine lv_iconst (v := 0) hx hb dL_person_1 (by decide) ?_
  refine lv_aload_n hx hb dL_person_2 rfl (lv_at hl 0 rfl) ?_
  refine lv_iload_n hx hb dL_person_3 rfl (lv_at hl 1 rfl) ?_
  refine lv_iload_n hx hb dL_person_4 rfl (lv_at hl 2 rfl) ?_
  refine vx_calll (vx_runV (As := [.int x, .int w]) (rest := [.int 0, .ref (ad 40)]) ⟨hx, hb, hml, hown, hts⟩ (c_X1_person l D ci ad z ((ad 40, .inl (ci 1, 1, .inr (.inl fo))) :: F) hf ft fk fp n mk sz pl x w hlt hHF hSZ h9s h9m hN hKD) (cwV 2 hts gL_person_X1_person rfl rfl rfl (by decide +kernel) ⟨Nat.le_of_ble_eq_true rfl, Nat.le_of_ble_eq_true rfl⟩) ⟨WD.fb, (va_recv hK hP (ci := 1) (q0 := 0) rfl rfl), fun U hU hW => ⟨rfl, WD.call hP hD hK hE hS hU hW⟩⟩ rfl rfl hl.1 rfl (lv_room (Nat.le_of_ble_eq_true rfl)) dL_person_5 ⟨Nat.le_of_ble_eq_true rfl, Nat.le_of_ble_eq_true rfl⟩) hS (fun q _ h => h) (fun q h => h) (fun q _ h => h) (fun E ce q9 u9 t9 H locs ht9 hvm9 hpx9 hBX hz9 hk9 hS hce hcv hcl => ?_) (fun r7 u7 t7 H locs ht7 hvm7 hw7 hB7 hz7 hk7 hS => ?_)
  · obtain ⟨hph, hP9, hD9⟩ := hBX
    rw [ht9] at hP9
    obtain ⟨rfl, hph⟩ := hph
    refine vx_catch (own := RL) (name := nsN) hown [] ⟨0, 9, 12, 22⟩ [] htab (fun z hz => nomatch hz) (by decide) (by decide) (hts (.classLink RL 22 nsN) (by decide +kernel)) (hE.exc _ (by decide +kernel)) hce hcv hcl ?_
    show W _ _ _ _ _ _ _ _ _ _ _ _ _ _ _ (F0 m 12 ls [.ref q9])
    refine lv_astore (lv' := [(4, .ref q9), (0, .ref (ad 0)), (1, .int x), (2, .int w), (3, .ref (ad 40))]) hx hb dL_person_12 hl (by decide) rfl (fun ls hl => ?_)
    refine lv_iconst (v := 1) hx hb dL_person_14 (by decide) ?_
    exact W.iret (v := 1) hx hb hr (fun t ht _ => ⟨⟨_, ((), fo), rfl, Or.inr ⟨rfl, hph⟩, by rw [ht]; exact hP9, hD9⟩, hS.F ht⟩) hS.2.2 dL_person_15
  · obtain ⟨hP, hD⟩ := hB7
    rw [ht7] at hP
    refine rw_lst hx hb hK hP hD hS 26 1 rfl rfl (j := 0) rfl (by decide) (by decide) (ws' := wC ci ad hf ft fk fp n mk sz pl ++ (ad 40, .inl (ci 1, 1, .inr (.inl (vp_updL fo 0 r7)))) :: F) rfl dL_person_8 (fun H locs hP hD hS => ?_)
    refine lv_goto (tgt := 16) hx hb dL_person_9 (by decide) ?_
    refine lv_iconst (v := 0) hx hb dL_person_16 (by decide) ?_
    exact W.iret (v := 0) hx hb hr (fun t ht _ => ⟨⟨_, (u7, vp_updL fo 0 r7), rfl, Or.inl ⟨rfl, r7, rfl, hw7⟩, by rw [ht]; exact hP, hD⟩, hS.F ht⟩) hS.2.2 dL_person_17
