def adF (t50 : Nat) (q1 q2 : Nat → Nat) (h2 o : Nat) : Nat → Nat := fun k => if k = 40 then o else adM (adC (fun _ => t50) q1) h2 q2 k
set_option maxHeartbeats 1000000 in
set_option maxRecDepth 100000 in
theorem whole_start {p : Program} {e : Env} {s : State} {m : MethodId} {below : List Frame} {meth : Method} {c : Code} (l : Launch) (hlt : l.stackTraces = false) {b L : Nat} {xs : Nat → Int32} (hL : L ≤ 3072) (C0 : lw_At p s m meth c b L xs) : W p l e room_1 s m #[Value.ref b] below meth c s.heap [] 0 0 (lw_Z below #[Value.ref b] s) (entryFrame m ([Value.ref b] : List Value).toArray 8) := by
  obtain ⟨hx, hb, hr, hml, hown, htt, hX, hbl, hlocks, hgv⟩ := id C0
  have hts : ∀ w ∈ wsL_law, w.before #[Value.ref b] s = true := fun w h => htt w (wsL_law_in w h)
  have hown : s.vm.findClass RL = some m.cls := hown
  have hb : c.code = cL_law := hb
  have hA : ∀ q : Nat, s.heap.size ≤ q → LA s.heap.size q := fun _ h => h
  obtain ⟨t50, hEv⟩ := ev_start htt hgv
  obtain ⟨D, ci, hK⟩ := k_start htt
  have hNc := nc_start hgv
  have hO := ao_start htt
  have hS : va_S (LA s.heap.size) s.heap s.heap [] := va_S.rf
  have hP : va_P D vwCl [] s.heap := fun k q h => by simp at h
  have hD : va_D (LA s.heap.size) [] := ⟨fun i j p q h => by simp at h, fun k q h => by simp at h⟩
  have hl := lv_entry ([.ref b]) (n := 8) (Nat.le_of_ble_eq_true rfl)
  rw [lg_entry_eq]
  generalize (lg_sl ([.ref b]) ++ List.replicate (8 - (lg_sl ([.ref b])).length) Slot.unset).toArray = ls at hl ⊢
  have hl : lv_has ls 8 [(0, .ref b)] := hl
  refine va_new (ci := 1) (fs := [.null, .null, .null, .null, .null, .null, .int 0]) (C := RX1) (T := TX1) (N := 7) hx hb hts inlX1 tyX1 tyX1_ok hown (hts (.classLink RL 8 RX1) (by decide +kernel)) (hts (.instantiable RX1 7) (by decide +kernel)) (hts (.initialized RX1) (by decide +kernel)) hK hP hD hS hA rfl (fun j hj => by rcases (show j = 0 ∨ j = 1 ∨ j = 2 ∨ j = 3 ∨ j = 4 ∨ j = 5 ∨ j = 6 by omega) with rfl | rfl | rfl | rfl | rfl | rfl | rfl <;> rfl) (Nat.le_of_ble_eq_true rfl) (Nat.le_of_ble_eq_true rfl) dL_law_0 (fun h0 H hP hD hS => ?_)
  have hP : va_P D vwCl [(h0, .inr (1, [.null, .null, .null, .null, .null, .null, .int 0]))] H := hP
  have hD : va_D (LA s.heap.size) [(h0, .inr (1, [.null, .null, .null, .null, .null, .null, .int 0]))] := hD
  refine W.widen (k := 1) (n := 7) (by omega) (by omega) ?_
  refine lv_dup hx hb dL_law_3 rfl ?_
  have hE0 := hEv (fun _ => t50) rfl
  refine va_callv (va_runI (As := []) (rest := [.ref h0]) ⟨hx, hb, hml, hown, hts⟩ (c_X1_init l D ci (fun _ => t50) s.heap.size h0) (cwI 0 hts gL_law_X1_init rfl rfl rfl (hts (.initialized RX1) (by decide +kernel)) (hts (.methodLink RL 54 yX1_init) (by decide +kernel)) (hts (.instanceMethod yX1_init) (by decide +kernel)) rfl (by decide +kernel) ⟨Nat.le_of_ble_eq_true rfl, Nat.le_of_ble_eq_true rfl⟩) ⟨WDO.fb, fun U hU hW => ⟨rfl, WD.call hP hD hK hE0 hS hU hW, hO.moved hW.alike⟩⟩ rfl rfl hl.1 rfl (lv_room (Nat.le_of_ble_eq_true rfl)) dL_law_4 ⟨Nat.le_of_ble_eq_true rfl, Nat.le_of_ble_eq_true rfl⟩) hS (fun q _ h => h) (fun q h => h) (fun q1 t1 H locs ht1 hvm1 hw1 hB1 hz1 hk1 hS => ?_)
  subst hw1
  have hP : va_P D vwCl (wC ci (adC (fun _ => t50) q1) (fun _ => 9) (fun _ => 0) (fun _ => 0) (fun _ => 0) 0 (fun _ => 6) (fun _ => 0) (fun _ _ => 0)) H := by rw [← ht1]; exact hB1.1
  have hD : va_D (LA s.heap.size) (wC ci (adC (fun _ => t50) q1) (fun _ => 9) (fun _ => 0) (fun _ => 0) (fun _ => 0) 0 (fun _ => 6) (fun _ => 0) (fun _ _ => 0)) := hB1.2
  refine W.widen (k := 26) (n := 614) (by omega) (by omega) ?_
  refine lv_astore_n (lv' := [(1, .ref (q1 0)), (0, .ref b)]) hx hb dL_law_7 rfl hl (by decide) rfl (fun ls hl => ?_)
  refine va_new (ci := 2) (fs := [.int 0, .null, .null, .null, .null, .null, .int 0, .null, .null]) (C := RX2) (T := TX2) (N := 9) hx hb hts inlX2 tyX2 tyX2_ok hown (hts (.classLink RL 55 RX2) (by decide +kernel)) (hts (.instantiable RX2 9) (by decide +kernel)) (hts (.initialized RX2) (by decide +kernel)) hK hP hD hS hA rfl (fun j hj => by rcases (show j = 0 ∨ j = 1 ∨ j = 2 ∨ j = 3 ∨ j = 4 ∨ j = 5 ∨ j = 6 ∨ j = 7 ∨ j = 8 by omega) with rfl | rfl | rfl | rfl | rfl | rfl | rfl | rfl | rfl <;> rfl) (Nat.le_of_ble_eq_true rfl) (Nat.le_of_ble_eq_true rfl) dL_law_8 (fun h2 H hP hD hS => ?_)
  have hP : va_P D vwCl ([(h2, .inr (2, [.int 0, .null, .null, .null, .null, .null, .int 0, .null, .null]))] ++ (wC ci (adC (fun _ => t50) q1) (fun _ => 9) (fun _ => 0) (fun _ => 0) (fun _ => 0) 0 (fun _ => 6) (fun _ => 0) (fun _ _ => 0))) H := P_perm (List.perm_append_singleton _ _) hP
  have hD : va_D (LA s.heap.size) ([(h2, .inr (2, [.int 0, .null, .null, .null, .null, .null, .int 0, .null, .null]))] ++ (wC ci (adC (fun _ => t50) q1) (fun _ => 9) (fun _ => 0) (fun _ => 0) (fun _ => 0) 0 (fun _ => 6) (fun _ => 0) (fun _ _ => 0))) := D_perm (List.perm_append_singleton _ _) hD
  refine W.widen (k := 27) (n := 623) (by omega) (by omega) ?_
  refine lv_dup hx hb dL_law_11 rfl ?_
  have hE1 := hEv (adC (fun _ => t50) q1) rfl
  refine va_callv (va_runI (As := []) (rest := [.ref h2]) ⟨hx, hb, hml, hown, hts⟩ (c_X2_init l D ci (adC (fun _ => t50) q1) s.heap.size (wC ci (adC (fun _ => t50) q1) (fun _ => 9) (fun _ => 0) (fun _ => 0) (fun _ => 0) 0 (fun _ => 6) (fun _ => 0) (fun _ _ => 0)) h2) (cwI 0 hts gL_law_X2_init rfl rfl rfl (hts (.initialized RX2) (by decide +kernel)) (hts (.methodLink RL 57 yX2_init) (by decide +kernel)) (hts (.instanceMethod yX2_init) (by decide +kernel)) rfl (by decide +kernel) ⟨Nat.le_of_ble_eq_true rfl, Nat.le_of_ble_eq_true rfl⟩) ⟨WD.fb, fun U hU hW => ⟨rfl, WD.call hP hD hK hE1 hS hU hW⟩⟩ rfl rfl hl.1 rfl (lv_room (Nat.le_of_ble_eq_true rfl)) dL_law_12 ⟨Nat.le_of_ble_eq_true rfl, Nat.le_of_ble_eq_true rfl⟩) hS (fun q _ h => h) (fun q h => h) (fun q2 t2 H locs ht2 hvm2 hw2 hB2 hz2 hk2 hS => ?_)
  have hP : va_P D vwCl (wM ci (adM (adC (fun _ => t50) q1) h2 q2) 0 hd0 (fun _ => 0) (fun _ => 0) (fun _ => 0) (fun _ => 0) 0 (fun _ => 0) (fun _ => 0) ++ (wC ci (adC (fun _ => t50) q1) (fun _ => 9) (fun _ => 0) (fun _ => 0) (fun _ => 0) 0 (fun _ => 6) (fun _ => 0) (fun _ _ => 0))) H := by rw [← ht2]; exact hB2.1
  have hD : va_D (LA s.heap.size) (wM ci (adM (adC (fun _ => t50) q1) h2 q2) 0 hd0 (fun _ => 0) (fun _ => 0) (fun _ => 0) (fun _ => 0) 0 (fun _ => 0) (fun _ => 0) ++ (wC ci (adC (fun _ => t50) q1) (fun _ => 9) (fun _ => 0) (fun _ => 0) (fun _ => 0) 0 (fun _ => 6) (fun _ => 0) (fun _ _ => 0))) := hB2.2
  refine W.widen (k := 34) (n := 1169) (by omega) (by omega) ?_
  refine lv_astore_n (lv' := [(2, .ref h2), (1, .ref (q1 0)), (0, .ref b)]) hx hb dL_law_15 rfl hl (by decide) rfl (fun ls hl => ?_)
  refine lv_iconst (v := nI 1) hx hb dL_law_16 (by decide) ?_
  refine rn_newa (atype := .long) (P := wM ci (adM (adC (fun _ => t50) q1) h2 q2) 0 hd0 (fun _ => 0) (fun _ => 0) (fun _ => 0) (fun _ => 0) 0 (fun _ => 0) (fun _ => 0)) (F := wC ci (adC (fun _ => t50) q1) (fun _ => 9) (fun _ => 0) (fun _ => 0) (fun _ => 0) 0 (fun _ => 6) (fun _ => 0) (fun _ _ => 0)) (ty := .long) (a0 := (1, .inr (.inl (fun _ => 0)))) (cA := ci 1) hx hb (hts (.arrayClass .long) (by decide +kernel)) rfl hK hP hD hS hA (fun cA => by rw [vp_cell_l]; rfl) (nI_pos (by decide)) (nI_clamp (by decide)) (by decide) 1 rfl (Nat.le_of_ble_eq_true rfl) (Nat.le_of_ble_eq_true rfl) dL_law_17 (fun o H hP hD hS => ?_)
  have hP := P_perm (lw_pm2 _ _ _) hP
  have hD := D_perm (lw_pm2 _ _ _) hD
  obtain ⟨hP, hD⟩ := P_arrq hP hD 2 (f := fun i => some ((adC (fun _ => t50) q1) (10 + i))) rfl (g := fun i => some ((adF t50 q1 q2 h2 o) (10 + i))) (fun j hj => by rcases (show j = 0 ∨ j = 1 ∨ j = 2 ∨ j = 3 ∨ j = 4 ∨ j = 5 ∨ j = 6 ∨ j = 7 ∨ j = 8 by omega) with rfl | rfl | rfl | rfl | rfl | rfl | rfl | rfl | rfl <;> rfl) (ws' := wC ci (adF t50 q1 q2 h2 o) (fun _ => 9) (fun _ => 0) (fun _ => 0) (fun _ => 0) 0 (fun _ => 6) (fun _ => 0) (fun _ _ => 0) ++ ((adF t50 q1 q2 h2 o) 40, .inl (ci 1, 1, .inr (.inl (fun _ => 0)))) :: wM ci (adF t50 q1 q2 h2 o) 0 hd0 (fun _ => 0) (fun _ => 0) (fun _ => 0) (fun _ => 0) 0 (fun _ => 0) (fun _ => 0)) rfl
  refine W.widen (k := 35) (n := 1170) (by omega) (by omega) ?_
  refine lv_astore_n (lv' := [(3, .ref o), (2, .ref h2), (1, .ref (q1 0)), (0, .ref b)]) hx hb dL_law_19 rfl hl (by decide) rfl (fun ls hl => ?_)
  refine lv_iconst (v := nI 0) hx hb dL_law_20 (by decide) ?_
  refine lv_istore (lv' := [(4, .int (nI 0)), (3, .ref o), (2, .ref h2), (1, .ref (q1 0)), (0, .ref b)]) hx hb dL_law_21 hl (by decide) rfl (fun ls hl => ?_)
  have hl : lv_has ls 8 [(0, .ref b), (1, .ref ((adF t50 q1 q2 h2 o) 0)), (2, .ref ((adF t50 q1 q2 h2 o) 30)), (3, .ref ((adF t50 q1 q2 h2 o) 40)), (4, .int (nI (6 * 0)))] := lv_sub hl [4, 3, 2, 1, 0] rfl
  have hE := hEv (adF t50 q1 q2 h2 o) rfl
  exact law_loop hlt hx hb hml hown hts hX hbl hK hE hNc hL hr hlocks 600 0 (by omega) (by omega) (fun _ => 9) (fun _ => 0) (fun _ => 0) (fun _ => 0) 0 (fun _ => 6) (fun _ => 0) (fun _ _ => 0) (fun _ => 0) 0 hd0 (fun _ => 0) (fun _ => 0) (fun _ => 0) (fun _ => 0) (fun _ => 9) (fun _ => 0) H locs ls Inv_0 hP hD hS hl
