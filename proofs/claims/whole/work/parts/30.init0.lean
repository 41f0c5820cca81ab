/-! rows for constructors -/
theorem arr_congr (cA : ClassId) {n : Nat} {f g : Nat → Value} (h : ∀ j, j < n → f j = g j) : arrV cA n f = arrV cA n g := by
  unfold arrV
  have e : (fun j : Fin n => f j.val) = fun j : Fin n => g j.val := funext fun j => h j.val j.isLt
  rw [e]
theorem RA_find {U : State} {c : ClassId} {ty : FieldType} (h : va_RA U c ty) : U.vm.findClass ("[" ++ ty.toString) = some c := by
  cases ty with
  | object C => obtain ⟨_, _, _, _, _, h⟩ := h; exact h
  | _ => exact h
theorem P_perm {D : va_G} {cl : List vw_C} {ws ws' : va_W} {H : Heap} (hp : ws.Perm ws') (h : va_P D cl ws H) : va_P D cl ws' H := by
  intro k q hk
  obtain ⟨j, hj⟩ := List.getElem?_of_mem (hp.mem_iff.mpr (List.mem_of_getElem? hk))
  exact h j q hj
theorem D_perm {A : Nat → Prop} {ws ws' : va_W} (hp : ws.Perm ws') (h : va_D A ws) : va_D A ws' := by
  have nd : (ws.map Prod.fst).Nodup := by
    refine List.pairwise_iff_getElem.mpr (fun i j hi hj hij e => ?_)
    rw [List.length_map] at hi hj
    rw [List.getElem_map, List.getElem_map] at e
    have := h.1 i j _ _ (List.getElem?_eq_getElem hi) (List.getElem?_eq_getElem hj) e
    omega
  have nd' := List.pairwise_iff_getElem.mp ((hp.map Prod.fst).nodup_iff.mp nd)
  have key : ∀ (i j : Nat) (p q : Nat × va_E), i < j → ws'[i]? = some p → ws'[j]? = some q → p.1 ≠ q.1 := by
    intro i j p q hij hi hj e
    obtain ⟨h1, e1⟩ := List.getElem?_eq_some_iff.mp hi
    obtain ⟨h2, e2⟩ := List.getElem?_eq_some_iff.mp hj
    refine nd' i j (by rw [List.length_map]; exact h1) (by rw [List.length_map]; exact h2) hij ?_
    rw [List.getElem_map, List.getElem_map, e1, e2]; exact e
  refine ⟨fun i j p q hi hj e => ?_, fun k q hk => ?_⟩
  · rcases Nat.lt_trichotomy i j with g | g | g
    · exact absurd e (key i j p q g hi hj)
    · exact g
    · exact absurd e.symm (key j i q p g hj hi)
  · obtain ⟨j, hj⟩ := List.getElem?_of_mem (hp.mem_iff.mpr (List.mem_of_getElem? hk))
    exact h.2 j q hj
theorem push_perm (P F : va_W) (x : Nat × va_E) : ((P ++ F) ++ [x]).Perm (P ++ x :: F) := by
  rw [List.append_assoc]
  exact (List.perm_append_singleton x F).append_left P
theorem P_arrq {D : va_G} {cl : List vw_C} {ws : va_W} {H : Heap} (hP : va_P D cl ws H) {A : Nat → Prop} (hD : va_D A ws) (q0 : Nat) {a n : Nat} {cA : ClassId} {f : Nat → Option Nat} (ha : ws[q0]? = some (a, .inl (cA, n, .inr (.inr (.inr (.inr f)))))) {g : Nat → Option Nat} (h : ∀ j, j < n → f j = g j) {ws' : va_W} (hw : ws.set q0 (a, .inl (cA, n, .inr (.inr (.inr (.inr g))))) = ws') : va_P D cl ws' H ∧ va_D A ws' := by
  subst hw
  refine ⟨hP.set hD ha ?_ (fun q _ => rfl), hD.set ha⟩
  have h9 := hP q0 _ ha
  show H[a]? = some (vp_cell _ _)
  rw [vp_cell_q, ← arr_congr cA (f := fun j => va_rf (f j)) (fun j hj => by rw [h j hj]), ← vp_cell_q]
  exact h9
section RN
variable {p : Program} {l : Launch} {e : Env} {R : Room} {s : State} {m : MethodId} {args : Array Value} {below : List Frame} {meth : Method} {c : Code} {H H0 : Heap} {locs : List Loc} {cells slots : Nat} {Q : State → Prop} {cc : ByteArray} {pc : Nat} {ls : Array Slot} {rest : List Value}
variable {D : va_G} {cl : List vw_C} {tys : List (ClassId × FieldType)} {A : Nat → Prop} {P F : va_W}
theorem rn_newa (hexec : p.tables.exec = Jvm.exec) (hb : c.code = cc) {atype : ArrayType} (harr : (Cond.arrayClass (newarray.typeOf atype)).before args s = true) {ty : FieldType} (hty : newarray.typeOf atype = ty) (hK : va_K D cl tys s) (hP : va_P D cl (P ++ F) H) (hD : va_D A (P ++ F)) (hS : va_S A H0 H locs) (hA : ∀ q, H0.size ≤ q → A q)
    {n : Int32} {N' : Nat} {a0 : vp_A} (ha : ∀ cA : ClassId, vp_cell cA a0 = arrV cA N' (fun _ => defaultValue ty)) (hn : ¬ n < 0) (hN : n.toNatClampNeg = N') (hbytes : N' * componentBytes ty ≤ 536870912) (t0 : Nat) {cA : ClassId} (ht : tys[t0]? = some (cA, ty)) (hcells : cells + 1 ≤ R.cells) (hslots : slots + N' ≤ R.slots) (hdg : decode cc pc = .ok (.newarray atype, 2))
    (kk : ∀ (q : Nat) (H1 : Heap), va_P D cl (P ++ (q, .inl (cA, a0)) :: F) H1 → va_D A (P ++ (q, .inl (cA, a0)) :: F) → va_S A H0 H1 locs → W p l e R s m args below meth c H1 locs (cells + 1) (slots + N') Q (F0 m (pc + 2) ls (.ref q :: rest))) : W p l e R s m args below meth c H locs cells slots Q (F0 m pc ls (.int n :: rest)) := by
  refine va_newa hexec hb harr hty hK hP hD hS hA ha hn hN hbytes hcells hslots hdg (fun q cB H1 hK1 hP1 hD1 hS1 => ?_)
  have e1 := RA_find (hK1.2 tys.length (cB, ty) (by rw [List.getElem?_append_right (Nat.le_refl _), Nat.sub_self]; rfl)).2
  have e2 := RA_find (hK.2 t0 _ ht).2
  cases Option.some.inj (e1.symm.trans e2)
  exact kk q H1 (P_perm (push_perm P F _) hP1) (D_perm (push_perm P F _) hD1) hS1
theorem rn_newq (hexec : p.tables.exec = Jvm.exec) (hb : c.code = cc) {own C : String} {index : Nat} (hown : s.vm.findClass own = some m.cls) (hclink : (Cond.classLink own index C).before args s = true) (hover : va_AO C s) (hK : va_K D cl tys s) (hP : va_P D cl (P ++ F) H) (hD : va_D A (P ++ F)) (hS : va_S A H0 H locs) (hA : ∀ q, H0.size ≤ q → A q)
    {n : Int32} {N' : Nat} (hn : ¬ n < 0) (hN : n.toNatClampNeg = N') (hbytes : N' * 4 ≤ 536870912) (t0 : Nat) {cA : ClassId} (ht : tys[t0]? = some (cA, .object C)) (hcells : cells + 1 ≤ R.cells) (hslots : slots + N' ≤ R.slots) (hdg : decode cc pc = .ok (.anewarray index, 3))
    (kk : ∀ (q : Nat) (H1 : Heap), va_P D cl (P ++ (q, .inl (cA, N', .inr (.inr (.inr (.inr (fun _ => none)))))) :: F) H1 → va_D A (P ++ (q, .inl (cA, N', .inr (.inr (.inr (.inr (fun _ => none)))))) :: F) → va_S A H0 H1 locs → W p l e R s m args below meth c H1 locs (cells + 1) (slots + N') Q (F0 m (pc + 3) ls (.ref q :: rest))) : W p l e R s m args below meth c H locs cells slots Q (F0 m pc ls (.int n :: rest)) := by
  refine va_newq hexec hb hown hclink hover hK hP hD hS hA hn hN hbytes hcells hslots hdg (fun q cB H1 hK1 hP1 hD1 hS1 => ?_)
  have e1 := RA_find (hK1.2 tys.length (cB, .object C) (by rw [List.getElem?_append_right (Nat.le_refl _), Nat.sub_self]; rfl)).2
  have e2 := RA_find (hK.2 t0 _ ht).2
  cases Option.some.inj (e1.symm.trans e2)
  exact kk q H1 (P_perm (push_perm P F _) hP1) (D_perm (push_perm P F _) hD1) hS1
end RN
set_option maxHeartbeats 1000000 in
set_option maxRecDepth 100000 in
theorem c_X0_init (l : Launch) (D : va_G) (ci : Nat → ClassId) (ad : Nat → Nat) (z : Nat) (F : va_W) (h k : Nat) (hk : k ≤ 40) : Met l yX0_init wsX0_init ({ frames := 1, cells := 1, slots := 40, locals := 20 }) (va_Pc [.ref h, .int (nI k)] (fun U => WD D ci ad z ([(h, .inr (0, [.null, .int 0, .int 0]))] ++ F) U)) (va_Qv (fun (_ : Nat) => True) (fun q t => va_P D vwCl ([(h, .inr (0, [.ref q, .int 6, .int 0])), (q, .inl (ci 1, k, .inr (.inl (fun _ => 0))))] ++ F) t.heap ∧ va_D (LA z) ([(h, .inr (0, [.ref q, .int 6, .int 0])), (q, .inl (ci 1, k, .inr (.inl (fun _ => 0))))] ++ F)) (LA z)) 1 40 (LA z) := by
  refine Met.ofW (cc := cX0_init) (maxL := 2) (ret := none) (by decide) rfl ?_
  intro p e s m args below meth c s₁ B hml hv
  obtain ⟨rfl, hP, hD, hK, hE⟩ := hv
  have hx := B.exec
  have hb := B.bytes
  have hr := B.returns
  have hts := atoms_spec (ws := wsX0_init) B.pre
  have hown : s.vm.findClass RX0 = some m.cls := findClass_of_methodNamed B.named
  have hlocks := B.notSynchronized
  have hnm : meth.name = "<init>" := (name_of_methodNamed B.named B.method).1
  have hA : ∀ q : Nat, s.heap.size ≤ q → LA z q := fun q h => Nat.le_trans hE.1 h
  have hS : va_S (LA z) s.heap s.heap [] := va_S.rf
  have hin0 : ∀ w ∈ wsX00, w ∈ wsX0_init := by decide +kernel
  have hl := lv_entry ([.ref h, .int (nI k)]) (n := 2) (Nat.le_of_ble_eq_true rfl)
  rw [lg_entry_eq]
  generalize (lg_sl ([.ref h, .int (nI k)]) ++ List.replicate (2 - (lg_sl ([.ref h, .int (nI k)])).length) Slot.unset).toArray = ls at hl ⊢
  have hl : lv_has ls 2 [(0, .ref h), (1, .int (nI k))] := hl
  refine lv_aload_n hx hb dX0_init_0 rfl (lv_at hl 0 rfl) ?_
  refine W.objInit hx hb hown (hts (.methodLink RX0 3 objectInit) (by decide +kernel)) (hts (.instanceMethod objectInit) (by decide +kernel)) (hts _ (List.mem_cons_of_mem _ (List.mem_append_left _ (List.mem_of_getElem? (i := 2) rfl)))) rfl (by rw [hml]; exact hl.1) rfl dX0_init_1 (Nat.le_of_ble_eq_true rfl) (Nat.le_of_ble_eq_true rfl) ?_
  show W _ _ _ _ _ _ _ _ _ _ _ _ _ _ _ (F0 m 4 ls [])
  refine lv_aload_n hx hb dX0_init_4 rfl (lv_at hl 0 rfl) ?_
  refine lv_iload_n hx hb dX0_init_5 rfl (lv_at hl 1 rfl) ?_
  refine rn_newa (atype := .long) (P := [(h, .inr (0, [.null, .int 0, .int 0]))]) (F := F) (ty := .long) (a0 := (k, .inr (.inl (fun _ => 0)))) (cA := ci 1) hx hb (hts (.arrayClass .long) (by decide +kernel)) rfl hK hP hD hS hA (fun cA => by rw [vp_cell_l]; rfl) (nI_pos (by omega)) (nI_clamp (by omega)) (by show k * 8 ≤ 536870912; omega) 1 rfl (by show 0 + 1 ≤ 1; omega) (by show 0 + k ≤ 40; omega) dX0_init_6 (fun q H hP hD hS => ?_)
  refine va_putF (D := D) (ci := 0) (ty := .array .long) (C := RX0) (T := TX0) (N := 3) hx hb hts hin0 tyX0 tyX0_ok nmX0 hown hK hP hD hS 0 rfl rfl 0 (by decide) (hts (.fieldLink RX0 9 "DutyRota$Sheet" "places" "[J") (by decide +kernel)) (fun _ h9 => h9) rfl hnm rfl (by decide +kernel) rfl rfl (Nat.le_of_ble_eq_true rfl) dX0_init_8 (fun H locs hP hD hS => ?_)
  have hP : va_P D vwCl ([(h, .inr (0, [.ref q, .int 0, .int 0])), (q, .inl (ci 1, k, .inr (.inl (fun _ => 0))))] ++ F) H := hP
  have hD : va_D (LA z) ([(h, .inr (0, [.ref q, .int 0, .int 0])), (q, .inl (ci 1, k, .inr (.inl (fun _ => 0))))] ++ F) := hD
  refine lv_aload_n hx hb dX0_init_11 rfl (lv_at hl 0 rfl) ?_
  refine lv_bipush (v := 6) hx hb dX0_init_12 (by decide) ?_
  refine va_put (D := D) (ci := 0) (ty := .int) (C := RX0) (T := TX0) (N := 3) hx hb hts hin0 tyX0 tyX0_ok nmX0 hown hK hP hD hS 0 rfl rfl 1 (by decide) (hts (.fieldLink RX0 15 "DutyRota$Sheet" "make" "I") (by decide +kernel)) (fun _ h9 => h9) rfl (by decide +kernel) rfl rfl (Nat.le_of_ble_eq_true rfl) dX0_init_14 (fun H locs hP hD hS => ?_)
  have hP : va_P D vwCl ([(h, .inr (0, [.ref q, .int 6, .int 0])), (q, .inl (ci 1, k, .inr (.inl (fun _ => 0))))] ++ F) H := hP
  have hD : va_D (LA z) ([(h, .inr (0, [.ref q, .int 6, .int 0])), (q, .inl (ci 1, k, .inr (.inl (fun _ => 0))))] ++ F) := hD
  refine lv_aload_n hx hb dX0_init_17 rfl (lv_at hl 0 rfl) ?_
  refine lv_iconst (v := 0) hx hb dX0_init_18 (by decide) ?_
  refine va_put (D := D) (ci := 0) (ty := .int) (C := RX0) (T := TX0) (N := 3) hx hb hts hin0 tyX0 tyX0_ok nmX0 hown hK hP hD hS 0 rfl rfl 2 (by decide) (hts (.fieldLink RX0 19 "DutyRota$Sheet" "size" "I") (by decide +kernel)) (fun _ h9 => h9) rfl (by decide +kernel) rfl rfl (Nat.le_of_ble_eq_true rfl) dX0_init_19 (fun H locs hP hD hS => ?_)
  have hP : va_P D vwCl ([(h, .inr (0, [.ref q, .int 6, .int 0])), (q, .inl (ci 1, k, .inr (.inl (fun _ => 0))))] ++ F) H := hP
  have hD : va_D (LA z) ([(h, .inr (0, [.ref q, .int 6, .int 0])), (q, .inl (ci 1, k, .inr (.inl (fun _ => 0))))] ++ F) := hD
  refine W.widen (k := 1) (n := 40) (by omega) (by omega) ?_
  exact W.vret hx hb hr (fun t ht _ => ⟨⟨q, rfl, trivial, by rw [ht]; exact hP, hD⟩, hS.F ht⟩) hS.2.2 dX0_init_22
