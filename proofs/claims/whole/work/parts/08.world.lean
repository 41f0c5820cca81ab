/-! THE WORLD. z: the heap's size at the law's entry; ad k: the addresses (0 the object, 1 hooks, 2 sheets, 3 taken, 4 kinds, 5 purses, 10+i sheet i, 20+i its places, 9 is 'nothing'; 30 the reference, 31 held, 32 makes, 33 sizes, 34 cells, 35 aside, 36 kinds, 37 purses; 40 the law's out; 50 RATES); ci: the array classes int[], long[], Sheet[] -/
abbrev LA (z : Nat) : Nat → Prop := fun q => z ≤ q
abbrev tyC (ci : Nat → ClassId) : List (ClassId × FieldType) := [(ci 0, .int), (ci 1, .long), (ci 2, .object RX0)]
def wC (ci : Nat → ClassId) (ad : Nat → Nat) (hf : Nat → Nat) (ft : Nat → Int64) (fk : Nat → Int32) (fp : Nat → Int64) (n : Nat) (mk : Nat → Int32) (sz : Nat → Nat) (pl : Nat → Nat → Int64) : va_W :=
  [(ad 0, .inr (1, [.ref (ad 19), .ref (ad 1), .ref (ad 2), .ref (ad 3), .ref (ad 4), .ref (ad 5), .int (nI n)])),
   (ad 1, .inl (ci 2, 8, .inr (.inr (.inr (.inr (fun h => some (ad (10 + hf h)))))))),
   (ad 2, .inl (ci 2, 9, .inr (.inr (.inr (.inr (fun i => some (ad (10 + i)))))))),
   (ad 3, .inl (ci 1, 40, .inr (.inl ft))),
   (ad 4, .inl (ci 0, 60, .inl fk)),
   (ad 5, .inl (ci 1, 60, .inr (.inl fp)))] ++
  ((List.range 10).map (fun i => (ad (10 + i), .inr (0, [.ref (ad (20 + i)), .int (mk i), .int (nI (sz i))]))) ++
   (List.range 10).map (fun i => (ad (20 + i), .inl (ci 1, if i = 9 then 0 else 40, .inr (.inl (pl i))))))
def wM (ci : Nat → ClassId) (ad : Nat → Nat) (th : Int32) (hd : Nat → Int32) (mk : Nat → Int32) (sz : Nat → Int32) (ce : Nat → Int64) (as : Nat → Int64) (np : Nat) (kd : Nat → Int32) (pu : Nat → Int64) : va_W :=
  [(ad 30, .inr (2, [.int th, .ref (ad 31), .ref (ad 32), .ref (ad 33), .ref (ad 34), .ref (ad 35), .int (nI np), .ref (ad 36), .ref (ad 37)])),
   (ad 31, .inl (ci 0, 8, .inl hd)), (ad 32, .inl (ci 0, 9, .inl mk)), (ad 33, .inl (ci 0, 9, .inl sz)), (ad 34, .inl (ci 1, 360, .inr (.inl ce))), (ad 35, .inl (ci 1, 40, .inr (.inl as))),
   (ad 36, .inl (ci 0, 60, .inl kd)), (ad 37, .inl (ci 1, 60, .inr (.inl pu)))]
section WX
variable {ci : Nat → ClassId} {ad : Nat → Nat} {hf : Nat → Nat} {ft : Nat → Int64} {fk : Nat → Int32} {fp : Nat → Int64} {n : Nat} {mk : Nat → Int32} {sz : Nat → Nat} {pl : Nat → Nat → Int64} {F : va_W}
theorem wC_sh {i : Nat} (hi : i < 10) : (wC ci ad hf ft fk fp n mk sz pl ++ F)[6 + i]? = some (ad (10 + i), .inr (0, [.ref (ad (20 + i)), .int (mk i), .int (nI (sz i))])) := by
  rcases (show i = 0 ∨ i = 1 ∨ i = 2 ∨ i = 3 ∨ i = 4 ∨ i = 5 ∨ i = 6 ∨ i = 7 ∨ i = 8 ∨ i = 9 by omega) with rfl | rfl | rfl | rfl | rfl | rfl | rfl | rfl | rfl | rfl <;> rfl
theorem wC_pl {i : Nat} (hi : i < 9) : (wC ci ad hf ft fk fp n mk sz pl ++ F)[16 + i]? = some (ad (20 + i), .inl (ci 1, 40, .inr (.inl (pl i)))) := by
  rcases (show i = 0 ∨ i = 1 ∨ i = 2 ∨ i = 3 ∨ i = 4 ∨ i = 5 ∨ i = 6 ∨ i = 7 ∨ i = 8 by omega) with rfl | rfl | rfl | rfl | rfl | rfl | rfl | rfl | rfl <;> rfl
theorem wC_pl9 : (wC ci ad hf ft fk fp n mk sz pl ++ F)[25]? = some (ad 29, .inl (ci 1, 0, .inr (.inl (pl 9)))) := rfl
theorem wC_set_mk {i : Nat} (hi : i < 10) (x : Int32) : (wC ci ad hf ft fk fp n mk sz pl ++ F).set (6 + i) (ad (10 + i), .inr (0, [.ref (ad (20 + i)), .int x, .int (nI (sz i))])) = wC ci ad hf ft fk fp n (va_up mk i x) sz pl ++ F := by
  rcases (show i = 0 ∨ i = 1 ∨ i = 2 ∨ i = 3 ∨ i = 4 ∨ i = 5 ∨ i = 6 ∨ i = 7 ∨ i = 8 ∨ i = 9 by omega) with rfl | rfl | rfl | rfl | rfl | rfl | rfl | rfl | rfl | rfl <;> rfl
theorem wC_set_sz {i : Nat} (hi : i < 10) (x : Nat) : (wC ci ad hf ft fk fp n mk sz pl ++ F).set (6 + i) (ad (10 + i), .inr (0, [.ref (ad (20 + i)), .int (mk i), .int (nI x)])) = wC ci ad hf ft fk fp n mk (va_up sz i x) pl ++ F := by
  rcases (show i = 0 ∨ i = 1 ∨ i = 2 ∨ i = 3 ∨ i = 4 ∨ i = 5 ∨ i = 6 ∨ i = 7 ∨ i = 8 ∨ i = 9 by omega) with rfl | rfl | rfl | rfl | rfl | rfl | rfl | rfl | rfl | rfl <;> rfl
theorem wC_set_pl {i : Nat} (hi : i < 9) (g : Nat → Int64) : (wC ci ad hf ft fk fp n mk sz pl ++ F).set (16 + i) (ad (20 + i), .inl (ci 1, 40, .inr (.inl g))) = wC ci ad hf ft fk fp n mk sz (va_up pl i g) ++ F := by
  rcases (show i = 0 ∨ i = 1 ∨ i = 2 ∨ i = 3 ∨ i = 4 ∨ i = 5 ∨ i = 6 ∨ i = 7 ∨ i = 8 by omega) with rfl | rfl | rfl | rfl | rfl | rfl | rfl | rfl | rfl <;> rfl
theorem wC_hk (j i : Nat) : va_up (fun h => some (ad (10 + hf h))) j (some (ad (10 + i))) = fun h => some (ad (10 + va_up hf j i h)) := by
  funext h; unfold va_up; split <;> rfl
end WX
/-! what stands outside the world and never changes: links between nest mates, the two statics of Throwable, the texts, RATES, the words on the exceptions that no list of good words holds -/
def nestF : List (Nat × String × String) := [(82, "places", "[J"), (61, "make", "I"), (92, "size", "I")]
def nestM : List (Nat × MethodName) := [(9, yX0_init), (57, yX0_become), (67, yX0_isNothing), (71, yX0_isRoster), (74, yX0_hasPlace), (89, yX0_isRow), (141, yX0_family), (149, yX0_hasSpan), (153, yX0_blank)]
def nestW : List Cond := nestF.map (fun q => .fieldLinkNest RX1 q.1 RX0 q.2.1 q.2.2 RX1) ++ nestM.map (fun q => .methodLinkNest RX1 q.1 q.2 RX1)
def rates (j : Nat) : Value := .int (if j = 0 then 3 else if j = 1 then 2 else 1)
def excW : List Cond := [.declares (Bundle.initS "java/lang/RuntimeException"), .declares (Bundle.initS "java/lang/Exception"), .declares (Bundle.initS Bundle.tN), .castable "java/lang/IllegalArgumentException" "java/lang/IllegalArgumentException", .castable nsN nsN]
def strs : List (Nat × String) := [(131, "no such hook"), (133, "no such make"), (48, "too many places"), (139, "no such person"), (122, "no such place")]
def EV (ad : Nat → Nat) (z : Nat) (U : State) (H : Heap) : Prop :=
  z ≤ H.size ∧ (∀ w ∈ nestW, va_Nw w U) ∧ (∀ w ∈ excW, va_Nw w U) ∧ (∀ q ∈ strs, ∃ a, vk_R RX1 q.1 q.2 a U) ∧
  vx_Zq Bundle.tN "UNASSIGNED_STACK" Bundle.steD (LA z) U H ∧ vx_Zq Bundle.tN "SUPPRESSED_SENTINEL" Bundle.listD (LA z) U H ∧
  va_Z RX1 "RATES" "[I" (.ref (ad 50)) (LA z) U H ∧ va_T .int (ad 50) 3 rates (LA z) U H
def WD (D : va_G) (ci : Nat → ClassId) (ad : Nat → Nat) (z : Nat) (ws : va_W) (U : State) : Prop := va_P D vwCl ws U.heap ∧ va_D (LA z) ws ∧ va_K D vwCl (tyC ci) U ∧ EV ad z U U.heap
section EVX
variable {D : va_G} {ci : Nat → ClassId} {ad : Nat → Nat} {z : Nat} {ws : va_W} {s U : State} {H : Heap} {locs : List Loc}
theorem nest_warm (hW : s.WarmedH U.vm) (h : ∀ w ∈ nestW, va_Nw w s) : ∀ w ∈ nestW, va_Nw w U := by
  intro w hw
  rcases List.mem_append.mp hw with h1 | h1
  · obtain ⟨q, -, rfl⟩ := List.mem_map.mp h1
    exact va_Nw.warmF hW (h _ hw)
  · obtain ⟨q, -, rfl⟩ := List.mem_map.mp h1
    exact va_Nw.warmM hW (h _ hw)
theorem nest_on : ∀ w ∈ nestW, w.onTables = true := by decide +kernel
theorem exc_on : ∀ w ∈ excW, w.onTables = true := by decide +kernel
theorem exc_warm (hW : s.WarmedH U.vm) (h : ∀ w ∈ excW, va_Nw w s) : ∀ w ∈ excW, va_Nw w U := by
  intro w hw
  have h9 := h w hw
  simp only [excW, List.mem_cons, List.not_mem_nil, or_false] at hw
  rcases hw with rfl | rfl | rfl | rfl | rfl
  · exact va_Nw.warmD hW h9
  · exact va_Nw.warmD hW h9
  · exact va_Nw.warmD hW h9
  · exact va_Nw.warmC hW h9
  · exact va_Nw.warmC hW h9
theorem EV.same (hv : s.vm = U.vm) (hH : U.heap = s.heap) (h : EV ad z s s.heap) : EV ad z U U.heap := by
  obtain ⟨h1, h2, h3, h4, h5, h6, h7, h8⟩ := h
  have al : s.vm.Alike U.vm := by rw [hv]; exact Vm.Alike.refl _
  rw [hH]
  exact ⟨h1, fun w hw => va_Nw.same (nest_on w hw) hv (h2 w hw), fun w hw => va_Nw.same (exc_on w hw) hv (h3 w hw), fun q hq => by obtain ⟨a, ha⟩ := h4 q hq; exact ⟨a, vk_R.same hv.symm ha⟩,
    vx_Zq.moved al h5, vx_Zq.moved al h6, va_Z.moved al h7, va_T.moved al h8⟩
theorem EV.call (hS : va_S (LA z) s.heap H locs) (hU : U.heap = H) (hW : s.WarmedH U.vm) (h : EV ad z s s.heap) : EV ad z U U.heap := by
  obtain ⟨h1, h2, h3, h4, h5, h6, h7, h8⟩ := h
  rw [hU]
  have hk : ∀ a : Nat, a < s.heap.size → ¬ LA z a → H[a]? = s.heap[a]? := hS.2.1
  exact ⟨Nat.le_trans h1 hS.1, nest_warm hW h2, exc_warm hW h3, fun q hq => by obtain ⟨a, ha⟩ := h4 q hq; exact ⟨a, vk_R.warm hW ha⟩,
    (vx_Zq.moved hW.alike h5).kept hk, (vx_Zq.moved hW.alike h6).kept hk, (va_Z.moved hW.alike h7).kept hk, (va_T.moved hW.alike h8).kept hk⟩
theorem EV.nF (h : EV ad z s s.heap) {args : Array Value} {i : Nat} {nm d : String} (hm : (i, nm, d) ∈ nestF) : (Cond.fieldLinkNest RX1 i RX0 nm d RX1).before args s = true :=
  va_Nw.use rfl (h.2.1 _ (List.mem_append_left _ (List.mem_map.mpr ⟨_, hm, rfl⟩)))
theorem EV.nM (h : EV ad z s s.heap) {i : Nat} {y : MethodName} (hm : (i, y) ∈ nestM) : va_Nw (Cond.methodLinkNest RX1 i y RX1) s :=
  h.2.1 _ (List.mem_append_right _ (List.mem_map.mpr ⟨_, hm, rfl⟩))
theorem WD.fb {av : List Value} : FrameBlind (va_Pc av (fun U => WD D ci ad z ws U)) := by
  intro a U g mk q
  obtain ⟨q0, qP, qD, qK, qE⟩ := q
  exact ⟨q0, qP, qD, va_K.moved (u := U) (U := U.calling g mk a) (Vm.Alike.refl U.vm) qK, EV.same (s := U) (U := U.calling g mk a) rfl rfl qE⟩
theorem WD.call (hP : va_P D vwCl ws H) (hD : va_D (LA z) ws) (hK : va_K D vwCl (tyC ci) s) (hE : EV ad z s s.heap) (hS : va_S (LA z) s.heap H locs) (hU : U.heap = H) (hW : s.WarmedH U.vm) : WD D ci ad z ws U :=
  ⟨by rw [hU]; exact hP, hD, va_K.moved hW.alike hK, EV.call hS hU hW hE⟩
theorem fb0 {av : List Value} : FrameBlind (va_Pc av (fun _ => True)) := fun _ _ _ _ q => q
end EVX
/-! rows with places that are numbers -/
section RW
variable {p : Program} {l : Launch} {e : Env} {R : Room} {s : State} {m : MethodId} {args : Array Value} {below : List Frame} {meth : Method} {c : Code} {H H0 : Heap} {locs : List Loc} {cells slots : Nat} {Q : State → Prop} {cc : ByteArray} {pc : Nat} {ls : Array Slot} {rest : List Value}
variable {D : va_G} {cl : List vw_C} {tys : List (ClassId × FieldType)} {ws : va_W} {A : Nat → Prop} {a : Nat}
theorem toCR {mc ms : Nat} {g : JFrame} {Qa : State → Outcome → State → Prop} {free : Addr → Prop} (h : va_Run p l e R s m args below meth c H locs cells slots mc ms g rest Qa free) : CallRun p l e R s m args below meth c H locs cells slots mc ms g rest Qa free := by
  intro T hT X
  obtain ⟨v, st₀, t, T', L, h1, h2, h3, h4, -, h6, h7⟩ := h T hT X
  exact ⟨v, st₀, t, T', L, h1, h2, h3, h4, h6, h7⟩
theorem rw_ild (hexec : p.tables.exec = Jvm.exec) (hb : c.code = cc) (hK : va_K D cl tys s) (hP : va_P D cl ws H) (q0 t0 : Nat) {cA : ClassId} {n : Nat} {f : Nat → Int32} (ha : ws[q0]? = some (a, .inl (cA, n, .inl f))) (ht : tys[t0]? = some (cA, .int)) {i : Int32} {j : Nat} (hi : i = nI j) (hj : j < n) (hn : n < 2 ^ 31)
    (hdg : decode cc pc = .ok (.iaload, 1)) (kk : W p l e R s m args below meth c H locs cells slots Q (F0 m (pc + 1) ls (.int (f j) :: rest))) : W p l e R s m args below meth c H locs cells slots Q (F0 m pc ls (.int i :: .ref a :: rest)) := by
  subst hi
  refine va_iald hexec hb hK hP q0 t0 ha ht (vp_in_nI hj hn) hdg ?_
  rw [nI_clamp (by omega)]; exact kk
theorem rw_lld (hexec : p.tables.exec = Jvm.exec) (hb : c.code = cc) (hK : va_K D cl tys s) (hP : va_P D cl ws H) (q0 t0 : Nat) {cA : ClassId} {n : Nat} {f : Nat → Int64} (ha : ws[q0]? = some (a, .inl (cA, n, .inr (.inl f)))) (ht : tys[t0]? = some (cA, .long)) {i : Int32} {j : Nat} (hi : i = nI j) (hj : j < n) (hn : n < 2 ^ 31)
    (hdg : decode cc pc = .ok (.laload, 1)) (kk : W p l e R s m args below meth c H locs cells slots Q (F0 m (pc + 1) ls (.long (f j) :: rest))) : W p l e R s m args below meth c H locs cells slots Q (F0 m pc ls (.int i :: .ref a :: rest)) := by
  subst hi
  refine va_lald hexec hb hK hP q0 t0 ha ht (vp_in_nI hj hn) hdg ?_
  rw [nI_clamp (by omega)]; exact kk
theorem rw_ist (hexec : p.tables.exec = Jvm.exec) (hb : c.code = cc) (hK : va_K D cl tys s) (hP : va_P D cl ws H) (hD : va_D A ws) (hS : va_S A H0 H locs) (q0 t0 : Nat) {cA : ClassId} {n : Nat} {f : Nat → Int32} (ha : ws[q0]? = some (a, .inl (cA, n, .inl f))) (ht : tys[t0]? = some (cA, .int)) {i x : Int32} {j : Nat} (hi : i = nI j) (hj : j < n) (hn : n < 2 ^ 31) {ws' : va_W} (hw : ws.set q0 (a, .inl (cA, n, .inl (upd f j x))) = ws')
    (hdg : decode cc pc = .ok (.iastore, 1)) (kk : ∀ (H1 : Heap) (locs1 : List Loc), va_P D cl ws' H1 → va_D A ws' → va_S A H0 H1 locs1 → W p l e R s m args below meth c H1 locs1 cells slots Q (F0 m (pc + 1) ls rest)) : W p l e R s m args below meth c H locs cells slots Q (F0 m pc ls (.int x :: .int i :: .ref a :: rest)) := by
  subst hi; subst hw
  refine va_iast hexec hb hK hP hD hS q0 t0 ha ht (vp_in_nI hj hn) hdg ?_
  rw [nI_clamp (by omega)]; exact kk
theorem rw_lst (hexec : p.tables.exec = Jvm.exec) (hb : c.code = cc) (hK : va_K D cl tys s) (hP : va_P D cl ws H) (hD : va_D A ws) (hS : va_S A H0 H locs) (q0 t0 : Nat) {cA : ClassId} {n : Nat} {f : Nat → Int64} (ha : ws[q0]? = some (a, .inl (cA, n, .inr (.inl f)))) (ht : tys[t0]? = some (cA, .long)) {i : Int32} {x : Int64} {j : Nat} (hi : i = nI j) (hj : j < n) (hn : n < 2 ^ 31) {ws' : va_W} (hw : ws.set q0 (a, .inl (cA, n, .inr (.inl (vp_updL f j x)))) = ws')
    (hdg : decode cc pc = .ok (.lastore, 1)) (kk : ∀ (H1 : Heap) (locs1 : List Loc), va_P D cl ws' H1 → va_D A ws' → va_S A H0 H1 locs1 → W p l e R s m args below meth c H1 locs1 cells slots Q (F0 m (pc + 1) ls rest)) : W p l e R s m args below meth c H locs cells slots Q (F0 m pc ls (.long x :: .int i :: .ref a :: rest)) := by
  subst hi; subst hw
  refine va_last hexec hb hK hP hD hS q0 t0 ha ht (vp_in_nI hj hn) hdg ?_
  rw [nI_clamp (by omega)]; exact kk
/-- a reference out of an array that holds them all -/
theorem rw_rld (hexec : p.tables.exec = Jvm.exec) (hb : c.code = cc) (hK : va_K D cl tys s) (hP : va_P D cl ws H) (q0 t0 : Nat) {cA : ClassId} {C : String} {n : Nat} {f : Nat → Option Nat} (ha : ws[q0]? = some (a, .inl (cA, n, .inr (.inr (.inr (.inr f)))))) (ht : tys[t0]? = some (cA, .object C)) {i : Int32} {j r : Nat} (hi : i = nI j) (hj : j < n) (hn : n < 2 ^ 31) (hr : f j = some r)
    (hdg : decode cc pc = .ok (.aaload, 1)) (kk : W p l e R s m args below meth c H locs cells slots Q (F0 m (pc + 1) ls (.ref r :: rest))) : W p l e R s m args below meth c H locs cells slots Q (F0 m pc ls (.int i :: .ref a :: rest)) := by
  subst hi
  refine va_aldq hexec hb hK hP q0 t0 ha ht (vp_in_nI hj hn) hdg ?_
  rw [nI_clamp (by omega), hr]; exact kk
theorem rw_rst (hexec : p.tables.exec = Jvm.exec) (hb : c.code = cc) (hK : va_K D cl tys s) (hP : va_P D cl ws H) (hD : va_D A ws) (hS : va_S A H0 H locs) (q0 t0 qk k : Nat) {cA : ClassId} {r : vw_C} {n v : Nat} {vs : List Value} {f : Nat → Option Nat} (ha : ws[q0]? = some (a, .inl (cA, n, .inr (.inr (.inr (.inr f)))))) (ht : tys[t0]? = some (cA, .object r.1)) (hv : ws[qk]? = some (v, .inr (k, vs))) (hc : cl[k]? = some r) {i : Int32} {j : Nat} (hi : i = nI j) (hj : j < n) (hn : n < 2 ^ 31) {ws' : va_W} (hw : ws.set q0 (a, .inl (cA, n, .inr (.inr (.inr (.inr (va_up f j (some v))))))) = ws')
    (hdg : decode cc pc = .ok (.aastore, 1)) (kk : ∀ (H1 : Heap) (locs1 : List Loc), va_P D cl ws' H1 → va_D A ws' → va_S A H0 H1 locs1 → W p l e R s m args below meth c H1 locs1 cells slots Q (F0 m (pc + 1) ls rest)) : W p l e R s m args below meth c H locs cells slots Q (F0 m pc ls (.ref v :: .int i :: .ref a :: rest)) := by
  subst hi; subst hw
  refine va_astq hexec hb hK hP hD hS q0 t0 qk k ha ht hv hc (vp_in_nI hj hn) hdg ?_
  rw [nI_clamp (by omega)]; exact kk
theorem rw_cpy (hexec : p.tables.exec = Jvm.exec) (hb : c.code = cc) (hml : c.maxLocals = ls.size) {own : String} {index : Nat} (hown : s.vm.findClass own = some m.cls) (hlink : (Cond.methodLink own index arraycopyName).before args s = true) (hnat : (Cond.native arraycopyName).before args s = true) (hstat : (Cond.static arraycopyName).before args s = true) (hini : (Cond.initialized "java/lang/System").before args s = true)
    (hK : va_K D cl tys s) (hP : va_P D cl ws H) (hD : va_D A ws) (hS : va_S A H0 H locs) (q0 q1 t0 : Nat) {a0 : Nat} {c0 : ClassId} {n0 n1 : Nat} {f g : Nat → Int64} (ha0 : ws[q0]? = some (a0, .inl (c0, n0, .inr (.inl f)))) (ha1 : ws[q1]? = some (a, .inl (c0, n1, .inr (.inl g)))) (ht0 : tys[t0]? = some (c0, .long))
    {sp dp n : Int32} {i j k : Nat} (h1 : sp = nI i) (h2 : dp = nI j) (h3 : n = nI k) (h4 : i + k ≤ n0) (h5 : j + k ≤ n1) (hb0 : n0 < 2 ^ 30) (hb1 : n1 < 2 ^ 30) {ws' : va_W} (hw : ws.set q1 (a, .inl (c0, n1, .inr (.inl (va_cpy f g i j k)))) = ws') (hframes : 1 ≤ R.frames) (hlocals : (rest.map fun v => v.category).sum + (nativeFrameWords "java/lang/System" "arraycopy" 5 + 11) ≤ R.locals)
    (hdg : decode cc pc = .ok (.invokestatic index, 3)) (kk : ∀ (H1 : Heap) (locs1 : List Loc), va_P D cl ws' H1 → va_D A ws' → va_S A H0 H1 locs1 → W p l e R s m args below meth c H1 locs1 cells slots Q (F0 m (pc + 3) ls rest)) : W p l e R s m args below meth c H locs cells slots Q (F0 m pc ls (.int n :: .int dp :: .ref a :: .int sp :: .ref a0 :: rest)) := by
  subst h1; subst h2; subst h3; subst hw
  refine va_copyl hexec hb hml hown hlink hnat hstat hini hK hP hD hS q0 q1 t0 t0 ha0 ha1 ht0 ht0 rfl (nI_pos (by omega)) (nI_pos (by omega)) (nI_pos (by omega)) ?_ ?_ (fun _ _ => rfl) hframes hlocals hdg ?_
  · rw [nI_clamp (by omega), nI_clamp (by omega)]; exact h4
  · rw [nI_clamp (by omega), nI_clamp (by omega)]; exact h5
  · rw [nI_clamp (by omega), nI_clamp (by omega), nI_clamp (by omega)]; exact kk
end RW
/-! throws: what a call that throws leaves -/
def XT (D : va_G) (z : Nat) (ws : va_W) (φ : String → Prop) : String → State → State → Prop := vx_X (fun _ : Unit => True) (fun E _ t => φ E ∧ va_P D vwCl ws t.heap ∧ va_D (LA z) ws) (LA z)
abbrev iaeN : String := "java/lang/IllegalArgumentException"
section TX
variable {p : Program} {l : Launch} {e : Env} {R : Room} {s : State} {m : MethodId} {args : Array Value} {below : List Frame} {meth : Method} {c : Code} {H : Heap} {locs : List Loc} {cells slots : Nat} {cc : ByteArray} {pc : Nat} {ls : Array Slot} {rest : List Value}
variable {D : va_G} {ci : Nat → ClassId} {ad : Nat → Nat} {z : Nat} {ws : va_W} {φ : String → Prop} {Qc : Array Value → State → Outcome → State → Prop} {E : String}
theorem XT.out (hP : va_P D vwCl ws H) (hD : va_D (LA z) ws) (hS : va_S (LA z) s.heap H locs) (hp : φ E) : ∀ t : State, t.heap = H → s.vm.Alike t.vm → XT D z ws φ E s t :=
  fun t ht _ => ⟨(), trivial, ⟨hp, by rw [ht]; exact hP, hD⟩, hS.F ht⟩
theorem XT.new (hP : va_P D vwCl ws H) (hD : va_D (LA z) ws) (hS : va_S (LA z) s.heap H locs) (hp : φ E) : ∀ t : State, s.vm.Alike t.vm → H.size ≤ t.heap.size → (∀ q : Nat, q < H.size → t.heap[q]? = H[q]?) → XT D z ws φ E s t := by
  intro t _ h1 h2
  refine ⟨(), trivial, ⟨hp, va_P.kept hP (fun k q hk => h2 q.1 (va_at.lt (hP k q hk))), hD⟩, Nat.le_trans hS.1 h1, fun q hq hn => ?_⟩
  rw [h2 q (Nat.lt_of_lt_of_le hq hS.1)]
  exact hS.2.1 q hq hn
theorem good_iae : ∀ w ∈ Cond.classLink RX1 46 iaeN :: Cond.initialized iaeN :: vx_atS RX1 50 iaeN ["java/lang/RuntimeException", "java/lang/Exception"], vx_ot w = true := by decide +kernel
theorem good_ns : ∀ w ∈ Cond.classLink RX1 120 nsN :: Cond.initialized nsN :: vx_atN RX1 124, vx_ot w = true := by decide +kernel
theorem rest_iae : ∀ w ∈ (vx_atS RX1 50 iaeN ["java/lang/RuntimeException", "java/lang/Exception"]).filter (fun w => !goodWord w), w ∈ excW := by decide +kernel
theorem rest_ns : ∀ w ∈ (vx_atN RX1 124).filter (fun w => !goodWord w), w ∈ excW := by decide +kernel
theorem EV.exc (h : EV ad z s s.heap) : ∀ w ∈ excW, w.before args s = true := fun w hw => va_Nw.use (exc_on w hw) (h.2.2.1 w hw)
/-- throw new IllegalArgumentException(text) -/
theorem rt_iae {Ts : List Cond} (hexec : p.tables.exec = Jvm.exec) (hb : c.code = cc) (hlt : l.stackTraces = false) (hown : s.vm.findClass RX1 = some m.cls) (hts : ∀ w ∈ Ts, w.before args s = true) (hk : Cond.classLink RX1 46 iaeN ∈ Ts) (hi : Cond.initialized iaeN ∈ Ts) (hg : ∀ w ∈ (vx_atS RX1 50 iaeN ["java/lang/RuntimeException", "java/lang/Exception"]).filter goodWord, w ∈ Ts)
    (hE : EV ad z s s.heap) {is : Nat} {text : String} (hstr : (is, text) ∈ strs) (hS : va_S (LA z) s.heap H locs) (hsize : ls.size = c.maxLocals) (d0 : decode cc pc = .ok (.new 46, 3)) (d3 : decode cc (pc + 3) = .ok (.dup, 1)) (d4 : decode cc (pc + 4) = .ok (.ldc is, 2)) (d6 : decode cc (pc + 6) = .ok (.invokespecial 50, 3)) (d9 : decode cc (pc + 9) = .ok (.athrow, 1))
    (hout : ∀ x ∈ c.exceptionTable.toList, covers x (pc + 9) = false) (hRf : 6 ≤ R.frames) (hRl : (rest.map fun v => v.category).sum + 82 ≤ R.locals) {mc ms : Nat} (hc : cells + 1 ≤ mc) (hs : slots + 6 ≤ ms) (hRc : cells + 1 ≤ R.cells) (hRs : slots + 6 ≤ R.slots) (hlocks : meth.locks = false)
    (hP : va_P D vwCl ws H) (hD : va_D (LA z) ws) (hp : φ iaeN) : W p l e R s m args below meth c H locs cells slots (vx_MQ below Qc (XT D z ws φ) args s mc ms (LA z)) (F0 m pc ls rest) := by
  obtain ⟨sa, hsa⟩ := hE.2.2.2.1 _ hstr
  exact vx_throwS hexec hb hlt hown (by decide +kernel) (by decide +kernel) (hts _ hk) (hts _ hi) hsa (vx_hat (fun w hw => hts w (hg w hw)) rest_iae hE.exc) good_iae hE.2.2.2.2.1 hE.2.2.2.2.2.1 hS hsize d0 d3 d4 d6 d9 hout (by simp; omega) (by simp; omega) hRc hRs hlocks (XT.new hP hD hS hp) hS.2.2 hc hs
/-- throw new NoSuchElementException(text) -/
theorem rt_ns {Ts : List Cond} (hexec : p.tables.exec = Jvm.exec) (hb : c.code = cc) (hlt : l.stackTraces = false) (hown : s.vm.findClass RX1 = some m.cls) (hts : ∀ w ∈ Ts, w.before args s = true) (hk : Cond.classLink RX1 120 nsN ∈ Ts) (hi : Cond.initialized nsN ∈ Ts) (hg : ∀ w ∈ (vx_atN RX1 124).filter goodWord, w ∈ Ts)
    (hE : EV ad z s s.heap) {is : Nat} {text : String} (hstr : (is, text) ∈ strs) (hS : va_S (LA z) s.heap H locs) (hsize : ls.size = c.maxLocals) (d0 : decode cc pc = .ok (.new 120, 3)) (d3 : decode cc (pc + 3) = .ok (.dup, 1)) (d4 : decode cc (pc + 4) = .ok (.ldc is, 2)) (d6 : decode cc (pc + 6) = .ok (.invokespecial 124, 3)) (d9 : decode cc (pc + 9) = .ok (.athrow, 1))
    (hout : ∀ x ∈ c.exceptionTable.toList, covers x (pc + 9) = false) (hRf : 6 ≤ R.frames) (hRl : (rest.map fun v => v.category).sum + 82 ≤ R.locals) {mc ms : Nat} (hc : cells + 1 ≤ mc) (hs : slots + 6 ≤ ms) (hRc : cells + 1 ≤ R.cells) (hRs : slots + 6 ≤ R.slots) (hlocks : meth.locks = false)
    (hP : va_P D vwCl ws H) (hD : va_D (LA z) ws) (hp : φ nsN) : W p l e R s m args below meth c H locs cells slots (vx_MQ below Qc (XT D z ws φ) args s mc ms (LA z)) (F0 m pc ls rest) := by
  obtain ⟨sa, hsa⟩ := hE.2.2.2.1 _ hstr
  exact vx_throwN hexec hb hlt hown (hts _ hk) (hts _ hi) hsa (vx_hat (fun w hw => hts w (hg w hw)) rest_ns hE.exc) good_ns hE.2.2.2.2.1 hE.2.2.2.2.2.1 hS hsize d0 d3 d4 d6 d9 hout (by omega) (by omega) hRc hRs hlocks (XT.new hP hD hS hp) hS.2.2 hc hs
end TX
/-! a term on the stack's top, rewritten; the comparison of longs -/
section TP
variable {p : Program} {l : Launch} {e : Env} {R : Room} {s : State} {m : MethodId} {args : Array Value} {below : List Frame} {meth : Method} {c : Code} {H : Heap} {locs : List Loc} {cells slots : Nat} {Q : State → Prop} {cc : ByteArray} {pc : Nat} {ls : Array Slot} {rest : List Value}
theorem rw_topi {x y : Int32} (h : x = y) (k : W p l e R s m args below meth c H locs cells slots Q (F0 m pc ls (.int y :: rest))) : W p l e R s m args below meth c H locs cells slots Q (F0 m pc ls (.int x :: rest)) := by rw [h]; exact k
theorem rw_topl {x y : Int64} (h : x = y) (k : W p l e R s m args below meth c H locs cells slots Q (F0 m pc ls (.long y :: rest))) : W p l e R s m args below meth c H locs cells slots Q (F0 m pc ls (.long x :: rest)) := by rw [h]; exact k
theorem lv_lcmp3 (hexec : p.tables.exec = Jvm.exec) (hb : c.code = cc) {x y : Int64} (hdg : decode cc pc = .ok (.lcmp, 1)) (k : ∀ r : Int32, (r < 0 ↔ x < y) ∧ (r = 0 ↔ x = y) ∧ (0 < r ↔ y < x) → W p l e R s m args below meth c H locs cells slots Q (F0 m (pc + 1) ls (.int r :: rest))) : W p l e R s m args below meth c H locs cells slots Q (F0 m pc ls (.long y :: .long x :: rest)) := by
  refine W.lcmp hexec hb hdg (k _ ?_)
  have hi : ∀ a b : Int64, a < b ↔ a.toInt < b.toInt := fun a b => Int64.lt_iff_toInt_lt
  have he : x = y ↔ x.toInt = y.toInt := Int64.toInt_inj.symm
  rw [hi x y, hi y x, he]
  by_cases h1 : y < x
  · have e1 : lg_cmp x y = 1 := by simp [lg_cmp, h1]
    rw [e1]; rw [hi] at h1
    exact ⟨⟨fun h => absurd h (by decide), fun h => by omega⟩, ⟨fun h => absurd h (by decide), fun h => by omega⟩, ⟨fun _ => h1, fun _ => by decide⟩⟩
  · by_cases h2 : x = y
    · have e1 : lg_cmp x y = 0 := by simp [lg_cmp, h1, h2]
      rw [e1]; rw [he] at h2
      exact ⟨⟨fun h => absurd h (by decide), fun h => by omega⟩, ⟨fun _ => h2, fun _ => rfl⟩, ⟨fun h => absurd h (by decide), fun h => by omega⟩⟩
    · have e1 : lg_cmp x y = -1 := by simp [lg_cmp, h1, h2]
      rw [e1]; rw [he] at h2; rw [hi] at h1
      exact ⟨⟨fun _ => by omega, fun _ => by decide⟩, ⟨fun h => absurd h (by decide), fun h => absurd h h2⟩, ⟨fun h => absurd h (by decide), fun h => by omega⟩⟩
end TP
