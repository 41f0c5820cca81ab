/-! THE LAW'S CASES: what holds between the calls -/
def LK (p : Program) (l : Launch) (e : Env) (s : State) (m : MethodId) (below : List Frame) (meth : Method) (c : Code) (Q : State → Prop) (D : va_G) (ci : Nat → ClassId) (ad : Nat → Nat) (b I cells slots pc : Nat) : Prop :=
  ∀ (hf : Nat → Nat) (ft : Nat → Int64) (fk : Nat → Int32) (fp : Nat → Int64) (n : Nat) (mk : Nat → Int32) (sz : Nat → Nat) (pl : Nat → Nat → Int64) (fo : Nat → Int64) (th : Int32) (hd mk2 sz2 : Nat → Int32) (ce as : Nat → Int64) (Hg Z : Nat → Nat) (H : Heap) (locs : List Loc) (ls : Array Slot), Inv hf fk fp n mk sz pl hd mk2 sz2 ce Hg Z → va_P D vwCl (wC ci ad hf ft fk fp n mk sz pl ++ (ad 40, .inl (ci 1, 1, .inr (.inl fo))) :: wM ci ad th hd mk2 sz2 ce as n fk fp) H → va_D (LA s.heap.size) (wC ci ad hf ft fk fp n mk sz pl ++ (ad 40, .inl (ci 1, 1, .inr (.inl fo))) :: wM ci ad th hd mk2 sz2 ce as n fk fp) → va_S (LA s.heap.size) s.heap H locs → lv_has ls 8 [(0, .ref b), (1, .ref (ad 0)), (2, .ref (ad 30)), (3, .ref (ad 40)), (4, .int (nI I))] → W p l e room_1 s m #[Value.ref b] below meth c H locs cells slots Q (F0 m pc ls [])
theorem lw_pm (A B : va_W) (o : Nat × va_E) : (A ++ o :: B).Perm (B ++ (A ++ [o])) := by
  have e1 : A ++ o :: B = (A ++ [o]) ++ B := by rw [List.append_assoc]; rfl
  rw [e1]; exact List.perm_append_comm
theorem WDN.fb {D : va_G} {ci : Nat → ClassId} {ad : Nat → Nat} {z : Nat} {ws : va_W} {av : List Value} {A B : String} : FrameBlind (va_Pc av (fun U => WD D ci ad z ws U ∧ va_Nc A B U)) := by
  intro a U g mk q
  obtain ⟨q0, ⟨qP, qD, qK, qE⟩, qN⟩ := q
  exact ⟨q0, ⟨qP, qD, va_K.moved (u := U) (U := U.calling g mk a) (Vm.Alike.refl U.vm) qK, EV.same (s := U) (U := U.calling g mk a) rfl rfl qE⟩, va_Nc.moved (u := U) (U := U.calling g mk a) (Vm.Alike.refl U.vm) qN⟩
section RS
variable {p : Program} {l : Launch} {e : Env} {R : Room} {s : State} {m : MethodId} {args : Array Value} {below : List Frame} {meth : Method} {c : Code} {H H0 : Heap} {locs : List Loc} {cells slots : Nat} {Q : State → Prop} {cc : ByteArray} {pc : Nat} {ls : Array Slot} {rest : List Value} {A : Nat → Prop}
theorem rs_sld (hexec : p.tables.exec = Jvm.exec) (hb : c.code = cc) {b L : Nat} {xs : Nat → Int32} (hX : va_X b L xs s H0) (hbl : b < H0.size) (hbA : ¬ A b) (hS : va_S A H0 H locs) {i : Int32} {j : Nat} (hi : i = nI j) (hj : j < L) (hL : L < 2 ^ 31) (hdg : decode cc pc = .ok (.iaload, 1))
    (kk : W p l e R s m args below meth c H locs cells slots Q (F0 m (pc + 1) ls (.int (xs j) :: rest))) : W p l e R s m args below meth c H locs cells slots Q (F0 m pc ls (.int i :: .ref b :: rest)) := by
  subst hi
  refine va_sld hexec hb hX hbl hbA hS (vp_in_nI hj hL) hdg ?_
  rw [nI_clamp (by omega)]; exact kk
end RS
