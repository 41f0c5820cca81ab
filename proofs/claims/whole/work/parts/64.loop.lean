/-! THE CLAIM OUT OF ONE WALK OF THE LAW'S BODY. Your part is whole_start (and what it stands on); all else here is the same for every law, but numbers. -/
def R_law : String := "DutyRotaLaw"
def lw_P (b : Addr) (xs : List Int32) (args : Array Value) (s : State) : Prop := args = #[.ref b] ∧ s.IntsAt b xs ∧ xs.length ≤ 3072 ∧ (Jvm.Cond.and given_1 narrow_1).before args s = true
def lw_Q (_ : Array Value) (s : State) (o : Outcome) (t : State) : Prop := o = .returned (some (.int 1)) ∧ Framed s o t [] 601024 7293034
def lw_Z (below : List Frame) (a : Array Value) (s : State) : State → Prop := fun t => ∃ o, t.status = .running ∧ Ended t below o ∧ lw_Q a s o t
/-- the law's own end, with 1 on the stack, nothing written that was there before, its room as the claim has it -/
theorem lw_ret {p : Program} {l : Launch} {e : Env} {s : State} {m : MethodId} {below : List Frame} {meth : Method} {c : Code} {b : Nat} (hx : p.tables.exec = Jvm.exec) (hb : c.code = code) (hr : meth.sig.returnType = ret) (hlocks : meth.locks = false) {pc : Nat} {H : Heap} {ls : Array Slot} (hdg : decode code pc = .ok (.ireturn, 1)) : W p l e room_1 s m #[Value.ref b] below meth c H [] 601024 7293034 (lw_Z below #[Value.ref b] s) (F0 m pc ls [.int 1]) := by
  intro T hT X
  obtain ⟨fs, hret, hrun, hended, hW, hframe⟩ := X.leave (v := some (.int 1)) (hlocks := hlocks) (fun h => by rw [hr] at h; cases h)
  have hmeth' : T.vm.method? m = some meth := X.method'
  refine ⟨T.setFrames fs, ?_, .returned (some (.int 1)), hrun, hended, rfl, ⟨_, rfl⟩, hW, hframe⟩
  jvm_step X.here [X.here.top, hx, hb, hdg, hmeth', hr, ret, narrow_b1]
  (try refine ⟨rfl, ?_⟩); (try refine ⟨rfl, ?_⟩)
  first | (intro acts; rw [hret _ acts rfl rfl rfl]) | rw [hret _ _ rfl rfl rfl]
  exact Steps.refl _
/-- what holds at the law's entry: the machine, the code, the tables' words (any of lw_tbl by 'hts w (by decide +kernel)'), the script of L ints xs at the cell b, what the Statement gives of the start (any of its parts by flat_of_before) -/
def lw_At (p : Program) (s : State) (m : MethodId) (meth : Method) (c : Code) (b L : Nat) (xs : Nat → Int32) : Prop :=
  p.tables.exec = Jvm.exec ∧ c.code = code ∧ meth.sig.returnType = ret ∧ c.maxLocals = 8 ∧ s.vm.findClass R_law = some m.cls ∧ (∀ w ∈ lw_tbl, w.before #[Value.ref b] s = true) ∧ va_X b L xs s s.heap ∧ b < s.heap.size ∧ meth.locks = false ∧ (Jvm.Cond.and given_1 narrow_1).before #[Value.ref b] s = true
theorem tab14 {x : Int32} (h0 : ¬ x = 0) (h1 : ¬ x = 1) (h2 : ¬ x = 2) (h3 : ¬ x = 3) (h4 : ¬ x = 4) (h5 : ¬ x = 5) (h6 : ¬ x = 6) (h7 : ¬ x = 7) (h8 : ¬ x = 8) (h9 : ¬ x = 9) (h10 : ¬ x = 10) (h11 : ¬ x = 11) (h12 : ¬ x = 12) (h13 : ¬ x = 13) : x.toInt < 0 ∨ 13 < x.toInt := by
  have q : ∀ y : Int32, x.toInt = y.toInt → x = y := fun y h => Int32.toInt_inj.mp h
  have a0 : ¬ x.toInt = 0 := fun h => h0 (q 0 (by rw [h]; decide))
  have a1 : ¬ x.toInt = 1 := fun h => h1 (q 1 (by rw [h]; decide))
  have a2 : ¬ x.toInt = 2 := fun h => h2 (q 2 (by rw [h]; decide))
  have a3 : ¬ x.toInt = 3 := fun h => h3 (q 3 (by rw [h]; decide))
  have a4 : ¬ x.toInt = 4 := fun h => h4 (q 4 (by rw [h]; decide))
  have a5 : ¬ x.toInt = 5 := fun h => h5 (q 5 (by rw [h]; decide))
  have a6 : ¬ x.toInt = 6 := fun h => h6 (q 6 (by rw [h]; decide))
  have a7 : ¬ x.toInt = 7 := fun h => h7 (q 7 (by rw [h]; decide))
  have a8 : ¬ x.toInt = 8 := fun h => h8 (q 8 (by rw [h]; decide))
  have a9 : ¬ x.toInt = 9 := fun h => h9 (q 9 (by rw [h]; decide))
  have a10 : ¬ x.toInt = 10 := fun h => h10 (q 10 (by rw [h]; decide))
  have a11 : ¬ x.toInt = 11 := fun h => h11 (q 11 (by rw [h]; decide))
  have a12 : ¬ x.toInt = 12 := fun h => h12 (q 12 (by rw [h]; decide))
  have a13 : ¬ x.toInt = 13 := fun h => h13 (q 13 (by rw [h]; decide))
  omega
theorem len_sub {L I : Nat} (hL : L ≤ 3072) (hI : I ≤ 3072) (h : ¬ nI L - 6 < nI I) : I + 6 ≤ L := by
  have e1 : (nI L - 6).toInt = (L : Int) - 6 := by
    rw [Int32.toInt_sub, nI_toInt (by omega)]
    have h6 : (6 : Int32).toInt = 6 := by decide
    rw [h6]
    exact Int.bmod_eq_of_le (by omega) (by omega)
  have h9 : ¬ (nI L - 6).toInt < (nI I).toInt := fun q => h (Int32.lt_iff_toInt_lt.mpr q)
  rw [e1, nI_toInt (by omega)] at h9
  omega
set_option maxHeartbeats 1000000 in
set_option maxRecDepth 100000 in
theorem law_loop {p : Program} {l : Launch} {e : Env} {s : State} {m : MethodId} {below : List Frame} {meth : Method} {c : Code} {D : va_G} {ci : Nat → ClassId} {ad : Nat → Nat} {b L : Nat} {xs : Nat → Int32} (hlt : l.stackTraces = false) (hx : p.tables.exec = Jvm.exec) (hb : c.code = cL_law) (hml : c.maxLocals = 8) (hown : s.vm.findClass RL = some m.cls) (hts : ∀ w ∈ wsL_law, w.before #[Value.ref b] s = true) (hX : va_X b L xs s s.heap) (hbl : b < s.heap.size) (hK : va_K D vwCl (tyC ci) s) (hE : EV ad s.heap.size s s.heap) (hNc : va_Nc nsN iaeN s) (hL : L ≤ 3072) (hr : meth.sig.returnType = ret) (hlocks : meth.locks = false) : ∀ (d j : Nat), 6 * j ≤ L → L + 1 ≤ 6 * j + 6 * d → LK p l e s m below meth c (lw_Z below #[Value.ref b] s) D ci ad b (6 * j) (35 + 3 * j) (1170 + 18 * j) 23 := by
  intro d
  induction d with
  | zero => intro j h1 h2; exact absurd h2 (by omega)
  | succ d ih =>
    intro j h1 h2 hf ft fk fp n mk sz pl fo th hd mk2 sz2 ce as Hg Z H locs ls I0 hP hD hS hl
    have hbA : ¬ LA s.heap.size b := Nat.not_le.mpr hbl
    refine lv_iload hx hb dL_law_23 (lv_at hl 4 rfl) ?_
    refine lv_aload_n hx hb dL_law_25 rfl (lv_at hl 0 rfl) ?_
    refine va_slen hx hb hX hbl hbA hS dL_law_26 ?_
    refine lv_bipush (v := 6) hx hb dL_law_27 (by decide) ?_
    refine lv_isub hx hb dL_law_29 ?_
    refine lv_icmp_gt (tgt := 1110) hx hb dL_law_30 (by decide) (fun c9 => ?_) (fun c9 => ?_)
    · refine lv_iconst (v := 1) hx hb dL_law_1110 (by decide) ?_
      refine va_forget (fun q hq => hS.2.2 q hq) ?_
      refine W.widen (k := 601024) (n := 7293034) (by omega) (by omega) ?_
      exact lw_ret hx hb hr hlocks dL_law_1111
    · have hI : 6 * j + 6 ≤ L := len_sub hL (by omega) c9
      have kk : LK p l e s m below meth c (lw_Z below #[Value.ref b] s) D ci ad b (6 * j) (35 + 3 * j + 3) (1170 + 18 * j + 18) 1104 := by
        intro hf ft fk fp n mk sz pl fo th hd mk2 sz2 ce as Hg Z H locs ls I0 hP hD hS hl
        refine lv_iinc (v := nI (6 * (j + 1))) (lv' := [(4, .int (nI (6 * (j + 1)))), (0, .ref b), (1, .ref (ad 0)), (2, .ref (ad 30)), (3, .ref (ad 40))]) hx hb dL_law_1104 hl (k := 4) rfl (nI_add (6 * j) 6) (by decide) rfl (fun ls hl => ?_)
        refine lv_goto (tgt := 23) hx hb dL_law_1107 (by decide) ?_
        refine W.widen (k := 35 + 3 * (j + 1)) (n := 1170 + 18 * (j + 1)) (by omega) (by omega) ?_
        exact ih (j + 1) (by omega) (by omega) hf ft fk fp n mk sz pl fo th hd mk2 sz2 ce as Hg Z H locs ls I0 hP hD hS (lv_sub hl [1, 2, 3, 4, 0] rfl)
      refine lv_aload_n hx hb dL_law_33 rfl (lv_at hl 0 rfl) ?_
      refine lv_iload hx hb dL_law_34 (lv_at hl 4 rfl) ?_
      refine rs_sld hx hb hX hbl hbA hS (j := 6 * j) rfl (by omega) (by omega) dL_law_36 ?_
      refine lv_bipush (v := 15) hx hb dL_law_37 (by decide) ?_
      refine lv_iand hx hb dL_law_39 ?_
      refine lv_topi (fun w ew => ?_)
      by_cases w0 : w = 0
      · refine lv_tableIn (off := 72) (tgt := 112) hx hb dL_law_40 (by rw [w0]; decide) (by rw [w0]; decide) (by rw [w0]; decide) (by decide) ?_
        exact blk_hang hlt hx hb hml hown hts hX hbl hK hE hNc hL hI (by omega) (by omega) kk hf ft fk fp n mk sz pl fo th hd mk2 sz2 ce as Hg Z H locs ls I0 hP hD hS hl
      by_cases w1 : w = 1
      · refine lv_tableIn (off := 152) (tgt := 192) hx hb dL_law_40 (by rw [w1]; decide) (by rw [w1]; decide) (by rw [w1]; decide) (by decide) ?_
        exact blk_share hlt hx hb hml hown hts hX hbl hK hE hNc hL hI (by omega) (by omega) kk hf ft fk fp n mk sz pl fo th hd mk2 sz2 ce as Hg Z H locs ls I0 hP hD hS hl
      by_cases w2 : w = 2
      · refine lv_tableIn (off := 220) (tgt := 260) hx hb dL_law_40 (by rw [w2]; decide) (by rw [w2]; decide) (by rw [w2]; decide) (by decide) ?_
        exact blk_hire hlt hx hb hml hown hts hX hbl hK hE hNc hL hI (by omega) (by omega) kk hf ft fk fp n mk sz pl fo th hd mk2 sz2 ce as Hg Z H locs ls I0 hP hD hS hl
      by_cases w3 : w = 3
      · refine lv_tableIn (off := 245) (tgt := 285) hx hb dL_law_40 (by rw [w3]; decide) (by rw [w3]; decide) (by rw [w3]; decide) (by decide) ?_
        exact blk_put hlt hx hb hml hown hts hX hbl hK hE hNc hL hI (by omega) (by omega) kk hf ft fk fp n mk sz pl fo th hd mk2 sz2 ce as Hg Z H locs ls I0 hP hD hS hl
      by_cases w4 : w = 4
      · refine lv_tableIn (off := 325) (tgt := 365) hx hb dL_law_40 (by rw [w4]; decide) (by rw [w4]; decide) (by rw [w4]; decide) (by decide) ?_
        exact blk_note hlt hx hb hml hown hts hX hbl hK hE hNc hL hI (by omega) (by omega) kk hf ft fk fp n mk sz pl fo th hd mk2 sz2 ce as Hg Z H locs ls I0 hP hD hS hl
      by_cases w5 : w = 5
      · refine lv_tableIn (off := 437) (tgt := 477) hx hb dL_law_40 (by rw [w5]; decide) (by rw [w5]; decide) (by rw [w5]; decide) (by decide) ?_
        exact blk_copy hlt hx hb hml hown hts hX hbl hK hE hNc hL hI (by omega) (by omega) kk hf ft fk fp n mk sz pl fo th hd mk2 sz2 ce as Hg Z H locs ls I0 hP hD hS hl
      by_cases w6 : w = 6
      · refine lv_tableIn (off := 541) (tgt := 581) hx hb dL_law_40 (by rw [w6]; decide) (by rw [w6]; decide) (by rw [w6]; decide) (by decide) ?_
        exact blk_slide hlt hx hb hml hown hts hX hbl hK hE hNc hL hI (by omega) (by omega) kk hf ft fk fp n mk sz pl fo th hd mk2 sz2 ce as Hg Z H locs ls I0 hP hD hS hl
      by_cases w7 : w = 7
      · refine lv_tableIn (off := 621) (tgt := 661) hx hb dL_law_40 (by rw [w7]; decide) (by rw [w7]; decide) (by rw [w7]; decide) (by decide) ?_
        exact blk_turn hlt hx hb hml hown hts hX hbl hK hE hNc hL hI (by omega) (by omega) kk hf ft fk fp n mk sz pl fo th hd mk2 sz2 ce as Hg Z H locs ls I0 hP hD hS hl
      by_cases w8 : w = 8
      · refine lv_tableIn (off := 689) (tgt := 729) hx hb dL_law_40 (by rw [w8]; decide) (by rw [w8]; decide) (by rw [w8]; decide) (by decide) ?_
        exact blk_join hlt hx hb hml hown hts hX hbl hK hE hNc hL hI (by omega) (by omega) kk hf ft fk fp n mk sz pl fo th hd mk2 sz2 ce as Hg Z H locs ls I0 hP hD hS hl
      by_cases w9 : w = 9
      · refine lv_tableIn (off := 769) (tgt := 809) hx hb dL_law_40 (by rw [w9]; decide) (by rw [w9]; decide) (by rw [w9]; decide) (by decide) ?_
        exact blk_pay hlt hx hb hml hown hts hX hbl hK hE hNc hL hI (by omega) (by omega) kk hf ft fk fp n mk sz pl fo th hd mk2 sz2 ce as Hg Z H locs ls I0 hP hD hS hl
      by_cases w10 : w = 10
      · refine lv_tableIn (off := 849) (tgt := 889) hx hb dL_law_40 (by rw [w10]; decide) (by rw [w10]; decide) (by rw [w10]; decide) (by decide) ?_
        exact blk_look hlt hx hb hml hown hts hX hbl hK hE hNc hL hI (by omega) (by omega) kk hf ft fk fp n mk sz pl fo th hd mk2 sz2 ce as Hg Z H locs ls I0 hP hD hS hl
      by_cases w11 : w = 11
      · refine lv_tableIn (off := 917) (tgt := 957) hx hb dL_law_40 (by rw [w11]; decide) (by rw [w11]; decide) (by rw [w11]; decide) (by decide) ?_
        exact blk_at hlt hx hb hml hown hts hX hbl hK hE hNc hL hI (by omega) (by omega) kk hf ft fk fp n mk sz pl fo th hd mk2 sz2 ce as Hg Z H locs ls I0 hP hD hS hl
      by_cases w12 : w = 12
      · refine lv_tableIn (off := 984) (tgt := 1024) hx hb dL_law_40 (by rw [w12]; decide) (by rw [w12]; decide) (by rw [w12]; decide) (by decide) ?_
        exact blk_person hlt hx hb hml hown hts hX hbl hK hE hNc hL hI (by omega) (by omega) kk hf ft fk fp n mk sz pl fo th hd mk2 sz2 ce as Hg Z H locs ls I0 hP hD hS hl
      by_cases w13 : w = 13
      · refine lv_tableIn (off := 1051) (tgt := 1091) hx hb dL_law_40 (by rw [w13]; decide) (by rw [w13]; decide) (by rw [w13]; decide) (by decide) ?_
        exact blk_count hlt hx hb hml hown hts hX hbl hK hE hNc hL hI (by omega) (by omega) kk hf ft fk fp n mk sz pl fo th hd mk2 sz2 ce as Hg Z H locs ls I0 hP hD hS hl
      refine lv_tableOut (tgt := 1104) hx hb dL_law_40 (tab14 w0 w1 w2 w3 w4 w5 w6 w7 w8 w9 w10 w11 w12 w13) (by decide) ?_
      refine W.widen (k := 35 + 3 * j + 3) (n := 1170 + 18 * j + 18) (by omega) (by omega) ?_
      exact kk hf ft fk fp n mk sz pl fo th hd mk2 sz2 ce as Hg Z H locs ls I0 hP hD hS hl
