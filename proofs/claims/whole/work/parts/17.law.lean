/-! THE CLAIM OUT OF ONE WALK OF THE LAW'S BODY. Your part is whole_start (and what it stands on); all else here is the same for every law, but numbers. -/
def R_law : String := "LadderGridLaw"
def lw_P (b : Addr) (xs : List Int32) (args : Array Value) (s : State) : Prop := args = #[.ref b] ∧ s.IntsAt b xs ∧ xs.length ≤ 2560 ∧ (Jvm.Cond.and given_1 narrow_1).before args s = true
def lw_Q (_ : Array Value) (s : State) (o : Outcome) (t : State) : Prop := o = .returned (some (.int 1)) ∧ Framed s o t [] 15 1627
def lw_Z (below : List Frame) (a : Array Value) (s : State) : State → Prop := fun t => ∃ o, t.status = .running ∧ Ended t below o ∧ lw_Q a s o t
/-- the law's own end, with 1 on the stack, nothing written that was there before, its room as the claim has it -/
theorem lw_ret {p : Program} {l : Launch} {e : Env} {s : State} {m : MethodId} {below : List Frame} {meth : Method} {c : Code} {b : Nat} (hx : p.tables.exec = Jvm.exec) (hb : c.code = code) (hr : meth.sig.returnType = ret) (hlocks : meth.locks = false) {pc : Nat} {H : Heap} {ls : Array Slot} (hdg : decode code pc = .ok (.ireturn, 1)) : W p l e room_1 s m #[Value.ref b] below meth c H [] 15 1627 (lw_Z below #[Value.ref b] s) (F0 m pc ls [.int 1]) := by
  intro T hT X
  obtain ⟨fs, hret, hrun, hended, hW, hframe⟩ := X.leave (v := some (.int 1)) (hlocks := hlocks) (fun h => by rw [hr] at h; cases h)
  have hmeth' : T.vm.method? m = some meth := X.method'
  refine ⟨T.setFrames fs, ?_, .returned (some (.int 1)), hrun, hended, rfl, ⟨_, rfl⟩, hW, hframe⟩
  jvm_step X.here [X.here.top, hx, hb, hdg, hmeth', hr, ret, narrow_b1]
  (try refine ⟨rfl, ?_⟩); (try refine ⟨rfl, ?_⟩)
  first | (intro acts; rw [hret _ acts rfl rfl rfl]) | rw [hret _ _ rfl rfl rfl]
  exact Steps.refl _
/-- what holds at the law's entry: the machine, the code, the tables' words (any of lw_tbl by 'hts w (by decide +kernel)'), the script of L ints xs at the cell b, what the Statement gives of the start (any of its parts by flat_of_before) -/
def lw_At (p : Program) (s : State) (m : MethodId) (meth : Method) (c : Code) (b L : Nat) (xs : Nat → Int32) : Prop :=
  p.tables.exec = Jvm.exec ∧ c.code = code ∧ meth.sig.returnType = ret ∧ c.maxLocals = 4 ∧ s.vm.findClass R_law = some m.cls ∧ (∀ w ∈ lw_tbl, w.before #[Value.ref b] s = true) ∧ va_X b L xs s s.heap ∧ b < s.heap.size ∧ meth.locks = false ∧ (Jvm.Cond.and given_1 narrow_1).before #[Value.ref b] s = true
set_option maxHeartbeats 4000000 in
set_option maxRecDepth 100000 in
/-- THE LAW'S LOOP: at its head class and reference hold one state -/
theorem law_loop {p : Program} {l : Launch} {e : Env} {s : State} {m : MethodId} {below : List Frame} {meth : Method} {c : Code} {dC : Nat → ClassId} {dI : Nat → Nat → Nat} {b L : Nat} {xs : Nat → Int32} (hL : L ≤ 2560) (C0 : lw_At p s m meth c b L xs) {tK : Nat}
    (hZ0 : va_Z RX0 "KIND_STEPS" "[I" (.ref tK) (fun q : Nat => s.heap.size ≤ q) s s.heap) (hT0 : va_T .int tK 10 gKS (fun q : Nat => s.heap.size ≤ q) s s.heap) (cA cZ : ClassId) (h qk qc qs ql qp qv gm ak ac ab al av ah ap : Nat) (hK : va_K (dC, dI) vwCl [(cA, .int), (cZ, .boolean)] s) :
    ∀ (n i : Nat), i ≤ L → L + 1 ≤ i + n → ∀ (fk fc fs fl fp fv ft : Nat → Int32) (rn cn : Nat) (sc : Int32), gInv fk fc fl fp fv rn cn → ∀ (H : Heap) (locs : List Loc), va_P (dC, dI) vwCl ((gw cA h qk qc qs ql qp qv fk fc fs fl fp fv (nI rn) (nI cn) sc) ++ (mw cA cZ gm ak ac ab al av ah ap fk fc fs fl fp fv ft (nI rn) (nI cn) sc)) H → va_D (fun q : Nat => s.heap.size ≤ q) ((gw cA h qk qc qs ql qp qv fk fc fs fl fp fv (nI rn) (nI cn) sc) ++ (mw cA cZ gm ak ac ab al av ah ap fk fc fs fl fp fv ft (nI rn) (nI cn) sc)) → va_S (fun q : Nat => s.heap.size ≤ q) s.heap H locs → ∀ (ls : Array Slot), lv_has ls 4 [(3, .int (nI i)), (2, .ref gm), (1, .ref h), (0, .ref b)] → W p l e room_1 s m #[Value.ref b] below meth c H locs 15 1627 (lw_Z below #[Value.ref b] s) (F0 m 18 ls []) := by
  obtain ⟨hx, hb, hr, hml, hown, hts, hX, hbl, hlocks, hgv⟩ := C0
  have hown : s.vm.findClass RL = some m.cls := hown
  have hts : ∀ w ∈ wsL_law, w.before #[Value.ref b] s = true := fun w h => hts w (wsL_law_in w h)
  have hA : ∀ q : Nat, s.heap.size ≤ q → (fun q : Nat => s.heap.size ≤ q) q := fun _ h => h
  have hbA : ¬ (fun q : Nat => s.heap.size ≤ q) b := Nat.not_le.mpr hbl
  intro n
  induction n with
  | zero =>
    intro i h1 h2
    exact absurd h2 (by omega)
  | succ n ih =>
    intro i hi hin fk fc fs fl fp fv ft rn cn sc hinv H locs hP hD hS ls hl
    obtain ⟨hrn, hcn, hkI, hcI, hfl, hlk, hfp, hfv, hco7⟩ := id hinv
    by_cases hlt : (L : Int) - ((5 : Nat) : Int) < (i : Int)
    · skip
      refine lv_iload_n hx hb dL_law_18 rfl (lv_at hl 0 rfl) ?_
      refine lv_aload_n hx hb dL_law_19 rfl (lv_at hl 3 rfl) ?_
      refine va_slen hx hb hX hbl hbA hS dL_law_20 ?_
      refine lv_iconst (v := nI 5) hx hb dL_law_21 (by decide) ?_
      refine lv_isub hx hb dL_law_22 ?_
      refine gz_icmp_gt (tgt := 373) (za := ((i : Nat) : Int)) (zb := ((L : Int) - ((5 : Nat) : Int))) hx hb dL_law_23 (by decide) (nI_toInt (by omega)) (pk_sub_toInt (a := L) (b := 5) (by omega) (by omega)) (fun c_1 => ?_) (fun c_1 => False.elim (by omega))
      refine lv_iconst (v := 1) hx hb dL_law_373 (by decide) ?_
      refine va_forget (fun q hq => hS.2.2 q hq) ?_
      exact lw_ret hx hb hr hlocks dL_law_374
    · skip
      refine lv_iload_n hx hb dL_law_18 rfl (lv_at hl 0 rfl) ?_
      refine lv_aload_n hx hb dL_law_19 rfl (lv_at hl 3 rfl) ?_
      refine va_slen hx hb hX hbl hbA hS dL_law_20 ?_
      refine lv_iconst (v := nI 5) hx hb dL_law_21 (by decide) ?_
      refine lv_isub hx hb dL_law_22 ?_
      refine gz_icmp_gt (tgt := 373) (za := ((i : Nat) : Int)) (zb := ((L : Int) - ((5 : Nat) : Int))) hx hb dL_law_23 (by decide) (nI_toInt (by omega)) (pk_sub_toInt (a := L) (b := 5) (by omega) (by omega)) (fun c_1 => False.elim (by omega)) (fun c_1 => ?_)
      refine lv_aload_n hx hb dL_law_26 rfl (lv_at hl 3 rfl) ?_
      refine lv_iload_n hx hb dL_law_27 rfl (lv_at hl 0 rfl) ?_
      refine gz_sld (k := i) hx hb hX hbl hbA hS (by omega) (by omega) dL_law_28 ?_
      refine lv_bipush (v := nI 15) hx hb dL_law_29 (by decide) ?_
      refine lv_iand hx hb dL_law_31 ?_
      obtain ⟨w, hw16, ew⟩ := pk_andE (xs i) (m := nI 15) 4 (by decide)
      refine gz_topI (y := nI w) ew ?_
      have hiL : i + 5 ≤ L := by omega
      by_cases hw0 : w = 0
      · subst hw0
        refine lv_tableIn (tgt := 84) hx hb dL_law_32 (by decide) (by decide) rfl (by decide) ?_
        by_cases hv : 1 ≤ (xs (i + 1)).toInt ∧ (xs (i + 1)).toInt ≤ 12 ∧ 1 ≤ (xs (i + 2)).toInt ∧ (xs (i + 2)).toInt ≤ 12
        · obtain ⟨a1, e1, z1⟩ := gz_nat (x := xs (i + 1)) (by omega)
          obtain ⟨a2, e2, z2⟩ := gz_nat (x := xs (i + 2)) (by omega)
          refine lv_aload_n hx hb dL_law_84 rfl (lv_at hl 2 rfl) ?_
          refine lv_aload_n hx hb dL_law_85 rfl (lv_at hl 3 rfl) ?_
          refine lv_iload_n hx hb dL_law_86 rfl (lv_at hl 0 rfl) ?_
          refine lv_iconst (v := nI 1) hx hb dL_law_87 (by decide) ?_
          refine gz_iadd (i := i) (j := 1) hx hb dL_law_88 ?_
          refine gz_sld (k := i + 1) hx hb hX hbl hbA hS (by omega) (by omega) dL_law_89 ?_
          refine gz_topI (y := nI a1) e1 ?_
          refine lv_aload_n hx hb dL_law_90 rfl (lv_at hl 3 rfl) ?_
          refine lv_iload_n hx hb dL_law_91 rfl (lv_at hl 0 rfl) ?_
          refine lv_iconst (v := nI 2) hx hb dL_law_92 (by decide) ?_
          refine gz_iadd (i := i) (j := 2) hx hb dL_law_93 ?_
          refine gz_sld (k := i + 2) hx hb hX hbl hbA hS (by omega) (by omega) dL_law_94 ?_
          refine gz_topI (y := nI a2) e2 ?_
          refine gz_calli (wc := (gw cA h qk qc qs ql qp qv fk fc fs fl fp fv (nI rn) (nI cn) sc)) (wr := (mw cA cZ gm ak ac ab al av ah ap fk fc fs fl fp fv ft (nI rn) (nI cn) sc)) hP hD hS hA [0, 1, 2, 3, 4, 5, 6] [7, 8, 9, 10, 11, 12, 13, 14] rfl rfl (by decide) (by decide) (va_runV (As := [.int (nI a1), .int (nI a2)]) (rest := []) ⟨hx, hb, hml, hown, hts⟩ (cG_begin l dC dI H.size cA cZ h qk qc qs ql qp qv fk fc fs fl fp fv rn cn sc a1 a2 hrn hcn (by omega) (by omega)) (cwV 2 hts gL_law_X0_begin rfl rfl rfl (by decide +kernel) ⟨Nat.le_of_ble_eq_true rfl, Nat.le_of_ble_eq_true rfl⟩) (gz_preVw (q := (RX0, TX0, 9)) (ci := 0) hK hP hD [0, 1, 2, 3, 4, 5, 6] (by decide) rfl rfl rfl rfl) rfl rfl hl.1 rfl (lv_room (Nat.le_of_ble_eq_true rfl)) dL_law_95 ⟨Nat.le_of_ble_eq_true rfl, Nat.le_of_ble_eq_true rfl⟩) (fun H locs hP hD hS => ?_)
          have hP := hP.sub (ws' := ((gw cA h qk qc qs ql qp qv (fun _ => nI 0) (fun _ => nI 0) (fun _ => nI 0) (fun _ => nI 0) fp fv (nI a1) (nI a2) (nI 0)) ++ (mw cA cZ gm ak ac ab al av ah ap fk fc fs fl fp fv ft (nI rn) (nI cn) sc))) [8, 9, 10, 11, 12, 13, 14, 0, 1, 2, 3, 4, 5, 6, 7] rfl
          have hD := hD.sub (ws' := ((gw cA h qk qc qs ql qp qv (fun _ => nI 0) (fun _ => nI 0) (fun _ => nI 0) (fun _ => nI 0) fp fv (nI a1) (nI a2) (nI 0)) ++ (mw cA cZ gm ak ac ab al av ah ap fk fc fs fl fp fv ft (nI rn) (nI cn) sc))) [8, 9, 10, 11, 12, 13, 14, 0, 1, 2, 3, 4, 5, 6, 7] (by decide) rfl
          refine lv_aload_n hx hb dL_law_98 rfl (lv_at hl 1 rfl) ?_
          refine lv_aload_n hx hb dL_law_99 rfl (lv_at hl 3 rfl) ?_
          refine lv_iload_n hx hb dL_law_100 rfl (lv_at hl 0 rfl) ?_
          refine lv_iconst (v := nI 1) hx hb dL_law_101 (by decide) ?_
          refine gz_iadd (i := i) (j := 1) hx hb dL_law_102 ?_
          refine gz_sld (k := i + 1) hx hb hX hbl hbA hS (by omega) (by omega) dL_law_103 ?_
          refine gz_topI (y := nI a1) e1 ?_
          refine lv_aload_n hx hb dL_law_104 rfl (lv_at hl 3 rfl) ?_
          refine lv_iload_n hx hb dL_law_105 rfl (lv_at hl 0 rfl) ?_
          refine lv_iconst (v := nI 2) hx hb dL_law_106 (by decide) ?_
          refine gz_iadd (i := i) (j := 2) hx hb dL_law_107 ?_
          refine gz_sld (k := i + 2) hx hb hX hbl hbA hS (by omega) (by omega) dL_law_108 ?_
          refine gz_topI (y := nI a2) e2 ?_
          refine gz_calli (wc := (mw cA cZ gm ak ac ab al av ah ap fk fc fs fl fp fv ft (nI rn) (nI cn) sc)) (wr := (gw cA h qk qc qs ql qp qv (fun _ => nI 0) (fun _ => nI 0) (fun _ => nI 0) (fun _ => nI 0) fp fv (nI a1) (nI a2) (nI 0))) hP hD hS hA [7, 8, 9, 10, 11, 12, 13, 14] [0, 1, 2, 3, 4, 5, 6] rfl rfl (by decide) (by decide) (va_runV (As := [.int (nI a1), .int (nI a2)]) (rest := [.int (nI 0)]) ⟨hx, hb, hml, hown, hts⟩ (cM_begin l dC dI H.size cA cZ gm ak ac ab al av ah ap fk fc fs fl fp fv ft (nI rn) (nI cn) sc a1 a2 (by omega) (by omega)) (cwV 2 hts gL_law_X1_begin rfl rfl rfl (by decide +kernel) ⟨Nat.le_of_ble_eq_true rfl, Nat.le_of_ble_eq_true rfl⟩) (gz_preVw (q := (RX1, TX1, 10)) (ci := 1) hK hP hD [7, 8, 9, 10, 11, 12, 13, 14] (by decide) rfl rfl rfl rfl) rfl rfl hl.1 rfl (lv_room (Nat.le_of_ble_eq_true rfl)) dL_law_109 ⟨Nat.le_of_ble_eq_true rfl, Nat.le_of_ble_eq_true rfl⟩) (fun H locs hP hD hS => ?_)
          have hP : va_P (dC, dI) vwCl ((gw cA h qk qc qs ql qp qv (fun _ => nI 0) (fun _ => nI 0) (fun _ => nI 0) (fun _ => nI 0) fp fv (nI a1) (nI a2) (nI 0)) ++ (mw cA cZ gm ak ac ab al av ah ap (fun _ => nI 0) (fun _ => nI 0) (fun _ => nI 0) (fun _ => nI 0) fp fv ft (nI a1) (nI a2) (nI 0))) H := hP
          have hD : va_D (fun q : Nat => s.heap.size ≤ q) ((gw cA h qk qc qs ql qp qv (fun _ => nI 0) (fun _ => nI 0) (fun _ => nI 0) (fun _ => nI 0) fp fv (nI a1) (nI a2) (nI 0)) ++ (mw cA cZ gm ak ac ab al av ah ap (fun _ => nI 0) (fun _ => nI 0) (fun _ => nI 0) (fun _ => nI 0) fp fv ft (nI a1) (nI a2) (nI 0))) := hD
          refine gz_icmp_eq (tgt := 367) (za := ((0 : Nat) : Int)) (zb := ((0 : Nat) : Int)) hx hb dL_law_112 (by decide) (nI_toInt (by omega)) (nI_toInt (by omega)) (fun c_1 => ?_) (fun c_1 => False.elim (c_1 rfl))
          refine lv_iinc (v := nI (i + 5)) (lv' := [(3, .int (nI (i + 5))), (2, .ref gm), (1, .ref h), (0, .ref b)]) hx hb dL_law_367 hl (k := 0) rfl (nI_add _ 5) (by decide) rfl (fun ls hl => ?_)
          refine lv_goto (tgt := 18) hx hb dL_law_370 (by decide) ?_
          exact ih (i + 5) (by omega) (by omega) (fun _ => nI 0) (fun _ => nI 0) (fun _ => nI 0) (fun _ => nI 0) fp fv ft a1 a2 (nI 0) (gInv_begin hfp hfv (by omega) (by omega)) H locs hP hD hS ls (lv_sub hl [0, 1, 2, 3] rfl)
        · skip
          refine lv_aload_n hx hb dL_law_84 rfl (lv_at hl 2 rfl) ?_
          refine lv_aload_n hx hb dL_law_85 rfl (lv_at hl 3 rfl) ?_
          refine lv_iload_n hx hb dL_law_86 rfl (lv_at hl 0 rfl) ?_
          refine lv_iconst (v := nI 1) hx hb dL_law_87 (by decide) ?_
          refine gz_iadd (i := i) (j := 1) hx hb dL_law_88 ?_
          refine gz_sld (k := i + 1) hx hb hX hbl hbA hS (by omega) (by omega) dL_law_89 ?_
          refine lv_aload_n hx hb dL_law_90 rfl (lv_at hl 3 rfl) ?_
          refine lv_iload_n hx hb dL_law_91 rfl (lv_at hl 0 rfl) ?_
          refine lv_iconst (v := nI 2) hx hb dL_law_92 (by decide) ?_
          refine gz_iadd (i := i) (j := 2) hx hb dL_law_93 ?_
          refine gz_sld (k := i + 2) hx hb hX hbl hbA hS (by omega) (by omega) dL_law_94 ?_
          refine gz_callR (W.runV (As := [.int (xs (i + 1)), .int (xs (i + 2))]) (rest := []) ⟨hx, hb, hml, hown, hts⟩ (cG_begin_bad l dC dI cA cZ h qk qc qs ql qp qv fk fc fs fl fp fv rn cn sc (xs (i + 1)) (xs (i + 2)) hrn hcn hv) (cwV 2 hts gL_law_X0_begin rfl rfl rfl (by decide +kernel) ⟨Nat.le_of_ble_eq_true rfl, Nat.le_of_ble_eq_true rfl⟩) (gz_preV (q := (RX0, TX0, 9)) (ci := 0) hK hP [0, 1, 2, 3, 4, 5, 6] rfl rfl rfl) rfl rfl hl.1 rfl (lv_room (Nat.le_of_ble_eq_true rfl)) dL_law_95 ⟨Nat.le_of_ble_eq_true rfl, Nat.le_of_ble_eq_true rfl⟩) ?_
          refine lv_aload_n hx hb dL_law_98 rfl (lv_at hl 1 rfl) ?_
          refine lv_aload_n hx hb dL_law_99 rfl (lv_at hl 3 rfl) ?_
          refine lv_iload_n hx hb dL_law_100 rfl (lv_at hl 0 rfl) ?_
          refine lv_iconst (v := nI 1) hx hb dL_law_101 (by decide) ?_
          refine gz_iadd (i := i) (j := 1) hx hb dL_law_102 ?_
          refine gz_sld (k := i + 1) hx hb hX hbl hbA hS (by omega) (by omega) dL_law_103 ?_
          refine lv_aload_n hx hb dL_law_104 rfl (lv_at hl 3 rfl) ?_
          refine lv_iload_n hx hb dL_law_105 rfl (lv_at hl 0 rfl) ?_
          refine lv_iconst (v := nI 2) hx hb dL_law_106 (by decide) ?_
          refine gz_iadd (i := i) (j := 2) hx hb dL_law_107 ?_
          refine gz_sld (k := i + 2) hx hb hX hbl hbA hS (by omega) (by omega) dL_law_108 ?_
          refine gz_callR (W.runV (As := [.int (xs (i + 1)), .int (xs (i + 2))]) (rest := [.int ((-1))]) ⟨hx, hb, hml, hown, hts⟩ (cM_begin_bad l dC dI cA cZ gm ak ac ab al av ah ap fk fc fs fl fp fv ft rn cn sc (xs (i + 1)) (xs (i + 2)) hrn hcn hv) (cwV 2 hts gL_law_X1_begin rfl rfl rfl (by decide +kernel) ⟨Nat.le_of_ble_eq_true rfl, Nat.le_of_ble_eq_true rfl⟩) (gz_preV (q := (RX1, TX1, 10)) (ci := 1) hK hP [7, 8, 9, 10, 11, 12, 13, 14] rfl rfl rfl) rfl rfl hl.1 rfl (lv_room (Nat.le_of_ble_eq_true rfl)) dL_law_109 ⟨Nat.le_of_ble_eq_true rfl, Nat.le_of_ble_eq_true rfl⟩) ?_
          refine lv_icmp_eq (tgt := 367) hx hb dL_law_112 (by decide) (fun c_1 => ?_) (fun c_1 => False.elim (c_1 rfl))
          refine lv_iinc (v := nI (i + 5)) (lv' := [(3, .int (nI (i + 5))), (2, .ref gm), (1, .ref h), (0, .ref b)]) hx hb dL_law_367 hl (k := 0) rfl (nI_add _ 5) (by decide) rfl (fun ls hl => ?_)
          refine lv_goto (tgt := 18) hx hb dL_law_370 (by decide) ?_
          exact ih (i + 5) (by omega) (by omega) fk fc fs fl fp fv ft rn cn sc hinv H locs hP hD hS ls (lv_sub hl [0, 1, 2, 3] rfl)
      by_cases hw1 : w = 1
      · subst hw1
        refine lv_tableIn (tgt := 117) hx hb dL_law_32 (by decide) (by decide) rfl (by decide) ?_
        by_cases hv : 0 ≤ (xs (i + 1)).toInt ∧ (xs (i + 1)).toInt < (rn : Int) ∧ 0 ≤ (xs (i + 2)).toInt ∧ (xs (i + 2)).toInt < (cn : Int) ∧ 0 ≤ (xs (i + 3)).toInt ∧ (xs (i + 3)).toInt ≤ 9 ∧ ((xs (i + 3)).toInt < 2 ∨ (0 ≤ (xs (i + 4)).toInt ∧ (xs (i + 4)).toInt < 40)) ∧ ((xs (i + 3)).toInt < 6 ∨ (xs (i + 2)).toInt + 1 = (cn : Int))
        · obtain ⟨a1, e1, z1⟩ := gz_nat (x := xs (i + 1)) (by omega)
          obtain ⟨a2, e2, z2⟩ := gz_nat (x := xs (i + 2)) (by omega)
          obtain ⟨a3, e3, z3⟩ := gz_nat (x := xs (i + 3)) (by omega)
          refine lv_aload_n hx hb dL_law_117 rfl (lv_at hl 2 rfl) ?_
          refine lv_aload_n hx hb dL_law_118 rfl (lv_at hl 3 rfl) ?_
          refine lv_iload_n hx hb dL_law_119 rfl (lv_at hl 0 rfl) ?_
          refine lv_iconst (v := nI 1) hx hb dL_law_120 (by decide) ?_
          refine gz_iadd (i := i) (j := 1) hx hb dL_law_121 ?_
          refine gz_sld (k := i + 1) hx hb hX hbl hbA hS (by omega) (by omega) dL_law_122 ?_
          refine gz_topI (y := nI a1) e1 ?_
          refine lv_aload_n hx hb dL_law_123 rfl (lv_at hl 3 rfl) ?_
          refine lv_iload_n hx hb dL_law_124 rfl (lv_at hl 0 rfl) ?_
          refine lv_iconst (v := nI 2) hx hb dL_law_125 (by decide) ?_
          refine gz_iadd (i := i) (j := 2) hx hb dL_law_126 ?_
          refine gz_sld (k := i + 2) hx hb hX hbl hbA hS (by omega) (by omega) dL_law_127 ?_
          refine gz_topI (y := nI a2) e2 ?_
          refine lv_aload_n hx hb dL_law_128 rfl (lv_at hl 3 rfl) ?_
          refine lv_iload_n hx hb dL_law_129 rfl (lv_at hl 0 rfl) ?_
          refine lv_iconst (v := nI 3) hx hb dL_law_130 (by decide) ?_
          refine gz_iadd (i := i) (j := 3) hx hb dL_law_131 ?_
          refine gz_sld (k := i + 3) hx hb hX hbl hbA hS (by omega) (by omega) dL_law_132 ?_
          refine gz_topI (y := nI a3) e3 ?_
          refine lv_aload_n hx hb dL_law_133 rfl (lv_at hl 3 rfl) ?_
          refine lv_iload_n hx hb dL_law_134 rfl (lv_at hl 0 rfl) ?_
          refine lv_iconst (v := nI 4) hx hb dL_law_135 (by decide) ?_
          refine gz_iadd (i := i) (j := 4) hx hb dL_law_136 ?_
          refine gz_sld (k := i + 4) hx hb hX hbl hbA hS (by omega) (by omega) dL_law_137 ?_
          refine gz_calli (wc := (gw cA h qk qc qs ql qp qv fk fc fs fl fp fv (nI rn) (nI cn) sc)) (wr := (mw cA cZ gm ak ac ab al av ah ap fk fc fs fl fp fv ft (nI rn) (nI cn) sc)) hP hD hS hA [0, 1, 2, 3, 4, 5, 6] [7, 8, 9, 10, 11, 12, 13, 14] rfl rfl (by decide) (by decide) (va_runV (As := [.int (nI a1), .int (nI a2), .int (nI a3), .int (xs (i + 4))]) (rest := []) ⟨hx, hb, hml, hown, hts⟩ (cG_cell l dC dI H.size cA cZ h qk qc qs ql qp qv fk fc fs fl fp fv rn cn sc a1 a2 a3 (xs (i + 4)) hrn hcn (by omega) (by omega) (by omega) (by omega) (by omega)) (cwV 4 hts gL_law_X0_cell rfl rfl rfl (by decide +kernel) ⟨Nat.le_of_ble_eq_true rfl, Nat.le_of_ble_eq_true rfl⟩) (gz_preVw (q := (RX0, TX0, 9)) (ci := 0) hK hP hD [0, 1, 2, 3, 4, 5, 6] (by decide) rfl rfl rfl rfl) rfl rfl hl.1 rfl (lv_room (Nat.le_of_ble_eq_true rfl)) dL_law_138 ⟨Nat.le_of_ble_eq_true rfl, Nat.le_of_ble_eq_true rfl⟩) (fun H locs hP hD hS => ?_)
          have hP := hP.sub (ws' := ((gw cA h qk qc qs ql qp qv (upd fk (a1 * 12 + a2) (nI a3)) (upd fc (a1 * 12 + a2) (if 2 ≤ a3 then xs (i + 4) else nI 0)) (upd fs (a1 * 12 + a2) (nI 0)) fl fp fv (nI rn) (nI cn) (nI 0)) ++ (mw cA cZ gm ak ac ab al av ah ap fk fc fs fl fp fv ft (nI rn) (nI cn) sc))) [8, 9, 10, 11, 12, 13, 14, 0, 1, 2, 3, 4, 5, 6, 7] rfl
          have hD := hD.sub (ws' := ((gw cA h qk qc qs ql qp qv (upd fk (a1 * 12 + a2) (nI a3)) (upd fc (a1 * 12 + a2) (if 2 ≤ a3 then xs (i + 4) else nI 0)) (upd fs (a1 * 12 + a2) (nI 0)) fl fp fv (nI rn) (nI cn) (nI 0)) ++ (mw cA cZ gm ak ac ab al av ah ap fk fc fs fl fp fv ft (nI rn) (nI cn) sc))) [8, 9, 10, 11, 12, 13, 14, 0, 1, 2, 3, 4, 5, 6, 7] (by decide) rfl
          refine lv_aload_n hx hb dL_law_141 rfl (lv_at hl 1 rfl) ?_
          refine lv_aload_n hx hb dL_law_142 rfl (lv_at hl 3 rfl) ?_
          refine lv_iload_n hx hb dL_law_143 rfl (lv_at hl 0 rfl) ?_
          refine lv_iconst (v := nI 1) hx hb dL_law_144 (by decide) ?_
          refine gz_iadd (i := i) (j := 1) hx hb dL_law_145 ?_
          refine gz_sld (k := i + 1) hx hb hX hbl hbA hS (by omega) (by omega) dL_law_146 ?_
          refine gz_topI (y := nI a1) e1 ?_
          refine lv_aload_n hx hb dL_law_147 rfl (lv_at hl 3 rfl) ?_
          refine lv_iload_n hx hb dL_law_148 rfl (lv_at hl 0 rfl) ?_
          refine lv_iconst (v := nI 2) hx hb dL_law_149 (by decide) ?_
          refine gz_iadd (i := i) (j := 2) hx hb dL_law_150 ?_
          refine gz_sld (k := i + 2) hx hb hX hbl hbA hS (by omega) (by omega) dL_law_151 ?_
          refine gz_topI (y := nI a2) e2 ?_
          refine lv_aload_n hx hb dL_law_152 rfl (lv_at hl 3 rfl) ?_
          refine lv_iload_n hx hb dL_law_153 rfl (lv_at hl 0 rfl) ?_
          refine lv_iconst (v := nI 3) hx hb dL_law_154 (by decide) ?_
          refine gz_iadd (i := i) (j := 3) hx hb dL_law_155 ?_
          refine gz_sld (k := i + 3) hx hb hX hbl hbA hS (by omega) (by omega) dL_law_156 ?_
          refine gz_topI (y := nI a3) e3 ?_
          refine lv_aload_n hx hb dL_law_157 rfl (lv_at hl 3 rfl) ?_
          refine lv_iload_n hx hb dL_law_158 rfl (lv_at hl 0 rfl) ?_
          refine lv_iconst (v := nI 4) hx hb dL_law_159 (by decide) ?_
          refine gz_iadd (i := i) (j := 4) hx hb dL_law_160 ?_
          refine gz_sld (k := i + 4) hx hb hX hbl hbA hS (by omega) (by omega) dL_law_161 ?_
          refine gz_calli (wc := (mw cA cZ gm ak ac ab al av ah ap fk fc fs fl fp fv ft (nI rn) (nI cn) sc)) (wr := (gw cA h qk qc qs ql qp qv (upd fk (a1 * 12 + a2) (nI a3)) (upd fc (a1 * 12 + a2) (if 2 ≤ a3 then xs (i + 4) else nI 0)) (upd fs (a1 * 12 + a2) (nI 0)) fl fp fv (nI rn) (nI cn) (nI 0))) hP hD hS hA [7, 8, 9, 10, 11, 12, 13, 14] [0, 1, 2, 3, 4, 5, 6] rfl rfl (by decide) (by decide) (va_runV (As := [.int (nI a1), .int (nI a2), .int (nI a3), .int (xs (i + 4))]) (rest := [.int (fk (a1 * 12 + a2))]) ⟨hx, hb, hml, hown, hts⟩ (cM_cell l dC dI H.size cA cZ gm ak ac ab al av ah ap fk fc fs fl fp fv ft rn cn sc a1 a2 a3 (xs (i + 4)) hrn hcn (by omega) (by omega) (by omega) (by omega) (by omega)) (cwV 4 hts gL_law_X1_cell rfl rfl rfl (by decide +kernel) ⟨Nat.le_of_ble_eq_true rfl, Nat.le_of_ble_eq_true rfl⟩) (gz_preVw (q := (RX1, TX1, 10)) (ci := 1) hK hP hD [7, 8, 9, 10, 11, 12, 13, 14] (by decide) rfl rfl rfl rfl) rfl rfl hl.1 rfl (lv_room (Nat.le_of_ble_eq_true rfl)) dL_law_162 ⟨Nat.le_of_ble_eq_true rfl, Nat.le_of_ble_eq_true rfl⟩) (fun H locs hP hD hS => ?_)
          have hP : va_P (dC, dI) vwCl ((gw cA h qk qc qs ql qp qv (upd fk (a1 * 12 + a2) (nI a3)) (upd fc (a1 * 12 + a2) (if 2 ≤ a3 then xs (i + 4) else nI 0)) (upd fs (a1 * 12 + a2) (nI 0)) fl fp fv (nI rn) (nI cn) (nI 0)) ++ (mw cA cZ gm ak ac ab al av ah ap (upd fk (a1 * 12 + a2) (nI a3)) (upd fc (a1 * 12 + a2) (if 2 ≤ a3 then xs (i + 4) else nI 0)) (upd fs (a1 * 12 + a2) (nI 0)) fl fp fv ft (nI rn) (nI cn) (nI 0))) H := hP
          have hD : va_D (fun q : Nat => s.heap.size ≤ q) ((gw cA h qk qc qs ql qp qv (upd fk (a1 * 12 + a2) (nI a3)) (upd fc (a1 * 12 + a2) (if 2 ≤ a3 then xs (i + 4) else nI 0)) (upd fs (a1 * 12 + a2) (nI 0)) fl fp fv (nI rn) (nI cn) (nI 0)) ++ (mw cA cZ gm ak ac ab al av ah ap (upd fk (a1 * 12 + a2) (nI a3)) (upd fc (a1 * 12 + a2) (if 2 ≤ a3 then xs (i + 4) else nI 0)) (upd fs (a1 * 12 + a2) (nI 0)) fl fp fv ft (nI rn) (nI cn) (nI 0))) := hD
          refine lv_icmp_eq (tgt := 367) hx hb dL_law_165 (by decide) (fun c_1 => ?_) (fun c_1 => False.elim (c_1 rfl))
          refine lv_iinc (v := nI (i + 5)) (lv' := [(3, .int (nI (i + 5))), (2, .ref gm), (1, .ref h), (0, .ref b)]) hx hb dL_law_367 hl (k := 0) rfl (nI_add _ 5) (by decide) rfl (fun ls hl => ?_)
          refine lv_goto (tgt := 18) hx hb dL_law_370 (by decide) ?_
          exact ih (i + 5) (by omega) (by omega) (upd fk (a1 * 12 + a2) (nI a3)) (upd fc (a1 * 12 + a2) (if 2 ≤ a3 then xs (i + 4) else nI 0)) (upd fs (a1 * 12 + a2) (nI 0)) fl fp fv ft rn cn (nI 0) (gInv_cell hinv (by omega) (by omega) (by omega) (by omega) (by omega)) H locs hP hD hS ls (lv_sub hl [0, 1, 2, 3] rfl)
        · skip
          refine lv_aload_n hx hb dL_law_117 rfl (lv_at hl 2 rfl) ?_
          refine lv_aload_n hx hb dL_law_118 rfl (lv_at hl 3 rfl) ?_
          refine lv_iload_n hx hb dL_law_119 rfl (lv_at hl 0 rfl) ?_
          refine lv_iconst (v := nI 1) hx hb dL_law_120 (by decide) ?_
          refine gz_iadd (i := i) (j := 1) hx hb dL_law_121 ?_
          refine gz_sld (k := i + 1) hx hb hX hbl hbA hS (by omega) (by omega) dL_law_122 ?_
          refine lv_aload_n hx hb dL_law_123 rfl (lv_at hl 3 rfl) ?_
          refine lv_iload_n hx hb dL_law_124 rfl (lv_at hl 0 rfl) ?_
          refine lv_iconst (v := nI 2) hx hb dL_law_125 (by decide) ?_
          refine gz_iadd (i := i) (j := 2) hx hb dL_law_126 ?_
          refine gz_sld (k := i + 2) hx hb hX hbl hbA hS (by omega) (by omega) dL_law_127 ?_
          refine lv_aload_n hx hb dL_law_128 rfl (lv_at hl 3 rfl) ?_
          refine lv_iload_n hx hb dL_law_129 rfl (lv_at hl 0 rfl) ?_
          refine lv_iconst (v := nI 3) hx hb dL_law_130 (by decide) ?_
          refine gz_iadd (i := i) (j := 3) hx hb dL_law_131 ?_
          refine gz_sld (k := i + 3) hx hb hX hbl hbA hS (by omega) (by omega) dL_law_132 ?_
          refine lv_aload_n hx hb dL_law_133 rfl (lv_at hl 3 rfl) ?_
          refine lv_iload_n hx hb dL_law_134 rfl (lv_at hl 0 rfl) ?_
          refine lv_iconst (v := nI 4) hx hb dL_law_135 (by decide) ?_
          refine gz_iadd (i := i) (j := 4) hx hb dL_law_136 ?_
          refine gz_sld (k := i + 4) hx hb hX hbl hbA hS (by omega) (by omega) dL_law_137 ?_
          refine gz_callR (W.runV (As := [.int (xs (i + 1)), .int (xs (i + 2)), .int (xs (i + 3)), .int (xs (i + 4))]) (rest := []) ⟨hx, hb, hml, hown, hts⟩ (cG_cell_bad l dC dI cA cZ h qk qc qs ql qp qv fk fc fs fl fp fv rn cn sc (xs (i + 1)) (xs (i + 2)) (xs (i + 3)) (xs (i + 4)) hrn hcn hv) (cwV 4 hts gL_law_X0_cell rfl rfl rfl (by decide +kernel) ⟨Nat.le_of_ble_eq_true rfl, Nat.le_of_ble_eq_true rfl⟩) (gz_preV (q := (RX0, TX0, 9)) (ci := 0) hK hP [0, 1, 2, 3, 4, 5, 6] rfl rfl rfl) rfl rfl hl.1 rfl (lv_room (Nat.le_of_ble_eq_true rfl)) dL_law_138 ⟨Nat.le_of_ble_eq_true rfl, Nat.le_of_ble_eq_true rfl⟩) ?_
          refine lv_aload_n hx hb dL_law_141 rfl (lv_at hl 1 rfl) ?_
          refine lv_aload_n hx hb dL_law_142 rfl (lv_at hl 3 rfl) ?_
          refine lv_iload_n hx hb dL_law_143 rfl (lv_at hl 0 rfl) ?_
          refine lv_iconst (v := nI 1) hx hb dL_law_144 (by decide) ?_
          refine gz_iadd (i := i) (j := 1) hx hb dL_law_145 ?_
          refine gz_sld (k := i + 1) hx hb hX hbl hbA hS (by omega) (by omega) dL_law_146 ?_
          refine lv_aload_n hx hb dL_law_147 rfl (lv_at hl 3 rfl) ?_
          refine lv_iload_n hx hb dL_law_148 rfl (lv_at hl 0 rfl) ?_
          refine lv_iconst (v := nI 2) hx hb dL_law_149 (by decide) ?_
          refine gz_iadd (i := i) (j := 2) hx hb dL_law_150 ?_
          refine gz_sld (k := i + 2) hx hb hX hbl hbA hS (by omega) (by omega) dL_law_151 ?_
          refine lv_aload_n hx hb dL_law_152 rfl (lv_at hl 3 rfl) ?_
          refine lv_iload_n hx hb dL_law_153 rfl (lv_at hl 0 rfl) ?_
          refine lv_iconst (v := nI 3) hx hb dL_law_154 (by decide) ?_
          refine gz_iadd (i := i) (j := 3) hx hb dL_law_155 ?_
          refine gz_sld (k := i + 3) hx hb hX hbl hbA hS (by omega) (by omega) dL_law_156 ?_
          refine lv_aload_n hx hb dL_law_157 rfl (lv_at hl 3 rfl) ?_
          refine lv_iload_n hx hb dL_law_158 rfl (lv_at hl 0 rfl) ?_
          refine lv_iconst (v := nI 4) hx hb dL_law_159 (by decide) ?_
          refine gz_iadd (i := i) (j := 4) hx hb dL_law_160 ?_
          refine gz_sld (k := i + 4) hx hb hX hbl hbA hS (by omega) (by omega) dL_law_161 ?_
          refine gz_callR (W.runV (As := [.int (xs (i + 1)), .int (xs (i + 2)), .int (xs (i + 3)), .int (xs (i + 4))]) (rest := [.int ((-1))]) ⟨hx, hb, hml, hown, hts⟩ (cM_cell_bad l dC dI cA cZ gm ak ac ab al av ah ap fk fc fs fl fp fv ft rn cn sc (xs (i + 1)) (xs (i + 2)) (xs (i + 3)) (xs (i + 4)) hrn hcn hv) (cwV 4 hts gL_law_X1_cell rfl rfl rfl (by decide +kernel) ⟨Nat.le_of_ble_eq_true rfl, Nat.le_of_ble_eq_true rfl⟩) (gz_preV (q := (RX1, TX1, 10)) (ci := 1) hK hP [7, 8, 9, 10, 11, 12, 13, 14] rfl rfl rfl) rfl rfl hl.1 rfl (lv_room (Nat.le_of_ble_eq_true rfl)) dL_law_162 ⟨Nat.le_of_ble_eq_true rfl, Nat.le_of_ble_eq_true rfl⟩) ?_
          refine lv_icmp_eq (tgt := 367) hx hb dL_law_165 (by decide) (fun c_1 => ?_) (fun c_1 => False.elim (c_1 rfl))
          refine lv_iinc (v := nI (i + 5)) (lv' := [(3, .int (nI (i + 5))), (2, .ref gm), (1, .ref h), (0, .ref b)]) hx hb dL_law_367 hl (k := 0) rfl (nI_add _ 5) (by decide) rfl (fun ls hl => ?_)
          refine lv_goto (tgt := 18) hx hb dL_law_370 (by decide) ?_
          exact ih (i + 5) (by omega) (by omega) fk fc fs fl fp fv ft rn cn sc hinv H locs hP hD hS ls (lv_sub hl [0, 1, 2, 3] rfl)
      by_cases hw2 : w = 2
      · subst hw2
        refine lv_tableIn (tgt := 170) hx hb dL_law_32 (by decide) (by decide) rfl (by decide) ?_
        by_cases hv : 0 ≤ (xs (i + 1)).toInt ∧ (xs (i + 1)).toInt + 1 < (rn : Int) ∧ 1 ≤ (xs (i + 2)).toInt ∧ (xs (i + 2)).toInt < (cn : Int)
        · obtain ⟨a1, e1, z1⟩ := gz_nat (x := xs (i + 1)) (by omega)
          obtain ⟨a2, e2, z2⟩ := gz_nat (x := xs (i + 2)) (by omega)
          by_cases hz : xs (i + 3) = 0
          · skip
            refine lv_aload_n hx hb dL_law_170 rfl (lv_at hl 2 rfl) ?_
            refine lv_aload_n hx hb dL_law_171 rfl (lv_at hl 3 rfl) ?_
            refine lv_iload_n hx hb dL_law_172 rfl (lv_at hl 0 rfl) ?_
            refine lv_iconst (v := nI 1) hx hb dL_law_173 (by decide) ?_
            refine gz_iadd (i := i) (j := 1) hx hb dL_law_174 ?_
            refine gz_sld (k := i + 1) hx hb hX hbl hbA hS (by omega) (by omega) dL_law_175 ?_
            refine gz_topI (y := nI a1) e1 ?_
            refine lv_aload_n hx hb dL_law_176 rfl (lv_at hl 3 rfl) ?_
            refine lv_iload_n hx hb dL_law_177 rfl (lv_at hl 0 rfl) ?_
            refine lv_iconst (v := nI 2) hx hb dL_law_178 (by decide) ?_
            refine gz_iadd (i := i) (j := 2) hx hb dL_law_179 ?_
            refine gz_sld (k := i + 2) hx hb hX hbl hbA hS (by omega) (by omega) dL_law_180 ?_
            refine gz_topI (y := nI a2) e2 ?_
            refine lv_aload_n hx hb dL_law_181 rfl (lv_at hl 3 rfl) ?_
            refine lv_iload_n hx hb dL_law_182 rfl (lv_at hl 0 rfl) ?_
            refine lv_iconst (v := nI 3) hx hb dL_law_183 (by decide) ?_
            refine gz_iadd (i := i) (j := 3) hx hb dL_law_184 ?_
            refine gz_sld (k := i + 3) hx hb hX hbl hbA hS (by omega) (by omega) dL_law_185 ?_
            refine lv_if_eq (tgt := 193) hx hb dL_law_186 (by decide) (fun c_1 => ?_) (fun c_1 => False.elim (c_1 hz))
            refine lv_iconst (v := nI 0) hx hb dL_law_193 (by decide) ?_
            refine gz_calli (wc := (gw cA h qk qc qs ql qp qv fk fc fs fl fp fv (nI rn) (nI cn) sc)) (wr := (mw cA cZ gm ak ac ab al av ah ap fk fc fs fl fp fv ft (nI rn) (nI cn) sc)) hP hD hS hA [0, 1, 2, 3, 4, 5, 6] [7, 8, 9, 10, 11, 12, 13, 14] rfl rfl (by decide) (by decide) (va_runV (As := [.int (nI a1), .int (nI a2), .int (nI 0)]) (rest := []) ⟨hx, hb, hml, hown, hts⟩ (cG_link l dC dI H.size cA cZ h qk qc qs ql qp qv fk fc fs fl fp fv rn cn sc a1 a2 (nI 0) hrn hcn (by omega) (by omega) (Or.inl rfl)) (cwV 3 hts gL_law_X0_link rfl rfl rfl (by decide +kernel) ⟨Nat.le_of_ble_eq_true rfl, Nat.le_of_ble_eq_true rfl⟩) (gz_preVw (q := (RX0, TX0, 9)) (ci := 0) hK hP hD [0, 1, 2, 3, 4, 5, 6] (by decide) rfl rfl rfl rfl) rfl rfl hl.1 rfl (lv_room (Nat.le_of_ble_eq_true rfl)) dL_law_194 ⟨Nat.le_of_ble_eq_true rfl, Nat.le_of_ble_eq_true rfl⟩) (fun H locs hP hD hS => ?_)
            have hP := hP.sub (ws' := ((gw cA h qk qc qs ql qp qv fk fc fs (upd fl (a1 * 13 + a2) (nI 0)) fp fv (nI rn) (nI cn) (nI 0)) ++ (mw cA cZ gm ak ac ab al av ah ap fk fc fs fl fp fv ft (nI rn) (nI cn) sc))) [8, 9, 10, 11, 12, 13, 14, 0, 1, 2, 3, 4, 5, 6, 7] rfl
            have hD := hD.sub (ws' := ((gw cA h qk qc qs ql qp qv fk fc fs (upd fl (a1 * 13 + a2) (nI 0)) fp fv (nI rn) (nI cn) (nI 0)) ++ (mw cA cZ gm ak ac ab al av ah ap fk fc fs fl fp fv ft (nI rn) (nI cn) sc))) [8, 9, 10, 11, 12, 13, 14, 0, 1, 2, 3, 4, 5, 6, 7] (by decide) rfl
            refine lv_aload_n hx hb dL_law_197 rfl (lv_at hl 1 rfl) ?_
            refine lv_aload_n hx hb dL_law_198 rfl (lv_at hl 3 rfl) ?_
            refine lv_iload_n hx hb dL_law_199 rfl (lv_at hl 0 rfl) ?_
            refine lv_iconst (v := nI 1) hx hb dL_law_200 (by decide) ?_
            refine gz_iadd (i := i) (j := 1) hx hb dL_law_201 ?_
            refine gz_sld (k := i + 1) hx hb hX hbl hbA hS (by omega) (by omega) dL_law_202 ?_
            refine gz_topI (y := nI a1) e1 ?_
            refine lv_aload_n hx hb dL_law_203 rfl (lv_at hl 3 rfl) ?_
            refine lv_iload_n hx hb dL_law_204 rfl (lv_at hl 0 rfl) ?_
            refine lv_iconst (v := nI 2) hx hb dL_law_205 (by decide) ?_
            refine gz_iadd (i := i) (j := 2) hx hb dL_law_206 ?_
            refine gz_sld (k := i + 2) hx hb hX hbl hbA hS (by omega) (by omega) dL_law_207 ?_
            refine gz_topI (y := nI a2) e2 ?_
            refine lv_aload_n hx hb dL_law_208 rfl (lv_at hl 3 rfl) ?_
            refine lv_iload_n hx hb dL_law_209 rfl (lv_at hl 0 rfl) ?_
            refine lv_iconst (v := nI 3) hx hb dL_law_210 (by decide) ?_
            refine gz_iadd (i := i) (j := 3) hx hb dL_law_211 ?_
            refine gz_sld (k := i + 3) hx hb hX hbl hbA hS (by omega) (by omega) dL_law_212 ?_
            refine lv_if_eq (tgt := 220) hx hb dL_law_213 (by decide) (fun c_2 => ?_) (fun c_2 => False.elim (c_2 hz))
            refine lv_iconst (v := nI 0) hx hb dL_law_220 (by decide) ?_
            refine gz_calli (wc := (mw cA cZ gm ak ac ab al av ah ap fk fc fs fl fp fv ft (nI rn) (nI cn) sc)) (wr := (gw cA h qk qc qs ql qp qv fk fc fs (upd fl (a1 * 13 + a2) (nI 0)) fp fv (nI rn) (nI cn) (nI 0))) hP hD hS hA [7, 8, 9, 10, 11, 12, 13, 14] [0, 1, 2, 3, 4, 5, 6] rfl rfl (by decide) (by decide) (va_runV (As := [.int (nI a1), .int (nI a2), .int (nI 0)]) (rest := [.int (fl (a1 * 13 + a2))]) ⟨hx, hb, hml, hown, hts⟩ (cM_link l dC dI H.size cA cZ gm ak ac ab al av ah ap fk fc fs fl fp fv ft rn cn sc a1 a2 (nI 0) hrn hcn (by omega) (by omega) (Or.inl rfl) hfl) (cwV 3 hts gL_law_X1_link rfl rfl rfl (by decide +kernel) ⟨Nat.le_of_ble_eq_true rfl, Nat.le_of_ble_eq_true rfl⟩) (gz_preVw (q := (RX1, TX1, 10)) (ci := 1) hK hP hD [7, 8, 9, 10, 11, 12, 13, 14] (by decide) rfl rfl rfl rfl) rfl rfl hl.1 rfl (lv_room (Nat.le_of_ble_eq_true rfl)) dL_law_221 ⟨Nat.le_of_ble_eq_true rfl, Nat.le_of_ble_eq_true rfl⟩) (fun H locs hP hD hS => ?_)
            have hP : va_P (dC, dI) vwCl ((gw cA h qk qc qs ql qp qv fk fc fs (upd fl (a1 * 13 + a2) (nI 0)) fp fv (nI rn) (nI cn) (nI 0)) ++ (mw cA cZ gm ak ac ab al av ah ap fk fc fs (upd fl (a1 * 13 + a2) (nI 0)) fp fv ft (nI rn) (nI cn) (nI 0))) H := hP
            have hD : va_D (fun q : Nat => s.heap.size ≤ q) ((gw cA h qk qc qs ql qp qv fk fc fs (upd fl (a1 * 13 + a2) (nI 0)) fp fv (nI rn) (nI cn) (nI 0)) ++ (mw cA cZ gm ak ac ab al av ah ap fk fc fs (upd fl (a1 * 13 + a2) (nI 0)) fp fv ft (nI rn) (nI cn) (nI 0))) := hD
            refine lv_icmp_eq (tgt := 367) hx hb dL_law_224 (by decide) (fun c_3 => ?_) (fun c_3 => False.elim (c_3 rfl))
            refine lv_iinc (v := nI (i + 5)) (lv' := [(3, .int (nI (i + 5))), (2, .ref gm), (1, .ref h), (0, .ref b)]) hx hb dL_law_367 hl (k := 0) rfl (nI_add _ 5) (by decide) rfl (fun ls hl => ?_)
            refine lv_goto (tgt := 18) hx hb dL_law_370 (by decide) ?_
            exact ih (i + 5) (by omega) (by omega) fk fc fs (upd fl (a1 * 13 + a2) (nI 0)) fp fv ft rn cn (nI 0) (gInv_link hinv (by omega) (by omega) (Or.inl rfl)) H locs hP hD hS ls (lv_sub hl [0, 1, 2, 3] rfl)
          · skip
            refine lv_aload_n hx hb dL_law_170 rfl (lv_at hl 2 rfl) ?_
            refine lv_aload_n hx hb dL_law_171 rfl (lv_at hl 3 rfl) ?_
            refine lv_iload_n hx hb dL_law_172 rfl (lv_at hl 0 rfl) ?_
            refine lv_iconst (v := nI 1) hx hb dL_law_173 (by decide) ?_
            refine gz_iadd (i := i) (j := 1) hx hb dL_law_174 ?_
            refine gz_sld (k := i + 1) hx hb hX hbl hbA hS (by omega) (by omega) dL_law_175 ?_
            refine gz_topI (y := nI a1) e1 ?_
            refine lv_aload_n hx hb dL_law_176 rfl (lv_at hl 3 rfl) ?_
            refine lv_iload_n hx hb dL_law_177 rfl (lv_at hl 0 rfl) ?_
            refine lv_iconst (v := nI 2) hx hb dL_law_178 (by decide) ?_
            refine gz_iadd (i := i) (j := 2) hx hb dL_law_179 ?_
            refine gz_sld (k := i + 2) hx hb hX hbl hbA hS (by omega) (by omega) dL_law_180 ?_
            refine gz_topI (y := nI a2) e2 ?_
            refine lv_aload_n hx hb dL_law_181 rfl (lv_at hl 3 rfl) ?_
            refine lv_iload_n hx hb dL_law_182 rfl (lv_at hl 0 rfl) ?_
            refine lv_iconst (v := nI 3) hx hb dL_law_183 (by decide) ?_
            refine gz_iadd (i := i) (j := 3) hx hb dL_law_184 ?_
            refine gz_sld (k := i + 3) hx hb hX hbl hbA hS (by omega) (by omega) dL_law_185 ?_
            refine lv_if_eq (tgt := 193) hx hb dL_law_186 (by decide) (fun c_1 => False.elim (hz c_1)) (fun c_1 => ?_)
            refine lv_iconst (v := nI 1) hx hb dL_law_189 (by decide) ?_
            refine lv_goto (tgt := 194) hx hb dL_law_190 (by decide) ?_
            refine gz_calli (wc := (gw cA h qk qc qs ql qp qv fk fc fs fl fp fv (nI rn) (nI cn) sc)) (wr := (mw cA cZ gm ak ac ab al av ah ap fk fc fs fl fp fv ft (nI rn) (nI cn) sc)) hP hD hS hA [0, 1, 2, 3, 4, 5, 6] [7, 8, 9, 10, 11, 12, 13, 14] rfl rfl (by decide) (by decide) (va_runV (As := [.int (nI a1), .int (nI a2), .int (nI 1)]) (rest := []) ⟨hx, hb, hml, hown, hts⟩ (cG_link l dC dI H.size cA cZ h qk qc qs ql qp qv fk fc fs fl fp fv rn cn sc a1 a2 (nI 1) hrn hcn (by omega) (by omega) (Or.inr rfl)) (cwV 3 hts gL_law_X0_link rfl rfl rfl (by decide +kernel) ⟨Nat.le_of_ble_eq_true rfl, Nat.le_of_ble_eq_true rfl⟩) (gz_preVw (q := (RX0, TX0, 9)) (ci := 0) hK hP hD [0, 1, 2, 3, 4, 5, 6] (by decide) rfl rfl rfl rfl) rfl rfl hl.1 rfl (lv_room (Nat.le_of_ble_eq_true rfl)) dL_law_194 ⟨Nat.le_of_ble_eq_true rfl, Nat.le_of_ble_eq_true rfl⟩) (fun H locs hP hD hS => ?_)
            have hP := hP.sub (ws' := ((gw cA h qk qc qs ql qp qv fk fc fs (upd fl (a1 * 13 + a2) (nI 1)) fp fv (nI rn) (nI cn) (nI 0)) ++ (mw cA cZ gm ak ac ab al av ah ap fk fc fs fl fp fv ft (nI rn) (nI cn) sc))) [8, 9, 10, 11, 12, 13, 14, 0, 1, 2, 3, 4, 5, 6, 7] rfl
            have hD := hD.sub (ws' := ((gw cA h qk qc qs ql qp qv fk fc fs (upd fl (a1 * 13 + a2) (nI 1)) fp fv (nI rn) (nI cn) (nI 0)) ++ (mw cA cZ gm ak ac ab al av ah ap fk fc fs fl fp fv ft (nI rn) (nI cn) sc))) [8, 9, 10, 11, 12, 13, 14, 0, 1, 2, 3, 4, 5, 6, 7] (by decide) rfl
            refine lv_aload_n hx hb dL_law_197 rfl (lv_at hl 1 rfl) ?_
            refine lv_aload_n hx hb dL_law_198 rfl (lv_at hl 3 rfl) ?_
            refine lv_iload_n hx hb dL_law_199 rfl (lv_at hl 0 rfl) ?_
            refine lv_iconst (v := nI 1) hx hb dL_law_200 (by decide) ?_
            refine gz_iadd (i := i) (j := 1) hx hb dL_law_201 ?_
            refine gz_sld (k := i + 1) hx hb hX hbl hbA hS (by omega) (by omega) dL_law_202 ?_
            refine gz_topI (y := nI a1) e1 ?_
            refine lv_aload_n hx hb dL_law_203 rfl (lv_at hl 3 rfl) ?_
            refine lv_iload_n hx hb dL_law_204 rfl (lv_at hl 0 rfl) ?_
            refine lv_iconst (v := nI 2) hx hb dL_law_205 (by decide) ?_
            refine gz_iadd (i := i) (j := 2) hx hb dL_law_206 ?_
            refine gz_sld (k := i + 2) hx hb hX hbl hbA hS (by omega) (by omega) dL_law_207 ?_
            refine gz_topI (y := nI a2) e2 ?_
            refine lv_aload_n hx hb dL_law_208 rfl (lv_at hl 3 rfl) ?_
            refine lv_iload_n hx hb dL_law_209 rfl (lv_at hl 0 rfl) ?_
            refine lv_iconst (v := nI 3) hx hb dL_law_210 (by decide) ?_
            refine gz_iadd (i := i) (j := 3) hx hb dL_law_211 ?_
            refine gz_sld (k := i + 3) hx hb hX hbl hbA hS (by omega) (by omega) dL_law_212 ?_
            refine lv_if_eq (tgt := 220) hx hb dL_law_213 (by decide) (fun c_2 => False.elim (hz c_2)) (fun c_2 => ?_)
            refine lv_iconst (v := nI 1) hx hb dL_law_216 (by decide) ?_
            refine lv_goto (tgt := 221) hx hb dL_law_217 (by decide) ?_
            refine gz_calli (wc := (mw cA cZ gm ak ac ab al av ah ap fk fc fs fl fp fv ft (nI rn) (nI cn) sc)) (wr := (gw cA h qk qc qs ql qp qv fk fc fs (upd fl (a1 * 13 + a2) (nI 1)) fp fv (nI rn) (nI cn) (nI 0))) hP hD hS hA [7, 8, 9, 10, 11, 12, 13, 14] [0, 1, 2, 3, 4, 5, 6] rfl rfl (by decide) (by decide) (va_runV (As := [.int (nI a1), .int (nI a2), .int (nI 1)]) (rest := [.int (fl (a1 * 13 + a2))]) ⟨hx, hb, hml, hown, hts⟩ (cM_link l dC dI H.size cA cZ gm ak ac ab al av ah ap fk fc fs fl fp fv ft rn cn sc a1 a2 (nI 1) hrn hcn (by omega) (by omega) (Or.inr rfl) hfl) (cwV 3 hts gL_law_X1_link rfl rfl rfl (by decide +kernel) ⟨Nat.le_of_ble_eq_true rfl, Nat.le_of_ble_eq_true rfl⟩) (gz_preVw (q := (RX1, TX1, 10)) (ci := 1) hK hP hD [7, 8, 9, 10, 11, 12, 13, 14] (by decide) rfl rfl rfl rfl) rfl rfl hl.1 rfl (lv_room (Nat.le_of_ble_eq_true rfl)) dL_law_221 ⟨Nat.le_of_ble_eq_true rfl, Nat.le_of_ble_eq_true rfl⟩) (fun H locs hP hD hS => ?_)
            have hP : va_P (dC, dI) vwCl ((gw cA h qk qc qs ql qp qv fk fc fs (upd fl (a1 * 13 + a2) (nI 1)) fp fv (nI rn) (nI cn) (nI 0)) ++ (mw cA cZ gm ak ac ab al av ah ap fk fc fs (upd fl (a1 * 13 + a2) (nI 1)) fp fv ft (nI rn) (nI cn) (nI 0))) H := hP
            have hD : va_D (fun q : Nat => s.heap.size ≤ q) ((gw cA h qk qc qs ql qp qv fk fc fs (upd fl (a1 * 13 + a2) (nI 1)) fp fv (nI rn) (nI cn) (nI 0)) ++ (mw cA cZ gm ak ac ab al av ah ap fk fc fs (upd fl (a1 * 13 + a2) (nI 1)) fp fv ft (nI rn) (nI cn) (nI 0))) := hD
            refine lv_icmp_eq (tgt := 367) hx hb dL_law_224 (by decide) (fun c_3 => ?_) (fun c_3 => False.elim (c_3 rfl))
            refine lv_iinc (v := nI (i + 5)) (lv' := [(3, .int (nI (i + 5))), (2, .ref gm), (1, .ref h), (0, .ref b)]) hx hb dL_law_367 hl (k := 0) rfl (nI_add _ 5) (by decide) rfl (fun ls hl => ?_)
            refine lv_goto (tgt := 18) hx hb dL_law_370 (by decide) ?_
            exact ih (i + 5) (by omega) (by omega) fk fc fs (upd fl (a1 * 13 + a2) (nI 1)) fp fv ft rn cn (nI 0) (gInv_link hinv (by omega) (by omega) (Or.inr rfl)) H locs hP hD hS ls (lv_sub hl [0, 1, 2, 3] rfl)
        · skip
          by_cases hz : xs (i + 3) = 0
          · skip
            refine lv_aload_n hx hb dL_law_170 rfl (lv_at hl 2 rfl) ?_
            refine lv_aload_n hx hb dL_law_171 rfl (lv_at hl 3 rfl) ?_
            refine lv_iload_n hx hb dL_law_172 rfl (lv_at hl 0 rfl) ?_
            refine lv_iconst (v := nI 1) hx hb dL_law_173 (by decide) ?_
            refine gz_iadd (i := i) (j := 1) hx hb dL_law_174 ?_
            refine gz_sld (k := i + 1) hx hb hX hbl hbA hS (by omega) (by omega) dL_law_175 ?_
            refine lv_aload_n hx hb dL_law_176 rfl (lv_at hl 3 rfl) ?_
            refine lv_iload_n hx hb dL_law_177 rfl (lv_at hl 0 rfl) ?_
            refine lv_iconst (v := nI 2) hx hb dL_law_178 (by decide) ?_
            refine gz_iadd (i := i) (j := 2) hx hb dL_law_179 ?_
            refine gz_sld (k := i + 2) hx hb hX hbl hbA hS (by omega) (by omega) dL_law_180 ?_
            refine lv_aload_n hx hb dL_law_181 rfl (lv_at hl 3 rfl) ?_
            refine lv_iload_n hx hb dL_law_182 rfl (lv_at hl 0 rfl) ?_
            refine lv_iconst (v := nI 3) hx hb dL_law_183 (by decide) ?_
            refine gz_iadd (i := i) (j := 3) hx hb dL_law_184 ?_
            refine gz_sld (k := i + 3) hx hb hX hbl hbA hS (by omega) (by omega) dL_law_185 ?_
            refine lv_if_eq (tgt := 193) hx hb dL_law_186 (by decide) (fun c_1 => ?_) (fun c_1 => False.elim (c_1 hz))
            refine lv_iconst (v := nI 0) hx hb dL_law_193 (by decide) ?_
            refine gz_callR (W.runV (As := [.int (xs (i + 1)), .int (xs (i + 2)), .int (nI 0)]) (rest := []) ⟨hx, hb, hml, hown, hts⟩ (cG_link_bad l dC dI cA cZ h qk qc qs ql qp qv fk fc fs fl fp fv rn cn sc (xs (i + 1)) (xs (i + 2)) (nI 0) hrn hcn hv) (cwV 3 hts gL_law_X0_link rfl rfl rfl (by decide +kernel) ⟨Nat.le_of_ble_eq_true rfl, Nat.le_of_ble_eq_true rfl⟩) (gz_preV (q := (RX0, TX0, 9)) (ci := 0) hK hP [0, 1, 2, 3, 4, 5, 6] rfl rfl rfl) rfl rfl hl.1 rfl (lv_room (Nat.le_of_ble_eq_true rfl)) dL_law_194 ⟨Nat.le_of_ble_eq_true rfl, Nat.le_of_ble_eq_true rfl⟩) ?_
            refine lv_aload_n hx hb dL_law_197 rfl (lv_at hl 1 rfl) ?_
            refine lv_aload_n hx hb dL_law_198 rfl (lv_at hl 3 rfl) ?_
            refine lv_iload_n hx hb dL_law_199 rfl (lv_at hl 0 rfl) ?_
            refine lv_iconst (v := nI 1) hx hb dL_law_200 (by decide) ?_
            refine gz_iadd (i := i) (j := 1) hx hb dL_law_201 ?_
            refine gz_sld (k := i + 1) hx hb hX hbl hbA hS (by omega) (by omega) dL_law_202 ?_
            refine lv_aload_n hx hb dL_law_203 rfl (lv_at hl 3 rfl) ?_
            refine lv_iload_n hx hb dL_law_204 rfl (lv_at hl 0 rfl) ?_
            refine lv_iconst (v := nI 2) hx hb dL_law_205 (by decide) ?_
            refine gz_iadd (i := i) (j := 2) hx hb dL_law_206 ?_
            refine gz_sld (k := i + 2) hx hb hX hbl hbA hS (by omega) (by omega) dL_law_207 ?_
            refine lv_aload_n hx hb dL_law_208 rfl (lv_at hl 3 rfl) ?_
            refine lv_iload_n hx hb dL_law_209 rfl (lv_at hl 0 rfl) ?_
            refine lv_iconst (v := nI 3) hx hb dL_law_210 (by decide) ?_
            refine gz_iadd (i := i) (j := 3) hx hb dL_law_211 ?_
            refine gz_sld (k := i + 3) hx hb hX hbl hbA hS (by omega) (by omega) dL_law_212 ?_
            refine lv_if_eq (tgt := 220) hx hb dL_law_213 (by decide) (fun c_2 => ?_) (fun c_2 => False.elim (c_2 hz))
            refine lv_iconst (v := nI 0) hx hb dL_law_220 (by decide) ?_
            refine gz_callR (W.runV (As := [.int (xs (i + 1)), .int (xs (i + 2)), .int (nI 0)]) (rest := [.int ((-1))]) ⟨hx, hb, hml, hown, hts⟩ (cM_link_bad l dC dI cA cZ gm ak ac ab al av ah ap fk fc fs fl fp fv ft rn cn sc (xs (i + 1)) (xs (i + 2)) (nI 0) hrn hcn hv) (cwV 3 hts gL_law_X1_link rfl rfl rfl (by decide +kernel) ⟨Nat.le_of_ble_eq_true rfl, Nat.le_of_ble_eq_true rfl⟩) (gz_preV (q := (RX1, TX1, 10)) (ci := 1) hK hP [7, 8, 9, 10, 11, 12, 13, 14] rfl rfl rfl) rfl rfl hl.1 rfl (lv_room (Nat.le_of_ble_eq_true rfl)) dL_law_221 ⟨Nat.le_of_ble_eq_true rfl, Nat.le_of_ble_eq_true rfl⟩) ?_
            refine lv_icmp_eq (tgt := 367) hx hb dL_law_224 (by decide) (fun c_3 => ?_) (fun c_3 => False.elim (c_3 rfl))
            refine lv_iinc (v := nI (i + 5)) (lv' := [(3, .int (nI (i + 5))), (2, .ref gm), (1, .ref h), (0, .ref b)]) hx hb dL_law_367 hl (k := 0) rfl (nI_add _ 5) (by decide) rfl (fun ls hl => ?_)
            refine lv_goto (tgt := 18) hx hb dL_law_370 (by decide) ?_
            exact ih (i + 5) (by omega) (by omega) fk fc fs fl fp fv ft rn cn sc hinv H locs hP hD hS ls (lv_sub hl [0, 1, 2, 3] rfl)
          · skip
            refine lv_aload_n hx hb dL_law_170 rfl (lv_at hl 2 rfl) ?_
            refine lv_aload_n hx hb dL_law_171 rfl (lv_at hl 3 rfl) ?_
            refine lv_iload_n hx hb dL_law_172 rfl (lv_at hl 0 rfl) ?_
            refine lv_iconst (v := nI 1) hx hb dL_law_173 (by decide) ?_
            refine gz_iadd (i := i) (j := 1) hx hb dL_law_174 ?_
            refine gz_sld (k := i + 1) hx hb hX hbl hbA hS (by omega) (by omega) dL_law_175 ?_
            refine lv_aload_n hx hb dL_law_176 rfl (lv_at hl 3 rfl) ?_
            refine lv_iload_n hx hb dL_law_177 rfl (lv_at hl 0 rfl) ?_
            refine lv_iconst (v := nI 2) hx hb dL_law_178 (by decide) ?_
            refine gz_iadd (i := i) (j := 2) hx hb dL_law_179 ?_
            refine gz_sld (k := i + 2) hx hb hX hbl hbA hS (by omega) (by omega) dL_law_180 ?_
            refine lv_aload_n hx hb dL_law_181 rfl (lv_at hl 3 rfl) ?_
            refine lv_iload_n hx hb dL_law_182 rfl (lv_at hl 0 rfl) ?_
            refine lv_iconst (v := nI 3) hx hb dL_law_183 (by decide) ?_
            refine gz_iadd (i := i) (j := 3) hx hb dL_law_184 ?_
            refine gz_sld (k := i + 3) hx hb hX hbl hbA hS (by omega) (by omega) dL_law_185 ?_
            refine lv_if_eq (tgt := 193) hx hb dL_law_186 (by decide) (fun c_1 => False.elim (hz c_1)) (fun c_1 => ?_)
            refine lv_iconst (v := nI 1) hx hb dL_law_189 (by decide) ?_
            refine lv_goto (tgt := 194) hx hb dL_law_190 (by decide) ?_
            refine gz_callR (W.runV (As := [.int (xs (i + 1)), .int (xs (i + 2)), .int (nI 1)]) (rest := []) ⟨hx, hb, hml, hown, hts⟩ (cG_link_bad l dC dI cA cZ h qk qc qs ql qp qv fk fc fs fl fp fv rn cn sc (xs (i + 1)) (xs (i + 2)) (nI 1) hrn hcn hv) (cwV 3 hts gL_law_X0_link rfl rfl rfl (by decide +kernel) ⟨Nat.le_of_ble_eq_true rfl, Nat.le_of_ble_eq_true rfl⟩) (gz_preV (q := (RX0, TX0, 9)) (ci := 0) hK hP [0, 1, 2, 3, 4, 5, 6] rfl rfl rfl) rfl rfl hl.1 rfl (lv_room (Nat.le_of_ble_eq_true rfl)) dL_law_194 ⟨Nat.le_of_ble_eq_true rfl, Nat.le_of_ble_eq_true rfl⟩) ?_
            refine lv_aload_n hx hb dL_law_197 rfl (lv_at hl 1 rfl) ?_
            refine lv_aload_n hx hb dL_law_198 rfl (lv_at hl 3 rfl) ?_
            refine lv_iload_n hx hb dL_law_199 rfl (lv_at hl 0 rfl) ?_
            refine lv_iconst (v := nI 1) hx hb dL_law_200 (by decide) ?_
            refine gz_iadd (i := i) (j := 1) hx hb dL_law_201 ?_
            refine gz_sld (k := i + 1) hx hb hX hbl hbA hS (by omega) (by omega) dL_law_202 ?_
            refine lv_aload_n hx hb dL_law_203 rfl (lv_at hl 3 rfl) ?_
            refine lv_iload_n hx hb dL_law_204 rfl (lv_at hl 0 rfl) ?_
            refine lv_iconst (v := nI 2) hx hb dL_law_205 (by decide) ?_
            refine gz_iadd (i := i) (j := 2) hx hb dL_law_206 ?_
            refine gz_sld (k := i + 2) hx hb hX hbl hbA hS (by omega) (by omega) dL_law_207 ?_
            refine lv_aload_n hx hb dL_law_208 rfl (lv_at hl 3 rfl) ?_
            refine lv_iload_n hx hb dL_law_209 rfl (lv_at hl 0 rfl) ?_
            refine lv_iconst (v := nI 3) hx hb dL_law_210 (by decide) ?_
            refine gz_iadd (i := i) (j := 3) hx hb dL_law_211 ?_
            refine gz_sld (k := i + 3) hx hb hX hbl hbA hS (by omega) (by omega) dL_law_212 ?_
            refine lv_if_eq (tgt := 220) hx hb dL_law_213 (by decide) (fun c_2 => False.elim (hz c_2)) (fun c_2 => ?_)
            refine lv_iconst (v := nI 1) hx hb dL_law_216 (by decide) ?_
            refine lv_goto (tgt := 221) hx hb dL_law_217 (by decide) ?_
            refine gz_callR (W.runV (As := [.int (xs (i + 1)), .int (xs (i + 2)), .int (nI 1)]) (rest := [.int ((-1))]) ⟨hx, hb, hml, hown, hts⟩ (cM_link_bad l dC dI cA cZ gm ak ac ab al av ah ap fk fc fs fl fp fv ft rn cn sc (xs (i + 1)) (xs (i + 2)) (nI 1) hrn hcn hv) (cwV 3 hts gL_law_X1_link rfl rfl rfl (by decide +kernel) ⟨Nat.le_of_ble_eq_true rfl, Nat.le_of_ble_eq_true rfl⟩) (gz_preV (q := (RX1, TX1, 10)) (ci := 1) hK hP [7, 8, 9, 10, 11, 12, 13, 14] rfl rfl rfl) rfl rfl hl.1 rfl (lv_room (Nat.le_of_ble_eq_true rfl)) dL_law_221 ⟨Nat.le_of_ble_eq_true rfl, Nat.le_of_ble_eq_true rfl⟩) ?_
            refine lv_icmp_eq (tgt := 367) hx hb dL_law_224 (by decide) (fun c_3 => ?_) (fun c_3 => False.elim (c_3 rfl))
            refine lv_iinc (v := nI (i + 5)) (lv' := [(3, .int (nI (i + 5))), (2, .ref gm), (1, .ref h), (0, .ref b)]) hx hb dL_law_367 hl (k := 0) rfl (nI_add _ 5) (by decide) rfl (fun ls hl => ?_)
            refine lv_goto (tgt := 18) hx hb dL_law_370 (by decide) ?_
            exact ih (i + 5) (by omega) (by omega) fk fc fs fl fp fv ft rn cn sc hinv H locs hP hD hS ls (lv_sub hl [0, 1, 2, 3] rfl)
      by_cases hw3 : w = 3
      · subst hw3
        refine lv_tableIn (tgt := 229) hx hb dL_law_32 (by decide) (by decide) rfl (by decide) ?_
        by_cases hv : 0 ≤ (xs (i + 1)).toInt ∧ (xs (i + 1)).toInt < 40 ∧ 0 ≤ (xs (i + 2)).toInt ∧ (xs (i + 2)).toInt ≤ 1
        · obtain ⟨a1, e1, z1⟩ := gz_nat (x := xs (i + 1)) (by omega)
          obtain ⟨a2, e2, z2⟩ := gz_nat (x := xs (i + 2)) (by omega)
          refine lv_aload_n hx hb dL_law_229 rfl (lv_at hl 2 rfl) ?_
          refine lv_aload_n hx hb dL_law_230 rfl (lv_at hl 3 rfl) ?_
          refine lv_iload_n hx hb dL_law_231 rfl (lv_at hl 0 rfl) ?_
          refine lv_iconst (v := nI 1) hx hb dL_law_232 (by decide) ?_
          refine gz_iadd (i := i) (j := 1) hx hb dL_law_233 ?_
          refine gz_sld (k := i + 1) hx hb hX hbl hbA hS (by omega) (by omega) dL_law_234 ?_
          refine gz_topI (y := nI a1) e1 ?_
          refine lv_aload_n hx hb dL_law_235 rfl (lv_at hl 3 rfl) ?_
          refine lv_iload_n hx hb dL_law_236 rfl (lv_at hl 0 rfl) ?_
          refine lv_iconst (v := nI 2) hx hb dL_law_237 (by decide) ?_
          refine gz_iadd (i := i) (j := 2) hx hb dL_law_238 ?_
          refine gz_sld (k := i + 2) hx hb hX hbl hbA hS (by omega) (by omega) dL_law_239 ?_
          refine gz_topI (y := nI a2) e2 ?_
          refine gz_calli (wc := (gw cA h qk qc qs ql qp qv fk fc fs fl fp fv (nI rn) (nI cn) sc)) (wr := (mw cA cZ gm ak ac ab al av ah ap fk fc fs fl fp fv ft (nI rn) (nI cn) sc)) hP hD hS hA [0, 1, 2, 3, 4, 5, 6] [7, 8, 9, 10, 11, 12, 13, 14] rfl rfl (by decide) (by decide) (va_runV (As := [.int (nI a1), .int (nI a2)]) (rest := []) ⟨hx, hb, hml, hown, hts⟩ (cG_set l dC dI H.size cA cZ h qk qc qs ql qp qv fk fc fs fl fp fv rn cn sc a1 a2 hrn hcn (by omega) (by omega)) (cwV 2 hts gL_law_X0_set rfl rfl rfl (by decide +kernel) ⟨Nat.le_of_ble_eq_true rfl, Nat.le_of_ble_eq_true rfl⟩) (gz_preVw (q := (RX0, TX0, 9)) (ci := 0) hK hP hD [0, 1, 2, 3, 4, 5, 6] (by decide) rfl rfl rfl rfl) rfl rfl hl.1 rfl (lv_room (Nat.le_of_ble_eq_true rfl)) dL_law_240 ⟨Nat.le_of_ble_eq_true rfl, Nat.le_of_ble_eq_true rfl⟩) (fun H locs hP hD hS => ?_)
          have hP := hP.sub (ws' := ((gw cA h qk qc qs ql qp qv fk fc fs fl fp (upd fv a1 (nI a2)) (nI rn) (nI cn) sc) ++ (mw cA cZ gm ak ac ab al av ah ap fk fc fs fl fp fv ft (nI rn) (nI cn) sc))) [8, 9, 10, 11, 12, 13, 14, 0, 1, 2, 3, 4, 5, 6, 7] rfl
          have hD := hD.sub (ws' := ((gw cA h qk qc qs ql qp qv fk fc fs fl fp (upd fv a1 (nI a2)) (nI rn) (nI cn) sc) ++ (mw cA cZ gm ak ac ab al av ah ap fk fc fs fl fp fv ft (nI rn) (nI cn) sc))) [8, 9, 10, 11, 12, 13, 14, 0, 1, 2, 3, 4, 5, 6, 7] (by decide) rfl
          refine lv_aload_n hx hb dL_law_243 rfl (lv_at hl 1 rfl) ?_
          refine lv_aload_n hx hb dL_law_244 rfl (lv_at hl 3 rfl) ?_
          refine lv_iload_n hx hb dL_law_245 rfl (lv_at hl 0 rfl) ?_
          refine lv_iconst (v := nI 1) hx hb dL_law_246 (by decide) ?_
          refine gz_iadd (i := i) (j := 1) hx hb dL_law_247 ?_
          refine gz_sld (k := i + 1) hx hb hX hbl hbA hS (by omega) (by omega) dL_law_248 ?_
          refine gz_topI (y := nI a1) e1 ?_
          refine lv_aload_n hx hb dL_law_249 rfl (lv_at hl 3 rfl) ?_
          refine lv_iload_n hx hb dL_law_250 rfl (lv_at hl 0 rfl) ?_
          refine lv_iconst (v := nI 2) hx hb dL_law_251 (by decide) ?_
          refine gz_iadd (i := i) (j := 2) hx hb dL_law_252 ?_
          refine gz_sld (k := i + 2) hx hb hX hbl hbA hS (by omega) (by omega) dL_law_253 ?_
          refine gz_topI (y := nI a2) e2 ?_
          refine gz_calli (wc := (mw cA cZ gm ak ac ab al av ah ap fk fc fs fl fp fv ft (nI rn) (nI cn) sc)) (wr := (gw cA h qk qc qs ql qp qv fk fc fs fl fp (upd fv a1 (nI a2)) (nI rn) (nI cn) sc)) hP hD hS hA [7, 8, 9, 10, 11, 12, 13, 14] [0, 1, 2, 3, 4, 5, 6] rfl rfl (by decide) (by decide) (va_runV (As := [.int (nI a1), .int (nI a2)]) (rest := [.int (fv a1)]) ⟨hx, hb, hml, hown, hts⟩ (cM_set l dC dI H.size cA cZ gm ak ac ab al av ah ap fk fc fs fl fp fv ft rn cn sc a1 a2 hrn hcn (by omega) (by omega)) (cwV 2 hts gL_law_X1_set rfl rfl rfl (by decide +kernel) ⟨Nat.le_of_ble_eq_true rfl, Nat.le_of_ble_eq_true rfl⟩) (gz_preVw (q := (RX1, TX1, 10)) (ci := 1) hK hP hD [7, 8, 9, 10, 11, 12, 13, 14] (by decide) rfl rfl rfl rfl) rfl rfl hl.1 rfl (lv_room (Nat.le_of_ble_eq_true rfl)) dL_law_254 ⟨Nat.le_of_ble_eq_true rfl, Nat.le_of_ble_eq_true rfl⟩) (fun H locs hP hD hS => ?_)
          have hP : va_P (dC, dI) vwCl ((gw cA h qk qc qs ql qp qv fk fc fs fl fp (upd fv a1 (nI a2)) (nI rn) (nI cn) sc) ++ (mw cA cZ gm ak ac ab al av ah ap fk fc fs fl fp (upd fv a1 (nI a2)) ft (nI rn) (nI cn) sc)) H := hP
          have hD : va_D (fun q : Nat => s.heap.size ≤ q) ((gw cA h qk qc qs ql qp qv fk fc fs fl fp (upd fv a1 (nI a2)) (nI rn) (nI cn) sc) ++ (mw cA cZ gm ak ac ab al av ah ap fk fc fs fl fp (upd fv a1 (nI a2)) ft (nI rn) (nI cn) sc)) := hD
          refine lv_icmp_eq (tgt := 367) hx hb dL_law_257 (by decide) (fun c_1 => ?_) (fun c_1 => False.elim (c_1 rfl))
          refine lv_iinc (v := nI (i + 5)) (lv' := [(3, .int (nI (i + 5))), (2, .ref gm), (1, .ref h), (0, .ref b)]) hx hb dL_law_367 hl (k := 0) rfl (nI_add _ 5) (by decide) rfl (fun ls hl => ?_)
          refine lv_goto (tgt := 18) hx hb dL_law_370 (by decide) ?_
          exact ih (i + 5) (by omega) (by omega) fk fc fs fl fp (upd fv a1 (nI a2)) ft rn cn sc (gInv_set hinv (by omega)) H locs hP hD hS ls (lv_sub hl [0, 1, 2, 3] rfl)
        · skip
          refine lv_aload_n hx hb dL_law_229 rfl (lv_at hl 2 rfl) ?_
          refine lv_aload_n hx hb dL_law_230 rfl (lv_at hl 3 rfl) ?_
          refine lv_iload_n hx hb dL_law_231 rfl (lv_at hl 0 rfl) ?_
          refine lv_iconst (v := nI 1) hx hb dL_law_232 (by decide) ?_
          refine gz_iadd (i := i) (j := 1) hx hb dL_law_233 ?_
          refine gz_sld (k := i + 1) hx hb hX hbl hbA hS (by omega) (by omega) dL_law_234 ?_
          refine lv_aload_n hx hb dL_law_235 rfl (lv_at hl 3 rfl) ?_
          refine lv_iload_n hx hb dL_law_236 rfl (lv_at hl 0 rfl) ?_
          refine lv_iconst (v := nI 2) hx hb dL_law_237 (by decide) ?_
          refine gz_iadd (i := i) (j := 2) hx hb dL_law_238 ?_
          refine gz_sld (k := i + 2) hx hb hX hbl hbA hS (by omega) (by omega) dL_law_239 ?_
          refine gz_callR (W.runV (As := [.int (xs (i + 1)), .int (xs (i + 2))]) (rest := []) ⟨hx, hb, hml, hown, hts⟩ (cG_set_bad l dC dI cA cZ h qk qc qs ql qp qv fk fc fs fl fp fv rn cn sc (xs (i + 1)) (xs (i + 2)) hrn hcn hv) (cwV 2 hts gL_law_X0_set rfl rfl rfl (by decide +kernel) ⟨Nat.le_of_ble_eq_true rfl, Nat.le_of_ble_eq_true rfl⟩) (gz_preV (q := (RX0, TX0, 9)) (ci := 0) hK hP [0, 1, 2, 3, 4, 5, 6] rfl rfl rfl) rfl rfl hl.1 rfl (lv_room (Nat.le_of_ble_eq_true rfl)) dL_law_240 ⟨Nat.le_of_ble_eq_true rfl, Nat.le_of_ble_eq_true rfl⟩) ?_
          refine lv_aload_n hx hb dL_law_243 rfl (lv_at hl 1 rfl) ?_
          refine lv_aload_n hx hb dL_law_244 rfl (lv_at hl 3 rfl) ?_
          refine lv_iload_n hx hb dL_law_245 rfl (lv_at hl 0 rfl) ?_
          refine lv_iconst (v := nI 1) hx hb dL_law_246 (by decide) ?_
          refine gz_iadd (i := i) (j := 1) hx hb dL_law_247 ?_
          refine gz_sld (k := i + 1) hx hb hX hbl hbA hS (by omega) (by omega) dL_law_248 ?_
          refine lv_aload_n hx hb dL_law_249 rfl (lv_at hl 3 rfl) ?_
          refine lv_iload_n hx hb dL_law_250 rfl (lv_at hl 0 rfl) ?_
          refine lv_iconst (v := nI 2) hx hb dL_law_251 (by decide) ?_
          refine gz_iadd (i := i) (j := 2) hx hb dL_law_252 ?_
          refine gz_sld (k := i + 2) hx hb hX hbl hbA hS (by omega) (by omega) dL_law_253 ?_
          refine gz_callR (W.runV (As := [.int (xs (i + 1)), .int (xs (i + 2))]) (rest := [.int ((-1))]) ⟨hx, hb, hml, hown, hts⟩ (cM_set_bad l dC dI cA cZ gm ak ac ab al av ah ap fk fc fs fl fp fv ft rn cn sc (xs (i + 1)) (xs (i + 2)) hrn hcn hv) (cwV 2 hts gL_law_X1_set rfl rfl rfl (by decide +kernel) ⟨Nat.le_of_ble_eq_true rfl, Nat.le_of_ble_eq_true rfl⟩) (gz_preV (q := (RX1, TX1, 10)) (ci := 1) hK hP [7, 8, 9, 10, 11, 12, 13, 14] rfl rfl rfl) rfl rfl hl.1 rfl (lv_room (Nat.le_of_ble_eq_true rfl)) dL_law_254 ⟨Nat.le_of_ble_eq_true rfl, Nat.le_of_ble_eq_true rfl⟩) ?_
          refine lv_icmp_eq (tgt := 367) hx hb dL_law_257 (by decide) (fun c_1 => ?_) (fun c_1 => False.elim (c_1 rfl))
          refine lv_iinc (v := nI (i + 5)) (lv' := [(3, .int (nI (i + 5))), (2, .ref gm), (1, .ref h), (0, .ref b)]) hx hb dL_law_367 hl (k := 0) rfl (nI_add _ 5) (by decide) rfl (fun ls hl => ?_)
          refine lv_goto (tgt := 18) hx hb dL_law_370 (by decide) ?_
          exact ih (i + 5) (by omega) (by omega) fk fc fs fl fp fv ft rn cn sc hinv H locs hP hD hS ls (lv_sub hl [0, 1, 2, 3] rfl)
      by_cases hw4 : w = 4
      · subst hw4
        refine lv_tableIn (tgt := 262) hx hb dL_law_32 (by decide) (by decide) rfl (by decide) ?_
        by_cases hv : 0 ≤ (xs (i + 1)).toInt ∧ (xs (i + 1)).toInt < 40
        · obtain ⟨a1, e1, z1⟩ := gz_nat (x := xs (i + 1)) (by omega)
          refine lv_aload_n hx hb dL_law_262 rfl (lv_at hl 2 rfl) ?_
          refine lv_aload_n hx hb dL_law_263 rfl (lv_at hl 3 rfl) ?_
          refine lv_iload_n hx hb dL_law_264 rfl (lv_at hl 0 rfl) ?_
          refine lv_iconst (v := nI 1) hx hb dL_law_265 (by decide) ?_
          refine gz_iadd (i := i) (j := 1) hx hb dL_law_266 ?_
          refine gz_sld (k := i + 1) hx hb hX hbl hbA hS (by omega) (by omega) dL_law_267 ?_
          refine gz_topI (y := nI a1) e1 ?_
          refine gz_callR (W.runV (As := [.int (nI a1)]) (rest := []) ⟨hx, hb, hml, hown, hts⟩ (cG_get l dC dI cA cZ h qk qc qs ql qp qv fk fc fs fl fp fv rn cn sc a1 hrn hcn (by omega)) (cwV 1 hts gL_law_X0_get rfl rfl rfl (by decide +kernel) ⟨Nat.le_of_ble_eq_true rfl, Nat.le_of_ble_eq_true rfl⟩) (gz_preV (q := (RX0, TX0, 9)) (ci := 0) hK hP [0, 1, 2, 3, 4, 5, 6] rfl rfl rfl) rfl rfl hl.1 rfl (lv_room (Nat.le_of_ble_eq_true rfl)) dL_law_268 ⟨Nat.le_of_ble_eq_true rfl, Nat.le_of_ble_eq_true rfl⟩) ?_
          refine lv_aload_n hx hb dL_law_271 rfl (lv_at hl 1 rfl) ?_
          refine lv_aload_n hx hb dL_law_272 rfl (lv_at hl 3 rfl) ?_
          refine lv_iload_n hx hb dL_law_273 rfl (lv_at hl 0 rfl) ?_
          refine lv_iconst (v := nI 1) hx hb dL_law_274 (by decide) ?_
          refine gz_iadd (i := i) (j := 1) hx hb dL_law_275 ?_
          refine gz_sld (k := i + 1) hx hb hX hbl hbA hS (by omega) (by omega) dL_law_276 ?_
          refine gz_topI (y := nI a1) e1 ?_
          refine gz_callR (W.runV (As := [.int (nI a1)]) (rest := [.int (fv a1)]) ⟨hx, hb, hml, hown, hts⟩ (cM_get l dC dI cA cZ gm ak ac ab al av ah ap fk fc fs fl fp fv ft rn cn sc a1 hrn hcn (by omega)) (cwV 1 hts gL_law_X1_get rfl rfl rfl (by decide +kernel) ⟨Nat.le_of_ble_eq_true rfl, Nat.le_of_ble_eq_true rfl⟩) (gz_preV (q := (RX1, TX1, 10)) (ci := 1) hK hP [7, 8, 9, 10, 11, 12, 13, 14] rfl rfl rfl) rfl rfl hl.1 rfl (lv_room (Nat.le_of_ble_eq_true rfl)) dL_law_277 ⟨Nat.le_of_ble_eq_true rfl, Nat.le_of_ble_eq_true rfl⟩) ?_
          refine lv_icmp_eq (tgt := 367) hx hb dL_law_280 (by decide) (fun c_1 => ?_) (fun c_1 => False.elim (c_1 rfl))
          refine lv_iinc (v := nI (i + 5)) (lv' := [(3, .int (nI (i + 5))), (2, .ref gm), (1, .ref h), (0, .ref b)]) hx hb dL_law_367 hl (k := 0) rfl (nI_add _ 5) (by decide) rfl (fun ls hl => ?_)
          refine lv_goto (tgt := 18) hx hb dL_law_370 (by decide) ?_
          exact ih (i + 5) (by omega) (by omega) fk fc fs fl fp fv ft rn cn sc hinv H locs hP hD hS ls (lv_sub hl [0, 1, 2, 3] rfl)
        · skip
          refine lv_aload_n hx hb dL_law_262 rfl (lv_at hl 2 rfl) ?_
          refine lv_aload_n hx hb dL_law_263 rfl (lv_at hl 3 rfl) ?_
          refine lv_iload_n hx hb dL_law_264 rfl (lv_at hl 0 rfl) ?_
          refine lv_iconst (v := nI 1) hx hb dL_law_265 (by decide) ?_
          refine gz_iadd (i := i) (j := 1) hx hb dL_law_266 ?_
          refine gz_sld (k := i + 1) hx hb hX hbl hbA hS (by omega) (by omega) dL_law_267 ?_
          refine gz_callR (W.runV (As := [.int (xs (i + 1))]) (rest := []) ⟨hx, hb, hml, hown, hts⟩ (cG_get_bad l dC dI cA cZ h qk qc qs ql qp qv fk fc fs fl fp fv rn cn sc (xs (i + 1)) hrn hcn hv) (cwV 1 hts gL_law_X0_get rfl rfl rfl (by decide +kernel) ⟨Nat.le_of_ble_eq_true rfl, Nat.le_of_ble_eq_true rfl⟩) (gz_preV (q := (RX0, TX0, 9)) (ci := 0) hK hP [0, 1, 2, 3, 4, 5, 6] rfl rfl rfl) rfl rfl hl.1 rfl (lv_room (Nat.le_of_ble_eq_true rfl)) dL_law_268 ⟨Nat.le_of_ble_eq_true rfl, Nat.le_of_ble_eq_true rfl⟩) ?_
          refine lv_aload_n hx hb dL_law_271 rfl (lv_at hl 1 rfl) ?_
          refine lv_aload_n hx hb dL_law_272 rfl (lv_at hl 3 rfl) ?_
          refine lv_iload_n hx hb dL_law_273 rfl (lv_at hl 0 rfl) ?_
          refine lv_iconst (v := nI 1) hx hb dL_law_274 (by decide) ?_
          refine gz_iadd (i := i) (j := 1) hx hb dL_law_275 ?_
          refine gz_sld (k := i + 1) hx hb hX hbl hbA hS (by omega) (by omega) dL_law_276 ?_
          refine gz_callR (W.runV (As := [.int (xs (i + 1))]) (rest := [.int ((-1))]) ⟨hx, hb, hml, hown, hts⟩ (cM_get_bad l dC dI cA cZ gm ak ac ab al av ah ap fk fc fs fl fp fv ft rn cn sc (xs (i + 1)) hrn hcn hv) (cwV 1 hts gL_law_X1_get rfl rfl rfl (by decide +kernel) ⟨Nat.le_of_ble_eq_true rfl, Nat.le_of_ble_eq_true rfl⟩) (gz_preV (q := (RX1, TX1, 10)) (ci := 1) hK hP [7, 8, 9, 10, 11, 12, 13, 14] rfl rfl rfl) rfl rfl hl.1 rfl (lv_room (Nat.le_of_ble_eq_true rfl)) dL_law_277 ⟨Nat.le_of_ble_eq_true rfl, Nat.le_of_ble_eq_true rfl⟩) ?_
          refine lv_icmp_eq (tgt := 367) hx hb dL_law_280 (by decide) (fun c_1 => ?_) (fun c_1 => False.elim (c_1 rfl))
          refine lv_iinc (v := nI (i + 5)) (lv' := [(3, .int (nI (i + 5))), (2, .ref gm), (1, .ref h), (0, .ref b)]) hx hb dL_law_367 hl (k := 0) rfl (nI_add _ 5) (by decide) rfl (fun ls hl => ?_)
          refine lv_goto (tgt := 18) hx hb dL_law_370 (by decide) ?_
          exact ih (i + 5) (by omega) (by omega) fk fc fs fl fp fv ft rn cn sc hinv H locs hP hD hS ls (lv_sub hl [0, 1, 2, 3] rfl)
      by_cases hw5 : w = 5
      · subst hw5
        refine lv_tableIn (tgt := 285) hx hb dL_law_32 (by decide) (by decide) rfl (by decide) ?_
        refine lv_aload_n hx hb dL_law_285 rfl (lv_at hl 2 rfl) ?_
        refine gz_calli (wc := (gw cA h qk qc qs ql qp qv fk fc fs fl fp fv (nI rn) (nI cn) sc)) (wr := (mw cA cZ gm ak ac ab al av ah ap fk fc fs fl fp fv ft (nI rn) (nI cn) sc)) hP hD hS hA [0, 1, 2, 3, 4, 5, 6] [7, 8, 9, 10, 11, 12, 13, 14] rfl rfl (by decide) (by decide) (va_runV (As := []) (rest := []) ⟨hx, hb, hml, hown, hts⟩ (cG_scan l dC dI H.size cA cZ h qk qc qs ql qp qv fk fc fs fl fp fv rn cn sc hrn hcn hcI) (cwV 0 hts gL_law_X0_scan rfl rfl rfl (by decide +kernel) ⟨Nat.le_of_ble_eq_true rfl, Nat.le_of_ble_eq_true rfl⟩) (gz_preVw (q := (RX0, TX0, 9)) (ci := 0) hK hP hD [0, 1, 2, 3, 4, 5, 6] (by decide) rfl rfl rfl rfl) rfl rfl hl.1 rfl (lv_room (Nat.le_of_ble_eq_true rfl)) dL_law_286 ⟨Nat.le_of_ble_eq_true rfl, Nat.le_of_ble_eq_true rfl⟩) (fun H locs hP hD hS => ?_)
        have hP := hP.sub (ws' := ((gw cA h qk qc qs ql qp qv fk fc ((gCols fk fc fl fv rn (gP0 fp rn, fs) cn).2) fl ((gCols fk fc fl fv rn (gP0 fp rn, fs) cn).1) ((gCo fk fc (gCols fk fc fl fv rn (gP0 fp rn, fs) cn).1 cn (fv, nI 0) rn).1) (nI rn) (nI cn) (nI 1)) ++ (mw cA cZ gm ak ac ab al av ah ap fk fc fs fl fp fv ft (nI rn) (nI cn) sc))) [8, 9, 10, 11, 12, 13, 14, 0, 1, 2, 3, 4, 5, 6, 7] rfl
        have hD := hD.sub (ws' := ((gw cA h qk qc qs ql qp qv fk fc ((gCols fk fc fl fv rn (gP0 fp rn, fs) cn).2) fl ((gCols fk fc fl fv rn (gP0 fp rn, fs) cn).1) ((gCo fk fc (gCols fk fc fl fv rn (gP0 fp rn, fs) cn).1 cn (fv, nI 0) rn).1) (nI rn) (nI cn) (nI 1)) ++ (mw cA cZ gm ak ac ab al av ah ap fk fc fs fl fp fv ft (nI rn) (nI cn) sc))) [8, 9, 10, 11, 12, 13, 14, 0, 1, 2, 3, 4, 5, 6, 7] (by decide) rfl
        refine lv_aload_n hx hb dL_law_289 rfl (lv_at hl 1 rfl) ?_
        refine gz_calli (wc := (mw cA cZ gm ak ac ab al av ah ap fk fc fs fl fp fv ft (nI rn) (nI cn) sc)) (wr := (gw cA h qk qc qs ql qp qv fk fc ((gCols fk fc fl fv rn (gP0 fp rn, fs) cn).2) fl ((gCols fk fc fl fv rn (gP0 fp rn, fs) cn).1) ((gCo fk fc (gCols fk fc fl fv rn (gP0 fp rn, fs) cn).1 cn (fv, nI 0) rn).1) (nI rn) (nI cn) (nI 1))) hP hD hS hA [7, 8, 9, 10, 11, 12, 13, 14] [0, 1, 2, 3, 4, 5, 6] rfl rfl (by decide) (by decide) (va_runV (As := []) (rest := [.int ((gCo fk fc (gCols fk fc fl fv rn (gP0 fp rn, fs) cn).1 cn (fv, nI 0) rn).2)]) ⟨hx, hb, hml, hown, hts⟩ (cM_scan l dC dI H.size cA cZ gm ak ac ab al av ah ap fk fc fs fl fp fv ft rn cn sc hrn hcn hcI hkI hfl hfp hlk) (cwV 0 hts gL_law_X1_scan rfl rfl rfl (by decide +kernel) ⟨Nat.le_of_ble_eq_true rfl, Nat.le_of_ble_eq_true rfl⟩) (gz_preVw (q := (RX1, TX1, 10)) (ci := 1) hK hP hD [7, 8, 9, 10, 11, 12, 13, 14] (by decide) rfl rfl rfl rfl) rfl rfl hl.1 rfl (lv_room (Nat.le_of_ble_eq_true rfl)) dL_law_290 ⟨Nat.le_of_ble_eq_true rfl, Nat.le_of_ble_eq_true rfl⟩) (fun H locs hP hD hS => ?_)
        have hP : va_P (dC, dI) vwCl ((gw cA h qk qc qs ql qp qv fk fc ((gCols fk fc fl fv rn (gP0 fp rn, fs) cn).2) fl ((gCols fk fc fl fv rn (gP0 fp rn, fs) cn).1) ((gCo fk fc (gCols fk fc fl fv rn (gP0 fp rn, fs) cn).1 cn (fv, nI 0) rn).1) (nI rn) (nI cn) (nI 1)) ++ (mw cA cZ gm ak ac ab al av ah ap fk fc ((gCols fk fc fl fv rn (gP0 fp rn, fs) cn).2) fl ((gCols fk fc fl fv rn (gP0 fp rn, fs) cn).1) ((gCo fk fc (gCols fk fc fl fv rn (gP0 fp rn, fs) cn).1 cn (fv, nI 0) rn).1) fv (nI rn) (nI cn) (nI 1))) H := hP
        have hD : va_D (fun q : Nat => s.heap.size ≤ q) ((gw cA h qk qc qs ql qp qv fk fc ((gCols fk fc fl fv rn (gP0 fp rn, fs) cn).2) fl ((gCols fk fc fl fv rn (gP0 fp rn, fs) cn).1) ((gCo fk fc (gCols fk fc fl fv rn (gP0 fp rn, fs) cn).1 cn (fv, nI 0) rn).1) (nI rn) (nI cn) (nI 1)) ++ (mw cA cZ gm ak ac ab al av ah ap fk fc ((gCols fk fc fl fv rn (gP0 fp rn, fs) cn).2) fl ((gCols fk fc fl fv rn (gP0 fp rn, fs) cn).1) ((gCo fk fc (gCols fk fc fl fv rn (gP0 fp rn, fs) cn).1 cn (fv, nI 0) rn).1) fv (nI rn) (nI cn) (nI 1))) := hD
        refine lv_icmp_eq (tgt := 367) hx hb dL_law_293 (by decide) (fun c_1 => ?_) (fun c_1 => False.elim (c_1 rfl))
        refine lv_iinc (v := nI (i + 5)) (lv' := [(3, .int (nI (i + 5))), (2, .ref gm), (1, .ref h), (0, .ref b)]) hx hb dL_law_367 hl (k := 0) rfl (nI_add _ 5) (by decide) rfl (fun ls hl => ?_)
        refine lv_goto (tgt := 18) hx hb dL_law_370 (by decide) ?_
        exact ih (i + 5) (by omega) (by omega) fk fc ((gCols fk fc fl fv rn (gP0 fp rn, fs) cn).2) fl ((gCols fk fc fl fv rn (gP0 fp rn, fs) cn).1) ((gCo fk fc (gCols fk fc fl fv rn (gP0 fp rn, fs) cn).1 cn (fv, nI 0) rn).1) fv rn cn (nI 1) (gInv_scan hinv) H locs hP hD hS ls (lv_sub hl [0, 1, 2, 3] rfl)
      by_cases hw6 : w = 6
      · subst hw6
        refine lv_tableIn (tgt := 298) hx hb dL_law_32 (by decide) (by decide) rfl (by decide) ?_
        by_cases hv1 : 0 ≤ (xs (i + 1)).toInt ∧ (xs (i + 1)).toInt < (rn : Int)
        · by_cases hv2 : 0 ≤ (xs (i + 2)).toInt ∧ (xs (i + 2)).toInt ≤ (cn : Int)
          · by_cases hs0 : sc = nI 0
            · skip
              refine lv_aload_n hx hb dL_law_298 rfl (lv_at hl 2 rfl) ?_
              refine lv_aload_n hx hb dL_law_299 rfl (lv_at hl 3 rfl) ?_
              refine lv_iload_n hx hb dL_law_300 rfl (lv_at hl 0 rfl) ?_
              refine lv_iconst (v := nI 1) hx hb dL_law_301 (by decide) ?_
              refine gz_iadd (i := i) (j := 1) hx hb dL_law_302 ?_
              refine gz_sld (k := i + 1) hx hb hX hbl hbA hS (by omega) (by omega) dL_law_303 ?_
              refine lv_aload_n hx hb dL_law_304 rfl (lv_at hl 3 rfl) ?_
              refine lv_iload_n hx hb dL_law_305 rfl (lv_at hl 0 rfl) ?_
              refine lv_iconst (v := nI 2) hx hb dL_law_306 (by decide) ?_
              refine gz_iadd (i := i) (j := 2) hx hb dL_law_307 ?_
              refine gz_sld (k := i + 2) hx hb hX hbl hbA hS (by omega) (by omega) dL_law_308 ?_
              refine gz_callR (W.runV (As := [.int (xs (i + 1)), .int (xs (i + 2))]) (rest := []) ⟨hx, hb, hml, hown, hts⟩ (cG_power_bad l dC dI cA cZ h qk qc qs ql qp qv fk fc fs fl fp fv rn cn sc (xs (i + 1)) (xs (i + 2)) hrn hcn (Or.inr (Or.inr hs0))) (cwV 2 hts gL_law_X0_power rfl rfl rfl (by decide +kernel) ⟨Nat.le_of_ble_eq_true rfl, Nat.le_of_ble_eq_true rfl⟩) (gz_preV (q := (RX0, TX0, 9)) (ci := 0) hK hP [0, 1, 2, 3, 4, 5, 6] rfl rfl rfl) rfl rfl hl.1 rfl (lv_room (Nat.le_of_ble_eq_true rfl)) dL_law_309 ⟨Nat.le_of_ble_eq_true rfl, Nat.le_of_ble_eq_true rfl⟩) ?_
              refine lv_aload_n hx hb dL_law_312 rfl (lv_at hl 1 rfl) ?_
              refine lv_aload_n hx hb dL_law_313 rfl (lv_at hl 3 rfl) ?_
              refine lv_iload_n hx hb dL_law_314 rfl (lv_at hl 0 rfl) ?_
              refine lv_iconst (v := nI 1) hx hb dL_law_315 (by decide) ?_
              refine gz_iadd (i := i) (j := 1) hx hb dL_law_316 ?_
              refine gz_sld (k := i + 1) hx hb hX hbl hbA hS (by omega) (by omega) dL_law_317 ?_
              refine lv_aload_n hx hb dL_law_318 rfl (lv_at hl 3 rfl) ?_
              refine lv_iload_n hx hb dL_law_319 rfl (lv_at hl 0 rfl) ?_
              refine lv_iconst (v := nI 2) hx hb dL_law_320 (by decide) ?_
              refine gz_iadd (i := i) (j := 2) hx hb dL_law_321 ?_
              refine gz_sld (k := i + 2) hx hb hX hbl hbA hS (by omega) (by omega) dL_law_322 ?_
              refine gz_callR (W.runV (As := [.int (xs (i + 1)), .int (xs (i + 2))]) (rest := [.int ((-1))]) ⟨hx, hb, hml, hown, hts⟩ (cM_power_bad l dC dI cA cZ gm ak ac ab al av ah ap fk fc fs fl fp fv ft rn cn sc (xs (i + 1)) (xs (i + 2)) hrn hcn (Or.inr (Or.inr hs0))) (cwV 2 hts gL_law_X1_power rfl rfl rfl (by decide +kernel) ⟨Nat.le_of_ble_eq_true rfl, Nat.le_of_ble_eq_true rfl⟩) (gz_preV (q := (RX1, TX1, 10)) (ci := 1) hK hP [7, 8, 9, 10, 11, 12, 13, 14] rfl rfl rfl) rfl rfl hl.1 rfl (lv_room (Nat.le_of_ble_eq_true rfl)) dL_law_323 ⟨Nat.le_of_ble_eq_true rfl, Nat.le_of_ble_eq_true rfl⟩) ?_
              refine lv_icmp_eq (tgt := 367) hx hb dL_law_326 (by decide) (fun c_1 => ?_) (fun c_1 => False.elim (c_1 rfl))
              refine lv_iinc (v := nI (i + 5)) (lv' := [(3, .int (nI (i + 5))), (2, .ref gm), (1, .ref h), (0, .ref b)]) hx hb dL_law_367 hl (k := 0) rfl (nI_add _ 5) (by decide) rfl (fun ls hl => ?_)
              refine lv_goto (tgt := 18) hx hb dL_law_370 (by decide) ?_
              exact ih (i + 5) (by omega) (by omega) fk fc fs fl fp fv ft rn cn sc hinv H locs hP hD hS ls (lv_sub hl [0, 1, 2, 3] rfl)
            · obtain ⟨a1, e1, z1⟩ := gz_nat (x := xs (i + 1)) (by omega)
              obtain ⟨a2, e2, z2⟩ := gz_nat (x := xs (i + 2)) (by omega)
              by_cases hk6 : a2 < cn ∨ (fk (a1 * 12 + (cn - 1))).toInt < 6
              · skip
                refine lv_aload_n hx hb dL_law_298 rfl (lv_at hl 2 rfl) ?_
                refine lv_aload_n hx hb dL_law_299 rfl (lv_at hl 3 rfl) ?_
                refine lv_iload_n hx hb dL_law_300 rfl (lv_at hl 0 rfl) ?_
                refine lv_iconst (v := nI 1) hx hb dL_law_301 (by decide) ?_
                refine gz_iadd (i := i) (j := 1) hx hb dL_law_302 ?_
                refine gz_sld (k := i + 1) hx hb hX hbl hbA hS (by omega) (by omega) dL_law_303 ?_
                refine gz_topI (y := nI a1) e1 ?_
                refine lv_aload_n hx hb dL_law_304 rfl (lv_at hl 3 rfl) ?_
                refine lv_iload_n hx hb dL_law_305 rfl (lv_at hl 0 rfl) ?_
                refine lv_iconst (v := nI 2) hx hb dL_law_306 (by decide) ?_
                refine gz_iadd (i := i) (j := 2) hx hb dL_law_307 ?_
                refine gz_sld (k := i + 2) hx hb hX hbl hbA hS (by omega) (by omega) dL_law_308 ?_
                refine gz_topI (y := nI a2) e2 ?_
                refine gz_callR (W.runV (As := [.int (nI a1), .int (nI a2)]) (rest := []) ⟨hx, hb, hml, hown, hts⟩ (cG_power l dC dI cA cZ h qk qc qs ql qp qv fk fc fs fl fp fv rn cn sc a1 a2 hrn hcn (by omega) (by omega) hs0 hk6) (cwV 2 hts gL_law_X0_power rfl rfl rfl (by decide +kernel) ⟨Nat.le_of_ble_eq_true rfl, Nat.le_of_ble_eq_true rfl⟩) (gz_preV (q := (RX0, TX0, 9)) (ci := 0) hK hP [0, 1, 2, 3, 4, 5, 6] rfl rfl rfl) rfl rfl hl.1 rfl (lv_room (Nat.le_of_ble_eq_true rfl)) dL_law_309 ⟨Nat.le_of_ble_eq_true rfl, Nat.le_of_ble_eq_true rfl⟩) ?_
                refine lv_aload_n hx hb dL_law_312 rfl (lv_at hl 1 rfl) ?_
                refine lv_aload_n hx hb dL_law_313 rfl (lv_at hl 3 rfl) ?_
                refine lv_iload_n hx hb dL_law_314 rfl (lv_at hl 0 rfl) ?_
                refine lv_iconst (v := nI 1) hx hb dL_law_315 (by decide) ?_
                refine gz_iadd (i := i) (j := 1) hx hb dL_law_316 ?_
                refine gz_sld (k := i + 1) hx hb hX hbl hbA hS (by omega) (by omega) dL_law_317 ?_
                refine gz_topI (y := nI a1) e1 ?_
                refine lv_aload_n hx hb dL_law_318 rfl (lv_at hl 3 rfl) ?_
                refine lv_iload_n hx hb dL_law_319 rfl (lv_at hl 0 rfl) ?_
                refine lv_iconst (v := nI 2) hx hb dL_law_320 (by decide) ?_
                refine gz_iadd (i := i) (j := 2) hx hb dL_law_321 ?_
                refine gz_sld (k := i + 2) hx hb hX hbl hbA hS (by omega) (by omega) dL_law_322 ?_
                refine gz_topI (y := nI a2) e2 ?_
                refine gz_callR (W.runV (As := [.int (nI a1), .int (nI a2)]) (rest := [.int (fp (a1 * 13 + a2))]) ⟨hx, hb, hml, hown, hts⟩ (cM_power l dC dI cA cZ gm ak ac ab al av ah ap fk fc fs fl fp fv ft rn cn sc a1 a2 hrn hcn (by omega) (by omega) hs0 hk6 hfp) (cwV 2 hts gL_law_X1_power rfl rfl rfl (by decide +kernel) ⟨Nat.le_of_ble_eq_true rfl, Nat.le_of_ble_eq_true rfl⟩) (gz_preV (q := (RX1, TX1, 10)) (ci := 1) hK hP [7, 8, 9, 10, 11, 12, 13, 14] rfl rfl rfl) rfl rfl hl.1 rfl (lv_room (Nat.le_of_ble_eq_true rfl)) dL_law_323 ⟨Nat.le_of_ble_eq_true rfl, Nat.le_of_ble_eq_true rfl⟩) ?_
                refine lv_icmp_eq (tgt := 367) hx hb dL_law_326 (by decide) (fun c_1 => ?_) (fun c_1 => False.elim (c_1 rfl))
                refine lv_iinc (v := nI (i + 5)) (lv' := [(3, .int (nI (i + 5))), (2, .ref gm), (1, .ref h), (0, .ref b)]) hx hb dL_law_367 hl (k := 0) rfl (nI_add _ 5) (by decide) rfl (fun ls hl => ?_)
                refine lv_goto (tgt := 18) hx hb dL_law_370 (by decide) ?_
                exact ih (i + 5) (by omega) (by omega) fk fc fs fl fp fv ft rn cn sc hinv H locs hP hD hS ls (lv_sub hl [0, 1, 2, 3] rfl)
              · obtain rfl : cn = a2 := by omega
                refine lv_aload_n hx hb dL_law_298 rfl (lv_at hl 2 rfl) ?_
                refine lv_aload_n hx hb dL_law_299 rfl (lv_at hl 3 rfl) ?_
                refine lv_iload_n hx hb dL_law_300 rfl (lv_at hl 0 rfl) ?_
                refine lv_iconst (v := nI 1) hx hb dL_law_301 (by decide) ?_
                refine gz_iadd (i := i) (j := 1) hx hb dL_law_302 ?_
                refine gz_sld (k := i + 1) hx hb hX hbl hbA hS (by omega) (by omega) dL_law_303 ?_
                refine gz_topI (y := nI a1) e1 ?_
                refine lv_aload_n hx hb dL_law_304 rfl (lv_at hl 3 rfl) ?_
                refine lv_iload_n hx hb dL_law_305 rfl (lv_at hl 0 rfl) ?_
                refine lv_iconst (v := nI 2) hx hb dL_law_306 (by decide) ?_
                refine gz_iadd (i := i) (j := 2) hx hb dL_law_307 ?_
                refine gz_sld (k := i + 2) hx hb hX hbl hbA hS (by omega) (by omega) dL_law_308 ?_
                refine gz_topI (y := nI cn) e2 ?_
                refine gz_callR (W.runV (As := [.int (nI a1), .int (nI cn)]) (rest := []) ⟨hx, hb, hml, hown, hts⟩ (cG_power_coil l dC dI cA cZ h qk qc qs ql qp qv fk fc fs fl fp fv rn cn sc a1 hrn hcn (by omega) hs0 (by omega)) (cwV 2 hts gL_law_X0_power rfl rfl rfl (by decide +kernel) ⟨Nat.le_of_ble_eq_true rfl, Nat.le_of_ble_eq_true rfl⟩) (gz_preV (q := (RX0, TX0, 9)) (ci := 0) hK hP [0, 1, 2, 3, 4, 5, 6] rfl rfl rfl) rfl rfl hl.1 rfl (lv_room (Nat.le_of_ble_eq_true rfl)) dL_law_309 ⟨Nat.le_of_ble_eq_true rfl, Nat.le_of_ble_eq_true rfl⟩) ?_
                refine lv_aload_n hx hb dL_law_312 rfl (lv_at hl 1 rfl) ?_
                refine lv_aload_n hx hb dL_law_313 rfl (lv_at hl 3 rfl) ?_
                refine lv_iload_n hx hb dL_law_314 rfl (lv_at hl 0 rfl) ?_
                refine lv_iconst (v := nI 1) hx hb dL_law_315 (by decide) ?_
                refine gz_iadd (i := i) (j := 1) hx hb dL_law_316 ?_
                refine gz_sld (k := i + 1) hx hb hX hbl hbA hS (by omega) (by omega) dL_law_317 ?_
                refine gz_topI (y := nI a1) e1 ?_
                refine lv_aload_n hx hb dL_law_318 rfl (lv_at hl 3 rfl) ?_
                refine lv_iload_n hx hb dL_law_319 rfl (lv_at hl 0 rfl) ?_
                refine lv_iconst (v := nI 2) hx hb dL_law_320 (by decide) ?_
                refine gz_iadd (i := i) (j := 2) hx hb dL_law_321 ?_
                refine gz_sld (k := i + 2) hx hb hX hbl hbA hS (by omega) (by omega) dL_law_322 ?_
                refine gz_topI (y := nI cn) e2 ?_
                refine gz_callR (W.runV (As := [.int (nI a1), .int (nI cn)]) (rest := [.int ((-1))]) ⟨hx, hb, hml, hown, hts⟩ (cM_power_coil l dC dI cA cZ gm ak ac ab al av ah ap fk fc fs fl fp fv ft rn cn sc a1 hrn hcn (by omega) hs0 (by omega)) (cwV 2 hts gL_law_X1_power rfl rfl rfl (by decide +kernel) ⟨Nat.le_of_ble_eq_true rfl, Nat.le_of_ble_eq_true rfl⟩) (gz_preV (q := (RX1, TX1, 10)) (ci := 1) hK hP [7, 8, 9, 10, 11, 12, 13, 14] rfl rfl rfl) rfl rfl hl.1 rfl (lv_room (Nat.le_of_ble_eq_true rfl)) dL_law_323 ⟨Nat.le_of_ble_eq_true rfl, Nat.le_of_ble_eq_true rfl⟩) ?_
                refine lv_icmp_eq (tgt := 367) hx hb dL_law_326 (by decide) (fun c_1 => ?_) (fun c_1 => False.elim (c_1 rfl))
                refine lv_iinc (v := nI (i + 5)) (lv' := [(3, .int (nI (i + 5))), (2, .ref gm), (1, .ref h), (0, .ref b)]) hx hb dL_law_367 hl (k := 0) rfl (nI_add _ 5) (by decide) rfl (fun ls hl => ?_)
                refine lv_goto (tgt := 18) hx hb dL_law_370 (by decide) ?_
                exact ih (i + 5) (by omega) (by omega) fk fc fs fl fp fv ft rn cn sc hinv H locs hP hD hS ls (lv_sub hl [0, 1, 2, 3] rfl)
          · skip
            refine lv_aload_n hx hb dL_law_298 rfl (lv_at hl 2 rfl) ?_
            refine lv_aload_n hx hb dL_law_299 rfl (lv_at hl 3 rfl) ?_
            refine lv_iload_n hx hb dL_law_300 rfl (lv_at hl 0 rfl) ?_
            refine lv_iconst (v := nI 1) hx hb dL_law_301 (by decide) ?_
            refine gz_iadd (i := i) (j := 1) hx hb dL_law_302 ?_
            refine gz_sld (k := i + 1) hx hb hX hbl hbA hS (by omega) (by omega) dL_law_303 ?_
            refine lv_aload_n hx hb dL_law_304 rfl (lv_at hl 3 rfl) ?_
            refine lv_iload_n hx hb dL_law_305 rfl (lv_at hl 0 rfl) ?_
            refine lv_iconst (v := nI 2) hx hb dL_law_306 (by decide) ?_
            refine gz_iadd (i := i) (j := 2) hx hb dL_law_307 ?_
            refine gz_sld (k := i + 2) hx hb hX hbl hbA hS (by omega) (by omega) dL_law_308 ?_
            refine gz_callR (W.runV (As := [.int (xs (i + 1)), .int (xs (i + 2))]) (rest := []) ⟨hx, hb, hml, hown, hts⟩ (cG_power_bad l dC dI cA cZ h qk qc qs ql qp qv fk fc fs fl fp fv rn cn sc (xs (i + 1)) (xs (i + 2)) hrn hcn (Or.inr (Or.inl hv2))) (cwV 2 hts gL_law_X0_power rfl rfl rfl (by decide +kernel) ⟨Nat.le_of_ble_eq_true rfl, Nat.le_of_ble_eq_true rfl⟩) (gz_preV (q := (RX0, TX0, 9)) (ci := 0) hK hP [0, 1, 2, 3, 4, 5, 6] rfl rfl rfl) rfl rfl hl.1 rfl (lv_room (Nat.le_of_ble_eq_true rfl)) dL_law_309 ⟨Nat.le_of_ble_eq_true rfl, Nat.le_of_ble_eq_true rfl⟩) ?_
            refine lv_aload_n hx hb dL_law_312 rfl (lv_at hl 1 rfl) ?_
            refine lv_aload_n hx hb dL_law_313 rfl (lv_at hl 3 rfl) ?_
            refine lv_iload_n hx hb dL_law_314 rfl (lv_at hl 0 rfl) ?_
            refine lv_iconst (v := nI 1) hx hb dL_law_315 (by decide) ?_
            refine gz_iadd (i := i) (j := 1) hx hb dL_law_316 ?_
            refine gz_sld (k := i + 1) hx hb hX hbl hbA hS (by omega) (by omega) dL_law_317 ?_
            refine lv_aload_n hx hb dL_law_318 rfl (lv_at hl 3 rfl) ?_
            refine lv_iload_n hx hb dL_law_319 rfl (lv_at hl 0 rfl) ?_
            refine lv_iconst (v := nI 2) hx hb dL_law_320 (by decide) ?_
            refine gz_iadd (i := i) (j := 2) hx hb dL_law_321 ?_
            refine gz_sld (k := i + 2) hx hb hX hbl hbA hS (by omega) (by omega) dL_law_322 ?_
            refine gz_callR (W.runV (As := [.int (xs (i + 1)), .int (xs (i + 2))]) (rest := [.int ((-1))]) ⟨hx, hb, hml, hown, hts⟩ (cM_power_bad l dC dI cA cZ gm ak ac ab al av ah ap fk fc fs fl fp fv ft rn cn sc (xs (i + 1)) (xs (i + 2)) hrn hcn (Or.inr (Or.inl hv2))) (cwV 2 hts gL_law_X1_power rfl rfl rfl (by decide +kernel) ⟨Nat.le_of_ble_eq_true rfl, Nat.le_of_ble_eq_true rfl⟩) (gz_preV (q := (RX1, TX1, 10)) (ci := 1) hK hP [7, 8, 9, 10, 11, 12, 13, 14] rfl rfl rfl) rfl rfl hl.1 rfl (lv_room (Nat.le_of_ble_eq_true rfl)) dL_law_323 ⟨Nat.le_of_ble_eq_true rfl, Nat.le_of_ble_eq_true rfl⟩) ?_
            refine lv_icmp_eq (tgt := 367) hx hb dL_law_326 (by decide) (fun c_1 => ?_) (fun c_1 => False.elim (c_1 rfl))
            refine lv_iinc (v := nI (i + 5)) (lv' := [(3, .int (nI (i + 5))), (2, .ref gm), (1, .ref h), (0, .ref b)]) hx hb dL_law_367 hl (k := 0) rfl (nI_add _ 5) (by decide) rfl (fun ls hl => ?_)
            refine lv_goto (tgt := 18) hx hb dL_law_370 (by decide) ?_
            exact ih (i + 5) (by omega) (by omega) fk fc fs fl fp fv ft rn cn sc hinv H locs hP hD hS ls (lv_sub hl [0, 1, 2, 3] rfl)
        · skip
          refine lv_aload_n hx hb dL_law_298 rfl (lv_at hl 2 rfl) ?_
          refine lv_aload_n hx hb dL_law_299 rfl (lv_at hl 3 rfl) ?_
          refine lv_iload_n hx hb dL_law_300 rfl (lv_at hl 0 rfl) ?_
          refine lv_iconst (v := nI 1) hx hb dL_law_301 (by decide) ?_
          refine gz_iadd (i := i) (j := 1) hx hb dL_law_302 ?_
          refine gz_sld (k := i + 1) hx hb hX hbl hbA hS (by omega) (by omega) dL_law_303 ?_
          refine lv_aload_n hx hb dL_law_304 rfl (lv_at hl 3 rfl) ?_
          refine lv_iload_n hx hb dL_law_305 rfl (lv_at hl 0 rfl) ?_
          refine lv_iconst (v := nI 2) hx hb dL_law_306 (by decide) ?_
          refine gz_iadd (i := i) (j := 2) hx hb dL_law_307 ?_
          refine gz_sld (k := i + 2) hx hb hX hbl hbA hS (by omega) (by omega) dL_law_308 ?_
          refine gz_callR (W.runV (As := [.int (xs (i + 1)), .int (xs (i + 2))]) (rest := []) ⟨hx, hb, hml, hown, hts⟩ (cG_power_bad l dC dI cA cZ h qk qc qs ql qp qv fk fc fs fl fp fv rn cn sc (xs (i + 1)) (xs (i + 2)) hrn hcn (Or.inl hv1)) (cwV 2 hts gL_law_X0_power rfl rfl rfl (by decide +kernel) ⟨Nat.le_of_ble_eq_true rfl, Nat.le_of_ble_eq_true rfl⟩) (gz_preV (q := (RX0, TX0, 9)) (ci := 0) hK hP [0, 1, 2, 3, 4, 5, 6] rfl rfl rfl) rfl rfl hl.1 rfl (lv_room (Nat.le_of_ble_eq_true rfl)) dL_law_309 ⟨Nat.le_of_ble_eq_true rfl, Nat.le_of_ble_eq_true rfl⟩) ?_
          refine lv_aload_n hx hb dL_law_312 rfl (lv_at hl 1 rfl) ?_
          refine lv_aload_n hx hb dL_law_313 rfl (lv_at hl 3 rfl) ?_
          refine lv_iload_n hx hb dL_law_314 rfl (lv_at hl 0 rfl) ?_
          refine lv_iconst (v := nI 1) hx hb dL_law_315 (by decide) ?_
          refine gz_iadd (i := i) (j := 1) hx hb dL_law_316 ?_
          refine gz_sld (k := i + 1) hx hb hX hbl hbA hS (by omega) (by omega) dL_law_317 ?_
          refine lv_aload_n hx hb dL_law_318 rfl (lv_at hl 3 rfl) ?_
          refine lv_iload_n hx hb dL_law_319 rfl (lv_at hl 0 rfl) ?_
          refine lv_iconst (v := nI 2) hx hb dL_law_320 (by decide) ?_
          refine gz_iadd (i := i) (j := 2) hx hb dL_law_321 ?_
          refine gz_sld (k := i + 2) hx hb hX hbl hbA hS (by omega) (by omega) dL_law_322 ?_
          refine gz_callR (W.runV (As := [.int (xs (i + 1)), .int (xs (i + 2))]) (rest := [.int ((-1))]) ⟨hx, hb, hml, hown, hts⟩ (cM_power_bad l dC dI cA cZ gm ak ac ab al av ah ap fk fc fs fl fp fv ft rn cn sc (xs (i + 1)) (xs (i + 2)) hrn hcn (Or.inl hv1)) (cwV 2 hts gL_law_X1_power rfl rfl rfl (by decide +kernel) ⟨Nat.le_of_ble_eq_true rfl, Nat.le_of_ble_eq_true rfl⟩) (gz_preV (q := (RX1, TX1, 10)) (ci := 1) hK hP [7, 8, 9, 10, 11, 12, 13, 14] rfl rfl rfl) rfl rfl hl.1 rfl (lv_room (Nat.le_of_ble_eq_true rfl)) dL_law_323 ⟨Nat.le_of_ble_eq_true rfl, Nat.le_of_ble_eq_true rfl⟩) ?_
          refine lv_icmp_eq (tgt := 367) hx hb dL_law_326 (by decide) (fun c_1 => ?_) (fun c_1 => False.elim (c_1 rfl))
          refine lv_iinc (v := nI (i + 5)) (lv' := [(3, .int (nI (i + 5))), (2, .ref gm), (1, .ref h), (0, .ref b)]) hx hb dL_law_367 hl (k := 0) rfl (nI_add _ 5) (by decide) rfl (fun ls hl => ?_)
          refine lv_goto (tgt := 18) hx hb dL_law_370 (by decide) ?_
          exact ih (i + 5) (by omega) (by omega) fk fc fs fl fp fv ft rn cn sc hinv H locs hP hD hS ls (lv_sub hl [0, 1, 2, 3] rfl)
      by_cases hw7 : w = 7
      · subst hw7
        refine lv_tableIn (tgt := 331) hx hb dL_law_32 (by decide) (by decide) rfl (by decide) ?_
        refine lv_aload_n hx hb dL_law_331 rfl (lv_at hl 2 rfl) ?_
        refine gz_callR (W.runV (As := []) (rest := []) ⟨hx, hb, hml, hown, hts⟩ (cG_steps l dC dI tK cA cZ h qk qc qs ql qp qv fk fc fs fl fp fv rn cn sc hrn hcn hfl hkI) (cwV 0 hts gL_law_X0_steps rfl rfl rfl (by decide +kernel) ⟨Nat.le_of_ble_eq_true rfl, Nat.le_of_ble_eq_true rfl⟩) (gz_preVs (q := (RX0, TX0, 9)) (ci := 0) hK hP ((hZ0.kept hS.2.1).narrow (fun _ h => h.elim)) ((hT0.kept hS.2.1).narrow (fun _ h => h.elim)) [0, 1, 2, 3, 4, 5, 6] rfl rfl rfl) rfl rfl hl.1 rfl (lv_room (Nat.le_of_ble_eq_true rfl)) dL_law_332 ⟨Nat.le_of_ble_eq_true rfl, Nat.le_of_ble_eq_true rfl⟩) ?_
        refine lv_aload_n hx hb dL_law_335 rfl (lv_at hl 1 rfl) ?_
        refine gz_callR (W.runV (As := []) (rest := [.int (nI (gSt fk fl rn cn + gCs fk cn rn))]) ⟨hx, hb, hml, hown, hts⟩ (cM_steps l dC dI cA cZ gm ak ac ab al av ah ap fk fc fs fl fp fv ft rn cn sc hrn hcn hfl hlk hkI hco7) (cwV 0 hts gL_law_X1_steps rfl rfl rfl (by decide +kernel) ⟨Nat.le_of_ble_eq_true rfl, Nat.le_of_ble_eq_true rfl⟩) (gz_preV (q := (RX1, TX1, 10)) (ci := 1) hK hP [7, 8, 9, 10, 11, 12, 13, 14] rfl rfl rfl) rfl rfl hl.1 rfl (lv_room (Nat.le_of_ble_eq_true rfl)) dL_law_336 ⟨Nat.le_of_ble_eq_true rfl, Nat.le_of_ble_eq_true rfl⟩) ?_
        refine lv_icmp_eq (tgt := 367) hx hb dL_law_339 (by decide) (fun c_1 => ?_) (fun c_1 => False.elim (c_1 rfl))
        refine lv_iinc (v := nI (i + 5)) (lv' := [(3, .int (nI (i + 5))), (2, .ref gm), (1, .ref h), (0, .ref b)]) hx hb dL_law_367 hl (k := 0) rfl (nI_add _ 5) (by decide) rfl (fun ls hl => ?_)
        refine lv_goto (tgt := 18) hx hb dL_law_370 (by decide) ?_
        exact ih (i + 5) (by omega) (by omega) fk fc fs fl fp fv ft rn cn sc hinv H locs hP hD hS ls (lv_sub hl [0, 1, 2, 3] rfl)
      by_cases hw8 : w = 8
      · subst hw8
        refine lv_tableIn (tgt := 344) hx hb dL_law_32 (by decide) (by decide) rfl (by decide) ?_
        by_cases hv : 0 ≤ (xs (i + 1)).toInt ∧ (xs (i + 1)).toInt ≤ (cn : Int)
        · obtain ⟨a1, e1, z1⟩ := gz_nat (x := xs (i + 1)) (by omega)
          refine lv_aload_n hx hb dL_law_344 rfl (lv_at hl 2 rfl) ?_
          refine lv_aload_n hx hb dL_law_345 rfl (lv_at hl 3 rfl) ?_
          refine lv_iload_n hx hb dL_law_346 rfl (lv_at hl 0 rfl) ?_
          refine lv_iconst (v := nI 1) hx hb dL_law_347 (by decide) ?_
          refine gz_iadd (i := i) (j := 1) hx hb dL_law_348 ?_
          refine gz_sld (k := i + 1) hx hb hX hbl hbA hS (by omega) (by omega) dL_law_349 ?_
          refine gz_topI (y := nI a1) e1 ?_
          refine gz_callR (W.runV (As := [.int (nI a1)]) (rest := []) ⟨hx, hb, hml, hown, hts⟩ (cG_groups l dC dI cA cZ h qk qc qs ql qp qv fk fc fs fl fp fv rn cn sc a1 hrn hcn (by omega) hfl) (cwV 1 hts gL_law_X0_groups rfl rfl rfl (by decide +kernel) ⟨Nat.le_of_ble_eq_true rfl, Nat.le_of_ble_eq_true rfl⟩) (gz_preV (q := (RX0, TX0, 9)) (ci := 0) hK hP [0, 1, 2, 3, 4, 5, 6] rfl rfl rfl) rfl rfl hl.1 rfl (lv_room (Nat.le_of_ble_eq_true rfl)) dL_law_350 ⟨Nat.le_of_ble_eq_true rfl, Nat.le_of_ble_eq_true rfl⟩) ?_
          refine lv_aload_n hx hb dL_law_353 rfl (lv_at hl 1 rfl) ?_
          refine lv_aload_n hx hb dL_law_354 rfl (lv_at hl 3 rfl) ?_
          refine lv_iload_n hx hb dL_law_355 rfl (lv_at hl 0 rfl) ?_
          refine lv_iconst (v := nI 1) hx hb dL_law_356 (by decide) ?_
          refine gz_iadd (i := i) (j := 1) hx hb dL_law_357 ?_
          refine gz_sld (k := i + 1) hx hb hX hbl hbA hS (by omega) (by omega) dL_law_358 ?_
          refine gz_topI (y := nI a1) e1 ?_
          refine gz_callR (W.runV (As := [.int (nI a1)]) (rest := [.int (nI (rn - gGr fl a1 rn))]) ⟨hx, hb, hml, hown, hts⟩ (cM_groups l dC dI cA cZ gm ak ac ab al av ah ap fk fc fs fl fp fv ft rn cn sc a1 hrn hcn (by omega) hfl hlk) (cwV 1 hts gL_law_X1_groups rfl rfl rfl (by decide +kernel) ⟨Nat.le_of_ble_eq_true rfl, Nat.le_of_ble_eq_true rfl⟩) (gz_preV (q := (RX1, TX1, 10)) (ci := 1) hK hP [7, 8, 9, 10, 11, 12, 13, 14] rfl rfl rfl) rfl rfl hl.1 rfl (lv_room (Nat.le_of_ble_eq_true rfl)) dL_law_359 ⟨Nat.le_of_ble_eq_true rfl, Nat.le_of_ble_eq_true rfl⟩) ?_
          refine lv_icmp_eq (tgt := 367) hx hb dL_law_362 (by decide) (fun c_1 => ?_) (fun c_1 => False.elim (c_1 rfl))
          refine lv_iinc (v := nI (i + 5)) (lv' := [(3, .int (nI (i + 5))), (2, .ref gm), (1, .ref h), (0, .ref b)]) hx hb dL_law_367 hl (k := 0) rfl (nI_add _ 5) (by decide) rfl (fun ls hl => ?_)
          refine lv_goto (tgt := 18) hx hb dL_law_370 (by decide) ?_
          exact ih (i + 5) (by omega) (by omega) fk fc fs fl fp fv ft rn cn sc hinv H locs hP hD hS ls (lv_sub hl [0, 1, 2, 3] rfl)
        · skip
          refine lv_aload_n hx hb dL_law_344 rfl (lv_at hl 2 rfl) ?_
          refine lv_aload_n hx hb dL_law_345 rfl (lv_at hl 3 rfl) ?_
          refine lv_iload_n hx hb dL_law_346 rfl (lv_at hl 0 rfl) ?_
          refine lv_iconst (v := nI 1) hx hb dL_law_347 (by decide) ?_
          refine gz_iadd (i := i) (j := 1) hx hb dL_law_348 ?_
          refine gz_sld (k := i + 1) hx hb hX hbl hbA hS (by omega) (by omega) dL_law_349 ?_
          refine gz_callR (W.runV (As := [.int (xs (i + 1))]) (rest := []) ⟨hx, hb, hml, hown, hts⟩ (cG_groups_bad l dC dI cA cZ h qk qc qs ql qp qv fk fc fs fl fp fv rn cn sc (xs (i + 1)) hrn hcn hv) (cwV 1 hts gL_law_X0_groups rfl rfl rfl (by decide +kernel) ⟨Nat.le_of_ble_eq_true rfl, Nat.le_of_ble_eq_true rfl⟩) (gz_preV (q := (RX0, TX0, 9)) (ci := 0) hK hP [0, 1, 2, 3, 4, 5, 6] rfl rfl rfl) rfl rfl hl.1 rfl (lv_room (Nat.le_of_ble_eq_true rfl)) dL_law_350 ⟨Nat.le_of_ble_eq_true rfl, Nat.le_of_ble_eq_true rfl⟩) ?_
          refine lv_aload_n hx hb dL_law_353 rfl (lv_at hl 1 rfl) ?_
          refine lv_aload_n hx hb dL_law_354 rfl (lv_at hl 3 rfl) ?_
          refine lv_iload_n hx hb dL_law_355 rfl (lv_at hl 0 rfl) ?_
          refine lv_iconst (v := nI 1) hx hb dL_law_356 (by decide) ?_
          refine gz_iadd (i := i) (j := 1) hx hb dL_law_357 ?_
          refine gz_sld (k := i + 1) hx hb hX hbl hbA hS (by omega) (by omega) dL_law_358 ?_
          refine gz_callR (W.runV (As := [.int (xs (i + 1))]) (rest := [.int ((-1))]) ⟨hx, hb, hml, hown, hts⟩ (cM_groups_bad l dC dI cA cZ gm ak ac ab al av ah ap fk fc fs fl fp fv ft rn cn sc (xs (i + 1)) hrn hcn hv) (cwV 1 hts gL_law_X1_groups rfl rfl rfl (by decide +kernel) ⟨Nat.le_of_ble_eq_true rfl, Nat.le_of_ble_eq_true rfl⟩) (gz_preV (q := (RX1, TX1, 10)) (ci := 1) hK hP [7, 8, 9, 10, 11, 12, 13, 14] rfl rfl rfl) rfl rfl hl.1 rfl (lv_room (Nat.le_of_ble_eq_true rfl)) dL_law_359 ⟨Nat.le_of_ble_eq_true rfl, Nat.le_of_ble_eq_true rfl⟩) ?_
          refine lv_icmp_eq (tgt := 367) hx hb dL_law_362 (by decide) (fun c_1 => ?_) (fun c_1 => False.elim (c_1 rfl))
          refine lv_iinc (v := nI (i + 5)) (lv' := [(3, .int (nI (i + 5))), (2, .ref gm), (1, .ref h), (0, .ref b)]) hx hb dL_law_367 hl (k := 0) rfl (nI_add _ 5) (by decide) rfl (fun ls hl => ?_)
          refine lv_goto (tgt := 18) hx hb dL_law_370 (by decide) ?_
          exact ih (i + 5) (by omega) (by omega) fk fc fs fl fp fv ft rn cn sc hinv H locs hP hD hS ls (lv_sub hl [0, 1, 2, 3] rfl)
      have zw := nI_toInt (n := w) (by omega)
      refine lv_tableOut (tgt := 367) hx hb dL_law_32 (Or.inr (by rw [zw]; omega)) (by decide) ?_
      refine lv_iinc (v := nI (i + 5)) (lv' := [(3, .int (nI (i + 5))), (2, .ref gm), (1, .ref h), (0, .ref b)]) hx hb dL_law_367 hl (k := 0) rfl (nI_add _ 5) (by decide) rfl (fun ls hl => ?_)
      refine lv_goto (tgt := 18) hx hb dL_law_370 (by decide) ?_
      exact ih (i + 5) (by omega) (by omega) fk fc fs fl fp fv ft rn cn sc hinv H locs hP hD hS ls (lv_sub hl [0, 1, 2, 3] rfl)
