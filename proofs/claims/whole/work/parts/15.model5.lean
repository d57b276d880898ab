set_option maxHeartbeats 4000000 in
set_option maxRecDepth 100000 in
theorem cM_steps (l : Launch) (dC : Nat → ClassId) (dI : Nat → Nat → Nat) (cA cZ : ClassId) (gm ak ac ab al av ah ap : Nat) (fk fc fs fl fp fv ft : Nat → Int32) (rn cn : Nat) (sc : Int32)  (hrn : 1 ≤ rn ∧ rn ≤ 12) (hcn : 1 ≤ cn ∧ cn ≤ 12) (hfl : g01 156 fl) (hlk : gLk fl rn cn) (hkI : ∀ k, k < 144 → vp_in (fk k) 10) (hco7 : ∀ r col, r < 12 → col < 12 → 6 ≤ (fk (r * 12 + col)).toInt → col + 1 = cn) : Met l yX1_steps wsX1_steps ({ frames := 2, cells := 0, slots := 0, locals := 46 }) (gPr (dC, dI) vwCl [(cA, .int), (cZ, .boolean)] [.ref gm] (mw cA cZ gm ak ac ab al av ah ap fk fc fs fl fp fv ft (nI rn) (nI cn) sc)) (QcRead (nI (gSt fk fl rn cn + gCs fk cn rn))) 0 0 (fun _ => False) := by
  refine Met.ofW (cc := cX1_steps) (maxL := 4) (ret := (some .int)) (by decide) rfl ?_
  intro p e s m args below meth c s₁ B hml hv
  obtain ⟨rfl, hP, hK⟩ := hv
  have hx := B.exec
  have hb := B.bytes
  have hr := B.returns
  have hts := atoms_spec (ws := wsX1_steps) B.pre
  have hown : s.vm.findClass RX1 = some m.cls := findClass_of_methodNamed B.named
  have hlocks := B.notSynchronized
  have hin1 : ∀ w ∈ u_ws RX1 TX1 10, w ∈ wsX1_steps := by decide +kernel
  have lk40 := hts (.fieldLink RX1 40 "LadderGridModel" "columns" "I") (by decide +kernel)
  have lk36 := hts (.fieldLink RX1 36 "LadderGridModel" "rows" "I") (by decide +kernel)
  have lk7 := hts (.fieldLink RX1 7 "LadderGridModel" "kinds" "[I") (by decide +kernel)
  have hl := lv_entry ([.ref gm]) (n := 4) (Nat.le_of_ble_eq_true rfl)
  rw [lg_entry_eq]
  generalize (lg_sl ([.ref gm]) ++ List.replicate (4 - (lg_sl ([.ref gm])).length) Slot.unset).toArray = ls at hl ⊢
  have hl : lv_has ls 4 [(0, .ref gm)] := hl
  have loop2 : ∀ (n : Nat) (i : Nat), i + n = rn → ∀ (ls : Array Slot), lv_has ls 4 [(2, .int (nI i)), (1, .int (nI (gSt fk fl rn cn + gCs fk cn i))), (0, .ref gm)] → W p l e (headSpec wsX1_steps ({ frames := 2, cells := 0, slots := 0, locals := 46 })).room s m ([.ref gm] : List Value).toArray below meth c s.heap [] 0 0 (MQ below (QcRead (nI (gSt fk fl rn cn + gCs fk cn rn))) ([.ref gm] : List Value).toArray s 0 0 (fun _ => False)) (F0 m 28 ls []) := by
    intro n
    induction n with
    | zero =>
      intro i hi ls hl
      refine lv_iload_n hx hb dX1_steps_28 rfl (lv_at hl 0 rfl) ?_
      refine lv_aload_n hx hb dX1_steps_29 rfl (lv_at hl 2 rfl) ?_
      refine va_get (D := (dC, dI)) (ci := 1) (v := .int (nI rn)) (C := RX1) (T := TX1) (N := 10) hx hb hts hin1 hown hK hP 0 rfl rfl 0 (by decide) lk36 (fun _ h9 => h9) rfl dX1_steps_30 ?_
      refine gz_icmp_ge (tgt := 75) (za := ((i : Nat) : Int)) (zb := ((rn : Nat) : Int)) hx hb dX1_steps_33 (by decide) (nI_toInt (by omega)) (nI_toInt (by omega)) (fun c_1 => ?_) (fun c_1 => False.elim (by omega))
      refine lv_iload_n hx hb dX1_steps_75 rfl (lv_at hl 1 rfl) ?_
      exact W.iret (v := nI (gSt fk fl rn cn + gCs fk cn i)) hx hb hr (fun t ht hW => ⟨(by rw [show rn = i by omega]), ht⟩) (fun q h => absurd h List.not_mem_nil) dX1_steps_76
    | succ n ih =>
      intro i hi ls hl
      obtain ⟨kk, hkk, ek⟩ := vp_in_of (hkI (i * 12 + (cn - 1)) (by omega)) (by omega)
      have zk : (fk (i * 12 + (cn - 1))).toInt = (kk : Int) := by rw [ek]; exact nI_toInt (by omega)
      have ck : (fk (i * 12 + (cn - 1))).toNatClampNeg = kk := by rw [ek]; exact nI_clamp (by omega)
      have hst : gCs fk cn (i + 1) = (if 6 ≤ (fk (i * 12 + (cn - 1))).toInt then gCs fk cn i + ksN (fk (i * 12 + (cn - 1))).toNatClampNeg else gCs fk cn i) := rfl
      by_cases hco : 6 ≤ (fk (i * 12 + (cn - 1))).toInt
      · have hks : ksN kk = kk - 4 := by
          have h69 : kk = 6 ∨ kk = 7 ∨ kk = 8 ∨ kk = 9 := by omega
          rcases h69 with h | h | h | h <;> subst h <;> rfl
        refine lv_iload_n hx hb dX1_steps_28 rfl (lv_at hl 0 rfl) ?_
        refine lv_aload_n hx hb dX1_steps_29 rfl (lv_at hl 2 rfl) ?_
        refine va_get (D := (dC, dI)) (ci := 1) (v := .int (nI rn)) (C := RX1) (T := TX1) (N := 10) hx hb hts hin1 hown hK hP 0 rfl rfl 0 (by decide) lk36 (fun _ h9 => h9) rfl dX1_steps_30 ?_
        refine gz_icmp_ge (tgt := 75) (za := ((i : Nat) : Int)) (zb := ((rn : Nat) : Int)) hx hb dX1_steps_33 (by decide) (nI_toInt (by omega)) (nI_toInt (by omega)) (fun c_1 => False.elim (by omega)) (fun c_1 => ?_)
        refine lv_aload_n hx hb dX1_steps_36 rfl (lv_at hl 2 rfl) ?_
        refine va_get (D := (dC, dI)) (ci := 1) (v := .ref ak) (C := RX1) (T := TX1) (N := 10) hx hb hts hin1 hown hK hP 0 rfl rfl 2 (by decide) lk7 (fun _ h9 => h9) rfl dX1_steps_37 ?_
        refine lv_bipush (v := nI 12) hx hb dX1_steps_40 (by decide) ?_
        refine lv_iload_n hx hb dX1_steps_42 rfl (lv_at hl 0 rfl) ?_
        refine gz_imulc (i := 12) (j := i) hx hb dX1_steps_43 ?_
        refine lv_aload_n hx hb dX1_steps_44 rfl (lv_at hl 2 rfl) ?_
        refine va_get (D := (dC, dI)) (ci := 1) (v := .int (nI cn)) (C := RX1) (T := TX1) (N := 10) hx hb hts hin1 hown hK hP 0 rfl rfl 1 (by decide) lk40 (fun _ h9 => h9) rfl dX1_steps_45 ?_
        refine gz_iadd (i := i * 12) (j := cn) hx hb dX1_steps_48 ?_
        refine lv_iconst (v := nI 1) hx hb dX1_steps_49 (by decide) ?_
        refine gz_isub (i := (i * 12) + cn) (j := 1) hx hb dX1_steps_50 (by omega) ?_
        refine gz_top (j := i * 12 + (cn - 1)) (by omega) ?_
        refine gz_iald (k := i * 12 + (cn - 1)) hx hb hK hP 1 0 rfl rfl (by omega) (by omega) dX1_steps_51 ?_
        refine lv_istore_n (lv' := [(3, .int (fk (i * 12 + (cn - 1)))), (2, .int (nI i)), (1, .int (nI (gSt fk fl rn cn + gCs fk cn i))), (0, .ref gm)]) hx hb dX1_steps_52 rfl hl (by decide) rfl (fun ls hl => ?_)
        refine lv_iload_n hx hb dX1_steps_53 rfl (lv_at hl 0 rfl) ?_
        refine lv_bipush (v := nI 6) hx hb dX1_steps_54 (by decide) ?_
        refine gz_icmp_lt (tgt := 67) (za := (fk (i * 12 + (cn - 1))).toInt) (zb := ((6 : Nat) : Int)) hx hb dX1_steps_56 (by decide) rfl (nI_toInt (by omega)) (fun c_2 => False.elim (by omega)) (fun c_2 => ?_)
        refine lv_iload_n hx hb dX1_steps_59 rfl (lv_at hl 2 rfl) ?_
        refine lv_iload_n hx hb dX1_steps_60 rfl (lv_at hl 0 rfl) ?_
        refine gz_topI (y := nI kk) ek ?_
        refine gz_iadd (i := gSt fk fl rn cn + gCs fk cn i) (j := kk) hx hb dX1_steps_61 ?_
        refine lv_iconst (v := nI 4) hx hb dX1_steps_62 (by decide) ?_
        refine gz_isub (i := (gSt fk fl rn cn + gCs fk cn i) + kk) (j := 4) hx hb dX1_steps_63 (by omega) ?_
        refine lv_goto (tgt := 68) hx hb dX1_steps_64 (by decide) ?_
        refine lv_istore_n (lv' := [(1, .int (nI (((gSt fk fl rn cn + gCs fk cn i) + kk) - 4))), (3, .int (fk (i * 12 + (cn - 1)))), (2, .int (nI i)), (0, .ref gm)]) hx hb dX1_steps_68 rfl hl (by decide) rfl (fun ls hl => ?_)
        refine lv_iinc (v := nI (i + 1)) (lv' := [(2, .int (nI (i + 1))), (1, .int (nI (((gSt fk fl rn cn + gCs fk cn i) + kk) - 4))), (3, .int (fk (i * 12 + (cn - 1)))), (0, .ref gm)]) hx hb dX1_steps_69 hl (k := 2) rfl (nI_1 _) (by decide) rfl (fun ls hl => ?_)
        refine lv_goto (tgt := 28) hx hb dX1_steps_72 (by decide) ?_
        have hl := lv_sub hl [0, 1, 3] rfl
        exact ih (i + 1) (by omega) ls (by rw [hst, if_pos hco, ck, hks, show gSt fk fl rn cn + (gCs fk cn i + (kk - 4)) = gSt fk fl rn cn + gCs fk cn i + kk - 4 by omega]; exact hl)
      · skip
        refine lv_iload_n hx hb dX1_steps_28 rfl (lv_at hl 0 rfl) ?_
        refine lv_aload_n hx hb dX1_steps_29 rfl (lv_at hl 2 rfl) ?_
        refine va_get (D := (dC, dI)) (ci := 1) (v := .int (nI rn)) (C := RX1) (T := TX1) (N := 10) hx hb hts hin1 hown hK hP 0 rfl rfl 0 (by decide) lk36 (fun _ h9 => h9) rfl dX1_steps_30 ?_
        refine gz_icmp_ge (tgt := 75) (za := ((i : Nat) : Int)) (zb := ((rn : Nat) : Int)) hx hb dX1_steps_33 (by decide) (nI_toInt (by omega)) (nI_toInt (by omega)) (fun c_1 => False.elim (by omega)) (fun c_1 => ?_)
        refine lv_aload_n hx hb dX1_steps_36 rfl (lv_at hl 2 rfl) ?_
        refine va_get (D := (dC, dI)) (ci := 1) (v := .ref ak) (C := RX1) (T := TX1) (N := 10) hx hb hts hin1 hown hK hP 0 rfl rfl 2 (by decide) lk7 (fun _ h9 => h9) rfl dX1_steps_37 ?_
        refine lv_bipush (v := nI 12) hx hb dX1_steps_40 (by decide) ?_
        refine lv_iload_n hx hb dX1_steps_42 rfl (lv_at hl 0 rfl) ?_
        refine gz_imulc (i := 12) (j := i) hx hb dX1_steps_43 ?_
        refine lv_aload_n hx hb dX1_steps_44 rfl (lv_at hl 2 rfl) ?_
        refine va_get (D := (dC, dI)) (ci := 1) (v := .int (nI cn)) (C := RX1) (T := TX1) (N := 10) hx hb hts hin1 hown hK hP 0 rfl rfl 1 (by decide) lk40 (fun _ h9 => h9) rfl dX1_steps_45 ?_
        refine gz_iadd (i := i * 12) (j := cn) hx hb dX1_steps_48 ?_
        refine lv_iconst (v := nI 1) hx hb dX1_steps_49 (by decide) ?_
        refine gz_isub (i := (i * 12) + cn) (j := 1) hx hb dX1_steps_50 (by omega) ?_
        refine gz_top (j := i * 12 + (cn - 1)) (by omega) ?_
        refine gz_iald (k := i * 12 + (cn - 1)) hx hb hK hP 1 0 rfl rfl (by omega) (by omega) dX1_steps_51 ?_
        refine lv_istore_n (lv' := [(3, .int (fk (i * 12 + (cn - 1)))), (2, .int (nI i)), (1, .int (nI (gSt fk fl rn cn + gCs fk cn i))), (0, .ref gm)]) hx hb dX1_steps_52 rfl hl (by decide) rfl (fun ls hl => ?_)
        refine lv_iload_n hx hb dX1_steps_53 rfl (lv_at hl 0 rfl) ?_
        refine lv_bipush (v := nI 6) hx hb dX1_steps_54 (by decide) ?_
        refine gz_icmp_lt (tgt := 67) (za := (fk (i * 12 + (cn - 1))).toInt) (zb := ((6 : Nat) : Int)) hx hb dX1_steps_56 (by decide) rfl (nI_toInt (by omega)) (fun c_2 => ?_) (fun c_2 => False.elim (by omega))
        refine lv_iload_n hx hb dX1_steps_67 rfl (lv_at hl 2 rfl) ?_
        refine lv_istore_n (lv' := [(1, .int (nI (gSt fk fl rn cn + gCs fk cn i))), (3, .int (fk (i * 12 + (cn - 1)))), (2, .int (nI i)), (0, .ref gm)]) hx hb dX1_steps_68 rfl hl (by decide) rfl (fun ls hl => ?_)
        refine lv_iinc (v := nI (i + 1)) (lv' := [(2, .int (nI (i + 1))), (1, .int (nI (gSt fk fl rn cn + gCs fk cn i))), (3, .int (fk (i * 12 + (cn - 1)))), (0, .ref gm)]) hx hb dX1_steps_69 hl (k := 2) rfl (nI_1 _) (by decide) rfl (fun ls hl => ?_)
        refine lv_goto (tgt := 28) hx hb dX1_steps_72 (by decide) ?_
        have hl := lv_sub hl [0, 1, 3] rfl
        exact ih (i + 1) (by omega) ls (by rw [hst, if_neg hco]; exact hl)
  have loop1 : ∀ (n : Nat) (j : Nat), j + n = cn → ∀ (ls : Array Slot), lv_has ls 4 [(2, .int (nI (j + 1))), (1, .int (nI (gSt fk fl rn j))), (0, .ref gm)] → W p l e (headSpec wsX1_steps ({ frames := 2, cells := 0, slots := 0, locals := 46 })).room s m ([.ref gm] : List Value).toArray below meth c s.heap [] 0 0 (MQ below (QcRead (nI (gSt fk fl rn cn + gCs fk cn rn))) ([.ref gm] : List Value).toArray s 0 0 (fun _ => False)) (F0 m 4 ls []) := by
    intro n
    induction n with
    | zero =>
      intro j hj ls hl
      refine lv_iload_n hx hb dX1_steps_4 rfl (lv_at hl 0 rfl) ?_
      refine lv_aload_n hx hb dX1_steps_5 rfl (lv_at hl 2 rfl) ?_
      refine va_get (D := (dC, dI)) (ci := 1) (v := .int (nI cn)) (C := RX1) (T := TX1) (N := 10) hx hb hts hin1 hown hK hP 0 rfl rfl 1 (by decide) lk40 (fun _ h9 => h9) rfl dX1_steps_6 ?_
      refine gz_icmp_gt (tgt := 26) (za := ((j + 1 : Nat) : Int)) (zb := ((cn : Nat) : Int)) hx hb dX1_steps_9 (by decide) (nI_toInt (by omega)) (nI_toInt (by omega)) (fun c_1 => ?_) (fun c_1 => False.elim (by omega))
      refine lv_iconst (v := nI 0) hx hb dX1_steps_26 (by decide) ?_
      refine lv_istore_n (lv' := [(2, .int (nI 0)), (1, .int (nI (gSt fk fl rn j))), (0, .ref gm)]) hx hb dX1_steps_27 rfl hl (by decide) rfl (fun ls hl => ?_)
      have hl := lv_sub hl [0, 1, 2] rfl
      exact loop2 rn 0 (by omega) ls (by rw [show cn = j by omega]; exact hl)
    | succ n ih =>
      intro j hj ls hl
      refine lv_iload_n hx hb dX1_steps_4 rfl (lv_at hl 0 rfl) ?_
      refine lv_aload_n hx hb dX1_steps_5 rfl (lv_at hl 2 rfl) ?_
      refine va_get (D := (dC, dI)) (ci := 1) (v := .int (nI cn)) (C := RX1) (T := TX1) (N := 10) hx hb hts hin1 hown hK hP 0 rfl rfl 1 (by decide) lk40 (fun _ h9 => h9) rfl dX1_steps_6 ?_
      refine gz_icmp_gt (tgt := 26) (za := ((j + 1 : Nat) : Int)) (zb := ((cn : Nat) : Int)) hx hb dX1_steps_9 (by decide) (nI_toInt (by omega)) (nI_toInt (by omega)) (fun c_1 => False.elim (by omega)) (fun c_1 => ?_)
      refine lv_iload_n hx hb dX1_steps_12 rfl (lv_at hl 1 rfl) ?_
      refine lv_aload_n hx hb dX1_steps_13 rfl (lv_at hl 2 rfl) ?_
      refine lv_iload_n hx hb dX1_steps_14 rfl (lv_at hl 0 rfl) ?_
      refine gz_callR (W.runV (As := [.int (nI (j + 1))]) (rest := [.int (nI (gSt fk fl rn j))]) ⟨hx, hb, hml, hown, hts⟩ (cM_lineSteps l dC dI cA cZ gm ak ac ab al av ah ap fk fc fs fl fp fv ft rn cn sc (j + 1) hrn hcn (by omega) hfl hlk hkI hco7) (cwV 1 hts gX1_steps_X1_lineSteps rfl rfl rfl (by decide +kernel) ⟨Nat.le_of_ble_eq_true rfl, Nat.le_of_ble_eq_true rfl⟩) (gz_preV (q := (RX1, TX1, 10)) (ci := 1) hK hP [0, 1, 2, 3, 4, 5, 6, 7] rfl rfl rfl) rfl rfl hl.1 rfl (lv_room (Nat.le_of_ble_eq_true rfl)) dX1_steps_15 ⟨Nat.le_of_ble_eq_true rfl, Nat.le_of_ble_eq_true rfl⟩) ?_
      refine gz_iadd (i := gSt fk fl rn j) (j := (gLs fk fl (j + 1) rn).1) hx hb dX1_steps_18 ?_
      refine lv_istore_n (lv' := [(1, .int (nI ((gSt fk fl rn j) + ((gLs fk fl (j + 1) rn).1)))), (2, .int (nI (j + 1))), (0, .ref gm)]) hx hb dX1_steps_19 rfl hl (by decide) rfl (fun ls hl => ?_)
      refine lv_iinc (v := nI (j + 1 + 1)) (lv' := [(2, .int (nI (j + 1 + 1))), (1, .int (nI ((gSt fk fl rn j) + ((gLs fk fl (j + 1) rn).1)))), (0, .ref gm)]) hx hb dX1_steps_20 hl (k := 1) rfl (nI_1 _) (by decide) rfl (fun ls hl => ?_)
      refine lv_goto (tgt := 4) hx hb dX1_steps_23 (by decide) ?_
      exact ih (j + 1) (by omega) ls (lv_sub hl [0, 1, 2] rfl)
  refine lv_iconst (v := nI 0) hx hb dX1_steps_0 (by decide) ?_
  refine lv_istore_n (lv' := [(1, .int (nI 0)), (0, .ref gm)]) hx hb dX1_steps_1 rfl hl (by decide) rfl (fun ls hl => ?_)
  refine lv_iconst (v := nI 1) hx hb dX1_steps_2 (by decide) ?_
  refine lv_istore_n (lv' := [(2, .int (nI 1)), (1, .int (nI 0)), (0, .ref gm)]) hx hb dX1_steps_3 rfl hl (by decide) rfl (fun ls hl => ?_)
  exact loop1 cn 0 (by omega) ls (lv_sub hl [0, 1, 2] rfl)
set_option maxHeartbeats 4000000 in
set_option maxRecDepth 100000 in
theorem cM_init (l : Launch) (dC : Nat → ClassId) (dI : Nat → Nat → Nat) (sz : Nat) (gm : Nat)  : Met l yX1_init wsX1_init ({ frames := 1, cells := 7, slots := 824, locals := 23 }) (gPw (dC, dI) vwCl [] [.ref gm] sz [(gm, .inr (1, [.int 0, .int 0, .null, .null, .null, .null, .null, .null, .null, .int 0]))]) (va_Qv (fun (_ : ClassId × ClassId × Nat × Nat × Nat × Nat × Nat × Nat × Nat) => True) (fun u t => va_P (dC, dI) vwCl (mw u.1 u.2.1 gm u.2.2.1 u.2.2.2.1 u.2.2.2.2.1 u.2.2.2.2.2.1 u.2.2.2.2.2.2.1 u.2.2.2.2.2.2.2.1 u.2.2.2.2.2.2.2.2 (fun _ => nI 0) (fun _ => nI 0) (fun _ => nI 0) (fun _ => nI 0) (fun _ => nI 0) (fun _ => nI 0) (fun _ => nI 0) (nI 1) (nI 1) (nI 0)) t.heap ∧ va_K (dC, dI) vwCl [(u.1, .int), (u.2.1, .boolean)] t ∧ va_D (va_A [(gm, .inr (1, [.int 0, .int 0, .null, .null, .null, .null, .null, .null, .null, .int 0]))] sz) (mw u.1 u.2.1 gm u.2.2.1 u.2.2.2.1 u.2.2.2.2.1 u.2.2.2.2.2.1 u.2.2.2.2.2.2.1 u.2.2.2.2.2.2.2.1 u.2.2.2.2.2.2.2.2 (fun _ => nI 0) (fun _ => nI 0) (fun _ => nI 0) (fun _ => nI 0) (fun _ => nI 0) (fun _ => nI 0) (fun _ => nI 0) (nI 1) (nI 1) (nI 0))) (va_A [(gm, .inr (1, [.int 0, .int 0, .null, .null, .null, .null, .null, .null, .null, .int 0]))] sz)) 7 824 (va_A [(gm, .inr (1, [.int 0, .int 0, .null, .null, .null, .null, .null, .null, .null, .int 0]))] sz) := by
  refine Met.ofW (cc := cX1_init) (maxL := 1) (ret := none) (by decide) rfl ?_
  intro p e s m args below meth c s₁ B hml hv
  obtain ⟨rfl, hsz, hP, hK, hD0⟩ := hv
  have hx := B.exec
  have hb := B.bytes
  have hr := B.returns
  have hts := atoms_spec (ws := wsX1_init) B.pre
  have hown : s.vm.findClass RX1 = some m.cls := findClass_of_methodNamed B.named
  have hlocks := B.notSynchronized
  have hin : meth.name = "<init>" := (name_of_methodNamed B.named B.method).1
  subst hsz
  have hD := hD0.self (sz := s.heap.size)
  generalize hAe : va_A [(gm, .inr (1, [.int 0, .int 0, .null, .null, .null, .null, .null, .null, .null, .int 0]))] s.heap.size = A at hD ⊢
  have hA : ∀ q : Nat, s.heap.size ≤ q → A q := fun q h => by rw [← hAe]; exact Or.inr h
  have hS : va_S A s.heap s.heap [] := va_S.rf
  have hin1 : ∀ w ∈ u_ws RX1 TX1 10, w ∈ wsX1_init := by decide +kernel
  have lk7 := hts (.fieldLink RX1 7 "LadderGridModel" "kinds" "[I") (by decide +kernel)
  have lk13 := hts (.fieldLink RX1 13 "LadderGridModel" "variables" "[I") (by decide +kernel)
  have lk16 := hts (.fieldLink RX1 16 "LadderGridModel" "before" "[I") (by decide +kernel)
  have lk19 := hts (.fieldLink RX1 19 "LadderGridModel" "isLinked" "[Z") (by decide +kernel)
  have lk23 := hts (.fieldLink RX1 23 "LadderGridModel" "values" "[I") (by decide +kernel)
  have lk26 := hts (.fieldLink RX1 26 "LadderGridModel" "then" "[I") (by decide +kernel)
  have lk29 := hts (.fieldLink RX1 29 "LadderGridModel" "hasPower" "[Z") (by decide +kernel)
  have hl := lv_entry ([.ref gm]) (n := 1) (Nat.le_of_ble_eq_true rfl)
  rw [lg_entry_eq]
  generalize (lg_sl ([.ref gm]) ++ List.replicate (1 - (lg_sl ([.ref gm])).length) Slot.unset).toArray = ls at hl ⊢
  have hl : lv_has ls 1 [(0, .ref gm)] := hl
  suffices key : ∀ (H : Heap) (locs : List Loc), va_P (dC, dI) vwCl [(gm, .inr (1, [.int 0, .int 0, .null, .null, .null, .null, .null, .null, .null, .int 0]))] H → va_D A [(gm, .inr (1, [.int 0, .int 0, .null, .null, .null, .null, .null, .null, .null, .int 0]))] → va_S A s.heap H locs → W p l e (headSpec wsX1_init ({ frames := 1, cells := 7, slots := 824, locals := 23 })).room s m ([.ref gm] : List Value).toArray below meth c H locs 0 0 (MQ below (va_Qv (fun (_ : ClassId × ClassId × Nat × Nat × Nat × Nat × Nat × Nat × Nat) => True) (fun u t => va_P (dC, dI) vwCl (mw u.1 u.2.1 gm u.2.2.1 u.2.2.2.1 u.2.2.2.2.1 u.2.2.2.2.2.1 u.2.2.2.2.2.2.1 u.2.2.2.2.2.2.2.1 u.2.2.2.2.2.2.2.2 (fun _ => nI 0) (fun _ => nI 0) (fun _ => nI 0) (fun _ => nI 0) (fun _ => nI 0) (fun _ => nI 0) (fun _ => nI 0) (nI 1) (nI 1) (nI 0)) t.heap ∧ va_K (dC, dI) vwCl [(u.1, .int), (u.2.1, .boolean)] t ∧ va_D A (mw u.1 u.2.1 gm u.2.2.1 u.2.2.2.1 u.2.2.2.2.1 u.2.2.2.2.2.1 u.2.2.2.2.2.2.1 u.2.2.2.2.2.2.2.1 u.2.2.2.2.2.2.2.2 (fun _ => nI 0) (fun _ => nI 0) (fun _ => nI 0) (fun _ => nI 0) (fun _ => nI 0) (fun _ => nI 0) (fun _ => nI 0) (nI 1) (nI 1) (nI 0))) A) ([.ref gm] : List Value).toArray s 7 824 A) (F0 m 0 ls []) from key s.heap [] hP hD hS
  clear hP hD hS
  intro H locs hP hD hS
  refine lv_aload_n hx hb dX1_init_0 rfl (lv_at hl 0 rfl) ?_
  refine W.objInit hx hb hown (hts (.methodLink RX1 1 objectInit) (by decide +kernel)) (hts (.instanceMethod objectInit) (by decide +kernel)) (hts _ (List.mem_cons_of_mem _ (List.mem_append_left _ (List.mem_of_getElem? (i := 2) rfl)))) rfl (by rw [hml]; exact hl.1) rfl dX1_init_1 (Nat.le_of_ble_eq_true rfl) (Nat.le_of_ble_eq_true rfl) ?_
  refine W.eq (g2 := F0 m 4 ls []) rfl ?_
  refine lv_aload_n hx hb dX1_init_4 rfl (lv_at hl 0 rfl) ?_
  refine lv_sipush (v := nI 144) hx hb dX1_init_5 (by decide) ?_
  refine va_newa (atype := .int) (ty := .int) (a0 := (144, .inl (fun _ => nI 0))) (N' := 144) hx hb (hts (.arrayClass .int) (by decide +kernel)) rfl hK hP hD hS hA (fun _ => rfl) (by decide) (nI_clamp (by omega)) (by decide) (Nat.le_of_ble_eq_true rfl) (Nat.le_of_ble_eq_true rfl) dX1_init_8 (fun ak c1 H hK hP hD hS => ?_)
  have hP : va_P (dC, dI) vwCl [(gm, .inr (1, [.int 0, .int 0, .null, .null, .null, .null, .null, .null, .null, .int 0])), (ak, .inl (c1, 144, .inl (fun _ => nI 0)))] H := hP
  have hD : va_D A [(gm, .inr (1, [.int 0, .int 0, .null, .null, .null, .null, .null, .null, .null, .int 0])), (ak, .inl (c1, 144, .inl (fun _ => nI 0)))] := hD
  refine va_putF (D := (dC, dI)) (ci := 1) (v := .ref ak) (ty := (.array .int)) (C := RX1) (T := TX1) (N := 10) hx hb hts hin1 tyX1 tyX1_ok nmX1 hown hK hP hD hS 0 rfl rfl 2 (by decide) lk7 (fun _ h9 => h9) rfl hin rfl (by decide +kernel) rfl rfl (Nat.le_of_ble_eq_true rfl) dX1_init_10 (fun H locs hP hD hS => ?_)
  have hP : va_P (dC, dI) vwCl [(gm, .inr (1, [.int 0, .int 0, .ref ak, .null, .null, .null, .null, .null, .null, .int 0])), (ak, .inl (c1, 144, .inl (fun _ => nI 0)))] H := hP
  have hD : va_D A [(gm, .inr (1, [.int 0, .int 0, .ref ak, .null, .null, .null, .null, .null, .null, .int 0])), (ak, .inl (c1, 144, .inl (fun _ => nI 0)))] := hD
  refine lv_aload_n hx hb dX1_init_13 rfl (lv_at hl 0 rfl) ?_
  refine lv_sipush (v := nI 144) hx hb dX1_init_14 (by decide) ?_
  refine va_newa (atype := .int) (ty := .int) (a0 := (144, .inl (fun _ => nI 0))) (N' := 144) hx hb (hts (.arrayClass .int) (by decide +kernel)) rfl hK hP hD hS hA (fun _ => rfl) (by decide) (nI_clamp (by omega)) (by decide) (Nat.le_of_ble_eq_true rfl) (Nat.le_of_ble_eq_true rfl) dX1_init_17 (fun ac c2 H hK hP hD hS => ?_)
  have hP : va_P (dC, dI) vwCl [(gm, .inr (1, [.int 0, .int 0, .ref ak, .null, .null, .null, .null, .null, .null, .int 0])), (ak, .inl (c1, 144, .inl (fun _ => nI 0))), (ac, .inl (c2, 144, .inl (fun _ => nI 0)))] H := hP
  have hD : va_D A [(gm, .inr (1, [.int 0, .int 0, .ref ak, .null, .null, .null, .null, .null, .null, .int 0])), (ak, .inl (c1, 144, .inl (fun _ => nI 0))), (ac, .inl (c2, 144, .inl (fun _ => nI 0)))] := hD
  refine va_putF (D := (dC, dI)) (ci := 1) (v := .ref ac) (ty := (.array .int)) (C := RX1) (T := TX1) (N := 10) hx hb hts hin1 tyX1 tyX1_ok nmX1 hown hK hP hD hS 0 rfl rfl 3 (by decide) lk13 (fun _ h9 => h9) rfl hin rfl (by decide +kernel) rfl rfl (Nat.le_of_ble_eq_true rfl) dX1_init_19 (fun H locs hP hD hS => ?_)
  have hP : va_P (dC, dI) vwCl [(gm, .inr (1, [.int 0, .int 0, .ref ak, .ref ac, .null, .null, .null, .null, .null, .int 0])), (ak, .inl (c1, 144, .inl (fun _ => nI 0))), (ac, .inl (c2, 144, .inl (fun _ => nI 0)))] H := hP
  have hD : va_D A [(gm, .inr (1, [.int 0, .int 0, .ref ak, .ref ac, .null, .null, .null, .null, .null, .int 0])), (ak, .inl (c1, 144, .inl (fun _ => nI 0))), (ac, .inl (c2, 144, .inl (fun _ => nI 0)))] := hD
  refine lv_aload_n hx hb dX1_init_22 rfl (lv_at hl 0 rfl) ?_
  refine lv_sipush (v := nI 144) hx hb dX1_init_23 (by decide) ?_
  refine va_newa (atype := .int) (ty := .int) (a0 := (144, .inl (fun _ => nI 0))) (N' := 144) hx hb (hts (.arrayClass .int) (by decide +kernel)) rfl hK hP hD hS hA (fun _ => rfl) (by decide) (nI_clamp (by omega)) (by decide) (Nat.le_of_ble_eq_true rfl) (Nat.le_of_ble_eq_true rfl) dX1_init_26 (fun ab c3 H hK hP hD hS => ?_)
  have hP : va_P (dC, dI) vwCl [(gm, .inr (1, [.int 0, .int 0, .ref ak, .ref ac, .null, .null, .null, .null, .null, .int 0])), (ak, .inl (c1, 144, .inl (fun _ => nI 0))), (ac, .inl (c2, 144, .inl (fun _ => nI 0))), (ab, .inl (c3, 144, .inl (fun _ => nI 0)))] H := hP
  have hD : va_D A [(gm, .inr (1, [.int 0, .int 0, .ref ak, .ref ac, .null, .null, .null, .null, .null, .int 0])), (ak, .inl (c1, 144, .inl (fun _ => nI 0))), (ac, .inl (c2, 144, .inl (fun _ => nI 0))), (ab, .inl (c3, 144, .inl (fun _ => nI 0)))] := hD
  refine va_putF (D := (dC, dI)) (ci := 1) (v := .ref ab) (ty := (.array .int)) (C := RX1) (T := TX1) (N := 10) hx hb hts hin1 tyX1 tyX1_ok nmX1 hown hK hP hD hS 0 rfl rfl 4 (by decide) lk16 (fun _ h9 => h9) rfl hin rfl (by decide +kernel) rfl rfl (Nat.le_of_ble_eq_true rfl) dX1_init_28 (fun H locs hP hD hS => ?_)
  have hP : va_P (dC, dI) vwCl [(gm, .inr (1, [.int 0, .int 0, .ref ak, .ref ac, .ref ab, .null, .null, .null, .null, .int 0])), (ak, .inl (c1, 144, .inl (fun _ => nI 0))), (ac, .inl (c2, 144, .inl (fun _ => nI 0))), (ab, .inl (c3, 144, .inl (fun _ => nI 0)))] H := hP
  have hD : va_D A [(gm, .inr (1, [.int 0, .int 0, .ref ak, .ref ac, .ref ab, .null, .null, .null, .null, .int 0])), (ak, .inl (c1, 144, .inl (fun _ => nI 0))), (ac, .inl (c2, 144, .inl (fun _ => nI 0))), (ab, .inl (c3, 144, .inl (fun _ => nI 0)))] := hD
  refine lv_aload_n hx hb dX1_init_31 rfl (lv_at hl 0 rfl) ?_
  refine lv_sipush (v := nI 156) hx hb dX1_init_32 (by decide) ?_
  refine va_newa (atype := .boolean) (ty := .boolean) (a0 := (156, .inl (fun _ => nI 0))) (N' := 156) hx hb (hts (.arrayClass .boolean) (by decide +kernel)) rfl hK hP hD hS hA (fun _ => rfl) (by decide) (nI_clamp (by omega)) (by decide) (Nat.le_of_ble_eq_true rfl) (Nat.le_of_ble_eq_true rfl) dX1_init_35 (fun al c4 H hK hP hD hS => ?_)
  have hP : va_P (dC, dI) vwCl [(gm, .inr (1, [.int 0, .int 0, .ref ak, .ref ac, .ref ab, .null, .null, .null, .null, .int 0])), (ak, .inl (c1, 144, .inl (fun _ => nI 0))), (ac, .inl (c2, 144, .inl (fun _ => nI 0))), (ab, .inl (c3, 144, .inl (fun _ => nI 0))), (al, .inl (c4, 156, .inl (fun _ => nI 0)))] H := hP
  have hD : va_D A [(gm, .inr (1, [.int 0, .int 0, .ref ak, .ref ac, .ref ab, .null, .null, .null, .null, .int 0])), (ak, .inl (c1, 144, .inl (fun _ => nI 0))), (ac, .inl (c2, 144, .inl (fun _ => nI 0))), (ab, .inl (c3, 144, .inl (fun _ => nI 0))), (al, .inl (c4, 156, .inl (fun _ => nI 0)))] := hD
  refine va_putF (D := (dC, dI)) (ci := 1) (v := .ref al) (ty := (.array .boolean)) (C := RX1) (T := TX1) (N := 10) hx hb hts hin1 tyX1 tyX1_ok nmX1 hown hK hP hD hS 0 rfl rfl 5 (by decide) lk19 (fun _ h9 => h9) rfl hin rfl (by decide +kernel) rfl rfl (Nat.le_of_ble_eq_true rfl) dX1_init_37 (fun H locs hP hD hS => ?_)
  have hP : va_P (dC, dI) vwCl [(gm, .inr (1, [.int 0, .int 0, .ref ak, .ref ac, .ref ab, .ref al, .null, .null, .null, .int 0])), (ak, .inl (c1, 144, .inl (fun _ => nI 0))), (ac, .inl (c2, 144, .inl (fun _ => nI 0))), (ab, .inl (c3, 144, .inl (fun _ => nI 0))), (al, .inl (c4, 156, .inl (fun _ => nI 0)))] H := hP
  have hD : va_D A [(gm, .inr (1, [.int 0, .int 0, .ref ak, .ref ac, .ref ab, .ref al, .null, .null, .null, .int 0])), (ak, .inl (c1, 144, .inl (fun _ => nI 0))), (ac, .inl (c2, 144, .inl (fun _ => nI 0))), (ab, .inl (c3, 144, .inl (fun _ => nI 0))), (al, .inl (c4, 156, .inl (fun _ => nI 0)))] := hD
  refine lv_aload_n hx hb dX1_init_40 rfl (lv_at hl 0 rfl) ?_
  refine lv_bipush (v := nI 40) hx hb dX1_init_41 (by decide) ?_
  refine va_newa (atype := .int) (ty := .int) (a0 := (40, .inl (fun _ => nI 0))) (N' := 40) hx hb (hts (.arrayClass .int) (by decide +kernel)) rfl hK hP hD hS hA (fun _ => rfl) (by decide) (nI_clamp (by omega)) (by decide) (Nat.le_of_ble_eq_true rfl) (Nat.le_of_ble_eq_true rfl) dX1_init_43 (fun av c5 H hK hP hD hS => ?_)
  have hP : va_P (dC, dI) vwCl [(gm, .inr (1, [.int 0, .int 0, .ref ak, .ref ac, .ref ab, .ref al, .null, .null, .null, .int 0])), (ak, .inl (c1, 144, .inl (fun _ => nI 0))), (ac, .inl (c2, 144, .inl (fun _ => nI 0))), (ab, .inl (c3, 144, .inl (fun _ => nI 0))), (al, .inl (c4, 156, .inl (fun _ => nI 0))), (av, .inl (c5, 40, .inl (fun _ => nI 0)))] H := hP
  have hD : va_D A [(gm, .inr (1, [.int 0, .int 0, .ref ak, .ref ac, .ref ab, .ref al, .null, .null, .null, .int 0])), (ak, .inl (c1, 144, .inl (fun _ => nI 0))), (ac, .inl (c2, 144, .inl (fun _ => nI 0))), (ab, .inl (c3, 144, .inl (fun _ => nI 0))), (al, .inl (c4, 156, .inl (fun _ => nI 0))), (av, .inl (c5, 40, .inl (fun _ => nI 0)))] := hD
  refine va_putF (D := (dC, dI)) (ci := 1) (v := .ref av) (ty := (.array .int)) (C := RX1) (T := TX1) (N := 10) hx hb hts hin1 tyX1 tyX1_ok nmX1 hown hK hP hD hS 0 rfl rfl 6 (by decide) lk23 (fun _ h9 => h9) rfl hin rfl (by decide +kernel) rfl rfl (Nat.le_of_ble_eq_true rfl) dX1_init_45 (fun H locs hP hD hS => ?_)
  have hP : va_P (dC, dI) vwCl [(gm, .inr (1, [.int 0, .int 0, .ref ak, .ref ac, .ref ab, .ref al, .ref av, .null, .null, .int 0])), (ak, .inl (c1, 144, .inl (fun _ => nI 0))), (ac, .inl (c2, 144, .inl (fun _ => nI 0))), (ab, .inl (c3, 144, .inl (fun _ => nI 0))), (al, .inl (c4, 156, .inl (fun _ => nI 0))), (av, .inl (c5, 40, .inl (fun _ => nI 0)))] H := hP
  have hD : va_D A [(gm, .inr (1, [.int 0, .int 0, .ref ak, .ref ac, .ref ab, .ref al, .ref av, .null, .null, .int 0])), (ak, .inl (c1, 144, .inl (fun _ => nI 0))), (ac, .inl (c2, 144, .inl (fun _ => nI 0))), (ab, .inl (c3, 144, .inl (fun _ => nI 0))), (al, .inl (c4, 156, .inl (fun _ => nI 0))), (av, .inl (c5, 40, .inl (fun _ => nI 0)))] := hD
  refine lv_aload_n hx hb dX1_init_48 rfl (lv_at hl 0 rfl) ?_
  refine lv_bipush (v := nI 40) hx hb dX1_init_49 (by decide) ?_
  refine va_newa (atype := .int) (ty := .int) (a0 := (40, .inl (fun _ => nI 0))) (N' := 40) hx hb (hts (.arrayClass .int) (by decide +kernel)) rfl hK hP hD hS hA (fun _ => rfl) (by decide) (nI_clamp (by omega)) (by decide) (Nat.le_of_ble_eq_true rfl) (Nat.le_of_ble_eq_true rfl) dX1_init_51 (fun ah c6 H hK hP hD hS => ?_)
  have hP : va_P (dC, dI) vwCl [(gm, .inr (1, [.int 0, .int 0, .ref ak, .ref ac, .ref ab, .ref al, .ref av, .null, .null, .int 0])), (ak, .inl (c1, 144, .inl (fun _ => nI 0))), (ac, .inl (c2, 144, .inl (fun _ => nI 0))), (ab, .inl (c3, 144, .inl (fun _ => nI 0))), (al, .inl (c4, 156, .inl (fun _ => nI 0))), (av, .inl (c5, 40, .inl (fun _ => nI 0))), (ah, .inl (c6, 40, .inl (fun _ => nI 0)))] H := hP
  have hD : va_D A [(gm, .inr (1, [.int 0, .int 0, .ref ak, .ref ac, .ref ab, .ref al, .ref av, .null, .null, .int 0])), (ak, .inl (c1, 144, .inl (fun _ => nI 0))), (ac, .inl (c2, 144, .inl (fun _ => nI 0))), (ab, .inl (c3, 144, .inl (fun _ => nI 0))), (al, .inl (c4, 156, .inl (fun _ => nI 0))), (av, .inl (c5, 40, .inl (fun _ => nI 0))), (ah, .inl (c6, 40, .inl (fun _ => nI 0)))] := hD
  refine va_putF (D := (dC, dI)) (ci := 1) (v := .ref ah) (ty := (.array .int)) (C := RX1) (T := TX1) (N := 10) hx hb hts hin1 tyX1 tyX1_ok nmX1 hown hK hP hD hS 0 rfl rfl 7 (by decide) lk26 (fun _ h9 => h9) rfl hin rfl (by decide +kernel) rfl rfl (Nat.le_of_ble_eq_true rfl) dX1_init_53 (fun H locs hP hD hS => ?_)
  have hP : va_P (dC, dI) vwCl [(gm, .inr (1, [.int 0, .int 0, .ref ak, .ref ac, .ref ab, .ref al, .ref av, .ref ah, .null, .int 0])), (ak, .inl (c1, 144, .inl (fun _ => nI 0))), (ac, .inl (c2, 144, .inl (fun _ => nI 0))), (ab, .inl (c3, 144, .inl (fun _ => nI 0))), (al, .inl (c4, 156, .inl (fun _ => nI 0))), (av, .inl (c5, 40, .inl (fun _ => nI 0))), (ah, .inl (c6, 40, .inl (fun _ => nI 0)))] H := hP
  have hD : va_D A [(gm, .inr (1, [.int 0, .int 0, .ref ak, .ref ac, .ref ab, .ref al, .ref av, .ref ah, .null, .int 0])), (ak, .inl (c1, 144, .inl (fun _ => nI 0))), (ac, .inl (c2, 144, .inl (fun _ => nI 0))), (ab, .inl (c3, 144, .inl (fun _ => nI 0))), (al, .inl (c4, 156, .inl (fun _ => nI 0))), (av, .inl (c5, 40, .inl (fun _ => nI 0))), (ah, .inl (c6, 40, .inl (fun _ => nI 0)))] := hD
  refine lv_aload_n hx hb dX1_init_56 rfl (lv_at hl 0 rfl) ?_
  refine lv_sipush (v := nI 156) hx hb dX1_init_57 (by decide) ?_
  refine va_newa (atype := .boolean) (ty := .boolean) (a0 := (156, .inl (fun _ => nI 0))) (N' := 156) hx hb (hts (.arrayClass .boolean) (by decide +kernel)) rfl hK hP hD hS hA (fun _ => rfl) (by decide) (nI_clamp (by omega)) (by decide) (Nat.le_of_ble_eq_true rfl) (Nat.le_of_ble_eq_true rfl) dX1_init_60 (fun ap c7 H hK hP hD hS => ?_)
  have hP : va_P (dC, dI) vwCl [(gm, .inr (1, [.int 0, .int 0, .ref ak, .ref ac, .ref ab, .ref al, .ref av, .ref ah, .null, .int 0])), (ak, .inl (c1, 144, .inl (fun _ => nI 0))), (ac, .inl (c2, 144, .inl (fun _ => nI 0))), (ab, .inl (c3, 144, .inl (fun _ => nI 0))), (al, .inl (c4, 156, .inl (fun _ => nI 0))), (av, .inl (c5, 40, .inl (fun _ => nI 0))), (ah, .inl (c6, 40, .inl (fun _ => nI 0))), (ap, .inl (c7, 156, .inl (fun _ => nI 0)))] H := hP
  have hD : va_D A [(gm, .inr (1, [.int 0, .int 0, .ref ak, .ref ac, .ref ab, .ref al, .ref av, .ref ah, .null, .int 0])), (ak, .inl (c1, 144, .inl (fun _ => nI 0))), (ac, .inl (c2, 144, .inl (fun _ => nI 0))), (ab, .inl (c3, 144, .inl (fun _ => nI 0))), (al, .inl (c4, 156, .inl (fun _ => nI 0))), (av, .inl (c5, 40, .inl (fun _ => nI 0))), (ah, .inl (c6, 40, .inl (fun _ => nI 0))), (ap, .inl (c7, 156, .inl (fun _ => nI 0)))] := hD
  refine va_putF (D := (dC, dI)) (ci := 1) (v := .ref ap) (ty := (.array .boolean)) (C := RX1) (T := TX1) (N := 10) hx hb hts hin1 tyX1 tyX1_ok nmX1 hown hK hP hD hS 0 rfl rfl 8 (by decide) lk29 (fun _ h9 => h9) rfl hin rfl (by decide +kernel) rfl rfl (Nat.le_of_ble_eq_true rfl) dX1_init_62 (fun H locs hP hD hS => ?_)
  have hP : va_P (dC, dI) vwCl [(gm, .inr (1, [.int 0, .int 0, .ref ak, .ref ac, .ref ab, .ref al, .ref av, .ref ah, .ref ap, .int 0])), (ak, .inl (c1, 144, .inl (fun _ => nI 0))), (ac, .inl (c2, 144, .inl (fun _ => nI 0))), (ab, .inl (c3, 144, .inl (fun _ => nI 0))), (al, .inl (c4, 156, .inl (fun _ => nI 0))), (av, .inl (c5, 40, .inl (fun _ => nI 0))), (ah, .inl (c6, 40, .inl (fun _ => nI 0))), (ap, .inl (c7, 156, .inl (fun _ => nI 0)))] H := hP
  have hD : va_D A [(gm, .inr (1, [.int 0, .int 0, .ref ak, .ref ac, .ref ab, .ref al, .ref av, .ref ah, .ref ap, .int 0])), (ak, .inl (c1, 144, .inl (fun _ => nI 0))), (ac, .inl (c2, 144, .inl (fun _ => nI 0))), (ab, .inl (c3, 144, .inl (fun _ => nI 0))), (al, .inl (c4, 156, .inl (fun _ => nI 0))), (av, .inl (c5, 40, .inl (fun _ => nI 0))), (ah, .inl (c6, 40, .inl (fun _ => nI 0))), (ap, .inl (c7, 156, .inl (fun _ => nI 0)))] := hD
  refine lv_aload_n hx hb dX1_init_65 rfl (lv_at hl 0 rfl) ?_
  refine lv_iconst (v := nI 1) hx hb dX1_init_66 (by decide) ?_
  refine lv_iconst (v := nI 1) hx hb dX1_init_67 (by decide) ?_
  have e2 : c1 = c2 := by
    have h1 : s.vm.findClass ("[" ++ FieldType.int.toString) = some c1 := (hK.2 0 (c1, .int) rfl).2
    have h2 : s.vm.findClass ("[" ++ FieldType.int.toString) = some c2 := (hK.2 1 (c2, .int) rfl).2
    exact Option.some.inj (h1.symm.trans h2)
  have e3 : c1 = c3 := by
    have h1 : s.vm.findClass ("[" ++ FieldType.int.toString) = some c1 := (hK.2 0 (c1, .int) rfl).2
    have h2 : s.vm.findClass ("[" ++ FieldType.int.toString) = some c3 := (hK.2 2 (c3, .int) rfl).2
    exact Option.some.inj (h1.symm.trans h2)
  have e5 : c1 = c5 := by
    have h1 : s.vm.findClass ("[" ++ FieldType.int.toString) = some c1 := (hK.2 0 (c1, .int) rfl).2
    have h2 : s.vm.findClass ("[" ++ FieldType.int.toString) = some c5 := (hK.2 4 (c5, .int) rfl).2
    exact Option.some.inj (h1.symm.trans h2)
  have e6 : c1 = c6 := by
    have h1 : s.vm.findClass ("[" ++ FieldType.int.toString) = some c1 := (hK.2 0 (c1, .int) rfl).2
    have h2 : s.vm.findClass ("[" ++ FieldType.int.toString) = some c6 := (hK.2 5 (c6, .int) rfl).2
    exact Option.some.inj (h1.symm.trans h2)
  have e7 : c4 = c7 := by
    have h1 : s.vm.findClass ("[" ++ FieldType.boolean.toString) = some c4 := (hK.2 3 (c4, .boolean) rfl).2
    have h2 : s.vm.findClass ("[" ++ FieldType.boolean.toString) = some c7 := (hK.2 6 (c7, .boolean) rfl).2
    exact Option.some.inj (h1.symm.trans h2)
  subst e2 e3 e5 e6 e7
  have hK := hK.sub (tys' := [(c1, .int), (c4, .boolean)]) [0, 3] rfl
  have hP : va_P (dC, dI) vwCl (mw c1 c4 gm ak ac ab al av ah ap (fun _ => nI 0) (fun _ => nI 0) (fun _ => nI 0) (fun _ => nI 0) (fun _ => nI 0) (fun _ => nI 0) (fun _ => nI 0) 0 0 0) H := hP
  have hD : va_D A (mw c1 c4 gm ak ac ab al av ah ap (fun _ => nI 0) (fun _ => nI 0) (fun _ => nI 0) (fun _ => nI 0) (fun _ => nI 0) (fun _ => nI 0) (fun _ => nI 0) 0 0 0) := hD
  refine W.widen (k := 7) (n := 824) (by omega) (by omega) ?_
  refine gz_calli (wc := (mw c1 c4 gm ak ac ab al av ah ap (fun _ => nI 0) (fun _ => nI 0) (fun _ => nI 0) (fun _ => nI 0) (fun _ => nI 0) (fun _ => nI 0) (fun _ => nI 0) 0 0 0)) (wr := []) hP hD hS hA [0, 1, 2, 3, 4, 5, 6, 7] [] rfl rfl (by decide) (by decide) (va_runV (As := [.int (nI 1), .int (nI 1)]) (rest := []) ⟨hx, hb, hml, hown, hts⟩ (cM_begin l dC dI H.size c1 c4 gm ak ac ab al av ah ap (fun _ => nI 0) (fun _ => nI 0) (fun _ => nI 0) (fun _ => nI 0) (fun _ => nI 0) (fun _ => nI 0) (fun _ => nI 0) 0 0 0 1 1 (by decide) (by decide)) (cwV 2 hts gX1_init_X1_begin rfl rfl rfl (by decide +kernel) ⟨Nat.le_of_ble_eq_true rfl, Nat.le_of_ble_eq_true rfl⟩) (gz_preVw (q := (RX1, TX1, 10)) (ci := 1) hK hP hD [0, 1, 2, 3, 4, 5, 6, 7] (by decide) rfl rfl rfl rfl) rfl rfl hl.1 rfl (lv_room (Nat.le_of_ble_eq_true rfl)) dX1_init_68 ⟨Nat.le_of_ble_eq_true rfl, Nat.le_of_ble_eq_true rfl⟩) (fun H locs hP hD hS => ?_)
  have hP : va_P (dC, dI) vwCl (mw c1 c4 gm ak ac ab al av ah ap (fun _ => nI 0) (fun _ => nI 0) (fun _ => nI 0) (fun _ => nI 0) (fun _ => nI 0) (fun _ => nI 0) (fun _ => nI 0) (nI 1) (nI 1) (nI 0)) H := hP
  have hD : va_D A (mw c1 c4 gm ak ac ab al av ah ap (fun _ => nI 0) (fun _ => nI 0) (fun _ => nI 0) (fun _ => nI 0) (fun _ => nI 0) (fun _ => nI 0) (fun _ => nI 0) (nI 1) (nI 1) (nI 0)) := hD
  refine lv_pop hx hb dX1_init_71 rfl ?_
  exact W.vret hx hb hr (fun t ht hW => ⟨⟨(c1, c4, ak, ac, ab, al, av, ah, ap), rfl, trivial, by rw [ht]; exact hP, va_K.moved hW.alike hK, hD⟩, hS.F ht⟩) hS.2.2 dX1_init_72
