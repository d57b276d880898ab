set_option maxHeartbeats 4000000 in
set_option maxRecDepth 100000 in
theorem cG_lineSteps (l : Launch) (dC : Nat → ClassId) (dI : Nat → Nat → Nat) (tK : Nat) (cA cZ : ClassId) (h qk qc qs ql qp qv : Nat) (fk fc fs fl fp fv : Nat → Int32) (rn cn : Nat) (sc : Int32) (ln : Nat) (hrn : 1 ≤ rn ∧ rn ≤ 12) (hcn : 1 ≤ cn ∧ cn ≤ 12) (hln : 1 ≤ ln ∧ ln ≤ cn) (hfl : ∀ k, k < 156 → fl k = nI 0 ∨ fl k = nI 1) (hkI : ∀ k, k < 144 → vp_in (fk k) 10) : Met l yX0_lineSteps wsX0_lineSteps ({ frames := 1, cells := 0, slots := 0, locals := 21 }) (gPk (dC, dI) vwCl [(cA, .int), (cZ, .boolean)] tK [.ref h, .int (nI ln)] (gw cA h qk qc qs ql qp qv fk fc fs fl fp fv (nI rn) (nI cn) sc)) (QcRead (nI (gLs fk fl ln rn).1)) 0 0 (fun _ => False) := by
  refine Met.ofW (cc := cX0_lineSteps) (maxL := 7) (ret := (some .int)) (by decide) rfl ?_
  intro p e s m args below meth c s₁ B hml hv
  obtain ⟨rfl, hP, hK, hZ, hT⟩ := hv
  have hS0 : va_S (fun _ => False) s.heap s.heap [] := va_S.rf
  have hx := B.exec
  have hb := B.bytes
  have hr := B.returns
  have hts := atoms_spec (ws := wsX0_lineSteps) B.pre
  have hown : s.vm.findClass RX0 = some m.cls := findClass_of_methodNamed B.named
  have hlocks := B.notSynchronized
  have hin0 : ∀ w ∈ u_ws RX0 TX0 9, w ∈ wsX0_lineSteps := by decide +kernel
  have lk28 := hts (.fieldLink RX0 28 "LadderGrid" "rows" "I") (by decide +kernel)
  have lk9 := hts (.fieldLink RX0 9 "LadderGrid" "kinds" "[I") (by decide +kernel)
  have lk94 := hts (.fieldLink RX0 94 "LadderGrid" "KIND_STEPS" "[I") (by decide +kernel)
  have lk19 := hts (.fieldLink RX0 19 "LadderGrid" "links" "[I") (by decide +kernel)
  have hl := lv_entry ([.ref h, .int (nI ln)]) (n := 7) (Nat.le_of_ble_eq_true rfl)
  rw [lg_entry_eq]
  generalize (lg_sl ([.ref h, .int (nI ln)]) ++ List.replicate (7 - (lg_sl ([.ref h, .int (nI ln)])).length) Slot.unset).toArray = ls at hl ⊢
  have hl : lv_has ls 7 [(0, .ref h), (1, .int (nI ln))] := hl
  have loop : ∀ (n : Nat) (i S T : Nat), i + n = rn → (S, T) = gLs fk fl ln i → ∀ (ls : Array Slot), lv_has ls 7 [(4, .int (nI i)), (3, .int (nI T)), (2, .int (nI S)), (0, .ref h), (1, .int (nI ln))] → W p l e (headSpec wsX0_lineSteps ({ frames := 1, cells := 0, slots := 0, locals := 21 })).room s m ([.ref h, .int (nI ln)] : List Value).toArray below meth c s.heap [] 0 0 (MQ below (QcRead (nI (gLs fk fl ln rn).1)) ([.ref h, .int (nI ln)] : List Value).toArray s 0 0 (fun _ => False)) (F0 m 7 ls []) := by
    intro n
    induction n with
    | zero =>
      intro i S T hi hST ls hl
      refine lv_iload hx hb dX0_lineSteps_7 (lv_at hl 0 rfl) ?_
      refine lv_aload_n hx hb dX0_lineSteps_9 rfl (lv_at hl 3 rfl) ?_
      refine va_get (D := (dC, dI)) (ci := 0) (v := .int (nI rn)) (C := RX0) (T := TX0) (N := 9) hx hb hts hin0 hown hK hP 0 rfl rfl 6 (by decide) lk28 (fun _ h9 => h9) rfl dX0_lineSteps_10 ?_
      refine gz_icmp_ge (tgt := 104) (za := ((i : Nat) : Int)) (zb := ((rn : Nat) : Int)) hx hb dX0_lineSteps_13 (by decide) (nI_toInt (by omega)) (nI_toInt (by omega)) (fun c_1 => ?_) (fun c_1 => False.elim (by omega))
      refine lv_iload_n hx hb dX0_lineSteps_104 rfl (lv_at hl 2 rfl) ?_
      exact W.iret (v := nI S) hx hb hr (fun t ht hW => ⟨(by rw [show rn = i by omega, ← hST]), ht⟩) (fun q h => absurd h List.not_mem_nil) dX0_lineSteps_105
    | succ n ih =>
      intro i S T hi hST ls hl
      have hTi : T ≤ i := by have := gLs_le fk fl ln i; rw [← hST] at this; exact this
      have hki : vp_in (fk (i * 12 + (ln - 1))) 10 := hkI _ (by omega)
      by_cases hco : 6 ≤ (fk (i * 12 + (ln - 1))).toInt
      · skip
        refine lv_iload hx hb dX0_lineSteps_7 (lv_at hl 0 rfl) ?_
        refine lv_aload_n hx hb dX0_lineSteps_9 rfl (lv_at hl 3 rfl) ?_
        refine va_get (D := (dC, dI)) (ci := 0) (v := .int (nI rn)) (C := RX0) (T := TX0) (N := 9) hx hb hts hin0 hown hK hP 0 rfl rfl 6 (by decide) lk28 (fun _ h9 => h9) rfl dX0_lineSteps_10 ?_
        refine gz_icmp_ge (tgt := 104) (za := ((i : Nat) : Int)) (zb := ((rn : Nat) : Int)) hx hb dX0_lineSteps_13 (by decide) (nI_toInt (by omega)) (nI_toInt (by omega)) (fun c_1 => False.elim (by omega)) (fun c_1 => ?_)
        refine lv_aload_n hx hb dX0_lineSteps_16 rfl (lv_at hl 3 rfl) ?_
        refine va_get (D := (dC, dI)) (ci := 0) (v := .ref qk) (C := RX0) (T := TX0) (N := 9) hx hb hts hin0 hown hK hP 0 rfl rfl 0 (by decide) lk9 (fun _ h9 => h9) rfl dX0_lineSteps_17 ?_
        refine lv_iload hx hb dX0_lineSteps_20 (lv_at hl 0 rfl) ?_
        refine lv_iload_n hx hb dX0_lineSteps_22 rfl (lv_at hl 4 rfl) ?_
        refine lv_iconst (v := nI 1) hx hb dX0_lineSteps_23 (by decide) ?_
        refine gz_isub (i := ln) (j := 1) hx hb dX0_lineSteps_24 (by omega) ?_
        refine gz_callR (W.runS (As := [.int (nI i), .int (nI (ln - 1))]) (rest := [.ref qk]) ⟨hx, hb, hml, hown, hts⟩ (cG_cellAt l i (ln - 1)) (va_cwS 2 hts gX0_lineSteps_X0_cellAt rfl rfl rfl (by decide +kernel) ⟨Nat.le_of_ble_eq_true rfl, Nat.le_of_ble_eq_true rfl⟩) preEq rfl rfl hl.1 rfl (lv_room (Nat.le_of_ble_eq_true rfl)) dX0_lineSteps_25 ⟨Nat.le_of_ble_eq_true rfl, Nat.le_of_ble_eq_true rfl⟩) ?_
        refine gz_iald (k := i * 12 + (ln - 1)) hx hb hK hP 1 0 rfl rfl (by omega) (by omega) dX0_lineSteps_28 ?_
        refine lv_istore (lv' := [(5, .int (fk (i * 12 + (ln - 1)))), (4, .int (nI i)), (3, .int (nI T)), (2, .int (nI S)), (0, .ref h), (1, .int (nI ln))]) hx hb dX0_lineSteps_29 hl (by decide) rfl (fun ls hl => ?_)
        refine lv_iload hx hb dX0_lineSteps_31 (lv_at hl 0 rfl) ?_
        refine gz_callR (W.runS (As := [.int (fk (i * 12 + (ln - 1)))]) (rest := []) ⟨hx, hb, hml, hown, hts⟩ (cG_isCoil l (fk (i * 12 + (ln - 1)))) (va_cwS 1 hts gX0_lineSteps_X0_isCoil rfl rfl rfl (by decide +kernel) ⟨Nat.le_of_ble_eq_true rfl, Nat.le_of_ble_eq_true rfl⟩) preEq rfl rfl hl.1 rfl (lv_room (Nat.le_of_ble_eq_true rfl)) dX0_lineSteps_33 ⟨Nat.le_of_ble_eq_true rfl, Nat.le_of_ble_eq_true rfl⟩) ?_
        refine gz_ifeqB (tgt := 42) hx hb dX0_lineSteps_36 (by decide) (fun c_2 => False.elim (c_2 hco)) (fun c_2 => ?_)
        refine lv_goto (tgt := 98) hx hb dX0_lineSteps_39 (by decide) ?_
        refine lv_iinc (v := nI (i + 1)) (lv' := [(4, .int (nI (i + 1))), (5, .int (fk (i * 12 + (ln - 1)))), (3, .int (nI T)), (2, .int (nI S)), (0, .ref h), (1, .int (nI ln))]) hx hb dX0_lineSteps_98 hl (k := 1) rfl (nI_1 _) (by decide) rfl (fun ls hl => ?_)
        refine lv_goto (tgt := 7) hx hb dX0_lineSteps_101 (by decide) ?_
        exact ih (i + 1) (S) (T) (by omega) (by show _ = gLs1 _ _ (gLs fk fl ln i); rw [← hST]; unfold gLs1; rw [if_pos hco]) ls (lv_sub hl [0, 2, 3, 4, 5] rfl)
      by_cases hk0 : fk (i * 12 + (ln - 1)) = nI 0
      · rcases hfl (i * 13 + ln) (by omega) with hf | hf
        · skip
          refine lv_iload hx hb dX0_lineSteps_7 (lv_at hl 0 rfl) ?_
          refine lv_aload_n hx hb dX0_lineSteps_9 rfl (lv_at hl 3 rfl) ?_
          refine va_get (D := (dC, dI)) (ci := 0) (v := .int (nI rn)) (C := RX0) (T := TX0) (N := 9) hx hb hts hin0 hown hK hP 0 rfl rfl 6 (by decide) lk28 (fun _ h9 => h9) rfl dX0_lineSteps_10 ?_
          refine gz_icmp_ge (tgt := 104) (za := ((i : Nat) : Int)) (zb := ((rn : Nat) : Int)) hx hb dX0_lineSteps_13 (by decide) (nI_toInt (by omega)) (nI_toInt (by omega)) (fun c_1 => False.elim (by omega)) (fun c_1 => ?_)
          refine lv_aload_n hx hb dX0_lineSteps_16 rfl (lv_at hl 3 rfl) ?_
          refine va_get (D := (dC, dI)) (ci := 0) (v := .ref qk) (C := RX0) (T := TX0) (N := 9) hx hb hts hin0 hown hK hP 0 rfl rfl 0 (by decide) lk9 (fun _ h9 => h9) rfl dX0_lineSteps_17 ?_
          refine lv_iload hx hb dX0_lineSteps_20 (lv_at hl 0 rfl) ?_
          refine lv_iload_n hx hb dX0_lineSteps_22 rfl (lv_at hl 4 rfl) ?_
          refine lv_iconst (v := nI 1) hx hb dX0_lineSteps_23 (by decide) ?_
          refine gz_isub (i := ln) (j := 1) hx hb dX0_lineSteps_24 (by omega) ?_
          refine gz_callR (W.runS (As := [.int (nI i), .int (nI (ln - 1))]) (rest := [.ref qk]) ⟨hx, hb, hml, hown, hts⟩ (cG_cellAt l i (ln - 1)) (va_cwS 2 hts gX0_lineSteps_X0_cellAt rfl rfl rfl (by decide +kernel) ⟨Nat.le_of_ble_eq_true rfl, Nat.le_of_ble_eq_true rfl⟩) preEq rfl rfl hl.1 rfl (lv_room (Nat.le_of_ble_eq_true rfl)) dX0_lineSteps_25 ⟨Nat.le_of_ble_eq_true rfl, Nat.le_of_ble_eq_true rfl⟩) ?_
          refine gz_iald (k := i * 12 + (ln - 1)) hx hb hK hP 1 0 rfl rfl (by omega) (by omega) dX0_lineSteps_28 ?_
          refine lv_istore (lv' := [(5, .int (fk (i * 12 + (ln - 1)))), (4, .int (nI i)), (3, .int (nI T)), (2, .int (nI S)), (0, .ref h), (1, .int (nI ln))]) hx hb dX0_lineSteps_29 hl (by decide) rfl (fun ls hl => ?_)
          refine lv_iload hx hb dX0_lineSteps_31 (lv_at hl 0 rfl) ?_
          refine gz_callR (W.runS (As := [.int (fk (i * 12 + (ln - 1)))]) (rest := []) ⟨hx, hb, hml, hown, hts⟩ (cG_isCoil l (fk (i * 12 + (ln - 1)))) (va_cwS 1 hts gX0_lineSteps_X0_isCoil rfl rfl rfl (by decide +kernel) ⟨Nat.le_of_ble_eq_true rfl, Nat.le_of_ble_eq_true rfl⟩) preEq rfl rfl hl.1 rfl (lv_room (Nat.le_of_ble_eq_true rfl)) dX0_lineSteps_33 ⟨Nat.le_of_ble_eq_true rfl, Nat.le_of_ble_eq_true rfl⟩) ?_
          refine gz_ifeqB (tgt := 42) hx hb dX0_lineSteps_36 (by decide) (fun c_2 => ?_) (fun c_2 => False.elim (hco c_2))
          refine lv_iload hx hb dX0_lineSteps_42 (lv_at hl 0 rfl) ?_
          refine lv_if_eq (tgt := 61) hx hb dX0_lineSteps_44 (by decide) (fun c_3 => ?_) (fun c_3 => False.elim (c_3 hk0))
          refine lv_aload_n hx hb dX0_lineSteps_61 rfl (lv_at hl 4 rfl) ?_
          refine va_get (D := (dC, dI)) (ci := 0) (v := .ref ql) (C := RX0) (T := TX0) (N := 9) hx hb hts hin0 hown hK hP 0 rfl rfl 3 (by decide) lk19 (fun _ h9 => h9) rfl dX0_lineSteps_62 ?_
          refine lv_iload hx hb dX0_lineSteps_65 (lv_at hl 1 rfl) ?_
          refine lv_iload_n hx hb dX0_lineSteps_67 rfl (lv_at hl 5 rfl) ?_
          refine gz_callR (W.runS (As := [.int (nI i), .int (nI ln)]) (rest := [.ref ql]) ⟨hx, hb, hml, hown, hts⟩ (cG_pointAt l i ln) (va_cwS 2 hts gX0_lineSteps_X0_pointAt rfl rfl rfl (by decide +kernel) ⟨Nat.le_of_ble_eq_true rfl, Nat.le_of_ble_eq_true rfl⟩) preEq rfl rfl hl.1 rfl (lv_room (Nat.le_of_ble_eq_true rfl)) dX0_lineSteps_68 ⟨Nat.le_of_ble_eq_true rfl, Nat.le_of_ble_eq_true rfl⟩) ?_
          refine gz_iald (k := i * 13 + ln) hx hb hK hP 4 0 rfl rfl (by omega) (by omega) dX0_lineSteps_71 ?_
          refine lv_if_ne (tgt := 79) hx hb dX0_lineSteps_72 (by decide) (fun c_4 => False.elim (c_4 hf)) (fun c_4 => ?_)
          refine lv_iconst (v := nI 1) hx hb dX0_lineSteps_75 (by decide) ?_
          refine lv_goto (tgt := 80) hx hb dX0_lineSteps_76 (by decide) ?_
          refine lv_istore (lv' := [(6, .int (nI 1)), (5, .int (fk (i * 12 + (ln - 1)))), (4, .int (nI i)), (3, .int (nI T)), (2, .int (nI S)), (0, .ref h), (1, .int (nI ln))]) hx hb dX0_lineSteps_80 hl (by decide) rfl (fun ls hl => ?_)
          refine lv_iload hx hb dX0_lineSteps_82 (lv_at hl 0 rfl) ?_
          refine lv_if_eq (tgt := 98) hx hb dX0_lineSteps_84 (by decide) (fun c_5 => False.elim (absurd c_5 (by decide))) (fun c_5 => ?_)
          refine lv_iload_n hx hb dX0_lineSteps_87 rfl (lv_at hl 4 rfl) ?_
          refine lv_iload_n hx hb dX0_lineSteps_88 rfl (lv_at hl 3 rfl) ?_
          refine gz_callR (W.runS (As := [.int (nI T)]) (rest := [.int (nI S)]) ⟨hx, hb, hml, hown, hts⟩ (cG_joiningSteps l T (by omega)) (va_cwS 1 hts gX0_lineSteps_X0_joiningSteps rfl rfl rfl (by decide +kernel) ⟨Nat.le_of_ble_eq_true rfl, Nat.le_of_ble_eq_true rfl⟩) preEq rfl rfl hl.1 rfl (lv_room (Nat.le_of_ble_eq_true rfl)) dX0_lineSteps_89 ⟨Nat.le_of_ble_eq_true rfl, Nat.le_of_ble_eq_true rfl⟩) ?_
          refine lv_iconst (v := nI 1) hx hb dX0_lineSteps_92 (by decide) ?_
          refine gz_iadd (i := if T = 0 then 1 else T - 1) (j := 1) hx hb dX0_lineSteps_93 ?_
          refine gz_iadd (i := S) (j := (if T = 0 then 1 else T - 1) + 1) hx hb dX0_lineSteps_94 ?_
          refine lv_istore_n (lv' := [(2, .int (nI (S + ((if T = 0 then 1 else T - 1) + 1)))), (6, .int (nI 1)), (5, .int (fk (i * 12 + (ln - 1)))), (4, .int (nI i)), (3, .int (nI T)), (0, .ref h), (1, .int (nI ln))]) hx hb dX0_lineSteps_95 rfl hl (by decide) rfl (fun ls hl => ?_)
          refine lv_iconst (v := nI 0) hx hb dX0_lineSteps_96 (by decide) ?_
          refine lv_istore_n (lv' := [(3, .int (nI 0)), (2, .int (nI (S + ((if T = 0 then 1 else T - 1) + 1)))), (6, .int (nI 1)), (5, .int (fk (i * 12 + (ln - 1)))), (4, .int (nI i)), (0, .ref h), (1, .int (nI ln))]) hx hb dX0_lineSteps_97 rfl hl (by decide) rfl (fun ls hl => ?_)
          refine lv_iinc (v := nI (i + 1)) (lv' := [(4, .int (nI (i + 1))), (3, .int (nI 0)), (2, .int (nI (S + ((if T = 0 then 1 else T - 1) + 1)))), (6, .int (nI 1)), (5, .int (fk (i * 12 + (ln - 1)))), (0, .ref h), (1, .int (nI ln))]) hx hb dX0_lineSteps_98 hl (k := 4) rfl (nI_1 _) (by decide) rfl (fun ls hl => ?_)
          refine lv_goto (tgt := 7) hx hb dX0_lineSteps_101 (by decide) ?_
          exact ih (i + 1) (S + ((if T = 0 then 1 else T - 1) + 1)) (0) (by omega) (by show _ = gLs1 _ _ (gLs fk fl ln i); rw [← hST]; unfold gLs1; rw [if_neg hco, if_pos hf, if_pos hk0]) ls (lv_sub hl [0, 1, 2, 5, 6] rfl)
        · skip
          refine lv_iload hx hb dX0_lineSteps_7 (lv_at hl 0 rfl) ?_
          refine lv_aload_n hx hb dX0_lineSteps_9 rfl (lv_at hl 3 rfl) ?_
          refine va_get (D := (dC, dI)) (ci := 0) (v := .int (nI rn)) (C := RX0) (T := TX0) (N := 9) hx hb hts hin0 hown hK hP 0 rfl rfl 6 (by decide) lk28 (fun _ h9 => h9) rfl dX0_lineSteps_10 ?_
          refine gz_icmp_ge (tgt := 104) (za := ((i : Nat) : Int)) (zb := ((rn : Nat) : Int)) hx hb dX0_lineSteps_13 (by decide) (nI_toInt (by omega)) (nI_toInt (by omega)) (fun c_1 => False.elim (by omega)) (fun c_1 => ?_)
          refine lv_aload_n hx hb dX0_lineSteps_16 rfl (lv_at hl 3 rfl) ?_
          refine va_get (D := (dC, dI)) (ci := 0) (v := .ref qk) (C := RX0) (T := TX0) (N := 9) hx hb hts hin0 hown hK hP 0 rfl rfl 0 (by decide) lk9 (fun _ h9 => h9) rfl dX0_lineSteps_17 ?_
          refine lv_iload hx hb dX0_lineSteps_20 (lv_at hl 0 rfl) ?_
          refine lv_iload_n hx hb dX0_lineSteps_22 rfl (lv_at hl 4 rfl) ?_
          refine lv_iconst (v := nI 1) hx hb dX0_lineSteps_23 (by decide) ?_
          refine gz_isub (i := ln) (j := 1) hx hb dX0_lineSteps_24 (by omega) ?_
          refine gz_callR (W.runS (As := [.int (nI i), .int (nI (ln - 1))]) (rest := [.ref qk]) ⟨hx, hb, hml, hown, hts⟩ (cG_cellAt l i (ln - 1)) (va_cwS 2 hts gX0_lineSteps_X0_cellAt rfl rfl rfl (by decide +kernel) ⟨Nat.le_of_ble_eq_true rfl, Nat.le_of_ble_eq_true rfl⟩) preEq rfl rfl hl.1 rfl (lv_room (Nat.le_of_ble_eq_true rfl)) dX0_lineSteps_25 ⟨Nat.le_of_ble_eq_true rfl, Nat.le_of_ble_eq_true rfl⟩) ?_
          refine gz_iald (k := i * 12 + (ln - 1)) hx hb hK hP 1 0 rfl rfl (by omega) (by omega) dX0_lineSteps_28 ?_
          refine lv_istore (lv' := [(5, .int (fk (i * 12 + (ln - 1)))), (4, .int (nI i)), (3, .int (nI T)), (2, .int (nI S)), (0, .ref h), (1, .int (nI ln))]) hx hb dX0_lineSteps_29 hl (by decide) rfl (fun ls hl => ?_)
          refine lv_iload hx hb dX0_lineSteps_31 (lv_at hl 0 rfl) ?_
          refine gz_callR (W.runS (As := [.int (fk (i * 12 + (ln - 1)))]) (rest := []) ⟨hx, hb, hml, hown, hts⟩ (cG_isCoil l (fk (i * 12 + (ln - 1)))) (va_cwS 1 hts gX0_lineSteps_X0_isCoil rfl rfl rfl (by decide +kernel) ⟨Nat.le_of_ble_eq_true rfl, Nat.le_of_ble_eq_true rfl⟩) preEq rfl rfl hl.1 rfl (lv_room (Nat.le_of_ble_eq_true rfl)) dX0_lineSteps_33 ⟨Nat.le_of_ble_eq_true rfl, Nat.le_of_ble_eq_true rfl⟩) ?_
          refine gz_ifeqB (tgt := 42) hx hb dX0_lineSteps_36 (by decide) (fun c_2 => ?_) (fun c_2 => False.elim (hco c_2))
          refine lv_iload hx hb dX0_lineSteps_42 (lv_at hl 0 rfl) ?_
          refine lv_if_eq (tgt := 61) hx hb dX0_lineSteps_44 (by decide) (fun c_3 => ?_) (fun c_3 => False.elim (c_3 hk0))
          refine lv_aload_n hx hb dX0_lineSteps_61 rfl (lv_at hl 4 rfl) ?_
          refine va_get (D := (dC, dI)) (ci := 0) (v := .ref ql) (C := RX0) (T := TX0) (N := 9) hx hb hts hin0 hown hK hP 0 rfl rfl 3 (by decide) lk19 (fun _ h9 => h9) rfl dX0_lineSteps_62 ?_
          refine lv_iload hx hb dX0_lineSteps_65 (lv_at hl 1 rfl) ?_
          refine lv_iload_n hx hb dX0_lineSteps_67 rfl (lv_at hl 5 rfl) ?_
          refine gz_callR (W.runS (As := [.int (nI i), .int (nI ln)]) (rest := [.ref ql]) ⟨hx, hb, hml, hown, hts⟩ (cG_pointAt l i ln) (va_cwS 2 hts gX0_lineSteps_X0_pointAt rfl rfl rfl (by decide +kernel) ⟨Nat.le_of_ble_eq_true rfl, Nat.le_of_ble_eq_true rfl⟩) preEq rfl rfl hl.1 rfl (lv_room (Nat.le_of_ble_eq_true rfl)) dX0_lineSteps_68 ⟨Nat.le_of_ble_eq_true rfl, Nat.le_of_ble_eq_true rfl⟩) ?_
          refine gz_iald (k := i * 13 + ln) hx hb hK hP 4 0 rfl rfl (by omega) (by omega) dX0_lineSteps_71 ?_
          refine lv_if_ne (tgt := 79) hx hb dX0_lineSteps_72 (by decide) (fun c_4 => ?_) (fun c_4 => False.elim (absurd (hf.symm.trans c_4) (by decide)))
          refine lv_iconst (v := nI 0) hx hb dX0_lineSteps_79 (by decide) ?_
          refine lv_istore (lv' := [(6, .int (nI 0)), (5, .int (fk (i * 12 + (ln - 1)))), (4, .int (nI i)), (3, .int (nI T)), (2, .int (nI S)), (0, .ref h), (1, .int (nI ln))]) hx hb dX0_lineSteps_80 hl (by decide) rfl (fun ls hl => ?_)
          refine lv_iload hx hb dX0_lineSteps_82 (lv_at hl 0 rfl) ?_
          refine lv_if_eq (tgt := 98) hx hb dX0_lineSteps_84 (by decide) (fun c_5 => ?_) (fun c_5 => False.elim (c_5 rfl))
          refine lv_iinc (v := nI (i + 1)) (lv' := [(4, .int (nI (i + 1))), (6, .int (nI 0)), (5, .int (fk (i * 12 + (ln - 1)))), (3, .int (nI T)), (2, .int (nI S)), (0, .ref h), (1, .int (nI ln))]) hx hb dX0_lineSteps_98 hl (k := 2) rfl (nI_1 _) (by decide) rfl (fun ls hl => ?_)
          refine lv_goto (tgt := 7) hx hb dX0_lineSteps_101 (by decide) ?_
          exact ih (i + 1) (S) (T) (by omega) (by show _ = gLs1 _ _ (gLs fk fl ln i); rw [← hST]; unfold gLs1; rw [if_neg hco, if_neg (by rw [hf]; decide), if_pos hk0]) ls (lv_sub hl [0, 3, 4, 5, 6] rfl)
      · rcases hfl (i * 13 + ln) (by omega) with hf | hf
        · skip
          refine lv_iload hx hb dX0_lineSteps_7 (lv_at hl 0 rfl) ?_
          refine lv_aload_n hx hb dX0_lineSteps_9 rfl (lv_at hl 3 rfl) ?_
          refine va_get (D := (dC, dI)) (ci := 0) (v := .int (nI rn)) (C := RX0) (T := TX0) (N := 9) hx hb hts hin0 hown hK hP 0 rfl rfl 6 (by decide) lk28 (fun _ h9 => h9) rfl dX0_lineSteps_10 ?_
          refine gz_icmp_ge (tgt := 104) (za := ((i : Nat) : Int)) (zb := ((rn : Nat) : Int)) hx hb dX0_lineSteps_13 (by decide) (nI_toInt (by omega)) (nI_toInt (by omega)) (fun c_1 => False.elim (by omega)) (fun c_1 => ?_)
          refine lv_aload_n hx hb dX0_lineSteps_16 rfl (lv_at hl 3 rfl) ?_
          refine va_get (D := (dC, dI)) (ci := 0) (v := .ref qk) (C := RX0) (T := TX0) (N := 9) hx hb hts hin0 hown hK hP 0 rfl rfl 0 (by decide) lk9 (fun _ h9 => h9) rfl dX0_lineSteps_17 ?_
          refine lv_iload hx hb dX0_lineSteps_20 (lv_at hl 0 rfl) ?_
          refine lv_iload_n hx hb dX0_lineSteps_22 rfl (lv_at hl 4 rfl) ?_
          refine lv_iconst (v := nI 1) hx hb dX0_lineSteps_23 (by decide) ?_
          refine gz_isub (i := ln) (j := 1) hx hb dX0_lineSteps_24 (by omega) ?_
          refine gz_callR (W.runS (As := [.int (nI i), .int (nI (ln - 1))]) (rest := [.ref qk]) ⟨hx, hb, hml, hown, hts⟩ (cG_cellAt l i (ln - 1)) (va_cwS 2 hts gX0_lineSteps_X0_cellAt rfl rfl rfl (by decide +kernel) ⟨Nat.le_of_ble_eq_true rfl, Nat.le_of_ble_eq_true rfl⟩) preEq rfl rfl hl.1 rfl (lv_room (Nat.le_of_ble_eq_true rfl)) dX0_lineSteps_25 ⟨Nat.le_of_ble_eq_true rfl, Nat.le_of_ble_eq_true rfl⟩) ?_
          refine gz_iald (k := i * 12 + (ln - 1)) hx hb hK hP 1 0 rfl rfl (by omega) (by omega) dX0_lineSteps_28 ?_
          refine lv_istore (lv' := [(5, .int (fk (i * 12 + (ln - 1)))), (4, .int (nI i)), (3, .int (nI T)), (2, .int (nI S)), (0, .ref h), (1, .int (nI ln))]) hx hb dX0_lineSteps_29 hl (by decide) rfl (fun ls hl => ?_)
          refine lv_iload hx hb dX0_lineSteps_31 (lv_at hl 0 rfl) ?_
          refine gz_callR (W.runS (As := [.int (fk (i * 12 + (ln - 1)))]) (rest := []) ⟨hx, hb, hml, hown, hts⟩ (cG_isCoil l (fk (i * 12 + (ln - 1)))) (va_cwS 1 hts gX0_lineSteps_X0_isCoil rfl rfl rfl (by decide +kernel) ⟨Nat.le_of_ble_eq_true rfl, Nat.le_of_ble_eq_true rfl⟩) preEq rfl rfl hl.1 rfl (lv_room (Nat.le_of_ble_eq_true rfl)) dX0_lineSteps_33 ⟨Nat.le_of_ble_eq_true rfl, Nat.le_of_ble_eq_true rfl⟩) ?_
          refine gz_ifeqB (tgt := 42) hx hb dX0_lineSteps_36 (by decide) (fun c_2 => ?_) (fun c_2 => False.elim (hco c_2))
          refine lv_iload hx hb dX0_lineSteps_42 (lv_at hl 0 rfl) ?_
          refine lv_if_eq (tgt := 61) hx hb dX0_lineSteps_44 (by decide) (fun c_3 => False.elim (hk0 c_3)) (fun c_3 => ?_)
          refine lv_iload_n hx hb dX0_lineSteps_47 rfl (lv_at hl 3 rfl) ?_
          refine lv_iconst (v := nI 1) hx hb dX0_lineSteps_48 (by decide) ?_
          refine va_gets hx hb hZ hS0 hown lk94 (fun _ h9 => h9) dX0_lineSteps_49 ?_
          refine lv_iload hx hb dX0_lineSteps_52 (lv_at hl 0 rfl) ?_
          refine va_ti (v := .int (nI (ksN (fk (i * 12 + (ln - 1))).toNatClampNeg))) hx hb hT hS0 hki rfl dX0_lineSteps_54 ?_
          refine gz_iadd (i := 1) (j := ksN (fk (i * 12 + (ln - 1))).toNatClampNeg) hx hb dX0_lineSteps_55 ?_
          refine gz_iadd (i := S) (j := 1 + (ksN (fk (i * 12 + (ln - 1))).toNatClampNeg)) hx hb dX0_lineSteps_56 ?_
          refine lv_istore_n (lv' := [(2, .int (nI (S + (1 + (ksN (fk (i * 12 + (ln - 1))).toNatClampNeg))))), (5, .int (fk (i * 12 + (ln - 1)))), (4, .int (nI i)), (3, .int (nI T)), (0, .ref h), (1, .int (nI ln))]) hx hb dX0_lineSteps_57 rfl hl (by decide) rfl (fun ls hl => ?_)
          refine lv_iinc (v := nI (T + 1)) (lv' := [(3, .int (nI (T + 1))), (2, .int (nI (S + (1 + (ksN (fk (i * 12 + (ln - 1))).toNatClampNeg))))), (5, .int (fk (i * 12 + (ln - 1)))), (4, .int (nI i)), (0, .ref h), (1, .int (nI ln))]) hx hb dX0_lineSteps_58 hl (k := 3) rfl (nI_1 _) (by decide) rfl (fun ls hl => ?_)
          refine lv_aload_n hx hb dX0_lineSteps_61 rfl (lv_at hl 4 rfl) ?_
          refine va_get (D := (dC, dI)) (ci := 0) (v := .ref ql) (C := RX0) (T := TX0) (N := 9) hx hb hts hin0 hown hK hP 0 rfl rfl 3 (by decide) lk19 (fun _ h9 => h9) rfl dX0_lineSteps_62 ?_
          refine lv_iload hx hb dX0_lineSteps_65 (lv_at hl 3 rfl) ?_
          refine lv_iload_n hx hb dX0_lineSteps_67 rfl (lv_at hl 5 rfl) ?_
          refine gz_callR (W.runS (As := [.int (nI i), .int (nI ln)]) (rest := [.ref ql]) ⟨hx, hb, hml, hown, hts⟩ (cG_pointAt l i ln) (va_cwS 2 hts gX0_lineSteps_X0_pointAt rfl rfl rfl (by decide +kernel) ⟨Nat.le_of_ble_eq_true rfl, Nat.le_of_ble_eq_true rfl⟩) preEq rfl rfl hl.1 rfl (lv_room (Nat.le_of_ble_eq_true rfl)) dX0_lineSteps_68 ⟨Nat.le_of_ble_eq_true rfl, Nat.le_of_ble_eq_true rfl⟩) ?_
          refine gz_iald (k := i * 13 + ln) hx hb hK hP 4 0 rfl rfl (by omega) (by omega) dX0_lineSteps_71 ?_
          refine lv_if_ne (tgt := 79) hx hb dX0_lineSteps_72 (by decide) (fun c_4 => False.elim (c_4 hf)) (fun c_4 => ?_)
          refine lv_iconst (v := nI 1) hx hb dX0_lineSteps_75 (by decide) ?_
          refine lv_goto (tgt := 80) hx hb dX0_lineSteps_76 (by decide) ?_
          refine lv_istore (lv' := [(6, .int (nI 1)), (3, .int (nI (T + 1))), (2, .int (nI (S + (1 + (ksN (fk (i * 12 + (ln - 1))).toNatClampNeg))))), (5, .int (fk (i * 12 + (ln - 1)))), (4, .int (nI i)), (0, .ref h), (1, .int (nI ln))]) hx hb dX0_lineSteps_80 hl (by decide) rfl (fun ls hl => ?_)
          refine lv_iload hx hb dX0_lineSteps_82 (lv_at hl 0 rfl) ?_
          refine lv_if_eq (tgt := 98) hx hb dX0_lineSteps_84 (by decide) (fun c_5 => False.elim (absurd c_5 (by decide))) (fun c_5 => ?_)
          refine lv_iload_n hx hb dX0_lineSteps_87 rfl (lv_at hl 2 rfl) ?_
          refine lv_iload_n hx hb dX0_lineSteps_88 rfl (lv_at hl 1 rfl) ?_
          refine gz_callR (W.runS (As := [.int (nI (T + 1))]) (rest := [.int (nI (S + (1 + (ksN (fk (i * 12 + (ln - 1))).toNatClampNeg))))]) ⟨hx, hb, hml, hown, hts⟩ (cG_joiningSteps l (T + 1) (by omega)) (va_cwS 1 hts gX0_lineSteps_X0_joiningSteps rfl rfl rfl (by decide +kernel) ⟨Nat.le_of_ble_eq_true rfl, Nat.le_of_ble_eq_true rfl⟩) preEq rfl rfl hl.1 rfl (lv_room (Nat.le_of_ble_eq_true rfl)) dX0_lineSteps_89 ⟨Nat.le_of_ble_eq_true rfl, Nat.le_of_ble_eq_true rfl⟩) ?_
          refine lv_iconst (v := nI 1) hx hb dX0_lineSteps_92 (by decide) ?_
          refine gz_iadd (i := if T + 1 = 0 then 1 else T + 1 - 1) (j := 1) hx hb dX0_lineSteps_93 ?_
          refine gz_iadd (i := S + (1 + (ksN (fk (i * 12 + (ln - 1))).toNatClampNeg))) (j := (if T + 1 = 0 then 1 else T + 1 - 1) + 1) hx hb dX0_lineSteps_94 ?_
          refine lv_istore_n (lv' := [(2, .int (nI ((S + (1 + (ksN (fk (i * 12 + (ln - 1))).toNatClampNeg))) + ((if T + 1 = 0 then 1 else T + 1 - 1) + 1)))), (6, .int (nI 1)), (3, .int (nI (T + 1))), (5, .int (fk (i * 12 + (ln - 1)))), (4, .int (nI i)), (0, .ref h), (1, .int (nI ln))]) hx hb dX0_lineSteps_95 rfl hl (by decide) rfl (fun ls hl => ?_)
          refine lv_iconst (v := nI 0) hx hb dX0_lineSteps_96 (by decide) ?_
          refine lv_istore_n (lv' := [(3, .int (nI 0)), (2, .int (nI ((S + (1 + (ksN (fk (i * 12 + (ln - 1))).toNatClampNeg))) + ((if T + 1 = 0 then 1 else T + 1 - 1) + 1)))), (6, .int (nI 1)), (5, .int (fk (i * 12 + (ln - 1)))), (4, .int (nI i)), (0, .ref h), (1, .int (nI ln))]) hx hb dX0_lineSteps_97 rfl hl (by decide) rfl (fun ls hl => ?_)
          refine lv_iinc (v := nI (i + 1)) (lv' := [(4, .int (nI (i + 1))), (3, .int (nI 0)), (2, .int (nI ((S + (1 + (ksN (fk (i * 12 + (ln - 1))).toNatClampNeg))) + ((if T + 1 = 0 then 1 else T + 1 - 1) + 1)))), (6, .int (nI 1)), (5, .int (fk (i * 12 + (ln - 1)))), (0, .ref h), (1, .int (nI ln))]) hx hb dX0_lineSteps_98 hl (k := 4) rfl (nI_1 _) (by decide) rfl (fun ls hl => ?_)
          refine lv_goto (tgt := 7) hx hb dX0_lineSteps_101 (by decide) ?_
          exact ih (i + 1) ((S + (1 + (ksN (fk (i * 12 + (ln - 1))).toNatClampNeg))) + ((if T + 1 = 0 then 1 else T + 1 - 1) + 1)) (0) (by omega) (by show _ = gLs1 _ _ (gLs fk fl ln i); rw [← hST]; unfold gLs1; rw [if_neg hco, if_pos hf, if_neg hk0]; rw [if_neg (by omega)]; rfl) ls (lv_sub hl [0, 1, 2, 5, 6] rfl)
        · skip
          refine lv_iload hx hb dX0_lineSteps_7 (lv_at hl 0 rfl) ?_
          refine lv_aload_n hx hb dX0_lineSteps_9 rfl (lv_at hl 3 rfl) ?_
          refine va_get (D := (dC, dI)) (ci := 0) (v := .int (nI rn)) (C := RX0) (T := TX0) (N := 9) hx hb hts hin0 hown hK hP 0 rfl rfl 6 (by decide) lk28 (fun _ h9 => h9) rfl dX0_lineSteps_10 ?_
          refine gz_icmp_ge (tgt := 104) (za := ((i : Nat) : Int)) (zb := ((rn : Nat) : Int)) hx hb dX0_lineSteps_13 (by decide) (nI_toInt (by omega)) (nI_toInt (by omega)) (fun c_1 => False.elim (by omega)) (fun c_1 => ?_)
          refine lv_aload_n hx hb dX0_lineSteps_16 rfl (lv_at hl 3 rfl) ?_
          refine va_get (D := (dC, dI)) (ci := 0) (v := .ref qk) (C := RX0) (T := TX0) (N := 9) hx hb hts hin0 hown hK hP 0 rfl rfl 0 (by decide) lk9 (fun _ h9 => h9) rfl dX0_lineSteps_17 ?_
          refine lv_iload hx hb dX0_lineSteps_20 (lv_at hl 0 rfl) ?_
          refine lv_iload_n hx hb dX0_lineSteps_22 rfl (lv_at hl 4 rfl) ?_
          refine lv_iconst (v := nI 1) hx hb dX0_lineSteps_23 (by decide) ?_
          refine gz_isub (i := ln) (j := 1) hx hb dX0_lineSteps_24 (by omega) ?_
          refine gz_callR (W.runS (As := [.int (nI i), .int (nI (ln - 1))]) (rest := [.ref qk]) ⟨hx, hb, hml, hown, hts⟩ (cG_cellAt l i (ln - 1)) (va_cwS 2 hts gX0_lineSteps_X0_cellAt rfl rfl rfl (by decide +kernel) ⟨Nat.le_of_ble_eq_true rfl, Nat.le_of_ble_eq_true rfl⟩) preEq rfl rfl hl.1 rfl (lv_room (Nat.le_of_ble_eq_true rfl)) dX0_lineSteps_25 ⟨Nat.le_of_ble_eq_true rfl, Nat.le_of_ble_eq_true rfl⟩) ?_
          refine gz_iald (k := i * 12 + (ln - 1)) hx hb hK hP 1 0 rfl rfl (by omega) (by omega) dX0_lineSteps_28 ?_
          refine lv_istore (lv' := [(5, .int (fk (i * 12 + (ln - 1)))), (4, .int (nI i)), (3, .int (nI T)), (2, .int (nI S)), (0, .ref h), (1, .int (nI ln))]) hx hb dX0_lineSteps_29 hl (by decide) rfl (fun ls hl => ?_)
          refine lv_iload hx hb dX0_lineSteps_31 (lv_at hl 0 rfl) ?_
          refine gz_callR (W.runS (As := [.int (fk (i * 12 + (ln - 1)))]) (rest := []) ⟨hx, hb, hml, hown, hts⟩ (cG_isCoil l (fk (i * 12 + (ln - 1)))) (va_cwS 1 hts gX0_lineSteps_X0_isCoil rfl rfl rfl (by decide +kernel) ⟨Nat.le_of_ble_eq_true rfl, Nat.le_of_ble_eq_true rfl⟩) preEq rfl rfl hl.1 rfl (lv_room (Nat.le_of_ble_eq_true rfl)) dX0_lineSteps_33 ⟨Nat.le_of_ble_eq_true rfl, Nat.le_of_ble_eq_true rfl⟩) ?_
          refine gz_ifeqB (tgt := 42) hx hb dX0_lineSteps_36 (by decide) (fun c_2 => ?_) (fun c_2 => False.elim (hco c_2))
          refine lv_iload hx hb dX0_lineSteps_42 (lv_at hl 0 rfl) ?_
          refine lv_if_eq (tgt := 61) hx hb dX0_lineSteps_44 (by decide) (fun c_3 => False.elim (hk0 c_3)) (fun c_3 => ?_)
          refine lv_iload_n hx hb dX0_lineSteps_47 rfl (lv_at hl 3 rfl) ?_
          refine lv_iconst (v := nI 1) hx hb dX0_lineSteps_48 (by decide) ?_
          refine va_gets hx hb hZ hS0 hown lk94 (fun _ h9 => h9) dX0_lineSteps_49 ?_
          refine lv_iload hx hb dX0_lineSteps_52 (lv_at hl 0 rfl) ?_
          refine va_ti (v := .int (nI (ksN (fk (i * 12 + (ln - 1))).toNatClampNeg))) hx hb hT hS0 hki rfl dX0_lineSteps_54 ?_
          refine gz_iadd (i := 1) (j := ksN (fk (i * 12 + (ln - 1))).toNatClampNeg) hx hb dX0_lineSteps_55 ?_
          refine gz_iadd (i := S) (j := 1 + (ksN (fk (i * 12 + (ln - 1))).toNatClampNeg)) hx hb dX0_lineSteps_56 ?_
          refine lv_istore_n (lv' := [(2, .int (nI (S + (1 + (ksN (fk (i * 12 + (ln - 1))).toNatClampNeg))))), (5, .int (fk (i * 12 + (ln - 1)))), (4, .int (nI i)), (3, .int (nI T)), (0, .ref h), (1, .int (nI ln))]) hx hb dX0_lineSteps_57 rfl hl (by decide) rfl (fun ls hl => ?_)
          refine lv_iinc (v := nI (T + 1)) (lv' := [(3, .int (nI (T + 1))), (2, .int (nI (S + (1 + (ksN (fk (i * 12 + (ln - 1))).toNatClampNeg))))), (5, .int (fk (i * 12 + (ln - 1)))), (4, .int (nI i)), (0, .ref h), (1, .int (nI ln))]) hx hb dX0_lineSteps_58 hl (k := 3) rfl (nI_1 _) (by decide) rfl (fun ls hl => ?_)
          refine lv_aload_n hx hb dX0_lineSteps_61 rfl (lv_at hl 4 rfl) ?_
          refine va_get (D := (dC, dI)) (ci := 0) (v := .ref ql) (C := RX0) (T := TX0) (N := 9) hx hb hts hin0 hown hK hP 0 rfl rfl 3 (by decide) lk19 (fun _ h9 => h9) rfl dX0_lineSteps_62 ?_
          refine lv_iload hx hb dX0_lineSteps_65 (lv_at hl 3 rfl) ?_
          refine lv_iload_n hx hb dX0_lineSteps_67 rfl (lv_at hl 5 rfl) ?_
          refine gz_callR (W.runS (As := [.int (nI i), .int (nI ln)]) (rest := [.ref ql]) ⟨hx, hb, hml, hown, hts⟩ (cG_pointAt l i ln) (va_cwS 2 hts gX0_lineSteps_X0_pointAt rfl rfl rfl (by decide +kernel) ⟨Nat.le_of_ble_eq_true rfl, Nat.le_of_ble_eq_true rfl⟩) preEq rfl rfl hl.1 rfl (lv_room (Nat.le_of_ble_eq_true rfl)) dX0_lineSteps_68 ⟨Nat.le_of_ble_eq_true rfl, Nat.le_of_ble_eq_true rfl⟩) ?_
          refine gz_iald (k := i * 13 + ln) hx hb hK hP 4 0 rfl rfl (by omega) (by omega) dX0_lineSteps_71 ?_
          refine lv_if_ne (tgt := 79) hx hb dX0_lineSteps_72 (by decide) (fun c_4 => ?_) (fun c_4 => False.elim (absurd (hf.symm.trans c_4) (by decide)))
          refine lv_iconst (v := nI 0) hx hb dX0_lineSteps_79 (by decide) ?_
          refine lv_istore (lv' := [(6, .int (nI 0)), (3, .int (nI (T + 1))), (2, .int (nI (S + (1 + (ksN (fk (i * 12 + (ln - 1))).toNatClampNeg))))), (5, .int (fk (i * 12 + (ln - 1)))), (4, .int (nI i)), (0, .ref h), (1, .int (nI ln))]) hx hb dX0_lineSteps_80 hl (by decide) rfl (fun ls hl => ?_)
          refine lv_iload hx hb dX0_lineSteps_82 (lv_at hl 0 rfl) ?_
          refine lv_if_eq (tgt := 98) hx hb dX0_lineSteps_84 (by decide) (fun c_5 => ?_) (fun c_5 => False.elim (c_5 rfl))
          refine lv_iinc (v := nI (i + 1)) (lv' := [(4, .int (nI (i + 1))), (6, .int (nI 0)), (3, .int (nI (T + 1))), (2, .int (nI (S + (1 + (ksN (fk (i * 12 + (ln - 1))).toNatClampNeg))))), (5, .int (fk (i * 12 + (ln - 1)))), (0, .ref h), (1, .int (nI ln))]) hx hb dX0_lineSteps_98 hl (k := 4) rfl (nI_1 _) (by decide) rfl (fun ls hl => ?_)
          refine lv_goto (tgt := 7) hx hb dX0_lineSteps_101 (by decide) ?_
          exact ih (i + 1) (S + (1 + (ksN (fk (i * 12 + (ln - 1))).toNatClampNeg))) (T + 1) (by omega) (by show _ = gLs1 _ _ (gLs fk fl ln i); rw [← hST]; unfold gLs1; rw [if_neg hco, if_neg (by rw [hf]; decide), if_neg hk0]) ls (lv_sub hl [0, 2, 3, 5, 6] rfl)
  refine lv_iconst (v := nI 0) hx hb dX0_lineSteps_0 (by decide) ?_
  refine lv_istore_n (lv' := [(2, .int (nI 0)), (0, .ref h), (1, .int (nI ln))]) hx hb dX0_lineSteps_1 rfl hl (by decide) rfl (fun ls hl => ?_)
  refine lv_iconst (v := nI 0) hx hb dX0_lineSteps_2 (by decide) ?_
  refine lv_istore_n (lv' := [(3, .int (nI 0)), (2, .int (nI 0)), (0, .ref h), (1, .int (nI ln))]) hx hb dX0_lineSteps_3 rfl hl (by decide) rfl (fun ls hl => ?_)
  refine lv_iconst (v := nI 0) hx hb dX0_lineSteps_4 (by decide) ?_
  refine lv_istore (lv' := [(4, .int (nI 0)), (3, .int (nI 0)), (2, .int (nI 0)), (0, .ref h), (1, .int (nI ln))]) hx hb dX0_lineSteps_5 hl (by decide) rfl (fun ls hl => ?_)
  exact loop rn 0 0 0 (by omega) rfl ls (lv_sub hl [0, 1, 2, 3, 4] rfl)
set_option maxHeartbeats 4000000 in
set_option maxRecDepth 100000 in
theorem cG_coilSteps (l : Launch) (dC : Nat → ClassId) (dI : Nat → Nat → Nat) (tK : Nat) (cA cZ : ClassId) (h qk qc qs ql qp qv : Nat) (fk fc fs fl fp fv : Nat → Int32) (rn cn : Nat) (sc : Int32)  (hrn : 1 ≤ rn ∧ rn ≤ 12) (hcn : 1 ≤ cn ∧ cn ≤ 12) (hkI : ∀ k, k < 144 → vp_in (fk k) 10) : Met l yX0_coilSteps wsX0_coilSteps ({ frames := 1, cells := 0, slots := 0, locals := 21 }) (gPk (dC, dI) vwCl [(cA, .int), (cZ, .boolean)] tK [.ref h] (gw cA h qk qc qs ql qp qv fk fc fs fl fp fv (nI rn) (nI cn) sc)) (QcRead (nI (gCs fk cn rn))) 0 0 (fun _ => False) := by
  refine Met.ofW (cc := cX0_coilSteps) (maxL := 4) (ret := (some .int)) (by decide) rfl ?_
  intro p e s m args below meth c s₁ B hml hv
  obtain ⟨rfl, hP, hK, hZ, hT⟩ := hv
  have hS0 : va_S (fun _ => False) s.heap s.heap [] := va_S.rf
  have hx := B.exec
  have hb := B.bytes
  have hr := B.returns
  have hts := atoms_spec (ws := wsX0_coilSteps) B.pre
  have hown : s.vm.findClass RX0 = some m.cls := findClass_of_methodNamed B.named
  have hlocks := B.notSynchronized
  have hin0 : ∀ w ∈ u_ws RX0 TX0 9, w ∈ wsX0_coilSteps := by decide +kernel
  have lk28 := hts (.fieldLink RX0 28 "LadderGrid" "rows" "I") (by decide +kernel)
  have lk9 := hts (.fieldLink RX0 9 "LadderGrid" "kinds" "[I") (by decide +kernel)
  have lk32 := hts (.fieldLink RX0 32 "LadderGrid" "columns" "I") (by decide +kernel)
  have lk94 := hts (.fieldLink RX0 94 "LadderGrid" "KIND_STEPS" "[I") (by decide +kernel)
  have hl := lv_entry ([.ref h]) (n := 4) (Nat.le_of_ble_eq_true rfl)
  rw [lg_entry_eq]
  generalize (lg_sl ([.ref h]) ++ List.replicate (4 - (lg_sl ([.ref h])).length) Slot.unset).toArray = ls at hl ⊢
  have hl : lv_has ls 4 [(0, .ref h)] := hl
  have loop : ∀ (n : Nat) (i : Nat), i + n = rn → ∀ (ls : Array Slot), lv_has ls 4 [(2, .int (nI i)), (1, .int (nI (gCs fk cn i))), (0, .ref h)] → W p l e (headSpec wsX0_coilSteps ({ frames := 1, cells := 0, slots := 0, locals := 21 })).room s m ([.ref h] : List Value).toArray below meth c s.heap [] 0 0 (MQ below (QcRead (nI (gCs fk cn rn))) ([.ref h] : List Value).toArray s 0 0 (fun _ => False)) (F0 m 4 ls []) := by
    intro n
    induction n with
    | zero =>
      intro i hi ls hl
      refine lv_iload_n hx hb dX0_coilSteps_4 rfl (lv_at hl 0 rfl) ?_
      refine lv_aload_n hx hb dX0_coilSteps_5 rfl (lv_at hl 2 rfl) ?_
      refine va_get (D := (dC, dI)) (ci := 0) (v := .int (nI rn)) (C := RX0) (T := TX0) (N := 9) hx hb hts hin0 hown hK hP 0 rfl rfl 6 (by decide) lk28 (fun _ h9 => h9) rfl dX0_coilSteps_6 ?_
      refine gz_icmp_ge (tgt := 49) (za := ((i : Nat) : Int)) (zb := ((rn : Nat) : Int)) hx hb dX0_coilSteps_9 (by decide) (nI_toInt (by omega)) (nI_toInt (by omega)) (fun c_1 => ?_) (fun c_1 => False.elim (by omega))
      refine lv_iload_n hx hb dX0_coilSteps_49 rfl (lv_at hl 1 rfl) ?_
      exact W.iret (v := nI (gCs fk cn i)) hx hb hr (fun t ht hW => ⟨(by rw [show rn = i by omega]), ht⟩) (fun q h => absurd h List.not_mem_nil) dX0_coilSteps_50
    | succ n ih =>
      intro i hi ls hl
      have hki : vp_in (fk (i * 12 + (cn - 1))) 10 := hkI _ (by omega)
      have hst : gCs fk cn (i + 1) = (if 6 ≤ (fk (i * 12 + (cn - 1))).toInt then gCs fk cn i + ksN (fk (i * 12 + (cn - 1))).toNatClampNeg else gCs fk cn i) := rfl
      by_cases hco : 6 ≤ (fk (i * 12 + (cn - 1))).toInt
      · skip
        refine lv_iload_n hx hb dX0_coilSteps_4 rfl (lv_at hl 0 rfl) ?_
        refine lv_aload_n hx hb dX0_coilSteps_5 rfl (lv_at hl 2 rfl) ?_
        refine va_get (D := (dC, dI)) (ci := 0) (v := .int (nI rn)) (C := RX0) (T := TX0) (N := 9) hx hb hts hin0 hown hK hP 0 rfl rfl 6 (by decide) lk28 (fun _ h9 => h9) rfl dX0_coilSteps_6 ?_
        refine gz_icmp_ge (tgt := 49) (za := ((i : Nat) : Int)) (zb := ((rn : Nat) : Int)) hx hb dX0_coilSteps_9 (by decide) (nI_toInt (by omega)) (nI_toInt (by omega)) (fun c_1 => False.elim (by omega)) (fun c_1 => ?_)
        refine lv_aload_n hx hb dX0_coilSteps_12 rfl (lv_at hl 2 rfl) ?_
        refine va_get (D := (dC, dI)) (ci := 0) (v := .ref qk) (C := RX0) (T := TX0) (N := 9) hx hb hts hin0 hown hK hP 0 rfl rfl 0 (by decide) lk9 (fun _ h9 => h9) rfl dX0_coilSteps_13 ?_
        refine lv_iload_n hx hb dX0_coilSteps_16 rfl (lv_at hl 0 rfl) ?_
        refine lv_aload_n hx hb dX0_coilSteps_17 rfl (lv_at hl 2 rfl) ?_
        refine va_get (D := (dC, dI)) (ci := 0) (v := .int (nI cn)) (C := RX0) (T := TX0) (N := 9) hx hb hts hin0 hown hK hP 0 rfl rfl 7 (by decide) lk32 (fun _ h9 => h9) rfl dX0_coilSteps_18 ?_
        refine lv_iconst (v := nI 1) hx hb dX0_coilSteps_21 (by decide) ?_
        refine gz_isub (i := cn) (j := 1) hx hb dX0_coilSteps_22 (by omega) ?_
        refine gz_callR (W.runS (As := [.int (nI i), .int (nI (cn - 1))]) (rest := [.ref qk]) ⟨hx, hb, hml, hown, hts⟩ (cG_cellAt l i (cn - 1)) (va_cwS 2 hts gX0_coilSteps_X0_cellAt rfl rfl rfl (by decide +kernel) ⟨Nat.le_of_ble_eq_true rfl, Nat.le_of_ble_eq_true rfl⟩) preEq rfl rfl hl.1 rfl (lv_room (Nat.le_of_ble_eq_true rfl)) dX0_coilSteps_23 ⟨Nat.le_of_ble_eq_true rfl, Nat.le_of_ble_eq_true rfl⟩) ?_
        refine gz_iald (k := i * 12 + (cn - 1)) hx hb hK hP 1 0 rfl rfl (by omega) (by omega) dX0_coilSteps_26 ?_
        refine lv_istore_n (lv' := [(3, .int (fk (i * 12 + (cn - 1)))), (2, .int (nI i)), (1, .int (nI (gCs fk cn i))), (0, .ref h)]) hx hb dX0_coilSteps_27 rfl hl (by decide) rfl (fun ls hl => ?_)
        refine lv_iload_n hx hb dX0_coilSteps_28 rfl (lv_at hl 0 rfl) ?_
        refine gz_callR (W.runS (As := [.int (fk (i * 12 + (cn - 1)))]) (rest := []) ⟨hx, hb, hml, hown, hts⟩ (cG_isCoil l (fk (i * 12 + (cn - 1)))) (va_cwS 1 hts gX0_coilSteps_X0_isCoil rfl rfl rfl (by decide +kernel) ⟨Nat.le_of_ble_eq_true rfl, Nat.le_of_ble_eq_true rfl⟩) preEq rfl rfl hl.1 rfl (lv_room (Nat.le_of_ble_eq_true rfl)) dX0_coilSteps_29 ⟨Nat.le_of_ble_eq_true rfl, Nat.le_of_ble_eq_true rfl⟩) ?_
        refine gz_ifeqB (tgt := 43) hx hb dX0_coilSteps_32 (by decide) (fun c_2 => False.elim (c_2 hco)) (fun c_2 => ?_)
        refine lv_iload_n hx hb dX0_coilSteps_35 rfl (lv_at hl 2 rfl) ?_
        refine va_gets hx hb hZ hS0 hown lk94 (fun _ h9 => h9) dX0_coilSteps_36 ?_
        refine lv_iload_n hx hb dX0_coilSteps_39 rfl (lv_at hl 0 rfl) ?_
        refine va_ti (v := .int (nI (ksN (fk (i * 12 + (cn - 1))).toNatClampNeg))) hx hb hT hS0 hki rfl dX0_coilSteps_40 ?_
        refine gz_iadd (i := gCs fk cn i) (j := ksN (fk (i * 12 + (cn - 1))).toNatClampNeg) hx hb dX0_coilSteps_41 ?_
        refine lv_istore_n (lv' := [(1, .int (nI ((gCs fk cn i) + (ksN (fk (i * 12 + (cn - 1))).toNatClampNeg)))), (3, .int (fk (i * 12 + (cn - 1)))), (2, .int (nI i)), (0, .ref h)]) hx hb dX0_coilSteps_42 rfl hl (by decide) rfl (fun ls hl => ?_)
        refine lv_iinc (v := nI (i + 1)) (lv' := [(2, .int (nI (i + 1))), (1, .int (nI ((gCs fk cn i) + (ksN (fk (i * 12 + (cn - 1))).toNatClampNeg)))), (3, .int (fk (i * 12 + (cn - 1)))), (0, .ref h)]) hx hb dX0_coilSteps_43 hl (k := 2) rfl (nI_1 _) (by decide) rfl (fun ls hl => ?_)
        refine lv_goto (tgt := 4) hx hb dX0_coilSteps_46 (by decide) ?_
        have hl := lv_sub hl [0, 1, 3] rfl
        exact ih (i + 1) (by omega) ls (by rw [hst, if_pos hco]; exact hl)
      · skip
        refine lv_iload_n hx hb dX0_coilSteps_4 rfl (lv_at hl 0 rfl) ?_
        refine lv_aload_n hx hb dX0_coilSteps_5 rfl (lv_at hl 2 rfl) ?_
        refine va_get (D := (dC, dI)) (ci := 0) (v := .int (nI rn)) (C := RX0) (T := TX0) (N := 9) hx hb hts hin0 hown hK hP 0 rfl rfl 6 (by decide) lk28 (fun _ h9 => h9) rfl dX0_coilSteps_6 ?_
        refine gz_icmp_ge (tgt := 49) (za := ((i : Nat) : Int)) (zb := ((rn : Nat) : Int)) hx hb dX0_coilSteps_9 (by decide) (nI_toInt (by omega)) (nI_toInt (by omega)) (fun c_1 => False.elim (by omega)) (fun c_1 => ?_)
        refine lv_aload_n hx hb dX0_coilSteps_12 rfl (lv_at hl 2 rfl) ?_
        refine va_get (D := (dC, dI)) (ci := 0) (v := .ref qk) (C := RX0) (T := TX0) (N := 9) hx hb hts hin0 hown hK hP 0 rfl rfl 0 (by decide) lk9 (fun _ h9 => h9) rfl dX0_coilSteps_13 ?_
        refine lv_iload_n hx hb dX0_coilSteps_16 rfl (lv_at hl 0 rfl) ?_
        refine lv_aload_n hx hb dX0_coilSteps_17 rfl (lv_at hl 2 rfl) ?_
        refine va_get (D := (dC, dI)) (ci := 0) (v := .int (nI cn)) (C := RX0) (T := TX0) (N := 9) hx hb hts hin0 hown hK hP 0 rfl rfl 7 (by decide) lk32 (fun _ h9 => h9) rfl dX0_coilSteps_18 ?_
        refine lv_iconst (v := nI 1) hx hb dX0_coilSteps_21 (by decide) ?_
        refine gz_isub (i := cn) (j := 1) hx hb dX0_coilSteps_22 (by omega) ?_
        refine gz_callR (W.runS (As := [.int (nI i), .int (nI (cn - 1))]) (rest := [.ref qk]) ⟨hx, hb, hml, hown, hts⟩ (cG_cellAt l i (cn - 1)) (va_cwS 2 hts gX0_coilSteps_X0_cellAt rfl rfl rfl (by decide +kernel) ⟨Nat.le_of_ble_eq_true rfl, Nat.le_of_ble_eq_true rfl⟩) preEq rfl rfl hl.1 rfl (lv_room (Nat.le_of_ble_eq_true rfl)) dX0_coilSteps_23 ⟨Nat.le_of_ble_eq_true rfl, Nat.le_of_ble_eq_true rfl⟩) ?_
        refine gz_iald (k := i * 12 + (cn - 1)) hx hb hK hP 1 0 rfl rfl (by omega) (by omega) dX0_coilSteps_26 ?_
        refine lv_istore_n (lv' := [(3, .int (fk (i * 12 + (cn - 1)))), (2, .int (nI i)), (1, .int (nI (gCs fk cn i))), (0, .ref h)]) hx hb dX0_coilSteps_27 rfl hl (by decide) rfl (fun ls hl => ?_)
        refine lv_iload_n hx hb dX0_coilSteps_28 rfl (lv_at hl 0 rfl) ?_
        refine gz_callR (W.runS (As := [.int (fk (i * 12 + (cn - 1)))]) (rest := []) ⟨hx, hb, hml, hown, hts⟩ (cG_isCoil l (fk (i * 12 + (cn - 1)))) (va_cwS 1 hts gX0_coilSteps_X0_isCoil rfl rfl rfl (by decide +kernel) ⟨Nat.le_of_ble_eq_true rfl, Nat.le_of_ble_eq_true rfl⟩) preEq rfl rfl hl.1 rfl (lv_room (Nat.le_of_ble_eq_true rfl)) dX0_coilSteps_29 ⟨Nat.le_of_ble_eq_true rfl, Nat.le_of_ble_eq_true rfl⟩) ?_
        refine gz_ifeqB (tgt := 43) hx hb dX0_coilSteps_32 (by decide) (fun c_2 => ?_) (fun c_2 => False.elim (hco c_2))
        refine lv_iinc (v := nI (i + 1)) (lv' := [(2, .int (nI (i + 1))), (3, .int (fk (i * 12 + (cn - 1)))), (1, .int (nI (gCs fk cn i))), (0, .ref h)]) hx hb dX0_coilSteps_43 hl (k := 1) rfl (nI_1 _) (by decide) rfl (fun ls hl => ?_)
        refine lv_goto (tgt := 4) hx hb dX0_coilSteps_46 (by decide) ?_
        have hl := lv_sub hl [0, 2, 3] rfl
        exact ih (i + 1) (by omega) ls (by rw [hst, if_neg hco]; exact hl)
  refine lv_iconst (v := nI 0) hx hb dX0_coilSteps_0 (by decide) ?_
  refine lv_istore_n (lv' := [(1, .int (nI 0)), (0, .ref h)]) hx hb dX0_coilSteps_1 rfl hl (by decide) rfl (fun ls hl => ?_)
  refine lv_iconst (v := nI 0) hx hb dX0_coilSteps_2 (by decide) ?_
  refine lv_istore_n (lv' := [(2, .int (nI 0)), (1, .int (nI 0)), (0, .ref h)]) hx hb dX0_coilSteps_3 rfl hl (by decide) rfl (fun ls hl => ?_)
  exact loop rn 0 (by omega) ls (lv_sub hl [0, 1, 2] rfl)
set_option maxHeartbeats 4000000 in
set_option maxRecDepth 100000 in
theorem cG_steps (l : Launch) (dC : Nat → ClassId) (dI : Nat → Nat → Nat) (tK : Nat) (cA cZ : ClassId) (h qk qc qs ql qp qv : Nat) (fk fc fs fl fp fv : Nat → Int32) (rn cn : Nat) (sc : Int32)  (hrn : 1 ≤ rn ∧ rn ≤ 12) (hcn : 1 ≤ cn ∧ cn ≤ 12) (hfl : ∀ k, k < 156 → fl k = nI 0 ∨ fl k = nI 1) (hkI : ∀ k, k < 144 → vp_in (fk k) 10) : Met l yX0_steps wsX0_steps ({ frames := 2, cells := 0, slots := 0, locals := 47 }) (gPk (dC, dI) vwCl [(cA, .int), (cZ, .boolean)] tK [.ref h] (gw cA h qk qc qs ql qp qv fk fc fs fl fp fv (nI rn) (nI cn) sc)) (QcRead (nI (gSt fk fl rn cn + gCs fk cn rn))) 0 0 (fun _ => False) := by
  refine Met.ofW (cc := cX0_steps) (maxL := 3) (ret := (some .int)) (by decide) rfl ?_
  intro p e s m args below meth c s₁ B hml hv
  obtain ⟨rfl, hP, hK, hZ, hT⟩ := hv
  have hS0 : va_S (fun _ => False) s.heap s.heap [] := va_S.rf
  have hx := B.exec
  have hb := B.bytes
  have hr := B.returns
  have hts := atoms_spec (ws := wsX0_steps) B.pre
  have hown : s.vm.findClass RX0 = some m.cls := findClass_of_methodNamed B.named
  have hlocks := B.notSynchronized
  have hin0 : ∀ w ∈ u_ws RX0 TX0 9, w ∈ wsX0_steps := by decide +kernel
  have lk32 := hts (.fieldLink RX0 32 "LadderGrid" "columns" "I") (by decide +kernel)
  have hl := lv_entry ([.ref h]) (n := 3) (Nat.le_of_ble_eq_true rfl)
  rw [lg_entry_eq]
  generalize (lg_sl ([.ref h]) ++ List.replicate (3 - (lg_sl ([.ref h])).length) Slot.unset).toArray = ls at hl ⊢
  have hl : lv_has ls 3 [(0, .ref h)] := hl
  have loop : ∀ (n : Nat) (j : Nat), j + n = cn → ∀ (ls : Array Slot), lv_has ls 3 [(2, .int (nI (j + 1))), (1, .int (nI (gSt fk fl rn j))), (0, .ref h)] → W p l e (headSpec wsX0_steps ({ frames := 2, cells := 0, slots := 0, locals := 47 })).room s m ([.ref h] : List Value).toArray below meth c s.heap [] 0 0 (MQ below (QcRead (nI (gSt fk fl rn cn + gCs fk cn rn))) ([.ref h] : List Value).toArray s 0 0 (fun _ => False)) (F0 m 4 ls []) := by
    intro n
    induction n with
    | zero =>
      intro j hj ls hl
      refine lv_iload_n hx hb dX0_steps_4 rfl (lv_at hl 0 rfl) ?_
      refine lv_aload_n hx hb dX0_steps_5 rfl (lv_at hl 2 rfl) ?_
      refine va_get (D := (dC, dI)) (ci := 0) (v := .int (nI cn)) (C := RX0) (T := TX0) (N := 9) hx hb hts hin0 hown hK hP 0 rfl rfl 7 (by decide) lk32 (fun _ h9 => h9) rfl dX0_steps_6 ?_
      refine gz_icmp_gt (tgt := 26) (za := ((j + 1 : Nat) : Int)) (zb := ((cn : Nat) : Int)) hx hb dX0_steps_9 (by decide) (nI_toInt (by omega)) (nI_toInt (by omega)) (fun c_1 => ?_) (fun c_1 => False.elim (by omega))
      refine lv_iload_n hx hb dX0_steps_26 rfl (lv_at hl 1 rfl) ?_
      refine lv_aload_n hx hb dX0_steps_27 rfl (lv_at hl 2 rfl) ?_
      refine gz_callR (W.runV (As := []) (rest := [.int (nI (gSt fk fl rn j))]) ⟨hx, hb, hml, hown, hts⟩ (cG_coilSteps l dC dI tK cA cZ h qk qc qs ql qp qv fk fc fs fl fp fv rn cn sc hrn hcn hkI) (cwV 0 hts gX0_steps_X0_coilSteps rfl rfl rfl (by decide +kernel) ⟨Nat.le_of_ble_eq_true rfl, Nat.le_of_ble_eq_true rfl⟩) (gz_preVs (q := (RX0, TX0, 9)) (ci := 0) hK hP hZ hT [0, 1, 2, 3, 4, 5, 6] rfl rfl rfl) rfl rfl hl.1 rfl (lv_room (Nat.le_of_ble_eq_true rfl)) dX0_steps_28 ⟨Nat.le_of_ble_eq_true rfl, Nat.le_of_ble_eq_true rfl⟩) ?_
      refine gz_iadd (i := gSt fk fl rn j) (j := gCs fk cn rn) hx hb dX0_steps_31 ?_
      exact W.iret (v := nI ((gSt fk fl rn j) + (gCs fk cn rn))) hx hb hr (fun t ht hW => ⟨(by rw [show j = cn by omega]), ht⟩) (fun q h => absurd h List.not_mem_nil) dX0_steps_32
    | succ n ih =>
      intro j hj ls hl
      refine lv_iload_n hx hb dX0_steps_4 rfl (lv_at hl 0 rfl) ?_
      refine lv_aload_n hx hb dX0_steps_5 rfl (lv_at hl 2 rfl) ?_
      refine va_get (D := (dC, dI)) (ci := 0) (v := .int (nI cn)) (C := RX0) (T := TX0) (N := 9) hx hb hts hin0 hown hK hP 0 rfl rfl 7 (by decide) lk32 (fun _ h9 => h9) rfl dX0_steps_6 ?_
      refine gz_icmp_gt (tgt := 26) (za := ((j + 1 : Nat) : Int)) (zb := ((cn : Nat) : Int)) hx hb dX0_steps_9 (by decide) (nI_toInt (by omega)) (nI_toInt (by omega)) (fun c_1 => False.elim (by omega)) (fun c_1 => ?_)
      refine lv_iload_n hx hb dX0_steps_12 rfl (lv_at hl 1 rfl) ?_
      refine lv_aload_n hx hb dX0_steps_13 rfl (lv_at hl 2 rfl) ?_
      refine lv_iload_n hx hb dX0_steps_14 rfl (lv_at hl 0 rfl) ?_
      refine gz_callR (W.runV (As := [.int (nI (j + 1))]) (rest := [.int (nI (gSt fk fl rn j))]) ⟨hx, hb, hml, hown, hts⟩ (cG_lineSteps l dC dI tK cA cZ h qk qc qs ql qp qv fk fc fs fl fp fv rn cn sc (j + 1) hrn hcn (by omega) hfl hkI) (cwV 1 hts gX0_steps_X0_lineSteps rfl rfl rfl (by decide +kernel) ⟨Nat.le_of_ble_eq_true rfl, Nat.le_of_ble_eq_true rfl⟩) (gz_preVs (q := (RX0, TX0, 9)) (ci := 0) hK hP hZ hT [0, 1, 2, 3, 4, 5, 6] rfl rfl rfl) rfl rfl hl.1 rfl (lv_room (Nat.le_of_ble_eq_true rfl)) dX0_steps_15 ⟨Nat.le_of_ble_eq_true rfl, Nat.le_of_ble_eq_true rfl⟩) ?_
      refine gz_iadd (i := gSt fk fl rn j) (j := (gLs fk fl (j + 1) rn).1) hx hb dX0_steps_18 ?_
      refine lv_istore_n (lv' := [(1, .int (nI ((gSt fk fl rn j) + ((gLs fk fl (j + 1) rn).1)))), (2, .int (nI (j + 1))), (0, .ref h)]) hx hb dX0_steps_19 rfl hl (by decide) rfl (fun ls hl => ?_)
      refine lv_iinc (v := nI (j + 1 + 1)) (lv' := [(2, .int (nI (j + 1 + 1))), (1, .int (nI ((gSt fk fl rn j) + ((gLs fk fl (j + 1) rn).1)))), (0, .ref h)]) hx hb dX0_steps_20 hl (k := 1) rfl (nI_1 _) (by decide) rfl (fun ls hl => ?_)
      refine lv_goto (tgt := 4) hx hb dX0_steps_23 (by decide) ?_
      exact ih (j + 1) (by omega) ls (lv_sub hl [0, 1, 2] rfl)
  refine lv_iconst (v := nI 0) hx hb dX0_steps_0 (by decide) ?_
  refine lv_istore_n (lv' := [(1, .int (nI 0)), (0, .ref h)]) hx hb dX0_steps_1 rfl hl (by decide) rfl (fun ls hl => ?_)
  refine lv_iconst (v := nI 1) hx hb dX0_steps_2 (by decide) ?_
  refine lv_istore_n (lv' := [(2, .int (nI 1)), (1, .int (nI 0)), (0, .ref h)]) hx hb dX0_steps_3 rfl hl (by decide) rfl (fun ls hl => ?_)
  exact loop cn 0 (by omega) ls (lv_sub hl [0, 1, 2] rfl)
