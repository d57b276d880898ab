set_option maxHeartbeats 4000000 in
set_option maxRecDepth 100000 in
theorem cM_term (l : Launch) (k : Nat) (hk : 1 ≤ k ∧ k ≤ 5) : Met l yX1_term wsX1_term ({ frames := 0, cells := 0, slots := 0, locals := 0 }) (fun vv _ => vv = ([.int (nI k)] : List Value).toArray) (QcRead (nI (1 + ksN k))) 0 0 (fun _ => False) := by
  refine Met.ofW (cc := cX1_term) (maxL := 1) (ret := (some .int)) (by decide) rfl ?_
  intro p e s m args below meth c s₁ B hml hv
  subst hv
  have hx := B.exec
  have hb := B.bytes
  have hr := B.returns
  have hts := atoms_spec (ws := wsX1_term) B.pre
  have hown : s.vm.findClass RX1 = some m.cls := findClass_of_methodNamed B.named
  have hlocks := B.notSynchronized
  have hl := lv_entry ([.int (nI k)]) (n := 1) (Nat.le_of_ble_eq_true rfl)
  rw [lg_entry_eq]
  generalize (lg_sl ([.int (nI k)]) ++ List.replicate (1 - (lg_sl ([.int (nI k)])).length) Slot.unset).toArray = ls at hl ⊢
  have hl : lv_has ls 1 [(0, .int (nI k))] := hl
  have h15 : k = 1 ∨ k = 2 ∨ k = 3 ∨ k = 4 ∨ k = 5 := by omega
  rcases h15 with h | h | h | h | h
  · subst h
    refine lv_iload_n hx hb dX1_term_0 rfl (lv_at hl 0 rfl) ?_
    refine lv_iconst (v := nI 1) hx hb dX1_term_1 (by decide) ?_
    refine gz_icmp_ne (tgt := 9) (za := ((1 : Nat) : Int)) (zb := ((1 : Nat) : Int)) hx hb dX1_term_2 (by decide) (nI_toInt (by omega)) (nI_toInt (by omega)) (fun c_1 => False.elim (by omega)) (fun c_1 => ?_)
    refine lv_iconst (v := nI 1) hx hb dX1_term_5 (by decide) ?_
    refine lv_goto (tgt := 29) hx hb dX1_term_6 (by decide) ?_
    exact W.iret (v := nI 1) hx hb hr (fun t ht hW => ⟨rfl, ht⟩) (fun q h => absurd h List.not_mem_nil) dX1_term_29
  · subst h
    refine lv_iload_n hx hb dX1_term_0 rfl (lv_at hl 0 rfl) ?_
    refine lv_iconst (v := nI 1) hx hb dX1_term_1 (by decide) ?_
    refine gz_icmp_ne (tgt := 9) (za := ((2 : Nat) : Int)) (zb := ((1 : Nat) : Int)) hx hb dX1_term_2 (by decide) (nI_toInt (by omega)) (nI_toInt (by omega)) (fun c_1 => ?_) (fun c_1 => False.elim (by omega))
    refine lv_iload_n hx hb dX1_term_9 rfl (lv_at hl 0 rfl) ?_
    refine lv_iconst (v := nI 2) hx hb dX1_term_10 (by decide) ?_
    refine gz_icmp_ne (tgt := 18) (za := ((2 : Nat) : Int)) (zb := ((2 : Nat) : Int)) hx hb dX1_term_11 (by decide) (nI_toInt (by omega)) (nI_toInt (by omega)) (fun c_2 => False.elim (by omega)) (fun c_2 => ?_)
    refine lv_iconst (v := nI 3) hx hb dX1_term_14 (by decide) ?_
    refine lv_goto (tgt := 29) hx hb dX1_term_15 (by decide) ?_
    exact W.iret (v := nI 3) hx hb hr (fun t ht hW => ⟨rfl, ht⟩) (fun q h => absurd h List.not_mem_nil) dX1_term_29
  · subst h
    refine lv_iload_n hx hb dX1_term_0 rfl (lv_at hl 0 rfl) ?_
    refine lv_iconst (v := nI 1) hx hb dX1_term_1 (by decide) ?_
    refine gz_icmp_ne (tgt := 9) (za := ((3 : Nat) : Int)) (zb := ((1 : Nat) : Int)) hx hb dX1_term_2 (by decide) (nI_toInt (by omega)) (nI_toInt (by omega)) (fun c_1 => ?_) (fun c_1 => False.elim (by omega))
    refine lv_iload_n hx hb dX1_term_9 rfl (lv_at hl 0 rfl) ?_
    refine lv_iconst (v := nI 2) hx hb dX1_term_10 (by decide) ?_
    refine gz_icmp_ne (tgt := 18) (za := ((3 : Nat) : Int)) (zb := ((2 : Nat) : Int)) hx hb dX1_term_11 (by decide) (nI_toInt (by omega)) (nI_toInt (by omega)) (fun c_2 => ?_) (fun c_2 => False.elim (by omega))
    refine lv_iload_n hx hb dX1_term_18 rfl (lv_at hl 0 rfl) ?_
    refine lv_iconst (v := nI 3) hx hb dX1_term_19 (by decide) ?_
    refine gz_icmp_ne (tgt := 27) (za := ((3 : Nat) : Int)) (zb := ((3 : Nat) : Int)) hx hb dX1_term_20 (by decide) (nI_toInt (by omega)) (nI_toInt (by omega)) (fun c_3 => False.elim (by omega)) (fun c_3 => ?_)
    refine lv_iconst (v := nI 4) hx hb dX1_term_23 (by decide) ?_
    refine lv_goto (tgt := 29) hx hb dX1_term_24 (by decide) ?_
    exact W.iret (v := nI 4) hx hb hr (fun t ht hW => ⟨rfl, ht⟩) (fun q h => absurd h List.not_mem_nil) dX1_term_29
  · subst h
    refine lv_iload_n hx hb dX1_term_0 rfl (lv_at hl 0 rfl) ?_
    refine lv_iconst (v := nI 1) hx hb dX1_term_1 (by decide) ?_
    refine gz_icmp_ne (tgt := 9) (za := ((4 : Nat) : Int)) (zb := ((1 : Nat) : Int)) hx hb dX1_term_2 (by decide) (nI_toInt (by omega)) (nI_toInt (by omega)) (fun c_1 => ?_) (fun c_1 => False.elim (by omega))
    refine lv_iload_n hx hb dX1_term_9 rfl (lv_at hl 0 rfl) ?_
    refine lv_iconst (v := nI 2) hx hb dX1_term_10 (by decide) ?_
    refine gz_icmp_ne (tgt := 18) (za := ((4 : Nat) : Int)) (zb := ((2 : Nat) : Int)) hx hb dX1_term_11 (by decide) (nI_toInt (by omega)) (nI_toInt (by omega)) (fun c_2 => ?_) (fun c_2 => False.elim (by omega))
    refine lv_iload_n hx hb dX1_term_18 rfl (lv_at hl 0 rfl) ?_
    refine lv_iconst (v := nI 3) hx hb dX1_term_19 (by decide) ?_
    refine gz_icmp_ne (tgt := 27) (za := ((4 : Nat) : Int)) (zb := ((3 : Nat) : Int)) hx hb dX1_term_20 (by decide) (nI_toInt (by omega)) (nI_toInt (by omega)) (fun c_3 => ?_) (fun c_3 => False.elim (by omega))
    refine lv_bipush (v := nI 8) hx hb dX1_term_27 (by decide) ?_
    exact W.iret (v := nI 8) hx hb hr (fun t ht hW => ⟨rfl, ht⟩) (fun q h => absurd h List.not_mem_nil) dX1_term_29
  · subst h
    refine lv_iload_n hx hb dX1_term_0 rfl (lv_at hl 0 rfl) ?_
    refine lv_iconst (v := nI 1) hx hb dX1_term_1 (by decide) ?_
    refine gz_icmp_ne (tgt := 9) (za := ((5 : Nat) : Int)) (zb := ((1 : Nat) : Int)) hx hb dX1_term_2 (by decide) (nI_toInt (by omega)) (nI_toInt (by omega)) (fun c_1 => ?_) (fun c_1 => False.elim (by omega))
    refine lv_iload_n hx hb dX1_term_9 rfl (lv_at hl 0 rfl) ?_
    refine lv_iconst (v := nI 2) hx hb dX1_term_10 (by decide) ?_
    refine gz_icmp_ne (tgt := 18) (za := ((5 : Nat) : Int)) (zb := ((2 : Nat) : Int)) hx hb dX1_term_11 (by decide) (nI_toInt (by omega)) (nI_toInt (by omega)) (fun c_2 => ?_) (fun c_2 => False.elim (by omega))
    refine lv_iload_n hx hb dX1_term_18 rfl (lv_at hl 0 rfl) ?_
    refine lv_iconst (v := nI 3) hx hb dX1_term_19 (by decide) ?_
    refine gz_icmp_ne (tgt := 27) (za := ((5 : Nat) : Int)) (zb := ((3 : Nat) : Int)) hx hb dX1_term_20 (by decide) (nI_toInt (by omega)) (nI_toInt (by omega)) (fun c_3 => ?_) (fun c_3 => False.elim (by omega))
    refine lv_bipush (v := nI 8) hx hb dX1_term_27 (by decide) ?_
    exact W.iret (v := nI 8) hx hb hr (fun t ht hW => ⟨rfl, ht⟩) (fun q h => absurd h List.not_mem_nil) dX1_term_29
set_option maxHeartbeats 4000000 in
set_option maxRecDepth 100000 in
theorem cM_lineSteps (l : Launch) (dC : Nat → ClassId) (dI : Nat → Nat → Nat) (cA cZ : ClassId) (gm ak ac ab al av ah ap : Nat) (fk fc fs fl fp fv ft : Nat → Int32) (rn cn : Nat) (sc : Int32) (ln : Nat) (hrn : 1 ≤ rn ∧ rn ≤ 12) (hcn : 1 ≤ cn ∧ cn ≤ 12) (hln : 1 ≤ ln ∧ ln ≤ cn) (hfl : g01 156 fl) (hlk : gLk fl rn cn) (hkI : ∀ k, k < 144 → vp_in (fk k) 10) (hco7 : ∀ r col, r < 12 → col < 12 → 6 ≤ (fk (r * 12 + col)).toInt → col + 1 = cn) : Met l yX1_lineSteps wsX1_lineSteps ({ frames := 1, cells := 0, slots := 0, locals := 20 }) (gPr (dC, dI) vwCl [(cA, .int), (cZ, .boolean)] [.ref gm, .int (nI ln)] (mw cA cZ gm ak ac ab al av ah ap fk fc fs fl fp fv ft (nI rn) (nI cn) sc)) (QcRead (nI (gLs fk fl ln rn).1)) 0 0 (fun _ => False) := by
  refine Met.ofW (cc := cX1_lineSteps) (maxL := 7) (ret := (some .int)) (by decide) rfl ?_
  intro p e s m args below meth c s₁ B hml hv
  obtain ⟨rfl, hP, hK⟩ := hv
  have hx := B.exec
  have hb := B.bytes
  have hr := B.returns
  have hts := atoms_spec (ws := wsX1_lineSteps) B.pre
  have hown : s.vm.findClass RX1 = some m.cls := findClass_of_methodNamed B.named
  have hlocks := B.notSynchronized
  have hin1 : ∀ w ∈ u_ws RX1 TX1 10, w ∈ wsX1_lineSteps := by decide +kernel
  have lk36 := hts (.fieldLink RX1 36 "LadderGridModel" "rows" "I") (by decide +kernel)
  have lk7 := hts (.fieldLink RX1 7 "LadderGridModel" "kinds" "[I") (by decide +kernel)
  have lk40 := hts (.fieldLink RX1 40 "LadderGridModel" "columns" "I") (by decide +kernel)
  have lk19 := hts (.fieldLink RX1 19 "LadderGridModel" "isLinked" "[Z") (by decide +kernel)
  have hl := lv_entry ([.ref gm, .int (nI ln)]) (n := 7) (Nat.le_of_ble_eq_true rfl)
  rw [lg_entry_eq]
  generalize (lg_sl ([.ref gm, .int (nI ln)]) ++ List.replicate (7 - (lg_sl ([.ref gm, .int (nI ln)])).length) Slot.unset).toArray = ls at hl ⊢
  have hl : lv_has ls 7 [(0, .ref gm), (1, .int (nI ln))] := hl
  have loop : ∀ (n : Nat) (i S T nn : Nat), i + n = rn → (S, T) = gLs fk fl ln i → nn = S + (T - 1) → ∀ (ls : Array Slot), lv_has ls 7 [(4, .int (nI i)), (3, .int (nI T)), (2, .int (nI nn)), (0, .ref gm), (1, .int (nI ln))] → W p l e (headSpec wsX1_lineSteps ({ frames := 1, cells := 0, slots := 0, locals := 20 })).room s m ([.ref gm, .int (nI ln)] : List Value).toArray below meth c s.heap [] 0 0 (MQ below (QcRead (nI (gLs fk fl ln rn).1)) ([.ref gm, .int (nI ln)] : List Value).toArray s 0 0 (fun _ => False)) (F0 m 7 ls []) := by
    intro n
    induction n with
    | zero =>
      intro i S T nn hi hST hnn ls hl
      refine lv_iload hx hb dX1_lineSteps_7 (lv_at hl 0 rfl) ?_
      refine lv_aload_n hx hb dX1_lineSteps_9 rfl (lv_at hl 3 rfl) ?_
      refine va_get (D := (dC, dI)) (ci := 1) (v := .int (nI rn)) (C := RX1) (T := TX1) (N := 10) hx hb hts hin1 hown hK hP 0 rfl rfl 0 (by decide) lk36 (fun _ h9 => h9) rfl dX1_lineSteps_10 ?_
      refine gz_icmp_ge (tgt := 152) (za := ((i : Nat) : Int)) (zb := ((rn : Nat) : Int)) hx hb dX1_lineSteps_13 (by decide) (nI_toInt (by omega)) (nI_toInt (by omega)) (fun c_1 => ?_) (fun c_1 => False.elim (by omega))
      refine lv_iload_n hx hb dX1_lineSteps_152 rfl (lv_at hl 2 rfl) ?_
      exact W.iret (v := nI nn) hx hb hr (fun t ht hW => ⟨(by have he := gLs_end (fk := fk) hrn hln hcn.2 hlk hfl (fun r hr h6 => by have := hco7 r (ln - 1) hr (by omega) h6; omega); rw [show rn = i by omega, ← hST] at he; rw [show rn = i by omega, ← hST, hnn]; have he : T = 0 := he; rw [he]; rfl), ht⟩) (fun q h => absurd h List.not_mem_nil) dX1_lineSteps_153
    | succ n ih =>
      intro i S T nn hi hST hnn ls hl
      have hTi : T ≤ i := by have := gLs_le fk fl ln i; rw [← hST] at this; exact this
      obtain ⟨kk, hkk, ek⟩ := vp_in_of (hkI (i * 12 + (ln - 1)) (by omega)) (by omega)
      have zk : (fk (i * 12 + (ln - 1))).toInt = (kk : Int) := by rw [ek]; exact nI_toInt (by omega)
      have ck : (fk (i * 12 + (ln - 1))).toNatClampNeg = kk := by rw [ek]; exact nI_clamp (by omega)
      by_cases hco : 6 ≤ (fk (i * 12 + (ln - 1))).toInt
      · have hlc : ln = cn := by have := hco7 i (ln - 1) (by omega) (by omega) hco; omega
        have hT0 : T = 0 := by
          have h0 := gLs_last (fk := fk) (fl := fl) (ln := ln) i (fun r hr => (hfl (r * 13 + ln) (by omega)).resolve_right (fun q => by have := hlk r ln (by omega) (by omega) q; omega))
          rw [← hST] at h0; exact h0
        subst hT0
        refine lv_iload hx hb dX1_lineSteps_7 (lv_at hl 0 rfl) ?_
        refine lv_aload_n hx hb dX1_lineSteps_9 rfl (lv_at hl 3 rfl) ?_
        refine va_get (D := (dC, dI)) (ci := 1) (v := .int (nI rn)) (C := RX1) (T := TX1) (N := 10) hx hb hts hin1 hown hK hP 0 rfl rfl 0 (by decide) lk36 (fun _ h9 => h9) rfl dX1_lineSteps_10 ?_
        refine gz_icmp_ge (tgt := 152) (za := ((i : Nat) : Int)) (zb := ((rn : Nat) : Int)) hx hb dX1_lineSteps_13 (by decide) (nI_toInt (by omega)) (nI_toInt (by omega)) (fun c_1 => False.elim (by omega)) (fun c_1 => ?_)
        refine lv_aload_n hx hb dX1_lineSteps_16 rfl (lv_at hl 3 rfl) ?_
        refine va_get (D := (dC, dI)) (ci := 1) (v := .ref ak) (C := RX1) (T := TX1) (N := 10) hx hb hts hin1 hown hK hP 0 rfl rfl 2 (by decide) lk7 (fun _ h9 => h9) rfl dX1_lineSteps_17 ?_
        refine lv_bipush (v := nI 12) hx hb dX1_lineSteps_20 (by decide) ?_
        refine lv_iload hx hb dX1_lineSteps_22 (lv_at hl 0 rfl) ?_
        refine gz_imulc (i := 12) (j := i) hx hb dX1_lineSteps_24 ?_
        refine lv_iload_n hx hb dX1_lineSteps_25 rfl (lv_at hl 4 rfl) ?_
        refine gz_iadd (i := i * 12) (j := ln) hx hb dX1_lineSteps_26 ?_
        refine lv_iconst (v := nI 1) hx hb dX1_lineSteps_27 (by decide) ?_
        refine gz_isub (i := (i * 12) + ln) (j := 1) hx hb dX1_lineSteps_28 (by omega) ?_
        refine gz_top (j := i * 12 + (ln - 1)) (by omega) ?_
        refine gz_iald (k := i * 12 + (ln - 1)) hx hb hK hP 1 0 rfl rfl (by omega) (by omega) dX1_lineSteps_29 ?_
        refine lv_istore (lv' := [(5, .int (fk (i * 12 + (ln - 1)))), (4, .int (nI i)), (3, .int (nI 0)), (2, .int (nI nn)), (0, .ref gm), (1, .int (nI ln))]) hx hb dX1_lineSteps_30 hl (by decide) rfl (fun ls hl => ?_)
        refine lv_iload hx hb dX1_lineSteps_32 (lv_at hl 0 rfl) ?_
        refine lv_bipush (v := nI 6) hx hb dX1_lineSteps_34 (by decide) ?_
        refine gz_icmp_lt (tgt := 44) (za := (fk (i * 12 + (ln - 1))).toInt) (zb := ((6 : Nat) : Int)) hx hb dX1_lineSteps_36 (by decide) rfl (nI_toInt (by omega)) (fun c_2 => False.elim (by omega)) (fun c_2 => ?_)
        refine lv_iconst (v := nI 0) hx hb dX1_lineSteps_39 (by decide) ?_
        refine lv_istore_n (lv' := [(3, .int (nI 0)), (5, .int (fk (i * 12 + (ln - 1)))), (4, .int (nI i)), (2, .int (nI nn)), (0, .ref gm), (1, .int (nI ln))]) hx hb dX1_lineSteps_40 rfl hl (by decide) rfl (fun ls hl => ?_)
        refine lv_goto (tgt := 146) hx hb dX1_lineSteps_41 (by decide) ?_
        refine lv_iinc (v := nI (i + 1)) (lv' := [(4, .int (nI (i + 1))), (3, .int (nI 0)), (5, .int (fk (i * 12 + (ln - 1)))), (2, .int (nI nn)), (0, .ref gm), (1, .int (nI ln))]) hx hb dX1_lineSteps_146 hl (k := 2) rfl (nI_1 _) (by decide) rfl (fun ls hl => ?_)
        refine lv_goto (tgt := 7) hx hb dX1_lineSteps_149 (by decide) ?_
        exact ih (i + 1) S 0 nn (by omega) (by show _ = gLs1 _ _ (gLs fk fl ln i); rw [← hST]; unfold gLs1; rw [if_pos hco]) (by omega) ls (lv_sub hl [0, 1, 3, 4, 5] rfl)
      · have hk6 : kk < 6 := by omega
        by_cases hk0 : fk (i * 12 + (ln - 1)) = nI 0
        · rcases hfl (i * 13 + ln) (by omega) with hf | hf
          · by_cases hT : T = 0
            · skip
              by_cases hq1 : ln < cn
              · by_cases hq2 : i + 1 < rn
                · skip
                  refine lv_iload hx hb dX1_lineSteps_7 (lv_at hl 0 rfl) ?_
                  refine lv_aload_n hx hb dX1_lineSteps_9 rfl (lv_at hl 3 rfl) ?_
                  refine va_get (D := (dC, dI)) (ci := 1) (v := .int (nI rn)) (C := RX1) (T := TX1) (N := 10) hx hb hts hin1 hown hK hP 0 rfl rfl 0 (by decide) lk36 (fun _ h9 => h9) rfl dX1_lineSteps_10 ?_
                  refine gz_icmp_ge (tgt := 152) (za := ((i : Nat) : Int)) (zb := ((rn : Nat) : Int)) hx hb dX1_lineSteps_13 (by decide) (nI_toInt (by omega)) (nI_toInt (by omega)) (fun c_1 => False.elim (by omega)) (fun c_1 => ?_)
                  refine lv_aload_n hx hb dX1_lineSteps_16 rfl (lv_at hl 3 rfl) ?_
                  refine va_get (D := (dC, dI)) (ci := 1) (v := .ref ak) (C := RX1) (T := TX1) (N := 10) hx hb hts hin1 hown hK hP 0 rfl rfl 2 (by decide) lk7 (fun _ h9 => h9) rfl dX1_lineSteps_17 ?_
                  refine lv_bipush (v := nI 12) hx hb dX1_lineSteps_20 (by decide) ?_
                  refine lv_iload hx hb dX1_lineSteps_22 (lv_at hl 0 rfl) ?_
                  refine gz_imulc (i := 12) (j := i) hx hb dX1_lineSteps_24 ?_
                  refine lv_iload_n hx hb dX1_lineSteps_25 rfl (lv_at hl 4 rfl) ?_
                  refine gz_iadd (i := i * 12) (j := ln) hx hb dX1_lineSteps_26 ?_
                  refine lv_iconst (v := nI 1) hx hb dX1_lineSteps_27 (by decide) ?_
                  refine gz_isub (i := (i * 12) + ln) (j := 1) hx hb dX1_lineSteps_28 (by omega) ?_
                  refine gz_top (j := i * 12 + (ln - 1)) (by omega) ?_
                  refine gz_iald (k := i * 12 + (ln - 1)) hx hb hK hP 1 0 rfl rfl (by omega) (by omega) dX1_lineSteps_29 ?_
                  refine lv_istore (lv' := [(5, .int (fk (i * 12 + (ln - 1)))), (4, .int (nI i)), (3, .int (nI T)), (2, .int (nI nn)), (0, .ref gm), (1, .int (nI ln))]) hx hb dX1_lineSteps_30 hl (by decide) rfl (fun ls hl => ?_)
                  refine lv_iload hx hb dX1_lineSteps_32 (lv_at hl 0 rfl) ?_
                  refine lv_bipush (v := nI 6) hx hb dX1_lineSteps_34 (by decide) ?_
                  refine gz_icmp_lt (tgt := 44) (za := (fk (i * 12 + (ln - 1))).toInt) (zb := ((6 : Nat) : Int)) hx hb dX1_lineSteps_36 (by decide) rfl (nI_toInt (by omega)) (fun c_2 => ?_) (fun c_2 => False.elim (by omega))
                  refine lv_iload hx hb dX1_lineSteps_44 (lv_at hl 0 rfl) ?_
                  refine lv_if_ne (tgt := 53) hx hb dX1_lineSteps_46 (by decide) (fun c_3 => False.elim (c_3 hk0)) (fun c_3 => ?_)
                  refine lv_iload_n hx hb dX1_lineSteps_49 rfl (lv_at hl 3 rfl) ?_
                  refine lv_goto (tgt := 70) hx hb dX1_lineSteps_50 (by decide) ?_
                  refine lv_istore_n (lv' := [(2, .int (nI nn)), (5, .int (fk (i * 12 + (ln - 1)))), (4, .int (nI i)), (3, .int (nI T)), (0, .ref gm), (1, .int (nI ln))]) hx hb dX1_lineSteps_70 rfl hl (by decide) rfl (fun ls hl => ?_)
                  refine lv_iload hx hb dX1_lineSteps_71 (lv_at hl 1 rfl) ?_
                  refine lv_if_ne (tgt := 80) hx hb dX1_lineSteps_73 (by decide) (fun c_4 => False.elim (c_4 hk0)) (fun c_4 => ?_)
                  refine lv_iload_n hx hb dX1_lineSteps_76 rfl (lv_at hl 3 rfl) ?_
                  refine lv_goto (tgt := 83) hx hb dX1_lineSteps_77 (by decide) ?_
                  refine lv_istore_n (lv' := [(3, .int (nI T)), (2, .int (nI nn)), (5, .int (fk (i * 12 + (ln - 1)))), (4, .int (nI i)), (0, .ref gm), (1, .int (nI ln))]) hx hb dX1_lineSteps_83 rfl hl (by decide) rfl (fun ls hl => ?_)
                  refine lv_iload_n hx hb dX1_lineSteps_84 rfl (lv_at hl 5 rfl) ?_
                  refine lv_aload_n hx hb dX1_lineSteps_85 rfl (lv_at hl 4 rfl) ?_
                  refine va_get (D := (dC, dI)) (ci := 1) (v := .int (nI cn)) (C := RX1) (T := TX1) (N := 10) hx hb hts hin1 hown hK hP 0 rfl rfl 1 (by decide) lk40 (fun _ h9 => h9) rfl dX1_lineSteps_86 ?_
                  refine gz_icmp_ge (tgt := 122) (za := ((ln : Nat) : Int)) (zb := ((cn : Nat) : Int)) hx hb dX1_lineSteps_89 (by decide) (nI_toInt (by omega)) (nI_toInt (by omega)) (fun c_5 => False.elim (by omega)) (fun c_5 => ?_)
                  refine lv_iload hx hb dX1_lineSteps_92 (lv_at hl 3 rfl) ?_
                  refine lv_iconst (v := nI 1) hx hb dX1_lineSteps_94 (by decide) ?_
                  refine gz_iadd (i := i) (j := 1) hx hb dX1_lineSteps_95 ?_
                  refine lv_aload_n hx hb dX1_lineSteps_96 rfl (lv_at hl 4 rfl) ?_
                  refine va_get (D := (dC, dI)) (ci := 1) (v := .int (nI rn)) (C := RX1) (T := TX1) (N := 10) hx hb hts hin1 hown hK hP 0 rfl rfl 0 (by decide) lk36 (fun _ h9 => h9) rfl dX1_lineSteps_97 ?_
                  refine gz_icmp_ge (tgt := 122) (za := ((i + 1 : Nat) : Int)) (zb := ((rn : Nat) : Int)) hx hb dX1_lineSteps_100 (by decide) (nI_toInt (by omega)) (nI_toInt (by omega)) (fun c_6 => False.elim (by omega)) (fun c_6 => ?_)
                  refine lv_aload_n hx hb dX1_lineSteps_103 rfl (lv_at hl 4 rfl) ?_
                  refine va_get (D := (dC, dI)) (ci := 1) (v := .ref al) (C := RX1) (T := TX1) (N := 10) hx hb hts hin1 hown hK hP 0 rfl rfl 5 (by decide) lk19 (fun _ h9 => h9) rfl dX1_lineSteps_104 ?_
                  refine lv_bipush (v := nI 13) hx hb dX1_lineSteps_107 (by decide) ?_
                  refine lv_iload hx hb dX1_lineSteps_109 (lv_at hl 3 rfl) ?_
                  refine gz_imulc (i := 13) (j := i) hx hb dX1_lineSteps_111 ?_
                  refine lv_iload_n hx hb dX1_lineSteps_112 rfl (lv_at hl 5 rfl) ?_
                  refine gz_iadd (i := i * 13) (j := ln) hx hb dX1_lineSteps_113 ?_
                  refine gz_zald (k := (i * 13) + ln) hx hb hK hP 4 1 rfl rfl (by omega) (by omega) dX1_lineSteps_114 ?_
                  refine lv_if_eq (tgt := 122) hx hb dX1_lineSteps_115 (by decide) (fun c_7 => ?_) (fun c_7 => False.elim (c_7 hf))
                  refine lv_iconst (v := nI 0) hx hb dX1_lineSteps_122 (by decide) ?_
                  refine lv_istore (lv' := [(6, .int (nI 0)), (3, .int (nI T)), (2, .int (nI nn)), (5, .int (fk (i * 12 + (ln - 1)))), (4, .int (nI i)), (0, .ref gm), (1, .int (nI ln))]) hx hb dX1_lineSteps_123 hl (by decide) rfl (fun ls hl => ?_)
                  refine lv_iload hx hb dX1_lineSteps_125 (lv_at hl 0 rfl) ?_
                  refine lv_if_ne (tgt := 146) hx hb dX1_lineSteps_127 (by decide) (fun c_8 => False.elim (c_8 rfl)) (fun c_8 => ?_)
                  refine lv_iload_n hx hb dX1_lineSteps_130 rfl (lv_at hl 1 rfl) ?_
                  refine lv_if_ne (tgt := 140) hx hb dX1_lineSteps_131 (by decide) (fun c_9 => False.elim (c_9 (by rw [hT]; rfl))) (fun c_9 => ?_)
                  refine lv_iload_n hx hb dX1_lineSteps_134 rfl (lv_at hl 2 rfl) ?_
                  refine lv_iconst (v := nI 2) hx hb dX1_lineSteps_135 (by decide) ?_
                  refine gz_iadd (i := nn) (j := 2) hx hb dX1_lineSteps_136 ?_
                  refine lv_goto (tgt := 143) hx hb dX1_lineSteps_137 (by decide) ?_
                  refine lv_istore_n (lv' := [(2, .int (nI (nn + 2))), (6, .int (nI 0)), (3, .int (nI T)), (5, .int (fk (i * 12 + (ln - 1)))), (4, .int (nI i)), (0, .ref gm), (1, .int (nI ln))]) hx hb dX1_lineSteps_143 rfl hl (by decide) rfl (fun ls hl => ?_)
                  refine lv_iconst (v := nI 0) hx hb dX1_lineSteps_144 (by decide) ?_
                  refine lv_istore_n (lv' := [(3, .int (nI 0)), (2, .int (nI (nn + 2))), (6, .int (nI 0)), (5, .int (fk (i * 12 + (ln - 1)))), (4, .int (nI i)), (0, .ref gm), (1, .int (nI ln))]) hx hb dX1_lineSteps_145 rfl hl (by decide) rfl (fun ls hl => ?_)
                  refine lv_iinc (v := nI (i + 1)) (lv' := [(4, .int (nI (i + 1))), (3, .int (nI 0)), (2, .int (nI (nn + 2))), (6, .int (nI 0)), (5, .int (fk (i * 12 + (ln - 1)))), (0, .ref gm), (1, .int (nI ln))]) hx hb dX1_lineSteps_146 hl (k := 4) rfl (nI_1 _) (by decide) rfl (fun ls hl => ?_)
                  refine lv_goto (tgt := 7) hx hb dX1_lineSteps_149 (by decide) ?_
                  exact ih (i + 1) (S + (1 + 1)) (0) (nn + 2) (by omega) (by show _ = gLs1 _ _ (gLs fk fl ln i); rw [← hST]; unfold gLs1; rw [if_neg hco, if_pos hf, if_pos hk0, if_pos hT]) (by omega) ls (lv_sub hl [0, 1, 2, 5, 6] rfl)
                · skip
                  refine lv_iload hx hb dX1_lineSteps_7 (lv_at hl 0 rfl) ?_
                  refine lv_aload_n hx hb dX1_lineSteps_9 rfl (lv_at hl 3 rfl) ?_
                  refine va_get (D := (dC, dI)) (ci := 1) (v := .int (nI rn)) (C := RX1) (T := TX1) (N := 10) hx hb hts hin1 hown hK hP 0 rfl rfl 0 (by decide) lk36 (fun _ h9 => h9) rfl dX1_lineSteps_10 ?_
                  refine gz_icmp_ge (tgt := 152) (za := ((i : Nat) : Int)) (zb := ((rn : Nat) : Int)) hx hb dX1_lineSteps_13 (by decide) (nI_toInt (by omega)) (nI_toInt (by omega)) (fun c_1 => False.elim (by omega)) (fun c_1 => ?_)
                  refine lv_aload_n hx hb dX1_lineSteps_16 rfl (lv_at hl 3 rfl) ?_
                  refine va_get (D := (dC, dI)) (ci := 1) (v := .ref ak) (C := RX1) (T := TX1) (N := 10) hx hb hts hin1 hown hK hP 0 rfl rfl 2 (by decide) lk7 (fun _ h9 => h9) rfl dX1_lineSteps_17 ?_
                  refine lv_bipush (v := nI 12) hx hb dX1_lineSteps_20 (by decide) ?_
                  refine lv_iload hx hb dX1_lineSteps_22 (lv_at hl 0 rfl) ?_
                  refine gz_imulc (i := 12) (j := i) hx hb dX1_lineSteps_24 ?_
                  refine lv_iload_n hx hb dX1_lineSteps_25 rfl (lv_at hl 4 rfl) ?_
                  refine gz_iadd (i := i * 12) (j := ln) hx hb dX1_lineSteps_26 ?_
                  refine lv_iconst (v := nI 1) hx hb dX1_lineSteps_27 (by decide) ?_
                  refine gz_isub (i := (i * 12) + ln) (j := 1) hx hb dX1_lineSteps_28 (by omega) ?_
                  refine gz_top (j := i * 12 + (ln - 1)) (by omega) ?_
                  refine gz_iald (k := i * 12 + (ln - 1)) hx hb hK hP 1 0 rfl rfl (by omega) (by omega) dX1_lineSteps_29 ?_
                  refine lv_istore (lv' := [(5, .int (fk (i * 12 + (ln - 1)))), (4, .int (nI i)), (3, .int (nI T)), (2, .int (nI nn)), (0, .ref gm), (1, .int (nI ln))]) hx hb dX1_lineSteps_30 hl (by decide) rfl (fun ls hl => ?_)
                  refine lv_iload hx hb dX1_lineSteps_32 (lv_at hl 0 rfl) ?_
                  refine lv_bipush (v := nI 6) hx hb dX1_lineSteps_34 (by decide) ?_
                  refine gz_icmp_lt (tgt := 44) (za := (fk (i * 12 + (ln - 1))).toInt) (zb := ((6 : Nat) : Int)) hx hb dX1_lineSteps_36 (by decide) rfl (nI_toInt (by omega)) (fun c_2 => ?_) (fun c_2 => False.elim (by omega))
                  refine lv_iload hx hb dX1_lineSteps_44 (lv_at hl 0 rfl) ?_
                  refine lv_if_ne (tgt := 53) hx hb dX1_lineSteps_46 (by decide) (fun c_3 => False.elim (c_3 hk0)) (fun c_3 => ?_)
                  refine lv_iload_n hx hb dX1_lineSteps_49 rfl (lv_at hl 3 rfl) ?_
                  refine lv_goto (tgt := 70) hx hb dX1_lineSteps_50 (by decide) ?_
                  refine lv_istore_n (lv' := [(2, .int (nI nn)), (5, .int (fk (i * 12 + (ln - 1)))), (4, .int (nI i)), (3, .int (nI T)), (0, .ref gm), (1, .int (nI ln))]) hx hb dX1_lineSteps_70 rfl hl (by decide) rfl (fun ls hl => ?_)
                  refine lv_iload hx hb dX1_lineSteps_71 (lv_at hl 1 rfl) ?_
                  refine lv_if_ne (tgt := 80) hx hb dX1_lineSteps_73 (by decide) (fun c_4 => False.elim (c_4 hk0)) (fun c_4 => ?_)
                  refine lv_iload_n hx hb dX1_lineSteps_76 rfl (lv_at hl 3 rfl) ?_
                  refine lv_goto (tgt := 83) hx hb dX1_lineSteps_77 (by decide) ?_
                  refine lv_istore_n (lv' := [(3, .int (nI T)), (2, .int (nI nn)), (5, .int (fk (i * 12 + (ln - 1)))), (4, .int (nI i)), (0, .ref gm), (1, .int (nI ln))]) hx hb dX1_lineSteps_83 rfl hl (by decide) rfl (fun ls hl => ?_)
                  refine lv_iload_n hx hb dX1_lineSteps_84 rfl (lv_at hl 5 rfl) ?_
                  refine lv_aload_n hx hb dX1_lineSteps_85 rfl (lv_at hl 4 rfl) ?_
                  refine va_get (D := (dC, dI)) (ci := 1) (v := .int (nI cn)) (C := RX1) (T := TX1) (N := 10) hx hb hts hin1 hown hK hP 0 rfl rfl 1 (by decide) lk40 (fun _ h9 => h9) rfl dX1_lineSteps_86 ?_
                  refine gz_icmp_ge (tgt := 122) (za := ((ln : Nat) : Int)) (zb := ((cn : Nat) : Int)) hx hb dX1_lineSteps_89 (by decide) (nI_toInt (by omega)) (nI_toInt (by omega)) (fun c_5 => False.elim (by omega)) (fun c_5 => ?_)
                  refine lv_iload hx hb dX1_lineSteps_92 (lv_at hl 3 rfl) ?_
                  refine lv_iconst (v := nI 1) hx hb dX1_lineSteps_94 (by decide) ?_
                  refine gz_iadd (i := i) (j := 1) hx hb dX1_lineSteps_95 ?_
                  refine lv_aload_n hx hb dX1_lineSteps_96 rfl (lv_at hl 4 rfl) ?_
                  refine va_get (D := (dC, dI)) (ci := 1) (v := .int (nI rn)) (C := RX1) (T := TX1) (N := 10) hx hb hts hin1 hown hK hP 0 rfl rfl 0 (by decide) lk36 (fun _ h9 => h9) rfl dX1_lineSteps_97 ?_
                  refine gz_icmp_ge (tgt := 122) (za := ((i + 1 : Nat) : Int)) (zb := ((rn : Nat) : Int)) hx hb dX1_lineSteps_100 (by decide) (nI_toInt (by omega)) (nI_toInt (by omega)) (fun c_6 => ?_) (fun c_6 => False.elim (by omega))
                  refine lv_iconst (v := nI 0) hx hb dX1_lineSteps_122 (by decide) ?_
                  refine lv_istore (lv' := [(6, .int (nI 0)), (3, .int (nI T)), (2, .int (nI nn)), (5, .int (fk (i * 12 + (ln - 1)))), (4, .int (nI i)), (0, .ref gm), (1, .int (nI ln))]) hx hb dX1_lineSteps_123 hl (by decide) rfl (fun ls hl => ?_)
                  refine lv_iload hx hb dX1_lineSteps_125 (lv_at hl 0 rfl) ?_
                  refine lv_if_ne (tgt := 146) hx hb dX1_lineSteps_127 (by decide) (fun c_7 => False.elim (c_7 rfl)) (fun c_7 => ?_)
                  refine lv_iload_n hx hb dX1_lineSteps_130 rfl (lv_at hl 1 rfl) ?_
                  refine lv_if_ne (tgt := 140) hx hb dX1_lineSteps_131 (by decide) (fun c_8 => False.elim (c_8 (by rw [hT]; rfl))) (fun c_8 => ?_)
                  refine lv_iload_n hx hb dX1_lineSteps_134 rfl (lv_at hl 2 rfl) ?_
                  refine lv_iconst (v := nI 2) hx hb dX1_lineSteps_135 (by decide) ?_
                  refine gz_iadd (i := nn) (j := 2) hx hb dX1_lineSteps_136 ?_
                  refine lv_goto (tgt := 143) hx hb dX1_lineSteps_137 (by decide) ?_
                  refine lv_istore_n (lv' := [(2, .int (nI (nn + 2))), (6, .int (nI 0)), (3, .int (nI T)), (5, .int (fk (i * 12 + (ln - 1)))), (4, .int (nI i)), (0, .ref gm), (1, .int (nI ln))]) hx hb dX1_lineSteps_143 rfl hl (by decide) rfl (fun ls hl => ?_)
                  refine lv_iconst (v := nI 0) hx hb dX1_lineSteps_144 (by decide) ?_
                  refine lv_istore_n (lv' := [(3, .int (nI 0)), (2, .int (nI (nn + 2))), (6, .int (nI 0)), (5, .int (fk (i * 12 + (ln - 1)))), (4, .int (nI i)), (0, .ref gm), (1, .int (nI ln))]) hx hb dX1_lineSteps_145 rfl hl (by decide) rfl (fun ls hl => ?_)
                  refine lv_iinc (v := nI (i + 1)) (lv' := [(4, .int (nI (i + 1))), (3, .int (nI 0)), (2, .int (nI (nn + 2))), (6, .int (nI 0)), (5, .int (fk (i * 12 + (ln - 1)))), (0, .ref gm), (1, .int (nI ln))]) hx hb dX1_lineSteps_146 hl (k := 4) rfl (nI_1 _) (by decide) rfl (fun ls hl => ?_)
                  refine lv_goto (tgt := 7) hx hb dX1_lineSteps_149 (by decide) ?_
                  exact ih (i + 1) (S + (1 + 1)) (0) (nn + 2) (by omega) (by show _ = gLs1 _ _ (gLs fk fl ln i); rw [← hST]; unfold gLs1; rw [if_neg hco, if_pos hf, if_pos hk0, if_pos hT]) (by omega) ls (lv_sub hl [0, 1, 2, 5, 6] rfl)
              · skip
                refine lv_iload hx hb dX1_lineSteps_7 (lv_at hl 0 rfl) ?_
                refine lv_aload_n hx hb dX1_lineSteps_9 rfl (lv_at hl 3 rfl) ?_
                refine va_get (D := (dC, dI)) (ci := 1) (v := .int (nI rn)) (C := RX1) (T := TX1) (N := 10) hx hb hts hin1 hown hK hP 0 rfl rfl 0 (by decide) lk36 (fun _ h9 => h9) rfl dX1_lineSteps_10 ?_
                refine gz_icmp_ge (tgt := 152) (za := ((i : Nat) : Int)) (zb := ((rn : Nat) : Int)) hx hb dX1_lineSteps_13 (by decide) (nI_toInt (by omega)) (nI_toInt (by omega)) (fun c_1 => False.elim (by omega)) (fun c_1 => ?_)
                refine lv_aload_n hx hb dX1_lineSteps_16 rfl (lv_at hl 3 rfl) ?_
                refine va_get (D := (dC, dI)) (ci := 1) (v := .ref ak) (C := RX1) (T := TX1) (N := 10) hx hb hts hin1 hown hK hP 0 rfl rfl 2 (by decide) lk7 (fun _ h9 => h9) rfl dX1_lineSteps_17 ?_
                refine lv_bipush (v := nI 12) hx hb dX1_lineSteps_20 (by decide) ?_
                refine lv_iload hx hb dX1_lineSteps_22 (lv_at hl 0 rfl) ?_
                refine gz_imulc (i := 12) (j := i) hx hb dX1_lineSteps_24 ?_
                refine lv_iload_n hx hb dX1_lineSteps_25 rfl (lv_at hl 4 rfl) ?_
                refine gz_iadd (i := i * 12) (j := ln) hx hb dX1_lineSteps_26 ?_
                refine lv_iconst (v := nI 1) hx hb dX1_lineSteps_27 (by decide) ?_
                refine gz_isub (i := (i * 12) + ln) (j := 1) hx hb dX1_lineSteps_28 (by omega) ?_
                refine gz_top (j := i * 12 + (ln - 1)) (by omega) ?_
                refine gz_iald (k := i * 12 + (ln - 1)) hx hb hK hP 1 0 rfl rfl (by omega) (by omega) dX1_lineSteps_29 ?_
                refine lv_istore (lv' := [(5, .int (fk (i * 12 + (ln - 1)))), (4, .int (nI i)), (3, .int (nI T)), (2, .int (nI nn)), (0, .ref gm), (1, .int (nI ln))]) hx hb dX1_lineSteps_30 hl (by decide) rfl (fun ls hl => ?_)
                refine lv_iload hx hb dX1_lineSteps_32 (lv_at hl 0 rfl) ?_
                refine lv_bipush (v := nI 6) hx hb dX1_lineSteps_34 (by decide) ?_
                refine gz_icmp_lt (tgt := 44) (za := (fk (i * 12 + (ln - 1))).toInt) (zb := ((6 : Nat) : Int)) hx hb dX1_lineSteps_36 (by decide) rfl (nI_toInt (by omega)) (fun c_2 => ?_) (fun c_2 => False.elim (by omega))
                refine lv_iload hx hb dX1_lineSteps_44 (lv_at hl 0 rfl) ?_
                refine lv_if_ne (tgt := 53) hx hb dX1_lineSteps_46 (by decide) (fun c_3 => False.elim (c_3 hk0)) (fun c_3 => ?_)
                refine lv_iload_n hx hb dX1_lineSteps_49 rfl (lv_at hl 3 rfl) ?_
                refine lv_goto (tgt := 70) hx hb dX1_lineSteps_50 (by decide) ?_
                refine lv_istore_n (lv' := [(2, .int (nI nn)), (5, .int (fk (i * 12 + (ln - 1)))), (4, .int (nI i)), (3, .int (nI T)), (0, .ref gm), (1, .int (nI ln))]) hx hb dX1_lineSteps_70 rfl hl (by decide) rfl (fun ls hl => ?_)
                refine lv_iload hx hb dX1_lineSteps_71 (lv_at hl 1 rfl) ?_
                refine lv_if_ne (tgt := 80) hx hb dX1_lineSteps_73 (by decide) (fun c_4 => False.elim (c_4 hk0)) (fun c_4 => ?_)
                refine lv_iload_n hx hb dX1_lineSteps_76 rfl (lv_at hl 3 rfl) ?_
                refine lv_goto (tgt := 83) hx hb dX1_lineSteps_77 (by decide) ?_
                refine lv_istore_n (lv' := [(3, .int (nI T)), (2, .int (nI nn)), (5, .int (fk (i * 12 + (ln - 1)))), (4, .int (nI i)), (0, .ref gm), (1, .int (nI ln))]) hx hb dX1_lineSteps_83 rfl hl (by decide) rfl (fun ls hl => ?_)
                refine lv_iload_n hx hb dX1_lineSteps_84 rfl (lv_at hl 5 rfl) ?_
                refine lv_aload_n hx hb dX1_lineSteps_85 rfl (lv_at hl 4 rfl) ?_
                refine va_get (D := (dC, dI)) (ci := 1) (v := .int (nI cn)) (C := RX1) (T := TX1) (N := 10) hx hb hts hin1 hown hK hP 0 rfl rfl 1 (by decide) lk40 (fun _ h9 => h9) rfl dX1_lineSteps_86 ?_
                refine gz_icmp_ge (tgt := 122) (za := ((ln : Nat) : Int)) (zb := ((cn : Nat) : Int)) hx hb dX1_lineSteps_89 (by decide) (nI_toInt (by omega)) (nI_toInt (by omega)) (fun c_5 => ?_) (fun c_5 => False.elim (by omega))
                refine lv_iconst (v := nI 0) hx hb dX1_lineSteps_122 (by decide) ?_
                refine lv_istore (lv' := [(6, .int (nI 0)), (3, .int (nI T)), (2, .int (nI nn)), (5, .int (fk (i * 12 + (ln - 1)))), (4, .int (nI i)), (0, .ref gm), (1, .int (nI ln))]) hx hb dX1_lineSteps_123 hl (by decide) rfl (fun ls hl => ?_)
                refine lv_iload hx hb dX1_lineSteps_125 (lv_at hl 0 rfl) ?_
                refine lv_if_ne (tgt := 146) hx hb dX1_lineSteps_127 (by decide) (fun c_6 => False.elim (c_6 rfl)) (fun c_6 => ?_)
                refine lv_iload_n hx hb dX1_lineSteps_130 rfl (lv_at hl 1 rfl) ?_
                refine lv_if_ne (tgt := 140) hx hb dX1_lineSteps_131 (by decide) (fun c_7 => False.elim (c_7 (by rw [hT]; rfl))) (fun c_7 => ?_)
                refine lv_iload_n hx hb dX1_lineSteps_134 rfl (lv_at hl 2 rfl) ?_
                refine lv_iconst (v := nI 2) hx hb dX1_lineSteps_135 (by decide) ?_
                refine gz_iadd (i := nn) (j := 2) hx hb dX1_lineSteps_136 ?_
                refine lv_goto (tgt := 143) hx hb dX1_lineSteps_137 (by decide) ?_
                refine lv_istore_n (lv' := [(2, .int (nI (nn + 2))), (6, .int (nI 0)), (3, .int (nI T)), (5, .int (fk (i * 12 + (ln - 1)))), (4, .int (nI i)), (0, .ref gm), (1, .int (nI ln))]) hx hb dX1_lineSteps_143 rfl hl (by decide) rfl (fun ls hl => ?_)
                refine lv_iconst (v := nI 0) hx hb dX1_lineSteps_144 (by decide) ?_
                refine lv_istore_n (lv' := [(3, .int (nI 0)), (2, .int (nI (nn + 2))), (6, .int (nI 0)), (5, .int (fk (i * 12 + (ln - 1)))), (4, .int (nI i)), (0, .ref gm), (1, .int (nI ln))]) hx hb dX1_lineSteps_145 rfl hl (by decide) rfl (fun ls hl => ?_)
                refine lv_iinc (v := nI (i + 1)) (lv' := [(4, .int (nI (i + 1))), (3, .int (nI 0)), (2, .int (nI (nn + 2))), (6, .int (nI 0)), (5, .int (fk (i * 12 + (ln - 1)))), (0, .ref gm), (1, .int (nI ln))]) hx hb dX1_lineSteps_146 hl (k := 4) rfl (nI_1 _) (by decide) rfl (fun ls hl => ?_)
                refine lv_goto (tgt := 7) hx hb dX1_lineSteps_149 (by decide) ?_
                exact ih (i + 1) (S + (1 + 1)) (0) (nn + 2) (by omega) (by show _ = gLs1 _ _ (gLs fk fl ln i); rw [← hST]; unfold gLs1; rw [if_neg hco, if_pos hf, if_pos hk0, if_pos hT]) (by omega) ls (lv_sub hl [0, 1, 2, 5, 6] rfl)
            · skip
              by_cases hq1 : ln < cn
              · by_cases hq2 : i + 1 < rn
                · skip
                  refine lv_iload hx hb dX1_lineSteps_7 (lv_at hl 0 rfl) ?_
                  refine lv_aload_n hx hb dX1_lineSteps_9 rfl (lv_at hl 3 rfl) ?_
                  refine va_get (D := (dC, dI)) (ci := 1) (v := .int (nI rn)) (C := RX1) (T := TX1) (N := 10) hx hb hts hin1 hown hK hP 0 rfl rfl 0 (by decide) lk36 (fun _ h9 => h9) rfl dX1_lineSteps_10 ?_
                  refine gz_icmp_ge (tgt := 152) (za := ((i : Nat) : Int)) (zb := ((rn : Nat) : Int)) hx hb dX1_lineSteps_13 (by decide) (nI_toInt (by omega)) (nI_toInt (by omega)) (fun c_1 => False.elim (by omega)) (fun c_1 => ?_)
                  refine lv_aload_n hx hb dX1_lineSteps_16 rfl (lv_at hl 3 rfl) ?_
                  refine va_get (D := (dC, dI)) (ci := 1) (v := .ref ak) (C := RX1) (T := TX1) (N := 10) hx hb hts hin1 hown hK hP 0 rfl rfl 2 (by decide) lk7 (fun _ h9 => h9) rfl dX1_lineSteps_17 ?_
                  refine lv_bipush (v := nI 12) hx hb dX1_lineSteps_20 (by decide) ?_
                  refine lv_iload hx hb dX1_lineSteps_22 (lv_at hl 0 rfl) ?_
                  refine gz_imulc (i := 12) (j := i) hx hb dX1_lineSteps_24 ?_
                  refine lv_iload_n hx hb dX1_lineSteps_25 rfl (lv_at hl 4 rfl) ?_
                  refine gz_iadd (i := i * 12) (j := ln) hx hb dX1_lineSteps_26 ?_
                  refine lv_iconst (v := nI 1) hx hb dX1_lineSteps_27 (by decide) ?_
                  refine gz_isub (i := (i * 12) + ln) (j := 1) hx hb dX1_lineSteps_28 (by omega) ?_
                  refine gz_top (j := i * 12 + (ln - 1)) (by omega) ?_
                  refine gz_iald (k := i * 12 + (ln - 1)) hx hb hK hP 1 0 rfl rfl (by omega) (by omega) dX1_lineSteps_29 ?_
                  refine lv_istore (lv' := [(5, .int (fk (i * 12 + (ln - 1)))), (4, .int (nI i)), (3, .int (nI T)), (2, .int (nI nn)), (0, .ref gm), (1, .int (nI ln))]) hx hb dX1_lineSteps_30 hl (by decide) rfl (fun ls hl => ?_)
                  refine lv_iload hx hb dX1_lineSteps_32 (lv_at hl 0 rfl) ?_
                  refine lv_bipush (v := nI 6) hx hb dX1_lineSteps_34 (by decide) ?_
                  refine gz_icmp_lt (tgt := 44) (za := (fk (i * 12 + (ln - 1))).toInt) (zb := ((6 : Nat) : Int)) hx hb dX1_lineSteps_36 (by decide) rfl (nI_toInt (by omega)) (fun c_2 => ?_) (fun c_2 => False.elim (by omega))
                  refine lv_iload hx hb dX1_lineSteps_44 (lv_at hl 0 rfl) ?_
                  refine lv_if_ne (tgt := 53) hx hb dX1_lineSteps_46 (by decide) (fun c_3 => False.elim (c_3 hk0)) (fun c_3 => ?_)
                  refine lv_iload_n hx hb dX1_lineSteps_49 rfl (lv_at hl 3 rfl) ?_
                  refine lv_goto (tgt := 70) hx hb dX1_lineSteps_50 (by decide) ?_
                  refine lv_istore_n (lv' := [(2, .int (nI nn)), (5, .int (fk (i * 12 + (ln - 1)))), (4, .int (nI i)), (3, .int (nI T)), (0, .ref gm), (1, .int (nI ln))]) hx hb dX1_lineSteps_70 rfl hl (by decide) rfl (fun ls hl => ?_)
                  refine lv_iload hx hb dX1_lineSteps_71 (lv_at hl 1 rfl) ?_
                  refine lv_if_ne (tgt := 80) hx hb dX1_lineSteps_73 (by decide) (fun c_4 => False.elim (c_4 hk0)) (fun c_4 => ?_)
                  refine lv_iload_n hx hb dX1_lineSteps_76 rfl (lv_at hl 3 rfl) ?_
                  refine lv_goto (tgt := 83) hx hb dX1_lineSteps_77 (by decide) ?_
                  refine lv_istore_n (lv' := [(3, .int (nI T)), (2, .int (nI nn)), (5, .int (fk (i * 12 + (ln - 1)))), (4, .int (nI i)), (0, .ref gm), (1, .int (nI ln))]) hx hb dX1_lineSteps_83 rfl hl (by decide) rfl (fun ls hl => ?_)
                  refine lv_iload_n hx hb dX1_lineSteps_84 rfl (lv_at hl 5 rfl) ?_
                  refine lv_aload_n hx hb dX1_lineSteps_85 rfl (lv_at hl 4 rfl) ?_
                  refine va_get (D := (dC, dI)) (ci := 1) (v := .int (nI cn)) (C := RX1) (T := TX1) (N := 10) hx hb hts hin1 hown hK hP 0 rfl rfl 1 (by decide) lk40 (fun _ h9 => h9) rfl dX1_lineSteps_86 ?_
                  refine gz_icmp_ge (tgt := 122) (za := ((ln : Nat) : Int)) (zb := ((cn : Nat) : Int)) hx hb dX1_lineSteps_89 (by decide) (nI_toInt (by omega)) (nI_toInt (by omega)) (fun c_5 => False.elim (by omega)) (fun c_5 => ?_)
                  refine lv_iload hx hb dX1_lineSteps_92 (lv_at hl 3 rfl) ?_
                  refine lv_iconst (v := nI 1) hx hb dX1_lineSteps_94 (by decide) ?_
                  refine gz_iadd (i := i) (j := 1) hx hb dX1_lineSteps_95 ?_
                  refine lv_aload_n hx hb dX1_lineSteps_96 rfl (lv_at hl 4 rfl) ?_
                  refine va_get (D := (dC, dI)) (ci := 1) (v := .int (nI rn)) (C := RX1) (T := TX1) (N := 10) hx hb hts hin1 hown hK hP 0 rfl rfl 0 (by decide) lk36 (fun _ h9 => h9) rfl dX1_lineSteps_97 ?_
                  refine gz_icmp_ge (tgt := 122) (za := ((i + 1 : Nat) : Int)) (zb := ((rn : Nat) : Int)) hx hb dX1_lineSteps_100 (by decide) (nI_toInt (by omega)) (nI_toInt (by omega)) (fun c_6 => False.elim (by omega)) (fun c_6 => ?_)
                  refine lv_aload_n hx hb dX1_lineSteps_103 rfl (lv_at hl 4 rfl) ?_
                  refine va_get (D := (dC, dI)) (ci := 1) (v := .ref al) (C := RX1) (T := TX1) (N := 10) hx hb hts hin1 hown hK hP 0 rfl rfl 5 (by decide) lk19 (fun _ h9 => h9) rfl dX1_lineSteps_104 ?_
                  refine lv_bipush (v := nI 13) hx hb dX1_lineSteps_107 (by decide) ?_
                  refine lv_iload hx hb dX1_lineSteps_109 (lv_at hl 3 rfl) ?_
                  refine gz_imulc (i := 13) (j := i) hx hb dX1_lineSteps_111 ?_
                  refine lv_iload_n hx hb dX1_lineSteps_112 rfl (lv_at hl 5 rfl) ?_
                  refine gz_iadd (i := i * 13) (j := ln) hx hb dX1_lineSteps_113 ?_
                  refine gz_zald (k := (i * 13) + ln) hx hb hK hP 4 1 rfl rfl (by omega) (by omega) dX1_lineSteps_114 ?_
                  refine lv_if_eq (tgt := 122) hx hb dX1_lineSteps_115 (by decide) (fun c_7 => ?_) (fun c_7 => False.elim (c_7 hf))
                  refine lv_iconst (v := nI 0) hx hb dX1_lineSteps_122 (by decide) ?_
                  refine lv_istore (lv' := [(6, .int (nI 0)), (3, .int (nI T)), (2, .int (nI nn)), (5, .int (fk (i * 12 + (ln - 1)))), (4, .int (nI i)), (0, .ref gm), (1, .int (nI ln))]) hx hb dX1_lineSteps_123 hl (by decide) rfl (fun ls hl => ?_)
                  refine lv_iload hx hb dX1_lineSteps_125 (lv_at hl 0 rfl) ?_
                  refine lv_if_ne (tgt := 146) hx hb dX1_lineSteps_127 (by decide) (fun c_8 => False.elim (c_8 rfl)) (fun c_8 => ?_)
                  refine lv_iload_n hx hb dX1_lineSteps_130 rfl (lv_at hl 1 rfl) ?_
                  refine lv_if_ne (tgt := 140) hx hb dX1_lineSteps_131 (by decide) (fun c_9 => ?_) (fun c_9 => False.elim (gz_ne0 hT (by omega) c_9))
                  refine lv_iload_n hx hb dX1_lineSteps_140 rfl (lv_at hl 2 rfl) ?_
                  refine lv_iconst (v := nI 1) hx hb dX1_lineSteps_141 (by decide) ?_
                  refine gz_iadd (i := nn) (j := 1) hx hb dX1_lineSteps_142 ?_
                  refine lv_istore_n (lv' := [(2, .int (nI (nn + 1))), (6, .int (nI 0)), (3, .int (nI T)), (5, .int (fk (i * 12 + (ln - 1)))), (4, .int (nI i)), (0, .ref gm), (1, .int (nI ln))]) hx hb dX1_lineSteps_143 rfl hl (by decide) rfl (fun ls hl => ?_)
                  refine lv_iconst (v := nI 0) hx hb dX1_lineSteps_144 (by decide) ?_
                  refine lv_istore_n (lv' := [(3, .int (nI 0)), (2, .int (nI (nn + 1))), (6, .int (nI 0)), (5, .int (fk (i * 12 + (ln - 1)))), (4, .int (nI i)), (0, .ref gm), (1, .int (nI ln))]) hx hb dX1_lineSteps_145 rfl hl (by decide) rfl (fun ls hl => ?_)
                  refine lv_iinc (v := nI (i + 1)) (lv' := [(4, .int (nI (i + 1))), (3, .int (nI 0)), (2, .int (nI (nn + 1))), (6, .int (nI 0)), (5, .int (fk (i * 12 + (ln - 1)))), (0, .ref gm), (1, .int (nI ln))]) hx hb dX1_lineSteps_146 hl (k := 4) rfl (nI_1 _) (by decide) rfl (fun ls hl => ?_)
                  refine lv_goto (tgt := 7) hx hb dX1_lineSteps_149 (by decide) ?_
                  exact ih (i + 1) (S + ((T - 1) + 1)) (0) (nn + 1) (by omega) (by show _ = gLs1 _ _ (gLs fk fl ln i); rw [← hST]; unfold gLs1; rw [if_neg hco, if_pos hf, if_pos hk0, if_neg hT]) (by omega) ls (lv_sub hl [0, 1, 2, 5, 6] rfl)
                · skip
                  refine lv_iload hx hb dX1_lineSteps_7 (lv_at hl 0 rfl) ?_
                  refine lv_aload_n hx hb dX1_lineSteps_9 rfl (lv_at hl 3 rfl) ?_
                  refine va_get (D := (dC, dI)) (ci := 1) (v := .int (nI rn)) (C := RX1) (T := TX1) (N := 10) hx hb hts hin1 hown hK hP 0 rfl rfl 0 (by decide) lk36 (fun _ h9 => h9) rfl dX1_lineSteps_10 ?_
                  refine gz_icmp_ge (tgt := 152) (za := ((i : Nat) : Int)) (zb := ((rn : Nat) : Int)) hx hb dX1_lineSteps_13 (by decide) (nI_toInt (by omega)) (nI_toInt (by omega)) (fun c_1 => False.elim (by omega)) (fun c_1 => ?_)
                  refine lv_aload_n hx hb dX1_lineSteps_16 rfl (lv_at hl 3 rfl) ?_
                  refine va_get (D := (dC, dI)) (ci := 1) (v := .ref ak) (C := RX1) (T := TX1) (N := 10) hx hb hts hin1 hown hK hP 0 rfl rfl 2 (by decide) lk7 (fun _ h9 => h9) rfl dX1_lineSteps_17 ?_
                  refine lv_bipush (v := nI 12) hx hb dX1_lineSteps_20 (by decide) ?_
                  refine lv_iload hx hb dX1_lineSteps_22 (lv_at hl 0 rfl) ?_
                  refine gz_imulc (i := 12) (j := i) hx hb dX1_lineSteps_24 ?_
                  refine lv_iload_n hx hb dX1_lineSteps_25 rfl (lv_at hl 4 rfl) ?_
                  refine gz_iadd (i := i * 12) (j := ln) hx hb dX1_lineSteps_26 ?_
                  refine lv_iconst (v := nI 1) hx hb dX1_lineSteps_27 (by decide) ?_
                  refine gz_isub (i := (i * 12) + ln) (j := 1) hx hb dX1_lineSteps_28 (by omega) ?_
                  refine gz_top (j := i * 12 + (ln - 1)) (by omega) ?_
                  refine gz_iald (k := i * 12 + (ln - 1)) hx hb hK hP 1 0 rfl rfl (by omega) (by omega) dX1_lineSteps_29 ?_
                  refine lv_istore (lv' := [(5, .int (fk (i * 12 + (ln - 1)))), (4, .int (nI i)), (3, .int (nI T)), (2, .int (nI nn)), (0, .ref gm), (1, .int (nI ln))]) hx hb dX1_lineSteps_30 hl (by decide) rfl (fun ls hl => ?_)
                  refine lv_iload hx hb dX1_lineSteps_32 (lv_at hl 0 rfl) ?_
                  refine lv_bipush (v := nI 6) hx hb dX1_lineSteps_34 (by decide) ?_
                  refine gz_icmp_lt (tgt := 44) (za := (fk (i * 12 + (ln - 1))).toInt) (zb := ((6 : Nat) : Int)) hx hb dX1_lineSteps_36 (by decide) rfl (nI_toInt (by omega)) (fun c_2 => ?_) (fun c_2 => False.elim (by omega))
                  refine lv_iload hx hb dX1_lineSteps_44 (lv_at hl 0 rfl) ?_
                  refine lv_if_ne (tgt := 53) hx hb dX1_lineSteps_46 (by decide) (fun c_3 => False.elim (c_3 hk0)) (fun c_3 => ?_)
                  refine lv_iload_n hx hb dX1_lineSteps_49 rfl (lv_at hl 3 rfl) ?_
                  refine lv_goto (tgt := 70) hx hb dX1_lineSteps_50 (by decide) ?_
                  refine lv_istore_n (lv' := [(2, .int (nI nn)), (5, .int (fk (i * 12 + (ln - 1)))), (4, .int (nI i)), (3, .int (nI T)), (0, .ref gm), (1, .int (nI ln))]) hx hb dX1_lineSteps_70 rfl hl (by decide) rfl (fun ls hl => ?_)
                  refine lv_iload hx hb dX1_lineSteps_71 (lv_at hl 1 rfl) ?_
                  refine lv_if_ne (tgt := 80) hx hb dX1_lineSteps_73 (by decide) (fun c_4 => False.elim (c_4 hk0)) (fun c_4 => ?_)
                  refine lv_iload_n hx hb dX1_lineSteps_76 rfl (lv_at hl 3 rfl) ?_
                  refine lv_goto (tgt := 83) hx hb dX1_lineSteps_77 (by decide) ?_
                  refine lv_istore_n (lv' := [(3, .int (nI T)), (2, .int (nI nn)), (5, .int (fk (i * 12 + (ln - 1)))), (4, .int (nI i)), (0, .ref gm), (1, .int (nI ln))]) hx hb dX1_lineSteps_83 rfl hl (by decide) rfl (fun ls hl => ?_)
                  refine lv_iload_n hx hb dX1_lineSteps_84 rfl (lv_at hl 5 rfl) ?_
                  refine lv_aload_n hx hb dX1_lineSteps_85 rfl (lv_at hl 4 rfl) ?_
                  refine va_get (D := (dC, dI)) (ci := 1) (v := .int (nI cn)) (C := RX1) (T := TX1) (N := 10) hx hb hts hin1 hown hK hP 0 rfl rfl 1 (by decide) lk40 (fun _ h9 => h9) rfl dX1_lineSteps_86 ?_
                  refine gz_icmp_ge (tgt := 122) (za := ((ln : Nat) : Int)) (zb := ((cn : Nat) : Int)) hx hb dX1_lineSteps_89 (by decide) (nI_toInt (by omega)) (nI_toInt (by omega)) (fun c_5 => False.elim (by omega)) (fun c_5 => ?_)
                  refine lv_iload hx hb dX1_lineSteps_92 (lv_at hl 3 rfl) ?_
                  refine lv_iconst (v := nI 1) hx hb dX1_lineSteps_94 (by decide) ?_
                  refine gz_iadd (i := i) (j := 1) hx hb dX1_lineSteps_95 ?_
                  refine lv_aload_n hx hb dX1_lineSteps_96 rfl (lv_at hl 4 rfl) ?_
                  refine va_get (D := (dC, dI)) (ci := 1) (v := .int (nI rn)) (C := RX1) (T := TX1) (N := 10) hx hb hts hin1 hown hK hP 0 rfl rfl 0 (by decide) lk36 (fun _ h9 => h9) rfl dX1_lineSteps_97 ?_
                  refine gz_icmp_ge (tgt := 122) (za := ((i + 1 : Nat) : Int)) (zb := ((rn : Nat) : Int)) hx hb dX1_lineSteps_100 (by decide) (nI_toInt (by omega)) (nI_toInt (by omega)) (fun c_6 => ?_) (fun c_6 => False.elim (by omega))
                  refine lv_iconst (v := nI 0) hx hb dX1_lineSteps_122 (by decide) ?_
                  refine lv_istore (lv' := [(6, .int (nI 0)), (3, .int (nI T)), (2, .int (nI nn)), (5, .int (fk (i * 12 + (ln - 1)))), (4, .int (nI i)), (0, .ref gm), (1, .int (nI ln))]) hx hb dX1_lineSteps_123 hl (by decide) rfl (fun ls hl => ?_)
                  refine lv_iload hx hb dX1_lineSteps_125 (lv_at hl 0 rfl) ?_
                  refine lv_if_ne (tgt := 146) hx hb dX1_lineSteps_127 (by decide) (fun c_7 => False.elim (c_7 rfl)) (fun c_7 => ?_)
                  refine lv_iload_n hx hb dX1_lineSteps_130 rfl (lv_at hl 1 rfl) ?_
                  refine lv_if_ne (tgt := 140) hx hb dX1_lineSteps_131 (by decide) (fun c_8 => ?_) (fun c_8 => False.elim (gz_ne0 hT (by omega) c_8))
                  refine lv_iload_n hx hb dX1_lineSteps_140 rfl (lv_at hl 2 rfl) ?_
                  refine lv_iconst (v := nI 1) hx hb dX1_lineSteps_141 (by decide) ?_
                  refine gz_iadd (i := nn) (j := 1) hx hb dX1_lineSteps_142 ?_
                  refine lv_istore_n (lv' := [(2, .int (nI (nn + 1))), (6, .int (nI 0)), (3, .int (nI T)), (5, .int (fk (i * 12 + (ln - 1)))), (4, .int (nI i)), (0, .ref gm), (1, .int (nI ln))]) hx hb dX1_lineSteps_143 rfl hl (by decide) rfl (fun ls hl => ?_)
                  refine lv_iconst (v := nI 0) hx hb dX1_lineSteps_144 (by decide) ?_
                  refine lv_istore_n (lv' := [(3, .int (nI 0)), (2, .int (nI (nn + 1))), (6, .int (nI 0)), (5, .int (fk (i * 12 + (ln - 1)))), (4, .int (nI i)), (0, .ref gm), (1, .int (nI ln))]) hx hb dX1_lineSteps_145 rfl hl (by decide) rfl (fun ls hl => ?_)
                  refine lv_iinc (v := nI (i + 1)) (lv' := [(4, .int (nI (i + 1))), (3, .int (nI 0)), (2, .int (nI (nn + 1))), (6, .int (nI 0)), (5, .int (fk (i * 12 + (ln - 1)))), (0, .ref gm), (1, .int (nI ln))]) hx hb dX1_lineSteps_146 hl (k := 4) rfl (nI_1 _) (by decide) rfl (fun ls hl => ?_)
                  refine lv_goto (tgt := 7) hx hb dX1_lineSteps_149 (by decide) ?_
                  exact ih (i + 1) (S + ((T - 1) + 1)) (0) (nn + 1) (by omega) (by show _ = gLs1 _ _ (gLs fk fl ln i); rw [← hST]; unfold gLs1; rw [if_neg hco, if_pos hf, if_pos hk0, if_neg hT]) (by omega) ls (lv_sub hl [0, 1, 2, 5, 6] rfl)
              · skip
                refine lv_iload hx hb dX1_lineSteps_7 (lv_at hl 0 rfl) ?_
                refine lv_aload_n hx hb dX1_lineSteps_9 rfl (lv_at hl 3 rfl) ?_
                refine va_get (D := (dC, dI)) (ci := 1) (v := .int (nI rn)) (C := RX1) (T := TX1) (N := 10) hx hb hts hin1 hown hK hP 0 rfl rfl 0 (by decide) lk36 (fun _ h9 => h9) rfl dX1_lineSteps_10 ?_
                refine gz_icmp_ge (tgt := 152) (za := ((i : Nat) : Int)) (zb := ((rn : Nat) : Int)) hx hb dX1_lineSteps_13 (by decide) (nI_toInt (by omega)) (nI_toInt (by omega)) (fun c_1 => False.elim (by omega)) (fun c_1 => ?_)
                refine lv_aload_n hx hb dX1_lineSteps_16 rfl (lv_at hl 3 rfl) ?_
                refine va_get (D := (dC, dI)) (ci := 1) (v := .ref ak) (C := RX1) (T := TX1) (N := 10) hx hb hts hin1 hown hK hP 0 rfl rfl 2 (by decide) lk7 (fun _ h9 => h9) rfl dX1_lineSteps_17 ?_
                refine lv_bipush (v := nI 12) hx hb dX1_lineSteps_20 (by decide) ?_
                refine lv_iload hx hb dX1_lineSteps_22 (lv_at hl 0 rfl) ?_
                refine gz_imulc (i := 12) (j := i) hx hb dX1_lineSteps_24 ?_
                refine lv_iload_n hx hb dX1_lineSteps_25 rfl (lv_at hl 4 rfl) ?_
                refine gz_iadd (i := i * 12) (j := ln) hx hb dX1_lineSteps_26 ?_
                refine lv_iconst (v := nI 1) hx hb dX1_lineSteps_27 (by decide) ?_
                refine gz_isub (i := (i * 12) + ln) (j := 1) hx hb dX1_lineSteps_28 (by omega) ?_
                refine gz_top (j := i * 12 + (ln - 1)) (by omega) ?_
                refine gz_iald (k := i * 12 + (ln - 1)) hx hb hK hP 1 0 rfl rfl (by omega) (by omega) dX1_lineSteps_29 ?_
                refine lv_istore (lv' := [(5, .int (fk (i * 12 + (ln - 1)))), (4, .int (nI i)), (3, .int (nI T)), (2, .int (nI nn)), (0, .ref gm), (1, .int (nI ln))]) hx hb dX1_lineSteps_30 hl (by decide) rfl (fun ls hl => ?_)
                refine lv_iload hx hb dX1_lineSteps_32 (lv_at hl 0 rfl) ?_
                refine lv_bipush (v := nI 6) hx hb dX1_lineSteps_34 (by decide) ?_
                refine gz_icmp_lt (tgt := 44) (za := (fk (i * 12 + (ln - 1))).toInt) (zb := ((6 : Nat) : Int)) hx hb dX1_lineSteps_36 (by decide) rfl (nI_toInt (by omega)) (fun c_2 => ?_) (fun c_2 => False.elim (by omega))
                refine lv_iload hx hb dX1_lineSteps_44 (lv_at hl 0 rfl) ?_
                refine lv_if_ne (tgt := 53) hx hb dX1_lineSteps_46 (by decide) (fun c_3 => False.elim (c_3 hk0)) (fun c_3 => ?_)
                refine lv_iload_n hx hb dX1_lineSteps_49 rfl (lv_at hl 3 rfl) ?_
                refine lv_goto (tgt := 70) hx hb dX1_lineSteps_50 (by decide) ?_
                refine lv_istore_n (lv' := [(2, .int (nI nn)), (5, .int (fk (i * 12 + (ln - 1)))), (4, .int (nI i)), (3, .int (nI T)), (0, .ref gm), (1, .int (nI ln))]) hx hb dX1_lineSteps_70 rfl hl (by decide) rfl (fun ls hl => ?_)
                refine lv_iload hx hb dX1_lineSteps_71 (lv_at hl 1 rfl) ?_
                refine lv_if_ne (tgt := 80) hx hb dX1_lineSteps_73 (by decide) (fun c_4 => False.elim (c_4 hk0)) (fun c_4 => ?_)
                refine lv_iload_n hx hb dX1_lineSteps_76 rfl (lv_at hl 3 rfl) ?_
                refine lv_goto (tgt := 83) hx hb dX1_lineSteps_77 (by decide) ?_
                refine lv_istore_n (lv' := [(3, .int (nI T)), (2, .int (nI nn)), (5, .int (fk (i * 12 + (ln - 1)))), (4, .int (nI i)), (0, .ref gm), (1, .int (nI ln))]) hx hb dX1_lineSteps_83 rfl hl (by decide) rfl (fun ls hl => ?_)
                refine lv_iload_n hx hb dX1_lineSteps_84 rfl (lv_at hl 5 rfl) ?_
                refine lv_aload_n hx hb dX1_lineSteps_85 rfl (lv_at hl 4 rfl) ?_
                refine va_get (D := (dC, dI)) (ci := 1) (v := .int (nI cn)) (C := RX1) (T := TX1) (N := 10) hx hb hts hin1 hown hK hP 0 rfl rfl 1 (by decide) lk40 (fun _ h9 => h9) rfl dX1_lineSteps_86 ?_
                refine gz_icmp_ge (tgt := 122) (za := ((ln : Nat) : Int)) (zb := ((cn : Nat) : Int)) hx hb dX1_lineSteps_89 (by decide) (nI_toInt (by omega)) (nI_toInt (by omega)) (fun c_5 => ?_) (fun c_5 => False.elim (by omega))
                refine lv_iconst (v := nI 0) hx hb dX1_lineSteps_122 (by decide) ?_
                refine lv_istore (lv' := [(6, .int (nI 0)), (3, .int (nI T)), (2, .int (nI nn)), (5, .int (fk (i * 12 + (ln - 1)))), (4, .int (nI i)), (0, .ref gm), (1, .int (nI ln))]) hx hb dX1_lineSteps_123 hl (by decide) rfl (fun ls hl => ?_)
                refine lv_iload hx hb dX1_lineSteps_125 (lv_at hl 0 rfl) ?_
                refine lv_if_ne (tgt := 146) hx hb dX1_lineSteps_127 (by decide) (fun c_6 => False.elim (c_6 rfl)) (fun c_6 => ?_)
                refine lv_iload_n hx hb dX1_lineSteps_130 rfl (lv_at hl 1 rfl) ?_
                refine lv_if_ne (tgt := 140) hx hb dX1_lineSteps_131 (by decide) (fun c_7 => ?_) (fun c_7 => False.elim (gz_ne0 hT (by omega) c_7))
                refine lv_iload_n hx hb dX1_lineSteps_140 rfl (lv_at hl 2 rfl) ?_
                refine lv_iconst (v := nI 1) hx hb dX1_lineSteps_141 (by decide) ?_
                refine gz_iadd (i := nn) (j := 1) hx hb dX1_lineSteps_142 ?_
                refine lv_istore_n (lv' := [(2, .int (nI (nn + 1))), (6, .int (nI 0)), (3, .int (nI T)), (5, .int (fk (i * 12 + (ln - 1)))), (4, .int (nI i)), (0, .ref gm), (1, .int (nI ln))]) hx hb dX1_lineSteps_143 rfl hl (by decide) rfl (fun ls hl => ?_)
                refine lv_iconst (v := nI 0) hx hb dX1_lineSteps_144 (by decide) ?_
                refine lv_istore_n (lv' := [(3, .int (nI 0)), (2, .int (nI (nn + 1))), (6, .int (nI 0)), (5, .int (fk (i * 12 + (ln - 1)))), (4, .int (nI i)), (0, .ref gm), (1, .int (nI ln))]) hx hb dX1_lineSteps_145 rfl hl (by decide) rfl (fun ls hl => ?_)
                refine lv_iinc (v := nI (i + 1)) (lv' := [(4, .int (nI (i + 1))), (3, .int (nI 0)), (2, .int (nI (nn + 1))), (6, .int (nI 0)), (5, .int (fk (i * 12 + (ln - 1)))), (0, .ref gm), (1, .int (nI ln))]) hx hb dX1_lineSteps_146 hl (k := 4) rfl (nI_1 _) (by decide) rfl (fun ls hl => ?_)
                refine lv_goto (tgt := 7) hx hb dX1_lineSteps_149 (by decide) ?_
                exact ih (i + 1) (S + ((T - 1) + 1)) (0) (nn + 1) (by omega) (by show _ = gLs1 _ _ (gLs fk fl ln i); rw [← hST]; unfold gLs1; rw [if_neg hco, if_pos hf, if_pos hk0, if_neg hT]) (by omega) ls (lv_sub hl [0, 1, 2, 5, 6] rfl)
          · have hb3 := hlk i ln (by omega) (by omega) hf
            by_cases hT : T = 0
            · skip
              refine lv_iload hx hb dX1_lineSteps_7 (lv_at hl 0 rfl) ?_
              refine lv_aload_n hx hb dX1_lineSteps_9 rfl (lv_at hl 3 rfl) ?_
              refine va_get (D := (dC, dI)) (ci := 1) (v := .int (nI rn)) (C := RX1) (T := TX1) (N := 10) hx hb hts hin1 hown hK hP 0 rfl rfl 0 (by decide) lk36 (fun _ h9 => h9) rfl dX1_lineSteps_10 ?_
              refine gz_icmp_ge (tgt := 152) (za := ((i : Nat) : Int)) (zb := ((rn : Nat) : Int)) hx hb dX1_lineSteps_13 (by decide) (nI_toInt (by omega)) (nI_toInt (by omega)) (fun c_1 => False.elim (by omega)) (fun c_1 => ?_)
              refine lv_aload_n hx hb dX1_lineSteps_16 rfl (lv_at hl 3 rfl) ?_
              refine va_get (D := (dC, dI)) (ci := 1) (v := .ref ak) (C := RX1) (T := TX1) (N := 10) hx hb hts hin1 hown hK hP 0 rfl rfl 2 (by decide) lk7 (fun _ h9 => h9) rfl dX1_lineSteps_17 ?_
              refine lv_bipush (v := nI 12) hx hb dX1_lineSteps_20 (by decide) ?_
              refine lv_iload hx hb dX1_lineSteps_22 (lv_at hl 0 rfl) ?_
              refine gz_imulc (i := 12) (j := i) hx hb dX1_lineSteps_24 ?_
              refine lv_iload_n hx hb dX1_lineSteps_25 rfl (lv_at hl 4 rfl) ?_
              refine gz_iadd (i := i * 12) (j := ln) hx hb dX1_lineSteps_26 ?_
              refine lv_iconst (v := nI 1) hx hb dX1_lineSteps_27 (by decide) ?_
              refine gz_isub (i := (i * 12) + ln) (j := 1) hx hb dX1_lineSteps_28 (by omega) ?_
              refine gz_top (j := i * 12 + (ln - 1)) (by omega) ?_
              refine gz_iald (k := i * 12 + (ln - 1)) hx hb hK hP 1 0 rfl rfl (by omega) (by omega) dX1_lineSteps_29 ?_
              refine lv_istore (lv' := [(5, .int (fk (i * 12 + (ln - 1)))), (4, .int (nI i)), (3, .int (nI T)), (2, .int (nI nn)), (0, .ref gm), (1, .int (nI ln))]) hx hb dX1_lineSteps_30 hl (by decide) rfl (fun ls hl => ?_)
              refine lv_iload hx hb dX1_lineSteps_32 (lv_at hl 0 rfl) ?_
              refine lv_bipush (v := nI 6) hx hb dX1_lineSteps_34 (by decide) ?_
              refine gz_icmp_lt (tgt := 44) (za := (fk (i * 12 + (ln - 1))).toInt) (zb := ((6 : Nat) : Int)) hx hb dX1_lineSteps_36 (by decide) rfl (nI_toInt (by omega)) (fun c_2 => ?_) (fun c_2 => False.elim (by omega))
              refine lv_iload hx hb dX1_lineSteps_44 (lv_at hl 0 rfl) ?_
              refine lv_if_ne (tgt := 53) hx hb dX1_lineSteps_46 (by decide) (fun c_3 => False.elim (c_3 hk0)) (fun c_3 => ?_)
              refine lv_iload_n hx hb dX1_lineSteps_49 rfl (lv_at hl 3 rfl) ?_
              refine lv_goto (tgt := 70) hx hb dX1_lineSteps_50 (by decide) ?_
              refine lv_istore_n (lv' := [(2, .int (nI nn)), (5, .int (fk (i * 12 + (ln - 1)))), (4, .int (nI i)), (3, .int (nI T)), (0, .ref gm), (1, .int (nI ln))]) hx hb dX1_lineSteps_70 rfl hl (by decide) rfl (fun ls hl => ?_)
              refine lv_iload hx hb dX1_lineSteps_71 (lv_at hl 1 rfl) ?_
              refine lv_if_ne (tgt := 80) hx hb dX1_lineSteps_73 (by decide) (fun c_4 => False.elim (c_4 hk0)) (fun c_4 => ?_)
              refine lv_iload_n hx hb dX1_lineSteps_76 rfl (lv_at hl 3 rfl) ?_
              refine lv_goto (tgt := 83) hx hb dX1_lineSteps_77 (by decide) ?_
              refine lv_istore_n (lv' := [(3, .int (nI T)), (2, .int (nI nn)), (5, .int (fk (i * 12 + (ln - 1)))), (4, .int (nI i)), (0, .ref gm), (1, .int (nI ln))]) hx hb dX1_lineSteps_83 rfl hl (by decide) rfl (fun ls hl => ?_)
              refine lv_iload_n hx hb dX1_lineSteps_84 rfl (lv_at hl 5 rfl) ?_
              refine lv_aload_n hx hb dX1_lineSteps_85 rfl (lv_at hl 4 rfl) ?_
              refine va_get (D := (dC, dI)) (ci := 1) (v := .int (nI cn)) (C := RX1) (T := TX1) (N := 10) hx hb hts hin1 hown hK hP 0 rfl rfl 1 (by decide) lk40 (fun _ h9 => h9) rfl dX1_lineSteps_86 ?_
              refine gz_icmp_ge (tgt := 122) (za := ((ln : Nat) : Int)) (zb := ((cn : Nat) : Int)) hx hb dX1_lineSteps_89 (by decide) (nI_toInt (by omega)) (nI_toInt (by omega)) (fun c_5 => False.elim (by omega)) (fun c_5 => ?_)
              refine lv_iload hx hb dX1_lineSteps_92 (lv_at hl 3 rfl) ?_
              refine lv_iconst (v := nI 1) hx hb dX1_lineSteps_94 (by decide) ?_
              refine gz_iadd (i := i) (j := 1) hx hb dX1_lineSteps_95 ?_
              refine lv_aload_n hx hb dX1_lineSteps_96 rfl (lv_at hl 4 rfl) ?_
              refine va_get (D := (dC, dI)) (ci := 1) (v := .int (nI rn)) (C := RX1) (T := TX1) (N := 10) hx hb hts hin1 hown hK hP 0 rfl rfl 0 (by decide) lk36 (fun _ h9 => h9) rfl dX1_lineSteps_97 ?_
              refine gz_icmp_ge (tgt := 122) (za := ((i + 1 : Nat) : Int)) (zb := ((rn : Nat) : Int)) hx hb dX1_lineSteps_100 (by decide) (nI_toInt (by omega)) (nI_toInt (by omega)) (fun c_6 => False.elim (by omega)) (fun c_6 => ?_)
              refine lv_aload_n hx hb dX1_lineSteps_103 rfl (lv_at hl 4 rfl) ?_
              refine va_get (D := (dC, dI)) (ci := 1) (v := .ref al) (C := RX1) (T := TX1) (N := 10) hx hb hts hin1 hown hK hP 0 rfl rfl 5 (by decide) lk19 (fun _ h9 => h9) rfl dX1_lineSteps_104 ?_
              refine lv_bipush (v := nI 13) hx hb dX1_lineSteps_107 (by decide) ?_
              refine lv_iload hx hb dX1_lineSteps_109 (lv_at hl 3 rfl) ?_
              refine gz_imulc (i := 13) (j := i) hx hb dX1_lineSteps_111 ?_
              refine lv_iload_n hx hb dX1_lineSteps_112 rfl (lv_at hl 5 rfl) ?_
              refine gz_iadd (i := i * 13) (j := ln) hx hb dX1_lineSteps_113 ?_
              refine gz_zald (k := (i * 13) + ln) hx hb hK hP 4 1 rfl rfl (by omega) (by omega) dX1_lineSteps_114 ?_
              refine lv_if_eq (tgt := 122) hx hb dX1_lineSteps_115 (by decide) (fun c_7 => False.elim (absurd (hf.symm.trans c_7) (by decide))) (fun c_7 => ?_)
              refine lv_iconst (v := nI 1) hx hb dX1_lineSteps_118 (by decide) ?_
              refine lv_goto (tgt := 123) hx hb dX1_lineSteps_119 (by decide) ?_
              refine lv_istore (lv' := [(6, .int (nI 1)), (3, .int (nI T)), (2, .int (nI nn)), (5, .int (fk (i * 12 + (ln - 1)))), (4, .int (nI i)), (0, .ref gm), (1, .int (nI ln))]) hx hb dX1_lineSteps_123 hl (by decide) rfl (fun ls hl => ?_)
              refine lv_iload hx hb dX1_lineSteps_125 (lv_at hl 0 rfl) ?_
              refine lv_if_ne (tgt := 146) hx hb dX1_lineSteps_127 (by decide) (fun c_8 => ?_) (fun c_8 => False.elim (absurd c_8 (by decide)))
              refine lv_iinc (v := nI (i + 1)) (lv' := [(4, .int (nI (i + 1))), (6, .int (nI 1)), (3, .int (nI T)), (2, .int (nI nn)), (5, .int (fk (i * 12 + (ln - 1)))), (0, .ref gm), (1, .int (nI ln))]) hx hb dX1_lineSteps_146 hl (k := 4) rfl (nI_1 _) (by decide) rfl (fun ls hl => ?_)
              refine lv_goto (tgt := 7) hx hb dX1_lineSteps_149 (by decide) ?_
              exact ih (i + 1) (S) (T) (nn) (by omega) (by show _ = gLs1 _ _ (gLs fk fl ln i); rw [← hST]; unfold gLs1; rw [if_neg hco, if_neg (by rw [hf]; decide), if_pos hk0]) (by omega) ls (lv_sub hl [0, 2, 3, 5, 6] rfl)
            · skip
              refine lv_iload hx hb dX1_lineSteps_7 (lv_at hl 0 rfl) ?_
              refine lv_aload_n hx hb dX1_lineSteps_9 rfl (lv_at hl 3 rfl) ?_
              refine va_get (D := (dC, dI)) (ci := 1) (v := .int (nI rn)) (C := RX1) (T := TX1) (N := 10) hx hb hts hin1 hown hK hP 0 rfl rfl 0 (by decide) lk36 (fun _ h9 => h9) rfl dX1_lineSteps_10 ?_
              refine gz_icmp_ge (tgt := 152) (za := ((i : Nat) : Int)) (zb := ((rn : Nat) : Int)) hx hb dX1_lineSteps_13 (by decide) (nI_toInt (by omega)) (nI_toInt (by omega)) (fun c_1 => False.elim (by omega)) (fun c_1 => ?_)
              refine lv_aload_n hx hb dX1_lineSteps_16 rfl (lv_at hl 3 rfl) ?_
              refine va_get (D := (dC, dI)) (ci := 1) (v := .ref ak) (C := RX1) (T := TX1) (N := 10) hx hb hts hin1 hown hK hP 0 rfl rfl 2 (by decide) lk7 (fun _ h9 => h9) rfl dX1_lineSteps_17 ?_
              refine lv_bipush (v := nI 12) hx hb dX1_lineSteps_20 (by decide) ?_
              refine lv_iload hx hb dX1_lineSteps_22 (lv_at hl 0 rfl) ?_
              refine gz_imulc (i := 12) (j := i) hx hb dX1_lineSteps_24 ?_
              refine lv_iload_n hx hb dX1_lineSteps_25 rfl (lv_at hl 4 rfl) ?_
              refine gz_iadd (i := i * 12) (j := ln) hx hb dX1_lineSteps_26 ?_
              refine lv_iconst (v := nI 1) hx hb dX1_lineSteps_27 (by decide) ?_
              refine gz_isub (i := (i * 12) + ln) (j := 1) hx hb dX1_lineSteps_28 (by omega) ?_
              refine gz_top (j := i * 12 + (ln - 1)) (by omega) ?_
              refine gz_iald (k := i * 12 + (ln - 1)) hx hb hK hP 1 0 rfl rfl (by omega) (by omega) dX1_lineSteps_29 ?_
              refine lv_istore (lv' := [(5, .int (fk (i * 12 + (ln - 1)))), (4, .int (nI i)), (3, .int (nI T)), (2, .int (nI nn)), (0, .ref gm), (1, .int (nI ln))]) hx hb dX1_lineSteps_30 hl (by decide) rfl (fun ls hl => ?_)
              refine lv_iload hx hb dX1_lineSteps_32 (lv_at hl 0 rfl) ?_
              refine lv_bipush (v := nI 6) hx hb dX1_lineSteps_34 (by decide) ?_
              refine gz_icmp_lt (tgt := 44) (za := (fk (i * 12 + (ln - 1))).toInt) (zb := ((6 : Nat) : Int)) hx hb dX1_lineSteps_36 (by decide) rfl (nI_toInt (by omega)) (fun c_2 => ?_) (fun c_2 => False.elim (by omega))
              refine lv_iload hx hb dX1_lineSteps_44 (lv_at hl 0 rfl) ?_
              refine lv_if_ne (tgt := 53) hx hb dX1_lineSteps_46 (by decide) (fun c_3 => False.elim (c_3 hk0)) (fun c_3 => ?_)
              refine lv_iload_n hx hb dX1_lineSteps_49 rfl (lv_at hl 3 rfl) ?_
              refine lv_goto (tgt := 70) hx hb dX1_lineSteps_50 (by decide) ?_
              refine lv_istore_n (lv' := [(2, .int (nI nn)), (5, .int (fk (i * 12 + (ln - 1)))), (4, .int (nI i)), (3, .int (nI T)), (0, .ref gm), (1, .int (nI ln))]) hx hb dX1_lineSteps_70 rfl hl (by decide) rfl (fun ls hl => ?_)
              refine lv_iload hx hb dX1_lineSteps_71 (lv_at hl 1 rfl) ?_
              refine lv_if_ne (tgt := 80) hx hb dX1_lineSteps_73 (by decide) (fun c_4 => False.elim (c_4 hk0)) (fun c_4 => ?_)
              refine lv_iload_n hx hb dX1_lineSteps_76 rfl (lv_at hl 3 rfl) ?_
              refine lv_goto (tgt := 83) hx hb dX1_lineSteps_77 (by decide) ?_
              refine lv_istore_n (lv' := [(3, .int (nI T)), (2, .int (nI nn)), (5, .int (fk (i * 12 + (ln - 1)))), (4, .int (nI i)), (0, .ref gm), (1, .int (nI ln))]) hx hb dX1_lineSteps_83 rfl hl (by decide) rfl (fun ls hl => ?_)
              refine lv_iload_n hx hb dX1_lineSteps_84 rfl (lv_at hl 5 rfl) ?_
              refine lv_aload_n hx hb dX1_lineSteps_85 rfl (lv_at hl 4 rfl) ?_
              refine va_get (D := (dC, dI)) (ci := 1) (v := .int (nI cn)) (C := RX1) (T := TX1) (N := 10) hx hb hts hin1 hown hK hP 0 rfl rfl 1 (by decide) lk40 (fun _ h9 => h9) rfl dX1_lineSteps_86 ?_
              refine gz_icmp_ge (tgt := 122) (za := ((ln : Nat) : Int)) (zb := ((cn : Nat) : Int)) hx hb dX1_lineSteps_89 (by decide) (nI_toInt (by omega)) (nI_toInt (by omega)) (fun c_5 => False.elim (by omega)) (fun c_5 => ?_)
              refine lv_iload hx hb dX1_lineSteps_92 (lv_at hl 3 rfl) ?_
              refine lv_iconst (v := nI 1) hx hb dX1_lineSteps_94 (by decide) ?_
              refine gz_iadd (i := i) (j := 1) hx hb dX1_lineSteps_95 ?_
              refine lv_aload_n hx hb dX1_lineSteps_96 rfl (lv_at hl 4 rfl) ?_
              refine va_get (D := (dC, dI)) (ci := 1) (v := .int (nI rn)) (C := RX1) (T := TX1) (N := 10) hx hb hts hin1 hown hK hP 0 rfl rfl 0 (by decide) lk36 (fun _ h9 => h9) rfl dX1_lineSteps_97 ?_
              refine gz_icmp_ge (tgt := 122) (za := ((i + 1 : Nat) : Int)) (zb := ((rn : Nat) : Int)) hx hb dX1_lineSteps_100 (by decide) (nI_toInt (by omega)) (nI_toInt (by omega)) (fun c_6 => False.elim (by omega)) (fun c_6 => ?_)
              refine lv_aload_n hx hb dX1_lineSteps_103 rfl (lv_at hl 4 rfl) ?_
              refine va_get (D := (dC, dI)) (ci := 1) (v := .ref al) (C := RX1) (T := TX1) (N := 10) hx hb hts hin1 hown hK hP 0 rfl rfl 5 (by decide) lk19 (fun _ h9 => h9) rfl dX1_lineSteps_104 ?_
              refine lv_bipush (v := nI 13) hx hb dX1_lineSteps_107 (by decide) ?_
              refine lv_iload hx hb dX1_lineSteps_109 (lv_at hl 3 rfl) ?_
              refine gz_imulc (i := 13) (j := i) hx hb dX1_lineSteps_111 ?_
              refine lv_iload_n hx hb dX1_lineSteps_112 rfl (lv_at hl 5 rfl) ?_
              refine gz_iadd (i := i * 13) (j := ln) hx hb dX1_lineSteps_113 ?_
              refine gz_zald (k := (i * 13) + ln) hx hb hK hP 4 1 rfl rfl (by omega) (by omega) dX1_lineSteps_114 ?_
              refine lv_if_eq (tgt := 122) hx hb dX1_lineSteps_115 (by decide) (fun c_7 => False.elim (absurd (hf.symm.trans c_7) (by decide))) (fun c_7 => ?_)
              refine lv_iconst (v := nI 1) hx hb dX1_lineSteps_118 (by decide) ?_
              refine lv_goto (tgt := 123) hx hb dX1_lineSteps_119 (by decide) ?_
              refine lv_istore (lv' := [(6, .int (nI 1)), (3, .int (nI T)), (2, .int (nI nn)), (5, .int (fk (i * 12 + (ln - 1)))), (4, .int (nI i)), (0, .ref gm), (1, .int (nI ln))]) hx hb dX1_lineSteps_123 hl (by decide) rfl (fun ls hl => ?_)
              refine lv_iload hx hb dX1_lineSteps_125 (lv_at hl 0 rfl) ?_
              refine lv_if_ne (tgt := 146) hx hb dX1_lineSteps_127 (by decide) (fun c_8 => ?_) (fun c_8 => False.elim (absurd c_8 (by decide)))
              refine lv_iinc (v := nI (i + 1)) (lv' := [(4, .int (nI (i + 1))), (6, .int (nI 1)), (3, .int (nI T)), (2, .int (nI nn)), (5, .int (fk (i * 12 + (ln - 1)))), (0, .ref gm), (1, .int (nI ln))]) hx hb dX1_lineSteps_146 hl (k := 4) rfl (nI_1 _) (by decide) rfl (fun ls hl => ?_)
              refine lv_goto (tgt := 7) hx hb dX1_lineSteps_149 (by decide) ?_
              exact ih (i + 1) (S) (T) (nn) (by omega) (by show _ = gLs1 _ _ (gLs fk fl ln i); rw [← hST]; unfold gLs1; rw [if_neg hco, if_neg (by rw [hf]; decide), if_pos hk0]) (by omega) ls (lv_sub hl [0, 2, 3, 5, 6] rfl)
        · have hkp : 1 ≤ kk := by
            rcases Nat.eq_zero_or_pos kk with h0 | h0
            · exact absurd (ek.trans (by rw [h0])) hk0
            · exact h0
          rcases hfl (i * 13 + ln) (by omega) with hf | hf
          · by_cases hT : T = 0
            · skip
              by_cases hq1 : ln < cn
              · by_cases hq2 : i + 1 < rn
                · skip
                  refine lv_iload hx hb dX1_lineSteps_7 (lv_at hl 0 rfl) ?_
                  refine lv_aload_n hx hb dX1_lineSteps_9 rfl (lv_at hl 3 rfl) ?_
                  refine va_get (D := (dC, dI)) (ci := 1) (v := .int (nI rn)) (C := RX1) (T := TX1) (N := 10) hx hb hts hin1 hown hK hP 0 rfl rfl 0 (by decide) lk36 (fun _ h9 => h9) rfl dX1_lineSteps_10 ?_
                  refine gz_icmp_ge (tgt := 152) (za := ((i : Nat) : Int)) (zb := ((rn : Nat) : Int)) hx hb dX1_lineSteps_13 (by decide) (nI_toInt (by omega)) (nI_toInt (by omega)) (fun c_1 => False.elim (by omega)) (fun c_1 => ?_)
                  refine lv_aload_n hx hb dX1_lineSteps_16 rfl (lv_at hl 3 rfl) ?_
                  refine va_get (D := (dC, dI)) (ci := 1) (v := .ref ak) (C := RX1) (T := TX1) (N := 10) hx hb hts hin1 hown hK hP 0 rfl rfl 2 (by decide) lk7 (fun _ h9 => h9) rfl dX1_lineSteps_17 ?_
                  refine lv_bipush (v := nI 12) hx hb dX1_lineSteps_20 (by decide) ?_
                  refine lv_iload hx hb dX1_lineSteps_22 (lv_at hl 0 rfl) ?_
                  refine gz_imulc (i := 12) (j := i) hx hb dX1_lineSteps_24 ?_
                  refine lv_iload_n hx hb dX1_lineSteps_25 rfl (lv_at hl 4 rfl) ?_
                  refine gz_iadd (i := i * 12) (j := ln) hx hb dX1_lineSteps_26 ?_
                  refine lv_iconst (v := nI 1) hx hb dX1_lineSteps_27 (by decide) ?_
                  refine gz_isub (i := (i * 12) + ln) (j := 1) hx hb dX1_lineSteps_28 (by omega) ?_
                  refine gz_top (j := i * 12 + (ln - 1)) (by omega) ?_
                  refine gz_iald (k := i * 12 + (ln - 1)) hx hb hK hP 1 0 rfl rfl (by omega) (by omega) dX1_lineSteps_29 ?_
                  refine lv_istore (lv' := [(5, .int (fk (i * 12 + (ln - 1)))), (4, .int (nI i)), (3, .int (nI T)), (2, .int (nI nn)), (0, .ref gm), (1, .int (nI ln))]) hx hb dX1_lineSteps_30 hl (by decide) rfl (fun ls hl => ?_)
                  refine lv_iload hx hb dX1_lineSteps_32 (lv_at hl 0 rfl) ?_
                  refine lv_bipush (v := nI 6) hx hb dX1_lineSteps_34 (by decide) ?_
                  refine gz_icmp_lt (tgt := 44) (za := (fk (i * 12 + (ln - 1))).toInt) (zb := ((6 : Nat) : Int)) hx hb dX1_lineSteps_36 (by decide) rfl (nI_toInt (by omega)) (fun c_2 => ?_) (fun c_2 => False.elim (by omega))
                  refine lv_iload hx hb dX1_lineSteps_44 (lv_at hl 0 rfl) ?_
                  refine lv_if_ne (tgt := 53) hx hb dX1_lineSteps_46 (by decide) (fun c_3 => ?_) (fun c_3 => False.elim (hk0 c_3))
                  refine lv_iload_n hx hb dX1_lineSteps_53 rfl (lv_at hl 3 rfl) ?_
                  refine lv_iload hx hb dX1_lineSteps_54 (lv_at hl 0 rfl) ?_
                  refine gz_topI (y := nI kk) ek ?_
                  refine gz_callR (W.runS (As := [.int (nI kk)]) (rest := [.int (nI nn)]) ⟨hx, hb, hml, hown, hts⟩ (cM_term l kk (by omega)) (va_cwS 1 hts gX1_lineSteps_X1_term rfl rfl rfl (by decide +kernel) ⟨Nat.le_of_ble_eq_true rfl, Nat.le_of_ble_eq_true rfl⟩) preEq rfl rfl hl.1 rfl (lv_room (Nat.le_of_ble_eq_true rfl)) dX1_lineSteps_56 ⟨Nat.le_of_ble_eq_true rfl, Nat.le_of_ble_eq_true rfl⟩) ?_
                  refine gz_iadd (i := nn) (j := 1 + ksN kk) hx hb dX1_lineSteps_59 ?_
                  refine lv_iload_n hx hb dX1_lineSteps_60 rfl (lv_at hl 2 rfl) ?_
                  refine gz_if_le (tgt := 68) (za := ((T : Nat) : Int)) hx hb dX1_lineSteps_61 (by decide) (nI_toInt (by omega)) (fun c_4 => ?_) (fun c_4 => False.elim (by omega))
                  refine lv_iconst (v := nI 0) hx hb dX1_lineSteps_68 (by decide) ?_
                  refine gz_iadd (i := nn + (1 + ksN kk)) (j := 0) hx hb dX1_lineSteps_69 ?_
                  refine lv_istore_n (lv' := [(2, .int (nI ((nn + (1 + ksN kk)) + 0))), (5, .int (fk (i * 12 + (ln - 1)))), (4, .int (nI i)), (3, .int (nI T)), (0, .ref gm), (1, .int (nI ln))]) hx hb dX1_lineSteps_70 rfl hl (by decide) rfl (fun ls hl => ?_)
                  refine lv_iload hx hb dX1_lineSteps_71 (lv_at hl 1 rfl) ?_
                  refine lv_if_ne (tgt := 80) hx hb dX1_lineSteps_73 (by decide) (fun c_5 => ?_) (fun c_5 => False.elim (hk0 c_5))
                  refine lv_iload_n hx hb dX1_lineSteps_80 rfl (lv_at hl 3 rfl) ?_
                  refine lv_iconst (v := nI 1) hx hb dX1_lineSteps_81 (by decide) ?_
                  refine gz_iadd (i := T) (j := 1) hx hb dX1_lineSteps_82 ?_
                  refine lv_istore_n (lv' := [(3, .int (nI (T + 1))), (2, .int (nI ((nn + (1 + ksN kk)) + 0))), (5, .int (fk (i * 12 + (ln - 1)))), (4, .int (nI i)), (0, .ref gm), (1, .int (nI ln))]) hx hb dX1_lineSteps_83 rfl hl (by decide) rfl (fun ls hl => ?_)
                  refine lv_iload_n hx hb dX1_lineSteps_84 rfl (lv_at hl 5 rfl) ?_
                  refine lv_aload_n hx hb dX1_lineSteps_85 rfl (lv_at hl 4 rfl) ?_
                  refine va_get (D := (dC, dI)) (ci := 1) (v := .int (nI cn)) (C := RX1) (T := TX1) (N := 10) hx hb hts hin1 hown hK hP 0 rfl rfl 1 (by decide) lk40 (fun _ h9 => h9) rfl dX1_lineSteps_86 ?_
                  refine gz_icmp_ge (tgt := 122) (za := ((ln : Nat) : Int)) (zb := ((cn : Nat) : Int)) hx hb dX1_lineSteps_89 (by decide) (nI_toInt (by omega)) (nI_toInt (by omega)) (fun c_6 => False.elim (by omega)) (fun c_6 => ?_)
                  refine lv_iload hx hb dX1_lineSteps_92 (lv_at hl 3 rfl) ?_
                  refine lv_iconst (v := nI 1) hx hb dX1_lineSteps_94 (by decide) ?_
                  refine gz_iadd (i := i) (j := 1) hx hb dX1_lineSteps_95 ?_
                  refine lv_aload_n hx hb dX1_lineSteps_96 rfl (lv_at hl 4 rfl) ?_
                  refine va_get (D := (dC, dI)) (ci := 1) (v := .int (nI rn)) (C := RX1) (T := TX1) (N := 10) hx hb hts hin1 hown hK hP 0 rfl rfl 0 (by decide) lk36 (fun _ h9 => h9) rfl dX1_lineSteps_97 ?_
                  refine gz_icmp_ge (tgt := 122) (za := ((i + 1 : Nat) : Int)) (zb := ((rn : Nat) : Int)) hx hb dX1_lineSteps_100 (by decide) (nI_toInt (by omega)) (nI_toInt (by omega)) (fun c_7 => False.elim (by omega)) (fun c_7 => ?_)
                  refine lv_aload_n hx hb dX1_lineSteps_103 rfl (lv_at hl 4 rfl) ?_
                  refine va_get (D := (dC, dI)) (ci := 1) (v := .ref al) (C := RX1) (T := TX1) (N := 10) hx hb hts hin1 hown hK hP 0 rfl rfl 5 (by decide) lk19 (fun _ h9 => h9) rfl dX1_lineSteps_104 ?_
                  refine lv_bipush (v := nI 13) hx hb dX1_lineSteps_107 (by decide) ?_
                  refine lv_iload hx hb dX1_lineSteps_109 (lv_at hl 3 rfl) ?_
                  refine gz_imulc (i := 13) (j := i) hx hb dX1_lineSteps_111 ?_
                  refine lv_iload_n hx hb dX1_lineSteps_112 rfl (lv_at hl 5 rfl) ?_
                  refine gz_iadd (i := i * 13) (j := ln) hx hb dX1_lineSteps_113 ?_
                  refine gz_zald (k := (i * 13) + ln) hx hb hK hP 4 1 rfl rfl (by omega) (by omega) dX1_lineSteps_114 ?_
                  refine lv_if_eq (tgt := 122) hx hb dX1_lineSteps_115 (by decide) (fun c_8 => ?_) (fun c_8 => False.elim (c_8 hf))
                  refine lv_iconst (v := nI 0) hx hb dX1_lineSteps_122 (by decide) ?_
                  refine lv_istore (lv' := [(6, .int (nI 0)), (3, .int (nI (T + 1))), (2, .int (nI ((nn + (1 + ksN kk)) + 0))), (5, .int (fk (i * 12 + (ln - 1)))), (4, .int (nI i)), (0, .ref gm), (1, .int (nI ln))]) hx hb dX1_lineSteps_123 hl (by decide) rfl (fun ls hl => ?_)
                  refine lv_iload hx hb dX1_lineSteps_125 (lv_at hl 0 rfl) ?_
                  refine lv_if_ne (tgt := 146) hx hb dX1_lineSteps_127 (by decide) (fun c_9 => False.elim (c_9 rfl)) (fun c_9 => ?_)
                  refine lv_iload_n hx hb dX1_lineSteps_130 rfl (lv_at hl 1 rfl) ?_
                  refine lv_if_ne (tgt := 140) hx hb dX1_lineSteps_131 (by decide) (fun c_10 => ?_) (fun c_10 => False.elim (gz_ne0 (by omega) (by omega) c_10))
                  refine lv_iload_n hx hb dX1_lineSteps_140 rfl (lv_at hl 2 rfl) ?_
                  refine lv_iconst (v := nI 1) hx hb dX1_lineSteps_141 (by decide) ?_
                  refine gz_iadd (i := (nn + (1 + ksN kk)) + 0) (j := 1) hx hb dX1_lineSteps_142 ?_
                  refine lv_istore_n (lv' := [(2, .int (nI (((nn + (1 + ksN kk)) + 0) + 1))), (6, .int (nI 0)), (3, .int (nI (T + 1))), (5, .int (fk (i * 12 + (ln - 1)))), (4, .int (nI i)), (0, .ref gm), (1, .int (nI ln))]) hx hb dX1_lineSteps_143 rfl hl (by decide) rfl (fun ls hl => ?_)
                  refine lv_iconst (v := nI 0) hx hb dX1_lineSteps_144 (by decide) ?_
                  refine lv_istore_n (lv' := [(3, .int (nI 0)), (2, .int (nI (((nn + (1 + ksN kk)) + 0) + 1))), (6, .int (nI 0)), (5, .int (fk (i * 12 + (ln - 1)))), (4, .int (nI i)), (0, .ref gm), (1, .int (nI ln))]) hx hb dX1_lineSteps_145 rfl hl (by decide) rfl (fun ls hl => ?_)
                  refine lv_iinc (v := nI (i + 1)) (lv' := [(4, .int (nI (i + 1))), (3, .int (nI 0)), (2, .int (nI (((nn + (1 + ksN kk)) + 0) + 1))), (6, .int (nI 0)), (5, .int (fk (i * 12 + (ln - 1)))), (0, .ref gm), (1, .int (nI ln))]) hx hb dX1_lineSteps_146 hl (k := 4) rfl (nI_1 _) (by decide) rfl (fun ls hl => ?_)
                  refine lv_goto (tgt := 7) hx hb dX1_lineSteps_149 (by decide) ?_
                  exact ih (i + 1) (S + (1 + ksN kk) + (T + 1)) (0) (((nn + (1 + ksN kk)) + 0) + 1) (by omega) (by show _ = gLs1 _ _ (gLs fk fl ln i); rw [← hST]; unfold gLs1; rw [if_neg hco, if_pos hf, if_neg hk0, ck]) (by omega) ls (lv_sub hl [0, 1, 2, 5, 6] rfl)
                · skip
                  refine lv_iload hx hb dX1_lineSteps_7 (lv_at hl 0 rfl) ?_
                  refine lv_aload_n hx hb dX1_lineSteps_9 rfl (lv_at hl 3 rfl) ?_
                  refine va_get (D := (dC, dI)) (ci := 1) (v := .int (nI rn)) (C := RX1) (T := TX1) (N := 10) hx hb hts hin1 hown hK hP 0 rfl rfl 0 (by decide) lk36 (fun _ h9 => h9) rfl dX1_lineSteps_10 ?_
                  refine gz_icmp_ge (tgt := 152) (za := ((i : Nat) : Int)) (zb := ((rn : Nat) : Int)) hx hb dX1_lineSteps_13 (by decide) (nI_toInt (by omega)) (nI_toInt (by omega)) (fun c_1 => False.elim (by omega)) (fun c_1 => ?_)
                  refine lv_aload_n hx hb dX1_lineSteps_16 rfl (lv_at hl 3 rfl) ?_
                  refine va_get (D := (dC, dI)) (ci := 1) (v := .ref ak) (C := RX1) (T := TX1) (N := 10) hx hb hts hin1 hown hK hP 0 rfl rfl 2 (by decide) lk7 (fun _ h9 => h9) rfl dX1_lineSteps_17 ?_
                  refine lv_bipush (v := nI 12) hx hb dX1_lineSteps_20 (by decide) ?_
                  refine lv_iload hx hb dX1_lineSteps_22 (lv_at hl 0 rfl) ?_
                  refine gz_imulc (i := 12) (j := i) hx hb dX1_lineSteps_24 ?_
                  refine lv_iload_n hx hb dX1_lineSteps_25 rfl (lv_at hl 4 rfl) ?_
                  refine gz_iadd (i := i * 12) (j := ln) hx hb dX1_lineSteps_26 ?_
                  refine lv_iconst (v := nI 1) hx hb dX1_lineSteps_27 (by decide) ?_
                  refine gz_isub (i := (i * 12) + ln) (j := 1) hx hb dX1_lineSteps_28 (by omega) ?_
                  refine gz_top (j := i * 12 + (ln - 1)) (by omega) ?_
                  refine gz_iald (k := i * 12 + (ln - 1)) hx hb hK hP 1 0 rfl rfl (by omega) (by omega) dX1_lineSteps_29 ?_
                  refine lv_istore (lv' := [(5, .int (fk (i * 12 + (ln - 1)))), (4, .int (nI i)), (3, .int (nI T)), (2, .int (nI nn)), (0, .ref gm), (1, .int (nI ln))]) hx hb dX1_lineSteps_30 hl (by decide) rfl (fun ls hl => ?_)
                  refine lv_iload hx hb dX1_lineSteps_32 (lv_at hl 0 rfl) ?_
                  refine lv_bipush (v := nI 6) hx hb dX1_lineSteps_34 (by decide) ?_
                  refine gz_icmp_lt (tgt := 44) (za := (fk (i * 12 + (ln - 1))).toInt) (zb := ((6 : Nat) : Int)) hx hb dX1_lineSteps_36 (by decide) rfl (nI_toInt (by omega)) (fun c_2 => ?_) (fun c_2 => False.elim (by omega))
                  refine lv_iload hx hb dX1_lineSteps_44 (lv_at hl 0 rfl) ?_
                  refine lv_if_ne (tgt := 53) hx hb dX1_lineSteps_46 (by decide) (fun c_3 => ?_) (fun c_3 => False.elim (hk0 c_3))
                  refine lv_iload_n hx hb dX1_lineSteps_53 rfl (lv_at hl 3 rfl) ?_
                  refine lv_iload hx hb dX1_lineSteps_54 (lv_at hl 0 rfl) ?_
                  refine gz_topI (y := nI kk) ek ?_
                  refine gz_callR (W.runS (As := [.int (nI kk)]) (rest := [.int (nI nn)]) ⟨hx, hb, hml, hown, hts⟩ (cM_term l kk (by omega)) (va_cwS 1 hts gX1_lineSteps_X1_term rfl rfl rfl (by decide +kernel) ⟨Nat.le_of_ble_eq_true rfl, Nat.le_of_ble_eq_true rfl⟩) preEq rfl rfl hl.1 rfl (lv_room (Nat.le_of_ble_eq_true rfl)) dX1_lineSteps_56 ⟨Nat.le_of_ble_eq_true rfl, Nat.le_of_ble_eq_true rfl⟩) ?_
                  refine gz_iadd (i := nn) (j := 1 + ksN kk) hx hb dX1_lineSteps_59 ?_
                  refine lv_iload_n hx hb dX1_lineSteps_60 rfl (lv_at hl 2 rfl) ?_
                  refine gz_if_le (tgt := 68) (za := ((T : Nat) : Int)) hx hb dX1_lineSteps_61 (by decide) (nI_toInt (by omega)) (fun c_4 => ?_) (fun c_4 => False.elim (by omega))
                  refine lv_iconst (v := nI 0) hx hb dX1_lineSteps_68 (by decide) ?_
                  refine gz_iadd (i := nn + (1 + ksN kk)) (j := 0) hx hb dX1_lineSteps_69 ?_
                  refine lv_istore_n (lv' := [(2, .int (nI ((nn + (1 + ksN kk)) + 0))), (5, .int (fk (i * 12 + (ln - 1)))), (4, .int (nI i)), (3, .int (nI T)), (0, .ref gm), (1, .int (nI ln))]) hx hb dX1_lineSteps_70 rfl hl (by decide) rfl (fun ls hl => ?_)
                  refine lv_iload hx hb dX1_lineSteps_71 (lv_at hl 1 rfl) ?_
                  refine lv_if_ne (tgt := 80) hx hb dX1_lineSteps_73 (by decide) (fun c_5 => ?_) (fun c_5 => False.elim (hk0 c_5))
                  refine lv_iload_n hx hb dX1_lineSteps_80 rfl (lv_at hl 3 rfl) ?_
                  refine lv_iconst (v := nI 1) hx hb dX1_lineSteps_81 (by decide) ?_
                  refine gz_iadd (i := T) (j := 1) hx hb dX1_lineSteps_82 ?_
                  refine lv_istore_n (lv' := [(3, .int (nI (T + 1))), (2, .int (nI ((nn + (1 + ksN kk)) + 0))), (5, .int (fk (i * 12 + (ln - 1)))), (4, .int (nI i)), (0, .ref gm), (1, .int (nI ln))]) hx hb dX1_lineSteps_83 rfl hl (by decide) rfl (fun ls hl => ?_)
                  refine lv_iload_n hx hb dX1_lineSteps_84 rfl (lv_at hl 5 rfl) ?_
                  refine lv_aload_n hx hb dX1_lineSteps_85 rfl (lv_at hl 4 rfl) ?_
                  refine va_get (D := (dC, dI)) (ci := 1) (v := .int (nI cn)) (C := RX1) (T := TX1) (N := 10) hx hb hts hin1 hown hK hP 0 rfl rfl 1 (by decide) lk40 (fun _ h9 => h9) rfl dX1_lineSteps_86 ?_
                  refine gz_icmp_ge (tgt := 122) (za := ((ln : Nat) : Int)) (zb := ((cn : Nat) : Int)) hx hb dX1_lineSteps_89 (by decide) (nI_toInt (by omega)) (nI_toInt (by omega)) (fun c_6 => False.elim (by omega)) (fun c_6 => ?_)
                  refine lv_iload hx hb dX1_lineSteps_92 (lv_at hl 3 rfl) ?_
                  refine lv_iconst (v := nI 1) hx hb dX1_lineSteps_94 (by decide) ?_
                  refine gz_iadd (i := i) (j := 1) hx hb dX1_lineSteps_95 ?_
                  refine lv_aload_n hx hb dX1_lineSteps_96 rfl (lv_at hl 4 rfl) ?_
                  refine va_get (D := (dC, dI)) (ci := 1) (v := .int (nI rn)) (C := RX1) (T := TX1) (N := 10) hx hb hts hin1 hown hK hP 0 rfl rfl 0 (by decide) lk36 (fun _ h9 => h9) rfl dX1_lineSteps_97 ?_
                  refine gz_icmp_ge (tgt := 122) (za := ((i + 1 : Nat) : Int)) (zb := ((rn : Nat) : Int)) hx hb dX1_lineSteps_100 (by decide) (nI_toInt (by omega)) (nI_toInt (by omega)) (fun c_7 => ?_) (fun c_7 => False.elim (by omega))
                  refine lv_iconst (v := nI 0) hx hb dX1_lineSteps_122 (by decide) ?_
                  refine lv_istore (lv' := [(6, .int (nI 0)), (3, .int (nI (T + 1))), (2, .int (nI ((nn + (1 + ksN kk)) + 0))), (5, .int (fk (i * 12 + (ln - 1)))), (4, .int (nI i)), (0, .ref gm), (1, .int (nI ln))]) hx hb dX1_lineSteps_123 hl (by decide) rfl (fun ls hl => ?_)
                  refine lv_iload hx hb dX1_lineSteps_125 (lv_at hl 0 rfl) ?_
                  refine lv_if_ne (tgt := 146) hx hb dX1_lineSteps_127 (by decide) (fun c_8 => False.elim (c_8 rfl)) (fun c_8 => ?_)
                  refine lv_iload_n hx hb dX1_lineSteps_130 rfl (lv_at hl 1 rfl) ?_
                  refine lv_if_ne (tgt := 140) hx hb dX1_lineSteps_131 (by decide) (fun c_9 => ?_) (fun c_9 => False.elim (gz_ne0 (by omega) (by omega) c_9))
                  refine lv_iload_n hx hb dX1_lineSteps_140 rfl (lv_at hl 2 rfl) ?_
                  refine lv_iconst (v := nI 1) hx hb dX1_lineSteps_141 (by decide) ?_
                  refine gz_iadd (i := (nn + (1 + ksN kk)) + 0) (j := 1) hx hb dX1_lineSteps_142 ?_
                  refine lv_istore_n (lv' := [(2, .int (nI (((nn + (1 + ksN kk)) + 0) + 1))), (6, .int (nI 0)), (3, .int (nI (T + 1))), (5, .int (fk (i * 12 + (ln - 1)))), (4, .int (nI i)), (0, .ref gm), (1, .int (nI ln))]) hx hb dX1_lineSteps_143 rfl hl (by decide) rfl (fun ls hl => ?_)
                  refine lv_iconst (v := nI 0) hx hb dX1_lineSteps_144 (by decide) ?_
                  refine lv_istore_n (lv' := [(3, .int (nI 0)), (2, .int (nI (((nn + (1 + ksN kk)) + 0) + 1))), (6, .int (nI 0)), (5, .int (fk (i * 12 + (ln - 1)))), (4, .int (nI i)), (0, .ref gm), (1, .int (nI ln))]) hx hb dX1_lineSteps_145 rfl hl (by decide) rfl (fun ls hl => ?_)
                  refine lv_iinc (v := nI (i + 1)) (lv' := [(4, .int (nI (i + 1))), (3, .int (nI 0)), (2, .int (nI (((nn + (1 + ksN kk)) + 0) + 1))), (6, .int (nI 0)), (5, .int (fk (i * 12 + (ln - 1)))), (0, .ref gm), (1, .int (nI ln))]) hx hb dX1_lineSteps_146 hl (k := 4) rfl (nI_1 _) (by decide) rfl (fun ls hl => ?_)
                  refine lv_goto (tgt := 7) hx hb dX1_lineSteps_149 (by decide) ?_
                  exact ih (i + 1) (S + (1 + ksN kk) + (T + 1)) (0) (((nn + (1 + ksN kk)) + 0) + 1) (by omega) (by show _ = gLs1 _ _ (gLs fk fl ln i); rw [← hST]; unfold gLs1; rw [if_neg hco, if_pos hf, if_neg hk0, ck]) (by omega) ls (lv_sub hl [0, 1, 2, 5, 6] rfl)
              · skip
                refine lv_iload hx hb dX1_lineSteps_7 (lv_at hl 0 rfl) ?_
                refine lv_aload_n hx hb dX1_lineSteps_9 rfl (lv_at hl 3 rfl) ?_
                refine va_get (D := (dC, dI)) (ci := 1) (v := .int (nI rn)) (C := RX1) (T := TX1) (N := 10) hx hb hts hin1 hown hK hP 0 rfl rfl 0 (by decide) lk36 (fun _ h9 => h9) rfl dX1_lineSteps_10 ?_
                refine gz_icmp_ge (tgt := 152) (za := ((i : Nat) : Int)) (zb := ((rn : Nat) : Int)) hx hb dX1_lineSteps_13 (by decide) (nI_toInt (by omega)) (nI_toInt (by omega)) (fun c_1 => False.elim (by omega)) (fun c_1 => ?_)
                refine lv_aload_n hx hb dX1_lineSteps_16 rfl (lv_at hl 3 rfl) ?_
                refine va_get (D := (dC, dI)) (ci := 1) (v := .ref ak) (C := RX1) (T := TX1) (N := 10) hx hb hts hin1 hown hK hP 0 rfl rfl 2 (by decide) lk7 (fun _ h9 => h9) rfl dX1_lineSteps_17 ?_
                refine lv_bipush (v := nI 12) hx hb dX1_lineSteps_20 (by decide) ?_
                refine lv_iload hx hb dX1_lineSteps_22 (lv_at hl 0 rfl) ?_
                refine gz_imulc (i := 12) (j := i) hx hb dX1_lineSteps_24 ?_
                refine lv_iload_n hx hb dX1_lineSteps_25 rfl (lv_at hl 4 rfl) ?_
                refine gz_iadd (i := i * 12) (j := ln) hx hb dX1_lineSteps_26 ?_
                refine lv_iconst (v := nI 1) hx hb dX1_lineSteps_27 (by decide) ?_
                refine gz_isub (i := (i * 12) + ln) (j := 1) hx hb dX1_lineSteps_28 (by omega) ?_
                refine gz_top (j := i * 12 + (ln - 1)) (by omega) ?_
                refine gz_iald (k := i * 12 + (ln - 1)) hx hb hK hP 1 0 rfl rfl (by omega) (by omega) dX1_lineSteps_29 ?_
                refine lv_istore (lv' := [(5, .int (fk (i * 12 + (ln - 1)))), (4, .int (nI i)), (3, .int (nI T)), (2, .int (nI nn)), (0, .ref gm), (1, .int (nI ln))]) hx hb dX1_lineSteps_30 hl (by decide) rfl (fun ls hl => ?_)
                refine lv_iload hx hb dX1_lineSteps_32 (lv_at hl 0 rfl) ?_
                refine lv_bipush (v := nI 6) hx hb dX1_lineSteps_34 (by decide) ?_
                refine gz_icmp_lt (tgt := 44) (za := (fk (i * 12 + (ln - 1))).toInt) (zb := ((6 : Nat) : Int)) hx hb dX1_lineSteps_36 (by decide) rfl (nI_toInt (by omega)) (fun c_2 => ?_) (fun c_2 => False.elim (by omega))
                refine lv_iload hx hb dX1_lineSteps_44 (lv_at hl 0 rfl) ?_
                refine lv_if_ne (tgt := 53) hx hb dX1_lineSteps_46 (by decide) (fun c_3 => ?_) (fun c_3 => False.elim (hk0 c_3))
                refine lv_iload_n hx hb dX1_lineSteps_53 rfl (lv_at hl 3 rfl) ?_
                refine lv_iload hx hb dX1_lineSteps_54 (lv_at hl 0 rfl) ?_
                refine gz_topI (y := nI kk) ek ?_
                refine gz_callR (W.runS (As := [.int (nI kk)]) (rest := [.int (nI nn)]) ⟨hx, hb, hml, hown, hts⟩ (cM_term l kk (by omega)) (va_cwS 1 hts gX1_lineSteps_X1_term rfl rfl rfl (by decide +kernel) ⟨Nat.le_of_ble_eq_true rfl, Nat.le_of_ble_eq_true rfl⟩) preEq rfl rfl hl.1 rfl (lv_room (Nat.le_of_ble_eq_true rfl)) dX1_lineSteps_56 ⟨Nat.le_of_ble_eq_true rfl, Nat.le_of_ble_eq_true rfl⟩) ?_
                refine gz_iadd (i := nn) (j := 1 + ksN kk) hx hb dX1_lineSteps_59 ?_
                refine lv_iload_n hx hb dX1_lineSteps_60 rfl (lv_at hl 2 rfl) ?_
                refine gz_if_le (tgt := 68) (za := ((T : Nat) : Int)) hx hb dX1_lineSteps_61 (by decide) (nI_toInt (by omega)) (fun c_4 => ?_) (fun c_4 => False.elim (by omega))
                refine lv_iconst (v := nI 0) hx hb dX1_lineSteps_68 (by decide) ?_
                refine gz_iadd (i := nn + (1 + ksN kk)) (j := 0) hx hb dX1_lineSteps_69 ?_
                refine lv_istore_n (lv' := [(2, .int (nI ((nn + (1 + ksN kk)) + 0))), (5, .int (fk (i * 12 + (ln - 1)))), (4, .int (nI i)), (3, .int (nI T)), (0, .ref gm), (1, .int (nI ln))]) hx hb dX1_lineSteps_70 rfl hl (by decide) rfl (fun ls hl => ?_)
                refine lv_iload hx hb dX1_lineSteps_71 (lv_at hl 1 rfl) ?_
                refine lv_if_ne (tgt := 80) hx hb dX1_lineSteps_73 (by decide) (fun c_5 => ?_) (fun c_5 => False.elim (hk0 c_5))
                refine lv_iload_n hx hb dX1_lineSteps_80 rfl (lv_at hl 3 rfl) ?_
                refine lv_iconst (v := nI 1) hx hb dX1_lineSteps_81 (by decide) ?_
                refine gz_iadd (i := T) (j := 1) hx hb dX1_lineSteps_82 ?_
                refine lv_istore_n (lv' := [(3, .int (nI (T + 1))), (2, .int (nI ((nn + (1 + ksN kk)) + 0))), (5, .int (fk (i * 12 + (ln - 1)))), (4, .int (nI i)), (0, .ref gm), (1, .int (nI ln))]) hx hb dX1_lineSteps_83 rfl hl (by decide) rfl (fun ls hl => ?_)
                refine lv_iload_n hx hb dX1_lineSteps_84 rfl (lv_at hl 5 rfl) ?_
                refine lv_aload_n hx hb dX1_lineSteps_85 rfl (lv_at hl 4 rfl) ?_
                refine va_get (D := (dC, dI)) (ci := 1) (v := .int (nI cn)) (C := RX1) (T := TX1) (N := 10) hx hb hts hin1 hown hK hP 0 rfl rfl 1 (by decide) lk40 (fun _ h9 => h9) rfl dX1_lineSteps_86 ?_
                refine gz_icmp_ge (tgt := 122) (za := ((ln : Nat) : Int)) (zb := ((cn : Nat) : Int)) hx hb dX1_lineSteps_89 (by decide) (nI_toInt (by omega)) (nI_toInt (by omega)) (fun c_6 => ?_) (fun c_6 => False.elim (by omega))
                refine lv_iconst (v := nI 0) hx hb dX1_lineSteps_122 (by decide) ?_
                refine lv_istore (lv' := [(6, .int (nI 0)), (3, .int (nI (T + 1))), (2, .int (nI ((nn + (1 + ksN kk)) + 0))), (5, .int (fk (i * 12 + (ln - 1)))), (4, .int (nI i)), (0, .ref gm), (1, .int (nI ln))]) hx hb dX1_lineSteps_123 hl (by decide) rfl (fun ls hl => ?_)
                refine lv_iload hx hb dX1_lineSteps_125 (lv_at hl 0 rfl) ?_
                refine lv_if_ne (tgt := 146) hx hb dX1_lineSteps_127 (by decide) (fun c_7 => False.elim (c_7 rfl)) (fun c_7 => ?_)
                refine lv_iload_n hx hb dX1_lineSteps_130 rfl (lv_at hl 1 rfl) ?_
                refine lv_if_ne (tgt := 140) hx hb dX1_lineSteps_131 (by decide) (fun c_8 => ?_) (fun c_8 => False.elim (gz_ne0 (by omega) (by omega) c_8))
                refine lv_iload_n hx hb dX1_lineSteps_140 rfl (lv_at hl 2 rfl) ?_
                refine lv_iconst (v := nI 1) hx hb dX1_lineSteps_141 (by decide) ?_
                refine gz_iadd (i := (nn + (1 + ksN kk)) + 0) (j := 1) hx hb dX1_lineSteps_142 ?_
                refine lv_istore_n (lv' := [(2, .int (nI (((nn + (1 + ksN kk)) + 0) + 1))), (6, .int (nI 0)), (3, .int (nI (T + 1))), (5, .int (fk (i * 12 + (ln - 1)))), (4, .int (nI i)), (0, .ref gm), (1, .int (nI ln))]) hx hb dX1_lineSteps_143 rfl hl (by decide) rfl (fun ls hl => ?_)
                refine lv_iconst (v := nI 0) hx hb dX1_lineSteps_144 (by decide) ?_
                refine lv_istore_n (lv' := [(3, .int (nI 0)), (2, .int (nI (((nn + (1 + ksN kk)) + 0) + 1))), (6, .int (nI 0)), (5, .int (fk (i * 12 + (ln - 1)))), (4, .int (nI i)), (0, .ref gm), (1, .int (nI ln))]) hx hb dX1_lineSteps_145 rfl hl (by decide) rfl (fun ls hl => ?_)
                refine lv_iinc (v := nI (i + 1)) (lv' := [(4, .int (nI (i + 1))), (3, .int (nI 0)), (2, .int (nI (((nn + (1 + ksN kk)) + 0) + 1))), (6, .int (nI 0)), (5, .int (fk (i * 12 + (ln - 1)))), (0, .ref gm), (1, .int (nI ln))]) hx hb dX1_lineSteps_146 hl (k := 4) rfl (nI_1 _) (by decide) rfl (fun ls hl => ?_)
                refine lv_goto (tgt := 7) hx hb dX1_lineSteps_149 (by decide) ?_
                exact ih (i + 1) (S + (1 + ksN kk) + (T + 1)) (0) (((nn + (1 + ksN kk)) + 0) + 1) (by omega) (by show _ = gLs1 _ _ (gLs fk fl ln i); rw [← hST]; unfold gLs1; rw [if_neg hco, if_pos hf, if_neg hk0, ck]) (by omega) ls (lv_sub hl [0, 1, 2, 5, 6] rfl)
            · skip
              by_cases hq1 : ln < cn
              · by_cases hq2 : i + 1 < rn
                · skip
                  refine lv_iload hx hb dX1_lineSteps_7 (lv_at hl 0 rfl) ?_
                  refine lv_aload_n hx hb dX1_lineSteps_9 rfl (lv_at hl 3 rfl) ?_
                  refine va_get (D := (dC, dI)) (ci := 1) (v := .int (nI rn)) (C := RX1) (T := TX1) (N := 10) hx hb hts hin1 hown hK hP 0 rfl rfl 0 (by decide) lk36 (fun _ h9 => h9) rfl dX1_lineSteps_10 ?_
                  refine gz_icmp_ge (tgt := 152) (za := ((i : Nat) : Int)) (zb := ((rn : Nat) : Int)) hx hb dX1_lineSteps_13 (by decide) (nI_toInt (by omega)) (nI_toInt (by omega)) (fun c_1 => False.elim (by omega)) (fun c_1 => ?_)
                  refine lv_aload_n hx hb dX1_lineSteps_16 rfl (lv_at hl 3 rfl) ?_
                  refine va_get (D := (dC, dI)) (ci := 1) (v := .ref ak) (C := RX1) (T := TX1) (N := 10) hx hb hts hin1 hown hK hP 0 rfl rfl 2 (by decide) lk7 (fun _ h9 => h9) rfl dX1_lineSteps_17 ?_
                  refine lv_bipush (v := nI 12) hx hb dX1_lineSteps_20 (by decide) ?_
                  refine lv_iload hx hb dX1_lineSteps_22 (lv_at hl 0 rfl) ?_
                  refine gz_imulc (i := 12) (j := i) hx hb dX1_lineSteps_24 ?_
                  refine lv_iload_n hx hb dX1_lineSteps_25 rfl (lv_at hl 4 rfl) ?_
                  refine gz_iadd (i := i * 12) (j := ln) hx hb dX1_lineSteps_26 ?_
                  refine lv_iconst (v := nI 1) hx hb dX1_lineSteps_27 (by decide) ?_
                  refine gz_isub (i := (i * 12) + ln) (j := 1) hx hb dX1_lineSteps_28 (by omega) ?_
                  refine gz_top (j := i * 12 + (ln - 1)) (by omega) ?_
                  refine gz_iald (k := i * 12 + (ln - 1)) hx hb hK hP 1 0 rfl rfl (by omega) (by omega) dX1_lineSteps_29 ?_
                  refine lv_istore (lv' := [(5, .int (fk (i * 12 + (ln - 1)))), (4, .int (nI i)), (3, .int (nI T)), (2, .int (nI nn)), (0, .ref gm), (1, .int (nI ln))]) hx hb dX1_lineSteps_30 hl (by decide) rfl (fun ls hl => ?_)
                  refine lv_iload hx hb dX1_lineSteps_32 (lv_at hl 0 rfl) ?_
                  refine lv_bipush (v := nI 6) hx hb dX1_lineSteps_34 (by decide) ?_
                  refine gz_icmp_lt (tgt := 44) (za := (fk (i * 12 + (ln - 1))).toInt) (zb := ((6 : Nat) : Int)) hx hb dX1_lineSteps_36 (by decide) rfl (nI_toInt (by omega)) (fun c_2 => ?_) (fun c_2 => False.elim (by omega))
                  refine lv_iload hx hb dX1_lineSteps_44 (lv_at hl 0 rfl) ?_
                  refine lv_if_ne (tgt := 53) hx hb dX1_lineSteps_46 (by decide) (fun c_3 => ?_) (fun c_3 => False.elim (hk0 c_3))
                  refine lv_iload_n hx hb dX1_lineSteps_53 rfl (lv_at hl 3 rfl) ?_
                  refine lv_iload hx hb dX1_lineSteps_54 (lv_at hl 0 rfl) ?_
                  refine gz_topI (y := nI kk) ek ?_
                  refine gz_callR (W.runS (As := [.int (nI kk)]) (rest := [.int (nI nn)]) ⟨hx, hb, hml, hown, hts⟩ (cM_term l kk (by omega)) (va_cwS 1 hts gX1_lineSteps_X1_term rfl rfl rfl (by decide +kernel) ⟨Nat.le_of_ble_eq_true rfl, Nat.le_of_ble_eq_true rfl⟩) preEq rfl rfl hl.1 rfl (lv_room (Nat.le_of_ble_eq_true rfl)) dX1_lineSteps_56 ⟨Nat.le_of_ble_eq_true rfl, Nat.le_of_ble_eq_true rfl⟩) ?_
                  refine gz_iadd (i := nn) (j := 1 + ksN kk) hx hb dX1_lineSteps_59 ?_
                  refine lv_iload_n hx hb dX1_lineSteps_60 rfl (lv_at hl 2 rfl) ?_
                  refine gz_if_le (tgt := 68) (za := ((T : Nat) : Int)) hx hb dX1_lineSteps_61 (by decide) (nI_toInt (by omega)) (fun c_4 => False.elim (by omega)) (fun c_4 => ?_)
                  refine lv_iconst (v := nI 1) hx hb dX1_lineSteps_64 (by decide) ?_
                  refine lv_goto (tgt := 69) hx hb dX1_lineSteps_65 (by decide) ?_
                  refine gz_iadd (i := nn + (1 + ksN kk)) (j := 1) hx hb dX1_lineSteps_69 ?_
                  refine lv_istore_n (lv' := [(2, .int (nI ((nn + (1 + ksN kk)) + 1))), (5, .int (fk (i * 12 + (ln - 1)))), (4, .int (nI i)), (3, .int (nI T)), (0, .ref gm), (1, .int (nI ln))]) hx hb dX1_lineSteps_70 rfl hl (by decide) rfl (fun ls hl => ?_)
                  refine lv_iload hx hb dX1_lineSteps_71 (lv_at hl 1 rfl) ?_
                  refine lv_if_ne (tgt := 80) hx hb dX1_lineSteps_73 (by decide) (fun c_5 => ?_) (fun c_5 => False.elim (hk0 c_5))
                  refine lv_iload_n hx hb dX1_lineSteps_80 rfl (lv_at hl 3 rfl) ?_
                  refine lv_iconst (v := nI 1) hx hb dX1_lineSteps_81 (by decide) ?_
                  refine gz_iadd (i := T) (j := 1) hx hb dX1_lineSteps_82 ?_
                  refine lv_istore_n (lv' := [(3, .int (nI (T + 1))), (2, .int (nI ((nn + (1 + ksN kk)) + 1))), (5, .int (fk (i * 12 + (ln - 1)))), (4, .int (nI i)), (0, .ref gm), (1, .int (nI ln))]) hx hb dX1_lineSteps_83 rfl hl (by decide) rfl (fun ls hl => ?_)
                  refine lv_iload_n hx hb dX1_lineSteps_84 rfl (lv_at hl 5 rfl) ?_
                  refine lv_aload_n hx hb dX1_lineSteps_85 rfl (lv_at hl 4 rfl) ?_
                  refine va_get (D := (dC, dI)) (ci := 1) (v := .int (nI cn)) (C := RX1) (T := TX1) (N := 10) hx hb hts hin1 hown hK hP 0 rfl rfl 1 (by decide) lk40 (fun _ h9 => h9) rfl dX1_lineSteps_86 ?_
                  refine gz_icmp_ge (tgt := 122) (za := ((ln : Nat) : Int)) (zb := ((cn : Nat) : Int)) hx hb dX1_lineSteps_89 (by decide) (nI_toInt (by omega)) (nI_toInt (by omega)) (fun c_6 => False.elim (by omega)) (fun c_6 => ?_)
                  refine lv_iload hx hb dX1_lineSteps_92 (lv_at hl 3 rfl) ?_
                  refine lv_iconst (v := nI 1) hx hb dX1_lineSteps_94 (by decide) ?_
                  refine gz_iadd (i := i) (j := 1) hx hb dX1_lineSteps_95 ?_
                  refine lv_aload_n hx hb dX1_lineSteps_96 rfl (lv_at hl 4 rfl) ?_
                  refine va_get (D := (dC, dI)) (ci := 1) (v := .int (nI rn)) (C := RX1) (T := TX1) (N := 10) hx hb hts hin1 hown hK hP 0 rfl rfl 0 (by decide) lk36 (fun _ h9 => h9) rfl dX1_lineSteps_97 ?_
                  refine gz_icmp_ge (tgt := 122) (za := ((i + 1 : Nat) : Int)) (zb := ((rn : Nat) : Int)) hx hb dX1_lineSteps_100 (by decide) (nI_toInt (by omega)) (nI_toInt (by omega)) (fun c_7 => False.elim (by omega)) (fun c_7 => ?_)
                  refine lv_aload_n hx hb dX1_lineSteps_103 rfl (lv_at hl 4 rfl) ?_
                  refine va_get (D := (dC, dI)) (ci := 1) (v := .ref al) (C := RX1) (T := TX1) (N := 10) hx hb hts hin1 hown hK hP 0 rfl rfl 5 (by decide) lk19 (fun _ h9 => h9) rfl dX1_lineSteps_104 ?_
                  refine lv_bipush (v := nI 13) hx hb dX1_lineSteps_107 (by decide) ?_
                  refine lv_iload hx hb dX1_lineSteps_109 (lv_at hl 3 rfl) ?_
                  refine gz_imulc (i := 13) (j := i) hx hb dX1_lineSteps_111 ?_
                  refine lv_iload_n hx hb dX1_lineSteps_112 rfl (lv_at hl 5 rfl) ?_
                  refine gz_iadd (i := i * 13) (j := ln) hx hb dX1_lineSteps_113 ?_
                  refine gz_zald (k := (i * 13) + ln) hx hb hK hP 4 1 rfl rfl (by omega) (by omega) dX1_lineSteps_114 ?_
                  refine lv_if_eq (tgt := 122) hx hb dX1_lineSteps_115 (by decide) (fun c_8 => ?_) (fun c_8 => False.elim (c_8 hf))
                  refine lv_iconst (v := nI 0) hx hb dX1_lineSteps_122 (by decide) ?_
                  refine lv_istore (lv' := [(6, .int (nI 0)), (3, .int (nI (T + 1))), (2, .int (nI ((nn + (1 + ksN kk)) + 1))), (5, .int (fk (i * 12 + (ln - 1)))), (4, .int (nI i)), (0, .ref gm), (1, .int (nI ln))]) hx hb dX1_lineSteps_123 hl (by decide) rfl (fun ls hl => ?_)
                  refine lv_iload hx hb dX1_lineSteps_125 (lv_at hl 0 rfl) ?_
                  refine lv_if_ne (tgt := 146) hx hb dX1_lineSteps_127 (by decide) (fun c_9 => False.elim (c_9 rfl)) (fun c_9 => ?_)
                  refine lv_iload_n hx hb dX1_lineSteps_130 rfl (lv_at hl 1 rfl) ?_
                  refine lv_if_ne (tgt := 140) hx hb dX1_lineSteps_131 (by decide) (fun c_10 => ?_) (fun c_10 => False.elim (gz_ne0 (by omega) (by omega) c_10))
                  refine lv_iload_n hx hb dX1_lineSteps_140 rfl (lv_at hl 2 rfl) ?_
                  refine lv_iconst (v := nI 1) hx hb dX1_lineSteps_141 (by decide) ?_
                  refine gz_iadd (i := (nn + (1 + ksN kk)) + 1) (j := 1) hx hb dX1_lineSteps_142 ?_
                  refine lv_istore_n (lv' := [(2, .int (nI (((nn + (1 + ksN kk)) + 1) + 1))), (6, .int (nI 0)), (3, .int (nI (T + 1))), (5, .int (fk (i * 12 + (ln - 1)))), (4, .int (nI i)), (0, .ref gm), (1, .int (nI ln))]) hx hb dX1_lineSteps_143 rfl hl (by decide) rfl (fun ls hl => ?_)
                  refine lv_iconst (v := nI 0) hx hb dX1_lineSteps_144 (by decide) ?_
                  refine lv_istore_n (lv' := [(3, .int (nI 0)), (2, .int (nI (((nn + (1 + ksN kk)) + 1) + 1))), (6, .int (nI 0)), (5, .int (fk (i * 12 + (ln - 1)))), (4, .int (nI i)), (0, .ref gm), (1, .int (nI ln))]) hx hb dX1_lineSteps_145 rfl hl (by decide) rfl (fun ls hl => ?_)
                  refine lv_iinc (v := nI (i + 1)) (lv' := [(4, .int (nI (i + 1))), (3, .int (nI 0)), (2, .int (nI (((nn + (1 + ksN kk)) + 1) + 1))), (6, .int (nI 0)), (5, .int (fk (i * 12 + (ln - 1)))), (0, .ref gm), (1, .int (nI ln))]) hx hb dX1_lineSteps_146 hl (k := 4) rfl (nI_1 _) (by decide) rfl (fun ls hl => ?_)
                  refine lv_goto (tgt := 7) hx hb dX1_lineSteps_149 (by decide) ?_
                  exact ih (i + 1) (S + (1 + ksN kk) + (T + 1)) (0) (((nn + (1 + ksN kk)) + 1) + 1) (by omega) (by show _ = gLs1 _ _ (gLs fk fl ln i); rw [← hST]; unfold gLs1; rw [if_neg hco, if_pos hf, if_neg hk0, ck]) (by omega) ls (lv_sub hl [0, 1, 2, 5, 6] rfl)
                · skip
                  refine lv_iload hx hb dX1_lineSteps_7 (lv_at hl 0 rfl) ?_
                  refine lv_aload_n hx hb dX1_lineSteps_9 rfl (lv_at hl 3 rfl) ?_
                  refine va_get (D := (dC, dI)) (ci := 1) (v := .int (nI rn)) (C := RX1) (T := TX1) (N := 10) hx hb hts hin1 hown hK hP 0 rfl rfl 0 (by decide) lk36 (fun _ h9 => h9) rfl dX1_lineSteps_10 ?_
                  refine gz_icmp_ge (tgt := 152) (za := ((i : Nat) : Int)) (zb := ((rn : Nat) : Int)) hx hb dX1_lineSteps_13 (by decide) (nI_toInt (by omega)) (nI_toInt (by omega)) (fun c_1 => False.elim (by omega)) (fun c_1 => ?_)
                  refine lv_aload_n hx hb dX1_lineSteps_16 rfl (lv_at hl 3 rfl) ?_
                  refine va_get (D := (dC, dI)) (ci := 1) (v := .ref ak) (C := RX1) (T := TX1) (N := 10) hx hb hts hin1 hown hK hP 0 rfl rfl 2 (by decide) lk7 (fun _ h9 => h9) rfl dX1_lineSteps_17 ?_
                  refine lv_bipush (v := nI 12) hx hb dX1_lineSteps_20 (by decide) ?_
                  refine lv_iload hx hb dX1_lineSteps_22 (lv_at hl 0 rfl) ?_
                  refine gz_imulc (i := 12) (j := i) hx hb dX1_lineSteps_24 ?_
                  refine lv_iload_n hx hb dX1_lineSteps_25 rfl (lv_at hl 4 rfl) ?_
                  refine gz_iadd (i := i * 12) (j := ln) hx hb dX1_lineSteps_26 ?_
                  refine lv_iconst (v := nI 1) hx hb dX1_lineSteps_27 (by decide) ?_
                  refine gz_isub (i := (i * 12) + ln) (j := 1) hx hb dX1_lineSteps_28 (by omega) ?_
                  refine gz_top (j := i * 12 + (ln - 1)) (by omega) ?_
                  refine gz_iald (k := i * 12 + (ln - 1)) hx hb hK hP 1 0 rfl rfl (by omega) (by omega) dX1_lineSteps_29 ?_
                  refine lv_istore (lv' := [(5, .int (fk (i * 12 + (ln - 1)))), (4, .int (nI i)), (3, .int (nI T)), (2, .int (nI nn)), (0, .ref gm), (1, .int (nI ln))]) hx hb dX1_lineSteps_30 hl (by decide) rfl (fun ls hl => ?_)
                  refine lv_iload hx hb dX1_lineSteps_32 (lv_at hl 0 rfl) ?_
                  refine lv_bipush (v := nI 6) hx hb dX1_lineSteps_34 (by decide) ?_
                  refine gz_icmp_lt (tgt := 44) (za := (fk (i * 12 + (ln - 1))).toInt) (zb := ((6 : Nat) : Int)) hx hb dX1_lineSteps_36 (by decide) rfl (nI_toInt (by omega)) (fun c_2 => ?_) (fun c_2 => False.elim (by omega))
                  refine lv_iload hx hb dX1_lineSteps_44 (lv_at hl 0 rfl) ?_
                  refine lv_if_ne (tgt := 53) hx hb dX1_lineSteps_46 (by decide) (fun c_3 => ?_) (fun c_3 => False.elim (hk0 c_3))
                  refine lv_iload_n hx hb dX1_lineSteps_53 rfl (lv_at hl 3 rfl) ?_
                  refine lv_iload hx hb dX1_lineSteps_54 (lv_at hl 0 rfl) ?_
                  refine gz_topI (y := nI kk) ek ?_
                  refine gz_callR (W.runS (As := [.int (nI kk)]) (rest := [.int (nI nn)]) ⟨hx, hb, hml, hown, hts⟩ (cM_term l kk (by omega)) (va_cwS 1 hts gX1_lineSteps_X1_term rfl rfl rfl (by decide +kernel) ⟨Nat.le_of_ble_eq_true rfl, Nat.le_of_ble_eq_true rfl⟩) preEq rfl rfl hl.1 rfl (lv_room (Nat.le_of_ble_eq_true rfl)) dX1_lineSteps_56 ⟨Nat.le_of_ble_eq_true rfl, Nat.le_of_ble_eq_true rfl⟩) ?_
                  refine gz_iadd (i := nn) (j := 1 + ksN kk) hx hb dX1_lineSteps_59 ?_
                  refine lv_iload_n hx hb dX1_lineSteps_60 rfl (lv_at hl 2 rfl) ?_
                  refine gz_if_le (tgt := 68) (za := ((T : Nat) : Int)) hx hb dX1_lineSteps_61 (by decide) (nI_toInt (by omega)) (fun c_4 => False.elim (by omega)) (fun c_4 => ?_)
                  refine lv_iconst (v := nI 1) hx hb dX1_lineSteps_64 (by decide) ?_
                  refine lv_goto (tgt := 69) hx hb dX1_lineSteps_65 (by decide) ?_
                  refine gz_iadd (i := nn + (1 + ksN kk)) (j := 1) hx hb dX1_lineSteps_69 ?_
                  refine lv_istore_n (lv' := [(2, .int (nI ((nn + (1 + ksN kk)) + 1))), (5, .int (fk (i * 12 + (ln - 1)))), (4, .int (nI i)), (3, .int (nI T)), (0, .ref gm), (1, .int (nI ln))]) hx hb dX1_lineSteps_70 rfl hl (by decide) rfl (fun ls hl => ?_)
                  refine lv_iload hx hb dX1_lineSteps_71 (lv_at hl 1 rfl) ?_
                  refine lv_if_ne (tgt := 80) hx hb dX1_lineSteps_73 (by decide) (fun c_5 => ?_) (fun c_5 => False.elim (hk0 c_5))
                  refine lv_iload_n hx hb dX1_lineSteps_80 rfl (lv_at hl 3 rfl) ?_
                  refine lv_iconst (v := nI 1) hx hb dX1_lineSteps_81 (by decide) ?_
                  refine gz_iadd (i := T) (j := 1) hx hb dX1_lineSteps_82 ?_
                  refine lv_istore_n (lv' := [(3, .int (nI (T + 1))), (2, .int (nI ((nn + (1 + ksN kk)) + 1))), (5, .int (fk (i * 12 + (ln - 1)))), (4, .int (nI i)), (0, .ref gm), (1, .int (nI ln))]) hx hb dX1_lineSteps_83 rfl hl (by decide) rfl (fun ls hl => ?_)
                  refine lv_iload_n hx hb dX1_lineSteps_84 rfl (lv_at hl 5 rfl) ?_
                  refine lv_aload_n hx hb dX1_lineSteps_85 rfl (lv_at hl 4 rfl) ?_
                  refine va_get (D := (dC, dI)) (ci := 1) (v := .int (nI cn)) (C := RX1) (T := TX1) (N := 10) hx hb hts hin1 hown hK hP 0 rfl rfl 1 (by decide) lk40 (fun _ h9 => h9) rfl dX1_lineSteps_86 ?_
                  refine gz_icmp_ge (tgt := 122) (za := ((ln : Nat) : Int)) (zb := ((cn : Nat) : Int)) hx hb dX1_lineSteps_89 (by decide) (nI_toInt (by omega)) (nI_toInt (by omega)) (fun c_6 => False.elim (by omega)) (fun c_6 => ?_)
                  refine lv_iload hx hb dX1_lineSteps_92 (lv_at hl 3 rfl) ?_
                  refine lv_iconst (v := nI 1) hx hb dX1_lineSteps_94 (by decide) ?_
                  refine gz_iadd (i := i) (j := 1) hx hb dX1_lineSteps_95 ?_
                  refine lv_aload_n hx hb dX1_lineSteps_96 rfl (lv_at hl 4 rfl) ?_
                  refine va_get (D := (dC, dI)) (ci := 1) (v := .int (nI rn)) (C := RX1) (T := TX1) (N := 10) hx hb hts hin1 hown hK hP 0 rfl rfl 0 (by decide) lk36 (fun _ h9 => h9) rfl dX1_lineSteps_97 ?_
                  refine gz_icmp_ge (tgt := 122) (za := ((i + 1 : Nat) : Int)) (zb := ((rn : Nat) : Int)) hx hb dX1_lineSteps_100 (by decide) (nI_toInt (by omega)) (nI_toInt (by omega)) (fun c_7 => ?_) (fun c_7 => False.elim (by omega))
                  refine lv_iconst (v := nI 0) hx hb dX1_lineSteps_122 (by decide) ?_
                  refine lv_istore (lv' := [(6, .int (nI 0)), (3, .int (nI (T + 1))), (2, .int (nI ((nn + (1 + ksN kk)) + 1))), (5, .int (fk (i * 12 + (ln - 1)))), (4, .int (nI i)), (0, .ref gm), (1, .int (nI ln))]) hx hb dX1_lineSteps_123 hl (by decide) rfl (fun ls hl => ?_)
                  refine lv_iload hx hb dX1_lineSteps_125 (lv_at hl 0 rfl) ?_
                  refine lv_if_ne (tgt := 146) hx hb dX1_lineSteps_127 (by decide) (fun c_8 => False.elim (c_8 rfl)) (fun c_8 => ?_)
                  refine lv_iload_n hx hb dX1_lineSteps_130 rfl (lv_at hl 1 rfl) ?_
                  refine lv_if_ne (tgt := 140) hx hb dX1_lineSteps_131 (by decide) (fun c_9 => ?_) (fun c_9 => False.elim (gz_ne0 (by omega) (by omega) c_9))
                  refine lv_iload_n hx hb dX1_lineSteps_140 rfl (lv_at hl 2 rfl) ?_
                  refine lv_iconst (v := nI 1) hx hb dX1_lineSteps_141 (by decide) ?_
                  refine gz_iadd (i := (nn + (1 + ksN kk)) + 1) (j := 1) hx hb dX1_lineSteps_142 ?_
                  refine lv_istore_n (lv' := [(2, .int (nI (((nn + (1 + ksN kk)) + 1) + 1))), (6, .int (nI 0)), (3, .int (nI (T + 1))), (5, .int (fk (i * 12 + (ln - 1)))), (4, .int (nI i)), (0, .ref gm), (1, .int (nI ln))]) hx hb dX1_lineSteps_143 rfl hl (by decide) rfl (fun ls hl => ?_)
                  refine lv_iconst (v := nI 0) hx hb dX1_lineSteps_144 (by decide) ?_
                  refine lv_istore_n (lv' := [(3, .int (nI 0)), (2, .int (nI (((nn + (1 + ksN kk)) + 1) + 1))), (6, .int (nI 0)), (5, .int (fk (i * 12 + (ln - 1)))), (4, .int (nI i)), (0, .ref gm), (1, .int (nI ln))]) hx hb dX1_lineSteps_145 rfl hl (by decide) rfl (fun ls hl => ?_)
                  refine lv_iinc (v := nI (i + 1)) (lv' := [(4, .int (nI (i + 1))), (3, .int (nI 0)), (2, .int (nI (((nn + (1 + ksN kk)) + 1) + 1))), (6, .int (nI 0)), (5, .int (fk (i * 12 + (ln - 1)))), (0, .ref gm), (1, .int (nI ln))]) hx hb dX1_lineSteps_146 hl (k := 4) rfl (nI_1 _) (by decide) rfl (fun ls hl => ?_)
                  refine lv_goto (tgt := 7) hx hb dX1_lineSteps_149 (by decide) ?_
                  exact ih (i + 1) (S + (1 + ksN kk) + (T + 1)) (0) (((nn + (1 + ksN kk)) + 1) + 1) (by omega) (by show _ = gLs1 _ _ (gLs fk fl ln i); rw [← hST]; unfold gLs1; rw [if_neg hco, if_pos hf, if_neg hk0, ck]) (by omega) ls (lv_sub hl [0, 1, 2, 5, 6] rfl)
              · skip
                refine lv_iload hx hb dX1_lineSteps_7 (lv_at hl 0 rfl) ?_
                refine lv_aload_n hx hb dX1_lineSteps_9 rfl (lv_at hl 3 rfl) ?_
                refine va_get (D := (dC, dI)) (ci := 1) (v := .int (nI rn)) (C := RX1) (T := TX1) (N := 10) hx hb hts hin1 hown hK hP 0 rfl rfl 0 (by decide) lk36 (fun _ h9 => h9) rfl dX1_lineSteps_10 ?_
                refine gz_icmp_ge (tgt := 152) (za := ((i : Nat) : Int)) (zb := ((rn : Nat) : Int)) hx hb dX1_lineSteps_13 (by decide) (nI_toInt (by omega)) (nI_toInt (by omega)) (fun c_1 => False.elim (by omega)) (fun c_1 => ?_)
                refine lv_aload_n hx hb dX1_lineSteps_16 rfl (lv_at hl 3 rfl) ?_
                refine va_get (D := (dC, dI)) (ci := 1) (v := .ref ak) (C := RX1) (T := TX1) (N := 10) hx hb hts hin1 hown hK hP 0 rfl rfl 2 (by decide) lk7 (fun _ h9 => h9) rfl dX1_lineSteps_17 ?_
                refine lv_bipush (v := nI 12) hx hb dX1_lineSteps_20 (by decide) ?_
                refine lv_iload hx hb dX1_lineSteps_22 (lv_at hl 0 rfl) ?_
                refine gz_imulc (i := 12) (j := i) hx hb dX1_lineSteps_24 ?_
                refine lv_iload_n hx hb dX1_lineSteps_25 rfl (lv_at hl 4 rfl) ?_
                refine gz_iadd (i := i * 12) (j := ln) hx hb dX1_lineSteps_26 ?_
                refine lv_iconst (v := nI 1) hx hb dX1_lineSteps_27 (by decide) ?_
                refine gz_isub (i := (i * 12) + ln) (j := 1) hx hb dX1_lineSteps_28 (by omega) ?_
                refine gz_top (j := i * 12 + (ln - 1)) (by omega) ?_
                refine gz_iald (k := i * 12 + (ln - 1)) hx hb hK hP 1 0 rfl rfl (by omega) (by omega) dX1_lineSteps_29 ?_
                refine lv_istore (lv' := [(5, .int (fk (i * 12 + (ln - 1)))), (4, .int (nI i)), (3, .int (nI T)), (2, .int (nI nn)), (0, .ref gm), (1, .int (nI ln))]) hx hb dX1_lineSteps_30 hl (by decide) rfl (fun ls hl => ?_)
                refine lv_iload hx hb dX1_lineSteps_32 (lv_at hl 0 rfl) ?_
                refine lv_bipush (v := nI 6) hx hb dX1_lineSteps_34 (by decide) ?_
                refine gz_icmp_lt (tgt := 44) (za := (fk (i * 12 + (ln - 1))).toInt) (zb := ((6 : Nat) : Int)) hx hb dX1_lineSteps_36 (by decide) rfl (nI_toInt (by omega)) (fun c_2 => ?_) (fun c_2 => False.elim (by omega))
                refine lv_iload hx hb dX1_lineSteps_44 (lv_at hl 0 rfl) ?_
                refine lv_if_ne (tgt := 53) hx hb dX1_lineSteps_46 (by decide) (fun c_3 => ?_) (fun c_3 => False.elim (hk0 c_3))
                refine lv_iload_n hx hb dX1_lineSteps_53 rfl (lv_at hl 3 rfl) ?_
                refine lv_iload hx hb dX1_lineSteps_54 (lv_at hl 0 rfl) ?_
                refine gz_topI (y := nI kk) ek ?_
                refine gz_callR (W.runS (As := [.int (nI kk)]) (rest := [.int (nI nn)]) ⟨hx, hb, hml, hown, hts⟩ (cM_term l kk (by omega)) (va_cwS 1 hts gX1_lineSteps_X1_term rfl rfl rfl (by decide +kernel) ⟨Nat.le_of_ble_eq_true rfl, Nat.le_of_ble_eq_true rfl⟩) preEq rfl rfl hl.1 rfl (lv_room (Nat.le_of_ble_eq_true rfl)) dX1_lineSteps_56 ⟨Nat.le_of_ble_eq_true rfl, Nat.le_of_ble_eq_true rfl⟩) ?_
                refine gz_iadd (i := nn) (j := 1 + ksN kk) hx hb dX1_lineSteps_59 ?_
                refine lv_iload_n hx hb dX1_lineSteps_60 rfl (lv_at hl 2 rfl) ?_
                refine gz_if_le (tgt := 68) (za := ((T : Nat) : Int)) hx hb dX1_lineSteps_61 (by decide) (nI_toInt (by omega)) (fun c_4 => False.elim (by omega)) (fun c_4 => ?_)
                refine lv_iconst (v := nI 1) hx hb dX1_lineSteps_64 (by decide) ?_
                refine lv_goto (tgt := 69) hx hb dX1_lineSteps_65 (by decide) ?_
                refine gz_iadd (i := nn + (1 + ksN kk)) (j := 1) hx hb dX1_lineSteps_69 ?_
                refine lv_istore_n (lv' := [(2, .int (nI ((nn + (1 + ksN kk)) + 1))), (5, .int (fk (i * 12 + (ln - 1)))), (4, .int (nI i)), (3, .int (nI T)), (0, .ref gm), (1, .int (nI ln))]) hx hb dX1_lineSteps_70 rfl hl (by decide) rfl (fun ls hl => ?_)
                refine lv_iload hx hb dX1_lineSteps_71 (lv_at hl 1 rfl) ?_
                refine lv_if_ne (tgt := 80) hx hb dX1_lineSteps_73 (by decide) (fun c_5 => ?_) (fun c_5 => False.elim (hk0 c_5))
                refine lv_iload_n hx hb dX1_lineSteps_80 rfl (lv_at hl 3 rfl) ?_
                refine lv_iconst (v := nI 1) hx hb dX1_lineSteps_81 (by decide) ?_
                refine gz_iadd (i := T) (j := 1) hx hb dX1_lineSteps_82 ?_
                refine lv_istore_n (lv' := [(3, .int (nI (T + 1))), (2, .int (nI ((nn + (1 + ksN kk)) + 1))), (5, .int (fk (i * 12 + (ln - 1)))), (4, .int (nI i)), (0, .ref gm), (1, .int (nI ln))]) hx hb dX1_lineSteps_83 rfl hl (by decide) rfl (fun ls hl => ?_)
                refine lv_iload_n hx hb dX1_lineSteps_84 rfl (lv_at hl 5 rfl) ?_
                refine lv_aload_n hx hb dX1_lineSteps_85 rfl (lv_at hl 4 rfl) ?_
                refine va_get (D := (dC, dI)) (ci := 1) (v := .int (nI cn)) (C := RX1) (T := TX1) (N := 10) hx hb hts hin1 hown hK hP 0 rfl rfl 1 (by decide) lk40 (fun _ h9 => h9) rfl dX1_lineSteps_86 ?_
                refine gz_icmp_ge (tgt := 122) (za := ((ln : Nat) : Int)) (zb := ((cn : Nat) : Int)) hx hb dX1_lineSteps_89 (by decide) (nI_toInt (by omega)) (nI_toInt (by omega)) (fun c_6 => ?_) (fun c_6 => False.elim (by omega))
                refine lv_iconst (v := nI 0) hx hb dX1_lineSteps_122 (by decide) ?_
                refine lv_istore (lv' := [(6, .int (nI 0)), (3, .int (nI (T + 1))), (2, .int (nI ((nn + (1 + ksN kk)) + 1))), (5, .int (fk (i * 12 + (ln - 1)))), (4, .int (nI i)), (0, .ref gm), (1, .int (nI ln))]) hx hb dX1_lineSteps_123 hl (by decide) rfl (fun ls hl => ?_)
                refine lv_iload hx hb dX1_lineSteps_125 (lv_at hl 0 rfl) ?_
                refine lv_if_ne (tgt := 146) hx hb dX1_lineSteps_127 (by decide) (fun c_7 => False.elim (c_7 rfl)) (fun c_7 => ?_)
                refine lv_iload_n hx hb dX1_lineSteps_130 rfl (lv_at hl 1 rfl) ?_
                refine lv_if_ne (tgt := 140) hx hb dX1_lineSteps_131 (by decide) (fun c_8 => ?_) (fun c_8 => False.elim (gz_ne0 (by omega) (by omega) c_8))
                refine lv_iload_n hx hb dX1_lineSteps_140 rfl (lv_at hl 2 rfl) ?_
                refine lv_iconst (v := nI 1) hx hb dX1_lineSteps_141 (by decide) ?_
                refine gz_iadd (i := (nn + (1 + ksN kk)) + 1) (j := 1) hx hb dX1_lineSteps_142 ?_
                refine lv_istore_n (lv' := [(2, .int (nI (((nn + (1 + ksN kk)) + 1) + 1))), (6, .int (nI 0)), (3, .int (nI (T + 1))), (5, .int (fk (i * 12 + (ln - 1)))), (4, .int (nI i)), (0, .ref gm), (1, .int (nI ln))]) hx hb dX1_lineSteps_143 rfl hl (by decide) rfl (fun ls hl => ?_)
                refine lv_iconst (v := nI 0) hx hb dX1_lineSteps_144 (by decide) ?_
                refine lv_istore_n (lv' := [(3, .int (nI 0)), (2, .int (nI (((nn + (1 + ksN kk)) + 1) + 1))), (6, .int (nI 0)), (5, .int (fk (i * 12 + (ln - 1)))), (4, .int (nI i)), (0, .ref gm), (1, .int (nI ln))]) hx hb dX1_lineSteps_145 rfl hl (by decide) rfl (fun ls hl => ?_)
                refine lv_iinc (v := nI (i + 1)) (lv' := [(4, .int (nI (i + 1))), (3, .int (nI 0)), (2, .int (nI (((nn + (1 + ksN kk)) + 1) + 1))), (6, .int (nI 0)), (5, .int (fk (i * 12 + (ln - 1)))), (0, .ref gm), (1, .int (nI ln))]) hx hb dX1_lineSteps_146 hl (k := 4) rfl (nI_1 _) (by decide) rfl (fun ls hl => ?_)
                refine lv_goto (tgt := 7) hx hb dX1_lineSteps_149 (by decide) ?_
                exact ih (i + 1) (S + (1 + ksN kk) + (T + 1)) (0) (((nn + (1 + ksN kk)) + 1) + 1) (by omega) (by show _ = gLs1 _ _ (gLs fk fl ln i); rw [← hST]; unfold gLs1; rw [if_neg hco, if_pos hf, if_neg hk0, ck]) (by omega) ls (lv_sub hl [0, 1, 2, 5, 6] rfl)
          · have hb3 := hlk i ln (by omega) (by omega) hf
            by_cases hT : T = 0
            · skip
              refine lv_iload hx hb dX1_lineSteps_7 (lv_at hl 0 rfl) ?_
              refine lv_aload_n hx hb dX1_lineSteps_9 rfl (lv_at hl 3 rfl) ?_
              refine va_get (D := (dC, dI)) (ci := 1) (v := .int (nI rn)) (C := RX1) (T := TX1) (N := 10) hx hb hts hin1 hown hK hP 0 rfl rfl 0 (by decide) lk36 (fun _ h9 => h9) rfl dX1_lineSteps_10 ?_
              refine gz_icmp_ge (tgt := 152) (za := ((i : Nat) : Int)) (zb := ((rn : Nat) : Int)) hx hb dX1_lineSteps_13 (by decide) (nI_toInt (by omega)) (nI_toInt (by omega)) (fun c_1 => False.elim (by omega)) (fun c_1 => ?_)
              refine lv_aload_n hx hb dX1_lineSteps_16 rfl (lv_at hl 3 rfl) ?_
              refine va_get (D := (dC, dI)) (ci := 1) (v := .ref ak) (C := RX1) (T := TX1) (N := 10) hx hb hts hin1 hown hK hP 0 rfl rfl 2 (by decide) lk7 (fun _ h9 => h9) rfl dX1_lineSteps_17 ?_
              refine lv_bipush (v := nI 12) hx hb dX1_lineSteps_20 (by decide) ?_
              refine lv_iload hx hb dX1_lineSteps_22 (lv_at hl 0 rfl) ?_
              refine gz_imulc (i := 12) (j := i) hx hb dX1_lineSteps_24 ?_
              refine lv_iload_n hx hb dX1_lineSteps_25 rfl (lv_at hl 4 rfl) ?_
              refine gz_iadd (i := i * 12) (j := ln) hx hb dX1_lineSteps_26 ?_
              refine lv_iconst (v := nI 1) hx hb dX1_lineSteps_27 (by decide) ?_
              refine gz_isub (i := (i * 12) + ln) (j := 1) hx hb dX1_lineSteps_28 (by omega) ?_
              refine gz_top (j := i * 12 + (ln - 1)) (by omega) ?_
              refine gz_iald (k := i * 12 + (ln - 1)) hx hb hK hP 1 0 rfl rfl (by omega) (by omega) dX1_lineSteps_29 ?_
              refine lv_istore (lv' := [(5, .int (fk (i * 12 + (ln - 1)))), (4, .int (nI i)), (3, .int (nI T)), (2, .int (nI nn)), (0, .ref gm), (1, .int (nI ln))]) hx hb dX1_lineSteps_30 hl (by decide) rfl (fun ls hl => ?_)
              refine lv_iload hx hb dX1_lineSteps_32 (lv_at hl 0 rfl) ?_
              refine lv_bipush (v := nI 6) hx hb dX1_lineSteps_34 (by decide) ?_
              refine gz_icmp_lt (tgt := 44) (za := (fk (i * 12 + (ln - 1))).toInt) (zb := ((6 : Nat) : Int)) hx hb dX1_lineSteps_36 (by decide) rfl (nI_toInt (by omega)) (fun c_2 => ?_) (fun c_2 => False.elim (by omega))
              refine lv_iload hx hb dX1_lineSteps_44 (lv_at hl 0 rfl) ?_
              refine lv_if_ne (tgt := 53) hx hb dX1_lineSteps_46 (by decide) (fun c_3 => ?_) (fun c_3 => False.elim (hk0 c_3))
              refine lv_iload_n hx hb dX1_lineSteps_53 rfl (lv_at hl 3 rfl) ?_
              refine lv_iload hx hb dX1_lineSteps_54 (lv_at hl 0 rfl) ?_
              refine gz_topI (y := nI kk) ek ?_
              refine gz_callR (W.runS (As := [.int (nI kk)]) (rest := [.int (nI nn)]) ⟨hx, hb, hml, hown, hts⟩ (cM_term l kk (by omega)) (va_cwS 1 hts gX1_lineSteps_X1_term rfl rfl rfl (by decide +kernel) ⟨Nat.le_of_ble_eq_true rfl, Nat.le_of_ble_eq_true rfl⟩) preEq rfl rfl hl.1 rfl (lv_room (Nat.le_of_ble_eq_true rfl)) dX1_lineSteps_56 ⟨Nat.le_of_ble_eq_true rfl, Nat.le_of_ble_eq_true rfl⟩) ?_
              refine gz_iadd (i := nn) (j := 1 + ksN kk) hx hb dX1_lineSteps_59 ?_
              refine lv_iload_n hx hb dX1_lineSteps_60 rfl (lv_at hl 2 rfl) ?_
              refine gz_if_le (tgt := 68) (za := ((T : Nat) : Int)) hx hb dX1_lineSteps_61 (by decide) (nI_toInt (by omega)) (fun c_4 => ?_) (fun c_4 => False.elim (by omega))
              refine lv_iconst (v := nI 0) hx hb dX1_lineSteps_68 (by decide) ?_
              refine gz_iadd (i := nn + (1 + ksN kk)) (j := 0) hx hb dX1_lineSteps_69 ?_
              refine lv_istore_n (lv' := [(2, .int (nI ((nn + (1 + ksN kk)) + 0))), (5, .int (fk (i * 12 + (ln - 1)))), (4, .int (nI i)), (3, .int (nI T)), (0, .ref gm), (1, .int (nI ln))]) hx hb dX1_lineSteps_70 rfl hl (by decide) rfl (fun ls hl => ?_)
              refine lv_iload hx hb dX1_lineSteps_71 (lv_at hl 1 rfl) ?_
              refine lv_if_ne (tgt := 80) hx hb dX1_lineSteps_73 (by decide) (fun c_5 => ?_) (fun c_5 => False.elim (hk0 c_5))
              refine lv_iload_n hx hb dX1_lineSteps_80 rfl (lv_at hl 3 rfl) ?_
              refine lv_iconst (v := nI 1) hx hb dX1_lineSteps_81 (by decide) ?_
              refine gz_iadd (i := T) (j := 1) hx hb dX1_lineSteps_82 ?_
              refine lv_istore_n (lv' := [(3, .int (nI (T + 1))), (2, .int (nI ((nn + (1 + ksN kk)) + 0))), (5, .int (fk (i * 12 + (ln - 1)))), (4, .int (nI i)), (0, .ref gm), (1, .int (nI ln))]) hx hb dX1_lineSteps_83 rfl hl (by decide) rfl (fun ls hl => ?_)
              refine lv_iload_n hx hb dX1_lineSteps_84 rfl (lv_at hl 5 rfl) ?_
              refine lv_aload_n hx hb dX1_lineSteps_85 rfl (lv_at hl 4 rfl) ?_
              refine va_get (D := (dC, dI)) (ci := 1) (v := .int (nI cn)) (C := RX1) (T := TX1) (N := 10) hx hb hts hin1 hown hK hP 0 rfl rfl 1 (by decide) lk40 (fun _ h9 => h9) rfl dX1_lineSteps_86 ?_
              refine gz_icmp_ge (tgt := 122) (za := ((ln : Nat) : Int)) (zb := ((cn : Nat) : Int)) hx hb dX1_lineSteps_89 (by decide) (nI_toInt (by omega)) (nI_toInt (by omega)) (fun c_6 => False.elim (by omega)) (fun c_6 => ?_)
              refine lv_iload hx hb dX1_lineSteps_92 (lv_at hl 3 rfl) ?_
              refine lv_iconst (v := nI 1) hx hb dX1_lineSteps_94 (by decide) ?_
              refine gz_iadd (i := i) (j := 1) hx hb dX1_lineSteps_95 ?_
              refine lv_aload_n hx hb dX1_lineSteps_96 rfl (lv_at hl 4 rfl) ?_
              refine va_get (D := (dC, dI)) (ci := 1) (v := .int (nI rn)) (C := RX1) (T := TX1) (N := 10) hx hb hts hin1 hown hK hP 0 rfl rfl 0 (by decide) lk36 (fun _ h9 => h9) rfl dX1_lineSteps_97 ?_
              refine gz_icmp_ge (tgt := 122) (za := ((i + 1 : Nat) : Int)) (zb := ((rn : Nat) : Int)) hx hb dX1_lineSteps_100 (by decide) (nI_toInt (by omega)) (nI_toInt (by omega)) (fun c_7 => False.elim (by omega)) (fun c_7 => ?_)
              refine lv_aload_n hx hb dX1_lineSteps_103 rfl (lv_at hl 4 rfl) ?_
              refine va_get (D := (dC, dI)) (ci := 1) (v := .ref al) (C := RX1) (T := TX1) (N := 10) hx hb hts hin1 hown hK hP 0 rfl rfl 5 (by decide) lk19 (fun _ h9 => h9) rfl dX1_lineSteps_104 ?_
              refine lv_bipush (v := nI 13) hx hb dX1_lineSteps_107 (by decide) ?_
              refine lv_iload hx hb dX1_lineSteps_109 (lv_at hl 3 rfl) ?_
              refine gz_imulc (i := 13) (j := i) hx hb dX1_lineSteps_111 ?_
              refine lv_iload_n hx hb dX1_lineSteps_112 rfl (lv_at hl 5 rfl) ?_
              refine gz_iadd (i := i * 13) (j := ln) hx hb dX1_lineSteps_113 ?_
              refine gz_zald (k := (i * 13) + ln) hx hb hK hP 4 1 rfl rfl (by omega) (by omega) dX1_lineSteps_114 ?_
              refine lv_if_eq (tgt := 122) hx hb dX1_lineSteps_115 (by decide) (fun c_8 => False.elim (absurd (hf.symm.trans c_8) (by decide))) (fun c_8 => ?_)
              refine lv_iconst (v := nI 1) hx hb dX1_lineSteps_118 (by decide) ?_
              refine lv_goto (tgt := 123) hx hb dX1_lineSteps_119 (by decide) ?_
              refine lv_istore (lv' := [(6, .int (nI 1)), (3, .int (nI (T + 1))), (2, .int (nI ((nn + (1 + ksN kk)) + 0))), (5, .int (fk (i * 12 + (ln - 1)))), (4, .int (nI i)), (0, .ref gm), (1, .int (nI ln))]) hx hb dX1_lineSteps_123 hl (by decide) rfl (fun ls hl => ?_)
              refine lv_iload hx hb dX1_lineSteps_125 (lv_at hl 0 rfl) ?_
              refine lv_if_ne (tgt := 146) hx hb dX1_lineSteps_127 (by decide) (fun c_9 => ?_) (fun c_9 => False.elim (absurd c_9 (by decide)))
              refine lv_iinc (v := nI (i + 1)) (lv' := [(4, .int (nI (i + 1))), (6, .int (nI 1)), (3, .int (nI (T + 1))), (2, .int (nI ((nn + (1 + ksN kk)) + 0))), (5, .int (fk (i * 12 + (ln - 1)))), (0, .ref gm), (1, .int (nI ln))]) hx hb dX1_lineSteps_146 hl (k := 4) rfl (nI_1 _) (by decide) rfl (fun ls hl => ?_)
              refine lv_goto (tgt := 7) hx hb dX1_lineSteps_149 (by decide) ?_
              exact ih (i + 1) (S + (1 + ksN kk)) (T + 1) ((nn + (1 + ksN kk)) + 0) (by omega) (by show _ = gLs1 _ _ (gLs fk fl ln i); rw [← hST]; unfold gLs1; rw [if_neg hco, if_neg (by rw [hf]; decide), if_neg hk0, ck]) (by omega) ls (lv_sub hl [0, 2, 3, 5, 6] rfl)
            · skip
              refine lv_iload hx hb dX1_lineSteps_7 (lv_at hl 0 rfl) ?_
              refine lv_aload_n hx hb dX1_lineSteps_9 rfl (lv_at hl 3 rfl) ?_
              refine va_get (D := (dC, dI)) (ci := 1) (v := .int (nI rn)) (C := RX1) (T := TX1) (N := 10) hx hb hts hin1 hown hK hP 0 rfl rfl 0 (by decide) lk36 (fun _ h9 => h9) rfl dX1_lineSteps_10 ?_
              refine gz_icmp_ge (tgt := 152) (za := ((i : Nat) : Int)) (zb := ((rn : Nat) : Int)) hx hb dX1_lineSteps_13 (by decide) (nI_toInt (by omega)) (nI_toInt (by omega)) (fun c_1 => False.elim (by omega)) (fun c_1 => ?_)
              refine lv_aload_n hx hb dX1_lineSteps_16 rfl (lv_at hl 3 rfl) ?_
              refine va_get (D := (dC, dI)) (ci := 1) (v := .ref ak) (C := RX1) (T := TX1) (N := 10) hx hb hts hin1 hown hK hP 0 rfl rfl 2 (by decide) lk7 (fun _ h9 => h9) rfl dX1_lineSteps_17 ?_
              refine lv_bipush (v := nI 12) hx hb dX1_lineSteps_20 (by decide) ?_
              refine lv_iload hx hb dX1_lineSteps_22 (lv_at hl 0 rfl) ?_
              refine gz_imulc (i := 12) (j := i) hx hb dX1_lineSteps_24 ?_
              refine lv_iload_n hx hb dX1_lineSteps_25 rfl (lv_at hl 4 rfl) ?_
              refine gz_iadd (i := i * 12) (j := ln) hx hb dX1_lineSteps_26 ?_
              refine lv_iconst (v := nI 1) hx hb dX1_lineSteps_27 (by decide) ?_
              refine gz_isub (i := (i * 12) + ln) (j := 1) hx hb dX1_lineSteps_28 (by omega) ?_
              refine gz_top (j := i * 12 + (ln - 1)) (by omega) ?_
              refine gz_iald (k := i * 12 + (ln - 1)) hx hb hK hP 1 0 rfl rfl (by omega) (by omega) dX1_lineSteps_29 ?_
              refine lv_istore (lv' := [(5, .int (fk (i * 12 + (ln - 1)))), (4, .int (nI i)), (3, .int (nI T)), (2, .int (nI nn)), (0, .ref gm), (1, .int (nI ln))]) hx hb dX1_lineSteps_30 hl (by decide) rfl (fun ls hl => ?_)
              refine lv_iload hx hb dX1_lineSteps_32 (lv_at hl 0 rfl) ?_
              refine lv_bipush (v := nI 6) hx hb dX1_lineSteps_34 (by decide) ?_
              refine gz_icmp_lt (tgt := 44) (za := (fk (i * 12 + (ln - 1))).toInt) (zb := ((6 : Nat) : Int)) hx hb dX1_lineSteps_36 (by decide) rfl (nI_toInt (by omega)) (fun c_2 => ?_) (fun c_2 => False.elim (by omega))
              refine lv_iload hx hb dX1_lineSteps_44 (lv_at hl 0 rfl) ?_
              refine lv_if_ne (tgt := 53) hx hb dX1_lineSteps_46 (by decide) (fun c_3 => ?_) (fun c_3 => False.elim (hk0 c_3))
              refine lv_iload_n hx hb dX1_lineSteps_53 rfl (lv_at hl 3 rfl) ?_
              refine lv_iload hx hb dX1_lineSteps_54 (lv_at hl 0 rfl) ?_
              refine gz_topI (y := nI kk) ek ?_
              refine gz_callR (W.runS (As := [.int (nI kk)]) (rest := [.int (nI nn)]) ⟨hx, hb, hml, hown, hts⟩ (cM_term l kk (by omega)) (va_cwS 1 hts gX1_lineSteps_X1_term rfl rfl rfl (by decide +kernel) ⟨Nat.le_of_ble_eq_true rfl, Nat.le_of_ble_eq_true rfl⟩) preEq rfl rfl hl.1 rfl (lv_room (Nat.le_of_ble_eq_true rfl)) dX1_lineSteps_56 ⟨Nat.le_of_ble_eq_true rfl, Nat.le_of_ble_eq_true rfl⟩) ?_
              refine gz_iadd (i := nn) (j := 1 + ksN kk) hx hb dX1_lineSteps_59 ?_
              refine lv_iload_n hx hb dX1_lineSteps_60 rfl (lv_at hl 2 rfl) ?_
              refine gz_if_le (tgt := 68) (za := ((T : Nat) : Int)) hx hb dX1_lineSteps_61 (by decide) (nI_toInt (by omega)) (fun c_4 => False.elim (by omega)) (fun c_4 => ?_)
              refine lv_iconst (v := nI 1) hx hb dX1_lineSteps_64 (by decide) ?_
              refine lv_goto (tgt := 69) hx hb dX1_lineSteps_65 (by decide) ?_
              refine gz_iadd (i := nn + (1 + ksN kk)) (j := 1) hx hb dX1_lineSteps_69 ?_
              refine lv_istore_n (lv' := [(2, .int (nI ((nn + (1 + ksN kk)) + 1))), (5, .int (fk (i * 12 + (ln - 1)))), (4, .int (nI i)), (3, .int (nI T)), (0, .ref gm), (1, .int (nI ln))]) hx hb dX1_lineSteps_70 rfl hl (by decide) rfl (fun ls hl => ?_)
              refine lv_iload hx hb dX1_lineSteps_71 (lv_at hl 1 rfl) ?_
              refine lv_if_ne (tgt := 80) hx hb dX1_lineSteps_73 (by decide) (fun c_5 => ?_) (fun c_5 => False.elim (hk0 c_5))
              refine lv_iload_n hx hb dX1_lineSteps_80 rfl (lv_at hl 3 rfl) ?_
              refine lv_iconst (v := nI 1) hx hb dX1_lineSteps_81 (by decide) ?_
              refine gz_iadd (i := T) (j := 1) hx hb dX1_lineSteps_82 ?_
              refine lv_istore_n (lv' := [(3, .int (nI (T + 1))), (2, .int (nI ((nn + (1 + ksN kk)) + 1))), (5, .int (fk (i * 12 + (ln - 1)))), (4, .int (nI i)), (0, .ref gm), (1, .int (nI ln))]) hx hb dX1_lineSteps_83 rfl hl (by decide) rfl (fun ls hl => ?_)
              refine lv_iload_n hx hb dX1_lineSteps_84 rfl (lv_at hl 5 rfl) ?_
              refine lv_aload_n hx hb dX1_lineSteps_85 rfl (lv_at hl 4 rfl) ?_
              refine va_get (D := (dC, dI)) (ci := 1) (v := .int (nI cn)) (C := RX1) (T := TX1) (N := 10) hx hb hts hin1 hown hK hP 0 rfl rfl 1 (by decide) lk40 (fun _ h9 => h9) rfl dX1_lineSteps_86 ?_
              refine gz_icmp_ge (tgt := 122) (za := ((ln : Nat) : Int)) (zb := ((cn : Nat) : Int)) hx hb dX1_lineSteps_89 (by decide) (nI_toInt (by omega)) (nI_toInt (by omega)) (fun c_6 => False.elim (by omega)) (fun c_6 => ?_)
              refine lv_iload hx hb dX1_lineSteps_92 (lv_at hl 3 rfl) ?_
              refine lv_iconst (v := nI 1) hx hb dX1_lineSteps_94 (by decide) ?_
              refine gz_iadd (i := i) (j := 1) hx hb dX1_lineSteps_95 ?_
              refine lv_aload_n hx hb dX1_lineSteps_96 rfl (lv_at hl 4 rfl) ?_
              refine va_get (D := (dC, dI)) (ci := 1) (v := .int (nI rn)) (C := RX1) (T := TX1) (N := 10) hx hb hts hin1 hown hK hP 0 rfl rfl 0 (by decide) lk36 (fun _ h9 => h9) rfl dX1_lineSteps_97 ?_
              refine gz_icmp_ge (tgt := 122) (za := ((i + 1 : Nat) : Int)) (zb := ((rn : Nat) : Int)) hx hb dX1_lineSteps_100 (by decide) (nI_toInt (by omega)) (nI_toInt (by omega)) (fun c_7 => False.elim (by omega)) (fun c_7 => ?_)
              refine lv_aload_n hx hb dX1_lineSteps_103 rfl (lv_at hl 4 rfl) ?_
              refine va_get (D := (dC, dI)) (ci := 1) (v := .ref al) (C := RX1) (T := TX1) (N := 10) hx hb hts hin1 hown hK hP 0 rfl rfl 5 (by decide) lk19 (fun _ h9 => h9) rfl dX1_lineSteps_104 ?_
              refine lv_bipush (v := nI 13) hx hb dX1_lineSteps_107 (by decide) ?_
              refine lv_iload hx hb dX1_lineSteps_109 (lv_at hl 3 rfl) ?_
              refine gz_imulc (i := 13) (j := i) hx hb dX1_lineSteps_111 ?_
              refine lv_iload_n hx hb dX1_lineSteps_112 rfl (lv_at hl 5 rfl) ?_
              refine gz_iadd (i := i * 13) (j := ln) hx hb dX1_lineSteps_113 ?_
              refine gz_zald (k := (i * 13) + ln) hx hb hK hP 4 1 rfl rfl (by omega) (by omega) dX1_lineSteps_114 ?_
              refine lv_if_eq (tgt := 122) hx hb dX1_lineSteps_115 (by decide) (fun c_8 => False.elim (absurd (hf.symm.trans c_8) (by decide))) (fun c_8 => ?_)
              refine lv_iconst (v := nI 1) hx hb dX1_lineSteps_118 (by decide) ?_
              refine lv_goto (tgt := 123) hx hb dX1_lineSteps_119 (by decide) ?_
              refine lv_istore (lv' := [(6, .int (nI 1)), (3, .int (nI (T + 1))), (2, .int (nI ((nn + (1 + ksN kk)) + 1))), (5, .int (fk (i * 12 + (ln - 1)))), (4, .int (nI i)), (0, .ref gm), (1, .int (nI ln))]) hx hb dX1_lineSteps_123 hl (by decide) rfl (fun ls hl => ?_)
              refine lv_iload hx hb dX1_lineSteps_125 (lv_at hl 0 rfl) ?_
              refine lv_if_ne (tgt := 146) hx hb dX1_lineSteps_127 (by decide) (fun c_9 => ?_) (fun c_9 => False.elim (absurd c_9 (by decide)))
              refine lv_iinc (v := nI (i + 1)) (lv' := [(4, .int (nI (i + 1))), (6, .int (nI 1)), (3, .int (nI (T + 1))), (2, .int (nI ((nn + (1 + ksN kk)) + 1))), (5, .int (fk (i * 12 + (ln - 1)))), (0, .ref gm), (1, .int (nI ln))]) hx hb dX1_lineSteps_146 hl (k := 4) rfl (nI_1 _) (by decide) rfl (fun ls hl => ?_)
              refine lv_goto (tgt := 7) hx hb dX1_lineSteps_149 (by decide) ?_
              exact ih (i + 1) (S + (1 + ksN kk)) (T + 1) ((nn + (1 + ksN kk)) + 1) (by omega) (by show _ = gLs1 _ _ (gLs fk fl ln i); rw [← hST]; unfold gLs1; rw [if_neg hco, if_neg (by rw [hf]; decide), if_neg hk0, ck]) (by omega) ls (lv_sub hl [0, 2, 3, 5, 6] rfl)
  refine lv_iconst (v := nI 0) hx hb dX1_lineSteps_0 (by decide) ?_
  refine lv_istore_n (lv' := [(2, .int (nI 0)), (0, .ref gm), (1, .int (nI ln))]) hx hb dX1_lineSteps_1 rfl hl (by decide) rfl (fun ls hl => ?_)
  refine lv_iconst (v := nI 0) hx hb dX1_lineSteps_2 (by decide) ?_
  refine lv_istore_n (lv' := [(3, .int (nI 0)), (2, .int (nI 0)), (0, .ref gm), (1, .int (nI ln))]) hx hb dX1_lineSteps_3 rfl hl (by decide) rfl (fun ls hl => ?_)
  refine lv_iconst (v := nI 0) hx hb dX1_lineSteps_4 (by decide) ?_
  refine lv_istore (lv' := [(4, .int (nI 0)), (3, .int (nI 0)), (2, .int (nI 0)), (0, .ref gm), (1, .int (nI ln))]) hx hb dX1_lineSteps_5 hl (by decide) rfl (fun ls hl => ?_)
  exact loop rn 0 0 0 0 (by omega) rfl rfl ls (lv_sub hl [0, 1, 2, 3, 4] rfl)
