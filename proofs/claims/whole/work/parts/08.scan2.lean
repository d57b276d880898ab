set_option maxHeartbeats 4000000 in
set_option maxRecDepth 100000 in
theorem cG_scan (l : Launch) (dC : Nat → ClassId) (dI : Nat → Nat → Nat) (sz : Nat) (cA cZ : ClassId) (h qk qc qs ql qp qv : Nat) (fk fc fs fl fp fv : Nat → Int32) (rn cn : Nat) (sc : Int32)  (hrn : 1 ≤ rn ∧ rn ≤ 12) (hcn : 1 ≤ cn ∧ cn ≤ 12) (hcI : ∀ k, k < 144 → vp_in (fc k) 40) : Met l yX0_scan wsX0_scan ({ frames := 2, cells := 0, slots := 0, locals := 47 }) (gPw (dC, dI) vwCl [(cA, .int), (cZ, .boolean)] [.ref h] sz (gw cA h qk qc qs ql qp qv fk fc fs fl fp fv (nI rn) (nI cn) sc)) (gQA (dC, dI) vwCl [(cA, .int), (cZ, .boolean)] ((gCo fk fc (gCols fk fc fl fv rn (gP0 fp rn, fs) cn).1 cn (fv, nI 0) rn).2) (va_A (gw cA h qk qc qs ql qp qv fk fc fs fl fp fv (nI rn) (nI cn) sc) sz) (gw cA h qk qc qs ql qp qv fk fc ((gCols fk fc fl fv rn (gP0 fp rn, fs) cn).2) fl ((gCols fk fc fl fv rn (gP0 fp rn, fs) cn).1) ((gCo fk fc (gCols fk fc fl fv rn (gP0 fp rn, fs) cn).1 cn (fv, nI 0) rn).1) (nI rn) (nI cn) (nI 1))) 0 0 (va_A (gw cA h qk qc qs ql qp qv fk fc fs fl fp fv (nI rn) (nI cn) sc) sz) := by
  refine Met.ofW (cc := cX0_scan) (maxL := 2) (ret := (some .int)) (by decide) rfl ?_
  intro p e s m args below meth c s₁ B hml hv
  obtain ⟨rfl, hsz, hP, hK, hD0⟩ := hv
  have hx := B.exec
  have hb := B.bytes
  have hr := B.returns
  have hts := atoms_spec (ws := wsX0_scan) B.pre
  have hown : s.vm.findClass RX0 = some m.cls := findClass_of_methodNamed B.named
  have hlocks := B.notSynchronized
  subst hsz
  have hD := hD0.self (sz := s.heap.size)
  generalize hAe : va_A (gw cA h qk qc qs ql qp qv fk fc fs fl fp fv (nI rn) (nI cn) sc) s.heap.size = A at hD ⊢
  have hA : ∀ q : Nat, s.heap.size ≤ q → A q := fun q h => by rw [← hAe]; exact Or.inr h
  have hS : va_S A s.heap s.heap [] := va_S.rf
  have hin0 : ∀ w ∈ u_ws RX0 TX0 9, w ∈ wsX0_scan := by decide +kernel
  have lk28 := hts (.fieldLink RX0 28 "LadderGrid" "rows" "I") (by decide +kernel)
  have lk22 := hts (.fieldLink RX0 22 "LadderGrid" "powered" "[I") (by decide +kernel)
  have lk32 := hts (.fieldLink RX0 32 "LadderGrid" "columns" "I") (by decide +kernel)
  have lk35 := hts (.fieldLink RX0 35 "LadderGrid" "scanned" "Z") (by decide +kernel)
  have hl := lv_entry ([.ref h]) (n := 2) (Nat.le_of_ble_eq_true rfl)
  rw [lg_entry_eq]
  generalize (lg_sl ([.ref h]) ++ List.replicate (2 - (lg_sl ([.ref h])).length) Slot.unset).toArray = ls at hl ⊢
  have hl : lv_has ls 2 [(0, .ref h)] := hl
  suffices key : ∀ (H : Heap) (locs : List Loc), va_P (dC, dI) vwCl (gw cA h qk qc qs ql qp qv fk fc fs fl fp fv (nI rn) (nI cn) sc) H → va_D A (gw cA h qk qc qs ql qp qv fk fc fs fl fp fv (nI rn) (nI cn) sc) → va_S A s.heap H locs → W p l e (headSpec wsX0_scan ({ frames := 2, cells := 0, slots := 0, locals := 47 })).room s m ([.ref h] : List Value).toArray below meth c H locs 0 0 (MQ below (gQA (dC, dI) vwCl [(cA, .int), (cZ, .boolean)] ((gCo fk fc (gCols fk fc fl fv rn (gP0 fp rn, fs) cn).1 cn (fv, nI 0) rn).2) A (gw cA h qk qc qs ql qp qv fk fc ((gCols fk fc fl fv rn (gP0 fp rn, fs) cn).2) fl ((gCols fk fc fl fv rn (gP0 fp rn, fs) cn).1) ((gCo fk fc (gCols fk fc fl fv rn (gP0 fp rn, fs) cn).1 cn (fv, nI 0) rn).1) (nI rn) (nI cn) (nI 1))) ([.ref h] : List Value).toArray s 0 0 A) (F0 m 0 ls []) from key s.heap [] hP hD hS
  clear hP hD hS
  intro H locs hP hD hS
  have loop2 : ∀ (n : Nat) (j : Nat) (q : (Nat → Int32) × (Nat → Int32)), j + n = cn → q = gCols fk fc fl fv rn (gP0 fp rn, fs) j → ∀ (H : Heap) (locs : List Loc), va_P (dC, dI) vwCl (gw cA h qk qc qs ql qp qv fk fc q.2 fl q.1 fv (nI rn) (nI cn) sc) H → va_D A (gw cA h qk qc qs ql qp qv fk fc q.2 fl q.1 fv (nI rn) (nI cn) sc) → va_S A s.heap H locs → ∀ (ls : Array Slot), lv_has ls 2 [(1, .int (nI j)), (0, .ref h)] → W p l e (headSpec wsX0_scan ({ frames := 2, cells := 0, slots := 0, locals := 47 })).room s m ([.ref h] : List Value).toArray below meth c H locs 0 0 (MQ below (gQA (dC, dI) vwCl [(cA, .int), (cZ, .boolean)] ((gCo fk fc (gCols fk fc fl fv rn (gP0 fp rn, fs) cn).1 cn (fv, nI 0) rn).2) A (gw cA h qk qc qs ql qp qv fk fc ((gCols fk fc fl fv rn (gP0 fp rn, fs) cn).2) fl ((gCols fk fc fl fv rn (gP0 fp rn, fs) cn).1) ((gCo fk fc (gCols fk fc fl fv rn (gP0 fp rn, fs) cn).1 cn (fv, nI 0) rn).1) (nI rn) (nI cn) (nI 1))) ([.ref h] : List Value).toArray s 0 0 A) (F0 m 29 ls []) := by
    intro n
    induction n with
    | zero =>
      intro j q hj hq H locs hP hD hS ls hl
      refine lv_iload_n hx hb dX0_scan_29 rfl (lv_at hl 0 rfl) ?_
      refine lv_aload_n hx hb dX0_scan_30 rfl (lv_at hl 1 rfl) ?_
      refine va_get (D := (dC, dI)) (ci := 0) (v := .int (nI cn)) (C := RX0) (T := TX0) (N := 9) hx hb hts hin0 hown hK hP 0 rfl rfl 7 (by decide) lk32 (fun _ h9 => h9) rfl dX0_scan_31 ?_
      refine gz_icmp_ge (tgt := 55) (za := ((j : Nat) : Int)) (zb := ((cn : Nat) : Int)) hx hb dX0_scan_34 (by decide) (nI_toInt (by omega)) (nI_toInt (by omega)) (fun c_1 => ?_) (fun c_1 => False.elim (by omega))
      refine lv_aload_n hx hb dX0_scan_55 rfl (lv_at hl 1 rfl) ?_
      refine lv_iconst (v := nI 1) hx hb dX0_scan_56 (by decide) ?_
      refine va_put (D := (dC, dI)) (ci := 0) (v := .int (nI 1)) (ty := .boolean) (C := RX0) (T := TX0) (N := 9) hx hb hts hin0 tyX0 tyX0_ok nmX0 hown hK hP hD hS 0 rfl rfl 8 (by decide) lk35 (fun _ h9 => h9) rfl (by decide +kernel) rfl rfl (Nat.le_of_ble_eq_true rfl) dX0_scan_57 (fun H locs hP hD hS => ?_)
      have hP : va_P (dC, dI) vwCl (gw cA h qk qc qs ql qp qv fk fc q.2 fl q.1 fv (nI rn) (nI cn) (nI 1)) H := hP
      have hD : va_D A (gw cA h qk qc qs ql qp qv fk fc q.2 fl q.1 fv (nI rn) (nI cn) (nI 1)) := hD
      refine lv_aload_n hx hb dX0_scan_60 rfl (lv_at hl 1 rfl) ?_
      refine gz_calli (wc := (gw cA h qk qc qs ql qp qv fk fc q.2 fl q.1 fv (nI rn) (nI cn) (nI 1))) (wr := []) hP hD hS hA [0, 1, 2, 3, 4, 5, 6] [] rfl rfl (by decide) (by decide) (va_runV (As := []) (rest := []) ⟨hx, hb, hml, hown, hts⟩ (cG_driveCoils l dC dI H.size cA cZ h qk qc qs ql qp qv fk fc q.2 fl q.1 fv rn cn (nI 1) hrn hcn hcI) (cwV 0 hts gX0_scan_X0_driveCoils rfl rfl rfl (by decide +kernel) ⟨Nat.le_of_ble_eq_true rfl, Nat.le_of_ble_eq_true rfl⟩) (gz_preVw (q := (RX0, TX0, 9)) (ci := 0) hK hP hD [0, 1, 2, 3, 4, 5, 6] (by decide) rfl rfl rfl rfl) rfl rfl hl.1 rfl (lv_room (Nat.le_of_ble_eq_true rfl)) dX0_scan_61 ⟨Nat.le_of_ble_eq_true rfl, Nat.le_of_ble_eq_true rfl⟩) (fun H locs hP hD hS => ?_)
      have hP : va_P (dC, dI) vwCl (gw cA h qk qc qs ql qp qv fk fc q.2 fl q.1 ((gCo fk fc q.1 cn (fv, nI 0) rn).1) (nI rn) (nI cn) (nI 1)) H := hP
      have hD : va_D A (gw cA h qk qc qs ql qp qv fk fc q.2 fl q.1 ((gCo fk fc q.1 cn (fv, nI 0) rn).1) (nI rn) (nI cn) (nI 1)) := hD
      exact W.iret (v := (gCo fk fc q.1 cn (fv, nI 0) rn).2) hx hb hr (fun t ht hW => ⟨⟨(gCo fk fc q.1 cn (fv, nI 0) rn).2, (), rfl, (by rw [show (gCols fk fc fl fv rn (gP0 fp rn, fs) cn) = q by rw [hq, show j = cn by omega]]), by rw [ht]; exact (by rw [show (gCols fk fc fl fv rn (gP0 fp rn, fs) cn) = q by rw [hq, show j = cn by omega]]; exact hP), va_K.moved hW.alike hK, (by rw [show (gCols fk fc fl fv rn (gP0 fp rn, fs) cn) = q by rw [hq, show j = cn by omega]]; exact hD)⟩, hS.F ht⟩) hS.2.2 dX0_scan_64
    | succ n ih =>
      intro j q hj hq H locs hP hD hS ls hl
      refine lv_iload_n hx hb dX0_scan_29 rfl (lv_at hl 0 rfl) ?_
      refine lv_aload_n hx hb dX0_scan_30 rfl (lv_at hl 1 rfl) ?_
      refine va_get (D := (dC, dI)) (ci := 0) (v := .int (nI cn)) (C := RX0) (T := TX0) (N := 9) hx hb hts hin0 hown hK hP 0 rfl rfl 7 (by decide) lk32 (fun _ h9 => h9) rfl dX0_scan_31 ?_
      refine gz_icmp_ge (tgt := 55) (za := ((j : Nat) : Int)) (zb := ((cn : Nat) : Int)) hx hb dX0_scan_34 (by decide) (nI_toInt (by omega)) (nI_toInt (by omega)) (fun c_1 => False.elim (by omega)) (fun c_1 => ?_)
      refine lv_aload_n hx hb dX0_scan_37 rfl (lv_at hl 1 rfl) ?_
      refine lv_iload_n hx hb dX0_scan_38 rfl (lv_at hl 0 rfl) ?_
      refine gz_callv (wc := (gw cA h qk qc qs ql qp qv fk fc q.2 fl q.1 fv (nI rn) (nI cn) sc)) (wr := []) hP hD hS hA [0, 1, 2, 3, 4, 5, 6] [] rfl rfl (by decide) (by decide) (va_runV (As := [.int (nI j)]) (rest := []) ⟨hx, hb, hml, hown, hts⟩ (cG_passColumn l dC dI H.size cA cZ h qk qc qs ql qp qv fk fc q.2 fl q.1 fv rn cn sc j hrn hcn (by omega) hcI) (cwV 1 hts gX0_scan_X0_passColumn rfl rfl rfl (by decide +kernel) ⟨Nat.le_of_ble_eq_true rfl, Nat.le_of_ble_eq_true rfl⟩) (gz_preVw (q := (RX0, TX0, 9)) (ci := 0) hK hP hD [0, 1, 2, 3, 4, 5, 6] (by decide) rfl rfl rfl rfl) rfl rfl hl.1 rfl (lv_room (Nat.le_of_ble_eq_true rfl)) dX0_scan_39 ⟨Nat.le_of_ble_eq_true rfl, Nat.le_of_ble_eq_true rfl⟩) (fun H locs hP hD hS => ?_)
      have hP : va_P (dC, dI) vwCl (gw cA h qk qc qs ql qp qv fk fc ((gPs fk fc fv j (q.1, q.2) rn).2) fl ((gPs fk fc fv j (q.1, q.2) rn).1) fv (nI rn) (nI cn) sc) H := hP
      have hD : va_D A (gw cA h qk qc qs ql qp qv fk fc ((gPs fk fc fv j (q.1, q.2) rn).2) fl ((gPs fk fc fv j (q.1, q.2) rn).1) fv (nI rn) (nI cn) sc) := hD
      refine lv_aload_n hx hb dX0_scan_42 rfl (lv_at hl 1 rfl) ?_
      refine lv_iload_n hx hb dX0_scan_43 rfl (lv_at hl 0 rfl) ?_
      refine lv_iconst (v := nI 1) hx hb dX0_scan_44 (by decide) ?_
      refine gz_iadd (i := j) (j := 1) hx hb dX0_scan_45 ?_
      refine gz_callv (wc := (gw cA h qk qc qs ql qp qv fk fc ((gPs fk fc fv j (q.1, q.2) rn).2) fl ((gPs fk fc fv j (q.1, q.2) rn).1) fv (nI rn) (nI cn) sc)) (wr := []) hP hD hS hA [0, 1, 2, 3, 4, 5, 6] [] rfl rfl (by decide) (by decide) (va_runV (As := [.int (nI (j + 1))]) (rest := []) ⟨hx, hb, hml, hown, hts⟩ (cG_share l dC dI H.size cA cZ h qk qc qs ql qp qv fk fc ((gPs fk fc fv j (q.1, q.2) rn).2) fl ((gPs fk fc fv j (q.1, q.2) rn).1) fv rn cn sc (j + 1) hrn hcn (by omega)) (cwV 1 hts gX0_scan_X0_shareAlongLinks rfl rfl rfl (by decide +kernel) ⟨Nat.le_of_ble_eq_true rfl, Nat.le_of_ble_eq_true rfl⟩) (gz_preVw (q := (RX0, TX0, 9)) (ci := 0) hK hP hD [0, 1, 2, 3, 4, 5, 6] (by decide) rfl rfl rfl rfl) rfl rfl hl.1 rfl (lv_room (Nat.le_of_ble_eq_true rfl)) dX0_scan_46 ⟨Nat.le_of_ble_eq_true rfl, Nat.le_of_ble_eq_true rfl⟩) (fun H locs hP hD hS => ?_)
      have hP : va_P (dC, dI) vwCl (gw cA h qk qc qs ql qp qv fk fc ((gPs fk fc fv j (q.1, q.2) rn).2) fl (gSh fl (j + 1) rn ((gPs fk fc fv j (q.1, q.2) rn).1)) fv (nI rn) (nI cn) sc) H := hP
      have hD : va_D A (gw cA h qk qc qs ql qp qv fk fc ((gPs fk fc fv j (q.1, q.2) rn).2) fl (gSh fl (j + 1) rn ((gPs fk fc fv j (q.1, q.2) rn).1)) fv (nI rn) (nI cn) sc) := hD
      refine lv_iinc (v := nI (j + 1)) (lv' := [(1, .int (nI (j + 1))), (0, .ref h)]) hx hb dX0_scan_49 hl (k := 0) rfl (nI_1 _) (by decide) rfl (fun ls hl => ?_)
      refine lv_goto (tgt := 29) hx hb dX0_scan_52 (by decide) ?_
      exact ih (j + 1) (gSh fl (j + 1) rn ((gPs fk fc fv j (q.1, q.2) rn).1), (gPs fk fc fv j (q.1, q.2) rn).2) (by omega) (by subst hq; rfl) H locs hP hD hS ls (lv_sub hl [0, 1] rfl)
  have loop1 : ∀ (n : Nat) (i : Nat), i + n = rn → ∀ (H : Heap) (locs : List Loc), va_P (dC, dI) vwCl (gw cA h qk qc qs ql qp qv fk fc fs fl (gP0 fp i) fv (nI rn) (nI cn) sc) H → va_D A (gw cA h qk qc qs ql qp qv fk fc fs fl (gP0 fp i) fv (nI rn) (nI cn) sc) → va_S A s.heap H locs → ∀ (ls : Array Slot), lv_has ls 2 [(1, .int (nI i)), (0, .ref h)] → W p l e (headSpec wsX0_scan ({ frames := 2, cells := 0, slots := 0, locals := 47 })).room s m ([.ref h] : List Value).toArray below meth c H locs 0 0 (MQ below (gQA (dC, dI) vwCl [(cA, .int), (cZ, .boolean)] ((gCo fk fc (gCols fk fc fl fv rn (gP0 fp rn, fs) cn).1 cn (fv, nI 0) rn).2) A (gw cA h qk qc qs ql qp qv fk fc ((gCols fk fc fl fv rn (gP0 fp rn, fs) cn).2) fl ((gCols fk fc fl fv rn (gP0 fp rn, fs) cn).1) ((gCo fk fc (gCols fk fc fl fv rn (gP0 fp rn, fs) cn).1 cn (fv, nI 0) rn).1) (nI rn) (nI cn) (nI 1))) ([.ref h] : List Value).toArray s 0 0 A) (F0 m 2 ls []) := by
    intro n
    induction n with
    | zero =>
      intro i hi H locs hP hD hS ls hl
      refine lv_iload_n hx hb dX0_scan_2 rfl (lv_at hl 0 rfl) ?_
      refine lv_aload_n hx hb dX0_scan_3 rfl (lv_at hl 1 rfl) ?_
      refine va_get (D := (dC, dI)) (ci := 0) (v := .int (nI rn)) (C := RX0) (T := TX0) (N := 9) hx hb hts hin0 hown hK hP 0 rfl rfl 6 (by decide) lk28 (fun _ h9 => h9) rfl dX0_scan_4 ?_
      refine gz_icmp_ge (tgt := 27) (za := ((i : Nat) : Int)) (zb := ((rn : Nat) : Int)) hx hb dX0_scan_7 (by decide) (nI_toInt (by omega)) (nI_toInt (by omega)) (fun c_1 => ?_) (fun c_1 => False.elim (by omega))
      refine lv_iconst (v := nI 0) hx hb dX0_scan_27 (by decide) ?_
      refine lv_istore_n (lv' := [(1, .int (nI 0)), (0, .ref h)]) hx hb dX0_scan_28 rfl hl (by decide) rfl (fun ls hl => ?_)
      exact loop2 cn 0 (gP0 fp rn, fs) (by omega) rfl H locs (by rw [show i = rn by omega] at hP; exact hP) (by rw [show i = rn by omega] at hD; exact hD) hS ls (lv_sub hl [0, 1] rfl)
    | succ n ih =>
      intro i hi H locs hP hD hS ls hl
      refine lv_iload_n hx hb dX0_scan_2 rfl (lv_at hl 0 rfl) ?_
      refine lv_aload_n hx hb dX0_scan_3 rfl (lv_at hl 1 rfl) ?_
      refine va_get (D := (dC, dI)) (ci := 0) (v := .int (nI rn)) (C := RX0) (T := TX0) (N := 9) hx hb hts hin0 hown hK hP 0 rfl rfl 6 (by decide) lk28 (fun _ h9 => h9) rfl dX0_scan_4 ?_
      refine gz_icmp_ge (tgt := 27) (za := ((i : Nat) : Int)) (zb := ((rn : Nat) : Int)) hx hb dX0_scan_7 (by decide) (nI_toInt (by omega)) (nI_toInt (by omega)) (fun c_1 => False.elim (by omega)) (fun c_1 => ?_)
      refine lv_aload_n hx hb dX0_scan_10 rfl (lv_at hl 1 rfl) ?_
      refine va_get (D := (dC, dI)) (ci := 0) (v := .ref qp) (C := RX0) (T := TX0) (N := 9) hx hb hts hin0 hown hK hP 0 rfl rfl 4 (by decide) lk22 (fun _ h9 => h9) rfl dX0_scan_11 ?_
      refine lv_iload_n hx hb dX0_scan_14 rfl (lv_at hl 0 rfl) ?_
      refine lv_iconst (v := nI 0) hx hb dX0_scan_15 (by decide) ?_
      refine gz_callR (W.runS (As := [.int (nI i), .int (nI 0)]) (rest := [.ref qp]) ⟨hx, hb, hml, hown, hts⟩ (cG_pointAt l i 0) (va_cwS 2 hts gX0_scan_X0_pointAt rfl rfl rfl (by decide +kernel) ⟨Nat.le_of_ble_eq_true rfl, Nat.le_of_ble_eq_true rfl⟩) preEq rfl rfl hl.1 rfl (lv_room (Nat.le_of_ble_eq_true rfl)) dX0_scan_16 ⟨Nat.le_of_ble_eq_true rfl, Nat.le_of_ble_eq_true rfl⟩) ?_
      refine lv_iconst (v := nI 1) hx hb dX0_scan_19 (by decide) ?_
      refine gz_iast (k := i * 13 + 0) hx hb hK hP hD hS 5 0 rfl rfl (by omega) (by omega) dX0_scan_20 (fun H locs hP hD hS => ?_)
      have hP : va_P (dC, dI) vwCl (gw cA h qk qc qs ql qp qv fk fc fs fl (upd (gP0 fp i) (i * 13 + 0) (nI 1)) fv (nI rn) (nI cn) sc) H := hP
      have hD : va_D A (gw cA h qk qc qs ql qp qv fk fc fs fl (upd (gP0 fp i) (i * 13 + 0) (nI 1)) fv (nI rn) (nI cn) sc) := hD
      refine lv_iinc (v := nI (i + 1)) (lv' := [(1, .int (nI (i + 1))), (0, .ref h)]) hx hb dX0_scan_21 hl (k := 0) rfl (nI_1 _) (by decide) rfl (fun ls hl => ?_)
      refine lv_goto (tgt := 2) hx hb dX0_scan_24 (by decide) ?_
      exact ih (i + 1) (by omega) H locs hP hD hS ls (lv_sub hl [0, 1] rfl)
  refine lv_iconst (v := nI 0) hx hb dX0_scan_0 (by decide) ?_
  refine lv_istore_n (lv' := [(1, .int (nI 0)), (0, .ref h)]) hx hb dX0_scan_1 rfl hl (by decide) rfl (fun ls hl => ?_)
  exact loop1 rn 0 (by omega) H locs hP hD hS ls (lv_sub hl [0, 1] rfl)
