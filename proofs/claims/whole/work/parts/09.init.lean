set_option maxHeartbeats 4000000 in
set_option maxRecDepth 100000 in
theorem cG_init (l : Launch) (dC : Nat → ClassId) (dI : Nat → Nat → Nat) (sz : Nat) (h : Nat)  : Met l yX0_init wsX0_init ({ frames := 1, cells := 6, slots := 784, locals := 12 }) (gPw (dC, dI) vwCl [] [.ref h] sz [(h, .inr (0, [.null, .null, .null, .null, .null, .null, .int 0, .int 0, .int 0]))]) (va_Qv (fun (_ : ClassId × Nat × Nat × Nat × Nat × Nat × Nat) => True) (fun u t => va_P (dC, dI) vwCl (gw u.1 h u.2.1 u.2.2.1 u.2.2.2.1 u.2.2.2.2.1 u.2.2.2.2.2.1 u.2.2.2.2.2.2 (fun _ => nI 0) (fun _ => nI 0) (fun _ => nI 0) (fun _ => nI 0) (fun _ => nI 0) (fun _ => nI 0) (nI 1) (nI 1) (nI 0)) t.heap ∧ va_K (dC, dI) vwCl [(u.1, .int)] t ∧ va_D (va_A [(h, .inr (0, [.null, .null, .null, .null, .null, .null, .int 0, .int 0, .int 0]))] sz) (gw u.1 h u.2.1 u.2.2.1 u.2.2.2.1 u.2.2.2.2.1 u.2.2.2.2.2.1 u.2.2.2.2.2.2 (fun _ => nI 0) (fun _ => nI 0) (fun _ => nI 0) (fun _ => nI 0) (fun _ => nI 0) (fun _ => nI 0) (nI 1) (nI 1) (nI 0))) (va_A [(h, .inr (0, [.null, .null, .null, .null, .null, .null, .int 0, .int 0, .int 0]))] sz)) 6 784 (va_A [(h, .inr (0, [.null, .null, .null, .null, .null, .null, .int 0, .int 0, .int 0]))] sz) := by
  refine Met.ofW (cc := cX0_init) (maxL := 1) (ret := none) (by decide) rfl ?_
  intro p e s m args below meth c s₁ B hml hv
  obtain ⟨rfl, hsz, hP, hK, hD0⟩ := hv
  have hx := B.exec
  have hb := B.bytes
  have hr := B.returns
  have hts := atoms_spec (ws := wsX0_init) B.pre
  have hown : s.vm.findClass RX0 = some m.cls := findClass_of_methodNamed B.named
  have hlocks := B.notSynchronized
  have hin : meth.name = "<init>" := (name_of_methodNamed B.named B.method).1
  subst hsz
  have hD := hD0.self (sz := s.heap.size)
  generalize hAe : va_A [(h, .inr (0, [.null, .null, .null, .null, .null, .null, .int 0, .int 0, .int 0]))] s.heap.size = A at hD ⊢
  have hA : ∀ q : Nat, s.heap.size ≤ q → A q := fun q h => by rw [← hAe]; exact Or.inr h
  have hS : va_S A s.heap s.heap [] := va_S.rf
  have hin0 : ∀ w ∈ u_ws RX0 TX0 9, w ∈ wsX0_init := by decide +kernel
  have lk9 := hts (.fieldLink RX0 9 "LadderGrid" "kinds" "[I") (by decide +kernel)
  have lk13 := hts (.fieldLink RX0 13 "LadderGrid" "cellVariables" "[I") (by decide +kernel)
  have lk16 := hts (.fieldLink RX0 16 "LadderGrid" "seen" "[I") (by decide +kernel)
  have lk19 := hts (.fieldLink RX0 19 "LadderGrid" "links" "[I") (by decide +kernel)
  have lk22 := hts (.fieldLink RX0 22 "LadderGrid" "powered" "[I") (by decide +kernel)
  have lk25 := hts (.fieldLink RX0 25 "LadderGrid" "values" "[I") (by decide +kernel)
  have lk28 := hts (.fieldLink RX0 28 "LadderGrid" "rows" "I") (by decide +kernel)
  have lk32 := hts (.fieldLink RX0 32 "LadderGrid" "columns" "I") (by decide +kernel)
  have lk35 := hts (.fieldLink RX0 35 "LadderGrid" "scanned" "Z") (by decide +kernel)
  have hl := lv_entry ([.ref h]) (n := 1) (Nat.le_of_ble_eq_true rfl)
  rw [lg_entry_eq]
  generalize (lg_sl ([.ref h]) ++ List.replicate (1 - (lg_sl ([.ref h])).length) Slot.unset).toArray = ls at hl ⊢
  have hl : lv_has ls 1 [(0, .ref h)] := hl
  suffices key : ∀ (H : Heap) (locs : List Loc), va_P (dC, dI) vwCl [(h, .inr (0, [.null, .null, .null, .null, .null, .null, .int 0, .int 0, .int 0]))] H → va_D A [(h, .inr (0, [.null, .null, .null, .null, .null, .null, .int 0, .int 0, .int 0]))] → va_S A s.heap H locs → W p l e (headSpec wsX0_init ({ frames := 1, cells := 6, slots := 784, locals := 12 })).room s m ([.ref h] : List Value).toArray below meth c H locs 0 0 (MQ below (va_Qv (fun (_ : ClassId × Nat × Nat × Nat × Nat × Nat × Nat) => True) (fun u t => va_P (dC, dI) vwCl (gw u.1 h u.2.1 u.2.2.1 u.2.2.2.1 u.2.2.2.2.1 u.2.2.2.2.2.1 u.2.2.2.2.2.2 (fun _ => nI 0) (fun _ => nI 0) (fun _ => nI 0) (fun _ => nI 0) (fun _ => nI 0) (fun _ => nI 0) (nI 1) (nI 1) (nI 0)) t.heap ∧ va_K (dC, dI) vwCl [(u.1, .int)] t ∧ va_D A (gw u.1 h u.2.1 u.2.2.1 u.2.2.2.1 u.2.2.2.2.1 u.2.2.2.2.2.1 u.2.2.2.2.2.2 (fun _ => nI 0) (fun _ => nI 0) (fun _ => nI 0) (fun _ => nI 0) (fun _ => nI 0) (fun _ => nI 0) (nI 1) (nI 1) (nI 0))) A) ([.ref h] : List Value).toArray s 6 784 A) (F0 m 0 ls []) from key s.heap [] hP hD hS
  clear hP hD hS
  intro H locs hP hD hS
  refine lv_aload_n hx hb dX0_init_0 rfl (lv_at hl 0 rfl) ?_
  refine W.objInit hx hb hown (hts (.methodLink RX0 3 objectInit) (by decide +kernel)) (hts (.instanceMethod objectInit) (by decide +kernel)) (hts _ (List.mem_cons_of_mem _ (List.mem_append_left _ (List.mem_of_getElem? (i := 2) rfl)))) rfl (by rw [hml]; exact hl.1) rfl dX0_init_1 (Nat.le_of_ble_eq_true rfl) (Nat.le_of_ble_eq_true rfl) ?_
  refine W.eq (g2 := F0 m 4 ls []) rfl ?_
  refine lv_aload_n hx hb dX0_init_4 rfl (lv_at hl 0 rfl) ?_
  refine lv_sipush (v := nI 144) hx hb dX0_init_5 (by decide) ?_
  refine va_newa (atype := .int) (ty := .int) (a0 := (144, .inl (fun _ => nI 0))) (N' := 144) hx hb (hts (.arrayClass .int) (by decide +kernel)) rfl hK hP hD hS hA (fun _ => rfl) (by decide) (nI_clamp (by omega)) (by decide) (Nat.le_of_ble_eq_true rfl) (Nat.le_of_ble_eq_true rfl) dX0_init_8 (fun qk c1 H hK hP hD hS => ?_)
  have hP : va_P (dC, dI) vwCl [(h, .inr (0, [.null, .null, .null, .null, .null, .null, .int 0, .int 0, .int 0])), (qk, .inl (c1, 144, .inl (fun _ => nI 0)))] H := hP
  have hD : va_D A [(h, .inr (0, [.null, .null, .null, .null, .null, .null, .int 0, .int 0, .int 0])), (qk, .inl (c1, 144, .inl (fun _ => nI 0)))] := hD
  refine va_putF (D := (dC, dI)) (ci := 0) (v := .ref qk) (ty := (.array .int)) (C := RX0) (T := TX0) (N := 9) hx hb hts hin0 tyX0 tyX0_ok nmX0 hown hK hP hD hS 0 rfl rfl 0 (by decide) lk9 (fun _ h9 => h9) rfl hin rfl (by decide +kernel) rfl rfl (Nat.le_of_ble_eq_true rfl) dX0_init_10 (fun H locs hP hD hS => ?_)
  have hP : va_P (dC, dI) vwCl [(h, .inr (0, [.ref qk, .null, .null, .null, .null, .null, .int 0, .int 0, .int 0])), (qk, .inl (c1, 144, .inl (fun _ => nI 0)))] H := hP
  have hD : va_D A [(h, .inr (0, [.ref qk, .null, .null, .null, .null, .null, .int 0, .int 0, .int 0])), (qk, .inl (c1, 144, .inl (fun _ => nI 0)))] := hD
  refine lv_aload_n hx hb dX0_init_13 rfl (lv_at hl 0 rfl) ?_
  refine lv_sipush (v := nI 144) hx hb dX0_init_14 (by decide) ?_
  refine va_newa (atype := .int) (ty := .int) (a0 := (144, .inl (fun _ => nI 0))) (N' := 144) hx hb (hts (.arrayClass .int) (by decide +kernel)) rfl hK hP hD hS hA (fun _ => rfl) (by decide) (nI_clamp (by omega)) (by decide) (Nat.le_of_ble_eq_true rfl) (Nat.le_of_ble_eq_true rfl) dX0_init_17 (fun qc c2 H hK hP hD hS => ?_)
  have hP : va_P (dC, dI) vwCl [(h, .inr (0, [.ref qk, .null, .null, .null, .null, .null, .int 0, .int 0, .int 0])), (qk, .inl (c1, 144, .inl (fun _ => nI 0))), (qc, .inl (c2, 144, .inl (fun _ => nI 0)))] H := hP
  have hD : va_D A [(h, .inr (0, [.ref qk, .null, .null, .null, .null, .null, .int 0, .int 0, .int 0])), (qk, .inl (c1, 144, .inl (fun _ => nI 0))), (qc, .inl (c2, 144, .inl (fun _ => nI 0)))] := hD
  refine va_putF (D := (dC, dI)) (ci := 0) (v := .ref qc) (ty := (.array .int)) (C := RX0) (T := TX0) (N := 9) hx hb hts hin0 tyX0 tyX0_ok nmX0 hown hK hP hD hS 0 rfl rfl 1 (by decide) lk13 (fun _ h9 => h9) rfl hin rfl (by decide +kernel) rfl rfl (Nat.le_of_ble_eq_true rfl) dX0_init_19 (fun H locs hP hD hS => ?_)
  have hP : va_P (dC, dI) vwCl [(h, .inr (0, [.ref qk, .ref qc, .null, .null, .null, .null, .int 0, .int 0, .int 0])), (qk, .inl (c1, 144, .inl (fun _ => nI 0))), (qc, .inl (c2, 144, .inl (fun _ => nI 0)))] H := hP
  have hD : va_D A [(h, .inr (0, [.ref qk, .ref qc, .null, .null, .null, .null, .int 0, .int 0, .int 0])), (qk, .inl (c1, 144, .inl (fun _ => nI 0))), (qc, .inl (c2, 144, .inl (fun _ => nI 0)))] := hD
  refine lv_aload_n hx hb dX0_init_22 rfl (lv_at hl 0 rfl) ?_
  refine lv_sipush (v := nI 144) hx hb dX0_init_23 (by decide) ?_
  refine va_newa (atype := .int) (ty := .int) (a0 := (144, .inl (fun _ => nI 0))) (N' := 144) hx hb (hts (.arrayClass .int) (by decide +kernel)) rfl hK hP hD hS hA (fun _ => rfl) (by decide) (nI_clamp (by omega)) (by decide) (Nat.le_of_ble_eq_true rfl) (Nat.le_of_ble_eq_true rfl) dX0_init_26 (fun qs c3 H hK hP hD hS => ?_)
  have hP : va_P (dC, dI) vwCl [(h, .inr (0, [.ref qk, .ref qc, .null, .null, .null, .null, .int 0, .int 0, .int 0])), (qk, .inl (c1, 144, .inl (fun _ => nI 0))), (qc, .inl (c2, 144, .inl (fun _ => nI 0))), (qs, .inl (c3, 144, .inl (fun _ => nI 0)))] H := hP
  have hD : va_D A [(h, .inr (0, [.ref qk, .ref qc, .null, .null, .null, .null, .int 0, .int 0, .int 0])), (qk, .inl (c1, 144, .inl (fun _ => nI 0))), (qc, .inl (c2, 144, .inl (fun _ => nI 0))), (qs, .inl (c3, 144, .inl (fun _ => nI 0)))] := hD
  refine va_putF (D := (dC, dI)) (ci := 0) (v := .ref qs) (ty := (.array .int)) (C := RX0) (T := TX0) (N := 9) hx hb hts hin0 tyX0 tyX0_ok nmX0 hown hK hP hD hS 0 rfl rfl 2 (by decide) lk16 (fun _ h9 => h9) rfl hin rfl (by decide +kernel) rfl rfl (Nat.le_of_ble_eq_true rfl) dX0_init_28 (fun H locs hP hD hS => ?_)
  have hP : va_P (dC, dI) vwCl [(h, .inr (0, [.ref qk, .ref qc, .ref qs, .null, .null, .null, .int 0, .int 0, .int 0])), (qk, .inl (c1, 144, .inl (fun _ => nI 0))), (qc, .inl (c2, 144, .inl (fun _ => nI 0))), (qs, .inl (c3, 144, .inl (fun _ => nI 0)))] H := hP
  have hD : va_D A [(h, .inr (0, [.ref qk, .ref qc, .ref qs, .null, .null, .null, .int 0, .int 0, .int 0])), (qk, .inl (c1, 144, .inl (fun _ => nI 0))), (qc, .inl (c2, 144, .inl (fun _ => nI 0))), (qs, .inl (c3, 144, .inl (fun _ => nI 0)))] := hD
  refine lv_aload_n hx hb dX0_init_31 rfl (lv_at hl 0 rfl) ?_
  refine lv_sipush (v := nI 156) hx hb dX0_init_32 (by decide) ?_
  refine va_newa (atype := .int) (ty := .int) (a0 := (156, .inl (fun _ => nI 0))) (N' := 156) hx hb (hts (.arrayClass .int) (by decide +kernel)) rfl hK hP hD hS hA (fun _ => rfl) (by decide) (nI_clamp (by omega)) (by decide) (Nat.le_of_ble_eq_true rfl) (Nat.le_of_ble_eq_true rfl) dX0_init_35 (fun ql c4 H hK hP hD hS => ?_)
  have hP : va_P (dC, dI) vwCl [(h, .inr (0, [.ref qk, .ref qc, .ref qs, .null, .null, .null, .int 0, .int 0, .int 0])), (qk, .inl (c1, 144, .inl (fun _ => nI 0))), (qc, .inl (c2, 144, .inl (fun _ => nI 0))), (qs, .inl (c3, 144, .inl (fun _ => nI 0))), (ql, .inl (c4, 156, .inl (fun _ => nI 0)))] H := hP
  have hD : va_D A [(h, .inr (0, [.ref qk, .ref qc, .ref qs, .null, .null, .null, .int 0, .int 0, .int 0])), (qk, .inl (c1, 144, .inl (fun _ => nI 0))), (qc, .inl (c2, 144, .inl (fun _ => nI 0))), (qs, .inl (c3, 144, .inl (fun _ => nI 0))), (ql, .inl (c4, 156, .inl (fun _ => nI 0)))] := hD
  refine va_putF (D := (dC, dI)) (ci := 0) (v := .ref ql) (ty := (.array .int)) (C := RX0) (T := TX0) (N := 9) hx hb hts hin0 tyX0 tyX0_ok nmX0 hown hK hP hD hS 0 rfl rfl 3 (by decide) lk19 (fun _ h9 => h9) rfl hin rfl (by decide +kernel) rfl rfl (Nat.le_of_ble_eq_true rfl) dX0_init_37 (fun H locs hP hD hS => ?_)
  have hP : va_P (dC, dI) vwCl [(h, .inr (0, [.ref qk, .ref qc, .ref qs, .ref ql, .null, .null, .int 0, .int 0, .int 0])), (qk, .inl (c1, 144, .inl (fun _ => nI 0))), (qc, .inl (c2, 144, .inl (fun _ => nI 0))), (qs, .inl (c3, 144, .inl (fun _ => nI 0))), (ql, .inl (c4, 156, .inl (fun _ => nI 0)))] H := hP
  have hD : va_D A [(h, .inr (0, [.ref qk, .ref qc, .ref qs, .ref ql, .null, .null, .int 0, .int 0, .int 0])), (qk, .inl (c1, 144, .inl (fun _ => nI 0))), (qc, .inl (c2, 144, .inl (fun _ => nI 0))), (qs, .inl (c3, 144, .inl (fun _ => nI 0))), (ql, .inl (c4, 156, .inl (fun _ => nI 0)))] := hD
  refine lv_aload_n hx hb dX0_init_40 rfl (lv_at hl 0 rfl) ?_
  refine lv_sipush (v := nI 156) hx hb dX0_init_41 (by decide) ?_
  refine va_newa (atype := .int) (ty := .int) (a0 := (156, .inl (fun _ => nI 0))) (N' := 156) hx hb (hts (.arrayClass .int) (by decide +kernel)) rfl hK hP hD hS hA (fun _ => rfl) (by decide) (nI_clamp (by omega)) (by decide) (Nat.le_of_ble_eq_true rfl) (Nat.le_of_ble_eq_true rfl) dX0_init_44 (fun qp c5 H hK hP hD hS => ?_)
  have hP : va_P (dC, dI) vwCl [(h, .inr (0, [.ref qk, .ref qc, .ref qs, .ref ql, .null, .null, .int 0, .int 0, .int 0])), (qk, .inl (c1, 144, .inl (fun _ => nI 0))), (qc, .inl (c2, 144, .inl (fun _ => nI 0))), (qs, .inl (c3, 144, .inl (fun _ => nI 0))), (ql, .inl (c4, 156, .inl (fun _ => nI 0))), (qp, .inl (c5, 156, .inl (fun _ => nI 0)))] H := hP
  have hD : va_D A [(h, .inr (0, [.ref qk, .ref qc, .ref qs, .ref ql, .null, .null, .int 0, .int 0, .int 0])), (qk, .inl (c1, 144, .inl (fun _ => nI 0))), (qc, .inl (c2, 144, .inl (fun _ => nI 0))), (qs, .inl (c3, 144, .inl (fun _ => nI 0))), (ql, .inl (c4, 156, .inl (fun _ => nI 0))), (qp, .inl (c5, 156, .inl (fun _ => nI 0)))] := hD
  refine va_putF (D := (dC, dI)) (ci := 0) (v := .ref qp) (ty := (.array .int)) (C := RX0) (T := TX0) (N := 9) hx hb hts hin0 tyX0 tyX0_ok nmX0 hown hK hP hD hS 0 rfl rfl 4 (by decide) lk22 (fun _ h9 => h9) rfl hin rfl (by decide +kernel) rfl rfl (Nat.le_of_ble_eq_true rfl) dX0_init_46 (fun H locs hP hD hS => ?_)
  have hP : va_P (dC, dI) vwCl [(h, .inr (0, [.ref qk, .ref qc, .ref qs, .ref ql, .ref qp, .null, .int 0, .int 0, .int 0])), (qk, .inl (c1, 144, .inl (fun _ => nI 0))), (qc, .inl (c2, 144, .inl (fun _ => nI 0))), (qs, .inl (c3, 144, .inl (fun _ => nI 0))), (ql, .inl (c4, 156, .inl (fun _ => nI 0))), (qp, .inl (c5, 156, .inl (fun _ => nI 0)))] H := hP
  have hD : va_D A [(h, .inr (0, [.ref qk, .ref qc, .ref qs, .ref ql, .ref qp, .null, .int 0, .int 0, .int 0])), (qk, .inl (c1, 144, .inl (fun _ => nI 0))), (qc, .inl (c2, 144, .inl (fun _ => nI 0))), (qs, .inl (c3, 144, .inl (fun _ => nI 0))), (ql, .inl (c4, 156, .inl (fun _ => nI 0))), (qp, .inl (c5, 156, .inl (fun _ => nI 0)))] := hD
  refine lv_aload_n hx hb dX0_init_49 rfl (lv_at hl 0 rfl) ?_
  refine lv_bipush (v := nI 40) hx hb dX0_init_50 (by decide) ?_
  refine va_newa (atype := .int) (ty := .int) (a0 := (40, .inl (fun _ => nI 0))) (N' := 40) hx hb (hts (.arrayClass .int) (by decide +kernel)) rfl hK hP hD hS hA (fun _ => rfl) (by decide) (nI_clamp (by omega)) (by decide) (Nat.le_of_ble_eq_true rfl) (Nat.le_of_ble_eq_true rfl) dX0_init_52 (fun qv c6 H hK hP hD hS => ?_)
  have hP : va_P (dC, dI) vwCl [(h, .inr (0, [.ref qk, .ref qc, .ref qs, .ref ql, .ref qp, .null, .int 0, .int 0, .int 0])), (qk, .inl (c1, 144, .inl (fun _ => nI 0))), (qc, .inl (c2, 144, .inl (fun _ => nI 0))), (qs, .inl (c3, 144, .inl (fun _ => nI 0))), (ql, .inl (c4, 156, .inl (fun _ => nI 0))), (qp, .inl (c5, 156, .inl (fun _ => nI 0))), (qv, .inl (c6, 40, .inl (fun _ => nI 0)))] H := hP
  have hD : va_D A [(h, .inr (0, [.ref qk, .ref qc, .ref qs, .ref ql, .ref qp, .null, .int 0, .int 0, .int 0])), (qk, .inl (c1, 144, .inl (fun _ => nI 0))), (qc, .inl (c2, 144, .inl (fun _ => nI 0))), (qs, .inl (c3, 144, .inl (fun _ => nI 0))), (ql, .inl (c4, 156, .inl (fun _ => nI 0))), (qp, .inl (c5, 156, .inl (fun _ => nI 0))), (qv, .inl (c6, 40, .inl (fun _ => nI 0)))] := hD
  refine va_putF (D := (dC, dI)) (ci := 0) (v := .ref qv) (ty := (.array .int)) (C := RX0) (T := TX0) (N := 9) hx hb hts hin0 tyX0 tyX0_ok nmX0 hown hK hP hD hS 0 rfl rfl 5 (by decide) lk25 (fun _ h9 => h9) rfl hin rfl (by decide +kernel) rfl rfl (Nat.le_of_ble_eq_true rfl) dX0_init_54 (fun H locs hP hD hS => ?_)
  have hP : va_P (dC, dI) vwCl [(h, .inr (0, [.ref qk, .ref qc, .ref qs, .ref ql, .ref qp, .ref qv, .int 0, .int 0, .int 0])), (qk, .inl (c1, 144, .inl (fun _ => nI 0))), (qc, .inl (c2, 144, .inl (fun _ => nI 0))), (qs, .inl (c3, 144, .inl (fun _ => nI 0))), (ql, .inl (c4, 156, .inl (fun _ => nI 0))), (qp, .inl (c5, 156, .inl (fun _ => nI 0))), (qv, .inl (c6, 40, .inl (fun _ => nI 0)))] H := hP
  have hD : va_D A [(h, .inr (0, [.ref qk, .ref qc, .ref qs, .ref ql, .ref qp, .ref qv, .int 0, .int 0, .int 0])), (qk, .inl (c1, 144, .inl (fun _ => nI 0))), (qc, .inl (c2, 144, .inl (fun _ => nI 0))), (qs, .inl (c3, 144, .inl (fun _ => nI 0))), (ql, .inl (c4, 156, .inl (fun _ => nI 0))), (qp, .inl (c5, 156, .inl (fun _ => nI 0))), (qv, .inl (c6, 40, .inl (fun _ => nI 0)))] := hD
  refine lv_aload_n hx hb dX0_init_57 rfl (lv_at hl 0 rfl) ?_
  refine lv_iconst (v := nI 1) hx hb dX0_init_58 (by decide) ?_
  refine va_put (D := (dC, dI)) (ci := 0) (v := .int (nI 1)) (ty := .int) (C := RX0) (T := TX0) (N := 9) hx hb hts hin0 tyX0 tyX0_ok nmX0 hown hK hP hD hS 0 rfl rfl 6 (by decide) lk28 (fun _ h9 => h9) rfl (by decide +kernel) rfl rfl (Nat.le_of_ble_eq_true rfl) dX0_init_59 (fun H locs hP hD hS => ?_)
  have hP : va_P (dC, dI) vwCl [(h, .inr (0, [.ref qk, .ref qc, .ref qs, .ref ql, .ref qp, .ref qv, .int (nI 1), .int 0, .int 0])), (qk, .inl (c1, 144, .inl (fun _ => nI 0))), (qc, .inl (c2, 144, .inl (fun _ => nI 0))), (qs, .inl (c3, 144, .inl (fun _ => nI 0))), (ql, .inl (c4, 156, .inl (fun _ => nI 0))), (qp, .inl (c5, 156, .inl (fun _ => nI 0))), (qv, .inl (c6, 40, .inl (fun _ => nI 0)))] H := hP
  have hD : va_D A [(h, .inr (0, [.ref qk, .ref qc, .ref qs, .ref ql, .ref qp, .ref qv, .int (nI 1), .int 0, .int 0])), (qk, .inl (c1, 144, .inl (fun _ => nI 0))), (qc, .inl (c2, 144, .inl (fun _ => nI 0))), (qs, .inl (c3, 144, .inl (fun _ => nI 0))), (ql, .inl (c4, 156, .inl (fun _ => nI 0))), (qp, .inl (c5, 156, .inl (fun _ => nI 0))), (qv, .inl (c6, 40, .inl (fun _ => nI 0)))] := hD
  refine lv_aload_n hx hb dX0_init_62 rfl (lv_at hl 0 rfl) ?_
  refine lv_iconst (v := nI 1) hx hb dX0_init_63 (by decide) ?_
  refine va_put (D := (dC, dI)) (ci := 0) (v := .int (nI 1)) (ty := .int) (C := RX0) (T := TX0) (N := 9) hx hb hts hin0 tyX0 tyX0_ok nmX0 hown hK hP hD hS 0 rfl rfl 7 (by decide) lk32 (fun _ h9 => h9) rfl (by decide +kernel) rfl rfl (Nat.le_of_ble_eq_true rfl) dX0_init_64 (fun H locs hP hD hS => ?_)
  have hP : va_P (dC, dI) vwCl [(h, .inr (0, [.ref qk, .ref qc, .ref qs, .ref ql, .ref qp, .ref qv, .int (nI 1), .int (nI 1), .int 0])), (qk, .inl (c1, 144, .inl (fun _ => nI 0))), (qc, .inl (c2, 144, .inl (fun _ => nI 0))), (qs, .inl (c3, 144, .inl (fun _ => nI 0))), (ql, .inl (c4, 156, .inl (fun _ => nI 0))), (qp, .inl (c5, 156, .inl (fun _ => nI 0))), (qv, .inl (c6, 40, .inl (fun _ => nI 0)))] H := hP
  have hD : va_D A [(h, .inr (0, [.ref qk, .ref qc, .ref qs, .ref ql, .ref qp, .ref qv, .int (nI 1), .int (nI 1), .int 0])), (qk, .inl (c1, 144, .inl (fun _ => nI 0))), (qc, .inl (c2, 144, .inl (fun _ => nI 0))), (qs, .inl (c3, 144, .inl (fun _ => nI 0))), (ql, .inl (c4, 156, .inl (fun _ => nI 0))), (qp, .inl (c5, 156, .inl (fun _ => nI 0))), (qv, .inl (c6, 40, .inl (fun _ => nI 0)))] := hD
  refine lv_aload_n hx hb dX0_init_67 rfl (lv_at hl 0 rfl) ?_
  refine lv_iconst (v := nI 0) hx hb dX0_init_68 (by decide) ?_
  refine va_put (D := (dC, dI)) (ci := 0) (v := .int (nI 0)) (ty := .boolean) (C := RX0) (T := TX0) (N := 9) hx hb hts hin0 tyX0 tyX0_ok nmX0 hown hK hP hD hS 0 rfl rfl 8 (by decide) lk35 (fun _ h9 => h9) rfl (by decide +kernel) rfl rfl (Nat.le_of_ble_eq_true rfl) dX0_init_69 (fun H locs hP hD hS => ?_)
  have hP : va_P (dC, dI) vwCl [(h, .inr (0, [.ref qk, .ref qc, .ref qs, .ref ql, .ref qp, .ref qv, .int (nI 1), .int (nI 1), .int (nI 0)])), (qk, .inl (c1, 144, .inl (fun _ => nI 0))), (qc, .inl (c2, 144, .inl (fun _ => nI 0))), (qs, .inl (c3, 144, .inl (fun _ => nI 0))), (ql, .inl (c4, 156, .inl (fun _ => nI 0))), (qp, .inl (c5, 156, .inl (fun _ => nI 0))), (qv, .inl (c6, 40, .inl (fun _ => nI 0)))] H := hP
  have hD : va_D A [(h, .inr (0, [.ref qk, .ref qc, .ref qs, .ref ql, .ref qp, .ref qv, .int (nI 1), .int (nI 1), .int (nI 0)])), (qk, .inl (c1, 144, .inl (fun _ => nI 0))), (qc, .inl (c2, 144, .inl (fun _ => nI 0))), (qs, .inl (c3, 144, .inl (fun _ => nI 0))), (ql, .inl (c4, 156, .inl (fun _ => nI 0))), (qp, .inl (c5, 156, .inl (fun _ => nI 0))), (qv, .inl (c6, 40, .inl (fun _ => nI 0)))] := hD
  have e2 : c1 = c2 := by
    have h1 : s.vm.findClass ("[" ++ FieldType.int.toString) = some c1 := (hK.2 0 (c1, .int) rfl).2
    have h2 : s.vm.findClass ("[" ++ FieldType.int.toString) = some c2 := (hK.2 1 (c2, .int) rfl).2
    exact Option.some.inj (h1.symm.trans h2)
  have e3 : c1 = c3 := by
    have h1 : s.vm.findClass ("[" ++ FieldType.int.toString) = some c1 := (hK.2 0 (c1, .int) rfl).2
    have h2 : s.vm.findClass ("[" ++ FieldType.int.toString) = some c3 := (hK.2 2 (c3, .int) rfl).2
    exact Option.some.inj (h1.symm.trans h2)
  have e4 : c1 = c4 := by
    have h1 : s.vm.findClass ("[" ++ FieldType.int.toString) = some c1 := (hK.2 0 (c1, .int) rfl).2
    have h2 : s.vm.findClass ("[" ++ FieldType.int.toString) = some c4 := (hK.2 3 (c4, .int) rfl).2
    exact Option.some.inj (h1.symm.trans h2)
  have e5 : c1 = c5 := by
    have h1 : s.vm.findClass ("[" ++ FieldType.int.toString) = some c1 := (hK.2 0 (c1, .int) rfl).2
    have h2 : s.vm.findClass ("[" ++ FieldType.int.toString) = some c5 := (hK.2 4 (c5, .int) rfl).2
    exact Option.some.inj (h1.symm.trans h2)
  have e6 : c1 = c6 := by
    have h1 : s.vm.findClass ("[" ++ FieldType.int.toString) = some c1 := (hK.2 0 (c1, .int) rfl).2
    have h2 : s.vm.findClass ("[" ++ FieldType.int.toString) = some c6 := (hK.2 5 (c6, .int) rfl).2
    exact Option.some.inj (h1.symm.trans h2)
  subst e2 e3 e4 e5 e6
  have hK9 := hK.sub (tys' := [(c1, .int)]) [0] rfl
  refine W.widen (k := 6) (n := 784) (by omega) (by omega) ?_
  exact W.vret hx hb hr (fun t ht hW => ⟨⟨(c1, qk, qc, qs, ql, qp, qv), rfl, trivial, by rw [ht]; exact hP, va_K.moved hW.alike hK9, hD⟩, hS.F ht⟩) hS.2.2 dX0_init_72
