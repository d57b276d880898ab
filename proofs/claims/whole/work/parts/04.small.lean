set_option maxHeartbeats 4000000 in
set_option maxRecDepth 100000 in
theorem cG_cellAt (l : Launch) (i j : Nat)  : Met l yX0_cellAt wsX0_cellAt ({ frames := 0, cells := 0, slots := 0, locals := 0 }) (fun vv _ => vv = ([.int (nI i), .int (nI j)] : List Value).toArray) (QcRead (nI (i * 12 + j))) 0 0 (fun _ => False) := by
  refine Met.ofW (cc := cX0_cellAt) (maxL := 2) (ret := (some .int)) (by decide) rfl ?_
  intro p e s m args below meth c s₁ B hml hv
  subst hv
  have hx := B.exec
  have hb := B.bytes
  have hr := B.returns
  have hts := atoms_spec (ws := wsX0_cellAt) B.pre
  have hown : s.vm.findClass RX0 = some m.cls := findClass_of_methodNamed B.named
  have hlocks := B.notSynchronized
  have hl := lv_entry ([.int (nI i), .int (nI j)]) (n := 2) (Nat.le_of_ble_eq_true rfl)
  rw [lg_entry_eq]
  generalize (lg_sl ([.int (nI i), .int (nI j)]) ++ List.replicate (2 - (lg_sl ([.int (nI i), .int (nI j)])).length) Slot.unset).toArray = ls at hl ⊢
  have hl : lv_has ls 2 [(0, .int (nI i)), (1, .int (nI j))] := hl
  refine lv_iload_n hx hb dX0_cellAt_0 rfl (lv_at hl 0 rfl) ?_
  refine lv_bipush (v := nI 12) hx hb dX0_cellAt_1 (by decide) ?_
  refine gz_imul (i := i) (j := 12) hx hb dX0_cellAt_3 ?_
  refine lv_iload_n hx hb dX0_cellAt_4 rfl (lv_at hl 1 rfl) ?_
  refine gz_iadd (i := i * 12) (j := j) hx hb dX0_cellAt_5 ?_
  exact W.iret (v := nI ((i * 12) + j)) hx hb hr (fun t ht hW => ⟨rfl, ht⟩) (fun q h => absurd h List.not_mem_nil) dX0_cellAt_6
set_option maxHeartbeats 4000000 in
set_option maxRecDepth 100000 in
theorem cG_pointAt (l : Launch) (i j : Nat)  : Met l yX0_pointAt wsX0_pointAt ({ frames := 0, cells := 0, slots := 0, locals := 0 }) (fun vv _ => vv = ([.int (nI i), .int (nI j)] : List Value).toArray) (QcRead (nI (i * 13 + j))) 0 0 (fun _ => False) := by
  refine Met.ofW (cc := cX0_pointAt) (maxL := 2) (ret := (some .int)) (by decide) rfl ?_
  intro p e s m args below meth c s₁ B hml hv
  subst hv
  have hx := B.exec
  have hb := B.bytes
  have hr := B.returns
  have hts := atoms_spec (ws := wsX0_pointAt) B.pre
  have hown : s.vm.findClass RX0 = some m.cls := findClass_of_methodNamed B.named
  have hlocks := B.notSynchronized
  have hl := lv_entry ([.int (nI i), .int (nI j)]) (n := 2) (Nat.le_of_ble_eq_true rfl)
  rw [lg_entry_eq]
  generalize (lg_sl ([.int (nI i), .int (nI j)]) ++ List.replicate (2 - (lg_sl ([.int (nI i), .int (nI j)])).length) Slot.unset).toArray = ls at hl ⊢
  have hl : lv_has ls 2 [(0, .int (nI i)), (1, .int (nI j))] := hl
  refine lv_iload_n hx hb dX0_pointAt_0 rfl (lv_at hl 0 rfl) ?_
  refine lv_bipush (v := nI 13) hx hb dX0_pointAt_1 (by decide) ?_
  refine gz_imul (i := i) (j := 13) hx hb dX0_pointAt_3 ?_
  refine lv_iload_n hx hb dX0_pointAt_4 rfl (lv_at hl 1 rfl) ?_
  refine gz_iadd (i := i * 13) (j := j) hx hb dX0_pointAt_5 ?_
  exact W.iret (v := nI ((i * 13) + j)) hx hb hr (fun t ht hW => ⟨rfl, ht⟩) (fun q h => absurd h List.not_mem_nil) dX0_pointAt_6
set_option maxHeartbeats 4000000 in
set_option maxRecDepth 100000 in
theorem cG_isCoil (l : Launch) (x : Int32)  : Met l yX0_isCoil wsX0_isCoil ({ frames := 0, cells := 0, slots := 0, locals := 0 }) (fun vv _ => vv = ([.int x] : List Value).toArray) (QcRead (if 6 ≤ x.toInt then nI 1 else nI 0)) 0 0 (fun _ => False) := by
  refine Met.ofW (cc := cX0_isCoil) (maxL := 1) (ret := (some .boolean)) (by decide) rfl ?_
  intro p e s m args below meth c s₁ B hml hv
  subst hv
  have hx := B.exec
  have hb := B.bytes
  have hr := B.returns
  have hts := atoms_spec (ws := wsX0_isCoil) B.pre
  have hown : s.vm.findClass RX0 = some m.cls := findClass_of_methodNamed B.named
  have hlocks := B.notSynchronized
  have hl := lv_entry ([.int x]) (n := 1) (Nat.le_of_ble_eq_true rfl)
  rw [lg_entry_eq]
  generalize (lg_sl ([.int x]) ++ List.replicate (1 - (lg_sl ([.int x])).length) Slot.unset).toArray = ls at hl ⊢
  have hl : lv_has ls 1 [(0, .int (x))] := hl
  refine lv_iload_n hx hb dX0_isCoil_0 rfl (lv_at hl 0 rfl) ?_
  refine lv_bipush (v := nI 6) hx hb dX0_isCoil_1 (by decide) ?_
  refine gz_icmp_lt (tgt := 10) (za := x.toInt) (zb := ((6 : Nat) : Int)) hx hb dX0_isCoil_3 (by decide) rfl (nI_toInt (by omega)) (fun c_1 => ?_) (fun c_1 => ?_)
  · skip
    refine lv_iconst (v := nI 0) hx hb dX0_isCoil_10 (by decide) ?_
    exact W.zret (v := nI 0) hx hb hr rfl (fun t ht hW => ⟨(by first | rfl | (rw [if_pos (by first | assumption | omega)]) | (rw [if_neg (by first | assumption | omega)])), ht⟩) (fun q h => absurd h List.not_mem_nil) dX0_isCoil_11
  · skip
    refine lv_iconst (v := nI 1) hx hb dX0_isCoil_6 (by decide) ?_
    refine lv_goto (tgt := 11) hx hb dX0_isCoil_7 (by decide) ?_
    exact W.zret (v := nI 1) hx hb hr rfl (fun t ht hW => ⟨(by first | rfl | (rw [if_pos (by first | assumption | omega)]) | (rw [if_neg (by first | assumption | omega)])), ht⟩) (fun q h => absurd h List.not_mem_nil) dX0_isCoil_11
set_option maxHeartbeats 4000000 in
set_option maxRecDepth 100000 in
theorem cG_hasVariable (l : Launch) (x : Int32)  : Met l yX0_hasVariable wsX0_hasVariable ({ frames := 0, cells := 0, slots := 0, locals := 0 }) (fun vv _ => vv = ([.int x] : List Value).toArray) (QcRead (if 2 ≤ x.toInt then nI 1 else nI 0)) 0 0 (fun _ => False) := by
  refine Met.ofW (cc := cX0_hasVariable) (maxL := 1) (ret := (some .boolean)) (by decide) rfl ?_
  intro p e s m args below meth c s₁ B hml hv
  subst hv
  have hx := B.exec
  have hb := B.bytes
  have hr := B.returns
  have hts := atoms_spec (ws := wsX0_hasVariable) B.pre
  have hown : s.vm.findClass RX0 = some m.cls := findClass_of_methodNamed B.named
  have hlocks := B.notSynchronized
  have hl := lv_entry ([.int x]) (n := 1) (Nat.le_of_ble_eq_true rfl)
  rw [lg_entry_eq]
  generalize (lg_sl ([.int x]) ++ List.replicate (1 - (lg_sl ([.int x])).length) Slot.unset).toArray = ls at hl ⊢
  have hl : lv_has ls 1 [(0, .int (x))] := hl
  refine lv_iload_n hx hb dX0_hasVariable_0 rfl (lv_at hl 0 rfl) ?_
  refine lv_iconst (v := nI 2) hx hb dX0_hasVariable_1 (by decide) ?_
  refine gz_icmp_lt (tgt := 9) (za := x.toInt) (zb := ((2 : Nat) : Int)) hx hb dX0_hasVariable_2 (by decide) rfl (nI_toInt (by omega)) (fun c_1 => ?_) (fun c_1 => ?_)
  · skip
    refine lv_iconst (v := nI 0) hx hb dX0_hasVariable_9 (by decide) ?_
    exact W.zret (v := nI 0) hx hb hr rfl (fun t ht hW => ⟨(by first | rfl | (rw [if_pos (by first | assumption | omega)]) | (rw [if_neg (by first | assumption | omega)])), ht⟩) (fun q h => absurd h List.not_mem_nil) dX0_hasVariable_10
  · skip
    refine lv_iconst (v := nI 1) hx hb dX0_hasVariable_5 (by decide) ?_
    refine lv_goto (tgt := 10) hx hb dX0_hasVariable_6 (by decide) ?_
    exact W.zret (v := nI 1) hx hb hr rfl (fun t ht hW => ⟨(by first | rfl | (rw [if_pos (by first | assumption | omega)]) | (rw [if_neg (by first | assumption | omega)])), ht⟩) (fun q h => absurd h List.not_mem_nil) dX0_hasVariable_10
set_option maxHeartbeats 4000000 in
set_option maxRecDepth 100000 in
theorem cG_isVariable (l : Launch) (x : Int32)  : Met l yX0_isVariable wsX0_isVariable ({ frames := 0, cells := 0, slots := 0, locals := 0 }) (fun vv _ => vv = ([.int x] : List Value).toArray) (QcRead (if 0 ≤ x.toInt ∧ x.toInt < 40 then nI 1 else nI 0)) 0 0 (fun _ => False) := by
  refine Met.ofW (cc := cX0_isVariable) (maxL := 1) (ret := (some .boolean)) (by decide) rfl ?_
  intro p e s m args below meth c s₁ B hml hv
  subst hv
  have hx := B.exec
  have hb := B.bytes
  have hr := B.returns
  have hts := atoms_spec (ws := wsX0_isVariable) B.pre
  have hown : s.vm.findClass RX0 = some m.cls := findClass_of_methodNamed B.named
  have hlocks := B.notSynchronized
  have hl := lv_entry ([.int x]) (n := 1) (Nat.le_of_ble_eq_true rfl)
  rw [lg_entry_eq]
  generalize (lg_sl ([.int x]) ++ List.replicate (1 - (lg_sl ([.int x])).length) Slot.unset).toArray = ls at hl ⊢
  have hl : lv_has ls 1 [(0, .int (x))] := hl
  refine lv_iload_n hx hb dX0_isVariable_0 rfl (lv_at hl 0 rfl) ?_
  refine gz_if_lt (tgt := 14) (za := x.toInt) hx hb dX0_isVariable_1 (by decide) rfl (fun c_1 => ?_) (fun c_1 => ?_)
  · skip
    refine lv_iconst (v := nI 0) hx hb dX0_isVariable_14 (by decide) ?_
    exact W.zret (v := nI 0) hx hb hr rfl (fun t ht hW => ⟨(by first | rfl | (rw [if_pos (by first | assumption | omega)]) | (rw [if_neg (by first | assumption | omega)])), ht⟩) (fun q h => absurd h List.not_mem_nil) dX0_isVariable_15
  · skip
    refine lv_iload_n hx hb dX0_isVariable_4 rfl (lv_at hl 0 rfl) ?_
    refine lv_bipush (v := nI 40) hx hb dX0_isVariable_5 (by decide) ?_
    refine gz_icmp_ge (tgt := 14) (za := x.toInt) (zb := ((40 : Nat) : Int)) hx hb dX0_isVariable_7 (by decide) rfl (nI_toInt (by omega)) (fun c_2 => ?_) (fun c_2 => ?_)
    · skip
      refine lv_iconst (v := nI 0) hx hb dX0_isVariable_14 (by decide) ?_
      exact W.zret (v := nI 0) hx hb hr rfl (fun t ht hW => ⟨(by first | rfl | (rw [if_pos (by first | assumption | omega)]) | (rw [if_neg (by first | assumption | omega)])), ht⟩) (fun q h => absurd h List.not_mem_nil) dX0_isVariable_15
    · skip
      refine lv_iconst (v := nI 1) hx hb dX0_isVariable_10 (by decide) ?_
      refine lv_goto (tgt := 15) hx hb dX0_isVariable_11 (by decide) ?_
      exact W.zret (v := nI 1) hx hb hr rfl (fun t ht hW => ⟨(by first | rfl | (rw [if_pos (by first | assumption | omega)]) | (rw [if_neg (by first | assumption | omega)])), ht⟩) (fun q h => absurd h List.not_mem_nil) dX0_isVariable_15
set_option maxHeartbeats 4000000 in
set_option maxRecDepth 100000 in
theorem cG_joiningSteps (l : Launch) (i : Nat) (h12 : i ≤ 1000) : Met l yX0_joiningSteps wsX0_joiningSteps ({ frames := 0, cells := 0, slots := 0, locals := 0 }) (fun vv _ => vv = ([.int (nI i)] : List Value).toArray) (QcRead (nI (if i = 0 then 1 else i - 1))) 0 0 (fun _ => False) := by
  refine Met.ofW (cc := cX0_joiningSteps) (maxL := 1) (ret := (some .int)) (by decide) rfl ?_
  intro p e s m args below meth c s₁ B hml hv
  subst hv
  have hx := B.exec
  have hb := B.bytes
  have hr := B.returns
  have hts := atoms_spec (ws := wsX0_joiningSteps) B.pre
  have hown : s.vm.findClass RX0 = some m.cls := findClass_of_methodNamed B.named
  have hlocks := B.notSynchronized
  have hl := lv_entry ([.int (nI i)]) (n := 1) (Nat.le_of_ble_eq_true rfl)
  rw [lg_entry_eq]
  generalize (lg_sl ([.int (nI i)]) ++ List.replicate (1 - (lg_sl ([.int (nI i)])).length) Slot.unset).toArray = ls at hl ⊢
  have hl : lv_has ls 1 [(0, .int (nI i))] := hl
  by_cases hi : i = 0
  · subst hi
    refine lv_iload_n hx hb dX0_joiningSteps_0 rfl (lv_at hl 0 rfl) ?_
    refine lv_if_ne (tgt := 8) hx hb dX0_joiningSteps_1 (by decide) (fun c_1 => False.elim (c_1 rfl)) (fun c_1 => ?_)
    refine lv_iconst (v := nI 1) hx hb dX0_joiningSteps_4 (by decide) ?_
    refine lv_goto (tgt := 11) hx hb dX0_joiningSteps_5 (by decide) ?_
    exact W.iret (v := nI 1) hx hb hr (fun t ht hW => ⟨(by first | rfl | (rw [if_neg hi])), ht⟩) (fun q h => absurd h List.not_mem_nil) dX0_joiningSteps_11
  · skip
    refine lv_iload_n hx hb dX0_joiningSteps_0 rfl (lv_at hl 0 rfl) ?_
    refine lv_if_ne (tgt := 8) hx hb dX0_joiningSteps_1 (by decide) (fun c_1 => ?_) (fun c_1 => False.elim (gz_ne0 hi (by omega) c_1))
    refine lv_iload_n hx hb dX0_joiningSteps_8 rfl (lv_at hl 0 rfl) ?_
    refine lv_iconst (v := nI 1) hx hb dX0_joiningSteps_9 (by decide) ?_
    refine gz_isub (i := i) (j := 1) hx hb dX0_joiningSteps_10 (by omega) ?_
    exact W.iret (v := nI (i - 1)) hx hb hr (fun t ht hW => ⟨(by first | rfl | (rw [if_neg hi])), ht⟩) (fun q h => absurd h List.not_mem_nil) dX0_joiningSteps_11
set_option maxHeartbeats 4000000 in
set_option maxRecDepth 100000 in
theorem cG_letsThrough (l : Launch) (k v sn : Int32)  : Met l yX0_letsThrough wsX0_letsThrough ({ frames := 0, cells := 0, slots := 0, locals := 0 }) (fun vv _ => vv = ([.int k, .int v, .int sn] : List Value).toArray) (QcRead (gLets k v sn)) 0 0 (fun _ => False) := by
  refine Met.ofW (cc := cX0_letsThrough) (maxL := 3) (ret := (some .boolean)) (by decide) rfl ?_
  intro p e s m args below meth c s₁ B hml hv
  subst hv
  have hx := B.exec
  have hb := B.bytes
  have hr := B.returns
  have hts := atoms_spec (ws := wsX0_letsThrough) B.pre
  have hown : s.vm.findClass RX0 = some m.cls := findClass_of_methodNamed B.named
  have hlocks := B.notSynchronized
  have hl := lv_entry ([.int k, .int v, .int sn]) (n := 3) (Nat.le_of_ble_eq_true rfl)
  rw [lg_entry_eq]
  generalize (lg_sl ([.int k, .int v, .int sn]) ++ List.replicate (3 - (lg_sl ([.int k, .int v, .int sn])).length) Slot.unset).toArray = ls at hl ⊢
  have hl : lv_has ls 3 [(0, .int (k)), (1, .int (v)), (2, .int (sn))] := hl
  by_cases hk1 : k = nI 1
  · subst hk1
    refine lv_iload_n hx hb dX0_letsThrough_0 rfl (lv_at hl 0 rfl) ?_
    refine lv_tableIn (tgt := 36) hx hb dX0_letsThrough_1 (by decide) (by decide) rfl (by decide) ?_
    refine lv_iconst (v := nI 1) hx hb dX0_letsThrough_36 (by decide) ?_
    exact W.zret (v := nI 1) hx hb hr rfl (fun t ht hW => ⟨(by unfold gLets; rw [if_pos rfl]; try (first | rfl | (rw [if_pos (by assumption)]; done) | (rw [if_neg (by assumption)]; done) | (rw [if_pos (by assumption), if_pos (by assumption)]; done) | (rw [if_pos (by assumption), if_neg (by assumption)]; done))), ht⟩) (fun q h => absurd h List.not_mem_nil) dX0_letsThrough_37
  by_cases hk2 : k = nI 2
  · subst hk2
    refine lv_iload_n hx hb dX0_letsThrough_0 rfl (lv_at hl 0 rfl) ?_
    refine lv_tableIn (tgt := 38) hx hb dX0_letsThrough_1 (by decide) (by decide) rfl (by decide) ?_
    refine lv_iload_n hx hb dX0_letsThrough_38 rfl (lv_at hl 1 rfl) ?_
    refine lv_iconst (v := nI 1) hx hb dX0_letsThrough_39 (by decide) ?_
    refine lv_icmp_ne (tgt := 47) hx hb dX0_letsThrough_40 (by decide) (fun c_1 => ?_) (fun c_1 => ?_)
    · skip
      refine lv_iconst (v := nI 0) hx hb dX0_letsThrough_47 (by decide) ?_
      exact W.zret (v := nI 0) hx hb hr rfl (fun t ht hW => ⟨(by unfold gLets; rw [if_neg (by decide), if_pos rfl]; try (first | rfl | (rw [if_pos (by assumption)]; done) | (rw [if_neg (by assumption)]; done) | (rw [if_pos (by assumption), if_pos (by assumption)]; done) | (rw [if_pos (by assumption), if_neg (by assumption)]; done))), ht⟩) (fun q h => absurd h List.not_mem_nil) dX0_letsThrough_48
    · skip
      refine lv_iconst (v := nI 1) hx hb dX0_letsThrough_43 (by decide) ?_
      refine lv_goto (tgt := 48) hx hb dX0_letsThrough_44 (by decide) ?_
      exact W.zret (v := nI 1) hx hb hr rfl (fun t ht hW => ⟨(by unfold gLets; rw [if_neg (by decide), if_pos rfl]; try (first | rfl | (rw [if_pos (by assumption)]; done) | (rw [if_neg (by assumption)]; done) | (rw [if_pos (by assumption), if_pos (by assumption)]; done) | (rw [if_pos (by assumption), if_neg (by assumption)]; done))), ht⟩) (fun q h => absurd h List.not_mem_nil) dX0_letsThrough_48
  by_cases hk3 : k = nI 3
  · subst hk3
    refine lv_iload_n hx hb dX0_letsThrough_0 rfl (lv_at hl 0 rfl) ?_
    refine lv_tableIn (tgt := 49) hx hb dX0_letsThrough_1 (by decide) (by decide) rfl (by decide) ?_
    refine lv_iload_n hx hb dX0_letsThrough_49 rfl (lv_at hl 1 rfl) ?_
    refine lv_if_ne (tgt := 57) hx hb dX0_letsThrough_50 (by decide) (fun c_1 => ?_) (fun c_1 => ?_)
    · skip
      refine lv_iconst (v := nI 0) hx hb dX0_letsThrough_57 (by decide) ?_
      exact W.zret (v := nI 0) hx hb hr rfl (fun t ht hW => ⟨(by unfold gLets; rw [if_neg (by decide), if_neg (by decide), if_pos rfl]; try (first | rfl | (rw [if_pos (by assumption)]; done) | (rw [if_neg (by assumption)]; done) | (rw [if_pos (by assumption), if_pos (by assumption)]; done) | (rw [if_pos (by assumption), if_neg (by assumption)]; done))), ht⟩) (fun q h => absurd h List.not_mem_nil) dX0_letsThrough_58
    · skip
      refine lv_iconst (v := nI 1) hx hb dX0_letsThrough_53 (by decide) ?_
      refine lv_goto (tgt := 58) hx hb dX0_letsThrough_54 (by decide) ?_
      exact W.zret (v := nI 1) hx hb hr rfl (fun t ht hW => ⟨(by unfold gLets; rw [if_neg (by decide), if_neg (by decide), if_pos rfl]; try (first | rfl | (rw [if_pos (by assumption)]; done) | (rw [if_neg (by assumption)]; done) | (rw [if_pos (by assumption), if_pos (by assumption)]; done) | (rw [if_pos (by assumption), if_neg (by assumption)]; done))), ht⟩) (fun q h => absurd h List.not_mem_nil) dX0_letsThrough_58
  by_cases hk4 : k = nI 4
  · subst hk4
    refine lv_iload_n hx hb dX0_letsThrough_0 rfl (lv_at hl 0 rfl) ?_
    refine lv_tableIn (tgt := 59) hx hb dX0_letsThrough_1 (by decide) (by decide) rfl (by decide) ?_
    refine lv_iload_n hx hb dX0_letsThrough_59 rfl (lv_at hl 1 rfl) ?_
    refine lv_iconst (v := nI 1) hx hb dX0_letsThrough_60 (by decide) ?_
    refine lv_icmp_ne (tgt := 72) hx hb dX0_letsThrough_61 (by decide) (fun c_1 => ?_) (fun c_1 => ?_)
    · skip
      refine lv_iconst (v := nI 0) hx hb dX0_letsThrough_72 (by decide) ?_
      exact W.zret (v := nI 0) hx hb hr rfl (fun t ht hW => ⟨(by unfold gLets; rw [if_neg (by decide), if_neg (by decide), if_neg (by decide), if_pos rfl]; try (first | rfl | (rw [if_pos (by assumption)]; done) | (rw [if_neg (by assumption)]; done) | (rw [if_pos (by assumption), if_pos (by assumption)]; done) | (rw [if_pos (by assumption), if_neg (by assumption)]; done))), ht⟩) (fun q h => absurd h List.not_mem_nil) dX0_letsThrough_73
    · skip
      refine lv_iload_n hx hb dX0_letsThrough_64 rfl (lv_at hl 2 rfl) ?_
      refine lv_if_ne (tgt := 72) hx hb dX0_letsThrough_65 (by decide) (fun c_2 => ?_) (fun c_2 => ?_)
      · skip
        refine lv_iconst (v := nI 0) hx hb dX0_letsThrough_72 (by decide) ?_
        exact W.zret (v := nI 0) hx hb hr rfl (fun t ht hW => ⟨(by unfold gLets; rw [if_neg (by decide), if_neg (by decide), if_neg (by decide), if_pos rfl]; try (first | rfl | (rw [if_pos (by assumption)]; done) | (rw [if_neg (by assumption)]; done) | (rw [if_pos (by assumption), if_pos (by assumption)]; done) | (rw [if_pos (by assumption), if_neg (by assumption)]; done))), ht⟩) (fun q h => absurd h List.not_mem_nil) dX0_letsThrough_73
      · skip
        refine lv_iconst (v := nI 1) hx hb dX0_letsThrough_68 (by decide) ?_
        refine lv_goto (tgt := 73) hx hb dX0_letsThrough_69 (by decide) ?_
        exact W.zret (v := nI 1) hx hb hr rfl (fun t ht hW => ⟨(by unfold gLets; rw [if_neg (by decide), if_neg (by decide), if_neg (by decide), if_pos rfl]; try (first | rfl | (rw [if_pos (by assumption)]; done) | (rw [if_neg (by assumption)]; done) | (rw [if_pos (by assumption), if_pos (by assumption)]; done) | (rw [if_pos (by assumption), if_neg (by assumption)]; done))), ht⟩) (fun q h => absurd h List.not_mem_nil) dX0_letsThrough_73
  by_cases hk5 : k = nI 5
  · subst hk5
    refine lv_iload_n hx hb dX0_letsThrough_0 rfl (lv_at hl 0 rfl) ?_
    refine lv_tableIn (tgt := 74) hx hb dX0_letsThrough_1 (by decide) (by decide) rfl (by decide) ?_
    refine lv_iload_n hx hb dX0_letsThrough_74 rfl (lv_at hl 1 rfl) ?_
    refine lv_if_ne (tgt := 87) hx hb dX0_letsThrough_75 (by decide) (fun c_1 => ?_) (fun c_1 => ?_)
    · skip
      refine lv_iconst (v := nI 0) hx hb dX0_letsThrough_87 (by decide) ?_
      exact W.zret (v := nI 0) hx hb hr rfl (fun t ht hW => ⟨(by unfold gLets; rw [if_neg (by decide), if_neg (by decide), if_neg (by decide), if_neg (by decide), if_pos rfl]; try (first | rfl | (rw [if_pos (by assumption)]; done) | (rw [if_neg (by assumption)]; done) | (rw [if_pos (by assumption), if_pos (by assumption)]; done) | (rw [if_pos (by assumption), if_neg (by assumption)]; done))), ht⟩) (fun q h => absurd h List.not_mem_nil) dX0_letsThrough_88
    · skip
      refine lv_iload_n hx hb dX0_letsThrough_78 rfl (lv_at hl 2 rfl) ?_
      refine lv_iconst (v := nI 1) hx hb dX0_letsThrough_79 (by decide) ?_
      refine lv_icmp_ne (tgt := 87) hx hb dX0_letsThrough_80 (by decide) (fun c_2 => ?_) (fun c_2 => ?_)
      · skip
        refine lv_iconst (v := nI 0) hx hb dX0_letsThrough_87 (by decide) ?_
        exact W.zret (v := nI 0) hx hb hr rfl (fun t ht hW => ⟨(by unfold gLets; rw [if_neg (by decide), if_neg (by decide), if_neg (by decide), if_neg (by decide), if_pos rfl]; try (first | rfl | (rw [if_pos (by assumption)]; done) | (rw [if_neg (by assumption)]; done) | (rw [if_pos (by assumption), if_pos (by assumption)]; done) | (rw [if_pos (by assumption), if_neg (by assumption)]; done))), ht⟩) (fun q h => absurd h List.not_mem_nil) dX0_letsThrough_88
      · skip
        refine lv_iconst (v := nI 1) hx hb dX0_letsThrough_83 (by decide) ?_
        refine lv_goto (tgt := 88) hx hb dX0_letsThrough_84 (by decide) ?_
        exact W.zret (v := nI 1) hx hb hr rfl (fun t ht hW => ⟨(by unfold gLets; rw [if_neg (by decide), if_neg (by decide), if_neg (by decide), if_neg (by decide), if_pos rfl]; try (first | rfl | (rw [if_pos (by assumption)]; done) | (rw [if_neg (by assumption)]; done) | (rw [if_pos (by assumption), if_pos (by assumption)]; done) | (rw [if_pos (by assumption), if_neg (by assumption)]; done))), ht⟩) (fun q h => absurd h List.not_mem_nil) dX0_letsThrough_88
  refine lv_iload_n hx hb dX0_letsThrough_0 rfl (lv_at hl 0 rfl) ?_
  have hout : k.toInt < 1 ∨ 5 < k.toInt := by
    have t1 : ¬ k.toInt = 1 := lv_neT hk1 (by decide)
    have t2 : ¬ k.toInt = 2 := lv_neT hk2 (by decide)
    have t3 : ¬ k.toInt = 3 := lv_neT hk3 (by decide)
    have t4 : ¬ k.toInt = 4 := lv_neT hk4 (by decide)
    have t5 : ¬ k.toInt = 5 := lv_neT hk5 (by decide)
    omega
  refine lv_tableOut (tgt := 89) hx hb dX0_letsThrough_1 hout (by decide) ?_
  refine lv_iconst (v := nI 0) hx hb dX0_letsThrough_89 (by decide) ?_
  exact W.zret (v := nI 0) hx hb hr rfl (fun t ht hW => ⟨(by unfold gLets; rw [if_neg hk1, if_neg hk2, if_neg hk3, if_neg hk4, if_neg hk5]), ht⟩) (fun q h => absurd h List.not_mem_nil) dX0_letsThrough_90
set_option maxHeartbeats 4000000 in
set_option maxRecDepth 100000 in
theorem cG_coilValue (l : Launch) (k pw b : Int32)  : Met l yX0_coilValue wsX0_coilValue ({ frames := 0, cells := 0, slots := 0, locals := 0 }) (fun vv _ => vv = ([.int k, .int pw, .int b] : List Value).toArray) (QcRead (gCoil k pw b)) 0 0 (fun _ => False) := by
  refine Met.ofW (cc := cX0_coilValue) (maxL := 3) (ret := (some .int)) (by decide) rfl ?_
  intro p e s m args below meth c s₁ B hml hv
  subst hv
  have hx := B.exec
  have hb := B.bytes
  have hr := B.returns
  have hts := atoms_spec (ws := wsX0_coilValue) B.pre
  have hown : s.vm.findClass RX0 = some m.cls := findClass_of_methodNamed B.named
  have hlocks := B.notSynchronized
  have hl := lv_entry ([.int k, .int pw, .int b]) (n := 3) (Nat.le_of_ble_eq_true rfl)
  rw [lg_entry_eq]
  generalize (lg_sl ([.int k, .int pw, .int b]) ++ List.replicate (3 - (lg_sl ([.int k, .int pw, .int b])).length) Slot.unset).toArray = ls at hl ⊢
  have hl : lv_has ls 3 [(0, .int (k)), (1, .int (pw)), (2, .int (b))] := hl
  by_cases hk6 : k = nI 6
  · subst hk6
    refine lv_iload_n hx hb dX0_coilValue_0 rfl (lv_at hl 0 rfl) ?_
    refine lv_tableIn (tgt := 28) hx hb dX0_coilValue_1 (by decide) (by decide) rfl (by decide) ?_
    refine lv_iload_n hx hb dX0_coilValue_28 rfl (lv_at hl 1 rfl) ?_
    exact W.iret (v := pw) hx hb hr (fun t ht hW => ⟨(by unfold gCoil; rw [if_pos rfl]; try (first | rfl | (rw [if_pos (by assumption)]; done) | (rw [if_neg (by assumption)]; done))), ht⟩) (fun q h => absurd h List.not_mem_nil) dX0_coilValue_29
  by_cases hk7 : k = nI 7
  · subst hk7
    refine lv_iload_n hx hb dX0_coilValue_0 rfl (lv_at hl 0 rfl) ?_
    refine lv_tableIn (tgt := 30) hx hb dX0_coilValue_1 (by decide) (by decide) rfl (by decide) ?_
    refine lv_iconst (v := nI 1) hx hb dX0_coilValue_30 (by decide) ?_
    refine lv_iload_n hx hb dX0_coilValue_31 rfl (lv_at hl 1 rfl) ?_
    refine lv_isub hx hb dX0_coilValue_32 ?_
    exact W.iret (v := (nI 1) - pw) hx hb hr (fun t ht hW => ⟨(by unfold gCoil; rw [if_neg (by decide), if_pos rfl]; try (first | rfl | (rw [if_pos (by assumption)]; done) | (rw [if_neg (by assumption)]; done))), ht⟩) (fun q h => absurd h List.not_mem_nil) dX0_coilValue_33
  by_cases hk8 : k = nI 8
  · subst hk8
    refine lv_iload_n hx hb dX0_coilValue_0 rfl (lv_at hl 0 rfl) ?_
    refine lv_tableIn (tgt := 34) hx hb dX0_coilValue_1 (by decide) (by decide) rfl (by decide) ?_
    refine lv_iload_n hx hb dX0_coilValue_34 rfl (lv_at hl 1 rfl) ?_
    refine lv_iconst (v := nI 1) hx hb dX0_coilValue_35 (by decide) ?_
    refine lv_icmp_ne (tgt := 43) hx hb dX0_coilValue_36 (by decide) (fun c_1 => ?_) (fun c_1 => ?_)
    · skip
      refine lv_iload_n hx hb dX0_coilValue_43 rfl (lv_at hl 2 rfl) ?_
      exact W.iret (v := b) hx hb hr (fun t ht hW => ⟨(by unfold gCoil; rw [if_neg (by decide), if_neg (by decide), if_pos rfl]; try (first | rfl | (rw [if_pos (by assumption)]; done) | (rw [if_neg (by assumption)]; done))), ht⟩) (fun q h => absurd h List.not_mem_nil) dX0_coilValue_44
    · skip
      refine lv_iconst (v := nI 1) hx hb dX0_coilValue_39 (by decide) ?_
      refine lv_goto (tgt := 44) hx hb dX0_coilValue_40 (by decide) ?_
      exact W.iret (v := nI 1) hx hb hr (fun t ht hW => ⟨(by unfold gCoil; rw [if_neg (by decide), if_neg (by decide), if_pos rfl]; try (first | rfl | (rw [if_pos (by assumption)]; done) | (rw [if_neg (by assumption)]; done))), ht⟩) (fun q h => absurd h List.not_mem_nil) dX0_coilValue_44
  refine lv_iload_n hx hb dX0_coilValue_0 rfl (lv_at hl 0 rfl) ?_
  have hout : k.toInt < 6 ∨ 8 < k.toInt := by
    have t6 : ¬ k.toInt = 6 := lv_neT hk6 (by decide)
    have t7 : ¬ k.toInt = 7 := lv_neT hk7 (by decide)
    have t8 : ¬ k.toInt = 8 := lv_neT hk8 (by decide)
    omega
  refine lv_tableOut (tgt := 45) hx hb dX0_coilValue_1 hout (by decide) ?_
  refine lv_iload_n hx hb dX0_coilValue_45 rfl (lv_at hl 1 rfl) ?_
  refine lv_iconst (v := nI 1) hx hb dX0_coilValue_46 (by decide) ?_
  refine lv_icmp_ne (tgt := 54) hx hb dX0_coilValue_47 (by decide) (fun c_1 => ?_) (fun c_1 => ?_)
  · skip
    refine lv_iload_n hx hb dX0_coilValue_54 rfl (lv_at hl 2 rfl) ?_
    exact W.iret (v := b) hx hb hr (fun t ht hW => ⟨(by unfold gCoil; rw [if_neg hk6, if_neg hk7, if_neg hk8]; first | (rw [if_pos (by assumption)]; done) | (rw [if_neg (by assumption)]; done)), ht⟩) (fun q h => absurd h List.not_mem_nil) dX0_coilValue_55
  · skip
    refine lv_iconst (v := nI 0) hx hb dX0_coilValue_50 (by decide) ?_
    refine lv_goto (tgt := 55) hx hb dX0_coilValue_51 (by decide) ?_
    exact W.iret (v := nI 0) hx hb hr (fun t ht hW => ⟨(by unfold gCoil; rw [if_neg hk6, if_neg hk7, if_neg hk8]; first | (rw [if_pos (by assumption)]; done) | (rw [if_neg (by assumption)]; done)), ht⟩) (fun q h => absurd h List.not_mem_nil) dX0_coilValue_55
set_option maxHeartbeats 4000000 in
set_option maxRecDepth 100000 in
theorem cG_isRow (l : Launch) (dC : Nat → ClassId) (dI : Nat → Nat → Nat) (cA cZ : ClassId) (h qk qc qs ql qp qv : Nat) (fk fc fs fl fp fv : Nat → Int32) (rn cn : Nat) (sc x : Int32) (hrn : rn ≤ 12) (hcn : cn ≤ 12) : Met l yX0_isRow wsX0_isRow ({ frames := 0, cells := 0, slots := 0, locals := 0 }) (gPr (dC, dI) vwCl [(cA, .int), (cZ, .boolean)] [.ref h, .int x] (gw cA h qk qc qs ql qp qv fk fc fs fl fp fv (nI rn) (nI cn) sc)) (QcRead (if 0 ≤ x.toInt ∧ x.toInt < (rn : Int) then nI 1 else nI 0)) 0 0 (fun _ => False) := by
  refine Met.ofW (cc := cX0_isRow) (maxL := 2) (ret := (some .boolean)) (by decide) rfl ?_
  intro p e s m args below meth c s₁ B hml hv
  obtain ⟨rfl, hP, hK⟩ := hv
  have hx := B.exec
  have hb := B.bytes
  have hr := B.returns
  have hts := atoms_spec (ws := wsX0_isRow) B.pre
  have hown : s.vm.findClass RX0 = some m.cls := findClass_of_methodNamed B.named
  have hlocks := B.notSynchronized
  have hin0 : ∀ w ∈ u_ws RX0 TX0 9, w ∈ wsX0_isRow := by decide +kernel
  have lk28 := hts (.fieldLink RX0 28 "LadderGrid" "rows" "I") (by decide +kernel)
  have hl := lv_entry ([.ref h, .int x]) (n := 2) (Nat.le_of_ble_eq_true rfl)
  rw [lg_entry_eq]
  generalize (lg_sl ([.ref h, .int x]) ++ List.replicate (2 - (lg_sl ([.ref h, .int x])).length) Slot.unset).toArray = ls at hl ⊢
  have hl : lv_has ls 2 [(0, .ref h), (1, .int (x))] := hl
  refine lv_iload_n hx hb dX0_isRow_0 rfl (lv_at hl 1 rfl) ?_
  refine gz_if_lt (tgt := 16) (za := x.toInt) hx hb dX0_isRow_1 (by decide) rfl (fun c_1 => ?_) (fun c_1 => ?_)
  · skip
    refine lv_iconst (v := nI 0) hx hb dX0_isRow_16 (by decide) ?_
    exact W.zret (v := nI 0) hx hb hr rfl (fun t ht hW => ⟨(by first | rfl | (rw [if_pos (by first | assumption | omega)]) | (rw [if_neg (by first | assumption | omega)])), ht⟩) (fun q h => absurd h List.not_mem_nil) dX0_isRow_17
  · skip
    refine lv_iload_n hx hb dX0_isRow_4 rfl (lv_at hl 1 rfl) ?_
    refine lv_aload_n hx hb dX0_isRow_5 rfl (lv_at hl 0 rfl) ?_
    refine va_get (D := (dC, dI)) (ci := 0) (v := .int (nI rn)) (C := RX0) (T := TX0) (N := 9) hx hb hts hin0 hown hK hP 0 rfl rfl 6 (by decide) lk28 (fun _ h9 => h9) rfl dX0_isRow_6 ?_
    refine gz_icmp_ge (tgt := 16) (za := x.toInt) (zb := ((rn : Nat) : Int)) hx hb dX0_isRow_9 (by decide) rfl (nI_toInt (by omega)) (fun c_2 => ?_) (fun c_2 => ?_)
    · skip
      refine lv_iconst (v := nI 0) hx hb dX0_isRow_16 (by decide) ?_
      exact W.zret (v := nI 0) hx hb hr rfl (fun t ht hW => ⟨(by first | rfl | (rw [if_pos (by first | assumption | omega)]) | (rw [if_neg (by first | assumption | omega)])), ht⟩) (fun q h => absurd h List.not_mem_nil) dX0_isRow_17
    · skip
      refine lv_iconst (v := nI 1) hx hb dX0_isRow_12 (by decide) ?_
      refine lv_goto (tgt := 17) hx hb dX0_isRow_13 (by decide) ?_
      exact W.zret (v := nI 1) hx hb hr rfl (fun t ht hW => ⟨(by first | rfl | (rw [if_pos (by first | assumption | omega)]) | (rw [if_neg (by first | assumption | omega)])), ht⟩) (fun q h => absurd h List.not_mem_nil) dX0_isRow_17
set_option maxHeartbeats 4000000 in
set_option maxRecDepth 100000 in
theorem cG_isLine (l : Launch) (dC : Nat → ClassId) (dI : Nat → Nat → Nat) (cA cZ : ClassId) (h qk qc qs ql qp qv : Nat) (fk fc fs fl fp fv : Nat → Int32) (rn cn : Nat) (sc x : Int32) (hrn : rn ≤ 12) (hcn : cn ≤ 12) : Met l yX0_isLine wsX0_isLine ({ frames := 0, cells := 0, slots := 0, locals := 0 }) (gPr (dC, dI) vwCl [(cA, .int), (cZ, .boolean)] [.ref h, .int x] (gw cA h qk qc qs ql qp qv fk fc fs fl fp fv (nI rn) (nI cn) sc)) (QcRead (if 0 ≤ x.toInt ∧ x.toInt ≤ (cn : Int) then nI 1 else nI 0)) 0 0 (fun _ => False) := by
  refine Met.ofW (cc := cX0_isLine) (maxL := 2) (ret := (some .boolean)) (by decide) rfl ?_
  intro p e s m args below meth c s₁ B hml hv
  obtain ⟨rfl, hP, hK⟩ := hv
  have hx := B.exec
  have hb := B.bytes
  have hr := B.returns
  have hts := atoms_spec (ws := wsX0_isLine) B.pre
  have hown : s.vm.findClass RX0 = some m.cls := findClass_of_methodNamed B.named
  have hlocks := B.notSynchronized
  have hin0 : ∀ w ∈ u_ws RX0 TX0 9, w ∈ wsX0_isLine := by decide +kernel
  have lk32 := hts (.fieldLink RX0 32 "LadderGrid" "columns" "I") (by decide +kernel)
  have hl := lv_entry ([.ref h, .int x]) (n := 2) (Nat.le_of_ble_eq_true rfl)
  rw [lg_entry_eq]
  generalize (lg_sl ([.ref h, .int x]) ++ List.replicate (2 - (lg_sl ([.ref h, .int x])).length) Slot.unset).toArray = ls at hl ⊢
  have hl : lv_has ls 2 [(0, .ref h), (1, .int (x))] := hl
  refine lv_iload_n hx hb dX0_isLine_0 rfl (lv_at hl 1 rfl) ?_
  refine gz_if_lt (tgt := 16) (za := x.toInt) hx hb dX0_isLine_1 (by decide) rfl (fun c_1 => ?_) (fun c_1 => ?_)
  · skip
    refine lv_iconst (v := nI 0) hx hb dX0_isLine_16 (by decide) ?_
    exact W.zret (v := nI 0) hx hb hr rfl (fun t ht hW => ⟨(by first | rfl | (rw [if_pos (by first | assumption | omega)]) | (rw [if_neg (by first | assumption | omega)])), ht⟩) (fun q h => absurd h List.not_mem_nil) dX0_isLine_17
  · skip
    refine lv_iload_n hx hb dX0_isLine_4 rfl (lv_at hl 1 rfl) ?_
    refine lv_aload_n hx hb dX0_isLine_5 rfl (lv_at hl 0 rfl) ?_
    refine va_get (D := (dC, dI)) (ci := 0) (v := .int (nI cn)) (C := RX0) (T := TX0) (N := 9) hx hb hts hin0 hown hK hP 0 rfl rfl 7 (by decide) lk32 (fun _ h9 => h9) rfl dX0_isLine_6 ?_
    refine gz_icmp_gt (tgt := 16) (za := x.toInt) (zb := ((cn : Nat) : Int)) hx hb dX0_isLine_9 (by decide) rfl (nI_toInt (by omega)) (fun c_2 => ?_) (fun c_2 => ?_)
    · skip
      refine lv_iconst (v := nI 0) hx hb dX0_isLine_16 (by decide) ?_
      exact W.zret (v := nI 0) hx hb hr rfl (fun t ht hW => ⟨(by first | rfl | (rw [if_pos (by first | assumption | omega)]) | (rw [if_neg (by first | assumption | omega)])), ht⟩) (fun q h => absurd h List.not_mem_nil) dX0_isLine_17
    · skip
      refine lv_iconst (v := nI 1) hx hb dX0_isLine_12 (by decide) ?_
      refine lv_goto (tgt := 17) hx hb dX0_isLine_13 (by decide) ?_
      exact W.zret (v := nI 1) hx hb hr rfl (fun t ht hW => ⟨(by first | rfl | (rw [if_pos (by first | assumption | omega)]) | (rw [if_neg (by first | assumption | omega)])), ht⟩) (fun q h => absurd h List.not_mem_nil) dX0_isLine_17
