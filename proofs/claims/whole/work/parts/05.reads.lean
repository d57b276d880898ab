set_option maxHeartbeats 4000000 in
set_option maxRecDepth 100000 in
theorem cG_get (l : Launch) (dC : Nat → ClassId) (dI : Nat → Nat → Nat) (cA cZ : ClassId) (h qk qc qs ql qp qv : Nat) (fk fc fs fl fp fv : Nat → Int32) (rn cn : Nat) (sc : Int32) (i : Nat) (hrn : 1 ≤ rn ∧ rn ≤ 12) (hcn : 1 ≤ cn ∧ cn ≤ 12) (hi : i < 40) : Met l yX0_get wsX0_get ({ frames := 1, cells := 0, slots := 0, locals := 20 }) (gPr (dC, dI) vwCl [(cA, .int), (cZ, .boolean)] [.ref h, .int (nI i)] (gw cA h qk qc qs ql qp qv fk fc fs fl fp fv (nI rn) (nI cn) sc)) (QcRead (fv i)) 0 0 (fun _ => False) := by
  refine Met.ofW (cc := cX0_get) (maxL := 2) (ret := (some .int)) (by decide) rfl ?_
  intro p e s m args below meth c s₁ B hml hv
  obtain ⟨rfl, hP, hK⟩ := hv
  have hx := B.exec
  have hb := B.bytes
  have hr := B.returns
  have hts := atoms_spec (ws := wsX0_get) B.pre
  have hown : s.vm.findClass RX0 = some m.cls := findClass_of_methodNamed B.named
  have hlocks := B.notSynchronized
  have hin0 : ∀ w ∈ u_ws RX0 TX0 9, w ∈ wsX0_get := by decide +kernel
  have lk25 := hts (.fieldLink RX0 25 "LadderGrid" "values" "[I") (by decide +kernel)
  have hl := lv_entry ([.ref h, .int (nI i)]) (n := 2) (Nat.le_of_ble_eq_true rfl)
  rw [lg_entry_eq]
  generalize (lg_sl ([.ref h, .int (nI i)]) ++ List.replicate (2 - (lg_sl ([.ref h, .int (nI i)])).length) Slot.unset).toArray = ls at hl ⊢
  have hl : lv_has ls 2 [(0, .ref h), (1, .int (nI i))] := hl
  have zi := nI_toInt (n := i) (by omega)
  refine lv_iload_n hx hb dX0_get_0 rfl (lv_at hl 1 rfl) ?_
  refine gz_callR (W.runS (As := [.int (nI i)]) (rest := []) ⟨hx, hb, hml, hown, hts⟩ (cG_isVariable l (nI i)) (va_cwS 1 hts gX0_get_X0_isVariable rfl rfl rfl (by decide +kernel) ⟨Nat.le_of_ble_eq_true rfl, Nat.le_of_ble_eq_true rfl⟩) preEq rfl rfl hl.1 rfl (lv_room (Nat.le_of_ble_eq_true rfl)) dX0_get_1 ⟨Nat.le_of_ble_eq_true rfl, Nat.le_of_ble_eq_true rfl⟩) ?_
  refine gz_ifeqB (tgt := 16) hx hb dX0_get_4 (by decide) (fun c_1 => False.elim (by omega)) (fun c_1 => ?_)
  refine lv_aload_n hx hb dX0_get_7 rfl (lv_at hl 0 rfl) ?_
  refine va_get (D := (dC, dI)) (ci := 0) (v := .ref qv) (C := RX0) (T := TX0) (N := 9) hx hb hts hin0 hown hK hP 0 rfl rfl 5 (by decide) lk25 (fun _ h9 => h9) rfl dX0_get_8 ?_
  refine lv_iload_n hx hb dX0_get_11 rfl (lv_at hl 1 rfl) ?_
  refine gz_iald (k := i) hx hb hK hP 6 0 rfl rfl (by omega) (by omega) dX0_get_12 ?_
  refine lv_goto (tgt := 17) hx hb dX0_get_13 (by decide) ?_
  exact W.iret (v := fv i) hx hb hr (fun t ht hW => ⟨rfl, ht⟩) (fun q h => absurd h List.not_mem_nil) dX0_get_17
set_option maxHeartbeats 4000000 in
set_option maxRecDepth 100000 in
theorem cG_get_bad (l : Launch) (dC : Nat → ClassId) (dI : Nat → Nat → Nat) (cA cZ : ClassId) (h qk qc qs ql qp qv : Nat) (fk fc fs fl fp fv : Nat → Int32) (rn cn : Nat) (sc : Int32) (x : Int32) (hrn : 1 ≤ rn ∧ rn ≤ 12) (hcn : 1 ≤ cn ∧ cn ≤ 12) (hx0 : ¬ (0 ≤ x.toInt ∧ x.toInt < 40)) : Met l yX0_get wsX0_get ({ frames := 1, cells := 0, slots := 0, locals := 20 }) (gPr (dC, dI) vwCl [(cA, .int), (cZ, .boolean)] [.ref h, .int x] (gw cA h qk qc qs ql qp qv fk fc fs fl fp fv (nI rn) (nI cn) sc)) (QcRead (-1)) 0 0 (fun _ => False) := by
  refine Met.ofW (cc := cX0_get) (maxL := 2) (ret := (some .int)) (by decide) rfl ?_
  intro p e s m args below meth c s₁ B hml hv
  obtain ⟨rfl, hP, hK⟩ := hv
  have hx := B.exec
  have hb := B.bytes
  have hr := B.returns
  have hts := atoms_spec (ws := wsX0_get) B.pre
  have hown : s.vm.findClass RX0 = some m.cls := findClass_of_methodNamed B.named
  have hlocks := B.notSynchronized
  have hin0 : ∀ w ∈ u_ws RX0 TX0 9, w ∈ wsX0_get := by decide +kernel
  have lk25 := hts (.fieldLink RX0 25 "LadderGrid" "values" "[I") (by decide +kernel)
  have hl := lv_entry ([.ref h, .int x]) (n := 2) (Nat.le_of_ble_eq_true rfl)
  rw [lg_entry_eq]
  generalize (lg_sl ([.ref h, .int x]) ++ List.replicate (2 - (lg_sl ([.ref h, .int x])).length) Slot.unset).toArray = ls at hl ⊢
  have hl : lv_has ls 2 [(0, .ref h), (1, .int (x))] := hl
  refine lv_iload_n hx hb dX0_get_0 rfl (lv_at hl 1 rfl) ?_
  refine gz_callR (W.runS (As := [.int (x)]) (rest := []) ⟨hx, hb, hml, hown, hts⟩ (cG_isVariable l x) (va_cwS 1 hts gX0_get_X0_isVariable rfl rfl rfl (by decide +kernel) ⟨Nat.le_of_ble_eq_true rfl, Nat.le_of_ble_eq_true rfl⟩) preEq rfl rfl hl.1 rfl (lv_room (Nat.le_of_ble_eq_true rfl)) dX0_get_1 ⟨Nat.le_of_ble_eq_true rfl, Nat.le_of_ble_eq_true rfl⟩) ?_
  refine gz_ifeqB (tgt := 16) hx hb dX0_get_4 (by decide) (fun c_1 => ?_) (fun c_1 => False.elim (hx0 c_1))
  refine lv_iconst (v := (-1)) hx hb dX0_get_16 (by decide) ?_
  exact W.iret (v := (-1)) hx hb hr (fun t ht hW => ⟨rfl, ht⟩) (fun q h => absurd h List.not_mem_nil) dX0_get_17
set_option maxHeartbeats 4000000 in
set_option maxRecDepth 100000 in
theorem cG_set (l : Launch) (dC : Nat → ClassId) (dI : Nat → Nat → Nat) (sz : Nat) (cA cZ : ClassId) (h qk qc qs ql qp qv : Nat) (fk fc fs fl fp fv : Nat → Int32) (rn cn : Nat) (sc : Int32) (i v : Nat) (hrn : 1 ≤ rn ∧ rn ≤ 12) (hcn : 1 ≤ cn ∧ cn ≤ 12) (hi : i < 40) (hv : v ≤ 1) : Met l yX0_set wsX0_set ({ frames := 1, cells := 0, slots := 0, locals := 20 }) (gPw (dC, dI) vwCl [(cA, .int), (cZ, .boolean)] [.ref h, .int (nI i), .int (nI v)] sz (gw cA h qk qc qs ql qp qv fk fc fs fl fp fv (nI rn) (nI cn) sc)) (gQA (dC, dI) vwCl [(cA, .int), (cZ, .boolean)] (fv i) (va_A (gw cA h qk qc qs ql qp qv fk fc fs fl fp fv (nI rn) (nI cn) sc) sz) (gw cA h qk qc qs ql qp qv fk fc fs fl fp (upd fv i (nI v)) (nI rn) (nI cn) sc)) 0 0 (va_A (gw cA h qk qc qs ql qp qv fk fc fs fl fp fv (nI rn) (nI cn) sc) sz) := by
  refine Met.ofW (cc := cX0_set) (maxL := 4) (ret := (some .int)) (by decide) rfl ?_
  intro p e s m args below meth c s₁ B hml hv
  obtain ⟨rfl, hsz, hP, hK, hD0⟩ := hv
  have hx := B.exec
  have hb := B.bytes
  have hr := B.returns
  have hts := atoms_spec (ws := wsX0_set) B.pre
  have hown : s.vm.findClass RX0 = some m.cls := findClass_of_methodNamed B.named
  have hlocks := B.notSynchronized
  subst hsz
  have hD := hD0.self (sz := s.heap.size)
  generalize hAe : va_A (gw cA h qk qc qs ql qp qv fk fc fs fl fp fv (nI rn) (nI cn) sc) s.heap.size = A at hD ⊢
  have hA : ∀ q : Nat, s.heap.size ≤ q → A q := fun q h => by rw [← hAe]; exact Or.inr h
  have hS : va_S A s.heap s.heap [] := va_S.rf
  have hin0 : ∀ w ∈ u_ws RX0 TX0 9, w ∈ wsX0_set := by decide +kernel
  have lk25 := hts (.fieldLink RX0 25 "LadderGrid" "values" "[I") (by decide +kernel)
  have hl := lv_entry ([.ref h, .int (nI i), .int (nI v)]) (n := 4) (Nat.le_of_ble_eq_true rfl)
  rw [lg_entry_eq]
  generalize (lg_sl ([.ref h, .int (nI i), .int (nI v)]) ++ List.replicate (4 - (lg_sl ([.ref h, .int (nI i), .int (nI v)])).length) Slot.unset).toArray = ls at hl ⊢
  have hl : lv_has ls 4 [(0, .ref h), (1, .int (nI i)), (2, .int (nI v))] := hl
  have zi := nI_toInt (n := i) (by omega)
  suffices key : ∀ (H : Heap) (locs : List Loc), va_P (dC, dI) vwCl (gw cA h qk qc qs ql qp qv fk fc fs fl fp fv (nI rn) (nI cn) sc) H → va_D A (gw cA h qk qc qs ql qp qv fk fc fs fl fp fv (nI rn) (nI cn) sc) → va_S A s.heap H locs → W p l e (headSpec wsX0_set ({ frames := 1, cells := 0, slots := 0, locals := 20 })).room s m ([.ref h, .int (nI i), .int (nI v)] : List Value).toArray below meth c H locs 0 0 (MQ below (gQA (dC, dI) vwCl [(cA, .int), (cZ, .boolean)] (fv i) A (gw cA h qk qc qs ql qp qv fk fc fs fl fp (upd fv i (nI v)) (nI rn) (nI cn) sc)) ([.ref h, .int (nI i), .int (nI v)] : List Value).toArray s 0 0 A) (F0 m 0 ls []) from key s.heap [] hP hD hS
  clear hP hD hS
  intro H locs hP hD hS
  refine lv_iload_n hx hb dX0_set_0 rfl (lv_at hl 1 rfl) ?_
  refine gz_callR (W.runS (As := [.int (nI i)]) (rest := []) ⟨hx, hb, hml, hown, hts⟩ (cG_isVariable l (nI i)) (va_cwS 1 hts gX0_set_X0_isVariable rfl rfl rfl (by decide +kernel) ⟨Nat.le_of_ble_eq_true rfl, Nat.le_of_ble_eq_true rfl⟩) preEq rfl rfl hl.1 rfl (lv_room (Nat.le_of_ble_eq_true rfl)) dX0_set_1 ⟨Nat.le_of_ble_eq_true rfl, Nat.le_of_ble_eq_true rfl⟩) ?_
  refine gz_ifeqB (tgt := 16) hx hb dX0_set_4 (by decide) (fun c_1 => False.elim (by omega)) (fun c_1 => ?_)
  refine lv_iload_n hx hb dX0_set_7 rfl (lv_at hl 2 rfl) ?_
  refine gz_if_lt (tgt := 16) (za := ((v : Nat) : Int)) hx hb dX0_set_8 (by decide) (nI_toInt (by omega)) (fun c_2 => False.elim (by omega)) (fun c_2 => ?_)
  refine lv_iload_n hx hb dX0_set_11 rfl (lv_at hl 2 rfl) ?_
  refine lv_iconst (v := nI 1) hx hb dX0_set_12 (by decide) ?_
  refine gz_icmp_le (tgt := 18) (za := ((v : Nat) : Int)) (zb := ((1 : Nat) : Int)) hx hb dX0_set_13 (by decide) (nI_toInt (by omega)) (nI_toInt (by omega)) (fun c_3 => ?_) (fun c_3 => False.elim (by omega))
  refine lv_aload_n hx hb dX0_set_18 rfl (lv_at hl 0 rfl) ?_
  refine va_get (D := (dC, dI)) (ci := 0) (v := .ref qv) (C := RX0) (T := TX0) (N := 9) hx hb hts hin0 hown hK hP 0 rfl rfl 5 (by decide) lk25 (fun _ h9 => h9) rfl dX0_set_19 ?_
  refine lv_iload_n hx hb dX0_set_22 rfl (lv_at hl 1 rfl) ?_
  refine gz_iald (k := i) hx hb hK hP 6 0 rfl rfl (by omega) (by omega) dX0_set_23 ?_
  refine lv_istore_n (lv' := [(3, .int (fv i)), (0, .ref h), (1, .int (nI i)), (2, .int (nI v))]) hx hb dX0_set_24 rfl hl (by decide) rfl (fun ls hl => ?_)
  refine lv_aload_n hx hb dX0_set_25 rfl (lv_at hl 1 rfl) ?_
  refine va_get (D := (dC, dI)) (ci := 0) (v := .ref qv) (C := RX0) (T := TX0) (N := 9) hx hb hts hin0 hown hK hP 0 rfl rfl 5 (by decide) lk25 (fun _ h9 => h9) rfl dX0_set_26 ?_
  refine lv_iload_n hx hb dX0_set_29 rfl (lv_at hl 2 rfl) ?_
  refine lv_iload_n hx hb dX0_set_30 rfl (lv_at hl 3 rfl) ?_
  refine gz_iast (k := i) hx hb hK hP hD hS 6 0 rfl rfl (by omega) (by omega) dX0_set_31 (fun H locs hP hD hS => ?_)
  have hP : va_P (dC, dI) vwCl (gw cA h qk qc qs ql qp qv fk fc fs fl fp (upd fv i (nI v)) (nI rn) (nI cn) sc) H := hP
  have hD : va_D A (gw cA h qk qc qs ql qp qv fk fc fs fl fp (upd fv i (nI v)) (nI rn) (nI cn) sc) := hD
  refine lv_iload_n hx hb dX0_set_32 rfl (lv_at hl 0 rfl) ?_
  exact W.iret (v := fv i) hx hb hr (fun t ht hW => ⟨⟨fv i, (), rfl, rfl, by rw [ht]; exact hP, va_K.moved hW.alike hK, hD⟩, hS.F ht⟩) hS.2.2 dX0_set_33
set_option maxHeartbeats 4000000 in
set_option maxRecDepth 100000 in
theorem cG_set_bad (l : Launch) (dC : Nat → ClassId) (dI : Nat → Nat → Nat) (cA cZ : ClassId) (h qk qc qs ql qp qv : Nat) (fk fc fs fl fp fv : Nat → Int32) (rn cn : Nat) (sc : Int32) (x y : Int32) (hrn : 1 ≤ rn ∧ rn ≤ 12) (hcn : 1 ≤ cn ∧ cn ≤ 12) (hx0 : ¬ (0 ≤ x.toInt ∧ x.toInt < 40 ∧ 0 ≤ y.toInt ∧ y.toInt ≤ 1)) : Met l yX0_set wsX0_set ({ frames := 1, cells := 0, slots := 0, locals := 20 }) (gPr (dC, dI) vwCl [(cA, .int), (cZ, .boolean)] [.ref h, .int x, .int y] (gw cA h qk qc qs ql qp qv fk fc fs fl fp fv (nI rn) (nI cn) sc)) (QcRead (-1)) 0 0 (fun _ => False) := by
  refine Met.ofW (cc := cX0_set) (maxL := 4) (ret := (some .int)) (by decide) rfl ?_
  intro p e s m args below meth c s₁ B hml hv
  obtain ⟨rfl, hP, hK⟩ := hv
  have hx := B.exec
  have hb := B.bytes
  have hr := B.returns
  have hts := atoms_spec (ws := wsX0_set) B.pre
  have hown : s.vm.findClass RX0 = some m.cls := findClass_of_methodNamed B.named
  have hlocks := B.notSynchronized
  have hin0 : ∀ w ∈ u_ws RX0 TX0 9, w ∈ wsX0_set := by decide +kernel
  have lk25 := hts (.fieldLink RX0 25 "LadderGrid" "values" "[I") (by decide +kernel)
  have hl := lv_entry ([.ref h, .int x, .int y]) (n := 4) (Nat.le_of_ble_eq_true rfl)
  rw [lg_entry_eq]
  generalize (lg_sl ([.ref h, .int x, .int y]) ++ List.replicate (4 - (lg_sl ([.ref h, .int x, .int y])).length) Slot.unset).toArray = ls at hl ⊢
  have hl : lv_has ls 4 [(0, .ref h), (1, .int (x)), (2, .int (y))] := hl
  refine lv_iload_n hx hb dX0_set_0 rfl (lv_at hl 1 rfl) ?_
  refine gz_callR (W.runS (As := [.int (x)]) (rest := []) ⟨hx, hb, hml, hown, hts⟩ (cG_isVariable l x) (va_cwS 1 hts gX0_set_X0_isVariable rfl rfl rfl (by decide +kernel) ⟨Nat.le_of_ble_eq_true rfl, Nat.le_of_ble_eq_true rfl⟩) preEq rfl rfl hl.1 rfl (lv_room (Nat.le_of_ble_eq_true rfl)) dX0_set_1 ⟨Nat.le_of_ble_eq_true rfl, Nat.le_of_ble_eq_true rfl⟩) ?_
  refine gz_ifeqB (tgt := 16) hx hb dX0_set_4 (by decide) (fun c_1 => ?_) (fun c_1 => ?_)
  · skip
    refine lv_iconst (v := (-1)) hx hb dX0_set_16 (by decide) ?_
    exact W.iret (v := (-1)) hx hb hr (fun t ht hW => ⟨rfl, ht⟩) (fun q h => absurd h List.not_mem_nil) dX0_set_17
  · skip
    refine lv_iload_n hx hb dX0_set_7 rfl (lv_at hl 2 rfl) ?_
    refine gz_if_lt (tgt := 16) (za := y.toInt) hx hb dX0_set_8 (by decide) rfl (fun c_2 => ?_) (fun c_2 => ?_)
    · skip
      refine lv_iconst (v := (-1)) hx hb dX0_set_16 (by decide) ?_
      exact W.iret (v := (-1)) hx hb hr (fun t ht hW => ⟨rfl, ht⟩) (fun q h => absurd h List.not_mem_nil) dX0_set_17
    · skip
      refine lv_iload_n hx hb dX0_set_11 rfl (lv_at hl 2 rfl) ?_
      refine lv_iconst (v := nI 1) hx hb dX0_set_12 (by decide) ?_
      refine gz_icmp_le (tgt := 18) (za := y.toInt) (zb := ((1 : Nat) : Int)) hx hb dX0_set_13 (by decide) rfl (nI_toInt (by omega)) (fun c_3 => False.elim (by omega)) (fun c_3 => ?_)
      refine lv_iconst (v := (-1)) hx hb dX0_set_16 (by decide) ?_
      exact W.iret (v := (-1)) hx hb hr (fun t ht hW => ⟨rfl, ht⟩) (fun q h => absurd h List.not_mem_nil) dX0_set_17
set_option maxHeartbeats 4000000 in
set_option maxRecDepth 100000 in
theorem cG_begin_bad (l : Launch) (dC : Nat → ClassId) (dI : Nat → Nat → Nat) (cA cZ : ClassId) (h qk qc qs ql qp qv : Nat) (fk fc fs fl fp fv : Nat → Int32) (rn cn : Nat) (sc : Int32) (x y : Int32) (hrn : 1 ≤ rn ∧ rn ≤ 12) (hcn : 1 ≤ cn ∧ cn ≤ 12) (hx0 : ¬ (1 ≤ x.toInt ∧ x.toInt ≤ 12 ∧ 1 ≤ y.toInt ∧ y.toInt ≤ 12)) : Met l yX0_begin wsX0_begin ({ frames := 0, cells := 0, slots := 0, locals := 0 }) (gPr (dC, dI) vwCl [(cA, .int), (cZ, .boolean)] [.ref h, .int x, .int y] (gw cA h qk qc qs ql qp qv fk fc fs fl fp fv (nI rn) (nI cn) sc)) (QcRead (-1)) 0 0 (fun _ => False) := by
  refine Met.ofW (cc := cX0_begin) (maxL := 3) (ret := (some .int)) (by decide) rfl ?_
  intro p e s m args below meth c s₁ B hml hv
  obtain ⟨rfl, hP, hK⟩ := hv
  have hx := B.exec
  have hb := B.bytes
  have hr := B.returns
  have hts := atoms_spec (ws := wsX0_begin) B.pre
  have hown : s.vm.findClass RX0 = some m.cls := findClass_of_methodNamed B.named
  have hlocks := B.notSynchronized
  have hin0 : ∀ w ∈ u_ws RX0 TX0 9, w ∈ wsX0_begin := by decide +kernel
  have lk28 := hts (.fieldLink RX0 28 "LadderGrid" "rows" "I") (by decide +kernel)
  have lk32 := hts (.fieldLink RX0 32 "LadderGrid" "columns" "I") (by decide +kernel)
  have lk9 := hts (.fieldLink RX0 9 "LadderGrid" "kinds" "[I") (by decide +kernel)
  have lk13 := hts (.fieldLink RX0 13 "LadderGrid" "cellVariables" "[I") (by decide +kernel)
  have lk16 := hts (.fieldLink RX0 16 "LadderGrid" "seen" "[I") (by decide +kernel)
  have lk19 := hts (.fieldLink RX0 19 "LadderGrid" "links" "[I") (by decide +kernel)
  have lk35 := hts (.fieldLink RX0 35 "LadderGrid" "scanned" "Z") (by decide +kernel)
  have hl := lv_entry ([.ref h, .int x, .int y]) (n := 3) (Nat.le_of_ble_eq_true rfl)
  rw [lg_entry_eq]
  generalize (lg_sl ([.ref h, .int x, .int y]) ++ List.replicate (3 - (lg_sl ([.ref h, .int x, .int y])).length) Slot.unset).toArray = ls at hl ⊢
  have hl : lv_has ls 3 [(0, .ref h), (1, .int (x)), (2, .int (y))] := hl
  refine lv_iload_n hx hb dX0_begin_0 rfl (lv_at hl 1 rfl) ?_
  refine lv_iconst (v := nI 1) hx hb dX0_begin_1 (by decide) ?_
  refine gz_icmp_lt (tgt := 22) (za := x.toInt) (zb := ((1 : Nat) : Int)) hx hb dX0_begin_2 (by decide) rfl (nI_toInt (by omega)) (fun c_1 => ?_) (fun c_1 => ?_)
  · skip
    refine lv_iconst (v := (-1)) hx hb dX0_begin_22 (by decide) ?_
    exact W.iret (v := (-1)) hx hb hr (fun t ht hW => ⟨rfl, ht⟩) (fun q h => absurd h List.not_mem_nil) dX0_begin_23
  · skip
    refine lv_iload_n hx hb dX0_begin_5 rfl (lv_at hl 1 rfl) ?_
    refine lv_bipush (v := nI 12) hx hb dX0_begin_6 (by decide) ?_
    refine gz_icmp_gt (tgt := 22) (za := x.toInt) (zb := ((12 : Nat) : Int)) hx hb dX0_begin_8 (by decide) rfl (nI_toInt (by omega)) (fun c_2 => ?_) (fun c_2 => ?_)
    · skip
      refine lv_iconst (v := (-1)) hx hb dX0_begin_22 (by decide) ?_
      exact W.iret (v := (-1)) hx hb hr (fun t ht hW => ⟨rfl, ht⟩) (fun q h => absurd h List.not_mem_nil) dX0_begin_23
    · skip
      refine lv_iload_n hx hb dX0_begin_11 rfl (lv_at hl 2 rfl) ?_
      refine lv_iconst (v := nI 1) hx hb dX0_begin_12 (by decide) ?_
      refine gz_icmp_lt (tgt := 22) (za := y.toInt) (zb := ((1 : Nat) : Int)) hx hb dX0_begin_13 (by decide) rfl (nI_toInt (by omega)) (fun c_3 => ?_) (fun c_3 => ?_)
      · skip
        refine lv_iconst (v := (-1)) hx hb dX0_begin_22 (by decide) ?_
        exact W.iret (v := (-1)) hx hb hr (fun t ht hW => ⟨rfl, ht⟩) (fun q h => absurd h List.not_mem_nil) dX0_begin_23
      · skip
        refine lv_iload_n hx hb dX0_begin_16 rfl (lv_at hl 2 rfl) ?_
        refine lv_bipush (v := nI 12) hx hb dX0_begin_17 (by decide) ?_
        refine gz_icmp_le (tgt := 24) (za := y.toInt) (zb := ((12 : Nat) : Int)) hx hb dX0_begin_19 (by decide) rfl (nI_toInt (by omega)) (fun c_4 => False.elim (by omega)) (fun c_4 => ?_)
        refine lv_iconst (v := (-1)) hx hb dX0_begin_22 (by decide) ?_
        exact W.iret (v := (-1)) hx hb hr (fun t ht hW => ⟨rfl, ht⟩) (fun q h => absurd h List.not_mem_nil) dX0_begin_23
set_option maxHeartbeats 4000000 in
set_option maxRecDepth 100000 in
theorem cG_link (l : Launch) (dC : Nat → ClassId) (dI : Nat → Nat → Nat) (sz : Nat) (cA cZ : ClassId) (h qk qc qs ql qp qv : Nat) (fk fc fs fl fp fv : Nat → Int32) (rn cn : Nat) (sc : Int32) (i j : Nat) (b : Int32) (hrn : 1 ≤ rn ∧ rn ≤ 12) (hcn : 1 ≤ cn ∧ cn ≤ 12) (hi : i + 1 < rn) (hj : 1 ≤ j ∧ j < cn) (hb01 : b = nI 0 ∨ b = nI 1) : Met l yX0_link wsX0_link ({ frames := 1, cells := 0, slots := 0, locals := 21 }) (gPw (dC, dI) vwCl [(cA, .int), (cZ, .boolean)] [.ref h, .int (nI i), .int (nI j), .int b] sz (gw cA h qk qc qs ql qp qv fk fc fs fl fp fv (nI rn) (nI cn) sc)) (gQA (dC, dI) vwCl [(cA, .int), (cZ, .boolean)] (fl (i * 13 + j)) (va_A (gw cA h qk qc qs ql qp qv fk fc fs fl fp fv (nI rn) (nI cn) sc) sz) (gw cA h qk qc qs ql qp qv fk fc fs (upd fl (i * 13 + j) b) fp fv (nI rn) (nI cn) (nI 0))) 0 0 (va_A (gw cA h qk qc qs ql qp qv fk fc fs fl fp fv (nI rn) (nI cn) sc) sz) := by
  refine Met.ofW (cc := cX0_link) (maxL := 6) (ret := (some .int)) (by decide) rfl ?_
  intro p e s m args below meth c s₁ B hml hv
  obtain ⟨rfl, hsz, hP, hK, hD0⟩ := hv
  have hx := B.exec
  have hb := B.bytes
  have hr := B.returns
  have hts := atoms_spec (ws := wsX0_link) B.pre
  have hown : s.vm.findClass RX0 = some m.cls := findClass_of_methodNamed B.named
  have hlocks := B.notSynchronized
  subst hsz
  have hD := hD0.self (sz := s.heap.size)
  generalize hAe : va_A (gw cA h qk qc qs ql qp qv fk fc fs fl fp fv (nI rn) (nI cn) sc) s.heap.size = A at hD ⊢
  have hA : ∀ q : Nat, s.heap.size ≤ q → A q := fun q h => by rw [← hAe]; exact Or.inr h
  have hS : va_S A s.heap s.heap [] := va_S.rf
  have hin0 : ∀ w ∈ u_ws RX0 TX0 9, w ∈ wsX0_link := by decide +kernel
  have lk28 := hts (.fieldLink RX0 28 "LadderGrid" "rows" "I") (by decide +kernel)
  have lk32 := hts (.fieldLink RX0 32 "LadderGrid" "columns" "I") (by decide +kernel)
  have lk19 := hts (.fieldLink RX0 19 "LadderGrid" "links" "[I") (by decide +kernel)
  have lk35 := hts (.fieldLink RX0 35 "LadderGrid" "scanned" "Z") (by decide +kernel)
  have hl := lv_entry ([.ref h, .int (nI i), .int (nI j), .int b]) (n := 6) (Nat.le_of_ble_eq_true rfl)
  rw [lg_entry_eq]
  generalize (lg_sl ([.ref h, .int (nI i), .int (nI j), .int b]) ++ List.replicate (6 - (lg_sl ([.ref h, .int (nI i), .int (nI j), .int b])).length) Slot.unset).toArray = ls at hl ⊢
  have hl : lv_has ls 6 [(0, .ref h), (1, .int (nI i)), (2, .int (nI j)), (3, .int (b))] := hl
  suffices key : ∀ (H : Heap) (locs : List Loc), va_P (dC, dI) vwCl (gw cA h qk qc qs ql qp qv fk fc fs fl fp fv (nI rn) (nI cn) sc) H → va_D A (gw cA h qk qc qs ql qp qv fk fc fs fl fp fv (nI rn) (nI cn) sc) → va_S A s.heap H locs → W p l e (headSpec wsX0_link ({ frames := 1, cells := 0, slots := 0, locals := 21 })).room s m ([.ref h, .int (nI i), .int (nI j), .int b] : List Value).toArray below meth c H locs 0 0 (MQ below (gQA (dC, dI) vwCl [(cA, .int), (cZ, .boolean)] (fl (i * 13 + j)) A (gw cA h qk qc qs ql qp qv fk fc fs (upd fl (i * 13 + j) b) fp fv (nI rn) (nI cn) (nI 0))) ([.ref h, .int (nI i), .int (nI j), .int b] : List Value).toArray s 0 0 A) (F0 m 0 ls []) from key s.heap [] hP hD hS
  clear hP hD hS
  intro H locs hP hD hS
  rcases hb01 with hb0 | hb0
  · subst hb0
    refine lv_iload_n hx hb dX0_link_0 rfl (lv_at hl 1 rfl) ?_
    refine gz_if_lt (tgt := 27) (za := ((i : Nat) : Int)) hx hb dX0_link_1 (by decide) (nI_toInt (by omega)) (fun c_1 => False.elim (by omega)) (fun c_1 => ?_)
    refine lv_iload_n hx hb dX0_link_4 rfl (lv_at hl 1 rfl) ?_
    refine lv_aload_n hx hb dX0_link_5 rfl (lv_at hl 0 rfl) ?_
    refine va_get (D := (dC, dI)) (ci := 0) (v := .int (nI rn)) (C := RX0) (T := TX0) (N := 9) hx hb hts hin0 hown hK hP 0 rfl rfl 6 (by decide) lk28 (fun _ h9 => h9) rfl dX0_link_6 ?_
    refine lv_iconst (v := nI 1) hx hb dX0_link_9 (by decide) ?_
    refine gz_isub (i := rn) (j := 1) hx hb dX0_link_10 (by omega) ?_
    refine gz_icmp_ge (tgt := 27) (za := ((i : Nat) : Int)) (zb := ((rn - 1 : Nat) : Int)) hx hb dX0_link_11 (by decide) (nI_toInt (by omega)) (nI_toInt (by omega)) (fun c_2 => False.elim (by omega)) (fun c_2 => ?_)
    refine lv_iload_n hx hb dX0_link_14 rfl (lv_at hl 2 rfl) ?_
    refine lv_iconst (v := nI 1) hx hb dX0_link_15 (by decide) ?_
    refine gz_icmp_lt (tgt := 27) (za := ((j : Nat) : Int)) (zb := ((1 : Nat) : Int)) hx hb dX0_link_16 (by decide) (nI_toInt (by omega)) (nI_toInt (by omega)) (fun c_3 => False.elim (by omega)) (fun c_3 => ?_)
    refine lv_iload_n hx hb dX0_link_19 rfl (lv_at hl 2 rfl) ?_
    refine lv_aload_n hx hb dX0_link_20 rfl (lv_at hl 0 rfl) ?_
    refine va_get (D := (dC, dI)) (ci := 0) (v := .int (nI cn)) (C := RX0) (T := TX0) (N := 9) hx hb hts hin0 hown hK hP 0 rfl rfl 7 (by decide) lk32 (fun _ h9 => h9) rfl dX0_link_21 ?_
    refine gz_icmp_lt (tgt := 29) (za := ((j : Nat) : Int)) (zb := ((cn : Nat) : Int)) hx hb dX0_link_24 (by decide) (nI_toInt (by omega)) (nI_toInt (by omega)) (fun c_4 => ?_) (fun c_4 => False.elim (by omega))
    refine lv_iload_n hx hb dX0_link_29 rfl (lv_at hl 1 rfl) ?_
    refine lv_iload_n hx hb dX0_link_30 rfl (lv_at hl 2 rfl) ?_
    refine gz_callR (W.runS (As := [.int (nI i), .int (nI j)]) (rest := []) ⟨hx, hb, hml, hown, hts⟩ (cG_pointAt l i j) (va_cwS 2 hts gX0_link_X0_pointAt rfl rfl rfl (by decide +kernel) ⟨Nat.le_of_ble_eq_true rfl, Nat.le_of_ble_eq_true rfl⟩) preEq rfl rfl hl.1 rfl (lv_room (Nat.le_of_ble_eq_true rfl)) dX0_link_31 ⟨Nat.le_of_ble_eq_true rfl, Nat.le_of_ble_eq_true rfl⟩) ?_
    refine lv_istore (lv' := [(4, .int (nI (i * 13 + j))), (0, .ref h), (1, .int (nI i)), (2, .int (nI j)), (3, .int (nI 0))]) hx hb dX0_link_34 hl (by decide) rfl (fun ls hl => ?_)
    refine lv_aload_n hx hb dX0_link_36 rfl (lv_at hl 1 rfl) ?_
    refine va_get (D := (dC, dI)) (ci := 0) (v := .ref ql) (C := RX0) (T := TX0) (N := 9) hx hb hts hin0 hown hK hP 0 rfl rfl 3 (by decide) lk19 (fun _ h9 => h9) rfl dX0_link_37 ?_
    refine lv_iload hx hb dX0_link_40 (lv_at hl 0 rfl) ?_
    refine gz_iald (k := i * 13 + j) hx hb hK hP 4 0 rfl rfl (by omega) (by omega) dX0_link_42 ?_
    refine lv_istore (lv' := [(5, .int (fl (i * 13 + j))), (4, .int (nI (i * 13 + j))), (0, .ref h), (1, .int (nI i)), (2, .int (nI j)), (3, .int (nI 0))]) hx hb dX0_link_43 hl (by decide) rfl (fun ls hl => ?_)
    refine lv_aload_n hx hb dX0_link_45 rfl (lv_at hl 2 rfl) ?_
    refine va_get (D := (dC, dI)) (ci := 0) (v := .ref ql) (C := RX0) (T := TX0) (N := 9) hx hb hts hin0 hown hK hP 0 rfl rfl 3 (by decide) lk19 (fun _ h9 => h9) rfl dX0_link_46 ?_
    refine lv_iload hx hb dX0_link_49 (lv_at hl 1 rfl) ?_
    refine lv_iload_n hx hb dX0_link_51 rfl (lv_at hl 5 rfl) ?_
    refine lv_if_eq (tgt := 59) hx hb dX0_link_52 (by decide) (fun c_5 => ?_) (fun c_5 => False.elim (c_5 rfl))
    refine lv_iconst (v := nI 0) hx hb dX0_link_59 (by decide) ?_
    refine gz_iast (k := i * 13 + j) hx hb hK hP hD hS 4 0 rfl rfl (by omega) (by omega) dX0_link_60 (fun H locs hP hD hS => ?_)
    have hP : va_P (dC, dI) vwCl (gw cA h qk qc qs ql qp qv fk fc fs (upd fl (i * 13 + j) (nI 0)) fp fv (nI rn) (nI cn) sc) H := hP
    have hD : va_D A (gw cA h qk qc qs ql qp qv fk fc fs (upd fl (i * 13 + j) (nI 0)) fp fv (nI rn) (nI cn) sc) := hD
    refine lv_aload_n hx hb dX0_link_61 rfl (lv_at hl 2 rfl) ?_
    refine lv_iconst (v := nI 0) hx hb dX0_link_62 (by decide) ?_
    refine va_put (D := (dC, dI)) (ci := 0) (v := .int (nI 0)) (ty := .boolean) (C := RX0) (T := TX0) (N := 9) hx hb hts hin0 tyX0 tyX0_ok nmX0 hown hK hP hD hS 0 rfl rfl 8 (by decide) lk35 (fun _ h9 => h9) rfl (by decide +kernel) rfl rfl (Nat.le_of_ble_eq_true rfl) dX0_link_63 (fun H locs hP hD hS => ?_)
    have hP : va_P (dC, dI) vwCl (gw cA h qk qc qs ql qp qv fk fc fs (upd fl (i * 13 + j) (nI 0)) fp fv (nI rn) (nI cn) (nI 0)) H := hP
    have hD : va_D A (gw cA h qk qc qs ql qp qv fk fc fs (upd fl (i * 13 + j) (nI 0)) fp fv (nI rn) (nI cn) (nI 0)) := hD
    refine lv_iload hx hb dX0_link_66 (lv_at hl 0 rfl) ?_
    exact W.iret (v := fl (i * 13 + j)) hx hb hr (fun t ht hW => ⟨⟨fl (i * 13 + j), (), rfl, rfl, by rw [ht]; exact hP, va_K.moved hW.alike hK, hD⟩, hS.F ht⟩) hS.2.2 dX0_link_68
  · subst hb0
    refine lv_iload_n hx hb dX0_link_0 rfl (lv_at hl 1 rfl) ?_
    refine gz_if_lt (tgt := 27) (za := ((i : Nat) : Int)) hx hb dX0_link_1 (by decide) (nI_toInt (by omega)) (fun c_1 => False.elim (by omega)) (fun c_1 => ?_)
    refine lv_iload_n hx hb dX0_link_4 rfl (lv_at hl 1 rfl) ?_
    refine lv_aload_n hx hb dX0_link_5 rfl (lv_at hl 0 rfl) ?_
    refine va_get (D := (dC, dI)) (ci := 0) (v := .int (nI rn)) (C := RX0) (T := TX0) (N := 9) hx hb hts hin0 hown hK hP 0 rfl rfl 6 (by decide) lk28 (fun _ h9 => h9) rfl dX0_link_6 ?_
    refine lv_iconst (v := nI 1) hx hb dX0_link_9 (by decide) ?_
    refine gz_isub (i := rn) (j := 1) hx hb dX0_link_10 (by omega) ?_
    refine gz_icmp_ge (tgt := 27) (za := ((i : Nat) : Int)) (zb := ((rn - 1 : Nat) : Int)) hx hb dX0_link_11 (by decide) (nI_toInt (by omega)) (nI_toInt (by omega)) (fun c_2 => False.elim (by omega)) (fun c_2 => ?_)
    refine lv_iload_n hx hb dX0_link_14 rfl (lv_at hl 2 rfl) ?_
    refine lv_iconst (v := nI 1) hx hb dX0_link_15 (by decide) ?_
    refine gz_icmp_lt (tgt := 27) (za := ((j : Nat) : Int)) (zb := ((1 : Nat) : Int)) hx hb dX0_link_16 (by decide) (nI_toInt (by omega)) (nI_toInt (by omega)) (fun c_3 => False.elim (by omega)) (fun c_3 => ?_)
    refine lv_iload_n hx hb dX0_link_19 rfl (lv_at hl 2 rfl) ?_
    refine lv_aload_n hx hb dX0_link_20 rfl (lv_at hl 0 rfl) ?_
    refine va_get (D := (dC, dI)) (ci := 0) (v := .int (nI cn)) (C := RX0) (T := TX0) (N := 9) hx hb hts hin0 hown hK hP 0 rfl rfl 7 (by decide) lk32 (fun _ h9 => h9) rfl dX0_link_21 ?_
    refine gz_icmp_lt (tgt := 29) (za := ((j : Nat) : Int)) (zb := ((cn : Nat) : Int)) hx hb dX0_link_24 (by decide) (nI_toInt (by omega)) (nI_toInt (by omega)) (fun c_4 => ?_) (fun c_4 => False.elim (by omega))
    refine lv_iload_n hx hb dX0_link_29 rfl (lv_at hl 1 rfl) ?_
    refine lv_iload_n hx hb dX0_link_30 rfl (lv_at hl 2 rfl) ?_
    refine gz_callR (W.runS (As := [.int (nI i), .int (nI j)]) (rest := []) ⟨hx, hb, hml, hown, hts⟩ (cG_pointAt l i j) (va_cwS 2 hts gX0_link_X0_pointAt rfl rfl rfl (by decide +kernel) ⟨Nat.le_of_ble_eq_true rfl, Nat.le_of_ble_eq_true rfl⟩) preEq rfl rfl hl.1 rfl (lv_room (Nat.le_of_ble_eq_true rfl)) dX0_link_31 ⟨Nat.le_of_ble_eq_true rfl, Nat.le_of_ble_eq_true rfl⟩) ?_
    refine lv_istore (lv' := [(4, .int (nI (i * 13 + j))), (0, .ref h), (1, .int (nI i)), (2, .int (nI j)), (3, .int (nI 1))]) hx hb dX0_link_34 hl (by decide) rfl (fun ls hl => ?_)
    refine lv_aload_n hx hb dX0_link_36 rfl (lv_at hl 1 rfl) ?_
    refine va_get (D := (dC, dI)) (ci := 0) (v := .ref ql) (C := RX0) (T := TX0) (N := 9) hx hb hts hin0 hown hK hP 0 rfl rfl 3 (by decide) lk19 (fun _ h9 => h9) rfl dX0_link_37 ?_
    refine lv_iload hx hb dX0_link_40 (lv_at hl 0 rfl) ?_
    refine gz_iald (k := i * 13 + j) hx hb hK hP 4 0 rfl rfl (by omega) (by omega) dX0_link_42 ?_
    refine lv_istore (lv' := [(5, .int (fl (i * 13 + j))), (4, .int (nI (i * 13 + j))), (0, .ref h), (1, .int (nI i)), (2, .int (nI j)), (3, .int (nI 1))]) hx hb dX0_link_43 hl (by decide) rfl (fun ls hl => ?_)
    refine lv_aload_n hx hb dX0_link_45 rfl (lv_at hl 2 rfl) ?_
    refine va_get (D := (dC, dI)) (ci := 0) (v := .ref ql) (C := RX0) (T := TX0) (N := 9) hx hb hts hin0 hown hK hP 0 rfl rfl 3 (by decide) lk19 (fun _ h9 => h9) rfl dX0_link_46 ?_
    refine lv_iload hx hb dX0_link_49 (lv_at hl 1 rfl) ?_
    refine lv_iload_n hx hb dX0_link_51 rfl (lv_at hl 5 rfl) ?_
    refine lv_if_eq (tgt := 59) hx hb dX0_link_52 (by decide) (fun c_5 => False.elim (absurd c_5 (by decide))) (fun c_5 => ?_)
    refine lv_iconst (v := nI 1) hx hb dX0_link_55 (by decide) ?_
    refine lv_goto (tgt := 60) hx hb dX0_link_56 (by decide) ?_
    refine gz_iast (k := i * 13 + j) hx hb hK hP hD hS 4 0 rfl rfl (by omega) (by omega) dX0_link_60 (fun H locs hP hD hS => ?_)
    have hP : va_P (dC, dI) vwCl (gw cA h qk qc qs ql qp qv fk fc fs (upd fl (i * 13 + j) (nI 1)) fp fv (nI rn) (nI cn) sc) H := hP
    have hD : va_D A (gw cA h qk qc qs ql qp qv fk fc fs (upd fl (i * 13 + j) (nI 1)) fp fv (nI rn) (nI cn) sc) := hD
    refine lv_aload_n hx hb dX0_link_61 rfl (lv_at hl 2 rfl) ?_
    refine lv_iconst (v := nI 0) hx hb dX0_link_62 (by decide) ?_
    refine va_put (D := (dC, dI)) (ci := 0) (v := .int (nI 0)) (ty := .boolean) (C := RX0) (T := TX0) (N := 9) hx hb hts hin0 tyX0 tyX0_ok nmX0 hown hK hP hD hS 0 rfl rfl 8 (by decide) lk35 (fun _ h9 => h9) rfl (by decide +kernel) rfl rfl (Nat.le_of_ble_eq_true rfl) dX0_link_63 (fun H locs hP hD hS => ?_)
    have hP : va_P (dC, dI) vwCl (gw cA h qk qc qs ql qp qv fk fc fs (upd fl (i * 13 + j) (nI 1)) fp fv (nI rn) (nI cn) (nI 0)) H := hP
    have hD : va_D A (gw cA h qk qc qs ql qp qv fk fc fs (upd fl (i * 13 + j) (nI 1)) fp fv (nI rn) (nI cn) (nI 0)) := hD
    refine lv_iload hx hb dX0_link_66 (lv_at hl 0 rfl) ?_
    exact W.iret (v := fl (i * 13 + j)) hx hb hr (fun t ht hW => ⟨⟨fl (i * 13 + j), (), rfl, rfl, by rw [ht]; exact hP, va_K.moved hW.alike hK, hD⟩, hS.F ht⟩) hS.2.2 dX0_link_68
set_option maxHeartbeats 4000000 in
set_option maxRecDepth 100000 in
theorem cG_link_bad (l : Launch) (dC : Nat → ClassId) (dI : Nat → Nat → Nat) (cA cZ : ClassId) (h qk qc qs ql qp qv : Nat) (fk fc fs fl fp fv : Nat → Int32) (rn cn : Nat) (sc : Int32) (x y b : Int32) (hrn : 1 ≤ rn ∧ rn ≤ 12) (hcn : 1 ≤ cn ∧ cn ≤ 12) (hx0 : ¬ (0 ≤ x.toInt ∧ x.toInt + 1 < (rn : Int) ∧ 1 ≤ y.toInt ∧ y.toInt < (cn : Int))) : Met l yX0_link wsX0_link ({ frames := 0, cells := 0, slots := 0, locals := 0 }) (gPr (dC, dI) vwCl [(cA, .int), (cZ, .boolean)] [.ref h, .int x, .int y, .int b] (gw cA h qk qc qs ql qp qv fk fc fs fl fp fv (nI rn) (nI cn) sc)) (QcRead (-1)) 0 0 (fun _ => False) := by
  refine Met.ofW (cc := cX0_link) (maxL := 6) (ret := (some .int)) (by decide) rfl ?_
  intro p e s m args below meth c s₁ B hml hv
  obtain ⟨rfl, hP, hK⟩ := hv
  have hx := B.exec
  have hb := B.bytes
  have hr := B.returns
  have hts := atoms_spec (ws := wsX0_link) B.pre
  have hown : s.vm.findClass RX0 = some m.cls := findClass_of_methodNamed B.named
  have hlocks := B.notSynchronized
  have hin0 : ∀ w ∈ u_ws RX0 TX0 9, w ∈ wsX0_link := by decide +kernel
  have lk28 := hts (.fieldLink RX0 28 "LadderGrid" "rows" "I") (by decide +kernel)
  have lk32 := hts (.fieldLink RX0 32 "LadderGrid" "columns" "I") (by decide +kernel)
  have lk19 := hts (.fieldLink RX0 19 "LadderGrid" "links" "[I") (by decide +kernel)
  have lk35 := hts (.fieldLink RX0 35 "LadderGrid" "scanned" "Z") (by decide +kernel)
  have hl := lv_entry ([.ref h, .int x, .int y, .int b]) (n := 6) (Nat.le_of_ble_eq_true rfl)
  rw [lg_entry_eq]
  generalize (lg_sl ([.ref h, .int x, .int y, .int b]) ++ List.replicate (6 - (lg_sl ([.ref h, .int x, .int y, .int b])).length) Slot.unset).toArray = ls at hl ⊢
  have hl : lv_has ls 6 [(0, .ref h), (1, .int (x)), (2, .int (y)), (3, .int (b))] := hl
  refine lv_iload_n hx hb dX0_link_0 rfl (lv_at hl 1 rfl) ?_
  refine gz_if_lt (tgt := 27) (za := x.toInt) hx hb dX0_link_1 (by decide) rfl (fun c_1 => ?_) (fun c_1 => ?_)
  · skip
    refine lv_iconst (v := (-1)) hx hb dX0_link_27 (by decide) ?_
    exact W.iret (v := (-1)) hx hb hr (fun t ht hW => ⟨rfl, ht⟩) (fun q h => absurd h List.not_mem_nil) dX0_link_28
  · skip
    refine lv_iload_n hx hb dX0_link_4 rfl (lv_at hl 1 rfl) ?_
    refine lv_aload_n hx hb dX0_link_5 rfl (lv_at hl 0 rfl) ?_
    refine va_get (D := (dC, dI)) (ci := 0) (v := .int (nI rn)) (C := RX0) (T := TX0) (N := 9) hx hb hts hin0 hown hK hP 0 rfl rfl 6 (by decide) lk28 (fun _ h9 => h9) rfl dX0_link_6 ?_
    refine lv_iconst (v := nI 1) hx hb dX0_link_9 (by decide) ?_
    refine gz_isub (i := rn) (j := 1) hx hb dX0_link_10 (by omega) ?_
    refine gz_icmp_ge (tgt := 27) (za := x.toInt) (zb := ((rn - 1 : Nat) : Int)) hx hb dX0_link_11 (by decide) rfl (nI_toInt (by omega)) (fun c_2 => ?_) (fun c_2 => ?_)
    · skip
      refine lv_iconst (v := (-1)) hx hb dX0_link_27 (by decide) ?_
      exact W.iret (v := (-1)) hx hb hr (fun t ht hW => ⟨rfl, ht⟩) (fun q h => absurd h List.not_mem_nil) dX0_link_28
    · skip
      refine lv_iload_n hx hb dX0_link_14 rfl (lv_at hl 2 rfl) ?_
      refine lv_iconst (v := nI 1) hx hb dX0_link_15 (by decide) ?_
      refine gz_icmp_lt (tgt := 27) (za := y.toInt) (zb := ((1 : Nat) : Int)) hx hb dX0_link_16 (by decide) rfl (nI_toInt (by omega)) (fun c_3 => ?_) (fun c_3 => ?_)
      · skip
        refine lv_iconst (v := (-1)) hx hb dX0_link_27 (by decide) ?_
        exact W.iret (v := (-1)) hx hb hr (fun t ht hW => ⟨rfl, ht⟩) (fun q h => absurd h List.not_mem_nil) dX0_link_28
      · skip
        refine lv_iload_n hx hb dX0_link_19 rfl (lv_at hl 2 rfl) ?_
        refine lv_aload_n hx hb dX0_link_20 rfl (lv_at hl 0 rfl) ?_
        refine va_get (D := (dC, dI)) (ci := 0) (v := .int (nI cn)) (C := RX0) (T := TX0) (N := 9) hx hb hts hin0 hown hK hP 0 rfl rfl 7 (by decide) lk32 (fun _ h9 => h9) rfl dX0_link_21 ?_
        refine gz_icmp_lt (tgt := 29) (za := y.toInt) (zb := ((cn : Nat) : Int)) hx hb dX0_link_24 (by decide) rfl (nI_toInt (by omega)) (fun c_4 => False.elim (by omega)) (fun c_4 => ?_)
        refine lv_iconst (v := (-1)) hx hb dX0_link_27 (by decide) ?_
        exact W.iret (v := (-1)) hx hb hr (fun t ht hW => ⟨rfl, ht⟩) (fun q h => absurd h List.not_mem_nil) dX0_link_28
set_option maxHeartbeats 4000000 in
set_option maxRecDepth 100000 in
theorem cG_cell (l : Launch) (dC : Nat → ClassId) (dI : Nat → Nat → Nat) (sz : Nat) (cA cZ : ClassId) (h qk qc qs ql qp qv : Nat) (fk fc fs fl fp fv : Nat → Int32) (rn cn : Nat) (sc : Int32) (i j k : Nat) (x : Int32) (hrn : 1 ≤ rn ∧ rn ≤ 12) (hcn : 1 ≤ cn ∧ cn ≤ 12) (hi : i < rn) (hj : j < cn) (hk : k ≤ 9) (hx2 : k < 2 ∨ (0 ≤ x.toInt ∧ x.toInt < 40)) (hk6 : k < 6 ∨ j + 1 = cn) : Met l yX0_cell wsX0_cell ({ frames := 1, cells := 0, slots := 0, locals := 21 }) (gPw (dC, dI) vwCl [(cA, .int), (cZ, .boolean)] [.ref h, .int (nI i), .int (nI j), .int (nI k), .int x] sz (gw cA h qk qc qs ql qp qv fk fc fs fl fp fv (nI rn) (nI cn) sc)) (gQA (dC, dI) vwCl [(cA, .int), (cZ, .boolean)] (fk (i * 12 + j)) (va_A (gw cA h qk qc qs ql qp qv fk fc fs fl fp fv (nI rn) (nI cn) sc) sz) (gw cA h qk qc qs ql qp qv (upd fk (i * 12 + j) (nI k)) (upd fc (i * 12 + j) (if 2 ≤ k then x else nI 0)) (upd fs (i * 12 + j) (nI 0)) fl fp fv (nI rn) (nI cn) (nI 0))) 0 0 (va_A (gw cA h qk qc qs ql qp qv fk fc fs fl fp fv (nI rn) (nI cn) sc) sz) := by
  refine Met.ofW (cc := cX0_cell) (maxL := 7) (ret := (some .int)) (by decide) rfl ?_
  intro p e s m args below meth c s₁ B hml hv
  obtain ⟨rfl, hsz, hP, hK, hD0⟩ := hv
  have hx := B.exec
  have hb := B.bytes
  have hr := B.returns
  have hts := atoms_spec (ws := wsX0_cell) B.pre
  have hown : s.vm.findClass RX0 = some m.cls := findClass_of_methodNamed B.named
  have hlocks := B.notSynchronized
  subst hsz
  have hD := hD0.self (sz := s.heap.size)
  generalize hAe : va_A (gw cA h qk qc qs ql qp qv fk fc fs fl fp fv (nI rn) (nI cn) sc) s.heap.size = A at hD ⊢
  have hA : ∀ q : Nat, s.heap.size ≤ q → A q := fun q h => by rw [← hAe]; exact Or.inr h
  have hS : va_S A s.heap s.heap [] := va_S.rf
  have hin0 : ∀ w ∈ u_ws RX0 TX0 9, w ∈ wsX0_cell := by decide +kernel
  have lk32 := hts (.fieldLink RX0 32 "LadderGrid" "columns" "I") (by decide +kernel)
  have lk9 := hts (.fieldLink RX0 9 "LadderGrid" "kinds" "[I") (by decide +kernel)
  have lk13 := hts (.fieldLink RX0 13 "LadderGrid" "cellVariables" "[I") (by decide +kernel)
  have lk16 := hts (.fieldLink RX0 16 "LadderGrid" "seen" "[I") (by decide +kernel)
  have lk35 := hts (.fieldLink RX0 35 "LadderGrid" "scanned" "Z") (by decide +kernel)
  have hl := lv_entry ([.ref h, .int (nI i), .int (nI j), .int (nI k), .int x]) (n := 7) (Nat.le_of_ble_eq_true rfl)
  rw [lg_entry_eq]
  generalize (lg_sl ([.ref h, .int (nI i), .int (nI j), .int (nI k), .int x]) ++ List.replicate (7 - (lg_sl ([.ref h, .int (nI i), .int (nI j), .int (nI k), .int x])).length) Slot.unset).toArray = ls at hl ⊢
  have hl : lv_has ls 7 [(0, .ref h), (1, .int (nI i)), (2, .int (nI j)), (3, .int (nI k)), (4, .int (x))] := hl
  have zi := nI_toInt (n := i) (by omega)
  have zj := nI_toInt (n := j) (by omega)
  have zk := nI_toInt (n := k) (by omega)
  suffices key : ∀ (H : Heap) (locs : List Loc), va_P (dC, dI) vwCl (gw cA h qk qc qs ql qp qv fk fc fs fl fp fv (nI rn) (nI cn) sc) H → va_D A (gw cA h qk qc qs ql qp qv fk fc fs fl fp fv (nI rn) (nI cn) sc) → va_S A s.heap H locs → W p l e (headSpec wsX0_cell ({ frames := 1, cells := 0, slots := 0, locals := 21 })).room s m ([.ref h, .int (nI i), .int (nI j), .int (nI k), .int x] : List Value).toArray below meth c H locs 0 0 (MQ below (gQA (dC, dI) vwCl [(cA, .int), (cZ, .boolean)] (fk (i * 12 + j)) A (gw cA h qk qc qs ql qp qv (upd fk (i * 12 + j) (nI k)) (upd fc (i * 12 + j) (if 2 ≤ k then x else nI 0)) (upd fs (i * 12 + j) (nI 0)) fl fp fv (nI rn) (nI cn) (nI 0))) ([.ref h, .int (nI i), .int (nI j), .int (nI k), .int x] : List Value).toArray s 0 0 A) (F0 m 0 ls []) from key s.heap [] hP hD hS
  clear hP hD hS
  intro H locs hP hD hS
  by_cases hk2 : 2 ≤ k
  · by_cases hk5 : 6 ≤ k
    · skip
      refine lv_aload_n hx hb dX0_cell_0 rfl (lv_at hl 0 rfl) ?_
      refine lv_iload_n hx hb dX0_cell_1 rfl (lv_at hl 1 rfl) ?_
      refine gz_callR (W.runV (As := [.int (nI i)]) (rest := []) ⟨hx, hb, hml, hown, hts⟩ (cG_isRow l dC dI cA cZ h qk qc qs ql qp qv fk fc fs fl fp fv rn cn sc (nI i) hrn.2 hcn.2) (cwV 1 hts gX0_cell_X0_isRow rfl rfl rfl (by decide +kernel) ⟨Nat.le_of_ble_eq_true rfl, Nat.le_of_ble_eq_true rfl⟩) (gz_preV (q := (RX0, TX0, 9)) (ci := 0) hK hP [0, 1, 2, 3, 4, 5, 6] rfl rfl rfl) rfl rfl hl.1 rfl (lv_room (Nat.le_of_ble_eq_true rfl)) dX0_cell_2 ⟨Nat.le_of_ble_eq_true rfl, Nat.le_of_ble_eq_true rfl⟩) ?_
      refine gz_ifeqB (tgt := 30) hx hb dX0_cell_5 (by decide) (fun c_1 => False.elim (by omega)) (fun c_1 => ?_)
      refine lv_iload_n hx hb dX0_cell_8 rfl (lv_at hl 2 rfl) ?_
      refine gz_if_lt (tgt := 30) (za := ((j : Nat) : Int)) hx hb dX0_cell_9 (by decide) (nI_toInt (by omega)) (fun c_2 => False.elim (by omega)) (fun c_2 => ?_)
      refine lv_iload_n hx hb dX0_cell_12 rfl (lv_at hl 2 rfl) ?_
      refine lv_aload_n hx hb dX0_cell_13 rfl (lv_at hl 0 rfl) ?_
      refine va_get (D := (dC, dI)) (ci := 0) (v := .int (nI cn)) (C := RX0) (T := TX0) (N := 9) hx hb hts hin0 hown hK hP 0 rfl rfl 7 (by decide) lk32 (fun _ h9 => h9) rfl dX0_cell_14 ?_
      refine gz_icmp_ge (tgt := 30) (za := ((j : Nat) : Int)) (zb := ((cn : Nat) : Int)) hx hb dX0_cell_17 (by decide) (nI_toInt (by omega)) (nI_toInt (by omega)) (fun c_3 => False.elim (by omega)) (fun c_3 => ?_)
      refine lv_iload_n hx hb dX0_cell_20 rfl (lv_at hl 3 rfl) ?_
      refine gz_if_lt (tgt := 30) (za := ((k : Nat) : Int)) hx hb dX0_cell_21 (by decide) (nI_toInt (by omega)) (fun c_4 => False.elim (by omega)) (fun c_4 => ?_)
      refine lv_iload_n hx hb dX0_cell_24 rfl (lv_at hl 3 rfl) ?_
      refine lv_bipush (v := nI 9) hx hb dX0_cell_25 (by decide) ?_
      refine gz_icmp_le (tgt := 32) (za := ((k : Nat) : Int)) (zb := ((9 : Nat) : Int)) hx hb dX0_cell_27 (by decide) (nI_toInt (by omega)) (nI_toInt (by omega)) (fun c_5 => ?_) (fun c_5 => False.elim (by omega))
      refine lv_iload_n hx hb dX0_cell_32 rfl (lv_at hl 3 rfl) ?_
      refine gz_callR (W.runS (As := [.int (nI k)]) (rest := []) ⟨hx, hb, hml, hown, hts⟩ (cG_hasVariable l (nI k)) (va_cwS 1 hts gX0_cell_X0_hasVariable rfl rfl rfl (by decide +kernel) ⟨Nat.le_of_ble_eq_true rfl, Nat.le_of_ble_eq_true rfl⟩) preEq rfl rfl hl.1 rfl (lv_room (Nat.le_of_ble_eq_true rfl)) dX0_cell_33 ⟨Nat.le_of_ble_eq_true rfl, Nat.le_of_ble_eq_true rfl⟩) ?_
      refine gz_ifeqB (tgt := 49) hx hb dX0_cell_36 (by decide) (fun c_6 => False.elim (by omega)) (fun c_6 => ?_)
      refine lv_iload hx hb dX0_cell_39 (lv_at hl 4 rfl) ?_
      refine gz_callR (W.runS (As := [.int (x)]) (rest := []) ⟨hx, hb, hml, hown, hts⟩ (cG_isVariable l x) (va_cwS 1 hts gX0_cell_X0_isVariable rfl rfl rfl (by decide +kernel) ⟨Nat.le_of_ble_eq_true rfl, Nat.le_of_ble_eq_true rfl⟩) preEq rfl rfl hl.1 rfl (lv_room (Nat.le_of_ble_eq_true rfl)) dX0_cell_41 ⟨Nat.le_of_ble_eq_true rfl, Nat.le_of_ble_eq_true rfl⟩) ?_
      refine gz_ifneB (tgt := 49) hx hb dX0_cell_44 (by decide) (fun c_7 => ?_) (fun c_7 => False.elim (by omega))
      refine lv_iload_n hx hb dX0_cell_49 rfl (lv_at hl 3 rfl) ?_
      refine gz_callR (W.runS (As := [.int (nI k)]) (rest := []) ⟨hx, hb, hml, hown, hts⟩ (cG_isCoil l (nI k)) (va_cwS 1 hts gX0_cell_X0_isCoil rfl rfl rfl (by decide +kernel) ⟨Nat.le_of_ble_eq_true rfl, Nat.le_of_ble_eq_true rfl⟩) preEq rfl rfl hl.1 rfl (lv_room (Nat.le_of_ble_eq_true rfl)) dX0_cell_50 ⟨Nat.le_of_ble_eq_true rfl, Nat.le_of_ble_eq_true rfl⟩) ?_
      refine gz_ifeqB (tgt := 68) hx hb dX0_cell_53 (by decide) (fun c_8 => False.elim (by omega)) (fun c_8 => ?_)
      refine lv_iload_n hx hb dX0_cell_56 rfl (lv_at hl 2 rfl) ?_
      refine lv_aload_n hx hb dX0_cell_57 rfl (lv_at hl 0 rfl) ?_
      refine va_get (D := (dC, dI)) (ci := 0) (v := .int (nI cn)) (C := RX0) (T := TX0) (N := 9) hx hb hts hin0 hown hK hP 0 rfl rfl 7 (by decide) lk32 (fun _ h9 => h9) rfl dX0_cell_58 ?_
      refine lv_iconst (v := nI 1) hx hb dX0_cell_61 (by decide) ?_
      refine gz_isub (i := cn) (j := 1) hx hb dX0_cell_62 (by omega) ?_
      refine gz_icmp_eq (tgt := 68) (za := ((j : Nat) : Int)) (zb := ((cn - 1 : Nat) : Int)) hx hb dX0_cell_63 (by decide) (nI_toInt (by omega)) (nI_toInt (by omega)) (fun c_9 => ?_) (fun c_9 => False.elim (by omega))
      refine lv_iload_n hx hb dX0_cell_68 rfl (lv_at hl 1 rfl) ?_
      refine lv_iload_n hx hb dX0_cell_69 rfl (lv_at hl 2 rfl) ?_
      refine gz_callR (W.runS (As := [.int (nI i), .int (nI j)]) (rest := []) ⟨hx, hb, hml, hown, hts⟩ (cG_cellAt l i j) (va_cwS 2 hts gX0_cell_X0_cellAt rfl rfl rfl (by decide +kernel) ⟨Nat.le_of_ble_eq_true rfl, Nat.le_of_ble_eq_true rfl⟩) preEq rfl rfl hl.1 rfl (lv_room (Nat.le_of_ble_eq_true rfl)) dX0_cell_70 ⟨Nat.le_of_ble_eq_true rfl, Nat.le_of_ble_eq_true rfl⟩) ?_
      refine lv_istore (lv' := [(5, .int (nI (i * 12 + j))), (0, .ref h), (1, .int (nI i)), (2, .int (nI j)), (3, .int (nI k)), (4, .int (x))]) hx hb dX0_cell_73 hl (by decide) rfl (fun ls hl => ?_)
      refine lv_aload_n hx hb dX0_cell_75 rfl (lv_at hl 1 rfl) ?_
      refine va_get (D := (dC, dI)) (ci := 0) (v := .ref qk) (C := RX0) (T := TX0) (N := 9) hx hb hts hin0 hown hK hP 0 rfl rfl 0 (by decide) lk9 (fun _ h9 => h9) rfl dX0_cell_76 ?_
      refine lv_iload hx hb dX0_cell_79 (lv_at hl 0 rfl) ?_
      refine gz_iald (k := i * 12 + j) hx hb hK hP 1 0 rfl rfl (by omega) (by omega) dX0_cell_81 ?_
      refine lv_istore (lv' := [(6, .int (fk (i * 12 + j))), (5, .int (nI (i * 12 + j))), (0, .ref h), (1, .int (nI i)), (2, .int (nI j)), (3, .int (nI k)), (4, .int (x))]) hx hb dX0_cell_82 hl (by decide) rfl (fun ls hl => ?_)
      refine lv_aload_n hx hb dX0_cell_84 rfl (lv_at hl 2 rfl) ?_
      refine va_get (D := (dC, dI)) (ci := 0) (v := .ref qk) (C := RX0) (T := TX0) (N := 9) hx hb hts hin0 hown hK hP 0 rfl rfl 0 (by decide) lk9 (fun _ h9 => h9) rfl dX0_cell_85 ?_
      refine lv_iload hx hb dX0_cell_88 (lv_at hl 1 rfl) ?_
      refine lv_iload_n hx hb dX0_cell_90 rfl (lv_at hl 5 rfl) ?_
      refine gz_iast (k := i * 12 + j) hx hb hK hP hD hS 1 0 rfl rfl (by omega) (by omega) dX0_cell_91 (fun H locs hP hD hS => ?_)
      have hP : va_P (dC, dI) vwCl (gw cA h qk qc qs ql qp qv (upd fk (i * 12 + j) (nI k)) fc fs fl fp fv (nI rn) (nI cn) sc) H := hP
      have hD : va_D A (gw cA h qk qc qs ql qp qv (upd fk (i * 12 + j) (nI k)) fc fs fl fp fv (nI rn) (nI cn) sc) := hD
      refine lv_aload_n hx hb dX0_cell_92 rfl (lv_at hl 2 rfl) ?_
      refine va_get (D := (dC, dI)) (ci := 0) (v := .ref qc) (C := RX0) (T := TX0) (N := 9) hx hb hts hin0 hown hK hP 0 rfl rfl 1 (by decide) lk13 (fun _ h9 => h9) rfl dX0_cell_93 ?_
      refine lv_iload hx hb dX0_cell_96 (lv_at hl 1 rfl) ?_
      refine lv_iload_n hx hb dX0_cell_98 rfl (lv_at hl 5 rfl) ?_
      refine gz_callR (W.runS (As := [.int (nI k)]) (rest := [.int (nI (i * 12 + j)), .ref qc]) ⟨hx, hb, hml, hown, hts⟩ (cG_hasVariable l (nI k)) (va_cwS 1 hts gX0_cell_X0_hasVariable rfl rfl rfl (by decide +kernel) ⟨Nat.le_of_ble_eq_true rfl, Nat.le_of_ble_eq_true rfl⟩) preEq rfl rfl hl.1 rfl (lv_room (Nat.le_of_ble_eq_true rfl)) dX0_cell_99 ⟨Nat.le_of_ble_eq_true rfl, Nat.le_of_ble_eq_true rfl⟩) ?_
      refine gz_ifeqB (tgt := 110) hx hb dX0_cell_102 (by decide) (fun c_10 => False.elim (by omega)) (fun c_10 => ?_)
      refine lv_iload hx hb dX0_cell_105 (lv_at hl 6 rfl) ?_
      refine lv_goto (tgt := 111) hx hb dX0_cell_107 (by decide) ?_
      refine gz_iast (k := i * 12 + j) hx hb hK hP hD hS 2 0 rfl rfl (by omega) (by omega) dX0_cell_111 (fun H locs hP hD hS => ?_)
      have hP : va_P (dC, dI) vwCl (gw cA h qk qc qs ql qp qv (upd fk (i * 12 + j) (nI k)) (upd fc (i * 12 + j) x) fs fl fp fv (nI rn) (nI cn) sc) H := hP
      have hD : va_D A (gw cA h qk qc qs ql qp qv (upd fk (i * 12 + j) (nI k)) (upd fc (i * 12 + j) x) fs fl fp fv (nI rn) (nI cn) sc) := hD
      refine lv_aload_n hx hb dX0_cell_112 rfl (lv_at hl 2 rfl) ?_
      refine va_get (D := (dC, dI)) (ci := 0) (v := .ref qs) (C := RX0) (T := TX0) (N := 9) hx hb hts hin0 hown hK hP 0 rfl rfl 2 (by decide) lk16 (fun _ h9 => h9) rfl dX0_cell_113 ?_
      refine lv_iload hx hb dX0_cell_116 (lv_at hl 1 rfl) ?_
      refine lv_iconst (v := nI 0) hx hb dX0_cell_118 (by decide) ?_
      refine gz_iast (k := i * 12 + j) hx hb hK hP hD hS 3 0 rfl rfl (by omega) (by omega) dX0_cell_119 (fun H locs hP hD hS => ?_)
      have hP : va_P (dC, dI) vwCl (gw cA h qk qc qs ql qp qv (upd fk (i * 12 + j) (nI k)) (upd fc (i * 12 + j) x) (upd fs (i * 12 + j) (nI 0)) fl fp fv (nI rn) (nI cn) sc) H := hP
      have hD : va_D A (gw cA h qk qc qs ql qp qv (upd fk (i * 12 + j) (nI k)) (upd fc (i * 12 + j) x) (upd fs (i * 12 + j) (nI 0)) fl fp fv (nI rn) (nI cn) sc) := hD
      refine lv_aload_n hx hb dX0_cell_120 rfl (lv_at hl 2 rfl) ?_
      refine lv_iconst (v := nI 0) hx hb dX0_cell_121 (by decide) ?_
      refine va_put (D := (dC, dI)) (ci := 0) (v := .int (nI 0)) (ty := .boolean) (C := RX0) (T := TX0) (N := 9) hx hb hts hin0 tyX0 tyX0_ok nmX0 hown hK hP hD hS 0 rfl rfl 8 (by decide) lk35 (fun _ h9 => h9) rfl (by decide +kernel) rfl rfl (Nat.le_of_ble_eq_true rfl) dX0_cell_122 (fun H locs hP hD hS => ?_)
      have hP : va_P (dC, dI) vwCl (gw cA h qk qc qs ql qp qv (upd fk (i * 12 + j) (nI k)) (upd fc (i * 12 + j) x) (upd fs (i * 12 + j) (nI 0)) fl fp fv (nI rn) (nI cn) (nI 0)) H := hP
      have hD : va_D A (gw cA h qk qc qs ql qp qv (upd fk (i * 12 + j) (nI k)) (upd fc (i * 12 + j) x) (upd fs (i * 12 + j) (nI 0)) fl fp fv (nI rn) (nI cn) (nI 0)) := hD
      refine lv_iload hx hb dX0_cell_125 (lv_at hl 0 rfl) ?_
      exact W.iret (v := fk (i * 12 + j)) hx hb hr (fun t ht hW => ⟨⟨fk (i * 12 + j), (), rfl, rfl, by rw [ht]; exact (by rw [if_pos hk2]; exact hP), va_K.moved hW.alike hK, (by rw [if_pos hk2]; exact hD)⟩, hS.F ht⟩) hS.2.2 dX0_cell_127
    · skip
      refine lv_aload_n hx hb dX0_cell_0 rfl (lv_at hl 0 rfl) ?_
      refine lv_iload_n hx hb dX0_cell_1 rfl (lv_at hl 1 rfl) ?_
      refine gz_callR (W.runV (As := [.int (nI i)]) (rest := []) ⟨hx, hb, hml, hown, hts⟩ (cG_isRow l dC dI cA cZ h qk qc qs ql qp qv fk fc fs fl fp fv rn cn sc (nI i) hrn.2 hcn.2) (cwV 1 hts gX0_cell_X0_isRow rfl rfl rfl (by decide +kernel) ⟨Nat.le_of_ble_eq_true rfl, Nat.le_of_ble_eq_true rfl⟩) (gz_preV (q := (RX0, TX0, 9)) (ci := 0) hK hP [0, 1, 2, 3, 4, 5, 6] rfl rfl rfl) rfl rfl hl.1 rfl (lv_room (Nat.le_of_ble_eq_true rfl)) dX0_cell_2 ⟨Nat.le_of_ble_eq_true rfl, Nat.le_of_ble_eq_true rfl⟩) ?_
      refine gz_ifeqB (tgt := 30) hx hb dX0_cell_5 (by decide) (fun c_1 => False.elim (by omega)) (fun c_1 => ?_)
      refine lv_iload_n hx hb dX0_cell_8 rfl (lv_at hl 2 rfl) ?_
      refine gz_if_lt (tgt := 30) (za := ((j : Nat) : Int)) hx hb dX0_cell_9 (by decide) (nI_toInt (by omega)) (fun c_2 => False.elim (by omega)) (fun c_2 => ?_)
      refine lv_iload_n hx hb dX0_cell_12 rfl (lv_at hl 2 rfl) ?_
      refine lv_aload_n hx hb dX0_cell_13 rfl (lv_at hl 0 rfl) ?_
      refine va_get (D := (dC, dI)) (ci := 0) (v := .int (nI cn)) (C := RX0) (T := TX0) (N := 9) hx hb hts hin0 hown hK hP 0 rfl rfl 7 (by decide) lk32 (fun _ h9 => h9) rfl dX0_cell_14 ?_
      refine gz_icmp_ge (tgt := 30) (za := ((j : Nat) : Int)) (zb := ((cn : Nat) : Int)) hx hb dX0_cell_17 (by decide) (nI_toInt (by omega)) (nI_toInt (by omega)) (fun c_3 => False.elim (by omega)) (fun c_3 => ?_)
      refine lv_iload_n hx hb dX0_cell_20 rfl (lv_at hl 3 rfl) ?_
      refine gz_if_lt (tgt := 30) (za := ((k : Nat) : Int)) hx hb dX0_cell_21 (by decide) (nI_toInt (by omega)) (fun c_4 => False.elim (by omega)) (fun c_4 => ?_)
      refine lv_iload_n hx hb dX0_cell_24 rfl (lv_at hl 3 rfl) ?_
      refine lv_bipush (v := nI 9) hx hb dX0_cell_25 (by decide) ?_
      refine gz_icmp_le (tgt := 32) (za := ((k : Nat) : Int)) (zb := ((9 : Nat) : Int)) hx hb dX0_cell_27 (by decide) (nI_toInt (by omega)) (nI_toInt (by omega)) (fun c_5 => ?_) (fun c_5 => False.elim (by omega))
      refine lv_iload_n hx hb dX0_cell_32 rfl (lv_at hl 3 rfl) ?_
      refine gz_callR (W.runS (As := [.int (nI k)]) (rest := []) ⟨hx, hb, hml, hown, hts⟩ (cG_hasVariable l (nI k)) (va_cwS 1 hts gX0_cell_X0_hasVariable rfl rfl rfl (by decide +kernel) ⟨Nat.le_of_ble_eq_true rfl, Nat.le_of_ble_eq_true rfl⟩) preEq rfl rfl hl.1 rfl (lv_room (Nat.le_of_ble_eq_true rfl)) dX0_cell_33 ⟨Nat.le_of_ble_eq_true rfl, Nat.le_of_ble_eq_true rfl⟩) ?_
      refine gz_ifeqB (tgt := 49) hx hb dX0_cell_36 (by decide) (fun c_6 => False.elim (by omega)) (fun c_6 => ?_)
      refine lv_iload hx hb dX0_cell_39 (lv_at hl 4 rfl) ?_
      refine gz_callR (W.runS (As := [.int (x)]) (rest := []) ⟨hx, hb, hml, hown, hts⟩ (cG_isVariable l x) (va_cwS 1 hts gX0_cell_X0_isVariable rfl rfl rfl (by decide +kernel) ⟨Nat.le_of_ble_eq_true rfl, Nat.le_of_ble_eq_true rfl⟩) preEq rfl rfl hl.1 rfl (lv_room (Nat.le_of_ble_eq_true rfl)) dX0_cell_41 ⟨Nat.le_of_ble_eq_true rfl, Nat.le_of_ble_eq_true rfl⟩) ?_
      refine gz_ifneB (tgt := 49) hx hb dX0_cell_44 (by decide) (fun c_7 => ?_) (fun c_7 => False.elim (by omega))
      refine lv_iload_n hx hb dX0_cell_49 rfl (lv_at hl 3 rfl) ?_
      refine gz_callR (W.runS (As := [.int (nI k)]) (rest := []) ⟨hx, hb, hml, hown, hts⟩ (cG_isCoil l (nI k)) (va_cwS 1 hts gX0_cell_X0_isCoil rfl rfl rfl (by decide +kernel) ⟨Nat.le_of_ble_eq_true rfl, Nat.le_of_ble_eq_true rfl⟩) preEq rfl rfl hl.1 rfl (lv_room (Nat.le_of_ble_eq_true rfl)) dX0_cell_50 ⟨Nat.le_of_ble_eq_true rfl, Nat.le_of_ble_eq_true rfl⟩) ?_
      refine gz_ifeqB (tgt := 68) hx hb dX0_cell_53 (by decide) (fun c_8 => ?_) (fun c_8 => False.elim (by omega))
      refine lv_iload_n hx hb dX0_cell_68 rfl (lv_at hl 1 rfl) ?_
      refine lv_iload_n hx hb dX0_cell_69 rfl (lv_at hl 2 rfl) ?_
      refine gz_callR (W.runS (As := [.int (nI i), .int (nI j)]) (rest := []) ⟨hx, hb, hml, hown, hts⟩ (cG_cellAt l i j) (va_cwS 2 hts gX0_cell_X0_cellAt rfl rfl rfl (by decide +kernel) ⟨Nat.le_of_ble_eq_true rfl, Nat.le_of_ble_eq_true rfl⟩) preEq rfl rfl hl.1 rfl (lv_room (Nat.le_of_ble_eq_true rfl)) dX0_cell_70 ⟨Nat.le_of_ble_eq_true rfl, Nat.le_of_ble_eq_true rfl⟩) ?_
      refine lv_istore (lv' := [(5, .int (nI (i * 12 + j))), (0, .ref h), (1, .int (nI i)), (2, .int (nI j)), (3, .int (nI k)), (4, .int (x))]) hx hb dX0_cell_73 hl (by decide) rfl (fun ls hl => ?_)
      refine lv_aload_n hx hb dX0_cell_75 rfl (lv_at hl 1 rfl) ?_
      refine va_get (D := (dC, dI)) (ci := 0) (v := .ref qk) (C := RX0) (T := TX0) (N := 9) hx hb hts hin0 hown hK hP 0 rfl rfl 0 (by decide) lk9 (fun _ h9 => h9) rfl dX0_cell_76 ?_
      refine lv_iload hx hb dX0_cell_79 (lv_at hl 0 rfl) ?_
      refine gz_iald (k := i * 12 + j) hx hb hK hP 1 0 rfl rfl (by omega) (by omega) dX0_cell_81 ?_
      refine lv_istore (lv' := [(6, .int (fk (i * 12 + j))), (5, .int (nI (i * 12 + j))), (0, .ref h), (1, .int (nI i)), (2, .int (nI j)), (3, .int (nI k)), (4, .int (x))]) hx hb dX0_cell_82 hl (by decide) rfl (fun ls hl => ?_)
      refine lv_aload_n hx hb dX0_cell_84 rfl (lv_at hl 2 rfl) ?_
      refine va_get (D := (dC, dI)) (ci := 0) (v := .ref qk) (C := RX0) (T := TX0) (N := 9) hx hb hts hin0 hown hK hP 0 rfl rfl 0 (by decide) lk9 (fun _ h9 => h9) rfl dX0_cell_85 ?_
      refine lv_iload hx hb dX0_cell_88 (lv_at hl 1 rfl) ?_
      refine lv_iload_n hx hb dX0_cell_90 rfl (lv_at hl 5 rfl) ?_
      refine gz_iast (k := i * 12 + j) hx hb hK hP hD hS 1 0 rfl rfl (by omega) (by omega) dX0_cell_91 (fun H locs hP hD hS => ?_)
      have hP : va_P (dC, dI) vwCl (gw cA h qk qc qs ql qp qv (upd fk (i * 12 + j) (nI k)) fc fs fl fp fv (nI rn) (nI cn) sc) H := hP
      have hD : va_D A (gw cA h qk qc qs ql qp qv (upd fk (i * 12 + j) (nI k)) fc fs fl fp fv (nI rn) (nI cn) sc) := hD
      refine lv_aload_n hx hb dX0_cell_92 rfl (lv_at hl 2 rfl) ?_
      refine va_get (D := (dC, dI)) (ci := 0) (v := .ref qc) (C := RX0) (T := TX0) (N := 9) hx hb hts hin0 hown hK hP 0 rfl rfl 1 (by decide) lk13 (fun _ h9 => h9) rfl dX0_cell_93 ?_
      refine lv_iload hx hb dX0_cell_96 (lv_at hl 1 rfl) ?_
      refine lv_iload_n hx hb dX0_cell_98 rfl (lv_at hl 5 rfl) ?_
      refine gz_callR (W.runS (As := [.int (nI k)]) (rest := [.int (nI (i * 12 + j)), .ref qc]) ⟨hx, hb, hml, hown, hts⟩ (cG_hasVariable l (nI k)) (va_cwS 1 hts gX0_cell_X0_hasVariable rfl rfl rfl (by decide +kernel) ⟨Nat.le_of_ble_eq_true rfl, Nat.le_of_ble_eq_true rfl⟩) preEq rfl rfl hl.1 rfl (lv_room (Nat.le_of_ble_eq_true rfl)) dX0_cell_99 ⟨Nat.le_of_ble_eq_true rfl, Nat.le_of_ble_eq_true rfl⟩) ?_
      refine gz_ifeqB (tgt := 110) hx hb dX0_cell_102 (by decide) (fun c_9 => False.elim (by omega)) (fun c_9 => ?_)
      refine lv_iload hx hb dX0_cell_105 (lv_at hl 6 rfl) ?_
      refine lv_goto (tgt := 111) hx hb dX0_cell_107 (by decide) ?_
      refine gz_iast (k := i * 12 + j) hx hb hK hP hD hS 2 0 rfl rfl (by omega) (by omega) dX0_cell_111 (fun H locs hP hD hS => ?_)
      have hP : va_P (dC, dI) vwCl (gw cA h qk qc qs ql qp qv (upd fk (i * 12 + j) (nI k)) (upd fc (i * 12 + j) x) fs fl fp fv (nI rn) (nI cn) sc) H := hP
      have hD : va_D A (gw cA h qk qc qs ql qp qv (upd fk (i * 12 + j) (nI k)) (upd fc (i * 12 + j) x) fs fl fp fv (nI rn) (nI cn) sc) := hD
      refine lv_aload_n hx hb dX0_cell_112 rfl (lv_at hl 2 rfl) ?_
      refine va_get (D := (dC, dI)) (ci := 0) (v := .ref qs) (C := RX0) (T := TX0) (N := 9) hx hb hts hin0 hown hK hP 0 rfl rfl 2 (by decide) lk16 (fun _ h9 => h9) rfl dX0_cell_113 ?_
      refine lv_iload hx hb dX0_cell_116 (lv_at hl 1 rfl) ?_
      refine lv_iconst (v := nI 0) hx hb dX0_cell_118 (by decide) ?_
      refine gz_iast (k := i * 12 + j) hx hb hK hP hD hS 3 0 rfl rfl (by omega) (by omega) dX0_cell_119 (fun H locs hP hD hS => ?_)
      have hP : va_P (dC, dI) vwCl (gw cA h qk qc qs ql qp qv (upd fk (i * 12 + j) (nI k)) (upd fc (i * 12 + j) x) (upd fs (i * 12 + j) (nI 0)) fl fp fv (nI rn) (nI cn) sc) H := hP
      have hD : va_D A (gw cA h qk qc qs ql qp qv (upd fk (i * 12 + j) (nI k)) (upd fc (i * 12 + j) x) (upd fs (i * 12 + j) (nI 0)) fl fp fv (nI rn) (nI cn) sc) := hD
      refine lv_aload_n hx hb dX0_cell_120 rfl (lv_at hl 2 rfl) ?_
      refine lv_iconst (v := nI 0) hx hb dX0_cell_121 (by decide) ?_
      refine va_put (D := (dC, dI)) (ci := 0) (v := .int (nI 0)) (ty := .boolean) (C := RX0) (T := TX0) (N := 9) hx hb hts hin0 tyX0 tyX0_ok nmX0 hown hK hP hD hS 0 rfl rfl 8 (by decide) lk35 (fun _ h9 => h9) rfl (by decide +kernel) rfl rfl (Nat.le_of_ble_eq_true rfl) dX0_cell_122 (fun H locs hP hD hS => ?_)
      have hP : va_P (dC, dI) vwCl (gw cA h qk qc qs ql qp qv (upd fk (i * 12 + j) (nI k)) (upd fc (i * 12 + j) x) (upd fs (i * 12 + j) (nI 0)) fl fp fv (nI rn) (nI cn) (nI 0)) H := hP
      have hD : va_D A (gw cA h qk qc qs ql qp qv (upd fk (i * 12 + j) (nI k)) (upd fc (i * 12 + j) x) (upd fs (i * 12 + j) (nI 0)) fl fp fv (nI rn) (nI cn) (nI 0)) := hD
      refine lv_iload hx hb dX0_cell_125 (lv_at hl 0 rfl) ?_
      exact W.iret (v := fk (i * 12 + j)) hx hb hr (fun t ht hW => ⟨⟨fk (i * 12 + j), (), rfl, rfl, by rw [ht]; exact (by rw [if_pos hk2]; exact hP), va_K.moved hW.alike hK, (by rw [if_pos hk2]; exact hD)⟩, hS.F ht⟩) hS.2.2 dX0_cell_127
  · skip
    refine lv_aload_n hx hb dX0_cell_0 rfl (lv_at hl 0 rfl) ?_
    refine lv_iload_n hx hb dX0_cell_1 rfl (lv_at hl 1 rfl) ?_
    refine gz_callR (W.runV (As := [.int (nI i)]) (rest := []) ⟨hx, hb, hml, hown, hts⟩ (cG_isRow l dC dI cA cZ h qk qc qs ql qp qv fk fc fs fl fp fv rn cn sc (nI i) hrn.2 hcn.2) (cwV 1 hts gX0_cell_X0_isRow rfl rfl rfl (by decide +kernel) ⟨Nat.le_of_ble_eq_true rfl, Nat.le_of_ble_eq_true rfl⟩) (gz_preV (q := (RX0, TX0, 9)) (ci := 0) hK hP [0, 1, 2, 3, 4, 5, 6] rfl rfl rfl) rfl rfl hl.1 rfl (lv_room (Nat.le_of_ble_eq_true rfl)) dX0_cell_2 ⟨Nat.le_of_ble_eq_true rfl, Nat.le_of_ble_eq_true rfl⟩) ?_
    refine gz_ifeqB (tgt := 30) hx hb dX0_cell_5 (by decide) (fun c_1 => False.elim (by omega)) (fun c_1 => ?_)
    refine lv_iload_n hx hb dX0_cell_8 rfl (lv_at hl 2 rfl) ?_
    refine gz_if_lt (tgt := 30) (za := ((j : Nat) : Int)) hx hb dX0_cell_9 (by decide) (nI_toInt (by omega)) (fun c_2 => False.elim (by omega)) (fun c_2 => ?_)
    refine lv_iload_n hx hb dX0_cell_12 rfl (lv_at hl 2 rfl) ?_
    refine lv_aload_n hx hb dX0_cell_13 rfl (lv_at hl 0 rfl) ?_
    refine va_get (D := (dC, dI)) (ci := 0) (v := .int (nI cn)) (C := RX0) (T := TX0) (N := 9) hx hb hts hin0 hown hK hP 0 rfl rfl 7 (by decide) lk32 (fun _ h9 => h9) rfl dX0_cell_14 ?_
    refine gz_icmp_ge (tgt := 30) (za := ((j : Nat) : Int)) (zb := ((cn : Nat) : Int)) hx hb dX0_cell_17 (by decide) (nI_toInt (by omega)) (nI_toInt (by omega)) (fun c_3 => False.elim (by omega)) (fun c_3 => ?_)
    refine lv_iload_n hx hb dX0_cell_20 rfl (lv_at hl 3 rfl) ?_
    refine gz_if_lt (tgt := 30) (za := ((k : Nat) : Int)) hx hb dX0_cell_21 (by decide) (nI_toInt (by omega)) (fun c_4 => False.elim (by omega)) (fun c_4 => ?_)
    refine lv_iload_n hx hb dX0_cell_24 rfl (lv_at hl 3 rfl) ?_
    refine lv_bipush (v := nI 9) hx hb dX0_cell_25 (by decide) ?_
    refine gz_icmp_le (tgt := 32) (za := ((k : Nat) : Int)) (zb := ((9 : Nat) : Int)) hx hb dX0_cell_27 (by decide) (nI_toInt (by omega)) (nI_toInt (by omega)) (fun c_5 => ?_) (fun c_5 => False.elim (by omega))
    refine lv_iload_n hx hb dX0_cell_32 rfl (lv_at hl 3 rfl) ?_
    refine gz_callR (W.runS (As := [.int (nI k)]) (rest := []) ⟨hx, hb, hml, hown, hts⟩ (cG_hasVariable l (nI k)) (va_cwS 1 hts gX0_cell_X0_hasVariable rfl rfl rfl (by decide +kernel) ⟨Nat.le_of_ble_eq_true rfl, Nat.le_of_ble_eq_true rfl⟩) preEq rfl rfl hl.1 rfl (lv_room (Nat.le_of_ble_eq_true rfl)) dX0_cell_33 ⟨Nat.le_of_ble_eq_true rfl, Nat.le_of_ble_eq_true rfl⟩) ?_
    refine gz_ifeqB (tgt := 49) hx hb dX0_cell_36 (by decide) (fun c_6 => ?_) (fun c_6 => False.elim (by omega))
    refine lv_iload_n hx hb dX0_cell_49 rfl (lv_at hl 3 rfl) ?_
    refine gz_callR (W.runS (As := [.int (nI k)]) (rest := []) ⟨hx, hb, hml, hown, hts⟩ (cG_isCoil l (nI k)) (va_cwS 1 hts gX0_cell_X0_isCoil rfl rfl rfl (by decide +kernel) ⟨Nat.le_of_ble_eq_true rfl, Nat.le_of_ble_eq_true rfl⟩) preEq rfl rfl hl.1 rfl (lv_room (Nat.le_of_ble_eq_true rfl)) dX0_cell_50 ⟨Nat.le_of_ble_eq_true rfl, Nat.le_of_ble_eq_true rfl⟩) ?_
    refine gz_ifeqB (tgt := 68) hx hb dX0_cell_53 (by decide) (fun c_7 => ?_) (fun c_7 => False.elim (by omega))
    refine lv_iload_n hx hb dX0_cell_68 rfl (lv_at hl 1 rfl) ?_
    refine lv_iload_n hx hb dX0_cell_69 rfl (lv_at hl 2 rfl) ?_
    refine gz_callR (W.runS (As := [.int (nI i), .int (nI j)]) (rest := []) ⟨hx, hb, hml, hown, hts⟩ (cG_cellAt l i j) (va_cwS 2 hts gX0_cell_X0_cellAt rfl rfl rfl (by decide +kernel) ⟨Nat.le_of_ble_eq_true rfl, Nat.le_of_ble_eq_true rfl⟩) preEq rfl rfl hl.1 rfl (lv_room (Nat.le_of_ble_eq_true rfl)) dX0_cell_70 ⟨Nat.le_of_ble_eq_true rfl, Nat.le_of_ble_eq_true rfl⟩) ?_
    refine lv_istore (lv' := [(5, .int (nI (i * 12 + j))), (0, .ref h), (1, .int (nI i)), (2, .int (nI j)), (3, .int (nI k)), (4, .int (x))]) hx hb dX0_cell_73 hl (by decide) rfl (fun ls hl => ?_)
    refine lv_aload_n hx hb dX0_cell_75 rfl (lv_at hl 1 rfl) ?_
    refine va_get (D := (dC, dI)) (ci := 0) (v := .ref qk) (C := RX0) (T := TX0) (N := 9) hx hb hts hin0 hown hK hP 0 rfl rfl 0 (by decide) lk9 (fun _ h9 => h9) rfl dX0_cell_76 ?_
    refine lv_iload hx hb dX0_cell_79 (lv_at hl 0 rfl) ?_
    refine gz_iald (k := i * 12 + j) hx hb hK hP 1 0 rfl rfl (by omega) (by omega) dX0_cell_81 ?_
    refine lv_istore (lv' := [(6, .int (fk (i * 12 + j))), (5, .int (nI (i * 12 + j))), (0, .ref h), (1, .int (nI i)), (2, .int (nI j)), (3, .int (nI k)), (4, .int (x))]) hx hb dX0_cell_82 hl (by decide) rfl (fun ls hl => ?_)
    refine lv_aload_n hx hb dX0_cell_84 rfl (lv_at hl 2 rfl) ?_
    refine va_get (D := (dC, dI)) (ci := 0) (v := .ref qk) (C := RX0) (T := TX0) (N := 9) hx hb hts hin0 hown hK hP 0 rfl rfl 0 (by decide) lk9 (fun _ h9 => h9) rfl dX0_cell_85 ?_
    refine lv_iload hx hb dX0_cell_88 (lv_at hl 1 rfl) ?_
    refine lv_iload_n hx hb dX0_cell_90 rfl (lv_at hl 5 rfl) ?_
    refine gz_iast (k := i * 12 + j) hx hb hK hP hD hS 1 0 rfl rfl (by omega) (by omega) dX0_cell_91 (fun H locs hP hD hS => ?_)
    have hP : va_P (dC, dI) vwCl (gw cA h qk qc qs ql qp qv (upd fk (i * 12 + j) (nI k)) fc fs fl fp fv (nI rn) (nI cn) sc) H := hP
    have hD : va_D A (gw cA h qk qc qs ql qp qv (upd fk (i * 12 + j) (nI k)) fc fs fl fp fv (nI rn) (nI cn) sc) := hD
    refine lv_aload_n hx hb dX0_cell_92 rfl (lv_at hl 2 rfl) ?_
    refine va_get (D := (dC, dI)) (ci := 0) (v := .ref qc) (C := RX0) (T := TX0) (N := 9) hx hb hts hin0 hown hK hP 0 rfl rfl 1 (by decide) lk13 (fun _ h9 => h9) rfl dX0_cell_93 ?_
    refine lv_iload hx hb dX0_cell_96 (lv_at hl 1 rfl) ?_
    refine lv_iload_n hx hb dX0_cell_98 rfl (lv_at hl 5 rfl) ?_
    refine gz_callR (W.runS (As := [.int (nI k)]) (rest := [.int (nI (i * 12 + j)), .ref qc]) ⟨hx, hb, hml, hown, hts⟩ (cG_hasVariable l (nI k)) (va_cwS 1 hts gX0_cell_X0_hasVariable rfl rfl rfl (by decide +kernel) ⟨Nat.le_of_ble_eq_true rfl, Nat.le_of_ble_eq_true rfl⟩) preEq rfl rfl hl.1 rfl (lv_room (Nat.le_of_ble_eq_true rfl)) dX0_cell_99 ⟨Nat.le_of_ble_eq_true rfl, Nat.le_of_ble_eq_true rfl⟩) ?_
    refine gz_ifeqB (tgt := 110) hx hb dX0_cell_102 (by decide) (fun c_8 => ?_) (fun c_8 => False.elim (by omega))
    refine lv_iconst (v := nI 0) hx hb dX0_cell_110 (by decide) ?_
    refine gz_iast (k := i * 12 + j) hx hb hK hP hD hS 2 0 rfl rfl (by omega) (by omega) dX0_cell_111 (fun H locs hP hD hS => ?_)
    have hP : va_P (dC, dI) vwCl (gw cA h qk qc qs ql qp qv (upd fk (i * 12 + j) (nI k)) (upd fc (i * 12 + j) (nI 0)) fs fl fp fv (nI rn) (nI cn) sc) H := hP
    have hD : va_D A (gw cA h qk qc qs ql qp qv (upd fk (i * 12 + j) (nI k)) (upd fc (i * 12 + j) (nI 0)) fs fl fp fv (nI rn) (nI cn) sc) := hD
    refine lv_aload_n hx hb dX0_cell_112 rfl (lv_at hl 2 rfl) ?_
    refine va_get (D := (dC, dI)) (ci := 0) (v := .ref qs) (C := RX0) (T := TX0) (N := 9) hx hb hts hin0 hown hK hP 0 rfl rfl 2 (by decide) lk16 (fun _ h9 => h9) rfl dX0_cell_113 ?_
    refine lv_iload hx hb dX0_cell_116 (lv_at hl 1 rfl) ?_
    refine lv_iconst (v := nI 0) hx hb dX0_cell_118 (by decide) ?_
    refine gz_iast (k := i * 12 + j) hx hb hK hP hD hS 3 0 rfl rfl (by omega) (by omega) dX0_cell_119 (fun H locs hP hD hS => ?_)
    have hP : va_P (dC, dI) vwCl (gw cA h qk qc qs ql qp qv (upd fk (i * 12 + j) (nI k)) (upd fc (i * 12 + j) (nI 0)) (upd fs (i * 12 + j) (nI 0)) fl fp fv (nI rn) (nI cn) sc) H := hP
    have hD : va_D A (gw cA h qk qc qs ql qp qv (upd fk (i * 12 + j) (nI k)) (upd fc (i * 12 + j) (nI 0)) (upd fs (i * 12 + j) (nI 0)) fl fp fv (nI rn) (nI cn) sc) := hD
    refine lv_aload_n hx hb dX0_cell_120 rfl (lv_at hl 2 rfl) ?_
    refine lv_iconst (v := nI 0) hx hb dX0_cell_121 (by decide) ?_
    refine va_put (D := (dC, dI)) (ci := 0) (v := .int (nI 0)) (ty := .boolean) (C := RX0) (T := TX0) (N := 9) hx hb hts hin0 tyX0 tyX0_ok nmX0 hown hK hP hD hS 0 rfl rfl 8 (by decide) lk35 (fun _ h9 => h9) rfl (by decide +kernel) rfl rfl (Nat.le_of_ble_eq_true rfl) dX0_cell_122 (fun H locs hP hD hS => ?_)
    have hP : va_P (dC, dI) vwCl (gw cA h qk qc qs ql qp qv (upd fk (i * 12 + j) (nI k)) (upd fc (i * 12 + j) (nI 0)) (upd fs (i * 12 + j) (nI 0)) fl fp fv (nI rn) (nI cn) (nI 0)) H := hP
    have hD : va_D A (gw cA h qk qc qs ql qp qv (upd fk (i * 12 + j) (nI k)) (upd fc (i * 12 + j) (nI 0)) (upd fs (i * 12 + j) (nI 0)) fl fp fv (nI rn) (nI cn) (nI 0)) := hD
    refine lv_iload hx hb dX0_cell_125 (lv_at hl 0 rfl) ?_
    exact W.iret (v := fk (i * 12 + j)) hx hb hr (fun t ht hW => ⟨⟨fk (i * 12 + j), (), rfl, rfl, by rw [ht]; exact (by rw [if_neg hk2]; exact hP), va_K.moved hW.alike hK, (by rw [if_neg hk2]; exact hD)⟩, hS.F ht⟩) hS.2.2 dX0_cell_127
set_option maxHeartbeats 4000000 in
set_option maxRecDepth 100000 in
theorem cG_cell_bad (l : Launch) (dC : Nat → ClassId) (dI : Nat → Nat → Nat) (cA cZ : ClassId) (h qk qc qs ql qp qv : Nat) (fk fc fs fl fp fv : Nat → Int32) (rn cn : Nat) (sc : Int32) (x y k v : Int32) (hrn : 1 ≤ rn ∧ rn ≤ 12) (hcn : 1 ≤ cn ∧ cn ≤ 12) (hx0 : ¬ (0 ≤ x.toInt ∧ x.toInt < (rn : Int) ∧ 0 ≤ y.toInt ∧ y.toInt < (cn : Int) ∧ 0 ≤ k.toInt ∧ k.toInt ≤ 9 ∧ (k.toInt < 2 ∨ (0 ≤ v.toInt ∧ v.toInt < 40)) ∧ (k.toInt < 6 ∨ y.toInt + 1 = (cn : Int)))) : Met l yX0_cell wsX0_cell ({ frames := 1, cells := 0, slots := 0, locals := 21 }) (gPr (dC, dI) vwCl [(cA, .int), (cZ, .boolean)] [.ref h, .int x, .int y, .int k, .int v] (gw cA h qk qc qs ql qp qv fk fc fs fl fp fv (nI rn) (nI cn) sc)) (QcRead (-1)) 0 0 (fun _ => False) := by
  refine Met.ofW (cc := cX0_cell) (maxL := 7) (ret := (some .int)) (by decide) rfl ?_
  intro p e s m args below meth c s₁ B hml hv
  obtain ⟨rfl, hP, hK⟩ := hv
  have hx := B.exec
  have hb := B.bytes
  have hr := B.returns
  have hts := atoms_spec (ws := wsX0_cell) B.pre
  have hown : s.vm.findClass RX0 = some m.cls := findClass_of_methodNamed B.named
  have hlocks := B.notSynchronized
  have hin0 : ∀ w ∈ u_ws RX0 TX0 9, w ∈ wsX0_cell := by decide +kernel
  have lk32 := hts (.fieldLink RX0 32 "LadderGrid" "columns" "I") (by decide +kernel)
  have lk9 := hts (.fieldLink RX0 9 "LadderGrid" "kinds" "[I") (by decide +kernel)
  have lk13 := hts (.fieldLink RX0 13 "LadderGrid" "cellVariables" "[I") (by decide +kernel)
  have lk16 := hts (.fieldLink RX0 16 "LadderGrid" "seen" "[I") (by decide +kernel)
  have lk35 := hts (.fieldLink RX0 35 "LadderGrid" "scanned" "Z") (by decide +kernel)
  have hl := lv_entry ([.ref h, .int x, .int y, .int k, .int v]) (n := 7) (Nat.le_of_ble_eq_true rfl)
  rw [lg_entry_eq]
  generalize (lg_sl ([.ref h, .int x, .int y, .int k, .int v]) ++ List.replicate (7 - (lg_sl ([.ref h, .int x, .int y, .int k, .int v])).length) Slot.unset).toArray = ls at hl ⊢
  have hl : lv_has ls 7 [(0, .ref h), (1, .int (x)), (2, .int (y)), (3, .int (k)), (4, .int (v))] := hl
  refine lv_aload_n hx hb dX0_cell_0 rfl (lv_at hl 0 rfl) ?_
  refine lv_iload_n hx hb dX0_cell_1 rfl (lv_at hl 1 rfl) ?_
  refine gz_callR (W.runV (As := [.int (x)]) (rest := []) ⟨hx, hb, hml, hown, hts⟩ (cG_isRow l dC dI cA cZ h qk qc qs ql qp qv fk fc fs fl fp fv rn cn sc x hrn.2 hcn.2) (cwV 1 hts gX0_cell_X0_isRow rfl rfl rfl (by decide +kernel) ⟨Nat.le_of_ble_eq_true rfl, Nat.le_of_ble_eq_true rfl⟩) (gz_preV (q := (RX0, TX0, 9)) (ci := 0) hK hP [0, 1, 2, 3, 4, 5, 6] rfl rfl rfl) rfl rfl hl.1 rfl (lv_room (Nat.le_of_ble_eq_true rfl)) dX0_cell_2 ⟨Nat.le_of_ble_eq_true rfl, Nat.le_of_ble_eq_true rfl⟩) ?_
  refine gz_ifeqB (tgt := 30) hx hb dX0_cell_5 (by decide) (fun c_1 => ?_) (fun c_1 => ?_)
  · skip
    refine lv_iconst (v := (-1)) hx hb dX0_cell_30 (by decide) ?_
    exact W.iret (v := (-1)) hx hb hr (fun t ht hW => ⟨rfl, ht⟩) (fun q h => absurd h List.not_mem_nil) dX0_cell_31
  · skip
    refine lv_iload_n hx hb dX0_cell_8 rfl (lv_at hl 2 rfl) ?_
    refine gz_if_lt (tgt := 30) (za := y.toInt) hx hb dX0_cell_9 (by decide) rfl (fun c_2 => ?_) (fun c_2 => ?_)
    · skip
      refine lv_iconst (v := (-1)) hx hb dX0_cell_30 (by decide) ?_
      exact W.iret (v := (-1)) hx hb hr (fun t ht hW => ⟨rfl, ht⟩) (fun q h => absurd h List.not_mem_nil) dX0_cell_31
    · skip
      refine lv_iload_n hx hb dX0_cell_12 rfl (lv_at hl 2 rfl) ?_
      refine lv_aload_n hx hb dX0_cell_13 rfl (lv_at hl 0 rfl) ?_
      refine va_get (D := (dC, dI)) (ci := 0) (v := .int (nI cn)) (C := RX0) (T := TX0) (N := 9) hx hb hts hin0 hown hK hP 0 rfl rfl 7 (by decide) lk32 (fun _ h9 => h9) rfl dX0_cell_14 ?_
      refine gz_icmp_ge (tgt := 30) (za := y.toInt) (zb := ((cn : Nat) : Int)) hx hb dX0_cell_17 (by decide) rfl (nI_toInt (by omega)) (fun c_3 => ?_) (fun c_3 => ?_)
      · skip
        refine lv_iconst (v := (-1)) hx hb dX0_cell_30 (by decide) ?_
        exact W.iret (v := (-1)) hx hb hr (fun t ht hW => ⟨rfl, ht⟩) (fun q h => absurd h List.not_mem_nil) dX0_cell_31
      · skip
        refine lv_iload_n hx hb dX0_cell_20 rfl (lv_at hl 3 rfl) ?_
        refine gz_if_lt (tgt := 30) (za := k.toInt) hx hb dX0_cell_21 (by decide) rfl (fun c_4 => ?_) (fun c_4 => ?_)
        · skip
          refine lv_iconst (v := (-1)) hx hb dX0_cell_30 (by decide) ?_
          exact W.iret (v := (-1)) hx hb hr (fun t ht hW => ⟨rfl, ht⟩) (fun q h => absurd h List.not_mem_nil) dX0_cell_31
        · skip
          refine lv_iload_n hx hb dX0_cell_24 rfl (lv_at hl 3 rfl) ?_
          refine lv_bipush (v := nI 9) hx hb dX0_cell_25 (by decide) ?_
          refine gz_icmp_le (tgt := 32) (za := k.toInt) (zb := ((9 : Nat) : Int)) hx hb dX0_cell_27 (by decide) rfl (nI_toInt (by omega)) (fun c_5 => ?_) (fun c_5 => ?_)
          · skip
            refine lv_iload_n hx hb dX0_cell_32 rfl (lv_at hl 3 rfl) ?_
            refine gz_callR (W.runS (As := [.int (k)]) (rest := []) ⟨hx, hb, hml, hown, hts⟩ (cG_hasVariable l k) (va_cwS 1 hts gX0_cell_X0_hasVariable rfl rfl rfl (by decide +kernel) ⟨Nat.le_of_ble_eq_true rfl, Nat.le_of_ble_eq_true rfl⟩) preEq rfl rfl hl.1 rfl (lv_room (Nat.le_of_ble_eq_true rfl)) dX0_cell_33 ⟨Nat.le_of_ble_eq_true rfl, Nat.le_of_ble_eq_true rfl⟩) ?_
            refine gz_ifeqB (tgt := 49) hx hb dX0_cell_36 (by decide) (fun c_6 => ?_) (fun c_6 => ?_)
            · skip
              refine lv_iload_n hx hb dX0_cell_49 rfl (lv_at hl 3 rfl) ?_
              refine gz_callR (W.runS (As := [.int (k)]) (rest := []) ⟨hx, hb, hml, hown, hts⟩ (cG_isCoil l k) (va_cwS 1 hts gX0_cell_X0_isCoil rfl rfl rfl (by decide +kernel) ⟨Nat.le_of_ble_eq_true rfl, Nat.le_of_ble_eq_true rfl⟩) preEq rfl rfl hl.1 rfl (lv_room (Nat.le_of_ble_eq_true rfl)) dX0_cell_50 ⟨Nat.le_of_ble_eq_true rfl, Nat.le_of_ble_eq_true rfl⟩) ?_
              refine gz_ifeqB (tgt := 68) hx hb dX0_cell_53 (by decide) (fun c_7 => ?_) (fun c_7 => ?_)
              · skip
                exact False.elim (by omega)
              · skip
                refine lv_iload_n hx hb dX0_cell_56 rfl (lv_at hl 2 rfl) ?_
                refine lv_aload_n hx hb dX0_cell_57 rfl (lv_at hl 0 rfl) ?_
                refine va_get (D := (dC, dI)) (ci := 0) (v := .int (nI cn)) (C := RX0) (T := TX0) (N := 9) hx hb hts hin0 hown hK hP 0 rfl rfl 7 (by decide) lk32 (fun _ h9 => h9) rfl dX0_cell_58 ?_
                refine lv_iconst (v := nI 1) hx hb dX0_cell_61 (by decide) ?_
                refine gz_isub (i := cn) (j := 1) hx hb dX0_cell_62 (by omega) ?_
                refine gz_icmp_eq (tgt := 68) (za := y.toInt) (zb := ((cn - 1 : Nat) : Int)) hx hb dX0_cell_63 (by decide) rfl (nI_toInt (by omega)) (fun c_8 => ?_) (fun c_8 => ?_)
                · skip
                  exact False.elim (by omega)
                · skip
                  refine lv_iconst (v := (-1)) hx hb dX0_cell_66 (by decide) ?_
                  exact W.iret (v := (-1)) hx hb hr (fun t ht hW => ⟨rfl, ht⟩) (fun q h => absurd h List.not_mem_nil) dX0_cell_67
            · skip
              refine lv_iload hx hb dX0_cell_39 (lv_at hl 4 rfl) ?_
              refine gz_callR (W.runS (As := [.int (v)]) (rest := []) ⟨hx, hb, hml, hown, hts⟩ (cG_isVariable l v) (va_cwS 1 hts gX0_cell_X0_isVariable rfl rfl rfl (by decide +kernel) ⟨Nat.le_of_ble_eq_true rfl, Nat.le_of_ble_eq_true rfl⟩) preEq rfl rfl hl.1 rfl (lv_room (Nat.le_of_ble_eq_true rfl)) dX0_cell_41 ⟨Nat.le_of_ble_eq_true rfl, Nat.le_of_ble_eq_true rfl⟩) ?_
              refine gz_ifneB (tgt := 49) hx hb dX0_cell_44 (by decide) (fun c_9 => ?_) (fun c_9 => ?_)
              · skip
                refine lv_iload_n hx hb dX0_cell_49 rfl (lv_at hl 3 rfl) ?_
                refine gz_callR (W.runS (As := [.int (k)]) (rest := []) ⟨hx, hb, hml, hown, hts⟩ (cG_isCoil l k) (va_cwS 1 hts gX0_cell_X0_isCoil rfl rfl rfl (by decide +kernel) ⟨Nat.le_of_ble_eq_true rfl, Nat.le_of_ble_eq_true rfl⟩) preEq rfl rfl hl.1 rfl (lv_room (Nat.le_of_ble_eq_true rfl)) dX0_cell_50 ⟨Nat.le_of_ble_eq_true rfl, Nat.le_of_ble_eq_true rfl⟩) ?_
                refine gz_ifeqB (tgt := 68) hx hb dX0_cell_53 (by decide) (fun c_10 => ?_) (fun c_10 => ?_)
                · skip
                  exact False.elim (by omega)
                · skip
                  refine lv_iload_n hx hb dX0_cell_56 rfl (lv_at hl 2 rfl) ?_
                  refine lv_aload_n hx hb dX0_cell_57 rfl (lv_at hl 0 rfl) ?_
                  refine va_get (D := (dC, dI)) (ci := 0) (v := .int (nI cn)) (C := RX0) (T := TX0) (N := 9) hx hb hts hin0 hown hK hP 0 rfl rfl 7 (by decide) lk32 (fun _ h9 => h9) rfl dX0_cell_58 ?_
                  refine lv_iconst (v := nI 1) hx hb dX0_cell_61 (by decide) ?_
                  refine gz_isub (i := cn) (j := 1) hx hb dX0_cell_62 (by omega) ?_
                  refine gz_icmp_eq (tgt := 68) (za := y.toInt) (zb := ((cn - 1 : Nat) : Int)) hx hb dX0_cell_63 (by decide) rfl (nI_toInt (by omega)) (fun c_11 => ?_) (fun c_11 => ?_)
                  · skip
                    exact False.elim (by omega)
                  · skip
                    refine lv_iconst (v := (-1)) hx hb dX0_cell_66 (by decide) ?_
                    exact W.iret (v := (-1)) hx hb hr (fun t ht hW => ⟨rfl, ht⟩) (fun q h => absurd h List.not_mem_nil) dX0_cell_67
              · skip
                refine lv_iconst (v := (-1)) hx hb dX0_cell_47 (by decide) ?_
                exact W.iret (v := (-1)) hx hb hr (fun t ht hW => ⟨rfl, ht⟩) (fun q h => absurd h List.not_mem_nil) dX0_cell_48
          · skip
            refine lv_iconst (v := (-1)) hx hb dX0_cell_30 (by decide) ?_
            exact W.iret (v := (-1)) hx hb hr (fun t ht hW => ⟨rfl, ht⟩) (fun q h => absurd h List.not_mem_nil) dX0_cell_31
set_option maxHeartbeats 4000000 in
set_option maxRecDepth 100000 in
theorem cG_power (l : Launch) (dC : Nat → ClassId) (dI : Nat → Nat → Nat) (cA cZ : ClassId) (h qk qc qs ql qp qv : Nat) (fk fc fs fl fp fv : Nat → Int32) (rn cn : Nat) (sc : Int32) (i j : Nat) (hrn : 1 ≤ rn ∧ rn ≤ 12) (hcn : 1 ≤ cn ∧ cn ≤ 12) (hi : i < rn) (hj : j ≤ cn) (hsc : ¬ sc = nI 0) (hk6 : j < cn ∨ (fk (i * 12 + (cn - 1))).toInt < 6) : Met l yX0_power wsX0_power ({ frames := 1, cells := 0, slots := 0, locals := 21 }) (gPr (dC, dI) vwCl [(cA, .int), (cZ, .boolean)] [.ref h, .int (nI i), .int (nI j)] (gw cA h qk qc qs ql qp qv fk fc fs fl fp fv (nI rn) (nI cn) sc)) (QcRead (fp (i * 13 + j))) 0 0 (fun _ => False) := by
  refine Met.ofW (cc := cX0_power) (maxL := 3) (ret := (some .int)) (by decide) rfl ?_
  intro p e s m args below meth c s₁ B hml hv
  obtain ⟨rfl, hP, hK⟩ := hv
  have hx := B.exec
  have hb := B.bytes
  have hr := B.returns
  have hts := atoms_spec (ws := wsX0_power) B.pre
  have hown : s.vm.findClass RX0 = some m.cls := findClass_of_methodNamed B.named
  have hlocks := B.notSynchronized
  have hin0 : ∀ w ∈ u_ws RX0 TX0 9, w ∈ wsX0_power := by decide +kernel
  have lk35 := hts (.fieldLink RX0 35 "LadderGrid" "scanned" "Z") (by decide +kernel)
  have lk32 := hts (.fieldLink RX0 32 "LadderGrid" "columns" "I") (by decide +kernel)
  have lk9 := hts (.fieldLink RX0 9 "LadderGrid" "kinds" "[I") (by decide +kernel)
  have lk22 := hts (.fieldLink RX0 22 "LadderGrid" "powered" "[I") (by decide +kernel)
  have hl := lv_entry ([.ref h, .int (nI i), .int (nI j)]) (n := 3) (Nat.le_of_ble_eq_true rfl)
  rw [lg_entry_eq]
  generalize (lg_sl ([.ref h, .int (nI i), .int (nI j)]) ++ List.replicate (3 - (lg_sl ([.ref h, .int (nI i), .int (nI j)])).length) Slot.unset).toArray = ls at hl ⊢
  have hl : lv_has ls 3 [(0, .ref h), (1, .int (nI i)), (2, .int (nI j))] := hl
  have zi := nI_toInt (n := i) (by omega)
  have zj := nI_toInt (n := j) (by omega)
  refine lv_aload_n hx hb dX0_power_0 rfl (lv_at hl 0 rfl) ?_
  refine lv_iload_n hx hb dX0_power_1 rfl (lv_at hl 1 rfl) ?_
  refine gz_callR (W.runV (As := [.int (nI i)]) (rest := []) ⟨hx, hb, hml, hown, hts⟩ (cG_isRow l dC dI cA cZ h qk qc qs ql qp qv fk fc fs fl fp fv rn cn sc (nI i) hrn.2 hcn.2) (cwV 1 hts gX0_power_X0_isRow rfl rfl rfl (by decide +kernel) ⟨Nat.le_of_ble_eq_true rfl, Nat.le_of_ble_eq_true rfl⟩) (gz_preV (q := (RX0, TX0, 9)) (ci := 0) hK hP [0, 1, 2, 3, 4, 5, 6] rfl rfl rfl) rfl rfl hl.1 rfl (lv_room (Nat.le_of_ble_eq_true rfl)) dX0_power_2 ⟨Nat.le_of_ble_eq_true rfl, Nat.le_of_ble_eq_true rfl⟩) ?_
  refine gz_ifeqB (tgt := 23) hx hb dX0_power_5 (by decide) (fun c_1 => False.elim (by omega)) (fun c_1 => ?_)
  refine lv_aload_n hx hb dX0_power_8 rfl (lv_at hl 0 rfl) ?_
  refine lv_iload_n hx hb dX0_power_9 rfl (lv_at hl 2 rfl) ?_
  refine gz_callR (W.runV (As := [.int (nI j)]) (rest := []) ⟨hx, hb, hml, hown, hts⟩ (cG_isLine l dC dI cA cZ h qk qc qs ql qp qv fk fc fs fl fp fv rn cn sc (nI j) hrn.2 hcn.2) (cwV 1 hts gX0_power_X0_isLine rfl rfl rfl (by decide +kernel) ⟨Nat.le_of_ble_eq_true rfl, Nat.le_of_ble_eq_true rfl⟩) (gz_preV (q := (RX0, TX0, 9)) (ci := 0) hK hP [0, 1, 2, 3, 4, 5, 6] rfl rfl rfl) rfl rfl hl.1 rfl (lv_room (Nat.le_of_ble_eq_true rfl)) dX0_power_10 ⟨Nat.le_of_ble_eq_true rfl, Nat.le_of_ble_eq_true rfl⟩) ?_
  refine gz_ifeqB (tgt := 23) hx hb dX0_power_13 (by decide) (fun c_2 => False.elim (by omega)) (fun c_2 => ?_)
  refine lv_aload_n hx hb dX0_power_16 rfl (lv_at hl 0 rfl) ?_
  refine va_get (D := (dC, dI)) (ci := 0) (v := .int (sc)) (C := RX0) (T := TX0) (N := 9) hx hb hts hin0 hown hK hP 0 rfl rfl 8 (by decide) lk35 (fun _ h9 => h9) rfl dX0_power_17 ?_
  refine lv_if_ne (tgt := 25) hx hb dX0_power_20 (by decide) (fun c_3 => ?_) (fun c_3 => False.elim (hsc c_3))
  refine lv_iload_n hx hb dX0_power_25 rfl (lv_at hl 2 rfl) ?_
  refine lv_aload_n hx hb dX0_power_26 rfl (lv_at hl 0 rfl) ?_
  refine va_get (D := (dC, dI)) (ci := 0) (v := .int (nI cn)) (C := RX0) (T := TX0) (N := 9) hx hb hts hin0 hown hK hP 0 rfl rfl 7 (by decide) lk32 (fun _ h9 => h9) rfl dX0_power_27 ?_
  refine gz_icmp_ne (tgt := 56) (za := ((j : Nat) : Int)) (zb := ((cn : Nat) : Int)) hx hb dX0_power_30 (by decide) (nI_toInt (by omega)) (nI_toInt (by omega)) (fun c_4 => ?_) (fun c_4 => ?_)
  · skip
    refine lv_aload_n hx hb dX0_power_56 rfl (lv_at hl 0 rfl) ?_
    refine va_get (D := (dC, dI)) (ci := 0) (v := .ref qp) (C := RX0) (T := TX0) (N := 9) hx hb hts hin0 hown hK hP 0 rfl rfl 4 (by decide) lk22 (fun _ h9 => h9) rfl dX0_power_57 ?_
    refine lv_iload_n hx hb dX0_power_60 rfl (lv_at hl 1 rfl) ?_
    refine lv_iload_n hx hb dX0_power_61 rfl (lv_at hl 2 rfl) ?_
    refine gz_callR (W.runS (As := [.int (nI i), .int (nI j)]) (rest := [.ref qp]) ⟨hx, hb, hml, hown, hts⟩ (cG_pointAt l i j) (va_cwS 2 hts gX0_power_X0_pointAt rfl rfl rfl (by decide +kernel) ⟨Nat.le_of_ble_eq_true rfl, Nat.le_of_ble_eq_true rfl⟩) preEq rfl rfl hl.1 rfl (lv_room (Nat.le_of_ble_eq_true rfl)) dX0_power_62 ⟨Nat.le_of_ble_eq_true rfl, Nat.le_of_ble_eq_true rfl⟩) ?_
    refine gz_iald (k := i * 13 + j) hx hb hK hP 5 0 rfl rfl (by omega) (by omega) dX0_power_65 ?_
    exact W.iret (v := fp (i * 13 + j)) hx hb hr (fun t ht hW => ⟨rfl, ht⟩) (fun q h => absurd h List.not_mem_nil) dX0_power_66
  · skip
    refine lv_aload_n hx hb dX0_power_33 rfl (lv_at hl 0 rfl) ?_
    refine va_get (D := (dC, dI)) (ci := 0) (v := .ref qk) (C := RX0) (T := TX0) (N := 9) hx hb hts hin0 hown hK hP 0 rfl rfl 0 (by decide) lk9 (fun _ h9 => h9) rfl dX0_power_34 ?_
    refine lv_iload_n hx hb dX0_power_37 rfl (lv_at hl 1 rfl) ?_
    refine lv_aload_n hx hb dX0_power_38 rfl (lv_at hl 0 rfl) ?_
    refine va_get (D := (dC, dI)) (ci := 0) (v := .int (nI cn)) (C := RX0) (T := TX0) (N := 9) hx hb hts hin0 hown hK hP 0 rfl rfl 7 (by decide) lk32 (fun _ h9 => h9) rfl dX0_power_39 ?_
    refine lv_iconst (v := nI 1) hx hb dX0_power_42 (by decide) ?_
    refine gz_isub (i := cn) (j := 1) hx hb dX0_power_43 (by omega) ?_
    refine gz_callR (W.runS (As := [.int (nI i), .int (nI (cn - 1))]) (rest := [.ref qk]) ⟨hx, hb, hml, hown, hts⟩ (cG_cellAt l i (cn - 1)) (va_cwS 2 hts gX0_power_X0_cellAt rfl rfl rfl (by decide +kernel) ⟨Nat.le_of_ble_eq_true rfl, Nat.le_of_ble_eq_true rfl⟩) preEq rfl rfl hl.1 rfl (lv_room (Nat.le_of_ble_eq_true rfl)) dX0_power_44 ⟨Nat.le_of_ble_eq_true rfl, Nat.le_of_ble_eq_true rfl⟩) ?_
    refine gz_iald (k := i * 12 + (cn - 1)) hx hb hK hP 1 0 rfl rfl (by omega) (by omega) dX0_power_47 ?_
    refine gz_callR (W.runS (As := [.int (fk (i * 12 + (cn - 1)))]) (rest := []) ⟨hx, hb, hml, hown, hts⟩ (cG_isCoil l (fk (i * 12 + (cn - 1)))) (va_cwS 1 hts gX0_power_X0_isCoil rfl rfl rfl (by decide +kernel) ⟨Nat.le_of_ble_eq_true rfl, Nat.le_of_ble_eq_true rfl⟩) preEq rfl rfl hl.1 rfl (lv_room (Nat.le_of_ble_eq_true rfl)) dX0_power_48 ⟨Nat.le_of_ble_eq_true rfl, Nat.le_of_ble_eq_true rfl⟩) ?_
    refine gz_ifeqB (tgt := 56) hx hb dX0_power_51 (by decide) (fun c_5 => ?_) (fun c_5 => False.elim (by omega))
    refine lv_aload_n hx hb dX0_power_56 rfl (lv_at hl 0 rfl) ?_
    refine va_get (D := (dC, dI)) (ci := 0) (v := .ref qp) (C := RX0) (T := TX0) (N := 9) hx hb hts hin0 hown hK hP 0 rfl rfl 4 (by decide) lk22 (fun _ h9 => h9) rfl dX0_power_57 ?_
    refine lv_iload_n hx hb dX0_power_60 rfl (lv_at hl 1 rfl) ?_
    refine lv_iload_n hx hb dX0_power_61 rfl (lv_at hl 2 rfl) ?_
    refine gz_callR (W.runS (As := [.int (nI i), .int (nI j)]) (rest := [.ref qp]) ⟨hx, hb, hml, hown, hts⟩ (cG_pointAt l i j) (va_cwS 2 hts gX0_power_X0_pointAt rfl rfl rfl (by decide +kernel) ⟨Nat.le_of_ble_eq_true rfl, Nat.le_of_ble_eq_true rfl⟩) preEq rfl rfl hl.1 rfl (lv_room (Nat.le_of_ble_eq_true rfl)) dX0_power_62 ⟨Nat.le_of_ble_eq_true rfl, Nat.le_of_ble_eq_true rfl⟩) ?_
    refine gz_iald (k := i * 13 + j) hx hb hK hP 5 0 rfl rfl (by omega) (by omega) dX0_power_65 ?_
    exact W.iret (v := fp (i * 13 + j)) hx hb hr (fun t ht hW => ⟨rfl, ht⟩) (fun q h => absurd h List.not_mem_nil) dX0_power_66
set_option maxHeartbeats 4000000 in
set_option maxRecDepth 100000 in
theorem cG_power_bad (l : Launch) (dC : Nat → ClassId) (dI : Nat → Nat → Nat) (cA cZ : ClassId) (h qk qc qs ql qp qv : Nat) (fk fc fs fl fp fv : Nat → Int32) (rn cn : Nat) (sc : Int32) (x y : Int32) (hrn : 1 ≤ rn ∧ rn ≤ 12) (hcn : 1 ≤ cn ∧ cn ≤ 12) (hx0 : ¬ (0 ≤ x.toInt ∧ x.toInt < (rn : Int)) ∨ ¬ (0 ≤ y.toInt ∧ y.toInt ≤ (cn : Int)) ∨ sc = nI 0) : Met l yX0_power wsX0_power ({ frames := 1, cells := 0, slots := 0, locals := 21 }) (gPr (dC, dI) vwCl [(cA, .int), (cZ, .boolean)] [.ref h, .int x, .int y] (gw cA h qk qc qs ql qp qv fk fc fs fl fp fv (nI rn) (nI cn) sc)) (QcRead (-1)) 0 0 (fun _ => False) := by
  refine Met.ofW (cc := cX0_power) (maxL := 3) (ret := (some .int)) (by decide) rfl ?_
  intro p e s m args below meth c s₁ B hml hv
  obtain ⟨rfl, hP, hK⟩ := hv
  have hx := B.exec
  have hb := B.bytes
  have hr := B.returns
  have hts := atoms_spec (ws := wsX0_power) B.pre
  have hown : s.vm.findClass RX0 = some m.cls := findClass_of_methodNamed B.named
  have hlocks := B.notSynchronized
  have hin0 : ∀ w ∈ u_ws RX0 TX0 9, w ∈ wsX0_power := by decide +kernel
  have lk35 := hts (.fieldLink RX0 35 "LadderGrid" "scanned" "Z") (by decide +kernel)
  have lk32 := hts (.fieldLink RX0 32 "LadderGrid" "columns" "I") (by decide +kernel)
  have lk9 := hts (.fieldLink RX0 9 "LadderGrid" "kinds" "[I") (by decide +kernel)
  have lk22 := hts (.fieldLink RX0 22 "LadderGrid" "powered" "[I") (by decide +kernel)
  have hl := lv_entry ([.ref h, .int x, .int y]) (n := 3) (Nat.le_of_ble_eq_true rfl)
  rw [lg_entry_eq]
  generalize (lg_sl ([.ref h, .int x, .int y]) ++ List.replicate (3 - (lg_sl ([.ref h, .int x, .int y])).length) Slot.unset).toArray = ls at hl ⊢
  have hl : lv_has ls 3 [(0, .ref h), (1, .int (x)), (2, .int (y))] := hl
  refine lv_aload_n hx hb dX0_power_0 rfl (lv_at hl 0 rfl) ?_
  refine lv_iload_n hx hb dX0_power_1 rfl (lv_at hl 1 rfl) ?_
  refine gz_callR (W.runV (As := [.int (x)]) (rest := []) ⟨hx, hb, hml, hown, hts⟩ (cG_isRow l dC dI cA cZ h qk qc qs ql qp qv fk fc fs fl fp fv rn cn sc x hrn.2 hcn.2) (cwV 1 hts gX0_power_X0_isRow rfl rfl rfl (by decide +kernel) ⟨Nat.le_of_ble_eq_true rfl, Nat.le_of_ble_eq_true rfl⟩) (gz_preV (q := (RX0, TX0, 9)) (ci := 0) hK hP [0, 1, 2, 3, 4, 5, 6] rfl rfl rfl) rfl rfl hl.1 rfl (lv_room (Nat.le_of_ble_eq_true rfl)) dX0_power_2 ⟨Nat.le_of_ble_eq_true rfl, Nat.le_of_ble_eq_true rfl⟩) ?_
  refine gz_ifeqB (tgt := 23) hx hb dX0_power_5 (by decide) (fun c_1 => ?_) (fun c_1 => ?_)
  · skip
    refine lv_iconst (v := (-1)) hx hb dX0_power_23 (by decide) ?_
    exact W.iret (v := (-1)) hx hb hr (fun t ht hW => ⟨rfl, ht⟩) (fun q h => absurd h List.not_mem_nil) dX0_power_24
  · skip
    refine lv_aload_n hx hb dX0_power_8 rfl (lv_at hl 0 rfl) ?_
    refine lv_iload_n hx hb dX0_power_9 rfl (lv_at hl 2 rfl) ?_
    refine gz_callR (W.runV (As := [.int (y)]) (rest := []) ⟨hx, hb, hml, hown, hts⟩ (cG_isLine l dC dI cA cZ h qk qc qs ql qp qv fk fc fs fl fp fv rn cn sc y hrn.2 hcn.2) (cwV 1 hts gX0_power_X0_isLine rfl rfl rfl (by decide +kernel) ⟨Nat.le_of_ble_eq_true rfl, Nat.le_of_ble_eq_true rfl⟩) (gz_preV (q := (RX0, TX0, 9)) (ci := 0) hK hP [0, 1, 2, 3, 4, 5, 6] rfl rfl rfl) rfl rfl hl.1 rfl (lv_room (Nat.le_of_ble_eq_true rfl)) dX0_power_10 ⟨Nat.le_of_ble_eq_true rfl, Nat.le_of_ble_eq_true rfl⟩) ?_
    refine gz_ifeqB (tgt := 23) hx hb dX0_power_13 (by decide) (fun c_2 => ?_) (fun c_2 => ?_)
    · skip
      refine lv_iconst (v := (-1)) hx hb dX0_power_23 (by decide) ?_
      exact W.iret (v := (-1)) hx hb hr (fun t ht hW => ⟨rfl, ht⟩) (fun q h => absurd h List.not_mem_nil) dX0_power_24
    · skip
      refine lv_aload_n hx hb dX0_power_16 rfl (lv_at hl 0 rfl) ?_
      refine va_get (D := (dC, dI)) (ci := 0) (v := .int (sc)) (C := RX0) (T := TX0) (N := 9) hx hb hts hin0 hown hK hP 0 rfl rfl 8 (by decide) lk35 (fun _ h9 => h9) rfl dX0_power_17 ?_
      refine lv_if_ne (tgt := 25) hx hb dX0_power_20 (by decide) (fun c_3 => False.elim (by rcases hx0 with hq | hq | hq; omega; omega; exact c_3 hq)) (fun c_3 => ?_)
      refine lv_iconst (v := (-1)) hx hb dX0_power_23 (by decide) ?_
      exact W.iret (v := (-1)) hx hb hr (fun t ht hW => ⟨rfl, ht⟩) (fun q h => absurd h List.not_mem_nil) dX0_power_24
set_option maxHeartbeats 4000000 in
set_option maxRecDepth 100000 in
theorem cG_power_coil (l : Launch) (dC : Nat → ClassId) (dI : Nat → Nat → Nat) (cA cZ : ClassId) (h qk qc qs ql qp qv : Nat) (fk fc fs fl fp fv : Nat → Int32) (rn cn : Nat) (sc : Int32) (i : Nat) (hrn : 1 ≤ rn ∧ rn ≤ 12) (hcn : 1 ≤ cn ∧ cn ≤ 12) (hi : i < rn) (hsc : ¬ sc = nI 0) (hk6 : 6 ≤ (fk (i * 12 + (cn - 1))).toInt) : Met l yX0_power wsX0_power ({ frames := 1, cells := 0, slots := 0, locals := 21 }) (gPr (dC, dI) vwCl [(cA, .int), (cZ, .boolean)] [.ref h, .int (nI i), .int (nI cn)] (gw cA h qk qc qs ql qp qv fk fc fs fl fp fv (nI rn) (nI cn) sc)) (QcRead (-1)) 0 0 (fun _ => False) := by
  refine Met.ofW (cc := cX0_power) (maxL := 3) (ret := (some .int)) (by decide) rfl ?_
  intro p e s m args below meth c s₁ B hml hv
  obtain ⟨rfl, hP, hK⟩ := hv
  have hx := B.exec
  have hb := B.bytes
  have hr := B.returns
  have hts := atoms_spec (ws := wsX0_power) B.pre
  have hown : s.vm.findClass RX0 = some m.cls := findClass_of_methodNamed B.named
  have hlocks := B.notSynchronized
  have hin0 : ∀ w ∈ u_ws RX0 TX0 9, w ∈ wsX0_power := by decide +kernel
  have lk35 := hts (.fieldLink RX0 35 "LadderGrid" "scanned" "Z") (by decide +kernel)
  have lk32 := hts (.fieldLink RX0 32 "LadderGrid" "columns" "I") (by decide +kernel)
  have lk9 := hts (.fieldLink RX0 9 "LadderGrid" "kinds" "[I") (by decide +kernel)
  have lk22 := hts (.fieldLink RX0 22 "LadderGrid" "powered" "[I") (by decide +kernel)
  have hl := lv_entry ([.ref h, .int (nI i), .int (nI cn)]) (n := 3) (Nat.le_of_ble_eq_true rfl)
  rw [lg_entry_eq]
  generalize (lg_sl ([.ref h, .int (nI i), .int (nI cn)]) ++ List.replicate (3 - (lg_sl ([.ref h, .int (nI i), .int (nI cn)])).length) Slot.unset).toArray = ls at hl ⊢
  have hl : lv_has ls 3 [(0, .ref h), (1, .int (nI i)), (2, .int (nI cn))] := hl
  have zi := nI_toInt (n := i) (by omega)
  have zj := nI_toInt (n := cn) (by omega)
  refine lv_aload_n hx hb dX0_power_0 rfl (lv_at hl 0 rfl) ?_
  refine lv_iload_n hx hb dX0_power_1 rfl (lv_at hl 1 rfl) ?_
  refine gz_callR (W.runV (As := [.int (nI i)]) (rest := []) ⟨hx, hb, hml, hown, hts⟩ (cG_isRow l dC dI cA cZ h qk qc qs ql qp qv fk fc fs fl fp fv rn cn sc (nI i) hrn.2 hcn.2) (cwV 1 hts gX0_power_X0_isRow rfl rfl rfl (by decide +kernel) ⟨Nat.le_of_ble_eq_true rfl, Nat.le_of_ble_eq_true rfl⟩) (gz_preV (q := (RX0, TX0, 9)) (ci := 0) hK hP [0, 1, 2, 3, 4, 5, 6] rfl rfl rfl) rfl rfl hl.1 rfl (lv_room (Nat.le_of_ble_eq_true rfl)) dX0_power_2 ⟨Nat.le_of_ble_eq_true rfl, Nat.le_of_ble_eq_true rfl⟩) ?_
  refine gz_ifeqB (tgt := 23) hx hb dX0_power_5 (by decide) (fun c_1 => False.elim (by omega)) (fun c_1 => ?_)
  refine lv_aload_n hx hb dX0_power_8 rfl (lv_at hl 0 rfl) ?_
  refine lv_iload_n hx hb dX0_power_9 rfl (lv_at hl 2 rfl) ?_
  refine gz_callR (W.runV (As := [.int (nI cn)]) (rest := []) ⟨hx, hb, hml, hown, hts⟩ (cG_isLine l dC dI cA cZ h qk qc qs ql qp qv fk fc fs fl fp fv rn cn sc (nI cn) hrn.2 hcn.2) (cwV 1 hts gX0_power_X0_isLine rfl rfl rfl (by decide +kernel) ⟨Nat.le_of_ble_eq_true rfl, Nat.le_of_ble_eq_true rfl⟩) (gz_preV (q := (RX0, TX0, 9)) (ci := 0) hK hP [0, 1, 2, 3, 4, 5, 6] rfl rfl rfl) rfl rfl hl.1 rfl (lv_room (Nat.le_of_ble_eq_true rfl)) dX0_power_10 ⟨Nat.le_of_ble_eq_true rfl, Nat.le_of_ble_eq_true rfl⟩) ?_
  refine gz_ifeqB (tgt := 23) hx hb dX0_power_13 (by decide) (fun c_2 => False.elim (by omega)) (fun c_2 => ?_)
  refine lv_aload_n hx hb dX0_power_16 rfl (lv_at hl 0 rfl) ?_
  refine va_get (D := (dC, dI)) (ci := 0) (v := .int (sc)) (C := RX0) (T := TX0) (N := 9) hx hb hts hin0 hown hK hP 0 rfl rfl 8 (by decide) lk35 (fun _ h9 => h9) rfl dX0_power_17 ?_
  refine lv_if_ne (tgt := 25) hx hb dX0_power_20 (by decide) (fun c_3 => ?_) (fun c_3 => False.elim (hsc c_3))
  refine lv_iload_n hx hb dX0_power_25 rfl (lv_at hl 2 rfl) ?_
  refine lv_aload_n hx hb dX0_power_26 rfl (lv_at hl 0 rfl) ?_
  refine va_get (D := (dC, dI)) (ci := 0) (v := .int (nI cn)) (C := RX0) (T := TX0) (N := 9) hx hb hts hin0 hown hK hP 0 rfl rfl 7 (by decide) lk32 (fun _ h9 => h9) rfl dX0_power_27 ?_
  refine gz_icmp_ne (tgt := 56) (za := ((cn : Nat) : Int)) (zb := ((cn : Nat) : Int)) hx hb dX0_power_30 (by decide) (nI_toInt (by omega)) (nI_toInt (by omega)) (fun c_4 => False.elim (by omega)) (fun c_4 => ?_)
  refine lv_aload_n hx hb dX0_power_33 rfl (lv_at hl 0 rfl) ?_
  refine va_get (D := (dC, dI)) (ci := 0) (v := .ref qk) (C := RX0) (T := TX0) (N := 9) hx hb hts hin0 hown hK hP 0 rfl rfl 0 (by decide) lk9 (fun _ h9 => h9) rfl dX0_power_34 ?_
  refine lv_iload_n hx hb dX0_power_37 rfl (lv_at hl 1 rfl) ?_
  refine lv_aload_n hx hb dX0_power_38 rfl (lv_at hl 0 rfl) ?_
  refine va_get (D := (dC, dI)) (ci := 0) (v := .int (nI cn)) (C := RX0) (T := TX0) (N := 9) hx hb hts hin0 hown hK hP 0 rfl rfl 7 (by decide) lk32 (fun _ h9 => h9) rfl dX0_power_39 ?_
  refine lv_iconst (v := nI 1) hx hb dX0_power_42 (by decide) ?_
  refine gz_isub (i := cn) (j := 1) hx hb dX0_power_43 (by omega) ?_
  refine gz_callR (W.runS (As := [.int (nI i), .int (nI (cn - 1))]) (rest := [.ref qk]) ⟨hx, hb, hml, hown, hts⟩ (cG_cellAt l i (cn - 1)) (va_cwS 2 hts gX0_power_X0_cellAt rfl rfl rfl (by decide +kernel) ⟨Nat.le_of_ble_eq_true rfl, Nat.le_of_ble_eq_true rfl⟩) preEq rfl rfl hl.1 rfl (lv_room (Nat.le_of_ble_eq_true rfl)) dX0_power_44 ⟨Nat.le_of_ble_eq_true rfl, Nat.le_of_ble_eq_true rfl⟩) ?_
  refine gz_iald (k := i * 12 + (cn - 1)) hx hb hK hP 1 0 rfl rfl (by omega) (by omega) dX0_power_47 ?_
  refine gz_callR (W.runS (As := [.int (fk (i * 12 + (cn - 1)))]) (rest := []) ⟨hx, hb, hml, hown, hts⟩ (cG_isCoil l (fk (i * 12 + (cn - 1)))) (va_cwS 1 hts gX0_power_X0_isCoil rfl rfl rfl (by decide +kernel) ⟨Nat.le_of_ble_eq_true rfl, Nat.le_of_ble_eq_true rfl⟩) preEq rfl rfl hl.1 rfl (lv_room (Nat.le_of_ble_eq_true rfl)) dX0_power_48 ⟨Nat.le_of_ble_eq_true rfl, Nat.le_of_ble_eq_true rfl⟩) ?_
  refine gz_ifeqB (tgt := 56) hx hb dX0_power_51 (by decide) (fun c_5 => False.elim (by omega)) (fun c_5 => ?_)
  refine lv_iconst (v := (-1)) hx hb dX0_power_54 (by decide) ?_
  exact W.iret (v := (-1)) hx hb hr (fun t ht hW => ⟨rfl, ht⟩) (fun q h => absurd h List.not_mem_nil) dX0_power_55
set_option maxHeartbeats 4000000 in
set_option maxRecDepth 100000 in
theorem cG_groups_bad (l : Launch) (dC : Nat → ClassId) (dI : Nat → Nat → Nat) (cA cZ : ClassId) (h qk qc qs ql qp qv : Nat) (fk fc fs fl fp fv : Nat → Int32) (rn cn : Nat) (sc : Int32) (x : Int32) (hrn : 1 ≤ rn ∧ rn ≤ 12) (hcn : 1 ≤ cn ∧ cn ≤ 12) (hx0 : ¬ (0 ≤ x.toInt ∧ x.toInt ≤ (cn : Int))) : Met l yX0_groups wsX0_groups ({ frames := 1, cells := 0, slots := 0, locals := 21 }) (gPr (dC, dI) vwCl [(cA, .int), (cZ, .boolean)] [.ref h, .int x] (gw cA h qk qc qs ql qp qv fk fc fs fl fp fv (nI rn) (nI cn) sc)) (QcRead (-1)) 0 0 (fun _ => False) := by
  refine Met.ofW (cc := cX0_groups) (maxL := 4) (ret := (some .int)) (by decide) rfl ?_
  intro p e s m args below meth c s₁ B hml hv
  obtain ⟨rfl, hP, hK⟩ := hv
  have hx := B.exec
  have hb := B.bytes
  have hr := B.returns
  have hts := atoms_spec (ws := wsX0_groups) B.pre
  have hown : s.vm.findClass RX0 = some m.cls := findClass_of_methodNamed B.named
  have hlocks := B.notSynchronized
  have hin0 : ∀ w ∈ u_ws RX0 TX0 9, w ∈ wsX0_groups := by decide +kernel
  have lk28 := hts (.fieldLink RX0 28 "LadderGrid" "rows" "I") (by decide +kernel)
  have lk19 := hts (.fieldLink RX0 19 "LadderGrid" "links" "[I") (by decide +kernel)
  have hl := lv_entry ([.ref h, .int x]) (n := 4) (Nat.le_of_ble_eq_true rfl)
  rw [lg_entry_eq]
  generalize (lg_sl ([.ref h, .int x]) ++ List.replicate (4 - (lg_sl ([.ref h, .int x])).length) Slot.unset).toArray = ls at hl ⊢
  have hl : lv_has ls 4 [(0, .ref h), (1, .int (x))] := hl
  refine lv_aload_n hx hb dX0_groups_0 rfl (lv_at hl 0 rfl) ?_
  refine lv_iload_n hx hb dX0_groups_1 rfl (lv_at hl 1 rfl) ?_
  refine gz_callR (W.runV (As := [.int (x)]) (rest := []) ⟨hx, hb, hml, hown, hts⟩ (cG_isLine l dC dI cA cZ h qk qc qs ql qp qv fk fc fs fl fp fv rn cn sc x hrn.2 hcn.2) (cwV 1 hts gX0_groups_X0_isLine rfl rfl rfl (by decide +kernel) ⟨Nat.le_of_ble_eq_true rfl, Nat.le_of_ble_eq_true rfl⟩) (gz_preV (q := (RX0, TX0, 9)) (ci := 0) hK hP [0, 1, 2, 3, 4, 5, 6] rfl rfl rfl) rfl rfl hl.1 rfl (lv_room (Nat.le_of_ble_eq_true rfl)) dX0_groups_2 ⟨Nat.le_of_ble_eq_true rfl, Nat.le_of_ble_eq_true rfl⟩) ?_
  refine gz_ifneB (tgt := 10) hx hb dX0_groups_5 (by decide) (fun c_1 => False.elim (hx0 c_1)) (fun c_1 => ?_)
  refine lv_iconst (v := (-1)) hx hb dX0_groups_8 (by decide) ?_
  exact W.iret (v := (-1)) hx hb hr (fun t ht hW => ⟨rfl, ht⟩) (fun q h => absurd h List.not_mem_nil) dX0_groups_9
set_option maxHeartbeats 4000000 in
set_option maxRecDepth 100000 in
theorem cG_groups (l : Launch) (dC : Nat → ClassId) (dI : Nat → Nat → Nat) (cA cZ : ClassId) (h qk qc qs ql qp qv : Nat) (fk fc fs fl fp fv : Nat → Int32) (rn cn : Nat) (sc : Int32) (j : Nat) (hrn : 1 ≤ rn ∧ rn ≤ 12) (hcn : 1 ≤ cn ∧ cn ≤ 12) (hj : j ≤ cn) (hfl : ∀ k, k < 156 → fl k = nI 0 ∨ fl k = nI 1) : Met l yX0_groups wsX0_groups ({ frames := 1, cells := 0, slots := 0, locals := 21 }) (gPr (dC, dI) vwCl [(cA, .int), (cZ, .boolean)] [.ref h, .int (nI j)] (gw cA h qk qc qs ql qp qv fk fc fs fl fp fv (nI rn) (nI cn) sc)) (QcRead (nI (rn - gGr fl j rn))) 0 0 (fun _ => False) := by
  refine Met.ofW (cc := cX0_groups) (maxL := 4) (ret := (some .int)) (by decide) rfl ?_
  intro p e s m args below meth c s₁ B hml hv
  obtain ⟨rfl, hP, hK⟩ := hv
  have hx := B.exec
  have hb := B.bytes
  have hr := B.returns
  have hts := atoms_spec (ws := wsX0_groups) B.pre
  have hown : s.vm.findClass RX0 = some m.cls := findClass_of_methodNamed B.named
  have hlocks := B.notSynchronized
  have hin0 : ∀ w ∈ u_ws RX0 TX0 9, w ∈ wsX0_groups := by decide +kernel
  have lk28 := hts (.fieldLink RX0 28 "LadderGrid" "rows" "I") (by decide +kernel)
  have lk19 := hts (.fieldLink RX0 19 "LadderGrid" "links" "[I") (by decide +kernel)
  have hl := lv_entry ([.ref h, .int (nI j)]) (n := 4) (Nat.le_of_ble_eq_true rfl)
  rw [lg_entry_eq]
  generalize (lg_sl ([.ref h, .int (nI j)]) ++ List.replicate (4 - (lg_sl ([.ref h, .int (nI j)])).length) Slot.unset).toArray = ls at hl ⊢
  have hl : lv_has ls 4 [(0, .ref h), (1, .int (nI j))] := hl
  have zj := nI_toInt (n := j) (by omega)
  have loop : ∀ (n : Nat) (i : Nat), i + n = rn → ∀ (ls : Array Slot), lv_has ls 4 [(3, .int (nI i)), (2, .int (nI (rn - gGr fl j i))), (0, .ref h), (1, .int (nI j))] → W p l e (headSpec wsX0_groups ({ frames := 1, cells := 0, slots := 0, locals := 21 })).room s m ([.ref h, .int (nI j)] : List Value).toArray below meth c s.heap [] 0 0 (MQ below (QcRead (nI (rn - gGr fl j rn))) ([.ref h, .int (nI j)] : List Value).toArray s 0 0 (fun _ => False)) (F0 m 17 ls []) := by
    intro n
    induction n with
    | zero =>
      intro i hi ls hl
      refine lv_iload_n hx hb dX0_groups_17 rfl (lv_at hl 0 rfl) ?_
      refine lv_aload_n hx hb dX0_groups_18 rfl (lv_at hl 2 rfl) ?_
      refine va_get (D := (dC, dI)) (ci := 0) (v := .int (nI rn)) (C := RX0) (T := TX0) (N := 9) hx hb hts hin0 hown hK hP 0 rfl rfl 6 (by decide) lk28 (fun _ h9 => h9) rfl dX0_groups_19 ?_
      refine gz_icmp_ge (tgt := 44) (za := ((i : Nat) : Int)) (zb := ((rn : Nat) : Int)) hx hb dX0_groups_22 (by decide) (nI_toInt (by omega)) (nI_toInt (by omega)) (fun c_1 => ?_) (fun c_1 => False.elim (by omega))
      refine lv_iload_n hx hb dX0_groups_44 rfl (lv_at hl 1 rfl) ?_
      exact W.iret (v := nI (rn - gGr fl j i)) hx hb hr (fun t ht hW => ⟨(by rw [show i = rn by omega]), ht⟩) (fun q h => absurd h List.not_mem_nil) dX0_groups_45
    | succ n ih =>
      intro i hi ls hl
      refine lv_iload_n hx hb dX0_groups_17 rfl (lv_at hl 0 rfl) ?_
      refine lv_aload_n hx hb dX0_groups_18 rfl (lv_at hl 2 rfl) ?_
      refine va_get (D := (dC, dI)) (ci := 0) (v := .int (nI rn)) (C := RX0) (T := TX0) (N := 9) hx hb hts hin0 hown hK hP 0 rfl rfl 6 (by decide) lk28 (fun _ h9 => h9) rfl dX0_groups_19 ?_
      refine gz_icmp_ge (tgt := 44) (za := ((i : Nat) : Int)) (zb := ((rn : Nat) : Int)) hx hb dX0_groups_22 (by decide) (nI_toInt (by omega)) (nI_toInt (by omega)) (fun c_1 => False.elim (by omega)) (fun c_1 => ?_)
      refine lv_iload_n hx hb dX0_groups_25 rfl (lv_at hl 1 rfl) ?_
      refine lv_aload_n hx hb dX0_groups_26 rfl (lv_at hl 2 rfl) ?_
      refine va_get (D := (dC, dI)) (ci := 0) (v := .ref ql) (C := RX0) (T := TX0) (N := 9) hx hb hts hin0 hown hK hP 0 rfl rfl 3 (by decide) lk19 (fun _ h9 => h9) rfl dX0_groups_27 ?_
      refine lv_iload_n hx hb dX0_groups_30 rfl (lv_at hl 0 rfl) ?_
      refine lv_iload_n hx hb dX0_groups_31 rfl (lv_at hl 3 rfl) ?_
      refine gz_callR (W.runS (As := [.int (nI i), .int (nI j)]) (rest := [.ref ql, .int (nI (rn - gGr fl j i))]) ⟨hx, hb, hml, hown, hts⟩ (cG_pointAt l i j) (va_cwS 2 hts gX0_groups_X0_pointAt rfl rfl rfl (by decide +kernel) ⟨Nat.le_of_ble_eq_true rfl, Nat.le_of_ble_eq_true rfl⟩) preEq rfl rfl hl.1 rfl (lv_room (Nat.le_of_ble_eq_true rfl)) dX0_groups_32 ⟨Nat.le_of_ble_eq_true rfl, Nat.le_of_ble_eq_true rfl⟩) ?_
      refine gz_iald (k := i * 13 + j) hx hb hK hP 4 0 rfl rfl (by omega) (by omega) dX0_groups_35 ?_
      refine lv_isub hx hb dX0_groups_36 ?_
      refine gz_topI (y := nI (rn - gGr fl j (i + 1))) (gGr_sub (hfl _ (by omega)) (by omega)) ?_
      refine lv_istore_n (lv' := [(2, .int (nI (rn - gGr fl j (i + 1)))), (3, .int (nI i)), (0, .ref h), (1, .int (nI j))]) hx hb dX0_groups_37 rfl hl (by decide) rfl (fun ls hl => ?_)
      refine lv_iinc (v := nI (i + 1)) (lv' := [(3, .int (nI (i + 1))), (2, .int (nI (rn - gGr fl j (i + 1)))), (0, .ref h), (1, .int (nI j))]) hx hb dX0_groups_38 hl (k := 1) rfl (nI_1 _) (by decide) rfl (fun ls hl => ?_)
      refine lv_goto (tgt := 17) hx hb dX0_groups_41 (by decide) ?_
      exact ih (i + 1) (by omega) ls (lv_sub hl [0, 1, 2, 3] rfl)
  refine lv_aload_n hx hb dX0_groups_0 rfl (lv_at hl 0 rfl) ?_
  refine lv_iload_n hx hb dX0_groups_1 rfl (lv_at hl 1 rfl) ?_
  refine gz_callR (W.runV (As := [.int (nI j)]) (rest := []) ⟨hx, hb, hml, hown, hts⟩ (cG_isLine l dC dI cA cZ h qk qc qs ql qp qv fk fc fs fl fp fv rn cn sc (nI j) hrn.2 hcn.2) (cwV 1 hts gX0_groups_X0_isLine rfl rfl rfl (by decide +kernel) ⟨Nat.le_of_ble_eq_true rfl, Nat.le_of_ble_eq_true rfl⟩) (gz_preV (q := (RX0, TX0, 9)) (ci := 0) hK hP [0, 1, 2, 3, 4, 5, 6] rfl rfl rfl) rfl rfl hl.1 rfl (lv_room (Nat.le_of_ble_eq_true rfl)) dX0_groups_2 ⟨Nat.le_of_ble_eq_true rfl, Nat.le_of_ble_eq_true rfl⟩) ?_
  refine gz_ifneB (tgt := 10) hx hb dX0_groups_5 (by decide) (fun c_1 => ?_) (fun c_1 => False.elim (c_1 (by omega)))
  refine lv_aload_n hx hb dX0_groups_10 rfl (lv_at hl 0 rfl) ?_
  refine va_get (D := (dC, dI)) (ci := 0) (v := .int (nI rn)) (C := RX0) (T := TX0) (N := 9) hx hb hts hin0 hown hK hP 0 rfl rfl 6 (by decide) lk28 (fun _ h9 => h9) rfl dX0_groups_11 ?_
  refine lv_istore_n (lv' := [(2, .int (nI rn)), (0, .ref h), (1, .int (nI j))]) hx hb dX0_groups_14 rfl hl (by decide) rfl (fun ls hl => ?_)
  refine lv_iconst (v := nI 0) hx hb dX0_groups_15 (by decide) ?_
  refine lv_istore_n (lv' := [(3, .int (nI 0)), (2, .int (nI rn)), (0, .ref h), (1, .int (nI j))]) hx hb dX0_groups_16 rfl hl (by decide) rfl (fun ls hl => ?_)
  exact loop rn 0 (by omega) ls (lv_sub hl [0, 1, 2, 3] rfl)
