set_option maxHeartbeats 4000000 in
set_option maxRecDepth 100000 in
theorem cM_isVariable (l : Launch) (x : Int32)  : Met l yX1_isVariable wsX1_isVariable ({ frames := 0, cells := 0, slots := 0, locals := 0 }) (fun vv _ => vv = ([.int x] : List Value).toArray) (QcRead (if 0 ≤ x.toInt ∧ x.toInt < 40 then nI 1 else nI 0)) 0 0 (fun _ => False) := by
  refine Met.ofW (cc := cX1_isVariable) (maxL := 1) (ret := (some .boolean)) (by decide) rfl ?_
  intro p e s m args below meth c s₁ B hml hv
  subst hv
  have hx := B.exec
  have hb := B.bytes
  have hr := B.returns
  have hts := atoms_spec (ws := wsX1_isVariable) B.pre
  have hown : s.vm.findClass RX1 = some m.cls := findClass_of_methodNamed B.named
  have hlocks := B.notSynchronized
  have hl := lv_entry ([.int x]) (n := 1) (Nat.le_of_ble_eq_true rfl)
  rw [lg_entry_eq]
  generalize (lg_sl ([.int x]) ++ List.replicate (1 - (lg_sl ([.int x])).length) Slot.unset).toArray = ls at hl ⊢
  have hl : lv_has ls 1 [(0, .int (x))] := hl
  refine lv_iload_n hx hb dX1_isVariable_0 rfl (lv_at hl 0 rfl) ?_
  refine gz_if_lt (tgt := 14) (za := x.toInt) hx hb dX1_isVariable_1 (by decide) rfl (fun c_1 => ?_) (fun c_1 => ?_)
  · skip
    refine lv_iconst (v := nI 0) hx hb dX1_isVariable_14 (by decide) ?_
    exact W.zret (v := nI 0) hx hb hr rfl (fun t ht hW => ⟨(by first | rfl | (rw [if_pos (by first | assumption | omega)]) | (rw [if_neg (by first | assumption | omega)])), ht⟩) (fun q h => absurd h List.not_mem_nil) dX1_isVariable_15
  · skip
    refine lv_iload_n hx hb dX1_isVariable_4 rfl (lv_at hl 0 rfl) ?_
    refine lv_bipush (v := nI 40) hx hb dX1_isVariable_5 (by decide) ?_
    refine gz_icmp_ge (tgt := 14) (za := x.toInt) (zb := ((40 : Nat) : Int)) hx hb dX1_isVariable_7 (by decide) rfl (nI_toInt (by omega)) (fun c_2 => ?_) (fun c_2 => ?_)
    · skip
      refine lv_iconst (v := nI 0) hx hb dX1_isVariable_14 (by decide) ?_
      exact W.zret (v := nI 0) hx hb hr rfl (fun t ht hW => ⟨(by first | rfl | (rw [if_pos (by first | assumption | omega)]) | (rw [if_neg (by first | assumption | omega)])), ht⟩) (fun q h => absurd h List.not_mem_nil) dX1_isVariable_15
    · skip
      refine lv_iconst (v := nI 1) hx hb dX1_isVariable_10 (by decide) ?_
      refine lv_goto (tgt := 15) hx hb dX1_isVariable_11 (by decide) ?_
      exact W.zret (v := nI 1) hx hb hr rfl (fun t ht hW => ⟨(by first | rfl | (rw [if_pos (by first | assumption | omega)]) | (rw [if_neg (by first | assumption | omega)])), ht⟩) (fun q h => absurd h List.not_mem_nil) dX1_isVariable_15
set_option maxHeartbeats 4000000 in
set_option maxRecDepth 100000 in
theorem cM_isCell (l : Launch) (dC : Nat → ClassId) (dI : Nat → Nat → Nat) (cA cZ : ClassId) (gm ak ac ab al av ah ap : Nat) (fk fc fs fl fp fv ft : Nat → Int32) (rn cn : Nat) (sc : Int32) (x y : Int32) (hrn : 1 ≤ rn ∧ rn ≤ 12) (hcn : 1 ≤ cn ∧ cn ≤ 12)  : Met l yX1_isCell wsX1_isCell ({ frames := 0, cells := 0, slots := 0, locals := 0 }) (gPr (dC, dI) vwCl [(cA, .int), (cZ, .boolean)] [.ref gm, .int x, .int y] (mw cA cZ gm ak ac ab al av ah ap fk fc fs fl fp fv ft (nI rn) (nI cn) sc)) (QcRead (if 0 ≤ x.toInt ∧ x.toInt < (rn : Int) ∧ 0 ≤ y.toInt ∧ y.toInt < (cn : Int) then nI 1 else nI 0)) 0 0 (fun _ => False) := by
  refine Met.ofW (cc := cX1_isCell) (maxL := 3) (ret := (some .boolean)) (by decide) rfl ?_
  intro p e s m args below meth c s₁ B hml hv
  obtain ⟨rfl, hP, hK⟩ := hv
  have hx := B.exec
  have hb := B.bytes
  have hr := B.returns
  have hts := atoms_spec (ws := wsX1_isCell) B.pre
  have hown : s.vm.findClass RX1 = some m.cls := findClass_of_methodNamed B.named
  have hlocks := B.notSynchronized
  have hin1 : ∀ w ∈ u_ws RX1 TX1 10, w ∈ wsX1_isCell := by decide +kernel
  have lk36 := hts (.fieldLink RX1 36 "LadderGridModel" "rows" "I") (by decide +kernel)
  have lk40 := hts (.fieldLink RX1 40 "LadderGridModel" "columns" "I") (by decide +kernel)
  have hl := lv_entry ([.ref gm, .int x, .int y]) (n := 3) (Nat.le_of_ble_eq_true rfl)
  rw [lg_entry_eq]
  generalize (lg_sl ([.ref gm, .int x, .int y]) ++ List.replicate (3 - (lg_sl ([.ref gm, .int x, .int y])).length) Slot.unset).toArray = ls at hl ⊢
  have hl : lv_has ls 3 [(0, .ref gm), (1, .int (x)), (2, .int (y))] := hl
  refine lv_iload_n hx hb dX1_isCell_0 rfl (lv_at hl 1 rfl) ?_
  refine gz_if_lt (tgt := 28) (za := x.toInt) hx hb dX1_isCell_1 (by decide) rfl (fun c_1 => ?_) (fun c_1 => ?_)
  · skip
    refine lv_iconst (v := nI 0) hx hb dX1_isCell_28 (by decide) ?_
    exact W.zret (v := nI 0) hx hb hr rfl (fun t ht hW => ⟨(by first | rfl | (rw [if_pos (by first | assumption | omega)]) | (rw [if_neg (by first | assumption | omega)])), ht⟩) (fun q h => absurd h List.not_mem_nil) dX1_isCell_29
  · skip
    refine lv_iload_n hx hb dX1_isCell_4 rfl (lv_at hl 1 rfl) ?_
    refine lv_aload_n hx hb dX1_isCell_5 rfl (lv_at hl 0 rfl) ?_
    refine va_get (D := (dC, dI)) (ci := 1) (v := .int (nI rn)) (C := RX1) (T := TX1) (N := 10) hx hb hts hin1 hown hK hP 0 rfl rfl 0 (by decide) lk36 (fun _ h9 => h9) rfl dX1_isCell_6 ?_
    refine gz_icmp_ge (tgt := 28) (za := x.toInt) (zb := ((rn : Nat) : Int)) hx hb dX1_isCell_9 (by decide) rfl (nI_toInt (by omega)) (fun c_2 => ?_) (fun c_2 => ?_)
    · skip
      refine lv_iconst (v := nI 0) hx hb dX1_isCell_28 (by decide) ?_
      exact W.zret (v := nI 0) hx hb hr rfl (fun t ht hW => ⟨(by first | rfl | (rw [if_pos (by first | assumption | omega)]) | (rw [if_neg (by first | assumption | omega)])), ht⟩) (fun q h => absurd h List.not_mem_nil) dX1_isCell_29
    · skip
      refine lv_iload_n hx hb dX1_isCell_12 rfl (lv_at hl 2 rfl) ?_
      refine gz_if_lt (tgt := 28) (za := y.toInt) hx hb dX1_isCell_13 (by decide) rfl (fun c_3 => ?_) (fun c_3 => ?_)
      · skip
        refine lv_iconst (v := nI 0) hx hb dX1_isCell_28 (by decide) ?_
        exact W.zret (v := nI 0) hx hb hr rfl (fun t ht hW => ⟨(by first | rfl | (rw [if_pos (by first | assumption | omega)]) | (rw [if_neg (by first | assumption | omega)])), ht⟩) (fun q h => absurd h List.not_mem_nil) dX1_isCell_29
      · skip
        refine lv_iload_n hx hb dX1_isCell_16 rfl (lv_at hl 2 rfl) ?_
        refine lv_aload_n hx hb dX1_isCell_17 rfl (lv_at hl 0 rfl) ?_
        refine va_get (D := (dC, dI)) (ci := 1) (v := .int (nI cn)) (C := RX1) (T := TX1) (N := 10) hx hb hts hin1 hown hK hP 0 rfl rfl 1 (by decide) lk40 (fun _ h9 => h9) rfl dX1_isCell_18 ?_
        refine gz_icmp_ge (tgt := 28) (za := y.toInt) (zb := ((cn : Nat) : Int)) hx hb dX1_isCell_21 (by decide) rfl (nI_toInt (by omega)) (fun c_4 => ?_) (fun c_4 => ?_)
        · skip
          refine lv_iconst (v := nI 0) hx hb dX1_isCell_28 (by decide) ?_
          exact W.zret (v := nI 0) hx hb hr rfl (fun t ht hW => ⟨(by first | rfl | (rw [if_pos (by first | assumption | omega)]) | (rw [if_neg (by first | assumption | omega)])), ht⟩) (fun q h => absurd h List.not_mem_nil) dX1_isCell_29
        · skip
          refine lv_iconst (v := nI 1) hx hb dX1_isCell_24 (by decide) ?_
          refine lv_goto (tgt := 29) hx hb dX1_isCell_25 (by decide) ?_
          exact W.zret (v := nI 1) hx hb hr rfl (fun t ht hW => ⟨(by first | rfl | (rw [if_pos (by first | assumption | omega)]) | (rw [if_neg (by first | assumption | omega)])), ht⟩) (fun q h => absurd h List.not_mem_nil) dX1_isCell_29
set_option maxHeartbeats 4000000 in
set_option maxRecDepth 100000 in
theorem cM_get (l : Launch) (dC : Nat → ClassId) (dI : Nat → Nat → Nat) (cA cZ : ClassId) (gm ak ac ab al av ah ap : Nat) (fk fc fs fl fp fv ft : Nat → Int32) (rn cn : Nat) (sc : Int32) (i : Nat) (hrn : 1 ≤ rn ∧ rn ≤ 12) (hcn : 1 ≤ cn ∧ cn ≤ 12) (hi : i < 40) : Met l yX1_get wsX1_get ({ frames := 1, cells := 0, slots := 0, locals := 20 }) (gPr (dC, dI) vwCl [(cA, .int), (cZ, .boolean)] [.ref gm, .int (nI i)] (mw cA cZ gm ak ac ab al av ah ap fk fc fs fl fp fv ft (nI rn) (nI cn) sc)) (QcRead (fv i)) 0 0 (fun _ => False) := by
  refine Met.ofW (cc := cX1_get) (maxL := 2) (ret := (some .int)) (by decide) rfl ?_
  intro p e s m args below meth c s₁ B hml hv
  obtain ⟨rfl, hP, hK⟩ := hv
  have hx := B.exec
  have hb := B.bytes
  have hr := B.returns
  have hts := atoms_spec (ws := wsX1_get) B.pre
  have hown : s.vm.findClass RX1 = some m.cls := findClass_of_methodNamed B.named
  have hlocks := B.notSynchronized
  have hin1 : ∀ w ∈ u_ws RX1 TX1 10, w ∈ wsX1_get := by decide +kernel
  have lk23 := hts (.fieldLink RX1 23 "LadderGridModel" "values" "[I") (by decide +kernel)
  have hl := lv_entry ([.ref gm, .int (nI i)]) (n := 2) (Nat.le_of_ble_eq_true rfl)
  rw [lg_entry_eq]
  generalize (lg_sl ([.ref gm, .int (nI i)]) ++ List.replicate (2 - (lg_sl ([.ref gm, .int (nI i)])).length) Slot.unset).toArray = ls at hl ⊢
  have hl : lv_has ls 2 [(0, .ref gm), (1, .int (nI i))] := hl
  have zi := nI_toInt (n := i) (by omega)
  refine lv_iload_n hx hb dX1_get_0 rfl (lv_at hl 1 rfl) ?_
  refine gz_callR (W.runS (As := [.int (nI i)]) (rest := []) ⟨hx, hb, hml, hown, hts⟩ (cM_isVariable l (nI i)) (va_cwS 1 hts gX1_get_X1_isVariable rfl rfl rfl (by decide +kernel) ⟨Nat.le_of_ble_eq_true rfl, Nat.le_of_ble_eq_true rfl⟩) preEq rfl rfl hl.1 rfl (lv_room (Nat.le_of_ble_eq_true rfl)) dX1_get_1 ⟨Nat.le_of_ble_eq_true rfl, Nat.le_of_ble_eq_true rfl⟩) ?_
  refine gz_ifeqB (tgt := 16) hx hb dX1_get_4 (by decide) (fun c_1 => False.elim (by omega)) (fun c_1 => ?_)
  refine lv_aload_n hx hb dX1_get_7 rfl (lv_at hl 0 rfl) ?_
  refine va_get (D := (dC, dI)) (ci := 1) (v := .ref av) (C := RX1) (T := TX1) (N := 10) hx hb hts hin1 hown hK hP 0 rfl rfl 6 (by decide) lk23 (fun _ h9 => h9) rfl dX1_get_8 ?_
  refine lv_iload_n hx hb dX1_get_11 rfl (lv_at hl 1 rfl) ?_
  refine gz_iald (k := i) hx hb hK hP 5 0 rfl rfl (by omega) (by omega) dX1_get_12 ?_
  refine lv_goto (tgt := 17) hx hb dX1_get_13 (by decide) ?_
  exact W.iret (v := fv i) hx hb hr (fun t ht hW => ⟨rfl, ht⟩) (fun q h => absurd h List.not_mem_nil) dX1_get_17
set_option maxHeartbeats 4000000 in
set_option maxRecDepth 100000 in
theorem cM_get_bad (l : Launch) (dC : Nat → ClassId) (dI : Nat → Nat → Nat) (cA cZ : ClassId) (gm ak ac ab al av ah ap : Nat) (fk fc fs fl fp fv ft : Nat → Int32) (rn cn : Nat) (sc : Int32) (x : Int32) (hrn : 1 ≤ rn ∧ rn ≤ 12) (hcn : 1 ≤ cn ∧ cn ≤ 12) (hx0 : ¬ (0 ≤ x.toInt ∧ x.toInt < 40)) : Met l yX1_get wsX1_get ({ frames := 1, cells := 0, slots := 0, locals := 20 }) (gPr (dC, dI) vwCl [(cA, .int), (cZ, .boolean)] [.ref gm, .int x] (mw cA cZ gm ak ac ab al av ah ap fk fc fs fl fp fv ft (nI rn) (nI cn) sc)) (QcRead (-1)) 0 0 (fun _ => False) := by
  refine Met.ofW (cc := cX1_get) (maxL := 2) (ret := (some .int)) (by decide) rfl ?_
  intro p e s m args below meth c s₁ B hml hv
  obtain ⟨rfl, hP, hK⟩ := hv
  have hx := B.exec
  have hb := B.bytes
  have hr := B.returns
  have hts := atoms_spec (ws := wsX1_get) B.pre
  have hown : s.vm.findClass RX1 = some m.cls := findClass_of_methodNamed B.named
  have hlocks := B.notSynchronized
  have hin1 : ∀ w ∈ u_ws RX1 TX1 10, w ∈ wsX1_get := by decide +kernel
  have lk23 := hts (.fieldLink RX1 23 "LadderGridModel" "values" "[I") (by decide +kernel)
  have hl := lv_entry ([.ref gm, .int x]) (n := 2) (Nat.le_of_ble_eq_true rfl)
  rw [lg_entry_eq]
  generalize (lg_sl ([.ref gm, .int x]) ++ List.replicate (2 - (lg_sl ([.ref gm, .int x])).length) Slot.unset).toArray = ls at hl ⊢
  have hl : lv_has ls 2 [(0, .ref gm), (1, .int (x))] := hl
  refine lv_iload_n hx hb dX1_get_0 rfl (lv_at hl 1 rfl) ?_
  refine gz_callR (W.runS (As := [.int (x)]) (rest := []) ⟨hx, hb, hml, hown, hts⟩ (cM_isVariable l x) (va_cwS 1 hts gX1_get_X1_isVariable rfl rfl rfl (by decide +kernel) ⟨Nat.le_of_ble_eq_true rfl, Nat.le_of_ble_eq_true rfl⟩) preEq rfl rfl hl.1 rfl (lv_room (Nat.le_of_ble_eq_true rfl)) dX1_get_1 ⟨Nat.le_of_ble_eq_true rfl, Nat.le_of_ble_eq_true rfl⟩) ?_
  refine gz_ifeqB (tgt := 16) hx hb dX1_get_4 (by decide) (fun c_1 => ?_) (fun c_1 => False.elim (hx0 c_1))
  refine lv_iconst (v := (-1)) hx hb dX1_get_16 (by decide) ?_
  exact W.iret (v := (-1)) hx hb hr (fun t ht hW => ⟨rfl, ht⟩) (fun q h => absurd h List.not_mem_nil) dX1_get_17
set_option maxHeartbeats 4000000 in
set_option maxRecDepth 100000 in
theorem cM_set (l : Launch) (dC : Nat → ClassId) (dI : Nat → Nat → Nat) (sz : Nat) (cA cZ : ClassId) (gm ak ac ab al av ah ap : Nat) (fk fc fs fl fp fv ft : Nat → Int32) (rn cn : Nat) (sc : Int32) (i v : Nat) (hrn : 1 ≤ rn ∧ rn ≤ 12) (hcn : 1 ≤ cn ∧ cn ≤ 12) (hi : i < 40) (hv : v ≤ 1) : Met l yX1_set wsX1_set ({ frames := 1, cells := 0, slots := 0, locals := 20 }) (gPw (dC, dI) vwCl [(cA, .int), (cZ, .boolean)] [.ref gm, .int (nI i), .int (nI v)] sz (mw cA cZ gm ak ac ab al av ah ap fk fc fs fl fp fv ft (nI rn) (nI cn) sc)) (gQA (dC, dI) vwCl [(cA, .int), (cZ, .boolean)] (fv i) (va_A (mw cA cZ gm ak ac ab al av ah ap fk fc fs fl fp fv ft (nI rn) (nI cn) sc) sz) (mw cA cZ gm ak ac ab al av ah ap fk fc fs fl fp (upd fv i (nI v)) ft (nI rn) (nI cn) sc)) 0 0 (va_A (mw cA cZ gm ak ac ab al av ah ap fk fc fs fl fp fv ft (nI rn) (nI cn) sc) sz) := by
  refine Met.ofW (cc := cX1_set) (maxL := 4) (ret := (some .int)) (by decide) rfl ?_
  intro p e s m args below meth c s₁ B hml hv
  obtain ⟨rfl, hsz, hP, hK, hD0⟩ := hv
  have hx := B.exec
  have hb := B.bytes
  have hr := B.returns
  have hts := atoms_spec (ws := wsX1_set) B.pre
  have hown : s.vm.findClass RX1 = some m.cls := findClass_of_methodNamed B.named
  have hlocks := B.notSynchronized
  subst hsz
  have hD := hD0.self (sz := s.heap.size)
  generalize hAe : va_A (mw cA cZ gm ak ac ab al av ah ap fk fc fs fl fp fv ft (nI rn) (nI cn) sc) s.heap.size = A at hD ⊢
  have hA : ∀ q : Nat, s.heap.size ≤ q → A q := fun q h => by rw [← hAe]; exact Or.inr h
  have hS : va_S A s.heap s.heap [] := va_S.rf
  have hin1 : ∀ w ∈ u_ws RX1 TX1 10, w ∈ wsX1_set := by decide +kernel
  have lk23 := hts (.fieldLink RX1 23 "LadderGridModel" "values" "[I") (by decide +kernel)
  have hl := lv_entry ([.ref gm, .int (nI i), .int (nI v)]) (n := 4) (Nat.le_of_ble_eq_true rfl)
  rw [lg_entry_eq]
  generalize (lg_sl ([.ref gm, .int (nI i), .int (nI v)]) ++ List.replicate (4 - (lg_sl ([.ref gm, .int (nI i), .int (nI v)])).length) Slot.unset).toArray = ls at hl ⊢
  have hl : lv_has ls 4 [(0, .ref gm), (1, .int (nI i)), (2, .int (nI v))] := hl
  have zi := nI_toInt (n := i) (by omega)
  suffices key : ∀ (H : Heap) (locs : List Loc), va_P (dC, dI) vwCl (mw cA cZ gm ak ac ab al av ah ap fk fc fs fl fp fv ft (nI rn) (nI cn) sc) H → va_D A (mw cA cZ gm ak ac ab al av ah ap fk fc fs fl fp fv ft (nI rn) (nI cn) sc) → va_S A s.heap H locs → W p l e (headSpec wsX1_set ({ frames := 1, cells := 0, slots := 0, locals := 20 })).room s m ([.ref gm, .int (nI i), .int (nI v)] : List Value).toArray below meth c H locs 0 0 (MQ below (gQA (dC, dI) vwCl [(cA, .int), (cZ, .boolean)] (fv i) A (mw cA cZ gm ak ac ab al av ah ap fk fc fs fl fp (upd fv i (nI v)) ft (nI rn) (nI cn) sc)) ([.ref gm, .int (nI i), .int (nI v)] : List Value).toArray s 0 0 A) (F0 m 0 ls []) from key s.heap [] hP hD hS
  clear hP hD hS
  intro H locs hP hD hS
  refine lv_iload_n hx hb dX1_set_0 rfl (lv_at hl 1 rfl) ?_
  refine gz_callR (W.runS (As := [.int (nI i)]) (rest := []) ⟨hx, hb, hml, hown, hts⟩ (cM_isVariable l (nI i)) (va_cwS 1 hts gX1_set_X1_isVariable rfl rfl rfl (by decide +kernel) ⟨Nat.le_of_ble_eq_true rfl, Nat.le_of_ble_eq_true rfl⟩) preEq rfl rfl hl.1 rfl (lv_room (Nat.le_of_ble_eq_true rfl)) dX1_set_1 ⟨Nat.le_of_ble_eq_true rfl, Nat.le_of_ble_eq_true rfl⟩) ?_
  refine gz_ifeqB (tgt := 16) hx hb dX1_set_4 (by decide) (fun c_1 => False.elim (by omega)) (fun c_1 => ?_)
  refine lv_iload_n hx hb dX1_set_7 rfl (lv_at hl 2 rfl) ?_
  refine gz_if_lt (tgt := 16) (za := ((v : Nat) : Int)) hx hb dX1_set_8 (by decide) (nI_toInt (by omega)) (fun c_2 => False.elim (by omega)) (fun c_2 => ?_)
  refine lv_iload_n hx hb dX1_set_11 rfl (lv_at hl 2 rfl) ?_
  refine lv_iconst (v := nI 1) hx hb dX1_set_12 (by decide) ?_
  refine gz_icmp_le (tgt := 18) (za := ((v : Nat) : Int)) (zb := ((1 : Nat) : Int)) hx hb dX1_set_13 (by decide) (nI_toInt (by omega)) (nI_toInt (by omega)) (fun c_3 => ?_) (fun c_3 => False.elim (by omega))
  refine lv_aload_n hx hb dX1_set_18 rfl (lv_at hl 0 rfl) ?_
  refine va_get (D := (dC, dI)) (ci := 1) (v := .ref av) (C := RX1) (T := TX1) (N := 10) hx hb hts hin1 hown hK hP 0 rfl rfl 6 (by decide) lk23 (fun _ h9 => h9) rfl dX1_set_19 ?_
  refine lv_iload_n hx hb dX1_set_22 rfl (lv_at hl 1 rfl) ?_
  refine gz_iald (k := i) hx hb hK hP 5 0 rfl rfl (by omega) (by omega) dX1_set_23 ?_
  refine lv_istore_n (lv' := [(3, .int (fv i)), (0, .ref gm), (1, .int (nI i)), (2, .int (nI v))]) hx hb dX1_set_24 rfl hl (by decide) rfl (fun ls hl => ?_)
  refine lv_aload_n hx hb dX1_set_25 rfl (lv_at hl 1 rfl) ?_
  refine va_get (D := (dC, dI)) (ci := 1) (v := .ref av) (C := RX1) (T := TX1) (N := 10) hx hb hts hin1 hown hK hP 0 rfl rfl 6 (by decide) lk23 (fun _ h9 => h9) rfl dX1_set_26 ?_
  refine lv_iload_n hx hb dX1_set_29 rfl (lv_at hl 2 rfl) ?_
  refine lv_iload_n hx hb dX1_set_30 rfl (lv_at hl 3 rfl) ?_
  refine gz_iast (k := i) hx hb hK hP hD hS 5 0 rfl rfl (by omega) (by omega) dX1_set_31 (fun H locs hP hD hS => ?_)
  have hP : va_P (dC, dI) vwCl (mw cA cZ gm ak ac ab al av ah ap fk fc fs fl fp (upd fv i (nI v)) ft (nI rn) (nI cn) sc) H := hP
  have hD : va_D A (mw cA cZ gm ak ac ab al av ah ap fk fc fs fl fp (upd fv i (nI v)) ft (nI rn) (nI cn) sc) := hD
  refine lv_iload_n hx hb dX1_set_32 rfl (lv_at hl 0 rfl) ?_
  exact W.iret (v := fv i) hx hb hr (fun t ht hW => ⟨⟨fv i, (), rfl, rfl, by rw [ht]; exact hP, va_K.moved hW.alike hK, hD⟩, hS.F ht⟩) hS.2.2 dX1_set_33
set_option maxHeartbeats 4000000 in
set_option maxRecDepth 100000 in
theorem cM_set_bad (l : Launch) (dC : Nat → ClassId) (dI : Nat → Nat → Nat) (cA cZ : ClassId) (gm ak ac ab al av ah ap : Nat) (fk fc fs fl fp fv ft : Nat → Int32) (rn cn : Nat) (sc : Int32) (x y : Int32) (hrn : 1 ≤ rn ∧ rn ≤ 12) (hcn : 1 ≤ cn ∧ cn ≤ 12) (hx0 : ¬ (0 ≤ x.toInt ∧ x.toInt < 40 ∧ 0 ≤ y.toInt ∧ y.toInt ≤ 1)) : Met l yX1_set wsX1_set ({ frames := 1, cells := 0, slots := 0, locals := 20 }) (gPr (dC, dI) vwCl [(cA, .int), (cZ, .boolean)] [.ref gm, .int x, .int y] (mw cA cZ gm ak ac ab al av ah ap fk fc fs fl fp fv ft (nI rn) (nI cn) sc)) (QcRead (-1)) 0 0 (fun _ => False) := by
  refine Met.ofW (cc := cX1_set) (maxL := 4) (ret := (some .int)) (by decide) rfl ?_
  intro p e s m args below meth c s₁ B hml hv
  obtain ⟨rfl, hP, hK⟩ := hv
  have hx := B.exec
  have hb := B.bytes
  have hr := B.returns
  have hts := atoms_spec (ws := wsX1_set) B.pre
  have hown : s.vm.findClass RX1 = some m.cls := findClass_of_methodNamed B.named
  have hlocks := B.notSynchronized
  have hin1 : ∀ w ∈ u_ws RX1 TX1 10, w ∈ wsX1_set := by decide +kernel
  have lk23 := hts (.fieldLink RX1 23 "LadderGridModel" "values" "[I") (by decide +kernel)
  have hl := lv_entry ([.ref gm, .int x, .int y]) (n := 4) (Nat.le_of_ble_eq_true rfl)
  rw [lg_entry_eq]
  generalize (lg_sl ([.ref gm, .int x, .int y]) ++ List.replicate (4 - (lg_sl ([.ref gm, .int x, .int y])).length) Slot.unset).toArray = ls at hl ⊢
  have hl : lv_has ls 4 [(0, .ref gm), (1, .int (x)), (2, .int (y))] := hl
  refine lv_iload_n hx hb dX1_set_0 rfl (lv_at hl 1 rfl) ?_
  refine gz_callR (W.runS (As := [.int (x)]) (rest := []) ⟨hx, hb, hml, hown, hts⟩ (cM_isVariable l x) (va_cwS 1 hts gX1_set_X1_isVariable rfl rfl rfl (by decide +kernel) ⟨Nat.le_of_ble_eq_true rfl, Nat.le_of_ble_eq_true rfl⟩) preEq rfl rfl hl.1 rfl (lv_room (Nat.le_of_ble_eq_true rfl)) dX1_set_1 ⟨Nat.le_of_ble_eq_true rfl, Nat.le_of_ble_eq_true rfl⟩) ?_
  refine gz_ifeqB (tgt := 16) hx hb dX1_set_4 (by decide) (fun c_1 => ?_) (fun c_1 => ?_)
  · skip
    refine lv_iconst (v := (-1)) hx hb dX1_set_16 (by decide) ?_
    exact W.iret (v := (-1)) hx hb hr (fun t ht hW => ⟨rfl, ht⟩) (fun q h => absurd h List.not_mem_nil) dX1_set_17
  · skip
    refine lv_iload_n hx hb dX1_set_7 rfl (lv_at hl 2 rfl) ?_
    refine gz_if_lt (tgt := 16) (za := y.toInt) hx hb dX1_set_8 (by decide) rfl (fun c_2 => ?_) (fun c_2 => ?_)
    · skip
      refine lv_iconst (v := (-1)) hx hb dX1_set_16 (by decide) ?_
      exact W.iret (v := (-1)) hx hb hr (fun t ht hW => ⟨rfl, ht⟩) (fun q h => absurd h List.not_mem_nil) dX1_set_17
    · skip
      refine lv_iload_n hx hb dX1_set_11 rfl (lv_at hl 2 rfl) ?_
      refine lv_iconst (v := nI 1) hx hb dX1_set_12 (by decide) ?_
      refine gz_icmp_le (tgt := 18) (za := y.toInt) (zb := ((1 : Nat) : Int)) hx hb dX1_set_13 (by decide) rfl (nI_toInt (by omega)) (fun c_3 => False.elim (by omega)) (fun c_3 => ?_)
      refine lv_iconst (v := (-1)) hx hb dX1_set_16 (by decide) ?_
      exact W.iret (v := (-1)) hx hb hr (fun t ht hW => ⟨rfl, ht⟩) (fun q h => absurd h List.not_mem_nil) dX1_set_17
set_option maxHeartbeats 4000000 in
set_option maxRecDepth 100000 in
theorem cM_begin_bad (l : Launch) (dC : Nat → ClassId) (dI : Nat → Nat → Nat) (cA cZ : ClassId) (gm ak ac ab al av ah ap : Nat) (fk fc fs fl fp fv ft : Nat → Int32) (rn cn : Nat) (sc : Int32) (x y : Int32) (hrn : 1 ≤ rn ∧ rn ≤ 12) (hcn : 1 ≤ cn ∧ cn ≤ 12) (hx0 : ¬ (1 ≤ x.toInt ∧ x.toInt ≤ 12 ∧ 1 ≤ y.toInt ∧ y.toInt ≤ 12)) : Met l yX1_begin wsX1_begin ({ frames := 0, cells := 0, slots := 0, locals := 0 }) (gPr (dC, dI) vwCl [(cA, .int), (cZ, .boolean)] [.ref gm, .int x, .int y] (mw cA cZ gm ak ac ab al av ah ap fk fc fs fl fp fv ft (nI rn) (nI cn) sc)) (QcRead (-1)) 0 0 (fun _ => False) := by
  refine Met.ofW (cc := cX1_begin) (maxL := 4) (ret := (some .int)) (by decide) rfl ?_
  intro p e s m args below meth c s₁ B hml hv
  obtain ⟨rfl, hP, hK⟩ := hv
  have hx := B.exec
  have hb := B.bytes
  have hr := B.returns
  have hts := atoms_spec (ws := wsX1_begin) B.pre
  have hown : s.vm.findClass RX1 = some m.cls := findClass_of_methodNamed B.named
  have hlocks := B.notSynchronized
  have hin1 : ∀ w ∈ u_ws RX1 TX1 10, w ∈ wsX1_begin := by decide +kernel
  have lk36 := hts (.fieldLink RX1 36 "LadderGridModel" "rows" "I") (by decide +kernel)
  have lk40 := hts (.fieldLink RX1 40 "LadderGridModel" "columns" "I") (by decide +kernel)
  have lk7 := hts (.fieldLink RX1 7 "LadderGridModel" "kinds" "[I") (by decide +kernel)
  have lk13 := hts (.fieldLink RX1 13 "LadderGridModel" "variables" "[I") (by decide +kernel)
  have lk16 := hts (.fieldLink RX1 16 "LadderGridModel" "before" "[I") (by decide +kernel)
  have lk19 := hts (.fieldLink RX1 19 "LadderGridModel" "isLinked" "[Z") (by decide +kernel)
  have lk43 := hts (.fieldLink RX1 43 "LadderGridModel" "isScanned" "Z") (by decide +kernel)
  have hl := lv_entry ([.ref gm, .int x, .int y]) (n := 4) (Nat.le_of_ble_eq_true rfl)
  rw [lg_entry_eq]
  generalize (lg_sl ([.ref gm, .int x, .int y]) ++ List.replicate (4 - (lg_sl ([.ref gm, .int x, .int y])).length) Slot.unset).toArray = ls at hl ⊢
  have hl : lv_has ls 4 [(0, .ref gm), (1, .int (x)), (2, .int (y))] := hl
  refine lv_iload_n hx hb dX1_begin_0 rfl (lv_at hl 1 rfl) ?_
  refine lv_iconst (v := nI 1) hx hb dX1_begin_1 (by decide) ?_
  refine gz_icmp_lt (tgt := 22) (za := x.toInt) (zb := ((1 : Nat) : Int)) hx hb dX1_begin_2 (by decide) rfl (nI_toInt (by omega)) (fun c_1 => ?_) (fun c_1 => ?_)
  · skip
    refine lv_iconst (v := (-1)) hx hb dX1_begin_22 (by decide) ?_
    exact W.iret (v := (-1)) hx hb hr (fun t ht hW => ⟨rfl, ht⟩) (fun q h => absurd h List.not_mem_nil) dX1_begin_23
  · skip
    refine lv_iload_n hx hb dX1_begin_5 rfl (lv_at hl 1 rfl) ?_
    refine lv_bipush (v := nI 12) hx hb dX1_begin_6 (by decide) ?_
    refine gz_icmp_gt (tgt := 22) (za := x.toInt) (zb := ((12 : Nat) : Int)) hx hb dX1_begin_8 (by decide) rfl (nI_toInt (by omega)) (fun c_2 => ?_) (fun c_2 => ?_)
    · skip
      refine lv_iconst (v := (-1)) hx hb dX1_begin_22 (by decide) ?_
      exact W.iret (v := (-1)) hx hb hr (fun t ht hW => ⟨rfl, ht⟩) (fun q h => absurd h List.not_mem_nil) dX1_begin_23
    · skip
      refine lv_iload_n hx hb dX1_begin_11 rfl (lv_at hl 2 rfl) ?_
      refine lv_iconst (v := nI 1) hx hb dX1_begin_12 (by decide) ?_
      refine gz_icmp_lt (tgt := 22) (za := y.toInt) (zb := ((1 : Nat) : Int)) hx hb dX1_begin_13 (by decide) rfl (nI_toInt (by omega)) (fun c_3 => ?_) (fun c_3 => ?_)
      · skip
        refine lv_iconst (v := (-1)) hx hb dX1_begin_22 (by decide) ?_
        exact W.iret (v := (-1)) hx hb hr (fun t ht hW => ⟨rfl, ht⟩) (fun q h => absurd h List.not_mem_nil) dX1_begin_23
      · skip
        refine lv_iload_n hx hb dX1_begin_16 rfl (lv_at hl 2 rfl) ?_
        refine lv_bipush (v := nI 12) hx hb dX1_begin_17 (by decide) ?_
        refine gz_icmp_le (tgt := 24) (za := y.toInt) (zb := ((12 : Nat) : Int)) hx hb dX1_begin_19 (by decide) rfl (nI_toInt (by omega)) (fun c_4 => False.elim (by omega)) (fun c_4 => ?_)
        refine lv_iconst (v := (-1)) hx hb dX1_begin_22 (by decide) ?_
        exact W.iret (v := (-1)) hx hb hr (fun t ht hW => ⟨rfl, ht⟩) (fun q h => absurd h List.not_mem_nil) dX1_begin_23
set_option maxHeartbeats 4000000 in
set_option maxRecDepth 100000 in
theorem cM_begin (l : Launch) (dC : Nat → ClassId) (dI : Nat → Nat → Nat) (sz : Nat) (cA cZ : ClassId) (gm ak ac ab al av ah ap : Nat) (fk fc fs fl fp fv ft : Nat → Int32) (r0 c0 sc : Int32) (rn cn : Nat) (hi : 1 ≤ rn ∧ rn ≤ 12) (hj : 1 ≤ cn ∧ cn ≤ 12) : Met l yX1_begin wsX1_begin ({ frames := 0, cells := 0, slots := 0, locals := 0 }) (gPw (dC, dI) vwCl [(cA, .int), (cZ, .boolean)] [.ref gm, .int (nI rn), .int (nI cn)] sz (mw cA cZ gm ak ac ab al av ah ap fk fc fs fl fp fv ft r0 c0 sc)) (gQA (dC, dI) vwCl [(cA, .int), (cZ, .boolean)] (nI 0) (va_A (mw cA cZ gm ak ac ab al av ah ap fk fc fs fl fp fv ft r0 c0 sc) sz) (mw cA cZ gm ak ac ab al av ah ap (fun _ => nI 0) (fun _ => nI 0) (fun _ => nI 0) (fun _ => nI 0) fp fv ft (nI rn) (nI cn) (nI 0))) 0 0 (va_A (mw cA cZ gm ak ac ab al av ah ap fk fc fs fl fp fv ft r0 c0 sc) sz) := by
  refine Met.ofW (cc := cX1_begin) (maxL := 4) (ret := (some .int)) (by decide) rfl ?_
  intro p e s m args below meth c s₁ B hml hv
  obtain ⟨rfl, hsz, hP, hK, hD0⟩ := hv
  have hx := B.exec
  have hb := B.bytes
  have hr := B.returns
  have hts := atoms_spec (ws := wsX1_begin) B.pre
  have hown : s.vm.findClass RX1 = some m.cls := findClass_of_methodNamed B.named
  have hlocks := B.notSynchronized
  subst hsz
  have hD := hD0.self (sz := s.heap.size)
  generalize hAe : va_A (mw cA cZ gm ak ac ab al av ah ap fk fc fs fl fp fv ft r0 c0 sc) s.heap.size = A at hD ⊢
  have hA : ∀ q : Nat, s.heap.size ≤ q → A q := fun q h => by rw [← hAe]; exact Or.inr h
  have hS : va_S A s.heap s.heap [] := va_S.rf
  have hin1 : ∀ w ∈ u_ws RX1 TX1 10, w ∈ wsX1_begin := by decide +kernel
  have lk36 := hts (.fieldLink RX1 36 "LadderGridModel" "rows" "I") (by decide +kernel)
  have lk40 := hts (.fieldLink RX1 40 "LadderGridModel" "columns" "I") (by decide +kernel)
  have lk7 := hts (.fieldLink RX1 7 "LadderGridModel" "kinds" "[I") (by decide +kernel)
  have lk13 := hts (.fieldLink RX1 13 "LadderGridModel" "variables" "[I") (by decide +kernel)
  have lk16 := hts (.fieldLink RX1 16 "LadderGridModel" "before" "[I") (by decide +kernel)
  have lk19 := hts (.fieldLink RX1 19 "LadderGridModel" "isLinked" "[Z") (by decide +kernel)
  have lk43 := hts (.fieldLink RX1 43 "LadderGridModel" "isScanned" "Z") (by decide +kernel)
  have hl := lv_entry ([.ref gm, .int (nI rn), .int (nI cn)]) (n := 4) (Nat.le_of_ble_eq_true rfl)
  rw [lg_entry_eq]
  generalize (lg_sl ([.ref gm, .int (nI rn), .int (nI cn)]) ++ List.replicate (4 - (lg_sl ([.ref gm, .int (nI rn), .int (nI cn)])).length) Slot.unset).toArray = ls at hl ⊢
  have hl : lv_has ls 4 [(0, .ref gm), (1, .int (nI rn)), (2, .int (nI cn))] := hl
  suffices key : ∀ (H : Heap) (locs : List Loc), va_P (dC, dI) vwCl (mw cA cZ gm ak ac ab al av ah ap fk fc fs fl fp fv ft r0 c0 sc) H → va_D A (mw cA cZ gm ak ac ab al av ah ap fk fc fs fl fp fv ft r0 c0 sc) → va_S A s.heap H locs → W p l e (headSpec wsX1_begin ({ frames := 0, cells := 0, slots := 0, locals := 0 })).room s m ([.ref gm, .int (nI rn), .int (nI cn)] : List Value).toArray below meth c H locs 0 0 (MQ below (gQA (dC, dI) vwCl [(cA, .int), (cZ, .boolean)] (nI 0) A (mw cA cZ gm ak ac ab al av ah ap (fun _ => nI 0) (fun _ => nI 0) (fun _ => nI 0) (fun _ => nI 0) fp fv ft (nI rn) (nI cn) (nI 0))) ([.ref gm, .int (nI rn), .int (nI cn)] : List Value).toArray s 0 0 A) (F0 m 0 ls []) from key s.heap [] hP hD hS
  clear hP hD hS
  intro H locs hP hD hS
  have loop2 : ∀ (n : Nat) (k : Nat), k + n = 156 → ∀ (H : Heap) (locs : List Loc), va_P (dC, dI) vwCl (mw cA cZ gm ak ac ab al av ah ap (fun _ => nI 0) (fun _ => nI 0) (fun _ => nI 0) (gFill fl (nI 0) k) fp fv ft (nI rn) (nI cn) sc) H → va_D A (mw cA cZ gm ak ac ab al av ah ap (fun _ => nI 0) (fun _ => nI 0) (fun _ => nI 0) (gFill fl (nI 0) k) fp fv ft (nI rn) (nI cn) sc) → va_S A s.heap H locs → ∀ (ls : Array Slot), lv_has ls 4 [(3, .int (nI k)), (0, .ref gm), (1, .int (nI rn)), (2, .int (nI cn))] → W p l e (headSpec wsX1_begin ({ frames := 0, cells := 0, slots := 0, locals := 0 })).room s m ([.ref gm, .int (nI rn), .int (nI cn)] : List Value).toArray below meth c H locs 0 0 (MQ below (gQA (dC, dI) vwCl [(cA, .int), (cZ, .boolean)] (nI 0) A (mw cA cZ gm ak ac ab al av ah ap (fun _ => nI 0) (fun _ => nI 0) (fun _ => nI 0) (fun _ => nI 0) fp fv ft (nI rn) (nI cn) (nI 0))) ([.ref gm, .int (nI rn), .int (nI cn)] : List Value).toArray s 0 0 A) (F0 m 72 ls []) := by
    intro n
    induction n with
    | zero =>
      intro k hk H locs hP hD hS ls hl
      refine lv_iload_n hx hb dX1_begin_72 rfl (lv_at hl 0 rfl) ?_
      refine lv_sipush (v := nI 156) hx hb dX1_begin_73 (by decide) ?_
      refine gz_icmp_ge (tgt := 92) (za := ((k : Nat) : Int)) (zb := ((156 : Nat) : Int)) hx hb dX1_begin_76 (by decide) (nI_toInt (by omega)) (nI_toInt (by omega)) (fun c_1 => ?_) (fun c_1 => False.elim (by omega))
      have hP : va_P (dC, dI) vwCl (mw cA cZ gm ak ac ab al av ah ap (fun _ => nI 0) (fun _ => nI 0) (fun _ => nI 0) (fun _ => nI 0) fp fv ft (nI rn) (nI cn) sc) H := gz_setext hP 4 rfl (fun j hj => gFill_in fl (nI 0) k j (by omega))
      have hD : va_D A (mw cA cZ gm ak ac ab al av ah ap (fun _ => nI 0) (fun _ => nI 0) (fun _ => nI 0) (fun _ => nI 0) fp fv ft (nI rn) (nI cn) sc) := va_D.set (p := 4) hD rfl
      refine lv_aload_n hx hb dX1_begin_92 rfl (lv_at hl 1 rfl) ?_
      refine lv_iconst (v := nI 0) hx hb dX1_begin_93 (by decide) ?_
      refine va_put (D := (dC, dI)) (ci := 1) (v := .int (nI 0)) (ty := .boolean) (C := RX1) (T := TX1) (N := 10) hx hb hts hin1 tyX1 tyX1_ok nmX1 hown hK hP hD hS 0 rfl rfl 9 (by decide) lk43 (fun _ h9 => h9) rfl (by decide +kernel) rfl rfl (Nat.le_of_ble_eq_true rfl) dX1_begin_94 (fun H locs hP hD hS => ?_)
      have hP : va_P (dC, dI) vwCl (mw cA cZ gm ak ac ab al av ah ap (fun _ => nI 0) (fun _ => nI 0) (fun _ => nI 0) (fun _ => nI 0) fp fv ft (nI rn) (nI cn) (nI 0)) H := hP
      have hD : va_D A (mw cA cZ gm ak ac ab al av ah ap (fun _ => nI 0) (fun _ => nI 0) (fun _ => nI 0) (fun _ => nI 0) fp fv ft (nI rn) (nI cn) (nI 0)) := hD
      refine lv_iconst (v := nI 0) hx hb dX1_begin_97 (by decide) ?_
      exact W.iret (v := nI 0) hx hb hr (fun t ht hW => ⟨⟨nI 0, (), rfl, rfl, by rw [ht]; exact hP, va_K.moved hW.alike hK, hD⟩, hS.F ht⟩) hS.2.2 dX1_begin_98
    | succ n ih =>
      intro k hk H locs hP hD hS ls hl
      refine lv_iload_n hx hb dX1_begin_72 rfl (lv_at hl 0 rfl) ?_
      refine lv_sipush (v := nI 156) hx hb dX1_begin_73 (by decide) ?_
      refine gz_icmp_ge (tgt := 92) (za := ((k : Nat) : Int)) (zb := ((156 : Nat) : Int)) hx hb dX1_begin_76 (by decide) (nI_toInt (by omega)) (nI_toInt (by omega)) (fun c_1 => False.elim (by omega)) (fun c_1 => ?_)
      refine lv_aload_n hx hb dX1_begin_79 rfl (lv_at hl 1 rfl) ?_
      refine va_get (D := (dC, dI)) (ci := 1) (v := .ref al) (C := RX1) (T := TX1) (N := 10) hx hb hts hin1 hown hK hP 0 rfl rfl 5 (by decide) lk19 (fun _ h9 => h9) rfl dX1_begin_80 ?_
      refine lv_iload_n hx hb dX1_begin_83 rfl (lv_at hl 0 rfl) ?_
      refine lv_iconst (v := nI 0) hx hb dX1_begin_84 (by decide) ?_
      refine gz_zast (k := k) hx hb hK hP hD hS 4 1 rfl rfl gz_nar0 (by omega) (by omega) dX1_begin_85 (fun H locs hP hD hS => ?_)
      have hP : va_P (dC, dI) vwCl (mw cA cZ gm ak ac ab al av ah ap (fun _ => nI 0) (fun _ => nI 0) (fun _ => nI 0) (upd (gFill fl (nI 0) k) k (nI 0)) fp fv ft (nI rn) (nI cn) sc) H := hP
      have hD : va_D A (mw cA cZ gm ak ac ab al av ah ap (fun _ => nI 0) (fun _ => nI 0) (fun _ => nI 0) (upd (gFill fl (nI 0) k) k (nI 0)) fp fv ft (nI rn) (nI cn) sc) := hD
      refine lv_iinc (v := nI (k + 1)) (lv' := [(3, .int (nI (k + 1))), (0, .ref gm), (1, .int (nI rn)), (2, .int (nI cn))]) hx hb dX1_begin_86 hl (k := 0) rfl (nI_1 _) (by decide) rfl (fun ls hl => ?_)
      refine lv_goto (tgt := 72) hx hb dX1_begin_89 (by decide) ?_
      exact ih (k + 1) (by omega) H locs hP hD hS ls (lv_sub hl [0, 1, 2, 3] rfl)
  have loop1 : ∀ (n : Nat) (k : Nat), k + n = 144 → ∀ (H : Heap) (locs : List Loc), va_P (dC, dI) vwCl (mw cA cZ gm ak ac ab al av ah ap (gFill fk (nI 0) k) (gFill fc (nI 0) k) (gFill fs (nI 0) k) fl fp fv ft (nI rn) (nI cn) sc) H → va_D A (mw cA cZ gm ak ac ab al av ah ap (gFill fk (nI 0) k) (gFill fc (nI 0) k) (gFill fs (nI 0) k) fl fp fv ft (nI rn) (nI cn) sc) → va_S A s.heap H locs → ∀ (ls : Array Slot), lv_has ls 4 [(3, .int (nI k)), (0, .ref gm), (1, .int (nI rn)), (2, .int (nI cn))] → W p l e (headSpec wsX1_begin ({ frames := 0, cells := 0, slots := 0, locals := 0 })).room s m ([.ref gm, .int (nI rn), .int (nI cn)] : List Value).toArray below meth c H locs 0 0 (MQ below (gQA (dC, dI) vwCl [(cA, .int), (cZ, .boolean)] (nI 0) A (mw cA cZ gm ak ac ab al av ah ap (fun _ => nI 0) (fun _ => nI 0) (fun _ => nI 0) (fun _ => nI 0) fp fv ft (nI rn) (nI cn) (nI 0))) ([.ref gm, .int (nI rn), .int (nI cn)] : List Value).toArray s 0 0 A) (F0 m 36 ls []) := by
    intro n
    induction n with
    | zero =>
      intro k hk H locs hP hD hS ls hl
      refine lv_iload_n hx hb dX1_begin_36 rfl (lv_at hl 0 rfl) ?_
      refine lv_sipush (v := nI 144) hx hb dX1_begin_37 (by decide) ?_
      refine gz_icmp_ge (tgt := 70) (za := ((k : Nat) : Int)) (zb := ((144 : Nat) : Int)) hx hb dX1_begin_40 (by decide) (nI_toInt (by omega)) (nI_toInt (by omega)) (fun c_1 => ?_) (fun c_1 => False.elim (by omega))
      have hP : va_P (dC, dI) vwCl (mw cA cZ gm ak ac ab al av ah ap (fun _ => nI 0) (gFill fc (nI 0) k) (gFill fs (nI 0) k) fl fp fv ft (nI rn) (nI cn) sc) H := gz_setext hP 1 rfl (fun j hj => gFill_in fk (nI 0) k j (by omega))
      have hD : va_D A (mw cA cZ gm ak ac ab al av ah ap (fun _ => nI 0) (gFill fc (nI 0) k) (gFill fs (nI 0) k) fl fp fv ft (nI rn) (nI cn) sc) := va_D.set (p := 1) hD rfl
      have hP : va_P (dC, dI) vwCl (mw cA cZ gm ak ac ab al av ah ap (fun _ => nI 0) (fun _ => nI 0) (gFill fs (nI 0) k) fl fp fv ft (nI rn) (nI cn) sc) H := gz_setext hP 2 rfl (fun j hj => gFill_in fc (nI 0) k j (by omega))
      have hD : va_D A (mw cA cZ gm ak ac ab al av ah ap (fun _ => nI 0) (fun _ => nI 0) (gFill fs (nI 0) k) fl fp fv ft (nI rn) (nI cn) sc) := va_D.set (p := 2) hD rfl
      have hP : va_P (dC, dI) vwCl (mw cA cZ gm ak ac ab al av ah ap (fun _ => nI 0) (fun _ => nI 0) (fun _ => nI 0) fl fp fv ft (nI rn) (nI cn) sc) H := gz_setext hP 3 rfl (fun j hj => gFill_in fs (nI 0) k j (by omega))
      have hD : va_D A (mw cA cZ gm ak ac ab al av ah ap (fun _ => nI 0) (fun _ => nI 0) (fun _ => nI 0) fl fp fv ft (nI rn) (nI cn) sc) := va_D.set (p := 3) hD rfl
      refine lv_iconst (v := nI 0) hx hb dX1_begin_70 (by decide) ?_
      refine lv_istore_n (lv' := [(3, .int (nI 0)), (0, .ref gm), (1, .int (nI rn)), (2, .int (nI cn))]) hx hb dX1_begin_71 rfl hl (by decide) rfl (fun ls hl => ?_)
      exact loop2 156 0 (by omega) H locs hP hD hS ls (lv_sub hl [0, 1, 2, 3] rfl)
    | succ n ih =>
      intro k hk H locs hP hD hS ls hl
      refine lv_iload_n hx hb dX1_begin_36 rfl (lv_at hl 0 rfl) ?_
      refine lv_sipush (v := nI 144) hx hb dX1_begin_37 (by decide) ?_
      refine gz_icmp_ge (tgt := 70) (za := ((k : Nat) : Int)) (zb := ((144 : Nat) : Int)) hx hb dX1_begin_40 (by decide) (nI_toInt (by omega)) (nI_toInt (by omega)) (fun c_1 => False.elim (by omega)) (fun c_1 => ?_)
      refine lv_aload_n hx hb dX1_begin_43 rfl (lv_at hl 1 rfl) ?_
      refine va_get (D := (dC, dI)) (ci := 1) (v := .ref ak) (C := RX1) (T := TX1) (N := 10) hx hb hts hin1 hown hK hP 0 rfl rfl 2 (by decide) lk7 (fun _ h9 => h9) rfl dX1_begin_44 ?_
      refine lv_iload_n hx hb dX1_begin_47 rfl (lv_at hl 0 rfl) ?_
      refine lv_iconst (v := nI 0) hx hb dX1_begin_48 (by decide) ?_
      refine gz_iast (k := k) hx hb hK hP hD hS 1 0 rfl rfl (by omega) (by omega) dX1_begin_49 (fun H locs hP hD hS => ?_)
      have hP : va_P (dC, dI) vwCl (mw cA cZ gm ak ac ab al av ah ap (upd (gFill fk (nI 0) k) k (nI 0)) (gFill fc (nI 0) k) (gFill fs (nI 0) k) fl fp fv ft (nI rn) (nI cn) sc) H := hP
      have hD : va_D A (mw cA cZ gm ak ac ab al av ah ap (upd (gFill fk (nI 0) k) k (nI 0)) (gFill fc (nI 0) k) (gFill fs (nI 0) k) fl fp fv ft (nI rn) (nI cn) sc) := hD
      refine lv_aload_n hx hb dX1_begin_50 rfl (lv_at hl 1 rfl) ?_
      refine va_get (D := (dC, dI)) (ci := 1) (v := .ref ac) (C := RX1) (T := TX1) (N := 10) hx hb hts hin1 hown hK hP 0 rfl rfl 3 (by decide) lk13 (fun _ h9 => h9) rfl dX1_begin_51 ?_
      refine lv_iload_n hx hb dX1_begin_54 rfl (lv_at hl 0 rfl) ?_
      refine lv_iconst (v := nI 0) hx hb dX1_begin_55 (by decide) ?_
      refine gz_iast (k := k) hx hb hK hP hD hS 2 0 rfl rfl (by omega) (by omega) dX1_begin_56 (fun H locs hP hD hS => ?_)
      have hP : va_P (dC, dI) vwCl (mw cA cZ gm ak ac ab al av ah ap (upd (gFill fk (nI 0) k) k (nI 0)) (upd (gFill fc (nI 0) k) k (nI 0)) (gFill fs (nI 0) k) fl fp fv ft (nI rn) (nI cn) sc) H := hP
      have hD : va_D A (mw cA cZ gm ak ac ab al av ah ap (upd (gFill fk (nI 0) k) k (nI 0)) (upd (gFill fc (nI 0) k) k (nI 0)) (gFill fs (nI 0) k) fl fp fv ft (nI rn) (nI cn) sc) := hD
      refine lv_aload_n hx hb dX1_begin_57 rfl (lv_at hl 1 rfl) ?_
      refine va_get (D := (dC, dI)) (ci := 1) (v := .ref ab) (C := RX1) (T := TX1) (N := 10) hx hb hts hin1 hown hK hP 0 rfl rfl 4 (by decide) lk16 (fun _ h9 => h9) rfl dX1_begin_58 ?_
      refine lv_iload_n hx hb dX1_begin_61 rfl (lv_at hl 0 rfl) ?_
      refine lv_iconst (v := nI 0) hx hb dX1_begin_62 (by decide) ?_
      refine gz_iast (k := k) hx hb hK hP hD hS 3 0 rfl rfl (by omega) (by omega) dX1_begin_63 (fun H locs hP hD hS => ?_)
      have hP : va_P (dC, dI) vwCl (mw cA cZ gm ak ac ab al av ah ap (upd (gFill fk (nI 0) k) k (nI 0)) (upd (gFill fc (nI 0) k) k (nI 0)) (upd (gFill fs (nI 0) k) k (nI 0)) fl fp fv ft (nI rn) (nI cn) sc) H := hP
      have hD : va_D A (mw cA cZ gm ak ac ab al av ah ap (upd (gFill fk (nI 0) k) k (nI 0)) (upd (gFill fc (nI 0) k) k (nI 0)) (upd (gFill fs (nI 0) k) k (nI 0)) fl fp fv ft (nI rn) (nI cn) sc) := hD
      refine lv_iinc (v := nI (k + 1)) (lv' := [(3, .int (nI (k + 1))), (0, .ref gm), (1, .int (nI rn)), (2, .int (nI cn))]) hx hb dX1_begin_64 hl (k := 0) rfl (nI_1 _) (by decide) rfl (fun ls hl => ?_)
      refine lv_goto (tgt := 36) hx hb dX1_begin_67 (by decide) ?_
      exact ih (k + 1) (by omega) H locs hP hD hS ls (lv_sub hl [0, 1, 2, 3] rfl)
  refine lv_iload_n hx hb dX1_begin_0 rfl (lv_at hl 1 rfl) ?_
  refine lv_iconst (v := nI 1) hx hb dX1_begin_1 (by decide) ?_
  refine gz_icmp_lt (tgt := 22) (za := ((rn : Nat) : Int)) (zb := ((1 : Nat) : Int)) hx hb dX1_begin_2 (by decide) (nI_toInt (by omega)) (nI_toInt (by omega)) (fun c_1 => False.elim (by omega)) (fun c_1 => ?_)
  refine lv_iload_n hx hb dX1_begin_5 rfl (lv_at hl 1 rfl) ?_
  refine lv_bipush (v := nI 12) hx hb dX1_begin_6 (by decide) ?_
  refine gz_icmp_gt (tgt := 22) (za := ((rn : Nat) : Int)) (zb := ((12 : Nat) : Int)) hx hb dX1_begin_8 (by decide) (nI_toInt (by omega)) (nI_toInt (by omega)) (fun c_2 => False.elim (by omega)) (fun c_2 => ?_)
  refine lv_iload_n hx hb dX1_begin_11 rfl (lv_at hl 2 rfl) ?_
  refine lv_iconst (v := nI 1) hx hb dX1_begin_12 (by decide) ?_
  refine gz_icmp_lt (tgt := 22) (za := ((cn : Nat) : Int)) (zb := ((1 : Nat) : Int)) hx hb dX1_begin_13 (by decide) (nI_toInt (by omega)) (nI_toInt (by omega)) (fun c_3 => False.elim (by omega)) (fun c_3 => ?_)
  refine lv_iload_n hx hb dX1_begin_16 rfl (lv_at hl 2 rfl) ?_
  refine lv_bipush (v := nI 12) hx hb dX1_begin_17 (by decide) ?_
  refine gz_icmp_le (tgt := 24) (za := ((cn : Nat) : Int)) (zb := ((12 : Nat) : Int)) hx hb dX1_begin_19 (by decide) (nI_toInt (by omega)) (nI_toInt (by omega)) (fun c_4 => ?_) (fun c_4 => False.elim (by omega))
  refine lv_aload_n hx hb dX1_begin_24 rfl (lv_at hl 0 rfl) ?_
  refine lv_iload_n hx hb dX1_begin_25 rfl (lv_at hl 1 rfl) ?_
  refine va_put (D := (dC, dI)) (ci := 1) (v := .int (nI rn)) (ty := .int) (C := RX1) (T := TX1) (N := 10) hx hb hts hin1 tyX1 tyX1_ok nmX1 hown hK hP hD hS 0 rfl rfl 0 (by decide) lk36 (fun _ h9 => h9) rfl (by decide +kernel) rfl rfl (Nat.le_of_ble_eq_true rfl) dX1_begin_26 (fun H locs hP hD hS => ?_)
  have hP : va_P (dC, dI) vwCl (mw cA cZ gm ak ac ab al av ah ap fk fc fs fl fp fv ft (nI rn) c0 sc) H := hP
  have hD : va_D A (mw cA cZ gm ak ac ab al av ah ap fk fc fs fl fp fv ft (nI rn) c0 sc) := hD
  refine lv_aload_n hx hb dX1_begin_29 rfl (lv_at hl 0 rfl) ?_
  refine lv_iload_n hx hb dX1_begin_30 rfl (lv_at hl 2 rfl) ?_
  refine va_put (D := (dC, dI)) (ci := 1) (v := .int (nI cn)) (ty := .int) (C := RX1) (T := TX1) (N := 10) hx hb hts hin1 tyX1 tyX1_ok nmX1 hown hK hP hD hS 0 rfl rfl 1 (by decide) lk40 (fun _ h9 => h9) rfl (by decide +kernel) rfl rfl (Nat.le_of_ble_eq_true rfl) dX1_begin_31 (fun H locs hP hD hS => ?_)
  have hP : va_P (dC, dI) vwCl (mw cA cZ gm ak ac ab al av ah ap fk fc fs fl fp fv ft (nI rn) (nI cn) sc) H := hP
  have hD : va_D A (mw cA cZ gm ak ac ab al av ah ap fk fc fs fl fp fv ft (nI rn) (nI cn) sc) := hD
  refine lv_iconst (v := nI 0) hx hb dX1_begin_34 (by decide) ?_
  refine lv_istore_n (lv' := [(3, .int (nI 0)), (0, .ref gm), (1, .int (nI rn)), (2, .int (nI cn))]) hx hb dX1_begin_35 rfl hl (by decide) rfl (fun ls hl => ?_)
  exact loop1 144 0 (by omega) H locs hP hD hS ls (lv_sub hl [0, 1, 2, 3] rfl)
set_option maxHeartbeats 4000000 in
set_option maxRecDepth 100000 in
theorem cM_link (l : Launch) (dC : Nat → ClassId) (dI : Nat → Nat → Nat) (sz : Nat) (cA cZ : ClassId) (gm ak ac ab al av ah ap : Nat) (fk fc fs fl fp fv ft : Nat → Int32) (rn cn : Nat) (sc : Int32) (i j : Nat) (b : Int32) (hrn : 1 ≤ rn ∧ rn ≤ 12) (hcn : 1 ≤ cn ∧ cn ≤ 12) (hi : i + 1 < rn) (hj : 1 ≤ j ∧ j < cn) (hb01 : b = nI 0 ∨ b = nI 1) (hfl : g01 156 fl) : Met l yX1_link wsX1_link ({ frames := 0, cells := 0, slots := 0, locals := 0 }) (gPw (dC, dI) vwCl [(cA, .int), (cZ, .boolean)] [.ref gm, .int (nI i), .int (nI j), .int b] sz (mw cA cZ gm ak ac ab al av ah ap fk fc fs fl fp fv ft (nI rn) (nI cn) sc)) (gQA (dC, dI) vwCl [(cA, .int), (cZ, .boolean)] (fl (i * 13 + j)) (va_A (mw cA cZ gm ak ac ab al av ah ap fk fc fs fl fp fv ft (nI rn) (nI cn) sc) sz) (mw cA cZ gm ak ac ab al av ah ap fk fc fs (upd fl (i * 13 + j) b) fp fv ft (nI rn) (nI cn) (nI 0))) 0 0 (va_A (mw cA cZ gm ak ac ab al av ah ap fk fc fs fl fp fv ft (nI rn) (nI cn) sc) sz) := by
  refine Met.ofW (cc := cX1_link) (maxL := 6) (ret := (some .int)) (by decide) rfl ?_
  intro p e s m args below meth c s₁ B hml hv
  obtain ⟨rfl, hsz, hP, hK, hD0⟩ := hv
  have hx := B.exec
  have hb := B.bytes
  have hr := B.returns
  have hts := atoms_spec (ws := wsX1_link) B.pre
  have hown : s.vm.findClass RX1 = some m.cls := findClass_of_methodNamed B.named
  have hlocks := B.notSynchronized
  subst hsz
  have hD := hD0.self (sz := s.heap.size)
  generalize hAe : va_A (mw cA cZ gm ak ac ab al av ah ap fk fc fs fl fp fv ft (nI rn) (nI cn) sc) s.heap.size = A at hD ⊢
  have hA : ∀ q : Nat, s.heap.size ≤ q → A q := fun q h => by rw [← hAe]; exact Or.inr h
  have hS : va_S A s.heap s.heap [] := va_S.rf
  have hin1 : ∀ w ∈ u_ws RX1 TX1 10, w ∈ wsX1_link := by decide +kernel
  have lk36 := hts (.fieldLink RX1 36 "LadderGridModel" "rows" "I") (by decide +kernel)
  have lk40 := hts (.fieldLink RX1 40 "LadderGridModel" "columns" "I") (by decide +kernel)
  have lk19 := hts (.fieldLink RX1 19 "LadderGridModel" "isLinked" "[Z") (by decide +kernel)
  have lk43 := hts (.fieldLink RX1 43 "LadderGridModel" "isScanned" "Z") (by decide +kernel)
  have hl := lv_entry ([.ref gm, .int (nI i), .int (nI j), .int b]) (n := 6) (Nat.le_of_ble_eq_true rfl)
  rw [lg_entry_eq]
  generalize (lg_sl ([.ref gm, .int (nI i), .int (nI j), .int b]) ++ List.replicate (6 - (lg_sl ([.ref gm, .int (nI i), .int (nI j), .int b])).length) Slot.unset).toArray = ls at hl ⊢
  have hl : lv_has ls 6 [(0, .ref gm), (1, .int (nI i)), (2, .int (nI j)), (3, .int (b))] := hl
  suffices key : ∀ (H : Heap) (locs : List Loc), va_P (dC, dI) vwCl (mw cA cZ gm ak ac ab al av ah ap fk fc fs fl fp fv ft (nI rn) (nI cn) sc) H → va_D A (mw cA cZ gm ak ac ab al av ah ap fk fc fs fl fp fv ft (nI rn) (nI cn) sc) → va_S A s.heap H locs → W p l e (headSpec wsX1_link ({ frames := 0, cells := 0, slots := 0, locals := 0 })).room s m ([.ref gm, .int (nI i), .int (nI j), .int b] : List Value).toArray below meth c H locs 0 0 (MQ below (gQA (dC, dI) vwCl [(cA, .int), (cZ, .boolean)] (fl (i * 13 + j)) A (mw cA cZ gm ak ac ab al av ah ap fk fc fs (upd fl (i * 13 + j) b) fp fv ft (nI rn) (nI cn) (nI 0))) ([.ref gm, .int (nI i), .int (nI j), .int b] : List Value).toArray s 0 0 A) (F0 m 0 ls []) from key s.heap [] hP hD hS
  clear hP hD hS
  intro H locs hP hD hS
  have hnar : vp_nar .boolean b = b := by rcases hb01 with hb0 | hb0 <;> subst hb0 <;> decide
  rcases hfl (i * 13 + j) (by omega) with hf | hf
  · skip
    refine lv_iload_n hx hb dX1_link_0 rfl (lv_at hl 1 rfl) ?_
    refine gz_if_lt (tgt := 27) (za := ((i : Nat) : Int)) hx hb dX1_link_1 (by decide) (nI_toInt (by omega)) (fun c_1 => False.elim (by omega)) (fun c_1 => ?_)
    refine lv_iload_n hx hb dX1_link_4 rfl (lv_at hl 1 rfl) ?_
    refine lv_aload_n hx hb dX1_link_5 rfl (lv_at hl 0 rfl) ?_
    refine va_get (D := (dC, dI)) (ci := 1) (v := .int (nI rn)) (C := RX1) (T := TX1) (N := 10) hx hb hts hin1 hown hK hP 0 rfl rfl 0 (by decide) lk36 (fun _ h9 => h9) rfl dX1_link_6 ?_
    refine lv_iconst (v := nI 1) hx hb dX1_link_9 (by decide) ?_
    refine gz_isub (i := rn) (j := 1) hx hb dX1_link_10 (by omega) ?_
    refine gz_icmp_ge (tgt := 27) (za := ((i : Nat) : Int)) (zb := ((rn - 1 : Nat) : Int)) hx hb dX1_link_11 (by decide) (nI_toInt (by omega)) (nI_toInt (by omega)) (fun c_2 => False.elim (by omega)) (fun c_2 => ?_)
    refine lv_iload_n hx hb dX1_link_14 rfl (lv_at hl 2 rfl) ?_
    refine lv_iconst (v := nI 1) hx hb dX1_link_15 (by decide) ?_
    refine gz_icmp_lt (tgt := 27) (za := ((j : Nat) : Int)) (zb := ((1 : Nat) : Int)) hx hb dX1_link_16 (by decide) (nI_toInt (by omega)) (nI_toInt (by omega)) (fun c_3 => False.elim (by omega)) (fun c_3 => ?_)
    refine lv_iload_n hx hb dX1_link_19 rfl (lv_at hl 2 rfl) ?_
    refine lv_aload_n hx hb dX1_link_20 rfl (lv_at hl 0 rfl) ?_
    refine va_get (D := (dC, dI)) (ci := 1) (v := .int (nI cn)) (C := RX1) (T := TX1) (N := 10) hx hb hts hin1 hown hK hP 0 rfl rfl 1 (by decide) lk40 (fun _ h9 => h9) rfl dX1_link_21 ?_
    refine gz_icmp_lt (tgt := 29) (za := ((j : Nat) : Int)) (zb := ((cn : Nat) : Int)) hx hb dX1_link_24 (by decide) (nI_toInt (by omega)) (nI_toInt (by omega)) (fun c_4 => ?_) (fun c_4 => False.elim (by omega))
    refine lv_bipush (v := nI 13) hx hb dX1_link_29 (by decide) ?_
    refine lv_iload_n hx hb dX1_link_31 rfl (lv_at hl 1 rfl) ?_
    refine gz_imulc (i := 13) (j := i) hx hb dX1_link_32 ?_
    refine lv_iload_n hx hb dX1_link_33 rfl (lv_at hl 2 rfl) ?_
    refine gz_iadd (i := i * 13) (j := j) hx hb dX1_link_34 ?_
    refine lv_istore (lv' := [(4, .int (nI ((i * 13) + j))), (0, .ref gm), (1, .int (nI i)), (2, .int (nI j)), (3, .int (b))]) hx hb dX1_link_35 hl (by decide) rfl (fun ls hl => ?_)
    refine lv_aload_n hx hb dX1_link_37 rfl (lv_at hl 1 rfl) ?_
    refine va_get (D := (dC, dI)) (ci := 1) (v := .ref al) (C := RX1) (T := TX1) (N := 10) hx hb hts hin1 hown hK hP 0 rfl rfl 5 (by decide) lk19 (fun _ h9 => h9) rfl dX1_link_38 ?_
    refine lv_iload hx hb dX1_link_41 (lv_at hl 0 rfl) ?_
    refine gz_zald (k := (i * 13) + j) hx hb hK hP 4 1 rfl rfl (by omega) (by omega) dX1_link_43 ?_
    refine lv_istore (lv' := [(5, .int (fl ((i * 13) + j))), (4, .int (nI ((i * 13) + j))), (0, .ref gm), (1, .int (nI i)), (2, .int (nI j)), (3, .int (b))]) hx hb dX1_link_44 hl (by decide) rfl (fun ls hl => ?_)
    refine lv_aload_n hx hb dX1_link_46 rfl (lv_at hl 2 rfl) ?_
    refine va_get (D := (dC, dI)) (ci := 1) (v := .ref al) (C := RX1) (T := TX1) (N := 10) hx hb hts hin1 hown hK hP 0 rfl rfl 5 (by decide) lk19 (fun _ h9 => h9) rfl dX1_link_47 ?_
    refine lv_iload hx hb dX1_link_50 (lv_at hl 1 rfl) ?_
    refine lv_iload_n hx hb dX1_link_52 rfl (lv_at hl 5 rfl) ?_
    refine gz_zast (k := (i * 13) + j) hx hb hK hP hD hS 4 1 rfl rfl hnar (by omega) (by omega) dX1_link_53 (fun H locs hP hD hS => ?_)
    have hP : va_P (dC, dI) vwCl (mw cA cZ gm ak ac ab al av ah ap fk fc fs (upd fl ((i * 13) + j) b) fp fv ft (nI rn) (nI cn) sc) H := hP
    have hD : va_D A (mw cA cZ gm ak ac ab al av ah ap fk fc fs (upd fl ((i * 13) + j) b) fp fv ft (nI rn) (nI cn) sc) := hD
    refine lv_aload_n hx hb dX1_link_54 rfl (lv_at hl 2 rfl) ?_
    refine lv_iconst (v := nI 0) hx hb dX1_link_55 (by decide) ?_
    refine va_put (D := (dC, dI)) (ci := 1) (v := .int (nI 0)) (ty := .boolean) (C := RX1) (T := TX1) (N := 10) hx hb hts hin1 tyX1 tyX1_ok nmX1 hown hK hP hD hS 0 rfl rfl 9 (by decide) lk43 (fun _ h9 => h9) rfl (by decide +kernel) rfl rfl (Nat.le_of_ble_eq_true rfl) dX1_link_56 (fun H locs hP hD hS => ?_)
    have hP : va_P (dC, dI) vwCl (mw cA cZ gm ak ac ab al av ah ap fk fc fs (upd fl ((i * 13) + j) b) fp fv ft (nI rn) (nI cn) (nI 0)) H := hP
    have hD : va_D A (mw cA cZ gm ak ac ab al av ah ap fk fc fs (upd fl ((i * 13) + j) b) fp fv ft (nI rn) (nI cn) (nI 0)) := hD
    refine lv_iload hx hb dX1_link_59 (lv_at hl 0 rfl) ?_
    refine lv_if_eq (tgt := 68) hx hb dX1_link_61 (by decide) (fun c_5 => ?_) (fun c_5 => False.elim (c_5 hf))
    refine lv_iconst (v := nI 0) hx hb dX1_link_68 (by decide) ?_
    exact W.iret (v := nI 0) hx hb hr (fun t ht hW => ⟨⟨nI 0, (), rfl, hf.symm, by rw [ht]; exact hP, va_K.moved hW.alike hK, hD⟩, hS.F ht⟩) hS.2.2 dX1_link_69
  · skip
    refine lv_iload_n hx hb dX1_link_0 rfl (lv_at hl 1 rfl) ?_
    refine gz_if_lt (tgt := 27) (za := ((i : Nat) : Int)) hx hb dX1_link_1 (by decide) (nI_toInt (by omega)) (fun c_1 => False.elim (by omega)) (fun c_1 => ?_)
    refine lv_iload_n hx hb dX1_link_4 rfl (lv_at hl 1 rfl) ?_
    refine lv_aload_n hx hb dX1_link_5 rfl (lv_at hl 0 rfl) ?_
    refine va_get (D := (dC, dI)) (ci := 1) (v := .int (nI rn)) (C := RX1) (T := TX1) (N := 10) hx hb hts hin1 hown hK hP 0 rfl rfl 0 (by decide) lk36 (fun _ h9 => h9) rfl dX1_link_6 ?_
    refine lv_iconst (v := nI 1) hx hb dX1_link_9 (by decide) ?_
    refine gz_isub (i := rn) (j := 1) hx hb dX1_link_10 (by omega) ?_
    refine gz_icmp_ge (tgt := 27) (za := ((i : Nat) : Int)) (zb := ((rn - 1 : Nat) : Int)) hx hb dX1_link_11 (by decide) (nI_toInt (by omega)) (nI_toInt (by omega)) (fun c_2 => False.elim (by omega)) (fun c_2 => ?_)
    refine lv_iload_n hx hb dX1_link_14 rfl (lv_at hl 2 rfl) ?_
    refine lv_iconst (v := nI 1) hx hb dX1_link_15 (by decide) ?_
    refine gz_icmp_lt (tgt := 27) (za := ((j : Nat) : Int)) (zb := ((1 : Nat) : Int)) hx hb dX1_link_16 (by decide) (nI_toInt (by omega)) (nI_toInt (by omega)) (fun c_3 => False.elim (by omega)) (fun c_3 => ?_)
    refine lv_iload_n hx hb dX1_link_19 rfl (lv_at hl 2 rfl) ?_
    refine lv_aload_n hx hb dX1_link_20 rfl (lv_at hl 0 rfl) ?_
    refine va_get (D := (dC, dI)) (ci := 1) (v := .int (nI cn)) (C := RX1) (T := TX1) (N := 10) hx hb hts hin1 hown hK hP 0 rfl rfl 1 (by decide) lk40 (fun _ h9 => h9) rfl dX1_link_21 ?_
    refine gz_icmp_lt (tgt := 29) (za := ((j : Nat) : Int)) (zb := ((cn : Nat) : Int)) hx hb dX1_link_24 (by decide) (nI_toInt (by omega)) (nI_toInt (by omega)) (fun c_4 => ?_) (fun c_4 => False.elim (by omega))
    refine lv_bipush (v := nI 13) hx hb dX1_link_29 (by decide) ?_
    refine lv_iload_n hx hb dX1_link_31 rfl (lv_at hl 1 rfl) ?_
    refine gz_imulc (i := 13) (j := i) hx hb dX1_link_32 ?_
    refine lv_iload_n hx hb dX1_link_33 rfl (lv_at hl 2 rfl) ?_
    refine gz_iadd (i := i * 13) (j := j) hx hb dX1_link_34 ?_
    refine lv_istore (lv' := [(4, .int (nI ((i * 13) + j))), (0, .ref gm), (1, .int (nI i)), (2, .int (nI j)), (3, .int (b))]) hx hb dX1_link_35 hl (by decide) rfl (fun ls hl => ?_)
    refine lv_aload_n hx hb dX1_link_37 rfl (lv_at hl 1 rfl) ?_
    refine va_get (D := (dC, dI)) (ci := 1) (v := .ref al) (C := RX1) (T := TX1) (N := 10) hx hb hts hin1 hown hK hP 0 rfl rfl 5 (by decide) lk19 (fun _ h9 => h9) rfl dX1_link_38 ?_
    refine lv_iload hx hb dX1_link_41 (lv_at hl 0 rfl) ?_
    refine gz_zald (k := (i * 13) + j) hx hb hK hP 4 1 rfl rfl (by omega) (by omega) dX1_link_43 ?_
    refine lv_istore (lv' := [(5, .int (fl ((i * 13) + j))), (4, .int (nI ((i * 13) + j))), (0, .ref gm), (1, .int (nI i)), (2, .int (nI j)), (3, .int (b))]) hx hb dX1_link_44 hl (by decide) rfl (fun ls hl => ?_)
    refine lv_aload_n hx hb dX1_link_46 rfl (lv_at hl 2 rfl) ?_
    refine va_get (D := (dC, dI)) (ci := 1) (v := .ref al) (C := RX1) (T := TX1) (N := 10) hx hb hts hin1 hown hK hP 0 rfl rfl 5 (by decide) lk19 (fun _ h9 => h9) rfl dX1_link_47 ?_
    refine lv_iload hx hb dX1_link_50 (lv_at hl 1 rfl) ?_
    refine lv_iload_n hx hb dX1_link_52 rfl (lv_at hl 5 rfl) ?_
    refine gz_zast (k := (i * 13) + j) hx hb hK hP hD hS 4 1 rfl rfl hnar (by omega) (by omega) dX1_link_53 (fun H locs hP hD hS => ?_)
    have hP : va_P (dC, dI) vwCl (mw cA cZ gm ak ac ab al av ah ap fk fc fs (upd fl ((i * 13) + j) b) fp fv ft (nI rn) (nI cn) sc) H := hP
    have hD : va_D A (mw cA cZ gm ak ac ab al av ah ap fk fc fs (upd fl ((i * 13) + j) b) fp fv ft (nI rn) (nI cn) sc) := hD
    refine lv_aload_n hx hb dX1_link_54 rfl (lv_at hl 2 rfl) ?_
    refine lv_iconst (v := nI 0) hx hb dX1_link_55 (by decide) ?_
    refine va_put (D := (dC, dI)) (ci := 1) (v := .int (nI 0)) (ty := .boolean) (C := RX1) (T := TX1) (N := 10) hx hb hts hin1 tyX1 tyX1_ok nmX1 hown hK hP hD hS 0 rfl rfl 9 (by decide) lk43 (fun _ h9 => h9) rfl (by decide +kernel) rfl rfl (Nat.le_of_ble_eq_true rfl) dX1_link_56 (fun H locs hP hD hS => ?_)
    have hP : va_P (dC, dI) vwCl (mw cA cZ gm ak ac ab al av ah ap fk fc fs (upd fl ((i * 13) + j) b) fp fv ft (nI rn) (nI cn) (nI 0)) H := hP
    have hD : va_D A (mw cA cZ gm ak ac ab al av ah ap fk fc fs (upd fl ((i * 13) + j) b) fp fv ft (nI rn) (nI cn) (nI 0)) := hD
    refine lv_iload hx hb dX1_link_59 (lv_at hl 0 rfl) ?_
    refine lv_if_eq (tgt := 68) hx hb dX1_link_61 (by decide) (fun c_5 => False.elim (absurd (hf.symm.trans c_5) (by decide))) (fun c_5 => ?_)
    refine lv_iconst (v := nI 1) hx hb dX1_link_64 (by decide) ?_
    refine lv_goto (tgt := 69) hx hb dX1_link_65 (by decide) ?_
    exact W.iret (v := nI 1) hx hb hr (fun t ht hW => ⟨⟨nI 1, (), rfl, hf.symm, by rw [ht]; exact hP, va_K.moved hW.alike hK, hD⟩, hS.F ht⟩) hS.2.2 dX1_link_69
set_option maxHeartbeats 4000000 in
set_option maxRecDepth 100000 in
theorem cM_link_bad (l : Launch) (dC : Nat → ClassId) (dI : Nat → Nat → Nat) (cA cZ : ClassId) (gm ak ac ab al av ah ap : Nat) (fk fc fs fl fp fv ft : Nat → Int32) (rn cn : Nat) (sc : Int32) (x y b : Int32) (hrn : 1 ≤ rn ∧ rn ≤ 12) (hcn : 1 ≤ cn ∧ cn ≤ 12) (hx0 : ¬ (0 ≤ x.toInt ∧ x.toInt + 1 < (rn : Int) ∧ 1 ≤ y.toInt ∧ y.toInt < (cn : Int))) : Met l yX1_link wsX1_link ({ frames := 0, cells := 0, slots := 0, locals := 0 }) (gPr (dC, dI) vwCl [(cA, .int), (cZ, .boolean)] [.ref gm, .int x, .int y, .int b] (mw cA cZ gm ak ac ab al av ah ap fk fc fs fl fp fv ft (nI rn) (nI cn) sc)) (QcRead (-1)) 0 0 (fun _ => False) := by
  refine Met.ofW (cc := cX1_link) (maxL := 6) (ret := (some .int)) (by decide) rfl ?_
  intro p e s m args below meth c s₁ B hml hv
  obtain ⟨rfl, hP, hK⟩ := hv
  have hx := B.exec
  have hb := B.bytes
  have hr := B.returns
  have hts := atoms_spec (ws := wsX1_link) B.pre
  have hown : s.vm.findClass RX1 = some m.cls := findClass_of_methodNamed B.named
  have hlocks := B.notSynchronized
  have hin1 : ∀ w ∈ u_ws RX1 TX1 10, w ∈ wsX1_link := by decide +kernel
  have lk36 := hts (.fieldLink RX1 36 "LadderGridModel" "rows" "I") (by decide +kernel)
  have lk40 := hts (.fieldLink RX1 40 "LadderGridModel" "columns" "I") (by decide +kernel)
  have lk19 := hts (.fieldLink RX1 19 "LadderGridModel" "isLinked" "[Z") (by decide +kernel)
  have lk43 := hts (.fieldLink RX1 43 "LadderGridModel" "isScanned" "Z") (by decide +kernel)
  have hl := lv_entry ([.ref gm, .int x, .int y, .int b]) (n := 6) (Nat.le_of_ble_eq_true rfl)
  rw [lg_entry_eq]
  generalize (lg_sl ([.ref gm, .int x, .int y, .int b]) ++ List.replicate (6 - (lg_sl ([.ref gm, .int x, .int y, .int b])).length) Slot.unset).toArray = ls at hl ⊢
  have hl : lv_has ls 6 [(0, .ref gm), (1, .int (x)), (2, .int (y)), (3, .int (b))] := hl
  refine lv_iload_n hx hb dX1_link_0 rfl (lv_at hl 1 rfl) ?_
  refine gz_if_lt (tgt := 27) (za := x.toInt) hx hb dX1_link_1 (by decide) rfl (fun c_1 => ?_) (fun c_1 => ?_)
  · skip
    refine lv_iconst (v := (-1)) hx hb dX1_link_27 (by decide) ?_
    exact W.iret (v := (-1)) hx hb hr (fun t ht hW => ⟨rfl, ht⟩) (fun q h => absurd h List.not_mem_nil) dX1_link_28
  · skip
    refine lv_iload_n hx hb dX1_link_4 rfl (lv_at hl 1 rfl) ?_
    refine lv_aload_n hx hb dX1_link_5 rfl (lv_at hl 0 rfl) ?_
    refine va_get (D := (dC, dI)) (ci := 1) (v := .int (nI rn)) (C := RX1) (T := TX1) (N := 10) hx hb hts hin1 hown hK hP 0 rfl rfl 0 (by decide) lk36 (fun _ h9 => h9) rfl dX1_link_6 ?_
    refine lv_iconst (v := nI 1) hx hb dX1_link_9 (by decide) ?_
    refine gz_isub (i := rn) (j := 1) hx hb dX1_link_10 (by omega) ?_
    refine gz_icmp_ge (tgt := 27) (za := x.toInt) (zb := ((rn - 1 : Nat) : Int)) hx hb dX1_link_11 (by decide) rfl (nI_toInt (by omega)) (fun c_2 => ?_) (fun c_2 => ?_)
    · skip
      refine lv_iconst (v := (-1)) hx hb dX1_link_27 (by decide) ?_
      exact W.iret (v := (-1)) hx hb hr (fun t ht hW => ⟨rfl, ht⟩) (fun q h => absurd h List.not_mem_nil) dX1_link_28
    · skip
      refine lv_iload_n hx hb dX1_link_14 rfl (lv_at hl 2 rfl) ?_
      refine lv_iconst (v := nI 1) hx hb dX1_link_15 (by decide) ?_
      refine gz_icmp_lt (tgt := 27) (za := y.toInt) (zb := ((1 : Nat) : Int)) hx hb dX1_link_16 (by decide) rfl (nI_toInt (by omega)) (fun c_3 => ?_) (fun c_3 => ?_)
      · skip
        refine lv_iconst (v := (-1)) hx hb dX1_link_27 (by decide) ?_
        exact W.iret (v := (-1)) hx hb hr (fun t ht hW => ⟨rfl, ht⟩) (fun q h => absurd h List.not_mem_nil) dX1_link_28
      · skip
        refine lv_iload_n hx hb dX1_link_19 rfl (lv_at hl 2 rfl) ?_
        refine lv_aload_n hx hb dX1_link_20 rfl (lv_at hl 0 rfl) ?_
        refine va_get (D := (dC, dI)) (ci := 1) (v := .int (nI cn)) (C := RX1) (T := TX1) (N := 10) hx hb hts hin1 hown hK hP 0 rfl rfl 1 (by decide) lk40 (fun _ h9 => h9) rfl dX1_link_21 ?_
        refine gz_icmp_lt (tgt := 29) (za := y.toInt) (zb := ((cn : Nat) : Int)) hx hb dX1_link_24 (by decide) rfl (nI_toInt (by omega)) (fun c_4 => False.elim (by omega)) (fun c_4 => ?_)
        refine lv_iconst (v := (-1)) hx hb dX1_link_27 (by decide) ?_
        exact W.iret (v := (-1)) hx hb hr (fun t ht hW => ⟨rfl, ht⟩) (fun q h => absurd h List.not_mem_nil) dX1_link_28
set_option maxHeartbeats 4000000 in
set_option maxRecDepth 100000 in
theorem cM_cell (l : Launch) (dC : Nat → ClassId) (dI : Nat → Nat → Nat) (sz : Nat) (cA cZ : ClassId) (gm ak ac ab al av ah ap : Nat) (fk fc fs fl fp fv ft : Nat → Int32) (rn cn : Nat) (sc : Int32) (i j k : Nat) (x : Int32) (hrn : 1 ≤ rn ∧ rn ≤ 12) (hcn : 1 ≤ cn ∧ cn ≤ 12) (hi : i < rn) (hj : j < cn) (hk : k ≤ 9) (hx2 : k < 2 ∨ (0 ≤ x.toInt ∧ x.toInt < 40)) (hk6 : k < 6 ∨ j + 1 = cn) : Met l yX1_cell wsX1_cell ({ frames := 1, cells := 0, slots := 0, locals := 22 }) (gPw (dC, dI) vwCl [(cA, .int), (cZ, .boolean)] [.ref gm, .int (nI i), .int (nI j), .int (nI k), .int x] sz (mw cA cZ gm ak ac ab al av ah ap fk fc fs fl fp fv ft (nI rn) (nI cn) sc)) (gQA (dC, dI) vwCl [(cA, .int), (cZ, .boolean)] (fk (i * 12 + j)) (va_A (mw cA cZ gm ak ac ab al av ah ap fk fc fs fl fp fv ft (nI rn) (nI cn) sc) sz) (mw cA cZ gm ak ac ab al av ah ap (upd fk (i * 12 + j) (nI k)) (upd fc (i * 12 + j) (if 2 ≤ k then x else nI 0)) (upd fs (i * 12 + j) (nI 0)) fl fp fv ft (nI rn) (nI cn) (nI 0))) 0 0 (va_A (mw cA cZ gm ak ac ab al av ah ap fk fc fs fl fp fv ft (nI rn) (nI cn) sc) sz) := by
  refine Met.ofW (cc := cX1_cell) (maxL := 7) (ret := (some .int)) (by decide) rfl ?_
  intro p e s m args below meth c s₁ B hml hv
  obtain ⟨rfl, hsz, hP, hK, hD0⟩ := hv
  have hx := B.exec
  have hb := B.bytes
  have hr := B.returns
  have hts := atoms_spec (ws := wsX1_cell) B.pre
  have hown : s.vm.findClass RX1 = some m.cls := findClass_of_methodNamed B.named
  have hlocks := B.notSynchronized
  subst hsz
  have hD := hD0.self (sz := s.heap.size)
  generalize hAe : va_A (mw cA cZ gm ak ac ab al av ah ap fk fc fs fl fp fv ft (nI rn) (nI cn) sc) s.heap.size = A at hD ⊢
  have hA : ∀ q : Nat, s.heap.size ≤ q → A q := fun q h => by rw [← hAe]; exact Or.inr h
  have hS : va_S A s.heap s.heap [] := va_S.rf
  have hin1 : ∀ w ∈ u_ws RX1 TX1 10, w ∈ wsX1_cell := by decide +kernel
  have lk40 := hts (.fieldLink RX1 40 "LadderGridModel" "columns" "I") (by decide +kernel)
  have lk7 := hts (.fieldLink RX1 7 "LadderGridModel" "kinds" "[I") (by decide +kernel)
  have lk13 := hts (.fieldLink RX1 13 "LadderGridModel" "variables" "[I") (by decide +kernel)
  have lk16 := hts (.fieldLink RX1 16 "LadderGridModel" "before" "[I") (by decide +kernel)
  have lk43 := hts (.fieldLink RX1 43 "LadderGridModel" "isScanned" "Z") (by decide +kernel)
  have hl := lv_entry ([.ref gm, .int (nI i), .int (nI j), .int (nI k), .int x]) (n := 7) (Nat.le_of_ble_eq_true rfl)
  rw [lg_entry_eq]
  generalize (lg_sl ([.ref gm, .int (nI i), .int (nI j), .int (nI k), .int x]) ++ List.replicate (7 - (lg_sl ([.ref gm, .int (nI i), .int (nI j), .int (nI k), .int x])).length) Slot.unset).toArray = ls at hl ⊢
  have hl : lv_has ls 7 [(0, .ref gm), (1, .int (nI i)), (2, .int (nI j)), (3, .int (nI k)), (4, .int (x))] := hl
  have zi := nI_toInt (n := i) (by omega)
  have zj := nI_toInt (n := j) (by omega)
  have zk := nI_toInt (n := k) (by omega)
  suffices key : ∀ (H : Heap) (locs : List Loc), va_P (dC, dI) vwCl (mw cA cZ gm ak ac ab al av ah ap fk fc fs fl fp fv ft (nI rn) (nI cn) sc) H → va_D A (mw cA cZ gm ak ac ab al av ah ap fk fc fs fl fp fv ft (nI rn) (nI cn) sc) → va_S A s.heap H locs → W p l e (headSpec wsX1_cell ({ frames := 1, cells := 0, slots := 0, locals := 22 })).room s m ([.ref gm, .int (nI i), .int (nI j), .int (nI k), .int x] : List Value).toArray below meth c H locs 0 0 (MQ below (gQA (dC, dI) vwCl [(cA, .int), (cZ, .boolean)] (fk (i * 12 + j)) A (mw cA cZ gm ak ac ab al av ah ap (upd fk (i * 12 + j) (nI k)) (upd fc (i * 12 + j) (if 2 ≤ k then x else nI 0)) (upd fs (i * 12 + j) (nI 0)) fl fp fv ft (nI rn) (nI cn) (nI 0))) ([.ref gm, .int (nI i), .int (nI j), .int (nI k), .int x] : List Value).toArray s 0 0 A) (F0 m 0 ls []) from key s.heap [] hP hD hS
  clear hP hD hS
  intro H locs hP hD hS
  by_cases hk2 : 2 ≤ k
  · by_cases hk5 : 6 ≤ k
    · skip
      refine lv_aload_n hx hb dX1_cell_0 rfl (lv_at hl 0 rfl) ?_
      refine lv_iload_n hx hb dX1_cell_1 rfl (lv_at hl 1 rfl) ?_
      refine lv_iload_n hx hb dX1_cell_2 rfl (lv_at hl 2 rfl) ?_
      refine gz_callR (W.runV (As := [.int (nI i), .int (nI j)]) (rest := []) ⟨hx, hb, hml, hown, hts⟩ (cM_isCell l dC dI cA cZ gm ak ac ab al av ah ap fk fc fs fl fp fv ft rn cn sc (nI i) (nI j) hrn hcn) (cwV 2 hts gX1_cell_X1_isCell rfl rfl rfl (by decide +kernel) ⟨Nat.le_of_ble_eq_true rfl, Nat.le_of_ble_eq_true rfl⟩) (gz_preV (q := (RX1, TX1, 10)) (ci := 1) hK hP [0, 1, 2, 3, 4, 5, 6, 7] rfl rfl rfl) rfl rfl hl.1 rfl (lv_room (Nat.le_of_ble_eq_true rfl)) dX1_cell_3 ⟨Nat.le_of_ble_eq_true rfl, Nat.le_of_ble_eq_true rfl⟩) ?_
      refine gz_ifeqB (tgt := 48) hx hb dX1_cell_6 (by decide) (fun c_1 => False.elim (by omega)) (fun c_1 => ?_)
      refine lv_iload_n hx hb dX1_cell_9 rfl (lv_at hl 3 rfl) ?_
      refine gz_if_lt (tgt := 48) (za := ((k : Nat) : Int)) hx hb dX1_cell_10 (by decide) (nI_toInt (by omega)) (fun c_2 => False.elim (by omega)) (fun c_2 => ?_)
      refine lv_iload_n hx hb dX1_cell_13 rfl (lv_at hl 3 rfl) ?_
      refine lv_bipush (v := nI 9) hx hb dX1_cell_14 (by decide) ?_
      refine gz_icmp_gt (tgt := 48) (za := ((k : Nat) : Int)) (zb := ((9 : Nat) : Int)) hx hb dX1_cell_16 (by decide) (nI_toInt (by omega)) (nI_toInt (by omega)) (fun c_3 => False.elim (by omega)) (fun c_3 => ?_)
      refine lv_iload_n hx hb dX1_cell_19 rfl (lv_at hl 3 rfl) ?_
      refine lv_iconst (v := nI 1) hx hb dX1_cell_20 (by decide) ?_
      refine gz_icmp_le (tgt := 32) (za := ((k : Nat) : Int)) (zb := ((1 : Nat) : Int)) hx hb dX1_cell_21 (by decide) (nI_toInt (by omega)) (nI_toInt (by omega)) (fun c_4 => False.elim (by omega)) (fun c_4 => ?_)
      refine lv_iload hx hb dX1_cell_24 (lv_at hl 4 rfl) ?_
      refine gz_callR (W.runS (As := [.int (x)]) (rest := []) ⟨hx, hb, hml, hown, hts⟩ (cM_isVariable l x) (va_cwS 1 hts gX1_cell_X1_isVariable rfl rfl rfl (by decide +kernel) ⟨Nat.le_of_ble_eq_true rfl, Nat.le_of_ble_eq_true rfl⟩) preEq rfl rfl hl.1 rfl (lv_room (Nat.le_of_ble_eq_true rfl)) dX1_cell_26 ⟨Nat.le_of_ble_eq_true rfl, Nat.le_of_ble_eq_true rfl⟩) ?_
      refine gz_ifeqB (tgt := 48) hx hb dX1_cell_29 (by decide) (fun c_5 => False.elim (by omega)) (fun c_5 => ?_)
      refine lv_iload_n hx hb dX1_cell_32 rfl (lv_at hl 3 rfl) ?_
      refine lv_bipush (v := nI 6) hx hb dX1_cell_33 (by decide) ?_
      refine gz_icmp_lt (tgt := 50) (za := ((k : Nat) : Int)) (zb := ((6 : Nat) : Int)) hx hb dX1_cell_35 (by decide) (nI_toInt (by omega)) (nI_toInt (by omega)) (fun c_6 => False.elim (by omega)) (fun c_6 => ?_)
      refine lv_iload_n hx hb dX1_cell_38 rfl (lv_at hl 2 rfl) ?_
      refine lv_aload_n hx hb dX1_cell_39 rfl (lv_at hl 0 rfl) ?_
      refine va_get (D := (dC, dI)) (ci := 1) (v := .int (nI cn)) (C := RX1) (T := TX1) (N := 10) hx hb hts hin1 hown hK hP 0 rfl rfl 1 (by decide) lk40 (fun _ h9 => h9) rfl dX1_cell_40 ?_
      refine lv_iconst (v := nI 1) hx hb dX1_cell_43 (by decide) ?_
      refine gz_isub (i := cn) (j := 1) hx hb dX1_cell_44 (by omega) ?_
      refine gz_icmp_eq (tgt := 50) (za := ((j : Nat) : Int)) (zb := ((cn - 1 : Nat) : Int)) hx hb dX1_cell_45 (by decide) (nI_toInt (by omega)) (nI_toInt (by omega)) (fun c_7 => ?_) (fun c_7 => False.elim (by omega))
      refine lv_bipush (v := nI 12) hx hb dX1_cell_50 (by decide) ?_
      refine lv_iload_n hx hb dX1_cell_52 rfl (lv_at hl 1 rfl) ?_
      refine gz_imulc (i := 12) (j := i) hx hb dX1_cell_53 ?_
      refine lv_iload_n hx hb dX1_cell_54 rfl (lv_at hl 2 rfl) ?_
      refine gz_iadd (i := i * 12) (j := j) hx hb dX1_cell_55 ?_
      refine lv_istore (lv' := [(5, .int (nI ((i * 12) + j))), (0, .ref gm), (1, .int (nI i)), (2, .int (nI j)), (3, .int (nI k)), (4, .int (x))]) hx hb dX1_cell_56 hl (by decide) rfl (fun ls hl => ?_)
      refine lv_aload_n hx hb dX1_cell_58 rfl (lv_at hl 1 rfl) ?_
      refine va_get (D := (dC, dI)) (ci := 1) (v := .ref ak) (C := RX1) (T := TX1) (N := 10) hx hb hts hin1 hown hK hP 0 rfl rfl 2 (by decide) lk7 (fun _ h9 => h9) rfl dX1_cell_59 ?_
      refine lv_iload hx hb dX1_cell_62 (lv_at hl 0 rfl) ?_
      refine gz_iald (k := (i * 12) + j) hx hb hK hP 1 0 rfl rfl (by omega) (by omega) dX1_cell_64 ?_
      refine lv_istore (lv' := [(6, .int (fk ((i * 12) + j))), (5, .int (nI ((i * 12) + j))), (0, .ref gm), (1, .int (nI i)), (2, .int (nI j)), (3, .int (nI k)), (4, .int (x))]) hx hb dX1_cell_65 hl (by decide) rfl (fun ls hl => ?_)
      refine lv_aload_n hx hb dX1_cell_67 rfl (lv_at hl 2 rfl) ?_
      refine va_get (D := (dC, dI)) (ci := 1) (v := .ref ak) (C := RX1) (T := TX1) (N := 10) hx hb hts hin1 hown hK hP 0 rfl rfl 2 (by decide) lk7 (fun _ h9 => h9) rfl dX1_cell_68 ?_
      refine lv_iload hx hb dX1_cell_71 (lv_at hl 1 rfl) ?_
      refine lv_iload_n hx hb dX1_cell_73 rfl (lv_at hl 5 rfl) ?_
      refine gz_iast (k := (i * 12) + j) hx hb hK hP hD hS 1 0 rfl rfl (by omega) (by omega) dX1_cell_74 (fun H locs hP hD hS => ?_)
      have hP : va_P (dC, dI) vwCl (mw cA cZ gm ak ac ab al av ah ap (upd fk ((i * 12) + j) (nI k)) fc fs fl fp fv ft (nI rn) (nI cn) sc) H := hP
      have hD : va_D A (mw cA cZ gm ak ac ab al av ah ap (upd fk ((i * 12) + j) (nI k)) fc fs fl fp fv ft (nI rn) (nI cn) sc) := hD
      refine lv_aload_n hx hb dX1_cell_75 rfl (lv_at hl 2 rfl) ?_
      refine va_get (D := (dC, dI)) (ci := 1) (v := .ref ac) (C := RX1) (T := TX1) (N := 10) hx hb hts hin1 hown hK hP 0 rfl rfl 3 (by decide) lk13 (fun _ h9 => h9) rfl dX1_cell_76 ?_
      refine lv_iload hx hb dX1_cell_79 (lv_at hl 1 rfl) ?_
      refine lv_iload_n hx hb dX1_cell_81 rfl (lv_at hl 5 rfl) ?_
      refine lv_iconst (v := nI 1) hx hb dX1_cell_82 (by decide) ?_
      refine gz_icmp_le (tgt := 91) (za := ((k : Nat) : Int)) (zb := ((1 : Nat) : Int)) hx hb dX1_cell_83 (by decide) (nI_toInt (by omega)) (nI_toInt (by omega)) (fun c_8 => False.elim (by omega)) (fun c_8 => ?_)
      refine lv_iload hx hb dX1_cell_86 (lv_at hl 6 rfl) ?_
      refine lv_goto (tgt := 92) hx hb dX1_cell_88 (by decide) ?_
      refine gz_iast (k := (i * 12) + j) hx hb hK hP hD hS 2 0 rfl rfl (by omega) (by omega) dX1_cell_92 (fun H locs hP hD hS => ?_)
      have hP : va_P (dC, dI) vwCl (mw cA cZ gm ak ac ab al av ah ap (upd fk ((i * 12) + j) (nI k)) (upd fc ((i * 12) + j) x) fs fl fp fv ft (nI rn) (nI cn) sc) H := hP
      have hD : va_D A (mw cA cZ gm ak ac ab al av ah ap (upd fk ((i * 12) + j) (nI k)) (upd fc ((i * 12) + j) x) fs fl fp fv ft (nI rn) (nI cn) sc) := hD
      refine lv_aload_n hx hb dX1_cell_93 rfl (lv_at hl 2 rfl) ?_
      refine va_get (D := (dC, dI)) (ci := 1) (v := .ref ab) (C := RX1) (T := TX1) (N := 10) hx hb hts hin1 hown hK hP 0 rfl rfl 4 (by decide) lk16 (fun _ h9 => h9) rfl dX1_cell_94 ?_
      refine lv_iload hx hb dX1_cell_97 (lv_at hl 1 rfl) ?_
      refine lv_iconst (v := nI 0) hx hb dX1_cell_99 (by decide) ?_
      refine gz_iast (k := (i * 12) + j) hx hb hK hP hD hS 3 0 rfl rfl (by omega) (by omega) dX1_cell_100 (fun H locs hP hD hS => ?_)
      have hP : va_P (dC, dI) vwCl (mw cA cZ gm ak ac ab al av ah ap (upd fk ((i * 12) + j) (nI k)) (upd fc ((i * 12) + j) x) (upd fs ((i * 12) + j) (nI 0)) fl fp fv ft (nI rn) (nI cn) sc) H := hP
      have hD : va_D A (mw cA cZ gm ak ac ab al av ah ap (upd fk ((i * 12) + j) (nI k)) (upd fc ((i * 12) + j) x) (upd fs ((i * 12) + j) (nI 0)) fl fp fv ft (nI rn) (nI cn) sc) := hD
      refine lv_aload_n hx hb dX1_cell_101 rfl (lv_at hl 2 rfl) ?_
      refine lv_iconst (v := nI 0) hx hb dX1_cell_102 (by decide) ?_
      refine va_put (D := (dC, dI)) (ci := 1) (v := .int (nI 0)) (ty := .boolean) (C := RX1) (T := TX1) (N := 10) hx hb hts hin1 tyX1 tyX1_ok nmX1 hown hK hP hD hS 0 rfl rfl 9 (by decide) lk43 (fun _ h9 => h9) rfl (by decide +kernel) rfl rfl (Nat.le_of_ble_eq_true rfl) dX1_cell_103 (fun H locs hP hD hS => ?_)
      have hP : va_P (dC, dI) vwCl (mw cA cZ gm ak ac ab al av ah ap (upd fk ((i * 12) + j) (nI k)) (upd fc ((i * 12) + j) x) (upd fs ((i * 12) + j) (nI 0)) fl fp fv ft (nI rn) (nI cn) (nI 0)) H := hP
      have hD : va_D A (mw cA cZ gm ak ac ab al av ah ap (upd fk ((i * 12) + j) (nI k)) (upd fc ((i * 12) + j) x) (upd fs ((i * 12) + j) (nI 0)) fl fp fv ft (nI rn) (nI cn) (nI 0)) := hD
      refine lv_iload hx hb dX1_cell_106 (lv_at hl 0 rfl) ?_
      exact W.iret (v := fk ((i * 12) + j)) hx hb hr (fun t ht hW => ⟨⟨fk ((i * 12) + j), (), rfl, rfl, by rw [ht]; exact (by rw [if_pos hk2]; exact hP), va_K.moved hW.alike hK, (by rw [if_pos hk2]; exact hD)⟩, hS.F ht⟩) hS.2.2 dX1_cell_108
    · skip
      refine lv_aload_n hx hb dX1_cell_0 rfl (lv_at hl 0 rfl) ?_
      refine lv_iload_n hx hb dX1_cell_1 rfl (lv_at hl 1 rfl) ?_
      refine lv_iload_n hx hb dX1_cell_2 rfl (lv_at hl 2 rfl) ?_
      refine gz_callR (W.runV (As := [.int (nI i), .int (nI j)]) (rest := []) ⟨hx, hb, hml, hown, hts⟩ (cM_isCell l dC dI cA cZ gm ak ac ab al av ah ap fk fc fs fl fp fv ft rn cn sc (nI i) (nI j) hrn hcn) (cwV 2 hts gX1_cell_X1_isCell rfl rfl rfl (by decide +kernel) ⟨Nat.le_of_ble_eq_true rfl, Nat.le_of_ble_eq_true rfl⟩) (gz_preV (q := (RX1, TX1, 10)) (ci := 1) hK hP [0, 1, 2, 3, 4, 5, 6, 7] rfl rfl rfl) rfl rfl hl.1 rfl (lv_room (Nat.le_of_ble_eq_true rfl)) dX1_cell_3 ⟨Nat.le_of_ble_eq_true rfl, Nat.le_of_ble_eq_true rfl⟩) ?_
      refine gz_ifeqB (tgt := 48) hx hb dX1_cell_6 (by decide) (fun c_1 => False.elim (by omega)) (fun c_1 => ?_)
      refine lv_iload_n hx hb dX1_cell_9 rfl (lv_at hl 3 rfl) ?_
      refine gz_if_lt (tgt := 48) (za := ((k : Nat) : Int)) hx hb dX1_cell_10 (by decide) (nI_toInt (by omega)) (fun c_2 => False.elim (by omega)) (fun c_2 => ?_)
      refine lv_iload_n hx hb dX1_cell_13 rfl (lv_at hl 3 rfl) ?_
      refine lv_bipush (v := nI 9) hx hb dX1_cell_14 (by decide) ?_
      refine gz_icmp_gt (tgt := 48) (za := ((k : Nat) : Int)) (zb := ((9 : Nat) : Int)) hx hb dX1_cell_16 (by decide) (nI_toInt (by omega)) (nI_toInt (by omega)) (fun c_3 => False.elim (by omega)) (fun c_3 => ?_)
      refine lv_iload_n hx hb dX1_cell_19 rfl (lv_at hl 3 rfl) ?_
      refine lv_iconst (v := nI 1) hx hb dX1_cell_20 (by decide) ?_
      refine gz_icmp_le (tgt := 32) (za := ((k : Nat) : Int)) (zb := ((1 : Nat) : Int)) hx hb dX1_cell_21 (by decide) (nI_toInt (by omega)) (nI_toInt (by omega)) (fun c_4 => False.elim (by omega)) (fun c_4 => ?_)
      refine lv_iload hx hb dX1_cell_24 (lv_at hl 4 rfl) ?_
      refine gz_callR (W.runS (As := [.int (x)]) (rest := []) ⟨hx, hb, hml, hown, hts⟩ (cM_isVariable l x) (va_cwS 1 hts gX1_cell_X1_isVariable rfl rfl rfl (by decide +kernel) ⟨Nat.le_of_ble_eq_true rfl, Nat.le_of_ble_eq_true rfl⟩) preEq rfl rfl hl.1 rfl (lv_room (Nat.le_of_ble_eq_true rfl)) dX1_cell_26 ⟨Nat.le_of_ble_eq_true rfl, Nat.le_of_ble_eq_true rfl⟩) ?_
      refine gz_ifeqB (tgt := 48) hx hb dX1_cell_29 (by decide) (fun c_5 => False.elim (by omega)) (fun c_5 => ?_)
      refine lv_iload_n hx hb dX1_cell_32 rfl (lv_at hl 3 rfl) ?_
      refine lv_bipush (v := nI 6) hx hb dX1_cell_33 (by decide) ?_
      refine gz_icmp_lt (tgt := 50) (za := ((k : Nat) : Int)) (zb := ((6 : Nat) : Int)) hx hb dX1_cell_35 (by decide) (nI_toInt (by omega)) (nI_toInt (by omega)) (fun c_6 => ?_) (fun c_6 => False.elim (by omega))
      refine lv_bipush (v := nI 12) hx hb dX1_cell_50 (by decide) ?_
      refine lv_iload_n hx hb dX1_cell_52 rfl (lv_at hl 1 rfl) ?_
      refine gz_imulc (i := 12) (j := i) hx hb dX1_cell_53 ?_
      refine lv_iload_n hx hb dX1_cell_54 rfl (lv_at hl 2 rfl) ?_
      refine gz_iadd (i := i * 12) (j := j) hx hb dX1_cell_55 ?_
      refine lv_istore (lv' := [(5, .int (nI ((i * 12) + j))), (0, .ref gm), (1, .int (nI i)), (2, .int (nI j)), (3, .int (nI k)), (4, .int (x))]) hx hb dX1_cell_56 hl (by decide) rfl (fun ls hl => ?_)
      refine lv_aload_n hx hb dX1_cell_58 rfl (lv_at hl 1 rfl) ?_
      refine va_get (D := (dC, dI)) (ci := 1) (v := .ref ak) (C := RX1) (T := TX1) (N := 10) hx hb hts hin1 hown hK hP 0 rfl rfl 2 (by decide) lk7 (fun _ h9 => h9) rfl dX1_cell_59 ?_
      refine lv_iload hx hb dX1_cell_62 (lv_at hl 0 rfl) ?_
      refine gz_iald (k := (i * 12) + j) hx hb hK hP 1 0 rfl rfl (by omega) (by omega) dX1_cell_64 ?_
      refine lv_istore (lv' := [(6, .int (fk ((i * 12) + j))), (5, .int (nI ((i * 12) + j))), (0, .ref gm), (1, .int (nI i)), (2, .int (nI j)), (3, .int (nI k)), (4, .int (x))]) hx hb dX1_cell_65 hl (by decide) rfl (fun ls hl => ?_)
      refine lv_aload_n hx hb dX1_cell_67 rfl (lv_at hl 2 rfl) ?_
      refine va_get (D := (dC, dI)) (ci := 1) (v := .ref ak) (C := RX1) (T := TX1) (N := 10) hx hb hts hin1 hown hK hP 0 rfl rfl 2 (by decide) lk7 (fun _ h9 => h9) rfl dX1_cell_68 ?_
      refine lv_iload hx hb dX1_cell_71 (lv_at hl 1 rfl) ?_
      refine lv_iload_n hx hb dX1_cell_73 rfl (lv_at hl 5 rfl) ?_
      refine gz_iast (k := (i * 12) + j) hx hb hK hP hD hS 1 0 rfl rfl (by omega) (by omega) dX1_cell_74 (fun H locs hP hD hS => ?_)
      have hP : va_P (dC, dI) vwCl (mw cA cZ gm ak ac ab al av ah ap (upd fk ((i * 12) + j) (nI k)) fc fs fl fp fv ft (nI rn) (nI cn) sc) H := hP
      have hD : va_D A (mw cA cZ gm ak ac ab al av ah ap (upd fk ((i * 12) + j) (nI k)) fc fs fl fp fv ft (nI rn) (nI cn) sc) := hD
      refine lv_aload_n hx hb dX1_cell_75 rfl (lv_at hl 2 rfl) ?_
      refine va_get (D := (dC, dI)) (ci := 1) (v := .ref ac) (C := RX1) (T := TX1) (N := 10) hx hb hts hin1 hown hK hP 0 rfl rfl 3 (by decide) lk13 (fun _ h9 => h9) rfl dX1_cell_76 ?_
      refine lv_iload hx hb dX1_cell_79 (lv_at hl 1 rfl) ?_
      refine lv_iload_n hx hb dX1_cell_81 rfl (lv_at hl 5 rfl) ?_
      refine lv_iconst (v := nI 1) hx hb dX1_cell_82 (by decide) ?_
      refine gz_icmp_le (tgt := 91) (za := ((k : Nat) : Int)) (zb := ((1 : Nat) : Int)) hx hb dX1_cell_83 (by decide) (nI_toInt (by omega)) (nI_toInt (by omega)) (fun c_7 => False.elim (by omega)) (fun c_7 => ?_)
      refine lv_iload hx hb dX1_cell_86 (lv_at hl 6 rfl) ?_
      refine lv_goto (tgt := 92) hx hb dX1_cell_88 (by decide) ?_
      refine gz_iast (k := (i * 12) + j) hx hb hK hP hD hS 2 0 rfl rfl (by omega) (by omega) dX1_cell_92 (fun H locs hP hD hS => ?_)
      have hP : va_P (dC, dI) vwCl (mw cA cZ gm ak ac ab al av ah ap (upd fk ((i * 12) + j) (nI k)) (upd fc ((i * 12) + j) x) fs fl fp fv ft (nI rn) (nI cn) sc) H := hP
      have hD : va_D A (mw cA cZ gm ak ac ab al av ah ap (upd fk ((i * 12) + j) (nI k)) (upd fc ((i * 12) + j) x) fs fl fp fv ft (nI rn) (nI cn) sc) := hD
      refine lv_aload_n hx hb dX1_cell_93 rfl (lv_at hl 2 rfl) ?_
      refine va_get (D := (dC, dI)) (ci := 1) (v := .ref ab) (C := RX1) (T := TX1) (N := 10) hx hb hts hin1 hown hK hP 0 rfl rfl 4 (by decide) lk16 (fun _ h9 => h9) rfl dX1_cell_94 ?_
      refine lv_iload hx hb dX1_cell_97 (lv_at hl 1 rfl) ?_
      refine lv_iconst (v := nI 0) hx hb dX1_cell_99 (by decide) ?_
      refine gz_iast (k := (i * 12) + j) hx hb hK hP hD hS 3 0 rfl rfl (by omega) (by omega) dX1_cell_100 (fun H locs hP hD hS => ?_)
      have hP : va_P (dC, dI) vwCl (mw cA cZ gm ak ac ab al av ah ap (upd fk ((i * 12) + j) (nI k)) (upd fc ((i * 12) + j) x) (upd fs ((i * 12) + j) (nI 0)) fl fp fv ft (nI rn) (nI cn) sc) H := hP
      have hD : va_D A (mw cA cZ gm ak ac ab al av ah ap (upd fk ((i * 12) + j) (nI k)) (upd fc ((i * 12) + j) x) (upd fs ((i * 12) + j) (nI 0)) fl fp fv ft (nI rn) (nI cn) sc) := hD
      refine lv_aload_n hx hb dX1_cell_101 rfl (lv_at hl 2 rfl) ?_
      refine lv_iconst (v := nI 0) hx hb dX1_cell_102 (by decide) ?_
      refine va_put (D := (dC, dI)) (ci := 1) (v := .int (nI 0)) (ty := .boolean) (C := RX1) (T := TX1) (N := 10) hx hb hts hin1 tyX1 tyX1_ok nmX1 hown hK hP hD hS 0 rfl rfl 9 (by decide) lk43 (fun _ h9 => h9) rfl (by decide +kernel) rfl rfl (Nat.le_of_ble_eq_true rfl) dX1_cell_103 (fun H locs hP hD hS => ?_)
      have hP : va_P (dC, dI) vwCl (mw cA cZ gm ak ac ab al av ah ap (upd fk ((i * 12) + j) (nI k)) (upd fc ((i * 12) + j) x) (upd fs ((i * 12) + j) (nI 0)) fl fp fv ft (nI rn) (nI cn) (nI 0)) H := hP
      have hD : va_D A (mw cA cZ gm ak ac ab al av ah ap (upd fk ((i * 12) + j) (nI k)) (upd fc ((i * 12) + j) x) (upd fs ((i * 12) + j) (nI 0)) fl fp fv ft (nI rn) (nI cn) (nI 0)) := hD
      refine lv_iload hx hb dX1_cell_106 (lv_at hl 0 rfl) ?_
      exact W.iret (v := fk ((i * 12) + j)) hx hb hr (fun t ht hW => ⟨⟨fk ((i * 12) + j), (), rfl, rfl, by rw [ht]; exact (by rw [if_pos hk2]; exact hP), va_K.moved hW.alike hK, (by rw [if_pos hk2]; exact hD)⟩, hS.F ht⟩) hS.2.2 dX1_cell_108
  · skip
    refine lv_aload_n hx hb dX1_cell_0 rfl (lv_at hl 0 rfl) ?_
    refine lv_iload_n hx hb dX1_cell_1 rfl (lv_at hl 1 rfl) ?_
    refine lv_iload_n hx hb dX1_cell_2 rfl (lv_at hl 2 rfl) ?_
    refine gz_callR (W.runV (As := [.int (nI i), .int (nI j)]) (rest := []) ⟨hx, hb, hml, hown, hts⟩ (cM_isCell l dC dI cA cZ gm ak ac ab al av ah ap fk fc fs fl fp fv ft rn cn sc (nI i) (nI j) hrn hcn) (cwV 2 hts gX1_cell_X1_isCell rfl rfl rfl (by decide +kernel) ⟨Nat.le_of_ble_eq_true rfl, Nat.le_of_ble_eq_true rfl⟩) (gz_preV (q := (RX1, TX1, 10)) (ci := 1) hK hP [0, 1, 2, 3, 4, 5, 6, 7] rfl rfl rfl) rfl rfl hl.1 rfl (lv_room (Nat.le_of_ble_eq_true rfl)) dX1_cell_3 ⟨Nat.le_of_ble_eq_true rfl, Nat.le_of_ble_eq_true rfl⟩) ?_
    refine gz_ifeqB (tgt := 48) hx hb dX1_cell_6 (by decide) (fun c_1 => False.elim (by omega)) (fun c_1 => ?_)
    refine lv_iload_n hx hb dX1_cell_9 rfl (lv_at hl 3 rfl) ?_
    refine gz_if_lt (tgt := 48) (za := ((k : Nat) : Int)) hx hb dX1_cell_10 (by decide) (nI_toInt (by omega)) (fun c_2 => False.elim (by omega)) (fun c_2 => ?_)
    refine lv_iload_n hx hb dX1_cell_13 rfl (lv_at hl 3 rfl) ?_
    refine lv_bipush (v := nI 9) hx hb dX1_cell_14 (by decide) ?_
    refine gz_icmp_gt (tgt := 48) (za := ((k : Nat) : Int)) (zb := ((9 : Nat) : Int)) hx hb dX1_cell_16 (by decide) (nI_toInt (by omega)) (nI_toInt (by omega)) (fun c_3 => False.elim (by omega)) (fun c_3 => ?_)
    refine lv_iload_n hx hb dX1_cell_19 rfl (lv_at hl 3 rfl) ?_
    refine lv_iconst (v := nI 1) hx hb dX1_cell_20 (by decide) ?_
    refine gz_icmp_le (tgt := 32) (za := ((k : Nat) : Int)) (zb := ((1 : Nat) : Int)) hx hb dX1_cell_21 (by decide) (nI_toInt (by omega)) (nI_toInt (by omega)) (fun c_4 => ?_) (fun c_4 => False.elim (by omega))
    refine lv_iload_n hx hb dX1_cell_32 rfl (lv_at hl 3 rfl) ?_
    refine lv_bipush (v := nI 6) hx hb dX1_cell_33 (by decide) ?_
    refine gz_icmp_lt (tgt := 50) (za := ((k : Nat) : Int)) (zb := ((6 : Nat) : Int)) hx hb dX1_cell_35 (by decide) (nI_toInt (by omega)) (nI_toInt (by omega)) (fun c_5 => ?_) (fun c_5 => False.elim (by omega))
    refine lv_bipush (v := nI 12) hx hb dX1_cell_50 (by decide) ?_
    refine lv_iload_n hx hb dX1_cell_52 rfl (lv_at hl 1 rfl) ?_
    refine gz_imulc (i := 12) (j := i) hx hb dX1_cell_53 ?_
    refine lv_iload_n hx hb dX1_cell_54 rfl (lv_at hl 2 rfl) ?_
    refine gz_iadd (i := i * 12) (j := j) hx hb dX1_cell_55 ?_
    refine lv_istore (lv' := [(5, .int (nI ((i * 12) + j))), (0, .ref gm), (1, .int (nI i)), (2, .int (nI j)), (3, .int (nI k)), (4, .int (x))]) hx hb dX1_cell_56 hl (by decide) rfl (fun ls hl => ?_)
    refine lv_aload_n hx hb dX1_cell_58 rfl (lv_at hl 1 rfl) ?_
    refine va_get (D := (dC, dI)) (ci := 1) (v := .ref ak) (C := RX1) (T := TX1) (N := 10) hx hb hts hin1 hown hK hP 0 rfl rfl 2 (by decide) lk7 (fun _ h9 => h9) rfl dX1_cell_59 ?_
    refine lv_iload hx hb dX1_cell_62 (lv_at hl 0 rfl) ?_
    refine gz_iald (k := (i * 12) + j) hx hb hK hP 1 0 rfl rfl (by omega) (by omega) dX1_cell_64 ?_
    refine lv_istore (lv' := [(6, .int (fk ((i * 12) + j))), (5, .int (nI ((i * 12) + j))), (0, .ref gm), (1, .int (nI i)), (2, .int (nI j)), (3, .int (nI k)), (4, .int (x))]) hx hb dX1_cell_65 hl (by decide) rfl (fun ls hl => ?_)
    refine lv_aload_n hx hb dX1_cell_67 rfl (lv_at hl 2 rfl) ?_
    refine va_get (D := (dC, dI)) (ci := 1) (v := .ref ak) (C := RX1) (T := TX1) (N := 10) hx hb hts hin1 hown hK hP 0 rfl rfl 2 (by decide) lk7 (fun _ h9 => h9) rfl dX1_cell_68 ?_
    refine lv_iload hx hb dX1_cell_71 (lv_at hl 1 rfl) ?_
    refine lv_iload_n hx hb dX1_cell_73 rfl (lv_at hl 5 rfl) ?_
    refine gz_iast (k := (i * 12) + j) hx hb hK hP hD hS 1 0 rfl rfl (by omega) (by omega) dX1_cell_74 (fun H locs hP hD hS => ?_)
    have hP : va_P (dC, dI) vwCl (mw cA cZ gm ak ac ab al av ah ap (upd fk ((i * 12) + j) (nI k)) fc fs fl fp fv ft (nI rn) (nI cn) sc) H := hP
    have hD : va_D A (mw cA cZ gm ak ac ab al av ah ap (upd fk ((i * 12) + j) (nI k)) fc fs fl fp fv ft (nI rn) (nI cn) sc) := hD
    refine lv_aload_n hx hb dX1_cell_75 rfl (lv_at hl 2 rfl) ?_
    refine va_get (D := (dC, dI)) (ci := 1) (v := .ref ac) (C := RX1) (T := TX1) (N := 10) hx hb hts hin1 hown hK hP 0 rfl rfl 3 (by decide) lk13 (fun _ h9 => h9) rfl dX1_cell_76 ?_
    refine lv_iload hx hb dX1_cell_79 (lv_at hl 1 rfl) ?_
    refine lv_iload_n hx hb dX1_cell_81 rfl (lv_at hl 5 rfl) ?_
    refine lv_iconst (v := nI 1) hx hb dX1_cell_82 (by decide) ?_
    refine gz_icmp_le (tgt := 91) (za := ((k : Nat) : Int)) (zb := ((1 : Nat) : Int)) hx hb dX1_cell_83 (by decide) (nI_toInt (by omega)) (nI_toInt (by omega)) (fun c_6 => ?_) (fun c_6 => False.elim (by omega))
    refine lv_iconst (v := nI 0) hx hb dX1_cell_91 (by decide) ?_
    refine gz_iast (k := (i * 12) + j) hx hb hK hP hD hS 2 0 rfl rfl (by omega) (by omega) dX1_cell_92 (fun H locs hP hD hS => ?_)
    have hP : va_P (dC, dI) vwCl (mw cA cZ gm ak ac ab al av ah ap (upd fk ((i * 12) + j) (nI k)) (upd fc ((i * 12) + j) (nI 0)) fs fl fp fv ft (nI rn) (nI cn) sc) H := hP
    have hD : va_D A (mw cA cZ gm ak ac ab al av ah ap (upd fk ((i * 12) + j) (nI k)) (upd fc ((i * 12) + j) (nI 0)) fs fl fp fv ft (nI rn) (nI cn) sc) := hD
    refine lv_aload_n hx hb dX1_cell_93 rfl (lv_at hl 2 rfl) ?_
    refine va_get (D := (dC, dI)) (ci := 1) (v := .ref ab) (C := RX1) (T := TX1) (N := 10) hx hb hts hin1 hown hK hP 0 rfl rfl 4 (by decide) lk16 (fun _ h9 => h9) rfl dX1_cell_94 ?_
    refine lv_iload hx hb dX1_cell_97 (lv_at hl 1 rfl) ?_
    refine lv_iconst (v := nI 0) hx hb dX1_cell_99 (by decide) ?_
    refine gz_iast (k := (i * 12) + j) hx hb hK hP hD hS 3 0 rfl rfl (by omega) (by omega) dX1_cell_100 (fun H locs hP hD hS => ?_)
    have hP : va_P (dC, dI) vwCl (mw cA cZ gm ak ac ab al av ah ap (upd fk ((i * 12) + j) (nI k)) (upd fc ((i * 12) + j) (nI 0)) (upd fs ((i * 12) + j) (nI 0)) fl fp fv ft (nI rn) (nI cn) sc) H := hP
    have hD : va_D A (mw cA cZ gm ak ac ab al av ah ap (upd fk ((i * 12) + j) (nI k)) (upd fc ((i * 12) + j) (nI 0)) (upd fs ((i * 12) + j) (nI 0)) fl fp fv ft (nI rn) (nI cn) sc) := hD
    refine lv_aload_n hx hb dX1_cell_101 rfl (lv_at hl 2 rfl) ?_
    refine lv_iconst (v := nI 0) hx hb dX1_cell_102 (by decide) ?_
    refine va_put (D := (dC, dI)) (ci := 1) (v := .int (nI 0)) (ty := .boolean) (C := RX1) (T := TX1) (N := 10) hx hb hts hin1 tyX1 tyX1_ok nmX1 hown hK hP hD hS 0 rfl rfl 9 (by decide) lk43 (fun _ h9 => h9) rfl (by decide +kernel) rfl rfl (Nat.le_of_ble_eq_true rfl) dX1_cell_103 (fun H locs hP hD hS => ?_)
    have hP : va_P (dC, dI) vwCl (mw cA cZ gm ak ac ab al av ah ap (upd fk ((i * 12) + j) (nI k)) (upd fc ((i * 12) + j) (nI 0)) (upd fs ((i * 12) + j) (nI 0)) fl fp fv ft (nI rn) (nI cn) (nI 0)) H := hP
    have hD : va_D A (mw cA cZ gm ak ac ab al av ah ap (upd fk ((i * 12) + j) (nI k)) (upd fc ((i * 12) + j) (nI 0)) (upd fs ((i * 12) + j) (nI 0)) fl fp fv ft (nI rn) (nI cn) (nI 0)) := hD
    refine lv_iload hx hb dX1_cell_106 (lv_at hl 0 rfl) ?_
    exact W.iret (v := fk ((i * 12) + j)) hx hb hr (fun t ht hW => ⟨⟨fk ((i * 12) + j), (), rfl, rfl, by rw [ht]; exact (by rw [if_neg hk2]; exact hP), va_K.moved hW.alike hK, (by rw [if_neg hk2]; exact hD)⟩, hS.F ht⟩) hS.2.2 dX1_cell_108
set_option maxHeartbeats 4000000 in
set_option maxRecDepth 100000 in
theorem cM_cell_bad (l : Launch) (dC : Nat → ClassId) (dI : Nat → Nat → Nat) (cA cZ : ClassId) (gm ak ac ab al av ah ap : Nat) (fk fc fs fl fp fv ft : Nat → Int32) (rn cn : Nat) (sc : Int32) (x y k v : Int32) (hrn : 1 ≤ rn ∧ rn ≤ 12) (hcn : 1 ≤ cn ∧ cn ≤ 12) (hx0 : ¬ (0 ≤ x.toInt ∧ x.toInt < (rn : Int) ∧ 0 ≤ y.toInt ∧ y.toInt < (cn : Int) ∧ 0 ≤ k.toInt ∧ k.toInt ≤ 9 ∧ (k.toInt < 2 ∨ (0 ≤ v.toInt ∧ v.toInt < 40)) ∧ (k.toInt < 6 ∨ y.toInt + 1 = (cn : Int)))) : Met l yX1_cell wsX1_cell ({ frames := 1, cells := 0, slots := 0, locals := 22 }) (gPr (dC, dI) vwCl [(cA, .int), (cZ, .boolean)] [.ref gm, .int x, .int y, .int k, .int v] (mw cA cZ gm ak ac ab al av ah ap fk fc fs fl fp fv ft (nI rn) (nI cn) sc)) (QcRead (-1)) 0 0 (fun _ => False) := by
  refine Met.ofW (cc := cX1_cell) (maxL := 7) (ret := (some .int)) (by decide) rfl ?_
  intro p e s m args below meth c s₁ B hml hv
  obtain ⟨rfl, hP, hK⟩ := hv
  have hx := B.exec
  have hb := B.bytes
  have hr := B.returns
  have hts := atoms_spec (ws := wsX1_cell) B.pre
  have hown : s.vm.findClass RX1 = some m.cls := findClass_of_methodNamed B.named
  have hlocks := B.notSynchronized
  have hin1 : ∀ w ∈ u_ws RX1 TX1 10, w ∈ wsX1_cell := by decide +kernel
  have lk40 := hts (.fieldLink RX1 40 "LadderGridModel" "columns" "I") (by decide +kernel)
  have lk7 := hts (.fieldLink RX1 7 "LadderGridModel" "kinds" "[I") (by decide +kernel)
  have lk13 := hts (.fieldLink RX1 13 "LadderGridModel" "variables" "[I") (by decide +kernel)
  have lk16 := hts (.fieldLink RX1 16 "LadderGridModel" "before" "[I") (by decide +kernel)
  have lk43 := hts (.fieldLink RX1 43 "LadderGridModel" "isScanned" "Z") (by decide +kernel)
  have hl := lv_entry ([.ref gm, .int x, .int y, .int k, .int v]) (n := 7) (Nat.le_of_ble_eq_true rfl)
  rw [lg_entry_eq]
  generalize (lg_sl ([.ref gm, .int x, .int y, .int k, .int v]) ++ List.replicate (7 - (lg_sl ([.ref gm, .int x, .int y, .int k, .int v])).length) Slot.unset).toArray = ls at hl ⊢
  have hl : lv_has ls 7 [(0, .ref gm), (1, .int (x)), (2, .int (y)), (3, .int (k)), (4, .int (v))] := hl
  refine lv_aload_n hx hb dX1_cell_0 rfl (lv_at hl 0 rfl) ?_
  refine lv_iload_n hx hb dX1_cell_1 rfl (lv_at hl 1 rfl) ?_
  refine lv_iload_n hx hb dX1_cell_2 rfl (lv_at hl 2 rfl) ?_
  refine gz_callR (W.runV (As := [.int (x), .int (y)]) (rest := []) ⟨hx, hb, hml, hown, hts⟩ (cM_isCell l dC dI cA cZ gm ak ac ab al av ah ap fk fc fs fl fp fv ft rn cn sc x y hrn hcn) (cwV 2 hts gX1_cell_X1_isCell rfl rfl rfl (by decide +kernel) ⟨Nat.le_of_ble_eq_true rfl, Nat.le_of_ble_eq_true rfl⟩) (gz_preV (q := (RX1, TX1, 10)) (ci := 1) hK hP [0, 1, 2, 3, 4, 5, 6, 7] rfl rfl rfl) rfl rfl hl.1 rfl (lv_room (Nat.le_of_ble_eq_true rfl)) dX1_cell_3 ⟨Nat.le_of_ble_eq_true rfl, Nat.le_of_ble_eq_true rfl⟩) ?_
  refine gz_ifeqB (tgt := 48) hx hb dX1_cell_6 (by decide) (fun c_1 => ?_) (fun c_1 => ?_)
  · skip
    refine lv_iconst (v := (-1)) hx hb dX1_cell_48 (by decide) ?_
    exact W.iret (v := (-1)) hx hb hr (fun t ht hW => ⟨rfl, ht⟩) (fun q h => absurd h List.not_mem_nil) dX1_cell_49
  · skip
    refine lv_iload_n hx hb dX1_cell_9 rfl (lv_at hl 3 rfl) ?_
    refine gz_if_lt (tgt := 48) (za := k.toInt) hx hb dX1_cell_10 (by decide) rfl (fun c_2 => ?_) (fun c_2 => ?_)
    · skip
      refine lv_iconst (v := (-1)) hx hb dX1_cell_48 (by decide) ?_
      exact W.iret (v := (-1)) hx hb hr (fun t ht hW => ⟨rfl, ht⟩) (fun q h => absurd h List.not_mem_nil) dX1_cell_49
    · skip
      refine lv_iload_n hx hb dX1_cell_13 rfl (lv_at hl 3 rfl) ?_
      refine lv_bipush (v := nI 9) hx hb dX1_cell_14 (by decide) ?_
      refine gz_icmp_gt (tgt := 48) (za := k.toInt) (zb := ((9 : Nat) : Int)) hx hb dX1_cell_16 (by decide) rfl (nI_toInt (by omega)) (fun c_3 => ?_) (fun c_3 => ?_)
      · skip
        refine lv_iconst (v := (-1)) hx hb dX1_cell_48 (by decide) ?_
        exact W.iret (v := (-1)) hx hb hr (fun t ht hW => ⟨rfl, ht⟩) (fun q h => absurd h List.not_mem_nil) dX1_cell_49
      · skip
        refine lv_iload_n hx hb dX1_cell_19 rfl (lv_at hl 3 rfl) ?_
        refine lv_iconst (v := nI 1) hx hb dX1_cell_20 (by decide) ?_
        refine gz_icmp_le (tgt := 32) (za := k.toInt) (zb := ((1 : Nat) : Int)) hx hb dX1_cell_21 (by decide) rfl (nI_toInt (by omega)) (fun c_4 => ?_) (fun c_4 => ?_)
        · skip
          refine lv_iload_n hx hb dX1_cell_32 rfl (lv_at hl 3 rfl) ?_
          refine lv_bipush (v := nI 6) hx hb dX1_cell_33 (by decide) ?_
          refine gz_icmp_lt (tgt := 50) (za := k.toInt) (zb := ((6 : Nat) : Int)) hx hb dX1_cell_35 (by decide) rfl (nI_toInt (by omega)) (fun c_5 => ?_) (fun c_5 => ?_)
          · skip
            exact False.elim (by omega)
          · skip
            refine lv_iload_n hx hb dX1_cell_38 rfl (lv_at hl 2 rfl) ?_
            refine lv_aload_n hx hb dX1_cell_39 rfl (lv_at hl 0 rfl) ?_
            refine va_get (D := (dC, dI)) (ci := 1) (v := .int (nI cn)) (C := RX1) (T := TX1) (N := 10) hx hb hts hin1 hown hK hP 0 rfl rfl 1 (by decide) lk40 (fun _ h9 => h9) rfl dX1_cell_40 ?_
            refine lv_iconst (v := nI 1) hx hb dX1_cell_43 (by decide) ?_
            refine gz_isub (i := cn) (j := 1) hx hb dX1_cell_44 (by omega) ?_
            refine gz_icmp_eq (tgt := 50) (za := y.toInt) (zb := ((cn - 1 : Nat) : Int)) hx hb dX1_cell_45 (by decide) rfl (nI_toInt (by omega)) (fun c_6 => ?_) (fun c_6 => ?_)
            · skip
              exact False.elim (by omega)
            · skip
              refine lv_iconst (v := (-1)) hx hb dX1_cell_48 (by decide) ?_
              exact W.iret (v := (-1)) hx hb hr (fun t ht hW => ⟨rfl, ht⟩) (fun q h => absurd h List.not_mem_nil) dX1_cell_49
        · skip
          refine lv_iload hx hb dX1_cell_24 (lv_at hl 4 rfl) ?_
          refine gz_callR (W.runS (As := [.int (v)]) (rest := []) ⟨hx, hb, hml, hown, hts⟩ (cM_isVariable l v) (va_cwS 1 hts gX1_cell_X1_isVariable rfl rfl rfl (by decide +kernel) ⟨Nat.le_of_ble_eq_true rfl, Nat.le_of_ble_eq_true rfl⟩) preEq rfl rfl hl.1 rfl (lv_room (Nat.le_of_ble_eq_true rfl)) dX1_cell_26 ⟨Nat.le_of_ble_eq_true rfl, Nat.le_of_ble_eq_true rfl⟩) ?_
          refine gz_ifeqB (tgt := 48) hx hb dX1_cell_29 (by decide) (fun c_7 => ?_) (fun c_7 => ?_)
          · skip
            refine lv_iconst (v := (-1)) hx hb dX1_cell_48 (by decide) ?_
            exact W.iret (v := (-1)) hx hb hr (fun t ht hW => ⟨rfl, ht⟩) (fun q h => absurd h List.not_mem_nil) dX1_cell_49
          · skip
            refine lv_iload_n hx hb dX1_cell_32 rfl (lv_at hl 3 rfl) ?_
            refine lv_bipush (v := nI 6) hx hb dX1_cell_33 (by decide) ?_
            refine gz_icmp_lt (tgt := 50) (za := k.toInt) (zb := ((6 : Nat) : Int)) hx hb dX1_cell_35 (by decide) rfl (nI_toInt (by omega)) (fun c_8 => ?_) (fun c_8 => ?_)
            · skip
              exact False.elim (by omega)
            · skip
              refine lv_iload_n hx hb dX1_cell_38 rfl (lv_at hl 2 rfl) ?_
              refine lv_aload_n hx hb dX1_cell_39 rfl (lv_at hl 0 rfl) ?_
              refine va_get (D := (dC, dI)) (ci := 1) (v := .int (nI cn)) (C := RX1) (T := TX1) (N := 10) hx hb hts hin1 hown hK hP 0 rfl rfl 1 (by decide) lk40 (fun _ h9 => h9) rfl dX1_cell_40 ?_
              refine lv_iconst (v := nI 1) hx hb dX1_cell_43 (by decide) ?_
              refine gz_isub (i := cn) (j := 1) hx hb dX1_cell_44 (by omega) ?_
              refine gz_icmp_eq (tgt := 50) (za := y.toInt) (zb := ((cn - 1 : Nat) : Int)) hx hb dX1_cell_45 (by decide) rfl (nI_toInt (by omega)) (fun c_9 => ?_) (fun c_9 => ?_)
              · skip
                exact False.elim (by omega)
              · skip
                refine lv_iconst (v := (-1)) hx hb dX1_cell_48 (by decide) ?_
                exact W.iret (v := (-1)) hx hb hr (fun t ht hW => ⟨rfl, ht⟩) (fun q h => absurd h List.not_mem_nil) dX1_cell_49
set_option maxHeartbeats 4000000 in
set_option maxRecDepth 100000 in
theorem cM_power (l : Launch) (dC : Nat → ClassId) (dI : Nat → Nat → Nat) (cA cZ : ClassId) (gm ak ac ab al av ah ap : Nat) (fk fc fs fl fp fv ft : Nat → Int32) (rn cn : Nat) (sc : Int32) (i j : Nat) (hrn : 1 ≤ rn ∧ rn ≤ 12) (hcn : 1 ≤ cn ∧ cn ≤ 12) (hi : i < rn) (hj : j ≤ cn) (hsc : ¬ sc = nI 0) (hk6 : j < cn ∨ (fk (i * 12 + (cn - 1))).toInt < 6) (hfp : g01 156 fp) : Met l yX1_power wsX1_power ({ frames := 0, cells := 0, slots := 0, locals := 0 }) (gPr (dC, dI) vwCl [(cA, .int), (cZ, .boolean)] [.ref gm, .int (nI i), .int (nI j)] (mw cA cZ gm ak ac ab al av ah ap fk fc fs fl fp fv ft (nI rn) (nI cn) sc)) (QcRead (fp (i * 13 + j))) 0 0 (fun _ => False) := by
  refine Met.ofW (cc := cX1_power) (maxL := 3) (ret := (some .int)) (by decide) rfl ?_
  intro p e s m args below meth c s₁ B hml hv
  obtain ⟨rfl, hP, hK⟩ := hv
  have hx := B.exec
  have hb := B.bytes
  have hr := B.returns
  have hts := atoms_spec (ws := wsX1_power) B.pre
  have hown : s.vm.findClass RX1 = some m.cls := findClass_of_methodNamed B.named
  have hlocks := B.notSynchronized
  have hin1 : ∀ w ∈ u_ws RX1 TX1 10, w ∈ wsX1_power := by decide +kernel
  have lk36 := hts (.fieldLink RX1 36 "LadderGridModel" "rows" "I") (by decide +kernel)
  have lk40 := hts (.fieldLink RX1 40 "LadderGridModel" "columns" "I") (by decide +kernel)
  have lk43 := hts (.fieldLink RX1 43 "LadderGridModel" "isScanned" "Z") (by decide +kernel)
  have lk7 := hts (.fieldLink RX1 7 "LadderGridModel" "kinds" "[I") (by decide +kernel)
  have lk29 := hts (.fieldLink RX1 29 "LadderGridModel" "hasPower" "[Z") (by decide +kernel)
  have hl := lv_entry ([.ref gm, .int (nI i), .int (nI j)]) (n := 3) (Nat.le_of_ble_eq_true rfl)
  rw [lg_entry_eq]
  generalize (lg_sl ([.ref gm, .int (nI i), .int (nI j)]) ++ List.replicate (3 - (lg_sl ([.ref gm, .int (nI i), .int (nI j)])).length) Slot.unset).toArray = ls at hl ⊢
  have hl : lv_has ls 3 [(0, .ref gm), (1, .int (nI i)), (2, .int (nI j))] := hl
  rcases hfp (i * 13 + j) (by omega) with hf | hf
  · skip
    refine lv_iload_n hx hb dX1_power_0 rfl (lv_at hl 1 rfl) ?_
    refine gz_if_lt (tgt := 60) (za := ((i : Nat) : Int)) hx hb dX1_power_1 (by decide) (nI_toInt (by omega)) (fun c_1 => False.elim (by omega)) (fun c_1 => ?_)
    refine lv_iload_n hx hb dX1_power_4 rfl (lv_at hl 1 rfl) ?_
    refine lv_aload_n hx hb dX1_power_5 rfl (lv_at hl 0 rfl) ?_
    refine va_get (D := (dC, dI)) (ci := 1) (v := .int (nI rn)) (C := RX1) (T := TX1) (N := 10) hx hb hts hin1 hown hK hP 0 rfl rfl 0 (by decide) lk36 (fun _ h9 => h9) rfl dX1_power_6 ?_
    refine gz_icmp_ge (tgt := 60) (za := ((i : Nat) : Int)) (zb := ((rn : Nat) : Int)) hx hb dX1_power_9 (by decide) (nI_toInt (by omega)) (nI_toInt (by omega)) (fun c_2 => False.elim (by omega)) (fun c_2 => ?_)
    refine lv_iload_n hx hb dX1_power_12 rfl (lv_at hl 2 rfl) ?_
    refine gz_if_lt (tgt := 60) (za := ((j : Nat) : Int)) hx hb dX1_power_13 (by decide) (nI_toInt (by omega)) (fun c_3 => False.elim (by omega)) (fun c_3 => ?_)
    refine lv_iload_n hx hb dX1_power_16 rfl (lv_at hl 2 rfl) ?_
    refine lv_aload_n hx hb dX1_power_17 rfl (lv_at hl 0 rfl) ?_
    refine va_get (D := (dC, dI)) (ci := 1) (v := .int (nI cn)) (C := RX1) (T := TX1) (N := 10) hx hb hts hin1 hown hK hP 0 rfl rfl 1 (by decide) lk40 (fun _ h9 => h9) rfl dX1_power_18 ?_
    refine gz_icmp_gt (tgt := 60) (za := ((j : Nat) : Int)) (zb := ((cn : Nat) : Int)) hx hb dX1_power_21 (by decide) (nI_toInt (by omega)) (nI_toInt (by omega)) (fun c_4 => False.elim (by omega)) (fun c_4 => ?_)
    refine lv_aload_n hx hb dX1_power_24 rfl (lv_at hl 0 rfl) ?_
    refine va_get (D := (dC, dI)) (ci := 1) (v := .int (sc)) (C := RX1) (T := TX1) (N := 10) hx hb hts hin1 hown hK hP 0 rfl rfl 9 (by decide) lk43 (fun _ h9 => h9) rfl dX1_power_25 ?_
    refine lv_if_eq (tgt := 60) hx hb dX1_power_28 (by decide) (fun c_5 => False.elim (hsc c_5)) (fun c_5 => ?_)
    refine lv_iload_n hx hb dX1_power_31 rfl (lv_at hl 2 rfl) ?_
    refine lv_aload_n hx hb dX1_power_32 rfl (lv_at hl 0 rfl) ?_
    refine va_get (D := (dC, dI)) (ci := 1) (v := .int (nI cn)) (C := RX1) (T := TX1) (N := 10) hx hb hts hin1 hown hK hP 0 rfl rfl 1 (by decide) lk40 (fun _ h9 => h9) rfl dX1_power_33 ?_
    refine gz_icmp_ne (tgt := 62) (za := ((j : Nat) : Int)) (zb := ((cn : Nat) : Int)) hx hb dX1_power_36 (by decide) (nI_toInt (by omega)) (nI_toInt (by omega)) (fun c_6 => ?_) (fun c_6 => ?_)
    · skip
      refine lv_aload_n hx hb dX1_power_62 rfl (lv_at hl 0 rfl) ?_
      refine va_get (D := (dC, dI)) (ci := 1) (v := .ref ap) (C := RX1) (T := TX1) (N := 10) hx hb hts hin1 hown hK hP 0 rfl rfl 8 (by decide) lk29 (fun _ h9 => h9) rfl dX1_power_63 ?_
      refine lv_bipush (v := nI 13) hx hb dX1_power_66 (by decide) ?_
      refine lv_iload_n hx hb dX1_power_68 rfl (lv_at hl 1 rfl) ?_
      refine gz_imulc (i := 13) (j := i) hx hb dX1_power_69 ?_
      refine lv_iload_n hx hb dX1_power_70 rfl (lv_at hl 2 rfl) ?_
      refine gz_iadd (i := i * 13) (j := j) hx hb dX1_power_71 ?_
      refine gz_zald (k := (i * 13) + j) hx hb hK hP 7 1 rfl rfl (by omega) (by omega) dX1_power_72 ?_
      refine lv_if_eq (tgt := 80) hx hb dX1_power_73 (by decide) (fun c_7 => ?_) (fun c_7 => False.elim (c_7 hf))
      refine lv_iconst (v := nI 0) hx hb dX1_power_80 (by decide) ?_
      exact W.iret (v := nI 0) hx hb hr (fun t ht hW => ⟨(by rw [hf]), ht⟩) (fun q h => absurd h List.not_mem_nil) dX1_power_81
    · skip
      refine lv_aload_n hx hb dX1_power_39 rfl (lv_at hl 0 rfl) ?_
      refine va_get (D := (dC, dI)) (ci := 1) (v := .ref ak) (C := RX1) (T := TX1) (N := 10) hx hb hts hin1 hown hK hP 0 rfl rfl 2 (by decide) lk7 (fun _ h9 => h9) rfl dX1_power_40 ?_
      refine lv_bipush (v := nI 12) hx hb dX1_power_43 (by decide) ?_
      refine lv_iload_n hx hb dX1_power_45 rfl (lv_at hl 1 rfl) ?_
      refine gz_imulc (i := 12) (j := i) hx hb dX1_power_46 ?_
      refine lv_aload_n hx hb dX1_power_47 rfl (lv_at hl 0 rfl) ?_
      refine va_get (D := (dC, dI)) (ci := 1) (v := .int (nI cn)) (C := RX1) (T := TX1) (N := 10) hx hb hts hin1 hown hK hP 0 rfl rfl 1 (by decide) lk40 (fun _ h9 => h9) rfl dX1_power_48 ?_
      refine gz_iadd (i := i * 12) (j := cn) hx hb dX1_power_51 ?_
      refine lv_iconst (v := nI 1) hx hb dX1_power_52 (by decide) ?_
      refine gz_isub (i := (i * 12) + cn) (j := 1) hx hb dX1_power_53 (by omega) ?_
      refine gz_top (j := i * 12 + (cn - 1)) (by omega) ?_
      refine gz_iald (k := i * 12 + (cn - 1)) hx hb hK hP 1 0 rfl rfl (by omega) (by omega) dX1_power_54 ?_
      refine lv_bipush (v := nI 6) hx hb dX1_power_55 (by decide) ?_
      refine gz_icmp_lt (tgt := 62) (za := (fk (i * 12 + (cn - 1))).toInt) (zb := ((6 : Nat) : Int)) hx hb dX1_power_57 (by decide) rfl (nI_toInt (by omega)) (fun c_8 => ?_) (fun c_8 => False.elim (by omega))
      refine lv_aload_n hx hb dX1_power_62 rfl (lv_at hl 0 rfl) ?_
      refine va_get (D := (dC, dI)) (ci := 1) (v := .ref ap) (C := RX1) (T := TX1) (N := 10) hx hb hts hin1 hown hK hP 0 rfl rfl 8 (by decide) lk29 (fun _ h9 => h9) rfl dX1_power_63 ?_
      refine lv_bipush (v := nI 13) hx hb dX1_power_66 (by decide) ?_
      refine lv_iload_n hx hb dX1_power_68 rfl (lv_at hl 1 rfl) ?_
      refine gz_imulc (i := 13) (j := i) hx hb dX1_power_69 ?_
      refine lv_iload_n hx hb dX1_power_70 rfl (lv_at hl 2 rfl) ?_
      refine gz_iadd (i := i * 13) (j := j) hx hb dX1_power_71 ?_
      refine gz_zald (k := (i * 13) + j) hx hb hK hP 7 1 rfl rfl (by omega) (by omega) dX1_power_72 ?_
      refine lv_if_eq (tgt := 80) hx hb dX1_power_73 (by decide) (fun c_9 => ?_) (fun c_9 => False.elim (c_9 hf))
      refine lv_iconst (v := nI 0) hx hb dX1_power_80 (by decide) ?_
      exact W.iret (v := nI 0) hx hb hr (fun t ht hW => ⟨(by rw [hf]), ht⟩) (fun q h => absurd h List.not_mem_nil) dX1_power_81
  · skip
    refine lv_iload_n hx hb dX1_power_0 rfl (lv_at hl 1 rfl) ?_
    refine gz_if_lt (tgt := 60) (za := ((i : Nat) : Int)) hx hb dX1_power_1 (by decide) (nI_toInt (by omega)) (fun c_1 => False.elim (by omega)) (fun c_1 => ?_)
    refine lv_iload_n hx hb dX1_power_4 rfl (lv_at hl 1 rfl) ?_
    refine lv_aload_n hx hb dX1_power_5 rfl (lv_at hl 0 rfl) ?_
    refine va_get (D := (dC, dI)) (ci := 1) (v := .int (nI rn)) (C := RX1) (T := TX1) (N := 10) hx hb hts hin1 hown hK hP 0 rfl rfl 0 (by decide) lk36 (fun _ h9 => h9) rfl dX1_power_6 ?_
    refine gz_icmp_ge (tgt := 60) (za := ((i : Nat) : Int)) (zb := ((rn : Nat) : Int)) hx hb dX1_power_9 (by decide) (nI_toInt (by omega)) (nI_toInt (by omega)) (fun c_2 => False.elim (by omega)) (fun c_2 => ?_)
    refine lv_iload_n hx hb dX1_power_12 rfl (lv_at hl 2 rfl) ?_
    refine gz_if_lt (tgt := 60) (za := ((j : Nat) : Int)) hx hb dX1_power_13 (by decide) (nI_toInt (by omega)) (fun c_3 => False.elim (by omega)) (fun c_3 => ?_)
    refine lv_iload_n hx hb dX1_power_16 rfl (lv_at hl 2 rfl) ?_
    refine lv_aload_n hx hb dX1_power_17 rfl (lv_at hl 0 rfl) ?_
    refine va_get (D := (dC, dI)) (ci := 1) (v := .int (nI cn)) (C := RX1) (T := TX1) (N := 10) hx hb hts hin1 hown hK hP 0 rfl rfl 1 (by decide) lk40 (fun _ h9 => h9) rfl dX1_power_18 ?_
    refine gz_icmp_gt (tgt := 60) (za := ((j : Nat) : Int)) (zb := ((cn : Nat) : Int)) hx hb dX1_power_21 (by decide) (nI_toInt (by omega)) (nI_toInt (by omega)) (fun c_4 => False.elim (by omega)) (fun c_4 => ?_)
    refine lv_aload_n hx hb dX1_power_24 rfl (lv_at hl 0 rfl) ?_
    refine va_get (D := (dC, dI)) (ci := 1) (v := .int (sc)) (C := RX1) (T := TX1) (N := 10) hx hb hts hin1 hown hK hP 0 rfl rfl 9 (by decide) lk43 (fun _ h9 => h9) rfl dX1_power_25 ?_
    refine lv_if_eq (tgt := 60) hx hb dX1_power_28 (by decide) (fun c_5 => False.elim (hsc c_5)) (fun c_5 => ?_)
    refine lv_iload_n hx hb dX1_power_31 rfl (lv_at hl 2 rfl) ?_
    refine lv_aload_n hx hb dX1_power_32 rfl (lv_at hl 0 rfl) ?_
    refine va_get (D := (dC, dI)) (ci := 1) (v := .int (nI cn)) (C := RX1) (T := TX1) (N := 10) hx hb hts hin1 hown hK hP 0 rfl rfl 1 (by decide) lk40 (fun _ h9 => h9) rfl dX1_power_33 ?_
    refine gz_icmp_ne (tgt := 62) (za := ((j : Nat) : Int)) (zb := ((cn : Nat) : Int)) hx hb dX1_power_36 (by decide) (nI_toInt (by omega)) (nI_toInt (by omega)) (fun c_6 => ?_) (fun c_6 => ?_)
    · skip
      refine lv_aload_n hx hb dX1_power_62 rfl (lv_at hl 0 rfl) ?_
      refine va_get (D := (dC, dI)) (ci := 1) (v := .ref ap) (C := RX1) (T := TX1) (N := 10) hx hb hts hin1 hown hK hP 0 rfl rfl 8 (by decide) lk29 (fun _ h9 => h9) rfl dX1_power_63 ?_
      refine lv_bipush (v := nI 13) hx hb dX1_power_66 (by decide) ?_
      refine lv_iload_n hx hb dX1_power_68 rfl (lv_at hl 1 rfl) ?_
      refine gz_imulc (i := 13) (j := i) hx hb dX1_power_69 ?_
      refine lv_iload_n hx hb dX1_power_70 rfl (lv_at hl 2 rfl) ?_
      refine gz_iadd (i := i * 13) (j := j) hx hb dX1_power_71 ?_
      refine gz_zald (k := (i * 13) + j) hx hb hK hP 7 1 rfl rfl (by omega) (by omega) dX1_power_72 ?_
      refine lv_if_eq (tgt := 80) hx hb dX1_power_73 (by decide) (fun c_7 => False.elim (absurd (hf.symm.trans c_7) (by decide))) (fun c_7 => ?_)
      refine lv_iconst (v := nI 1) hx hb dX1_power_76 (by decide) ?_
      refine lv_goto (tgt := 81) hx hb dX1_power_77 (by decide) ?_
      exact W.iret (v := nI 1) hx hb hr (fun t ht hW => ⟨(by rw [hf]), ht⟩) (fun q h => absurd h List.not_mem_nil) dX1_power_81
    · skip
      refine lv_aload_n hx hb dX1_power_39 rfl (lv_at hl 0 rfl) ?_
      refine va_get (D := (dC, dI)) (ci := 1) (v := .ref ak) (C := RX1) (T := TX1) (N := 10) hx hb hts hin1 hown hK hP 0 rfl rfl 2 (by decide) lk7 (fun _ h9 => h9) rfl dX1_power_40 ?_
      refine lv_bipush (v := nI 12) hx hb dX1_power_43 (by decide) ?_
      refine lv_iload_n hx hb dX1_power_45 rfl (lv_at hl 1 rfl) ?_
      refine gz_imulc (i := 12) (j := i) hx hb dX1_power_46 ?_
      refine lv_aload_n hx hb dX1_power_47 rfl (lv_at hl 0 rfl) ?_
      refine va_get (D := (dC, dI)) (ci := 1) (v := .int (nI cn)) (C := RX1) (T := TX1) (N := 10) hx hb hts hin1 hown hK hP 0 rfl rfl 1 (by decide) lk40 (fun _ h9 => h9) rfl dX1_power_48 ?_
      refine gz_iadd (i := i * 12) (j := cn) hx hb dX1_power_51 ?_
      refine lv_iconst (v := nI 1) hx hb dX1_power_52 (by decide) ?_
      refine gz_isub (i := (i * 12) + cn) (j := 1) hx hb dX1_power_53 (by omega) ?_
      refine gz_top (j := i * 12 + (cn - 1)) (by omega) ?_
      refine gz_iald (k := i * 12 + (cn - 1)) hx hb hK hP 1 0 rfl rfl (by omega) (by omega) dX1_power_54 ?_
      refine lv_bipush (v := nI 6) hx hb dX1_power_55 (by decide) ?_
      refine gz_icmp_lt (tgt := 62) (za := (fk (i * 12 + (cn - 1))).toInt) (zb := ((6 : Nat) : Int)) hx hb dX1_power_57 (by decide) rfl (nI_toInt (by omega)) (fun c_8 => ?_) (fun c_8 => False.elim (by omega))
      refine lv_aload_n hx hb dX1_power_62 rfl (lv_at hl 0 rfl) ?_
      refine va_get (D := (dC, dI)) (ci := 1) (v := .ref ap) (C := RX1) (T := TX1) (N := 10) hx hb hts hin1 hown hK hP 0 rfl rfl 8 (by decide) lk29 (fun _ h9 => h9) rfl dX1_power_63 ?_
      refine lv_bipush (v := nI 13) hx hb dX1_power_66 (by decide) ?_
      refine lv_iload_n hx hb dX1_power_68 rfl (lv_at hl 1 rfl) ?_
      refine gz_imulc (i := 13) (j := i) hx hb dX1_power_69 ?_
      refine lv_iload_n hx hb dX1_power_70 rfl (lv_at hl 2 rfl) ?_
      refine gz_iadd (i := i * 13) (j := j) hx hb dX1_power_71 ?_
      refine gz_zald (k := (i * 13) + j) hx hb hK hP 7 1 rfl rfl (by omega) (by omega) dX1_power_72 ?_
      refine lv_if_eq (tgt := 80) hx hb dX1_power_73 (by decide) (fun c_9 => False.elim (absurd (hf.symm.trans c_9) (by decide))) (fun c_9 => ?_)
      refine lv_iconst (v := nI 1) hx hb dX1_power_76 (by decide) ?_
      refine lv_goto (tgt := 81) hx hb dX1_power_77 (by decide) ?_
      exact W.iret (v := nI 1) hx hb hr (fun t ht hW => ⟨(by rw [hf]), ht⟩) (fun q h => absurd h List.not_mem_nil) dX1_power_81
set_option maxHeartbeats 4000000 in
set_option maxRecDepth 100000 in
theorem cM_power_bad (l : Launch) (dC : Nat → ClassId) (dI : Nat → Nat → Nat) (cA cZ : ClassId) (gm ak ac ab al av ah ap : Nat) (fk fc fs fl fp fv ft : Nat → Int32) (rn cn : Nat) (sc : Int32) (x y : Int32) (hrn : 1 ≤ rn ∧ rn ≤ 12) (hcn : 1 ≤ cn ∧ cn ≤ 12) (hx0 : ¬ (0 ≤ x.toInt ∧ x.toInt < (rn : Int)) ∨ ¬ (0 ≤ y.toInt ∧ y.toInt ≤ (cn : Int)) ∨ sc = nI 0) : Met l yX1_power wsX1_power ({ frames := 0, cells := 0, slots := 0, locals := 0 }) (gPr (dC, dI) vwCl [(cA, .int), (cZ, .boolean)] [.ref gm, .int x, .int y] (mw cA cZ gm ak ac ab al av ah ap fk fc fs fl fp fv ft (nI rn) (nI cn) sc)) (QcRead (-1)) 0 0 (fun _ => False) := by
  refine Met.ofW (cc := cX1_power) (maxL := 3) (ret := (some .int)) (by decide) rfl ?_
  intro p e s m args below meth c s₁ B hml hv
  obtain ⟨rfl, hP, hK⟩ := hv
  have hx := B.exec
  have hb := B.bytes
  have hr := B.returns
  have hts := atoms_spec (ws := wsX1_power) B.pre
  have hown : s.vm.findClass RX1 = some m.cls := findClass_of_methodNamed B.named
  have hlocks := B.notSynchronized
  have hin1 : ∀ w ∈ u_ws RX1 TX1 10, w ∈ wsX1_power := by decide +kernel
  have lk36 := hts (.fieldLink RX1 36 "LadderGridModel" "rows" "I") (by decide +kernel)
  have lk40 := hts (.fieldLink RX1 40 "LadderGridModel" "columns" "I") (by decide +kernel)
  have lk43 := hts (.fieldLink RX1 43 "LadderGridModel" "isScanned" "Z") (by decide +kernel)
  have lk7 := hts (.fieldLink RX1 7 "LadderGridModel" "kinds" "[I") (by decide +kernel)
  have lk29 := hts (.fieldLink RX1 29 "LadderGridModel" "hasPower" "[Z") (by decide +kernel)
  have hl := lv_entry ([.ref gm, .int x, .int y]) (n := 3) (Nat.le_of_ble_eq_true rfl)
  rw [lg_entry_eq]
  generalize (lg_sl ([.ref gm, .int x, .int y]) ++ List.replicate (3 - (lg_sl ([.ref gm, .int x, .int y])).length) Slot.unset).toArray = ls at hl ⊢
  have hl : lv_has ls 3 [(0, .ref gm), (1, .int (x)), (2, .int (y))] := hl
  refine lv_iload_n hx hb dX1_power_0 rfl (lv_at hl 1 rfl) ?_
  refine gz_if_lt (tgt := 60) (za := x.toInt) hx hb dX1_power_1 (by decide) rfl (fun c_1 => ?_) (fun c_1 => ?_)
  · skip
    refine lv_iconst (v := (-1)) hx hb dX1_power_60 (by decide) ?_
    exact W.iret (v := (-1)) hx hb hr (fun t ht hW => ⟨rfl, ht⟩) (fun q h => absurd h List.not_mem_nil) dX1_power_61
  · skip
    refine lv_iload_n hx hb dX1_power_4 rfl (lv_at hl 1 rfl) ?_
    refine lv_aload_n hx hb dX1_power_5 rfl (lv_at hl 0 rfl) ?_
    refine va_get (D := (dC, dI)) (ci := 1) (v := .int (nI rn)) (C := RX1) (T := TX1) (N := 10) hx hb hts hin1 hown hK hP 0 rfl rfl 0 (by decide) lk36 (fun _ h9 => h9) rfl dX1_power_6 ?_
    refine gz_icmp_ge (tgt := 60) (za := x.toInt) (zb := ((rn : Nat) : Int)) hx hb dX1_power_9 (by decide) rfl (nI_toInt (by omega)) (fun c_2 => ?_) (fun c_2 => ?_)
    · skip
      refine lv_iconst (v := (-1)) hx hb dX1_power_60 (by decide) ?_
      exact W.iret (v := (-1)) hx hb hr (fun t ht hW => ⟨rfl, ht⟩) (fun q h => absurd h List.not_mem_nil) dX1_power_61
    · skip
      refine lv_iload_n hx hb dX1_power_12 rfl (lv_at hl 2 rfl) ?_
      refine gz_if_lt (tgt := 60) (za := y.toInt) hx hb dX1_power_13 (by decide) rfl (fun c_3 => ?_) (fun c_3 => ?_)
      · skip
        refine lv_iconst (v := (-1)) hx hb dX1_power_60 (by decide) ?_
        exact W.iret (v := (-1)) hx hb hr (fun t ht hW => ⟨rfl, ht⟩) (fun q h => absurd h List.not_mem_nil) dX1_power_61
      · skip
        refine lv_iload_n hx hb dX1_power_16 rfl (lv_at hl 2 rfl) ?_
        refine lv_aload_n hx hb dX1_power_17 rfl (lv_at hl 0 rfl) ?_
        refine va_get (D := (dC, dI)) (ci := 1) (v := .int (nI cn)) (C := RX1) (T := TX1) (N := 10) hx hb hts hin1 hown hK hP 0 rfl rfl 1 (by decide) lk40 (fun _ h9 => h9) rfl dX1_power_18 ?_
        refine gz_icmp_gt (tgt := 60) (za := y.toInt) (zb := ((cn : Nat) : Int)) hx hb dX1_power_21 (by decide) rfl (nI_toInt (by omega)) (fun c_4 => ?_) (fun c_4 => ?_)
        · skip
          refine lv_iconst (v := (-1)) hx hb dX1_power_60 (by decide) ?_
          exact W.iret (v := (-1)) hx hb hr (fun t ht hW => ⟨rfl, ht⟩) (fun q h => absurd h List.not_mem_nil) dX1_power_61
        · skip
          refine lv_aload_n hx hb dX1_power_24 rfl (lv_at hl 0 rfl) ?_
          refine va_get (D := (dC, dI)) (ci := 1) (v := .int (sc)) (C := RX1) (T := TX1) (N := 10) hx hb hts hin1 hown hK hP 0 rfl rfl 9 (by decide) lk43 (fun _ h9 => h9) rfl dX1_power_25 ?_
          refine lv_if_eq (tgt := 60) hx hb dX1_power_28 (by decide) (fun c_5 => ?_) (fun c_5 => False.elim (by rcases hx0 with hq | hq | hq; omega; omega; exact c_5 hq))
          refine lv_iconst (v := (-1)) hx hb dX1_power_60 (by decide) ?_
          exact W.iret (v := (-1)) hx hb hr (fun t ht hW => ⟨rfl, ht⟩) (fun q h => absurd h List.not_mem_nil) dX1_power_61
set_option maxHeartbeats 4000000 in
set_option maxRecDepth 100000 in
theorem cM_power_coil (l : Launch) (dC : Nat → ClassId) (dI : Nat → Nat → Nat) (cA cZ : ClassId) (gm ak ac ab al av ah ap : Nat) (fk fc fs fl fp fv ft : Nat → Int32) (rn cn : Nat) (sc : Int32) (i : Nat) (hrn : 1 ≤ rn ∧ rn ≤ 12) (hcn : 1 ≤ cn ∧ cn ≤ 12) (hi : i < rn) (hsc : ¬ sc = nI 0) (hk6 : 6 ≤ (fk (i * 12 + (cn - 1))).toInt) : Met l yX1_power wsX1_power ({ frames := 0, cells := 0, slots := 0, locals := 0 }) (gPr (dC, dI) vwCl [(cA, .int), (cZ, .boolean)] [.ref gm, .int (nI i), .int (nI cn)] (mw cA cZ gm ak ac ab al av ah ap fk fc fs fl fp fv ft (nI rn) (nI cn) sc)) (QcRead (-1)) 0 0 (fun _ => False) := by
  refine Met.ofW (cc := cX1_power) (maxL := 3) (ret := (some .int)) (by decide) rfl ?_
  intro p e s m args below meth c s₁ B hml hv
  obtain ⟨rfl, hP, hK⟩ := hv
  have hx := B.exec
  have hb := B.bytes
  have hr := B.returns
  have hts := atoms_spec (ws := wsX1_power) B.pre
  have hown : s.vm.findClass RX1 = some m.cls := findClass_of_methodNamed B.named
  have hlocks := B.notSynchronized
  have hin1 : ∀ w ∈ u_ws RX1 TX1 10, w ∈ wsX1_power := by decide +kernel
  have lk36 := hts (.fieldLink RX1 36 "LadderGridModel" "rows" "I") (by decide +kernel)
  have lk40 := hts (.fieldLink RX1 40 "LadderGridModel" "columns" "I") (by decide +kernel)
  have lk43 := hts (.fieldLink RX1 43 "LadderGridModel" "isScanned" "Z") (by decide +kernel)
  have lk7 := hts (.fieldLink RX1 7 "LadderGridModel" "kinds" "[I") (by decide +kernel)
  have lk29 := hts (.fieldLink RX1 29 "LadderGridModel" "hasPower" "[Z") (by decide +kernel)
  have hl := lv_entry ([.ref gm, .int (nI i), .int (nI cn)]) (n := 3) (Nat.le_of_ble_eq_true rfl)
  rw [lg_entry_eq]
  generalize (lg_sl ([.ref gm, .int (nI i), .int (nI cn)]) ++ List.replicate (3 - (lg_sl ([.ref gm, .int (nI i), .int (nI cn)])).length) Slot.unset).toArray = ls at hl ⊢
  have hl : lv_has ls 3 [(0, .ref gm), (1, .int (nI i)), (2, .int (nI cn))] := hl
  refine lv_iload_n hx hb dX1_power_0 rfl (lv_at hl 1 rfl) ?_
  refine gz_if_lt (tgt := 60) (za := ((i : Nat) : Int)) hx hb dX1_power_1 (by decide) (nI_toInt (by omega)) (fun c_1 => False.elim (by omega)) (fun c_1 => ?_)
  refine lv_iload_n hx hb dX1_power_4 rfl (lv_at hl 1 rfl) ?_
  refine lv_aload_n hx hb dX1_power_5 rfl (lv_at hl 0 rfl) ?_
  refine va_get (D := (dC, dI)) (ci := 1) (v := .int (nI rn)) (C := RX1) (T := TX1) (N := 10) hx hb hts hin1 hown hK hP 0 rfl rfl 0 (by decide) lk36 (fun _ h9 => h9) rfl dX1_power_6 ?_
  refine gz_icmp_ge (tgt := 60) (za := ((i : Nat) : Int)) (zb := ((rn : Nat) : Int)) hx hb dX1_power_9 (by decide) (nI_toInt (by omega)) (nI_toInt (by omega)) (fun c_2 => False.elim (by omega)) (fun c_2 => ?_)
  refine lv_iload_n hx hb dX1_power_12 rfl (lv_at hl 2 rfl) ?_
  refine gz_if_lt (tgt := 60) (za := ((cn : Nat) : Int)) hx hb dX1_power_13 (by decide) (nI_toInt (by omega)) (fun c_3 => False.elim (by omega)) (fun c_3 => ?_)
  refine lv_iload_n hx hb dX1_power_16 rfl (lv_at hl 2 rfl) ?_
  refine lv_aload_n hx hb dX1_power_17 rfl (lv_at hl 0 rfl) ?_
  refine va_get (D := (dC, dI)) (ci := 1) (v := .int (nI cn)) (C := RX1) (T := TX1) (N := 10) hx hb hts hin1 hown hK hP 0 rfl rfl 1 (by decide) lk40 (fun _ h9 => h9) rfl dX1_power_18 ?_
  refine gz_icmp_gt (tgt := 60) (za := ((cn : Nat) : Int)) (zb := ((cn : Nat) : Int)) hx hb dX1_power_21 (by decide) (nI_toInt (by omega)) (nI_toInt (by omega)) (fun c_4 => False.elim (by omega)) (fun c_4 => ?_)
  refine lv_aload_n hx hb dX1_power_24 rfl (lv_at hl 0 rfl) ?_
  refine va_get (D := (dC, dI)) (ci := 1) (v := .int (sc)) (C := RX1) (T := TX1) (N := 10) hx hb hts hin1 hown hK hP 0 rfl rfl 9 (by decide) lk43 (fun _ h9 => h9) rfl dX1_power_25 ?_
  refine lv_if_eq (tgt := 60) hx hb dX1_power_28 (by decide) (fun c_5 => False.elim (hsc c_5)) (fun c_5 => ?_)
  refine lv_iload_n hx hb dX1_power_31 rfl (lv_at hl 2 rfl) ?_
  refine lv_aload_n hx hb dX1_power_32 rfl (lv_at hl 0 rfl) ?_
  refine va_get (D := (dC, dI)) (ci := 1) (v := .int (nI cn)) (C := RX1) (T := TX1) (N := 10) hx hb hts hin1 hown hK hP 0 rfl rfl 1 (by decide) lk40 (fun _ h9 => h9) rfl dX1_power_33 ?_
  refine gz_icmp_ne (tgt := 62) (za := ((cn : Nat) : Int)) (zb := ((cn : Nat) : Int)) hx hb dX1_power_36 (by decide) (nI_toInt (by omega)) (nI_toInt (by omega)) (fun c_6 => False.elim (by omega)) (fun c_6 => ?_)
  refine lv_aload_n hx hb dX1_power_39 rfl (lv_at hl 0 rfl) ?_
  refine va_get (D := (dC, dI)) (ci := 1) (v := .ref ak) (C := RX1) (T := TX1) (N := 10) hx hb hts hin1 hown hK hP 0 rfl rfl 2 (by decide) lk7 (fun _ h9 => h9) rfl dX1_power_40 ?_
  refine lv_bipush (v := nI 12) hx hb dX1_power_43 (by decide) ?_
  refine lv_iload_n hx hb dX1_power_45 rfl (lv_at hl 1 rfl) ?_
  refine gz_imulc (i := 12) (j := i) hx hb dX1_power_46 ?_
  refine lv_aload_n hx hb dX1_power_47 rfl (lv_at hl 0 rfl) ?_
  refine va_get (D := (dC, dI)) (ci := 1) (v := .int (nI cn)) (C := RX1) (T := TX1) (N := 10) hx hb hts hin1 hown hK hP 0 rfl rfl 1 (by decide) lk40 (fun _ h9 => h9) rfl dX1_power_48 ?_
  refine gz_iadd (i := i * 12) (j := cn) hx hb dX1_power_51 ?_
  refine lv_iconst (v := nI 1) hx hb dX1_power_52 (by decide) ?_
  refine gz_isub (i := (i * 12) + cn) (j := 1) hx hb dX1_power_53 (by omega) ?_
  refine gz_top (j := i * 12 + (cn - 1)) (by omega) ?_
  refine gz_iald (k := i * 12 + (cn - 1)) hx hb hK hP 1 0 rfl rfl (by omega) (by omega) dX1_power_54 ?_
  refine lv_bipush (v := nI 6) hx hb dX1_power_55 (by decide) ?_
  refine gz_icmp_lt (tgt := 62) (za := (fk (i * 12 + (cn - 1))).toInt) (zb := ((6 : Nat) : Int)) hx hb dX1_power_57 (by decide) rfl (nI_toInt (by omega)) (fun c_7 => False.elim (by omega)) (fun c_7 => ?_)
  refine lv_iconst (v := (-1)) hx hb dX1_power_60 (by decide) ?_
  exact W.iret (v := (-1)) hx hb hr (fun t ht hW => ⟨rfl, ht⟩) (fun q h => absurd h List.not_mem_nil) dX1_power_61
set_option maxHeartbeats 4000000 in
set_option maxRecDepth 100000 in
theorem cM_groups_bad (l : Launch) (dC : Nat → ClassId) (dI : Nat → Nat → Nat) (cA cZ : ClassId) (gm ak ac ab al av ah ap : Nat) (fk fc fs fl fp fv ft : Nat → Int32) (rn cn : Nat) (sc : Int32) (x : Int32) (hrn : 1 ≤ rn ∧ rn ≤ 12) (hcn : 1 ≤ cn ∧ cn ≤ 12) (hx0 : ¬ (0 ≤ x.toInt ∧ x.toInt ≤ (cn : Int))) : Met l yX1_groups wsX1_groups ({ frames := 0, cells := 0, slots := 0, locals := 0 }) (gPr (dC, dI) vwCl [(cA, .int), (cZ, .boolean)] [.ref gm, .int x] (mw cA cZ gm ak ac ab al av ah ap fk fc fs fl fp fv ft (nI rn) (nI cn) sc)) (QcRead (-1)) 0 0 (fun _ => False) := by
  refine Met.ofW (cc := cX1_groups) (maxL := 4) (ret := (some .int)) (by decide) rfl ?_
  intro p e s m args below meth c s₁ B hml hv
  obtain ⟨rfl, hP, hK⟩ := hv
  have hx := B.exec
  have hb := B.bytes
  have hr := B.returns
  have hts := atoms_spec (ws := wsX1_groups) B.pre
  have hown : s.vm.findClass RX1 = some m.cls := findClass_of_methodNamed B.named
  have hlocks := B.notSynchronized
  have hin1 : ∀ w ∈ u_ws RX1 TX1 10, w ∈ wsX1_groups := by decide +kernel
  have lk40 := hts (.fieldLink RX1 40 "LadderGridModel" "columns" "I") (by decide +kernel)
  have lk36 := hts (.fieldLink RX1 36 "LadderGridModel" "rows" "I") (by decide +kernel)
  have lk19 := hts (.fieldLink RX1 19 "LadderGridModel" "isLinked" "[Z") (by decide +kernel)
  have hl := lv_entry ([.ref gm, .int x]) (n := 4) (Nat.le_of_ble_eq_true rfl)
  rw [lg_entry_eq]
  generalize (lg_sl ([.ref gm, .int x]) ++ List.replicate (4 - (lg_sl ([.ref gm, .int x])).length) Slot.unset).toArray = ls at hl ⊢
  have hl : lv_has ls 4 [(0, .ref gm), (1, .int (x))] := hl
  refine lv_iload_n hx hb dX1_groups_0 rfl (lv_at hl 1 rfl) ?_
  refine gz_if_lt (tgt := 12) (za := x.toInt) hx hb dX1_groups_1 (by decide) rfl (fun c_1 => ?_) (fun c_1 => ?_)
  · skip
    refine lv_iconst (v := (-1)) hx hb dX1_groups_12 (by decide) ?_
    exact W.iret (v := (-1)) hx hb hr (fun t ht hW => ⟨rfl, ht⟩) (fun q h => absurd h List.not_mem_nil) dX1_groups_13
  · skip
    refine lv_iload_n hx hb dX1_groups_4 rfl (lv_at hl 1 rfl) ?_
    refine lv_aload_n hx hb dX1_groups_5 rfl (lv_at hl 0 rfl) ?_
    refine va_get (D := (dC, dI)) (ci := 1) (v := .int (nI cn)) (C := RX1) (T := TX1) (N := 10) hx hb hts hin1 hown hK hP 0 rfl rfl 1 (by decide) lk40 (fun _ h9 => h9) rfl dX1_groups_6 ?_
    refine gz_icmp_le (tgt := 14) (za := x.toInt) (zb := ((cn : Nat) : Int)) hx hb dX1_groups_9 (by decide) rfl (nI_toInt (by omega)) (fun c_2 => False.elim (by omega)) (fun c_2 => ?_)
    refine lv_iconst (v := (-1)) hx hb dX1_groups_12 (by decide) ?_
    exact W.iret (v := (-1)) hx hb hr (fun t ht hW => ⟨rfl, ht⟩) (fun q h => absurd h List.not_mem_nil) dX1_groups_13
set_option maxHeartbeats 4000000 in
set_option maxRecDepth 100000 in
theorem cM_groups (l : Launch) (dC : Nat → ClassId) (dI : Nat → Nat → Nat) (cA cZ : ClassId) (gm ak ac ab al av ah ap : Nat) (fk fc fs fl fp fv ft : Nat → Int32) (rn cn : Nat) (sc : Int32) (j : Nat) (hrn : 1 ≤ rn ∧ rn ≤ 12) (hcn : 1 ≤ cn ∧ cn ≤ 12) (hj : j ≤ cn) (hfl : g01 156 fl) (hlk : gLk fl rn cn) : Met l yX1_groups wsX1_groups ({ frames := 0, cells := 0, slots := 0, locals := 0 }) (gPr (dC, dI) vwCl [(cA, .int), (cZ, .boolean)] [.ref gm, .int (nI j)] (mw cA cZ gm ak ac ab al av ah ap fk fc fs fl fp fv ft (nI rn) (nI cn) sc)) (QcRead (nI (rn - gGr fl j rn))) 0 0 (fun _ => False) := by
  refine Met.ofW (cc := cX1_groups) (maxL := 4) (ret := (some .int)) (by decide) rfl ?_
  intro p e s m args below meth c s₁ B hml hv
  obtain ⟨rfl, hP, hK⟩ := hv
  have hx := B.exec
  have hb := B.bytes
  have hr := B.returns
  have hts := atoms_spec (ws := wsX1_groups) B.pre
  have hown : s.vm.findClass RX1 = some m.cls := findClass_of_methodNamed B.named
  have hlocks := B.notSynchronized
  have hin1 : ∀ w ∈ u_ws RX1 TX1 10, w ∈ wsX1_groups := by decide +kernel
  have lk40 := hts (.fieldLink RX1 40 "LadderGridModel" "columns" "I") (by decide +kernel)
  have lk36 := hts (.fieldLink RX1 36 "LadderGridModel" "rows" "I") (by decide +kernel)
  have lk19 := hts (.fieldLink RX1 19 "LadderGridModel" "isLinked" "[Z") (by decide +kernel)
  have hl := lv_entry ([.ref gm, .int (nI j)]) (n := 4) (Nat.le_of_ble_eq_true rfl)
  rw [lg_entry_eq]
  generalize (lg_sl ([.ref gm, .int (nI j)]) ++ List.replicate (4 - (lg_sl ([.ref gm, .int (nI j)])).length) Slot.unset).toArray = ls at hl ⊢
  have hl : lv_has ls 4 [(0, .ref gm), (1, .int (nI j))] := hl
  have loop : ∀ (n : Nat) (i : Nat), i + n + 1 = rn → ∀ (ls : Array Slot), lv_has ls 4 [(3, .int (nI i)), (2, .int (nI (rn - gGr fl j i))), (0, .ref gm), (1, .int (nI j))] → W p l e (headSpec wsX1_groups ({ frames := 0, cells := 0, slots := 0, locals := 0 })).room s m ([.ref gm, .int (nI j)] : List Value).toArray below meth c s.heap [] 0 0 (MQ below (QcRead (nI (rn - gGr fl j rn))) ([.ref gm, .int (nI j)] : List Value).toArray s 0 0 (fun _ => False)) (F0 m 21 ls []) := by
    intro n
    induction n with
    | zero =>
      intro i hi ls hl
      refine lv_iload_n hx hb dX1_groups_21 rfl (lv_at hl 0 rfl) ?_
      refine lv_iconst (v := nI 1) hx hb dX1_groups_22 (by decide) ?_
      refine gz_iadd (i := i) (j := 1) hx hb dX1_groups_23 ?_
      refine lv_aload_n hx hb dX1_groups_24 rfl (lv_at hl 2 rfl) ?_
      refine va_get (D := (dC, dI)) (ci := 1) (v := .int (nI rn)) (C := RX1) (T := TX1) (N := 10) hx hb hts hin1 hown hK hP 0 rfl rfl 0 (by decide) lk36 (fun _ h9 => h9) rfl dX1_groups_25 ?_
      refine gz_icmp_ge (tgt := 71) (za := ((i + 1 : Nat) : Int)) (zb := ((rn : Nat) : Int)) hx hb dX1_groups_28 (by decide) (nI_toInt (by omega)) (nI_toInt (by omega)) (fun c_1 => ?_) (fun c_1 => False.elim (by omega))
      refine lv_iload_n hx hb dX1_groups_71 rfl (lv_at hl 1 rfl) ?_
      exact W.iret (v := nI (rn - gGr fl j i)) hx hb hr (fun t ht hW => ⟨(by rw [gGr_end hrn hj hcn.2 hlk, show rn - 1 = i by omega]), ht⟩) (fun q h => absurd h List.not_mem_nil) dX1_groups_72
    | succ n ih =>
      intro i hi ls hl
      have hgi := gGr_le fl j i
      have e : gGr fl j (i + 1) = (if fl (i * 13 + j) = nI 1 then gGr fl j i + 1 else gGr fl j i) := rfl
      by_cases hf : fl (i * 13 + j) = nI 1
      · have hb3 := hlk i j (by omega) (by omega) hf
        refine lv_iload_n hx hb dX1_groups_21 rfl (lv_at hl 0 rfl) ?_
        refine lv_iconst (v := nI 1) hx hb dX1_groups_22 (by decide) ?_
        refine gz_iadd (i := i) (j := 1) hx hb dX1_groups_23 ?_
        refine lv_aload_n hx hb dX1_groups_24 rfl (lv_at hl 2 rfl) ?_
        refine va_get (D := (dC, dI)) (ci := 1) (v := .int (nI rn)) (C := RX1) (T := TX1) (N := 10) hx hb hts hin1 hown hK hP 0 rfl rfl 0 (by decide) lk36 (fun _ h9 => h9) rfl dX1_groups_25 ?_
        refine gz_icmp_ge (tgt := 71) (za := ((i + 1 : Nat) : Int)) (zb := ((rn : Nat) : Int)) hx hb dX1_groups_28 (by decide) (nI_toInt (by omega)) (nI_toInt (by omega)) (fun c_1 => False.elim (by omega)) (fun c_1 => ?_)
        refine lv_iload_n hx hb dX1_groups_31 rfl (lv_at hl 3 rfl) ?_
        refine gz_if_le (tgt := 63) (za := ((j : Nat) : Int)) hx hb dX1_groups_32 (by decide) (nI_toInt (by omega)) (fun c_2 => False.elim (by omega)) (fun c_2 => ?_)
        refine lv_iload_n hx hb dX1_groups_35 rfl (lv_at hl 3 rfl) ?_
        refine lv_aload_n hx hb dX1_groups_36 rfl (lv_at hl 2 rfl) ?_
        refine va_get (D := (dC, dI)) (ci := 1) (v := .int (nI cn)) (C := RX1) (T := TX1) (N := 10) hx hb hts hin1 hown hK hP 0 rfl rfl 1 (by decide) lk40 (fun _ h9 => h9) rfl dX1_groups_37 ?_
        refine gz_icmp_ge (tgt := 63) (za := ((j : Nat) : Int)) (zb := ((cn : Nat) : Int)) hx hb dX1_groups_40 (by decide) (nI_toInt (by omega)) (nI_toInt (by omega)) (fun c_3 => False.elim (by omega)) (fun c_3 => ?_)
        refine lv_aload_n hx hb dX1_groups_43 rfl (lv_at hl 2 rfl) ?_
        refine va_get (D := (dC, dI)) (ci := 1) (v := .ref al) (C := RX1) (T := TX1) (N := 10) hx hb hts hin1 hown hK hP 0 rfl rfl 5 (by decide) lk19 (fun _ h9 => h9) rfl dX1_groups_44 ?_
        refine lv_bipush (v := nI 13) hx hb dX1_groups_47 (by decide) ?_
        refine lv_iload_n hx hb dX1_groups_49 rfl (lv_at hl 0 rfl) ?_
        refine gz_imulc (i := 13) (j := i) hx hb dX1_groups_50 ?_
        refine lv_iload_n hx hb dX1_groups_51 rfl (lv_at hl 3 rfl) ?_
        refine gz_iadd (i := i * 13) (j := j) hx hb dX1_groups_52 ?_
        refine gz_zald (k := (i * 13) + j) hx hb hK hP 4 1 rfl rfl (by omega) (by omega) dX1_groups_53 ?_
        refine lv_if_eq (tgt := 63) hx hb dX1_groups_54 (by decide) (fun c_4 => False.elim (absurd (hf.symm.trans c_4) (by decide))) (fun c_4 => ?_)
        refine lv_iload_n hx hb dX1_groups_57 rfl (lv_at hl 1 rfl) ?_
        refine lv_iconst (v := nI 1) hx hb dX1_groups_58 (by decide) ?_
        refine gz_isub (i := rn - gGr fl j i) (j := 1) hx hb dX1_groups_59 (by omega) ?_
        refine lv_goto (tgt := 64) hx hb dX1_groups_60 (by decide) ?_
        refine lv_istore_n (lv' := [(2, .int (nI ((rn - gGr fl j i) - 1))), (3, .int (nI i)), (0, .ref gm), (1, .int (nI j))]) hx hb dX1_groups_64 rfl hl (by decide) rfl (fun ls hl => ?_)
        refine lv_iinc (v := nI (i + 1)) (lv' := [(3, .int (nI (i + 1))), (2, .int (nI ((rn - gGr fl j i) - 1))), (0, .ref gm), (1, .int (nI j))]) hx hb dX1_groups_65 hl (k := 1) rfl (nI_1 _) (by decide) rfl (fun ls hl => ?_)
        refine lv_goto (tgt := 21) hx hb dX1_groups_68 (by decide) ?_
        have hl := lv_sub hl [0, 1, 2, 3] rfl
        exact ih (i + 1) (by omega) ls (by rw [e, if_pos hf, Nat.sub_add_eq]; exact hl)
      · have hf0 : fl (i * 13 + j) = nI 0 := (hfl _ (by omega)).resolve_right hf
        refine lv_iload_n hx hb dX1_groups_21 rfl (lv_at hl 0 rfl) ?_
        refine lv_iconst (v := nI 1) hx hb dX1_groups_22 (by decide) ?_
        refine gz_iadd (i := i) (j := 1) hx hb dX1_groups_23 ?_
        refine lv_aload_n hx hb dX1_groups_24 rfl (lv_at hl 2 rfl) ?_
        refine va_get (D := (dC, dI)) (ci := 1) (v := .int (nI rn)) (C := RX1) (T := TX1) (N := 10) hx hb hts hin1 hown hK hP 0 rfl rfl 0 (by decide) lk36 (fun _ h9 => h9) rfl dX1_groups_25 ?_
        refine gz_icmp_ge (tgt := 71) (za := ((i + 1 : Nat) : Int)) (zb := ((rn : Nat) : Int)) hx hb dX1_groups_28 (by decide) (nI_toInt (by omega)) (nI_toInt (by omega)) (fun c_1 => False.elim (by omega)) (fun c_1 => ?_)
        refine lv_iload_n hx hb dX1_groups_31 rfl (lv_at hl 3 rfl) ?_
        refine gz_if_le (tgt := 63) (za := ((j : Nat) : Int)) hx hb dX1_groups_32 (by decide) (nI_toInt (by omega)) (fun c_2 => ?_) (fun c_2 => ?_)
        · skip
          refine lv_iload_n hx hb dX1_groups_63 rfl (lv_at hl 1 rfl) ?_
          refine lv_istore_n (lv' := [(2, .int (nI (rn - gGr fl j i))), (3, .int (nI i)), (0, .ref gm), (1, .int (nI j))]) hx hb dX1_groups_64 rfl hl (by decide) rfl (fun ls hl => ?_)
          refine lv_iinc (v := nI (i + 1)) (lv' := [(3, .int (nI (i + 1))), (2, .int (nI (rn - gGr fl j i))), (0, .ref gm), (1, .int (nI j))]) hx hb dX1_groups_65 hl (k := 1) rfl (nI_1 _) (by decide) rfl (fun ls hl => ?_)
          refine lv_goto (tgt := 21) hx hb dX1_groups_68 (by decide) ?_
          have hl := lv_sub hl [0, 1, 2, 3] rfl
          exact ih (i + 1) (by omega) ls (by rw [e, if_neg hf]; exact hl)
        · skip
          refine lv_iload_n hx hb dX1_groups_35 rfl (lv_at hl 3 rfl) ?_
          refine lv_aload_n hx hb dX1_groups_36 rfl (lv_at hl 2 rfl) ?_
          refine va_get (D := (dC, dI)) (ci := 1) (v := .int (nI cn)) (C := RX1) (T := TX1) (N := 10) hx hb hts hin1 hown hK hP 0 rfl rfl 1 (by decide) lk40 (fun _ h9 => h9) rfl dX1_groups_37 ?_
          refine gz_icmp_ge (tgt := 63) (za := ((j : Nat) : Int)) (zb := ((cn : Nat) : Int)) hx hb dX1_groups_40 (by decide) (nI_toInt (by omega)) (nI_toInt (by omega)) (fun c_3 => ?_) (fun c_3 => ?_)
          · skip
            refine lv_iload_n hx hb dX1_groups_63 rfl (lv_at hl 1 rfl) ?_
            refine lv_istore_n (lv' := [(2, .int (nI (rn - gGr fl j i))), (3, .int (nI i)), (0, .ref gm), (1, .int (nI j))]) hx hb dX1_groups_64 rfl hl (by decide) rfl (fun ls hl => ?_)
            refine lv_iinc (v := nI (i + 1)) (lv' := [(3, .int (nI (i + 1))), (2, .int (nI (rn - gGr fl j i))), (0, .ref gm), (1, .int (nI j))]) hx hb dX1_groups_65 hl (k := 1) rfl (nI_1 _) (by decide) rfl (fun ls hl => ?_)
            refine lv_goto (tgt := 21) hx hb dX1_groups_68 (by decide) ?_
            have hl := lv_sub hl [0, 1, 2, 3] rfl
            exact ih (i + 1) (by omega) ls (by rw [e, if_neg hf]; exact hl)
          · skip
            refine lv_aload_n hx hb dX1_groups_43 rfl (lv_at hl 2 rfl) ?_
            refine va_get (D := (dC, dI)) (ci := 1) (v := .ref al) (C := RX1) (T := TX1) (N := 10) hx hb hts hin1 hown hK hP 0 rfl rfl 5 (by decide) lk19 (fun _ h9 => h9) rfl dX1_groups_44 ?_
            refine lv_bipush (v := nI 13) hx hb dX1_groups_47 (by decide) ?_
            refine lv_iload_n hx hb dX1_groups_49 rfl (lv_at hl 0 rfl) ?_
            refine gz_imulc (i := 13) (j := i) hx hb dX1_groups_50 ?_
            refine lv_iload_n hx hb dX1_groups_51 rfl (lv_at hl 3 rfl) ?_
            refine gz_iadd (i := i * 13) (j := j) hx hb dX1_groups_52 ?_
            refine gz_zald (k := (i * 13) + j) hx hb hK hP 4 1 rfl rfl (by omega) (by omega) dX1_groups_53 ?_
            refine lv_if_eq (tgt := 63) hx hb dX1_groups_54 (by decide) (fun c_4 => ?_) (fun c_4 => False.elim (c_4 hf0))
            refine lv_iload_n hx hb dX1_groups_63 rfl (lv_at hl 1 rfl) ?_
            refine lv_istore_n (lv' := [(2, .int (nI (rn - gGr fl j i))), (3, .int (nI i)), (0, .ref gm), (1, .int (nI j))]) hx hb dX1_groups_64 rfl hl (by decide) rfl (fun ls hl => ?_)
            refine lv_iinc (v := nI (i + 1)) (lv' := [(3, .int (nI (i + 1))), (2, .int (nI (rn - gGr fl j i))), (0, .ref gm), (1, .int (nI j))]) hx hb dX1_groups_65 hl (k := 1) rfl (nI_1 _) (by decide) rfl (fun ls hl => ?_)
            refine lv_goto (tgt := 21) hx hb dX1_groups_68 (by decide) ?_
            have hl := lv_sub hl [0, 1, 2, 3] rfl
            exact ih (i + 1) (by omega) ls (by rw [e, if_neg hf]; exact hl)
  refine lv_iload_n hx hb dX1_groups_0 rfl (lv_at hl 1 rfl) ?_
  refine gz_if_lt (tgt := 12) (za := ((j : Nat) : Int)) hx hb dX1_groups_1 (by decide) (nI_toInt (by omega)) (fun c_1 => False.elim (by omega)) (fun c_1 => ?_)
  refine lv_iload_n hx hb dX1_groups_4 rfl (lv_at hl 1 rfl) ?_
  refine lv_aload_n hx hb dX1_groups_5 rfl (lv_at hl 0 rfl) ?_
  refine va_get (D := (dC, dI)) (ci := 1) (v := .int (nI cn)) (C := RX1) (T := TX1) (N := 10) hx hb hts hin1 hown hK hP 0 rfl rfl 1 (by decide) lk40 (fun _ h9 => h9) rfl dX1_groups_6 ?_
  refine gz_icmp_le (tgt := 14) (za := ((j : Nat) : Int)) (zb := ((cn : Nat) : Int)) hx hb dX1_groups_9 (by decide) (nI_toInt (by omega)) (nI_toInt (by omega)) (fun c_2 => ?_) (fun c_2 => False.elim (by omega))
  refine lv_aload_n hx hb dX1_groups_14 rfl (lv_at hl 0 rfl) ?_
  refine va_get (D := (dC, dI)) (ci := 1) (v := .int (nI rn)) (C := RX1) (T := TX1) (N := 10) hx hb hts hin1 hown hK hP 0 rfl rfl 0 (by decide) lk36 (fun _ h9 => h9) rfl dX1_groups_15 ?_
  refine lv_istore_n (lv' := [(2, .int (nI rn)), (0, .ref gm), (1, .int (nI j))]) hx hb dX1_groups_18 rfl hl (by decide) rfl (fun ls hl => ?_)
  refine lv_iconst (v := nI 0) hx hb dX1_groups_19 (by decide) ?_
  refine lv_istore_n (lv' := [(3, .int (nI 0)), (2, .int (nI rn)), (0, .ref gm), (1, .int (nI j))]) hx hb dX1_groups_20 rfl hl (by decide) rfl (fun ls hl => ?_)
  exact loop (rn - 1) 0 (by omega) ls (lv_sub hl [0, 1, 2, 3] rfl)
