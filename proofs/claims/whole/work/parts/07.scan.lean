set_option maxHeartbeats 4000000 in
set_option maxRecDepth 100000 in
theorem cJ_fill (l : Launch) (dC : Nat → ClassId) (dI : Nat → Nat → Nat) (sz : Nat) (cA cZ : ClassId) (aa N : Nat) (f : Nat → Int32) (x : Int32) (hN : N < 2000) : Met l yJ7_fill_53178 wsJ7_fill_53178 ({ frames := 0, cells := 0, slots := 0, locals := 0 }) (gPw (dC, dI) vwCl [(cA, .int), (cZ, .boolean)] [.ref aa, .int x] sz [(aa, .inl (cA, N, .inl f))]) (gVA (dC, dI) vwCl [(cA, .int), (cZ, .boolean)] (va_A [(aa, .inl (cA, N, .inl f))] sz) [(aa, .inl (cA, N, .inl (fun _ => x)))]) 0 0 (va_A [(aa, .inl (cA, N, .inl f))] sz) := by
  refine Met.ofW (cc := cJ7_fill_53178) (maxL := 4) (ret := none) (by decide) rfl ?_
  intro p e s m args below meth c s₁ B hml hv
  obtain ⟨rfl, hsz, hP, hK, hD0⟩ := hv
  have hx := B.exec
  have hb := B.bytes
  have hr := B.returns
  have hts := atoms_spec (ws := wsJ7_fill_53178) B.pre
  have hown : s.vm.findClass RJ7 = some m.cls := findClass_of_methodNamed B.named
  have hlocks := B.notSynchronized
  subst hsz
  have hD := hD0.self (sz := s.heap.size)
  generalize hAe : va_A [(aa, .inl (cA, N, .inl f))] s.heap.size = A at hD ⊢
  have hA : ∀ q : Nat, s.heap.size ≤ q → A q := fun q h => by rw [← hAe]; exact Or.inr h
  have hS : va_S A s.heap s.heap [] := va_S.rf
  have hl := lv_entry ([.ref aa, .int x]) (n := 4) (Nat.le_of_ble_eq_true rfl)
  rw [lg_entry_eq]
  generalize (lg_sl ([.ref aa, .int x]) ++ List.replicate (4 - (lg_sl ([.ref aa, .int x])).length) Slot.unset).toArray = ls at hl ⊢
  have hl : lv_has ls 4 [(0, .ref aa), (1, .int (x))] := hl
  suffices key : ∀ (H : Heap) (locs : List Loc), va_P (dC, dI) vwCl [(aa, .inl (cA, N, .inl f))] H → va_D A [(aa, .inl (cA, N, .inl f))] → va_S A s.heap H locs → W p l e (headSpec wsJ7_fill_53178 ({ frames := 0, cells := 0, slots := 0, locals := 0 })).room s m ([.ref aa, .int x] : List Value).toArray below meth c H locs 0 0 (MQ below (gVA (dC, dI) vwCl [(cA, .int), (cZ, .boolean)] A [(aa, .inl (cA, N, .inl (fun _ => x)))]) ([.ref aa, .int x] : List Value).toArray s 0 0 A) (F0 m 0 ls []) from key s.heap [] hP hD hS
  clear hP hD hS
  intro H locs hP hD hS
  have loop : ∀ (n : Nat) (i : Nat), i + n = N → ∀ (H : Heap) (locs : List Loc), va_P (dC, dI) vwCl [(aa, .inl (cA, N, .inl (gFill f x i)))] H → va_D A [(aa, .inl (cA, N, .inl (gFill f x i)))] → va_S A s.heap H locs → ∀ (ls : Array Slot), lv_has ls 4 [(2, .int (nI i)), (3, .int (nI N)), (0, .ref aa), (1, .int (x))] → W p l e (headSpec wsJ7_fill_53178 ({ frames := 0, cells := 0, slots := 0, locals := 0 })).room s m ([.ref aa, .int x] : List Value).toArray below meth c H locs 0 0 (MQ below (gVA (dC, dI) vwCl [(cA, .int), (cZ, .boolean)] A [(aa, .inl (cA, N, .inl (fun _ => x)))]) ([.ref aa, .int x] : List Value).toArray s 0 0 A) (F0 m 5 ls []) := by
    intro n
    induction n with
    | zero =>
      intro i hi H locs hP hD hS ls hl
      refine lv_iload_n hx hb dJ7_fill_53178_5 rfl (lv_at hl 0 rfl) ?_
      refine lv_iload_n hx hb dJ7_fill_53178_6 rfl (lv_at hl 1 rfl) ?_
      refine gz_icmp_ge (tgt := 20) (za := ((i : Nat) : Int)) (zb := ((N : Nat) : Int)) hx hb dJ7_fill_53178_7 (by decide) (nI_toInt (by omega)) (nI_toInt (by omega)) (fun c_1 => ?_) (fun c_1 => False.elim (by omega))
      exact W.vret hx hb hr (fun t ht hW => ⟨⟨(), rfl, trivial, by rw [ht]; exact (gz_setext hP 0 rfl (fun j hj => gFill_in f x i j (by omega))), va_K.moved hW.alike hK, (va_D.set (p := 0) hD rfl)⟩, hS.F ht⟩) hS.2.2 dJ7_fill_53178_20
    | succ n ih =>
      intro i hi H locs hP hD hS ls hl
      refine lv_iload_n hx hb dJ7_fill_53178_5 rfl (lv_at hl 0 rfl) ?_
      refine lv_iload_n hx hb dJ7_fill_53178_6 rfl (lv_at hl 1 rfl) ?_
      refine gz_icmp_ge (tgt := 20) (za := ((i : Nat) : Int)) (zb := ((N : Nat) : Int)) hx hb dJ7_fill_53178_7 (by decide) (nI_toInt (by omega)) (nI_toInt (by omega)) (fun c_1 => False.elim (by omega)) (fun c_1 => ?_)
      refine lv_aload_n hx hb dJ7_fill_53178_10 rfl (lv_at hl 2 rfl) ?_
      refine lv_iload_n hx hb dJ7_fill_53178_11 rfl (lv_at hl 0 rfl) ?_
      refine lv_iload_n hx hb dJ7_fill_53178_12 rfl (lv_at hl 3 rfl) ?_
      refine gz_iast (k := i) hx hb hK hP hD hS 0 0 rfl rfl (by omega) (by omega) dJ7_fill_53178_13 (fun H locs hP hD hS => ?_)
      have hP : va_P (dC, dI) vwCl [(aa, .inl (cA, N, .inl (upd (gFill f x i) i x)))] H := hP
      have hD : va_D A [(aa, .inl (cA, N, .inl (upd (gFill f x i) i x)))] := hD
      refine lv_iinc (v := nI (i + 1)) (lv' := [(2, .int (nI (i + 1))), (3, .int (nI N)), (0, .ref aa), (1, .int (x))]) hx hb dJ7_fill_53178_14 hl (k := 0) rfl (nI_1 _) (by decide) rfl (fun ls hl => ?_)
      refine lv_goto (tgt := 5) hx hb dJ7_fill_53178_17 (by decide) ?_
      exact ih (i + 1) (by omega) H locs hP hD hS ls (lv_sub hl [0, 1, 2, 3] rfl)
  refine lv_iconst (v := nI 0) hx hb dJ7_fill_53178_0 (by decide) ?_
  refine lv_istore_n (lv' := [(2, .int (nI 0)), (0, .ref aa), (1, .int (x))]) hx hb dJ7_fill_53178_1 rfl hl (by decide) rfl (fun ls hl => ?_)
  refine lv_aload_n hx hb dJ7_fill_53178_2 rfl (lv_at hl 1 rfl) ?_
  refine va_alen (v := nI N) hx hb hK hP 0 0 rfl rfl rfl dJ7_fill_53178_3 ?_
  refine lv_istore_n (lv' := [(3, .int (nI N)), (2, .int (nI 0)), (0, .ref aa), (1, .int (x))]) hx hb dJ7_fill_53178_4 rfl hl (by decide) rfl (fun ls hl => ?_)
  exact loop N 0 (by omega) H locs hP hD hS ls (lv_sub hl [1, 0, 2, 3] rfl)
set_option maxHeartbeats 4000000 in
set_option maxRecDepth 100000 in
theorem cG_begin (l : Launch) (dC : Nat → ClassId) (dI : Nat → Nat → Nat) (sz : Nat) (cA cZ : ClassId) (h qk qc qs ql qp qv : Nat) (fk fc fs fl fp fv : Nat → Int32) (rn cn : Nat) (sc : Int32) (i j : Nat) (hrn : 1 ≤ rn ∧ rn ≤ 12) (hcn : 1 ≤ cn ∧ cn ≤ 12) (hi : 1 ≤ i ∧ i ≤ 12) (hj : 1 ≤ j ∧ j ≤ 12) : Met l yX0_begin wsX0_begin ({ frames := 1, cells := 0, slots := 0, locals := 23 }) (gPw (dC, dI) vwCl [(cA, .int), (cZ, .boolean)] [.ref h, .int (nI i), .int (nI j)] sz (gw cA h qk qc qs ql qp qv fk fc fs fl fp fv (nI rn) (nI cn) sc)) (gQA (dC, dI) vwCl [(cA, .int), (cZ, .boolean)] (nI 0) (va_A (gw cA h qk qc qs ql qp qv fk fc fs fl fp fv (nI rn) (nI cn) sc) sz) (gw cA h qk qc qs ql qp qv (fun _ => nI 0) (fun _ => nI 0) (fun _ => nI 0) (fun _ => nI 0) fp fv (nI i) (nI j) (nI 0))) 0 0 (va_A (gw cA h qk qc qs ql qp qv fk fc fs fl fp fv (nI rn) (nI cn) sc) sz) := by
  refine Met.ofW (cc := cX0_begin) (maxL := 3) (ret := (some .int)) (by decide) rfl ?_
  intro p e s m args below meth c s₁ B hml hv
  obtain ⟨rfl, hsz, hP, hK, hD0⟩ := hv
  have hx := B.exec
  have hb := B.bytes
  have hr := B.returns
  have hts := atoms_spec (ws := wsX0_begin) B.pre
  have hown : s.vm.findClass RX0 = some m.cls := findClass_of_methodNamed B.named
  have hlocks := B.notSynchronized
  subst hsz
  have hD := hD0.self (sz := s.heap.size)
  generalize hAe : va_A (gw cA h qk qc qs ql qp qv fk fc fs fl fp fv (nI rn) (nI cn) sc) s.heap.size = A at hD ⊢
  have hA : ∀ q : Nat, s.heap.size ≤ q → A q := fun q h => by rw [← hAe]; exact Or.inr h
  have hS : va_S A s.heap s.heap [] := va_S.rf
  have hin0 : ∀ w ∈ u_ws RX0 TX0 9, w ∈ wsX0_begin := by decide +kernel
  have lk28 := hts (.fieldLink RX0 28 "LadderGrid" "rows" "I") (by decide +kernel)
  have lk32 := hts (.fieldLink RX0 32 "LadderGrid" "columns" "I") (by decide +kernel)
  have lk9 := hts (.fieldLink RX0 9 "LadderGrid" "kinds" "[I") (by decide +kernel)
  have lk13 := hts (.fieldLink RX0 13 "LadderGrid" "cellVariables" "[I") (by decide +kernel)
  have lk16 := hts (.fieldLink RX0 16 "LadderGrid" "seen" "[I") (by decide +kernel)
  have lk19 := hts (.fieldLink RX0 19 "LadderGrid" "links" "[I") (by decide +kernel)
  have lk35 := hts (.fieldLink RX0 35 "LadderGrid" "scanned" "Z") (by decide +kernel)
  have hl := lv_entry ([.ref h, .int (nI i), .int (nI j)]) (n := 3) (Nat.le_of_ble_eq_true rfl)
  rw [lg_entry_eq]
  generalize (lg_sl ([.ref h, .int (nI i), .int (nI j)]) ++ List.replicate (3 - (lg_sl ([.ref h, .int (nI i), .int (nI j)])).length) Slot.unset).toArray = ls at hl ⊢
  have hl : lv_has ls 3 [(0, .ref h), (1, .int (nI i)), (2, .int (nI j))] := hl
  suffices key : ∀ (H : Heap) (locs : List Loc), va_P (dC, dI) vwCl (gw cA h qk qc qs ql qp qv fk fc fs fl fp fv (nI rn) (nI cn) sc) H → va_D A (gw cA h qk qc qs ql qp qv fk fc fs fl fp fv (nI rn) (nI cn) sc) → va_S A s.heap H locs → W p l e (headSpec wsX0_begin ({ frames := 1, cells := 0, slots := 0, locals := 23 })).room s m ([.ref h, .int (nI i), .int (nI j)] : List Value).toArray below meth c H locs 0 0 (MQ below (gQA (dC, dI) vwCl [(cA, .int), (cZ, .boolean)] (nI 0) A (gw cA h qk qc qs ql qp qv (fun _ => nI 0) (fun _ => nI 0) (fun _ => nI 0) (fun _ => nI 0) fp fv (nI i) (nI j) (nI 0))) ([.ref h, .int (nI i), .int (nI j)] : List Value).toArray s 0 0 A) (F0 m 0 ls []) from key s.heap [] hP hD hS
  clear hP hD hS
  intro H locs hP hD hS
  refine lv_iload_n hx hb dX0_begin_0 rfl (lv_at hl 1 rfl) ?_
  refine lv_iconst (v := nI 1) hx hb dX0_begin_1 (by decide) ?_
  refine gz_icmp_lt (tgt := 22) (za := ((i : Nat) : Int)) (zb := ((1 : Nat) : Int)) hx hb dX0_begin_2 (by decide) (nI_toInt (by omega)) (nI_toInt (by omega)) (fun c_1 => False.elim (by omega)) (fun c_1 => ?_)
  refine lv_iload_n hx hb dX0_begin_5 rfl (lv_at hl 1 rfl) ?_
  refine lv_bipush (v := nI 12) hx hb dX0_begin_6 (by decide) ?_
  refine gz_icmp_gt (tgt := 22) (za := ((i : Nat) : Int)) (zb := ((12 : Nat) : Int)) hx hb dX0_begin_8 (by decide) (nI_toInt (by omega)) (nI_toInt (by omega)) (fun c_2 => False.elim (by omega)) (fun c_2 => ?_)
  refine lv_iload_n hx hb dX0_begin_11 rfl (lv_at hl 2 rfl) ?_
  refine lv_iconst (v := nI 1) hx hb dX0_begin_12 (by decide) ?_
  refine gz_icmp_lt (tgt := 22) (za := ((j : Nat) : Int)) (zb := ((1 : Nat) : Int)) hx hb dX0_begin_13 (by decide) (nI_toInt (by omega)) (nI_toInt (by omega)) (fun c_3 => False.elim (by omega)) (fun c_3 => ?_)
  refine lv_iload_n hx hb dX0_begin_16 rfl (lv_at hl 2 rfl) ?_
  refine lv_bipush (v := nI 12) hx hb dX0_begin_17 (by decide) ?_
  refine gz_icmp_le (tgt := 24) (za := ((j : Nat) : Int)) (zb := ((12 : Nat) : Int)) hx hb dX0_begin_19 (by decide) (nI_toInt (by omega)) (nI_toInt (by omega)) (fun c_4 => ?_) (fun c_4 => False.elim (by omega))
  refine lv_aload_n hx hb dX0_begin_24 rfl (lv_at hl 0 rfl) ?_
  refine lv_iload_n hx hb dX0_begin_25 rfl (lv_at hl 1 rfl) ?_
  refine va_put (D := (dC, dI)) (ci := 0) (v := .int (nI i)) (ty := .int) (C := RX0) (T := TX0) (N := 9) hx hb hts hin0 tyX0 tyX0_ok nmX0 hown hK hP hD hS 0 rfl rfl 6 (by decide) lk28 (fun _ h9 => h9) rfl (by decide +kernel) rfl rfl (Nat.le_of_ble_eq_true rfl) dX0_begin_26 (fun H locs hP hD hS => ?_)
  have hP : va_P (dC, dI) vwCl (gw cA h qk qc qs ql qp qv fk fc fs fl fp fv (nI i) (nI cn) sc) H := hP
  have hD : va_D A (gw cA h qk qc qs ql qp qv fk fc fs fl fp fv (nI i) (nI cn) sc) := hD
  refine lv_aload_n hx hb dX0_begin_29 rfl (lv_at hl 0 rfl) ?_
  refine lv_iload_n hx hb dX0_begin_30 rfl (lv_at hl 2 rfl) ?_
  refine va_put (D := (dC, dI)) (ci := 0) (v := .int (nI j)) (ty := .int) (C := RX0) (T := TX0) (N := 9) hx hb hts hin0 tyX0 tyX0_ok nmX0 hown hK hP hD hS 0 rfl rfl 7 (by decide) lk32 (fun _ h9 => h9) rfl (by decide +kernel) rfl rfl (Nat.le_of_ble_eq_true rfl) dX0_begin_31 (fun H locs hP hD hS => ?_)
  have hP : va_P (dC, dI) vwCl (gw cA h qk qc qs ql qp qv fk fc fs fl fp fv (nI i) (nI j) sc) H := hP
  have hD : va_D A (gw cA h qk qc qs ql qp qv fk fc fs fl fp fv (nI i) (nI j) sc) := hD
  refine lv_aload_n hx hb dX0_begin_34 rfl (lv_at hl 0 rfl) ?_
  refine va_get (D := (dC, dI)) (ci := 0) (v := .ref qk) (C := RX0) (T := TX0) (N := 9) hx hb hts hin0 hown hK hP 0 rfl rfl 0 (by decide) lk9 (fun _ h9 => h9) rfl dX0_begin_35 ?_
  refine lv_iconst (v := nI 0) hx hb dX0_begin_38 (by decide) ?_
  refine gz_callv (wc := [(qk, .inl (cA, 144, .inl fk))]) (wr := [(h, .inr (0, [.ref qk, .ref qc, .ref qs, .ref ql, .ref qp, .ref qv, .int (nI i), .int (nI j), .int (sc)])), (qc, .inl (cA, 144, .inl fc)), (qs, .inl (cA, 144, .inl fs)), (ql, .inl (cA, 156, .inl fl)), (qp, .inl (cA, 156, .inl fp)), (qv, .inl (cA, 40, .inl fv))]) hP hD hS hA [1] [0, 2, 3, 4, 5, 6] rfl rfl (by decide) (by decide) (va_runS (As := [.ref qk, .int (nI 0)]) (rest := []) ⟨hx, hb, hml, hown, hts⟩ (cJ_fill l dC dI H.size cA cZ qk 144 fk (nI 0) (by decide)) (va_cwS 2 hts gX0_begin_J7_fill_53178 rfl rfl rfl (by decide +kernel) ⟨Nat.le_of_ble_eq_true rfl, Nat.le_of_ble_eq_true rfl⟩) (gz_preSw hK hP hD [1] (by decide) rfl rfl) rfl rfl hl.1 rfl (lv_room (Nat.le_of_ble_eq_true rfl)) dX0_begin_39 ⟨Nat.le_of_ble_eq_true rfl, Nat.le_of_ble_eq_true rfl⟩) (fun H locs hP hD hS => ?_)
  have hP := hP.sub (ws' := (gw cA h qk qc qs ql qp qv (fun _ => nI 0) fc fs fl fp fv (nI i) (nI j) sc)) [0, 6, 1, 2, 3, 4, 5] rfl
  have hD := hD.sub (ws' := (gw cA h qk qc qs ql qp qv (fun _ => nI 0) fc fs fl fp fv (nI i) (nI j) sc)) [0, 6, 1, 2, 3, 4, 5] (by decide) rfl
  refine lv_aload_n hx hb dX0_begin_42 rfl (lv_at hl 0 rfl) ?_
  refine va_get (D := (dC, dI)) (ci := 0) (v := .ref qc) (C := RX0) (T := TX0) (N := 9) hx hb hts hin0 hown hK hP 0 rfl rfl 1 (by decide) lk13 (fun _ h9 => h9) rfl dX0_begin_43 ?_
  refine lv_iconst (v := nI 0) hx hb dX0_begin_46 (by decide) ?_
  refine gz_callv (wc := [(qc, .inl (cA, 144, .inl fc))]) (wr := [(h, .inr (0, [.ref qk, .ref qc, .ref qs, .ref ql, .ref qp, .ref qv, .int (nI i), .int (nI j), .int (sc)])), (qk, .inl (cA, 144, .inl (fun _ => nI 0))), (qs, .inl (cA, 144, .inl fs)), (ql, .inl (cA, 156, .inl fl)), (qp, .inl (cA, 156, .inl fp)), (qv, .inl (cA, 40, .inl fv))]) hP hD hS hA [2] [0, 1, 3, 4, 5, 6] rfl rfl (by decide) (by decide) (va_runS (As := [.ref qc, .int (nI 0)]) (rest := []) ⟨hx, hb, hml, hown, hts⟩ (cJ_fill l dC dI H.size cA cZ qc 144 fc (nI 0) (by decide)) (va_cwS 2 hts gX0_begin_J7_fill_53178 rfl rfl rfl (by decide +kernel) ⟨Nat.le_of_ble_eq_true rfl, Nat.le_of_ble_eq_true rfl⟩) (gz_preSw hK hP hD [2] (by decide) rfl rfl) rfl rfl hl.1 rfl (lv_room (Nat.le_of_ble_eq_true rfl)) dX0_begin_47 ⟨Nat.le_of_ble_eq_true rfl, Nat.le_of_ble_eq_true rfl⟩) (fun H locs hP hD hS => ?_)
  have hP := hP.sub (ws' := (gw cA h qk qc qs ql qp qv (fun _ => nI 0) (fun _ => nI 0) fs fl fp fv (nI i) (nI j) sc)) [0, 1, 6, 2, 3, 4, 5] rfl
  have hD := hD.sub (ws' := (gw cA h qk qc qs ql qp qv (fun _ => nI 0) (fun _ => nI 0) fs fl fp fv (nI i) (nI j) sc)) [0, 1, 6, 2, 3, 4, 5] (by decide) rfl
  refine lv_aload_n hx hb dX0_begin_50 rfl (lv_at hl 0 rfl) ?_
  refine va_get (D := (dC, dI)) (ci := 0) (v := .ref qs) (C := RX0) (T := TX0) (N := 9) hx hb hts hin0 hown hK hP 0 rfl rfl 2 (by decide) lk16 (fun _ h9 => h9) rfl dX0_begin_51 ?_
  refine lv_iconst (v := nI 0) hx hb dX0_begin_54 (by decide) ?_
  refine gz_callv (wc := [(qs, .inl (cA, 144, .inl fs))]) (wr := [(h, .inr (0, [.ref qk, .ref qc, .ref qs, .ref ql, .ref qp, .ref qv, .int (nI i), .int (nI j), .int (sc)])), (qk, .inl (cA, 144, .inl (fun _ => nI 0))), (qc, .inl (cA, 144, .inl (fun _ => nI 0))), (ql, .inl (cA, 156, .inl fl)), (qp, .inl (cA, 156, .inl fp)), (qv, .inl (cA, 40, .inl fv))]) hP hD hS hA [3] [0, 1, 2, 4, 5, 6] rfl rfl (by decide) (by decide) (va_runS (As := [.ref qs, .int (nI 0)]) (rest := []) ⟨hx, hb, hml, hown, hts⟩ (cJ_fill l dC dI H.size cA cZ qs 144 fs (nI 0) (by decide)) (va_cwS 2 hts gX0_begin_J7_fill_53178 rfl rfl rfl (by decide +kernel) ⟨Nat.le_of_ble_eq_true rfl, Nat.le_of_ble_eq_true rfl⟩) (gz_preSw hK hP hD [3] (by decide) rfl rfl) rfl rfl hl.1 rfl (lv_room (Nat.le_of_ble_eq_true rfl)) dX0_begin_55 ⟨Nat.le_of_ble_eq_true rfl, Nat.le_of_ble_eq_true rfl⟩) (fun H locs hP hD hS => ?_)
  have hP := hP.sub (ws' := (gw cA h qk qc qs ql qp qv (fun _ => nI 0) (fun _ => nI 0) (fun _ => nI 0) fl fp fv (nI i) (nI j) sc)) [0, 1, 2, 6, 3, 4, 5] rfl
  have hD := hD.sub (ws' := (gw cA h qk qc qs ql qp qv (fun _ => nI 0) (fun _ => nI 0) (fun _ => nI 0) fl fp fv (nI i) (nI j) sc)) [0, 1, 2, 6, 3, 4, 5] (by decide) rfl
  refine lv_aload_n hx hb dX0_begin_58 rfl (lv_at hl 0 rfl) ?_
  refine va_get (D := (dC, dI)) (ci := 0) (v := .ref ql) (C := RX0) (T := TX0) (N := 9) hx hb hts hin0 hown hK hP 0 rfl rfl 3 (by decide) lk19 (fun _ h9 => h9) rfl dX0_begin_59 ?_
  refine lv_iconst (v := nI 0) hx hb dX0_begin_62 (by decide) ?_
  refine gz_callv (wc := [(ql, .inl (cA, 156, .inl fl))]) (wr := [(h, .inr (0, [.ref qk, .ref qc, .ref qs, .ref ql, .ref qp, .ref qv, .int (nI i), .int (nI j), .int (sc)])), (qk, .inl (cA, 144, .inl (fun _ => nI 0))), (qc, .inl (cA, 144, .inl (fun _ => nI 0))), (qs, .inl (cA, 144, .inl (fun _ => nI 0))), (qp, .inl (cA, 156, .inl fp)), (qv, .inl (cA, 40, .inl fv))]) hP hD hS hA [4] [0, 1, 2, 3, 5, 6] rfl rfl (by decide) (by decide) (va_runS (As := [.ref ql, .int (nI 0)]) (rest := []) ⟨hx, hb, hml, hown, hts⟩ (cJ_fill l dC dI H.size cA cZ ql 156 fl (nI 0) (by decide)) (va_cwS 2 hts gX0_begin_J7_fill_53178 rfl rfl rfl (by decide +kernel) ⟨Nat.le_of_ble_eq_true rfl, Nat.le_of_ble_eq_true rfl⟩) (gz_preSw hK hP hD [4] (by decide) rfl rfl) rfl rfl hl.1 rfl (lv_room (Nat.le_of_ble_eq_true rfl)) dX0_begin_63 ⟨Nat.le_of_ble_eq_true rfl, Nat.le_of_ble_eq_true rfl⟩) (fun H locs hP hD hS => ?_)
  have hP := hP.sub (ws' := (gw cA h qk qc qs ql qp qv (fun _ => nI 0) (fun _ => nI 0) (fun _ => nI 0) (fun _ => nI 0) fp fv (nI i) (nI j) sc)) [0, 1, 2, 3, 6, 4, 5] rfl
  have hD := hD.sub (ws' := (gw cA h qk qc qs ql qp qv (fun _ => nI 0) (fun _ => nI 0) (fun _ => nI 0) (fun _ => nI 0) fp fv (nI i) (nI j) sc)) [0, 1, 2, 3, 6, 4, 5] (by decide) rfl
  refine lv_aload_n hx hb dX0_begin_66 rfl (lv_at hl 0 rfl) ?_
  refine lv_iconst (v := nI 0) hx hb dX0_begin_67 (by decide) ?_
  refine va_put (D := (dC, dI)) (ci := 0) (v := .int (nI 0)) (ty := .boolean) (C := RX0) (T := TX0) (N := 9) hx hb hts hin0 tyX0 tyX0_ok nmX0 hown hK hP hD hS 0 rfl rfl 8 (by decide) lk35 (fun _ h9 => h9) rfl (by decide +kernel) rfl rfl (Nat.le_of_ble_eq_true rfl) dX0_begin_68 (fun H locs hP hD hS => ?_)
  have hP : va_P (dC, dI) vwCl (gw cA h qk qc qs ql qp qv (fun _ => nI 0) (fun _ => nI 0) (fun _ => nI 0) (fun _ => nI 0) fp fv (nI i) (nI j) (nI 0)) H := hP
  have hD : va_D A (gw cA h qk qc qs ql qp qv (fun _ => nI 0) (fun _ => nI 0) (fun _ => nI 0) (fun _ => nI 0) fp fv (nI i) (nI j) (nI 0)) := hD
  refine lv_iconst (v := nI 0) hx hb dX0_begin_71 (by decide) ?_
  exact W.iret (v := nI 0) hx hb hr (fun t ht hW => ⟨⟨nI 0, (), rfl, rfl, by rw [ht]; exact hP, va_K.moved hW.alike hK, hD⟩, hS.F ht⟩) hS.2.2 dX0_begin_72
set_option maxHeartbeats 4000000 in
set_option maxRecDepth 100000 in
theorem cG_passColumn (l : Launch) (dC : Nat → ClassId) (dI : Nat → Nat → Nat) (sz : Nat) (cA cZ : ClassId) (h qk qc qs ql qp qv : Nat) (fk fc fs fl fp fv : Nat → Int32) (rn cn : Nat) (sc : Int32) (col : Nat) (hrn : 1 ≤ rn ∧ rn ≤ 12) (hcn : 1 ≤ cn ∧ cn ≤ 12) (hco : col < cn) (hcI : ∀ k, k < 144 → vp_in (fc k) 40) : Met l yX0_passColumn wsX0_passColumn ({ frames := 1, cells := 0, slots := 0, locals := 22 }) (gPw (dC, dI) vwCl [(cA, .int), (cZ, .boolean)] [.ref h, .int (nI col)] sz (gw cA h qk qc qs ql qp qv fk fc fs fl fp fv (nI rn) (nI cn) sc)) (gVA (dC, dI) vwCl [(cA, .int), (cZ, .boolean)] (va_A (gw cA h qk qc qs ql qp qv fk fc fs fl fp fv (nI rn) (nI cn) sc) sz) (gw cA h qk qc qs ql qp qv fk fc ((gPs fk fc fv col (fp, fs) rn).2) fl ((gPs fk fc fv col (fp, fs) rn).1) fv (nI rn) (nI cn) sc)) 0 0 (va_A (gw cA h qk qc qs ql qp qv fk fc fs fl fp fv (nI rn) (nI cn) sc) sz) := by
  refine Met.ofW (cc := cX0_passColumn) (maxL := 6) (ret := none) (by decide) rfl ?_
  intro p e s m args below meth c s₁ B hml hv
  obtain ⟨rfl, hsz, hP, hK, hD0⟩ := hv
  have hx := B.exec
  have hb := B.bytes
  have hr := B.returns
  have hts := atoms_spec (ws := wsX0_passColumn) B.pre
  have hown : s.vm.findClass RX0 = some m.cls := findClass_of_methodNamed B.named
  have hlocks := B.notSynchronized
  subst hsz
  have hD := hD0.self (sz := s.heap.size)
  generalize hAe : va_A (gw cA h qk qc qs ql qp qv fk fc fs fl fp fv (nI rn) (nI cn) sc) s.heap.size = A at hD ⊢
  have hA : ∀ q : Nat, s.heap.size ≤ q → A q := fun q h => by rw [← hAe]; exact Or.inr h
  have hS : va_S A s.heap s.heap [] := va_S.rf
  have hin0 : ∀ w ∈ u_ws RX0 TX0 9, w ∈ wsX0_passColumn := by decide +kernel
  have lk28 := hts (.fieldLink RX0 28 "LadderGrid" "rows" "I") (by decide +kernel)
  have lk25 := hts (.fieldLink RX0 25 "LadderGrid" "values" "[I") (by decide +kernel)
  have lk13 := hts (.fieldLink RX0 13 "LadderGrid" "cellVariables" "[I") (by decide +kernel)
  have lk22 := hts (.fieldLink RX0 22 "LadderGrid" "powered" "[I") (by decide +kernel)
  have lk9 := hts (.fieldLink RX0 9 "LadderGrid" "kinds" "[I") (by decide +kernel)
  have lk16 := hts (.fieldLink RX0 16 "LadderGrid" "seen" "[I") (by decide +kernel)
  have hl := lv_entry ([.ref h, .int (nI col)]) (n := 6) (Nat.le_of_ble_eq_true rfl)
  rw [lg_entry_eq]
  generalize (lg_sl ([.ref h, .int (nI col)]) ++ List.replicate (6 - (lg_sl ([.ref h, .int (nI col)])).length) Slot.unset).toArray = ls at hl ⊢
  have hl : lv_has ls 6 [(0, .ref h), (1, .int (nI col))] := hl
  suffices key : ∀ (H : Heap) (locs : List Loc), va_P (dC, dI) vwCl (gw cA h qk qc qs ql qp qv fk fc fs fl fp fv (nI rn) (nI cn) sc) H → va_D A (gw cA h qk qc qs ql qp qv fk fc fs fl fp fv (nI rn) (nI cn) sc) → va_S A s.heap H locs → W p l e (headSpec wsX0_passColumn ({ frames := 1, cells := 0, slots := 0, locals := 22 })).room s m ([.ref h, .int (nI col)] : List Value).toArray below meth c H locs 0 0 (MQ below (gVA (dC, dI) vwCl [(cA, .int), (cZ, .boolean)] A (gw cA h qk qc qs ql qp qv fk fc ((gPs fk fc fv col (fp, fs) rn).2) fl ((gPs fk fc fv col (fp, fs) rn).1) fv (nI rn) (nI cn) sc)) ([.ref h, .int (nI col)] : List Value).toArray s 0 0 A) (F0 m 0 ls []) from key s.heap [] hP hD hS
  clear hP hD hS
  intro H locs hP hD hS
  have loop : ∀ (n : Nat) (i : Nat) (q : (Nat → Int32) × (Nat → Int32)), i + n = rn → q = gPs fk fc fv col (fp, fs) i → ∀ (H : Heap) (locs : List Loc), va_P (dC, dI) vwCl (gw cA h qk qc qs ql qp qv fk fc q.2 fl q.1 fv (nI rn) (nI cn) sc) H → va_D A (gw cA h qk qc qs ql qp qv fk fc q.2 fl q.1 fv (nI rn) (nI cn) sc) → va_S A s.heap H locs → ∀ (ls : Array Slot), lv_has ls 6 [(2, .int (nI i)), (0, .ref h), (1, .int (nI col))] → W p l e (headSpec wsX0_passColumn ({ frames := 1, cells := 0, slots := 0, locals := 22 })).room s m ([.ref h, .int (nI col)] : List Value).toArray below meth c H locs 0 0 (MQ below (gVA (dC, dI) vwCl [(cA, .int), (cZ, .boolean)] A (gw cA h qk qc qs ql qp qv fk fc ((gPs fk fc fv col (fp, fs) rn).2) fl ((gPs fk fc fv col (fp, fs) rn).1) fv (nI rn) (nI cn) sc)) ([.ref h, .int (nI col)] : List Value).toArray s 0 0 A) (F0 m 2 ls []) := by
    intro n
    induction n with
    | zero =>
      intro i q hi hq H locs hP hD hS ls hl
      refine lv_iload_n hx hb dX0_passColumn_2 rfl (lv_at hl 0 rfl) ?_
      refine lv_aload_n hx hb dX0_passColumn_3 rfl (lv_at hl 1 rfl) ?_
      refine va_get (D := (dC, dI)) (ci := 0) (v := .int (nI rn)) (C := RX0) (T := TX0) (N := 9) hx hb hts hin0 hown hK hP 0 rfl rfl 6 (by decide) lk28 (fun _ h9 => h9) rfl dX0_passColumn_4 ?_
      refine gz_icmp_ge (tgt := 106) (za := ((i : Nat) : Int)) (zb := ((rn : Nat) : Int)) hx hb dX0_passColumn_7 (by decide) (nI_toInt (by omega)) (nI_toInt (by omega)) (fun c_1 => ?_) (fun c_1 => False.elim (by omega))
      exact W.vret hx hb hr (fun t ht hW => ⟨⟨(), rfl, trivial, by rw [ht]; exact (by rw [show gPs fk fc fv col (fp, fs) rn = q by rw [hq, show i = rn by omega]]; exact hP), va_K.moved hW.alike hK, (by rw [show gPs fk fc fv col (fp, fs) rn = q by rw [hq, show i = rn by omega]]; exact hD)⟩, hS.F ht⟩) hS.2.2 dX0_passColumn_106
    | succ n ih =>
      intro i q hi hq H locs hP hD hS ls hl
      have hci : vp_in (fc (i * 12 + col)) 40 := hcI _ (by omega)
      by_cases hp1 : q.1 (i * 13 + col) = nI 1
      · rcases gLets_01 (fk (i * 12 + col)) (fv (fc (i * 12 + col)).toNatClampNeg) (q.2 (i * 12 + col)) with hg | hg
        · skip
          refine lv_iload_n hx hb dX0_passColumn_2 rfl (lv_at hl 0 rfl) ?_
          refine lv_aload_n hx hb dX0_passColumn_3 rfl (lv_at hl 1 rfl) ?_
          refine va_get (D := (dC, dI)) (ci := 0) (v := .int (nI rn)) (C := RX0) (T := TX0) (N := 9) hx hb hts hin0 hown hK hP 0 rfl rfl 6 (by decide) lk28 (fun _ h9 => h9) rfl dX0_passColumn_4 ?_
          refine gz_icmp_ge (tgt := 106) (za := ((i : Nat) : Int)) (zb := ((rn : Nat) : Int)) hx hb dX0_passColumn_7 (by decide) (nI_toInt (by omega)) (nI_toInt (by omega)) (fun c_1 => False.elim (by omega)) (fun c_1 => ?_)
          refine lv_iload_n hx hb dX0_passColumn_10 rfl (lv_at hl 0 rfl) ?_
          refine lv_iload_n hx hb dX0_passColumn_11 rfl (lv_at hl 2 rfl) ?_
          refine gz_callR (W.runS (As := [.int (nI i), .int (nI col)]) (rest := []) ⟨hx, hb, hml, hown, hts⟩ (cG_cellAt l i col) (va_cwS 2 hts gX0_passColumn_X0_cellAt rfl rfl rfl (by decide +kernel) ⟨Nat.le_of_ble_eq_true rfl, Nat.le_of_ble_eq_true rfl⟩) preEq rfl rfl hl.1 rfl (lv_room (Nat.le_of_ble_eq_true rfl)) dX0_passColumn_12 ⟨Nat.le_of_ble_eq_true rfl, Nat.le_of_ble_eq_true rfl⟩) ?_
          refine lv_istore_n (lv' := [(3, .int (nI (i * 12 + col))), (2, .int (nI i)), (0, .ref h), (1, .int (nI col))]) hx hb dX0_passColumn_15 rfl hl (by decide) rfl (fun ls hl => ?_)
          refine lv_aload_n hx hb dX0_passColumn_16 rfl (lv_at hl 2 rfl) ?_
          refine va_get (D := (dC, dI)) (ci := 0) (v := .ref qv) (C := RX0) (T := TX0) (N := 9) hx hb hts hin0 hown hK hP 0 rfl rfl 5 (by decide) lk25 (fun _ h9 => h9) rfl dX0_passColumn_17 ?_
          refine lv_aload_n hx hb dX0_passColumn_20 rfl (lv_at hl 2 rfl) ?_
          refine va_get (D := (dC, dI)) (ci := 0) (v := .ref qc) (C := RX0) (T := TX0) (N := 9) hx hb hts hin0 hown hK hP 0 rfl rfl 1 (by decide) lk13 (fun _ h9 => h9) rfl dX0_passColumn_21 ?_
          refine lv_iload_n hx hb dX0_passColumn_24 rfl (lv_at hl 0 rfl) ?_
          refine gz_iald (k := i * 12 + col) hx hb hK hP 2 0 rfl rfl (by omega) (by omega) dX0_passColumn_25 ?_
          refine va_iald hx hb hK hP 6 0 rfl rfl hci dX0_passColumn_26 ?_
          refine lv_istore (lv' := [(4, .int (fv (fc (i * 12 + col)).toNatClampNeg)), (3, .int (nI (i * 12 + col))), (2, .int (nI i)), (0, .ref h), (1, .int (nI col))]) hx hb dX0_passColumn_27 hl (by decide) rfl (fun ls hl => ?_)
          refine lv_aload_n hx hb dX0_passColumn_29 rfl (lv_at hl 3 rfl) ?_
          refine va_get (D := (dC, dI)) (ci := 0) (v := .ref qp) (C := RX0) (T := TX0) (N := 9) hx hb hts hin0 hown hK hP 0 rfl rfl 4 (by decide) lk22 (fun _ h9 => h9) rfl dX0_passColumn_30 ?_
          refine lv_iload_n hx hb dX0_passColumn_33 rfl (lv_at hl 2 rfl) ?_
          refine lv_iload_n hx hb dX0_passColumn_34 rfl (lv_at hl 4 rfl) ?_
          refine gz_callR (W.runS (As := [.int (nI i), .int (nI col)]) (rest := [.ref qp]) ⟨hx, hb, hml, hown, hts⟩ (cG_pointAt l i col) (va_cwS 2 hts gX0_passColumn_X0_pointAt rfl rfl rfl (by decide +kernel) ⟨Nat.le_of_ble_eq_true rfl, Nat.le_of_ble_eq_true rfl⟩) preEq rfl rfl hl.1 rfl (lv_room (Nat.le_of_ble_eq_true rfl)) dX0_passColumn_35 ⟨Nat.le_of_ble_eq_true rfl, Nat.le_of_ble_eq_true rfl⟩) ?_
          refine gz_iald (k := i * 13 + col) hx hb hK hP 5 0 rfl rfl (by omega) (by omega) dX0_passColumn_38 ?_
          refine lv_iconst (v := nI 1) hx hb dX0_passColumn_39 (by decide) ?_
          refine lv_icmp_ne (tgt := 67) hx hb dX0_passColumn_40 (by decide) (fun c_2 => False.elim (c_2 hp1)) (fun c_2 => ?_)
          refine lv_aload_n hx hb dX0_passColumn_43 rfl (lv_at hl 3 rfl) ?_
          refine va_get (D := (dC, dI)) (ci := 0) (v := .ref qk) (C := RX0) (T := TX0) (N := 9) hx hb hts hin0 hown hK hP 0 rfl rfl 0 (by decide) lk9 (fun _ h9 => h9) rfl dX0_passColumn_44 ?_
          refine lv_iload_n hx hb dX0_passColumn_47 rfl (lv_at hl 1 rfl) ?_
          refine gz_iald (k := i * 12 + col) hx hb hK hP 1 0 rfl rfl (by omega) (by omega) dX0_passColumn_48 ?_
          refine lv_iload hx hb dX0_passColumn_49 (lv_at hl 0 rfl) ?_
          refine lv_aload_n hx hb dX0_passColumn_51 rfl (lv_at hl 3 rfl) ?_
          refine va_get (D := (dC, dI)) (ci := 0) (v := .ref qs) (C := RX0) (T := TX0) (N := 9) hx hb hts hin0 hown hK hP 0 rfl rfl 2 (by decide) lk16 (fun _ h9 => h9) rfl dX0_passColumn_52 ?_
          refine lv_iload_n hx hb dX0_passColumn_55 rfl (lv_at hl 1 rfl) ?_
          refine gz_iald (k := i * 12 + col) hx hb hK hP 3 0 rfl rfl (by omega) (by omega) dX0_passColumn_56 ?_
          refine gz_callR (W.runS (As := [.int (fk (i * 12 + col)), .int (fv (fc (i * 12 + col)).toNatClampNeg), .int (q.2 (i * 12 + col))]) (rest := []) ⟨hx, hb, hml, hown, hts⟩ (cG_letsThrough l (fk (i * 12 + col)) (fv (fc (i * 12 + col)).toNatClampNeg) (q.2 (i * 12 + col))) (va_cwS 3 hts gX0_passColumn_X0_letsThrough rfl rfl rfl (by decide +kernel) ⟨Nat.le_of_ble_eq_true rfl, Nat.le_of_ble_eq_true rfl⟩) preEq rfl rfl hl.1 rfl (lv_room (Nat.le_of_ble_eq_true rfl)) dX0_passColumn_57 ⟨Nat.le_of_ble_eq_true rfl, Nat.le_of_ble_eq_true rfl⟩) ?_
          refine lv_if_eq (tgt := 67) hx hb dX0_passColumn_60 (by decide) (fun c_3 => ?_) (fun c_3 => False.elim (c_3 hg))
          refine lv_iconst (v := nI 0) hx hb dX0_passColumn_67 (by decide) ?_
          refine lv_istore (lv' := [(5, .int (nI 0)), (4, .int (fv (fc (i * 12 + col)).toNatClampNeg)), (3, .int (nI (i * 12 + col))), (2, .int (nI i)), (0, .ref h), (1, .int (nI col))]) hx hb dX0_passColumn_68 hl (by decide) rfl (fun ls hl => ?_)
          refine lv_aload_n hx hb dX0_passColumn_70 rfl (lv_at hl 4 rfl) ?_
          refine va_get (D := (dC, dI)) (ci := 0) (v := .ref qp) (C := RX0) (T := TX0) (N := 9) hx hb hts hin0 hown hK hP 0 rfl rfl 4 (by decide) lk22 (fun _ h9 => h9) rfl dX0_passColumn_71 ?_
          refine lv_iload_n hx hb dX0_passColumn_74 rfl (lv_at hl 3 rfl) ?_
          refine lv_iload_n hx hb dX0_passColumn_75 rfl (lv_at hl 5 rfl) ?_
          refine lv_iconst (v := nI 1) hx hb dX0_passColumn_76 (by decide) ?_
          refine gz_iadd (i := col) (j := 1) hx hb dX0_passColumn_77 ?_
          refine gz_callR (W.runS (As := [.int (nI i), .int (nI (col + 1))]) (rest := [.ref qp]) ⟨hx, hb, hml, hown, hts⟩ (cG_pointAt l i (col + 1)) (va_cwS 2 hts gX0_passColumn_X0_pointAt rfl rfl rfl (by decide +kernel) ⟨Nat.le_of_ble_eq_true rfl, Nat.le_of_ble_eq_true rfl⟩) preEq rfl rfl hl.1 rfl (lv_room (Nat.le_of_ble_eq_true rfl)) dX0_passColumn_78 ⟨Nat.le_of_ble_eq_true rfl, Nat.le_of_ble_eq_true rfl⟩) ?_
          refine lv_iload hx hb dX0_passColumn_81 (lv_at hl 0 rfl) ?_
          refine lv_if_eq (tgt := 90) hx hb dX0_passColumn_83 (by decide) (fun c_4 => ?_) (fun c_4 => False.elim (c_4 rfl))
          refine lv_iconst (v := nI 0) hx hb dX0_passColumn_90 (by decide) ?_
          refine gz_iast (k := i * 13 + (col + 1)) hx hb hK hP hD hS 5 0 rfl rfl (by omega) (by omega) dX0_passColumn_91 (fun H locs hP hD hS => ?_)
          have hP : va_P (dC, dI) vwCl (gw cA h qk qc qs ql qp qv fk fc q.2 fl (upd q.1 (i * 13 + (col + 1)) (nI 0)) fv (nI rn) (nI cn) sc) H := hP
          have hD : va_D A (gw cA h qk qc qs ql qp qv fk fc q.2 fl (upd q.1 (i * 13 + (col + 1)) (nI 0)) fv (nI rn) (nI cn) sc) := hD
          refine lv_aload_n hx hb dX0_passColumn_92 rfl (lv_at hl 4 rfl) ?_
          refine va_get (D := (dC, dI)) (ci := 0) (v := .ref qs) (C := RX0) (T := TX0) (N := 9) hx hb hts hin0 hown hK hP 0 rfl rfl 2 (by decide) lk16 (fun _ h9 => h9) rfl dX0_passColumn_93 ?_
          refine lv_iload_n hx hb dX0_passColumn_96 rfl (lv_at hl 2 rfl) ?_
          refine lv_iload hx hb dX0_passColumn_97 (lv_at hl 1 rfl) ?_
          refine gz_iast (k := i * 12 + col) hx hb hK hP hD hS 3 0 rfl rfl (by omega) (by omega) dX0_passColumn_99 (fun H locs hP hD hS => ?_)
          have hP : va_P (dC, dI) vwCl (gw cA h qk qc qs ql qp qv fk fc (upd q.2 (i * 12 + col) (fv (fc (i * 12 + col)).toNatClampNeg)) fl (upd q.1 (i * 13 + (col + 1)) (nI 0)) fv (nI rn) (nI cn) sc) H := hP
          have hD : va_D A (gw cA h qk qc qs ql qp qv fk fc (upd q.2 (i * 12 + col) (fv (fc (i * 12 + col)).toNatClampNeg)) fl (upd q.1 (i * 13 + (col + 1)) (nI 0)) fv (nI rn) (nI cn) sc) := hD
          refine lv_iinc (v := nI (i + 1)) (lv' := [(2, .int (nI (i + 1))), (5, .int (nI 0)), (4, .int (fv (fc (i * 12 + col)).toNatClampNeg)), (3, .int (nI (i * 12 + col))), (0, .ref h), (1, .int (nI col))]) hx hb dX0_passColumn_100 hl (k := 3) rfl (nI_1 _) (by decide) rfl (fun ls hl => ?_)
          refine lv_goto (tgt := 2) hx hb dX0_passColumn_103 (by decide) ?_
          exact ih (i + 1) (upd q.1 (i * 13 + (col + 1)) (nI 0), upd q.2 (i * 12 + col) (fv (fc (i * 12 + col)).toNatClampNeg)) (by omega) (by show _ = gPs1 _ _ _ _ _ (gPs fk fc fv col (fp, fs) i); rw [← hq]; unfold gPs1; rw [if_pos hp1, hg]) H locs hP hD hS ls (lv_sub hl [0, 4, 5] rfl)
        · skip
          refine lv_iload_n hx hb dX0_passColumn_2 rfl (lv_at hl 0 rfl) ?_
          refine lv_aload_n hx hb dX0_passColumn_3 rfl (lv_at hl 1 rfl) ?_
          refine va_get (D := (dC, dI)) (ci := 0) (v := .int (nI rn)) (C := RX0) (T := TX0) (N := 9) hx hb hts hin0 hown hK hP 0 rfl rfl 6 (by decide) lk28 (fun _ h9 => h9) rfl dX0_passColumn_4 ?_
          refine gz_icmp_ge (tgt := 106) (za := ((i : Nat) : Int)) (zb := ((rn : Nat) : Int)) hx hb dX0_passColumn_7 (by decide) (nI_toInt (by omega)) (nI_toInt (by omega)) (fun c_1 => False.elim (by omega)) (fun c_1 => ?_)
          refine lv_iload_n hx hb dX0_passColumn_10 rfl (lv_at hl 0 rfl) ?_
          refine lv_iload_n hx hb dX0_passColumn_11 rfl (lv_at hl 2 rfl) ?_
          refine gz_callR (W.runS (As := [.int (nI i), .int (nI col)]) (rest := []) ⟨hx, hb, hml, hown, hts⟩ (cG_cellAt l i col) (va_cwS 2 hts gX0_passColumn_X0_cellAt rfl rfl rfl (by decide +kernel) ⟨Nat.le_of_ble_eq_true rfl, Nat.le_of_ble_eq_true rfl⟩) preEq rfl rfl hl.1 rfl (lv_room (Nat.le_of_ble_eq_true rfl)) dX0_passColumn_12 ⟨Nat.le_of_ble_eq_true rfl, Nat.le_of_ble_eq_true rfl⟩) ?_
          refine lv_istore_n (lv' := [(3, .int (nI (i * 12 + col))), (2, .int (nI i)), (0, .ref h), (1, .int (nI col))]) hx hb dX0_passColumn_15 rfl hl (by decide) rfl (fun ls hl => ?_)
          refine lv_aload_n hx hb dX0_passColumn_16 rfl (lv_at hl 2 rfl) ?_
          refine va_get (D := (dC, dI)) (ci := 0) (v := .ref qv) (C := RX0) (T := TX0) (N := 9) hx hb hts hin0 hown hK hP 0 rfl rfl 5 (by decide) lk25 (fun _ h9 => h9) rfl dX0_passColumn_17 ?_
          refine lv_aload_n hx hb dX0_passColumn_20 rfl (lv_at hl 2 rfl) ?_
          refine va_get (D := (dC, dI)) (ci := 0) (v := .ref qc) (C := RX0) (T := TX0) (N := 9) hx hb hts hin0 hown hK hP 0 rfl rfl 1 (by decide) lk13 (fun _ h9 => h9) rfl dX0_passColumn_21 ?_
          refine lv_iload_n hx hb dX0_passColumn_24 rfl (lv_at hl 0 rfl) ?_
          refine gz_iald (k := i * 12 + col) hx hb hK hP 2 0 rfl rfl (by omega) (by omega) dX0_passColumn_25 ?_
          refine va_iald hx hb hK hP 6 0 rfl rfl hci dX0_passColumn_26 ?_
          refine lv_istore (lv' := [(4, .int (fv (fc (i * 12 + col)).toNatClampNeg)), (3, .int (nI (i * 12 + col))), (2, .int (nI i)), (0, .ref h), (1, .int (nI col))]) hx hb dX0_passColumn_27 hl (by decide) rfl (fun ls hl => ?_)
          refine lv_aload_n hx hb dX0_passColumn_29 rfl (lv_at hl 3 rfl) ?_
          refine va_get (D := (dC, dI)) (ci := 0) (v := .ref qp) (C := RX0) (T := TX0) (N := 9) hx hb hts hin0 hown hK hP 0 rfl rfl 4 (by decide) lk22 (fun _ h9 => h9) rfl dX0_passColumn_30 ?_
          refine lv_iload_n hx hb dX0_passColumn_33 rfl (lv_at hl 2 rfl) ?_
          refine lv_iload_n hx hb dX0_passColumn_34 rfl (lv_at hl 4 rfl) ?_
          refine gz_callR (W.runS (As := [.int (nI i), .int (nI col)]) (rest := [.ref qp]) ⟨hx, hb, hml, hown, hts⟩ (cG_pointAt l i col) (va_cwS 2 hts gX0_passColumn_X0_pointAt rfl rfl rfl (by decide +kernel) ⟨Nat.le_of_ble_eq_true rfl, Nat.le_of_ble_eq_true rfl⟩) preEq rfl rfl hl.1 rfl (lv_room (Nat.le_of_ble_eq_true rfl)) dX0_passColumn_35 ⟨Nat.le_of_ble_eq_true rfl, Nat.le_of_ble_eq_true rfl⟩) ?_
          refine gz_iald (k := i * 13 + col) hx hb hK hP 5 0 rfl rfl (by omega) (by omega) dX0_passColumn_38 ?_
          refine lv_iconst (v := nI 1) hx hb dX0_passColumn_39 (by decide) ?_
          refine lv_icmp_ne (tgt := 67) hx hb dX0_passColumn_40 (by decide) (fun c_2 => False.elim (c_2 hp1)) (fun c_2 => ?_)
          refine lv_aload_n hx hb dX0_passColumn_43 rfl (lv_at hl 3 rfl) ?_
          refine va_get (D := (dC, dI)) (ci := 0) (v := .ref qk) (C := RX0) (T := TX0) (N := 9) hx hb hts hin0 hown hK hP 0 rfl rfl 0 (by decide) lk9 (fun _ h9 => h9) rfl dX0_passColumn_44 ?_
          refine lv_iload_n hx hb dX0_passColumn_47 rfl (lv_at hl 1 rfl) ?_
          refine gz_iald (k := i * 12 + col) hx hb hK hP 1 0 rfl rfl (by omega) (by omega) dX0_passColumn_48 ?_
          refine lv_iload hx hb dX0_passColumn_49 (lv_at hl 0 rfl) ?_
          refine lv_aload_n hx hb dX0_passColumn_51 rfl (lv_at hl 3 rfl) ?_
          refine va_get (D := (dC, dI)) (ci := 0) (v := .ref qs) (C := RX0) (T := TX0) (N := 9) hx hb hts hin0 hown hK hP 0 rfl rfl 2 (by decide) lk16 (fun _ h9 => h9) rfl dX0_passColumn_52 ?_
          refine lv_iload_n hx hb dX0_passColumn_55 rfl (lv_at hl 1 rfl) ?_
          refine gz_iald (k := i * 12 + col) hx hb hK hP 3 0 rfl rfl (by omega) (by omega) dX0_passColumn_56 ?_
          refine gz_callR (W.runS (As := [.int (fk (i * 12 + col)), .int (fv (fc (i * 12 + col)).toNatClampNeg), .int (q.2 (i * 12 + col))]) (rest := []) ⟨hx, hb, hml, hown, hts⟩ (cG_letsThrough l (fk (i * 12 + col)) (fv (fc (i * 12 + col)).toNatClampNeg) (q.2 (i * 12 + col))) (va_cwS 3 hts gX0_passColumn_X0_letsThrough rfl rfl rfl (by decide +kernel) ⟨Nat.le_of_ble_eq_true rfl, Nat.le_of_ble_eq_true rfl⟩) preEq rfl rfl hl.1 rfl (lv_room (Nat.le_of_ble_eq_true rfl)) dX0_passColumn_57 ⟨Nat.le_of_ble_eq_true rfl, Nat.le_of_ble_eq_true rfl⟩) ?_
          refine lv_if_eq (tgt := 67) hx hb dX0_passColumn_60 (by decide) (fun c_3 => False.elim (absurd (hg.symm.trans c_3) (by decide))) (fun c_3 => ?_)
          refine lv_iconst (v := nI 1) hx hb dX0_passColumn_63 (by decide) ?_
          refine lv_goto (tgt := 68) hx hb dX0_passColumn_64 (by decide) ?_
          refine lv_istore (lv' := [(5, .int (nI 1)), (4, .int (fv (fc (i * 12 + col)).toNatClampNeg)), (3, .int (nI (i * 12 + col))), (2, .int (nI i)), (0, .ref h), (1, .int (nI col))]) hx hb dX0_passColumn_68 hl (by decide) rfl (fun ls hl => ?_)
          refine lv_aload_n hx hb dX0_passColumn_70 rfl (lv_at hl 4 rfl) ?_
          refine va_get (D := (dC, dI)) (ci := 0) (v := .ref qp) (C := RX0) (T := TX0) (N := 9) hx hb hts hin0 hown hK hP 0 rfl rfl 4 (by decide) lk22 (fun _ h9 => h9) rfl dX0_passColumn_71 ?_
          refine lv_iload_n hx hb dX0_passColumn_74 rfl (lv_at hl 3 rfl) ?_
          refine lv_iload_n hx hb dX0_passColumn_75 rfl (lv_at hl 5 rfl) ?_
          refine lv_iconst (v := nI 1) hx hb dX0_passColumn_76 (by decide) ?_
          refine gz_iadd (i := col) (j := 1) hx hb dX0_passColumn_77 ?_
          refine gz_callR (W.runS (As := [.int (nI i), .int (nI (col + 1))]) (rest := [.ref qp]) ⟨hx, hb, hml, hown, hts⟩ (cG_pointAt l i (col + 1)) (va_cwS 2 hts gX0_passColumn_X0_pointAt rfl rfl rfl (by decide +kernel) ⟨Nat.le_of_ble_eq_true rfl, Nat.le_of_ble_eq_true rfl⟩) preEq rfl rfl hl.1 rfl (lv_room (Nat.le_of_ble_eq_true rfl)) dX0_passColumn_78 ⟨Nat.le_of_ble_eq_true rfl, Nat.le_of_ble_eq_true rfl⟩) ?_
          refine lv_iload hx hb dX0_passColumn_81 (lv_at hl 0 rfl) ?_
          refine lv_if_eq (tgt := 90) hx hb dX0_passColumn_83 (by decide) (fun c_4 => False.elim (absurd c_4 (by decide))) (fun c_4 => ?_)
          refine lv_iconst (v := nI 1) hx hb dX0_passColumn_86 (by decide) ?_
          refine lv_goto (tgt := 91) hx hb dX0_passColumn_87 (by decide) ?_
          refine gz_iast (k := i * 13 + (col + 1)) hx hb hK hP hD hS 5 0 rfl rfl (by omega) (by omega) dX0_passColumn_91 (fun H locs hP hD hS => ?_)
          have hP : va_P (dC, dI) vwCl (gw cA h qk qc qs ql qp qv fk fc q.2 fl (upd q.1 (i * 13 + (col + 1)) (nI 1)) fv (nI rn) (nI cn) sc) H := hP
          have hD : va_D A (gw cA h qk qc qs ql qp qv fk fc q.2 fl (upd q.1 (i * 13 + (col + 1)) (nI 1)) fv (nI rn) (nI cn) sc) := hD
          refine lv_aload_n hx hb dX0_passColumn_92 rfl (lv_at hl 4 rfl) ?_
          refine va_get (D := (dC, dI)) (ci := 0) (v := .ref qs) (C := RX0) (T := TX0) (N := 9) hx hb hts hin0 hown hK hP 0 rfl rfl 2 (by decide) lk16 (fun _ h9 => h9) rfl dX0_passColumn_93 ?_
          refine lv_iload_n hx hb dX0_passColumn_96 rfl (lv_at hl 2 rfl) ?_
          refine lv_iload hx hb dX0_passColumn_97 (lv_at hl 1 rfl) ?_
          refine gz_iast (k := i * 12 + col) hx hb hK hP hD hS 3 0 rfl rfl (by omega) (by omega) dX0_passColumn_99 (fun H locs hP hD hS => ?_)
          have hP : va_P (dC, dI) vwCl (gw cA h qk qc qs ql qp qv fk fc (upd q.2 (i * 12 + col) (fv (fc (i * 12 + col)).toNatClampNeg)) fl (upd q.1 (i * 13 + (col + 1)) (nI 1)) fv (nI rn) (nI cn) sc) H := hP
          have hD : va_D A (gw cA h qk qc qs ql qp qv fk fc (upd q.2 (i * 12 + col) (fv (fc (i * 12 + col)).toNatClampNeg)) fl (upd q.1 (i * 13 + (col + 1)) (nI 1)) fv (nI rn) (nI cn) sc) := hD
          refine lv_iinc (v := nI (i + 1)) (lv' := [(2, .int (nI (i + 1))), (5, .int (nI 1)), (4, .int (fv (fc (i * 12 + col)).toNatClampNeg)), (3, .int (nI (i * 12 + col))), (0, .ref h), (1, .int (nI col))]) hx hb dX0_passColumn_100 hl (k := 3) rfl (nI_1 _) (by decide) rfl (fun ls hl => ?_)
          refine lv_goto (tgt := 2) hx hb dX0_passColumn_103 (by decide) ?_
          exact ih (i + 1) (upd q.1 (i * 13 + (col + 1)) (nI 1), upd q.2 (i * 12 + col) (fv (fc (i * 12 + col)).toNatClampNeg)) (by omega) (by show _ = gPs1 _ _ _ _ _ (gPs fk fc fv col (fp, fs) i); rw [← hq]; unfold gPs1; rw [if_pos hp1, hg]) H locs hP hD hS ls (lv_sub hl [0, 4, 5] rfl)
      · skip
        refine lv_iload_n hx hb dX0_passColumn_2 rfl (lv_at hl 0 rfl) ?_
        refine lv_aload_n hx hb dX0_passColumn_3 rfl (lv_at hl 1 rfl) ?_
        refine va_get (D := (dC, dI)) (ci := 0) (v := .int (nI rn)) (C := RX0) (T := TX0) (N := 9) hx hb hts hin0 hown hK hP 0 rfl rfl 6 (by decide) lk28 (fun _ h9 => h9) rfl dX0_passColumn_4 ?_
        refine gz_icmp_ge (tgt := 106) (za := ((i : Nat) : Int)) (zb := ((rn : Nat) : Int)) hx hb dX0_passColumn_7 (by decide) (nI_toInt (by omega)) (nI_toInt (by omega)) (fun c_1 => False.elim (by omega)) (fun c_1 => ?_)
        refine lv_iload_n hx hb dX0_passColumn_10 rfl (lv_at hl 0 rfl) ?_
        refine lv_iload_n hx hb dX0_passColumn_11 rfl (lv_at hl 2 rfl) ?_
        refine gz_callR (W.runS (As := [.int (nI i), .int (nI col)]) (rest := []) ⟨hx, hb, hml, hown, hts⟩ (cG_cellAt l i col) (va_cwS 2 hts gX0_passColumn_X0_cellAt rfl rfl rfl (by decide +kernel) ⟨Nat.le_of_ble_eq_true rfl, Nat.le_of_ble_eq_true rfl⟩) preEq rfl rfl hl.1 rfl (lv_room (Nat.le_of_ble_eq_true rfl)) dX0_passColumn_12 ⟨Nat.le_of_ble_eq_true rfl, Nat.le_of_ble_eq_true rfl⟩) ?_
        refine lv_istore_n (lv' := [(3, .int (nI (i * 12 + col))), (2, .int (nI i)), (0, .ref h), (1, .int (nI col))]) hx hb dX0_passColumn_15 rfl hl (by decide) rfl (fun ls hl => ?_)
        refine lv_aload_n hx hb dX0_passColumn_16 rfl (lv_at hl 2 rfl) ?_
        refine va_get (D := (dC, dI)) (ci := 0) (v := .ref qv) (C := RX0) (T := TX0) (N := 9) hx hb hts hin0 hown hK hP 0 rfl rfl 5 (by decide) lk25 (fun _ h9 => h9) rfl dX0_passColumn_17 ?_
        refine lv_aload_n hx hb dX0_passColumn_20 rfl (lv_at hl 2 rfl) ?_
        refine va_get (D := (dC, dI)) (ci := 0) (v := .ref qc) (C := RX0) (T := TX0) (N := 9) hx hb hts hin0 hown hK hP 0 rfl rfl 1 (by decide) lk13 (fun _ h9 => h9) rfl dX0_passColumn_21 ?_
        refine lv_iload_n hx hb dX0_passColumn_24 rfl (lv_at hl 0 rfl) ?_
        refine gz_iald (k := i * 12 + col) hx hb hK hP 2 0 rfl rfl (by omega) (by omega) dX0_passColumn_25 ?_
        refine va_iald hx hb hK hP 6 0 rfl rfl hci dX0_passColumn_26 ?_
        refine lv_istore (lv' := [(4, .int (fv (fc (i * 12 + col)).toNatClampNeg)), (3, .int (nI (i * 12 + col))), (2, .int (nI i)), (0, .ref h), (1, .int (nI col))]) hx hb dX0_passColumn_27 hl (by decide) rfl (fun ls hl => ?_)
        refine lv_aload_n hx hb dX0_passColumn_29 rfl (lv_at hl 3 rfl) ?_
        refine va_get (D := (dC, dI)) (ci := 0) (v := .ref qp) (C := RX0) (T := TX0) (N := 9) hx hb hts hin0 hown hK hP 0 rfl rfl 4 (by decide) lk22 (fun _ h9 => h9) rfl dX0_passColumn_30 ?_
        refine lv_iload_n hx hb dX0_passColumn_33 rfl (lv_at hl 2 rfl) ?_
        refine lv_iload_n hx hb dX0_passColumn_34 rfl (lv_at hl 4 rfl) ?_
        refine gz_callR (W.runS (As := [.int (nI i), .int (nI col)]) (rest := [.ref qp]) ⟨hx, hb, hml, hown, hts⟩ (cG_pointAt l i col) (va_cwS 2 hts gX0_passColumn_X0_pointAt rfl rfl rfl (by decide +kernel) ⟨Nat.le_of_ble_eq_true rfl, Nat.le_of_ble_eq_true rfl⟩) preEq rfl rfl hl.1 rfl (lv_room (Nat.le_of_ble_eq_true rfl)) dX0_passColumn_35 ⟨Nat.le_of_ble_eq_true rfl, Nat.le_of_ble_eq_true rfl⟩) ?_
        refine gz_iald (k := i * 13 + col) hx hb hK hP 5 0 rfl rfl (by omega) (by omega) dX0_passColumn_38 ?_
        refine lv_iconst (v := nI 1) hx hb dX0_passColumn_39 (by decide) ?_
        refine lv_icmp_ne (tgt := 67) hx hb dX0_passColumn_40 (by decide) (fun c_2 => ?_) (fun c_2 => False.elim (hp1 c_2))
        refine lv_iconst (v := nI 0) hx hb dX0_passColumn_67 (by decide) ?_
        refine lv_istore (lv' := [(5, .int (nI 0)), (4, .int (fv (fc (i * 12 + col)).toNatClampNeg)), (3, .int (nI (i * 12 + col))), (2, .int (nI i)), (0, .ref h), (1, .int (nI col))]) hx hb dX0_passColumn_68 hl (by decide) rfl (fun ls hl => ?_)
        refine lv_aload_n hx hb dX0_passColumn_70 rfl (lv_at hl 4 rfl) ?_
        refine va_get (D := (dC, dI)) (ci := 0) (v := .ref qp) (C := RX0) (T := TX0) (N := 9) hx hb hts hin0 hown hK hP 0 rfl rfl 4 (by decide) lk22 (fun _ h9 => h9) rfl dX0_passColumn_71 ?_
        refine lv_iload_n hx hb dX0_passColumn_74 rfl (lv_at hl 3 rfl) ?_
        refine lv_iload_n hx hb dX0_passColumn_75 rfl (lv_at hl 5 rfl) ?_
        refine lv_iconst (v := nI 1) hx hb dX0_passColumn_76 (by decide) ?_
        refine gz_iadd (i := col) (j := 1) hx hb dX0_passColumn_77 ?_
        refine gz_callR (W.runS (As := [.int (nI i), .int (nI (col + 1))]) (rest := [.ref qp]) ⟨hx, hb, hml, hown, hts⟩ (cG_pointAt l i (col + 1)) (va_cwS 2 hts gX0_passColumn_X0_pointAt rfl rfl rfl (by decide +kernel) ⟨Nat.le_of_ble_eq_true rfl, Nat.le_of_ble_eq_true rfl⟩) preEq rfl rfl hl.1 rfl (lv_room (Nat.le_of_ble_eq_true rfl)) dX0_passColumn_78 ⟨Nat.le_of_ble_eq_true rfl, Nat.le_of_ble_eq_true rfl⟩) ?_
        refine lv_iload hx hb dX0_passColumn_81 (lv_at hl 0 rfl) ?_
        refine lv_if_eq (tgt := 90) hx hb dX0_passColumn_83 (by decide) (fun c_3 => ?_) (fun c_3 => False.elim (c_3 rfl))
        refine lv_iconst (v := nI 0) hx hb dX0_passColumn_90 (by decide) ?_
        refine gz_iast (k := i * 13 + (col + 1)) hx hb hK hP hD hS 5 0 rfl rfl (by omega) (by omega) dX0_passColumn_91 (fun H locs hP hD hS => ?_)
        have hP : va_P (dC, dI) vwCl (gw cA h qk qc qs ql qp qv fk fc q.2 fl (upd q.1 (i * 13 + (col + 1)) (nI 0)) fv (nI rn) (nI cn) sc) H := hP
        have hD : va_D A (gw cA h qk qc qs ql qp qv fk fc q.2 fl (upd q.1 (i * 13 + (col + 1)) (nI 0)) fv (nI rn) (nI cn) sc) := hD
        refine lv_aload_n hx hb dX0_passColumn_92 rfl (lv_at hl 4 rfl) ?_
        refine va_get (D := (dC, dI)) (ci := 0) (v := .ref qs) (C := RX0) (T := TX0) (N := 9) hx hb hts hin0 hown hK hP 0 rfl rfl 2 (by decide) lk16 (fun _ h9 => h9) rfl dX0_passColumn_93 ?_
        refine lv_iload_n hx hb dX0_passColumn_96 rfl (lv_at hl 2 rfl) ?_
        refine lv_iload hx hb dX0_passColumn_97 (lv_at hl 1 rfl) ?_
        refine gz_iast (k := i * 12 + col) hx hb hK hP hD hS 3 0 rfl rfl (by omega) (by omega) dX0_passColumn_99 (fun H locs hP hD hS => ?_)
        have hP : va_P (dC, dI) vwCl (gw cA h qk qc qs ql qp qv fk fc (upd q.2 (i * 12 + col) (fv (fc (i * 12 + col)).toNatClampNeg)) fl (upd q.1 (i * 13 + (col + 1)) (nI 0)) fv (nI rn) (nI cn) sc) H := hP
        have hD : va_D A (gw cA h qk qc qs ql qp qv fk fc (upd q.2 (i * 12 + col) (fv (fc (i * 12 + col)).toNatClampNeg)) fl (upd q.1 (i * 13 + (col + 1)) (nI 0)) fv (nI rn) (nI cn) sc) := hD
        refine lv_iinc (v := nI (i + 1)) (lv' := [(2, .int (nI (i + 1))), (5, .int (nI 0)), (4, .int (fv (fc (i * 12 + col)).toNatClampNeg)), (3, .int (nI (i * 12 + col))), (0, .ref h), (1, .int (nI col))]) hx hb dX0_passColumn_100 hl (k := 3) rfl (nI_1 _) (by decide) rfl (fun ls hl => ?_)
        refine lv_goto (tgt := 2) hx hb dX0_passColumn_103 (by decide) ?_
        exact ih (i + 1) (upd q.1 (i * 13 + (col + 1)) (nI 0), upd q.2 (i * 12 + col) (fv (fc (i * 12 + col)).toNatClampNeg)) (by omega) (by show _ = gPs1 _ _ _ _ _ (gPs fk fc fv col (fp, fs) i); rw [← hq]; unfold gPs1; rw [if_neg hp1]) H locs hP hD hS ls (lv_sub hl [0, 4, 5] rfl)
  refine lv_iconst (v := nI 0) hx hb dX0_passColumn_0 (by decide) ?_
  refine lv_istore_n (lv' := [(2, .int (nI 0)), (0, .ref h), (1, .int (nI col))]) hx hb dX0_passColumn_1 rfl hl (by decide) rfl (fun ls hl => ?_)
  exact loop rn 0 (fp, fs) (by omega) rfl H locs hP hD hS ls (lv_sub hl [0, 1, 2] rfl)
set_option maxHeartbeats 4000000 in
set_option maxRecDepth 100000 in
theorem cG_share (l : Launch) (dC : Nat → ClassId) (dI : Nat → Nat → Nat) (sz : Nat) (cA cZ : ClassId) (h qk qc qs ql qp qv : Nat) (fk fc fs fl fp fv : Nat → Int32) (rn cn : Nat) (sc : Int32) (ln : Nat) (hrn : 1 ≤ rn ∧ rn ≤ 12) (hcn : 1 ≤ cn ∧ cn ≤ 12) (hln : ln ≤ cn) : Met l yX0_shareAlongLinks wsX0_shareAlongLinks ({ frames := 1, cells := 0, slots := 0, locals := 21 }) (gPw (dC, dI) vwCl [(cA, .int), (cZ, .boolean)] [.ref h, .int (nI ln)] sz (gw cA h qk qc qs ql qp qv fk fc fs fl fp fv (nI rn) (nI cn) sc)) (gVA (dC, dI) vwCl [(cA, .int), (cZ, .boolean)] (va_A (gw cA h qk qc qs ql qp qv fk fc fs fl fp fv (nI rn) (nI cn) sc) sz) (gw cA h qk qc qs ql qp qv fk fc fs fl (gSh fl ln rn fp) fv (nI rn) (nI cn) sc)) 0 0 (va_A (gw cA h qk qc qs ql qp qv fk fc fs fl fp fv (nI rn) (nI cn) sc) sz) := by
  refine Met.ofW (cc := cX0_shareAlongLinks) (maxL := 3) (ret := none) (by decide) rfl ?_
  intro p e s m args below meth c s₁ B hml hv
  obtain ⟨rfl, hsz, hP, hK, hD0⟩ := hv
  have hx := B.exec
  have hb := B.bytes
  have hr := B.returns
  have hts := atoms_spec (ws := wsX0_shareAlongLinks) B.pre
  have hown : s.vm.findClass RX0 = some m.cls := findClass_of_methodNamed B.named
  have hlocks := B.notSynchronized
  subst hsz
  have hD := hD0.self (sz := s.heap.size)
  generalize hAe : va_A (gw cA h qk qc qs ql qp qv fk fc fs fl fp fv (nI rn) (nI cn) sc) s.heap.size = A at hD ⊢
  have hA : ∀ q : Nat, s.heap.size ≤ q → A q := fun q h => by rw [← hAe]; exact Or.inr h
  have hS : va_S A s.heap s.heap [] := va_S.rf
  have hin0 : ∀ w ∈ u_ws RX0 TX0 9, w ∈ wsX0_shareAlongLinks := by decide +kernel
  have lk28 := hts (.fieldLink RX0 28 "LadderGrid" "rows" "I") (by decide +kernel)
  have lk19 := hts (.fieldLink RX0 19 "LadderGrid" "links" "[I") (by decide +kernel)
  have lk22 := hts (.fieldLink RX0 22 "LadderGrid" "powered" "[I") (by decide +kernel)
  have hl := lv_entry ([.ref h, .int (nI ln)]) (n := 3) (Nat.le_of_ble_eq_true rfl)
  rw [lg_entry_eq]
  generalize (lg_sl ([.ref h, .int (nI ln)]) ++ List.replicate (3 - (lg_sl ([.ref h, .int (nI ln)])).length) Slot.unset).toArray = ls at hl ⊢
  have hl : lv_has ls 3 [(0, .ref h), (1, .int (nI ln))] := hl
  suffices key : ∀ (H : Heap) (locs : List Loc), va_P (dC, dI) vwCl (gw cA h qk qc qs ql qp qv fk fc fs fl fp fv (nI rn) (nI cn) sc) H → va_D A (gw cA h qk qc qs ql qp qv fk fc fs fl fp fv (nI rn) (nI cn) sc) → va_S A s.heap H locs → W p l e (headSpec wsX0_shareAlongLinks ({ frames := 1, cells := 0, slots := 0, locals := 21 })).room s m ([.ref h, .int (nI ln)] : List Value).toArray below meth c H locs 0 0 (MQ below (gVA (dC, dI) vwCl [(cA, .int), (cZ, .boolean)] A (gw cA h qk qc qs ql qp qv fk fc fs fl (gSh fl ln rn fp) fv (nI rn) (nI cn) sc)) ([.ref h, .int (nI ln)] : List Value).toArray s 0 0 A) (F0 m 0 ls []) from key s.heap [] hP hD hS
  clear hP hD hS
  intro H locs hP hD hS
  have loop2 : ∀ (n : Nat) (g : Nat → Int32), n + 1 ≤ rn → gUp fl ln (rn - 1) (gDn fl ln fp (rn - 1)) = gUp fl ln n g → ∀ (H : Heap) (locs : List Loc), va_P (dC, dI) vwCl (gw cA h qk qc qs ql qp qv fk fc fs fl g fv (nI rn) (nI cn) sc) H → va_D A (gw cA h qk qc qs ql qp qv fk fc fs fl g fv (nI rn) (nI cn) sc) → va_S A s.heap H locs → ∀ (ls : Array Slot), lv_has ls 3 [(2, .int (gRow n)), (0, .ref h), (1, .int (nI ln))] → W p l e (headSpec wsX0_shareAlongLinks ({ frames := 1, cells := 0, slots := 0, locals := 21 })).room s m ([.ref h, .int (nI ln)] : List Value).toArray below meth c H locs 0 0 (MQ below (gVA (dC, dI) vwCl [(cA, .int), (cZ, .boolean)] A (gw cA h qk qc qs ql qp qv fk fc fs fl (gSh fl ln rn fp) fv (nI rn) (nI cn) sc)) ([.ref h, .int (nI ln)] : List Value).toArray s 0 0 A) (F0 m 66 ls []) := by
    intro n
    induction n with
    | zero =>
      intro g hn hg H locs hP hD hS ls hl
      have hl : lv_has ls 3 [(2, .int (-1)), (0, .ref h), (1, .int (nI ln))] := hl
      refine lv_iload_n hx hb dX0_shareAlongLinks_66 rfl (lv_at hl 0 rfl) ?_
      refine gz_if_lt (tgt := 117) (za := (-1)) hx hb dX0_shareAlongLinks_67 (by decide) (by decide) (fun c_1 => ?_) (fun c_1 => False.elim (by omega))
      exact W.vret hx hb hr (fun t ht hW => ⟨⟨(), rfl, trivial, by rw [ht]; exact (by unfold gSh; rw [hg]; exact hP), va_K.moved hW.alike hK, (by unfold gSh; rw [hg]; exact hD)⟩, hS.F ht⟩) hS.2.2 dX0_shareAlongLinks_117
    | succ n ih =>
      intro g hn hg H locs hP hD hS ls hl
      have hl : lv_has ls 3 [(2, .int (nI n)), (0, .ref h), (1, .int (nI ln))] := hl
      by_cases hf1 : fl (n * 13 + ln) = nI 1
      · by_cases hg1 : g ((n + 1) * 13 + ln) = nI 1
        · skip
          refine lv_iload_n hx hb dX0_shareAlongLinks_66 rfl (lv_at hl 0 rfl) ?_
          refine gz_if_lt (tgt := 117) (za := ((n : Nat) : Int)) hx hb dX0_shareAlongLinks_67 (by decide) (nI_toInt (by omega)) (fun c_1 => False.elim (by omega)) (fun c_1 => ?_)
          refine lv_aload_n hx hb dX0_shareAlongLinks_70 rfl (lv_at hl 1 rfl) ?_
          refine va_get (D := (dC, dI)) (ci := 0) (v := .ref ql) (C := RX0) (T := TX0) (N := 9) hx hb hts hin0 hown hK hP 0 rfl rfl 3 (by decide) lk19 (fun _ h9 => h9) rfl dX0_shareAlongLinks_71 ?_
          refine lv_iload_n hx hb dX0_shareAlongLinks_74 rfl (lv_at hl 0 rfl) ?_
          refine lv_iload_n hx hb dX0_shareAlongLinks_75 rfl (lv_at hl 2 rfl) ?_
          refine gz_callR (W.runS (As := [.int (nI n), .int (nI ln)]) (rest := [.ref ql]) ⟨hx, hb, hml, hown, hts⟩ (cG_pointAt l n ln) (va_cwS 2 hts gX0_shareAlongLinks_X0_pointAt rfl rfl rfl (by decide +kernel) ⟨Nat.le_of_ble_eq_true rfl, Nat.le_of_ble_eq_true rfl⟩) preEq rfl rfl hl.1 rfl (lv_room (Nat.le_of_ble_eq_true rfl)) dX0_shareAlongLinks_76 ⟨Nat.le_of_ble_eq_true rfl, Nat.le_of_ble_eq_true rfl⟩) ?_
          refine gz_iald (k := n * 13 + ln) hx hb hK hP 4 0 rfl rfl (by omega) (by omega) dX0_shareAlongLinks_79 ?_
          refine lv_iconst (v := nI 1) hx hb dX0_shareAlongLinks_80 (by decide) ?_
          refine lv_icmp_ne (tgt := 111) hx hb dX0_shareAlongLinks_81 (by decide) (fun c_2 => False.elim (c_2 hf1)) (fun c_2 => ?_)
          refine lv_aload_n hx hb dX0_shareAlongLinks_84 rfl (lv_at hl 1 rfl) ?_
          refine va_get (D := (dC, dI)) (ci := 0) (v := .ref qp) (C := RX0) (T := TX0) (N := 9) hx hb hts hin0 hown hK hP 0 rfl rfl 4 (by decide) lk22 (fun _ h9 => h9) rfl dX0_shareAlongLinks_85 ?_
          refine lv_iload_n hx hb dX0_shareAlongLinks_88 rfl (lv_at hl 0 rfl) ?_
          refine lv_iconst (v := nI 1) hx hb dX0_shareAlongLinks_89 (by decide) ?_
          refine gz_iadd (i := n) (j := 1) hx hb dX0_shareAlongLinks_90 ?_
          refine lv_iload_n hx hb dX0_shareAlongLinks_91 rfl (lv_at hl 2 rfl) ?_
          refine gz_callR (W.runS (As := [.int (nI (n + 1)), .int (nI ln)]) (rest := [.ref qp]) ⟨hx, hb, hml, hown, hts⟩ (cG_pointAt l (n + 1) ln) (va_cwS 2 hts gX0_shareAlongLinks_X0_pointAt rfl rfl rfl (by decide +kernel) ⟨Nat.le_of_ble_eq_true rfl, Nat.le_of_ble_eq_true rfl⟩) preEq rfl rfl hl.1 rfl (lv_room (Nat.le_of_ble_eq_true rfl)) dX0_shareAlongLinks_92 ⟨Nat.le_of_ble_eq_true rfl, Nat.le_of_ble_eq_true rfl⟩) ?_
          refine gz_iald (k := (n + 1) * 13 + ln) hx hb hK hP 5 0 rfl rfl (by omega) (by omega) dX0_shareAlongLinks_95 ?_
          refine lv_iconst (v := nI 1) hx hb dX0_shareAlongLinks_96 (by decide) ?_
          refine lv_icmp_ne (tgt := 111) hx hb dX0_shareAlongLinks_97 (by decide) (fun c_3 => False.elim (c_3 hg1)) (fun c_3 => ?_)
          refine lv_aload_n hx hb dX0_shareAlongLinks_100 rfl (lv_at hl 1 rfl) ?_
          refine va_get (D := (dC, dI)) (ci := 0) (v := .ref qp) (C := RX0) (T := TX0) (N := 9) hx hb hts hin0 hown hK hP 0 rfl rfl 4 (by decide) lk22 (fun _ h9 => h9) rfl dX0_shareAlongLinks_101 ?_
          refine lv_iload_n hx hb dX0_shareAlongLinks_104 rfl (lv_at hl 0 rfl) ?_
          refine lv_iload_n hx hb dX0_shareAlongLinks_105 rfl (lv_at hl 2 rfl) ?_
          refine gz_callR (W.runS (As := [.int (nI n), .int (nI ln)]) (rest := [.ref qp]) ⟨hx, hb, hml, hown, hts⟩ (cG_pointAt l n ln) (va_cwS 2 hts gX0_shareAlongLinks_X0_pointAt rfl rfl rfl (by decide +kernel) ⟨Nat.le_of_ble_eq_true rfl, Nat.le_of_ble_eq_true rfl⟩) preEq rfl rfl hl.1 rfl (lv_room (Nat.le_of_ble_eq_true rfl)) dX0_shareAlongLinks_106 ⟨Nat.le_of_ble_eq_true rfl, Nat.le_of_ble_eq_true rfl⟩) ?_
          refine lv_iconst (v := nI 1) hx hb dX0_shareAlongLinks_109 (by decide) ?_
          refine gz_iast (k := n * 13 + ln) hx hb hK hP hD hS 5 0 rfl rfl (by omega) (by omega) dX0_shareAlongLinks_110 (fun H locs hP hD hS => ?_)
          have hP : va_P (dC, dI) vwCl (gw cA h qk qc qs ql qp qv fk fc fs fl (upd g (n * 13 + ln) (nI 1)) fv (nI rn) (nI cn) sc) H := hP
          have hD : va_D A (gw cA h qk qc qs ql qp qv fk fc fs fl (upd g (n * 13 + ln) (nI 1)) fv (nI rn) (nI cn) sc) := hD
          refine lv_iinc (v := gRow n) (lv' := [(2, .int (gRow n)), (0, .ref h), (1, .int (nI ln))]) hx hb dX0_shareAlongLinks_111 hl (k := 0) rfl (gRow_dec n) (by decide) rfl (fun ls hl => ?_)
          refine lv_goto (tgt := 66) hx hb dX0_shareAlongLinks_114 (by decide) ?_
          exact ih (upd g (n * 13 + ln) (nI 1)) (by omega) (by rw [hg]; show gUp fl ln n (gUp1 fl ln n g) = _; unfold gUp1; rw [if_pos hf1, if_pos hg1]) H locs hP hD hS ls (lv_sub hl [0, 1, 2] rfl)
        · skip
          refine lv_iload_n hx hb dX0_shareAlongLinks_66 rfl (lv_at hl 0 rfl) ?_
          refine gz_if_lt (tgt := 117) (za := ((n : Nat) : Int)) hx hb dX0_shareAlongLinks_67 (by decide) (nI_toInt (by omega)) (fun c_1 => False.elim (by omega)) (fun c_1 => ?_)
          refine lv_aload_n hx hb dX0_shareAlongLinks_70 rfl (lv_at hl 1 rfl) ?_
          refine va_get (D := (dC, dI)) (ci := 0) (v := .ref ql) (C := RX0) (T := TX0) (N := 9) hx hb hts hin0 hown hK hP 0 rfl rfl 3 (by decide) lk19 (fun _ h9 => h9) rfl dX0_shareAlongLinks_71 ?_
          refine lv_iload_n hx hb dX0_shareAlongLinks_74 rfl (lv_at hl 0 rfl) ?_
          refine lv_iload_n hx hb dX0_shareAlongLinks_75 rfl (lv_at hl 2 rfl) ?_
          refine gz_callR (W.runS (As := [.int (nI n), .int (nI ln)]) (rest := [.ref ql]) ⟨hx, hb, hml, hown, hts⟩ (cG_pointAt l n ln) (va_cwS 2 hts gX0_shareAlongLinks_X0_pointAt rfl rfl rfl (by decide +kernel) ⟨Nat.le_of_ble_eq_true rfl, Nat.le_of_ble_eq_true rfl⟩) preEq rfl rfl hl.1 rfl (lv_room (Nat.le_of_ble_eq_true rfl)) dX0_shareAlongLinks_76 ⟨Nat.le_of_ble_eq_true rfl, Nat.le_of_ble_eq_true rfl⟩) ?_
          refine gz_iald (k := n * 13 + ln) hx hb hK hP 4 0 rfl rfl (by omega) (by omega) dX0_shareAlongLinks_79 ?_
          refine lv_iconst (v := nI 1) hx hb dX0_shareAlongLinks_80 (by decide) ?_
          refine lv_icmp_ne (tgt := 111) hx hb dX0_shareAlongLinks_81 (by decide) (fun c_2 => False.elim (c_2 hf1)) (fun c_2 => ?_)
          refine lv_aload_n hx hb dX0_shareAlongLinks_84 rfl (lv_at hl 1 rfl) ?_
          refine va_get (D := (dC, dI)) (ci := 0) (v := .ref qp) (C := RX0) (T := TX0) (N := 9) hx hb hts hin0 hown hK hP 0 rfl rfl 4 (by decide) lk22 (fun _ h9 => h9) rfl dX0_shareAlongLinks_85 ?_
          refine lv_iload_n hx hb dX0_shareAlongLinks_88 rfl (lv_at hl 0 rfl) ?_
          refine lv_iconst (v := nI 1) hx hb dX0_shareAlongLinks_89 (by decide) ?_
          refine gz_iadd (i := n) (j := 1) hx hb dX0_shareAlongLinks_90 ?_
          refine lv_iload_n hx hb dX0_shareAlongLinks_91 rfl (lv_at hl 2 rfl) ?_
          refine gz_callR (W.runS (As := [.int (nI (n + 1)), .int (nI ln)]) (rest := [.ref qp]) ⟨hx, hb, hml, hown, hts⟩ (cG_pointAt l (n + 1) ln) (va_cwS 2 hts gX0_shareAlongLinks_X0_pointAt rfl rfl rfl (by decide +kernel) ⟨Nat.le_of_ble_eq_true rfl, Nat.le_of_ble_eq_true rfl⟩) preEq rfl rfl hl.1 rfl (lv_room (Nat.le_of_ble_eq_true rfl)) dX0_shareAlongLinks_92 ⟨Nat.le_of_ble_eq_true rfl, Nat.le_of_ble_eq_true rfl⟩) ?_
          refine gz_iald (k := (n + 1) * 13 + ln) hx hb hK hP 5 0 rfl rfl (by omega) (by omega) dX0_shareAlongLinks_95 ?_
          refine lv_iconst (v := nI 1) hx hb dX0_shareAlongLinks_96 (by decide) ?_
          refine lv_icmp_ne (tgt := 111) hx hb dX0_shareAlongLinks_97 (by decide) (fun c_3 => ?_) (fun c_3 => False.elim (hg1 c_3))
          refine lv_iinc (v := gRow n) (lv' := [(2, .int (gRow n)), (0, .ref h), (1, .int (nI ln))]) hx hb dX0_shareAlongLinks_111 hl (k := 0) rfl (gRow_dec n) (by decide) rfl (fun ls hl => ?_)
          refine lv_goto (tgt := 66) hx hb dX0_shareAlongLinks_114 (by decide) ?_
          exact ih (g) (by omega) (by rw [hg]; show gUp fl ln n (gUp1 fl ln n g) = _; unfold gUp1; rw [if_pos hf1, if_neg hg1]) H locs hP hD hS ls (lv_sub hl [0, 1, 2] rfl)
      · skip
        refine lv_iload_n hx hb dX0_shareAlongLinks_66 rfl (lv_at hl 0 rfl) ?_
        refine gz_if_lt (tgt := 117) (za := ((n : Nat) : Int)) hx hb dX0_shareAlongLinks_67 (by decide) (nI_toInt (by omega)) (fun c_1 => False.elim (by omega)) (fun c_1 => ?_)
        refine lv_aload_n hx hb dX0_shareAlongLinks_70 rfl (lv_at hl 1 rfl) ?_
        refine va_get (D := (dC, dI)) (ci := 0) (v := .ref ql) (C := RX0) (T := TX0) (N := 9) hx hb hts hin0 hown hK hP 0 rfl rfl 3 (by decide) lk19 (fun _ h9 => h9) rfl dX0_shareAlongLinks_71 ?_
        refine lv_iload_n hx hb dX0_shareAlongLinks_74 rfl (lv_at hl 0 rfl) ?_
        refine lv_iload_n hx hb dX0_shareAlongLinks_75 rfl (lv_at hl 2 rfl) ?_
        refine gz_callR (W.runS (As := [.int (nI n), .int (nI ln)]) (rest := [.ref ql]) ⟨hx, hb, hml, hown, hts⟩ (cG_pointAt l n ln) (va_cwS 2 hts gX0_shareAlongLinks_X0_pointAt rfl rfl rfl (by decide +kernel) ⟨Nat.le_of_ble_eq_true rfl, Nat.le_of_ble_eq_true rfl⟩) preEq rfl rfl hl.1 rfl (lv_room (Nat.le_of_ble_eq_true rfl)) dX0_shareAlongLinks_76 ⟨Nat.le_of_ble_eq_true rfl, Nat.le_of_ble_eq_true rfl⟩) ?_
        refine gz_iald (k := n * 13 + ln) hx hb hK hP 4 0 rfl rfl (by omega) (by omega) dX0_shareAlongLinks_79 ?_
        refine lv_iconst (v := nI 1) hx hb dX0_shareAlongLinks_80 (by decide) ?_
        refine lv_icmp_ne (tgt := 111) hx hb dX0_shareAlongLinks_81 (by decide) (fun c_2 => ?_) (fun c_2 => False.elim (hf1 c_2))
        refine lv_iinc (v := gRow n) (lv' := [(2, .int (gRow n)), (0, .ref h), (1, .int (nI ln))]) hx hb dX0_shareAlongLinks_111 hl (k := 0) rfl (gRow_dec n) (by decide) rfl (fun ls hl => ?_)
        refine lv_goto (tgt := 66) hx hb dX0_shareAlongLinks_114 (by decide) ?_
        exact ih (g) (by omega) (by rw [hg]; show gUp fl ln n (gUp1 fl ln n g) = _; unfold gUp1; rw [if_neg hf1]) H locs hP hD hS ls (lv_sub hl [0, 1, 2] rfl)
  have loop1 : ∀ (n : Nat) (i : Nat), i + n = rn - 1 → ∀ (H : Heap) (locs : List Loc), va_P (dC, dI) vwCl (gw cA h qk qc qs ql qp qv fk fc fs fl (gDn fl ln fp i) fv (nI rn) (nI cn) sc) H → va_D A (gw cA h qk qc qs ql qp qv fk fc fs fl (gDn fl ln fp i) fv (nI rn) (nI cn) sc) → va_S A s.heap H locs → ∀ (ls : Array Slot), lv_has ls 3 [(2, .int (nI i)), (0, .ref h), (1, .int (nI ln))] → W p l e (headSpec wsX0_shareAlongLinks ({ frames := 1, cells := 0, slots := 0, locals := 21 })).room s m ([.ref h, .int (nI ln)] : List Value).toArray below meth c H locs 0 0 (MQ below (gVA (dC, dI) vwCl [(cA, .int), (cZ, .boolean)] A (gw cA h qk qc qs ql qp qv fk fc fs fl (gSh fl ln rn fp) fv (nI rn) (nI cn) sc)) ([.ref h, .int (nI ln)] : List Value).toArray s 0 0 A) (F0 m 2 ls []) := by
    intro n
    induction n with
    | zero =>
      intro i hi H locs hP hD hS ls hl
      refine lv_iload_n hx hb dX0_shareAlongLinks_2 rfl (lv_at hl 0 rfl) ?_
      refine lv_aload_n hx hb dX0_shareAlongLinks_3 rfl (lv_at hl 1 rfl) ?_
      refine va_get (D := (dC, dI)) (ci := 0) (v := .int (nI rn)) (C := RX0) (T := TX0) (N := 9) hx hb hts hin0 hown hK hP 0 rfl rfl 6 (by decide) lk28 (fun _ h9 => h9) rfl dX0_shareAlongLinks_4 ?_
      refine lv_iconst (v := nI 1) hx hb dX0_shareAlongLinks_7 (by decide) ?_
      refine gz_isub (i := rn) (j := 1) hx hb dX0_shareAlongLinks_8 (by omega) ?_
      refine gz_icmp_ge (tgt := 59) (za := ((i : Nat) : Int)) (zb := ((rn - 1 : Nat) : Int)) hx hb dX0_shareAlongLinks_9 (by decide) (nI_toInt (by omega)) (nI_toInt (by omega)) (fun c_1 => ?_) (fun c_1 => False.elim (by omega))
      refine lv_aload_n hx hb dX0_shareAlongLinks_59 rfl (lv_at hl 1 rfl) ?_
      refine va_get (D := (dC, dI)) (ci := 0) (v := .int (nI rn)) (C := RX0) (T := TX0) (N := 9) hx hb hts hin0 hown hK hP 0 rfl rfl 6 (by decide) lk28 (fun _ h9 => h9) rfl dX0_shareAlongLinks_60 ?_
      refine lv_iconst (v := nI 2) hx hb dX0_shareAlongLinks_63 (by decide) ?_
      refine lv_isub hx hb dX0_shareAlongLinks_64 ?_
      refine gz_topI (y := gRow (rn - 1)) (gRow_top hrn.1) ?_
      refine lv_istore_n (lv' := [(2, .int (gRow (rn - 1))), (0, .ref h), (1, .int (nI ln))]) hx hb dX0_shareAlongLinks_65 rfl hl (by decide) rfl (fun ls hl => ?_)
      exact loop2 (rn - 1) (gDn fl ln fp i) (by omega) (by rw [show rn - 1 = i by omega]) H locs hP hD hS ls (lv_sub hl [0, 1, 2] rfl)
    | succ n ih =>
      intro i hi H locs hP hD hS ls hl
      by_cases hf1 : fl (i * 13 + ln) = nI 1
      · by_cases hg1 : gDn fl ln fp i (i * 13 + ln) = nI 1
        · skip
          refine lv_iload_n hx hb dX0_shareAlongLinks_2 rfl (lv_at hl 0 rfl) ?_
          refine lv_aload_n hx hb dX0_shareAlongLinks_3 rfl (lv_at hl 1 rfl) ?_
          refine va_get (D := (dC, dI)) (ci := 0) (v := .int (nI rn)) (C := RX0) (T := TX0) (N := 9) hx hb hts hin0 hown hK hP 0 rfl rfl 6 (by decide) lk28 (fun _ h9 => h9) rfl dX0_shareAlongLinks_4 ?_
          refine lv_iconst (v := nI 1) hx hb dX0_shareAlongLinks_7 (by decide) ?_
          refine gz_isub (i := rn) (j := 1) hx hb dX0_shareAlongLinks_8 (by omega) ?_
          refine gz_icmp_ge (tgt := 59) (za := ((i : Nat) : Int)) (zb := ((rn - 1 : Nat) : Int)) hx hb dX0_shareAlongLinks_9 (by decide) (nI_toInt (by omega)) (nI_toInt (by omega)) (fun c_1 => False.elim (by omega)) (fun c_1 => ?_)
          refine lv_aload_n hx hb dX0_shareAlongLinks_12 rfl (lv_at hl 1 rfl) ?_
          refine va_get (D := (dC, dI)) (ci := 0) (v := .ref ql) (C := RX0) (T := TX0) (N := 9) hx hb hts hin0 hown hK hP 0 rfl rfl 3 (by decide) lk19 (fun _ h9 => h9) rfl dX0_shareAlongLinks_13 ?_
          refine lv_iload_n hx hb dX0_shareAlongLinks_16 rfl (lv_at hl 0 rfl) ?_
          refine lv_iload_n hx hb dX0_shareAlongLinks_17 rfl (lv_at hl 2 rfl) ?_
          refine gz_callR (W.runS (As := [.int (nI i), .int (nI ln)]) (rest := [.ref ql]) ⟨hx, hb, hml, hown, hts⟩ (cG_pointAt l i ln) (va_cwS 2 hts gX0_shareAlongLinks_X0_pointAt rfl rfl rfl (by decide +kernel) ⟨Nat.le_of_ble_eq_true rfl, Nat.le_of_ble_eq_true rfl⟩) preEq rfl rfl hl.1 rfl (lv_room (Nat.le_of_ble_eq_true rfl)) dX0_shareAlongLinks_18 ⟨Nat.le_of_ble_eq_true rfl, Nat.le_of_ble_eq_true rfl⟩) ?_
          refine gz_iald (k := i * 13 + ln) hx hb hK hP 4 0 rfl rfl (by omega) (by omega) dX0_shareAlongLinks_21 ?_
          refine lv_iconst (v := nI 1) hx hb dX0_shareAlongLinks_22 (by decide) ?_
          refine lv_icmp_ne (tgt := 53) hx hb dX0_shareAlongLinks_23 (by decide) (fun c_2 => False.elim (c_2 hf1)) (fun c_2 => ?_)
          refine lv_aload_n hx hb dX0_shareAlongLinks_26 rfl (lv_at hl 1 rfl) ?_
          refine va_get (D := (dC, dI)) (ci := 0) (v := .ref qp) (C := RX0) (T := TX0) (N := 9) hx hb hts hin0 hown hK hP 0 rfl rfl 4 (by decide) lk22 (fun _ h9 => h9) rfl dX0_shareAlongLinks_27 ?_
          refine lv_iload_n hx hb dX0_shareAlongLinks_30 rfl (lv_at hl 0 rfl) ?_
          refine lv_iload_n hx hb dX0_shareAlongLinks_31 rfl (lv_at hl 2 rfl) ?_
          refine gz_callR (W.runS (As := [.int (nI i), .int (nI ln)]) (rest := [.ref qp]) ⟨hx, hb, hml, hown, hts⟩ (cG_pointAt l i ln) (va_cwS 2 hts gX0_shareAlongLinks_X0_pointAt rfl rfl rfl (by decide +kernel) ⟨Nat.le_of_ble_eq_true rfl, Nat.le_of_ble_eq_true rfl⟩) preEq rfl rfl hl.1 rfl (lv_room (Nat.le_of_ble_eq_true rfl)) dX0_shareAlongLinks_32 ⟨Nat.le_of_ble_eq_true rfl, Nat.le_of_ble_eq_true rfl⟩) ?_
          refine gz_iald (k := i * 13 + ln) hx hb hK hP 5 0 rfl rfl (by omega) (by omega) dX0_shareAlongLinks_35 ?_
          refine lv_iconst (v := nI 1) hx hb dX0_shareAlongLinks_36 (by decide) ?_
          refine lv_icmp_ne (tgt := 53) hx hb dX0_shareAlongLinks_37 (by decide) (fun c_3 => False.elim (c_3 hg1)) (fun c_3 => ?_)
          refine lv_aload_n hx hb dX0_shareAlongLinks_40 rfl (lv_at hl 1 rfl) ?_
          refine va_get (D := (dC, dI)) (ci := 0) (v := .ref qp) (C := RX0) (T := TX0) (N := 9) hx hb hts hin0 hown hK hP 0 rfl rfl 4 (by decide) lk22 (fun _ h9 => h9) rfl dX0_shareAlongLinks_41 ?_
          refine lv_iload_n hx hb dX0_shareAlongLinks_44 rfl (lv_at hl 0 rfl) ?_
          refine lv_iconst (v := nI 1) hx hb dX0_shareAlongLinks_45 (by decide) ?_
          refine gz_iadd (i := i) (j := 1) hx hb dX0_shareAlongLinks_46 ?_
          refine lv_iload_n hx hb dX0_shareAlongLinks_47 rfl (lv_at hl 2 rfl) ?_
          refine gz_callR (W.runS (As := [.int (nI (i + 1)), .int (nI ln)]) (rest := [.ref qp]) ⟨hx, hb, hml, hown, hts⟩ (cG_pointAt l (i + 1) ln) (va_cwS 2 hts gX0_shareAlongLinks_X0_pointAt rfl rfl rfl (by decide +kernel) ⟨Nat.le_of_ble_eq_true rfl, Nat.le_of_ble_eq_true rfl⟩) preEq rfl rfl hl.1 rfl (lv_room (Nat.le_of_ble_eq_true rfl)) dX0_shareAlongLinks_48 ⟨Nat.le_of_ble_eq_true rfl, Nat.le_of_ble_eq_true rfl⟩) ?_
          refine lv_iconst (v := nI 1) hx hb dX0_shareAlongLinks_51 (by decide) ?_
          refine gz_iast (k := (i + 1) * 13 + ln) hx hb hK hP hD hS 5 0 rfl rfl (by omega) (by omega) dX0_shareAlongLinks_52 (fun H locs hP hD hS => ?_)
          have hP : va_P (dC, dI) vwCl (gw cA h qk qc qs ql qp qv fk fc fs fl (upd (gDn fl ln fp i) ((i + 1) * 13 + ln) (nI 1)) fv (nI rn) (nI cn) sc) H := hP
          have hD : va_D A (gw cA h qk qc qs ql qp qv fk fc fs fl (upd (gDn fl ln fp i) ((i + 1) * 13 + ln) (nI 1)) fv (nI rn) (nI cn) sc) := hD
          refine lv_iinc (v := nI (i + 1)) (lv' := [(2, .int (nI (i + 1))), (0, .ref h), (1, .int (nI ln))]) hx hb dX0_shareAlongLinks_53 hl (k := 0) rfl (nI_1 _) (by decide) rfl (fun ls hl => ?_)
          refine lv_goto (tgt := 2) hx hb dX0_shareAlongLinks_56 (by decide) ?_
          have hd : gDn fl ln fp (i + 1) = upd (gDn fl ln fp i) ((i + 1) * 13 + ln) (nI 1) := by show gDn1 fl ln i (gDn fl ln fp i) = _; unfold gDn1; rw [if_pos hf1, if_pos hg1]
          exact ih (i + 1) (by omega) H locs (by rw [hd]; exact hP) (by rw [hd]; exact hD) hS ls (lv_sub hl [0, 1, 2] rfl)
        · skip
          refine lv_iload_n hx hb dX0_shareAlongLinks_2 rfl (lv_at hl 0 rfl) ?_
          refine lv_aload_n hx hb dX0_shareAlongLinks_3 rfl (lv_at hl 1 rfl) ?_
          refine va_get (D := (dC, dI)) (ci := 0) (v := .int (nI rn)) (C := RX0) (T := TX0) (N := 9) hx hb hts hin0 hown hK hP 0 rfl rfl 6 (by decide) lk28 (fun _ h9 => h9) rfl dX0_shareAlongLinks_4 ?_
          refine lv_iconst (v := nI 1) hx hb dX0_shareAlongLinks_7 (by decide) ?_
          refine gz_isub (i := rn) (j := 1) hx hb dX0_shareAlongLinks_8 (by omega) ?_
          refine gz_icmp_ge (tgt := 59) (za := ((i : Nat) : Int)) (zb := ((rn - 1 : Nat) : Int)) hx hb dX0_shareAlongLinks_9 (by decide) (nI_toInt (by omega)) (nI_toInt (by omega)) (fun c_1 => False.elim (by omega)) (fun c_1 => ?_)
          refine lv_aload_n hx hb dX0_shareAlongLinks_12 rfl (lv_at hl 1 rfl) ?_
          refine va_get (D := (dC, dI)) (ci := 0) (v := .ref ql) (C := RX0) (T := TX0) (N := 9) hx hb hts hin0 hown hK hP 0 rfl rfl 3 (by decide) lk19 (fun _ h9 => h9) rfl dX0_shareAlongLinks_13 ?_
          refine lv_iload_n hx hb dX0_shareAlongLinks_16 rfl (lv_at hl 0 rfl) ?_
          refine lv_iload_n hx hb dX0_shareAlongLinks_17 rfl (lv_at hl 2 rfl) ?_
          refine gz_callR (W.runS (As := [.int (nI i), .int (nI ln)]) (rest := [.ref ql]) ⟨hx, hb, hml, hown, hts⟩ (cG_pointAt l i ln) (va_cwS 2 hts gX0_shareAlongLinks_X0_pointAt rfl rfl rfl (by decide +kernel) ⟨Nat.le_of_ble_eq_true rfl, Nat.le_of_ble_eq_true rfl⟩) preEq rfl rfl hl.1 rfl (lv_room (Nat.le_of_ble_eq_true rfl)) dX0_shareAlongLinks_18 ⟨Nat.le_of_ble_eq_true rfl, Nat.le_of_ble_eq_true rfl⟩) ?_
          refine gz_iald (k := i * 13 + ln) hx hb hK hP 4 0 rfl rfl (by omega) (by omega) dX0_shareAlongLinks_21 ?_
          refine lv_iconst (v := nI 1) hx hb dX0_shareAlongLinks_22 (by decide) ?_
          refine lv_icmp_ne (tgt := 53) hx hb dX0_shareAlongLinks_23 (by decide) (fun c_2 => False.elim (c_2 hf1)) (fun c_2 => ?_)
          refine lv_aload_n hx hb dX0_shareAlongLinks_26 rfl (lv_at hl 1 rfl) ?_
          refine va_get (D := (dC, dI)) (ci := 0) (v := .ref qp) (C := RX0) (T := TX0) (N := 9) hx hb hts hin0 hown hK hP 0 rfl rfl 4 (by decide) lk22 (fun _ h9 => h9) rfl dX0_shareAlongLinks_27 ?_
          refine lv_iload_n hx hb dX0_shareAlongLinks_30 rfl (lv_at hl 0 rfl) ?_
          refine lv_iload_n hx hb dX0_shareAlongLinks_31 rfl (lv_at hl 2 rfl) ?_
          refine gz_callR (W.runS (As := [.int (nI i), .int (nI ln)]) (rest := [.ref qp]) ⟨hx, hb, hml, hown, hts⟩ (cG_pointAt l i ln) (va_cwS 2 hts gX0_shareAlongLinks_X0_pointAt rfl rfl rfl (by decide +kernel) ⟨Nat.le_of_ble_eq_true rfl, Nat.le_of_ble_eq_true rfl⟩) preEq rfl rfl hl.1 rfl (lv_room (Nat.le_of_ble_eq_true rfl)) dX0_shareAlongLinks_32 ⟨Nat.le_of_ble_eq_true rfl, Nat.le_of_ble_eq_true rfl⟩) ?_
          refine gz_iald (k := i * 13 + ln) hx hb hK hP 5 0 rfl rfl (by omega) (by omega) dX0_shareAlongLinks_35 ?_
          refine lv_iconst (v := nI 1) hx hb dX0_shareAlongLinks_36 (by decide) ?_
          refine lv_icmp_ne (tgt := 53) hx hb dX0_shareAlongLinks_37 (by decide) (fun c_3 => ?_) (fun c_3 => False.elim (hg1 c_3))
          refine lv_iinc (v := nI (i + 1)) (lv' := [(2, .int (nI (i + 1))), (0, .ref h), (1, .int (nI ln))]) hx hb dX0_shareAlongLinks_53 hl (k := 0) rfl (nI_1 _) (by decide) rfl (fun ls hl => ?_)
          refine lv_goto (tgt := 2) hx hb dX0_shareAlongLinks_56 (by decide) ?_
          have hd : gDn fl ln fp (i + 1) = gDn fl ln fp i := by show gDn1 fl ln i (gDn fl ln fp i) = _; unfold gDn1; rw [if_pos hf1, if_neg hg1]
          exact ih (i + 1) (by omega) H locs (by rw [hd]; exact hP) (by rw [hd]; exact hD) hS ls (lv_sub hl [0, 1, 2] rfl)
      · skip
        refine lv_iload_n hx hb dX0_shareAlongLinks_2 rfl (lv_at hl 0 rfl) ?_
        refine lv_aload_n hx hb dX0_shareAlongLinks_3 rfl (lv_at hl 1 rfl) ?_
        refine va_get (D := (dC, dI)) (ci := 0) (v := .int (nI rn)) (C := RX0) (T := TX0) (N := 9) hx hb hts hin0 hown hK hP 0 rfl rfl 6 (by decide) lk28 (fun _ h9 => h9) rfl dX0_shareAlongLinks_4 ?_
        refine lv_iconst (v := nI 1) hx hb dX0_shareAlongLinks_7 (by decide) ?_
        refine gz_isub (i := rn) (j := 1) hx hb dX0_shareAlongLinks_8 (by omega) ?_
        refine gz_icmp_ge (tgt := 59) (za := ((i : Nat) : Int)) (zb := ((rn - 1 : Nat) : Int)) hx hb dX0_shareAlongLinks_9 (by decide) (nI_toInt (by omega)) (nI_toInt (by omega)) (fun c_1 => False.elim (by omega)) (fun c_1 => ?_)
        refine lv_aload_n hx hb dX0_shareAlongLinks_12 rfl (lv_at hl 1 rfl) ?_
        refine va_get (D := (dC, dI)) (ci := 0) (v := .ref ql) (C := RX0) (T := TX0) (N := 9) hx hb hts hin0 hown hK hP 0 rfl rfl 3 (by decide) lk19 (fun _ h9 => h9) rfl dX0_shareAlongLinks_13 ?_
        refine lv_iload_n hx hb dX0_shareAlongLinks_16 rfl (lv_at hl 0 rfl) ?_
        refine lv_iload_n hx hb dX0_shareAlongLinks_17 rfl (lv_at hl 2 rfl) ?_
        refine gz_callR (W.runS (As := [.int (nI i), .int (nI ln)]) (rest := [.ref ql]) ⟨hx, hb, hml, hown, hts⟩ (cG_pointAt l i ln) (va_cwS 2 hts gX0_shareAlongLinks_X0_pointAt rfl rfl rfl (by decide +kernel) ⟨Nat.le_of_ble_eq_true rfl, Nat.le_of_ble_eq_true rfl⟩) preEq rfl rfl hl.1 rfl (lv_room (Nat.le_of_ble_eq_true rfl)) dX0_shareAlongLinks_18 ⟨Nat.le_of_ble_eq_true rfl, Nat.le_of_ble_eq_true rfl⟩) ?_
        refine gz_iald (k := i * 13 + ln) hx hb hK hP 4 0 rfl rfl (by omega) (by omega) dX0_shareAlongLinks_21 ?_
        refine lv_iconst (v := nI 1) hx hb dX0_shareAlongLinks_22 (by decide) ?_
        refine lv_icmp_ne (tgt := 53) hx hb dX0_shareAlongLinks_23 (by decide) (fun c_2 => ?_) (fun c_2 => False.elim (hf1 c_2))
        refine lv_iinc (v := nI (i + 1)) (lv' := [(2, .int (nI (i + 1))), (0, .ref h), (1, .int (nI ln))]) hx hb dX0_shareAlongLinks_53 hl (k := 0) rfl (nI_1 _) (by decide) rfl (fun ls hl => ?_)
        refine lv_goto (tgt := 2) hx hb dX0_shareAlongLinks_56 (by decide) ?_
        have hd : gDn fl ln fp (i + 1) = gDn fl ln fp i := by show gDn1 fl ln i (gDn fl ln fp i) = _; unfold gDn1; rw [if_neg hf1]
        exact ih (i + 1) (by omega) H locs (by rw [hd]; exact hP) (by rw [hd]; exact hD) hS ls (lv_sub hl [0, 1, 2] rfl)
  refine lv_iconst (v := nI 0) hx hb dX0_shareAlongLinks_0 (by decide) ?_
  refine lv_istore_n (lv' := [(2, .int (nI 0)), (0, .ref h), (1, .int (nI ln))]) hx hb dX0_shareAlongLinks_1 rfl hl (by decide) rfl (fun ls hl => ?_)
  exact loop1 (rn - 1) 0 (by omega) H locs hP hD hS ls (lv_sub hl [0, 1, 2] rfl)
set_option maxHeartbeats 4000000 in
set_option maxRecDepth 100000 in
theorem cG_driveCoils (l : Launch) (dC : Nat → ClassId) (dI : Nat → Nat → Nat) (sz : Nat) (cA cZ : ClassId) (h qk qc qs ql qp qv : Nat) (fk fc fs fl fp fv : Nat → Int32) (rn cn : Nat) (sc : Int32)  (hrn : 1 ≤ rn ∧ rn ≤ 12) (hcn : 1 ≤ cn ∧ cn ≤ 12) (hcI : ∀ k, k < 144 → vp_in (fc k) 40) : Met l yX0_driveCoils wsX0_driveCoils ({ frames := 1, cells := 0, slots := 0, locals := 22 }) (gPw (dC, dI) vwCl [(cA, .int), (cZ, .boolean)] [.ref h] sz (gw cA h qk qc qs ql qp qv fk fc fs fl fp fv (nI rn) (nI cn) sc)) (gQA (dC, dI) vwCl [(cA, .int), (cZ, .boolean)] ((gCo fk fc fp cn (fv, nI 0) rn).2) (va_A (gw cA h qk qc qs ql qp qv fk fc fs fl fp fv (nI rn) (nI cn) sc) sz) (gw cA h qk qc qs ql qp qv fk fc fs fl fp ((gCo fk fc fp cn (fv, nI 0) rn).1) (nI rn) (nI cn) sc)) 0 0 (va_A (gw cA h qk qc qs ql qp qv fk fc fs fl fp fv (nI rn) (nI cn) sc) sz) := by
  refine Met.ofW (cc := cX0_driveCoils) (maxL := 6) (ret := (some .int)) (by decide) rfl ?_
  intro p e s m args below meth c s₁ B hml hv
  obtain ⟨rfl, hsz, hP, hK, hD0⟩ := hv
  have hx := B.exec
  have hb := B.bytes
  have hr := B.returns
  have hts := atoms_spec (ws := wsX0_driveCoils) B.pre
  have hown : s.vm.findClass RX0 = some m.cls := findClass_of_methodNamed B.named
  have hlocks := B.notSynchronized
  subst hsz
  have hD := hD0.self (sz := s.heap.size)
  generalize hAe : va_A (gw cA h qk qc qs ql qp qv fk fc fs fl fp fv (nI rn) (nI cn) sc) s.heap.size = A at hD ⊢
  have hA : ∀ q : Nat, s.heap.size ≤ q → A q := fun q h => by rw [← hAe]; exact Or.inr h
  have hS : va_S A s.heap s.heap [] := va_S.rf
  have hin0 : ∀ w ∈ u_ws RX0 TX0 9, w ∈ wsX0_driveCoils := by decide +kernel
  have lk28 := hts (.fieldLink RX0 28 "LadderGrid" "rows" "I") (by decide +kernel)
  have lk32 := hts (.fieldLink RX0 32 "LadderGrid" "columns" "I") (by decide +kernel)
  have lk9 := hts (.fieldLink RX0 9 "LadderGrid" "kinds" "[I") (by decide +kernel)
  have lk22 := hts (.fieldLink RX0 22 "LadderGrid" "powered" "[I") (by decide +kernel)
  have lk13 := hts (.fieldLink RX0 13 "LadderGrid" "cellVariables" "[I") (by decide +kernel)
  have lk25 := hts (.fieldLink RX0 25 "LadderGrid" "values" "[I") (by decide +kernel)
  have hl := lv_entry ([.ref h]) (n := 6) (Nat.le_of_ble_eq_true rfl)
  rw [lg_entry_eq]
  generalize (lg_sl ([.ref h]) ++ List.replicate (6 - (lg_sl ([.ref h])).length) Slot.unset).toArray = ls at hl ⊢
  have hl : lv_has ls 6 [(0, .ref h)] := hl
  suffices key : ∀ (H : Heap) (locs : List Loc), va_P (dC, dI) vwCl (gw cA h qk qc qs ql qp qv fk fc fs fl fp fv (nI rn) (nI cn) sc) H → va_D A (gw cA h qk qc qs ql qp qv fk fc fs fl fp fv (nI rn) (nI cn) sc) → va_S A s.heap H locs → W p l e (headSpec wsX0_driveCoils ({ frames := 1, cells := 0, slots := 0, locals := 22 })).room s m ([.ref h] : List Value).toArray below meth c H locs 0 0 (MQ below (gQA (dC, dI) vwCl [(cA, .int), (cZ, .boolean)] ((gCo fk fc fp cn (fv, nI 0) rn).2) A (gw cA h qk qc qs ql qp qv fk fc fs fl fp ((gCo fk fc fp cn (fv, nI 0) rn).1) (nI rn) (nI cn) sc)) ([.ref h] : List Value).toArray s 0 0 A) (F0 m 0 ls []) from key s.heap [] hP hD hS
  clear hP hD hS
  intro H locs hP hD hS
  have loop : ∀ (n : Nat) (i : Nat) (q : (Nat → Int32) × Int32), i + n = rn → q = gCo fk fc fp cn (fv, nI 0) i → ∀ (H : Heap) (locs : List Loc), va_P (dC, dI) vwCl (gw cA h qk qc qs ql qp qv fk fc fs fl fp q.1 (nI rn) (nI cn) sc) H → va_D A (gw cA h qk qc qs ql qp qv fk fc fs fl fp q.1 (nI rn) (nI cn) sc) → va_S A s.heap H locs → ∀ (ls : Array Slot), lv_has ls 6 [(2, .int (nI i)), (1, .int (q.2)), (0, .ref h)] → W p l e (headSpec wsX0_driveCoils ({ frames := 1, cells := 0, slots := 0, locals := 22 })).room s m ([.ref h] : List Value).toArray below meth c H locs 0 0 (MQ below (gQA (dC, dI) vwCl [(cA, .int), (cZ, .boolean)] ((gCo fk fc fp cn (fv, nI 0) rn).2) A (gw cA h qk qc qs ql qp qv fk fc fs fl fp ((gCo fk fc fp cn (fv, nI 0) rn).1) (nI rn) (nI cn) sc)) ([.ref h] : List Value).toArray s 0 0 A) (F0 m 4 ls []) := by
    intro n
    induction n with
    | zero =>
      intro i q hi hq H locs hP hD hS ls hl
      refine lv_iload_n hx hb dX0_driveCoils_4 rfl (lv_at hl 0 rfl) ?_
      refine lv_aload_n hx hb dX0_driveCoils_5 rfl (lv_at hl 2 rfl) ?_
      refine va_get (D := (dC, dI)) (ci := 0) (v := .int (nI rn)) (C := RX0) (T := TX0) (N := 9) hx hb hts hin0 hown hK hP 0 rfl rfl 6 (by decide) lk28 (fun _ h9 => h9) rfl dX0_driveCoils_6 ?_
      refine gz_icmp_ge (tgt := 96) (za := ((i : Nat) : Int)) (zb := ((rn : Nat) : Int)) hx hb dX0_driveCoils_9 (by decide) (nI_toInt (by omega)) (nI_toInt (by omega)) (fun c_1 => ?_) (fun c_1 => False.elim (by omega))
      refine lv_iload_n hx hb dX0_driveCoils_96 rfl (lv_at hl 1 rfl) ?_
      exact W.iret (v := q.2) hx hb hr (fun t ht hW => ⟨⟨q.2, (), rfl, (by rw [show rn = i by omega, ← hq]), by rw [ht]; exact (by rw [show gCo fk fc fp cn (fv, nI 0) rn = q by rw [hq, show i = rn by omega]]; exact hP), va_K.moved hW.alike hK, (by rw [show gCo fk fc fp cn (fv, nI 0) rn = q by rw [hq, show i = rn by omega]]; exact hD)⟩, hS.F ht⟩) hS.2.2 dX0_driveCoils_97
    | succ n ih =>
      intro i q hi hq H locs hP hD hS ls hl
      have hci : vp_in (fc (i * 12 + (cn - 1))) 40 := hcI _ (by omega)
      by_cases hco : 6 ≤ (fk (i * 12 + (cn - 1))).toInt
      · skip
        refine lv_iload_n hx hb dX0_driveCoils_4 rfl (lv_at hl 0 rfl) ?_
        refine lv_aload_n hx hb dX0_driveCoils_5 rfl (lv_at hl 2 rfl) ?_
        refine va_get (D := (dC, dI)) (ci := 0) (v := .int (nI rn)) (C := RX0) (T := TX0) (N := 9) hx hb hts hin0 hown hK hP 0 rfl rfl 6 (by decide) lk28 (fun _ h9 => h9) rfl dX0_driveCoils_6 ?_
        refine gz_icmp_ge (tgt := 96) (za := ((i : Nat) : Int)) (zb := ((rn : Nat) : Int)) hx hb dX0_driveCoils_9 (by decide) (nI_toInt (by omega)) (nI_toInt (by omega)) (fun c_1 => False.elim (by omega)) (fun c_1 => ?_)
        refine lv_iload_n hx hb dX0_driveCoils_12 rfl (lv_at hl 0 rfl) ?_
        refine lv_aload_n hx hb dX0_driveCoils_13 rfl (lv_at hl 2 rfl) ?_
        refine va_get (D := (dC, dI)) (ci := 0) (v := .int (nI cn)) (C := RX0) (T := TX0) (N := 9) hx hb hts hin0 hown hK hP 0 rfl rfl 7 (by decide) lk32 (fun _ h9 => h9) rfl dX0_driveCoils_14 ?_
        refine lv_iconst (v := nI 1) hx hb dX0_driveCoils_17 (by decide) ?_
        refine gz_isub (i := cn) (j := 1) hx hb dX0_driveCoils_18 (by omega) ?_
        refine gz_callR (W.runS (As := [.int (nI i), .int (nI (cn - 1))]) (rest := []) ⟨hx, hb, hml, hown, hts⟩ (cG_cellAt l i (cn - 1)) (va_cwS 2 hts gX0_driveCoils_X0_cellAt rfl rfl rfl (by decide +kernel) ⟨Nat.le_of_ble_eq_true rfl, Nat.le_of_ble_eq_true rfl⟩) preEq rfl rfl hl.1 rfl (lv_room (Nat.le_of_ble_eq_true rfl)) dX0_driveCoils_19 ⟨Nat.le_of_ble_eq_true rfl, Nat.le_of_ble_eq_true rfl⟩) ?_
        refine lv_istore_n (lv' := [(3, .int (nI (i * 12 + (cn - 1)))), (2, .int (nI i)), (1, .int (q.2)), (0, .ref h)]) hx hb dX0_driveCoils_22 rfl hl (by decide) rfl (fun ls hl => ?_)
        refine lv_aload_n hx hb dX0_driveCoils_23 rfl (lv_at hl 3 rfl) ?_
        refine va_get (D := (dC, dI)) (ci := 0) (v := .ref qk) (C := RX0) (T := TX0) (N := 9) hx hb hts hin0 hown hK hP 0 rfl rfl 0 (by decide) lk9 (fun _ h9 => h9) rfl dX0_driveCoils_24 ?_
        refine lv_iload_n hx hb dX0_driveCoils_27 rfl (lv_at hl 0 rfl) ?_
        refine gz_iald (k := i * 12 + (cn - 1)) hx hb hK hP 1 0 rfl rfl (by omega) (by omega) dX0_driveCoils_28 ?_
        refine gz_callR (W.runS (As := [.int (fk (i * 12 + (cn - 1)))]) (rest := []) ⟨hx, hb, hml, hown, hts⟩ (cG_isCoil l (fk (i * 12 + (cn - 1)))) (va_cwS 1 hts gX0_driveCoils_X0_isCoil rfl rfl rfl (by decide +kernel) ⟨Nat.le_of_ble_eq_true rfl, Nat.le_of_ble_eq_true rfl⟩) preEq rfl rfl hl.1 rfl (lv_room (Nat.le_of_ble_eq_true rfl)) dX0_driveCoils_29 ⟨Nat.le_of_ble_eq_true rfl, Nat.le_of_ble_eq_true rfl⟩) ?_
        refine gz_ifeqB (tgt := 90) hx hb dX0_driveCoils_32 (by decide) (fun c_2 => False.elim (c_2 hco)) (fun c_2 => ?_)
        refine lv_aload_n hx hb dX0_driveCoils_35 rfl (lv_at hl 3 rfl) ?_
        refine va_get (D := (dC, dI)) (ci := 0) (v := .ref qp) (C := RX0) (T := TX0) (N := 9) hx hb hts hin0 hown hK hP 0 rfl rfl 4 (by decide) lk22 (fun _ h9 => h9) rfl dX0_driveCoils_36 ?_
        refine lv_iload_n hx hb dX0_driveCoils_39 rfl (lv_at hl 1 rfl) ?_
        refine lv_aload_n hx hb dX0_driveCoils_40 rfl (lv_at hl 3 rfl) ?_
        refine va_get (D := (dC, dI)) (ci := 0) (v := .int (nI cn)) (C := RX0) (T := TX0) (N := 9) hx hb hts hin0 hown hK hP 0 rfl rfl 7 (by decide) lk32 (fun _ h9 => h9) rfl dX0_driveCoils_41 ?_
        refine lv_iconst (v := nI 1) hx hb dX0_driveCoils_44 (by decide) ?_
        refine gz_isub (i := cn) (j := 1) hx hb dX0_driveCoils_45 (by omega) ?_
        refine gz_callR (W.runS (As := [.int (nI i), .int (nI (cn - 1))]) (rest := [.ref qp]) ⟨hx, hb, hml, hown, hts⟩ (cG_pointAt l i (cn - 1)) (va_cwS 2 hts gX0_driveCoils_X0_pointAt rfl rfl rfl (by decide +kernel) ⟨Nat.le_of_ble_eq_true rfl, Nat.le_of_ble_eq_true rfl⟩) preEq rfl rfl hl.1 rfl (lv_room (Nat.le_of_ble_eq_true rfl)) dX0_driveCoils_46 ⟨Nat.le_of_ble_eq_true rfl, Nat.le_of_ble_eq_true rfl⟩) ?_
        refine gz_iald (k := i * 13 + (cn - 1)) hx hb hK hP 5 0 rfl rfl (by omega) (by omega) dX0_driveCoils_49 ?_
        refine lv_istore (lv' := [(4, .int (fp (i * 13 + (cn - 1)))), (3, .int (nI (i * 12 + (cn - 1)))), (2, .int (nI i)), (1, .int (q.2)), (0, .ref h)]) hx hb dX0_driveCoils_50 hl (by decide) rfl (fun ls hl => ?_)
        refine lv_aload_n hx hb dX0_driveCoils_52 rfl (lv_at hl 4 rfl) ?_
        refine va_get (D := (dC, dI)) (ci := 0) (v := .ref qc) (C := RX0) (T := TX0) (N := 9) hx hb hts hin0 hown hK hP 0 rfl rfl 1 (by decide) lk13 (fun _ h9 => h9) rfl dX0_driveCoils_53 ?_
        refine lv_iload_n hx hb dX0_driveCoils_56 rfl (lv_at hl 1 rfl) ?_
        refine gz_iald (k := i * 12 + (cn - 1)) hx hb hK hP 2 0 rfl rfl (by omega) (by omega) dX0_driveCoils_57 ?_
        refine lv_istore (lv' := [(5, .int (fc (i * 12 + (cn - 1)))), (4, .int (fp (i * 13 + (cn - 1)))), (3, .int (nI (i * 12 + (cn - 1)))), (2, .int (nI i)), (1, .int (q.2)), (0, .ref h)]) hx hb dX0_driveCoils_58 hl (by decide) rfl (fun ls hl => ?_)
        refine lv_aload_n hx hb dX0_driveCoils_60 rfl (lv_at hl 5 rfl) ?_
        refine va_get (D := (dC, dI)) (ci := 0) (v := .ref qv) (C := RX0) (T := TX0) (N := 9) hx hb hts hin0 hown hK hP 0 rfl rfl 5 (by decide) lk25 (fun _ h9 => h9) rfl dX0_driveCoils_61 ?_
        refine lv_iload hx hb dX0_driveCoils_64 (lv_at hl 0 rfl) ?_
        refine lv_aload_n hx hb dX0_driveCoils_66 rfl (lv_at hl 5 rfl) ?_
        refine va_get (D := (dC, dI)) (ci := 0) (v := .ref qk) (C := RX0) (T := TX0) (N := 9) hx hb hts hin0 hown hK hP 0 rfl rfl 0 (by decide) lk9 (fun _ h9 => h9) rfl dX0_driveCoils_67 ?_
        refine lv_iload_n hx hb dX0_driveCoils_70 rfl (lv_at hl 2 rfl) ?_
        refine gz_iald (k := i * 12 + (cn - 1)) hx hb hK hP 1 0 rfl rfl (by omega) (by omega) dX0_driveCoils_71 ?_
        refine lv_iload hx hb dX0_driveCoils_72 (lv_at hl 1 rfl) ?_
        refine lv_aload_n hx hb dX0_driveCoils_74 rfl (lv_at hl 5 rfl) ?_
        refine va_get (D := (dC, dI)) (ci := 0) (v := .ref qv) (C := RX0) (T := TX0) (N := 9) hx hb hts hin0 hown hK hP 0 rfl rfl 5 (by decide) lk25 (fun _ h9 => h9) rfl dX0_driveCoils_75 ?_
        refine lv_iload hx hb dX0_driveCoils_78 (lv_at hl 0 rfl) ?_
        refine va_iald hx hb hK hP 6 0 rfl rfl hci dX0_driveCoils_80 ?_
        refine gz_callR (W.runS (As := [.int (fk (i * 12 + (cn - 1))), .int (fp (i * 13 + (cn - 1))), .int (q.1 (fc (i * 12 + (cn - 1))).toNatClampNeg)]) (rest := [.int (fc (i * 12 + (cn - 1))), .ref qv]) ⟨hx, hb, hml, hown, hts⟩ (cG_coilValue l (fk (i * 12 + (cn - 1))) (fp (i * 13 + (cn - 1))) (q.1 (fc (i * 12 + (cn - 1))).toNatClampNeg)) (va_cwS 3 hts gX0_driveCoils_X0_coilValue rfl rfl rfl (by decide +kernel) ⟨Nat.le_of_ble_eq_true rfl, Nat.le_of_ble_eq_true rfl⟩) preEq rfl rfl hl.1 rfl (lv_room (Nat.le_of_ble_eq_true rfl)) dX0_driveCoils_81 ⟨Nat.le_of_ble_eq_true rfl, Nat.le_of_ble_eq_true rfl⟩) ?_
        refine va_iast hx hb hK hP hD hS 6 0 rfl rfl hci dX0_driveCoils_84 (fun H locs hP hD hS => ?_)
        have hP : va_P (dC, dI) vwCl (gw cA h qk qc qs ql qp qv fk fc fs fl fp (upd q.1 (fc (i * 12 + (cn - 1))).toNatClampNeg (gCoil (fk (i * 12 + (cn - 1))) (fp (i * 13 + (cn - 1))) (q.1 (fc (i * 12 + (cn - 1))).toNatClampNeg))) (nI rn) (nI cn) sc) H := hP
        have hD : va_D A (gw cA h qk qc qs ql qp qv fk fc fs fl fp (upd q.1 (fc (i * 12 + (cn - 1))).toNatClampNeg (gCoil (fk (i * 12 + (cn - 1))) (fp (i * 13 + (cn - 1))) (q.1 (fc (i * 12 + (cn - 1))).toNatClampNeg))) (nI rn) (nI cn) sc) := hD
        refine lv_iload_n hx hb dX0_driveCoils_85 rfl (lv_at hl 4 rfl) ?_
        refine lv_iload hx hb dX0_driveCoils_86 (lv_at hl 1 rfl) ?_
        refine lv_iadd hx hb dX0_driveCoils_88 ?_
        refine lv_istore_n (lv' := [(1, .int (q.2 + (fp (i * 13 + (cn - 1))))), (5, .int (fc (i * 12 + (cn - 1)))), (4, .int (fp (i * 13 + (cn - 1)))), (3, .int (nI (i * 12 + (cn - 1)))), (2, .int (nI i)), (0, .ref h)]) hx hb dX0_driveCoils_89 rfl hl (by decide) rfl (fun ls hl => ?_)
        refine lv_iinc (v := nI (i + 1)) (lv' := [(2, .int (nI (i + 1))), (1, .int (q.2 + (fp (i * 13 + (cn - 1))))), (5, .int (fc (i * 12 + (cn - 1)))), (4, .int (fp (i * 13 + (cn - 1)))), (3, .int (nI (i * 12 + (cn - 1)))), (0, .ref h)]) hx hb dX0_driveCoils_90 hl (k := 4) rfl (nI_1 _) (by decide) rfl (fun ls hl => ?_)
        refine lv_goto (tgt := 4) hx hb dX0_driveCoils_93 (by decide) ?_
        exact ih (i + 1) (upd q.1 (fc (i * 12 + (cn - 1))).toNatClampNeg (gCoil (fk (i * 12 + (cn - 1))) (fp (i * 13 + (cn - 1))) (q.1 (fc (i * 12 + (cn - 1))).toNatClampNeg)), q.2 + (fp (i * 13 + (cn - 1)))) (by omega) (by show _ = gCo1 _ _ _ _ _ (gCo fk fc fp cn (fv, nI 0) i); rw [← hq]; unfold gCo1; rw [if_pos hco]) H locs hP hD hS ls (lv_sub hl [0, 1, 5] rfl)
      · skip
        refine lv_iload_n hx hb dX0_driveCoils_4 rfl (lv_at hl 0 rfl) ?_
        refine lv_aload_n hx hb dX0_driveCoils_5 rfl (lv_at hl 2 rfl) ?_
        refine va_get (D := (dC, dI)) (ci := 0) (v := .int (nI rn)) (C := RX0) (T := TX0) (N := 9) hx hb hts hin0 hown hK hP 0 rfl rfl 6 (by decide) lk28 (fun _ h9 => h9) rfl dX0_driveCoils_6 ?_
        refine gz_icmp_ge (tgt := 96) (za := ((i : Nat) : Int)) (zb := ((rn : Nat) : Int)) hx hb dX0_driveCoils_9 (by decide) (nI_toInt (by omega)) (nI_toInt (by omega)) (fun c_1 => False.elim (by omega)) (fun c_1 => ?_)
        refine lv_iload_n hx hb dX0_driveCoils_12 rfl (lv_at hl 0 rfl) ?_
        refine lv_aload_n hx hb dX0_driveCoils_13 rfl (lv_at hl 2 rfl) ?_
        refine va_get (D := (dC, dI)) (ci := 0) (v := .int (nI cn)) (C := RX0) (T := TX0) (N := 9) hx hb hts hin0 hown hK hP 0 rfl rfl 7 (by decide) lk32 (fun _ h9 => h9) rfl dX0_driveCoils_14 ?_
        refine lv_iconst (v := nI 1) hx hb dX0_driveCoils_17 (by decide) ?_
        refine gz_isub (i := cn) (j := 1) hx hb dX0_driveCoils_18 (by omega) ?_
        refine gz_callR (W.runS (As := [.int (nI i), .int (nI (cn - 1))]) (rest := []) ⟨hx, hb, hml, hown, hts⟩ (cG_cellAt l i (cn - 1)) (va_cwS 2 hts gX0_driveCoils_X0_cellAt rfl rfl rfl (by decide +kernel) ⟨Nat.le_of_ble_eq_true rfl, Nat.le_of_ble_eq_true rfl⟩) preEq rfl rfl hl.1 rfl (lv_room (Nat.le_of_ble_eq_true rfl)) dX0_driveCoils_19 ⟨Nat.le_of_ble_eq_true rfl, Nat.le_of_ble_eq_true rfl⟩) ?_
        refine lv_istore_n (lv' := [(3, .int (nI (i * 12 + (cn - 1)))), (2, .int (nI i)), (1, .int (q.2)), (0, .ref h)]) hx hb dX0_driveCoils_22 rfl hl (by decide) rfl (fun ls hl => ?_)
        refine lv_aload_n hx hb dX0_driveCoils_23 rfl (lv_at hl 3 rfl) ?_
        refine va_get (D := (dC, dI)) (ci := 0) (v := .ref qk) (C := RX0) (T := TX0) (N := 9) hx hb hts hin0 hown hK hP 0 rfl rfl 0 (by decide) lk9 (fun _ h9 => h9) rfl dX0_driveCoils_24 ?_
        refine lv_iload_n hx hb dX0_driveCoils_27 rfl (lv_at hl 0 rfl) ?_
        refine gz_iald (k := i * 12 + (cn - 1)) hx hb hK hP 1 0 rfl rfl (by omega) (by omega) dX0_driveCoils_28 ?_
        refine gz_callR (W.runS (As := [.int (fk (i * 12 + (cn - 1)))]) (rest := []) ⟨hx, hb, hml, hown, hts⟩ (cG_isCoil l (fk (i * 12 + (cn - 1)))) (va_cwS 1 hts gX0_driveCoils_X0_isCoil rfl rfl rfl (by decide +kernel) ⟨Nat.le_of_ble_eq_true rfl, Nat.le_of_ble_eq_true rfl⟩) preEq rfl rfl hl.1 rfl (lv_room (Nat.le_of_ble_eq_true rfl)) dX0_driveCoils_29 ⟨Nat.le_of_ble_eq_true rfl, Nat.le_of_ble_eq_true rfl⟩) ?_
        refine gz_ifeqB (tgt := 90) hx hb dX0_driveCoils_32 (by decide) (fun c_2 => ?_) (fun c_2 => False.elim (hco c_2))
        refine lv_iinc (v := nI (i + 1)) (lv' := [(2, .int (nI (i + 1))), (3, .int (nI (i * 12 + (cn - 1)))), (1, .int (q.2)), (0, .ref h)]) hx hb dX0_driveCoils_90 hl (k := 1) rfl (nI_1 _) (by decide) rfl (fun ls hl => ?_)
        refine lv_goto (tgt := 4) hx hb dX0_driveCoils_93 (by decide) ?_
        exact ih (i + 1) (q.1, q.2) (by omega) (by show _ = gCo1 _ _ _ _ _ (gCo fk fc fp cn (fv, nI 0) i); rw [← hq]; unfold gCo1; rw [if_neg hco]) H locs hP hD hS ls (lv_sub hl [0, 2, 3] rfl)
  refine lv_iconst (v := nI 0) hx hb dX0_driveCoils_0 (by decide) ?_
  refine lv_istore_n (lv' := [(1, .int (nI 0)), (0, .ref h)]) hx hb dX0_driveCoils_1 rfl hl (by decide) rfl (fun ls hl => ?_)
  refine lv_iconst (v := nI 0) hx hb dX0_driveCoils_2 (by decide) ?_
  refine lv_istore_n (lv' := [(2, .int (nI 0)), (1, .int (nI 0)), (0, .ref h)]) hx hb dX0_driveCoils_3 rfl hl (by decide) rfl (fun ls hl => ?_)
  exact loop rn 0 (fv, nI 0) (by omega) rfl H locs hP hD hS ls (lv_sub hl [0, 1, 2] rfl)
