set_option maxHeartbeats 4000000 in
set_option maxRecDepth 100000 in
theorem cM_scan (l : Launch) (dC : Nat → ClassId) (dI : Nat → Nat → Nat) (sz : Nat) (cA cZ : ClassId) (gm ak ac ab al av ah ap : Nat) (fk fc fs fl fp fv ft : Nat → Int32) (rn cn : Nat) (sc : Int32)  (hrn : 1 ≤ rn ∧ rn ≤ 12) (hcn : 1 ≤ cn ∧ cn ≤ 12) (hcI : ∀ k, k < 144 → vp_in (fc k) 40) (hkI : ∀ k, k < 144 → vp_in (fk k) 10) (hfl : g01 156 fl) (hfp : g01 156 fp) (hlk : gLk fl rn cn) : Met l yX1_scan wsX1_scan ({ frames := 1, cells := 0, slots := 0, locals := 26 }) (gPw (dC, dI) vwCl [(cA, .int), (cZ, .boolean)] [.ref gm] sz (mw cA cZ gm ak ac ab al av ah ap fk fc fs fl fp fv ft (nI rn) (nI cn) sc)) (gQA (dC, dI) vwCl [(cA, .int), (cZ, .boolean)] ((gCo fk fc (gCols fk fc fl fv rn (gP0 fp rn, fs) cn).1 cn (fv, nI 0) rn).2) (va_A (mw cA cZ gm ak ac ab al av ah ap fk fc fs fl fp fv ft (nI rn) (nI cn) sc) sz) (mw cA cZ gm ak ac ab al av ah ap fk fc ((gCols fk fc fl fv rn (gP0 fp rn, fs) cn).2) fl ((gCols fk fc fl fv rn (gP0 fp rn, fs) cn).1) ((gCo fk fc (gCols fk fc fl fv rn (gP0 fp rn, fs) cn).1 cn (fv, nI 0) rn).1) fv (nI rn) (nI cn) (nI 1))) 0 0 (va_A (mw cA cZ gm ak ac ab al av ah ap fk fc fs fl fp fv ft (nI rn) (nI cn) sc) sz) := by
  refine Met.ofW (cc := cX1_scan) (maxL := 4) (ret := (some .int)) (by decide) rfl ?_
  intro p e s m args below meth c s₁ B hml hv
  obtain ⟨rfl, hsz, hP, hK, hD0⟩ := hv
  have hx := B.exec
  have hb := B.bytes
  have hr := B.returns
  have hts := atoms_spec (ws := wsX1_scan) B.pre
  have hown : s.vm.findClass RX1 = some m.cls := findClass_of_methodNamed B.named
  have hlocks := B.notSynchronized
  subst hsz
  have hD := hD0.self (sz := s.heap.size)
  generalize hAe : va_A (mw cA cZ gm ak ac ab al av ah ap fk fc fs fl fp fv ft (nI rn) (nI cn) sc) s.heap.size = A at hD ⊢
  have hA : ∀ q : Nat, s.heap.size ≤ q → A q := fun q h => by rw [← hAe]; exact Or.inr h
  have hS : va_S A s.heap s.heap [] := va_S.rf
  have hin1 : ∀ w ∈ u_ws RX1 TX1 10, w ∈ wsX1_scan := by decide +kernel
  have lk26 := hts (.fieldLink RX1 26 "LadderGridModel" "then" "[I") (by decide +kernel)
  have lk23 := hts (.fieldLink RX1 23 "LadderGridModel" "values" "[I") (by decide +kernel)
  have lk36 := hts (.fieldLink RX1 36 "LadderGridModel" "rows" "I") (by decide +kernel)
  have lk29 := hts (.fieldLink RX1 29 "LadderGridModel" "hasPower" "[Z") (by decide +kernel)
  have lk40 := hts (.fieldLink RX1 40 "LadderGridModel" "columns" "I") (by decide +kernel)
  have lk16 := hts (.fieldLink RX1 16 "LadderGridModel" "before" "[I") (by decide +kernel)
  have lk13 := hts (.fieldLink RX1 13 "LadderGridModel" "variables" "[I") (by decide +kernel)
  have lk43 := hts (.fieldLink RX1 43 "LadderGridModel" "isScanned" "Z") (by decide +kernel)
  have hl := lv_entry ([.ref gm]) (n := 4) (Nat.le_of_ble_eq_true rfl)
  rw [lg_entry_eq]
  generalize (lg_sl ([.ref gm]) ++ List.replicate (4 - (lg_sl ([.ref gm])).length) Slot.unset).toArray = ls at hl ⊢
  have hl : lv_has ls 4 [(0, .ref gm)] := hl
  suffices key : ∀ (H : Heap) (locs : List Loc), va_P (dC, dI) vwCl (mw cA cZ gm ak ac ab al av ah ap fk fc fs fl fp fv ft (nI rn) (nI cn) sc) H → va_D A (mw cA cZ gm ak ac ab al av ah ap fk fc fs fl fp fv ft (nI rn) (nI cn) sc) → va_S A s.heap H locs → W p l e (headSpec wsX1_scan ({ frames := 1, cells := 0, slots := 0, locals := 26 })).room s m ([.ref gm] : List Value).toArray below meth c H locs 0 0 (MQ below (gQA (dC, dI) vwCl [(cA, .int), (cZ, .boolean)] ((gCo fk fc (gCols fk fc fl fv rn (gP0 fp rn, fs) cn).1 cn (fv, nI 0) rn).2) A (mw cA cZ gm ak ac ab al av ah ap fk fc ((gCols fk fc fl fv rn (gP0 fp rn, fs) cn).2) fl ((gCols fk fc fl fv rn (gP0 fp rn, fs) cn).1) ((gCo fk fc (gCols fk fc fl fv rn (gP0 fp rn, fs) cn).1 cn (fv, nI 0) rn).1) fv (nI rn) (nI cn) (nI 1))) ([.ref gm] : List Value).toArray s 0 0 A) (F0 m 0 ls []) from key s.heap [] hP hD hS
  clear hP hD hS
  intro H locs hP hD hS
  have loop3 : ∀ (n : Nat) (j : Nat) (q : (Nat → Int32) × (Nat → Int32)), j + n = cn → g01 156 q.1 → q = gCols fk fc fl fv rn (gP0 fp rn, fs) j → ∀ (H : Heap) (locs : List Loc), va_P (dC, dI) vwCl (mw cA cZ gm ak ac ab al av ah ap fk fc q.2 fl q.1 fv fv (nI rn) (nI cn) sc) H → va_D A (mw cA cZ gm ak ac ab al av ah ap fk fc q.2 fl q.1 fv fv (nI rn) (nI cn) sc) → va_S A s.heap H locs → ∀ (ls : Array Slot), lv_has ls 4 [(1, .int (nI j)), (0, .ref gm)] → W p l e (headSpec wsX1_scan ({ frames := 1, cells := 0, slots := 0, locals := 26 })).room s m ([.ref gm] : List Value).toArray below meth c H locs 0 0 (MQ below (gQA (dC, dI) vwCl [(cA, .int), (cZ, .boolean)] ((gCo fk fc (gCols fk fc fl fv rn (gP0 fp rn, fs) cn).1 cn (fv, nI 0) rn).2) A (mw cA cZ gm ak ac ab al av ah ap fk fc ((gCols fk fc fl fv rn (gP0 fp rn, fs) cn).2) fl ((gCols fk fc fl fv rn (gP0 fp rn, fs) cn).1) ((gCo fk fc (gCols fk fc fl fv rn (gP0 fp rn, fs) cn).1 cn (fv, nI 0) rn).1) fv (nI rn) (nI cn) (nI 1))) ([.ref gm] : List Value).toArray s 0 0 A) (F0 m 54 ls []) := by
    intro n
    induction n with
    | zero =>
      intro j q hj hq01 hq H locs hP hD hS ls hl
      refine lv_iload_n hx hb dX1_scan_54 rfl (lv_at hl 0 rfl) ?_
      refine lv_aload_n hx hb dX1_scan_55 rfl (lv_at hl 1 rfl) ?_
      refine va_get (D := (dC, dI)) (ci := 1) (v := .int (nI cn)) (C := RX1) (T := TX1) (N := 10) hx hb hts hin1 hown hK hP 0 rfl rfl 1 (by decide) lk40 (fun _ h9 => h9) rfl dX1_scan_56 ?_
      refine gz_icmp_ge (tgt := 165) (za := ((j : Nat) : Int)) (zb := ((cn : Nat) : Int)) hx hb dX1_scan_59 (by decide) (nI_toInt (by omega)) (nI_toInt (by omega)) (fun c_1 => ?_) (fun c_1 => False.elim (by omega))
      refine lv_aload_n hx hb dX1_scan_165 rfl (lv_at hl 1 rfl) ?_
      refine lv_iconst (v := nI 1) hx hb dX1_scan_166 (by decide) ?_
      refine va_put (D := (dC, dI)) (ci := 1) (v := .int (nI 1)) (ty := .boolean) (C := RX1) (T := TX1) (N := 10) hx hb hts hin1 tyX1 tyX1_ok nmX1 hown hK hP hD hS 0 rfl rfl 9 (by decide) lk43 (fun _ h9 => h9) rfl (by decide +kernel) rfl rfl (Nat.le_of_ble_eq_true rfl) dX1_scan_167 (fun H locs hP hD hS => ?_)
      have hP : va_P (dC, dI) vwCl (mw cA cZ gm ak ac ab al av ah ap fk fc q.2 fl q.1 fv fv (nI rn) (nI cn) (nI 1)) H := hP
      have hD : va_D A (mw cA cZ gm ak ac ab al av ah ap fk fc q.2 fl q.1 fv fv (nI rn) (nI cn) (nI 1)) := hD
      refine lv_aload_n hx hb dX1_scan_170 rfl (lv_at hl 1 rfl) ?_
      refine gz_calli (wc := (mw cA cZ gm ak ac ab al av ah ap fk fc q.2 fl q.1 fv fv (nI rn) (nI cn) (nI 1))) (wr := []) hP hD hS hA [0, 1, 2, 3, 4, 5, 6, 7] [] rfl rfl (by decide) (by decide) (va_runV (As := []) (rest := []) ⟨hx, hb, hml, hown, hts⟩ (cM_coils l dC dI H.size cA cZ gm ak ac ab al av ah ap fk fc q.2 fl q.1 fv fv rn cn (nI 1) hrn hcn hcI hkI hq01) (cwV 0 hts gX1_scan_X1_coils rfl rfl rfl (by decide +kernel) ⟨Nat.le_of_ble_eq_true rfl, Nat.le_of_ble_eq_true rfl⟩) (gz_preVw (q := (RX1, TX1, 10)) (ci := 1) hK hP hD [0, 1, 2, 3, 4, 5, 6, 7] (by decide) rfl rfl rfl rfl) rfl rfl hl.1 rfl (lv_room (Nat.le_of_ble_eq_true rfl)) dX1_scan_171 ⟨Nat.le_of_ble_eq_true rfl, Nat.le_of_ble_eq_true rfl⟩) (fun H locs hP hD hS => ?_)
      have hP : va_P (dC, dI) vwCl (mw cA cZ gm ak ac ab al av ah ap fk fc q.2 fl q.1 ((gCo fk fc q.1 cn (fv, nI 0) rn).1) fv (nI rn) (nI cn) (nI 1)) H := hP
      have hD : va_D A (mw cA cZ gm ak ac ab al av ah ap fk fc q.2 fl q.1 ((gCo fk fc q.1 cn (fv, nI 0) rn).1) fv (nI rn) (nI cn) (nI 1)) := hD
      exact W.iret (v := (gCo fk fc q.1 cn (fv, nI 0) rn).2) hx hb hr (fun t ht hW => ⟨⟨(gCo fk fc q.1 cn (fv, nI 0) rn).2, (), rfl, (by rw [show (gCols fk fc fl fv rn (gP0 fp rn, fs) cn) = q by rw [hq, show j = cn by omega]]), by rw [ht]; exact (by rw [show (gCols fk fc fl fv rn (gP0 fp rn, fs) cn) = q by rw [hq, show j = cn by omega]]; exact hP), va_K.moved hW.alike hK, (by rw [show (gCols fk fc fl fv rn (gP0 fp rn, fs) cn) = q by rw [hq, show j = cn by omega]]; exact hD)⟩, hS.F ht⟩) hS.2.2 dX1_scan_174
    | succ n ih =>
      intro j q hj hq01 hq H locs hP hD hS ls hl
      have inner : ∀ (n : Nat) (i : Nat) (z : (Nat → Int32) × (Nat → Int32)), i + n = rn → g01 156 z.1 → z = gPs fk fc fv j q i → ∀ (H : Heap) (locs : List Loc), va_P (dC, dI) vwCl (mw cA cZ gm ak ac ab al av ah ap fk fc z.2 fl z.1 fv fv (nI rn) (nI cn) sc) H → va_D A (mw cA cZ gm ak ac ab al av ah ap fk fc z.2 fl z.1 fv fv (nI rn) (nI cn) sc) → va_S A s.heap H locs → ∀ (ls : Array Slot), lv_has ls 4 [(2, .int (nI i)), (1, .int (nI j)), (0, .ref gm)] → W p l e (headSpec wsX1_scan ({ frames := 1, cells := 0, slots := 0, locals := 26 })).room s m ([.ref gm] : List Value).toArray below meth c H locs 0 0 (MQ below (gQA (dC, dI) vwCl [(cA, .int), (cZ, .boolean)] ((gCo fk fc (gCols fk fc fl fv rn (gP0 fp rn, fs) cn).1 cn (fv, nI 0) rn).2) A (mw cA cZ gm ak ac ab al av ah ap fk fc ((gCols fk fc fl fv rn (gP0 fp rn, fs) cn).2) fl ((gCols fk fc fl fv rn (gP0 fp rn, fs) cn).1) ((gCo fk fc (gCols fk fc fl fv rn (gP0 fp rn, fs) cn).1 cn (fv, nI 0) rn).1) fv (nI rn) (nI cn) (nI 1))) ([.ref gm] : List Value).toArray s 0 0 A) (F0 m 64 ls []) := by
        intro n
        induction n with
        | zero =>
          intro i z hi hz01 hz H locs hP hD hS ls hl
          by_cases hlast : j + 1 < cn
          · skip
            refine lv_iload_n hx hb dX1_scan_64 rfl (lv_at hl 0 rfl) ?_
            refine lv_aload_n hx hb dX1_scan_65 rfl (lv_at hl 2 rfl) ?_
            refine va_get (D := (dC, dI)) (ci := 1) (v := .int (nI rn)) (C := RX1) (T := TX1) (N := 10) hx hb hts hin1 hown hK hP 0 rfl rfl 0 (by decide) lk36 (fun _ h9 => h9) rfl dX1_scan_66 ?_
            refine gz_icmp_ge (tgt := 142) (za := ((i : Nat) : Int)) (zb := ((rn : Nat) : Int)) hx hb dX1_scan_69 (by decide) (nI_toInt (by omega)) (nI_toInt (by omega)) (fun c_1 => ?_) (fun c_1 => False.elim (by omega))
            refine lv_iload_n hx hb dX1_scan_142 rfl (lv_at hl 1 rfl) ?_
            refine lv_iconst (v := nI 1) hx hb dX1_scan_143 (by decide) ?_
            refine gz_iadd (i := j) (j := 1) hx hb dX1_scan_144 ?_
            refine lv_aload_n hx hb dX1_scan_145 rfl (lv_at hl 2 rfl) ?_
            refine va_get (D := (dC, dI)) (ci := 1) (v := .int (nI cn)) (C := RX1) (T := TX1) (N := 10) hx hb hts hin1 hown hK hP 0 rfl rfl 1 (by decide) lk40 (fun _ h9 => h9) rfl dX1_scan_146 ?_
            refine gz_icmp_ge (tgt := 159) (za := ((j + 1 : Nat) : Int)) (zb := ((cn : Nat) : Int)) hx hb dX1_scan_149 (by decide) (nI_toInt (by omega)) (nI_toInt (by omega)) (fun c_2 => False.elim (by omega)) (fun c_2 => ?_)
            refine lv_aload_n hx hb dX1_scan_152 rfl (lv_at hl 2 rfl) ?_
            refine lv_iload_n hx hb dX1_scan_153 rfl (lv_at hl 1 rfl) ?_
            refine lv_iconst (v := nI 1) hx hb dX1_scan_154 (by decide) ?_
            refine gz_iadd (i := j) (j := 1) hx hb dX1_scan_155 ?_
            refine gz_callv (wc := (mw cA cZ gm ak ac ab al av ah ap fk fc z.2 fl z.1 fv fv (nI rn) (nI cn) sc)) (wr := []) hP hD hS hA [0, 1, 2, 3, 4, 5, 6, 7] [] rfl rfl (by decide) (by decide) (va_runV (As := [.int (nI (j + 1))]) (rest := []) ⟨hx, hb, hml, hown, hts⟩ (cM_spread l dC dI H.size cA cZ gm ak ac ab al av ah ap fk fc z.2 fl z.1 fv fv rn cn sc (j + 1) hrn hcn (by omega) hfl hz01) (cwV 1 hts gX1_scan_X1_spread rfl rfl rfl (by decide +kernel) ⟨Nat.le_of_ble_eq_true rfl, Nat.le_of_ble_eq_true rfl⟩) (gz_preVw (q := (RX1, TX1, 10)) (ci := 1) hK hP hD [0, 1, 2, 3, 4, 5, 6, 7] (by decide) rfl rfl rfl rfl) rfl rfl hl.1 rfl (lv_room (Nat.le_of_ble_eq_true rfl)) dX1_scan_156 ⟨Nat.le_of_ble_eq_true rfl, Nat.le_of_ble_eq_true rfl⟩) (fun H locs hP hD hS => ?_)
            have hP : va_P (dC, dI) vwCl (mw cA cZ gm ak ac ab al av ah ap fk fc z.2 fl (gSh fl (j + 1) rn z.1) fv fv (nI rn) (nI cn) sc) H := hP
            have hD : va_D A (mw cA cZ gm ak ac ab al av ah ap fk fc z.2 fl (gSh fl (j + 1) rn z.1) fv fv (nI rn) (nI cn) sc) := hD
            refine lv_iinc (v := nI (j + 1)) (lv' := [(1, .int (nI (j + 1))), (2, .int (nI i)), (0, .ref gm)]) hx hb dX1_scan_159 hl (k := 1) rfl (nI_1 _) (by decide) rfl (fun ls hl => ?_)
            refine lv_goto (tgt := 54) hx hb dX1_scan_162 (by decide) ?_
            exact ih (j + 1) (gSh fl (j + 1) rn z.1, z.2) (by omega) (gSh_01 hz01) (by subst hq; subst hz; rw [show i = rn by omega]; rfl) H locs hP hD hS ls (lv_sub hl [0, 2] rfl)
          · skip
            refine lv_iload_n hx hb dX1_scan_64 rfl (lv_at hl 0 rfl) ?_
            refine lv_aload_n hx hb dX1_scan_65 rfl (lv_at hl 2 rfl) ?_
            refine va_get (D := (dC, dI)) (ci := 1) (v := .int (nI rn)) (C := RX1) (T := TX1) (N := 10) hx hb hts hin1 hown hK hP 0 rfl rfl 0 (by decide) lk36 (fun _ h9 => h9) rfl dX1_scan_66 ?_
            refine gz_icmp_ge (tgt := 142) (za := ((i : Nat) : Int)) (zb := ((rn : Nat) : Int)) hx hb dX1_scan_69 (by decide) (nI_toInt (by omega)) (nI_toInt (by omega)) (fun c_1 => ?_) (fun c_1 => False.elim (by omega))
            refine lv_iload_n hx hb dX1_scan_142 rfl (lv_at hl 1 rfl) ?_
            refine lv_iconst (v := nI 1) hx hb dX1_scan_143 (by decide) ?_
            refine gz_iadd (i := j) (j := 1) hx hb dX1_scan_144 ?_
            refine lv_aload_n hx hb dX1_scan_145 rfl (lv_at hl 2 rfl) ?_
            refine va_get (D := (dC, dI)) (ci := 1) (v := .int (nI cn)) (C := RX1) (T := TX1) (N := 10) hx hb hts hin1 hown hK hP 0 rfl rfl 1 (by decide) lk40 (fun _ h9 => h9) rfl dX1_scan_146 ?_
            refine gz_icmp_ge (tgt := 159) (za := ((j + 1 : Nat) : Int)) (zb := ((cn : Nat) : Int)) hx hb dX1_scan_149 (by decide) (nI_toInt (by omega)) (nI_toInt (by omega)) (fun c_2 => ?_) (fun c_2 => False.elim (by omega))
            refine lv_iinc (v := nI (j + 1)) (lv' := [(1, .int (nI (j + 1))), (2, .int (nI i)), (0, .ref gm)]) hx hb dX1_scan_159 hl (k := 1) rfl (nI_1 _) (by decide) rfl (fun ls hl => ?_)
            refine lv_goto (tgt := 54) hx hb dX1_scan_162 (by decide) ?_
            exact ih (j + 1) (z.1, z.2) (by omega) hz01 (by subst hq; subst hz; rw [show i = rn by omega]; show _ = (gSh fl (j + 1) rn (gPs fk fc fv j (gCols fk fc fl fv rn (gP0 fp rn, fs) j) rn).1, _); rw [gSh_none (fun r hr hl1 => by have := hlk r (j + 1) (by omega) (by omega) hl1; omega)]) H locs hP hD hS ls (lv_sub hl [0, 2] rfl)
        | succ n ih =>
          intro i z hi hz01 hz H locs hP hD hS ls hl
          have hci : vp_in (fc (i * 12 + j)) 40 := hcI _ (by omega)
          rcases hz01 (i * 13 + j) (by omega) with hp | hp
          · skip
            refine lv_iload_n hx hb dX1_scan_64 rfl (lv_at hl 0 rfl) ?_
            refine lv_aload_n hx hb dX1_scan_65 rfl (lv_at hl 2 rfl) ?_
            refine va_get (D := (dC, dI)) (ci := 1) (v := .int (nI rn)) (C := RX1) (T := TX1) (N := 10) hx hb hts hin1 hown hK hP 0 rfl rfl 0 (by decide) lk36 (fun _ h9 => h9) rfl dX1_scan_66 ?_
            refine gz_icmp_ge (tgt := 142) (za := ((i : Nat) : Int)) (zb := ((rn : Nat) : Int)) hx hb dX1_scan_69 (by decide) (nI_toInt (by omega)) (nI_toInt (by omega)) (fun c_1 => False.elim (by omega)) (fun c_1 => ?_)
            refine lv_bipush (v := nI 12) hx hb dX1_scan_72 (by decide) ?_
            refine lv_iload_n hx hb dX1_scan_74 rfl (lv_at hl 0 rfl) ?_
            refine gz_imulc (i := 12) (j := i) hx hb dX1_scan_75 ?_
            refine lv_iload_n hx hb dX1_scan_76 rfl (lv_at hl 1 rfl) ?_
            refine gz_iadd (i := i * 12) (j := j) hx hb dX1_scan_77 ?_
            refine lv_istore_n (lv' := [(3, .int (nI ((i * 12) + j))), (2, .int (nI i)), (1, .int (nI j)), (0, .ref gm)]) hx hb dX1_scan_78 rfl hl (by decide) rfl (fun ls hl => ?_)
            refine lv_aload_n hx hb dX1_scan_79 rfl (lv_at hl 3 rfl) ?_
            refine va_get (D := (dC, dI)) (ci := 1) (v := .ref ap) (C := RX1) (T := TX1) (N := 10) hx hb hts hin1 hown hK hP 0 rfl rfl 8 (by decide) lk29 (fun _ h9 => h9) rfl dX1_scan_80 ?_
            refine lv_bipush (v := nI 13) hx hb dX1_scan_83 (by decide) ?_
            refine lv_iload_n hx hb dX1_scan_85 rfl (lv_at hl 1 rfl) ?_
            refine gz_imulc (i := 13) (j := i) hx hb dX1_scan_86 ?_
            refine lv_iload_n hx hb dX1_scan_87 rfl (lv_at hl 2 rfl) ?_
            refine gz_iadd (i := i * 13) (j := j) hx hb dX1_scan_88 ?_
            refine lv_iconst (v := nI 1) hx hb dX1_scan_89 (by decide) ?_
            refine gz_iadd (i := (i * 13) + j) (j := 1) hx hb dX1_scan_90 ?_
            refine gz_top (j := i * 13 + (j + 1)) (by omega) ?_
            refine lv_aload_n hx hb dX1_scan_91 rfl (lv_at hl 3 rfl) ?_
            refine va_get (D := (dC, dI)) (ci := 1) (v := .ref ap) (C := RX1) (T := TX1) (N := 10) hx hb hts hin1 hown hK hP 0 rfl rfl 8 (by decide) lk29 (fun _ h9 => h9) rfl dX1_scan_92 ?_
            refine lv_bipush (v := nI 13) hx hb dX1_scan_95 (by decide) ?_
            refine lv_iload_n hx hb dX1_scan_97 rfl (lv_at hl 1 rfl) ?_
            refine gz_imulc (i := 13) (j := i) hx hb dX1_scan_98 ?_
            refine lv_iload_n hx hb dX1_scan_99 rfl (lv_at hl 2 rfl) ?_
            refine gz_iadd (i := i * 13) (j := j) hx hb dX1_scan_100 ?_
            refine gz_zald (k := (i * 13) + j) hx hb hK hP 7 1 rfl rfl (by omega) (by omega) dX1_scan_101 ?_
            refine lv_if_eq (tgt := 117) hx hb dX1_scan_102 (by decide) (fun c_2 => ?_) (fun c_2 => False.elim (c_2 hp))
            refine lv_iconst (v := nI 0) hx hb dX1_scan_117 (by decide) ?_
            refine gz_zast (k := i * 13 + (j + 1)) hx hb hK hP hD hS 7 1 rfl rfl gz_nar0 (by omega) (by omega) dX1_scan_118 (fun H locs hP hD hS => ?_)
            have hP : va_P (dC, dI) vwCl (mw cA cZ gm ak ac ab al av ah ap fk fc z.2 fl (upd z.1 (i * 13 + (j + 1)) (nI 0)) fv fv (nI rn) (nI cn) sc) H := hP
            have hD : va_D A (mw cA cZ gm ak ac ab al av ah ap fk fc z.2 fl (upd z.1 (i * 13 + (j + 1)) (nI 0)) fv fv (nI rn) (nI cn) sc) := hD
            refine lv_aload_n hx hb dX1_scan_119 rfl (lv_at hl 3 rfl) ?_
            refine va_get (D := (dC, dI)) (ci := 1) (v := .ref ab) (C := RX1) (T := TX1) (N := 10) hx hb hts hin1 hown hK hP 0 rfl rfl 4 (by decide) lk16 (fun _ h9 => h9) rfl dX1_scan_120 ?_
            refine lv_iload_n hx hb dX1_scan_123 rfl (lv_at hl 0 rfl) ?_
            refine lv_aload_n hx hb dX1_scan_124 rfl (lv_at hl 3 rfl) ?_
            refine va_get (D := (dC, dI)) (ci := 1) (v := .ref ah) (C := RX1) (T := TX1) (N := 10) hx hb hts hin1 hown hK hP 0 rfl rfl 7 (by decide) lk26 (fun _ h9 => h9) rfl dX1_scan_125 ?_
            refine lv_aload_n hx hb dX1_scan_128 rfl (lv_at hl 3 rfl) ?_
            refine va_get (D := (dC, dI)) (ci := 1) (v := .ref ac) (C := RX1) (T := TX1) (N := 10) hx hb hts hin1 hown hK hP 0 rfl rfl 3 (by decide) lk13 (fun _ h9 => h9) rfl dX1_scan_129 ?_
            refine lv_iload_n hx hb dX1_scan_132 rfl (lv_at hl 0 rfl) ?_
            refine gz_iald (k := (i * 12) + j) hx hb hK hP 2 0 rfl rfl (by omega) (by omega) dX1_scan_133 ?_
            refine va_iald hx hb hK hP 6 0 rfl rfl hci dX1_scan_134 ?_
            refine gz_iast (k := (i * 12) + j) hx hb hK hP hD hS 3 0 rfl rfl (by omega) (by omega) dX1_scan_135 (fun H locs hP hD hS => ?_)
            have hP : va_P (dC, dI) vwCl (mw cA cZ gm ak ac ab al av ah ap fk fc (upd z.2 ((i * 12) + j) (fv (fc ((i * 12) + j)).toNatClampNeg)) fl (upd z.1 (i * 13 + (j + 1)) (nI 0)) fv fv (nI rn) (nI cn) sc) H := hP
            have hD : va_D A (mw cA cZ gm ak ac ab al av ah ap fk fc (upd z.2 ((i * 12) + j) (fv (fc ((i * 12) + j)).toNatClampNeg)) fl (upd z.1 (i * 13 + (j + 1)) (nI 0)) fv fv (nI rn) (nI cn) sc) := hD
            refine lv_iinc (v := nI (i + 1)) (lv' := [(2, .int (nI (i + 1))), (3, .int (nI ((i * 12) + j))), (1, .int (nI j)), (0, .ref gm)]) hx hb dX1_scan_136 hl (k := 1) rfl (nI_1 _) (by decide) rfl (fun ls hl => ?_)
            refine lv_goto (tgt := 64) hx hb dX1_scan_139 (by decide) ?_
            exact ih (i + 1) (upd z.1 (i * 13 + (j + 1)) (nI 0), upd z.2 ((i * 12) + j) (fv (fc ((i * 12) + j)).toNatClampNeg)) (by omega) (g01_upd hz01 (by first | exact Or.inl rfl | exact Or.inr rfl)) (by show _ = gPs1 _ _ _ _ _ (gPs fk fc fv j q i); rw [← hz]; unfold gPs1; rw [if_neg (by rw [hp]; decide)]) H locs hP hD hS ls (lv_sub hl [0, 2, 3] rfl)
          · rcases gLets_01 (fk (i * 12 + j)) (fv (fc (i * 12 + j)).toNatClampNeg) (z.2 (i * 12 + j)) with hg | hg
            · skip
              refine lv_iload_n hx hb dX1_scan_64 rfl (lv_at hl 0 rfl) ?_
              refine lv_aload_n hx hb dX1_scan_65 rfl (lv_at hl 2 rfl) ?_
              refine va_get (D := (dC, dI)) (ci := 1) (v := .int (nI rn)) (C := RX1) (T := TX1) (N := 10) hx hb hts hin1 hown hK hP 0 rfl rfl 0 (by decide) lk36 (fun _ h9 => h9) rfl dX1_scan_66 ?_
              refine gz_icmp_ge (tgt := 142) (za := ((i : Nat) : Int)) (zb := ((rn : Nat) : Int)) hx hb dX1_scan_69 (by decide) (nI_toInt (by omega)) (nI_toInt (by omega)) (fun c_1 => False.elim (by omega)) (fun c_1 => ?_)
              refine lv_bipush (v := nI 12) hx hb dX1_scan_72 (by decide) ?_
              refine lv_iload_n hx hb dX1_scan_74 rfl (lv_at hl 0 rfl) ?_
              refine gz_imulc (i := 12) (j := i) hx hb dX1_scan_75 ?_
              refine lv_iload_n hx hb dX1_scan_76 rfl (lv_at hl 1 rfl) ?_
              refine gz_iadd (i := i * 12) (j := j) hx hb dX1_scan_77 ?_
              refine lv_istore_n (lv' := [(3, .int (nI ((i * 12) + j))), (2, .int (nI i)), (1, .int (nI j)), (0, .ref gm)]) hx hb dX1_scan_78 rfl hl (by decide) rfl (fun ls hl => ?_)
              refine lv_aload_n hx hb dX1_scan_79 rfl (lv_at hl 3 rfl) ?_
              refine va_get (D := (dC, dI)) (ci := 1) (v := .ref ap) (C := RX1) (T := TX1) (N := 10) hx hb hts hin1 hown hK hP 0 rfl rfl 8 (by decide) lk29 (fun _ h9 => h9) rfl dX1_scan_80 ?_
              refine lv_bipush (v := nI 13) hx hb dX1_scan_83 (by decide) ?_
              refine lv_iload_n hx hb dX1_scan_85 rfl (lv_at hl 1 rfl) ?_
              refine gz_imulc (i := 13) (j := i) hx hb dX1_scan_86 ?_
              refine lv_iload_n hx hb dX1_scan_87 rfl (lv_at hl 2 rfl) ?_
              refine gz_iadd (i := i * 13) (j := j) hx hb dX1_scan_88 ?_
              refine lv_iconst (v := nI 1) hx hb dX1_scan_89 (by decide) ?_
              refine gz_iadd (i := (i * 13) + j) (j := 1) hx hb dX1_scan_90 ?_
              refine gz_top (j := i * 13 + (j + 1)) (by omega) ?_
              refine lv_aload_n hx hb dX1_scan_91 rfl (lv_at hl 3 rfl) ?_
              refine va_get (D := (dC, dI)) (ci := 1) (v := .ref ap) (C := RX1) (T := TX1) (N := 10) hx hb hts hin1 hown hK hP 0 rfl rfl 8 (by decide) lk29 (fun _ h9 => h9) rfl dX1_scan_92 ?_
              refine lv_bipush (v := nI 13) hx hb dX1_scan_95 (by decide) ?_
              refine lv_iload_n hx hb dX1_scan_97 rfl (lv_at hl 1 rfl) ?_
              refine gz_imulc (i := 13) (j := i) hx hb dX1_scan_98 ?_
              refine lv_iload_n hx hb dX1_scan_99 rfl (lv_at hl 2 rfl) ?_
              refine gz_iadd (i := i * 13) (j := j) hx hb dX1_scan_100 ?_
              refine gz_zald (k := (i * 13) + j) hx hb hK hP 7 1 rfl rfl (by omega) (by omega) dX1_scan_101 ?_
              refine lv_if_eq (tgt := 117) hx hb dX1_scan_102 (by decide) (fun c_2 => False.elim (absurd (hp.symm.trans c_2) (by decide))) (fun c_2 => ?_)
              refine lv_aload_n hx hb dX1_scan_105 rfl (lv_at hl 3 rfl) ?_
              refine lv_iload_n hx hb dX1_scan_106 rfl (lv_at hl 0 rfl) ?_
              refine gz_callR (W.runV (As := [.int (nI ((i * 12) + j))]) (rest := [.int (nI (i * 13 + (j + 1))), .ref ap]) ⟨hx, hb, hml, hown, hts⟩ (cM_lets l dC dI cA cZ gm ak ac ab al av ah ap fk fc z.2 fl z.1 fv fv rn cn sc ((i * 12) + j) hrn hcn (by omega) hcI) (cwV 1 hts gX1_scan_X1_lets rfl rfl rfl (by decide +kernel) ⟨Nat.le_of_ble_eq_true rfl, Nat.le_of_ble_eq_true rfl⟩) (gz_preV (q := (RX1, TX1, 10)) (ci := 1) hK hP [0, 1, 2, 3, 4, 5, 6, 7] rfl rfl rfl) rfl rfl hl.1 rfl (lv_room (Nat.le_of_ble_eq_true rfl)) dX1_scan_107 ⟨Nat.le_of_ble_eq_true rfl, Nat.le_of_ble_eq_true rfl⟩) ?_
              refine lv_if_eq (tgt := 117) hx hb dX1_scan_110 (by decide) (fun c_3 => ?_) (fun c_3 => False.elim (c_3 hg))
              refine lv_iconst (v := nI 0) hx hb dX1_scan_117 (by decide) ?_
              refine gz_zast (k := i * 13 + (j + 1)) hx hb hK hP hD hS 7 1 rfl rfl gz_nar0 (by omega) (by omega) dX1_scan_118 (fun H locs hP hD hS => ?_)
              have hP : va_P (dC, dI) vwCl (mw cA cZ gm ak ac ab al av ah ap fk fc z.2 fl (upd z.1 (i * 13 + (j + 1)) (nI 0)) fv fv (nI rn) (nI cn) sc) H := hP
              have hD : va_D A (mw cA cZ gm ak ac ab al av ah ap fk fc z.2 fl (upd z.1 (i * 13 + (j + 1)) (nI 0)) fv fv (nI rn) (nI cn) sc) := hD
              refine lv_aload_n hx hb dX1_scan_119 rfl (lv_at hl 3 rfl) ?_
              refine va_get (D := (dC, dI)) (ci := 1) (v := .ref ab) (C := RX1) (T := TX1) (N := 10) hx hb hts hin1 hown hK hP 0 rfl rfl 4 (by decide) lk16 (fun _ h9 => h9) rfl dX1_scan_120 ?_
              refine lv_iload_n hx hb dX1_scan_123 rfl (lv_at hl 0 rfl) ?_
              refine lv_aload_n hx hb dX1_scan_124 rfl (lv_at hl 3 rfl) ?_
              refine va_get (D := (dC, dI)) (ci := 1) (v := .ref ah) (C := RX1) (T := TX1) (N := 10) hx hb hts hin1 hown hK hP 0 rfl rfl 7 (by decide) lk26 (fun _ h9 => h9) rfl dX1_scan_125 ?_
              refine lv_aload_n hx hb dX1_scan_128 rfl (lv_at hl 3 rfl) ?_
              refine va_get (D := (dC, dI)) (ci := 1) (v := .ref ac) (C := RX1) (T := TX1) (N := 10) hx hb hts hin1 hown hK hP 0 rfl rfl 3 (by decide) lk13 (fun _ h9 => h9) rfl dX1_scan_129 ?_
              refine lv_iload_n hx hb dX1_scan_132 rfl (lv_at hl 0 rfl) ?_
              refine gz_iald (k := (i * 12) + j) hx hb hK hP 2 0 rfl rfl (by omega) (by omega) dX1_scan_133 ?_
              refine va_iald hx hb hK hP 6 0 rfl rfl hci dX1_scan_134 ?_
              refine gz_iast (k := (i * 12) + j) hx hb hK hP hD hS 3 0 rfl rfl (by omega) (by omega) dX1_scan_135 (fun H locs hP hD hS => ?_)
              have hP : va_P (dC, dI) vwCl (mw cA cZ gm ak ac ab al av ah ap fk fc (upd z.2 ((i * 12) + j) (fv (fc ((i * 12) + j)).toNatClampNeg)) fl (upd z.1 (i * 13 + (j + 1)) (nI 0)) fv fv (nI rn) (nI cn) sc) H := hP
              have hD : va_D A (mw cA cZ gm ak ac ab al av ah ap fk fc (upd z.2 ((i * 12) + j) (fv (fc ((i * 12) + j)).toNatClampNeg)) fl (upd z.1 (i * 13 + (j + 1)) (nI 0)) fv fv (nI rn) (nI cn) sc) := hD
              refine lv_iinc (v := nI (i + 1)) (lv' := [(2, .int (nI (i + 1))), (3, .int (nI ((i * 12) + j))), (1, .int (nI j)), (0, .ref gm)]) hx hb dX1_scan_136 hl (k := 1) rfl (nI_1 _) (by decide) rfl (fun ls hl => ?_)
              refine lv_goto (tgt := 64) hx hb dX1_scan_139 (by decide) ?_
              exact ih (i + 1) (upd z.1 (i * 13 + (j + 1)) (nI 0), upd z.2 ((i * 12) + j) (fv (fc ((i * 12) + j)).toNatClampNeg)) (by omega) (g01_upd hz01 (by first | exact Or.inl rfl | exact Or.inr rfl)) (by show _ = gPs1 _ _ _ _ _ (gPs fk fc fv j q i); rw [← hz]; unfold gPs1; rw [if_pos hp, hg]) H locs hP hD hS ls (lv_sub hl [0, 2, 3] rfl)
            · skip
              refine lv_iload_n hx hb dX1_scan_64 rfl (lv_at hl 0 rfl) ?_
              refine lv_aload_n hx hb dX1_scan_65 rfl (lv_at hl 2 rfl) ?_
              refine va_get (D := (dC, dI)) (ci := 1) (v := .int (nI rn)) (C := RX1) (T := TX1) (N := 10) hx hb hts hin1 hown hK hP 0 rfl rfl 0 (by decide) lk36 (fun _ h9 => h9) rfl dX1_scan_66 ?_
              refine gz_icmp_ge (tgt := 142) (za := ((i : Nat) : Int)) (zb := ((rn : Nat) : Int)) hx hb dX1_scan_69 (by decide) (nI_toInt (by omega)) (nI_toInt (by omega)) (fun c_1 => False.elim (by omega)) (fun c_1 => ?_)
              refine lv_bipush (v := nI 12) hx hb dX1_scan_72 (by decide) ?_
              refine lv_iload_n hx hb dX1_scan_74 rfl (lv_at hl 0 rfl) ?_
              refine gz_imulc (i := 12) (j := i) hx hb dX1_scan_75 ?_
              refine lv_iload_n hx hb dX1_scan_76 rfl (lv_at hl 1 rfl) ?_
              refine gz_iadd (i := i * 12) (j := j) hx hb dX1_scan_77 ?_
              refine lv_istore_n (lv' := [(3, .int (nI ((i * 12) + j))), (2, .int (nI i)), (1, .int (nI j)), (0, .ref gm)]) hx hb dX1_scan_78 rfl hl (by decide) rfl (fun ls hl => ?_)
              refine lv_aload_n hx hb dX1_scan_79 rfl (lv_at hl 3 rfl) ?_
              refine va_get (D := (dC, dI)) (ci := 1) (v := .ref ap) (C := RX1) (T := TX1) (N := 10) hx hb hts hin1 hown hK hP 0 rfl rfl 8 (by decide) lk29 (fun _ h9 => h9) rfl dX1_scan_80 ?_
              refine lv_bipush (v := nI 13) hx hb dX1_scan_83 (by decide) ?_
              refine lv_iload_n hx hb dX1_scan_85 rfl (lv_at hl 1 rfl) ?_
              refine gz_imulc (i := 13) (j := i) hx hb dX1_scan_86 ?_
              refine lv_iload_n hx hb dX1_scan_87 rfl (lv_at hl 2 rfl) ?_
              refine gz_iadd (i := i * 13) (j := j) hx hb dX1_scan_88 ?_
              refine lv_iconst (v := nI 1) hx hb dX1_scan_89 (by decide) ?_
              refine gz_iadd (i := (i * 13) + j) (j := 1) hx hb dX1_scan_90 ?_
              refine gz_top (j := i * 13 + (j + 1)) (by omega) ?_
              refine lv_aload_n hx hb dX1_scan_91 rfl (lv_at hl 3 rfl) ?_
              refine va_get (D := (dC, dI)) (ci := 1) (v := .ref ap) (C := RX1) (T := TX1) (N := 10) hx hb hts hin1 hown hK hP 0 rfl rfl 8 (by decide) lk29 (fun _ h9 => h9) rfl dX1_scan_92 ?_
              refine lv_bipush (v := nI 13) hx hb dX1_scan_95 (by decide) ?_
              refine lv_iload_n hx hb dX1_scan_97 rfl (lv_at hl 1 rfl) ?_
              refine gz_imulc (i := 13) (j := i) hx hb dX1_scan_98 ?_
              refine lv_iload_n hx hb dX1_scan_99 rfl (lv_at hl 2 rfl) ?_
              refine gz_iadd (i := i * 13) (j := j) hx hb dX1_scan_100 ?_
              refine gz_zald (k := (i * 13) + j) hx hb hK hP 7 1 rfl rfl (by omega) (by omega) dX1_scan_101 ?_
              refine lv_if_eq (tgt := 117) hx hb dX1_scan_102 (by decide) (fun c_2 => False.elim (absurd (hp.symm.trans c_2) (by decide))) (fun c_2 => ?_)
              refine lv_aload_n hx hb dX1_scan_105 rfl (lv_at hl 3 rfl) ?_
              refine lv_iload_n hx hb dX1_scan_106 rfl (lv_at hl 0 rfl) ?_
              refine gz_callR (W.runV (As := [.int (nI ((i * 12) + j))]) (rest := [.int (nI (i * 13 + (j + 1))), .ref ap]) ⟨hx, hb, hml, hown, hts⟩ (cM_lets l dC dI cA cZ gm ak ac ab al av ah ap fk fc z.2 fl z.1 fv fv rn cn sc ((i * 12) + j) hrn hcn (by omega) hcI) (cwV 1 hts gX1_scan_X1_lets rfl rfl rfl (by decide +kernel) ⟨Nat.le_of_ble_eq_true rfl, Nat.le_of_ble_eq_true rfl⟩) (gz_preV (q := (RX1, TX1, 10)) (ci := 1) hK hP [0, 1, 2, 3, 4, 5, 6, 7] rfl rfl rfl) rfl rfl hl.1 rfl (lv_room (Nat.le_of_ble_eq_true rfl)) dX1_scan_107 ⟨Nat.le_of_ble_eq_true rfl, Nat.le_of_ble_eq_true rfl⟩) ?_
              refine lv_if_eq (tgt := 117) hx hb dX1_scan_110 (by decide) (fun c_3 => False.elim (absurd (hg.symm.trans c_3) (by decide))) (fun c_3 => ?_)
              refine lv_iconst (v := nI 1) hx hb dX1_scan_113 (by decide) ?_
              refine lv_goto (tgt := 118) hx hb dX1_scan_114 (by decide) ?_
              refine gz_zast (k := i * 13 + (j + 1)) hx hb hK hP hD hS 7 1 rfl rfl gz_nar1 (by omega) (by omega) dX1_scan_118 (fun H locs hP hD hS => ?_)
              have hP : va_P (dC, dI) vwCl (mw cA cZ gm ak ac ab al av ah ap fk fc z.2 fl (upd z.1 (i * 13 + (j + 1)) (nI 1)) fv fv (nI rn) (nI cn) sc) H := hP
              have hD : va_D A (mw cA cZ gm ak ac ab al av ah ap fk fc z.2 fl (upd z.1 (i * 13 + (j + 1)) (nI 1)) fv fv (nI rn) (nI cn) sc) := hD
              refine lv_aload_n hx hb dX1_scan_119 rfl (lv_at hl 3 rfl) ?_
              refine va_get (D := (dC, dI)) (ci := 1) (v := .ref ab) (C := RX1) (T := TX1) (N := 10) hx hb hts hin1 hown hK hP 0 rfl rfl 4 (by decide) lk16 (fun _ h9 => h9) rfl dX1_scan_120 ?_
              refine lv_iload_n hx hb dX1_scan_123 rfl (lv_at hl 0 rfl) ?_
              refine lv_aload_n hx hb dX1_scan_124 rfl (lv_at hl 3 rfl) ?_
              refine va_get (D := (dC, dI)) (ci := 1) (v := .ref ah) (C := RX1) (T := TX1) (N := 10) hx hb hts hin1 hown hK hP 0 rfl rfl 7 (by decide) lk26 (fun _ h9 => h9) rfl dX1_scan_125 ?_
              refine lv_aload_n hx hb dX1_scan_128 rfl (lv_at hl 3 rfl) ?_
              refine va_get (D := (dC, dI)) (ci := 1) (v := .ref ac) (C := RX1) (T := TX1) (N := 10) hx hb hts hin1 hown hK hP 0 rfl rfl 3 (by decide) lk13 (fun _ h9 => h9) rfl dX1_scan_129 ?_
              refine lv_iload_n hx hb dX1_scan_132 rfl (lv_at hl 0 rfl) ?_
              refine gz_iald (k := (i * 12) + j) hx hb hK hP 2 0 rfl rfl (by omega) (by omega) dX1_scan_133 ?_
              refine va_iald hx hb hK hP 6 0 rfl rfl hci dX1_scan_134 ?_
              refine gz_iast (k := (i * 12) + j) hx hb hK hP hD hS 3 0 rfl rfl (by omega) (by omega) dX1_scan_135 (fun H locs hP hD hS => ?_)
              have hP : va_P (dC, dI) vwCl (mw cA cZ gm ak ac ab al av ah ap fk fc (upd z.2 ((i * 12) + j) (fv (fc ((i * 12) + j)).toNatClampNeg)) fl (upd z.1 (i * 13 + (j + 1)) (nI 1)) fv fv (nI rn) (nI cn) sc) H := hP
              have hD : va_D A (mw cA cZ gm ak ac ab al av ah ap fk fc (upd z.2 ((i * 12) + j) (fv (fc ((i * 12) + j)).toNatClampNeg)) fl (upd z.1 (i * 13 + (j + 1)) (nI 1)) fv fv (nI rn) (nI cn) sc) := hD
              refine lv_iinc (v := nI (i + 1)) (lv' := [(2, .int (nI (i + 1))), (3, .int (nI ((i * 12) + j))), (1, .int (nI j)), (0, .ref gm)]) hx hb dX1_scan_136 hl (k := 1) rfl (nI_1 _) (by decide) rfl (fun ls hl => ?_)
              refine lv_goto (tgt := 64) hx hb dX1_scan_139 (by decide) ?_
              exact ih (i + 1) (upd z.1 (i * 13 + (j + 1)) (nI 1), upd z.2 ((i * 12) + j) (fv (fc ((i * 12) + j)).toNatClampNeg)) (by omega) (g01_upd hz01 (by first | exact Or.inl rfl | exact Or.inr rfl)) (by show _ = gPs1 _ _ _ _ _ (gPs fk fc fv j q i); rw [← hz]; unfold gPs1; rw [if_pos hp, hg]) H locs hP hD hS ls (lv_sub hl [0, 2, 3] rfl)
      refine lv_iload_n hx hb dX1_scan_54 rfl (lv_at hl 0 rfl) ?_
      refine lv_aload_n hx hb dX1_scan_55 rfl (lv_at hl 1 rfl) ?_
      refine va_get (D := (dC, dI)) (ci := 1) (v := .int (nI cn)) (C := RX1) (T := TX1) (N := 10) hx hb hts hin1 hown hK hP 0 rfl rfl 1 (by decide) lk40 (fun _ h9 => h9) rfl dX1_scan_56 ?_
      refine gz_icmp_ge (tgt := 165) (za := ((j : Nat) : Int)) (zb := ((cn : Nat) : Int)) hx hb dX1_scan_59 (by decide) (nI_toInt (by omega)) (nI_toInt (by omega)) (fun c_1 => False.elim (by omega)) (fun c_1 => ?_)
      refine lv_iconst (v := nI 0) hx hb dX1_scan_62 (by decide) ?_
      refine lv_istore_n (lv' := [(2, .int (nI 0)), (1, .int (nI j)), (0, .ref gm)]) hx hb dX1_scan_63 rfl hl (by decide) rfl (fun ls hl => ?_)
      exact inner rn 0 q (by omega) hq01 rfl H locs hP hD hS ls (lv_sub hl [0, 1, 2] rfl)
  have loop2 : ∀ (n : Nat) (i : Nat), i + n = rn → ∀ (H : Heap) (locs : List Loc), va_P (dC, dI) vwCl (mw cA cZ gm ak ac ab al av ah ap fk fc fs fl (gP0 fp i) fv fv (nI rn) (nI cn) sc) H → va_D A (mw cA cZ gm ak ac ab al av ah ap fk fc fs fl (gP0 fp i) fv fv (nI rn) (nI cn) sc) → va_S A s.heap H locs → ∀ (ls : Array Slot), lv_has ls 4 [(1, .int (nI i)), (0, .ref gm)] → W p l e (headSpec wsX1_scan ({ frames := 1, cells := 0, slots := 0, locals := 26 })).room s m ([.ref gm] : List Value).toArray below meth c H locs 0 0 (MQ below (gQA (dC, dI) vwCl [(cA, .int), (cZ, .boolean)] ((gCo fk fc (gCols fk fc fl fv rn (gP0 fp rn, fs) cn).1 cn (fv, nI 0) rn).2) A (mw cA cZ gm ak ac ab al av ah ap fk fc ((gCols fk fc fl fv rn (gP0 fp rn, fs) cn).2) fl ((gCols fk fc fl fv rn (gP0 fp rn, fs) cn).1) ((gCo fk fc (gCols fk fc fl fv rn (gP0 fp rn, fs) cn).1 cn (fv, nI 0) rn).1) fv (nI rn) (nI cn) (nI 1))) ([.ref gm] : List Value).toArray s 0 0 A) (F0 m 28 ls []) := by
    intro n
    induction n with
    | zero =>
      intro i hi H locs hP hD hS ls hl
      refine lv_iload_n hx hb dX1_scan_28 rfl (lv_at hl 0 rfl) ?_
      refine lv_aload_n hx hb dX1_scan_29 rfl (lv_at hl 1 rfl) ?_
      refine va_get (D := (dC, dI)) (ci := 1) (v := .int (nI rn)) (C := RX1) (T := TX1) (N := 10) hx hb hts hin1 hown hK hP 0 rfl rfl 0 (by decide) lk36 (fun _ h9 => h9) rfl dX1_scan_30 ?_
      refine gz_icmp_ge (tgt := 52) (za := ((i : Nat) : Int)) (zb := ((rn : Nat) : Int)) hx hb dX1_scan_33 (by decide) (nI_toInt (by omega)) (nI_toInt (by omega)) (fun c_1 => ?_) (fun c_1 => False.elim (by omega))
      refine lv_iconst (v := nI 0) hx hb dX1_scan_52 (by decide) ?_
      refine lv_istore_n (lv' := [(1, .int (nI 0)), (0, .ref gm)]) hx hb dX1_scan_53 rfl hl (by decide) rfl (fun ls hl => ?_)
      exact loop3 cn 0 (gP0 fp rn, fs) (by omega) (gP0_01 hfp rn) rfl H locs (by rw [show i = rn by omega] at hP; exact hP) (by rw [show i = rn by omega] at hD; exact hD) hS ls (lv_sub hl [0, 1] rfl)
    | succ n ih =>
      intro i hi H locs hP hD hS ls hl
      refine lv_iload_n hx hb dX1_scan_28 rfl (lv_at hl 0 rfl) ?_
      refine lv_aload_n hx hb dX1_scan_29 rfl (lv_at hl 1 rfl) ?_
      refine va_get (D := (dC, dI)) (ci := 1) (v := .int (nI rn)) (C := RX1) (T := TX1) (N := 10) hx hb hts hin1 hown hK hP 0 rfl rfl 0 (by decide) lk36 (fun _ h9 => h9) rfl dX1_scan_30 ?_
      refine gz_icmp_ge (tgt := 52) (za := ((i : Nat) : Int)) (zb := ((rn : Nat) : Int)) hx hb dX1_scan_33 (by decide) (nI_toInt (by omega)) (nI_toInt (by omega)) (fun c_1 => False.elim (by omega)) (fun c_1 => ?_)
      refine lv_aload_n hx hb dX1_scan_36 rfl (lv_at hl 1 rfl) ?_
      refine va_get (D := (dC, dI)) (ci := 1) (v := .ref ap) (C := RX1) (T := TX1) (N := 10) hx hb hts hin1 hown hK hP 0 rfl rfl 8 (by decide) lk29 (fun _ h9 => h9) rfl dX1_scan_37 ?_
      refine lv_bipush (v := nI 13) hx hb dX1_scan_40 (by decide) ?_
      refine lv_iload_n hx hb dX1_scan_42 rfl (lv_at hl 0 rfl) ?_
      refine gz_imulc (i := 13) (j := i) hx hb dX1_scan_43 ?_
      refine lv_iconst (v := nI 1) hx hb dX1_scan_44 (by decide) ?_
      refine gz_zast (k := i * 13) hx hb hK hP hD hS 7 1 rfl rfl gz_nar1 (by omega) (by omega) dX1_scan_45 (fun H locs hP hD hS => ?_)
      have hP : va_P (dC, dI) vwCl (mw cA cZ gm ak ac ab al av ah ap fk fc fs fl (upd (gP0 fp i) (i * 13) (nI 1)) fv fv (nI rn) (nI cn) sc) H := hP
      have hD : va_D A (mw cA cZ gm ak ac ab al av ah ap fk fc fs fl (upd (gP0 fp i) (i * 13) (nI 1)) fv fv (nI rn) (nI cn) sc) := hD
      refine lv_iinc (v := nI (i + 1)) (lv' := [(1, .int (nI (i + 1))), (0, .ref gm)]) hx hb dX1_scan_46 hl (k := 0) rfl (nI_1 _) (by decide) rfl (fun ls hl => ?_)
      refine lv_goto (tgt := 28) hx hb dX1_scan_49 (by decide) ?_
      exact ih (i + 1) (by omega) H locs hP hD hS ls (lv_sub hl [0, 1] rfl)
  have loop1 : ∀ (n : Nat) (k : Nat), k + n = 40 → ∀ (H : Heap) (locs : List Loc), va_P (dC, dI) vwCl (mw cA cZ gm ak ac ab al av ah ap fk fc fs fl fp fv (gCopy ft fv k) (nI rn) (nI cn) sc) H → va_D A (mw cA cZ gm ak ac ab al av ah ap fk fc fs fl fp fv (gCopy ft fv k) (nI rn) (nI cn) sc) → va_S A s.heap H locs → ∀ (ls : Array Slot), lv_has ls 4 [(1, .int (nI k)), (0, .ref gm)] → W p l e (headSpec wsX1_scan ({ frames := 1, cells := 0, slots := 0, locals := 26 })).room s m ([.ref gm] : List Value).toArray below meth c H locs 0 0 (MQ below (gQA (dC, dI) vwCl [(cA, .int), (cZ, .boolean)] ((gCo fk fc (gCols fk fc fl fv rn (gP0 fp rn, fs) cn).1 cn (fv, nI 0) rn).2) A (mw cA cZ gm ak ac ab al av ah ap fk fc ((gCols fk fc fl fv rn (gP0 fp rn, fs) cn).2) fl ((gCols fk fc fl fv rn (gP0 fp rn, fs) cn).1) ((gCo fk fc (gCols fk fc fl fv rn (gP0 fp rn, fs) cn).1 cn (fv, nI 0) rn).1) fv (nI rn) (nI cn) (nI 1))) ([.ref gm] : List Value).toArray s 0 0 A) (F0 m 2 ls []) := by
    intro n
    induction n with
    | zero =>
      intro k hk H locs hP hD hS ls hl
      refine lv_iload_n hx hb dX1_scan_2 rfl (lv_at hl 0 rfl) ?_
      refine lv_bipush (v := nI 40) hx hb dX1_scan_3 (by decide) ?_
      refine gz_icmp_ge (tgt := 26) (za := ((k : Nat) : Int)) (zb := ((40 : Nat) : Int)) hx hb dX1_scan_5 (by decide) (nI_toInt (by omega)) (nI_toInt (by omega)) (fun c_1 => ?_) (fun c_1 => False.elim (by omega))
      have hP : va_P (dC, dI) vwCl (mw cA cZ gm ak ac ab al av ah ap fk fc fs fl fp fv fv (nI rn) (nI cn) sc) H := gz_setext hP 6 rfl (fun j hj => gCopy_in ft fv k j (by omega))
      have hD : va_D A (mw cA cZ gm ak ac ab al av ah ap fk fc fs fl fp fv fv (nI rn) (nI cn) sc) := va_D.set (p := 6) hD rfl
      refine lv_iconst (v := nI 0) hx hb dX1_scan_26 (by decide) ?_
      refine lv_istore_n (lv' := [(1, .int (nI 0)), (0, .ref gm)]) hx hb dX1_scan_27 rfl hl (by decide) rfl (fun ls hl => ?_)
      exact loop2 rn 0 (by omega) H locs hP hD hS ls (lv_sub hl [0, 1] rfl)
    | succ n ih =>
      intro k hk H locs hP hD hS ls hl
      refine lv_iload_n hx hb dX1_scan_2 rfl (lv_at hl 0 rfl) ?_
      refine lv_bipush (v := nI 40) hx hb dX1_scan_3 (by decide) ?_
      refine gz_icmp_ge (tgt := 26) (za := ((k : Nat) : Int)) (zb := ((40 : Nat) : Int)) hx hb dX1_scan_5 (by decide) (nI_toInt (by omega)) (nI_toInt (by omega)) (fun c_1 => False.elim (by omega)) (fun c_1 => ?_)
      refine lv_aload_n hx hb dX1_scan_8 rfl (lv_at hl 1 rfl) ?_
      refine va_get (D := (dC, dI)) (ci := 1) (v := .ref ah) (C := RX1) (T := TX1) (N := 10) hx hb hts hin1 hown hK hP 0 rfl rfl 7 (by decide) lk26 (fun _ h9 => h9) rfl dX1_scan_9 ?_
      refine lv_iload_n hx hb dX1_scan_12 rfl (lv_at hl 0 rfl) ?_
      refine lv_aload_n hx hb dX1_scan_13 rfl (lv_at hl 1 rfl) ?_
      refine va_get (D := (dC, dI)) (ci := 1) (v := .ref av) (C := RX1) (T := TX1) (N := 10) hx hb hts hin1 hown hK hP 0 rfl rfl 6 (by decide) lk23 (fun _ h9 => h9) rfl dX1_scan_14 ?_
      refine lv_iload_n hx hb dX1_scan_17 rfl (lv_at hl 0 rfl) ?_
      refine gz_iald (k := k) hx hb hK hP 5 0 rfl rfl (by omega) (by omega) dX1_scan_18 ?_
      refine gz_iast (k := k) hx hb hK hP hD hS 6 0 rfl rfl (by omega) (by omega) dX1_scan_19 (fun H locs hP hD hS => ?_)
      have hP : va_P (dC, dI) vwCl (mw cA cZ gm ak ac ab al av ah ap fk fc fs fl fp fv (upd (gCopy ft fv k) k (fv k)) (nI rn) (nI cn) sc) H := hP
      have hD : va_D A (mw cA cZ gm ak ac ab al av ah ap fk fc fs fl fp fv (upd (gCopy ft fv k) k (fv k)) (nI rn) (nI cn) sc) := hD
      refine lv_iinc (v := nI (k + 1)) (lv' := [(1, .int (nI (k + 1))), (0, .ref gm)]) hx hb dX1_scan_20 hl (k := 0) rfl (nI_1 _) (by decide) rfl (fun ls hl => ?_)
      refine lv_goto (tgt := 2) hx hb dX1_scan_23 (by decide) ?_
      exact ih (k + 1) (by omega) H locs hP hD hS ls (lv_sub hl [0, 1] rfl)
  refine lv_iconst (v := nI 0) hx hb dX1_scan_0 (by decide) ?_
  refine lv_istore_n (lv' := [(1, .int (nI 0)), (0, .ref gm)]) hx hb dX1_scan_1 rfl hl (by decide) rfl (fun ls hl => ?_)
  exact loop1 40 0 (by omega) H locs hP hD hS ls (lv_sub hl [0, 1] rfl)
