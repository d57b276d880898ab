set_option maxHeartbeats 4000000 in
set_option maxRecDepth 100000 in
theorem cM_lets (l : Launch) (dC : Nat → ClassId) (dI : Nat → Nat → Nat) (cA cZ : ClassId) (gm ak ac ab al av ah ap : Nat) (fk fc fs fl fp fv ft : Nat → Int32) (rn cn : Nat) (sc : Int32) (k : Nat) (hrn : 1 ≤ rn ∧ rn ≤ 12) (hcn : 1 ≤ cn ∧ cn ≤ 12) (hk : k < 144) (hcI : ∀ k, k < 144 → vp_in (fc k) 40) : Met l yX1_lets wsX1_lets ({ frames := 0, cells := 0, slots := 0, locals := 0 }) (gPr (dC, dI) vwCl [(cA, .int), (cZ, .boolean)] [.ref gm, .int (nI k)] (mw cA cZ gm ak ac ab al av ah ap fk fc fs fl fp fv ft (nI rn) (nI cn) sc)) (QcRead (gLets (fk k) (ft (fc k).toNatClampNeg) (fs k))) 0 0 (fun _ => False) := by
  refine Met.ofW (cc := cX1_lets) (maxL := 3) (ret := (some .boolean)) (by decide) rfl ?_
  intro p e s m args below meth c s₁ B hml hv
  obtain ⟨rfl, hP, hK⟩ := hv
  have hx := B.exec
  have hb := B.bytes
  have hr := B.returns
  have hts := atoms_spec (ws := wsX1_lets) B.pre
  have hown : s.vm.findClass RX1 = some m.cls := findClass_of_methodNamed B.named
  have hlocks := B.notSynchronized
  have hin1 : ∀ w ∈ u_ws RX1 TX1 10, w ∈ wsX1_lets := by decide +kernel
  have lk26 := hts (.fieldLink RX1 26 "LadderGridModel" "then" "[I") (by decide +kernel)
  have lk13 := hts (.fieldLink RX1 13 "LadderGridModel" "variables" "[I") (by decide +kernel)
  have lk7 := hts (.fieldLink RX1 7 "LadderGridModel" "kinds" "[I") (by decide +kernel)
  have lk16 := hts (.fieldLink RX1 16 "LadderGridModel" "before" "[I") (by decide +kernel)
  have hl := lv_entry ([.ref gm, .int (nI k)]) (n := 3) (Nat.le_of_ble_eq_true rfl)
  rw [lg_entry_eq]
  generalize (lg_sl ([.ref gm, .int (nI k)]) ++ List.replicate (3 - (lg_sl ([.ref gm, .int (nI k)])).length) Slot.unset).toArray = ls at hl ⊢
  have hl : lv_has ls 3 [(0, .ref gm), (1, .int (nI k))] := hl
  have hci : vp_in (fc k) 40 := hcI k hk
  by_cases hk1 : fk k = nI 1
  · skip
    refine lv_aload_n hx hb dX1_lets_0 rfl (lv_at hl 0 rfl) ?_
    refine va_get (D := (dC, dI)) (ci := 1) (v := .ref ah) (C := RX1) (T := TX1) (N := 10) hx hb hts hin1 hown hK hP 0 rfl rfl 7 (by decide) lk26 (fun _ h9 => h9) rfl dX1_lets_1 ?_
    refine lv_aload_n hx hb dX1_lets_4 rfl (lv_at hl 0 rfl) ?_
    refine va_get (D := (dC, dI)) (ci := 1) (v := .ref ac) (C := RX1) (T := TX1) (N := 10) hx hb hts hin1 hown hK hP 0 rfl rfl 3 (by decide) lk13 (fun _ h9 => h9) rfl dX1_lets_5 ?_
    refine lv_iload_n hx hb dX1_lets_8 rfl (lv_at hl 1 rfl) ?_
    refine gz_iald (k := k) hx hb hK hP 2 0 rfl rfl (by omega) (by omega) dX1_lets_9 ?_
    refine va_iald hx hb hK hP 6 0 rfl rfl hci dX1_lets_10 ?_
    refine lv_istore_n (lv' := [(2, .int (ft (fc k).toNatClampNeg)), (0, .ref gm), (1, .int (nI k))]) hx hb dX1_lets_11 rfl hl (by decide) rfl (fun ls hl => ?_)
    refine lv_aload_n hx hb dX1_lets_12 rfl (lv_at hl 1 rfl) ?_
    refine va_get (D := (dC, dI)) (ci := 1) (v := .ref ak) (C := RX1) (T := TX1) (N := 10) hx hb hts hin1 hown hK hP 0 rfl rfl 2 (by decide) lk7 (fun _ h9 => h9) rfl dX1_lets_13 ?_
    refine lv_iload_n hx hb dX1_lets_16 rfl (lv_at hl 2 rfl) ?_
    refine gz_iald (k := k) hx hb hK hP 1 0 rfl rfl (by omega) (by omega) dX1_lets_17 ?_
    refine gz_topI (y := nI 1) hk1 ?_
    refine lv_tableIn (tgt := 52) hx hb dX1_lets_18 (by decide) (by decide) rfl (by decide) ?_
    refine lv_iconst (v := nI 1) hx hb dX1_lets_52 (by decide) ?_
    exact W.zret (v := nI 1) hx hb hr rfl (fun t ht hW => ⟨(by unfold gLets; rw [if_pos hk1]; try (first | rfl | (rw [if_pos (by assumption)]; done) | (rw [if_neg (by assumption)]; done) | (rw [if_pos (by assumption), if_pos (by assumption)]; done) | (rw [if_pos (by assumption), if_neg (by assumption)]; done))), ht⟩) (fun q h => absurd h List.not_mem_nil) dX1_lets_53
  by_cases hk2 : fk k = nI 2
  · skip
    refine lv_aload_n hx hb dX1_lets_0 rfl (lv_at hl 0 rfl) ?_
    refine va_get (D := (dC, dI)) (ci := 1) (v := .ref ah) (C := RX1) (T := TX1) (N := 10) hx hb hts hin1 hown hK hP 0 rfl rfl 7 (by decide) lk26 (fun _ h9 => h9) rfl dX1_lets_1 ?_
    refine lv_aload_n hx hb dX1_lets_4 rfl (lv_at hl 0 rfl) ?_
    refine va_get (D := (dC, dI)) (ci := 1) (v := .ref ac) (C := RX1) (T := TX1) (N := 10) hx hb hts hin1 hown hK hP 0 rfl rfl 3 (by decide) lk13 (fun _ h9 => h9) rfl dX1_lets_5 ?_
    refine lv_iload_n hx hb dX1_lets_8 rfl (lv_at hl 1 rfl) ?_
    refine gz_iald (k := k) hx hb hK hP 2 0 rfl rfl (by omega) (by omega) dX1_lets_9 ?_
    refine va_iald hx hb hK hP 6 0 rfl rfl hci dX1_lets_10 ?_
    refine lv_istore_n (lv' := [(2, .int (ft (fc k).toNatClampNeg)), (0, .ref gm), (1, .int (nI k))]) hx hb dX1_lets_11 rfl hl (by decide) rfl (fun ls hl => ?_)
    refine lv_aload_n hx hb dX1_lets_12 rfl (lv_at hl 1 rfl) ?_
    refine va_get (D := (dC, dI)) (ci := 1) (v := .ref ak) (C := RX1) (T := TX1) (N := 10) hx hb hts hin1 hown hK hP 0 rfl rfl 2 (by decide) lk7 (fun _ h9 => h9) rfl dX1_lets_13 ?_
    refine lv_iload_n hx hb dX1_lets_16 rfl (lv_at hl 2 rfl) ?_
    refine gz_iald (k := k) hx hb hK hP 1 0 rfl rfl (by omega) (by omega) dX1_lets_17 ?_
    refine gz_topI (y := nI 2) hk2 ?_
    refine lv_tableIn (tgt := 54) hx hb dX1_lets_18 (by decide) (by decide) rfl (by decide) ?_
    refine lv_iload_n hx hb dX1_lets_54 rfl (lv_at hl 0 rfl) ?_
    refine lv_iconst (v := nI 1) hx hb dX1_lets_55 (by decide) ?_
    refine lv_icmp_ne (tgt := 63) hx hb dX1_lets_56 (by decide) (fun c_1 => ?_) (fun c_1 => ?_)
    · skip
      refine lv_iconst (v := nI 0) hx hb dX1_lets_63 (by decide) ?_
      exact W.zret (v := nI 0) hx hb hr rfl (fun t ht hW => ⟨(by unfold gLets; rw [if_neg hk1, if_pos hk2]; try (first | rfl | (rw [if_pos (by assumption)]; done) | (rw [if_neg (by assumption)]; done) | (rw [if_pos (by assumption), if_pos (by assumption)]; done) | (rw [if_pos (by assumption), if_neg (by assumption)]; done))), ht⟩) (fun q h => absurd h List.not_mem_nil) dX1_lets_64
    · skip
      refine lv_iconst (v := nI 1) hx hb dX1_lets_59 (by decide) ?_
      refine lv_goto (tgt := 64) hx hb dX1_lets_60 (by decide) ?_
      exact W.zret (v := nI 1) hx hb hr rfl (fun t ht hW => ⟨(by unfold gLets; rw [if_neg hk1, if_pos hk2]; try (first | rfl | (rw [if_pos (by assumption)]; done) | (rw [if_neg (by assumption)]; done) | (rw [if_pos (by assumption), if_pos (by assumption)]; done) | (rw [if_pos (by assumption), if_neg (by assumption)]; done))), ht⟩) (fun q h => absurd h List.not_mem_nil) dX1_lets_64
  by_cases hk3 : fk k = nI 3
  · skip
    refine lv_aload_n hx hb dX1_lets_0 rfl (lv_at hl 0 rfl) ?_
    refine va_get (D := (dC, dI)) (ci := 1) (v := .ref ah) (C := RX1) (T := TX1) (N := 10) hx hb hts hin1 hown hK hP 0 rfl rfl 7 (by decide) lk26 (fun _ h9 => h9) rfl dX1_lets_1 ?_
    refine lv_aload_n hx hb dX1_lets_4 rfl (lv_at hl 0 rfl) ?_
    refine va_get (D := (dC, dI)) (ci := 1) (v := .ref ac) (C := RX1) (T := TX1) (N := 10) hx hb hts hin1 hown hK hP 0 rfl rfl 3 (by decide) lk13 (fun _ h9 => h9) rfl dX1_lets_5 ?_
    refine lv_iload_n hx hb dX1_lets_8 rfl (lv_at hl 1 rfl) ?_
    refine gz_iald (k := k) hx hb hK hP 2 0 rfl rfl (by omega) (by omega) dX1_lets_9 ?_
    refine va_iald hx hb hK hP 6 0 rfl rfl hci dX1_lets_10 ?_
    refine lv_istore_n (lv' := [(2, .int (ft (fc k).toNatClampNeg)), (0, .ref gm), (1, .int (nI k))]) hx hb dX1_lets_11 rfl hl (by decide) rfl (fun ls hl => ?_)
    refine lv_aload_n hx hb dX1_lets_12 rfl (lv_at hl 1 rfl) ?_
    refine va_get (D := (dC, dI)) (ci := 1) (v := .ref ak) (C := RX1) (T := TX1) (N := 10) hx hb hts hin1 hown hK hP 0 rfl rfl 2 (by decide) lk7 (fun _ h9 => h9) rfl dX1_lets_13 ?_
    refine lv_iload_n hx hb dX1_lets_16 rfl (lv_at hl 2 rfl) ?_
    refine gz_iald (k := k) hx hb hK hP 1 0 rfl rfl (by omega) (by omega) dX1_lets_17 ?_
    refine gz_topI (y := nI 3) hk3 ?_
    refine lv_tableIn (tgt := 65) hx hb dX1_lets_18 (by decide) (by decide) rfl (by decide) ?_
    refine lv_iload_n hx hb dX1_lets_65 rfl (lv_at hl 0 rfl) ?_
    refine lv_if_ne (tgt := 73) hx hb dX1_lets_66 (by decide) (fun c_1 => ?_) (fun c_1 => ?_)
    · skip
      refine lv_iconst (v := nI 0) hx hb dX1_lets_73 (by decide) ?_
      exact W.zret (v := nI 0) hx hb hr rfl (fun t ht hW => ⟨(by unfold gLets; rw [if_neg hk1, if_neg hk2, if_pos hk3]; try (first | rfl | (rw [if_pos (by assumption)]; done) | (rw [if_neg (by assumption)]; done) | (rw [if_pos (by assumption), if_pos (by assumption)]; done) | (rw [if_pos (by assumption), if_neg (by assumption)]; done))), ht⟩) (fun q h => absurd h List.not_mem_nil) dX1_lets_74
    · skip
      refine lv_iconst (v := nI 1) hx hb dX1_lets_69 (by decide) ?_
      refine lv_goto (tgt := 74) hx hb dX1_lets_70 (by decide) ?_
      exact W.zret (v := nI 1) hx hb hr rfl (fun t ht hW => ⟨(by unfold gLets; rw [if_neg hk1, if_neg hk2, if_pos hk3]; try (first | rfl | (rw [if_pos (by assumption)]; done) | (rw [if_neg (by assumption)]; done) | (rw [if_pos (by assumption), if_pos (by assumption)]; done) | (rw [if_pos (by assumption), if_neg (by assumption)]; done))), ht⟩) (fun q h => absurd h List.not_mem_nil) dX1_lets_74
  by_cases hk4 : fk k = nI 4
  · skip
    refine lv_aload_n hx hb dX1_lets_0 rfl (lv_at hl 0 rfl) ?_
    refine va_get (D := (dC, dI)) (ci := 1) (v := .ref ah) (C := RX1) (T := TX1) (N := 10) hx hb hts hin1 hown hK hP 0 rfl rfl 7 (by decide) lk26 (fun _ h9 => h9) rfl dX1_lets_1 ?_
    refine lv_aload_n hx hb dX1_lets_4 rfl (lv_at hl 0 rfl) ?_
    refine va_get (D := (dC, dI)) (ci := 1) (v := .ref ac) (C := RX1) (T := TX1) (N := 10) hx hb hts hin1 hown hK hP 0 rfl rfl 3 (by decide) lk13 (fun _ h9 => h9) rfl dX1_lets_5 ?_
    refine lv_iload_n hx hb dX1_lets_8 rfl (lv_at hl 1 rfl) ?_
    refine gz_iald (k := k) hx hb hK hP 2 0 rfl rfl (by omega) (by omega) dX1_lets_9 ?_
    refine va_iald hx hb hK hP 6 0 rfl rfl hci dX1_lets_10 ?_
    refine lv_istore_n (lv' := [(2, .int (ft (fc k).toNatClampNeg)), (0, .ref gm), (1, .int (nI k))]) hx hb dX1_lets_11 rfl hl (by decide) rfl (fun ls hl => ?_)
    refine lv_aload_n hx hb dX1_lets_12 rfl (lv_at hl 1 rfl) ?_
    refine va_get (D := (dC, dI)) (ci := 1) (v := .ref ak) (C := RX1) (T := TX1) (N := 10) hx hb hts hin1 hown hK hP 0 rfl rfl 2 (by decide) lk7 (fun _ h9 => h9) rfl dX1_lets_13 ?_
    refine lv_iload_n hx hb dX1_lets_16 rfl (lv_at hl 2 rfl) ?_
    refine gz_iald (k := k) hx hb hK hP 1 0 rfl rfl (by omega) (by omega) dX1_lets_17 ?_
    refine gz_topI (y := nI 4) hk4 ?_
    refine lv_tableIn (tgt := 75) hx hb dX1_lets_18 (by decide) (by decide) rfl (by decide) ?_
    refine lv_iload_n hx hb dX1_lets_75 rfl (lv_at hl 0 rfl) ?_
    refine lv_iconst (v := nI 1) hx hb dX1_lets_76 (by decide) ?_
    refine lv_icmp_ne (tgt := 93) hx hb dX1_lets_77 (by decide) (fun c_1 => ?_) (fun c_1 => ?_)
    · skip
      refine lv_iconst (v := nI 0) hx hb dX1_lets_93 (by decide) ?_
      exact W.zret (v := nI 0) hx hb hr rfl (fun t ht hW => ⟨(by unfold gLets; rw [if_neg hk1, if_neg hk2, if_neg hk3, if_pos hk4]; try (first | rfl | (rw [if_pos (by assumption)]; done) | (rw [if_neg (by assumption)]; done) | (rw [if_pos (by assumption), if_pos (by assumption)]; done) | (rw [if_pos (by assumption), if_neg (by assumption)]; done))), ht⟩) (fun q h => absurd h List.not_mem_nil) dX1_lets_94
    · skip
      refine lv_aload_n hx hb dX1_lets_80 rfl (lv_at hl 1 rfl) ?_
      refine va_get (D := (dC, dI)) (ci := 1) (v := .ref ab) (C := RX1) (T := TX1) (N := 10) hx hb hts hin1 hown hK hP 0 rfl rfl 4 (by decide) lk16 (fun _ h9 => h9) rfl dX1_lets_81 ?_
      refine lv_iload_n hx hb dX1_lets_84 rfl (lv_at hl 2 rfl) ?_
      refine gz_iald (k := k) hx hb hK hP 3 0 rfl rfl (by omega) (by omega) dX1_lets_85 ?_
      refine lv_if_ne (tgt := 93) hx hb dX1_lets_86 (by decide) (fun c_2 => ?_) (fun c_2 => ?_)
      · skip
        refine lv_iconst (v := nI 0) hx hb dX1_lets_93 (by decide) ?_
        exact W.zret (v := nI 0) hx hb hr rfl (fun t ht hW => ⟨(by unfold gLets; rw [if_neg hk1, if_neg hk2, if_neg hk3, if_pos hk4]; try (first | rfl | (rw [if_pos (by assumption)]; done) | (rw [if_neg (by assumption)]; done) | (rw [if_pos (by assumption), if_pos (by assumption)]; done) | (rw [if_pos (by assumption), if_neg (by assumption)]; done))), ht⟩) (fun q h => absurd h List.not_mem_nil) dX1_lets_94
      · skip
        refine lv_iconst (v := nI 1) hx hb dX1_lets_89 (by decide) ?_
        refine lv_goto (tgt := 94) hx hb dX1_lets_90 (by decide) ?_
        exact W.zret (v := nI 1) hx hb hr rfl (fun t ht hW => ⟨(by unfold gLets; rw [if_neg hk1, if_neg hk2, if_neg hk3, if_pos hk4]; try (first | rfl | (rw [if_pos (by assumption)]; done) | (rw [if_neg (by assumption)]; done) | (rw [if_pos (by assumption), if_pos (by assumption)]; done) | (rw [if_pos (by assumption), if_neg (by assumption)]; done))), ht⟩) (fun q h => absurd h List.not_mem_nil) dX1_lets_94
  by_cases hk5 : fk k = nI 5
  · skip
    refine lv_aload_n hx hb dX1_lets_0 rfl (lv_at hl 0 rfl) ?_
    refine va_get (D := (dC, dI)) (ci := 1) (v := .ref ah) (C := RX1) (T := TX1) (N := 10) hx hb hts hin1 hown hK hP 0 rfl rfl 7 (by decide) lk26 (fun _ h9 => h9) rfl dX1_lets_1 ?_
    refine lv_aload_n hx hb dX1_lets_4 rfl (lv_at hl 0 rfl) ?_
    refine va_get (D := (dC, dI)) (ci := 1) (v := .ref ac) (C := RX1) (T := TX1) (N := 10) hx hb hts hin1 hown hK hP 0 rfl rfl 3 (by decide) lk13 (fun _ h9 => h9) rfl dX1_lets_5 ?_
    refine lv_iload_n hx hb dX1_lets_8 rfl (lv_at hl 1 rfl) ?_
    refine gz_iald (k := k) hx hb hK hP 2 0 rfl rfl (by omega) (by omega) dX1_lets_9 ?_
    refine va_iald hx hb hK hP 6 0 rfl rfl hci dX1_lets_10 ?_
    refine lv_istore_n (lv' := [(2, .int (ft (fc k).toNatClampNeg)), (0, .ref gm), (1, .int (nI k))]) hx hb dX1_lets_11 rfl hl (by decide) rfl (fun ls hl => ?_)
    refine lv_aload_n hx hb dX1_lets_12 rfl (lv_at hl 1 rfl) ?_
    refine va_get (D := (dC, dI)) (ci := 1) (v := .ref ak) (C := RX1) (T := TX1) (N := 10) hx hb hts hin1 hown hK hP 0 rfl rfl 2 (by decide) lk7 (fun _ h9 => h9) rfl dX1_lets_13 ?_
    refine lv_iload_n hx hb dX1_lets_16 rfl (lv_at hl 2 rfl) ?_
    refine gz_iald (k := k) hx hb hK hP 1 0 rfl rfl (by omega) (by omega) dX1_lets_17 ?_
    refine gz_topI (y := nI 5) hk5 ?_
    refine lv_tableIn (tgt := 95) hx hb dX1_lets_18 (by decide) (by decide) rfl (by decide) ?_
    refine lv_iload_n hx hb dX1_lets_95 rfl (lv_at hl 0 rfl) ?_
    refine lv_if_ne (tgt := 113) hx hb dX1_lets_96 (by decide) (fun c_1 => ?_) (fun c_1 => ?_)
    · skip
      refine lv_iconst (v := nI 0) hx hb dX1_lets_113 (by decide) ?_
      exact W.zret (v := nI 0) hx hb hr rfl (fun t ht hW => ⟨(by unfold gLets; rw [if_neg hk1, if_neg hk2, if_neg hk3, if_neg hk4, if_pos hk5]; try (first | rfl | (rw [if_pos (by assumption)]; done) | (rw [if_neg (by assumption)]; done) | (rw [if_pos (by assumption), if_pos (by assumption)]; done) | (rw [if_pos (by assumption), if_neg (by assumption)]; done))), ht⟩) (fun q h => absurd h List.not_mem_nil) dX1_lets_114
    · skip
      refine lv_aload_n hx hb dX1_lets_99 rfl (lv_at hl 1 rfl) ?_
      refine va_get (D := (dC, dI)) (ci := 1) (v := .ref ab) (C := RX1) (T := TX1) (N := 10) hx hb hts hin1 hown hK hP 0 rfl rfl 4 (by decide) lk16 (fun _ h9 => h9) rfl dX1_lets_100 ?_
      refine lv_iload_n hx hb dX1_lets_103 rfl (lv_at hl 2 rfl) ?_
      refine gz_iald (k := k) hx hb hK hP 3 0 rfl rfl (by omega) (by omega) dX1_lets_104 ?_
      refine lv_iconst (v := nI 1) hx hb dX1_lets_105 (by decide) ?_
      refine lv_icmp_ne (tgt := 113) hx hb dX1_lets_106 (by decide) (fun c_2 => ?_) (fun c_2 => ?_)
      · skip
        refine lv_iconst (v := nI 0) hx hb dX1_lets_113 (by decide) ?_
        exact W.zret (v := nI 0) hx hb hr rfl (fun t ht hW => ⟨(by unfold gLets; rw [if_neg hk1, if_neg hk2, if_neg hk3, if_neg hk4, if_pos hk5]; try (first | rfl | (rw [if_pos (by assumption)]; done) | (rw [if_neg (by assumption)]; done) | (rw [if_pos (by assumption), if_pos (by assumption)]; done) | (rw [if_pos (by assumption), if_neg (by assumption)]; done))), ht⟩) (fun q h => absurd h List.not_mem_nil) dX1_lets_114
      · skip
        refine lv_iconst (v := nI 1) hx hb dX1_lets_109 (by decide) ?_
        refine lv_goto (tgt := 114) hx hb dX1_lets_110 (by decide) ?_
        exact W.zret (v := nI 1) hx hb hr rfl (fun t ht hW => ⟨(by unfold gLets; rw [if_neg hk1, if_neg hk2, if_neg hk3, if_neg hk4, if_pos hk5]; try (first | rfl | (rw [if_pos (by assumption)]; done) | (rw [if_neg (by assumption)]; done) | (rw [if_pos (by assumption), if_pos (by assumption)]; done) | (rw [if_pos (by assumption), if_neg (by assumption)]; done))), ht⟩) (fun q h => absurd h List.not_mem_nil) dX1_lets_114
  refine lv_aload_n hx hb dX1_lets_0 rfl (lv_at hl 0 rfl) ?_
  refine va_get (D := (dC, dI)) (ci := 1) (v := .ref ah) (C := RX1) (T := TX1) (N := 10) hx hb hts hin1 hown hK hP 0 rfl rfl 7 (by decide) lk26 (fun _ h9 => h9) rfl dX1_lets_1 ?_
  refine lv_aload_n hx hb dX1_lets_4 rfl (lv_at hl 0 rfl) ?_
  refine va_get (D := (dC, dI)) (ci := 1) (v := .ref ac) (C := RX1) (T := TX1) (N := 10) hx hb hts hin1 hown hK hP 0 rfl rfl 3 (by decide) lk13 (fun _ h9 => h9) rfl dX1_lets_5 ?_
  refine lv_iload_n hx hb dX1_lets_8 rfl (lv_at hl 1 rfl) ?_
  refine gz_iald (k := k) hx hb hK hP 2 0 rfl rfl (by omega) (by omega) dX1_lets_9 ?_
  refine va_iald hx hb hK hP 6 0 rfl rfl hci dX1_lets_10 ?_
  refine lv_istore_n (lv' := [(2, .int (ft (fc k).toNatClampNeg)), (0, .ref gm), (1, .int (nI k))]) hx hb dX1_lets_11 rfl hl (by decide) rfl (fun ls hl => ?_)
  refine lv_aload_n hx hb dX1_lets_12 rfl (lv_at hl 1 rfl) ?_
  refine va_get (D := (dC, dI)) (ci := 1) (v := .ref ak) (C := RX1) (T := TX1) (N := 10) hx hb hts hin1 hown hK hP 0 rfl rfl 2 (by decide) lk7 (fun _ h9 => h9) rfl dX1_lets_13 ?_
  refine lv_iload_n hx hb dX1_lets_16 rfl (lv_at hl 2 rfl) ?_
  refine gz_iald (k := k) hx hb hK hP 1 0 rfl rfl (by omega) (by omega) dX1_lets_17 ?_
  have hout : (fk k).toInt < 1 ∨ 5 < (fk k).toInt := by
    have t1 : ¬ (fk k).toInt = 1 := lv_neT hk1 (by decide)
    have t2 : ¬ (fk k).toInt = 2 := lv_neT hk2 (by decide)
    have t3 : ¬ (fk k).toInt = 3 := lv_neT hk3 (by decide)
    have t4 : ¬ (fk k).toInt = 4 := lv_neT hk4 (by decide)
    have t5 : ¬ (fk k).toInt = 5 := lv_neT hk5 (by decide)
    omega
  refine lv_tableOut (tgt := 115) hx hb dX1_lets_18 hout (by decide) ?_
  refine lv_iconst (v := nI 0) hx hb dX1_lets_115 (by decide) ?_
  exact W.zret (v := nI 0) hx hb hr rfl (fun t ht hW => ⟨(by unfold gLets; rw [if_neg hk1, if_neg hk2, if_neg hk3, if_neg hk4, if_neg hk5]), ht⟩) (fun q h => absurd h List.not_mem_nil) dX1_lets_116
set_option maxHeartbeats 4000000 in
set_option maxRecDepth 100000 in
theorem cM_spread (l : Launch) (dC : Nat → ClassId) (dI : Nat → Nat → Nat) (sz : Nat) (cA cZ : ClassId) (gm ak ac ab al av ah ap : Nat) (fk fc fs fl fp fv ft : Nat → Int32) (rn cn : Nat) (sc : Int32) (ln : Nat) (hrn : 1 ≤ rn ∧ rn ≤ 12) (hcn : 1 ≤ cn ∧ cn ≤ 12) (hln : ln ≤ cn) (hfl : g01 156 fl) (hfp : g01 156 fp) : Met l yX1_spread wsX1_spread ({ frames := 0, cells := 0, slots := 0, locals := 0 }) (gPw (dC, dI) vwCl [(cA, .int), (cZ, .boolean)] [.ref gm, .int (nI ln)] sz (mw cA cZ gm ak ac ab al av ah ap fk fc fs fl fp fv ft (nI rn) (nI cn) sc)) (gVA (dC, dI) vwCl [(cA, .int), (cZ, .boolean)] (va_A (mw cA cZ gm ak ac ab al av ah ap fk fc fs fl fp fv ft (nI rn) (nI cn) sc) sz) (mw cA cZ gm ak ac ab al av ah ap fk fc fs fl (gSh fl ln rn fp) fv ft (nI rn) (nI cn) sc)) 0 0 (va_A (mw cA cZ gm ak ac ab al av ah ap fk fc fs fl fp fv ft (nI rn) (nI cn) sc) sz) := by
  refine Met.ofW (cc := cX1_spread) (maxL := 3) (ret := none) (by decide) rfl ?_
  intro p e s m args below meth c s₁ B hml hv
  obtain ⟨rfl, hsz, hP, hK, hD0⟩ := hv
  have hx := B.exec
  have hb := B.bytes
  have hr := B.returns
  have hts := atoms_spec (ws := wsX1_spread) B.pre
  have hown : s.vm.findClass RX1 = some m.cls := findClass_of_methodNamed B.named
  have hlocks := B.notSynchronized
  subst hsz
  have hD := hD0.self (sz := s.heap.size)
  generalize hAe : va_A (mw cA cZ gm ak ac ab al av ah ap fk fc fs fl fp fv ft (nI rn) (nI cn) sc) s.heap.size = A at hD ⊢
  have hA : ∀ q : Nat, s.heap.size ≤ q → A q := fun q h => by rw [← hAe]; exact Or.inr h
  have hS : va_S A s.heap s.heap [] := va_S.rf
  have hin1 : ∀ w ∈ u_ws RX1 TX1 10, w ∈ wsX1_spread := by decide +kernel
  have lk36 := hts (.fieldLink RX1 36 "LadderGridModel" "rows" "I") (by decide +kernel)
  have lk19 := hts (.fieldLink RX1 19 "LadderGridModel" "isLinked" "[Z") (by decide +kernel)
  have lk29 := hts (.fieldLink RX1 29 "LadderGridModel" "hasPower" "[Z") (by decide +kernel)
  have hl := lv_entry ([.ref gm, .int (nI ln)]) (n := 3) (Nat.le_of_ble_eq_true rfl)
  rw [lg_entry_eq]
  generalize (lg_sl ([.ref gm, .int (nI ln)]) ++ List.replicate (3 - (lg_sl ([.ref gm, .int (nI ln)])).length) Slot.unset).toArray = ls at hl ⊢
  have hl : lv_has ls 3 [(0, .ref gm), (1, .int (nI ln))] := hl
  suffices key : ∀ (H : Heap) (locs : List Loc), va_P (dC, dI) vwCl (mw cA cZ gm ak ac ab al av ah ap fk fc fs fl fp fv ft (nI rn) (nI cn) sc) H → va_D A (mw cA cZ gm ak ac ab al av ah ap fk fc fs fl fp fv ft (nI rn) (nI cn) sc) → va_S A s.heap H locs → W p l e (headSpec wsX1_spread ({ frames := 0, cells := 0, slots := 0, locals := 0 })).room s m ([.ref gm, .int (nI ln)] : List Value).toArray below meth c H locs 0 0 (MQ below (gVA (dC, dI) vwCl [(cA, .int), (cZ, .boolean)] A (mw cA cZ gm ak ac ab al av ah ap fk fc fs fl (gSh fl ln rn fp) fv ft (nI rn) (nI cn) sc)) ([.ref gm, .int (nI ln)] : List Value).toArray s 0 0 A) (F0 m 0 ls []) from key s.heap [] hP hD hS
  clear hP hD hS
  intro H locs hP hD hS
  have loop2 : ∀ (n : Nat) (g : Nat → Int32), n + 1 ≤ rn → g01 156 g → gUp fl ln (rn - 1) (gDn fl ln fp (rn - 1)) = gUp fl ln n g → ∀ (H : Heap) (locs : List Loc), va_P (dC, dI) vwCl (mw cA cZ gm ak ac ab al av ah ap fk fc fs fl g fv ft (nI rn) (nI cn) sc) H → va_D A (mw cA cZ gm ak ac ab al av ah ap fk fc fs fl g fv ft (nI rn) (nI cn) sc) → va_S A s.heap H locs → ∀ (ls : Array Slot), lv_has ls 3 [(2, .int (gRow n)), (0, .ref gm), (1, .int (nI ln))] → W p l e (headSpec wsX1_spread ({ frames := 0, cells := 0, slots := 0, locals := 0 })).room s m ([.ref gm, .int (nI ln)] : List Value).toArray below meth c H locs 0 0 (MQ below (gVA (dC, dI) vwCl [(cA, .int), (cZ, .boolean)] A (mw cA cZ gm ak ac ab al av ah ap fk fc fs fl (gSh fl ln rn fp) fv ft (nI rn) (nI cn) sc)) ([.ref gm, .int (nI ln)] : List Value).toArray s 0 0 A) (F0 m 68 ls []) := by
    intro n
    induction n with
    | zero =>
      intro g hn hg01 hg H locs hP hD hS ls hl
      have hl : lv_has ls 3 [(2, .int (-1)), (0, .ref gm), (1, .int (nI ln))] := hl
      refine lv_iload_n hx hb dX1_spread_68 rfl (lv_at hl 0 rfl) ?_
      refine gz_if_lt (tgt := 121) (za := (-1)) hx hb dX1_spread_69 (by decide) (by decide) (fun c_1 => ?_) (fun c_1 => False.elim (by omega))
      exact W.vret hx hb hr (fun t ht hW => ⟨⟨(), rfl, trivial, by rw [ht]; exact (by unfold gSh; rw [hg]; exact hP), va_K.moved hW.alike hK, (by unfold gSh; rw [hg]; exact hD)⟩, hS.F ht⟩) hS.2.2 dX1_spread_121
    | succ n ih =>
      intro g hn hg01 hg H locs hP hD hS ls hl
      have hl : lv_has ls 3 [(2, .int (nI n)), (0, .ref gm), (1, .int (nI ln))] := hl
      rcases hfl (n * 13 + ln) (by omega) with hf | hf
      · skip
        refine lv_iload_n hx hb dX1_spread_68 rfl (lv_at hl 0 rfl) ?_
        refine gz_if_lt (tgt := 121) (za := ((n : Nat) : Int)) hx hb dX1_spread_69 (by decide) (nI_toInt (by omega)) (fun c_1 => False.elim (by omega)) (fun c_1 => ?_)
        refine lv_aload_n hx hb dX1_spread_72 rfl (lv_at hl 1 rfl) ?_
        refine va_get (D := (dC, dI)) (ci := 1) (v := .ref al) (C := RX1) (T := TX1) (N := 10) hx hb hts hin1 hown hK hP 0 rfl rfl 5 (by decide) lk19 (fun _ h9 => h9) rfl dX1_spread_73 ?_
        refine lv_bipush (v := nI 13) hx hb dX1_spread_76 (by decide) ?_
        refine lv_iload_n hx hb dX1_spread_78 rfl (lv_at hl 0 rfl) ?_
        refine gz_imulc (i := 13) (j := n) hx hb dX1_spread_79 ?_
        refine lv_iload_n hx hb dX1_spread_80 rfl (lv_at hl 2 rfl) ?_
        refine gz_iadd (i := n * 13) (j := ln) hx hb dX1_spread_81 ?_
        refine gz_zald (k := (n * 13) + ln) hx hb hK hP 4 1 rfl rfl (by omega) (by omega) dX1_spread_82 ?_
        refine lv_if_eq (tgt := 115) hx hb dX1_spread_83 (by decide) (fun c_2 => ?_) (fun c_2 => False.elim (c_2 hf))
        refine lv_iinc (v := gRow n) (lv' := [(2, .int (gRow n)), (0, .ref gm), (1, .int (nI ln))]) hx hb dX1_spread_115 hl (k := 0) rfl (gRow_dec n) (by decide) rfl (fun ls hl => ?_)
        refine lv_goto (tgt := 68) hx hb dX1_spread_118 (by decide) ?_
        exact ih (g) (by omega) hg01 (by rw [hg]; show gUp fl ln n (gUp1 fl ln n g) = _; unfold gUp1; rw [if_neg (by rw [hf]; decide)]) H locs hP hD hS ls (lv_sub hl [0, 1, 2] rfl)
      · rcases hg01 ((n + 1) * 13 + ln) (by omega) with hg1 | hg1
        · skip
          refine lv_iload_n hx hb dX1_spread_68 rfl (lv_at hl 0 rfl) ?_
          refine gz_if_lt (tgt := 121) (za := ((n : Nat) : Int)) hx hb dX1_spread_69 (by decide) (nI_toInt (by omega)) (fun c_1 => False.elim (by omega)) (fun c_1 => ?_)
          refine lv_aload_n hx hb dX1_spread_72 rfl (lv_at hl 1 rfl) ?_
          refine va_get (D := (dC, dI)) (ci := 1) (v := .ref al) (C := RX1) (T := TX1) (N := 10) hx hb hts hin1 hown hK hP 0 rfl rfl 5 (by decide) lk19 (fun _ h9 => h9) rfl dX1_spread_73 ?_
          refine lv_bipush (v := nI 13) hx hb dX1_spread_76 (by decide) ?_
          refine lv_iload_n hx hb dX1_spread_78 rfl (lv_at hl 0 rfl) ?_
          refine gz_imulc (i := 13) (j := n) hx hb dX1_spread_79 ?_
          refine lv_iload_n hx hb dX1_spread_80 rfl (lv_at hl 2 rfl) ?_
          refine gz_iadd (i := n * 13) (j := ln) hx hb dX1_spread_81 ?_
          refine gz_zald (k := (n * 13) + ln) hx hb hK hP 4 1 rfl rfl (by omega) (by omega) dX1_spread_82 ?_
          refine lv_if_eq (tgt := 115) hx hb dX1_spread_83 (by decide) (fun c_2 => False.elim (absurd (hf.symm.trans c_2) (by decide))) (fun c_2 => ?_)
          refine lv_aload_n hx hb dX1_spread_86 rfl (lv_at hl 1 rfl) ?_
          refine va_get (D := (dC, dI)) (ci := 1) (v := .ref ap) (C := RX1) (T := TX1) (N := 10) hx hb hts hin1 hown hK hP 0 rfl rfl 8 (by decide) lk29 (fun _ h9 => h9) rfl dX1_spread_87 ?_
          refine lv_bipush (v := nI 13) hx hb dX1_spread_90 (by decide) ?_
          refine lv_iload_n hx hb dX1_spread_92 rfl (lv_at hl 0 rfl) ?_
          refine gz_imulc (i := 13) (j := n) hx hb dX1_spread_93 ?_
          refine lv_bipush (v := nI 13) hx hb dX1_spread_94 (by decide) ?_
          refine gz_iadd (i := n * 13) (j := 13) hx hb dX1_spread_96 ?_
          refine lv_iload_n hx hb dX1_spread_97 rfl (lv_at hl 2 rfl) ?_
          refine gz_iadd (i := (n * 13) + 13) (j := ln) hx hb dX1_spread_98 ?_
          refine gz_top (j := (n + 1) * 13 + ln) (by omega) ?_
          refine gz_zald (k := (n + 1) * 13 + ln) hx hb hK hP 7 1 rfl rfl (by omega) (by omega) dX1_spread_99 ?_
          refine lv_if_eq (tgt := 115) hx hb dX1_spread_100 (by decide) (fun c_3 => ?_) (fun c_3 => False.elim (c_3 hg1))
          refine lv_iinc (v := gRow n) (lv' := [(2, .int (gRow n)), (0, .ref gm), (1, .int (nI ln))]) hx hb dX1_spread_115 hl (k := 0) rfl (gRow_dec n) (by decide) rfl (fun ls hl => ?_)
          refine lv_goto (tgt := 68) hx hb dX1_spread_118 (by decide) ?_
          exact ih (g) (by omega) hg01 (by rw [hg]; show gUp fl ln n (gUp1 fl ln n g) = _; unfold gUp1; rw [if_pos hf, if_neg (by rw [hg1]; decide)]) H locs hP hD hS ls (lv_sub hl [0, 1, 2] rfl)
        · skip
          refine lv_iload_n hx hb dX1_spread_68 rfl (lv_at hl 0 rfl) ?_
          refine gz_if_lt (tgt := 121) (za := ((n : Nat) : Int)) hx hb dX1_spread_69 (by decide) (nI_toInt (by omega)) (fun c_1 => False.elim (by omega)) (fun c_1 => ?_)
          refine lv_aload_n hx hb dX1_spread_72 rfl (lv_at hl 1 rfl) ?_
          refine va_get (D := (dC, dI)) (ci := 1) (v := .ref al) (C := RX1) (T := TX1) (N := 10) hx hb hts hin1 hown hK hP 0 rfl rfl 5 (by decide) lk19 (fun _ h9 => h9) rfl dX1_spread_73 ?_
          refine lv_bipush (v := nI 13) hx hb dX1_spread_76 (by decide) ?_
          refine lv_iload_n hx hb dX1_spread_78 rfl (lv_at hl 0 rfl) ?_
          refine gz_imulc (i := 13) (j := n) hx hb dX1_spread_79 ?_
          refine lv_iload_n hx hb dX1_spread_80 rfl (lv_at hl 2 rfl) ?_
          refine gz_iadd (i := n * 13) (j := ln) hx hb dX1_spread_81 ?_
          refine gz_zald (k := (n * 13) + ln) hx hb hK hP 4 1 rfl rfl (by omega) (by omega) dX1_spread_82 ?_
          refine lv_if_eq (tgt := 115) hx hb dX1_spread_83 (by decide) (fun c_2 => False.elim (absurd (hf.symm.trans c_2) (by decide))) (fun c_2 => ?_)
          refine lv_aload_n hx hb dX1_spread_86 rfl (lv_at hl 1 rfl) ?_
          refine va_get (D := (dC, dI)) (ci := 1) (v := .ref ap) (C := RX1) (T := TX1) (N := 10) hx hb hts hin1 hown hK hP 0 rfl rfl 8 (by decide) lk29 (fun _ h9 => h9) rfl dX1_spread_87 ?_
          refine lv_bipush (v := nI 13) hx hb dX1_spread_90 (by decide) ?_
          refine lv_iload_n hx hb dX1_spread_92 rfl (lv_at hl 0 rfl) ?_
          refine gz_imulc (i := 13) (j := n) hx hb dX1_spread_93 ?_
          refine lv_bipush (v := nI 13) hx hb dX1_spread_94 (by decide) ?_
          refine gz_iadd (i := n * 13) (j := 13) hx hb dX1_spread_96 ?_
          refine lv_iload_n hx hb dX1_spread_97 rfl (lv_at hl 2 rfl) ?_
          refine gz_iadd (i := (n * 13) + 13) (j := ln) hx hb dX1_spread_98 ?_
          refine gz_top (j := (n + 1) * 13 + ln) (by omega) ?_
          refine gz_zald (k := (n + 1) * 13 + ln) hx hb hK hP 7 1 rfl rfl (by omega) (by omega) dX1_spread_99 ?_
          refine lv_if_eq (tgt := 115) hx hb dX1_spread_100 (by decide) (fun c_3 => False.elim (absurd (hg1.symm.trans c_3) (by decide))) (fun c_3 => ?_)
          refine lv_aload_n hx hb dX1_spread_103 rfl (lv_at hl 1 rfl) ?_
          refine va_get (D := (dC, dI)) (ci := 1) (v := .ref ap) (C := RX1) (T := TX1) (N := 10) hx hb hts hin1 hown hK hP 0 rfl rfl 8 (by decide) lk29 (fun _ h9 => h9) rfl dX1_spread_104 ?_
          refine lv_bipush (v := nI 13) hx hb dX1_spread_107 (by decide) ?_
          refine lv_iload_n hx hb dX1_spread_109 rfl (lv_at hl 0 rfl) ?_
          refine gz_imulc (i := 13) (j := n) hx hb dX1_spread_110 ?_
          refine lv_iload_n hx hb dX1_spread_111 rfl (lv_at hl 2 rfl) ?_
          refine gz_iadd (i := n * 13) (j := ln) hx hb dX1_spread_112 ?_
          refine lv_iconst (v := nI 1) hx hb dX1_spread_113 (by decide) ?_
          refine gz_zast (k := (n * 13) + ln) hx hb hK hP hD hS 7 1 rfl rfl gz_nar1 (by omega) (by omega) dX1_spread_114 (fun H locs hP hD hS => ?_)
          have hP : va_P (dC, dI) vwCl (mw cA cZ gm ak ac ab al av ah ap fk fc fs fl (upd g ((n * 13) + ln) (nI 1)) fv ft (nI rn) (nI cn) sc) H := hP
          have hD : va_D A (mw cA cZ gm ak ac ab al av ah ap fk fc fs fl (upd g ((n * 13) + ln) (nI 1)) fv ft (nI rn) (nI cn) sc) := hD
          refine lv_iinc (v := gRow n) (lv' := [(2, .int (gRow n)), (0, .ref gm), (1, .int (nI ln))]) hx hb dX1_spread_115 hl (k := 0) rfl (gRow_dec n) (by decide) rfl (fun ls hl => ?_)
          refine lv_goto (tgt := 68) hx hb dX1_spread_118 (by decide) ?_
          exact ih (upd g ((n * 13) + ln) (nI 1)) (by omega) (g01_upd hg01 (Or.inr rfl)) (by rw [hg]; show gUp fl ln n (gUp1 fl ln n g) = _; unfold gUp1; rw [if_pos hf, if_pos hg1]) H locs hP hD hS ls (lv_sub hl [0, 1, 2] rfl)
  have loop1 : ∀ (n : Nat) (i : Nat), i + n = rn - 1 → ∀ (H : Heap) (locs : List Loc), va_P (dC, dI) vwCl (mw cA cZ gm ak ac ab al av ah ap fk fc fs fl (gDn fl ln fp i) fv ft (nI rn) (nI cn) sc) H → va_D A (mw cA cZ gm ak ac ab al av ah ap fk fc fs fl (gDn fl ln fp i) fv ft (nI rn) (nI cn) sc) → va_S A s.heap H locs → ∀ (ls : Array Slot), lv_has ls 3 [(2, .int (nI i)), (0, .ref gm), (1, .int (nI ln))] → W p l e (headSpec wsX1_spread ({ frames := 0, cells := 0, slots := 0, locals := 0 })).room s m ([.ref gm, .int (nI ln)] : List Value).toArray below meth c H locs 0 0 (MQ below (gVA (dC, dI) vwCl [(cA, .int), (cZ, .boolean)] A (mw cA cZ gm ak ac ab al av ah ap fk fc fs fl (gSh fl ln rn fp) fv ft (nI rn) (nI cn) sc)) ([.ref gm, .int (nI ln)] : List Value).toArray s 0 0 A) (F0 m 2 ls []) := by
    intro n
    induction n with
    | zero =>
      intro i hi H locs hP hD hS ls hl
      refine lv_iload_n hx hb dX1_spread_2 rfl (lv_at hl 0 rfl) ?_
      refine lv_iconst (v := nI 1) hx hb dX1_spread_3 (by decide) ?_
      refine gz_iadd (i := i) (j := 1) hx hb dX1_spread_4 ?_
      refine lv_aload_n hx hb dX1_spread_5 rfl (lv_at hl 1 rfl) ?_
      refine va_get (D := (dC, dI)) (ci := 1) (v := .int (nI rn)) (C := RX1) (T := TX1) (N := 10) hx hb hts hin1 hown hK hP 0 rfl rfl 0 (by decide) lk36 (fun _ h9 => h9) rfl dX1_spread_6 ?_
      refine gz_icmp_ge (tgt := 61) (za := ((i + 1 : Nat) : Int)) (zb := ((rn : Nat) : Int)) hx hb dX1_spread_9 (by decide) (nI_toInt (by omega)) (nI_toInt (by omega)) (fun c_1 => ?_) (fun c_1 => False.elim (by omega))
      refine lv_aload_n hx hb dX1_spread_61 rfl (lv_at hl 1 rfl) ?_
      refine va_get (D := (dC, dI)) (ci := 1) (v := .int (nI rn)) (C := RX1) (T := TX1) (N := 10) hx hb hts hin1 hown hK hP 0 rfl rfl 0 (by decide) lk36 (fun _ h9 => h9) rfl dX1_spread_62 ?_
      refine lv_iconst (v := nI 2) hx hb dX1_spread_65 (by decide) ?_
      refine lv_isub hx hb dX1_spread_66 ?_
      refine gz_topI (y := gRow (rn - 1)) (gRow_top hrn.1) ?_
      refine lv_istore_n (lv' := [(2, .int (gRow (rn - 1))), (0, .ref gm), (1, .int (nI ln))]) hx hb dX1_spread_67 rfl hl (by decide) rfl (fun ls hl => ?_)
      exact loop2 (rn - 1) (gDn fl ln fp i) (by omega) (gDn_01 hfp i) (by rw [show rn - 1 = i by omega]) H locs hP hD hS ls (lv_sub hl [0, 1, 2] rfl)
    | succ n ih =>
      intro i hi H locs hP hD hS ls hl
      rcases hfl (i * 13 + ln) (by omega) with hf | hf
      · skip
        refine lv_iload_n hx hb dX1_spread_2 rfl (lv_at hl 0 rfl) ?_
        refine lv_iconst (v := nI 1) hx hb dX1_spread_3 (by decide) ?_
        refine gz_iadd (i := i) (j := 1) hx hb dX1_spread_4 ?_
        refine lv_aload_n hx hb dX1_spread_5 rfl (lv_at hl 1 rfl) ?_
        refine va_get (D := (dC, dI)) (ci := 1) (v := .int (nI rn)) (C := RX1) (T := TX1) (N := 10) hx hb hts hin1 hown hK hP 0 rfl rfl 0 (by decide) lk36 (fun _ h9 => h9) rfl dX1_spread_6 ?_
        refine gz_icmp_ge (tgt := 61) (za := ((i + 1 : Nat) : Int)) (zb := ((rn : Nat) : Int)) hx hb dX1_spread_9 (by decide) (nI_toInt (by omega)) (nI_toInt (by omega)) (fun c_1 => False.elim (by omega)) (fun c_1 => ?_)
        refine lv_aload_n hx hb dX1_spread_12 rfl (lv_at hl 1 rfl) ?_
        refine va_get (D := (dC, dI)) (ci := 1) (v := .ref al) (C := RX1) (T := TX1) (N := 10) hx hb hts hin1 hown hK hP 0 rfl rfl 5 (by decide) lk19 (fun _ h9 => h9) rfl dX1_spread_13 ?_
        refine lv_bipush (v := nI 13) hx hb dX1_spread_16 (by decide) ?_
        refine lv_iload_n hx hb dX1_spread_18 rfl (lv_at hl 0 rfl) ?_
        refine gz_imulc (i := 13) (j := i) hx hb dX1_spread_19 ?_
        refine lv_iload_n hx hb dX1_spread_20 rfl (lv_at hl 2 rfl) ?_
        refine gz_iadd (i := i * 13) (j := ln) hx hb dX1_spread_21 ?_
        refine gz_zald (k := (i * 13) + ln) hx hb hK hP 4 1 rfl rfl (by omega) (by omega) dX1_spread_22 ?_
        refine lv_if_eq (tgt := 55) hx hb dX1_spread_23 (by decide) (fun c_2 => ?_) (fun c_2 => False.elim (c_2 hf))
        refine lv_iinc (v := nI (i + 1)) (lv' := [(2, .int (nI (i + 1))), (0, .ref gm), (1, .int (nI ln))]) hx hb dX1_spread_55 hl (k := 0) rfl (nI_1 _) (by decide) rfl (fun ls hl => ?_)
        refine lv_goto (tgt := 2) hx hb dX1_spread_58 (by decide) ?_
        have hd : gDn fl ln fp (i + 1) = gDn fl ln fp i := by show gDn1 fl ln i (gDn fl ln fp i) = _; unfold gDn1; rw [if_neg (by rw [hf]; decide)]
        exact ih (i + 1) (by omega) H locs (by rw [hd]; exact hP) (by rw [hd]; exact hD) hS ls (lv_sub hl [0, 1, 2] rfl)
      · rcases gDn_01 (fl := fl) (ln := ln) hfp i (i * 13 + ln) (by omega) with hg1 | hg1
        · skip
          refine lv_iload_n hx hb dX1_spread_2 rfl (lv_at hl 0 rfl) ?_
          refine lv_iconst (v := nI 1) hx hb dX1_spread_3 (by decide) ?_
          refine gz_iadd (i := i) (j := 1) hx hb dX1_spread_4 ?_
          refine lv_aload_n hx hb dX1_spread_5 rfl (lv_at hl 1 rfl) ?_
          refine va_get (D := (dC, dI)) (ci := 1) (v := .int (nI rn)) (C := RX1) (T := TX1) (N := 10) hx hb hts hin1 hown hK hP 0 rfl rfl 0 (by decide) lk36 (fun _ h9 => h9) rfl dX1_spread_6 ?_
          refine gz_icmp_ge (tgt := 61) (za := ((i + 1 : Nat) : Int)) (zb := ((rn : Nat) : Int)) hx hb dX1_spread_9 (by decide) (nI_toInt (by omega)) (nI_toInt (by omega)) (fun c_1 => False.elim (by omega)) (fun c_1 => ?_)
          refine lv_aload_n hx hb dX1_spread_12 rfl (lv_at hl 1 rfl) ?_
          refine va_get (D := (dC, dI)) (ci := 1) (v := .ref al) (C := RX1) (T := TX1) (N := 10) hx hb hts hin1 hown hK hP 0 rfl rfl 5 (by decide) lk19 (fun _ h9 => h9) rfl dX1_spread_13 ?_
          refine lv_bipush (v := nI 13) hx hb dX1_spread_16 (by decide) ?_
          refine lv_iload_n hx hb dX1_spread_18 rfl (lv_at hl 0 rfl) ?_
          refine gz_imulc (i := 13) (j := i) hx hb dX1_spread_19 ?_
          refine lv_iload_n hx hb dX1_spread_20 rfl (lv_at hl 2 rfl) ?_
          refine gz_iadd (i := i * 13) (j := ln) hx hb dX1_spread_21 ?_
          refine gz_zald (k := (i * 13) + ln) hx hb hK hP 4 1 rfl rfl (by omega) (by omega) dX1_spread_22 ?_
          refine lv_if_eq (tgt := 55) hx hb dX1_spread_23 (by decide) (fun c_2 => False.elim (absurd (hf.symm.trans c_2) (by decide))) (fun c_2 => ?_)
          refine lv_aload_n hx hb dX1_spread_26 rfl (lv_at hl 1 rfl) ?_
          refine va_get (D := (dC, dI)) (ci := 1) (v := .ref ap) (C := RX1) (T := TX1) (N := 10) hx hb hts hin1 hown hK hP 0 rfl rfl 8 (by decide) lk29 (fun _ h9 => h9) rfl dX1_spread_27 ?_
          refine lv_bipush (v := nI 13) hx hb dX1_spread_30 (by decide) ?_
          refine lv_iload_n hx hb dX1_spread_32 rfl (lv_at hl 0 rfl) ?_
          refine gz_imulc (i := 13) (j := i) hx hb dX1_spread_33 ?_
          refine lv_iload_n hx hb dX1_spread_34 rfl (lv_at hl 2 rfl) ?_
          refine gz_iadd (i := i * 13) (j := ln) hx hb dX1_spread_35 ?_
          refine gz_zald (k := (i * 13) + ln) hx hb hK hP 7 1 rfl rfl (by omega) (by omega) dX1_spread_36 ?_
          refine lv_if_eq (tgt := 55) hx hb dX1_spread_37 (by decide) (fun c_3 => ?_) (fun c_3 => False.elim (c_3 hg1))
          refine lv_iinc (v := nI (i + 1)) (lv' := [(2, .int (nI (i + 1))), (0, .ref gm), (1, .int (nI ln))]) hx hb dX1_spread_55 hl (k := 0) rfl (nI_1 _) (by decide) rfl (fun ls hl => ?_)
          refine lv_goto (tgt := 2) hx hb dX1_spread_58 (by decide) ?_
          have hd : gDn fl ln fp (i + 1) = gDn fl ln fp i := by show gDn1 fl ln i (gDn fl ln fp i) = _; unfold gDn1; rw [if_pos hf, if_neg (by rw [hg1]; decide)]
          exact ih (i + 1) (by omega) H locs (by rw [hd]; exact hP) (by rw [hd]; exact hD) hS ls (lv_sub hl [0, 1, 2] rfl)
        · skip
          refine lv_iload_n hx hb dX1_spread_2 rfl (lv_at hl 0 rfl) ?_
          refine lv_iconst (v := nI 1) hx hb dX1_spread_3 (by decide) ?_
          refine gz_iadd (i := i) (j := 1) hx hb dX1_spread_4 ?_
          refine lv_aload_n hx hb dX1_spread_5 rfl (lv_at hl 1 rfl) ?_
          refine va_get (D := (dC, dI)) (ci := 1) (v := .int (nI rn)) (C := RX1) (T := TX1) (N := 10) hx hb hts hin1 hown hK hP 0 rfl rfl 0 (by decide) lk36 (fun _ h9 => h9) rfl dX1_spread_6 ?_
          refine gz_icmp_ge (tgt := 61) (za := ((i + 1 : Nat) : Int)) (zb := ((rn : Nat) : Int)) hx hb dX1_spread_9 (by decide) (nI_toInt (by omega)) (nI_toInt (by omega)) (fun c_1 => False.elim (by omega)) (fun c_1 => ?_)
          refine lv_aload_n hx hb dX1_spread_12 rfl (lv_at hl 1 rfl) ?_
          refine va_get (D := (dC, dI)) (ci := 1) (v := .ref al) (C := RX1) (T := TX1) (N := 10) hx hb hts hin1 hown hK hP 0 rfl rfl 5 (by decide) lk19 (fun _ h9 => h9) rfl dX1_spread_13 ?_
          refine lv_bipush (v := nI 13) hx hb dX1_spread_16 (by decide) ?_
          refine lv_iload_n hx hb dX1_spread_18 rfl (lv_at hl 0 rfl) ?_
          refine gz_imulc (i := 13) (j := i) hx hb dX1_spread_19 ?_
          refine lv_iload_n hx hb dX1_spread_20 rfl (lv_at hl 2 rfl) ?_
          refine gz_iadd (i := i * 13) (j := ln) hx hb dX1_spread_21 ?_
          refine gz_zald (k := (i * 13) + ln) hx hb hK hP 4 1 rfl rfl (by omega) (by omega) dX1_spread_22 ?_
          refine lv_if_eq (tgt := 55) hx hb dX1_spread_23 (by decide) (fun c_2 => False.elim (absurd (hf.symm.trans c_2) (by decide))) (fun c_2 => ?_)
          refine lv_aload_n hx hb dX1_spread_26 rfl (lv_at hl 1 rfl) ?_
          refine va_get (D := (dC, dI)) (ci := 1) (v := .ref ap) (C := RX1) (T := TX1) (N := 10) hx hb hts hin1 hown hK hP 0 rfl rfl 8 (by decide) lk29 (fun _ h9 => h9) rfl dX1_spread_27 ?_
          refine lv_bipush (v := nI 13) hx hb dX1_spread_30 (by decide) ?_
          refine lv_iload_n hx hb dX1_spread_32 rfl (lv_at hl 0 rfl) ?_
          refine gz_imulc (i := 13) (j := i) hx hb dX1_spread_33 ?_
          refine lv_iload_n hx hb dX1_spread_34 rfl (lv_at hl 2 rfl) ?_
          refine gz_iadd (i := i * 13) (j := ln) hx hb dX1_spread_35 ?_
          refine gz_zald (k := (i * 13) + ln) hx hb hK hP 7 1 rfl rfl (by omega) (by omega) dX1_spread_36 ?_
          refine lv_if_eq (tgt := 55) hx hb dX1_spread_37 (by decide) (fun c_3 => False.elim (absurd (hg1.symm.trans c_3) (by decide))) (fun c_3 => ?_)
          refine lv_aload_n hx hb dX1_spread_40 rfl (lv_at hl 1 rfl) ?_
          refine va_get (D := (dC, dI)) (ci := 1) (v := .ref ap) (C := RX1) (T := TX1) (N := 10) hx hb hts hin1 hown hK hP 0 rfl rfl 8 (by decide) lk29 (fun _ h9 => h9) rfl dX1_spread_41 ?_
          refine lv_bipush (v := nI 13) hx hb dX1_spread_44 (by decide) ?_
          refine lv_iload_n hx hb dX1_spread_46 rfl (lv_at hl 0 rfl) ?_
          refine gz_imulc (i := 13) (j := i) hx hb dX1_spread_47 ?_
          refine lv_bipush (v := nI 13) hx hb dX1_spread_48 (by decide) ?_
          refine gz_iadd (i := i * 13) (j := 13) hx hb dX1_spread_50 ?_
          refine lv_iload_n hx hb dX1_spread_51 rfl (lv_at hl 2 rfl) ?_
          refine gz_iadd (i := (i * 13) + 13) (j := ln) hx hb dX1_spread_52 ?_
          refine gz_top (j := (i + 1) * 13 + ln) (by omega) ?_
          refine lv_iconst (v := nI 1) hx hb dX1_spread_53 (by decide) ?_
          refine gz_zast (k := (i + 1) * 13 + ln) hx hb hK hP hD hS 7 1 rfl rfl gz_nar1 (by omega) (by omega) dX1_spread_54 (fun H locs hP hD hS => ?_)
          have hP : va_P (dC, dI) vwCl (mw cA cZ gm ak ac ab al av ah ap fk fc fs fl (upd (gDn fl ln fp i) ((i + 1) * 13 + ln) (nI 1)) fv ft (nI rn) (nI cn) sc) H := hP
          have hD : va_D A (mw cA cZ gm ak ac ab al av ah ap fk fc fs fl (upd (gDn fl ln fp i) ((i + 1) * 13 + ln) (nI 1)) fv ft (nI rn) (nI cn) sc) := hD
          refine lv_iinc (v := nI (i + 1)) (lv' := [(2, .int (nI (i + 1))), (0, .ref gm), (1, .int (nI ln))]) hx hb dX1_spread_55 hl (k := 0) rfl (nI_1 _) (by decide) rfl (fun ls hl => ?_)
          refine lv_goto (tgt := 2) hx hb dX1_spread_58 (by decide) ?_
          have hd : gDn fl ln fp (i + 1) = upd (gDn fl ln fp i) ((i + 1) * 13 + ln) (nI 1) := by show gDn1 fl ln i (gDn fl ln fp i) = _; unfold gDn1; rw [if_pos hf, if_pos hg1]
          exact ih (i + 1) (by omega) H locs (by rw [hd]; exact hP) (by rw [hd]; exact hD) hS ls (lv_sub hl [0, 1, 2] rfl)
  refine lv_iconst (v := nI 0) hx hb dX1_spread_0 (by decide) ?_
  refine lv_istore_n (lv' := [(2, .int (nI 0)), (0, .ref gm), (1, .int (nI ln))]) hx hb dX1_spread_1 rfl hl (by decide) rfl (fun ls hl => ?_)
  exact loop1 (rn - 1) 0 (by omega) H locs hP hD hS ls (lv_sub hl [0, 1, 2] rfl)
set_option maxHeartbeats 4000000 in
set_option maxRecDepth 100000 in
theorem cM_coils (l : Launch) (dC : Nat → ClassId) (dI : Nat → Nat → Nat) (sz : Nat) (cA cZ : ClassId) (gm ak ac ab al av ah ap : Nat) (fk fc fs fl fp fv ft : Nat → Int32) (rn cn : Nat) (sc : Int32)  (hrn : 1 ≤ rn ∧ rn ≤ 12) (hcn : 1 ≤ cn ∧ cn ≤ 12) (hcI : ∀ k, k < 144 → vp_in (fc k) 40) (hkI : ∀ k, k < 144 → vp_in (fk k) 10) (hfp : g01 156 fp) : Met l yX1_coils wsX1_coils ({ frames := 0, cells := 0, slots := 0, locals := 0 }) (gPw (dC, dI) vwCl [(cA, .int), (cZ, .boolean)] [.ref gm] sz (mw cA cZ gm ak ac ab al av ah ap fk fc fs fl fp fv ft (nI rn) (nI cn) sc)) (gQA (dC, dI) vwCl [(cA, .int), (cZ, .boolean)] ((gCo fk fc fp cn (fv, nI 0) rn).2) (va_A (mw cA cZ gm ak ac ab al av ah ap fk fc fs fl fp fv ft (nI rn) (nI cn) sc) sz) (mw cA cZ gm ak ac ab al av ah ap fk fc fs fl fp ((gCo fk fc fp cn (fv, nI 0) rn).1) ft (nI rn) (nI cn) sc)) 0 0 (va_A (mw cA cZ gm ak ac ab al av ah ap fk fc fs fl fp fv ft (nI rn) (nI cn) sc) sz) := by
  refine Met.ofW (cc := cX1_coils) (maxL := 7) (ret := (some .int)) (by decide) rfl ?_
  intro p e s m args below meth c s₁ B hml hv
  obtain ⟨rfl, hsz, hP, hK, hD0⟩ := hv
  have hx := B.exec
  have hb := B.bytes
  have hr := B.returns
  have hts := atoms_spec (ws := wsX1_coils) B.pre
  have hown : s.vm.findClass RX1 = some m.cls := findClass_of_methodNamed B.named
  have hlocks := B.notSynchronized
  subst hsz
  have hD := hD0.self (sz := s.heap.size)
  generalize hAe : va_A (mw cA cZ gm ak ac ab al av ah ap fk fc fs fl fp fv ft (nI rn) (nI cn) sc) s.heap.size = A at hD ⊢
  have hA : ∀ q : Nat, s.heap.size ≤ q → A q := fun q h => by rw [← hAe]; exact Or.inr h
  have hS : va_S A s.heap s.heap [] := va_S.rf
  have hin1 : ∀ w ∈ u_ws RX1 TX1 10, w ∈ wsX1_coils := by decide +kernel
  have lk36 := hts (.fieldLink RX1 36 "LadderGridModel" "rows" "I") (by decide +kernel)
  have lk40 := hts (.fieldLink RX1 40 "LadderGridModel" "columns" "I") (by decide +kernel)
  have lk29 := hts (.fieldLink RX1 29 "LadderGridModel" "hasPower" "[Z") (by decide +kernel)
  have lk13 := hts (.fieldLink RX1 13 "LadderGridModel" "variables" "[I") (by decide +kernel)
  have lk7 := hts (.fieldLink RX1 7 "LadderGridModel" "kinds" "[I") (by decide +kernel)
  have lk23 := hts (.fieldLink RX1 23 "LadderGridModel" "values" "[I") (by decide +kernel)
  have hl := lv_entry ([.ref gm]) (n := 7) (Nat.le_of_ble_eq_true rfl)
  rw [lg_entry_eq]
  generalize (lg_sl ([.ref gm]) ++ List.replicate (7 - (lg_sl ([.ref gm])).length) Slot.unset).toArray = ls at hl ⊢
  have hl : lv_has ls 7 [(0, .ref gm)] := hl
  suffices key : ∀ (H : Heap) (locs : List Loc), va_P (dC, dI) vwCl (mw cA cZ gm ak ac ab al av ah ap fk fc fs fl fp fv ft (nI rn) (nI cn) sc) H → va_D A (mw cA cZ gm ak ac ab al av ah ap fk fc fs fl fp fv ft (nI rn) (nI cn) sc) → va_S A s.heap H locs → W p l e (headSpec wsX1_coils ({ frames := 0, cells := 0, slots := 0, locals := 0 })).room s m ([.ref gm] : List Value).toArray below meth c H locs 0 0 (MQ below (gQA (dC, dI) vwCl [(cA, .int), (cZ, .boolean)] ((gCo fk fc fp cn (fv, nI 0) rn).2) A (mw cA cZ gm ak ac ab al av ah ap fk fc fs fl fp ((gCo fk fc fp cn (fv, nI 0) rn).1) ft (nI rn) (nI cn) sc)) ([.ref gm] : List Value).toArray s 0 0 A) (F0 m 0 ls []) from key s.heap [] hP hD hS
  clear hP hD hS
  intro H locs hP hD hS
  have loop : ∀ (n : Nat) (i : Nat) (q : (Nat → Int32) × Int32), i + n = rn → q = gCo fk fc fp cn (fv, nI 0) i → ∀ (H : Heap) (locs : List Loc), va_P (dC, dI) vwCl (mw cA cZ gm ak ac ab al av ah ap fk fc fs fl fp q.1 ft (nI rn) (nI cn) sc) H → va_D A (mw cA cZ gm ak ac ab al av ah ap fk fc fs fl fp q.1 ft (nI rn) (nI cn) sc) → va_S A s.heap H locs → ∀ (ls : Array Slot), lv_has ls 7 [(2, .int (nI i)), (1, .int (q.2)), (0, .ref gm)] → W p l e (headSpec wsX1_coils ({ frames := 0, cells := 0, slots := 0, locals := 0 })).room s m ([.ref gm] : List Value).toArray below meth c H locs 0 0 (MQ below (gQA (dC, dI) vwCl [(cA, .int), (cZ, .boolean)] ((gCo fk fc fp cn (fv, nI 0) rn).2) A (mw cA cZ gm ak ac ab al av ah ap fk fc fs fl fp ((gCo fk fc fp cn (fv, nI 0) rn).1) ft (nI rn) (nI cn) sc)) ([.ref gm] : List Value).toArray s 0 0 A) (F0 m 4 ls []) := by
    intro n
    induction n with
    | zero =>
      intro i q hi hq H locs hP hD hS ls hl
      refine lv_iload_n hx hb dX1_coils_4 rfl (lv_at hl 0 rfl) ?_
      refine lv_aload_n hx hb dX1_coils_5 rfl (lv_at hl 2 rfl) ?_
      refine va_get (D := (dC, dI)) (ci := 1) (v := .int (nI rn)) (C := RX1) (T := TX1) (N := 10) hx hb hts hin1 hown hK hP 0 rfl rfl 0 (by decide) lk36 (fun _ h9 => h9) rfl dX1_coils_6 ?_
      refine gz_icmp_ge (tgt := 161) (za := ((i : Nat) : Int)) (zb := ((rn : Nat) : Int)) hx hb dX1_coils_9 (by decide) (nI_toInt (by omega)) (nI_toInt (by omega)) (fun c_1 => ?_) (fun c_1 => False.elim (by omega))
      refine lv_iload_n hx hb dX1_coils_161 rfl (lv_at hl 1 rfl) ?_
      exact W.iret (v := q.2) hx hb hr (fun t ht hW => ⟨⟨q.2, (), rfl, (by rw [show rn = i by omega, ← hq]), by rw [ht]; exact (by rw [show gCo fk fc fp cn (fv, nI 0) rn = q by rw [hq, show i = rn by omega]]; exact hP), va_K.moved hW.alike hK, (by rw [show gCo fk fc fp cn (fv, nI 0) rn = q by rw [hq, show i = rn by omega]]; exact hD)⟩, hS.F ht⟩) hS.2.2 dX1_coils_162
    | succ n ih =>
      intro i q hi hq H locs hP hD hS ls hl
      have hci : vp_in (fc (i * 12 + (cn - 1))) 40 := hcI _ (by omega)
      obtain ⟨kk, hkk, ek⟩ := vp_in_of (hkI (i * 12 + (cn - 1)) (by omega)) (by omega)
      have zk : (fk (i * 12 + (cn - 1))).toInt = (kk : Int) := by rw [ek]; exact nI_toInt (by omega)
      by_cases hco : 6 ≤ (fk (i * 12 + (cn - 1))).toInt
      · have h69 : kk = 6 ∨ kk = 7 ∨ kk = 8 ∨ kk = 9 := by omega
        rcases h69 with hkv | hkv | hkv | hkv
        · subst hkv
          rcases hfp (i * 13 + (cn - 1)) (by omega) with hp | hp
          · skip
            refine lv_iload_n hx hb dX1_coils_4 rfl (lv_at hl 0 rfl) ?_
            refine lv_aload_n hx hb dX1_coils_5 rfl (lv_at hl 2 rfl) ?_
            refine va_get (D := (dC, dI)) (ci := 1) (v := .int (nI rn)) (C := RX1) (T := TX1) (N := 10) hx hb hts hin1 hown hK hP 0 rfl rfl 0 (by decide) lk36 (fun _ h9 => h9) rfl dX1_coils_6 ?_
            refine gz_icmp_ge (tgt := 161) (za := ((i : Nat) : Int)) (zb := ((rn : Nat) : Int)) hx hb dX1_coils_9 (by decide) (nI_toInt (by omega)) (nI_toInt (by omega)) (fun c_1 => False.elim (by omega)) (fun c_1 => ?_)
            refine lv_bipush (v := nI 12) hx hb dX1_coils_12 (by decide) ?_
            refine lv_iload_n hx hb dX1_coils_14 rfl (lv_at hl 0 rfl) ?_
            refine gz_imulc (i := 12) (j := i) hx hb dX1_coils_15 ?_
            refine lv_aload_n hx hb dX1_coils_16 rfl (lv_at hl 2 rfl) ?_
            refine va_get (D := (dC, dI)) (ci := 1) (v := .int (nI cn)) (C := RX1) (T := TX1) (N := 10) hx hb hts hin1 hown hK hP 0 rfl rfl 1 (by decide) lk40 (fun _ h9 => h9) rfl dX1_coils_17 ?_
            refine gz_iadd (i := i * 12) (j := cn) hx hb dX1_coils_20 ?_
            refine lv_iconst (v := nI 1) hx hb dX1_coils_21 (by decide) ?_
            refine gz_isub (i := (i * 12) + cn) (j := 1) hx hb dX1_coils_22 (by omega) ?_
            refine gz_top (j := i * 12 + (cn - 1)) (by omega) ?_
            refine lv_istore_n (lv' := [(3, .int (nI (i * 12 + (cn - 1)))), (2, .int (nI i)), (1, .int (q.2)), (0, .ref gm)]) hx hb dX1_coils_23 rfl hl (by decide) rfl (fun ls hl => ?_)
            refine lv_aload_n hx hb dX1_coils_24 rfl (lv_at hl 3 rfl) ?_
            refine va_get (D := (dC, dI)) (ci := 1) (v := .ref ap) (C := RX1) (T := TX1) (N := 10) hx hb hts hin1 hown hK hP 0 rfl rfl 8 (by decide) lk29 (fun _ h9 => h9) rfl dX1_coils_25 ?_
            refine lv_bipush (v := nI 13) hx hb dX1_coils_28 (by decide) ?_
            refine lv_iload_n hx hb dX1_coils_30 rfl (lv_at hl 1 rfl) ?_
            refine gz_imulc (i := 13) (j := i) hx hb dX1_coils_31 ?_
            refine lv_aload_n hx hb dX1_coils_32 rfl (lv_at hl 3 rfl) ?_
            refine va_get (D := (dC, dI)) (ci := 1) (v := .int (nI cn)) (C := RX1) (T := TX1) (N := 10) hx hb hts hin1 hown hK hP 0 rfl rfl 1 (by decide) lk40 (fun _ h9 => h9) rfl dX1_coils_33 ?_
            refine gz_iadd (i := i * 13) (j := cn) hx hb dX1_coils_36 ?_
            refine lv_iconst (v := nI 1) hx hb dX1_coils_37 (by decide) ?_
            refine gz_isub (i := (i * 13) + cn) (j := 1) hx hb dX1_coils_38 (by omega) ?_
            refine gz_top (j := i * 13 + (cn - 1)) (by omega) ?_
            refine gz_zald (k := i * 13 + (cn - 1)) hx hb hK hP 7 1 rfl rfl (by omega) (by omega) dX1_coils_39 ?_
            refine lv_istore (lv' := [(4, .int (fp (i * 13 + (cn - 1)))), (3, .int (nI (i * 12 + (cn - 1)))), (2, .int (nI i)), (1, .int (q.2)), (0, .ref gm)]) hx hb dX1_coils_40 hl (by decide) rfl (fun ls hl => ?_)
            refine lv_aload_n hx hb dX1_coils_42 rfl (lv_at hl 4 rfl) ?_
            refine va_get (D := (dC, dI)) (ci := 1) (v := .ref ac) (C := RX1) (T := TX1) (N := 10) hx hb hts hin1 hown hK hP 0 rfl rfl 3 (by decide) lk13 (fun _ h9 => h9) rfl dX1_coils_43 ?_
            refine lv_iload_n hx hb dX1_coils_46 rfl (lv_at hl 1 rfl) ?_
            refine gz_iald (k := i * 12 + (cn - 1)) hx hb hK hP 2 0 rfl rfl (by omega) (by omega) dX1_coils_47 ?_
            refine lv_istore (lv' := [(5, .int (fc (i * 12 + (cn - 1)))), (4, .int (fp (i * 13 + (cn - 1)))), (3, .int (nI (i * 12 + (cn - 1)))), (2, .int (nI i)), (1, .int (q.2)), (0, .ref gm)]) hx hb dX1_coils_48 hl (by decide) rfl (fun ls hl => ?_)
            refine lv_aload_n hx hb dX1_coils_50 rfl (lv_at hl 5 rfl) ?_
            refine va_get (D := (dC, dI)) (ci := 1) (v := .ref ak) (C := RX1) (T := TX1) (N := 10) hx hb hts hin1 hown hK hP 0 rfl rfl 2 (by decide) lk7 (fun _ h9 => h9) rfl dX1_coils_51 ?_
            refine lv_iload_n hx hb dX1_coils_54 rfl (lv_at hl 2 rfl) ?_
            refine gz_iald (k := i * 12 + (cn - 1)) hx hb hK hP 1 0 rfl rfl (by omega) (by omega) dX1_coils_55 ?_
            refine lv_bipush (v := nI 6) hx hb dX1_coils_56 (by decide) ?_
            refine gz_icmp_lt (tgt := 155) (za := (fk (i * 12 + (cn - 1))).toInt) (zb := ((6 : Nat) : Int)) hx hb dX1_coils_58 (by decide) rfl (nI_toInt (by omega)) (fun c_2 => False.elim (by omega)) (fun c_2 => ?_)
            refine lv_iload hx hb dX1_coils_61 (lv_at hl 1 rfl) ?_
            refine lv_if_eq (tgt := 72) hx hb dX1_coils_63 (by decide) (fun c_3 => ?_) (fun c_3 => False.elim (c_3 hp))
            refine lv_iload_n hx hb dX1_coils_72 rfl (lv_at hl 4 rfl) ?_
            refine lv_istore_n (lv' := [(1, .int (q.2)), (5, .int (fc (i * 12 + (cn - 1)))), (4, .int (fp (i * 13 + (cn - 1)))), (3, .int (nI (i * 12 + (cn - 1)))), (2, .int (nI i)), (0, .ref gm)]) hx hb dX1_coils_73 rfl hl (by decide) rfl (fun ls hl => ?_)
            refine lv_aload_n hx hb dX1_coils_74 rfl (lv_at hl 5 rfl) ?_
            refine va_get (D := (dC, dI)) (ci := 1) (v := .ref ak) (C := RX1) (T := TX1) (N := 10) hx hb hts hin1 hown hK hP 0 rfl rfl 2 (by decide) lk7 (fun _ h9 => h9) rfl dX1_coils_75 ?_
            refine lv_iload_n hx hb dX1_coils_78 rfl (lv_at hl 3 rfl) ?_
            refine gz_iald (k := i * 12 + (cn - 1)) hx hb hK hP 1 0 rfl rfl (by omega) (by omega) dX1_coils_79 ?_
            refine lv_bipush (v := nI 6) hx hb dX1_coils_80 (by decide) ?_
            refine lv_isub hx hb dX1_coils_82 ?_
            refine gz_topI (y := nI 0) (by rw [ek]; decide) ?_
            refine lv_istore (lv' := [(6, .int (nI 0)), (1, .int (q.2)), (5, .int (fc (i * 12 + (cn - 1)))), (4, .int (fp (i * 13 + (cn - 1)))), (3, .int (nI (i * 12 + (cn - 1)))), (2, .int (nI i)), (0, .ref gm)]) hx hb dX1_coils_83 hl (by decide) rfl (fun ls hl => ?_)
            refine lv_aload_n hx hb dX1_coils_85 rfl (lv_at hl 6 rfl) ?_
            refine va_get (D := (dC, dI)) (ci := 1) (v := .ref av) (C := RX1) (T := TX1) (N := 10) hx hb hts hin1 hown hK hP 0 rfl rfl 6 (by decide) lk23 (fun _ h9 => h9) rfl dX1_coils_86 ?_
            refine lv_iload hx hb dX1_coils_89 (lv_at hl 2 rfl) ?_
            refine lv_iload hx hb dX1_coils_91 (lv_at hl 0 rfl) ?_
            refine lv_if_ne (tgt := 109) hx hb dX1_coils_93 (by decide) (fun c_4 => False.elim (c_4 rfl)) (fun c_4 => ?_)
            refine lv_iload hx hb dX1_coils_96 (lv_at hl 3 rfl) ?_
            refine lv_if_eq (tgt := 105) hx hb dX1_coils_98 (by decide) (fun c_5 => ?_) (fun c_5 => False.elim (c_5 hp))
            refine lv_iconst (v := nI 0) hx hb dX1_coils_105 (by decide) ?_
            refine lv_goto (tgt := 154) hx hb dX1_coils_106 (by decide) ?_
            refine va_iast hx hb hK hP hD hS 5 0 rfl rfl hci dX1_coils_154 (fun H locs hP hD hS => ?_)
            have hP : va_P (dC, dI) vwCl (mw cA cZ gm ak ac ab al av ah ap fk fc fs fl fp (upd q.1 (fc (i * 12 + (cn - 1))).toNatClampNeg (nI 0)) ft (nI rn) (nI cn) sc) H := hP
            have hD : va_D A (mw cA cZ gm ak ac ab al av ah ap fk fc fs fl fp (upd q.1 (fc (i * 12 + (cn - 1))).toNatClampNeg (nI 0)) ft (nI rn) (nI cn) sc) := hD
            refine lv_iinc (v := nI (i + 1)) (lv' := [(2, .int (nI (i + 1))), (6, .int (nI 0)), (1, .int (q.2)), (5, .int (fc (i * 12 + (cn - 1)))), (4, .int (fp (i * 13 + (cn - 1)))), (3, .int (nI (i * 12 + (cn - 1)))), (0, .ref gm)]) hx hb dX1_coils_155 hl (k := 5) rfl (nI_1 _) (by decide) rfl (fun ls hl => ?_)
            refine lv_goto (tgt := 4) hx hb dX1_coils_158 (by decide) ?_
            exact ih (i + 1) (upd q.1 (fc (i * 12 + (cn - 1))).toNatClampNeg (nI 0), q.2) (by omega) (by show _ = gCo1 _ _ _ _ _ (gCo fk fc fp cn (fv, nI 0) i); rw [← hq]; unfold gCo1; rw [if_pos hco, ek, hp, gCoil_6, gz_add0]) H locs hP hD hS ls (lv_sub hl [0, 2, 6] rfl)
          · skip
            refine lv_iload_n hx hb dX1_coils_4 rfl (lv_at hl 0 rfl) ?_
            refine lv_aload_n hx hb dX1_coils_5 rfl (lv_at hl 2 rfl) ?_
            refine va_get (D := (dC, dI)) (ci := 1) (v := .int (nI rn)) (C := RX1) (T := TX1) (N := 10) hx hb hts hin1 hown hK hP 0 rfl rfl 0 (by decide) lk36 (fun _ h9 => h9) rfl dX1_coils_6 ?_
            refine gz_icmp_ge (tgt := 161) (za := ((i : Nat) : Int)) (zb := ((rn : Nat) : Int)) hx hb dX1_coils_9 (by decide) (nI_toInt (by omega)) (nI_toInt (by omega)) (fun c_1 => False.elim (by omega)) (fun c_1 => ?_)
            refine lv_bipush (v := nI 12) hx hb dX1_coils_12 (by decide) ?_
            refine lv_iload_n hx hb dX1_coils_14 rfl (lv_at hl 0 rfl) ?_
            refine gz_imulc (i := 12) (j := i) hx hb dX1_coils_15 ?_
            refine lv_aload_n hx hb dX1_coils_16 rfl (lv_at hl 2 rfl) ?_
            refine va_get (D := (dC, dI)) (ci := 1) (v := .int (nI cn)) (C := RX1) (T := TX1) (N := 10) hx hb hts hin1 hown hK hP 0 rfl rfl 1 (by decide) lk40 (fun _ h9 => h9) rfl dX1_coils_17 ?_
            refine gz_iadd (i := i * 12) (j := cn) hx hb dX1_coils_20 ?_
            refine lv_iconst (v := nI 1) hx hb dX1_coils_21 (by decide) ?_
            refine gz_isub (i := (i * 12) + cn) (j := 1) hx hb dX1_coils_22 (by omega) ?_
            refine gz_top (j := i * 12 + (cn - 1)) (by omega) ?_
            refine lv_istore_n (lv' := [(3, .int (nI (i * 12 + (cn - 1)))), (2, .int (nI i)), (1, .int (q.2)), (0, .ref gm)]) hx hb dX1_coils_23 rfl hl (by decide) rfl (fun ls hl => ?_)
            refine lv_aload_n hx hb dX1_coils_24 rfl (lv_at hl 3 rfl) ?_
            refine va_get (D := (dC, dI)) (ci := 1) (v := .ref ap) (C := RX1) (T := TX1) (N := 10) hx hb hts hin1 hown hK hP 0 rfl rfl 8 (by decide) lk29 (fun _ h9 => h9) rfl dX1_coils_25 ?_
            refine lv_bipush (v := nI 13) hx hb dX1_coils_28 (by decide) ?_
            refine lv_iload_n hx hb dX1_coils_30 rfl (lv_at hl 1 rfl) ?_
            refine gz_imulc (i := 13) (j := i) hx hb dX1_coils_31 ?_
            refine lv_aload_n hx hb dX1_coils_32 rfl (lv_at hl 3 rfl) ?_
            refine va_get (D := (dC, dI)) (ci := 1) (v := .int (nI cn)) (C := RX1) (T := TX1) (N := 10) hx hb hts hin1 hown hK hP 0 rfl rfl 1 (by decide) lk40 (fun _ h9 => h9) rfl dX1_coils_33 ?_
            refine gz_iadd (i := i * 13) (j := cn) hx hb dX1_coils_36 ?_
            refine lv_iconst (v := nI 1) hx hb dX1_coils_37 (by decide) ?_
            refine gz_isub (i := (i * 13) + cn) (j := 1) hx hb dX1_coils_38 (by omega) ?_
            refine gz_top (j := i * 13 + (cn - 1)) (by omega) ?_
            refine gz_zald (k := i * 13 + (cn - 1)) hx hb hK hP 7 1 rfl rfl (by omega) (by omega) dX1_coils_39 ?_
            refine lv_istore (lv' := [(4, .int (fp (i * 13 + (cn - 1)))), (3, .int (nI (i * 12 + (cn - 1)))), (2, .int (nI i)), (1, .int (q.2)), (0, .ref gm)]) hx hb dX1_coils_40 hl (by decide) rfl (fun ls hl => ?_)
            refine lv_aload_n hx hb dX1_coils_42 rfl (lv_at hl 4 rfl) ?_
            refine va_get (D := (dC, dI)) (ci := 1) (v := .ref ac) (C := RX1) (T := TX1) (N := 10) hx hb hts hin1 hown hK hP 0 rfl rfl 3 (by decide) lk13 (fun _ h9 => h9) rfl dX1_coils_43 ?_
            refine lv_iload_n hx hb dX1_coils_46 rfl (lv_at hl 1 rfl) ?_
            refine gz_iald (k := i * 12 + (cn - 1)) hx hb hK hP 2 0 rfl rfl (by omega) (by omega) dX1_coils_47 ?_
            refine lv_istore (lv' := [(5, .int (fc (i * 12 + (cn - 1)))), (4, .int (fp (i * 13 + (cn - 1)))), (3, .int (nI (i * 12 + (cn - 1)))), (2, .int (nI i)), (1, .int (q.2)), (0, .ref gm)]) hx hb dX1_coils_48 hl (by decide) rfl (fun ls hl => ?_)
            refine lv_aload_n hx hb dX1_coils_50 rfl (lv_at hl 5 rfl) ?_
            refine va_get (D := (dC, dI)) (ci := 1) (v := .ref ak) (C := RX1) (T := TX1) (N := 10) hx hb hts hin1 hown hK hP 0 rfl rfl 2 (by decide) lk7 (fun _ h9 => h9) rfl dX1_coils_51 ?_
            refine lv_iload_n hx hb dX1_coils_54 rfl (lv_at hl 2 rfl) ?_
            refine gz_iald (k := i * 12 + (cn - 1)) hx hb hK hP 1 0 rfl rfl (by omega) (by omega) dX1_coils_55 ?_
            refine lv_bipush (v := nI 6) hx hb dX1_coils_56 (by decide) ?_
            refine gz_icmp_lt (tgt := 155) (za := (fk (i * 12 + (cn - 1))).toInt) (zb := ((6 : Nat) : Int)) hx hb dX1_coils_58 (by decide) rfl (nI_toInt (by omega)) (fun c_2 => False.elim (by omega)) (fun c_2 => ?_)
            refine lv_iload hx hb dX1_coils_61 (lv_at hl 1 rfl) ?_
            refine lv_if_eq (tgt := 72) hx hb dX1_coils_63 (by decide) (fun c_3 => False.elim (absurd (hp.symm.trans c_3) (by decide))) (fun c_3 => ?_)
            refine lv_iload_n hx hb dX1_coils_66 rfl (lv_at hl 4 rfl) ?_
            refine lv_iconst (v := nI 1) hx hb dX1_coils_67 (by decide) ?_
            refine lv_iadd hx hb dX1_coils_68 ?_
            refine lv_goto (tgt := 73) hx hb dX1_coils_69 (by decide) ?_
            refine lv_istore_n (lv' := [(1, .int (q.2 + (nI 1))), (5, .int (fc (i * 12 + (cn - 1)))), (4, .int (fp (i * 13 + (cn - 1)))), (3, .int (nI (i * 12 + (cn - 1)))), (2, .int (nI i)), (0, .ref gm)]) hx hb dX1_coils_73 rfl hl (by decide) rfl (fun ls hl => ?_)
            refine lv_aload_n hx hb dX1_coils_74 rfl (lv_at hl 5 rfl) ?_
            refine va_get (D := (dC, dI)) (ci := 1) (v := .ref ak) (C := RX1) (T := TX1) (N := 10) hx hb hts hin1 hown hK hP 0 rfl rfl 2 (by decide) lk7 (fun _ h9 => h9) rfl dX1_coils_75 ?_
            refine lv_iload_n hx hb dX1_coils_78 rfl (lv_at hl 3 rfl) ?_
            refine gz_iald (k := i * 12 + (cn - 1)) hx hb hK hP 1 0 rfl rfl (by omega) (by omega) dX1_coils_79 ?_
            refine lv_bipush (v := nI 6) hx hb dX1_coils_80 (by decide) ?_
            refine lv_isub hx hb dX1_coils_82 ?_
            refine gz_topI (y := nI 0) (by rw [ek]; decide) ?_
            refine lv_istore (lv' := [(6, .int (nI 0)), (1, .int (q.2 + (nI 1))), (5, .int (fc (i * 12 + (cn - 1)))), (4, .int (fp (i * 13 + (cn - 1)))), (3, .int (nI (i * 12 + (cn - 1)))), (2, .int (nI i)), (0, .ref gm)]) hx hb dX1_coils_83 hl (by decide) rfl (fun ls hl => ?_)
            refine lv_aload_n hx hb dX1_coils_85 rfl (lv_at hl 6 rfl) ?_
            refine va_get (D := (dC, dI)) (ci := 1) (v := .ref av) (C := RX1) (T := TX1) (N := 10) hx hb hts hin1 hown hK hP 0 rfl rfl 6 (by decide) lk23 (fun _ h9 => h9) rfl dX1_coils_86 ?_
            refine lv_iload hx hb dX1_coils_89 (lv_at hl 2 rfl) ?_
            refine lv_iload hx hb dX1_coils_91 (lv_at hl 0 rfl) ?_
            refine lv_if_ne (tgt := 109) hx hb dX1_coils_93 (by decide) (fun c_4 => False.elim (c_4 rfl)) (fun c_4 => ?_)
            refine lv_iload hx hb dX1_coils_96 (lv_at hl 3 rfl) ?_
            refine lv_if_eq (tgt := 105) hx hb dX1_coils_98 (by decide) (fun c_5 => False.elim (absurd (hp.symm.trans c_5) (by decide))) (fun c_5 => ?_)
            refine lv_iconst (v := nI 1) hx hb dX1_coils_101 (by decide) ?_
            refine lv_goto (tgt := 154) hx hb dX1_coils_102 (by decide) ?_
            refine va_iast hx hb hK hP hD hS 5 0 rfl rfl hci dX1_coils_154 (fun H locs hP hD hS => ?_)
            have hP : va_P (dC, dI) vwCl (mw cA cZ gm ak ac ab al av ah ap fk fc fs fl fp (upd q.1 (fc (i * 12 + (cn - 1))).toNatClampNeg (nI 1)) ft (nI rn) (nI cn) sc) H := hP
            have hD : va_D A (mw cA cZ gm ak ac ab al av ah ap fk fc fs fl fp (upd q.1 (fc (i * 12 + (cn - 1))).toNatClampNeg (nI 1)) ft (nI rn) (nI cn) sc) := hD
            refine lv_iinc (v := nI (i + 1)) (lv' := [(2, .int (nI (i + 1))), (6, .int (nI 0)), (1, .int (q.2 + (nI 1))), (5, .int (fc (i * 12 + (cn - 1)))), (4, .int (fp (i * 13 + (cn - 1)))), (3, .int (nI (i * 12 + (cn - 1)))), (0, .ref gm)]) hx hb dX1_coils_155 hl (k := 5) rfl (nI_1 _) (by decide) rfl (fun ls hl => ?_)
            refine lv_goto (tgt := 4) hx hb dX1_coils_158 (by decide) ?_
            exact ih (i + 1) (upd q.1 (fc (i * 12 + (cn - 1))).toNatClampNeg (nI 1), q.2 + (nI 1)) (by omega) (by show _ = gCo1 _ _ _ _ _ (gCo fk fc fp cn (fv, nI 0) i); rw [← hq]; unfold gCo1; rw [if_pos hco, ek, hp, gCoil_6]) H locs hP hD hS ls (lv_sub hl [0, 2, 6] rfl)
        · subst hkv
          rcases hfp (i * 13 + (cn - 1)) (by omega) with hp | hp
          · skip
            refine lv_iload_n hx hb dX1_coils_4 rfl (lv_at hl 0 rfl) ?_
            refine lv_aload_n hx hb dX1_coils_5 rfl (lv_at hl 2 rfl) ?_
            refine va_get (D := (dC, dI)) (ci := 1) (v := .int (nI rn)) (C := RX1) (T := TX1) (N := 10) hx hb hts hin1 hown hK hP 0 rfl rfl 0 (by decide) lk36 (fun _ h9 => h9) rfl dX1_coils_6 ?_
            refine gz_icmp_ge (tgt := 161) (za := ((i : Nat) : Int)) (zb := ((rn : Nat) : Int)) hx hb dX1_coils_9 (by decide) (nI_toInt (by omega)) (nI_toInt (by omega)) (fun c_1 => False.elim (by omega)) (fun c_1 => ?_)
            refine lv_bipush (v := nI 12) hx hb dX1_coils_12 (by decide) ?_
            refine lv_iload_n hx hb dX1_coils_14 rfl (lv_at hl 0 rfl) ?_
            refine gz_imulc (i := 12) (j := i) hx hb dX1_coils_15 ?_
            refine lv_aload_n hx hb dX1_coils_16 rfl (lv_at hl 2 rfl) ?_
            refine va_get (D := (dC, dI)) (ci := 1) (v := .int (nI cn)) (C := RX1) (T := TX1) (N := 10) hx hb hts hin1 hown hK hP 0 rfl rfl 1 (by decide) lk40 (fun _ h9 => h9) rfl dX1_coils_17 ?_
            refine gz_iadd (i := i * 12) (j := cn) hx hb dX1_coils_20 ?_
            refine lv_iconst (v := nI 1) hx hb dX1_coils_21 (by decide) ?_
            refine gz_isub (i := (i * 12) + cn) (j := 1) hx hb dX1_coils_22 (by omega) ?_
            refine gz_top (j := i * 12 + (cn - 1)) (by omega) ?_
            refine lv_istore_n (lv' := [(3, .int (nI (i * 12 + (cn - 1)))), (2, .int (nI i)), (1, .int (q.2)), (0, .ref gm)]) hx hb dX1_coils_23 rfl hl (by decide) rfl (fun ls hl => ?_)
            refine lv_aload_n hx hb dX1_coils_24 rfl (lv_at hl 3 rfl) ?_
            refine va_get (D := (dC, dI)) (ci := 1) (v := .ref ap) (C := RX1) (T := TX1) (N := 10) hx hb hts hin1 hown hK hP 0 rfl rfl 8 (by decide) lk29 (fun _ h9 => h9) rfl dX1_coils_25 ?_
            refine lv_bipush (v := nI 13) hx hb dX1_coils_28 (by decide) ?_
            refine lv_iload_n hx hb dX1_coils_30 rfl (lv_at hl 1 rfl) ?_
            refine gz_imulc (i := 13) (j := i) hx hb dX1_coils_31 ?_
            refine lv_aload_n hx hb dX1_coils_32 rfl (lv_at hl 3 rfl) ?_
            refine va_get (D := (dC, dI)) (ci := 1) (v := .int (nI cn)) (C := RX1) (T := TX1) (N := 10) hx hb hts hin1 hown hK hP 0 rfl rfl 1 (by decide) lk40 (fun _ h9 => h9) rfl dX1_coils_33 ?_
            refine gz_iadd (i := i * 13) (j := cn) hx hb dX1_coils_36 ?_
            refine lv_iconst (v := nI 1) hx hb dX1_coils_37 (by decide) ?_
            refine gz_isub (i := (i * 13) + cn) (j := 1) hx hb dX1_coils_38 (by omega) ?_
            refine gz_top (j := i * 13 + (cn - 1)) (by omega) ?_
            refine gz_zald (k := i * 13 + (cn - 1)) hx hb hK hP 7 1 rfl rfl (by omega) (by omega) dX1_coils_39 ?_
            refine lv_istore (lv' := [(4, .int (fp (i * 13 + (cn - 1)))), (3, .int (nI (i * 12 + (cn - 1)))), (2, .int (nI i)), (1, .int (q.2)), (0, .ref gm)]) hx hb dX1_coils_40 hl (by decide) rfl (fun ls hl => ?_)
            refine lv_aload_n hx hb dX1_coils_42 rfl (lv_at hl 4 rfl) ?_
            refine va_get (D := (dC, dI)) (ci := 1) (v := .ref ac) (C := RX1) (T := TX1) (N := 10) hx hb hts hin1 hown hK hP 0 rfl rfl 3 (by decide) lk13 (fun _ h9 => h9) rfl dX1_coils_43 ?_
            refine lv_iload_n hx hb dX1_coils_46 rfl (lv_at hl 1 rfl) ?_
            refine gz_iald (k := i * 12 + (cn - 1)) hx hb hK hP 2 0 rfl rfl (by omega) (by omega) dX1_coils_47 ?_
            refine lv_istore (lv' := [(5, .int (fc (i * 12 + (cn - 1)))), (4, .int (fp (i * 13 + (cn - 1)))), (3, .int (nI (i * 12 + (cn - 1)))), (2, .int (nI i)), (1, .int (q.2)), (0, .ref gm)]) hx hb dX1_coils_48 hl (by decide) rfl (fun ls hl => ?_)
            refine lv_aload_n hx hb dX1_coils_50 rfl (lv_at hl 5 rfl) ?_
            refine va_get (D := (dC, dI)) (ci := 1) (v := .ref ak) (C := RX1) (T := TX1) (N := 10) hx hb hts hin1 hown hK hP 0 rfl rfl 2 (by decide) lk7 (fun _ h9 => h9) rfl dX1_coils_51 ?_
            refine lv_iload_n hx hb dX1_coils_54 rfl (lv_at hl 2 rfl) ?_
            refine gz_iald (k := i * 12 + (cn - 1)) hx hb hK hP 1 0 rfl rfl (by omega) (by omega) dX1_coils_55 ?_
            refine lv_bipush (v := nI 6) hx hb dX1_coils_56 (by decide) ?_
            refine gz_icmp_lt (tgt := 155) (za := (fk (i * 12 + (cn - 1))).toInt) (zb := ((6 : Nat) : Int)) hx hb dX1_coils_58 (by decide) rfl (nI_toInt (by omega)) (fun c_2 => False.elim (by omega)) (fun c_2 => ?_)
            refine lv_iload hx hb dX1_coils_61 (lv_at hl 1 rfl) ?_
            refine lv_if_eq (tgt := 72) hx hb dX1_coils_63 (by decide) (fun c_3 => ?_) (fun c_3 => False.elim (c_3 hp))
            refine lv_iload_n hx hb dX1_coils_72 rfl (lv_at hl 4 rfl) ?_
            refine lv_istore_n (lv' := [(1, .int (q.2)), (5, .int (fc (i * 12 + (cn - 1)))), (4, .int (fp (i * 13 + (cn - 1)))), (3, .int (nI (i * 12 + (cn - 1)))), (2, .int (nI i)), (0, .ref gm)]) hx hb dX1_coils_73 rfl hl (by decide) rfl (fun ls hl => ?_)
            refine lv_aload_n hx hb dX1_coils_74 rfl (lv_at hl 5 rfl) ?_
            refine va_get (D := (dC, dI)) (ci := 1) (v := .ref ak) (C := RX1) (T := TX1) (N := 10) hx hb hts hin1 hown hK hP 0 rfl rfl 2 (by decide) lk7 (fun _ h9 => h9) rfl dX1_coils_75 ?_
            refine lv_iload_n hx hb dX1_coils_78 rfl (lv_at hl 3 rfl) ?_
            refine gz_iald (k := i * 12 + (cn - 1)) hx hb hK hP 1 0 rfl rfl (by omega) (by omega) dX1_coils_79 ?_
            refine lv_bipush (v := nI 6) hx hb dX1_coils_80 (by decide) ?_
            refine lv_isub hx hb dX1_coils_82 ?_
            refine gz_topI (y := nI 1) (by rw [ek]; decide) ?_
            refine lv_istore (lv' := [(6, .int (nI 1)), (1, .int (q.2)), (5, .int (fc (i * 12 + (cn - 1)))), (4, .int (fp (i * 13 + (cn - 1)))), (3, .int (nI (i * 12 + (cn - 1)))), (2, .int (nI i)), (0, .ref gm)]) hx hb dX1_coils_83 hl (by decide) rfl (fun ls hl => ?_)
            refine lv_aload_n hx hb dX1_coils_85 rfl (lv_at hl 6 rfl) ?_
            refine va_get (D := (dC, dI)) (ci := 1) (v := .ref av) (C := RX1) (T := TX1) (N := 10) hx hb hts hin1 hown hK hP 0 rfl rfl 6 (by decide) lk23 (fun _ h9 => h9) rfl dX1_coils_86 ?_
            refine lv_iload hx hb dX1_coils_89 (lv_at hl 2 rfl) ?_
            refine lv_iload hx hb dX1_coils_91 (lv_at hl 0 rfl) ?_
            refine lv_if_ne (tgt := 109) hx hb dX1_coils_93 (by decide) (fun c_4 => ?_) (fun c_4 => False.elim (absurd c_4 (by decide)))
            refine lv_iload hx hb dX1_coils_109 (lv_at hl 0 rfl) ?_
            refine lv_iconst (v := nI 1) hx hb dX1_coils_111 (by decide) ?_
            refine gz_icmp_ne (tgt := 128) (za := ((1 : Nat) : Int)) (zb := ((1 : Nat) : Int)) hx hb dX1_coils_112 (by decide) (nI_toInt (by omega)) (nI_toInt (by omega)) (fun c_5 => False.elim (c_5 rfl)) (fun c_5 => ?_)
            refine lv_iload hx hb dX1_coils_115 (lv_at hl 3 rfl) ?_
            refine lv_if_eq (tgt := 124) hx hb dX1_coils_117 (by decide) (fun c_6 => ?_) (fun c_6 => False.elim (c_6 hp))
            refine lv_iconst (v := nI 1) hx hb dX1_coils_124 (by decide) ?_
            refine lv_goto (tgt := 154) hx hb dX1_coils_125 (by decide) ?_
            refine va_iast hx hb hK hP hD hS 5 0 rfl rfl hci dX1_coils_154 (fun H locs hP hD hS => ?_)
            have hP : va_P (dC, dI) vwCl (mw cA cZ gm ak ac ab al av ah ap fk fc fs fl fp (upd q.1 (fc (i * 12 + (cn - 1))).toNatClampNeg (nI 1)) ft (nI rn) (nI cn) sc) H := hP
            have hD : va_D A (mw cA cZ gm ak ac ab al av ah ap fk fc fs fl fp (upd q.1 (fc (i * 12 + (cn - 1))).toNatClampNeg (nI 1)) ft (nI rn) (nI cn) sc) := hD
            refine lv_iinc (v := nI (i + 1)) (lv' := [(2, .int (nI (i + 1))), (6, .int (nI 1)), (1, .int (q.2)), (5, .int (fc (i * 12 + (cn - 1)))), (4, .int (fp (i * 13 + (cn - 1)))), (3, .int (nI (i * 12 + (cn - 1)))), (0, .ref gm)]) hx hb dX1_coils_155 hl (k := 5) rfl (nI_1 _) (by decide) rfl (fun ls hl => ?_)
            refine lv_goto (tgt := 4) hx hb dX1_coils_158 (by decide) ?_
            exact ih (i + 1) (upd q.1 (fc (i * 12 + (cn - 1))).toNatClampNeg (nI 1), q.2) (by omega) (by show _ = gCo1 _ _ _ _ _ (gCo fk fc fp cn (fv, nI 0) i); rw [← hq]; unfold gCo1; rw [if_pos hco, ek, hp, gCoil_70, gz_add0]) H locs hP hD hS ls (lv_sub hl [0, 2, 6] rfl)
          · skip
            refine lv_iload_n hx hb dX1_coils_4 rfl (lv_at hl 0 rfl) ?_
            refine lv_aload_n hx hb dX1_coils_5 rfl (lv_at hl 2 rfl) ?_
            refine va_get (D := (dC, dI)) (ci := 1) (v := .int (nI rn)) (C := RX1) (T := TX1) (N := 10) hx hb hts hin1 hown hK hP 0 rfl rfl 0 (by decide) lk36 (fun _ h9 => h9) rfl dX1_coils_6 ?_
            refine gz_icmp_ge (tgt := 161) (za := ((i : Nat) : Int)) (zb := ((rn : Nat) : Int)) hx hb dX1_coils_9 (by decide) (nI_toInt (by omega)) (nI_toInt (by omega)) (fun c_1 => False.elim (by omega)) (fun c_1 => ?_)
            refine lv_bipush (v := nI 12) hx hb dX1_coils_12 (by decide) ?_
            refine lv_iload_n hx hb dX1_coils_14 rfl (lv_at hl 0 rfl) ?_
            refine gz_imulc (i := 12) (j := i) hx hb dX1_coils_15 ?_
            refine lv_aload_n hx hb dX1_coils_16 rfl (lv_at hl 2 rfl) ?_
            refine va_get (D := (dC, dI)) (ci := 1) (v := .int (nI cn)) (C := RX1) (T := TX1) (N := 10) hx hb hts hin1 hown hK hP 0 rfl rfl 1 (by decide) lk40 (fun _ h9 => h9) rfl dX1_coils_17 ?_
            refine gz_iadd (i := i * 12) (j := cn) hx hb dX1_coils_20 ?_
            refine lv_iconst (v := nI 1) hx hb dX1_coils_21 (by decide) ?_
            refine gz_isub (i := (i * 12) + cn) (j := 1) hx hb dX1_coils_22 (by omega) ?_
            refine gz_top (j := i * 12 + (cn - 1)) (by omega) ?_
            refine lv_istore_n (lv' := [(3, .int (nI (i * 12 + (cn - 1)))), (2, .int (nI i)), (1, .int (q.2)), (0, .ref gm)]) hx hb dX1_coils_23 rfl hl (by decide) rfl (fun ls hl => ?_)
            refine lv_aload_n hx hb dX1_coils_24 rfl (lv_at hl 3 rfl) ?_
            refine va_get (D := (dC, dI)) (ci := 1) (v := .ref ap) (C := RX1) (T := TX1) (N := 10) hx hb hts hin1 hown hK hP 0 rfl rfl 8 (by decide) lk29 (fun _ h9 => h9) rfl dX1_coils_25 ?_
            refine lv_bipush (v := nI 13) hx hb dX1_coils_28 (by decide) ?_
            refine lv_iload_n hx hb dX1_coils_30 rfl (lv_at hl 1 rfl) ?_
            refine gz_imulc (i := 13) (j := i) hx hb dX1_coils_31 ?_
            refine lv_aload_n hx hb dX1_coils_32 rfl (lv_at hl 3 rfl) ?_
            refine va_get (D := (dC, dI)) (ci := 1) (v := .int (nI cn)) (C := RX1) (T := TX1) (N := 10) hx hb hts hin1 hown hK hP 0 rfl rfl 1 (by decide) lk40 (fun _ h9 => h9) rfl dX1_coils_33 ?_
            refine gz_iadd (i := i * 13) (j := cn) hx hb dX1_coils_36 ?_
            refine lv_iconst (v := nI 1) hx hb dX1_coils_37 (by decide) ?_
            refine gz_isub (i := (i * 13) + cn) (j := 1) hx hb dX1_coils_38 (by omega) ?_
            refine gz_top (j := i * 13 + (cn - 1)) (by omega) ?_
            refine gz_zald (k := i * 13 + (cn - 1)) hx hb hK hP 7 1 rfl rfl (by omega) (by omega) dX1_coils_39 ?_
            refine lv_istore (lv' := [(4, .int (fp (i * 13 + (cn - 1)))), (3, .int (nI (i * 12 + (cn - 1)))), (2, .int (nI i)), (1, .int (q.2)), (0, .ref gm)]) hx hb dX1_coils_40 hl (by decide) rfl (fun ls hl => ?_)
            refine lv_aload_n hx hb dX1_coils_42 rfl (lv_at hl 4 rfl) ?_
            refine va_get (D := (dC, dI)) (ci := 1) (v := .ref ac) (C := RX1) (T := TX1) (N := 10) hx hb hts hin1 hown hK hP 0 rfl rfl 3 (by decide) lk13 (fun _ h9 => h9) rfl dX1_coils_43 ?_
            refine lv_iload_n hx hb dX1_coils_46 rfl (lv_at hl 1 rfl) ?_
            refine gz_iald (k := i * 12 + (cn - 1)) hx hb hK hP 2 0 rfl rfl (by omega) (by omega) dX1_coils_47 ?_
            refine lv_istore (lv' := [(5, .int (fc (i * 12 + (cn - 1)))), (4, .int (fp (i * 13 + (cn - 1)))), (3, .int (nI (i * 12 + (cn - 1)))), (2, .int (nI i)), (1, .int (q.2)), (0, .ref gm)]) hx hb dX1_coils_48 hl (by decide) rfl (fun ls hl => ?_)
            refine lv_aload_n hx hb dX1_coils_50 rfl (lv_at hl 5 rfl) ?_
            refine va_get (D := (dC, dI)) (ci := 1) (v := .ref ak) (C := RX1) (T := TX1) (N := 10) hx hb hts hin1 hown hK hP 0 rfl rfl 2 (by decide) lk7 (fun _ h9 => h9) rfl dX1_coils_51 ?_
            refine lv_iload_n hx hb dX1_coils_54 rfl (lv_at hl 2 rfl) ?_
            refine gz_iald (k := i * 12 + (cn - 1)) hx hb hK hP 1 0 rfl rfl (by omega) (by omega) dX1_coils_55 ?_
            refine lv_bipush (v := nI 6) hx hb dX1_coils_56 (by decide) ?_
            refine gz_icmp_lt (tgt := 155) (za := (fk (i * 12 + (cn - 1))).toInt) (zb := ((6 : Nat) : Int)) hx hb dX1_coils_58 (by decide) rfl (nI_toInt (by omega)) (fun c_2 => False.elim (by omega)) (fun c_2 => ?_)
            refine lv_iload hx hb dX1_coils_61 (lv_at hl 1 rfl) ?_
            refine lv_if_eq (tgt := 72) hx hb dX1_coils_63 (by decide) (fun c_3 => False.elim (absurd (hp.symm.trans c_3) (by decide))) (fun c_3 => ?_)
            refine lv_iload_n hx hb dX1_coils_66 rfl (lv_at hl 4 rfl) ?_
            refine lv_iconst (v := nI 1) hx hb dX1_coils_67 (by decide) ?_
            refine lv_iadd hx hb dX1_coils_68 ?_
            refine lv_goto (tgt := 73) hx hb dX1_coils_69 (by decide) ?_
            refine lv_istore_n (lv' := [(1, .int (q.2 + (nI 1))), (5, .int (fc (i * 12 + (cn - 1)))), (4, .int (fp (i * 13 + (cn - 1)))), (3, .int (nI (i * 12 + (cn - 1)))), (2, .int (nI i)), (0, .ref gm)]) hx hb dX1_coils_73 rfl hl (by decide) rfl (fun ls hl => ?_)
            refine lv_aload_n hx hb dX1_coils_74 rfl (lv_at hl 5 rfl) ?_
            refine va_get (D := (dC, dI)) (ci := 1) (v := .ref ak) (C := RX1) (T := TX1) (N := 10) hx hb hts hin1 hown hK hP 0 rfl rfl 2 (by decide) lk7 (fun _ h9 => h9) rfl dX1_coils_75 ?_
            refine lv_iload_n hx hb dX1_coils_78 rfl (lv_at hl 3 rfl) ?_
            refine gz_iald (k := i * 12 + (cn - 1)) hx hb hK hP 1 0 rfl rfl (by omega) (by omega) dX1_coils_79 ?_
            refine lv_bipush (v := nI 6) hx hb dX1_coils_80 (by decide) ?_
            refine lv_isub hx hb dX1_coils_82 ?_
            refine gz_topI (y := nI 1) (by rw [ek]; decide) ?_
            refine lv_istore (lv' := [(6, .int (nI 1)), (1, .int (q.2 + (nI 1))), (5, .int (fc (i * 12 + (cn - 1)))), (4, .int (fp (i * 13 + (cn - 1)))), (3, .int (nI (i * 12 + (cn - 1)))), (2, .int (nI i)), (0, .ref gm)]) hx hb dX1_coils_83 hl (by decide) rfl (fun ls hl => ?_)
            refine lv_aload_n hx hb dX1_coils_85 rfl (lv_at hl 6 rfl) ?_
            refine va_get (D := (dC, dI)) (ci := 1) (v := .ref av) (C := RX1) (T := TX1) (N := 10) hx hb hts hin1 hown hK hP 0 rfl rfl 6 (by decide) lk23 (fun _ h9 => h9) rfl dX1_coils_86 ?_
            refine lv_iload hx hb dX1_coils_89 (lv_at hl 2 rfl) ?_
            refine lv_iload hx hb dX1_coils_91 (lv_at hl 0 rfl) ?_
            refine lv_if_ne (tgt := 109) hx hb dX1_coils_93 (by decide) (fun c_4 => ?_) (fun c_4 => False.elim (absurd c_4 (by decide)))
            refine lv_iload hx hb dX1_coils_109 (lv_at hl 0 rfl) ?_
            refine lv_iconst (v := nI 1) hx hb dX1_coils_111 (by decide) ?_
            refine gz_icmp_ne (tgt := 128) (za := ((1 : Nat) : Int)) (zb := ((1 : Nat) : Int)) hx hb dX1_coils_112 (by decide) (nI_toInt (by omega)) (nI_toInt (by omega)) (fun c_5 => False.elim (c_5 rfl)) (fun c_5 => ?_)
            refine lv_iload hx hb dX1_coils_115 (lv_at hl 3 rfl) ?_
            refine lv_if_eq (tgt := 124) hx hb dX1_coils_117 (by decide) (fun c_6 => False.elim (absurd (hp.symm.trans c_6) (by decide))) (fun c_6 => ?_)
            refine lv_iconst (v := nI 0) hx hb dX1_coils_120 (by decide) ?_
            refine lv_goto (tgt := 154) hx hb dX1_coils_121 (by decide) ?_
            refine va_iast hx hb hK hP hD hS 5 0 rfl rfl hci dX1_coils_154 (fun H locs hP hD hS => ?_)
            have hP : va_P (dC, dI) vwCl (mw cA cZ gm ak ac ab al av ah ap fk fc fs fl fp (upd q.1 (fc (i * 12 + (cn - 1))).toNatClampNeg (nI 0)) ft (nI rn) (nI cn) sc) H := hP
            have hD : va_D A (mw cA cZ gm ak ac ab al av ah ap fk fc fs fl fp (upd q.1 (fc (i * 12 + (cn - 1))).toNatClampNeg (nI 0)) ft (nI rn) (nI cn) sc) := hD
            refine lv_iinc (v := nI (i + 1)) (lv' := [(2, .int (nI (i + 1))), (6, .int (nI 1)), (1, .int (q.2 + (nI 1))), (5, .int (fc (i * 12 + (cn - 1)))), (4, .int (fp (i * 13 + (cn - 1)))), (3, .int (nI (i * 12 + (cn - 1)))), (0, .ref gm)]) hx hb dX1_coils_155 hl (k := 5) rfl (nI_1 _) (by decide) rfl (fun ls hl => ?_)
            refine lv_goto (tgt := 4) hx hb dX1_coils_158 (by decide) ?_
            exact ih (i + 1) (upd q.1 (fc (i * 12 + (cn - 1))).toNatClampNeg (nI 0), q.2 + (nI 1)) (by omega) (by show _ = gCo1 _ _ _ _ _ (gCo fk fc fp cn (fv, nI 0) i); rw [← hq]; unfold gCo1; rw [if_pos hco, ek, hp, gCoil_71]) H locs hP hD hS ls (lv_sub hl [0, 2, 6] rfl)
        · subst hkv
          rcases hfp (i * 13 + (cn - 1)) (by omega) with hp | hp
          · skip
            refine lv_iload_n hx hb dX1_coils_4 rfl (lv_at hl 0 rfl) ?_
            refine lv_aload_n hx hb dX1_coils_5 rfl (lv_at hl 2 rfl) ?_
            refine va_get (D := (dC, dI)) (ci := 1) (v := .int (nI rn)) (C := RX1) (T := TX1) (N := 10) hx hb hts hin1 hown hK hP 0 rfl rfl 0 (by decide) lk36 (fun _ h9 => h9) rfl dX1_coils_6 ?_
            refine gz_icmp_ge (tgt := 161) (za := ((i : Nat) : Int)) (zb := ((rn : Nat) : Int)) hx hb dX1_coils_9 (by decide) (nI_toInt (by omega)) (nI_toInt (by omega)) (fun c_1 => False.elim (by omega)) (fun c_1 => ?_)
            refine lv_bipush (v := nI 12) hx hb dX1_coils_12 (by decide) ?_
            refine lv_iload_n hx hb dX1_coils_14 rfl (lv_at hl 0 rfl) ?_
            refine gz_imulc (i := 12) (j := i) hx hb dX1_coils_15 ?_
            refine lv_aload_n hx hb dX1_coils_16 rfl (lv_at hl 2 rfl) ?_
            refine va_get (D := (dC, dI)) (ci := 1) (v := .int (nI cn)) (C := RX1) (T := TX1) (N := 10) hx hb hts hin1 hown hK hP 0 rfl rfl 1 (by decide) lk40 (fun _ h9 => h9) rfl dX1_coils_17 ?_
            refine gz_iadd (i := i * 12) (j := cn) hx hb dX1_coils_20 ?_
            refine lv_iconst (v := nI 1) hx hb dX1_coils_21 (by decide) ?_
            refine gz_isub (i := (i * 12) + cn) (j := 1) hx hb dX1_coils_22 (by omega) ?_
            refine gz_top (j := i * 12 + (cn - 1)) (by omega) ?_
            refine lv_istore_n (lv' := [(3, .int (nI (i * 12 + (cn - 1)))), (2, .int (nI i)), (1, .int (q.2)), (0, .ref gm)]) hx hb dX1_coils_23 rfl hl (by decide) rfl (fun ls hl => ?_)
            refine lv_aload_n hx hb dX1_coils_24 rfl (lv_at hl 3 rfl) ?_
            refine va_get (D := (dC, dI)) (ci := 1) (v := .ref ap) (C := RX1) (T := TX1) (N := 10) hx hb hts hin1 hown hK hP 0 rfl rfl 8 (by decide) lk29 (fun _ h9 => h9) rfl dX1_coils_25 ?_
            refine lv_bipush (v := nI 13) hx hb dX1_coils_28 (by decide) ?_
            refine lv_iload_n hx hb dX1_coils_30 rfl (lv_at hl 1 rfl) ?_
            refine gz_imulc (i := 13) (j := i) hx hb dX1_coils_31 ?_
            refine lv_aload_n hx hb dX1_coils_32 rfl (lv_at hl 3 rfl) ?_
            refine va_get (D := (dC, dI)) (ci := 1) (v := .int (nI cn)) (C := RX1) (T := TX1) (N := 10) hx hb hts hin1 hown hK hP 0 rfl rfl 1 (by decide) lk40 (fun _ h9 => h9) rfl dX1_coils_33 ?_
            refine gz_iadd (i := i * 13) (j := cn) hx hb dX1_coils_36 ?_
            refine lv_iconst (v := nI 1) hx hb dX1_coils_37 (by decide) ?_
            refine gz_isub (i := (i * 13) + cn) (j := 1) hx hb dX1_coils_38 (by omega) ?_
            refine gz_top (j := i * 13 + (cn - 1)) (by omega) ?_
            refine gz_zald (k := i * 13 + (cn - 1)) hx hb hK hP 7 1 rfl rfl (by omega) (by omega) dX1_coils_39 ?_
            refine lv_istore (lv' := [(4, .int (fp (i * 13 + (cn - 1)))), (3, .int (nI (i * 12 + (cn - 1)))), (2, .int (nI i)), (1, .int (q.2)), (0, .ref gm)]) hx hb dX1_coils_40 hl (by decide) rfl (fun ls hl => ?_)
            refine lv_aload_n hx hb dX1_coils_42 rfl (lv_at hl 4 rfl) ?_
            refine va_get (D := (dC, dI)) (ci := 1) (v := .ref ac) (C := RX1) (T := TX1) (N := 10) hx hb hts hin1 hown hK hP 0 rfl rfl 3 (by decide) lk13 (fun _ h9 => h9) rfl dX1_coils_43 ?_
            refine lv_iload_n hx hb dX1_coils_46 rfl (lv_at hl 1 rfl) ?_
            refine gz_iald (k := i * 12 + (cn - 1)) hx hb hK hP 2 0 rfl rfl (by omega) (by omega) dX1_coils_47 ?_
            refine lv_istore (lv' := [(5, .int (fc (i * 12 + (cn - 1)))), (4, .int (fp (i * 13 + (cn - 1)))), (3, .int (nI (i * 12 + (cn - 1)))), (2, .int (nI i)), (1, .int (q.2)), (0, .ref gm)]) hx hb dX1_coils_48 hl (by decide) rfl (fun ls hl => ?_)
            refine lv_aload_n hx hb dX1_coils_50 rfl (lv_at hl 5 rfl) ?_
            refine va_get (D := (dC, dI)) (ci := 1) (v := .ref ak) (C := RX1) (T := TX1) (N := 10) hx hb hts hin1 hown hK hP 0 rfl rfl 2 (by decide) lk7 (fun _ h9 => h9) rfl dX1_coils_51 ?_
            refine lv_iload_n hx hb dX1_coils_54 rfl (lv_at hl 2 rfl) ?_
            refine gz_iald (k := i * 12 + (cn - 1)) hx hb hK hP 1 0 rfl rfl (by omega) (by omega) dX1_coils_55 ?_
            refine lv_bipush (v := nI 6) hx hb dX1_coils_56 (by decide) ?_
            refine gz_icmp_lt (tgt := 155) (za := (fk (i * 12 + (cn - 1))).toInt) (zb := ((6 : Nat) : Int)) hx hb dX1_coils_58 (by decide) rfl (nI_toInt (by omega)) (fun c_2 => False.elim (by omega)) (fun c_2 => ?_)
            refine lv_iload hx hb dX1_coils_61 (lv_at hl 1 rfl) ?_
            refine lv_if_eq (tgt := 72) hx hb dX1_coils_63 (by decide) (fun c_3 => ?_) (fun c_3 => False.elim (c_3 hp))
            refine lv_iload_n hx hb dX1_coils_72 rfl (lv_at hl 4 rfl) ?_
            refine lv_istore_n (lv' := [(1, .int (q.2)), (5, .int (fc (i * 12 + (cn - 1)))), (4, .int (fp (i * 13 + (cn - 1)))), (3, .int (nI (i * 12 + (cn - 1)))), (2, .int (nI i)), (0, .ref gm)]) hx hb dX1_coils_73 rfl hl (by decide) rfl (fun ls hl => ?_)
            refine lv_aload_n hx hb dX1_coils_74 rfl (lv_at hl 5 rfl) ?_
            refine va_get (D := (dC, dI)) (ci := 1) (v := .ref ak) (C := RX1) (T := TX1) (N := 10) hx hb hts hin1 hown hK hP 0 rfl rfl 2 (by decide) lk7 (fun _ h9 => h9) rfl dX1_coils_75 ?_
            refine lv_iload_n hx hb dX1_coils_78 rfl (lv_at hl 3 rfl) ?_
            refine gz_iald (k := i * 12 + (cn - 1)) hx hb hK hP 1 0 rfl rfl (by omega) (by omega) dX1_coils_79 ?_
            refine lv_bipush (v := nI 6) hx hb dX1_coils_80 (by decide) ?_
            refine lv_isub hx hb dX1_coils_82 ?_
            refine gz_topI (y := nI 2) (by rw [ek]; decide) ?_
            refine lv_istore (lv' := [(6, .int (nI 2)), (1, .int (q.2)), (5, .int (fc (i * 12 + (cn - 1)))), (4, .int (fp (i * 13 + (cn - 1)))), (3, .int (nI (i * 12 + (cn - 1)))), (2, .int (nI i)), (0, .ref gm)]) hx hb dX1_coils_83 hl (by decide) rfl (fun ls hl => ?_)
            refine lv_aload_n hx hb dX1_coils_85 rfl (lv_at hl 6 rfl) ?_
            refine va_get (D := (dC, dI)) (ci := 1) (v := .ref av) (C := RX1) (T := TX1) (N := 10) hx hb hts hin1 hown hK hP 0 rfl rfl 6 (by decide) lk23 (fun _ h9 => h9) rfl dX1_coils_86 ?_
            refine lv_iload hx hb dX1_coils_89 (lv_at hl 2 rfl) ?_
            refine lv_iload hx hb dX1_coils_91 (lv_at hl 0 rfl) ?_
            refine lv_if_ne (tgt := 109) hx hb dX1_coils_93 (by decide) (fun c_4 => ?_) (fun c_4 => False.elim (absurd c_4 (by decide)))
            refine lv_iload hx hb dX1_coils_109 (lv_at hl 0 rfl) ?_
            refine lv_iconst (v := nI 1) hx hb dX1_coils_111 (by decide) ?_
            refine gz_icmp_ne (tgt := 128) (za := ((2 : Nat) : Int)) (zb := ((1 : Nat) : Int)) hx hb dX1_coils_112 (by decide) (nI_toInt (by omega)) (nI_toInt (by omega)) (fun c_5 => ?_) (fun c_5 => False.elim (absurd c_5 (by decide)))
            refine lv_iload hx hb dX1_coils_128 (lv_at hl 3 rfl) ?_
            refine lv_if_eq (tgt := 147) hx hb dX1_coils_130 (by decide) (fun c_6 => ?_) (fun c_6 => False.elim (c_6 hp))
            refine lv_aload_n hx hb dX1_coils_147 rfl (lv_at hl 6 rfl) ?_
            refine va_get (D := (dC, dI)) (ci := 1) (v := .ref av) (C := RX1) (T := TX1) (N := 10) hx hb hts hin1 hown hK hP 0 rfl rfl 6 (by decide) lk23 (fun _ h9 => h9) rfl dX1_coils_148 ?_
            refine lv_iload hx hb dX1_coils_151 (lv_at hl 2 rfl) ?_
            refine va_iald hx hb hK hP 5 0 rfl rfl hci dX1_coils_153 ?_
            refine va_iast hx hb hK hP hD hS 5 0 rfl rfl hci dX1_coils_154 (fun H locs hP hD hS => ?_)
            have hP : va_P (dC, dI) vwCl (mw cA cZ gm ak ac ab al av ah ap fk fc fs fl fp (upd q.1 (fc (i * 12 + (cn - 1))).toNatClampNeg (q.1 (fc (i * 12 + (cn - 1))).toNatClampNeg)) ft (nI rn) (nI cn) sc) H := hP
            have hD : va_D A (mw cA cZ gm ak ac ab al av ah ap fk fc fs fl fp (upd q.1 (fc (i * 12 + (cn - 1))).toNatClampNeg (q.1 (fc (i * 12 + (cn - 1))).toNatClampNeg)) ft (nI rn) (nI cn) sc) := hD
            refine lv_iinc (v := nI (i + 1)) (lv' := [(2, .int (nI (i + 1))), (6, .int (nI 2)), (1, .int (q.2)), (5, .int (fc (i * 12 + (cn - 1)))), (4, .int (fp (i * 13 + (cn - 1)))), (3, .int (nI (i * 12 + (cn - 1)))), (0, .ref gm)]) hx hb dX1_coils_155 hl (k := 5) rfl (nI_1 _) (by decide) rfl (fun ls hl => ?_)
            refine lv_goto (tgt := 4) hx hb dX1_coils_158 (by decide) ?_
            exact ih (i + 1) (upd q.1 (fc (i * 12 + (cn - 1))).toNatClampNeg (q.1 (fc (i * 12 + (cn - 1))).toNatClampNeg), q.2) (by omega) (by show _ = gCo1 _ _ _ _ _ (gCo fk fc fp cn (fv, nI 0) i); rw [← hq]; unfold gCo1; rw [if_pos hco, ek, hp, gCoil_80, gz_add0]) H locs hP hD hS ls (lv_sub hl [0, 2, 6] rfl)
          · skip
            refine lv_iload_n hx hb dX1_coils_4 rfl (lv_at hl 0 rfl) ?_
            refine lv_aload_n hx hb dX1_coils_5 rfl (lv_at hl 2 rfl) ?_
            refine va_get (D := (dC, dI)) (ci := 1) (v := .int (nI rn)) (C := RX1) (T := TX1) (N := 10) hx hb hts hin1 hown hK hP 0 rfl rfl 0 (by decide) lk36 (fun _ h9 => h9) rfl dX1_coils_6 ?_
            refine gz_icmp_ge (tgt := 161) (za := ((i : Nat) : Int)) (zb := ((rn : Nat) : Int)) hx hb dX1_coils_9 (by decide) (nI_toInt (by omega)) (nI_toInt (by omega)) (fun c_1 => False.elim (by omega)) (fun c_1 => ?_)
            refine lv_bipush (v := nI 12) hx hb dX1_coils_12 (by decide) ?_
            refine lv_iload_n hx hb dX1_coils_14 rfl (lv_at hl 0 rfl) ?_
            refine gz_imulc (i := 12) (j := i) hx hb dX1_coils_15 ?_
            refine lv_aload_n hx hb dX1_coils_16 rfl (lv_at hl 2 rfl) ?_
            refine va_get (D := (dC, dI)) (ci := 1) (v := .int (nI cn)) (C := RX1) (T := TX1) (N := 10) hx hb hts hin1 hown hK hP 0 rfl rfl 1 (by decide) lk40 (fun _ h9 => h9) rfl dX1_coils_17 ?_
            refine gz_iadd (i := i * 12) (j := cn) hx hb dX1_coils_20 ?_
            refine lv_iconst (v := nI 1) hx hb dX1_coils_21 (by decide) ?_
            refine gz_isub (i := (i * 12) + cn) (j := 1) hx hb dX1_coils_22 (by omega) ?_
            refine gz_top (j := i * 12 + (cn - 1)) (by omega) ?_
            refine lv_istore_n (lv' := [(3, .int (nI (i * 12 + (cn - 1)))), (2, .int (nI i)), (1, .int (q.2)), (0, .ref gm)]) hx hb dX1_coils_23 rfl hl (by decide) rfl (fun ls hl => ?_)
            refine lv_aload_n hx hb dX1_coils_24 rfl (lv_at hl 3 rfl) ?_
            refine va_get (D := (dC, dI)) (ci := 1) (v := .ref ap) (C := RX1) (T := TX1) (N := 10) hx hb hts hin1 hown hK hP 0 rfl rfl 8 (by decide) lk29 (fun _ h9 => h9) rfl dX1_coils_25 ?_
            refine lv_bipush (v := nI 13) hx hb dX1_coils_28 (by decide) ?_
            refine lv_iload_n hx hb dX1_coils_30 rfl (lv_at hl 1 rfl) ?_
            refine gz_imulc (i := 13) (j := i) hx hb dX1_coils_31 ?_
            refine lv_aload_n hx hb dX1_coils_32 rfl (lv_at hl 3 rfl) ?_
            refine va_get (D := (dC, dI)) (ci := 1) (v := .int (nI cn)) (C := RX1) (T := TX1) (N := 10) hx hb hts hin1 hown hK hP 0 rfl rfl 1 (by decide) lk40 (fun _ h9 => h9) rfl dX1_coils_33 ?_
            refine gz_iadd (i := i * 13) (j := cn) hx hb dX1_coils_36 ?_
            refine lv_iconst (v := nI 1) hx hb dX1_coils_37 (by decide) ?_
            refine gz_isub (i := (i * 13) + cn) (j := 1) hx hb dX1_coils_38 (by omega) ?_
            refine gz_top (j := i * 13 + (cn - 1)) (by omega) ?_
            refine gz_zald (k := i * 13 + (cn - 1)) hx hb hK hP 7 1 rfl rfl (by omega) (by omega) dX1_coils_39 ?_
            refine lv_istore (lv' := [(4, .int (fp (i * 13 + (cn - 1)))), (3, .int (nI (i * 12 + (cn - 1)))), (2, .int (nI i)), (1, .int (q.2)), (0, .ref gm)]) hx hb dX1_coils_40 hl (by decide) rfl (fun ls hl => ?_)
            refine lv_aload_n hx hb dX1_coils_42 rfl (lv_at hl 4 rfl) ?_
            refine va_get (D := (dC, dI)) (ci := 1) (v := .ref ac) (C := RX1) (T := TX1) (N := 10) hx hb hts hin1 hown hK hP 0 rfl rfl 3 (by decide) lk13 (fun _ h9 => h9) rfl dX1_coils_43 ?_
            refine lv_iload_n hx hb dX1_coils_46 rfl (lv_at hl 1 rfl) ?_
            refine gz_iald (k := i * 12 + (cn - 1)) hx hb hK hP 2 0 rfl rfl (by omega) (by omega) dX1_coils_47 ?_
            refine lv_istore (lv' := [(5, .int (fc (i * 12 + (cn - 1)))), (4, .int (fp (i * 13 + (cn - 1)))), (3, .int (nI (i * 12 + (cn - 1)))), (2, .int (nI i)), (1, .int (q.2)), (0, .ref gm)]) hx hb dX1_coils_48 hl (by decide) rfl (fun ls hl => ?_)
            refine lv_aload_n hx hb dX1_coils_50 rfl (lv_at hl 5 rfl) ?_
            refine va_get (D := (dC, dI)) (ci := 1) (v := .ref ak) (C := RX1) (T := TX1) (N := 10) hx hb hts hin1 hown hK hP 0 rfl rfl 2 (by decide) lk7 (fun _ h9 => h9) rfl dX1_coils_51 ?_
            refine lv_iload_n hx hb dX1_coils_54 rfl (lv_at hl 2 rfl) ?_
            refine gz_iald (k := i * 12 + (cn - 1)) hx hb hK hP 1 0 rfl rfl (by omega) (by omega) dX1_coils_55 ?_
            refine lv_bipush (v := nI 6) hx hb dX1_coils_56 (by decide) ?_
            refine gz_icmp_lt (tgt := 155) (za := (fk (i * 12 + (cn - 1))).toInt) (zb := ((6 : Nat) : Int)) hx hb dX1_coils_58 (by decide) rfl (nI_toInt (by omega)) (fun c_2 => False.elim (by omega)) (fun c_2 => ?_)
            refine lv_iload hx hb dX1_coils_61 (lv_at hl 1 rfl) ?_
            refine lv_if_eq (tgt := 72) hx hb dX1_coils_63 (by decide) (fun c_3 => False.elim (absurd (hp.symm.trans c_3) (by decide))) (fun c_3 => ?_)
            refine lv_iload_n hx hb dX1_coils_66 rfl (lv_at hl 4 rfl) ?_
            refine lv_iconst (v := nI 1) hx hb dX1_coils_67 (by decide) ?_
            refine lv_iadd hx hb dX1_coils_68 ?_
            refine lv_goto (tgt := 73) hx hb dX1_coils_69 (by decide) ?_
            refine lv_istore_n (lv' := [(1, .int (q.2 + (nI 1))), (5, .int (fc (i * 12 + (cn - 1)))), (4, .int (fp (i * 13 + (cn - 1)))), (3, .int (nI (i * 12 + (cn - 1)))), (2, .int (nI i)), (0, .ref gm)]) hx hb dX1_coils_73 rfl hl (by decide) rfl (fun ls hl => ?_)
            refine lv_aload_n hx hb dX1_coils_74 rfl (lv_at hl 5 rfl) ?_
            refine va_get (D := (dC, dI)) (ci := 1) (v := .ref ak) (C := RX1) (T := TX1) (N := 10) hx hb hts hin1 hown hK hP 0 rfl rfl 2 (by decide) lk7 (fun _ h9 => h9) rfl dX1_coils_75 ?_
            refine lv_iload_n hx hb dX1_coils_78 rfl (lv_at hl 3 rfl) ?_
            refine gz_iald (k := i * 12 + (cn - 1)) hx hb hK hP 1 0 rfl rfl (by omega) (by omega) dX1_coils_79 ?_
            refine lv_bipush (v := nI 6) hx hb dX1_coils_80 (by decide) ?_
            refine lv_isub hx hb dX1_coils_82 ?_
            refine gz_topI (y := nI 2) (by rw [ek]; decide) ?_
            refine lv_istore (lv' := [(6, .int (nI 2)), (1, .int (q.2 + (nI 1))), (5, .int (fc (i * 12 + (cn - 1)))), (4, .int (fp (i * 13 + (cn - 1)))), (3, .int (nI (i * 12 + (cn - 1)))), (2, .int (nI i)), (0, .ref gm)]) hx hb dX1_coils_83 hl (by decide) rfl (fun ls hl => ?_)
            refine lv_aload_n hx hb dX1_coils_85 rfl (lv_at hl 6 rfl) ?_
            refine va_get (D := (dC, dI)) (ci := 1) (v := .ref av) (C := RX1) (T := TX1) (N := 10) hx hb hts hin1 hown hK hP 0 rfl rfl 6 (by decide) lk23 (fun _ h9 => h9) rfl dX1_coils_86 ?_
            refine lv_iload hx hb dX1_coils_89 (lv_at hl 2 rfl) ?_
            refine lv_iload hx hb dX1_coils_91 (lv_at hl 0 rfl) ?_
            refine lv_if_ne (tgt := 109) hx hb dX1_coils_93 (by decide) (fun c_4 => ?_) (fun c_4 => False.elim (absurd c_4 (by decide)))
            refine lv_iload hx hb dX1_coils_109 (lv_at hl 0 rfl) ?_
            refine lv_iconst (v := nI 1) hx hb dX1_coils_111 (by decide) ?_
            refine gz_icmp_ne (tgt := 128) (za := ((2 : Nat) : Int)) (zb := ((1 : Nat) : Int)) hx hb dX1_coils_112 (by decide) (nI_toInt (by omega)) (nI_toInt (by omega)) (fun c_5 => ?_) (fun c_5 => False.elim (absurd c_5 (by decide)))
            refine lv_iload hx hb dX1_coils_128 (lv_at hl 3 rfl) ?_
            refine lv_if_eq (tgt := 147) hx hb dX1_coils_130 (by decide) (fun c_6 => False.elim (absurd (hp.symm.trans c_6) (by decide))) (fun c_6 => ?_)
            refine lv_iload hx hb dX1_coils_133 (lv_at hl 0 rfl) ?_
            refine lv_iconst (v := nI 2) hx hb dX1_coils_135 (by decide) ?_
            refine gz_icmp_ne (tgt := 143) (za := ((2 : Nat) : Int)) (zb := ((2 : Nat) : Int)) hx hb dX1_coils_136 (by decide) (nI_toInt (by omega)) (nI_toInt (by omega)) (fun c_7 => False.elim (c_7 rfl)) (fun c_7 => ?_)
            refine lv_iconst (v := nI 1) hx hb dX1_coils_139 (by decide) ?_
            refine lv_goto (tgt := 154) hx hb dX1_coils_140 (by decide) ?_
            refine va_iast hx hb hK hP hD hS 5 0 rfl rfl hci dX1_coils_154 (fun H locs hP hD hS => ?_)
            have hP : va_P (dC, dI) vwCl (mw cA cZ gm ak ac ab al av ah ap fk fc fs fl fp (upd q.1 (fc (i * 12 + (cn - 1))).toNatClampNeg (nI 1)) ft (nI rn) (nI cn) sc) H := hP
            have hD : va_D A (mw cA cZ gm ak ac ab al av ah ap fk fc fs fl fp (upd q.1 (fc (i * 12 + (cn - 1))).toNatClampNeg (nI 1)) ft (nI rn) (nI cn) sc) := hD
            refine lv_iinc (v := nI (i + 1)) (lv' := [(2, .int (nI (i + 1))), (6, .int (nI 2)), (1, .int (q.2 + (nI 1))), (5, .int (fc (i * 12 + (cn - 1)))), (4, .int (fp (i * 13 + (cn - 1)))), (3, .int (nI (i * 12 + (cn - 1)))), (0, .ref gm)]) hx hb dX1_coils_155 hl (k := 5) rfl (nI_1 _) (by decide) rfl (fun ls hl => ?_)
            refine lv_goto (tgt := 4) hx hb dX1_coils_158 (by decide) ?_
            exact ih (i + 1) (upd q.1 (fc (i * 12 + (cn - 1))).toNatClampNeg (nI 1), q.2 + (nI 1)) (by omega) (by show _ = gCo1 _ _ _ _ _ (gCo fk fc fp cn (fv, nI 0) i); rw [← hq]; unfold gCo1; rw [if_pos hco, ek, hp, gCoil_81]) H locs hP hD hS ls (lv_sub hl [0, 2, 6] rfl)
        · subst hkv
          rcases hfp (i * 13 + (cn - 1)) (by omega) with hp | hp
          · skip
            refine lv_iload_n hx hb dX1_coils_4 rfl (lv_at hl 0 rfl) ?_
            refine lv_aload_n hx hb dX1_coils_5 rfl (lv_at hl 2 rfl) ?_
            refine va_get (D := (dC, dI)) (ci := 1) (v := .int (nI rn)) (C := RX1) (T := TX1) (N := 10) hx hb hts hin1 hown hK hP 0 rfl rfl 0 (by decide) lk36 (fun _ h9 => h9) rfl dX1_coils_6 ?_
            refine gz_icmp_ge (tgt := 161) (za := ((i : Nat) : Int)) (zb := ((rn : Nat) : Int)) hx hb dX1_coils_9 (by decide) (nI_toInt (by omega)) (nI_toInt (by omega)) (fun c_1 => False.elim (by omega)) (fun c_1 => ?_)
            refine lv_bipush (v := nI 12) hx hb dX1_coils_12 (by decide) ?_
            refine lv_iload_n hx hb dX1_coils_14 rfl (lv_at hl 0 rfl) ?_
            refine gz_imulc (i := 12) (j := i) hx hb dX1_coils_15 ?_
            refine lv_aload_n hx hb dX1_coils_16 rfl (lv_at hl 2 rfl) ?_
            refine va_get (D := (dC, dI)) (ci := 1) (v := .int (nI cn)) (C := RX1) (T := TX1) (N := 10) hx hb hts hin1 hown hK hP 0 rfl rfl 1 (by decide) lk40 (fun _ h9 => h9) rfl dX1_coils_17 ?_
            refine gz_iadd (i := i * 12) (j := cn) hx hb dX1_coils_20 ?_
            refine lv_iconst (v := nI 1) hx hb dX1_coils_21 (by decide) ?_
            refine gz_isub (i := (i * 12) + cn) (j := 1) hx hb dX1_coils_22 (by omega) ?_
            refine gz_top (j := i * 12 + (cn - 1)) (by omega) ?_
            refine lv_istore_n (lv' := [(3, .int (nI (i * 12 + (cn - 1)))), (2, .int (nI i)), (1, .int (q.2)), (0, .ref gm)]) hx hb dX1_coils_23 rfl hl (by decide) rfl (fun ls hl => ?_)
            refine lv_aload_n hx hb dX1_coils_24 rfl (lv_at hl 3 rfl) ?_
            refine va_get (D := (dC, dI)) (ci := 1) (v := .ref ap) (C := RX1) (T := TX1) (N := 10) hx hb hts hin1 hown hK hP 0 rfl rfl 8 (by decide) lk29 (fun _ h9 => h9) rfl dX1_coils_25 ?_
            refine lv_bipush (v := nI 13) hx hb dX1_coils_28 (by decide) ?_
            refine lv_iload_n hx hb dX1_coils_30 rfl (lv_at hl 1 rfl) ?_
            refine gz_imulc (i := 13) (j := i) hx hb dX1_coils_31 ?_
            refine lv_aload_n hx hb dX1_coils_32 rfl (lv_at hl 3 rfl) ?_
            refine va_get (D := (dC, dI)) (ci := 1) (v := .int (nI cn)) (C := RX1) (T := TX1) (N := 10) hx hb hts hin1 hown hK hP 0 rfl rfl 1 (by decide) lk40 (fun _ h9 => h9) rfl dX1_coils_33 ?_
            refine gz_iadd (i := i * 13) (j := cn) hx hb dX1_coils_36 ?_
            refine lv_iconst (v := nI 1) hx hb dX1_coils_37 (by decide) ?_
            refine gz_isub (i := (i * 13) + cn) (j := 1) hx hb dX1_coils_38 (by omega) ?_
            refine gz_top (j := i * 13 + (cn - 1)) (by omega) ?_
            refine gz_zald (k := i * 13 + (cn - 1)) hx hb hK hP 7 1 rfl rfl (by omega) (by omega) dX1_coils_39 ?_
            refine lv_istore (lv' := [(4, .int (fp (i * 13 + (cn - 1)))), (3, .int (nI (i * 12 + (cn - 1)))), (2, .int (nI i)), (1, .int (q.2)), (0, .ref gm)]) hx hb dX1_coils_40 hl (by decide) rfl (fun ls hl => ?_)
            refine lv_aload_n hx hb dX1_coils_42 rfl (lv_at hl 4 rfl) ?_
            refine va_get (D := (dC, dI)) (ci := 1) (v := .ref ac) (C := RX1) (T := TX1) (N := 10) hx hb hts hin1 hown hK hP 0 rfl rfl 3 (by decide) lk13 (fun _ h9 => h9) rfl dX1_coils_43 ?_
            refine lv_iload_n hx hb dX1_coils_46 rfl (lv_at hl 1 rfl) ?_
            refine gz_iald (k := i * 12 + (cn - 1)) hx hb hK hP 2 0 rfl rfl (by omega) (by omega) dX1_coils_47 ?_
            refine lv_istore (lv' := [(5, .int (fc (i * 12 + (cn - 1)))), (4, .int (fp (i * 13 + (cn - 1)))), (3, .int (nI (i * 12 + (cn - 1)))), (2, .int (nI i)), (1, .int (q.2)), (0, .ref gm)]) hx hb dX1_coils_48 hl (by decide) rfl (fun ls hl => ?_)
            refine lv_aload_n hx hb dX1_coils_50 rfl (lv_at hl 5 rfl) ?_
            refine va_get (D := (dC, dI)) (ci := 1) (v := .ref ak) (C := RX1) (T := TX1) (N := 10) hx hb hts hin1 hown hK hP 0 rfl rfl 2 (by decide) lk7 (fun _ h9 => h9) rfl dX1_coils_51 ?_
            refine lv_iload_n hx hb dX1_coils_54 rfl (lv_at hl 2 rfl) ?_
            refine gz_iald (k := i * 12 + (cn - 1)) hx hb hK hP 1 0 rfl rfl (by omega) (by omega) dX1_coils_55 ?_
            refine lv_bipush (v := nI 6) hx hb dX1_coils_56 (by decide) ?_
            refine gz_icmp_lt (tgt := 155) (za := (fk (i * 12 + (cn - 1))).toInt) (zb := ((6 : Nat) : Int)) hx hb dX1_coils_58 (by decide) rfl (nI_toInt (by omega)) (fun c_2 => False.elim (by omega)) (fun c_2 => ?_)
            refine lv_iload hx hb dX1_coils_61 (lv_at hl 1 rfl) ?_
            refine lv_if_eq (tgt := 72) hx hb dX1_coils_63 (by decide) (fun c_3 => ?_) (fun c_3 => False.elim (c_3 hp))
            refine lv_iload_n hx hb dX1_coils_72 rfl (lv_at hl 4 rfl) ?_
            refine lv_istore_n (lv' := [(1, .int (q.2)), (5, .int (fc (i * 12 + (cn - 1)))), (4, .int (fp (i * 13 + (cn - 1)))), (3, .int (nI (i * 12 + (cn - 1)))), (2, .int (nI i)), (0, .ref gm)]) hx hb dX1_coils_73 rfl hl (by decide) rfl (fun ls hl => ?_)
            refine lv_aload_n hx hb dX1_coils_74 rfl (lv_at hl 5 rfl) ?_
            refine va_get (D := (dC, dI)) (ci := 1) (v := .ref ak) (C := RX1) (T := TX1) (N := 10) hx hb hts hin1 hown hK hP 0 rfl rfl 2 (by decide) lk7 (fun _ h9 => h9) rfl dX1_coils_75 ?_
            refine lv_iload_n hx hb dX1_coils_78 rfl (lv_at hl 3 rfl) ?_
            refine gz_iald (k := i * 12 + (cn - 1)) hx hb hK hP 1 0 rfl rfl (by omega) (by omega) dX1_coils_79 ?_
            refine lv_bipush (v := nI 6) hx hb dX1_coils_80 (by decide) ?_
            refine lv_isub hx hb dX1_coils_82 ?_
            refine gz_topI (y := nI 3) (by rw [ek]; decide) ?_
            refine lv_istore (lv' := [(6, .int (nI 3)), (1, .int (q.2)), (5, .int (fc (i * 12 + (cn - 1)))), (4, .int (fp (i * 13 + (cn - 1)))), (3, .int (nI (i * 12 + (cn - 1)))), (2, .int (nI i)), (0, .ref gm)]) hx hb dX1_coils_83 hl (by decide) rfl (fun ls hl => ?_)
            refine lv_aload_n hx hb dX1_coils_85 rfl (lv_at hl 6 rfl) ?_
            refine va_get (D := (dC, dI)) (ci := 1) (v := .ref av) (C := RX1) (T := TX1) (N := 10) hx hb hts hin1 hown hK hP 0 rfl rfl 6 (by decide) lk23 (fun _ h9 => h9) rfl dX1_coils_86 ?_
            refine lv_iload hx hb dX1_coils_89 (lv_at hl 2 rfl) ?_
            refine lv_iload hx hb dX1_coils_91 (lv_at hl 0 rfl) ?_
            refine lv_if_ne (tgt := 109) hx hb dX1_coils_93 (by decide) (fun c_4 => ?_) (fun c_4 => False.elim (absurd c_4 (by decide)))
            refine lv_iload hx hb dX1_coils_109 (lv_at hl 0 rfl) ?_
            refine lv_iconst (v := nI 1) hx hb dX1_coils_111 (by decide) ?_
            refine gz_icmp_ne (tgt := 128) (za := ((3 : Nat) : Int)) (zb := ((1 : Nat) : Int)) hx hb dX1_coils_112 (by decide) (nI_toInt (by omega)) (nI_toInt (by omega)) (fun c_5 => ?_) (fun c_5 => False.elim (absurd c_5 (by decide)))
            refine lv_iload hx hb dX1_coils_128 (lv_at hl 3 rfl) ?_
            refine lv_if_eq (tgt := 147) hx hb dX1_coils_130 (by decide) (fun c_6 => ?_) (fun c_6 => False.elim (c_6 hp))
            refine lv_aload_n hx hb dX1_coils_147 rfl (lv_at hl 6 rfl) ?_
            refine va_get (D := (dC, dI)) (ci := 1) (v := .ref av) (C := RX1) (T := TX1) (N := 10) hx hb hts hin1 hown hK hP 0 rfl rfl 6 (by decide) lk23 (fun _ h9 => h9) rfl dX1_coils_148 ?_
            refine lv_iload hx hb dX1_coils_151 (lv_at hl 2 rfl) ?_
            refine va_iald hx hb hK hP 5 0 rfl rfl hci dX1_coils_153 ?_
            refine va_iast hx hb hK hP hD hS 5 0 rfl rfl hci dX1_coils_154 (fun H locs hP hD hS => ?_)
            have hP : va_P (dC, dI) vwCl (mw cA cZ gm ak ac ab al av ah ap fk fc fs fl fp (upd q.1 (fc (i * 12 + (cn - 1))).toNatClampNeg (q.1 (fc (i * 12 + (cn - 1))).toNatClampNeg)) ft (nI rn) (nI cn) sc) H := hP
            have hD : va_D A (mw cA cZ gm ak ac ab al av ah ap fk fc fs fl fp (upd q.1 (fc (i * 12 + (cn - 1))).toNatClampNeg (q.1 (fc (i * 12 + (cn - 1))).toNatClampNeg)) ft (nI rn) (nI cn) sc) := hD
            refine lv_iinc (v := nI (i + 1)) (lv' := [(2, .int (nI (i + 1))), (6, .int (nI 3)), (1, .int (q.2)), (5, .int (fc (i * 12 + (cn - 1)))), (4, .int (fp (i * 13 + (cn - 1)))), (3, .int (nI (i * 12 + (cn - 1)))), (0, .ref gm)]) hx hb dX1_coils_155 hl (k := 5) rfl (nI_1 _) (by decide) rfl (fun ls hl => ?_)
            refine lv_goto (tgt := 4) hx hb dX1_coils_158 (by decide) ?_
            exact ih (i + 1) (upd q.1 (fc (i * 12 + (cn - 1))).toNatClampNeg (q.1 (fc (i * 12 + (cn - 1))).toNatClampNeg), q.2) (by omega) (by show _ = gCo1 _ _ _ _ _ (gCo fk fc fp cn (fv, nI 0) i); rw [← hq]; unfold gCo1; rw [if_pos hco, ek, hp, gCoil_90, gz_add0]) H locs hP hD hS ls (lv_sub hl [0, 2, 6] rfl)
          · skip
            refine lv_iload_n hx hb dX1_coils_4 rfl (lv_at hl 0 rfl) ?_
            refine lv_aload_n hx hb dX1_coils_5 rfl (lv_at hl 2 rfl) ?_
            refine va_get (D := (dC, dI)) (ci := 1) (v := .int (nI rn)) (C := RX1) (T := TX1) (N := 10) hx hb hts hin1 hown hK hP 0 rfl rfl 0 (by decide) lk36 (fun _ h9 => h9) rfl dX1_coils_6 ?_
            refine gz_icmp_ge (tgt := 161) (za := ((i : Nat) : Int)) (zb := ((rn : Nat) : Int)) hx hb dX1_coils_9 (by decide) (nI_toInt (by omega)) (nI_toInt (by omega)) (fun c_1 => False.elim (by omega)) (fun c_1 => ?_)
            refine lv_bipush (v := nI 12) hx hb dX1_coils_12 (by decide) ?_
            refine lv_iload_n hx hb dX1_coils_14 rfl (lv_at hl 0 rfl) ?_
            refine gz_imulc (i := 12) (j := i) hx hb dX1_coils_15 ?_
            refine lv_aload_n hx hb dX1_coils_16 rfl (lv_at hl 2 rfl) ?_
            refine va_get (D := (dC, dI)) (ci := 1) (v := .int (nI cn)) (C := RX1) (T := TX1) (N := 10) hx hb hts hin1 hown hK hP 0 rfl rfl 1 (by decide) lk40 (fun _ h9 => h9) rfl dX1_coils_17 ?_
            refine gz_iadd (i := i * 12) (j := cn) hx hb dX1_coils_20 ?_
            refine lv_iconst (v := nI 1) hx hb dX1_coils_21 (by decide) ?_
            refine gz_isub (i := (i * 12) + cn) (j := 1) hx hb dX1_coils_22 (by omega) ?_
            refine gz_top (j := i * 12 + (cn - 1)) (by omega) ?_
            refine lv_istore_n (lv' := [(3, .int (nI (i * 12 + (cn - 1)))), (2, .int (nI i)), (1, .int (q.2)), (0, .ref gm)]) hx hb dX1_coils_23 rfl hl (by decide) rfl (fun ls hl => ?_)
            refine lv_aload_n hx hb dX1_coils_24 rfl (lv_at hl 3 rfl) ?_
            refine va_get (D := (dC, dI)) (ci := 1) (v := .ref ap) (C := RX1) (T := TX1) (N := 10) hx hb hts hin1 hown hK hP 0 rfl rfl 8 (by decide) lk29 (fun _ h9 => h9) rfl dX1_coils_25 ?_
            refine lv_bipush (v := nI 13) hx hb dX1_coils_28 (by decide) ?_
            refine lv_iload_n hx hb dX1_coils_30 rfl (lv_at hl 1 rfl) ?_
            refine gz_imulc (i := 13) (j := i) hx hb dX1_coils_31 ?_
            refine lv_aload_n hx hb dX1_coils_32 rfl (lv_at hl 3 rfl) ?_
            refine va_get (D := (dC, dI)) (ci := 1) (v := .int (nI cn)) (C := RX1) (T := TX1) (N := 10) hx hb hts hin1 hown hK hP 0 rfl rfl 1 (by decide) lk40 (fun _ h9 => h9) rfl dX1_coils_33 ?_
            refine gz_iadd (i := i * 13) (j := cn) hx hb dX1_coils_36 ?_
            refine lv_iconst (v := nI 1) hx hb dX1_coils_37 (by decide) ?_
            refine gz_isub (i := (i * 13) + cn) (j := 1) hx hb dX1_coils_38 (by omega) ?_
            refine gz_top (j := i * 13 + (cn - 1)) (by omega) ?_
            refine gz_zald (k := i * 13 + (cn - 1)) hx hb hK hP 7 1 rfl rfl (by omega) (by omega) dX1_coils_39 ?_
            refine lv_istore (lv' := [(4, .int (fp (i * 13 + (cn - 1)))), (3, .int (nI (i * 12 + (cn - 1)))), (2, .int (nI i)), (1, .int (q.2)), (0, .ref gm)]) hx hb dX1_coils_40 hl (by decide) rfl (fun ls hl => ?_)
            refine lv_aload_n hx hb dX1_coils_42 rfl (lv_at hl 4 rfl) ?_
            refine va_get (D := (dC, dI)) (ci := 1) (v := .ref ac) (C := RX1) (T := TX1) (N := 10) hx hb hts hin1 hown hK hP 0 rfl rfl 3 (by decide) lk13 (fun _ h9 => h9) rfl dX1_coils_43 ?_
            refine lv_iload_n hx hb dX1_coils_46 rfl (lv_at hl 1 rfl) ?_
            refine gz_iald (k := i * 12 + (cn - 1)) hx hb hK hP 2 0 rfl rfl (by omega) (by omega) dX1_coils_47 ?_
            refine lv_istore (lv' := [(5, .int (fc (i * 12 + (cn - 1)))), (4, .int (fp (i * 13 + (cn - 1)))), (3, .int (nI (i * 12 + (cn - 1)))), (2, .int (nI i)), (1, .int (q.2)), (0, .ref gm)]) hx hb dX1_coils_48 hl (by decide) rfl (fun ls hl => ?_)
            refine lv_aload_n hx hb dX1_coils_50 rfl (lv_at hl 5 rfl) ?_
            refine va_get (D := (dC, dI)) (ci := 1) (v := .ref ak) (C := RX1) (T := TX1) (N := 10) hx hb hts hin1 hown hK hP 0 rfl rfl 2 (by decide) lk7 (fun _ h9 => h9) rfl dX1_coils_51 ?_
            refine lv_iload_n hx hb dX1_coils_54 rfl (lv_at hl 2 rfl) ?_
            refine gz_iald (k := i * 12 + (cn - 1)) hx hb hK hP 1 0 rfl rfl (by omega) (by omega) dX1_coils_55 ?_
            refine lv_bipush (v := nI 6) hx hb dX1_coils_56 (by decide) ?_
            refine gz_icmp_lt (tgt := 155) (za := (fk (i * 12 + (cn - 1))).toInt) (zb := ((6 : Nat) : Int)) hx hb dX1_coils_58 (by decide) rfl (nI_toInt (by omega)) (fun c_2 => False.elim (by omega)) (fun c_2 => ?_)
            refine lv_iload hx hb dX1_coils_61 (lv_at hl 1 rfl) ?_
            refine lv_if_eq (tgt := 72) hx hb dX1_coils_63 (by decide) (fun c_3 => False.elim (absurd (hp.symm.trans c_3) (by decide))) (fun c_3 => ?_)
            refine lv_iload_n hx hb dX1_coils_66 rfl (lv_at hl 4 rfl) ?_
            refine lv_iconst (v := nI 1) hx hb dX1_coils_67 (by decide) ?_
            refine lv_iadd hx hb dX1_coils_68 ?_
            refine lv_goto (tgt := 73) hx hb dX1_coils_69 (by decide) ?_
            refine lv_istore_n (lv' := [(1, .int (q.2 + (nI 1))), (5, .int (fc (i * 12 + (cn - 1)))), (4, .int (fp (i * 13 + (cn - 1)))), (3, .int (nI (i * 12 + (cn - 1)))), (2, .int (nI i)), (0, .ref gm)]) hx hb dX1_coils_73 rfl hl (by decide) rfl (fun ls hl => ?_)
            refine lv_aload_n hx hb dX1_coils_74 rfl (lv_at hl 5 rfl) ?_
            refine va_get (D := (dC, dI)) (ci := 1) (v := .ref ak) (C := RX1) (T := TX1) (N := 10) hx hb hts hin1 hown hK hP 0 rfl rfl 2 (by decide) lk7 (fun _ h9 => h9) rfl dX1_coils_75 ?_
            refine lv_iload_n hx hb dX1_coils_78 rfl (lv_at hl 3 rfl) ?_
            refine gz_iald (k := i * 12 + (cn - 1)) hx hb hK hP 1 0 rfl rfl (by omega) (by omega) dX1_coils_79 ?_
            refine lv_bipush (v := nI 6) hx hb dX1_coils_80 (by decide) ?_
            refine lv_isub hx hb dX1_coils_82 ?_
            refine gz_topI (y := nI 3) (by rw [ek]; decide) ?_
            refine lv_istore (lv' := [(6, .int (nI 3)), (1, .int (q.2 + (nI 1))), (5, .int (fc (i * 12 + (cn - 1)))), (4, .int (fp (i * 13 + (cn - 1)))), (3, .int (nI (i * 12 + (cn - 1)))), (2, .int (nI i)), (0, .ref gm)]) hx hb dX1_coils_83 hl (by decide) rfl (fun ls hl => ?_)
            refine lv_aload_n hx hb dX1_coils_85 rfl (lv_at hl 6 rfl) ?_
            refine va_get (D := (dC, dI)) (ci := 1) (v := .ref av) (C := RX1) (T := TX1) (N := 10) hx hb hts hin1 hown hK hP 0 rfl rfl 6 (by decide) lk23 (fun _ h9 => h9) rfl dX1_coils_86 ?_
            refine lv_iload hx hb dX1_coils_89 (lv_at hl 2 rfl) ?_
            refine lv_iload hx hb dX1_coils_91 (lv_at hl 0 rfl) ?_
            refine lv_if_ne (tgt := 109) hx hb dX1_coils_93 (by decide) (fun c_4 => ?_) (fun c_4 => False.elim (absurd c_4 (by decide)))
            refine lv_iload hx hb dX1_coils_109 (lv_at hl 0 rfl) ?_
            refine lv_iconst (v := nI 1) hx hb dX1_coils_111 (by decide) ?_
            refine gz_icmp_ne (tgt := 128) (za := ((3 : Nat) : Int)) (zb := ((1 : Nat) : Int)) hx hb dX1_coils_112 (by decide) (nI_toInt (by omega)) (nI_toInt (by omega)) (fun c_5 => ?_) (fun c_5 => False.elim (absurd c_5 (by decide)))
            refine lv_iload hx hb dX1_coils_128 (lv_at hl 3 rfl) ?_
            refine lv_if_eq (tgt := 147) hx hb dX1_coils_130 (by decide) (fun c_6 => False.elim (absurd (hp.symm.trans c_6) (by decide))) (fun c_6 => ?_)
            refine lv_iload hx hb dX1_coils_133 (lv_at hl 0 rfl) ?_
            refine lv_iconst (v := nI 2) hx hb dX1_coils_135 (by decide) ?_
            refine gz_icmp_ne (tgt := 143) (za := ((3 : Nat) : Int)) (zb := ((2 : Nat) : Int)) hx hb dX1_coils_136 (by decide) (nI_toInt (by omega)) (nI_toInt (by omega)) (fun c_7 => ?_) (fun c_7 => False.elim (absurd c_7 (by decide)))
            refine lv_iconst (v := nI 0) hx hb dX1_coils_143 (by decide) ?_
            refine lv_goto (tgt := 154) hx hb dX1_coils_144 (by decide) ?_
            refine va_iast hx hb hK hP hD hS 5 0 rfl rfl hci dX1_coils_154 (fun H locs hP hD hS => ?_)
            have hP : va_P (dC, dI) vwCl (mw cA cZ gm ak ac ab al av ah ap fk fc fs fl fp (upd q.1 (fc (i * 12 + (cn - 1))).toNatClampNeg (nI 0)) ft (nI rn) (nI cn) sc) H := hP
            have hD : va_D A (mw cA cZ gm ak ac ab al av ah ap fk fc fs fl fp (upd q.1 (fc (i * 12 + (cn - 1))).toNatClampNeg (nI 0)) ft (nI rn) (nI cn) sc) := hD
            refine lv_iinc (v := nI (i + 1)) (lv' := [(2, .int (nI (i + 1))), (6, .int (nI 3)), (1, .int (q.2 + (nI 1))), (5, .int (fc (i * 12 + (cn - 1)))), (4, .int (fp (i * 13 + (cn - 1)))), (3, .int (nI (i * 12 + (cn - 1)))), (0, .ref gm)]) hx hb dX1_coils_155 hl (k := 5) rfl (nI_1 _) (by decide) rfl (fun ls hl => ?_)
            refine lv_goto (tgt := 4) hx hb dX1_coils_158 (by decide) ?_
            exact ih (i + 1) (upd q.1 (fc (i * 12 + (cn - 1))).toNatClampNeg (nI 0), q.2 + (nI 1)) (by omega) (by show _ = gCo1 _ _ _ _ _ (gCo fk fc fp cn (fv, nI 0) i); rw [← hq]; unfold gCo1; rw [if_pos hco, ek, hp, gCoil_91]) H locs hP hD hS ls (lv_sub hl [0, 2, 6] rfl)
      · skip
        refine lv_iload_n hx hb dX1_coils_4 rfl (lv_at hl 0 rfl) ?_
        refine lv_aload_n hx hb dX1_coils_5 rfl (lv_at hl 2 rfl) ?_
        refine va_get (D := (dC, dI)) (ci := 1) (v := .int (nI rn)) (C := RX1) (T := TX1) (N := 10) hx hb hts hin1 hown hK hP 0 rfl rfl 0 (by decide) lk36 (fun _ h9 => h9) rfl dX1_coils_6 ?_
        refine gz_icmp_ge (tgt := 161) (za := ((i : Nat) : Int)) (zb := ((rn : Nat) : Int)) hx hb dX1_coils_9 (by decide) (nI_toInt (by omega)) (nI_toInt (by omega)) (fun c_1 => False.elim (by omega)) (fun c_1 => ?_)
        refine lv_bipush (v := nI 12) hx hb dX1_coils_12 (by decide) ?_
        refine lv_iload_n hx hb dX1_coils_14 rfl (lv_at hl 0 rfl) ?_
        refine gz_imulc (i := 12) (j := i) hx hb dX1_coils_15 ?_
        refine lv_aload_n hx hb dX1_coils_16 rfl (lv_at hl 2 rfl) ?_
        refine va_get (D := (dC, dI)) (ci := 1) (v := .int (nI cn)) (C := RX1) (T := TX1) (N := 10) hx hb hts hin1 hown hK hP 0 rfl rfl 1 (by decide) lk40 (fun _ h9 => h9) rfl dX1_coils_17 ?_
        refine gz_iadd (i := i * 12) (j := cn) hx hb dX1_coils_20 ?_
        refine lv_iconst (v := nI 1) hx hb dX1_coils_21 (by decide) ?_
        refine gz_isub (i := (i * 12) + cn) (j := 1) hx hb dX1_coils_22 (by omega) ?_
        refine gz_top (j := i * 12 + (cn - 1)) (by omega) ?_
        refine lv_istore_n (lv' := [(3, .int (nI (i * 12 + (cn - 1)))), (2, .int (nI i)), (1, .int (q.2)), (0, .ref gm)]) hx hb dX1_coils_23 rfl hl (by decide) rfl (fun ls hl => ?_)
        refine lv_aload_n hx hb dX1_coils_24 rfl (lv_at hl 3 rfl) ?_
        refine va_get (D := (dC, dI)) (ci := 1) (v := .ref ap) (C := RX1) (T := TX1) (N := 10) hx hb hts hin1 hown hK hP 0 rfl rfl 8 (by decide) lk29 (fun _ h9 => h9) rfl dX1_coils_25 ?_
        refine lv_bipush (v := nI 13) hx hb dX1_coils_28 (by decide) ?_
        refine lv_iload_n hx hb dX1_coils_30 rfl (lv_at hl 1 rfl) ?_
        refine gz_imulc (i := 13) (j := i) hx hb dX1_coils_31 ?_
        refine lv_aload_n hx hb dX1_coils_32 rfl (lv_at hl 3 rfl) ?_
        refine va_get (D := (dC, dI)) (ci := 1) (v := .int (nI cn)) (C := RX1) (T := TX1) (N := 10) hx hb hts hin1 hown hK hP 0 rfl rfl 1 (by decide) lk40 (fun _ h9 => h9) rfl dX1_coils_33 ?_
        refine gz_iadd (i := i * 13) (j := cn) hx hb dX1_coils_36 ?_
        refine lv_iconst (v := nI 1) hx hb dX1_coils_37 (by decide) ?_
        refine gz_isub (i := (i * 13) + cn) (j := 1) hx hb dX1_coils_38 (by omega) ?_
        refine gz_top (j := i * 13 + (cn - 1)) (by omega) ?_
        refine gz_zald (k := i * 13 + (cn - 1)) hx hb hK hP 7 1 rfl rfl (by omega) (by omega) dX1_coils_39 ?_
        refine lv_istore (lv' := [(4, .int (fp (i * 13 + (cn - 1)))), (3, .int (nI (i * 12 + (cn - 1)))), (2, .int (nI i)), (1, .int (q.2)), (0, .ref gm)]) hx hb dX1_coils_40 hl (by decide) rfl (fun ls hl => ?_)
        refine lv_aload_n hx hb dX1_coils_42 rfl (lv_at hl 4 rfl) ?_
        refine va_get (D := (dC, dI)) (ci := 1) (v := .ref ac) (C := RX1) (T := TX1) (N := 10) hx hb hts hin1 hown hK hP 0 rfl rfl 3 (by decide) lk13 (fun _ h9 => h9) rfl dX1_coils_43 ?_
        refine lv_iload_n hx hb dX1_coils_46 rfl (lv_at hl 1 rfl) ?_
        refine gz_iald (k := i * 12 + (cn - 1)) hx hb hK hP 2 0 rfl rfl (by omega) (by omega) dX1_coils_47 ?_
        refine lv_istore (lv' := [(5, .int (fc (i * 12 + (cn - 1)))), (4, .int (fp (i * 13 + (cn - 1)))), (3, .int (nI (i * 12 + (cn - 1)))), (2, .int (nI i)), (1, .int (q.2)), (0, .ref gm)]) hx hb dX1_coils_48 hl (by decide) rfl (fun ls hl => ?_)
        refine lv_aload_n hx hb dX1_coils_50 rfl (lv_at hl 5 rfl) ?_
        refine va_get (D := (dC, dI)) (ci := 1) (v := .ref ak) (C := RX1) (T := TX1) (N := 10) hx hb hts hin1 hown hK hP 0 rfl rfl 2 (by decide) lk7 (fun _ h9 => h9) rfl dX1_coils_51 ?_
        refine lv_iload_n hx hb dX1_coils_54 rfl (lv_at hl 2 rfl) ?_
        refine gz_iald (k := i * 12 + (cn - 1)) hx hb hK hP 1 0 rfl rfl (by omega) (by omega) dX1_coils_55 ?_
        refine lv_bipush (v := nI 6) hx hb dX1_coils_56 (by decide) ?_
        refine gz_icmp_lt (tgt := 155) (za := (fk (i * 12 + (cn - 1))).toInt) (zb := ((6 : Nat) : Int)) hx hb dX1_coils_58 (by decide) rfl (nI_toInt (by omega)) (fun c_2 => ?_) (fun c_2 => False.elim (by omega))
        refine lv_iinc (v := nI (i + 1)) (lv' := [(2, .int (nI (i + 1))), (5, .int (fc (i * 12 + (cn - 1)))), (4, .int (fp (i * 13 + (cn - 1)))), (3, .int (nI (i * 12 + (cn - 1)))), (1, .int (q.2)), (0, .ref gm)]) hx hb dX1_coils_155 hl (k := 3) rfl (nI_1 _) (by decide) rfl (fun ls hl => ?_)
        refine lv_goto (tgt := 4) hx hb dX1_coils_158 (by decide) ?_
        exact ih (i + 1) (q.1, q.2) (by omega) (by show _ = gCo1 _ _ _ _ _ (gCo fk fc fp cn (fv, nI 0) i); rw [← hq]; unfold gCo1; rw [if_neg hco]) H locs hP hD hS ls (lv_sub hl [0, 4, 5] rfl)
  refine lv_iconst (v := nI 0) hx hb dX1_coils_0 (by decide) ?_
  refine lv_istore_n (lv' := [(1, .int (nI 0)), (0, .ref gm)]) hx hb dX1_coils_1 rfl hl (by decide) rfl (fun ls hl => ?_)
  refine lv_iconst (v := nI 0) hx hb dX1_coils_2 (by decide) ?_
  refine lv_istore_n (lv' := [(2, .int (nI 0)), (1, .int (nI 0)), (0, .ref gm)]) hx hb dX1_coils_3 rfl hl (by decide) rfl (fun ls hl => ?_)
  exact loop rn 0 (fv, nI 0) (by omega) rfl H locs hP hD hS ls (lv_sub hl [0, 1, 2] rfl)
