set_option maxHeartbeats 4000000 in
set_option maxRecDepth 100000 in
/-- the class's static table, as the Statement gives it -/
theorem law_static {s : State} {b : Nat} (hts : ∀ w ∈ lw_tbl, w.before #[Value.ref b] s = true) (hgv : (Jvm.Cond.and given_1 narrow_1).before #[Value.ref b] s = true) :
    ∃ tK : Nat, va_Z RX0 "KIND_STEPS" "[I" (.ref tK) (fun q : Nat => s.heap.size ≤ q) s s.heap ∧ va_T .int tK 10 gKS (fun q : Nat => s.heap.size ≤ q) s s.heap := by
  have hs := flat_of_before _ hgv
  have hA : ∀ a : Nat, a < s.heap.size → ¬ (fun q : Nat => s.heap.size ≤ q) a := fun a h => Nat.not_le.mpr h
  have harr : (Cond.arrayOf (.static "LadderGrid" "KIND_STEPS" "[I") .int).before #[Value.ref b] s = true := hs _ (by decide +kernel)
  have hlen := va_eqt (hs (Cond.eq (.length (.static "LadderGrid" "KIND_STEPS" "[I")) (.int 10)) (by decide +kernel))
  have hel : ∀ j : Nat, j < 10 → (Term.elem (.static "LadderGrid" "KIND_STEPS" "[I") (.int (Int32.ofNat j))).eval #[Value.ref b] s none [] s = some (gKS j) := by
    intro j hj
    have h10 : j = 0 ∨ j = 1 ∨ j = 2 ∨ j = 3 ∨ j = 4 ∨ j = 5 ∨ j = 6 ∨ j = 7 ∨ j = 8 ∨ j = 9 := by omega
    rcases h10 with h | h | h | h | h | h | h | h | h | h
    · subst h; exact va_eqt (hs (Cond.eq (.elem (.static "LadderGrid" "KIND_STEPS" "[I") (.int 0)) (.int 0)) (by decide +kernel))
    · subst h; exact va_eqt (hs (Cond.eq (.elem (.static "LadderGrid" "KIND_STEPS" "[I") (.int 1)) (.int 0)) (by decide +kernel))
    · subst h; exact va_eqt (hs (Cond.eq (.elem (.static "LadderGrid" "KIND_STEPS" "[I") (.int 2)) (.int 2)) (by decide +kernel))
    · subst h; exact va_eqt (hs (Cond.eq (.elem (.static "LadderGrid" "KIND_STEPS" "[I") (.int 3)) (.int 3)) (by decide +kernel))
    · subst h; exact va_eqt (hs (Cond.eq (.elem (.static "LadderGrid" "KIND_STEPS" "[I") (.int 4)) (.int 7)) (by decide +kernel))
    · subst h; exact va_eqt (hs (Cond.eq (.elem (.static "LadderGrid" "KIND_STEPS" "[I") (.int 5)) (.int 7)) (by decide +kernel))
    · subst h; exact va_eqt (hs (Cond.eq (.elem (.static "LadderGrid" "KIND_STEPS" "[I") (.int 6)) (.int 2)) (by decide +kernel))
    · subst h; exact va_eqt (hs (Cond.eq (.elem (.static "LadderGrid" "KIND_STEPS" "[I") (.int 7)) (.int 3)) (by decide +kernel))
    · subst h; exact va_eqt (hs (Cond.eq (.elem (.static "LadderGrid" "KIND_STEPS" "[I") (.int 8)) (.int 4)) (by decide +kernel))
    · subst h; exact va_eqt (hs (Cond.eq (.elem (.static "LadderGrid" "KIND_STEPS" "[I") (.int 9)) (.int 5)) (by decide +kernel))
  obtain ⟨tK, htK, hT⟩ := va_Tof (f := gKS) (A := fun q : Nat => s.heap.size ≤ q) (N := 10) (by omega) harr hlen hel hA
  exact ⟨tK, va_Zof (hts (.laysStatic "LadderGrid" "KIND_STEPS" "[I") (by decide +kernel)) (hts (.initialized "LadderGrid") (by decide +kernel)) htK hA, hT⟩
set_option maxHeartbeats 4000000 in
set_option maxRecDepth 100000 in
/-- THE LAW, from its entry -/
theorem whole_start {p : Program} {e : Env} {s : State} {m : MethodId} {below : List Frame} {meth : Method} {c : Code} (l : Launch) {b L : Nat} {xs : Nat → Int32} (hL : L ≤ 2560) (C0 : lw_At p s m meth c b L xs) : W p l e room_1 s m #[Value.ref b] below meth c s.heap [] 0 0 (lw_Z below #[Value.ref b] s) (entryFrame m ([Value.ref b] : List Value).toArray 4) := by
  obtain ⟨hx, hb, hr, hml, hown, hts0, hX, hbl, hlocks, hgv⟩ := id C0
  obtain ⟨tK, hZ0, hT0⟩ := law_static hts0 hgv
  have hown : s.vm.findClass RL = some m.cls := hown
  have hts : ∀ w ∈ wsL_law, w.before #[Value.ref b] s = true := fun w h => hts0 w (wsL_law_in w h)
  have hA : ∀ q : Nat, s.heap.size ≤ q → (fun q : Nat => s.heap.size ≤ q) q := fun _ h => h
  obtain ⟨c0, iS0, hKn0⟩ := u_known (C := RX0) (T := TX0) (N := 9) (n := 9) hts inlX0 (hts (.instantiable RX0 9) (by decide +kernel))
  obtain ⟨c1, iS1, hKn1⟩ := u_known (C := RX1) (T := TX1) (N := 10) (n := 10) hts inlX1 (hts (.instantiable RX1 10) (by decide +kernel))
  obtain ⟨dC, dI, hKc⟩ : ∃ (dC : Nat → ClassId) (dI : Nat → Nat → Nat), ∀ (k : Nat) (q : vw_C), vwCl[k]? = some q → u_Kn s q.1 q.2.1 q.2.2 (dC k) (dI k) := by
    refine ⟨fun k => if k = 0 then c0 else c1, fun k => if k = 0 then iS0 else iS1, ?_⟩
    intro k q hq
    match k, hq with
    | 0, hq => cases hq; exact hKn0
    | 1, hq => cases hq; exact hKn1
    | k + 2, hq => simp [vwCl] at hq
  have hS : va_S (fun q : Nat => s.heap.size ≤ q) s.heap s.heap [] := va_S.rf
  have hK : va_K (dC, dI) vwCl [] s := ⟨hKc, fun k q h => by simp at h⟩
  have hP : va_P (dC, dI) vwCl [] s.heap := fun k q h => by simp at h
  have hD : va_D (fun q : Nat => s.heap.size ≤ q) [] := ⟨fun i j p q h => by simp at h, fun k q h => by simp at h⟩
  have hl := lv_entry ([.ref b]) (n := 4) (Nat.le_of_ble_eq_true rfl)
  rw [lg_entry_eq]
  generalize (lg_sl ([.ref b]) ++ List.replicate (4 - (lg_sl ([.ref b])).length) Slot.unset).toArray = ls at hl ⊢
  have hl : lv_has ls 4 [(0, .ref b)] := hl
  refine va_new (ci := 0) (fs := [.null, .null, .null, .null, .null, .null, .int 0, .int 0, .int 0]) (C := RX0) (T := TX0) (N := 9) hx hb hts inlX0 tyX0 tyX0_ok hown (hts (.classLink RL 7 RX0) (by decide +kernel)) (hts (.instantiable RX0 9) (by decide +kernel)) (hts (.initialized RX0) (by decide +kernel)) hK hP hD hS hA rfl (fun j hj => by
    have h9 : j = 0 ∨ j = 1 ∨ j = 2 ∨ j = 3 ∨ j = 4 ∨ j = 5 ∨ j = 6 ∨ j = 7 ∨ j = 8 := by omega
    rcases h9 with rfl | rfl | rfl | rfl | rfl | rfl | rfl | rfl | rfl <;> rfl) (Nat.le_of_ble_eq_true rfl) (Nat.le_of_ble_eq_true rfl) dL_law_0 (fun h H hP hD hS => ?_)
  have hP : va_P (dC, dI) vwCl [(h, .inr (0, [.null, .null, .null, .null, .null, .null, .int 0, .int 0, .int 0]))] H := hP
  have hD : va_D (fun q : Nat => s.heap.size ≤ q) [(h, .inr (0, [.null, .null, .null, .null, .null, .null, .int 0, .int 0, .int 0]))] := hD
  refine W.widen (k := 1) (n := 9) (by omega) (by omega) ?_
  refine lv_dup hx hb dL_law_3 rfl ?_
  have hPc := hP.sub (ws' := [(h, .inr (0, [.null, .null, .null, .null, .null, .null, .int 0, .int 0, .int 0]))]) [0] rfl
  have hDc := hD.sub (ws' := [(h, .inr (0, [.null, .null, .null, .null, .null, .null, .int 0, .int 0, .int 0]))]) [0] (by decide) rfl
  have hFc := va_free (wc := [(h, .inr (0, [.null, .null, .null, .null, .null, .null, .int 0, .int 0, .int 0]))]) hD hS hA [0] rfl
  refine va_callv (va_runI (As := []) (rest := [.ref h]) ⟨hx, hb, hml, hown, hts⟩ (cG_init l dC dI H.size h) (cwI 0 hts gL_law_X0_init rfl rfl rfl (hts (.initialized RX0) (by decide +kernel)) (hts (.methodLink RL 9 yX0_init) (by decide +kernel)) (hts (.instanceMethod yX0_init) (by decide +kernel)) rfl (by decide +kernel) ⟨Nat.le_of_ble_eq_true rfl, Nat.le_of_ble_eq_true rfl⟩) ⟨fun a U g mk q => by obtain ⟨q0, q1, qP, qK, qD⟩ := q; exact ⟨q0, q1, qP, va_K.moved (u := U) (U := U.calling g mk a) (Vm.Alike.refl U.vm) qK, qD⟩, fun U hU hW => ⟨rfl, by rw [hU], by rw [hU]; exact hPc, va_K.moved hW.alike hK, hDc.weaken (fun _ _ _ _ => trivial)⟩⟩ rfl rfl hl.1 rfl (lv_room (Nat.le_of_ble_eq_true rfl)) dL_law_4 ⟨Nat.le_of_ble_eq_true rfl, Nat.le_of_ble_eq_true rfl⟩) hS (fun q _ h => hFc q h) hFc (fun u t H1 locs ht hvm hw hB hz1 hk1 hS => ?_)
  obtain ⟨cA, qk, qc, qs, ql, qp, qv⟩ := u
  obtain ⟨hP1, hK1, hD1⟩ := hB
  rw [ht] at hP1
  have hK1 : va_K (dC, dI) vwCl [(cA, .int)] s := va_K.moved hvm.symm hK1
  obtain ⟨hP, hD⟩ := va_join (wr := []) hP hD [0] [] rfl rfl (by decide) (by decide) hk1 hFc hP1 hD1
  clear hP1 hD1 hPc hDc hK
  have hK := hK1
  generalize H1 = H at hP hS ⊢
  have hP : va_P (dC, dI) vwCl (gw cA h qk qc qs ql qp qv (fun _ => nI 0) (fun _ => nI 0) (fun _ => nI 0) (fun _ => nI 0) (fun _ => nI 0) (fun _ => nI 0) (nI 1) (nI 1) (nI 0)) H := hP
  have hD : va_D (fun q : Nat => s.heap.size ≤ q) (gw cA h qk qc qs ql qp qv (fun _ => nI 0) (fun _ => nI 0) (fun _ => nI 0) (fun _ => nI 0) (fun _ => nI 0) (fun _ => nI 0) (nI 1) (nI 1) (nI 0)) := hD
  refine W.widen (k := 7) (n := 793) (by omega) (by omega) ?_
  refine lv_astore_n (lv' := [(1, .ref h), (0, .ref b)]) hx hb dL_law_7 rfl hl (by decide) rfl (fun ls hl => ?_)
  refine va_new (ci := 1) (fs := [.int 0, .int 0, .null, .null, .null, .null, .null, .null, .null, .int 0]) (C := RX1) (T := TX1) (N := 10) hx hb hts inlX1 tyX1 tyX1_ok hown (hts (.classLink RL 10 RX1) (by decide +kernel)) (hts (.instantiable RX1 10) (by decide +kernel)) (hts (.initialized RX1) (by decide +kernel)) hK hP hD hS hA rfl (fun j hj => by
    have h10 : j = 0 ∨ j = 1 ∨ j = 2 ∨ j = 3 ∨ j = 4 ∨ j = 5 ∨ j = 6 ∨ j = 7 ∨ j = 8 ∨ j = 9 := by omega
    rcases h10 with rfl | rfl | rfl | rfl | rfl | rfl | rfl | rfl | rfl | rfl <;> rfl) (Nat.le_of_ble_eq_true rfl) (Nat.le_of_ble_eq_true rfl) dL_law_8 (fun gm H hP hD hS => ?_)
  have hP : va_P (dC, dI) vwCl (gw cA h qk qc qs ql qp qv (fun _ => nI 0) (fun _ => nI 0) (fun _ => nI 0) (fun _ => nI 0) (fun _ => nI 0) (fun _ => nI 0) (nI 1) (nI 1) (nI 0) ++ [(gm, .inr (1, [.int 0, .int 0, .null, .null, .null, .null, .null, .null, .null, .int 0]))]) H := hP
  have hD : va_D (fun q : Nat => s.heap.size ≤ q) (gw cA h qk qc qs ql qp qv (fun _ => nI 0) (fun _ => nI 0) (fun _ => nI 0) (fun _ => nI 0) (fun _ => nI 0) (fun _ => nI 0) (nI 1) (nI 1) (nI 0) ++ [(gm, .inr (1, [.int 0, .int 0, .null, .null, .null, .null, .null, .null, .null, .int 0]))]) := hD
  refine W.widen (k := 8) (n := 803) (by omega) (by omega) ?_
  refine lv_dup hx hb dL_law_11 rfl ?_
  have hPc := hP.sub (ws' := [(gm, .inr (1, [.int 0, .int 0, .null, .null, .null, .null, .null, .null, .null, .int 0]))]) [7] rfl
  have hDc := hD.sub (ws' := [(gm, .inr (1, [.int 0, .int 0, .null, .null, .null, .null, .null, .null, .null, .int 0]))]) [7] (by decide) rfl
  have hKc := hK.sub (tys' := []) [] rfl
  have hFc := va_free (wc := [(gm, .inr (1, [.int 0, .int 0, .null, .null, .null, .null, .null, .null, .null, .int 0]))]) hD hS hA [7] rfl
  refine va_callv (va_runI (As := []) (rest := [.ref gm]) ⟨hx, hb, hml, hown, hts⟩ (cM_init l dC dI H.size gm) (cwI 0 hts gL_law_X1_init rfl rfl rfl (hts (.initialized RX1) (by decide +kernel)) (hts (.methodLink RL 12 yX1_init) (by decide +kernel)) (hts (.instanceMethod yX1_init) (by decide +kernel)) rfl (by decide +kernel) ⟨Nat.le_of_ble_eq_true rfl, Nat.le_of_ble_eq_true rfl⟩) ⟨fun a U g mk q => by obtain ⟨q0, q1, qP, qK, qD⟩ := q; exact ⟨q0, q1, qP, va_K.moved (u := U) (U := U.calling g mk a) (Vm.Alike.refl U.vm) qK, qD⟩, fun U hU hW => ⟨rfl, by rw [hU], by rw [hU]; exact hPc, va_K.moved hW.alike hKc, hDc.weaken (fun _ _ _ _ => trivial)⟩⟩ rfl rfl hl.1 rfl (lv_room (Nat.le_of_ble_eq_true rfl)) dL_law_12 ⟨Nat.le_of_ble_eq_true rfl, Nat.le_of_ble_eq_true rfl⟩) hS (fun q _ h => hFc q h) hFc (fun u t H1 locs ht hvm hw hB hz1 hk1 hS => ?_)
  obtain ⟨cA2, cZ, ak, ac, ab, al, av, ah, ap⟩ := u
  obtain ⟨hP1, hK1, hD1⟩ := hB
  rw [ht] at hP1
  have hK1 : va_K (dC, dI) vwCl [(cA2, .int), (cZ, .boolean)] s := va_K.moved hvm.symm hK1
  have eA : cA = cA2 := by
    have h1 : s.vm.findClass ("[" ++ FieldType.int.toString) = some cA := (hK.2 0 (cA, .int) rfl).2
    have h2 : s.vm.findClass ("[" ++ FieldType.int.toString) = some cA2 := (hK1.2 0 (cA2, .int) rfl).2
    exact Option.some.inj (h1.symm.trans h2)
  subst eA
  obtain ⟨hP, hD⟩ := va_join (wr := gw cA h qk qc qs ql qp qv (fun _ => nI 0) (fun _ => nI 0) (fun _ => nI 0) (fun _ => nI 0) (fun _ => nI 0) (fun _ => nI 0) (nI 1) (nI 1) (nI 0)) hP hD [7] [0, 1, 2, 3, 4, 5, 6] rfl rfl (by decide) (by decide) hk1 hFc hP1 hD1
  clear hP1 hD1 hPc hDc
  generalize H1 = H at hP hS ⊢
  have hP : va_P (dC, dI) vwCl (gw cA h qk qc qs ql qp qv (fun _ => nI 0) (fun _ => nI 0) (fun _ => nI 0) (fun _ => nI 0) (fun _ => nI 0) (fun _ => nI 0) (nI 1) (nI 1) (nI 0) ++ mw cA cZ gm ak ac ab al av ah ap (fun _ => nI 0) (fun _ => nI 0) (fun _ => nI 0) (fun _ => nI 0) (fun _ => nI 0) (fun _ => nI 0) (fun _ => nI 0) (nI 1) (nI 1) (nI 0)) H := hP
  have hD : va_D (fun q : Nat => s.heap.size ≤ q) (gw cA h qk qc qs ql qp qv (fun _ => nI 0) (fun _ => nI 0) (fun _ => nI 0) (fun _ => nI 0) (fun _ => nI 0) (fun _ => nI 0) (nI 1) (nI 1) (nI 0) ++ mw cA cZ gm ak ac ab al av ah ap (fun _ => nI 0) (fun _ => nI 0) (fun _ => nI 0) (fun _ => nI 0) (fun _ => nI 0) (fun _ => nI 0) (fun _ => nI 0) (nI 1) (nI 1) (nI 0)) := hD
  refine W.widen (k := 15) (n := 1627) (by omega) (by omega) ?_
  refine lv_astore_n (lv' := [(2, .ref gm), (1, .ref h), (0, .ref b)]) hx hb dL_law_15 rfl hl (by decide) rfl (fun ls hl => ?_)
  refine lv_iconst (v := nI 0) hx hb dL_law_16 (by decide) ?_
  refine lv_istore_n (lv' := [(3, .int (nI 0)), (2, .ref gm), (1, .ref h), (0, .ref b)]) hx hb dL_law_17 rfl hl (by decide) rfl (fun ls hl => ?_)
  exact law_loop hL C0 hZ0 hT0 cA cZ h qk qc qs ql qp qv gm ak ac ab al av ah ap hK1 (L + 1) 0 (Nat.zero_le L) (by omega) _ _ _ _ _ _ _ 1 1 _ (gInv_begin (fun _ _ => Or.inl rfl) (fun _ _ => Or.inl rfl) (by omega) (by omega)) H _ hP hD hS ls hl
