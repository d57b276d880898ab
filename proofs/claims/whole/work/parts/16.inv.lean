/-! what holds of the state between two calls, and that each call keeps it -/
def gInv (fk fc fl fp fv : Nat → Int32) (rn cn : Nat) : Prop :=
  (1 ≤ rn ∧ rn ≤ 12) ∧ (1 ≤ cn ∧ cn ≤ 12) ∧ (∀ k, k < 144 → vp_in (fk k) 10) ∧ (∀ k, k < 144 → vp_in (fc k) 40) ∧ g01 156 fl ∧ gLk fl rn cn ∧ g01 156 fp ∧ g01 40 fv ∧ (∀ r col, r < 12 → col < 12 → 6 ≤ (fk (r * 12 + col)).toInt → col + 1 = cn)
theorem gInv_begin {fp fv : Nat → Int32} {rn cn : Nat} (hp : g01 156 fp) (hv : g01 40 fv) (hr : 1 ≤ rn ∧ rn ≤ 12) (hc : 1 ≤ cn ∧ cn ≤ 12) : gInv (fun _ => nI 0) (fun _ => nI 0) (fun _ => nI 0) fp fv rn cn :=
  ⟨hr, hc, fun _ _ => vp_in_nI (by omega) (by omega), fun _ _ => vp_in_nI (by omega) (by omega), fun _ _ => Or.inl rfl, fun _ _ _ _ (h : nI 0 = nI 1) => absurd h (by decide), hp, hv, fun _ _ _ _ (h : 6 ≤ (nI 0).toInt) => absurd h (by decide)⟩
theorem gInv_cell {fk fc fl fp fv : Nat → Int32} {rn cn i j k : Nat} {x : Int32} (h : gInv fk fc fl fp fv rn cn) (hi : i < rn) (hj : j < cn) (hk : k ≤ 9) (hx2 : k < 2 ∨ (0 ≤ x.toInt ∧ x.toInt < 40)) (hk6 : k < 6 ∨ j + 1 = cn) :
    gInv (upd fk (i * 12 + j) (nI k)) (upd fc (i * 12 + j) (if 2 ≤ k then x else nI 0)) fl fp fv rn cn := by
  obtain ⟨h1, h2, h3, h4, h5, h6, h7, h8, h9⟩ := h
  refine ⟨h1, h2, fun q hq => ?_, fun q hq => ?_, h5, h6, h7, h8, fun r col hr hc h6' => ?_⟩
  · by_cases e : q = i * 12 + j
    · subst e; rw [pk_us]; exact vp_in_nI (by omega) (by omega)
    · rw [pk_un e]; exact h3 q hq
  · by_cases e : q = i * 12 + j
    · subst e; rw [pk_us]
      by_cases h2' : 2 ≤ k
      · rw [if_pos h2']; exact vp_in_iff.mpr (by omega)
      · rw [if_neg h2']; exact vp_in_nI (by omega) (by omega)
    · rw [pk_un e]; exact h4 q hq
  · by_cases e : r * 12 + col = i * 12 + j
    · rw [e, pk_us, nI_toInt (by omega)] at h6'
      omega
    · rw [pk_un e] at h6'
      exact h9 r col hr hc h6'
theorem gInv_link {fk fc fl fp fv : Nat → Int32} {rn cn i j : Nat} {b : Int32} (h : gInv fk fc fl fp fv rn cn) (hi : i + 1 < rn) (hj : 1 ≤ j ∧ j < cn) (hb : b = nI 0 ∨ b = nI 1) : gInv fk fc (upd fl (i * 13 + j) b) fp fv rn cn := by
  obtain ⟨h1, h2, h3, h4, h5, h6, h7, h8, h9⟩ := h
  refine ⟨h1, h2, h3, h4, g01_upd h5 hb, fun r ln hr hl h1' => ?_, h7, h8, h9⟩
  by_cases e : r * 13 + ln = i * 13 + j
  · omega
  · rw [pk_un e] at h1'
    exact h6 r ln hr hl h1'
theorem gInv_set {fk fc fl fp fv : Nat → Int32} {rn cn i v : Nat} (h : gInv fk fc fl fp fv rn cn) (hv : v ≤ 1) : gInv fk fc fl fp (upd fv i (nI v)) rn cn := by
  obtain ⟨h1, h2, h3, h4, h5, h6, h7, h8, h9⟩ := h
  refine ⟨h1, h2, h3, h4, h5, h6, h7, g01_upd h8 ?_, h9⟩
  rcases (by omega : v = 0 ∨ v = 1) with e | e
  · subst e; exact Or.inl rfl
  · subst e; exact Or.inr rfl
theorem gInv_scan {fk fc fs fl fp fv : Nat → Int32} {rn cn : Nat} (h : gInv fk fc fl fp fv rn cn) :
    gInv fk fc fl (gCols fk fc fl fv rn (gP0 fp rn, fs) cn).1 (gCo fk fc (gCols fk fc fl fv rn (gP0 fp rn, fs) cn).1 cn (fv, nI 0) rn).1 rn cn := by
  obtain ⟨h1, h2, h3, h4, h5, h6, h7, h8, h9⟩ := h
  have hp : g01 156 (gCols fk fc fl fv rn (gP0 fp rn, fs) cn).1 := gCols_01 (q := (gP0 fp rn, fs)) (gP0_01 h7 rn) cn
  exact ⟨h1, h2, h3, h4, h5, h6, hp, gCo_01 (q := (fv, nI 0)) h4 hp h2 h8 rn h1.2, h9⟩
theorem gz_nat {x : Int32} (h : 0 ≤ x.toInt) : ∃ a : Nat, x = nI a ∧ (a : Int) = x.toInt := by
  have hx := Int32.toInt_lt x
  refine ⟨x.toInt.toNat, Int32.toInt_inj.mp ?_, by omega⟩
  rw [nI_toInt (by omega)]
  omega
section GzRows3
variable {p : Program} {l : Launch} {e : Env} {R : Room} {s : State} {m : MethodId} {args : Array Value} {below : List Frame} {meth : Method} {c : Code} {H : Heap} {locs : List Loc} {cells slots : Nat} {Q : State → Prop}
variable {cc : ByteArray} {pc : Nat} {ls : Array Slot} {rest : List Value} {A : Nat → Prop} {H0 : Heap}
theorem gz_sld (hexec : p.tables.exec = Jvm.exec) (hb : c.code = cc) {b L : Nat} {xs : Nat → Int32} (hX : va_X b L xs s H0) (hbl : b < H0.size) (hbA : ¬ A b) (hS : va_S A H0 H locs) {k : Nat} (hk : k < L) (hL : L < 2 ^ 31) (hdg : decode cc pc = .ok (.iaload, 1))
    (kk : W p l e R s m args below meth c H locs cells slots Q (F0 m (pc + 1) ls (.int (xs k) :: rest))) : W p l e R s m args below meth c H locs cells slots Q (F0 m pc ls (.int (nI k) :: .ref b :: rest)) :=
  va_sld hexec hb hX hbl hbA hS (vp_in_nI hk hL) hdg (by rw [nI_clamp (Nat.lt_trans hk hL)]; exact kk)
end GzRows3
