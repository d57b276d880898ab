/-! more rows of my own: contents that agree on the array's places, arrays of truth values, the filling of an array, statics -/
theorem gz_cell_ext {cA : ClassId} {n : Nat} {f g : Nat → Int32} (h : ∀ j, j < n → f j = g j) : vp_cell cA (n, .inl f) = vp_cell cA (n, .inl g) := by
  have e : (fun j : Fin n => Value.int (f j.val)) = (fun j : Fin n => Value.int (g j.val)) := funext fun j => by rw [h j.val j.isLt]
  show ({ cls := cA, slots := Array.ofFn (n := n) fun j => Value.int (f j.val), vm := .none } : Cell) = { cls := cA, slots := Array.ofFn (n := n) fun j => Value.int (g j.val), vm := .none }
  rw [e]
theorem gz_setext {D : va_G} {cl : List vw_C} {ws : va_W} {H : Heap} {a n : Nat} {cA : ClassId} {f g : Nat → Int32} (hP : va_P D cl ws H) (k : Nat) (ha : ws[k]? = some (a, .inl (cA, n, .inl f))) (h : ∀ j, j < n → f j = g j) : va_P D cl (ws.set k (a, .inl (cA, n, .inl g))) H := by
  have hl := (List.getElem?_eq_some_iff.mp ha).1
  intro i q hi
  by_cases e : i = k
  · subst e
    rw [List.getElem?_set_self hl] at hi
    cases hi
    have h0 : H[a]? = some (vp_cell cA (n, .inl f)) := hP i _ ha
    show H[a]? = some (vp_cell cA (n, .inl g))
    rw [← gz_cell_ext h]; exact h0
  · rw [List.getElem?_set_ne (Ne.symm e)] at hi
    exact hP i q hi
def gFill (f : Nat → Int32) (v : Int32) : Nat → Nat → Int32
  | 0 => f
  | i + 1 => upd (gFill f v i) i v
theorem gFill_in (f : Nat → Int32) (v : Int32) : ∀ i j, j < i → gFill f v i j = v := by
  intro i
  induction i with
  | zero => intro j h; exact absurd h (Nat.not_lt_zero j)
  | succ i ih =>
    intro j h
    show upd (gFill f v i) i v j = v
    by_cases e : j = i
    · subst e; exact pk_us
    · rw [pk_un e]; exact ih j (by omega)
section GzRows2
variable {p : Program} {l : Launch} {e : Env} {R : Room} {s : State} {m : MethodId} {args : Array Value} {below : List Frame} {meth : Method} {c : Code} {H : Heap} {locs : List Loc} {cells slots : Nat} {Q : State → Prop}
variable {cc : ByteArray} {pc : Nat} {ls : Array Slot} {rest : List Value} {D : va_G} {cl : List vw_C} {A : Nat → Prop} {a : Nat} {tys : List (ClassId × FieldType)} {ws : va_W} {H0 : Heap}
theorem gz_zald (hexec : p.tables.exec = Jvm.exec) (hb : c.code = cc) (hK : va_K D cl tys s) (hP : va_P D cl ws H) (q0 t0 : Nat) {cA : ClassId} {n : Nat} {f : Nat → Int32} (ha : ws[q0]? = some (a, .inl (cA, n, .inl f))) (ht : tys[t0]? = some (cA, .boolean)) {k : Nat} (hk : k < n) (hn : n < 2 ^ 31) (hdg : decode cc pc = .ok (.baload, 1))
    (kk : W p l e R s m args below meth c H locs cells slots Q (F0 m (pc + 1) ls (.int (f k) :: rest))) : W p l e R s m args below meth c H locs cells slots Q (F0 m pc ls (.int (nI k) :: .ref a :: rest)) :=
  va_zald hexec hb hK hP q0 t0 ha ht (vp_in_nI hk hn) hdg (by rw [nI_clamp (Nat.lt_trans hk hn)]; exact kk)
theorem gz_zast (hexec : p.tables.exec = Jvm.exec) (hb : c.code = cc) (hK : va_K D cl tys s) (hP : va_P D cl ws H) (hD : va_D A ws) (hS : va_S A H0 H locs) (q0 t0 : Nat) {cA : ClassId} {n : Nat} {f : Nat → Int32} (ha : ws[q0]? = some (a, .inl (cA, n, .inl f))) (ht : tys[t0]? = some (cA, .boolean)) {k : Nat} {x : Int32} (hx : vp_nar .boolean x = x) (hk : k < n) (hn : n < 2 ^ 31) (hdg : decode cc pc = .ok (.bastore, 1))
    (kk : ∀ (H1 : Heap) (locs1 : List Loc), va_P D cl (ws.set q0 (a, .inl (cA, n, .inl (upd f k x)))) H1 → va_D A (ws.set q0 (a, .inl (cA, n, .inl (upd f k x)))) → va_S A H0 H1 locs1 → W p l e R s m args below meth c H1 locs1 cells slots Q (F0 m (pc + 1) ls rest)) : W p l e R s m args below meth c H locs cells slots Q (F0 m pc ls (.int x :: .int (nI k) :: .ref a :: rest)) :=
  va_zast hexec hb hK hP hD hS q0 t0 ha ht (vp_in_nI hk hn) hdg (by rw [nI_clamp (Nat.lt_trans hk hn), hx]; exact kk)
end GzRows2
theorem gz_nar1 : vp_nar .boolean (nI 1) = nI 1 := by decide
theorem gz_nar0 : vp_nar .boolean (nI 0) = nI 0 := by decide
/-- the steps of each kind, as the class's static table has them -/
def gKS (j : Nat) : Value := .int (nI (ksN j))
abbrev gPk (D : va_G) (cl : List vw_C) (tys : List (ClassId × FieldType)) (tK : Nat) (av : List Value) (ws : va_W) : Array Value → State → Prop :=
  va_Pc av (fun U => va_P D cl ws U.heap ∧ va_K D cl tys U ∧ va_Z RX0 "KIND_STEPS" "[I" (.ref tK) (fun _ => False) U U.heap ∧ va_T .int tK 10 gKS (fun _ => False) U U.heap)
theorem gz_preVs {s : State} {H : Heap} {D : va_G} {cl : List vw_C} {tys : List (ClassId × FieldType)} {ws wc : va_W} {q : vw_C} {fs : List Value} {b ci tK : Nat} {As : List Value} (hK : va_K D cl tys s) (hP : va_P D cl ws H) (hZ : va_Z RX0 "KIND_STEPS" "[I" (.ref tK) (fun _ => False) s H) (hT : va_T .int tK 10 gKS (fun _ => False) s H) (isC : List Nat) (hs : isC.filterMap (fun i => ws[i]?) = wc) (hc : cl[ci]? = some q) (he : wc[0]? = some (b, .inr (ci, fs))) :
    PreV s H q.1 b (gPk D cl tys tK (.ref b :: As) wc) As :=
  ⟨fun _ U _ _ h => ⟨h.1, h.2.1, va_K.moved (Vm.Alike.refl U.vm) h.2.2.1, va_Z.moved (Vm.Alike.refl U.vm) h.2.2.2.1, va_T.moved (Vm.Alike.refl U.vm) h.2.2.2.2⟩, va_recv hK (hP.sub isC hs) hc he, fun U hU hW => ⟨rfl, by rw [hU]; exact hP.sub isC hs, va_K.moved hW.alike hK, by rw [hU]; exact hZ.moved hW.alike, by rw [hU]; exact hT.moved hW.alike⟩⟩
theorem gGr_sub {fl : Nat → Int32} {j i rn : Nat} (h01 : fl (i * 13 + j) = nI 0 ∨ fl (i * 13 + j) = nI 1) (hi : i < rn) : nI (rn - gGr fl j i) - fl (i * 13 + j) = nI (rn - gGr fl j (i + 1)) := by
  have h1 := gGr_le fl j i
  have e : gGr fl j (i + 1) = (if fl (i * 13 + j) = nI 1 then gGr fl j i + 1 else gGr fl j i) := rfl
  rcases h01 with h | h
  · rw [e, h, if_neg (by decide), pk_sub (by omega), Nat.sub_zero]
  · rw [e, h, if_pos rfl, pk_sub (by omega), Nat.sub_sub]
def gRow : Nat → Int32
  | 0 => -1
  | k + 1 => nI k
theorem gRow_dec (k : Nat) : nI k + Int32.ofInt (-1) = gRow k := by
  cases k with
  | zero => decide
  | succ k => exact pk_m1 k
theorem gRow_top {rn : Nat} (h : 1 ≤ rn) : nI rn - nI 2 = gRow (rn - 1) := by
  obtain ⟨k, rfl⟩ : ∃ k, rn = k + 1 := ⟨rn - 1, by omega⟩
  cases k with
  | zero => decide
  | succ k =>
    rw [pk_sub (by omega)]
    rfl
