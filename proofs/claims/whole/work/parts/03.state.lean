/-! ONE mathematical state for the class and for the reference: kinds fk, variables fc, last seen values fs (144 each), links fl, power fp (156 each), values fv (40), rows, columns, scanned -/
abbrev gw (cA : ClassId) (h qk qc qs ql qp qv : Nat) (fk fc fs fl fp fv : Nat → Int32) (r c sc : Int32) : va_W :=
  [(h, .inr (0, [.ref qk, .ref qc, .ref qs, .ref ql, .ref qp, .ref qv, .int r, .int c, .int sc])), (qk, .inl (cA, 144, .inl fk)), (qc, .inl (cA, 144, .inl fc)), (qs, .inl (cA, 144, .inl fs)), (ql, .inl (cA, 156, .inl fl)), (qp, .inl (cA, 156, .inl fp)), (qv, .inl (cA, 40, .inl fv))]
abbrev mw (cA cZ : ClassId) (g mk mc ms ml mv mt mp : Nat) (fk fc fs fl fp fv ft : Nat → Int32) (r c sc : Int32) : va_W :=
  [(g, .inr (1, [.int r, .int c, .ref mk, .ref mc, .ref ms, .ref ml, .ref mv, .ref mt, .ref mp, .int sc])), (mk, .inl (cA, 144, .inl fk)), (mc, .inl (cA, 144, .inl fc)), (ms, .inl (cA, 144, .inl fs)), (ml, .inl (cZ, 156, .inl fl)), (mv, .inl (cA, 40, .inl fv)), (mt, .inl (cA, 40, .inl ft)), (mp, .inl (cZ, 156, .inl fp))]
/-- a switch of three numbers: does a cell of kind k let power through, its variable being v, sn when it was scanned last -/
def gLets (k v sn : Int32) : Int32 :=
  if k = nI 1 then nI 1 else if k = nI 2 then (if v = nI 1 then nI 1 else nI 0) else if k = nI 3 then (if v = nI 0 then nI 1 else nI 0)
  else if k = nI 4 then (if v = nI 1 then (if sn = nI 0 then nI 1 else nI 0) else nI 0) else if k = nI 5 then (if v = nI 0 then (if sn = nI 1 then nI 1 else nI 0) else nI 0) else nI 0
theorem gLets_01 (k v sn : Int32) : gLets k v sn = nI 0 ∨ gLets k v sn = nI 1 := by
  unfold gLets
  repeat' split
  all_goals first | exact Or.inl rfl | exact Or.inr rfl
/-- what a coil of kind k makes of its variable, that was b, with power pw -/
def gCoil (k pw b : Int32) : Int32 :=
  if k = nI 6 then pw else if k = nI 7 then nI 1 - pw else if k = nI 8 then (if pw = nI 1 then nI 1 else b) else (if pw = nI 1 then nI 0 else b)
def gPs1 (fk fc fv : Nat → Int32) (col i : Nat) (q : (Nat → Int32) × (Nat → Int32)) : (Nat → Int32) × (Nat → Int32) :=
  (upd q.1 (i * 13 + (col + 1)) (if q.1 (i * 13 + col) = nI 1 then gLets (fk (i * 12 + col)) (fv (fc (i * 12 + col)).toNatClampNeg) (q.2 (i * 12 + col)) else nI 0),
   upd q.2 (i * 12 + col) (fv (fc (i * 12 + col)).toNatClampNeg))
def gPs (fk fc fv : Nat → Int32) (col : Nat) (q : (Nat → Int32) × (Nat → Int32)) : Nat → (Nat → Int32) × (Nat → Int32)
  | 0 => q
  | i + 1 => gPs1 fk fc fv col i (gPs fk fc fv col q i)
def gDn1 (fl : Nat → Int32) (ln i : Nat) (f : Nat → Int32) : Nat → Int32 :=
  if fl (i * 13 + ln) = nI 1 then (if f (i * 13 + ln) = nI 1 then upd f ((i + 1) * 13 + ln) (nI 1) else f) else f
def gDn (fl : Nat → Int32) (ln : Nat) (f : Nat → Int32) : Nat → Nat → Int32
  | 0 => f
  | i + 1 => gDn1 fl ln i (gDn fl ln f i)
def gUp1 (fl : Nat → Int32) (ln i : Nat) (f : Nat → Int32) : Nat → Int32 :=
  if fl (i * 13 + ln) = nI 1 then (if f ((i + 1) * 13 + ln) = nI 1 then upd f (i * 13 + ln) (nI 1) else f) else f
def gUp (fl : Nat → Int32) (ln : Nat) : Nat → (Nat → Int32) → Nat → Int32
  | 0, f => f
  | i + 1, f => gUp fl ln i (gUp1 fl ln i f)
def gSh (fl : Nat → Int32) (ln rn : Nat) (f : Nat → Int32) : Nat → Int32 := gUp fl ln (rn - 1) (gDn fl ln f (rn - 1))
def gCols (fk fc fl fv : Nat → Int32) (rn : Nat) (q : (Nat → Int32) × (Nat → Int32)) : Nat → (Nat → Int32) × (Nat → Int32)
  | 0 => q
  | j + 1 => (gSh fl (j + 1) rn (gPs fk fc fv j (gCols fk fc fl fv rn q j) rn).1, (gPs fk fc fv j (gCols fk fc fl fv rn q j) rn).2)
def gP0 (f : Nat → Int32) : Nat → Nat → Int32
  | 0 => f
  | i + 1 => upd (gP0 f i) (i * 13) (nI 1)
def gCo1 (fk fc fp : Nat → Int32) (cn i : Nat) (q : (Nat → Int32) × Int32) : (Nat → Int32) × Int32 :=
  if 6 ≤ (fk (i * 12 + (cn - 1))).toInt then
    (upd q.1 (fc (i * 12 + (cn - 1))).toNatClampNeg (gCoil (fk (i * 12 + (cn - 1))) (fp (i * 13 + (cn - 1))) (q.1 (fc (i * 12 + (cn - 1))).toNatClampNeg)), q.2 + fp (i * 13 + (cn - 1)))
  else q
def gCo (fk fc fp : Nat → Int32) (cn : Nat) (q : (Nat → Int32) × Int32) : Nat → (Nat → Int32) × Int32
  | 0 => q
  | i + 1 => gCo1 fk fc fp cn i (gCo fk fc fp cn q i)
def ksN (j : Nat) : Nat := [0, 0, 2, 3, 7, 7, 2, 3, 4, 5].getD j 0
def gLs1 (k f : Int32) (q : Nat × Nat) : Nat × Nat :=
  if 6 ≤ k.toInt then q
  else if f = nI 0 then (if k = nI 0 then (q.1 + ((if q.2 = 0 then 1 else q.2 - 1) + 1), 0) else (q.1 + (1 + ksN k.toNatClampNeg) + (q.2 + 1), 0))
  else (if k = nI 0 then q else (q.1 + (1 + ksN k.toNatClampNeg), q.2 + 1))
def gLs (fk fl : Nat → Int32) (ln : Nat) : Nat → Nat × Nat
  | 0 => (0, 0)
  | i + 1 => gLs1 (fk (i * 12 + (ln - 1))) (fl (i * 13 + ln)) (gLs fk fl ln i)
theorem gLs_le (fk fl : Nat → Int32) (ln : Nat) : ∀ i, (gLs fk fl ln i).2 ≤ i := by
  intro i
  induction i with
  | zero => exact Nat.le_refl 0
  | succ i ih =>
    show (gLs1 _ _ (gLs fk fl ln i)).2 ≤ i + 1
    unfold gLs1
    repeat' split
    all_goals (first | exact Nat.zero_le _ | omega | (show _ + 1 ≤ i + 1; omega))
def gCs (fk : Nat → Int32) (cn : Nat) : Nat → Nat
  | 0 => 0
  | i + 1 => if 6 ≤ (fk (i * 12 + (cn - 1))).toInt then gCs fk cn i + ksN (fk (i * 12 + (cn - 1))).toNatClampNeg else gCs fk cn i
def gSt (fk fl : Nat → Int32) (rn : Nat) : Nat → Nat
  | 0 => 0
  | j + 1 => gSt fk fl rn j + (gLs fk fl (j + 1) rn).1
def gGr (fl : Nat → Int32) (ln : Nat) : Nat → Nat
  | 0 => 0
  | i + 1 => if fl (i * 13 + ln) = nI 1 then gGr fl ln i + 1 else gGr fl ln i
theorem gGr_le (fl : Nat → Int32) (ln : Nat) : ∀ i, gGr fl ln i ≤ i := by
  intro i
  induction i with
  | zero => exact Nat.le_refl 0
  | succ i ih =>
    unfold gGr
    split <;> omega
