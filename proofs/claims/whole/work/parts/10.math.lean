/-! what stays true of the functions: truth values stay 0 or 1; a line without links; the ends of groups -/
def g01 (n : Nat) (f : Nat → Int32) : Prop := ∀ k, k < n → f k = nI 0 ∨ f k = nI 1
theorem g01_upd {n : Nat} {f : Nat → Int32} {k : Nat} {v : Int32} (h : g01 n f) (hv : v = nI 0 ∨ v = nI 1) : g01 n (upd f k v) := by
  intro j hj
  by_cases e : j = k
  · subst e; rw [pk_us]; exact hv
  · rw [pk_un e]; exact h j hj
theorem gDn1_01 {n : Nat} {fl f : Nat → Int32} {ln i : Nat} (h : g01 n f) : g01 n (gDn1 fl ln i f) := by
  unfold gDn1
  repeat' split
  all_goals first | exact g01_upd h (Or.inr rfl) | exact h
theorem gDn_01 {n : Nat} {fl f : Nat → Int32} {ln : Nat} (h : g01 n f) : ∀ i, g01 n (gDn fl ln f i) := by
  intro i
  induction i with
  | zero => exact h
  | succ i ih => exact gDn1_01 ih
theorem gUp1_01 {n : Nat} {fl f : Nat → Int32} {ln i : Nat} (h : g01 n f) : g01 n (gUp1 fl ln i f) := by
  unfold gUp1
  repeat' split
  all_goals first | exact g01_upd h (Or.inr rfl) | exact h
theorem gUp_01 {n : Nat} {fl : Nat → Int32} {ln : Nat} : ∀ (i : Nat) (f : Nat → Int32), g01 n f → g01 n (gUp fl ln i f) := by
  intro i
  induction i with
  | zero => intro f h; exact h
  | succ i ih => intro f h; exact ih _ (gUp1_01 h)
theorem gSh_01 {n : Nat} {fl f : Nat → Int32} {ln rn : Nat} (h : g01 n f) : g01 n (gSh fl ln rn f) := gUp_01 _ _ (gDn_01 h _)
theorem gPs1_01 {n : Nat} {fk fc fv : Nat → Int32} {col i : Nat} {q : (Nat → Int32) × (Nat → Int32)} (h : g01 n q.1) : g01 n (gPs1 fk fc fv col i q).1 := by
  refine g01_upd h ?_
  split
  · exact gLets_01 _ _ _
  · exact Or.inl rfl
theorem gPs_01 {n : Nat} {fk fc fv : Nat → Int32} {col : Nat} {q : (Nat → Int32) × (Nat → Int32)} (h : g01 n q.1) : ∀ i, g01 n (gPs fk fc fv col q i).1 := by
  intro i
  induction i with
  | zero => exact h
  | succ i ih => exact gPs1_01 ih
theorem gCols_01 {n : Nat} {fk fc fl fv : Nat → Int32} {rn : Nat} {q : (Nat → Int32) × (Nat → Int32)} (h : g01 n q.1) : ∀ j, g01 n (gCols fk fc fl fv rn q j).1 := by
  intro j
  induction j with
  | zero => exact h
  | succ j ih => exact gSh_01 (gPs_01 ih rn)
theorem gP0_01 {n : Nat} {f : Nat → Int32} (h : g01 n f) : ∀ i, g01 n (gP0 f i) := by
  intro i
  induction i with
  | zero => exact h
  | succ i ih => exact g01_upd ih (Or.inr rfl)
theorem gCoil_01 {k pw b : Int32} (hp : pw = nI 0 ∨ pw = nI 1) (hb : b = nI 0 ∨ b = nI 1) : gCoil k pw b = nI 0 ∨ gCoil k pw b = nI 1 := by
  unfold gCoil
  rcases hp with rfl | rfl
  · repeat' split
    all_goals first | exact Or.inl rfl | exact Or.inr rfl | exact hb | exact Or.inr (by decide)
  · repeat' split
    all_goals first | exact Or.inl rfl | exact Or.inr rfl | exact hb | exact Or.inl (by decide)
theorem gCo_01 {fk fc fp : Nat → Int32} {cn : Nat} {q : (Nat → Int32) × Int32} (hc : ∀ k, k < 144 → vp_in (fc k) 40) (hp : g01 156 fp) (hcn : 1 ≤ cn ∧ cn ≤ 12) (h : g01 40 q.1) : ∀ i, i ≤ 12 → g01 40 (gCo fk fc fp cn q i).1 := by
  intro i
  induction i with
  | zero => intro _; exact h
  | succ i ih =>
    intro hi
    have h1 := ih (by omega)
    show g01 40 (gCo1 fk fc fp cn i (gCo fk fc fp cn q i)).1
    unfold gCo1
    split
    · refine g01_upd h1 (gCoil_01 (hp _ (by omega)) ?_)
      obtain ⟨j, hj, ej⟩ := vp_in_of (hc (i * 12 + (cn - 1)) (by omega)) (by omega)
      rw [ej, nI_clamp (by omega)]
      exact h1 j hj
    · exact h1
/-- links join a row with the next one, at a line between columns -/
def gLk (fl : Nat → Int32) (rn cn : Nat) : Prop := ∀ r ln, r < 12 → ln < 13 → fl (r * 13 + ln) = nI 1 → r + 1 < rn ∧ 1 ≤ ln ∧ ln < cn
theorem gDn_none {fl f : Nat → Int32} {ln : Nat} : ∀ i, (∀ r, r < i → ¬ fl (r * 13 + ln) = nI 1) → gDn fl ln f i = f := by
  intro i
  induction i with
  | zero => intro _; rfl
  | succ i ih =>
    intro h
    show gDn1 fl ln i (gDn fl ln f i) = f
    unfold gDn1
    rw [if_neg (h i (by omega)), ih (fun r hr => h r (by omega))]
theorem gUp_none {fl : Nat → Int32} {ln : Nat} : ∀ (i : Nat) (f : Nat → Int32), (∀ r, r < i → ¬ fl (r * 13 + ln) = nI 1) → gUp fl ln i f = f := by
  intro i
  induction i with
  | zero => intro f _; rfl
  | succ i ih =>
    intro f h
    show gUp fl ln i (gUp1 fl ln i f) = f
    unfold gUp1
    rw [if_neg (h i (by omega)), ih f (fun r hr => h r (by omega))]
theorem gSh_none {fl f : Nat → Int32} {ln rn : Nat} (h : ∀ r, r < rn → ¬ fl (r * 13 + ln) = nI 1) : gSh fl ln rn f = f := by
  unfold gSh
  rw [gDn_none _ (fun r hr => h r (by omega)), gUp_none _ _ (fun r hr => h r (by omega))]
theorem gLs_last {fk fl : Nat → Int32} {ln : Nat} : ∀ i, (∀ r, r < i → fl (r * 13 + ln) = nI 0) → (gLs fk fl ln i).2 = 0 := by
  intro i
  induction i with
  | zero => intro _; rfl
  | succ i ih =>
    intro h
    have h1 := ih (fun r hr => h r (by omega))
    have h2 := h i (by omega)
    show (gLs1 (fk (i * 12 + (ln - 1))) (fl (i * 13 + ln)) (gLs fk fl ln i)).2 = 0
    unfold gLs1
    rw [if_pos h2]
    repeat' split
    all_goals first | exact h1 | rfl
/-- behind the last row no group is open -/
theorem gLs_end {fk fl : Nat → Int32} {ln rn cn : Nat} (hrn : 1 ≤ rn ∧ rn ≤ 12) (hln : 1 ≤ ln ∧ ln ≤ cn) (hcn : cn ≤ 12) (hlk : gLk fl rn cn) (h01 : g01 156 fl) (hco : ∀ r, r < 12 → 6 ≤ (fk (r * 12 + (ln - 1))).toInt → ln = cn) : (gLs fk fl ln rn).2 = 0 := by
  obtain ⟨k, rfl⟩ : ∃ k, rn = k + 1 := ⟨rn - 1, by omega⟩
  have hz : ∀ r, r < 12 → (fl (r * 13 + ln) = nI 1 → False) → fl (r * 13 + ln) = nI 0 := fun r hr h => (h01 _ (by omega)).resolve_right h
  by_cases hc : 6 ≤ (fk (k * 12 + (ln - 1))).toInt
  · have e := hco k (by omega) hc
    refine gLs_last _ (fun r hr => hz r (by omega) (fun q => ?_))
    have := hlk r ln (by omega) (by omega) q
    omega
  · show (gLs1 (fk (k * 12 + (ln - 1))) (fl (k * 13 + ln)) (gLs fk fl ln k)).2 = 0
    have h2 : fl (k * 13 + ln) = nI 0 := hz k (by omega) (fun q => by have := hlk k ln (by omega) (by omega) q; omega)
    unfold gLs1
    rw [if_neg hc, if_pos h2]
    split <;> rfl
theorem gGr_end {fl : Nat → Int32} {ln rn cn : Nat} (hrn : 1 ≤ rn ∧ rn ≤ 12) (hln : ln ≤ cn) (hcn : cn ≤ 12) (hlk : gLk fl rn cn) : gGr fl ln rn = gGr fl ln (rn - 1) := by
  obtain ⟨k, rfl⟩ : ∃ k, rn = k + 1 := ⟨rn - 1, by omega⟩
  show (if fl (k * 13 + ln) = nI 1 then gGr fl ln k + 1 else gGr fl ln k) = gGr fl ln k
  rw [if_neg (fun q => by have := hlk k ln (by omega) (by omega) q; omega)]
def gCopy (f g : Nat → Int32) : Nat → Nat → Int32
  | 0 => f
  | i + 1 => upd (gCopy f g i) i (g i)
theorem gCopy_in (f g : Nat → Int32) : ∀ i j, j < i → gCopy f g i j = g j := by
  intro i
  induction i with
  | zero => intro j h; exact absurd h (Nat.not_lt_zero j)
  | succ i ih =>
    intro j h
    show upd (gCopy f g i) i (g i) j = g j
    by_cases e : j = i
    · subst e; exact pk_us
    · rw [pk_un e]; exact ih j (by omega)
theorem gCoil_6 (p b : Int32) : gCoil (nI 6) p b = p := if_pos rfl
theorem gCoil_71 (b : Int32) : gCoil (nI 7) (nI 1) b = nI 0 := by unfold gCoil; rw [if_neg (by decide), if_pos rfl]; decide
theorem gCoil_70 (b : Int32) : gCoil (nI 7) (nI 0) b = nI 1 := by unfold gCoil; rw [if_neg (by decide), if_pos rfl]; decide
theorem gCoil_81 (b : Int32) : gCoil (nI 8) (nI 1) b = nI 1 := by unfold gCoil; rw [if_neg (by decide), if_neg (by decide), if_pos rfl, if_pos rfl]
theorem gCoil_80 (b : Int32) : gCoil (nI 8) (nI 0) b = b := by unfold gCoil; rw [if_neg (by decide), if_neg (by decide), if_pos rfl, if_neg (by decide)]
theorem gCoil_91 (b : Int32) : gCoil (nI 9) (nI 1) b = nI 0 := by unfold gCoil; rw [if_neg (by decide), if_neg (by decide), if_neg (by decide), if_pos rfl]
theorem gCoil_90 (b : Int32) : gCoil (nI 9) (nI 0) b = b := by unfold gCoil; rw [if_neg (by decide), if_neg (by decide), if_neg (by decide), if_neg (by decide)]
theorem gz_add0 (x : Int32) : x + nI 0 = x := Int32.add_zero x
