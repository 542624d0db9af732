/-! the order of data, as whole numbers -/
def kE (d : DT) : Int := match d with
  | .nan => 0
  | .inf s => FP.Core.signed s (2 ^ 3000)
  | .fin s c q => FP.Core.signed s (c * 2 ^ (q + 1074).toNat)
def isN (d : DT) : Bool := match d with
  | .nan => true
  | .inf _ => false
  | .fin _ _ _ => false
def okD (d : DT) : Prop := match d with
  | .nan => True
  | .inf _ => True
  | .fin _ c q => -1074 ≤ q ∧ c * 2 ^ (q + 1074).toNat < 2 ^ 3000
theorem dv_ok (x : UInt64) : okD (dv x) := by
  have hE : FP.Core.fieldE FP.Core.b64 x.toNat < 2 ^ 11 := Nat.mod_lt _ (by decide)
  have hT : FP.Core.fieldT FP.Core.b64 x.toNat < 2 ^ 52 := Nat.mod_lt _ (by decide)
  unfold dv FP.Core.decode
  split
  · split <;> exact trivial
  · split
    · refine ⟨by decide, ?_⟩
      refine Nat.lt_of_lt_of_le (Nat.mul_lt_mul_of_pos_right hT (Nat.two_pow_pos _)) ?_
      rw [← Nat.pow_add]
      exact Nat.pow_le_pow_right (by decide) (by decide)
    · have h0 : FP.Core.Fmt.qmin FP.Core.b64 = -1074 := by decide
      have h1 : FP.Core.Fmt.tails FP.Core.b64 = 2 ^ 52 := by decide
      show (-1074 ≤ FP.Core.Fmt.qmin FP.Core.b64 + ((FP.Core.fieldE FP.Core.b64 x.toNat : Int) - 1)) ∧ (FP.Core.Fmt.tails FP.Core.b64 + FP.Core.fieldT FP.Core.b64 x.toNat) * 2 ^ (FP.Core.Fmt.qmin FP.Core.b64 + ((FP.Core.fieldE FP.Core.b64 x.toNat : Int) - 1) + 1074).toNat < 2 ^ 3000
      rw [h0, h1]
      refine ⟨by omega, ?_⟩
      have h2 : (2 ^ 52 + FP.Core.fieldT FP.Core.b64 x.toNat) < 2 ^ 53 := by omega
      refine Nat.lt_of_lt_of_le (Nat.mul_lt_mul_of_pos_right h2 (Nat.two_pow_pos _)) ?_
      rw [← Nat.pow_add]
      exact Nat.pow_le_pow_right (by decide) (by omega)
theorem signed_mul (s : Bool) (c k : Nat) : FP.Core.signed s (c * k) = FP.Core.signed s c * (k : Int) := by
  cases s
  · show ((c * k : Nat) : Int) = (c : Int) * k
    exact Int.natCast_mul c k
  · show -((c * k : Nat) : Int) = -(c : Int) * k
    rw [Int.natCast_mul, Int.neg_mul]
theorem cmp_mul {a b k : Int} (hk : 0 < k) : compare (a * k) (b * k) = compare a b := by
  rcases h : compare a b with _ | _ | _
  · exact Int.compare_eq_lt.mpr (Int.mul_lt_mul_of_pos_right (Int.compare_eq_lt.mp h) hk)
  · rw [Int.compare_eq_eq.mp h]; exact Int.compare_eq_eq.mpr rfl
  · exact Int.compare_eq_gt.mpr (Int.mul_lt_mul_of_pos_right (Int.compare_eq_gt.mp h) hk)
theorem kE_fin {s : Bool} {c : Nat} {q : Int} (m : Int) (h1 : -1074 ≤ m) (h2 : m ≤ q) : kE (.fin s c q) = FP.Core.signed s (FP.Core.inUnits c q m) * ((2 ^ (m + 1074).toNat : Nat) : Int) := by
  rw [← signed_mul]
  show FP.Core.signed s (c * 2 ^ (q + 1074).toNat) = _
  unfold FP.Core.inUnits
  rw [Nat.mul_assoc, ← Nat.pow_add]
  congr 3
  omega
theorem kE_lt {s : Bool} {c : Nat} {q : Int} (h : okD (.fin s c q)) : -(2 ^ 3000) < kE (.fin s c q) ∧ kE (.fin s c q) < 2 ^ 3000 := by
  have h2 : c * 2 ^ (q + 1074).toNat < 2 ^ 3000 := h.2
  have h3 : ((c * 2 ^ (q + 1074).toNat : Nat) : Int) < ((2 ^ 3000 : Nat) : Int) := Int.ofNat_lt.mpr h2
  have h4 : ((2 ^ 3000 : Nat) : Int) = 2 ^ 3000 := by rw [Int.natCast_pow]; rfl
  rw [h4] at h3
  have h5 : (0 : Int) ≤ ((c * 2 ^ (q + 1074).toNat : Nat) : Int) := Int.natCast_nonneg _
  generalize hB : (2 : Int) ^ 3000 = B at h3 ⊢
  cases s
  · show -B < ((c * 2 ^ (q + 1074).toNat : Nat) : Int) ∧ ((c * 2 ^ (q + 1074).toNat : Nat) : Int) < B
    generalize ((c * 2 ^ (q + 1074).toNat : Nat) : Int) = z at h3 h5 ⊢
    omega
  · show -B < -((c * 2 ^ (q + 1074).toNat : Nat) : Int) ∧ -((c * 2 ^ (q + 1074).toNat : Nat) : Int) < B
    generalize ((c * 2 ^ (q + 1074).toNat : Nat) : Int) = z at h3 h5 ⊢
    omega
theorem kE_inf (s : Bool) : kE (.inf s) = if s = true then -(2 ^ 3000) else 2 ^ 3000 := by
  have h4 : ((2 ^ 3000 : Nat) : Int) = 2 ^ 3000 := by rw [Int.natCast_pow]; rfl
  cases s
  · show ((2 ^ 3000 : Nat) : Int) = _
    rw [h4]; rfl
  · show -((2 ^ 3000 : Nat) : Int) = _
    rw [h4]; rfl
theorem big_pos : (0 : Int) < 2 ^ 3000 := Int.pow_pos (by decide)
theorem order_k {x y : DT} (hx : okD x) (hy : okD y) : qcmp x y = if (isN x || isN y) = true then none else some (compare (kE x) (kE y)) := by
  have hB := big_pos
  rcases x with _ | s | ⟨s, c, q⟩
  · rfl
  · rcases y with _ | t | ⟨t, d, r⟩
    · rfl
    · show some (compare (FP.Core.signed s 1) (FP.Core.signed t 1)) = some (compare (kE (.inf s)) (kE (.inf t)))
      rw [kE_inf, kE_inf]
      generalize (2 : Int) ^ 3000 = B at hB
      cases s <;> cases t
      · exact congrArg some ((Int.compare_eq_eq.mpr rfl).trans (Int.compare_eq_eq.mpr rfl).symm)
      · exact congrArg some ((Int.compare_eq_gt.mpr (by decide)).trans (Int.compare_eq_gt.mpr (by simp; omega)).symm)
      · exact congrArg some ((Int.compare_eq_lt.mpr (by decide)).trans (Int.compare_eq_lt.mpr (by simp; omega)).symm)
      · exact congrArg some ((Int.compare_eq_eq.mpr rfl).trans (Int.compare_eq_eq.mpr rfl).symm)
    · have h := kE_lt hy
      show some (compare (FP.Core.signed s 1) 0) = some (compare (kE (.inf s)) (kE (.fin t d r)))
      rw [kE_inf]
      generalize (2 : Int) ^ 3000 = B at hB h
      generalize kE (.fin t d r) = z at h
      cases s
      · exact congrArg some ((Int.compare_eq_gt.mpr (by decide)).trans (Int.compare_eq_gt.mpr (by simp; omega)).symm)
      · exact congrArg some ((Int.compare_eq_lt.mpr (by decide)).trans (Int.compare_eq_lt.mpr (by simp; omega)).symm)
  · rcases y with _ | t | ⟨t, d, r⟩
    · rfl
    · have h := kE_lt hx
      show some (compare 0 (FP.Core.signed t 1)) = some (compare (kE (.fin s c q)) (kE (.inf t)))
      rw [kE_inf]
      generalize (2 : Int) ^ 3000 = B at hB h
      generalize kE (.fin s c q) = z at h
      cases t
      · exact congrArg some ((Int.compare_eq_lt.mpr (by decide)).trans (Int.compare_eq_lt.mpr (by simp; omega)).symm)
      · exact congrArg some ((Int.compare_eq_gt.mpr (by decide)).trans (Int.compare_eq_gt.mpr (by simp; omega)).symm)
    · have h1 : -1074 ≤ q := hx.1
      have h2 : -1074 ≤ r := hy.1
      show some (compare (FP.Core.signed s (FP.Core.inUnits c q (min q r))) (FP.Core.signed t (FP.Core.inUnits d r (min q r)))) = some (compare (kE (.fin s c q)) (kE (.fin t d r)))
      rw [kE_fin (min q r) (by omega) (by omega), kE_fin (s := t) (c := d) (min q r) (by omega) (by omega)]
      exact congrArg some (cmp_mul (Int.natCast_pos.mpr (Nat.two_pow_pos _))).symm
theorem qlt_k {x y : DT} (hx : okD x) (hy : okD y) : qlt x y = (!(isN x || isN y) && decide (kE x < kE y)) := by
  unfold qlt
  rw [order_k hx hy]
  cases isN x || isN y
  · rcases Int.lt_trichotomy (kE x) (kE y) with h | h | h
    · rw [Int.compare_eq_lt.mpr h]; simp [h]
    · rw [h, Int.compare_eq_eq.mpr rfl]; simp
    · rw [Int.compare_eq_gt.mpr h]; simp; omega
  · rfl
theorem qgt_k {x y : DT} (hx : okD x) (hy : okD y) : qgt x y = (!(isN x || isN y) && decide (kE y < kE x)) := by
  unfold qgt
  rw [order_k hx hy]
  cases isN x || isN y
  · rcases Int.lt_trichotomy (kE x) (kE y) with h | h | h
    · rw [Int.compare_eq_lt.mpr h]; simp; omega
    · rw [h, Int.compare_eq_eq.mpr rfl]; simp
    · rw [Int.compare_eq_gt.mpr h]; simp [h]
  · rfl
theorem qeq_k {x y : DT} (hx : okD x) (hy : okD y) : qeq x y = (!(isN x || isN y) && decide (kE x = kE y)) := by
  unfold qeq
  rw [order_k hx hy]
  cases isN x || isN y
  · rcases Int.lt_trichotomy (kE x) (kE y) with h | h | h
    · rw [Int.compare_eq_lt.mpr h]; simp; omega
    · rw [h, Int.compare_eq_eq.mpr rfl]; simp
    · rw [Int.compare_eq_gt.mpr h]; simp; omega
  · rfl
theorem qle_k {x y : DT} (hx : okD x) (hy : okD y) : qle x y = (!(isN x || isN y) && decide (kE x ≤ kE y)) := by
  unfold qle
  rw [qlt_k hx hy, qeq_k hx hy]
  cases isN x || isN y
  · by_cases h1 : kE x < kE y
    · simp [h1]; omega
    · by_cases h2 : kE x = kE y
      · simp [h2]
      · simp [h1, h2]; omega
  · rfl
theorem qge_k {x y : DT} (hx : okD x) (hy : okD y) : qge x y = (!(isN x || isN y) && decide (kE y ≤ kE x)) := by
  unfold qge
  rw [qgt_k hx hy, qeq_k hx hy]
  cases isN x || isN y
  · by_cases h1 : kE y < kE x
    · simp [h1]; omega
    · by_cases h2 : kE x = kE y
      · simp [h2]
      · simp [h1, h2]; omega
  · rfl
/-- a datum is itself, or a NaN -/
theorem qeq_self {x : DT} (hx : okD x) (h : isN x = false) : qeq x x = true := by rw [qeq_k hx hx, h]; simp
theorem qeq_nan {x : DT} (hx : okD x) (h : qeq x x = false) : isN x = true := by
  rcases hb : isN x with _ | _
  · rw [qeq_self hx hb] at h; cases h
  · rfl
/-! chains of outer loops -/
theorem fb_holes : ∀ (m n : Nat) (f : Nat → Nat), (∀ i, i < n → f i < m) → (∀ i j, i < j → j < n → f i ≠ f j) → n ≤ m := by
  intro m
  induction m with
  | zero =>
    intro n f h1 _
    rcases Nat.eq_zero_or_pos n with h | h
    · omega
    · exact absurd (h1 0 h) (Nat.not_lt_zero _)
  | succ m ih =>
    intro n f h1 h2
    by_cases hx : ∃ i, i < n ∧ f i = m
    · obtain ⟨a, ha, hfa⟩ := hx
      have hg := ih (n - 1) (fun i => if i < a then f i else f (i + 1)) (by
        intro i hi
        by_cases q : i < a
        · simp only [if_pos q]
          have b1 := h1 i (by omega)
          have b2 := h2 i a q ha
          omega
        · simp only [if_neg q]
          have b1 := h1 (i + 1) (by omega)
          have b2 := h2 a (i + 1) (by omega) (by omega)
          omega) (by
        intro i j hij hj
        by_cases q : i < a
        · by_cases r : j < a
          · simp only [if_pos q, if_pos r]
            exact h2 i j hij (by omega)
          · simp only [if_pos q, if_neg r]
            exact h2 i (j + 1) (by omega) (by omega)
        · have r : ¬ j < a := by omega
          simp only [if_neg q, if_neg r]
          exact h2 (i + 1) (j + 1) (by omega) (by omega))
      omega
    · have hg := ih n f (fun i hi => by
        have b1 := h1 i hi
        have b2 : f i ≠ m := fun e => hx ⟨i, hi, e⟩
        omega) h2
      omega
def chn (OU : Nat → Option Nat) : Nat → Option Nat → Option Nat
  | 0, o => o
  | s + 1, o => chn OU s (o.bind OU)
theorem chn_none (OU : Nat → Option Nat) : ∀ s, chn OU s none = none
  | 0 => rfl
  | s + 1 => chn_none OU s
theorem ends_chn (OU : Nat → Option Nat) : ∀ (s : Nat) (o : Option Nat), endsN OU s o = true ↔ chn OU s o = none := by
  intro s
  induction s with
  | zero => intro o; cases o <;> simp [endsN, chn]
  | succ s ih =>
    intro o
    cases o with
    | none => exact ⟨fun _ => chn_none OU _, fun _ => rfl⟩
    | some a => exact ih (OU a)
theorem chn_add (OU : Nat → Option Nat) : ∀ (i t : Nat) (o : Option Nat), chn OU (i + t) o = chn OU t (chn OU i o) := by
  intro i
  induction i with
  | zero => intro t o; rw [Nat.zero_add]; rfl
  | succ i ih => intro t o; rw [show i + 1 + t = (i + t) + 1 by omega]; exact ih t (o.bind OU)
theorem chn_lt {OU : Nat → Option Nat} {n : Nat} (h : ∀ i o, i < n → OU i = some o → o < n) : ∀ (s : Nat) (o : Option Nat), (∀ x, o = some x → x < n) → ∀ x, chn OU s o = some x → x < n := by
  intro s
  induction s with
  | zero => intro o ho x hx; exact ho x hx
  | succ s ih =>
    intro o ho x hx
    refine ih (o.bind OU) (fun y hy => ?_) x hx
    cases o with
    | none => cases hy
    | some a => exact h a y (ho a rfl) hy
theorem ends_16 {OU : Nat → Option Nat} {n M : Nat} (hn : n ≤ 16) (h : ∀ i o, i < n → OU i = some o → o < n) {o : Option Nat} (ho : ∀ x, o = some x → x < n) (hM : endsN OU M o = true) : endsN OU 16 o = true := by
  refine (ends_chn OU 16 o).mpr (Classical.byContradiction fun hx => ?_)
  have hne : ∀ i, i ≤ 16 → chn OU i o ≠ none := fun i hi q => hx (by rw [show 16 = i + (16 - i) by omega, chn_add, q]; exact chn_none OU _)
  have hf : ∀ i, i < 17 → (chn OU i o).getD 0 < 16 := fun i hi => by
    rcases q : chn OU i o with _ | v
    · exact absurd q (hne i (by omega))
    · exact Nat.lt_of_lt_of_le (chn_lt h i o ho v q) hn
  obtain ⟨i, j, hij, hj, he⟩ : ∃ i j, i < j ∧ j < 17 ∧ (chn OU i o).getD 0 = (chn OU j o).getD 0 := by
    refine Classical.byContradiction fun hz => ?_
    have := fb_holes 16 17 (fun i => (chn OU i o).getD 0) hf (fun i j hij hj e => hz ⟨i, j, hij, hj, e⟩)
    omega
  have he2 : chn OU i o = chn OU j o := by
    rcases q : chn OU i o with _ | v
    · exact absurd q (hne i (by omega))
    · rcases q2 : chn OU j o with _ | w
      · exact absurd q2 (hne j (by omega))
      · rw [q, q2] at he; exact congrArg some he
  have hall : ∀ k, chn OU k o ≠ none := by
    intro k
    induction k using Nat.strongRecOn with
    | ind k ih =>
      by_cases hk : k ≤ 16
      · exact hne k hk
      · have e1 : chn OU k o = chn OU (i + (k - j)) o := by rw [show k = j + (k - j) by omega, chn_add, ← he2, ← chn_add]; congr 1; omega
        rw [e1]
        exact ih _ (by omega)
  exact hall M ((ends_chn OU M o).mp hM)
theorem ends_more (OU : Nat → Option Nat) : ∀ (s t : Nat) (o : Option Nat), endsN OU s o = true → endsN OU (s + t) o = true := fun s t o h => (ends_chn OU _ o).mpr (by rw [chn_add, (ends_chn OU s o).mp h]; exact chn_none OU t)
theorem ends_off {OU : Nat → Option Nat} {b : Nat} {v : Option Nat} : ∀ (s : Nat) (o : Option Nat), endsN OU s o = true → ledN OU s o b = false → endsN (va_up OU b v) s o = true := by
  intro s
  induction s with
  | zero => intro o h _; cases o; rfl; cases h
  | succ s ih =>
    intro o h hl
    cases o with
    | none => rfl
    | some a =>
      have hab : ¬ a = b := fun q => by simp [ledN, q] at hl
      have hl2 : ledN OU s (OU a) b = false := by simpa [ledN, hab] using hl
      show endsN (va_up OU b v) s (va_up OU b v a) = true
      rw [va_up_ne _ _ hab]
      exact ih (OU a) h hl2
theorem ends_up {OU : Nat → Option Nat} {a b M : Nat} (ha : endsN (va_up OU b (some a)) M (some a) = true) : ∀ (s : Nat) (o : Option Nat), endsN OU s o = true → endsN (va_up OU b (some a)) (s + M) o = true := by
  intro s
  induction s with
  | zero => intro o h; cases o; rw [Nat.zero_add]; exact (ends_chn _ _ _).mpr (chn_none _ _); cases h
  | succ s ih =>
    intro o h
    cases o with
    | none => exact (ends_chn _ _ _).mpr (chn_none _ _)
    | some x =>
      rw [show s + 1 + M = (s + M) + 1 by omega]
      show endsN (va_up OU b (some a)) (s + M) (va_up OU b (some a) x) = true
      by_cases hxb : x = b
      · subst hxb
        rw [va_up_self, Nat.add_comm]
        exact ends_more _ M s _ ha
      · rw [va_up_ne _ _ hxb]
        exact ih (OU x) h
theorem ends_put {OU : Nat → Option Nat} {n a b : Nat} (hn : n ≤ 16) (h : ∀ i o, i < n → OU i = some o → o < n) (hE : ∀ x, x < n → endsN OU 16 (some x) = true) (ha : a < n) (hb : b < n) (hl : ledN OU 16 (some a) b = false) : (∀ i o, i < n → va_up OU b (some a) i = some o → o < n) ∧ ∀ x, x < n → endsN (va_up OU b (some a)) 16 (some x) = true := by
  have h2 : ∀ i o, i < n → va_up OU b (some a) i = some o → o < n := fun i o hi ho => by
    by_cases q : i = b
    · subst q; rw [va_up_self] at ho; cases ho; exact ha
    · rw [va_up_ne _ _ q] at ho; exact h i o hi ho
  refine ⟨h2, fun x hx => ?_⟩
  exact ends_16 (M := 16 + 16) hn h2 (fun y hy => by cases hy; exact hx) (ends_up (ends_off 16 (some a) (hE a ha) hl) 16 (some x) (hE x hx))
