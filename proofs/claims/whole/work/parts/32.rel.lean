/-! the class and the model ask the same -/
theorem cM : dv (FP.i2d (-10000)) = dv 13890095209322119168 := by decide +kernel
theorem cP : dv (FP.i2d 10000) = dv 4666723172467343360 := by decide +kernel
theorem dM : dv (FP.i2d (-1000000)) = dv 13920209183539462144 := by decide +kernel
theorem dP : dv (FP.i2d 1000000) = dv 4696837146684686336 := by decide +kernel
theorem n0 : isN (dv 0) = false := by decide +kernel
theorem n1 : isN (dv 13890095209322119168) = false := by decide +kernel
theorem n2 : isN (dv 4666723172467343360) = false := by decide +kernel
theorem n3 : isN (dv 13920209183539462144) = false := by decide +kernel
theorem n4 : isN (dv 4696837146684686336) = false := by decide +kernel
theorem lim_eq (lo hi rt : UInt64) : limM (dv lo) (dv hi) (dv rt) = limC (dv lo) (dv hi) (dv rt) := by
  unfold limM limC ordS safC inB
  rw [cM, cP]
  simp only [qlt_k (dv_ok _) (dv_ok _), qgt_k (dv_ok _) (dv_ok _), qeq_k (dv_ok _) (dv_ok _), qle_k (dv_ok _) (dv_ok _), qge_k (dv_ok _) (dv_ok _), n0, n1, n2]
  generalize kE (dv lo) = a
  generalize kE (dv hi) = b
  generalize kE (dv rt) = c
  generalize kE (dv 0) = z
  generalize kE (dv 13890095209322119168) = u
  generalize kE (dv 4666723172467343360) = w
  rw [Bool.eq_iff_iff]
  cases isN (dv lo) <;> cases isN (dv hi) <;> cases isN (dv rt) <;> simp <;> omega
theorem bnd_eq (lo hi : UInt64) : bndM (dv lo) (dv hi) = ordS (dv lo) (dv hi) 10000 := by
  unfold bndM ordS safC inB
  rw [cM, cP]
  simp only [qlt_k (dv_ok _) (dv_ok _), qgt_k (dv_ok _) (dv_ok _), qeq_k (dv_ok _) (dv_ok _), qle_k (dv_ok _) (dv_ok _), qge_k (dv_ok _) (dv_ok _), n0, n1, n2]
  generalize kE (dv lo) = a
  generalize kE (dv hi) = b
  generalize kE (dv 13890095209322119168) = u
  generalize kE (dv 4666723172467343360) = w
  rw [Bool.eq_iff_iff]
  cases isN (dv lo) <;> cases isN (dv hi) <;> simp <;> omega
theorem rng_eq (lo hi : UInt64) : rngM (dv lo) (dv hi) = ordS (dv lo) (dv hi) 1000000 := by
  unfold rngM ordS readS inB
  rw [dM, dP]
  simp only [qlt_k (dv_ok _) (dv_ok _), qgt_k (dv_ok _) (dv_ok _), qeq_k (dv_ok _) (dv_ok _), qle_k (dv_ok _) (dv_ok _), qge_k (dv_ok _) (dv_ok _), n3, n4]
  generalize kE (dv lo) = a
  generalize kE (dv hi) = b
  generalize kE (dv 13920209183539462144) = u
  generalize kE (dv 4696837146684686336) = w
  rw [Bool.eq_iff_iff]
  cases isN (dv lo) <;> cases isN (dv hi) <;> simp <;> omega
/-! the class's world against the model's -/
def LR (x : Nat → UInt64) (z : Nat → Int32) (o : Option Nat) (y : Nat → UInt64) (w : Nat → Int32) : Prop :=
  (∀ j, j < 13 → dv (x j) = dv (y j)) ∧ z 0 = w 20 ∧ z 1 = w 21 ∧ w 22 = oI o ∧ ((w 25 = 0 ∧ dv (x 13) = dv 13920209183539462144 ∧ dv (x 14) = dv 4696837146684686336) ∨ (w 25 ≠ 0 ∧ dv (x 13) = dv (y 13) ∧ dv (x 14) = dv (y 14))) ∧ (z 5 = w 23 ∧ (w 23 ≠ 0 → dv (x 16) = dv (y 16) ∧ dv (x 17) = dv (y 17) ∧ isN (tgA (dv (y 16)) (dv (y 17))) = false))
def REL (n k : Nat) (X : Nat → Nat → UInt64) (XS : Nat → UInt64) (Z : Nat → Nat → Int32) (OU : Nat → Option Nat) (SL : Nat → Nat) (Y : Nat → Nat → UInt64) (W0 : Nat → Nat → Int32) : Prop :=
  (∀ i, i < n → LR (X i) (Z i) (OU i) (Y i) (W0 i)) ∧ (∀ i, n ≤ i → i < 16 → (∀ j, j < 18 → Y i j = 0) ∧ ∀ j, j < 26 → j ≠ 24 → W0 i j = 0) ∧ (∀ j, j < k → SL j < n ∧ W0 j 24 = nI (SL j) ∧ dv (XS j) = dv (Y j 18)) ∧ (∀ i o, i < n → OU i = some o → o < n) ∧ (∀ a, a < n → endsN OU 16 (some a) = true)
def JW (G : GD) (x0 q0 : Nat) (L : List Nat) (f : Nat → va_E) : Prop :=
  ∃ (n k : Nat) (c : Nat → Nat → Nat) (ma : Nat → Nat) (X : Nat → Nat → UInt64) (XS : Nat → UInt64) (Z : Nat → Nat → Int32) (OU : Nat → Option Nat) (SL : Nat → Nat) (Y : Nat → Nat → UInt64) (W0 : Nat → Nat → Int32), c 6 0 = x0 ∧ CI G c n k X XS Z OU SL L f ∧ MI G q0 ma n k Y W0 L f ∧ REL n k X XS Z OU SL Y W0
theorem up2_r {α : Type} (Y : Nat → Nat → α) (i j : Nat) (x : α) : up2 Y i j x i = va_up (Y i) j x := by
  funext b
  simp [up2, va_up]
theorem up2_o {α : Type} (Y : Nat → Nat → α) (i j : Nat) (x : α) {a : Nat} (h : a ≠ i) : up2 Y i j x a = Y a := by
  funext b
  simp [up2, h]
theorem LR.up {x : Nat → UInt64} {z : Nat → Int32} {o : Option Nat} {y : Nat → UInt64} {w : Nat → Int32} (h : LR x z o y w) {j : Nat} (hj : j < 13) {v v1 : UInt64} (hv : dv v = dv v1) : LR (va_up x j v) z o (va_up y j v1) w := by
  obtain ⟨h1, h2, h3, h4, h5, h6⟩ := h
  have e : ∀ b, 13 ≤ b → va_up x j v b = x b := fun b hb => va_up_ne _ _ (by omega)
  have e1 : ∀ b, 13 ≤ b → va_up y j v1 b = y b := fun b hb => va_up_ne _ _ (by omega)
  refine ⟨fun b hb => ?_, h2, h3, h4, ?_, ?_⟩
  · by_cases q : b = j
    · subst q; rw [va_up_self, va_up_self]; exact hv
    · rw [va_up_ne _ _ q, va_up_ne _ _ q]; exact h1 b hb
  · rw [e 13 (by omega), e 14 (by omega), e1 13 (by omega), e1 14 (by omega)]; exact h5
  · rw [e 16 (by omega), e 17 (by omega), e1 16 (by omega), e1 17 (by omega)]; exact h6
theorem REL.set {n k : Nat} {X : Nat → Nat → UInt64} {XS : Nat → UInt64} {Z : Nat → Nat → Int32} {OU : Nat → Option Nat} {SL : Nat → Nat} {Y : Nat → Nat → UInt64} {W0 : Nat → Nat → Int32} (h : REL n k X XS Z OU SL Y W0) {i : Nat} (hi : i < n) {x1 : Nat → UInt64} {z1 : Nat → Int32} {Y1 : Nat → Nat → UInt64} {W1 : Nat → Nat → Int32} (hY : ∀ a, a ≠ i → Y1 a = Y a) (hW : ∀ a, a ≠ i → W1 a = W0 a) (h18 : Y1 i 18 = Y i 18) (h24 : W1 i 24 = W0 i 24) (hl : LR x1 z1 (OU i) (Y1 i) (W1 i)) : REL n k (va_up X i x1) XS (va_up Z i z1) OU SL Y1 W1 := by
  obtain ⟨h1, h2, h3, h4, h5⟩ := h
  have a18 : ∀ a, Y1 a 18 = Y a 18 := fun a => by by_cases q : a = i; rw [q]; exact h18; rw [hY a q]
  have a24 : ∀ a, W1 a 24 = W0 a 24 := fun a => by by_cases q : a = i; rw [q]; exact h24; rw [hW a q]
  refine ⟨fun a ha => ?_, fun a h6 h7 => ?_, fun j hj => ?_, h4, h5⟩
  · by_cases q : a = i
    · subst q; rw [va_up_self, va_up_self]; exact hl
    · rw [va_up_ne _ _ q, va_up_ne _ _ q, hY a q, hW a q]; exact h1 a ha
  · rw [hY a (by omega), hW a (by omega)]; exact h2 a h6 h7
  · rw [a24, a18]; exact h3 j hj
theorem REL.setX {n k : Nat} {X : Nat → Nat → UInt64} {XS : Nat → UInt64} {Z : Nat → Nat → Int32} {OU : Nat → Option Nat} {SL : Nat → Nat} {Y : Nat → Nat → UInt64} {W0 : Nat → Nat → Int32} (h : REL n k X XS Z OU SL Y W0) {i : Nat} (hi : i < n) {x1 : Nat → UInt64} {Y1 : Nat → Nat → UInt64} {W1 : Nat → Nat → Int32} (hY : ∀ a, a ≠ i → Y1 a = Y a) (hW : ∀ a, a ≠ i → W1 a = W0 a) (h18 : Y1 i 18 = Y i 18) (h24 : W1 i 24 = W0 i 24) (hl : LR x1 (Z i) (OU i) (Y1 i) (W1 i)) : REL n k (va_up X i x1) XS Z OU SL Y1 W1 := by
  have h2 := REL.set h hi hY hW h18 h24 hl
  rwa [va_up_id (rfl : Z i = Z i)] at h2
theorem JW.mk {G : GD} {x0 q0 : Nat} {L : List Nat} {f : Nat → va_E} {n k : Nat} {c : Nat → Nat → Nat} {ma : Nat → Nat} {X : Nat → Nat → UInt64} {XS : Nat → UInt64} {Z : Nat → Nat → Int32} {OU : Nat → Option Nat} {SL : Nat → Nat} {Y : Nat → Nat → UInt64} {W0 : Nat → Nat → Int32} (h0 : c 6 0 = x0) (hI : CI G c n k X XS Z OU SL L f) (hM : MI G q0 ma n k Y W0 L f) (hR : REL n k X XS Z OU SL Y W0) : JW G x0 q0 L f := ⟨n, k, c, ma, X, XS, Z, OU, SL, Y, W0, h0, hI, hM, hR⟩
