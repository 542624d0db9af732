/-! data of doubles: NaNs alike; arithmetic and order over data -/
abbrev DT : Type := FP.Core.Datum
def dv (x : UInt64) : DT := FP.Core.decode FP.Core.b64 x.toNat
def qof (d : DT) : DT := FP.Core.decode FP.Core.b64 (UInt64.ofNat (FP.Core.encode FP.Core.b64 d)).toNat
def qadd (x y : DT) : DT := qof (FP.Core.round FP.Core.b64 (FP.Core.exactSum x y))
def qsub (x y : DT) : DT := qof (FP.Core.round FP.Core.b64 (FP.Core.exactSum x (FP.Core.negate y)))
def qmul (x y : DT) : DT := qof (FP.Core.round FP.Core.b64 (FP.Core.exactProduct x y))
def qdiv (x y : DT) : DT := qof (FP.Core.quotient FP.Core.b64 x y)
theorem dv_nan {x : UInt64} (h : isNaN64 x = true) : dv x = .nan := by
  have h1 : 0x7ff0000000000000 < x.toNat &&& 0x7fffffffffffffff := isNaN64_iff.mp h
  have h2 : x.toNat &&& 0x7fffffffffffffff = x.toNat % 9223372036854775808 := Nat.and_two_pow_sub_one_eq_mod x.toNat 63
  rw [h2] at h1
  have hlt := x.toNat_lt
  have e1 : FP.Core.fieldE FP.Core.b64 x.toNat = FP.Core.b64.exps - 1 := by
    show x.toNat / 2 ^ (53 - 1) % 2 ^ 11 = 2 ^ 11 - 1
    omega
  have e2 : ¬ FP.Core.fieldT FP.Core.b64 x.toNat = 0 := by
    show ¬ x.toNat % 2 ^ (53 - 1) = 0
    omega
  unfold dv FP.Core.decode
  rw [if_pos e1, if_neg e2]
theorem dv_alike {a b : UInt64} (h : alike64 a b = true) : dv a = dv b := by
  unfold alike64 at h
  rcases (Bool.or_eq_true _ _).mp h with h | h
  · rw [of_decide_eq_true h]
  · obtain ⟨h1, h2⟩ := (Bool.and_eq_true _ _).mp h
    rw [dv_nan h1, dv_nan h2]
theorem dv_add {r x y : UInt64} (h : alike64 r (FP.dadd x y) = true) : dv r = qadd (dv x) (dv y) := dv_alike h
theorem dv_sub {r x y : UInt64} (h : alike64 r (FP.dsub x y) = true) : dv r = qsub (dv x) (dv y) := dv_alike h
theorem dv_mul {r x y : UInt64} (h : alike64 r (FP.dmul x y) = true) : dv r = qmul (dv x) (dv y) := dv_alike h
theorem dv_div {r x y : UInt64} (h : alike64 r (FP.ddiv x y) = true) : dv r = qdiv (dv x) (dv y) := dv_alike h
def qcmp (x y : DT) : Option Ordering := FP.Core.order x y
def qgt (x y : DT) : Bool := qcmp x y == some .gt
def qlt (x y : DT) : Bool := qcmp x y == some .lt
def qeq (x y : DT) : Bool := qcmp x y == some .eq
def qge (x y : DT) : Bool := qgt x y || qeq x y
def qle (x y : DT) : Bool := qlt x y || qeq x y
theorem dcmp_dv (x y : UInt64) : FP.dcmp x y = qcmp (dv x) (dv y) := rfl
theorem br_l_le (x y : UInt64) : (Op.cmpValue (FP.dcmp x y) .l ≤ 0) ↔ qgt (dv x) (dv y) = false := by
  rw [dcmp_dv]; unfold qgt; rcases qcmp (dv x) (dv y) with _ | (_ | _ | _) <;> decide
theorem br_l_gt (x y : UInt64) : (0 < Op.cmpValue (FP.dcmp x y) .l) ↔ qgt (dv x) (dv y) = true := by
  rw [dcmp_dv]; unfold qgt; rcases qcmp (dv x) (dv y) with _ | (_ | _ | _) <;> decide
theorem br_l_lt (x y : UInt64) : (Op.cmpValue (FP.dcmp x y) .l < 0) ↔ qge (dv x) (dv y) = false := by
  rw [dcmp_dv]; unfold qge qgt qeq; rcases qcmp (dv x) (dv y) with _ | (_ | _ | _) <;> decide
theorem br_l_eq (x y : UInt64) : (Op.cmpValue (FP.dcmp x y) .l = 0) ↔ qeq (dv x) (dv y) = true := by
  rw [dcmp_dv]; unfold qeq; rcases qcmp (dv x) (dv y) with _ | (_ | _ | _) <;> decide
theorem br_g_ge (x y : UInt64) : (0 ≤ Op.cmpValue (FP.dcmp x y) .g) ↔ qlt (dv x) (dv y) = false := by
  rw [dcmp_dv]; unfold qlt; rcases qcmp (dv x) (dv y) with _ | (_ | _ | _) <;> decide
theorem br_g_lt (x y : UInt64) : (Op.cmpValue (FP.dcmp x y) .g < 0) ↔ qlt (dv x) (dv y) = true := by
  rw [dcmp_dv]; unfold qlt; rcases qcmp (dv x) (dv y) with _ | (_ | _ | _) <;> decide
theorem br_g_gt (x y : UInt64) : (0 < Op.cmpValue (FP.dcmp x y) .g) ↔ qle (dv x) (dv y) = false := by
  rw [dcmp_dv]; unfold qle qlt qeq; rcases qcmp (dv x) (dv y) with _ | (_ | _ | _) <;> decide
theorem br_g_le (x y : UInt64) : (Op.cmpValue (FP.dcmp x y) .g ≤ 0) ↔ qle (dv x) (dv y) = true := by
  rw [dcmp_dv]; unfold qle qlt qeq; rcases qcmp (dv x) (dv y) with _ | (_ | _ | _) <;> decide
