/-! more rows, and the words in which the methods are said -/
def bI (b : Bool) : Int32 := if b = true then 1 else 0
theorem bI_t : bI true = 1 := rfl
theorem bI_f : bI false = 0 := rfl
theorem bI_0 {b : Bool} : bI b = 0 ↔ b = false := by cases b <;> decide
theorem bI_r : ∀ b, narrow .boolean (.int (bI b)) = .int (bI b) := by intro b; cases b <;> rfl
section G8
variable {C : CX} {cc : ByteArray} {nL : Nat} {own : String} {ini : Bool} {R0 : Room} {G0 : GD} {l0 : Launch} {ret : Option FieldType} {post : PO} {L : List Nat} {f : Nat → va_E} {k n pc : Nat} {lv : List (Nat × Value)} {st : List Value}
theorem g_nm (kk : ∀ f1 : Nat → va_E, f1 = f → V C nL L f1 k n pc lv st) : V C nL L f k n pc lv st := kk f rfl
theorem g_nmI {v : Int32} (kk : ∀ x : Int32, x = v → V C nL L f k n pc lv (.int x :: st)) : V C nL L f k n pc lv (.int v :: st) := kk v rfl
theorem g_nmD {v : UInt64} (kk : ∀ x : UInt64, x = v → V C nL L f k n pc lv (.double x :: st)) : V C nL L f k n pc lv (.double v :: st) := kk v rfl
theorem g_eqI {v w : Int32} (h : v = w) (kk : V C nL L f k n pc lv (.int w :: st)) : V C nL L f k n pc lv (.int v :: st) := h ▸ kk
theorem g_eqD {v w : UInt64} (h : v = w) (kk : V C nL L f k n pc lv (.double w :: st)) : V C nL L f k n pc lv (.double v :: st) := h ▸ kk
theorem g_ifB_eq (hC : CxOk C cc nL own ini R0 G0 l0 ret post) {off : Int} {b : Bool} (tgt : Nat) (hdg : decode cc pc = .ok (.ifCond .eq off, 3)) (ht : (pc : Int) + off = (tgt : Int)) (kt : b = false → V C nL L f k n tgt lv st) (kf : b = true → V C nL L f k n (pc + 3) lv st) : V C nL L f k n pc lv (.int (bI b) :: st) :=
  g_if_eq hC tgt hdg ht (fun h => kt (bI_0.mp h)) (fun h => kf (by cases b; exact absurd rfl h; rfl))
theorem g_ifB_ne (hC : CxOk C cc nL own ini R0 G0 l0 ret post) {off : Int} {b : Bool} (tgt : Nat) (hdg : decode cc pc = .ok (.ifCond .ne off, 3)) (ht : (pc : Int) + off = (tgt : Int)) (kt : b = true → V C nL L f k n tgt lv st) (kf : b = false → V C nL L f k n (pc + 3) lv st) : V C nL L f k n pc lv (.int (bI b) :: st) :=
  g_if_ne hC tgt hdg ht (fun h => kt (by cases b; exact absurd rfl h; rfl)) (fun h => kf (bI_0.mp h))
end G8
abbrev R00 : Room := { frames := 0, cells := 0, slots := 0, locals := 0 }
def inB (v lo hi : DT) : Bool := qge v lo && qle v hi
def inS (v lo hi : DT) : Bool := qgt v lo && qlt v hi
def nearS (v lo hi : DT) : DT := if qlt v lo = true then lo else if qgt v hi = true then hi else v
def gainS (v : DT) : Bool := inB v (dv 0) (dv 4652007308841189376)
def readS (v : DT) : Bool := inB v (dv 13920209183539462144) (dv 4696837146684686336)
def ordS (lo hi : DT) (m : Int32) : Bool := qge lo (dv (FP.i2d (-m))) && (qle lo hi && qle hi (dv (FP.i2d m)))
def MV (u r w : DT) : DT := if qgt w (qadd u r) = true then qadd u r else if qlt w (qsub u r) = true then qsub u r else w
abbrev eSp (lo hi : UInt64) : va_E := .inr (1, [.double lo, .double hi])
abbrev eLp (x : Nat → UInt64) (md fa : Int32) (lm bd rg tn : Nat) (ou : Option Nat) : va_E := .inr (0, [.double (x 0), .double (x 1), .double (x 2), .ref lm, .ref bd, .ref rg, .ref tn, .double (x 3), .double (x 4), .double (x 5), .double (x 6), .double (x 7), .double (x 8), .int md, .int fa, va_rf ou])
abbrev eTn (le : UInt64) (rl sw lr : Int32) (mn mx : UInt64) (pe : Int32) : va_E := .inr (3, [.double le, .int rl, .int sw, .int lr, .double mn, .double mx, .int pe])
abbrev eSt (lp : Nat) (at0 : UInt64) : va_E := .inr (2, [.ref lp, .double at0])
