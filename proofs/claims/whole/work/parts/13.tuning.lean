/-! tuning: a second, a run, the gains, over data -/
abbrev TS : Type := DT × Int32 × Int32 × Int32 × DT × DT × Int32
def tRel (le : DT) : Int32 := if qlt le (dv 4602678819172646912) = true then 1 else 0
def tIs (t : Int32) (z : TS) : Bool := !decide (t ≤ 0) && !decide (tRel z.1 = z.2.1 &&& 1)
def tSw (t : Int32) (z : TS) : Int32 := if tIs t z = true then z.2.2.1 + 1 else z.2.2.1
def tRise (t : Int32) (z : TS) : Bool := tIs t z && decide (tRel z.1 = 1)
def tLr (t : Int32) (z : TS) : Int32 := if tRise t z = true then t else z.2.2.2.1
def tPe (t : Int32) (z : TS) : Int32 := if tRise t z = true then (if z.2.2.2.1 = 0 then 0 else t - z.2.2.2.1) else z.2.2.2.2.2.2
def tRl (z : TS) : Int32 := (z.2.1 <<< ((1 : Int32) &&& 31) ||| tRel z.1) &&& 15
def tLe (z : TS) : DT := qadd z.1 (qmul (qsub (dv (FP.i2d (z.2.1 >>> ((3 : Int32) &&& 31) &&& 1))) z.1) (dv 4589168020290535424))
def tFi (t : Int32) (z : TS) : Bool := tIs t z && decide (tSw t z = 1)
def tMn (t : Int32) (z : TS) : DT := if tSw t z ≤ 0 then z.2.2.2.2.1 else (if (tFi t z || qlt (tLe z) z.2.2.2.2.1) = true then tLe z else z.2.2.2.2.1)
def tMx (t : Int32) (z : TS) : DT := if tSw t z ≤ 0 then z.2.2.2.2.2.1 else (if (tFi t z || qgt (tLe z) z.2.2.2.2.2.1) = true then tLe z else z.2.2.2.2.2.1)
def tStep (t : Int32) (z : TS) : TS := (tLe z, tRl z, tSw t z, tLr t z, tMn t z, tMx t z, tPe t z)
def tRun (z : TS) : Nat → TS
  | 0 => z
  | j + 1 => tStep (nI j) (tRun z j)
def tgA (mn mx : DT) : DT := qmul (qsub mx mn) (dv 4602678819172646912)
def tgG (mn mx : DT) : DT := qdiv (dv 4607182418800017408) (tgA mn mx)
def tgV (mn mx : DT) (pe k : Int32) : DT := if k = 0 then qmul (dv 4602678819172646912) (tgG mn mx) else if k = 1 then qdiv (tgG mn mx) (dv (FP.i2d pe)) else if k = 2 then qmul (qmul (dv 4589168020290535424) (tgG mn mx)) (dv (FP.i2d pe)) else dv 0
def tgS (mn mx : DT) (pe k : Int32) : DT := if pe = 0 then dv 0 else if qle (tgA mn mx) (dv 0) = true then dv 0 else tgV mn mx pe k
theorem sw3 (k : Int32) : k = 0 ∨ k = 1 ∨ k = 2 ∨ (k.toInt < 0 ∨ 2 < k.toInt) := by
  have h0 : k = 0 ↔ k.toInt = 0 := by rw [← Int32.toInt_inj]; rfl
  have h1 : k = 1 ↔ k.toInt = 1 := by rw [← Int32.toInt_inj]; rfl
  have h2 : k = 2 ↔ k.toInt = 2 := by rw [← Int32.toInt_inj]; rfl
  rw [h0, h1, h2]
  omega
set_option maxHeartbeats 4000000 in
set_option maxRecDepth 100000 in
/-- countSwitch(second, relay) -/
theorem ct_X3_countSwitch (l : Launch) (G : GD) (L : List Nat) (f : Nat → va_E) (a : Nat) (le : UInt64) (rl sw lr : Int32) (mn mx : UInt64) (pe : Int32) (t r : Int32) (hL_a : a ∈ L) (h0 : f a = eTn le rl sw lr mn mx pe) : Ctr l yX3_countSwitch cX3_countSwitch 3 none R00 G [.ref a, .int t, .int r] L f (fun vv L1 f1 => vv = none ∧ L = L1 ∧ f1 = va_up f a (eTn le rl (sw + 1) (if r = 1 then t else lr) mn mx (if r = 1 then (if lr = 0 then 0 else t - lr) else pe))) := by
  refine g_enter RX3 false (by decide) rfl (fun h => by cases h) (Nat.le_of_ble_eq_true rfl) (fun C hC => ?_)
  refine (show V C 3 L f 0 0 0 [(0, .ref a), (1, .int t), (2, .int r)] [] from ?_)
  refine g_aload_n hC dX3_countSwitch_0 0 rfl ?_
  refine g_dup hC dX3_countSwitch_1 rfl ?_
  refine g_get hC (kf := 2) (TT := TX3) (N := 7) (Cn := RX3) dX3_countSwitch_2 hL_a h0 rfl q_u3 (by decide) q_fl_X3_17 rfl rfl ?_
  refine g_iconst hC 1 dX3_countSwitch_5 (by decide) ?_
  refine g_iadd hC dX3_countSwitch_6 ?_
  refine g_put hC (kf := 2) (TT := TX3) (N := 7) (Cn := RX3) (ty0 := tyX3) (fs1 := [.double le, .int rl, .int (sw + 1), .int lr, .double mn, .double mx, .int pe]) dX3_countSwitch_7 hL_a h0 rfl q_u3 (by decide) tyX3_ok nmX3 q_fl_X3_17 rfl rfl rfl rfl rfl (Nat.le_of_ble_eq_true rfl) rfl ?_
  refine g_nm (fun f1 hf2 => ?_)
  have hx3 : f1 a = .inr (3, [.double le, .int rl, .int (sw + 1), .int lr, .double mn, .double mx, .int pe]) := by rw [hf2]; exact va_up_self _ _ _
  have hF4 : f1 = va_up f a (.inr (3, [.double le, .int rl, .int (sw + 1), .int lr, .double mn, .double mx, .int pe])) := hf2
  refine g_iload_n hC dX3_countSwitch_10 2 rfl ?_
  refine g_iconst hC 1 dX3_countSwitch_11 (by decide) ?_
  refine g_icmp_ne hC 41 dX3_countSwitch_12 (by decide) (fun c5 => ?_) (fun c5 => ?_)
  · skip
    exact g_vret hC dX3_countSwitch_41 rfl ⟨rfl, rfl, by rw [hF4]; simp [c5]⟩ (Nat.zero_le _) (Nat.zero_le _)
  · skip
    refine g_aload_n hC dX3_countSwitch_15 0 rfl ?_
    refine g_aload_n hC dX3_countSwitch_16 0 rfl ?_
    refine g_get hC (kf := 3) (TT := TX3) (N := 7) (Cn := RX3) dX3_countSwitch_17 hL_a hx3 rfl q_u3 (by decide) q_fl_X3_20 rfl rfl ?_
    refine g_if_ne hC 27 dX3_countSwitch_20 (by decide) (fun c6 => ?_) (fun c6 => ?_)
    · skip
      refine g_iload_n hC dX3_countSwitch_27 1 rfl ?_
      refine g_aload_n hC dX3_countSwitch_28 0 rfl ?_
      refine g_get hC (kf := 3) (TT := TX3) (N := 7) (Cn := RX3) dX3_countSwitch_29 hL_a hx3 rfl q_u3 (by decide) q_fl_X3_20 rfl rfl ?_
      refine g_isub hC dX3_countSwitch_32 ?_
      refine g_put hC (kf := 6) (TT := TX3) (N := 7) (Cn := RX3) (ty0 := tyX3) (fs1 := [.double le, .int rl, .int (sw + 1), .int lr, .double mn, .double mx, .int (t - lr)]) dX3_countSwitch_33 hL_a hx3 rfl q_u3 (by decide) tyX3_ok nmX3 q_fl_X3_23 rfl rfl rfl rfl rfl (Nat.le_of_ble_eq_true rfl) rfl ?_
      refine g_nm (fun f7 hf8 => ?_)
      have hx9 : f7 a = .inr (3, [.double le, .int rl, .int (sw + 1), .int lr, .double mn, .double mx, .int (t - lr)]) := by rw [hf8]; exact va_up_self _ _ _
      have hF10 : f7 = va_up f a (.inr (3, [.double le, .int rl, .int (sw + 1), .int lr, .double mn, .double mx, .int (t - lr)])) := by rw [hf8, hF4, va_up_up]
      refine g_aload_n hC dX3_countSwitch_36 0 rfl ?_
      refine g_iload_n hC dX3_countSwitch_37 1 rfl ?_
      refine g_put hC (kf := 3) (TT := TX3) (N := 7) (Cn := RX3) (ty0 := tyX3) (fs1 := [.double le, .int rl, .int (sw + 1), .int t, .double mn, .double mx, .int (t - lr)]) dX3_countSwitch_38 hL_a hx9 rfl q_u3 (by decide) tyX3_ok nmX3 q_fl_X3_20 rfl rfl rfl rfl rfl (Nat.le_of_ble_eq_true rfl) rfl ?_
      refine g_nm (fun f11 hf12 => ?_)
      have hx13 : f11 a = .inr (3, [.double le, .int rl, .int (sw + 1), .int t, .double mn, .double mx, .int (t - lr)]) := by rw [hf12]; exact va_up_self _ _ _
      have hF14 : f11 = va_up f a (.inr (3, [.double le, .int rl, .int (sw + 1), .int t, .double mn, .double mx, .int (t - lr)])) := by rw [hf12, hF10, va_up_up]
      exact g_vret hC dX3_countSwitch_41 rfl ⟨rfl, rfl, by rw [hF14]; simp [c5, c6]⟩ (Nat.zero_le _) (Nat.zero_le _)
    · skip
      refine g_iconst hC 0 dX3_countSwitch_23 (by decide) ?_
      refine g_goto hC 33 dX3_countSwitch_24 (by decide) ?_
      refine g_put hC (kf := 6) (TT := TX3) (N := 7) (Cn := RX3) (ty0 := tyX3) (fs1 := [.double le, .int rl, .int (sw + 1), .int lr, .double mn, .double mx, .int 0]) dX3_countSwitch_33 hL_a hx3 rfl q_u3 (by decide) tyX3_ok nmX3 q_fl_X3_23 rfl rfl rfl rfl rfl (Nat.le_of_ble_eq_true rfl) rfl ?_
      refine g_nm (fun f15 hf16 => ?_)
      have hx17 : f15 a = .inr (3, [.double le, .int rl, .int (sw + 1), .int lr, .double mn, .double mx, .int 0]) := by rw [hf16]; exact va_up_self _ _ _
      have hF18 : f15 = va_up f a (.inr (3, [.double le, .int rl, .int (sw + 1), .int lr, .double mn, .double mx, .int 0])) := by rw [hf16, hF4, va_up_up]
      refine g_aload_n hC dX3_countSwitch_36 0 rfl ?_
      refine g_iload_n hC dX3_countSwitch_37 1 rfl ?_
      refine g_put hC (kf := 3) (TT := TX3) (N := 7) (Cn := RX3) (ty0 := tyX3) (fs1 := [.double le, .int rl, .int (sw + 1), .int t, .double mn, .double mx, .int 0]) dX3_countSwitch_38 hL_a hx17 rfl q_u3 (by decide) tyX3_ok nmX3 q_fl_X3_20 rfl rfl rfl rfl rfl (Nat.le_of_ble_eq_true rfl) rfl ?_
      refine g_nm (fun f19 hf20 => ?_)
      have hx21 : f19 a = .inr (3, [.double le, .int rl, .int (sw + 1), .int t, .double mn, .double mx, .int 0]) := by rw [hf20]; exact va_up_self _ _ _
      have hF22 : f19 = va_up f a (.inr (3, [.double le, .int rl, .int (sw + 1), .int t, .double mn, .double mx, .int 0])) := by rw [hf20, hF18, va_up_up]
      exact g_vret hC dX3_countSwitch_41 rfl ⟨rfl, rfl, by rw [hF22]; simp [c5, c6]⟩ (Nat.zero_le _) (Nat.zero_le _)
set_option maxHeartbeats 4000000 in
set_option maxRecDepth 100000 in
/-- keepLevel(isFirst) -/
theorem ct_X3_keepLevel (l : Launch) (G : GD) (L : List Nat) (f : Nat → va_E) (a : Nat) (le : UInt64) (rl sw lr : Int32) (mn mx : UInt64) (pe : Int32) (b : Bool) (hL_a : a ∈ L) (h0 : f a = eTn le rl sw lr mn mx pe) : Ctr l yX3_keepLevel cX3_keepLevel 2 none R00 G [.ref a, .int (bI b)] L f (fun vv L1 f1 => vv = none ∧ L = L1 ∧ f1 = va_up f a (eTn le rl sw lr (if (b || qlt (dv le) (dv mn)) = true then le else mn) (if (b || qgt (dv le) (dv mx)) = true then le else mx) pe)) := by
  refine g_enter RX3 false (by decide) rfl (fun h => by cases h) (Nat.le_of_ble_eq_true rfl) (fun C hC => ?_)
  refine (show V C 2 L f 0 0 0 [(0, .ref a), (1, .int (bI b))] [] from ?_)
  refine g_aload_n hC dX3_keepLevel_0 0 rfl ?_
  refine g_iload_n hC dX3_keepLevel_1 1 rfl ?_
  refine g_ifB_ne hC 17 dX3_keepLevel_2 (by decide) (fun c1 => ?_) (fun c1 => ?_)
  · skip
    refine g_aload_n hC dX3_keepLevel_17 0 rfl ?_
    refine g_get hC (kf := 0) (TT := TX3) (N := 7) (Cn := RX3) dX3_keepLevel_18 hL_a h0 rfl q_u3 (by decide) q_fl_X3_7 rfl rfl ?_
    refine g_goto hC 28 dX3_keepLevel_21 (by decide) ?_
    refine g_put hC (kf := 4) (TT := TX3) (N := 7) (Cn := RX3) (ty0 := tyX3) (fs1 := [.double le, .int rl, .int sw, .int lr, .double le, .double mx, .int pe]) dX3_keepLevel_28 hL_a h0 rfl q_u3 (by decide) tyX3_ok nmX3 q_fl_X3_42 rfl rfl rfl rfl rfl (Nat.le_of_ble_eq_true rfl) rfl ?_
    refine g_nm (fun f2 hf3 => ?_)
    have hx4 : f2 a = .inr (3, [.double le, .int rl, .int sw, .int lr, .double le, .double mx, .int pe]) := by rw [hf3]; exact va_up_self _ _ _
    have hF5 : f2 = va_up f a (.inr (3, [.double le, .int rl, .int sw, .int lr, .double le, .double mx, .int pe])) := hf3
    refine g_aload_n hC dX3_keepLevel_31 0 rfl ?_
    refine g_iload_n hC dX3_keepLevel_32 1 rfl ?_
    refine g_ifB_ne hC 48 dX3_keepLevel_33 (by decide) (fun _ => ?_) (fun c => absurd (c.symm.trans c1) (by decide))
    refine g_aload_n hC dX3_keepLevel_48 0 rfl ?_
    refine g_get hC (kf := 0) (TT := TX3) (N := 7) (Cn := RX3) dX3_keepLevel_49 hL_a hx4 rfl q_u3 (by decide) q_fl_X3_7 rfl rfl ?_
    refine g_goto hC 59 dX3_keepLevel_52 (by decide) ?_
    refine g_put hC (kf := 5) (TT := TX3) (N := 7) (Cn := RX3) (ty0 := tyX3) (fs1 := [.double le, .int rl, .int sw, .int lr, .double le, .double le, .int pe]) dX3_keepLevel_59 hL_a hx4 rfl q_u3 (by decide) tyX3_ok nmX3 q_fl_X3_45 rfl rfl rfl rfl rfl (Nat.le_of_ble_eq_true rfl) rfl ?_
    refine g_nm (fun f7 hf8 => ?_)
    have hx9 : f7 a = .inr (3, [.double le, .int rl, .int sw, .int lr, .double le, .double le, .int pe]) := by rw [hf8]; exact va_up_self _ _ _
    have hF10 : f7 = va_up f a (.inr (3, [.double le, .int rl, .int sw, .int lr, .double le, .double le, .int pe])) := by rw [hf8, hF5, va_up_up]
    exact g_vret hC dX3_keepLevel_62 rfl ⟨rfl, rfl, by rw [hF10]; simp [c1]⟩ (Nat.zero_le _) (Nat.zero_le _)
  · skip
    refine g_aload_n hC dX3_keepLevel_5 0 rfl ?_
    refine g_get hC (kf := 0) (TT := TX3) (N := 7) (Cn := RX3) dX3_keepLevel_6 hL_a h0 rfl q_u3 (by decide) q_fl_X3_7 rfl rfl ?_
    refine g_aload_n hC dX3_keepLevel_9 0 rfl ?_
    refine g_get hC (kf := 4) (TT := TX3) (N := 7) (Cn := RX3) dX3_keepLevel_10 hL_a h0 rfl q_u3 (by decide) q_fl_X3_42 rfl rfl ?_
    refine g_dcmpg_ge hC 24 dX3_keepLevel_13 dX3_keepLevel_14 (by decide) (fun c11 => ?_) (fun c11 => ?_)
    · skip
      refine g_aload_n hC dX3_keepLevel_24 0 rfl ?_
      refine g_get hC (kf := 4) (TT := TX3) (N := 7) (Cn := RX3) dX3_keepLevel_25 hL_a h0 rfl q_u3 (by decide) q_fl_X3_42 rfl rfl ?_
      refine g_put hC (kf := 4) (TT := TX3) (N := 7) (Cn := RX3) (ty0 := tyX3) (fs1 := [.double le, .int rl, .int sw, .int lr, .double mn, .double mx, .int pe]) dX3_keepLevel_28 hL_a h0 rfl q_u3 (by decide) tyX3_ok nmX3 q_fl_X3_42 rfl rfl rfl rfl rfl (Nat.le_of_ble_eq_true rfl) rfl ?_
      refine g_nm (fun f12 hf13 => ?_)
      have hx14 : f12 a = .inr (3, [.double le, .int rl, .int sw, .int lr, .double mn, .double mx, .int pe]) := by rw [hf13]; exact va_up_self _ _ _
      have hF15 : f12 = va_up f a (.inr (3, [.double le, .int rl, .int sw, .int lr, .double mn, .double mx, .int pe])) := hf13
      refine g_aload_n hC dX3_keepLevel_31 0 rfl ?_
      refine g_iload_n hC dX3_keepLevel_32 1 rfl ?_
      refine g_ifB_ne hC 48 dX3_keepLevel_33 (by decide) (fun c => absurd (c.symm.trans c1) (by decide)) (fun _ => ?_)
      refine g_aload_n hC dX3_keepLevel_36 0 rfl ?_
      refine g_get hC (kf := 0) (TT := TX3) (N := 7) (Cn := RX3) dX3_keepLevel_37 hL_a hx14 rfl q_u3 (by decide) q_fl_X3_7 rfl rfl ?_
      refine g_aload_n hC dX3_keepLevel_40 0 rfl ?_
      refine g_get hC (kf := 5) (TT := TX3) (N := 7) (Cn := RX3) dX3_keepLevel_41 hL_a hx14 rfl q_u3 (by decide) q_fl_X3_45 rfl rfl ?_
      refine g_dcmpl_le hC 55 dX3_keepLevel_44 dX3_keepLevel_45 (by decide) (fun c17 => ?_) (fun c17 => ?_)
      · skip
        refine g_aload_n hC dX3_keepLevel_55 0 rfl ?_
        refine g_get hC (kf := 5) (TT := TX3) (N := 7) (Cn := RX3) dX3_keepLevel_56 hL_a hx14 rfl q_u3 (by decide) q_fl_X3_45 rfl rfl ?_
        refine g_put hC (kf := 5) (TT := TX3) (N := 7) (Cn := RX3) (ty0 := tyX3) (fs1 := [.double le, .int rl, .int sw, .int lr, .double mn, .double mx, .int pe]) dX3_keepLevel_59 hL_a hx14 rfl q_u3 (by decide) tyX3_ok nmX3 q_fl_X3_45 rfl rfl rfl rfl rfl (Nat.le_of_ble_eq_true rfl) rfl ?_
        refine g_nm (fun f18 hf19 => ?_)
        have hx20 : f18 a = .inr (3, [.double le, .int rl, .int sw, .int lr, .double mn, .double mx, .int pe]) := by rw [hf19]; exact va_up_self _ _ _
        have hF21 : f18 = va_up f a (.inr (3, [.double le, .int rl, .int sw, .int lr, .double mn, .double mx, .int pe])) := by rw [hf19, hF15, va_up_up]
        exact g_vret hC dX3_keepLevel_62 rfl ⟨rfl, rfl, by rw [hF21]; simp [c1, c11, c17]⟩ (Nat.zero_le _) (Nat.zero_le _)
      · skip
        refine g_aload_n hC dX3_keepLevel_48 0 rfl ?_
        refine g_get hC (kf := 0) (TT := TX3) (N := 7) (Cn := RX3) dX3_keepLevel_49 hL_a hx14 rfl q_u3 (by decide) q_fl_X3_7 rfl rfl ?_
        refine g_goto hC 59 dX3_keepLevel_52 (by decide) ?_
        refine g_put hC (kf := 5) (TT := TX3) (N := 7) (Cn := RX3) (ty0 := tyX3) (fs1 := [.double le, .int rl, .int sw, .int lr, .double mn, .double le, .int pe]) dX3_keepLevel_59 hL_a hx14 rfl q_u3 (by decide) tyX3_ok nmX3 q_fl_X3_45 rfl rfl rfl rfl rfl (Nat.le_of_ble_eq_true rfl) rfl ?_
        refine g_nm (fun f22 hf23 => ?_)
        have hx24 : f22 a = .inr (3, [.double le, .int rl, .int sw, .int lr, .double mn, .double le, .int pe]) := by rw [hf23]; exact va_up_self _ _ _
        have hF25 : f22 = va_up f a (.inr (3, [.double le, .int rl, .int sw, .int lr, .double mn, .double le, .int pe])) := by rw [hf23, hF15, va_up_up]
        exact g_vret hC dX3_keepLevel_62 rfl ⟨rfl, rfl, by rw [hF25]; simp [c1, c11, c17]⟩ (Nat.zero_le _) (Nat.zero_le _)
    · skip
      refine g_aload_n hC dX3_keepLevel_17 0 rfl ?_
      refine g_get hC (kf := 0) (TT := TX3) (N := 7) (Cn := RX3) dX3_keepLevel_18 hL_a h0 rfl q_u3 (by decide) q_fl_X3_7 rfl rfl ?_
      refine g_goto hC 28 dX3_keepLevel_21 (by decide) ?_
      refine g_put hC (kf := 4) (TT := TX3) (N := 7) (Cn := RX3) (ty0 := tyX3) (fs1 := [.double le, .int rl, .int sw, .int lr, .double le, .double mx, .int pe]) dX3_keepLevel_28 hL_a h0 rfl q_u3 (by decide) tyX3_ok nmX3 q_fl_X3_42 rfl rfl rfl rfl rfl (Nat.le_of_ble_eq_true rfl) rfl ?_
      refine g_nm (fun f26 hf27 => ?_)
      have hx28 : f26 a = .inr (3, [.double le, .int rl, .int sw, .int lr, .double le, .double mx, .int pe]) := by rw [hf27]; exact va_up_self _ _ _
      have hF29 : f26 = va_up f a (.inr (3, [.double le, .int rl, .int sw, .int lr, .double le, .double mx, .int pe])) := hf27
      refine g_aload_n hC dX3_keepLevel_31 0 rfl ?_
      refine g_iload_n hC dX3_keepLevel_32 1 rfl ?_
      refine g_ifB_ne hC 48 dX3_keepLevel_33 (by decide) (fun c => absurd (c.symm.trans c1) (by decide)) (fun _ => ?_)
      refine g_aload_n hC dX3_keepLevel_36 0 rfl ?_
      refine g_get hC (kf := 0) (TT := TX3) (N := 7) (Cn := RX3) dX3_keepLevel_37 hL_a hx28 rfl q_u3 (by decide) q_fl_X3_7 rfl rfl ?_
      refine g_aload_n hC dX3_keepLevel_40 0 rfl ?_
      refine g_get hC (kf := 5) (TT := TX3) (N := 7) (Cn := RX3) dX3_keepLevel_41 hL_a hx28 rfl q_u3 (by decide) q_fl_X3_45 rfl rfl ?_
      refine g_dcmpl_le hC 55 dX3_keepLevel_44 dX3_keepLevel_45 (by decide) (fun c31 => ?_) (fun c31 => ?_)
      · skip
        refine g_aload_n hC dX3_keepLevel_55 0 rfl ?_
        refine g_get hC (kf := 5) (TT := TX3) (N := 7) (Cn := RX3) dX3_keepLevel_56 hL_a hx28 rfl q_u3 (by decide) q_fl_X3_45 rfl rfl ?_
        refine g_put hC (kf := 5) (TT := TX3) (N := 7) (Cn := RX3) (ty0 := tyX3) (fs1 := [.double le, .int rl, .int sw, .int lr, .double le, .double mx, .int pe]) dX3_keepLevel_59 hL_a hx28 rfl q_u3 (by decide) tyX3_ok nmX3 q_fl_X3_45 rfl rfl rfl rfl rfl (Nat.le_of_ble_eq_true rfl) rfl ?_
        refine g_nm (fun f32 hf33 => ?_)
        have hx34 : f32 a = .inr (3, [.double le, .int rl, .int sw, .int lr, .double le, .double mx, .int pe]) := by rw [hf33]; exact va_up_self _ _ _
        have hF35 : f32 = va_up f a (.inr (3, [.double le, .int rl, .int sw, .int lr, .double le, .double mx, .int pe])) := by rw [hf33, hF29, va_up_up]
        exact g_vret hC dX3_keepLevel_62 rfl ⟨rfl, rfl, by rw [hF35]; simp [c1, c11, c31]⟩ (Nat.zero_le _) (Nat.zero_le _)
      · skip
        refine g_aload_n hC dX3_keepLevel_48 0 rfl ?_
        refine g_get hC (kf := 0) (TT := TX3) (N := 7) (Cn := RX3) dX3_keepLevel_49 hL_a hx28 rfl q_u3 (by decide) q_fl_X3_7 rfl rfl ?_
        refine g_goto hC 59 dX3_keepLevel_52 (by decide) ?_
        refine g_put hC (kf := 5) (TT := TX3) (N := 7) (Cn := RX3) (ty0 := tyX3) (fs1 := [.double le, .int rl, .int sw, .int lr, .double le, .double le, .int pe]) dX3_keepLevel_59 hL_a hx28 rfl q_u3 (by decide) tyX3_ok nmX3 q_fl_X3_45 rfl rfl rfl rfl rfl (Nat.le_of_ble_eq_true rfl) rfl ?_
        refine g_nm (fun f36 hf37 => ?_)
        have hx38 : f36 a = .inr (3, [.double le, .int rl, .int sw, .int lr, .double le, .double le, .int pe]) := by rw [hf37]; exact va_up_self _ _ _
        have hF39 : f36 = va_up f a (.inr (3, [.double le, .int rl, .int sw, .int lr, .double le, .double le, .int pe])) := by rw [hf37, hF29, va_up_up]
        exact g_vret hC dX3_keepLevel_62 rfl ⟨rfl, rfl, by rw [hF39]; simp [c1, c11, c31]⟩ (Nat.zero_le _) (Nat.zero_le _)
theorem d01 : ((0 : Int32) = 1) = False := by decide
theorem d11 : ((1 : Int32) = 1) = True := by decide
theorem ite_dv {c : Prop} [Decidable c] {x y : UInt64} : dv (if c then x else y) = if c then dv x else dv y := by split <;> rfl
set_option maxHeartbeats 4000000 in
set_option maxRecDepth 100000 in
/-- step(second) -/
theorem ct_X3_step (l : Launch) (G : GD) (L : List Nat) (f : Nat → va_E) (a : Nat) (le : UInt64) (rl sw lr : Int32) (mn mx : UInt64) (pe : Int32) (t : Int32) (hL_a : a ∈ L) (h0 : f a = eTn le rl sw lr mn mx pe) : Ctr l yX3_step cX3_step 5 none { frames := 1, cells := 0, slots := 0, locals := 22 } G [.ref a, .int t] L f (fun vv L1 f1 => vv = none ∧ L = L1 ∧ ∃ (le1 : UInt64) (rl1 sw1 lr1 : Int32) (mn1 mx1 : UInt64) (pe1 : Int32), (dv le1, rl1, sw1, lr1, dv mn1, dv mx1, pe1) = tStep t (dv le, rl, sw, lr, dv mn, dv mx, pe) ∧ f1 = va_up f a (eTn le1 rl1 sw1 lr1 mn1 mx1 pe1)) := by
  refine g_enter RX3 false (by decide) rfl (fun h => by cases h) (Nat.le_of_ble_eq_true rfl) (fun C hC => ?_)
  refine (show V C 5 L f 0 0 0 [(0, .ref a), (1, .int t)] [] from ?_)
  refine g_aload_n hC dX3_step_0 0 rfl ?_
  refine g_get hC (kf := 0) (TT := TX3) (N := 7) (Cn := RX3) dX3_step_1 hL_a h0 rfl q_u3 (by decide) q_fl_X3_7 rfl rfl ?_
  refine g_ldc2 hC dX3_step_4 q_cd_X3_30 ?_
  refine g_dcmpg_ge hC 15 dX3_step_7 dX3_step_8 (by decide) (fun c1 => ?_) (fun c1 => ?_)
  · skip
    refine g_iconst hC 0 dX3_step_15 (by decide) ?_
    refine g_istore_n hC (lv1 := [(2, .int 0), (0, .ref a), (1, .int t)]) dX3_step_16 (by decide) rfl ?_
    refine g_iload_n hC dX3_step_17 2 rfl ?_
    refine g_if_le hC 35 dX3_step_18 (by decide) (fun c2 => ?_) (fun c2 => ?_)
    · skip
      refine g_iconst hC 0 dX3_step_35 (by decide) ?_
      refine g_istore_n hC (lv1 := [(3, .int 0), (2, .int 0), (0, .ref a), (1, .int t)]) dX3_step_36 (by decide) rfl ?_
      refine g_iload_n hC dX3_step_37 0 rfl ?_
      refine g_if_eq hC 47 dX3_step_38 (by decide) (fun _ => ?_) (fun c => absurd c (by decide))
      refine g_aload_n hC dX3_step_47 2 rfl ?_
      refine g_get hC (kf := 1) (TT := TX3) (N := 7) (Cn := RX3) dX3_step_48 hL_a h0 rfl q_u3 (by decide) q_fl_X3_13 rfl rfl ?_
      refine g_iconst hC 3 dX3_step_51 (by decide) ?_
      refine g_ishr hC dX3_step_52 ?_
      refine g_iconst hC 1 dX3_step_53 (by decide) ?_
      refine g_iand hC dX3_step_54 ?_
      refine g_istore hC (lv1 := [(4, .int ((rl >>> (3 &&& 31)) &&& 1)), (3, .int 0), (2, .int 0), (0, .ref a), (1, .int t)]) dX3_step_55 (by decide) rfl ?_
      refine g_aload_n hC dX3_step_57 3 rfl ?_
      refine g_aload_n hC dX3_step_58 3 rfl ?_
      refine g_get hC (kf := 1) (TT := TX3) (N := 7) (Cn := RX3) dX3_step_59 hL_a h0 rfl q_u3 (by decide) q_fl_X3_13 rfl rfl ?_
      refine g_iconst hC 1 dX3_step_62 (by decide) ?_
      refine g_ishl hC dX3_step_63 ?_
      refine g_iload_n hC dX3_step_64 2 rfl ?_
      refine g_ior hC dX3_step_65 ?_
      refine g_bipush hC 15 dX3_step_66 (by decide) ?_
      refine g_iand hC dX3_step_68 ?_
      refine g_put hC (kf := 1) (TT := TX3) (N := 7) (Cn := RX3) (ty0 := tyX3) (fs1 := [.double le, .int (((rl <<< (1 &&& 31)) ||| 0) &&& 15), .int sw, .int lr, .double mn, .double mx, .int pe]) dX3_step_69 hL_a h0 rfl q_u3 (by decide) tyX3_ok nmX3 q_fl_X3_13 rfl rfl rfl rfl rfl (Nat.le_of_ble_eq_true rfl) rfl ?_
      refine g_nm (fun f3 hf4 => ?_)
      have hx5 : f3 a = .inr (3, [.double le, .int (((rl <<< (1 &&& 31)) ||| 0) &&& 15), .int sw, .int lr, .double mn, .double mx, .int pe]) := by rw [hf4]; exact va_up_self _ _ _
      have hF6 : f3 = va_up f a (.inr (3, [.double le, .int (((rl <<< (1 &&& 31)) ||| 0) &&& 15), .int sw, .int lr, .double mn, .double mx, .int pe])) := hf4
      refine g_aload_n hC dX3_step_72 3 rfl ?_
      refine g_aload_n hC dX3_step_73 3 rfl ?_
      refine g_get hC (kf := 0) (TT := TX3) (N := 7) (Cn := RX3) dX3_step_74 hL_a hx5 rfl q_u3 (by decide) q_fl_X3_7 rfl rfl ?_
      refine g_iload hC dX3_step_77 0 rfl ?_
      refine g_i2d hC dX3_step_79 ?_
      refine g_aload_n hC dX3_step_80 3 rfl ?_
      refine g_get hC (kf := 0) (TT := TX3) (N := 7) (Cn := RX3) dX3_step_81 hL_a hx5 rfl q_u3 (by decide) q_fl_X3_7 rfl rfl ?_
      refine g_dsub hC dX3_step_84 (fun r7 er7 => ?_)
      refine g_ldc2 hC dX3_step_85 q_cd_X3_36 ?_
      refine g_dmul hC dX3_step_88 (fun r8 er8 => ?_)
      try simp only [er7] at er8
      refine g_dadd hC dX3_step_89 (fun r9 er9 => ?_)
      try simp only [er7, er8] at er9
      refine g_put hC (kf := 0) (TT := TX3) (N := 7) (Cn := RX3) (ty0 := tyX3) (fs1 := [.double r9, .int (((rl <<< (1 &&& 31)) ||| 0) &&& 15), .int sw, .int lr, .double mn, .double mx, .int pe]) dX3_step_90 hL_a hx5 rfl q_u3 (by decide) tyX3_ok nmX3 q_fl_X3_7 rfl rfl rfl rfl rfl (Nat.le_of_ble_eq_true rfl) rfl ?_
      refine g_nm (fun f10 hf11 => ?_)
      have hx12 : f10 a = .inr (3, [.double r9, .int (((rl <<< (1 &&& 31)) ||| 0) &&& 15), .int sw, .int lr, .double mn, .double mx, .int pe]) := by rw [hf11]; exact va_up_self _ _ _
      have hF13 : f10 = va_up f a (.inr (3, [.double r9, .int (((rl <<< (1 &&& 31)) ||| 0) &&& 15), .int sw, .int lr, .double mn, .double mx, .int pe])) := by rw [hf11, hF6, va_up_up]
      refine g_aload_n hC dX3_step_93 3 rfl ?_
      refine g_get hC (kf := 2) (TT := TX3) (N := 7) (Cn := RX3) dX3_step_94 hL_a hx12 rfl q_u3 (by decide) q_fl_X3_17 rfl rfl ?_
      refine g_if_le hC 121 dX3_step_97 (by decide) (fun c14 => ?_) (fun c14 => ?_)
      · skip
        refine g_vret hC dX3_step_121 rfl ⟨rfl, rfl, r9, (((rl <<< (1 &&& 31)) ||| 0) &&& 15), sw, lr, mn, mx, pe, ?_, hF13⟩ (Nat.zero_le _) (Nat.zero_le _)
        simp only [tStep, tLe, tRl, tSw, tLr, tMn, tMx, tPe, tRise, tFi, tIs, tRel, ite_dv, decide_true, decide_false, Bool.and_true, Bool.true_and, Bool.and_false, Bool.false_and, Bool.not_true, Bool.not_false, Bool.false_or, Bool.true_or, Bool.false_eq_true, if_true, if_false, d01, d11, c1, eq_true c2, eq_true c14, er7, er8, er9]
      · skip
        refine g_aload_n hC dX3_step_100 3 rfl ?_
        refine g_iload_n hC dX3_step_101 1 rfl ?_
        refine g_if_eq hC 117 dX3_step_102 (by decide) (fun _ => ?_) (fun c => absurd c (by decide))
        refine g_iconst hC 0 dX3_step_117 (by decide) ?_
        refine g_callV hC (Cn := RX3) (TT := TX3) (N := 7) dX3_step_118 (ct_X3_keepLevel l G L f10 a r9 (((rl <<< (1 &&& 31)) ||| 0) &&& 15) sw lr mn mx pe false hL_a hx12) q_code_X3_keepLevel q_ml_X3_38 q_im_X3_keepLevel q_sel_X3_keepLevel q_init_X3 ⟨rfl, by decide, by decide, (show (parseMethodDescriptor yX3_keepLevel.desc).map (fun d => d.parameters.length) = some 1 from by decide +kernel)⟩ hL_a hx12 rfl (by decide) (by decide) (Nat.le_of_ble_eq_true rfl) (fun v16 L17 f18 hp15 => ?_)
        obtain ⟨rfl, rfl, hf19⟩ := hp15
        have hx20 : f18 a = .inr (3, [.double r9, .int (((rl <<< (1 &&& 31)) ||| 0) &&& 15), .int sw, .int lr, .double (if (false || qlt (dv r9) (dv mn)) = true then r9 else mn), .double (if (false || qgt (dv r9) (dv mx)) = true then r9 else mx), .int pe]) := by rw [hf19]; exact va_up_self _ _ _
        have hF21 : f18 = va_up f a (.inr (3, [.double r9, .int (((rl <<< (1 &&& 31)) ||| 0) &&& 15), .int sw, .int lr, .double (if (false || qlt (dv r9) (dv mn)) = true then r9 else mn), .double (if (false || qgt (dv r9) (dv mx)) = true then r9 else mx), .int pe])) := by rw [hf19, hF13, va_up_up]
        refine (show V C 5 L f18 0 0 121 [(4, .int ((rl >>> (3 &&& 31)) &&& 1)), (3, .int 0), (2, .int 0), (0, .ref a), (1, .int t)] [] from ?_)
        refine g_vret hC dX3_step_121 rfl ⟨rfl, rfl, r9, (((rl <<< (1 &&& 31)) ||| 0) &&& 15), sw, lr, (if (false || qlt (dv r9) (dv mn)) = true then r9 else mn), (if (false || qgt (dv r9) (dv mx)) = true then r9 else mx), pe, ?_, hF21⟩ (Nat.zero_le _) (Nat.zero_le _)
        simp only [tStep, tLe, tRl, tSw, tLr, tMn, tMx, tPe, tRise, tFi, tIs, tRel, ite_dv, decide_true, decide_false, Bool.and_true, Bool.true_and, Bool.and_false, Bool.false_and, Bool.not_true, Bool.not_false, Bool.false_or, Bool.true_or, Bool.false_eq_true, if_true, if_false, d01, d11, c1, eq_true c2, eq_false c14, er7, er8, er9]
    · skip
      refine g_iload_n hC dX3_step_21 0 rfl ?_
      refine g_aload_n hC dX3_step_22 1 rfl ?_
      refine g_get hC (kf := 1) (TT := TX3) (N := 7) (Cn := RX3) dX3_step_23 hL_a h0 rfl q_u3 (by decide) q_fl_X3_13 rfl rfl ?_
      refine g_iconst hC 1 dX3_step_26 (by decide) ?_
      refine g_iand hC dX3_step_27 ?_
      refine g_icmp_eq hC 35 dX3_step_28 (by decide) (fun c22 => ?_) (fun c22 => ?_)
      · skip
        refine g_iconst hC 0 dX3_step_35 (by decide) ?_
        refine g_istore_n hC (lv1 := [(3, .int 0), (2, .int 0), (0, .ref a), (1, .int t)]) dX3_step_36 (by decide) rfl ?_
        refine g_iload_n hC dX3_step_37 0 rfl ?_
        refine g_if_eq hC 47 dX3_step_38 (by decide) (fun _ => ?_) (fun c => absurd c (by decide))
        refine g_aload_n hC dX3_step_47 2 rfl ?_
        refine g_get hC (kf := 1) (TT := TX3) (N := 7) (Cn := RX3) dX3_step_48 hL_a h0 rfl q_u3 (by decide) q_fl_X3_13 rfl rfl ?_
        refine g_iconst hC 3 dX3_step_51 (by decide) ?_
        refine g_ishr hC dX3_step_52 ?_
        refine g_iconst hC 1 dX3_step_53 (by decide) ?_
        refine g_iand hC dX3_step_54 ?_
        refine g_istore hC (lv1 := [(4, .int ((rl >>> (3 &&& 31)) &&& 1)), (3, .int 0), (2, .int 0), (0, .ref a), (1, .int t)]) dX3_step_55 (by decide) rfl ?_
        refine g_aload_n hC dX3_step_57 3 rfl ?_
        refine g_aload_n hC dX3_step_58 3 rfl ?_
        refine g_get hC (kf := 1) (TT := TX3) (N := 7) (Cn := RX3) dX3_step_59 hL_a h0 rfl q_u3 (by decide) q_fl_X3_13 rfl rfl ?_
        refine g_iconst hC 1 dX3_step_62 (by decide) ?_
        refine g_ishl hC dX3_step_63 ?_
        refine g_iload_n hC dX3_step_64 2 rfl ?_
        refine g_ior hC dX3_step_65 ?_
        refine g_bipush hC 15 dX3_step_66 (by decide) ?_
        refine g_iand hC dX3_step_68 ?_
        refine g_put hC (kf := 1) (TT := TX3) (N := 7) (Cn := RX3) (ty0 := tyX3) (fs1 := [.double le, .int (((rl <<< (1 &&& 31)) ||| 0) &&& 15), .int sw, .int lr, .double mn, .double mx, .int pe]) dX3_step_69 hL_a h0 rfl q_u3 (by decide) tyX3_ok nmX3 q_fl_X3_13 rfl rfl rfl rfl rfl (Nat.le_of_ble_eq_true rfl) rfl ?_
        refine g_nm (fun f23 hf24 => ?_)
        have hx25 : f23 a = .inr (3, [.double le, .int (((rl <<< (1 &&& 31)) ||| 0) &&& 15), .int sw, .int lr, .double mn, .double mx, .int pe]) := by rw [hf24]; exact va_up_self _ _ _
        have hF26 : f23 = va_up f a (.inr (3, [.double le, .int (((rl <<< (1 &&& 31)) ||| 0) &&& 15), .int sw, .int lr, .double mn, .double mx, .int pe])) := hf24
        refine g_aload_n hC dX3_step_72 3 rfl ?_
        refine g_aload_n hC dX3_step_73 3 rfl ?_
        refine g_get hC (kf := 0) (TT := TX3) (N := 7) (Cn := RX3) dX3_step_74 hL_a hx25 rfl q_u3 (by decide) q_fl_X3_7 rfl rfl ?_
        refine g_iload hC dX3_step_77 0 rfl ?_
        refine g_i2d hC dX3_step_79 ?_
        refine g_aload_n hC dX3_step_80 3 rfl ?_
        refine g_get hC (kf := 0) (TT := TX3) (N := 7) (Cn := RX3) dX3_step_81 hL_a hx25 rfl q_u3 (by decide) q_fl_X3_7 rfl rfl ?_
        refine g_dsub hC dX3_step_84 (fun r27 er27 => ?_)
        refine g_ldc2 hC dX3_step_85 q_cd_X3_36 ?_
        refine g_dmul hC dX3_step_88 (fun r28 er28 => ?_)
        try simp only [er27] at er28
        refine g_dadd hC dX3_step_89 (fun r29 er29 => ?_)
        try simp only [er27, er28] at er29
        refine g_put hC (kf := 0) (TT := TX3) (N := 7) (Cn := RX3) (ty0 := tyX3) (fs1 := [.double r29, .int (((rl <<< (1 &&& 31)) ||| 0) &&& 15), .int sw, .int lr, .double mn, .double mx, .int pe]) dX3_step_90 hL_a hx25 rfl q_u3 (by decide) tyX3_ok nmX3 q_fl_X3_7 rfl rfl rfl rfl rfl (Nat.le_of_ble_eq_true rfl) rfl ?_
        refine g_nm (fun f30 hf31 => ?_)
        have hx32 : f30 a = .inr (3, [.double r29, .int (((rl <<< (1 &&& 31)) ||| 0) &&& 15), .int sw, .int lr, .double mn, .double mx, .int pe]) := by rw [hf31]; exact va_up_self _ _ _
        have hF33 : f30 = va_up f a (.inr (3, [.double r29, .int (((rl <<< (1 &&& 31)) ||| 0) &&& 15), .int sw, .int lr, .double mn, .double mx, .int pe])) := by rw [hf31, hF26, va_up_up]
        refine g_aload_n hC dX3_step_93 3 rfl ?_
        refine g_get hC (kf := 2) (TT := TX3) (N := 7) (Cn := RX3) dX3_step_94 hL_a hx32 rfl q_u3 (by decide) q_fl_X3_17 rfl rfl ?_
        refine g_if_le hC 121 dX3_step_97 (by decide) (fun c34 => ?_) (fun c34 => ?_)
        · skip
          refine g_vret hC dX3_step_121 rfl ⟨rfl, rfl, r29, (((rl <<< (1 &&& 31)) ||| 0) &&& 15), sw, lr, mn, mx, pe, ?_, hF33⟩ (Nat.zero_le _) (Nat.zero_le _)
          simp only [tStep, tLe, tRl, tSw, tLr, tMn, tMx, tPe, tRise, tFi, tIs, tRel, ite_dv, decide_true, decide_false, Bool.and_true, Bool.true_and, Bool.and_false, Bool.false_and, Bool.not_true, Bool.not_false, Bool.false_or, Bool.true_or, Bool.false_eq_true, if_true, if_false, d01, d11, c1, eq_false c2, eq_true c22, eq_true c34, er27, er28, er29]
        · skip
          refine g_aload_n hC dX3_step_100 3 rfl ?_
          refine g_iload_n hC dX3_step_101 1 rfl ?_
          refine g_if_eq hC 117 dX3_step_102 (by decide) (fun _ => ?_) (fun c => absurd c (by decide))
          refine g_iconst hC 0 dX3_step_117 (by decide) ?_
          refine g_callV hC (Cn := RX3) (TT := TX3) (N := 7) dX3_step_118 (ct_X3_keepLevel l G L f30 a r29 (((rl <<< (1 &&& 31)) ||| 0) &&& 15) sw lr mn mx pe false hL_a hx32) q_code_X3_keepLevel q_ml_X3_38 q_im_X3_keepLevel q_sel_X3_keepLevel q_init_X3 ⟨rfl, by decide, by decide, (show (parseMethodDescriptor yX3_keepLevel.desc).map (fun d => d.parameters.length) = some 1 from by decide +kernel)⟩ hL_a hx32 rfl (by decide) (by decide) (Nat.le_of_ble_eq_true rfl) (fun v36 L37 f38 hp35 => ?_)
          obtain ⟨rfl, rfl, hf39⟩ := hp35
          have hx40 : f38 a = .inr (3, [.double r29, .int (((rl <<< (1 &&& 31)) ||| 0) &&& 15), .int sw, .int lr, .double (if (false || qlt (dv r29) (dv mn)) = true then r29 else mn), .double (if (false || qgt (dv r29) (dv mx)) = true then r29 else mx), .int pe]) := by rw [hf39]; exact va_up_self _ _ _
          have hF41 : f38 = va_up f a (.inr (3, [.double r29, .int (((rl <<< (1 &&& 31)) ||| 0) &&& 15), .int sw, .int lr, .double (if (false || qlt (dv r29) (dv mn)) = true then r29 else mn), .double (if (false || qgt (dv r29) (dv mx)) = true then r29 else mx), .int pe])) := by rw [hf39, hF33, va_up_up]
          refine (show V C 5 L f38 0 0 121 [(4, .int ((rl >>> (3 &&& 31)) &&& 1)), (3, .int 0), (2, .int 0), (0, .ref a), (1, .int t)] [] from ?_)
          refine g_vret hC dX3_step_121 rfl ⟨rfl, rfl, r29, (((rl <<< (1 &&& 31)) ||| 0) &&& 15), sw, lr, (if (false || qlt (dv r29) (dv mn)) = true then r29 else mn), (if (false || qgt (dv r29) (dv mx)) = true then r29 else mx), pe, ?_, hF41⟩ (Nat.zero_le _) (Nat.zero_le _)
          simp only [tStep, tLe, tRl, tSw, tLr, tMn, tMx, tPe, tRise, tFi, tIs, tRel, ite_dv, decide_true, decide_false, Bool.and_true, Bool.true_and, Bool.and_false, Bool.false_and, Bool.not_true, Bool.not_false, Bool.false_or, Bool.true_or, Bool.false_eq_true, if_true, if_false, d01, d11, c1, eq_false c2, eq_true c22, eq_false c34, er27, er28, er29]
      · skip
        refine g_iconst hC 1 dX3_step_31 (by decide) ?_
        refine g_goto hC 36 dX3_step_32 (by decide) ?_
        refine g_istore_n hC (lv1 := [(3, .int 1), (2, .int 0), (0, .ref a), (1, .int t)]) dX3_step_36 (by decide) rfl ?_
        refine g_iload_n hC dX3_step_37 0 rfl ?_
        refine g_if_eq hC 47 dX3_step_38 (by decide) (fun c => absurd c (by decide)) (fun _ => ?_)
        refine g_aload_n hC dX3_step_41 2 rfl ?_
        refine g_iload_n hC dX3_step_42 3 rfl ?_
        refine g_iload_n hC dX3_step_43 1 rfl ?_
        refine g_callV hC (Cn := RX3) (TT := TX3) (N := 7) dX3_step_44 (ct_X3_countSwitch l G L f a le rl sw lr mn mx pe t 0 hL_a h0) q_code_X3_countSwitch q_ml_X3_32 q_im_X3_countSwitch q_sel_X3_countSwitch q_init_X3 ⟨rfl, by decide, by decide, (show (parseMethodDescriptor yX3_countSwitch.desc).map (fun d => d.parameters.length) = some 2 from by decide +kernel)⟩ hL_a h0 rfl (by decide) (by decide) (Nat.le_of_ble_eq_true rfl) (fun v43 L44 f45 hp42 => ?_)
        obtain ⟨rfl, rfl, hf46⟩ := hp42
        simp only [if_true, (by decide : ((1 : Int32) = 1) = True), (by decide : ((0 : Int32) = 1) = False), if_false] at hf46
        have hx47 : f45 a = .inr (3, [.double le, .int rl, .int (sw + 1), .int lr, .double mn, .double mx, .int pe]) := by rw [hf46]; exact va_up_self _ _ _
        have hF48 : f45 = va_up f a (.inr (3, [.double le, .int rl, .int (sw + 1), .int lr, .double mn, .double mx, .int pe])) := hf46
        refine (show V C 5 L f45 0 0 47 [(3, .int 1), (2, .int 0), (0, .ref a), (1, .int t)] [] from ?_)
        refine g_aload_n hC dX3_step_47 2 rfl ?_
        refine g_get hC (kf := 1) (TT := TX3) (N := 7) (Cn := RX3) dX3_step_48 hL_a hx47 rfl q_u3 (by decide) q_fl_X3_13 rfl rfl ?_
        refine g_iconst hC 3 dX3_step_51 (by decide) ?_
        refine g_ishr hC dX3_step_52 ?_
        refine g_iconst hC 1 dX3_step_53 (by decide) ?_
        refine g_iand hC dX3_step_54 ?_
        refine g_istore hC (lv1 := [(4, .int ((rl >>> (3 &&& 31)) &&& 1)), (3, .int 1), (2, .int 0), (0, .ref a), (1, .int t)]) dX3_step_55 (by decide) rfl ?_
        refine g_aload_n hC dX3_step_57 3 rfl ?_
        refine g_aload_n hC dX3_step_58 3 rfl ?_
        refine g_get hC (kf := 1) (TT := TX3) (N := 7) (Cn := RX3) dX3_step_59 hL_a hx47 rfl q_u3 (by decide) q_fl_X3_13 rfl rfl ?_
        refine g_iconst hC 1 dX3_step_62 (by decide) ?_
        refine g_ishl hC dX3_step_63 ?_
        refine g_iload_n hC dX3_step_64 2 rfl ?_
        refine g_ior hC dX3_step_65 ?_
        refine g_bipush hC 15 dX3_step_66 (by decide) ?_
        refine g_iand hC dX3_step_68 ?_
        refine g_put hC (kf := 1) (TT := TX3) (N := 7) (Cn := RX3) (ty0 := tyX3) (fs1 := [.double le, .int (((rl <<< (1 &&& 31)) ||| 0) &&& 15), .int (sw + 1), .int lr, .double mn, .double mx, .int pe]) dX3_step_69 hL_a hx47 rfl q_u3 (by decide) tyX3_ok nmX3 q_fl_X3_13 rfl rfl rfl rfl rfl (Nat.le_of_ble_eq_true rfl) rfl ?_
        refine g_nm (fun f49 hf50 => ?_)
        have hx51 : f49 a = .inr (3, [.double le, .int (((rl <<< (1 &&& 31)) ||| 0) &&& 15), .int (sw + 1), .int lr, .double mn, .double mx, .int pe]) := by rw [hf50]; exact va_up_self _ _ _
        have hF52 : f49 = va_up f a (.inr (3, [.double le, .int (((rl <<< (1 &&& 31)) ||| 0) &&& 15), .int (sw + 1), .int lr, .double mn, .double mx, .int pe])) := by rw [hf50, hF48, va_up_up]
        refine g_aload_n hC dX3_step_72 3 rfl ?_
        refine g_aload_n hC dX3_step_73 3 rfl ?_
        refine g_get hC (kf := 0) (TT := TX3) (N := 7) (Cn := RX3) dX3_step_74 hL_a hx51 rfl q_u3 (by decide) q_fl_X3_7 rfl rfl ?_
        refine g_iload hC dX3_step_77 0 rfl ?_
        refine g_i2d hC dX3_step_79 ?_
        refine g_aload_n hC dX3_step_80 3 rfl ?_
        refine g_get hC (kf := 0) (TT := TX3) (N := 7) (Cn := RX3) dX3_step_81 hL_a hx51 rfl q_u3 (by decide) q_fl_X3_7 rfl rfl ?_
        refine g_dsub hC dX3_step_84 (fun r53 er53 => ?_)
        refine g_ldc2 hC dX3_step_85 q_cd_X3_36 ?_
        refine g_dmul hC dX3_step_88 (fun r54 er54 => ?_)
        try simp only [er53] at er54
        refine g_dadd hC dX3_step_89 (fun r55 er55 => ?_)
        try simp only [er53, er54] at er55
        refine g_put hC (kf := 0) (TT := TX3) (N := 7) (Cn := RX3) (ty0 := tyX3) (fs1 := [.double r55, .int (((rl <<< (1 &&& 31)) ||| 0) &&& 15), .int (sw + 1), .int lr, .double mn, .double mx, .int pe]) dX3_step_90 hL_a hx51 rfl q_u3 (by decide) tyX3_ok nmX3 q_fl_X3_7 rfl rfl rfl rfl rfl (Nat.le_of_ble_eq_true rfl) rfl ?_
        refine g_nm (fun f56 hf57 => ?_)
        have hx58 : f56 a = .inr (3, [.double r55, .int (((rl <<< (1 &&& 31)) ||| 0) &&& 15), .int (sw + 1), .int lr, .double mn, .double mx, .int pe]) := by rw [hf57]; exact va_up_self _ _ _
        have hF59 : f56 = va_up f a (.inr (3, [.double r55, .int (((rl <<< (1 &&& 31)) ||| 0) &&& 15), .int (sw + 1), .int lr, .double mn, .double mx, .int pe])) := by rw [hf57, hF52, va_up_up]
        refine g_aload_n hC dX3_step_93 3 rfl ?_
        refine g_get hC (kf := 2) (TT := TX3) (N := 7) (Cn := RX3) dX3_step_94 hL_a hx58 rfl q_u3 (by decide) q_fl_X3_17 rfl rfl ?_
        refine g_if_le hC 121 dX3_step_97 (by decide) (fun c60 => ?_) (fun c60 => ?_)
        · skip
          refine g_vret hC dX3_step_121 rfl ⟨rfl, rfl, r55, (((rl <<< (1 &&& 31)) ||| 0) &&& 15), (sw + 1), lr, mn, mx, pe, ?_, hF59⟩ (Nat.zero_le _) (Nat.zero_le _)
          simp only [tStep, tLe, tRl, tSw, tLr, tMn, tMx, tPe, tRise, tFi, tIs, tRel, ite_dv, decide_true, decide_false, Bool.and_true, Bool.true_and, Bool.and_false, Bool.false_and, Bool.not_true, Bool.not_false, Bool.false_or, Bool.true_or, Bool.false_eq_true, if_true, if_false, d01, d11, c1, eq_false c2, eq_false c22, eq_true c60, er53, er54, er55]
        · skip
          refine g_aload_n hC dX3_step_100 3 rfl ?_
          refine g_iload_n hC dX3_step_101 1 rfl ?_
          refine g_if_eq hC 117 dX3_step_102 (by decide) (fun c => absurd c (by decide)) (fun _ => ?_)
          refine g_aload_n hC dX3_step_105 3 rfl ?_
          refine g_get hC (kf := 2) (TT := TX3) (N := 7) (Cn := RX3) dX3_step_106 hL_a hx58 rfl q_u3 (by decide) q_fl_X3_17 rfl rfl ?_
          refine g_iconst hC 1 dX3_step_109 (by decide) ?_
          refine g_icmp_ne hC 117 dX3_step_110 (by decide) (fun c61 => ?_) (fun c61 => ?_)
          · skip
            refine g_iconst hC 0 dX3_step_117 (by decide) ?_
            refine g_callV hC (Cn := RX3) (TT := TX3) (N := 7) dX3_step_118 (ct_X3_keepLevel l G L f56 a r55 (((rl <<< (1 &&& 31)) ||| 0) &&& 15) (sw + 1) lr mn mx pe false hL_a hx58) q_code_X3_keepLevel q_ml_X3_38 q_im_X3_keepLevel q_sel_X3_keepLevel q_init_X3 ⟨rfl, by decide, by decide, (show (parseMethodDescriptor yX3_keepLevel.desc).map (fun d => d.parameters.length) = some 1 from by decide +kernel)⟩ hL_a hx58 rfl (by decide) (by decide) (Nat.le_of_ble_eq_true rfl) (fun v63 L64 f65 hp62 => ?_)
            obtain ⟨rfl, rfl, hf66⟩ := hp62
            have hx67 : f65 a = .inr (3, [.double r55, .int (((rl <<< (1 &&& 31)) ||| 0) &&& 15), .int (sw + 1), .int lr, .double (if (false || qlt (dv r55) (dv mn)) = true then r55 else mn), .double (if (false || qgt (dv r55) (dv mx)) = true then r55 else mx), .int pe]) := by rw [hf66]; exact va_up_self _ _ _
            have hF68 : f65 = va_up f a (.inr (3, [.double r55, .int (((rl <<< (1 &&& 31)) ||| 0) &&& 15), .int (sw + 1), .int lr, .double (if (false || qlt (dv r55) (dv mn)) = true then r55 else mn), .double (if (false || qgt (dv r55) (dv mx)) = true then r55 else mx), .int pe])) := by rw [hf66, hF59, va_up_up]
            refine (show V C 5 L f65 0 0 121 [(4, .int ((rl >>> (3 &&& 31)) &&& 1)), (3, .int 1), (2, .int 0), (0, .ref a), (1, .int t)] [] from ?_)
            refine g_vret hC dX3_step_121 rfl ⟨rfl, rfl, r55, (((rl <<< (1 &&& 31)) ||| 0) &&& 15), (sw + 1), lr, (if (false || qlt (dv r55) (dv mn)) = true then r55 else mn), (if (false || qgt (dv r55) (dv mx)) = true then r55 else mx), pe, ?_, hF68⟩ (Nat.zero_le _) (Nat.zero_le _)
            simp only [tStep, tLe, tRl, tSw, tLr, tMn, tMx, tPe, tRise, tFi, tIs, tRel, ite_dv, decide_true, decide_false, Bool.and_true, Bool.true_and, Bool.and_false, Bool.false_and, Bool.not_true, Bool.not_false, Bool.false_or, Bool.true_or, Bool.false_eq_true, if_true, if_false, d01, d11, c1, eq_false c2, eq_false c22, eq_false c60, eq_false c61, er53, er54, er55]
          · skip
            refine g_iconst hC 1 dX3_step_113 (by decide) ?_
            refine g_goto hC 118 dX3_step_114 (by decide) ?_
            refine g_callV hC (Cn := RX3) (TT := TX3) (N := 7) dX3_step_118 (ct_X3_keepLevel l G L f56 a r55 (((rl <<< (1 &&& 31)) ||| 0) &&& 15) (sw + 1) lr mn mx pe true hL_a hx58) q_code_X3_keepLevel q_ml_X3_38 q_im_X3_keepLevel q_sel_X3_keepLevel q_init_X3 ⟨rfl, by decide, by decide, (show (parseMethodDescriptor yX3_keepLevel.desc).map (fun d => d.parameters.length) = some 1 from by decide +kernel)⟩ hL_a hx58 rfl (by decide) (by decide) (Nat.le_of_ble_eq_true rfl) (fun v70 L71 f72 hp69 => ?_)
            obtain ⟨rfl, rfl, hf73⟩ := hp69
            have hx74 : f72 a = .inr (3, [.double r55, .int (((rl <<< (1 &&& 31)) ||| 0) &&& 15), .int (sw + 1), .int lr, .double (if (true || qlt (dv r55) (dv mn)) = true then r55 else mn), .double (if (true || qgt (dv r55) (dv mx)) = true then r55 else mx), .int pe]) := by rw [hf73]; exact va_up_self _ _ _
            have hF75 : f72 = va_up f a (.inr (3, [.double r55, .int (((rl <<< (1 &&& 31)) ||| 0) &&& 15), .int (sw + 1), .int lr, .double (if (true || qlt (dv r55) (dv mn)) = true then r55 else mn), .double (if (true || qgt (dv r55) (dv mx)) = true then r55 else mx), .int pe])) := by rw [hf73, hF59, va_up_up]
            refine (show V C 5 L f72 0 0 121 [(4, .int ((rl >>> (3 &&& 31)) &&& 1)), (3, .int 1), (2, .int 0), (0, .ref a), (1, .int t)] [] from ?_)
            refine g_vret hC dX3_step_121 rfl ⟨rfl, rfl, r55, (((rl <<< (1 &&& 31)) ||| 0) &&& 15), (sw + 1), lr, (if (true || qlt (dv r55) (dv mn)) = true then r55 else mn), (if (true || qgt (dv r55) (dv mx)) = true then r55 else mx), pe, ?_, hF75⟩ (Nat.zero_le _) (Nat.zero_le _)
            simp only [tStep, tLe, tRl, tSw, tLr, tMn, tMx, tPe, tRise, tFi, tIs, tRel, ite_dv, decide_true, decide_false, Bool.and_true, Bool.true_and, Bool.and_false, Bool.false_and, Bool.not_true, Bool.not_false, Bool.false_or, Bool.true_or, Bool.false_eq_true, if_true, if_false, d01, d11, c1, eq_false c2, eq_false c22, eq_false c60, eq_true c61, er53, er54, er55]
  · skip
    refine g_iconst hC 1 dX3_step_11 (by decide) ?_
    refine g_goto hC 16 dX3_step_12 (by decide) ?_
    refine g_istore_n hC (lv1 := [(2, .int 1), (0, .ref a), (1, .int t)]) dX3_step_16 (by decide) rfl ?_
    refine g_iload_n hC dX3_step_17 2 rfl ?_
    refine g_if_le hC 35 dX3_step_18 (by decide) (fun c76 => ?_) (fun c76 => ?_)
    · skip
      refine g_iconst hC 0 dX3_step_35 (by decide) ?_
      refine g_istore_n hC (lv1 := [(3, .int 0), (2, .int 1), (0, .ref a), (1, .int t)]) dX3_step_36 (by decide) rfl ?_
      refine g_iload_n hC dX3_step_37 0 rfl ?_
      refine g_if_eq hC 47 dX3_step_38 (by decide) (fun _ => ?_) (fun c => absurd c (by decide))
      refine g_aload_n hC dX3_step_47 2 rfl ?_
      refine g_get hC (kf := 1) (TT := TX3) (N := 7) (Cn := RX3) dX3_step_48 hL_a h0 rfl q_u3 (by decide) q_fl_X3_13 rfl rfl ?_
      refine g_iconst hC 3 dX3_step_51 (by decide) ?_
      refine g_ishr hC dX3_step_52 ?_
      refine g_iconst hC 1 dX3_step_53 (by decide) ?_
      refine g_iand hC dX3_step_54 ?_
      refine g_istore hC (lv1 := [(4, .int ((rl >>> (3 &&& 31)) &&& 1)), (3, .int 0), (2, .int 1), (0, .ref a), (1, .int t)]) dX3_step_55 (by decide) rfl ?_
      refine g_aload_n hC dX3_step_57 3 rfl ?_
      refine g_aload_n hC dX3_step_58 3 rfl ?_
      refine g_get hC (kf := 1) (TT := TX3) (N := 7) (Cn := RX3) dX3_step_59 hL_a h0 rfl q_u3 (by decide) q_fl_X3_13 rfl rfl ?_
      refine g_iconst hC 1 dX3_step_62 (by decide) ?_
      refine g_ishl hC dX3_step_63 ?_
      refine g_iload_n hC dX3_step_64 2 rfl ?_
      refine g_ior hC dX3_step_65 ?_
      refine g_bipush hC 15 dX3_step_66 (by decide) ?_
      refine g_iand hC dX3_step_68 ?_
      refine g_put hC (kf := 1) (TT := TX3) (N := 7) (Cn := RX3) (ty0 := tyX3) (fs1 := [.double le, .int (((rl <<< (1 &&& 31)) ||| 1) &&& 15), .int sw, .int lr, .double mn, .double mx, .int pe]) dX3_step_69 hL_a h0 rfl q_u3 (by decide) tyX3_ok nmX3 q_fl_X3_13 rfl rfl rfl rfl rfl (Nat.le_of_ble_eq_true rfl) rfl ?_
      refine g_nm (fun f77 hf78 => ?_)
      have hx79 : f77 a = .inr (3, [.double le, .int (((rl <<< (1 &&& 31)) ||| 1) &&& 15), .int sw, .int lr, .double mn, .double mx, .int pe]) := by rw [hf78]; exact va_up_self _ _ _
      have hF80 : f77 = va_up f a (.inr (3, [.double le, .int (((rl <<< (1 &&& 31)) ||| 1) &&& 15), .int sw, .int lr, .double mn, .double mx, .int pe])) := hf78
      refine g_aload_n hC dX3_step_72 3 rfl ?_
      refine g_aload_n hC dX3_step_73 3 rfl ?_
      refine g_get hC (kf := 0) (TT := TX3) (N := 7) (Cn := RX3) dX3_step_74 hL_a hx79 rfl q_u3 (by decide) q_fl_X3_7 rfl rfl ?_
      refine g_iload hC dX3_step_77 0 rfl ?_
      refine g_i2d hC dX3_step_79 ?_
      refine g_aload_n hC dX3_step_80 3 rfl ?_
      refine g_get hC (kf := 0) (TT := TX3) (N := 7) (Cn := RX3) dX3_step_81 hL_a hx79 rfl q_u3 (by decide) q_fl_X3_7 rfl rfl ?_
      refine g_dsub hC dX3_step_84 (fun r81 er81 => ?_)
      refine g_ldc2 hC dX3_step_85 q_cd_X3_36 ?_
      refine g_dmul hC dX3_step_88 (fun r82 er82 => ?_)
      try simp only [er81] at er82
      refine g_dadd hC dX3_step_89 (fun r83 er83 => ?_)
      try simp only [er81, er82] at er83
      refine g_put hC (kf := 0) (TT := TX3) (N := 7) (Cn := RX3) (ty0 := tyX3) (fs1 := [.double r83, .int (((rl <<< (1 &&& 31)) ||| 1) &&& 15), .int sw, .int lr, .double mn, .double mx, .int pe]) dX3_step_90 hL_a hx79 rfl q_u3 (by decide) tyX3_ok nmX3 q_fl_X3_7 rfl rfl rfl rfl rfl (Nat.le_of_ble_eq_true rfl) rfl ?_
      refine g_nm (fun f84 hf85 => ?_)
      have hx86 : f84 a = .inr (3, [.double r83, .int (((rl <<< (1 &&& 31)) ||| 1) &&& 15), .int sw, .int lr, .double mn, .double mx, .int pe]) := by rw [hf85]; exact va_up_self _ _ _
      have hF87 : f84 = va_up f a (.inr (3, [.double r83, .int (((rl <<< (1 &&& 31)) ||| 1) &&& 15), .int sw, .int lr, .double mn, .double mx, .int pe])) := by rw [hf85, hF80, va_up_up]
      refine g_aload_n hC dX3_step_93 3 rfl ?_
      refine g_get hC (kf := 2) (TT := TX3) (N := 7) (Cn := RX3) dX3_step_94 hL_a hx86 rfl q_u3 (by decide) q_fl_X3_17 rfl rfl ?_
      refine g_if_le hC 121 dX3_step_97 (by decide) (fun c88 => ?_) (fun c88 => ?_)
      · skip
        refine g_vret hC dX3_step_121 rfl ⟨rfl, rfl, r83, (((rl <<< (1 &&& 31)) ||| 1) &&& 15), sw, lr, mn, mx, pe, ?_, hF87⟩ (Nat.zero_le _) (Nat.zero_le _)
        simp only [tStep, tLe, tRl, tSw, tLr, tMn, tMx, tPe, tRise, tFi, tIs, tRel, ite_dv, decide_true, decide_false, Bool.and_true, Bool.true_and, Bool.and_false, Bool.false_and, Bool.not_true, Bool.not_false, Bool.false_or, Bool.true_or, Bool.false_eq_true, if_true, if_false, d01, d11, c1, eq_true c76, eq_true c88, er81, er82, er83]
      · skip
        refine g_aload_n hC dX3_step_100 3 rfl ?_
        refine g_iload_n hC dX3_step_101 1 rfl ?_
        refine g_if_eq hC 117 dX3_step_102 (by decide) (fun _ => ?_) (fun c => absurd c (by decide))
        refine g_iconst hC 0 dX3_step_117 (by decide) ?_
        refine g_callV hC (Cn := RX3) (TT := TX3) (N := 7) dX3_step_118 (ct_X3_keepLevel l G L f84 a r83 (((rl <<< (1 &&& 31)) ||| 1) &&& 15) sw lr mn mx pe false hL_a hx86) q_code_X3_keepLevel q_ml_X3_38 q_im_X3_keepLevel q_sel_X3_keepLevel q_init_X3 ⟨rfl, by decide, by decide, (show (parseMethodDescriptor yX3_keepLevel.desc).map (fun d => d.parameters.length) = some 1 from by decide +kernel)⟩ hL_a hx86 rfl (by decide) (by decide) (Nat.le_of_ble_eq_true rfl) (fun v90 L91 f92 hp89 => ?_)
        obtain ⟨rfl, rfl, hf93⟩ := hp89
        have hx94 : f92 a = .inr (3, [.double r83, .int (((rl <<< (1 &&& 31)) ||| 1) &&& 15), .int sw, .int lr, .double (if (false || qlt (dv r83) (dv mn)) = true then r83 else mn), .double (if (false || qgt (dv r83) (dv mx)) = true then r83 else mx), .int pe]) := by rw [hf93]; exact va_up_self _ _ _
        have hF95 : f92 = va_up f a (.inr (3, [.double r83, .int (((rl <<< (1 &&& 31)) ||| 1) &&& 15), .int sw, .int lr, .double (if (false || qlt (dv r83) (dv mn)) = true then r83 else mn), .double (if (false || qgt (dv r83) (dv mx)) = true then r83 else mx), .int pe])) := by rw [hf93, hF87, va_up_up]
        refine (show V C 5 L f92 0 0 121 [(4, .int ((rl >>> (3 &&& 31)) &&& 1)), (3, .int 0), (2, .int 1), (0, .ref a), (1, .int t)] [] from ?_)
        refine g_vret hC dX3_step_121 rfl ⟨rfl, rfl, r83, (((rl <<< (1 &&& 31)) ||| 1) &&& 15), sw, lr, (if (false || qlt (dv r83) (dv mn)) = true then r83 else mn), (if (false || qgt (dv r83) (dv mx)) = true then r83 else mx), pe, ?_, hF95⟩ (Nat.zero_le _) (Nat.zero_le _)
        simp only [tStep, tLe, tRl, tSw, tLr, tMn, tMx, tPe, tRise, tFi, tIs, tRel, ite_dv, decide_true, decide_false, Bool.and_true, Bool.true_and, Bool.and_false, Bool.false_and, Bool.not_true, Bool.not_false, Bool.false_or, Bool.true_or, Bool.false_eq_true, if_true, if_false, d01, d11, c1, eq_true c76, eq_false c88, er81, er82, er83]
    · skip
      refine g_iload_n hC dX3_step_21 0 rfl ?_
      refine g_aload_n hC dX3_step_22 1 rfl ?_
      refine g_get hC (kf := 1) (TT := TX3) (N := 7) (Cn := RX3) dX3_step_23 hL_a h0 rfl q_u3 (by decide) q_fl_X3_13 rfl rfl ?_
      refine g_iconst hC 1 dX3_step_26 (by decide) ?_
      refine g_iand hC dX3_step_27 ?_
      refine g_icmp_eq hC 35 dX3_step_28 (by decide) (fun c96 => ?_) (fun c96 => ?_)
      · skip
        refine g_iconst hC 0 dX3_step_35 (by decide) ?_
        refine g_istore_n hC (lv1 := [(3, .int 0), (2, .int 1), (0, .ref a), (1, .int t)]) dX3_step_36 (by decide) rfl ?_
        refine g_iload_n hC dX3_step_37 0 rfl ?_
        refine g_if_eq hC 47 dX3_step_38 (by decide) (fun _ => ?_) (fun c => absurd c (by decide))
        refine g_aload_n hC dX3_step_47 2 rfl ?_
        refine g_get hC (kf := 1) (TT := TX3) (N := 7) (Cn := RX3) dX3_step_48 hL_a h0 rfl q_u3 (by decide) q_fl_X3_13 rfl rfl ?_
        refine g_iconst hC 3 dX3_step_51 (by decide) ?_
        refine g_ishr hC dX3_step_52 ?_
        refine g_iconst hC 1 dX3_step_53 (by decide) ?_
        refine g_iand hC dX3_step_54 ?_
        refine g_istore hC (lv1 := [(4, .int ((rl >>> (3 &&& 31)) &&& 1)), (3, .int 0), (2, .int 1), (0, .ref a), (1, .int t)]) dX3_step_55 (by decide) rfl ?_
        refine g_aload_n hC dX3_step_57 3 rfl ?_
        refine g_aload_n hC dX3_step_58 3 rfl ?_
        refine g_get hC (kf := 1) (TT := TX3) (N := 7) (Cn := RX3) dX3_step_59 hL_a h0 rfl q_u3 (by decide) q_fl_X3_13 rfl rfl ?_
        refine g_iconst hC 1 dX3_step_62 (by decide) ?_
        refine g_ishl hC dX3_step_63 ?_
        refine g_iload_n hC dX3_step_64 2 rfl ?_
        refine g_ior hC dX3_step_65 ?_
        refine g_bipush hC 15 dX3_step_66 (by decide) ?_
        refine g_iand hC dX3_step_68 ?_
        refine g_put hC (kf := 1) (TT := TX3) (N := 7) (Cn := RX3) (ty0 := tyX3) (fs1 := [.double le, .int (((rl <<< (1 &&& 31)) ||| 1) &&& 15), .int sw, .int lr, .double mn, .double mx, .int pe]) dX3_step_69 hL_a h0 rfl q_u3 (by decide) tyX3_ok nmX3 q_fl_X3_13 rfl rfl rfl rfl rfl (Nat.le_of_ble_eq_true rfl) rfl ?_
        refine g_nm (fun f97 hf98 => ?_)
        have hx99 : f97 a = .inr (3, [.double le, .int (((rl <<< (1 &&& 31)) ||| 1) &&& 15), .int sw, .int lr, .double mn, .double mx, .int pe]) := by rw [hf98]; exact va_up_self _ _ _
        have hF100 : f97 = va_up f a (.inr (3, [.double le, .int (((rl <<< (1 &&& 31)) ||| 1) &&& 15), .int sw, .int lr, .double mn, .double mx, .int pe])) := hf98
        refine g_aload_n hC dX3_step_72 3 rfl ?_
        refine g_aload_n hC dX3_step_73 3 rfl ?_
        refine g_get hC (kf := 0) (TT := TX3) (N := 7) (Cn := RX3) dX3_step_74 hL_a hx99 rfl q_u3 (by decide) q_fl_X3_7 rfl rfl ?_
        refine g_iload hC dX3_step_77 0 rfl ?_
        refine g_i2d hC dX3_step_79 ?_
        refine g_aload_n hC dX3_step_80 3 rfl ?_
        refine g_get hC (kf := 0) (TT := TX3) (N := 7) (Cn := RX3) dX3_step_81 hL_a hx99 rfl q_u3 (by decide) q_fl_X3_7 rfl rfl ?_
        refine g_dsub hC dX3_step_84 (fun r101 er101 => ?_)
        refine g_ldc2 hC dX3_step_85 q_cd_X3_36 ?_
        refine g_dmul hC dX3_step_88 (fun r102 er102 => ?_)
        try simp only [er101] at er102
        refine g_dadd hC dX3_step_89 (fun r103 er103 => ?_)
        try simp only [er101, er102] at er103
        refine g_put hC (kf := 0) (TT := TX3) (N := 7) (Cn := RX3) (ty0 := tyX3) (fs1 := [.double r103, .int (((rl <<< (1 &&& 31)) ||| 1) &&& 15), .int sw, .int lr, .double mn, .double mx, .int pe]) dX3_step_90 hL_a hx99 rfl q_u3 (by decide) tyX3_ok nmX3 q_fl_X3_7 rfl rfl rfl rfl rfl (Nat.le_of_ble_eq_true rfl) rfl ?_
        refine g_nm (fun f104 hf105 => ?_)
        have hx106 : f104 a = .inr (3, [.double r103, .int (((rl <<< (1 &&& 31)) ||| 1) &&& 15), .int sw, .int lr, .double mn, .double mx, .int pe]) := by rw [hf105]; exact va_up_self _ _ _
        have hF107 : f104 = va_up f a (.inr (3, [.double r103, .int (((rl <<< (1 &&& 31)) ||| 1) &&& 15), .int sw, .int lr, .double mn, .double mx, .int pe])) := by rw [hf105, hF100, va_up_up]
        refine g_aload_n hC dX3_step_93 3 rfl ?_
        refine g_get hC (kf := 2) (TT := TX3) (N := 7) (Cn := RX3) dX3_step_94 hL_a hx106 rfl q_u3 (by decide) q_fl_X3_17 rfl rfl ?_
        refine g_if_le hC 121 dX3_step_97 (by decide) (fun c108 => ?_) (fun c108 => ?_)
        · skip
          refine g_vret hC dX3_step_121 rfl ⟨rfl, rfl, r103, (((rl <<< (1 &&& 31)) ||| 1) &&& 15), sw, lr, mn, mx, pe, ?_, hF107⟩ (Nat.zero_le _) (Nat.zero_le _)
          simp only [tStep, tLe, tRl, tSw, tLr, tMn, tMx, tPe, tRise, tFi, tIs, tRel, ite_dv, decide_true, decide_false, Bool.and_true, Bool.true_and, Bool.and_false, Bool.false_and, Bool.not_true, Bool.not_false, Bool.false_or, Bool.true_or, Bool.false_eq_true, if_true, if_false, d01, d11, c1, eq_false c76, eq_true c96, eq_true c108, er101, er102, er103]
        · skip
          refine g_aload_n hC dX3_step_100 3 rfl ?_
          refine g_iload_n hC dX3_step_101 1 rfl ?_
          refine g_if_eq hC 117 dX3_step_102 (by decide) (fun _ => ?_) (fun c => absurd c (by decide))
          refine g_iconst hC 0 dX3_step_117 (by decide) ?_
          refine g_callV hC (Cn := RX3) (TT := TX3) (N := 7) dX3_step_118 (ct_X3_keepLevel l G L f104 a r103 (((rl <<< (1 &&& 31)) ||| 1) &&& 15) sw lr mn mx pe false hL_a hx106) q_code_X3_keepLevel q_ml_X3_38 q_im_X3_keepLevel q_sel_X3_keepLevel q_init_X3 ⟨rfl, by decide, by decide, (show (parseMethodDescriptor yX3_keepLevel.desc).map (fun d => d.parameters.length) = some 1 from by decide +kernel)⟩ hL_a hx106 rfl (by decide) (by decide) (Nat.le_of_ble_eq_true rfl) (fun v110 L111 f112 hp109 => ?_)
          obtain ⟨rfl, rfl, hf113⟩ := hp109
          have hx114 : f112 a = .inr (3, [.double r103, .int (((rl <<< (1 &&& 31)) ||| 1) &&& 15), .int sw, .int lr, .double (if (false || qlt (dv r103) (dv mn)) = true then r103 else mn), .double (if (false || qgt (dv r103) (dv mx)) = true then r103 else mx), .int pe]) := by rw [hf113]; exact va_up_self _ _ _
          have hF115 : f112 = va_up f a (.inr (3, [.double r103, .int (((rl <<< (1 &&& 31)) ||| 1) &&& 15), .int sw, .int lr, .double (if (false || qlt (dv r103) (dv mn)) = true then r103 else mn), .double (if (false || qgt (dv r103) (dv mx)) = true then r103 else mx), .int pe])) := by rw [hf113, hF107, va_up_up]
          refine (show V C 5 L f112 0 0 121 [(4, .int ((rl >>> (3 &&& 31)) &&& 1)), (3, .int 0), (2, .int 1), (0, .ref a), (1, .int t)] [] from ?_)
          refine g_vret hC dX3_step_121 rfl ⟨rfl, rfl, r103, (((rl <<< (1 &&& 31)) ||| 1) &&& 15), sw, lr, (if (false || qlt (dv r103) (dv mn)) = true then r103 else mn), (if (false || qgt (dv r103) (dv mx)) = true then r103 else mx), pe, ?_, hF115⟩ (Nat.zero_le _) (Nat.zero_le _)
          simp only [tStep, tLe, tRl, tSw, tLr, tMn, tMx, tPe, tRise, tFi, tIs, tRel, ite_dv, decide_true, decide_false, Bool.and_true, Bool.true_and, Bool.and_false, Bool.false_and, Bool.not_true, Bool.not_false, Bool.false_or, Bool.true_or, Bool.false_eq_true, if_true, if_false, d01, d11, c1, eq_false c76, eq_true c96, eq_false c108, er101, er102, er103]
      · skip
        refine g_iconst hC 1 dX3_step_31 (by decide) ?_
        refine g_goto hC 36 dX3_step_32 (by decide) ?_
        refine g_istore_n hC (lv1 := [(3, .int 1), (2, .int 1), (0, .ref a), (1, .int t)]) dX3_step_36 (by decide) rfl ?_
        refine g_iload_n hC dX3_step_37 0 rfl ?_
        refine g_if_eq hC 47 dX3_step_38 (by decide) (fun c => absurd c (by decide)) (fun _ => ?_)
        refine g_aload_n hC dX3_step_41 2 rfl ?_
        refine g_iload_n hC dX3_step_42 3 rfl ?_
        refine g_iload_n hC dX3_step_43 1 rfl ?_
        refine g_callV hC (Cn := RX3) (TT := TX3) (N := 7) dX3_step_44 (ct_X3_countSwitch l G L f a le rl sw lr mn mx pe t 1 hL_a h0) q_code_X3_countSwitch q_ml_X3_32 q_im_X3_countSwitch q_sel_X3_countSwitch q_init_X3 ⟨rfl, by decide, by decide, (show (parseMethodDescriptor yX3_countSwitch.desc).map (fun d => d.parameters.length) = some 2 from by decide +kernel)⟩ hL_a h0 rfl (by decide) (by decide) (Nat.le_of_ble_eq_true rfl) (fun v117 L118 f119 hp116 => ?_)
        obtain ⟨rfl, rfl, hf120⟩ := hp116
        simp only [if_true, (by decide : ((1 : Int32) = 1) = True), (by decide : ((0 : Int32) = 1) = False), if_false] at hf120
        have hx121 : f119 a = .inr (3, [.double le, .int rl, .int (sw + 1), .int t, .double mn, .double mx, .int (if lr = 0 then 0 else t - lr)]) := by rw [hf120]; exact va_up_self _ _ _
        have hF122 : f119 = va_up f a (.inr (3, [.double le, .int rl, .int (sw + 1), .int t, .double mn, .double mx, .int (if lr = 0 then 0 else t - lr)])) := hf120
        refine (show V C 5 L f119 0 0 47 [(3, .int 1), (2, .int 1), (0, .ref a), (1, .int t)] [] from ?_)
        refine g_aload_n hC dX3_step_47 2 rfl ?_
        refine g_get hC (kf := 1) (TT := TX3) (N := 7) (Cn := RX3) dX3_step_48 hL_a hx121 rfl q_u3 (by decide) q_fl_X3_13 rfl rfl ?_
        refine g_iconst hC 3 dX3_step_51 (by decide) ?_
        refine g_ishr hC dX3_step_52 ?_
        refine g_iconst hC 1 dX3_step_53 (by decide) ?_
        refine g_iand hC dX3_step_54 ?_
        refine g_istore hC (lv1 := [(4, .int ((rl >>> (3 &&& 31)) &&& 1)), (3, .int 1), (2, .int 1), (0, .ref a), (1, .int t)]) dX3_step_55 (by decide) rfl ?_
        refine g_aload_n hC dX3_step_57 3 rfl ?_
        refine g_aload_n hC dX3_step_58 3 rfl ?_
        refine g_get hC (kf := 1) (TT := TX3) (N := 7) (Cn := RX3) dX3_step_59 hL_a hx121 rfl q_u3 (by decide) q_fl_X3_13 rfl rfl ?_
        refine g_iconst hC 1 dX3_step_62 (by decide) ?_
        refine g_ishl hC dX3_step_63 ?_
        refine g_iload_n hC dX3_step_64 2 rfl ?_
        refine g_ior hC dX3_step_65 ?_
        refine g_bipush hC 15 dX3_step_66 (by decide) ?_
        refine g_iand hC dX3_step_68 ?_
        refine g_put hC (kf := 1) (TT := TX3) (N := 7) (Cn := RX3) (ty0 := tyX3) (fs1 := [.double le, .int (((rl <<< (1 &&& 31)) ||| 1) &&& 15), .int (sw + 1), .int t, .double mn, .double mx, .int (if lr = 0 then 0 else t - lr)]) dX3_step_69 hL_a hx121 rfl q_u3 (by decide) tyX3_ok nmX3 q_fl_X3_13 rfl rfl rfl rfl rfl (Nat.le_of_ble_eq_true rfl) rfl ?_
        refine g_nm (fun f123 hf124 => ?_)
        have hx125 : f123 a = .inr (3, [.double le, .int (((rl <<< (1 &&& 31)) ||| 1) &&& 15), .int (sw + 1), .int t, .double mn, .double mx, .int (if lr = 0 then 0 else t - lr)]) := by rw [hf124]; exact va_up_self _ _ _
        have hF126 : f123 = va_up f a (.inr (3, [.double le, .int (((rl <<< (1 &&& 31)) ||| 1) &&& 15), .int (sw + 1), .int t, .double mn, .double mx, .int (if lr = 0 then 0 else t - lr)])) := by rw [hf124, hF122, va_up_up]
        refine g_aload_n hC dX3_step_72 3 rfl ?_
        refine g_aload_n hC dX3_step_73 3 rfl ?_
        refine g_get hC (kf := 0) (TT := TX3) (N := 7) (Cn := RX3) dX3_step_74 hL_a hx125 rfl q_u3 (by decide) q_fl_X3_7 rfl rfl ?_
        refine g_iload hC dX3_step_77 0 rfl ?_
        refine g_i2d hC dX3_step_79 ?_
        refine g_aload_n hC dX3_step_80 3 rfl ?_
        refine g_get hC (kf := 0) (TT := TX3) (N := 7) (Cn := RX3) dX3_step_81 hL_a hx125 rfl q_u3 (by decide) q_fl_X3_7 rfl rfl ?_
        refine g_dsub hC dX3_step_84 (fun r127 er127 => ?_)
        refine g_ldc2 hC dX3_step_85 q_cd_X3_36 ?_
        refine g_dmul hC dX3_step_88 (fun r128 er128 => ?_)
        try simp only [er127] at er128
        refine g_dadd hC dX3_step_89 (fun r129 er129 => ?_)
        try simp only [er127, er128] at er129
        refine g_put hC (kf := 0) (TT := TX3) (N := 7) (Cn := RX3) (ty0 := tyX3) (fs1 := [.double r129, .int (((rl <<< (1 &&& 31)) ||| 1) &&& 15), .int (sw + 1), .int t, .double mn, .double mx, .int (if lr = 0 then 0 else t - lr)]) dX3_step_90 hL_a hx125 rfl q_u3 (by decide) tyX3_ok nmX3 q_fl_X3_7 rfl rfl rfl rfl rfl (Nat.le_of_ble_eq_true rfl) rfl ?_
        refine g_nm (fun f130 hf131 => ?_)
        have hx132 : f130 a = .inr (3, [.double r129, .int (((rl <<< (1 &&& 31)) ||| 1) &&& 15), .int (sw + 1), .int t, .double mn, .double mx, .int (if lr = 0 then 0 else t - lr)]) := by rw [hf131]; exact va_up_self _ _ _
        have hF133 : f130 = va_up f a (.inr (3, [.double r129, .int (((rl <<< (1 &&& 31)) ||| 1) &&& 15), .int (sw + 1), .int t, .double mn, .double mx, .int (if lr = 0 then 0 else t - lr)])) := by rw [hf131, hF126, va_up_up]
        refine g_aload_n hC dX3_step_93 3 rfl ?_
        refine g_get hC (kf := 2) (TT := TX3) (N := 7) (Cn := RX3) dX3_step_94 hL_a hx132 rfl q_u3 (by decide) q_fl_X3_17 rfl rfl ?_
        refine g_if_le hC 121 dX3_step_97 (by decide) (fun c134 => ?_) (fun c134 => ?_)
        · skip
          refine g_vret hC dX3_step_121 rfl ⟨rfl, rfl, r129, (((rl <<< (1 &&& 31)) ||| 1) &&& 15), (sw + 1), t, mn, mx, (if lr = 0 then 0 else t - lr), ?_, hF133⟩ (Nat.zero_le _) (Nat.zero_le _)
          simp only [tStep, tLe, tRl, tSw, tLr, tMn, tMx, tPe, tRise, tFi, tIs, tRel, ite_dv, decide_true, decide_false, Bool.and_true, Bool.true_and, Bool.and_false, Bool.false_and, Bool.not_true, Bool.not_false, Bool.false_or, Bool.true_or, Bool.false_eq_true, if_true, if_false, d01, d11, c1, eq_false c76, eq_false c96, eq_true c134, er127, er128, er129]
        · skip
          refine g_aload_n hC dX3_step_100 3 rfl ?_
          refine g_iload_n hC dX3_step_101 1 rfl ?_
          refine g_if_eq hC 117 dX3_step_102 (by decide) (fun c => absurd c (by decide)) (fun _ => ?_)
          refine g_aload_n hC dX3_step_105 3 rfl ?_
          refine g_get hC (kf := 2) (TT := TX3) (N := 7) (Cn := RX3) dX3_step_106 hL_a hx132 rfl q_u3 (by decide) q_fl_X3_17 rfl rfl ?_
          refine g_iconst hC 1 dX3_step_109 (by decide) ?_
          refine g_icmp_ne hC 117 dX3_step_110 (by decide) (fun c135 => ?_) (fun c135 => ?_)
          · skip
            refine g_iconst hC 0 dX3_step_117 (by decide) ?_
            refine g_callV hC (Cn := RX3) (TT := TX3) (N := 7) dX3_step_118 (ct_X3_keepLevel l G L f130 a r129 (((rl <<< (1 &&& 31)) ||| 1) &&& 15) (sw + 1) t mn mx (if lr = 0 then 0 else t - lr) false hL_a hx132) q_code_X3_keepLevel q_ml_X3_38 q_im_X3_keepLevel q_sel_X3_keepLevel q_init_X3 ⟨rfl, by decide, by decide, (show (parseMethodDescriptor yX3_keepLevel.desc).map (fun d => d.parameters.length) = some 1 from by decide +kernel)⟩ hL_a hx132 rfl (by decide) (by decide) (Nat.le_of_ble_eq_true rfl) (fun v137 L138 f139 hp136 => ?_)
            obtain ⟨rfl, rfl, hf140⟩ := hp136
            have hx141 : f139 a = .inr (3, [.double r129, .int (((rl <<< (1 &&& 31)) ||| 1) &&& 15), .int (sw + 1), .int t, .double (if (false || qlt (dv r129) (dv mn)) = true then r129 else mn), .double (if (false || qgt (dv r129) (dv mx)) = true then r129 else mx), .int (if lr = 0 then 0 else t - lr)]) := by rw [hf140]; exact va_up_self _ _ _
            have hF142 : f139 = va_up f a (.inr (3, [.double r129, .int (((rl <<< (1 &&& 31)) ||| 1) &&& 15), .int (sw + 1), .int t, .double (if (false || qlt (dv r129) (dv mn)) = true then r129 else mn), .double (if (false || qgt (dv r129) (dv mx)) = true then r129 else mx), .int (if lr = 0 then 0 else t - lr)])) := by rw [hf140, hF133, va_up_up]
            refine (show V C 5 L f139 0 0 121 [(4, .int ((rl >>> (3 &&& 31)) &&& 1)), (3, .int 1), (2, .int 1), (0, .ref a), (1, .int t)] [] from ?_)
            refine g_vret hC dX3_step_121 rfl ⟨rfl, rfl, r129, (((rl <<< (1 &&& 31)) ||| 1) &&& 15), (sw + 1), t, (if (false || qlt (dv r129) (dv mn)) = true then r129 else mn), (if (false || qgt (dv r129) (dv mx)) = true then r129 else mx), (if lr = 0 then 0 else t - lr), ?_, hF142⟩ (Nat.zero_le _) (Nat.zero_le _)
            simp only [tStep, tLe, tRl, tSw, tLr, tMn, tMx, tPe, tRise, tFi, tIs, tRel, ite_dv, decide_true, decide_false, Bool.and_true, Bool.true_and, Bool.and_false, Bool.false_and, Bool.not_true, Bool.not_false, Bool.false_or, Bool.true_or, Bool.false_eq_true, if_true, if_false, d01, d11, c1, eq_false c76, eq_false c96, eq_false c134, eq_false c135, er127, er128, er129]
          · skip
            refine g_iconst hC 1 dX3_step_113 (by decide) ?_
            refine g_goto hC 118 dX3_step_114 (by decide) ?_
            refine g_callV hC (Cn := RX3) (TT := TX3) (N := 7) dX3_step_118 (ct_X3_keepLevel l G L f130 a r129 (((rl <<< (1 &&& 31)) ||| 1) &&& 15) (sw + 1) t mn mx (if lr = 0 then 0 else t - lr) true hL_a hx132) q_code_X3_keepLevel q_ml_X3_38 q_im_X3_keepLevel q_sel_X3_keepLevel q_init_X3 ⟨rfl, by decide, by decide, (show (parseMethodDescriptor yX3_keepLevel.desc).map (fun d => d.parameters.length) = some 1 from by decide +kernel)⟩ hL_a hx132 rfl (by decide) (by decide) (Nat.le_of_ble_eq_true rfl) (fun v144 L145 f146 hp143 => ?_)
            obtain ⟨rfl, rfl, hf147⟩ := hp143
            have hx148 : f146 a = .inr (3, [.double r129, .int (((rl <<< (1 &&& 31)) ||| 1) &&& 15), .int (sw + 1), .int t, .double (if (true || qlt (dv r129) (dv mn)) = true then r129 else mn), .double (if (true || qgt (dv r129) (dv mx)) = true then r129 else mx), .int (if lr = 0 then 0 else t - lr)]) := by rw [hf147]; exact va_up_self _ _ _
            have hF149 : f146 = va_up f a (.inr (3, [.double r129, .int (((rl <<< (1 &&& 31)) ||| 1) &&& 15), .int (sw + 1), .int t, .double (if (true || qlt (dv r129) (dv mn)) = true then r129 else mn), .double (if (true || qgt (dv r129) (dv mx)) = true then r129 else mx), .int (if lr = 0 then 0 else t - lr)])) := by rw [hf147, hF133, va_up_up]
            refine (show V C 5 L f146 0 0 121 [(4, .int ((rl >>> (3 &&& 31)) &&& 1)), (3, .int 1), (2, .int 1), (0, .ref a), (1, .int t)] [] from ?_)
            refine g_vret hC dX3_step_121 rfl ⟨rfl, rfl, r129, (((rl <<< (1 &&& 31)) ||| 1) &&& 15), (sw + 1), t, (if (true || qlt (dv r129) (dv mn)) = true then r129 else mn), (if (true || qgt (dv r129) (dv mx)) = true then r129 else mx), (if lr = 0 then 0 else t - lr), ?_, hF149⟩ (Nat.zero_le _) (Nat.zero_le _)
            simp only [tStep, tLe, tRl, tSw, tLr, tMn, tMx, tPe, tRise, tFi, tIs, tRel, ite_dv, decide_true, decide_false, Bool.and_true, Bool.true_and, Bool.and_false, Bool.false_and, Bool.not_true, Bool.not_false, Bool.false_or, Bool.true_or, Bool.false_eq_true, if_true, if_false, d01, d11, c1, eq_false c76, eq_false c96, eq_false c134, eq_true c135, er127, er128, er129]
set_option maxHeartbeats 4000000 in
set_option maxRecDepth 100000 in
/-- gain(k) -/
theorem ct_X3_gain (l : Launch) (G : GD) (L : List Nat) (f : Nat → va_E) (a : Nat) (le : UInt64) (rl sw lr : Int32) (mn mx : UInt64) (pe : Int32) (k : Int32) (hL_a : a ∈ L) (h0 : f a = eTn le rl sw lr mn mx pe) : Ctr l yX3_gain cX3_gain 6 (some .double) R00 G [.ref a, .int k] L f (fun vv L1 f1 => ∃ r : UInt64, vv = some (.double r) ∧ dv r = tgS (dv mn) (dv mx) pe k ∧ L = L1 ∧ f = f1) := by
  refine g_enter RX3 false (by decide) rfl (fun h => by cases h) (Nat.le_of_ble_eq_true rfl) (fun C hC => ?_)
  refine (show V C 6 L f 0 0 0 [(0, .ref a), (1, .int k)] [] from ?_)
  refine g_aload_n hC dX3_gain_0 0 rfl ?_
  refine g_get hC (kf := 5) (TT := TX3) (N := 7) (Cn := RX3) dX3_gain_1 hL_a h0 rfl q_u3 (by decide) q_fl_X3_45 rfl rfl ?_
  refine g_aload_n hC dX3_gain_4 0 rfl ?_
  refine g_get hC (kf := 4) (TT := TX3) (N := 7) (Cn := RX3) dX3_gain_5 hL_a h0 rfl q_u3 (by decide) q_fl_X3_42 rfl rfl ?_
  refine g_dsub hC dX3_gain_8 (fun r1 er1 => ?_)
  refine g_ldc2 hC dX3_gain_9 q_cd_X3_30 ?_
  refine g_dmul hC dX3_gain_12 (fun r2 er2 => ?_)
  try simp only [er1] at er2
  refine g_dstore_n hC (lv1 := [(2, .double r2), (0, .ref a), (1, .int k)]) dX3_gain_13 (by decide) rfl ?_
  refine g_aload_n hC dX3_gain_14 1 rfl ?_
  refine g_get hC (kf := 6) (TT := TX3) (N := 7) (Cn := RX3) dX3_gain_15 hL_a h0 rfl q_u3 (by decide) q_fl_X3_23 rfl rfl ?_
  refine g_if_eq hC 27 dX3_gain_18 (by decide) (fun c3 => ?_) (fun c3 => ?_)
  · skip
    refine g_dconst0 hC dX3_gain_27 ?_
    exact g_dret hC dX3_gain_28 rfl ⟨0, rfl, by simp [tgS, tgV, tgG, tgA, c3, er1, er2], rfl, rfl⟩ (Nat.zero_le _) (Nat.zero_le _)
  · skip
    refine g_dload_n hC dX3_gain_21 0 rfl ?_
    refine g_dconst0 hC dX3_gain_22 ?_
    refine g_dcmpg_gt hC 29 dX3_gain_23 dX3_gain_24 (by decide) (fun c4 => ?_) (fun c4 => ?_)
    · try simp only [er1, er2] at c4
      refine g_dconst1 hC dX3_gain_29 ?_
      refine g_dload_n hC dX3_gain_30 0 rfl ?_
      refine g_ddiv hC dX3_gain_31 (fun r5 er5 => ?_)
      try simp only [er1, er2] at er5
      refine g_dstore hC (lv1 := [(4, .double r5), (2, .double r2), (0, .ref a), (1, .int k)]) dX3_gain_32 (by decide) rfl ?_
      refine g_iload_n hC dX3_gain_34 3 rfl ?_
      rcases sw3 k with k6 | k6 | k6 | k6
      · refine g_eqI k6 (g_table hC 60 dX3_gain_35 (by decide) (by decide) rfl (by decide) ?_)
        refine g_ldc2 hC dX3_gain_60 q_cd_X3_30 ?_
        refine g_dload hC dX3_gain_63 0 rfl ?_
        refine g_dmul hC dX3_gain_65 (fun r7 er7 => ?_)
        try simp only [er1, er2, er5] at er7
        exact g_dret hC dX3_gain_66 rfl ⟨r7, rfl, by simp [tgS, tgV, tgG, tgA, c3, c4, k6, er1, er2, er5, er7], rfl, rfl⟩ (Nat.zero_le _) (Nat.zero_le _)
      · refine g_eqI k6 (g_table hC 67 dX3_gain_35 (by decide) (by decide) rfl (by decide) ?_)
        refine g_dload hC dX3_gain_67 0 rfl ?_
        refine g_aload_n hC dX3_gain_69 2 rfl ?_
        refine g_get hC (kf := 6) (TT := TX3) (N := 7) (Cn := RX3) dX3_gain_70 hL_a h0 rfl q_u3 (by decide) q_fl_X3_23 rfl rfl ?_
        refine g_i2d hC dX3_gain_73 ?_
        refine g_ddiv hC dX3_gain_74 (fun r8 er8 => ?_)
        try simp only [er1, er2, er5] at er8
        exact g_dret hC dX3_gain_75 rfl ⟨r8, rfl, by simp [tgS, tgV, tgG, tgA, c3, c4, k6, er1, er2, er5, er8], rfl, rfl⟩ (Nat.zero_le _) (Nat.zero_le _)
      · refine g_eqI k6 (g_table hC 76 dX3_gain_35 (by decide) (by decide) rfl (by decide) ?_)
        refine g_ldc2 hC dX3_gain_76 q_cd_X3_36 ?_
        refine g_dload hC dX3_gain_79 0 rfl ?_
        refine g_dmul hC dX3_gain_81 (fun r9 er9 => ?_)
        try simp only [er1, er2, er5] at er9
        refine g_aload_n hC dX3_gain_82 2 rfl ?_
        refine g_get hC (kf := 6) (TT := TX3) (N := 7) (Cn := RX3) dX3_gain_83 hL_a h0 rfl q_u3 (by decide) q_fl_X3_23 rfl rfl ?_
        refine g_i2d hC dX3_gain_86 ?_
        refine g_dmul hC dX3_gain_87 (fun r10 er10 => ?_)
        try simp only [er1, er2, er5, er9] at er10
        exact g_dret hC dX3_gain_88 rfl ⟨r10, rfl, by simp [tgS, tgV, tgG, tgA, c3, c4, k6, er1, er2, er5, er9, er10], rfl, rfl⟩ (Nat.zero_le _) (Nat.zero_le _)
      · have k0 : ¬ k = 0 := by rintro rfl; revert k6; decide
        have k1 : ¬ k = 1 := by rintro rfl; revert k6; decide
        have k2 : ¬ k = 2 := by rintro rfl; revert k6; decide
        refine g_tableOut hC 89 dX3_gain_35 k6 (by decide) ?_
        refine g_dconst0 hC dX3_gain_89 ?_
        exact g_dret hC dX3_gain_90 rfl ⟨0, rfl, by simp [tgS, tgV, tgG, tgA, c3, c4, k0, k1, k2, er1, er2, er5], rfl, rfl⟩ (Nat.zero_le _) (Nat.zero_le _)
    · try simp only [er1, er2] at c4
      refine g_dconst0 hC dX3_gain_27 ?_
      exact g_dret hC dX3_gain_28 rfl ⟨0, rfl, by simp [tgS, tgV, tgG, tgA, c3, c4, er1, er2], rfl, rfl⟩ (Nat.zero_le _) (Nat.zero_le _)
