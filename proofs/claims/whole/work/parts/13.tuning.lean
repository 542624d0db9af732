/-! tuning: a second, a run, the gains, over data -/
abbrev TS : Type := DT × Int32 × Int32 × Int32 × DT × DT × Int32
def tRel (le : DT) : Int32 := if qlt le (dv 4602678819172646912) = true then 1 else 0
def tIs (t : Int32) (z : TS) : Bool := !decide (t ≤ 0) && !decide (tRel z.1 = z.2.1 &&& 1)
def tSw (t : Int32) (z : TS) : Int32 := if tIs t z = true then z.2.2.1 + 1 else z.2.2.1
def tRise (t : Int32) (z : TS) : Bool := tIs t z && decide (tRel z.1 = 1)
def tLr (t : Int32) (z : TS) : Int32 := if tRise t z = true then t else z.2.2.2.1
def tPe (t : Int32) (z : TS) : Int32 := if tRise t z = true then (if z.2.2.2.1 = 0 then 0 else t - z.2.2.2.1) else z.2.2.2.2.2.2
def tRl (z : TS) : Int32 := (z.2.1 <<< ((1 : Int32) &&& 31) ||| tRel z.1) &&& 15
def tLe (z : TS) : DT := qadd z.1 (qmul (qsub (dv (FP.i2d (z.2.1 >>> ((3 : Int32) &&& 31) &&& 1))) z.1) (dv 4589168020290535424))
def tFi (t : Int32) (z : TS) : Bool := tIs t z && decide (tSw t z = 1)
def tMn (t : Int32) (z : TS) : DT := if tSw t z ≤ 0 then z.2.2.2.2.1 else (if (tFi t z || qlt (tLe z) z.2.2.2.2.1) = true then tLe z else z.2.2.2.2.1)
def tMx (t : Int32) (z : TS) : DT := if tSw t z ≤ 0 then z.2.2.2.2.2.1 else (if (tFi t z || qgt (tLe z) z.2.2.2.2.2.1) = true then tLe z else z.2.2.2.2.2.1)
def tStep (t : Int32) (z : TS) : TS := (tLe z, tRl z, tSw t z, tLr t z, tMn t z, tMx t z, tPe t z)
def tRun (z : TS) : Nat → TS
  | 0 => z
  | j + 1 => tStep (nI j) (tRun z j)
def tgA (mn mx : DT) : DT := qmul (qsub mx mn) (dv 4602678819172646912)
def tgG (mn mx : DT) : DT := qdiv (dv 4607182418800017408) (tgA mn mx)
def tgV (mn mx : DT) (pe k : Int32) : DT := if k = 0 then qmul (dv 4602678819172646912) (tgG mn mx) else if k = 1 then qdiv (tgG mn mx) (dv (FP.i2d pe)) else if k = 2 then qmul (qmul (dv 4589168020290535424) (tgG mn mx)) (dv (FP.i2d pe)) else dv 0
def tgS (mn mx : DT) (pe k : Int32) : DT := if pe = 0 then dv 0 else if qle (tgA mn mx) (dv 0) = true then dv 0 else tgV mn mx pe k
theorem sw3 (k : Int32) : k = 0 ∨ k = 1 ∨ k = 2 ∨ (k.toInt < 0 ∨ 2 < k.toInt) := by
  have h0 : k = 0 ↔ k.toInt = 0 := by rw [← Int32.toInt_inj]; rfl
  have h1 : k = 1 ↔ k.toInt = 1 := by rw [← Int32.toInt_inj]; rfl
  have h2 : k = 2 ↔ k.toInt = 2 := by rw [← Int32.toInt_inj]; rfl
  rw [h0, h1, h2]
  omega
set_option maxHeartbeats 4000000 in
set_option maxRecDepth 100000 in
/-- countSwitch(second, relay) -/
theorem ct_X3_countSwitch (l : Launch) (G : GD) (L : List Nat) (f : Nat → va_E) (a : Nat) (le : UInt64) (rl sw lr : Int32) (mn mx : UInt64) (pe : Int32) (t r : Int32) (hL_a : a ∈ L) (h0 : f a = eTn le rl sw lr mn mx pe) : Ctr l yX3_countSwitch cX3_countSwitch 3 none R00 G [.ref a, .int t, .int r] L f (fun vv L1 f1 => vv = none ∧ L = L1 ∧ f1 = va_up f a (eTn le rl (sw + 1) (if r = 1 then t else lr) mn mx (if r = 1 then (if lr = 0 then 0 else t - lr) else pe))) := by
  refine g_enter RX3 false (by decide) rfl (fun h => by cases h) (Nat.le_of_ble_eq_true rfl) (fun C hC => ?_)
  refine (show V C 3 L f 0 0 0 [(0, .ref a), (1, .int t), (2, .int r)] [] from ?_)
  refine g_aload_n hC dX3_countSwitch_0 0 rfl ?_
  refine g_dup hC dX3_countSwitch_1 rfl ?_
  refine g_get hC (kf := 2) (TT := TX3) (N := 7) (Cn := RX3) dX3_countSwitch_2 hL_a h0 rfl q_u3 (by decide) q_fl_X3_17 rfl rfl ?_
  refine g_iconst hC 1 dX3_countSwitch_5 (by decide) ?_
  refine g_iadd hC dX3_countSwitch_6 ?_
  refine g_put hC (kf := 2) (TT := TX3) (N := 7) (Cn := RX3) (ty0 := tyX3) (fs1 := [.double le, .int rl, .int (sw + 1), .int lr, .double mn, .double mx, .int pe]) dX3_countSwitch_7 hL_a h0 rfl q_u3 (by decide) tyX3_ok nmX3 q_fl_X3_17 rfl rfl rfl rfl rfl (Nat.le_of_ble_eq_true rfl) rfl ?_
  refine g_nm (fun f1 hf2 => ?_)
  have h0_n : f1 a = .inr (3, [.double le, .int rl, .int (sw + 1), .int lr, .double mn, .double mx, .int pe]) := by rw [hf2]; exact va_up_self _ _ _
  have hF3 : f1 = va_up f a (.inr (3, [.double le, .int rl, .int (sw + 1), .int lr, .double mn, .double mx, .int pe])) := hf2
  refine g_iload_n hC dX3_countSwitch_10 2 rfl ?_
  refine g_iconst hC 1 dX3_countSwitch_11 (by decide) ?_
  refine g_icmp_ne hC 41 dX3_countSwitch_12 (by decide) (fun c4 => ?_) (fun c4 => ?_)
  · skip
    exact g_vret hC dX3_countSwitch_41 rfl ⟨rfl, rfl, by rw [hF3]; simp [c4]⟩ (Nat.zero_le _) (Nat.zero_le _)
  · skip
    refine g_aload_n hC dX3_countSwitch_15 0 rfl ?_
    refine g_aload_n hC dX3_countSwitch_16 0 rfl ?_
    refine g_get hC (kf := 3) (TT := TX3) (N := 7) (Cn := RX3) dX3_countSwitch_17 hL_a h0_n rfl q_u3 (by decide) q_fl_X3_20 rfl rfl ?_
    refine g_if_ne hC 27 dX3_countSwitch_20 (by decide) (fun c5 => ?_) (fun c5 => ?_)
    · skip
      refine g_iload_n hC dX3_countSwitch_27 1 rfl ?_
      refine g_aload_n hC dX3_countSwitch_28 0 rfl ?_
      refine g_get hC (kf := 3) (TT := TX3) (N := 7) (Cn := RX3) dX3_countSwitch_29 hL_a h0_n rfl q_u3 (by decide) q_fl_X3_20 rfl rfl ?_
      refine g_isub hC dX3_countSwitch_32 ?_
      refine g_put hC (kf := 6) (TT := TX3) (N := 7) (Cn := RX3) (ty0 := tyX3) (fs1 := [.double le, .int rl, .int (sw + 1), .int lr, .double mn, .double mx, .int (t - lr)]) dX3_countSwitch_33 hL_a h0_n rfl q_u3 (by decide) tyX3_ok nmX3 q_fl_X3_23 rfl rfl rfl rfl rfl (Nat.le_of_ble_eq_true rfl) rfl ?_
      refine g_nm (fun f6 hf7 => ?_)
      have h0_n_n : f6 a = .inr (3, [.double le, .int rl, .int (sw + 1), .int lr, .double mn, .double mx, .int (t - lr)]) := by rw [hf7]; exact va_up_self _ _ _
      have hF8 : f6 = va_up f a (.inr (3, [.double le, .int rl, .int (sw + 1), .int lr, .double mn, .double mx, .int (t - lr)])) := by rw [hf7, hF3, va_up_up]
      refine g_aload_n hC dX3_countSwitch_36 0 rfl ?_
      refine g_iload_n hC dX3_countSwitch_37 1 rfl ?_
      refine g_put hC (kf := 3) (TT := TX3) (N := 7) (Cn := RX3) (ty0 := tyX3) (fs1 := [.double le, .int rl, .int (sw + 1), .int t, .double mn, .double mx, .int (t - lr)]) dX3_countSwitch_38 hL_a h0_n_n rfl q_u3 (by decide) tyX3_ok nmX3 q_fl_X3_20 rfl rfl rfl rfl rfl (Nat.le_of_ble_eq_true rfl) rfl ?_
      refine g_nm (fun f9 hf10 => ?_)
      have h0_n_n_n : f9 a = .inr (3, [.double le, .int rl, .int (sw + 1), .int t, .double mn, .double mx, .int (t - lr)]) := by rw [hf10]; exact va_up_self _ _ _
      have hF11 : f9 = va_up f a (.inr (3, [.double le, .int rl, .int (sw + 1), .int t, .double mn, .double mx, .int (t - lr)])) := by rw [hf10, hF8, va_up_up]
      exact g_vret hC dX3_countSwitch_41 rfl ⟨rfl, rfl, by rw [hF11]; simp [c4, c5]⟩ (Nat.zero_le _) (Nat.zero_le _)
    · skip
      refine g_iconst hC 0 dX3_countSwitch_23 (by decide) ?_
      refine g_goto hC 33 dX3_countSwitch_24 (by decide) ?_
      refine g_put hC (kf := 6) (TT := TX3) (N := 7) (Cn := RX3) (ty0 := tyX3) (fs1 := [.double le, .int rl, .int (sw + 1), .int lr, .double mn, .double mx, .int 0]) dX3_countSwitch_33 hL_a h0_n rfl q_u3 (by decide) tyX3_ok nmX3 q_fl_X3_23 rfl rfl rfl rfl rfl (Nat.le_of_ble_eq_true rfl) rfl ?_
      refine g_nm (fun f12 hf13 => ?_)
      have h0_n_n : f12 a = .inr (3, [.double le, .int rl, .int (sw + 1), .int lr, .double mn, .double mx, .int 0]) := by rw [hf13]; exact va_up_self _ _ _
      have hF14 : f12 = va_up f a (.inr (3, [.double le, .int rl, .int (sw + 1), .int lr, .double mn, .double mx, .int 0])) := by rw [hf13, hF3, va_up_up]
      refine g_aload_n hC dX3_countSwitch_36 0 rfl ?_
      refine g_iload_n hC dX3_countSwitch_37 1 rfl ?_
      refine g_put hC (kf := 3) (TT := TX3) (N := 7) (Cn := RX3) (ty0 := tyX3) (fs1 := [.double le, .int rl, .int (sw + 1), .int t, .double mn, .double mx, .int 0]) dX3_countSwitch_38 hL_a h0_n_n rfl q_u3 (by decide) tyX3_ok nmX3 q_fl_X3_20 rfl rfl rfl rfl rfl (Nat.le_of_ble_eq_true rfl) rfl ?_
      refine g_nm (fun f15 hf16 => ?_)
      have h0_n_n_n : f15 a = .inr (3, [.double le, .int rl, .int (sw + 1), .int t, .double mn, .double mx, .int 0]) := by rw [hf16]; exact va_up_self _ _ _
      have hF17 : f15 = va_up f a (.inr (3, [.double le, .int rl, .int (sw + 1), .int t, .double mn, .double mx, .int 0])) := by rw [hf16, hF14, va_up_up]
      exact g_vret hC dX3_countSwitch_41 rfl ⟨rfl, rfl, by rw [hF17]; simp [c4, c5]⟩ (Nat.zero_le _) (Nat.zero_le _)
set_option maxHeartbeats 4000000 in
set_option maxRecDepth 100000 in
/-- keepLevel(isFirst) -/
theorem ct_X3_keepLevel (l : Launch) (G : GD) (L : List Nat) (f : Nat → va_E) (a : Nat) (le : UInt64) (rl sw lr : Int32) (mn mx : UInt64) (pe : Int32) (b : Bool) (hL_a : a ∈ L) (h0 : f a = eTn le rl sw lr mn mx pe) : Ctr l yX3_keepLevel cX3_keepLevel 2 none R00 G [.ref a, .int (bI b)] L f (fun vv L1 f1 => vv = none ∧ L = L1 ∧ f1 = va_up f a (eTn le rl sw lr (if (b || qlt (dv le) (dv mn)) = true then le else mn) (if (b || qgt (dv le) (dv mx)) = true then le else mx) pe)) := by
  refine g_enter RX3 false (by decide) rfl (fun h => by cases h) (Nat.le_of_ble_eq_true rfl) (fun C hC => ?_)
  refine (show V C 2 L f 0 0 0 [(0, .ref a), (1, .int (bI b))] [] from ?_)
  refine g_aload_n hC dX3_keepLevel_0 0 rfl ?_
  refine g_iload_n hC dX3_keepLevel_1 1 rfl ?_
  refine g_ifB_ne hC 17 dX3_keepLevel_2 (by decide) (fun c1 => ?_) (fun c1 => ?_)
  · skip
    refine g_aload_n hC dX3_keepLevel_17 0 rfl ?_
    refine g_get hC (kf := 0) (TT := TX3) (N := 7) (Cn := RX3) dX3_keepLevel_18 hL_a h0 rfl q_u3 (by decide) q_fl_X3_7 rfl rfl ?_
    refine g_goto hC 28 dX3_keepLevel_21 (by decide) ?_
    refine g_put hC (kf := 4) (TT := TX3) (N := 7) (Cn := RX3) (ty0 := tyX3) (fs1 := [.double le, .int rl, .int sw, .int lr, .double le, .double mx, .int pe]) dX3_keepLevel_28 hL_a h0 rfl q_u3 (by decide) tyX3_ok nmX3 q_fl_X3_42 rfl rfl rfl rfl rfl (Nat.le_of_ble_eq_true rfl) rfl ?_
    refine g_nm (fun f2 hf3 => ?_)
    have h0_n : f2 a = .inr (3, [.double le, .int rl, .int sw, .int lr, .double le, .double mx, .int pe]) := by rw [hf3]; exact va_up_self _ _ _
    have hF4 : f2 = va_up f a (.inr (3, [.double le, .int rl, .int sw, .int lr, .double le, .double mx, .int pe])) := hf3
    refine g_aload_n hC dX3_keepLevel_31 0 rfl ?_
    refine g_iload_n hC dX3_keepLevel_32 1 rfl ?_
    refine g_ifB_ne hC 48 dX3_keepLevel_33 (by decide) (fun _ => ?_) (fun c => absurd (c.symm.trans c1) (by decide))
    refine g_aload_n hC dX3_keepLevel_48 0 rfl ?_
    refine g_get hC (kf := 0) (TT := TX3) (N := 7) (Cn := RX3) dX3_keepLevel_49 hL_a h0_n rfl q_u3 (by decide) q_fl_X3_7 rfl rfl ?_
    refine g_goto hC 59 dX3_keepLevel_52 (by decide) ?_
    refine g_put hC (kf := 5) (TT := TX3) (N := 7) (Cn := RX3) (ty0 := tyX3) (fs1 := [.double le, .int rl, .int sw, .int lr, .double le, .double le, .int pe]) dX3_keepLevel_59 hL_a h0_n rfl q_u3 (by decide) tyX3_ok nmX3 q_fl_X3_45 rfl rfl rfl rfl rfl (Nat.le_of_ble_eq_true rfl) rfl ?_
    refine g_nm (fun f6 hf7 => ?_)
    have h0_n_n : f6 a = .inr (3, [.double le, .int rl, .int sw, .int lr, .double le, .double le, .int pe]) := by rw [hf7]; exact va_up_self _ _ _
    have hF8 : f6 = va_up f a (.inr (3, [.double le, .int rl, .int sw, .int lr, .double le, .double le, .int pe])) := by rw [hf7, hF4, va_up_up]
    exact g_vret hC dX3_keepLevel_62 rfl ⟨rfl, rfl, by rw [hF8]; simp [c1]⟩ (Nat.zero_le _) (Nat.zero_le _)
  · skip
    refine g_aload_n hC dX3_keepLevel_5 0 rfl ?_
    refine g_get hC (kf := 0) (TT := TX3) (N := 7) (Cn := RX3) dX3_keepLevel_6 hL_a h0 rfl q_u3 (by decide) q_fl_X3_7 rfl rfl ?_
    refine g_aload_n hC dX3_keepLevel_9 0 rfl ?_
    refine g_get hC (kf := 4) (TT := TX3) (N := 7) (Cn := RX3) dX3_keepLevel_10 hL_a h0 rfl q_u3 (by decide) q_fl_X3_42 rfl rfl ?_
    refine g_dcmpg_ge hC 24 dX3_keepLevel_13 dX3_keepLevel_14 (by decide) (fun c9 => ?_) (fun c9 => ?_)
    · skip
      refine g_aload_n hC dX3_keepLevel_24 0 rfl ?_
      refine g_get hC (kf := 4) (TT := TX3) (N := 7) (Cn := RX3) dX3_keepLevel_25 hL_a h0 rfl q_u3 (by decide) q_fl_X3_42 rfl rfl ?_
      refine g_put hC (kf := 4) (TT := TX3) (N := 7) (Cn := RX3) (ty0 := tyX3) (fs1 := [.double le, .int rl, .int sw, .int lr, .double mn, .double mx, .int pe]) dX3_keepLevel_28 hL_a h0 rfl q_u3 (by decide) tyX3_ok nmX3 q_fl_X3_42 rfl rfl rfl rfl rfl (Nat.le_of_ble_eq_true rfl) rfl ?_
      refine g_nm (fun f10 hf11 => ?_)
      have h0_n : f10 a = .inr (3, [.double le, .int rl, .int sw, .int lr, .double mn, .double mx, .int pe]) := by rw [hf11]; exact va_up_self _ _ _
      have hF12 : f10 = va_up f a (.inr (3, [.double le, .int rl, .int sw, .int lr, .double mn, .double mx, .int pe])) := hf11
      refine g_aload_n hC dX3_keepLevel_31 0 rfl ?_
      refine g_iload_n hC dX3_keepLevel_32 1 rfl ?_
      refine g_ifB_ne hC 48 dX3_keepLevel_33 (by decide) (fun c => absurd (c.symm.trans c1) (by decide)) (fun _ => ?_)
      refine g_aload_n hC dX3_keepLevel_36 0 rfl ?_
      refine g_get hC (kf := 0) (TT := TX3) (N := 7) (Cn := RX3) dX3_keepLevel_37 hL_a h0_n rfl q_u3 (by decide) q_fl_X3_7 rfl rfl ?_
      refine g_aload_n hC dX3_keepLevel_40 0 rfl ?_
      refine g_get hC (kf := 5) (TT := TX3) (N := 7) (Cn := RX3) dX3_keepLevel_41 hL_a h0_n rfl q_u3 (by decide) q_fl_X3_45 rfl rfl ?_
      refine g_dcmpl_le hC 55 dX3_keepLevel_44 dX3_keepLevel_45 (by decide) (fun c14 => ?_) (fun c14 => ?_)
      · skip
        refine g_aload_n hC dX3_keepLevel_55 0 rfl ?_
        refine g_get hC (kf := 5) (TT := TX3) (N := 7) (Cn := RX3) dX3_keepLevel_56 hL_a h0_n rfl q_u3 (by decide) q_fl_X3_45 rfl rfl ?_
        refine g_put hC (kf := 5) (TT := TX3) (N := 7) (Cn := RX3) (ty0 := tyX3) (fs1 := [.double le, .int rl, .int sw, .int lr, .double mn, .double mx, .int pe]) dX3_keepLevel_59 hL_a h0_n rfl q_u3 (by decide) tyX3_ok nmX3 q_fl_X3_45 rfl rfl rfl rfl rfl (Nat.le_of_ble_eq_true rfl) rfl ?_
        refine g_nm (fun f15 hf16 => ?_)
        have h0_n_n : f15 a = .inr (3, [.double le, .int rl, .int sw, .int lr, .double mn, .double mx, .int pe]) := by rw [hf16]; exact va_up_self _ _ _
        have hF17 : f15 = va_up f a (.inr (3, [.double le, .int rl, .int sw, .int lr, .double mn, .double mx, .int pe])) := by rw [hf16, hF12, va_up_up]
        exact g_vret hC dX3_keepLevel_62 rfl ⟨rfl, rfl, by rw [hF17]; simp [c1, c9, c14]⟩ (Nat.zero_le _) (Nat.zero_le _)
      · skip
        refine g_aload_n hC dX3_keepLevel_48 0 rfl ?_
        refine g_get hC (kf := 0) (TT := TX3) (N := 7) (Cn := RX3) dX3_keepLevel_49 hL_a h0_n rfl q_u3 (by decide) q_fl_X3_7 rfl rfl ?_
        refine g_goto hC 59 dX3_keepLevel_52 (by decide) ?_
        refine g_put hC (kf := 5) (TT := TX3) (N := 7) (Cn := RX3) (ty0 := tyX3) (fs1 := [.double le, .int rl, .int sw, .int lr, .double mn, .double le, .int pe]) dX3_keepLevel_59 hL_a h0_n rfl q_u3 (by decide) tyX3_ok nmX3 q_fl_X3_45 rfl rfl rfl rfl rfl (Nat.le_of_ble_eq_true rfl) rfl ?_
        refine g_nm (fun f18 hf19 => ?_)
        have h0_n_n : f18 a = .inr (3, [.double le, .int rl, .int sw, .int lr, .double mn, .double le, .int pe]) := by rw [hf19]; exact va_up_self _ _ _
        have hF20 : f18 = va_up f a (.inr (3, [.double le, .int rl, .int sw, .int lr, .double mn, .double le, .int pe])) := by rw [hf19, hF12, va_up_up]
        exact g_vret hC dX3_keepLevel_62 rfl ⟨rfl, rfl, by rw [hF20]; simp [c1, c9, c14]⟩ (Nat.zero_le _) (Nat.zero_le _)
    · skip
      refine g_aload_n hC dX3_keepLevel_17 0 rfl ?_
      refine g_get hC (kf := 0) (TT := TX3) (N := 7) (Cn := RX3) dX3_keepLevel_18 hL_a h0 rfl q_u3 (by decide) q_fl_X3_7 rfl rfl ?_
      refine g_goto hC 28 dX3_keepLevel_21 (by decide) ?_
      refine g_put hC (kf := 4) (TT := TX3) (N := 7) (Cn := RX3) (ty0 := tyX3) (fs1 := [.double le, .int rl, .int sw, .int lr, .double le, .double mx, .int pe]) dX3_keepLevel_28 hL_a h0 rfl q_u3 (by decide) tyX3_ok nmX3 q_fl_X3_42 rfl rfl rfl rfl rfl (Nat.le_of_ble_eq_true rfl) rfl ?_
      refine g_nm (fun f21 hf22 => ?_)
      have h0_n : f21 a = .inr (3, [.double le, .int rl, .int sw, .int lr, .double le, .double mx, .int pe]) := by rw [hf22]; exact va_up_self _ _ _
      have hF23 : f21 = va_up f a (.inr (3, [.double le, .int rl, .int sw, .int lr, .double le, .double mx, .int pe])) := hf22
      refine g_aload_n hC dX3_keepLevel_31 0 rfl ?_
      refine g_iload_n hC dX3_keepLevel_32 1 rfl ?_
      refine g_ifB_ne hC 48 dX3_keepLevel_33 (by decide) (fun c => absurd (c.symm.trans c1) (by decide)) (fun _ => ?_)
      refine g_aload_n hC dX3_keepLevel_36 0 rfl ?_
      refine g_get hC (kf := 0) (TT := TX3) (N := 7) (Cn := RX3) dX3_keepLevel_37 hL_a h0_n rfl q_u3 (by decide) q_fl_X3_7 rfl rfl ?_
      refine g_aload_n hC dX3_keepLevel_40 0 rfl ?_
      refine g_get hC (kf := 5) (TT := TX3) (N := 7) (Cn := RX3) dX3_keepLevel_41 hL_a h0_n rfl q_u3 (by decide) q_fl_X3_45 rfl rfl ?_
      refine g_dcmpl_le hC 55 dX3_keepLevel_44 dX3_keepLevel_45 (by decide) (fun c25 => ?_) (fun c25 => ?_)
      · skip
        refine g_aload_n hC dX3_keepLevel_55 0 rfl ?_
        refine g_get hC (kf := 5) (TT := TX3) (N := 7) (Cn := RX3) dX3_keepLevel_56 hL_a h0_n rfl q_u3 (by decide) q_fl_X3_45 rfl rfl ?_
        refine g_put hC (kf := 5) (TT := TX3) (N := 7) (Cn := RX3) (ty0 := tyX3) (fs1 := [.double le, .int rl, .int sw, .int lr, .double le, .double mx, .int pe]) dX3_keepLevel_59 hL_a h0_n rfl q_u3 (by decide) tyX3_ok nmX3 q_fl_X3_45 rfl rfl rfl rfl rfl (Nat.le_of_ble_eq_true rfl) rfl ?_
        refine g_nm (fun f26 hf27 => ?_)
        have h0_n_n : f26 a = .inr (3, [.double le, .int rl, .int sw, .int lr, .double le, .double mx, .int pe]) := by rw [hf27]; exact va_up_self _ _ _
        have hF28 : f26 = va_up f a (.inr (3, [.double le, .int rl, .int sw, .int lr, .double le, .double mx, .int pe])) := by rw [hf27, hF23, va_up_up]
        exact g_vret hC dX3_keepLevel_62 rfl ⟨rfl, rfl, by rw [hF28]; simp [c1, c9, c25]⟩ (Nat.zero_le _) (Nat.zero_le _)
      · skip
        refine g_aload_n hC dX3_keepLevel_48 0 rfl ?_
        refine g_get hC (kf := 0) (TT := TX3) (N := 7) (Cn := RX3) dX3_keepLevel_49 hL_a h0_n rfl q_u3 (by decide) q_fl_X3_7 rfl rfl ?_
        refine g_goto hC 59 dX3_keepLevel_52 (by decide) ?_
        refine g_put hC (kf := 5) (TT := TX3) (N := 7) (Cn := RX3) (ty0 := tyX3) (fs1 := [.double le, .int rl, .int sw, .int lr, .double le, .double le, .int pe]) dX3_keepLevel_59 hL_a h0_n rfl q_u3 (by decide) tyX3_ok nmX3 q_fl_X3_45 rfl rfl rfl rfl rfl (Nat.le_of_ble_eq_true rfl) rfl ?_
        refine g_nm (fun f29 hf30 => ?_)
        have h0_n_n : f29 a = .inr (3, [.double le, .int rl, .int sw, .int lr, .double le, .double le, .int pe]) := by rw [hf30]; exact va_up_self _ _ _
        have hF31 : f29 = va_up f a (.inr (3, [.double le, .int rl, .int sw, .int lr, .double le, .double le, .int pe])) := by rw [hf30, hF23, va_up_up]
        exact g_vret hC dX3_keepLevel_62 rfl ⟨rfl, rfl, by rw [hF31]; simp [c1, c9, c25]⟩ (Nat.zero_le _) (Nat.zero_le _)
theorem d01 : ((0 : Int32) = 1) = False := by decide
theorem d11 : ((1 : Int32) = 1) = True := by decide
theorem ite_dv {c : Prop} [Decidable c] {x y : UInt64} : dv (if c then x else y) = if c then dv x else dv y := by split <;> rfl
set_option maxHeartbeats 4000000 in
set_option maxRecDepth 100000 in
/-- step(second) -/
theorem ct_X3_step (l : Launch) (G : GD) (L : List Nat) (f : Nat → va_E) (a : Nat) (le : UInt64) (rl sw lr : Int32) (mn mx : UInt64) (pe : Int32) (t : Int32) (hL_a : a ∈ L) (h0 : f a = eTn le rl sw lr mn mx pe) : Ctr l yX3_step cX3_step 5 none { frames := 1, cells := 0, slots := 0, locals := 22 } G [.ref a, .int t] L f (fun vv L1 f1 => vv = none ∧ L = L1 ∧ ∃ (le1 : UInt64) (rl1 sw1 lr1 : Int32) (mn1 mx1 : UInt64) (pe1 : Int32), (dv le1, rl1, sw1, lr1, dv mn1, dv mx1, pe1) = tStep t (dv le, rl, sw, lr, dv mn, dv mx, pe) ∧ f1 = va_up f a (eTn le1 rl1 sw1 lr1 mn1 mx1 pe1)) := by
  refine g_enter RX3 false (by decide) rfl (fun h => by cases h) (Nat.le_of_ble_eq_true rfl) (fun C hC => ?_)
  refine (show V C 5 L f 0 0 0 [(0, .ref a), (1, .int t)] [] from ?_)
  refine g_aload_n hC dX3_step_0 0 rfl ?_
  refine g_get hC (kf := 0) (TT := TX3) (N := 7) (Cn := RX3) dX3_step_1 hL_a h0 rfl q_u3 (by decide) q_fl_X3_7 rfl rfl ?_
  refine g_ldc2 hC dX3_step_4 q_cd_X3_30 ?_
  refine g_dcmpg_ge hC 15 dX3_step_7 dX3_step_8 (by decide) (fun c1 => ?_) (fun c1 => ?_)
  · skip
    refine g_iconst hC 0 dX3_step_15 (by decide) ?_
    refine g_istore_n hC (lv1 := [(2, .int 0), (0, .ref a), (1, .int t)]) dX3_step_16 (by decide) rfl ?_
    refine g_iload_n hC dX3_step_17 2 rfl ?_
    refine g_if_le hC 35 dX3_step_18 (by decide) (fun c2 => ?_) (fun c2 => ?_)
    · skip
      refine g_iconst hC 0 dX3_step_35 (by decide) ?_
      refine g_istore_n hC (lv1 := [(3, .int 0), (2, .int 0), (0, .ref a), (1, .int t)]) dX3_step_36 (by decide) rfl ?_
      refine g_iload_n hC dX3_step_37 0 rfl ?_
      refine g_if_eq hC 47 dX3_step_38 (by decide) (fun _ => ?_) (fun c => absurd c (by decide))
      refine g_aload_n hC dX3_step_47 2 rfl ?_
      refine g_get hC (kf := 1) (TT := TX3) (N := 7) (Cn := RX3) dX3_step_48 hL_a h0 rfl q_u3 (by decide) q_fl_X3_13 rfl rfl ?_
      refine g_iconst hC 3 dX3_step_51 (by decide) ?_
      refine g_ishr hC dX3_step_52 ?_
      refine g_iconst hC 1 dX3_step_53 (by decide) ?_
      refine g_iand hC dX3_step_54 ?_
      refine g_istore hC (lv1 := [(4, .int ((rl >>> (3 &&& 31)) &&& 1)), (3, .int 0), (2, .int 0), (0, .ref a), (1, .int t)]) dX3_step_55 (by decide) rfl ?_
      refine g_aload_n hC dX3_step_57 3 rfl ?_
      refine g_aload_n hC dX3_step_58 3 rfl ?_
      refine g_get hC (kf := 1) (TT := TX3) (N := 7) (Cn := RX3) dX3_step_59 hL_a h0 rfl q_u3 (by decide) q_fl_X3_13 rfl rfl ?_
      refine g_iconst hC 1 dX3_step_62 (by decide) ?_
      refine g_ishl hC dX3_step_63 ?_
      refine g_iload_n hC dX3_step_64 2 rfl ?_
      refine g_ior hC dX3_step_65 ?_
      refine g_bipush hC 15 dX3_step_66 (by decide) ?_
      refine g_iand hC dX3_step_68 ?_
      refine g_put hC (kf := 1) (TT := TX3) (N := 7) (Cn := RX3) (ty0 := tyX3) (fs1 := [.double le, .int (((rl <<< (1 &&& 31)) ||| 0) &&& 15), .int sw, .int lr, .double mn, .double mx, .int pe]) dX3_step_69 hL_a h0 rfl q_u3 (by decide) tyX3_ok nmX3 q_fl_X3_13 rfl rfl rfl rfl rfl (Nat.le_of_ble_eq_true rfl) rfl ?_
      refine g_nm (fun f3 hf4 => ?_)
      have h0_n : f3 a = .inr (3, [.double le, .int (((rl <<< (1 &&& 31)) ||| 0) &&& 15), .int sw, .int lr, .double mn, .double mx, .int pe]) := by rw [hf4]; exact va_up_self _ _ _
      have hF5 : f3 = va_up f a (.inr (3, [.double le, .int (((rl <<< (1 &&& 31)) ||| 0) &&& 15), .int sw, .int lr, .double mn, .double mx, .int pe])) := hf4
      refine g_aload_n hC dX3_step_72 3 rfl ?_
      refine g_aload_n hC dX3_step_73 3 rfl ?_
      refine g_get hC (kf := 0) (TT := TX3) (N := 7) (Cn := RX3) dX3_step_74 hL_a h0_n rfl q_u3 (by decide) q_fl_X3_7 rfl rfl ?_
      refine g_iload hC dX3_step_77 0 rfl ?_
      refine g_i2d hC dX3_step_79 ?_
      refine g_aload_n hC dX3_step_80 3 rfl ?_
      refine g_get hC (kf := 0) (TT := TX3) (N := 7) (Cn := RX3) dX3_step_81 hL_a h0_n rfl q_u3 (by decide) q_fl_X3_7 rfl rfl ?_
      refine g_dsub hC dX3_step_84 (fun r6 er6 => ?_)
      refine g_ldc2 hC dX3_step_85 q_cd_X3_36 ?_
      refine g_dmul hC dX3_step_88 (fun r7 er7 => ?_)
      try simp only [er6] at er7
      refine g_dadd hC dX3_step_89 (fun r8 er8 => ?_)
      try simp only [er6, er7] at er8
      refine g_put hC (kf := 0) (TT := TX3) (N := 7) (Cn := RX3) (ty0 := tyX3) (fs1 := [.double r8, .int (((rl <<< (1 &&& 31)) ||| 0) &&& 15), .int sw, .int lr, .double mn, .double mx, .int pe]) dX3_step_90 hL_a h0_n rfl q_u3 (by decide) tyX3_ok nmX3 q_fl_X3_7 rfl rfl rfl rfl rfl (Nat.le_of_ble_eq_true rfl) rfl ?_
      refine g_nm (fun f9 hf10 => ?_)
      have h0_n_n : f9 a = .inr (3, [.double r8, .int (((rl <<< (1 &&& 31)) ||| 0) &&& 15), .int sw, .int lr, .double mn, .double mx, .int pe]) := by rw [hf10]; exact va_up_self _ _ _
      have hF11 : f9 = va_up f a (.inr (3, [.double r8, .int (((rl <<< (1 &&& 31)) ||| 0) &&& 15), .int sw, .int lr, .double mn, .double mx, .int pe])) := by rw [hf10, hF5, va_up_up]
      refine g_aload_n hC dX3_step_93 3 rfl ?_
      refine g_get hC (kf := 2) (TT := TX3) (N := 7) (Cn := RX3) dX3_step_94 hL_a h0_n_n rfl q_u3 (by decide) q_fl_X3_17 rfl rfl ?_
      refine g_if_le hC 121 dX3_step_97 (by decide) (fun c12 => ?_) (fun c12 => ?_)
      · skip
        refine g_vret hC dX3_step_121 rfl ⟨rfl, rfl, r8, (((rl <<< (1 &&& 31)) ||| 0) &&& 15), sw, lr, mn, mx, pe, ?_, hF11⟩ (Nat.zero_le _) (Nat.zero_le _)
        simp only [tStep, tLe, tRl, tSw, tLr, tMn, tMx, tPe, tRise, tFi, tIs, tRel, ite_dv, decide_true, decide_false, Bool.and_true, Bool.true_and, Bool.and_false, Bool.false_and, Bool.not_true, Bool.not_false, Bool.false_or, Bool.true_or, Bool.false_eq_true, if_true, if_false, d01, d11, c1, eq_true c2, eq_true c12, er6, er7, er8]
      · skip
        refine g_aload_n hC dX3_step_100 3 rfl ?_
        refine g_iload_n hC dX3_step_101 1 rfl ?_
        refine g_if_eq hC 117 dX3_step_102 (by decide) (fun _ => ?_) (fun c => absurd c (by decide))
        refine g_iconst hC 0 dX3_step_117 (by decide) ?_
        refine g_callV hC (Cn := RX3) (TT := TX3) (N := 7) dX3_step_118 (ct_X3_keepLevel l G L f9 a r8 (((rl <<< (1 &&& 31)) ||| 0) &&& 15) sw lr mn mx pe false hL_a h0_n_n) q_code_X3_keepLevel q_ml_X3_38 q_im_X3_keepLevel q_sel_X3_keepLevel q_init_X3 ⟨rfl, by decide, by decide, (show (parseMethodDescriptor yX3_keepLevel.desc).map (fun d => d.parameters.length) = some 1 from by decide +kernel)⟩ hL_a h0_n_n rfl (by decide) (by decide) (Nat.le_of_ble_eq_true rfl) (fun v14 L15 f16 hp13 => ?_)
        obtain ⟨rfl, rfl, hf17⟩ := hp13
        have h0_n_n_n : f16 a = .inr (3, [.double r8, .int (((rl <<< (1 &&& 31)) ||| 0) &&& 15), .int sw, .int lr, .double (if (false || qlt (dv r8) (dv mn)) = true then r8 else mn), .double (if (false || qgt (dv r8) (dv mx)) = true then r8 else mx), .int pe]) := by rw [hf17]; exact va_up_self _ _ _
        have hF18 : f16 = va_up f a (.inr (3, [.double r8, .int (((rl <<< (1 &&& 31)) ||| 0) &&& 15), .int sw, .int lr, .double (if (false || qlt (dv r8) (dv mn)) = true then r8 else mn), .double (if (false || qgt (dv r8) (dv mx)) = true then r8 else mx), .int pe])) := by rw [hf17, hF11, va_up_up]
        refine (show V C 5 L f16 0 0 121 [(4, .int ((rl >>> (3 &&& 31)) &&& 1)), (3, .int 0), (2, .int 0), (0, .ref a), (1, .int t)] [] from ?_)
        refine g_vret hC dX3_step_121 rfl ⟨rfl, rfl, r8, (((rl <<< (1 &&& 31)) ||| 0) &&& 15), sw, lr, (if (false || qlt (dv r8) (dv mn)) = true then r8 else mn), (if (false || qgt (dv r8) (dv mx)) = true then r8 else mx), pe, ?_, hF18⟩ (Nat.zero_le _) (Nat.zero_le _)
        simp only [tStep, tLe, tRl, tSw, tLr, tMn, tMx, tPe, tRise, tFi, tIs, tRel, ite_dv, decide_true, decide_false, Bool.and_true, Bool.true_and, Bool.and_false, Bool.false_and, Bool.not_true, Bool.not_false, Bool.false_or, Bool.true_or, Bool.false_eq_true, if_true, if_false, d01, d11, c1, eq_true c2, eq_false c12, er6, er7, er8]
    · skip
      refine g_iload_n hC dX3_step_21 0 rfl ?_
      refine g_aload_n hC dX3_step_22 1 rfl ?_
      refine g_get hC (kf := 1) (TT := TX3) (N := 7) (Cn := RX3) dX3_step_23 hL_a h0 rfl q_u3 (by decide) q_fl_X3_13 rfl rfl ?_
      refine g_iconst hC 1 dX3_step_26 (by decide) ?_
      refine g_iand hC dX3_step_27 ?_
      refine g_icmp_eq hC 35 dX3_step_28 (by decide) (fun c19 => ?_) (fun c19 => ?_)
      · skip
        refine g_iconst hC 0 dX3_step_35 (by decide) ?_
        refine g_istore_n hC (lv1 := [(3, .int 0), (2, .int 0), (0, .ref a), (1, .int t)]) dX3_step_36 (by decide) rfl ?_
        refine g_iload_n hC dX3_step_37 0 rfl ?_
        refine g_if_eq hC 47 dX3_step_38 (by decide) (fun _ => ?_) (fun c => absurd c (by decide))
        refine g_aload_n hC dX3_step_47 2 rfl ?_
        refine g_get hC (kf := 1) (TT := TX3) (N := 7) (Cn := RX3) dX3_step_48 hL_a h0 rfl q_u3 (by decide) q_fl_X3_13 rfl rfl ?_
        refine g_iconst hC 3 dX3_step_51 (by decide) ?_
        refine g_ishr hC dX3_step_52 ?_
        refine g_iconst hC 1 dX3_step_53 (by decide) ?_
        refine g_iand hC dX3_step_54 ?_
        refine g_istore hC (lv1 := [(4, .int ((rl >>> (3 &&& 31)) &&& 1)), (3, .int 0), (2, .int 0), (0, .ref a), (1, .int t)]) dX3_step_55 (by decide) rfl ?_
        refine g_aload_n hC dX3_step_57 3 rfl ?_
        refine g_aload_n hC dX3_step_58 3 rfl ?_
        refine g_get hC (kf := 1) (TT := TX3) (N := 7) (Cn := RX3) dX3_step_59 hL_a h0 rfl q_u3 (by decide) q_fl_X3_13 rfl rfl ?_
        refine g_iconst hC 1 dX3_step_62 (by decide) ?_
        refine g_ishl hC dX3_step_63 ?_
        refine g_iload_n hC dX3_step_64 2 rfl ?_
        refine g_ior hC dX3_step_65 ?_
        refine g_bipush hC 15 dX3_step_66 (by decide) ?_
        refine g_iand hC dX3_step_68 ?_
        refine g_put hC (kf := 1) (TT := TX3) (N := 7) (Cn := RX3) (ty0 := tyX3) (fs1 := [.double le, .int (((rl <<< (1 &&& 31)) ||| 0) &&& 15), .int sw, .int lr, .double mn, .double mx, .int pe]) dX3_step_69 hL_a h0 rfl q_u3 (by decide) tyX3_ok nmX3 q_fl_X3_13 rfl rfl rfl rfl rfl (Nat.le_of_ble_eq_true rfl) rfl ?_
        refine g_nm (fun f20 hf21 => ?_)
        have h0_n : f20 a = .inr (3, [.double le, .int (((rl <<< (1 &&& 31)) ||| 0) &&& 15), .int sw, .int lr, .double mn, .double mx, .int pe]) := by rw [hf21]; exact va_up_self _ _ _
        have hF22 : f20 = va_up f a (.inr (3, [.double le, .int (((rl <<< (1 &&& 31)) ||| 0) &&& 15), .int sw, .int lr, .double mn, .double mx, .int pe])) := hf21
        refine g_aload_n hC dX3_step_72 3 rfl ?_
        refine g_aload_n hC dX3_step_73 3 rfl ?_
        refine g_get hC (kf := 0) (TT := TX3) (N := 7) (Cn := RX3) dX3_step_74 hL_a h0_n rfl q_u3 (by decide) q_fl_X3_7 rfl rfl ?_
        refine g_iload hC dX3_step_77 0 rfl ?_
        refine g_i2d hC dX3_step_79 ?_
        refine g_aload_n hC dX3_step_80 3 rfl ?_
        refine g_get hC (kf := 0) (TT := TX3) (N := 7) (Cn := RX3) dX3_step_81 hL_a h0_n rfl q_u3 (by decide) q_fl_X3_7 rfl rfl ?_
        refine g_dsub hC dX3_step_84 (fun r23 er23 => ?_)
        refine g_ldc2 hC dX3_step_85 q_cd_X3_36 ?_
        refine g_dmul hC dX3_step_88 (fun r24 er24 => ?_)
        try simp only [er23] at er24
        refine g_dadd hC dX3_step_89 (fun r25 er25 => ?_)
        try simp only [er23, er24] at er25
        refine g_put hC (kf := 0) (TT := TX3) (N := 7) (Cn := RX3) (ty0 := tyX3) (fs1 := [.double r25, .int (((rl <<< (1 &&& 31)) ||| 0) &&& 15), .int sw, .int lr, .double mn, .double mx, .int pe]) dX3_step_90 hL_a h0_n rfl q_u3 (by decide) tyX3_ok nmX3 q_fl_X3_7 rfl rfl rfl rfl rfl (Nat.le_of_ble_eq_true rfl) rfl ?_
        refine g_nm (fun f26 hf27 => ?_)
        have h0_n_n : f26 a = .inr (3, [.double r25, .int (((rl <<< (1 &&& 31)) ||| 0) &&& 15), .int sw, .int lr, .double mn, .double mx, .int pe]) := by rw [hf27]; exact va_up_self _ _ _
        have hF28 : f26 = va_up f a (.inr (3, [.double r25, .int (((rl <<< (1 &&& 31)) ||| 0) &&& 15), .int sw, .int lr, .double mn, .double mx, .int pe])) := by rw [hf27, hF22, va_up_up]
        refine g_aload_n hC dX3_step_93 3 rfl ?_
        refine g_get hC (kf := 2) (TT := TX3) (N := 7) (Cn := RX3) dX3_step_94 hL_a h0_n_n rfl q_u3 (by decide) q_fl_X3_17 rfl rfl ?_
        refine g_if_le hC 121 dX3_step_97 (by decide) (fun c29 => ?_) (fun c29 => ?_)
        · skip
          refine g_vret hC dX3_step_121 rfl ⟨rfl, rfl, r25, (((rl <<< (1 &&& 31)) ||| 0) &&& 15), sw, lr, mn, mx, pe, ?_, hF28⟩ (Nat.zero_le _) (Nat.zero_le _)
          simp only [tStep, tLe, tRl, tSw, tLr, tMn, tMx, tPe, tRise, tFi, tIs, tRel, ite_dv, decide_true, decide_false, Bool.and_true, Bool.true_and, Bool.and_false, Bool.false_and, Bool.not_true, Bool.not_false, Bool.false_or, Bool.true_or, Bool.false_eq_true, if_true, if_false, d01, d11, c1, eq_false c2, eq_true c19, eq_true c29, er23, er24, er25]
        · skip
          refine g_aload_n hC dX3_step_100 3 rfl ?_
          refine g_iload_n hC dX3_step_101 1 rfl ?_
          refine g_if_eq hC 117 dX3_step_102 (by decide) (fun _ => ?_) (fun c => absurd c (by decide))
          refine g_iconst hC 0 dX3_step_117 (by decide) ?_
          refine g_callV hC (Cn := RX3) (TT := TX3) (N := 7) dX3_step_118 (ct_X3_keepLevel l G L f26 a r25 (((rl <<< (1 &&& 31)) ||| 0) &&& 15) sw lr mn mx pe false hL_a h0_n_n) q_code_X3_keepLevel q_ml_X3_38 q_im_X3_keepLevel q_sel_X3_keepLevel q_init_X3 ⟨rfl, by decide, by decide, (show (parseMethodDescriptor yX3_keepLevel.desc).map (fun d => d.parameters.length) = some 1 from by decide +kernel)⟩ hL_a h0_n_n rfl (by decide) (by decide) (Nat.le_of_ble_eq_true rfl) (fun v31 L32 f33 hp30 => ?_)
          obtain ⟨rfl, rfl, hf34⟩ := hp30
          have h0_n_n_n : f33 a = .inr (3, [.double r25, .int (((rl <<< (1 &&& 31)) ||| 0) &&& 15), .int sw, .int lr, .double (if (false || qlt (dv r25) (dv mn)) = true then r25 else mn), .double (if (false || qgt (dv r25) (dv mx)) = true then r25 else mx), .int pe]) := by rw [hf34]; exact va_up_self _ _ _
          have hF35 : f33 = va_up f a (.inr (3, [.double r25, .int (((rl <<< (1 &&& 31)) ||| 0) &&& 15), .int sw, .int lr, .double (if (false || qlt (dv r25) (dv mn)) = true then r25 else mn), .double (if (false || qgt (dv r25) (dv mx)) = true then r25 else mx), .int pe])) := by rw [hf34, hF28, va_up_up]
          refine (show V C 5 L f33 0 0 121 [(4, .int ((rl >>> (3 &&& 31)) &&& 1)), (3, .int 0), (2, .int 0), (0, .ref a), (1, .int t)] [] from ?_)
          refine g_vret hC dX3_step_121 rfl ⟨rfl, rfl, r25, (((rl <<< (1 &&& 31)) ||| 0) &&& 15), sw, lr, (if (false || qlt (dv r25) (dv mn)) = true then r25 else mn), (if (false || qgt (dv r25) (dv mx)) = true then r25 else mx), pe, ?_, hF35⟩ (Nat.zero_le _) (Nat.zero_le _)
          simp only [tStep, tLe, tRl, tSw, tLr, tMn, tMx, tPe, tRise, tFi, tIs, tRel, ite_dv, decide_true, decide_false, Bool.and_true, Bool.true_and, Bool.and_false, Bool.false_and, Bool.not_true, Bool.not_false, Bool.false_or, Bool.true_or, Bool.false_eq_true, if_true, if_false, d01, d11, c1, eq_false c2, eq_true c19, eq_false c29, er23, er24, er25]
      · skip
        refine g_iconst hC 1 dX3_step_31 (by decide) ?_
        refine g_goto hC 36 dX3_step_32 (by decide) ?_
        refine g_istore_n hC (lv1 := [(3, .int 1), (2, .int 0), (0, .ref a), (1, .int t)]) dX3_step_36 (by decide) rfl ?_
        refine g_iload_n hC dX3_step_37 0 rfl ?_
        refine g_if_eq hC 47 dX3_step_38 (by decide) (fun c => absurd c (by decide)) (fun _ => ?_)
        refine g_aload_n hC dX3_step_41 2 rfl ?_
        refine g_iload_n hC dX3_step_42 3 rfl ?_
        refine g_iload_n hC dX3_step_43 1 rfl ?_
        refine g_callV hC (Cn := RX3) (TT := TX3) (N := 7) dX3_step_44 (ct_X3_countSwitch l G L f a le rl sw lr mn mx pe t 0 hL_a h0) q_code_X3_countSwitch q_ml_X3_32 q_im_X3_countSwitch q_sel_X3_countSwitch q_init_X3 ⟨rfl, by decide, by decide, (show (parseMethodDescriptor yX3_countSwitch.desc).map (fun d => d.parameters.length) = some 2 from by decide +kernel)⟩ hL_a h0 rfl (by decide) (by decide) (Nat.le_of_ble_eq_true rfl) (fun v37 L38 f39 hp36 => ?_)
        obtain ⟨rfl, rfl, hf40⟩ := hp36
        simp only [if_true, (by decide : ((1 : Int32) = 1) = True), (by decide : ((0 : Int32) = 1) = False), if_false] at hf40
        have h0_n : f39 a = .inr (3, [.double le, .int rl, .int (sw + 1), .int lr, .double mn, .double mx, .int pe]) := by rw [hf40]; exact va_up_self _ _ _
        have hF41 : f39 = va_up f a (.inr (3, [.double le, .int rl, .int (sw + 1), .int lr, .double mn, .double mx, .int pe])) := hf40
        refine (show V C 5 L f39 0 0 47 [(3, .int 1), (2, .int 0), (0, .ref a), (1, .int t)] [] from ?_)
        refine g_aload_n hC dX3_step_47 2 rfl ?_
        refine g_get hC (kf := 1) (TT := TX3) (N := 7) (Cn := RX3) dX3_step_48 hL_a h0_n rfl q_u3 (by decide) q_fl_X3_13 rfl rfl ?_
        refine g_iconst hC 3 dX3_step_51 (by decide) ?_
        refine g_ishr hC dX3_step_52 ?_
        refine g_iconst hC 1 dX3_step_53 (by decide) ?_
        refine g_iand hC dX3_step_54 ?_
        refine g_istore hC (lv1 := [(4, .int ((rl >>> (3 &&& 31)) &&& 1)), (3, .int 1), (2, .int 0), (0, .ref a), (1, .int t)]) dX3_step_55 (by decide) rfl ?_
        refine g_aload_n hC dX3_step_57 3 rfl ?_
        refine g_aload_n hC dX3_step_58 3 rfl ?_
        refine g_get hC (kf := 1) (TT := TX3) (N := 7) (Cn := RX3) dX3_step_59 hL_a h0_n rfl q_u3 (by decide) q_fl_X3_13 rfl rfl ?_
        refine g_iconst hC 1 dX3_step_62 (by decide) ?_
        refine g_ishl hC dX3_step_63 ?_
        refine g_iload_n hC dX3_step_64 2 rfl ?_
        refine g_ior hC dX3_step_65 ?_
        refine g_bipush hC 15 dX3_step_66 (by decide) ?_
        refine g_iand hC dX3_step_68 ?_
        refine g_put hC (kf := 1) (TT := TX3) (N := 7) (Cn := RX3) (ty0 := tyX3) (fs1 := [.double le, .int (((rl <<< (1 &&& 31)) ||| 0) &&& 15), .int (sw + 1), .int lr, .double mn, .double mx, .int pe]) dX3_step_69 hL_a h0_n rfl q_u3 (by decide) tyX3_ok nmX3 q_fl_X3_13 rfl rfl rfl rfl rfl (Nat.le_of_ble_eq_true rfl) rfl ?_
        refine g_nm (fun f42 hf43 => ?_)
        have h0_n_n : f42 a = .inr (3, [.double le, .int (((rl <<< (1 &&& 31)) ||| 0) &&& 15), .int (sw + 1), .int lr, .double mn, .double mx, .int pe]) := by rw [hf43]; exact va_up_self _ _ _
        have hF44 : f42 = va_up f a (.inr (3, [.double le, .int (((rl <<< (1 &&& 31)) ||| 0) &&& 15), .int (sw + 1), .int lr, .double mn, .double mx, .int pe])) := by rw [hf43, hF41, va_up_up]
        refine g_aload_n hC dX3_step_72 3 rfl ?_
        refine g_aload_n hC dX3_step_73 3 rfl ?_
        refine g_get hC (kf := 0) (TT := TX3) (N := 7) (Cn := RX3) dX3_step_74 hL_a h0_n_n rfl q_u3 (by decide) q_fl_X3_7 rfl rfl ?_
        refine g_iload hC dX3_step_77 0 rfl ?_
        refine g_i2d hC dX3_step_79 ?_
        refine g_aload_n hC dX3_step_80 3 rfl ?_
        refine g_get hC (kf := 0) (TT := TX3) (N := 7) (Cn := RX3) dX3_step_81 hL_a h0_n_n rfl q_u3 (by decide) q_fl_X3_7 rfl rfl ?_
        refine g_dsub hC dX3_step_84 (fun r45 er45 => ?_)
        refine g_ldc2 hC dX3_step_85 q_cd_X3_36 ?_
        refine g_dmul hC dX3_step_88 (fun r46 er46 => ?_)
        try simp only [er45] at er46
        refine g_dadd hC dX3_step_89 (fun r47 er47 => ?_)
        try simp only [er45, er46] at er47
        refine g_put hC (kf := 0) (TT := TX3) (N := 7) (Cn := RX3) (ty0 := tyX3) (fs1 := [.double r47, .int (((rl <<< (1 &&& 31)) ||| 0) &&& 15), .int (sw + 1), .int lr, .double mn, .double mx, .int pe]) dX3_step_90 hL_a h0_n_n rfl q_u3 (by decide) tyX3_ok nmX3 q_fl_X3_7 rfl rfl rfl rfl rfl (Nat.le_of_ble_eq_true rfl) rfl ?_
        refine g_nm (fun f48 hf49 => ?_)
        have h0_n_n_n : f48 a = .inr (3, [.double r47, .int (((rl <<< (1 &&& 31)) ||| 0) &&& 15), .int (sw + 1), .int lr, .double mn, .double mx, .int pe]) := by rw [hf49]; exact va_up_self _ _ _
        have hF50 : f48 = va_up f a (.inr (3, [.double r47, .int (((rl <<< (1 &&& 31)) ||| 0) &&& 15), .int (sw + 1), .int lr, .double mn, .double mx, .int pe])) := by rw [hf49, hF44, va_up_up]
        refine g_aload_n hC dX3_step_93 3 rfl ?_
        refine g_get hC (kf := 2) (TT := TX3) (N := 7) (Cn := RX3) dX3_step_94 hL_a h0_n_n_n rfl q_u3 (by decide) q_fl_X3_17 rfl rfl ?_
        refine g_if_le hC 121 dX3_step_97 (by decide) (fun c51 => ?_) (fun c51 => ?_)
        · skip
          refine g_vret hC dX3_step_121 rfl ⟨rfl, rfl, r47, (((rl <<< (1 &&& 31)) ||| 0) &&& 15), (sw + 1), lr, mn, mx, pe, ?_, hF50⟩ (Nat.zero_le _) (Nat.zero_le _)
          simp only [tStep, tLe, tRl, tSw, tLr, tMn, tMx, tPe, tRise, tFi, tIs, tRel, ite_dv, decide_true, decide_false, Bool.and_true, Bool.true_and, Bool.and_false, Bool.false_and, Bool.not_true, Bool.not_false, Bool.false_or, Bool.true_or, Bool.false_eq_true, if_true, if_false, d01, d11, c1, eq_false c2, eq_false c19, eq_true c51, er45, er46, er47]
        · skip
          refine g_aload_n hC dX3_step_100 3 rfl ?_
          refine g_iload_n hC dX3_step_101 1 rfl ?_
          refine g_if_eq hC 117 dX3_step_102 (by decide) (fun c => absurd c (by decide)) (fun _ => ?_)
          refine g_aload_n hC dX3_step_105 3 rfl ?_
          refine g_get hC (kf := 2) (TT := TX3) (N := 7) (Cn := RX3) dX3_step_106 hL_a h0_n_n_n rfl q_u3 (by decide) q_fl_X3_17 rfl rfl ?_
          refine g_iconst hC 1 dX3_step_109 (by decide) ?_
          refine g_icmp_ne hC 117 dX3_step_110 (by decide) (fun c52 => ?_) (fun c52 => ?_)
          · skip
            refine g_iconst hC 0 dX3_step_117 (by decide) ?_
            refine g_callV hC (Cn := RX3) (TT := TX3) (N := 7) dX3_step_118 (ct_X3_keepLevel l G L f48 a r47 (((rl <<< (1 &&& 31)) ||| 0) &&& 15) (sw + 1) lr mn mx pe false hL_a h0_n_n_n) q_code_X3_keepLevel q_ml_X3_38 q_im_X3_keepLevel q_sel_X3_keepLevel q_init_X3 ⟨rfl, by decide, by decide, (show (parseMethodDescriptor yX3_keepLevel.desc).map (fun d => d.parameters.length) = some 1 from by decide +kernel)⟩ hL_a h0_n_n_n rfl (by decide) (by decide) (Nat.le_of_ble_eq_true rfl) (fun v54 L55 f56 hp53 => ?_)
            obtain ⟨rfl, rfl, hf57⟩ := hp53
            have h0_n_n_n_n : f56 a = .inr (3, [.double r47, .int (((rl <<< (1 &&& 31)) ||| 0) &&& 15), .int (sw + 1), .int lr, .double (if (false || qlt (dv r47) (dv mn)) = true then r47 else mn), .double (if (false || qgt (dv r47) (dv mx)) = true then r47 else mx), .int pe]) := by rw [hf57]; exact va_up_self _ _ _
            have hF58 : f56 = va_up f a (.inr (3, [.double r47, .int (((rl <<< (1 &&& 31)) ||| 0) &&& 15), .int (sw + 1), .int lr, .double (if (false || qlt (dv r47) (dv mn)) = true then r47 else mn), .double (if (false || qgt (dv r47) (dv mx)) = true then r47 else mx), .int pe])) := by rw [hf57, hF50, va_up_up]
            refine (show V C 5 L f56 0 0 121 [(4, .int ((rl >>> (3 &&& 31)) &&& 1)), (3, .int 1), (2, .int 0), (0, .ref a), (1, .int t)] [] from ?_)
            refine g_vret hC dX3_step_121 rfl ⟨rfl, rfl, r47, (((rl <<< (1 &&& 31)) ||| 0) &&& 15), (sw + 1), lr, (if (false || qlt (dv r47) (dv mn)) = true then r47 else mn), (if (false || qgt (dv r47) (dv mx)) = true then r47 else mx), pe, ?_, hF58⟩ (Nat.zero_le _) (Nat.zero_le _)
            simp only [tStep, tLe, tRl, tSw, tLr, tMn, tMx, tPe, tRise, tFi, tIs, tRel, ite_dv, decide_true, decide_false, Bool.and_true, Bool.true_and, Bool.and_false, Bool.false_and, Bool.not_true, Bool.not_false, Bool.false_or, Bool.true_or, Bool.false_eq_true, if_true, if_false, d01, d11, c1, eq_false c2, eq_false c19, eq_false c51, eq_false c52, er45, er46, er47]
          · skip
            refine g_iconst hC 1 dX3_step_113 (by decide) ?_
            refine g_goto hC 118 dX3_step_114 (by decide) ?_
            refine g_callV hC (Cn := RX3) (TT := TX3) (N := 7) dX3_step_118 (ct_X3_keepLevel l G L f48 a r47 (((rl <<< (1 &&& 31)) ||| 0) &&& 15) (sw + 1) lr mn mx pe true hL_a h0_n_n_n) q_code_X3_keepLevel q_ml_X3_38 q_im_X3_keepLevel q_sel_X3_keepLevel q_init_X3 ⟨rfl, by decide, by decide, (show (parseMethodDescriptor yX3_keepLevel.desc).map (fun d => d.parameters.length) = some 1 from by decide +kernel)⟩ hL_a h0_n_n_n rfl (by decide) (by decide) (Nat.le_of_ble_eq_true rfl) (fun v60 L61 f62 hp59 => ?_)
            obtain ⟨rfl, rfl, hf63⟩ := hp59
            have h0_n_n_n_n : f62 a = .inr (3, [.double r47, .int (((rl <<< (1 &&& 31)) ||| 0) &&& 15), .int (sw + 1), .int lr, .double (if (true || qlt (dv r47) (dv mn)) = true then r47 else mn), .double (if (true || qgt (dv r47) (dv mx)) = true then r47 else mx), .int pe]) := by rw [hf63]; exact va_up_self _ _ _
            have hF64 : f62 = va_up f a (.inr (3, [.double r47, .int (((rl <<< (1 &&& 31)) ||| 0) &&& 15), .int (sw + 1), .int lr, .double (if (true || qlt (dv r47) (dv mn)) = true then r47 else mn), .double (if (true || qgt (dv r47) (dv mx)) = true then r47 else mx), .int pe])) := by rw [hf63, hF50, va_up_up]
            refine (show V C 5 L f62 0 0 121 [(4, .int ((rl >>> (3 &&& 31)) &&& 1)), (3, .int 1), (2, .int 0), (0, .ref a), (1, .int t)] [] from ?_)
            refine g_vret hC dX3_step_121 rfl ⟨rfl, rfl, r47, (((rl <<< (1 &&& 31)) ||| 0) &&& 15), (sw + 1), lr, (if (true || qlt (dv r47) (dv mn)) = true then r47 else mn), (if (true || qgt (dv r47) (dv mx)) = true then r47 else mx), pe, ?_, hF64⟩ (Nat.zero_le _) (Nat.zero_le _)
            simp only [tStep, tLe, tRl, tSw, tLr, tMn, tMx, tPe, tRise, tFi, tIs, tRel, ite_dv, decide_true, decide_false, Bool.and_true, Bool.true_and, Bool.and_false, Bool.false_and, Bool.not_true, Bool.not_false, Bool.false_or, Bool.true_or, Bool.false_eq_true, if_true, if_false, d01, d11, c1, eq_false c2, eq_false c19, eq_false c51, eq_true c52, er45, er46, er47]
  · skip
    refine g_iconst hC 1 dX3_step_11 (by decide) ?_
    refine g_goto hC 16 dX3_step_12 (by decide) ?_
    refine g_istore_n hC (lv1 := [(2, .int 1), (0, .ref a), (1, .int t)]) dX3_step_16 (by decide) rfl ?_
    refine g_iload_n hC dX3_step_17 2 rfl ?_
    refine g_if_le hC 35 dX3_step_18 (by decide) (fun c65 => ?_) (fun c65 => ?_)
    · skip
      refine g_iconst hC 0 dX3_step_35 (by decide) ?_
      refine g_istore_n hC (lv1 := [(3, .int 0), (2, .int 1), (0, .ref a), (1, .int t)]) dX3_step_36 (by decide) rfl ?_
      refine g_iload_n hC dX3_step_37 0 rfl ?_
      refine g_if_eq hC 47 dX3_step_38 (by decide) (fun _ => ?_) (fun c => absurd c (by decide))
      refine g_aload_n hC dX3_step_47 2 rfl ?_
      refine g_get hC (kf := 1) (TT := TX3) (N := 7) (Cn := RX3) dX3_step_48 hL_a h0 rfl q_u3 (by decide) q_fl_X3_13 rfl rfl ?_
      refine g_iconst hC 3 dX3_step_51 (by decide) ?_
      refine g_ishr hC dX3_step_52 ?_
      refine g_iconst hC 1 dX3_step_53 (by decide) ?_
      refine g_iand hC dX3_step_54 ?_
      refine g_istore hC (lv1 := [(4, .int ((rl >>> (3 &&& 31)) &&& 1)), (3, .int 0), (2, .int 1), (0, .ref a), (1, .int t)]) dX3_step_55 (by decide) rfl ?_
      refine g_aload_n hC dX3_step_57 3 rfl ?_
      refine g_aload_n hC dX3_step_58 3 rfl ?_
      refine g_get hC (kf := 1) (TT := TX3) (N := 7) (Cn := RX3) dX3_step_59 hL_a h0 rfl q_u3 (by decide) q_fl_X3_13 rfl rfl ?_
      refine g_iconst hC 1 dX3_step_62 (by decide) ?_
      refine g_ishl hC dX3_step_63 ?_
      refine g_iload_n hC dX3_step_64 2 rfl ?_
      refine g_ior hC dX3_step_65 ?_
      refine g_bipush hC 15 dX3_step_66 (by decide) ?_
      refine g_iand hC dX3_step_68 ?_
      refine g_put hC (kf := 1) (TT := TX3) (N := 7) (Cn := RX3) (ty0 := tyX3) (fs1 := [.double le, .int (((rl <<< (1 &&& 31)) ||| 1) &&& 15), .int sw, .int lr, .double mn, .double mx, .int pe]) dX3_step_69 hL_a h0 rfl q_u3 (by decide) tyX3_ok nmX3 q_fl_X3_13 rfl rfl rfl rfl rfl (Nat.le_of_ble_eq_true rfl) rfl ?_
      refine g_nm (fun f66 hf67 => ?_)
      have h0_n : f66 a = .inr (3, [.double le, .int (((rl <<< (1 &&& 31)) ||| 1) &&& 15), .int sw, .int lr, .double mn, .double mx, .int pe]) := by rw [hf67]; exact va_up_self _ _ _
      have hF68 : f66 = va_up f a (.inr (3, [.double le, .int (((rl <<< (1 &&& 31)) ||| 1) &&& 15), .int sw, .int lr, .double mn, .double mx, .int pe])) := hf67
      refine g_aload_n hC dX3_step_72 3 rfl ?_
      refine g_aload_n hC dX3_step_73 3 rfl ?_
      refine g_get hC (kf := 0) (TT := TX3) (N := 7) (Cn := RX3) dX3_step_74 hL_a h0_n rfl q_u3 (by decide) q_fl_X3_7 rfl rfl ?_
      refine g_iload hC dX3_step_77 0 rfl ?_
      refine g_i2d hC dX3_step_79 ?_
      refine g_aload_n hC dX3_step_80 3 rfl ?_
      refine g_get hC (kf := 0) (TT := TX3) (N := 7) (Cn := RX3) dX3_step_81 hL_a h0_n rfl q_u3 (by decide) q_fl_X3_7 rfl rfl ?_
      refine g_dsub hC dX3_step_84 (fun r69 er69 => ?_)
      refine g_ldc2 hC dX3_step_85 q_cd_X3_36 ?_
      refine g_dmul hC dX3_step_88 (fun r70 er70 => ?_)
      try simp only [er69] at er70
      refine g_dadd hC dX3_step_89 (fun r71 er71 => ?_)
      try simp only [er69, er70] at er71
      refine g_put hC (kf := 0) (TT := TX3) (N := 7) (Cn := RX3) (ty0 := tyX3) (fs1 := [.double r71, .int (((rl <<< (1 &&& 31)) ||| 1) &&& 15), .int sw, .int lr, .double mn, .double mx, .int pe]) dX3_step_90 hL_a h0_n rfl q_u3 (by decide) tyX3_ok nmX3 q_fl_X3_7 rfl rfl rfl rfl rfl (Nat.le_of_ble_eq_true rfl) rfl ?_
      refine g_nm (fun f72 hf73 => ?_)
      have h0_n_n : f72 a = .inr (3, [.double r71, .int (((rl <<< (1 &&& 31)) ||| 1) &&& 15), .int sw, .int lr, .double mn, .double mx, .int pe]) := by rw [hf73]; exact va_up_self _ _ _
      have hF74 : f72 = va_up f a (.inr (3, [.double r71, .int (((rl <<< (1 &&& 31)) ||| 1) &&& 15), .int sw, .int lr, .double mn, .double mx, .int pe])) := by rw [hf73, hF68, va_up_up]
      refine g_aload_n hC dX3_step_93 3 rfl ?_
      refine g_get hC (kf := 2) (TT := TX3) (N := 7) (Cn := RX3) dX3_step_94 hL_a h0_n_n rfl q_u3 (by decide) q_fl_X3_17 rfl rfl ?_
      refine g_if_le hC 121 dX3_step_97 (by decide) (fun c75 => ?_) (fun c75 => ?_)
      · skip
        refine g_vret hC dX3_step_121 rfl ⟨rfl, rfl, r71, (((rl <<< (1 &&& 31)) ||| 1) &&& 15), sw, lr, mn, mx, pe, ?_, hF74⟩ (Nat.zero_le _) (Nat.zero_le _)
        simp only [tStep, tLe, tRl, tSw, tLr, tMn, tMx, tPe, tRise, tFi, tIs, tRel, ite_dv, decide_true, decide_false, Bool.and_true, Bool.true_and, Bool.and_false, Bool.false_and, Bool.not_true, Bool.not_false, Bool.false_or, Bool.true_or, Bool.false_eq_true, if_true, if_false, d01, d11, c1, eq_true c65, eq_true c75, er69, er70, er71]
      · skip
        refine g_aload_n hC dX3_step_100 3 rfl ?_
        refine g_iload_n hC dX3_step_101 1 rfl ?_
        refine g_if_eq hC 117 dX3_step_102 (by decide) (fun _ => ?_) (fun c => absurd c (by decide))
        refine g_iconst hC 0 dX3_step_117 (by decide) ?_
        refine g_callV hC (Cn := RX3) (TT := TX3) (N := 7) dX3_step_118 (ct_X3_keepLevel l G L f72 a r71 (((rl <<< (1 &&& 31)) ||| 1) &&& 15) sw lr mn mx pe false hL_a h0_n_n) q_code_X3_keepLevel q_ml_X3_38 q_im_X3_keepLevel q_sel_X3_keepLevel q_init_X3 ⟨rfl, by decide, by decide, (show (parseMethodDescriptor yX3_keepLevel.desc).map (fun d => d.parameters.length) = some 1 from by decide +kernel)⟩ hL_a h0_n_n rfl (by decide) (by decide) (Nat.le_of_ble_eq_true rfl) (fun v77 L78 f79 hp76 => ?_)
        obtain ⟨rfl, rfl, hf80⟩ := hp76
        have h0_n_n_n : f79 a = .inr (3, [.double r71, .int (((rl <<< (1 &&& 31)) ||| 1) &&& 15), .int sw, .int lr, .double (if (false || qlt (dv r71) (dv mn)) = true then r71 else mn), .double (if (false || qgt (dv r71) (dv mx)) = true then r71 else mx), .int pe]) := by rw [hf80]; exact va_up_self _ _ _
        have hF81 : f79 = va_up f a (.inr (3, [.double r71, .int (((rl <<< (1 &&& 31)) ||| 1) &&& 15), .int sw, .int lr, .double (if (false || qlt (dv r71) (dv mn)) = true then r71 else mn), .double (if (false || qgt (dv r71) (dv mx)) = true then r71 else mx), .int pe])) := by rw [hf80, hF74, va_up_up]
        refine (show V C 5 L f79 0 0 121 [(4, .int ((rl >>> (3 &&& 31)) &&& 1)), (3, .int 0), (2, .int 1), (0, .ref a), (1, .int t)] [] from ?_)
        refine g_vret hC dX3_step_121 rfl ⟨rfl, rfl, r71, (((rl <<< (1 &&& 31)) ||| 1) &&& 15), sw, lr, (if (false || qlt (dv r71) (dv mn)) = true then r71 else mn), (if (false || qgt (dv r71) (dv mx)) = true then r71 else mx), pe, ?_, hF81⟩ (Nat.zero_le _) (Nat.zero_le _)
        simp only [tStep, tLe, tRl, tSw, tLr, tMn, tMx, tPe, tRise, tFi, tIs, tRel, ite_dv, decide_true, decide_false, Bool.and_true, Bool.true_and, Bool.and_false, Bool.false_and, Bool.not_true, Bool.not_false, Bool.false_or, Bool.true_or, Bool.false_eq_true, if_true, if_false, d01, d11, c1, eq_true c65, eq_false c75, er69, er70, er71]
    · skip
      refine g_iload_n hC dX3_step_21 0 rfl ?_
      refine g_aload_n hC dX3_step_22 1 rfl ?_
      refine g_get hC (kf := 1) (TT := TX3) (N := 7) (Cn := RX3) dX3_step_23 hL_a h0 rfl q_u3 (by decide) q_fl_X3_13 rfl rfl ?_
      refine g_iconst hC 1 dX3_step_26 (by decide) ?_
      refine g_iand hC dX3_step_27 ?_
      refine g_icmp_eq hC 35 dX3_step_28 (by decide) (fun c82 => ?_) (fun c82 => ?_)
      · skip
        refine g_iconst hC 0 dX3_step_35 (by decide) ?_
        refine g_istore_n hC (lv1 := [(3, .int 0), (2, .int 1), (0, .ref a), (1, .int t)]) dX3_step_36 (by decide) rfl ?_
        refine g_iload_n hC dX3_step_37 0 rfl ?_
        refine g_if_eq hC 47 dX3_step_38 (by decide) (fun _ => ?_) (fun c => absurd c (by decide))
        refine g_aload_n hC dX3_step_47 2 rfl ?_
        refine g_get hC (kf := 1) (TT := TX3) (N := 7) (Cn := RX3) dX3_step_48 hL_a h0 rfl q_u3 (by decide) q_fl_X3_13 rfl rfl ?_
        refine g_iconst hC 3 dX3_step_51 (by decide) ?_
        refine g_ishr hC dX3_step_52 ?_
        refine g_iconst hC 1 dX3_step_53 (by decide) ?_
        refine g_iand hC dX3_step_54 ?_
        refine g_istore hC (lv1 := [(4, .int ((rl >>> (3 &&& 31)) &&& 1)), (3, .int 0), (2, .int 1), (0, .ref a), (1, .int t)]) dX3_step_55 (by decide) rfl ?_
        refine g_aload_n hC dX3_step_57 3 rfl ?_
        refine g_aload_n hC dX3_step_58 3 rfl ?_
        refine g_get hC (kf := 1) (TT := TX3) (N := 7) (Cn := RX3) dX3_step_59 hL_a h0 rfl q_u3 (by decide) q_fl_X3_13 rfl rfl ?_
        refine g_iconst hC 1 dX3_step_62 (by decide) ?_
        refine g_ishl hC dX3_step_63 ?_
        refine g_iload_n hC dX3_step_64 2 rfl ?_
        refine g_ior hC dX3_step_65 ?_
        refine g_bipush hC 15 dX3_step_66 (by decide) ?_
        refine g_iand hC dX3_step_68 ?_
        refine g_put hC (kf := 1) (TT := TX3) (N := 7) (Cn := RX3) (ty0 := tyX3) (fs1 := [.double le, .int (((rl <<< (1 &&& 31)) ||| 1) &&& 15), .int sw, .int lr, .double mn, .double mx, .int pe]) dX3_step_69 hL_a h0 rfl q_u3 (by decide) tyX3_ok nmX3 q_fl_X3_13 rfl rfl rfl rfl rfl (Nat.le_of_ble_eq_true rfl) rfl ?_
        refine g_nm (fun f83 hf84 => ?_)
        have h0_n : f83 a = .inr (3, [.double le, .int (((rl <<< (1 &&& 31)) ||| 1) &&& 15), .int sw, .int lr, .double mn, .double mx, .int pe]) := by rw [hf84]; exact va_up_self _ _ _
        have hF85 : f83 = va_up f a (.inr (3, [.double le, .int (((rl <<< (1 &&& 31)) ||| 1) &&& 15), .int sw, .int lr, .double mn, .double mx, .int pe])) := hf84
        refine g_aload_n hC dX3_step_72 3 rfl ?_
        refine g_aload_n hC dX3_step_73 3 rfl ?_
        refine g_get hC (kf := 0) (TT := TX3) (N := 7) (Cn := RX3) dX3_step_74 hL_a h0_n rfl q_u3 (by decide) q_fl_X3_7 rfl rfl ?_
        refine g_iload hC dX3_step_77 0 rfl ?_
        refine g_i2d hC dX3_step_79 ?_
        refine g_aload_n hC dX3_step_80 3 rfl ?_
        refine g_get hC (kf := 0) (TT := TX3) (N := 7) (Cn := RX3) dX3_step_81 hL_a h0_n rfl q_u3 (by decide) q_fl_X3_7 rfl rfl ?_
        refine g_dsub hC dX3_step_84 (fun r86 er86 => ?_)
        refine g_ldc2 hC dX3_step_85 q_cd_X3_36 ?_
        refine g_dmul hC dX3_step_88 (fun r87 er87 => ?_)
        try simp only [er86] at er87
        refine g_dadd hC dX3_step_89 (fun r88 er88 => ?_)
        try simp only [er86, er87] at er88
        refine g_put hC (kf := 0) (TT := TX3) (N := 7) (Cn := RX3) (ty0 := tyX3) (fs1 := [.double r88, .int (((rl <<< (1 &&& 31)) ||| 1) &&& 15), .int sw, .int lr, .double mn, .double mx, .int pe]) dX3_step_90 hL_a h0_n rfl q_u3 (by decide) tyX3_ok nmX3 q_fl_X3_7 rfl rfl rfl rfl rfl (Nat.le_of_ble_eq_true rfl) rfl ?_
        refine g_nm (fun f89 hf90 => ?_)
        have h0_n_n : f89 a = .inr (3, [.double r88, .int (((rl <<< (1 &&& 31)) ||| 1) &&& 15), .int sw, .int lr, .double mn, .double mx, .int pe]) := by rw [hf90]; exact va_up_self _ _ _
        have hF91 : f89 = va_up f a (.inr (3, [.double r88, .int (((rl <<< (1 &&& 31)) ||| 1) &&& 15), .int sw, .int lr, .double mn, .double mx, .int pe])) := by rw [hf90, hF85, va_up_up]
        refine g_aload_n hC dX3_step_93 3 rfl ?_
        refine g_get hC (kf := 2) (TT := TX3) (N := 7) (Cn := RX3) dX3_step_94 hL_a h0_n_n rfl q_u3 (by decide) q_fl_X3_17 rfl rfl ?_
        refine g_if_le hC 121 dX3_step_97 (by decide) (fun c92 => ?_) (fun c92 => ?_)
        · skip
          refine g_vret hC dX3_step_121 rfl ⟨rfl, rfl, r88, (((rl <<< (1 &&& 31)) ||| 1) &&& 15), sw, lr, mn, mx, pe, ?_, hF91⟩ (Nat.zero_le _) (Nat.zero_le _)
          simp only [tStep, tLe, tRl, tSw, tLr, tMn, tMx, tPe, tRise, tFi, tIs, tRel, ite_dv, decide_true, decide_false, Bool.and_true, Bool.true_and, Bool.and_false, Bool.false_and, Bool.not_true, Bool.not_false, Bool.false_or, Bool.true_or, Bool.false_eq_true, if_true, if_false, d01, d11, c1, eq_false c65, eq_true c82, eq_true c92, er86, er87, er88]
        · skip
          refine g_aload_n hC dX3_step_100 3 rfl ?_
          refine g_iload_n hC dX3_step_101 1 rfl ?_
          refine g_if_eq hC 117 dX3_step_102 (by decide) (fun _ => ?_) (fun c => absurd c (by decide))
          refine g_iconst hC 0 dX3_step_117 (by decide) ?_
          refine g_callV hC (Cn := RX3) (TT := TX3) (N := 7) dX3_step_118 (ct_X3_keepLevel l G L f89 a r88 (((rl <<< (1 &&& 31)) ||| 1) &&& 15) sw lr mn mx pe false hL_a h0_n_n) q_code_X3_keepLevel q_ml_X3_38 q_im_X3_keepLevel q_sel_X3_keepLevel q_init_X3 ⟨rfl, by decide, by decide, (show (parseMethodDescriptor yX3_keepLevel.desc).map (fun d => d.parameters.length) = some 1 from by decide +kernel)⟩ hL_a h0_n_n rfl (by decide) (by decide) (Nat.le_of_ble_eq_true rfl) (fun v94 L95 f96 hp93 => ?_)
          obtain ⟨rfl, rfl, hf97⟩ := hp93
          have h0_n_n_n : f96 a = .inr (3, [.double r88, .int (((rl <<< (1 &&& 31)) ||| 1) &&& 15), .int sw, .int lr, .double (if (false || qlt (dv r88) (dv mn)) = true then r88 else mn), .double (if (false || qgt (dv r88) (dv mx)) = true then r88 else mx), .int pe]) := by rw [hf97]; exact va_up_self _ _ _
          have hF98 : f96 = va_up f a (.inr (3, [.double r88, .int (((rl <<< (1 &&& 31)) ||| 1) &&& 15), .int sw, .int lr, .double (if (false || qlt (dv r88) (dv mn)) = true then r88 else mn), .double (if (false || qgt (dv r88) (dv mx)) = true then r88 else mx), .int pe])) := by rw [hf97, hF91, va_up_up]
          refine (show V C 5 L f96 0 0 121 [(4, .int ((rl >>> (3 &&& 31)) &&& 1)), (3, .int 0), (2, .int 1), (0, .ref a), (1, .int t)] [] from ?_)
          refine g_vret hC dX3_step_121 rfl ⟨rfl, rfl, r88, (((rl <<< (1 &&& 31)) ||| 1) &&& 15), sw, lr, (if (false || qlt (dv r88) (dv mn)) = true then r88 else mn), (if (false || qgt (dv r88) (dv mx)) = true then r88 else mx), pe, ?_, hF98⟩ (Nat.zero_le _) (Nat.zero_le _)
          simp only [tStep, tLe, tRl, tSw, tLr, tMn, tMx, tPe, tRise, tFi, tIs, tRel, ite_dv, decide_true, decide_false, Bool.and_true, Bool.true_and, Bool.and_false, Bool.false_and, Bool.not_true, Bool.not_false, Bool.false_or, Bool.true_or, Bool.false_eq_true, if_true, if_false, d01, d11, c1, eq_false c65, eq_true c82, eq_false c92, er86, er87, er88]
      · skip
        refine g_iconst hC 1 dX3_step_31 (by decide) ?_
        refine g_goto hC 36 dX3_step_32 (by decide) ?_
        refine g_istore_n hC (lv1 := [(3, .int 1), (2, .int 1), (0, .ref a), (1, .int t)]) dX3_step_36 (by decide) rfl ?_
        refine g_iload_n hC dX3_step_37 0 rfl ?_
        refine g_if_eq hC 47 dX3_step_38 (by decide) (fun c => absurd c (by decide)) (fun _ => ?_)
        refine g_aload_n hC dX3_step_41 2 rfl ?_
        refine g_iload_n hC dX3_step_42 3 rfl ?_
        refine g_iload_n hC dX3_step_43 1 rfl ?_
        refine g_callV hC (Cn := RX3) (TT := TX3) (N := 7) dX3_step_44 (ct_X3_countSwitch l G L f a le rl sw lr mn mx pe t 1 hL_a h0) q_code_X3_countSwitch q_ml_X3_32 q_im_X3_countSwitch q_sel_X3_countSwitch q_init_X3 ⟨rfl, by decide, by decide, (show (parseMethodDescriptor yX3_countSwitch.desc).map (fun d => d.parameters.length) = some 2 from by decide +kernel)⟩ hL_a h0 rfl (by decide) (by decide) (Nat.le_of_ble_eq_true rfl) (fun v100 L101 f102 hp99 => ?_)
        obtain ⟨rfl, rfl, hf103⟩ := hp99
        simp only [if_true, (by decide : ((1 : Int32) = 1) = True), (by decide : ((0 : Int32) = 1) = False), if_false] at hf103
        have h0_n : f102 a = .inr (3, [.double le, .int rl, .int (sw + 1), .int t, .double mn, .double mx, .int (if lr = 0 then 0 else t - lr)]) := by rw [hf103]; exact va_up_self _ _ _
        have hF104 : f102 = va_up f a (.inr (3, [.double le, .int rl, .int (sw + 1), .int t, .double mn, .double mx, .int (if lr = 0 then 0 else t - lr)])) := hf103
        refine (show V C 5 L f102 0 0 47 [(3, .int 1), (2, .int 1), (0, .ref a), (1, .int t)] [] from ?_)
        refine g_aload_n hC dX3_step_47 2 rfl ?_
        refine g_get hC (kf := 1) (TT := TX3) (N := 7) (Cn := RX3) dX3_step_48 hL_a h0_n rfl q_u3 (by decide) q_fl_X3_13 rfl rfl ?_
        refine g_iconst hC 3 dX3_step_51 (by decide) ?_
        refine g_ishr hC dX3_step_52 ?_
        refine g_iconst hC 1 dX3_step_53 (by decide) ?_
        refine g_iand hC dX3_step_54 ?_
        refine g_istore hC (lv1 := [(4, .int ((rl >>> (3 &&& 31)) &&& 1)), (3, .int 1), (2, .int 1), (0, .ref a), (1, .int t)]) dX3_step_55 (by decide) rfl ?_
        refine g_aload_n hC dX3_step_57 3 rfl ?_
        refine g_aload_n hC dX3_step_58 3 rfl ?_
        refine g_get hC (kf := 1) (TT := TX3) (N := 7) (Cn := RX3) dX3_step_59 hL_a h0_n rfl q_u3 (by decide) q_fl_X3_13 rfl rfl ?_
        refine g_iconst hC 1 dX3_step_62 (by decide) ?_
        refine g_ishl hC dX3_step_63 ?_
        refine g_iload_n hC dX3_step_64 2 rfl ?_
        refine g_ior hC dX3_step_65 ?_
        refine g_bipush hC 15 dX3_step_66 (by decide) ?_
        refine g_iand hC dX3_step_68 ?_
        refine g_put hC (kf := 1) (TT := TX3) (N := 7) (Cn := RX3) (ty0 := tyX3) (fs1 := [.double le, .int (((rl <<< (1 &&& 31)) ||| 1) &&& 15), .int (sw + 1), .int t, .double mn, .double mx, .int (if lr = 0 then 0 else t - lr)]) dX3_step_69 hL_a h0_n rfl q_u3 (by decide) tyX3_ok nmX3 q_fl_X3_13 rfl rfl rfl rfl rfl (Nat.le_of_ble_eq_true rfl) rfl ?_
        refine g_nm (fun f105 hf106 => ?_)
        have h0_n_n : f105 a = .inr (3, [.double le, .int (((rl <<< (1 &&& 31)) ||| 1) &&& 15), .int (sw + 1), .int t, .double mn, .double mx, .int (if lr = 0 then 0 else t - lr)]) := by rw [hf106]; exact va_up_self _ _ _
        have hF107 : f105 = va_up f a (.inr (3, [.double le, .int (((rl <<< (1 &&& 31)) ||| 1) &&& 15), .int (sw + 1), .int t, .double mn, .double mx, .int (if lr = 0 then 0 else t - lr)])) := by rw [hf106, hF104, va_up_up]
        refine g_aload_n hC dX3_step_72 3 rfl ?_
        refine g_aload_n hC dX3_step_73 3 rfl ?_
        refine g_get hC (kf := 0) (TT := TX3) (N := 7) (Cn := RX3) dX3_step_74 hL_a h0_n_n rfl q_u3 (by decide) q_fl_X3_7 rfl rfl ?_
        refine g_iload hC dX3_step_77 0 rfl ?_
        refine g_i2d hC dX3_step_79 ?_
        refine g_aload_n hC dX3_step_80 3 rfl ?_
        refine g_get hC (kf := 0) (TT := TX3) (N := 7) (Cn := RX3) dX3_step_81 hL_a h0_n_n rfl q_u3 (by decide) q_fl_X3_7 rfl rfl ?_
        refine g_dsub hC dX3_step_84 (fun r108 er108 => ?_)
        refine g_ldc2 hC dX3_step_85 q_cd_X3_36 ?_
        refine g_dmul hC dX3_step_88 (fun r109 er109 => ?_)
        try simp only [er108] at er109
        refine g_dadd hC dX3_step_89 (fun r110 er110 => ?_)
        try simp only [er108, er109] at er110
        refine g_put hC (kf := 0) (TT := TX3) (N := 7) (Cn := RX3) (ty0 := tyX3) (fs1 := [.double r110, .int (((rl <<< (1 &&& 31)) ||| 1) &&& 15), .int (sw + 1), .int t, .double mn, .double mx, .int (if lr = 0 then 0 else t - lr)]) dX3_step_90 hL_a h0_n_n rfl q_u3 (by decide) tyX3_ok nmX3 q_fl_X3_7 rfl rfl rfl rfl rfl (Nat.le_of_ble_eq_true rfl) rfl ?_
        refine g_nm (fun f111 hf112 => ?_)
        have h0_n_n_n : f111 a = .inr (3, [.double r110, .int (((rl <<< (1 &&& 31)) ||| 1) &&& 15), .int (sw + 1), .int t, .double mn, .double mx, .int (if lr = 0 then 0 else t - lr)]) := by rw [hf112]; exact va_up_self _ _ _
        have hF113 : f111 = va_up f a (.inr (3, [.double r110, .int (((rl <<< (1 &&& 31)) ||| 1) &&& 15), .int (sw + 1), .int t, .double mn, .double mx, .int (if lr = 0 then 0 else t - lr)])) := by rw [hf112, hF107, va_up_up]
        refine g_aload_n hC dX3_step_93 3 rfl ?_
        refine g_get hC (kf := 2) (TT := TX3) (N := 7) (Cn := RX3) dX3_step_94 hL_a h0_n_n_n rfl q_u3 (by decide) q_fl_X3_17 rfl rfl ?_
        refine g_if_le hC 121 dX3_step_97 (by decide) (fun c114 => ?_) (fun c114 => ?_)
        · skip
          refine g_vret hC dX3_step_121 rfl ⟨rfl, rfl, r110, (((rl <<< (1 &&& 31)) ||| 1) &&& 15), (sw + 1), t, mn, mx, (if lr = 0 then 0 else t - lr), ?_, hF113⟩ (Nat.zero_le _) (Nat.zero_le _)
          simp only [tStep, tLe, tRl, tSw, tLr, tMn, tMx, tPe, tRise, tFi, tIs, tRel, ite_dv, decide_true, decide_false, Bool.and_true, Bool.true_and, Bool.and_false, Bool.false_and, Bool.not_true, Bool.not_false, Bool.false_or, Bool.true_or, Bool.false_eq_true, if_true, if_false, d01, d11, c1, eq_false c65, eq_false c82, eq_true c114, er108, er109, er110]
        · skip
          refine g_aload_n hC dX3_step_100 3 rfl ?_
          refine g_iload_n hC dX3_step_101 1 rfl ?_
          refine g_if_eq hC 117 dX3_step_102 (by decide) (fun c => absurd c (by decide)) (fun _ => ?_)
          refine g_aload_n hC dX3_step_105 3 rfl ?_
          refine g_get hC (kf := 2) (TT := TX3) (N := 7) (Cn := RX3) dX3_step_106 hL_a h0_n_n_n rfl q_u3 (by decide) q_fl_X3_17 rfl rfl ?_
          refine g_iconst hC 1 dX3_step_109 (by decide) ?_
          refine g_icmp_ne hC 117 dX3_step_110 (by decide) (fun c115 => ?_) (fun c115 => ?_)
          · skip
            refine g_iconst hC 0 dX3_step_117 (by decide) ?_
            refine g_callV hC (Cn := RX3) (TT := TX3) (N := 7) dX3_step_118 (ct_X3_keepLevel l G L f111 a r110 (((rl <<< (1 &&& 31)) ||| 1) &&& 15) (sw + 1) t mn mx (if lr = 0 then 0 else t - lr) false hL_a h0_n_n_n) q_code_X3_keepLevel q_ml_X3_38 q_im_X3_keepLevel q_sel_X3_keepLevel q_init_X3 ⟨rfl, by decide, by decide, (show (parseMethodDescriptor yX3_keepLevel.desc).map (fun d => d.parameters.length) = some 1 from by decide +kernel)⟩ hL_a h0_n_n_n rfl (by decide) (by decide) (Nat.le_of_ble_eq_true rfl) (fun v117 L118 f119 hp116 => ?_)
            obtain ⟨rfl, rfl, hf120⟩ := hp116
            have h0_n_n_n_n : f119 a = .inr (3, [.double r110, .int (((rl <<< (1 &&& 31)) ||| 1) &&& 15), .int (sw + 1), .int t, .double (if (false || qlt (dv r110) (dv mn)) = true then r110 else mn), .double (if (false || qgt (dv r110) (dv mx)) = true then r110 else mx), .int (if lr = 0 then 0 else t - lr)]) := by rw [hf120]; exact va_up_self _ _ _
            have hF121 : f119 = va_up f a (.inr (3, [.double r110, .int (((rl <<< (1 &&& 31)) ||| 1) &&& 15), .int (sw + 1), .int t, .double (if (false || qlt (dv r110) (dv mn)) = true then r110 else mn), .double (if (false || qgt (dv r110) (dv mx)) = true then r110 else mx), .int (if lr = 0 then 0 else t - lr)])) := by rw [hf120, hF113, va_up_up]
            refine (show V C 5 L f119 0 0 121 [(4, .int ((rl >>> (3 &&& 31)) &&& 1)), (3, .int 1), (2, .int 1), (0, .ref a), (1, .int t)] [] from ?_)
            refine g_vret hC dX3_step_121 rfl ⟨rfl, rfl, r110, (((rl <<< (1 &&& 31)) ||| 1) &&& 15), (sw + 1), t, (if (false || qlt (dv r110) (dv mn)) = true then r110 else mn), (if (false || qgt (dv r110) (dv mx)) = true then r110 else mx), (if lr = 0 then 0 else t - lr), ?_, hF121⟩ (Nat.zero_le _) (Nat.zero_le _)
            simp only [tStep, tLe, tRl, tSw, tLr, tMn, tMx, tPe, tRise, tFi, tIs, tRel, ite_dv, decide_true, decide_false, Bool.and_true, Bool.true_and, Bool.and_false, Bool.false_and, Bool.not_true, Bool.not_false, Bool.false_or, Bool.true_or, Bool.false_eq_true, if_true, if_false, d01, d11, c1, eq_false c65, eq_false c82, eq_false c114, eq_false c115, er108, er109, er110]
          · skip
            refine g_iconst hC 1 dX3_step_113 (by decide) ?_
            refine g_goto hC 118 dX3_step_114 (by decide) ?_
            refine g_callV hC (Cn := RX3) (TT := TX3) (N := 7) dX3_step_118 (ct_X3_keepLevel l G L f111 a r110 (((rl <<< (1 &&& 31)) ||| 1) &&& 15) (sw + 1) t mn mx (if lr = 0 then 0 else t - lr) true hL_a h0_n_n_n) q_code_X3_keepLevel q_ml_X3_38 q_im_X3_keepLevel q_sel_X3_keepLevel q_init_X3 ⟨rfl, by decide, by decide, (show (parseMethodDescriptor yX3_keepLevel.desc).map (fun d => d.parameters.length) = some 1 from by decide +kernel)⟩ hL_a h0_n_n_n rfl (by decide) (by decide) (Nat.le_of_ble_eq_true rfl) (fun v123 L124 f125 hp122 => ?_)
            obtain ⟨rfl, rfl, hf126⟩ := hp122
            have h0_n_n_n_n : f125 a = .inr (3, [.double r110, .int (((rl <<< (1 &&& 31)) ||| 1) &&& 15), .int (sw + 1), .int t, .double (if (true || qlt (dv r110) (dv mn)) = true then r110 else mn), .double (if (true || qgt (dv r110) (dv mx)) = true then r110 else mx), .int (if lr = 0 then 0 else t - lr)]) := by rw [hf126]; exact va_up_self _ _ _
            have hF127 : f125 = va_up f a (.inr (3, [.double r110, .int (((rl <<< (1 &&& 31)) ||| 1) &&& 15), .int (sw + 1), .int t, .double (if (true || qlt (dv r110) (dv mn)) = true then r110 else mn), .double (if (true || qgt (dv r110) (dv mx)) = true then r110 else mx), .int (if lr = 0 then 0 else t - lr)])) := by rw [hf126, hF113, va_up_up]
            refine (show V C 5 L f125 0 0 121 [(4, .int ((rl >>> (3 &&& 31)) &&& 1)), (3, .int 1), (2, .int 1), (0, .ref a), (1, .int t)] [] from ?_)
            refine g_vret hC dX3_step_121 rfl ⟨rfl, rfl, r110, (((rl <<< (1 &&& 31)) ||| 1) &&& 15), (sw + 1), t, (if (true || qlt (dv r110) (dv mn)) = true then r110 else mn), (if (true || qgt (dv r110) (dv mx)) = true then r110 else mx), (if lr = 0 then 0 else t - lr), ?_, hF127⟩ (Nat.zero_le _) (Nat.zero_le _)
            simp only [tStep, tLe, tRl, tSw, tLr, tMn, tMx, tPe, tRise, tFi, tIs, tRel, ite_dv, decide_true, decide_false, Bool.and_true, Bool.true_and, Bool.and_false, Bool.false_and, Bool.not_true, Bool.not_false, Bool.false_or, Bool.true_or, Bool.false_eq_true, if_true, if_false, d01, d11, c1, eq_false c65, eq_false c82, eq_false c114, eq_true c115, er108, er109, er110]
set_option maxHeartbeats 4000000 in
set_option maxRecDepth 100000 in
/-- gain(k) -/
theorem ct_X3_gain (l : Launch) (G : GD) (L : List Nat) (f : Nat → va_E) (a : Nat) (le : UInt64) (rl sw lr : Int32) (mn mx : UInt64) (pe : Int32) (k : Int32) (hL_a : a ∈ L) (h0 : f a = eTn le rl sw lr mn mx pe) : Ctr l yX3_gain cX3_gain 6 (some .double) R00 G [.ref a, .int k] L f (fun vv L1 f1 => ∃ r : UInt64, vv = some (.double r) ∧ dv r = tgS (dv mn) (dv mx) pe k ∧ L = L1 ∧ f = f1) := by
  refine g_enter RX3 false (by decide) rfl (fun h => by cases h) (Nat.le_of_ble_eq_true rfl) (fun C hC => ?_)
  refine (show V C 6 L f 0 0 0 [(0, .ref a), (1, .int k)] [] from ?_)
  refine g_aload_n hC dX3_gain_0 0 rfl ?_
  refine g_get hC (kf := 5) (TT := TX3) (N := 7) (Cn := RX3) dX3_gain_1 hL_a h0 rfl q_u3 (by decide) q_fl_X3_45 rfl rfl ?_
  refine g_aload_n hC dX3_gain_4 0 rfl ?_
  refine g_get hC (kf := 4) (TT := TX3) (N := 7) (Cn := RX3) dX3_gain_5 hL_a h0 rfl q_u3 (by decide) q_fl_X3_42 rfl rfl ?_
  refine g_dsub hC dX3_gain_8 (fun r1 er1 => ?_)
  refine g_ldc2 hC dX3_gain_9 q_cd_X3_30 ?_
  refine g_dmul hC dX3_gain_12 (fun r2 er2 => ?_)
  try simp only [er1] at er2
  refine g_dstore_n hC (lv1 := [(2, .double r2), (0, .ref a), (1, .int k)]) dX3_gain_13 (by decide) rfl ?_
  refine g_aload_n hC dX3_gain_14 1 rfl ?_
  refine g_get hC (kf := 6) (TT := TX3) (N := 7) (Cn := RX3) dX3_gain_15 hL_a h0 rfl q_u3 (by decide) q_fl_X3_23 rfl rfl ?_
  refine g_if_eq hC 27 dX3_gain_18 (by decide) (fun c3 => ?_) (fun c3 => ?_)
  · skip
    refine g_dconst0 hC dX3_gain_27 ?_
    exact g_dret hC dX3_gain_28 rfl ⟨0, rfl, by simp [tgS, tgV, tgG, tgA, c3, er1, er2], rfl, rfl⟩ (Nat.zero_le _) (Nat.zero_le _)
  · skip
    refine g_dload_n hC dX3_gain_21 0 rfl ?_
    refine g_dconst0 hC dX3_gain_22 ?_
    refine g_dcmpg_gt hC 29 dX3_gain_23 dX3_gain_24 (by decide) (fun c4 => ?_) (fun c4 => ?_)
    · try simp only [er1, er2] at c4
      refine g_dconst1 hC dX3_gain_29 ?_
      refine g_dload_n hC dX3_gain_30 0 rfl ?_
      refine g_ddiv hC dX3_gain_31 (fun r5 er5 => ?_)
      try simp only [er1, er2] at er5
      refine g_dstore hC (lv1 := [(4, .double r5), (2, .double r2), (0, .ref a), (1, .int k)]) dX3_gain_32 (by decide) rfl ?_
      refine g_iload_n hC dX3_gain_34 3 rfl ?_
      rcases sw3 k with k6 | k6 | k6 | k6
      · refine g_eqI k6 (g_table hC 60 dX3_gain_35 (by decide) (by decide) rfl (by decide) ?_)
        refine g_ldc2 hC dX3_gain_60 q_cd_X3_30 ?_
        refine g_dload hC dX3_gain_63 0 rfl ?_
        refine g_dmul hC dX3_gain_65 (fun r7 er7 => ?_)
        try simp only [er1, er2, er5] at er7
        exact g_dret hC dX3_gain_66 rfl ⟨r7, rfl, by simp [tgS, tgV, tgG, tgA, c3, c4, k6, er1, er2, er5, er7], rfl, rfl⟩ (Nat.zero_le _) (Nat.zero_le _)
      · refine g_eqI k6 (g_table hC 67 dX3_gain_35 (by decide) (by decide) rfl (by decide) ?_)
        refine g_dload hC dX3_gain_67 0 rfl ?_
        refine g_aload_n hC dX3_gain_69 2 rfl ?_
        refine g_get hC (kf := 6) (TT := TX3) (N := 7) (Cn := RX3) dX3_gain_70 hL_a h0 rfl q_u3 (by decide) q_fl_X3_23 rfl rfl ?_
        refine g_i2d hC dX3_gain_73 ?_
        refine g_ddiv hC dX3_gain_74 (fun r8 er8 => ?_)
        try simp only [er1, er2, er5] at er8
        exact g_dret hC dX3_gain_75 rfl ⟨r8, rfl, by simp [tgS, tgV, tgG, tgA, c3, c4, k6, er1, er2, er5, er8], rfl, rfl⟩ (Nat.zero_le _) (Nat.zero_le _)
      · refine g_eqI k6 (g_table hC 76 dX3_gain_35 (by decide) (by decide) rfl (by decide) ?_)
        refine g_ldc2 hC dX3_gain_76 q_cd_X3_36 ?_
        refine g_dload hC dX3_gain_79 0 rfl ?_
        refine g_dmul hC dX3_gain_81 (fun r9 er9 => ?_)
        try simp only [er1, er2, er5] at er9
        refine g_aload_n hC dX3_gain_82 2 rfl ?_
        refine g_get hC (kf := 6) (TT := TX3) (N := 7) (Cn := RX3) dX3_gain_83 hL_a h0 rfl q_u3 (by decide) q_fl_X3_23 rfl rfl ?_
        refine g_i2d hC dX3_gain_86 ?_
        refine g_dmul hC dX3_gain_87 (fun r10 er10 => ?_)
        try simp only [er1, er2, er5, er9] at er10
        exact g_dret hC dX3_gain_88 rfl ⟨r10, rfl, by simp [tgS, tgV, tgG, tgA, c3, c4, k6, er1, er2, er5, er9, er10], rfl, rfl⟩ (Nat.zero_le _) (Nat.zero_le _)
      · have k0 : ¬ k = 0 := by rintro rfl; revert k6; decide
        have k1 : ¬ k = 1 := by rintro rfl; revert k6; decide
        have k2 : ¬ k = 2 := by rintro rfl; revert k6; decide
        refine g_tableOut hC 89 dX3_gain_35 k6 (by decide) ?_
        refine g_dconst0 hC dX3_gain_89 ?_
        exact g_dret hC dX3_gain_90 rfl ⟨0, rfl, by simp [tgS, tgV, tgG, tgA, c3, c4, k0, k1, k2, er1, er2, er5], rfl, rfl⟩ (Nat.zero_le _) (Nat.zero_le _)
    · try simp only [er1, er2] at c4
      refine g_dconst0 hC dX3_gain_27 ?_
      exact g_dret hC dX3_gain_28 rfl ⟨0, rfl, by simp [tgS, tgV, tgG, tgA, c3, c4, er1, er2], rfl, rfl⟩ (Nat.zero_le _) (Nat.zero_le _)
