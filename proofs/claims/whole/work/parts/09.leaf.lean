set_option maxHeartbeats 4000000 in
set_option maxRecDepth 100000 in
/-- isWithin(v, low, high) -/
theorem ct_X4_isWithin (l : Launch) (G : GD) (L : List Nat) (f : Nat → va_E) (a b c : UInt64) : Ctr l yX4_isWithin cX4_isWithin 6 (some .boolean) R00 G [.double a, .double b, .double c] L f (fun vv L1 f1 => vv = some (.int (bI (inB (dv a) (dv b) (dv c)))) ∧ L = L1 ∧ f = f1) := by
  refine g_enter RX4 false (by decide) rfl (fun h => by cases h) (Nat.le_of_ble_eq_true rfl) (fun C hC => ?_)
  refine (show V C 6 L f 0 0 0 [(0, .double a), (2, .double b), (4, .double c)] [] from ?_)
  refine g_dload_n hC dX4_isWithin_0 0 rfl ?_
  refine g_dload_n hC dX4_isWithin_1 1 rfl ?_
  refine g_dcmpl_lt hC 17 dX4_isWithin_2 dX4_isWithin_3 (by decide) (fun c1 => ?_) (fun c1 => ?_)
  · skip
    refine g_iconst hC 0 dX4_isWithin_17 (by decide) ?_
    exact g_iret hC dX4_isWithin_18 rfl rfl ⟨by simp [bI, inB, c1], rfl, rfl⟩ (Nat.zero_le _) (Nat.zero_le _)
  · skip
    refine g_dload_n hC dX4_isWithin_6 0 rfl ?_
    refine g_dload hC dX4_isWithin_7 2 rfl ?_
    refine g_dcmpg_gt hC 17 dX4_isWithin_9 dX4_isWithin_10 (by decide) (fun c2 => ?_) (fun c2 => ?_)
    · skip
      refine g_iconst hC 0 dX4_isWithin_17 (by decide) ?_
      exact g_iret hC dX4_isWithin_18 rfl rfl ⟨by simp [bI, inB, c1, c2], rfl, rfl⟩ (Nat.zero_le _) (Nat.zero_le _)
    · skip
      refine g_iconst hC 1 dX4_isWithin_13 (by decide) ?_
      refine g_goto hC 18 dX4_isWithin_14 (by decide) ?_
      exact g_iret hC dX4_isWithin_18 rfl rfl ⟨by simp [bI, inB, c1, c2], rfl, rfl⟩ (Nat.zero_le _) (Nat.zero_le _)
set_option maxHeartbeats 4000000 in
set_option maxRecDepth 100000 in
/-- isIn(v, low, high) -/
theorem ct_X5_isIn (l : Launch) (G : GD) (L : List Nat) (f : Nat → va_E) (a b c : UInt64) : Ctr l yX5_isIn cX5_isIn 6 (some .boolean) R00 G [.double a, .double b, .double c] L f (fun vv L1 f1 => vv = some (.int (bI (inB (dv a) (dv b) (dv c)))) ∧ L = L1 ∧ f = f1) := by
  refine g_enter RX5 false (by decide) rfl (fun h => by cases h) (Nat.le_of_ble_eq_true rfl) (fun C hC => ?_)
  refine (show V C 6 L f 0 0 0 [(0, .double a), (2, .double b), (4, .double c)] [] from ?_)
  refine g_dload_n hC dX5_isIn_0 0 rfl ?_
  refine g_dload_n hC dX5_isIn_1 1 rfl ?_
  refine g_dcmpl_lt hC 17 dX5_isIn_2 dX5_isIn_3 (by decide) (fun c1 => ?_) (fun c1 => ?_)
  · skip
    refine g_iconst hC 0 dX5_isIn_17 (by decide) ?_
    exact g_iret hC dX5_isIn_18 rfl rfl ⟨by simp [bI, inB, c1], rfl, rfl⟩ (Nat.zero_le _) (Nat.zero_le _)
  · skip
    refine g_dload_n hC dX5_isIn_6 0 rfl ?_
    refine g_dload hC dX5_isIn_7 2 rfl ?_
    refine g_dcmpg_gt hC 17 dX5_isIn_9 dX5_isIn_10 (by decide) (fun c2 => ?_) (fun c2 => ?_)
    · skip
      refine g_iconst hC 0 dX5_isIn_17 (by decide) ?_
      exact g_iret hC dX5_isIn_18 rfl rfl ⟨by simp [bI, inB, c1, c2], rfl, rfl⟩ (Nat.zero_le _) (Nat.zero_le _)
    · skip
      refine g_iconst hC 1 dX5_isIn_13 (by decide) ?_
      refine g_goto hC 18 dX5_isIn_14 (by decide) ?_
      exact g_iret hC dX5_isIn_18 rfl rfl ⟨by simp [bI, inB, c1, c2], rfl, rfl⟩ (Nat.zero_le _) (Nat.zero_le _)
set_option maxHeartbeats 4000000 in
set_option maxRecDepth 100000 in
/-- isGain(v) -/
theorem ct_X4_isGain (l : Launch) (G : GD) (L : List Nat) (f : Nat → va_E) (a : UInt64) : Ctr l yX4_isGain cX4_isGain 2 (some .boolean) { frames := 1, cells := 0, slots := 0, locals := 25 } G [.double a] L f (fun vv L1 f1 => vv = some (.int (bI (gainS (dv a)))) ∧ L = L1 ∧ f = f1) := by
  refine g_enter RX4 false (by decide) rfl (fun h => by cases h) (Nat.le_of_ble_eq_true rfl) (fun C hC => ?_)
  refine (show V C 2 L f 0 0 0 [(0, .double a)] [] from ?_)
  refine g_dload_n hC dX4_isGain_0 0 rfl ?_
  refine g_dconst0 hC dX4_isGain_1 ?_
  refine g_ldc2 hC dX4_isGain_2 q_cd_X4_137 ?_
  refine g_callS hC dX4_isGain_5 (ct_X4_isWithin l G L f a 0 4652007308841189376) q_code_X4_isWithin q_ml_X4_42 q_st_X4_isWithin q_init_X4 ⟨by decide, by decide, (show (parseMethodDescriptor yX4_isWithin.desc).map (fun d => d.parameters.length) = some 3 from by decide +kernel)⟩ (by decide) (by decide) (Nat.le_of_ble_eq_true rfl) (fun v2 L3 f4 hp1 => ?_)
  obtain ⟨rfl, rfl, rfl⟩ := hp1
  refine (show V C 2 L f 0 0 8 [(0, .double a)] [.int (bI (inB (dv a) (dv 0) (dv 4652007308841189376)))] from ?_)
  exact g_iret hC dX4_isGain_8 rfl (bI_r _) ⟨rfl, rfl, rfl⟩ (Nat.zero_le _) (Nat.zero_le _)
set_option maxHeartbeats 4000000 in
set_option maxRecDepth 100000 in
/-- isReading(v) -/
theorem ct_X4_isReading (l : Launch) (G : GD) (L : List Nat) (f : Nat → va_E) (a : UInt64) : Ctr l yX4_isReading cX4_isReading 2 (some .boolean) { frames := 1, cells := 0, slots := 0, locals := 25 } G [.double a] L f (fun vv L1 f1 => vv = some (.int (bI (readS (dv a)))) ∧ L = L1 ∧ f = f1) := by
  refine g_enter RX4 false (by decide) rfl (fun h => by cases h) (Nat.le_of_ble_eq_true rfl) (fun C hC => ?_)
  refine (show V C 2 L f 0 0 0 [(0, .double a)] [] from ?_)
  refine g_dload_n hC dX4_isReading_0 0 rfl ?_
  refine g_ldc2 hC dX4_isReading_1 q_cd_X4_139 ?_
  refine g_ldc2 hC dX4_isReading_4 q_cd_X4_141 ?_
  refine g_callS hC dX4_isReading_7 (ct_X4_isWithin l G L f a 13920209183539462144 4696837146684686336) q_code_X4_isWithin q_ml_X4_42 q_st_X4_isWithin q_init_X4 ⟨by decide, by decide, (show (parseMethodDescriptor yX4_isWithin.desc).map (fun d => d.parameters.length) = some 3 from by decide +kernel)⟩ (by decide) (by decide) (Nat.le_of_ble_eq_true rfl) (fun v2 L3 f4 hp1 => ?_)
  obtain ⟨rfl, rfl, rfl⟩ := hp1
  refine (show V C 2 L f 0 0 10 [(0, .double a)] [.int (bI (inB (dv a) (dv 13920209183539462144) (dv 4696837146684686336)))] from ?_)
  exact g_iret hC dX4_isReading_10 rfl (bI_r _) ⟨rfl, rfl, rfl⟩ (Nat.zero_le _) (Nat.zero_le _)
set_option maxHeartbeats 4000000 in
set_option maxRecDepth 100000 in
/-- isOrdered(low, high, most) -/
theorem ct_X4_isOrdered (l : Launch) (G : GD) (L : List Nat) (f : Nat → va_E) (a b : UInt64) (m : Int32) : Ctr l yX4_isOrdered cX4_isOrdered 5 (some .boolean) R00 G [.double a, .double b, .int m] L f (fun vv L1 f1 => vv = some (.int (bI (ordS (dv a) (dv b) m))) ∧ L = L1 ∧ f = f1) := by
  refine g_enter RX4 false (by decide) rfl (fun h => by cases h) (Nat.le_of_ble_eq_true rfl) (fun C hC => ?_)
  refine (show V C 5 L f 0 0 0 [(0, .double a), (2, .double b), (4, .int m)] [] from ?_)
  refine g_dload_n hC dX4_isOrdered_0 0 rfl ?_
  refine g_iload hC dX4_isOrdered_1 2 rfl ?_
  refine g_ineg hC dX4_isOrdered_3 ?_
  refine g_i2d hC dX4_isOrdered_4 ?_
  refine g_dcmpl_lt hC 27 dX4_isOrdered_5 dX4_isOrdered_6 (by decide) (fun c1 => ?_) (fun c1 => ?_)
  · skip
    refine g_iconst hC 0 dX4_isOrdered_27 (by decide) ?_
    exact g_iret hC dX4_isOrdered_28 rfl rfl ⟨by simp [bI, ordS, c1], rfl, rfl⟩ (Nat.zero_le _) (Nat.zero_le _)
  · skip
    refine g_dload_n hC dX4_isOrdered_9 0 rfl ?_
    refine g_dload_n hC dX4_isOrdered_10 1 rfl ?_
    refine g_dcmpg_gt hC 27 dX4_isOrdered_11 dX4_isOrdered_12 (by decide) (fun c2 => ?_) (fun c2 => ?_)
    · skip
      refine g_iconst hC 0 dX4_isOrdered_27 (by decide) ?_
      exact g_iret hC dX4_isOrdered_28 rfl rfl ⟨by simp [bI, ordS, c1, c2], rfl, rfl⟩ (Nat.zero_le _) (Nat.zero_le _)
    · skip
      refine g_dload_n hC dX4_isOrdered_15 1 rfl ?_
      refine g_iload hC dX4_isOrdered_16 2 rfl ?_
      refine g_i2d hC dX4_isOrdered_18 ?_
      refine g_dcmpg_gt hC 27 dX4_isOrdered_19 dX4_isOrdered_20 (by decide) (fun c3 => ?_) (fun c3 => ?_)
      · skip
        refine g_iconst hC 0 dX4_isOrdered_27 (by decide) ?_
        exact g_iret hC dX4_isOrdered_28 rfl rfl ⟨by simp [bI, ordS, c1, c2, c3], rfl, rfl⟩ (Nat.zero_le _) (Nat.zero_le _)
      · skip
        refine g_iconst hC 1 dX4_isOrdered_23 (by decide) ?_
        refine g_goto hC 28 dX4_isOrdered_24 (by decide) ?_
        exact g_iret hC dX4_isOrdered_28 rfl rfl ⟨by simp [bI, ordS, c1, c2, c3], rfl, rfl⟩ (Nat.zero_le _) (Nat.zero_le _)
set_option maxHeartbeats 4000000 in
set_option maxRecDepth 100000 in
/-- Span.holds(v) -/
theorem ct_X1_holds (l : Launch) (G : GD) (L : List Nat) (f : Nat → va_E) (a : Nat) (lo hi v : UInt64) (hL_a : a ∈ L) (h0 : f a = eSp lo hi) : Ctr l yX1_holds cX1_holds 3 (some .boolean) R00 G [.ref a, .double v] L f (fun vv L1 f1 => vv = some (.int (bI (inB (dv v) (dv lo) (dv hi)))) ∧ L = L1 ∧ f = f1) := by
  refine g_enter RX1 false (by decide) rfl (fun h => by cases h) (Nat.le_of_ble_eq_true rfl) (fun C hC => ?_)
  refine (show V C 3 L f 0 0 0 [(0, .ref a), (1, .double v)] [] from ?_)
  refine g_dload_n hC dX1_holds_0 1 rfl ?_
  refine g_aload_n hC dX1_holds_1 0 rfl ?_
  refine g_get hC (kf := 0) (TT := TX1) (N := 2) (Cn := RX1) dX1_holds_2 hL_a h0 rfl q_u1 (by decide) q_fl_X1_7 rfl rfl ?_
  refine g_dcmpl_lt hC 22 dX1_holds_5 dX1_holds_6 (by decide) (fun c1 => ?_) (fun c1 => ?_)
  · skip
    refine g_iconst hC 0 dX1_holds_22 (by decide) ?_
    exact g_iret hC dX1_holds_23 rfl rfl ⟨by simp [bI, inB, c1], rfl, rfl⟩ (Nat.zero_le _) (Nat.zero_le _)
  · skip
    refine g_dload_n hC dX1_holds_9 1 rfl ?_
    refine g_aload_n hC dX1_holds_10 0 rfl ?_
    refine g_get hC (kf := 1) (TT := TX1) (N := 2) (Cn := RX1) dX1_holds_11 hL_a h0 rfl q_u1 (by decide) q_fl_X1_13 rfl rfl ?_
    refine g_dcmpg_gt hC 22 dX1_holds_14 dX1_holds_15 (by decide) (fun c2 => ?_) (fun c2 => ?_)
    · skip
      refine g_iconst hC 0 dX1_holds_22 (by decide) ?_
      exact g_iret hC dX1_holds_23 rfl rfl ⟨by simp [bI, inB, c1, c2], rfl, rfl⟩ (Nat.zero_le _) (Nat.zero_le _)
    · skip
      refine g_iconst hC 1 dX1_holds_18 (by decide) ?_
      refine g_goto hC 23 dX1_holds_19 (by decide) ?_
      exact g_iret hC dX1_holds_23 rfl rfl ⟨by simp [bI, inB, c1, c2], rfl, rfl⟩ (Nat.zero_le _) (Nat.zero_le _)
set_option maxHeartbeats 4000000 in
set_option maxRecDepth 100000 in
/-- Span.holdsInside(v) -/
theorem ct_X1_holdsInside (l : Launch) (G : GD) (L : List Nat) (f : Nat → va_E) (a : Nat) (lo hi v : UInt64) (hL_a : a ∈ L) (h0 : f a = eSp lo hi) : Ctr l yX1_holdsInside cX1_holdsInside 3 (some .boolean) R00 G [.ref a, .double v] L f (fun vv L1 f1 => vv = some (.int (bI (inS (dv v) (dv lo) (dv hi)))) ∧ L = L1 ∧ f = f1) := by
  refine g_enter RX1 false (by decide) rfl (fun h => by cases h) (Nat.le_of_ble_eq_true rfl) (fun C hC => ?_)
  refine (show V C 3 L f 0 0 0 [(0, .ref a), (1, .double v)] [] from ?_)
  refine g_dload_n hC dX1_holdsInside_0 1 rfl ?_
  refine g_aload_n hC dX1_holdsInside_1 0 rfl ?_
  refine g_get hC (kf := 0) (TT := TX1) (N := 2) (Cn := RX1) dX1_holdsInside_2 hL_a h0 rfl q_u1 (by decide) q_fl_X1_7 rfl rfl ?_
  refine g_dcmpl_le hC 22 dX1_holdsInside_5 dX1_holdsInside_6 (by decide) (fun c1 => ?_) (fun c1 => ?_)
  · skip
    refine g_iconst hC 0 dX1_holdsInside_22 (by decide) ?_
    exact g_iret hC dX1_holdsInside_23 rfl rfl ⟨by simp [bI, inS, c1], rfl, rfl⟩ (Nat.zero_le _) (Nat.zero_le _)
  · skip
    refine g_dload_n hC dX1_holdsInside_9 1 rfl ?_
    refine g_aload_n hC dX1_holdsInside_10 0 rfl ?_
    refine g_get hC (kf := 1) (TT := TX1) (N := 2) (Cn := RX1) dX1_holdsInside_11 hL_a h0 rfl q_u1 (by decide) q_fl_X1_13 rfl rfl ?_
    refine g_dcmpg_ge hC 22 dX1_holdsInside_14 dX1_holdsInside_15 (by decide) (fun c2 => ?_) (fun c2 => ?_)
    · skip
      refine g_iconst hC 0 dX1_holdsInside_22 (by decide) ?_
      exact g_iret hC dX1_holdsInside_23 rfl rfl ⟨by simp [bI, inS, c1, c2], rfl, rfl⟩ (Nat.zero_le _) (Nat.zero_le _)
    · skip
      refine g_iconst hC 1 dX1_holdsInside_18 (by decide) ?_
      refine g_goto hC 23 dX1_holdsInside_19 (by decide) ?_
      exact g_iret hC dX1_holdsInside_23 rfl rfl ⟨by simp [bI, inS, c1, c2], rfl, rfl⟩ (Nat.zero_le _) (Nat.zero_le _)
set_option maxHeartbeats 4000000 in
set_option maxRecDepth 100000 in
/-- Span.nearest(v) -/
theorem ct_X1_nearest (l : Launch) (G : GD) (L : List Nat) (f : Nat → va_E) (a : Nat) (lo hi v : UInt64) (hL_a : a ∈ L) (h0 : f a = eSp lo hi) : Ctr l yX1_nearest cX1_nearest 3 (some .double) R00 G [.ref a, .double v] L f (fun vv L1 f1 => ∃ r : UInt64, vv = some (.double r) ∧ dv r = nearS (dv v) (dv lo) (dv hi) ∧ L = L1 ∧ f = f1) := by
  refine g_enter RX1 false (by decide) rfl (fun h => by cases h) (Nat.le_of_ble_eq_true rfl) (fun C hC => ?_)
  refine (show V C 3 L f 0 0 0 [(0, .ref a), (1, .double v)] [] from ?_)
  refine g_dload_n hC dX1_nearest_0 1 rfl ?_
  refine g_aload_n hC dX1_nearest_1 0 rfl ?_
  refine g_get hC (kf := 0) (TT := TX1) (N := 2) (Cn := RX1) dX1_nearest_2 hL_a h0 rfl q_u1 (by decide) q_fl_X1_7 rfl rfl ?_
  refine g_dcmpg_ge hC 16 dX1_nearest_5 dX1_nearest_6 (by decide) (fun c1 => ?_) (fun c1 => ?_)
  · skip
    refine g_dload_n hC dX1_nearest_16 1 rfl ?_
    refine g_aload_n hC dX1_nearest_17 0 rfl ?_
    refine g_get hC (kf := 1) (TT := TX1) (N := 2) (Cn := RX1) dX1_nearest_18 hL_a h0 rfl q_u1 (by decide) q_fl_X1_13 rfl rfl ?_
    refine g_dcmpl_le hC 32 dX1_nearest_21 dX1_nearest_22 (by decide) (fun c2 => ?_) (fun c2 => ?_)
    · skip
      refine g_dload_n hC dX1_nearest_32 1 rfl ?_
      exact g_dret hC dX1_nearest_33 rfl ⟨_, rfl, by simp [nearS, c1, c2], rfl, rfl⟩ (Nat.zero_le _) (Nat.zero_le _)
    · skip
      refine g_aload_n hC dX1_nearest_25 0 rfl ?_
      refine g_get hC (kf := 1) (TT := TX1) (N := 2) (Cn := RX1) dX1_nearest_26 hL_a h0 rfl q_u1 (by decide) q_fl_X1_13 rfl rfl ?_
      refine g_goto hC 33 dX1_nearest_29 (by decide) ?_
      exact g_dret hC dX1_nearest_33 rfl ⟨_, rfl, by simp [nearS, c1, c2], rfl, rfl⟩ (Nat.zero_le _) (Nat.zero_le _)
  · skip
    refine g_aload_n hC dX1_nearest_9 0 rfl ?_
    refine g_get hC (kf := 0) (TT := TX1) (N := 2) (Cn := RX1) dX1_nearest_10 hL_a h0 rfl q_u1 (by decide) q_fl_X1_7 rfl rfl ?_
    refine g_goto hC 33 dX1_nearest_13 (by decide) ?_
    exact g_dret hC dX1_nearest_33 rfl ⟨_, rfl, by simp [nearS, c1], rfl, rfl⟩ (Nat.zero_le _) (Nat.zero_le _)
set_option maxHeartbeats 4000000 in
set_option maxRecDepth 100000 in
/-- Span.set(low, high) -/
theorem ct_X1_set (l : Launch) (G : GD) (L : List Nat) (f : Nat → va_E) (a : Nat) (lo hi v w : UInt64) (hL_a : a ∈ L) (h0 : f a = eSp lo hi) : Ctr l yX1_set cX1_set 5 none R00 G [.ref a, .double v, .double w] L f (fun vv L1 f1 => vv = none ∧ L = L1 ∧ f1 = va_up f a (eSp v w)) := by
  refine g_enter RX1 false (by decide) rfl (fun h => by cases h) (Nat.le_of_ble_eq_true rfl) (fun C hC => ?_)
  refine (show V C 5 L f 0 0 0 [(0, .ref a), (1, .double v), (3, .double w)] [] from ?_)
  refine g_aload_n hC dX1_set_0 0 rfl ?_
  refine g_dload_n hC dX1_set_1 1 rfl ?_
  refine g_put hC (kf := 0) (TT := TX1) (N := 2) (Cn := RX1) (ty0 := tyX1) (fs1 := [.double v, .double hi]) dX1_set_2 hL_a h0 rfl q_u1 (by decide) tyX1_ok nmX1 q_fl_X1_7 rfl rfl rfl rfl rfl (Nat.le_of_ble_eq_true rfl) rfl ?_
  refine g_nm (fun f1 hf2 => ?_)
  have hx3 : f1 a = .inr (1, [.double v, .double hi]) := by rw [hf2]; exact va_up_self _ _ _
  have hF4 : f1 = va_up f a (.inr (1, [.double v, .double hi])) := hf2
  refine g_aload_n hC dX1_set_5 0 rfl ?_
  refine g_dload_n hC dX1_set_6 2 rfl ?_
  refine g_put hC (kf := 1) (TT := TX1) (N := 2) (Cn := RX1) (ty0 := tyX1) (fs1 := [.double v, .double w]) dX1_set_7 hL_a hx3 rfl q_u1 (by decide) tyX1_ok nmX1 q_fl_X1_13 rfl rfl rfl rfl rfl (Nat.le_of_ble_eq_true rfl) rfl ?_
  refine g_nm (fun f5 hf6 => ?_)
  have hx7 : f5 a = .inr (1, [.double v, .double w]) := by rw [hf6]; exact va_up_self _ _ _
  have hF8 : f5 = va_up f a (.inr (1, [.double v, .double w])) := by rw [hf6, hF4, va_up_up]
  exact g_vret hC dX1_set_10 rfl ⟨rfl, rfl, hF8⟩ (Nat.zero_le _) (Nat.zero_le _)
set_option maxHeartbeats 4000000 in
set_option maxRecDepth 100000 in
/-- Span(low, high) -/
theorem ct_X1_init (l : Launch) (G : GD) (L : List Nat) (f : Nat → va_E) (a : Nat) (lo hi v w : UInt64) (hL_a : a ∈ L) (h0 : f a = eSp lo hi) : Ctr l yX1_init cX1_init 5 none { frames := 1, cells := 0, slots := 0, locals := 12 } G [.ref a, .double v, .double w] L f (fun vv L1 f1 => vv = none ∧ L = L1 ∧ f1 = va_up f a (eSp v w)) := by
  refine g_enter RX1 true (by decide) rfl (fun _ => rfl) (Nat.le_of_ble_eq_true rfl) (fun C hC => ?_)
  refine (show V C 5 L f 0 0 0 [(0, .ref a), (1, .double v), (3, .double w)] [] from ?_)
  refine g_aload_n hC dX1_init_0 0 rfl ?_
  refine g_objInit hC dX1_init_1 q_ml_X1_1 (by decide) (by decide) ?_
  refine g_aload_n hC dX1_init_4 0 rfl ?_
  refine g_dload_n hC dX1_init_5 1 rfl ?_
  refine g_put hC (kf := 0) (TT := TX1) (N := 2) (Cn := RX1) (ty0 := tyX1) (fs1 := [.double v, .double hi]) dX1_init_6 hL_a h0 rfl q_u1 (by decide) tyX1_ok nmX1 q_fl_X1_7 rfl rfl rfl rfl rfl (Nat.le_of_ble_eq_true rfl) rfl ?_
  refine g_nm (fun f1 hf2 => ?_)
  have hx3 : f1 a = .inr (1, [.double v, .double hi]) := by rw [hf2]; exact va_up_self _ _ _
  have hF4 : f1 = va_up f a (.inr (1, [.double v, .double hi])) := hf2
  refine g_aload_n hC dX1_init_9 0 rfl ?_
  refine g_dload_n hC dX1_init_10 2 rfl ?_
  refine g_put hC (kf := 1) (TT := TX1) (N := 2) (Cn := RX1) (ty0 := tyX1) (fs1 := [.double v, .double w]) dX1_init_11 hL_a hx3 rfl q_u1 (by decide) tyX1_ok nmX1 q_fl_X1_13 rfl rfl rfl rfl rfl (Nat.le_of_ble_eq_true rfl) rfl ?_
  refine g_nm (fun f5 hf6 => ?_)
  have hx7 : f5 a = .inr (1, [.double v, .double w]) := by rw [hf6]; exact va_up_self _ _ _
  have hF8 : f5 = va_up f a (.inr (1, [.double v, .double w])) := by rw [hf6, hF4, va_up_up]
  exact g_vret hC dX1_init_14 rfl ⟨rfl, rfl, hF8⟩ (Nat.zero_le _) (Nat.zero_le _)
