set_option maxHeartbeats 4000000 in
set_option maxRecDepth 100000 in
/-- isLoop(k) -/
theorem ct_X5_isLoop (l : Launch) (G : GD) (L : List Nat) (f : Nat → va_E) {q0 : Nat} {ma : Nat → Nat} {n k : Nat} {Y : Nat → Nat → UInt64} {W0 : Nat → Nat → Int32} (hM : MI G q0 ma n k Y W0 L f) (kx : Int32) : Ctr l yX5_isLoop cX5_isLoop 2 (some .boolean) R00 G [.ref q0, .int kx] L f (fun vv L1 f1 => vv = some (.int (bI (okL n kx))) ∧ L = L1 ∧ f = f1) := by
  refine g_enter RX5 false (by decide) rfl (fun h => by cases h) (Nat.le_of_ble_eq_true rfl) (fun C hC => ?_)
  refine (show V C 2 L f 0 0 0 [(0, .ref q0), (1, .int kx)] [] from ?_)
  refine g_iload_n hC dX5_isLoop_0 1 rfl ?_
  refine g_if_lt hC 16 dX5_isLoop_1 (by decide) (fun c1 => ?_) (fun c1 => ?_)
  · skip
    refine g_iconst hC 0 dX5_isLoop_16 (by decide) ?_
    exact g_iret hC dX5_isLoop_17 rfl rfl ⟨by simp only [okL, Bool.and_true, Bool.true_and, Bool.and_false, Bool.false_and, Bool.not_true, Bool.not_false, decide_true, decide_false, Bool.or_true, Bool.true_or, Bool.or_false, Bool.false_or, eq_true c1]; rfl, rfl, rfl⟩ (Nat.zero_le _) (Nat.zero_le _)
  · skip
    refine g_iload_n hC dX5_isLoop_4 1 rfl ?_
    refine g_aload_n hC dX5_isLoop_5 0 rfl ?_
    refine g_get hC (kf := 0) (TT := TX5) (N := 26) (Cn := RX5) dX5_isLoop_6 (MI.m hM) (MI.o hM) rfl q_u5 (by decide) q_fl_X5_84 rfl rfl ?_
    refine g_icmp_ge hC 16 dX5_isLoop_9 (by decide) (fun c2 => ?_) (fun c2 => ?_)
    · skip
      refine g_iconst hC 0 dX5_isLoop_16 (by decide) ?_
      exact g_iret hC dX5_isLoop_17 rfl rfl ⟨by simp only [okL, Bool.and_true, Bool.true_and, Bool.and_false, Bool.false_and, Bool.not_true, Bool.not_false, decide_true, decide_false, Bool.or_true, Bool.true_or, Bool.or_false, Bool.false_or, eq_false c1, eq_true c2]; rfl, rfl, rfl⟩ (Nat.zero_le _) (Nat.zero_le _)
    · skip
      refine g_iconst hC 1 dX5_isLoop_12 (by decide) ?_
      refine g_goto hC 17 dX5_isLoop_13 (by decide) ?_
      exact g_iret hC dX5_isLoop_17 rfl rfl ⟨by simp only [okL, Bool.and_true, Bool.true_and, Bool.and_false, Bool.false_and, Bool.not_true, Bool.not_false, decide_true, decide_false, Bool.or_true, Bool.true_or, Bool.or_false, Bool.false_or, eq_false c1, eq_false c2]; rfl, rfl, rfl⟩ (Nat.zero_le _) (Nat.zero_le _)
def limM (lo hi rt : DT) : Bool := ((safC lo && safC hi) && qlt lo hi) && (qgt rt (dv 0) && !qgt rt (dv 4666723172467343360))
def bndM (lo hi : DT) : Bool := safC lo && inB hi lo (dv 4666723172467343360)
def rngM (lo hi : DT) : Bool := readS lo && inB hi lo (dv 4696837146684686336)
set_option maxHeartbeats 4000000 in
set_option maxRecDepth 100000 in
/-- safe of the model -/
theorem ct_X5_safe (l : Launch) (G : GD) (L : List Nat) (f : Nat → va_E) {q0 : Nat} {ma : Nat → Nat} {n k : Nat} {Y : Nat → Nat → UInt64} {W0 : Nat → Nat → Int32} (hM : MI G q0 ma n k Y W0 L f) (kx : Int32) (v : UInt64) : Ctr l yX5_safe cX5_safe 4 (some .boolean) { frames := 1, cells := 0, slots := 0, locals := 30 } G [.ref q0, .int kx, .double v] L f (fun vv L1 f1 => L = L1 ∧ (((∀ i, i < n → kx = nI i → safC (dv v) = false) ∧ vv = some (.int 0) ∧ f = f1) ∨ (∃ i, i < n ∧ kx = nI i ∧ safC (dv v) = true ∧ vv = some (.int 1) ∧ FRm L f f1 ∧ MI G q0 ma n k (up2 Y i 4 v) W0 L f1))) := by
  refine g_enter RX5 false (by decide) rfl (fun h => by cases h) (Nat.le_of_ble_eq_true rfl) (fun C hC => ?_)
  refine (show V C 4 L f 0 0 0 [(0, .ref q0), (1, .int kx), (2, .double v)] [] from ?_)
  refine g_aload_n hC dX5_safe_0 0 rfl ?_
  refine g_iload_n hC dX5_safe_1 1 rfl ?_
  refine g_callV hC (Cn := RX5) (TT := TX5) (N := 26) dX5_safe_2 (ct_X5_isLoop l G L f hM kx) q_code_X5_isLoop q_ml_X5_98 q_im_X5_isLoop q_sel_X5_isLoop q_init_X5 ⟨rfl, by decide, by decide, (show (parseMethodDescriptor yX5_isLoop.desc).map (fun d => d.parameters.length) = some 1 from by decide +kernel)⟩ (MI.m hM) (MI.o hM) rfl (by decide) (by decide) (Nat.le_of_ble_eq_true rfl) (fun v2 L3 f4 hp1 => ?_)
  obtain ⟨rfl, rfl, rfl⟩ := hp1
  rcases okL_cases (MI.n16 hM) kx with ⟨hb, hnoi⟩ | ⟨i, hi, rfl, hb⟩
  · refine g_eqI (show bI (okL n kx) = 0 from by rw [hb]; rfl) ?_
    refine g_if_eq hC 21 dX5_safe_5 (by decide) (fun _ => ?_) (fun c => absurd c (by decide))
    refine g_iconst hC 0 dX5_safe_21 (by decide) ?_
    exact g_iret hC dX5_safe_22 rfl rfl ⟨rfl, Or.inl ⟨fun j hj q => absurd q (hnoi j hj), rfl, rfl⟩⟩ (Nat.zero_le _) (Nat.zero_le _)
  · refine g_eqI (show bI (okL n (nI i)) = 1 from by rw [hb]; rfl) ?_
    have hi16 : i < 16 := by have := MI.n16 hM; omega
    refine g_if_eq hC 21 dX5_safe_5 (by decide) (fun c => absurd c (by decide)) (fun _ => ?_)
    refine g_dload_n hC dX5_safe_8 2 rfl ?_
    refine g_ldc2 hC dX5_safe_9 q_cd_X5_102 ?_
    refine g_ldc2 hC dX5_safe_12 q_cd_X5_104 ?_
    refine g_callS hC dX5_safe_15 (ct_X5_isIn l G L f v 13890095209322119168 4666723172467343360) q_code_X5_isIn q_ml_X5_90 q_st_X5_isIn q_init_X5 ⟨by decide, by decide, (show (parseMethodDescriptor yX5_isIn.desc).map (fun d => d.parameters.length) = some 3 from by decide +kernel)⟩ (by decide) (by decide) (Nat.le_of_ble_eq_true rfl) (fun v6 L7 f8 hp5 => ?_)
    obtain ⟨rfl, rfl, rfl⟩ := hp5
    refine (show V C 4 L f 0 0 18 [(0, .ref q0), (1, .int (nI i)), (2, .double v)] [.int (bI (inB (dv v) (dv 13890095209322119168) (dv 4666723172467343360)))] from ?_)
    refine g_ifB_ne hC 23 dX5_safe_18 (by decide) (fun c9 => ?_) (fun c9 => ?_)
    · skip
      refine g_aload_n hC dX5_safe_23 0 rfl ?_
      refine g_get hC (kf := 7) (TT := TX5) (N := 26) (Cn := RX5) dX5_safe_24 (MI.m hM) (MI.o hM) rfl q_u5 (by decide) q_fl_X5_28 rfl rfl ?_
      refine g_iload_n hC dX5_safe_27 1 rfl ?_
      refine g_dload_n hC dX5_safe_28 2 rfl ?_
      refine g_mds hC hM 4 (by decide) (by decide) hi16 dX5_safe_29 (fun f10 hM11 hR12 => ?_)
      refine g_iconst hC 1 dX5_safe_30 (by decide) ?_
      exact g_iret hC dX5_safe_31 rfl rfl ⟨rfl, Or.inr ⟨i, hi, rfl, by simp only [safC, Bool.and_true, Bool.true_and, Bool.and_false, Bool.false_and, Bool.not_true, Bool.not_false, decide_true, decide_false, Bool.or_true, Bool.true_or, Bool.or_false, Bool.false_or, c9], rfl, hR12, hM11⟩⟩ (Nat.zero_le _) (Nat.zero_le _)
    · skip
      refine g_iconst hC 0 dX5_safe_21 (by decide) ?_
      exact g_iret hC dX5_safe_22 rfl rfl ⟨rfl, Or.inl ⟨fun _ _ _ => by simp only [safC, Bool.and_true, Bool.true_and, Bool.and_false, Bool.false_and, Bool.not_true, Bool.not_false, decide_true, decide_false, Bool.or_true, Bool.true_or, Bool.or_false, Bool.false_or, c9], rfl, rfl⟩⟩ (Nat.zero_le _) (Nat.zero_le _)
set_option maxHeartbeats 4000000 in
set_option maxRecDepth 100000 in
/-- limits of the model -/
theorem ct_X5_limits (l : Launch) (G : GD) (L : List Nat) (f : Nat → va_E) {q0 : Nat} {ma : Nat → Nat} {n k : Nat} {Y : Nat → Nat → UInt64} {W0 : Nat → Nat → Int32} (hM : MI G q0 ma n k Y W0 L f) (kx : Int32) (lo hi0 rt : UInt64) : Ctr l yX5_limits cX5_limits 8 (some .boolean) { frames := 1, cells := 0, slots := 0, locals := 30 } G [.ref q0, .int kx, .double lo, .double hi0, .double rt] L f (fun vv L1 f1 => L = L1 ∧ (((∀ i, i < n → kx = nI i → limM (dv lo) (dv hi0) (dv rt) = false) ∧ vv = some (.int 0) ∧ f = f1) ∨ (∃ i, i < n ∧ kx = nI i ∧ limM (dv lo) (dv hi0) (dv rt) = true ∧ vv = some (.int 1) ∧ FRm L f f1 ∧ MI G q0 ma n k (up2 (up2 (up2 Y i 9 lo) i 10 hi0) i 3 rt) W0 L f1))) := by
  refine g_enter RX5 false (by decide) rfl (fun h => by cases h) (Nat.le_of_ble_eq_true rfl) (fun C hC => ?_)
  refine (show V C 8 L f 0 0 0 [(0, .ref q0), (1, .int kx), (2, .double lo), (4, .double hi0), (6, .double rt)] [] from ?_)
  refine g_aload_n hC dX5_limits_0 0 rfl ?_
  refine g_iload_n hC dX5_limits_1 1 rfl ?_
  refine g_callV hC (Cn := RX5) (TT := TX5) (N := 26) dX5_limits_2 (ct_X5_isLoop l G L f hM kx) q_code_X5_isLoop q_ml_X5_98 q_im_X5_isLoop q_sel_X5_isLoop q_init_X5 ⟨rfl, by decide, by decide, (show (parseMethodDescriptor yX5_isLoop.desc).map (fun d => d.parameters.length) = some 1 from by decide +kernel)⟩ (MI.m hM) (MI.o hM) rfl (by decide) (by decide) (Nat.le_of_ble_eq_true rfl) (fun v2 L3 f4 hp1 => ?_)
  obtain ⟨rfl, rfl, rfl⟩ := hp1
  rcases okL_cases (MI.n16 hM) kx with ⟨hb, hnoi⟩ | ⟨i, hi, rfl, hb⟩
  · refine g_eqI (show bI (okL n kx) = 0 from by rw [hb]; rfl) ?_
    refine g_if_eq hC 58 dX5_limits_5 (by decide) (fun _ => ?_) (fun c => absurd c (by decide))
    refine g_iconst hC 0 dX5_limits_58 (by decide) ?_
    exact g_iret hC dX5_limits_59 rfl rfl ⟨rfl, Or.inl ⟨fun j hj q => absurd q (hnoi j hj), rfl, rfl⟩⟩ (Nat.zero_le _) (Nat.zero_le _)
  · refine g_eqI (show bI (okL n (nI i)) = 1 from by rw [hb]; rfl) ?_
    have hi16 : i < 16 := by have := MI.n16 hM; omega
    refine g_if_eq hC 58 dX5_limits_5 (by decide) (fun c => absurd c (by decide)) (fun _ => ?_)
    refine g_dload_n hC dX5_limits_8 2 rfl ?_
    refine g_ldc2 hC dX5_limits_9 q_cd_X5_102 ?_
    refine g_ldc2 hC dX5_limits_12 q_cd_X5_104 ?_
    refine g_callS hC dX5_limits_15 (ct_X5_isIn l G L f lo 13890095209322119168 4666723172467343360) q_code_X5_isIn q_ml_X5_90 q_st_X5_isIn q_init_X5 ⟨by decide, by decide, (show (parseMethodDescriptor yX5_isIn.desc).map (fun d => d.parameters.length) = some 3 from by decide +kernel)⟩ (by decide) (by decide) (Nat.le_of_ble_eq_true rfl) (fun v6 L7 f8 hp5 => ?_)
    obtain ⟨rfl, rfl, rfl⟩ := hp5
    refine (show V C 8 L f 0 0 18 [(0, .ref q0), (1, .int (nI i)), (2, .double lo), (4, .double hi0), (6, .double rt)] [.int (bI (inB (dv lo) (dv 13890095209322119168) (dv 4666723172467343360)))] from ?_)
    refine g_ifB_eq hC 58 dX5_limits_18 (by decide) (fun c9 => ?_) (fun c9 => ?_)
    · skip
      refine g_iconst hC 0 dX5_limits_58 (by decide) ?_
      exact g_iret hC dX5_limits_59 rfl rfl ⟨rfl, Or.inl ⟨fun _ _ _ => by simp only [limM, safC, Bool.and_true, Bool.true_and, Bool.and_false, Bool.false_and, Bool.not_true, Bool.not_false, decide_true, decide_false, Bool.or_true, Bool.true_or, Bool.or_false, Bool.false_or, c9], rfl, rfl⟩⟩ (Nat.zero_le _) (Nat.zero_le _)
    · skip
      refine g_dload hC dX5_limits_21 3 rfl ?_
      refine g_ldc2 hC dX5_limits_23 q_cd_X5_102 ?_
      refine g_ldc2 hC dX5_limits_26 q_cd_X5_104 ?_
      refine g_callS hC dX5_limits_29 (ct_X5_isIn l G L f hi0 13890095209322119168 4666723172467343360) q_code_X5_isIn q_ml_X5_90 q_st_X5_isIn q_init_X5 ⟨by decide, by decide, (show (parseMethodDescriptor yX5_isIn.desc).map (fun d => d.parameters.length) = some 3 from by decide +kernel)⟩ (by decide) (by decide) (Nat.le_of_ble_eq_true rfl) (fun v11 L12 f13 hp10 => ?_)
      obtain ⟨rfl, rfl, rfl⟩ := hp10
      refine (show V C 8 L f 0 0 32 [(0, .ref q0), (1, .int (nI i)), (2, .double lo), (4, .double hi0), (6, .double rt)] [.int (bI (inB (dv hi0) (dv 13890095209322119168) (dv 4666723172467343360)))] from ?_)
      refine g_ifB_eq hC 58 dX5_limits_32 (by decide) (fun c14 => ?_) (fun c14 => ?_)
      · skip
        refine g_iconst hC 0 dX5_limits_58 (by decide) ?_
        exact g_iret hC dX5_limits_59 rfl rfl ⟨rfl, Or.inl ⟨fun _ _ _ => by simp only [limM, safC, Bool.and_true, Bool.true_and, Bool.and_false, Bool.false_and, Bool.not_true, Bool.not_false, decide_true, decide_false, Bool.or_true, Bool.true_or, Bool.or_false, Bool.false_or, c9, c14], rfl, rfl⟩⟩ (Nat.zero_le _) (Nat.zero_le _)
      · skip
        refine g_dload_n hC dX5_limits_35 2 rfl ?_
        refine g_dload hC dX5_limits_36 3 rfl ?_
        refine g_dcmpg_ge hC 58 dX5_limits_38 dX5_limits_39 (by decide) (fun c15 => ?_) (fun c15 => ?_)
        · skip
          refine g_iconst hC 0 dX5_limits_58 (by decide) ?_
          exact g_iret hC dX5_limits_59 rfl rfl ⟨rfl, Or.inl ⟨fun _ _ _ => by simp only [limM, safC, Bool.and_true, Bool.true_and, Bool.and_false, Bool.false_and, Bool.not_true, Bool.not_false, decide_true, decide_false, Bool.or_true, Bool.true_or, Bool.or_false, Bool.false_or, c9, c14, c15], rfl, rfl⟩⟩ (Nat.zero_le _) (Nat.zero_le _)
        · skip
          refine g_dload hC dX5_limits_42 4 rfl ?_
          refine g_dconst0 hC dX5_limits_44 ?_
          refine g_dcmpl_le hC 58 dX5_limits_45 dX5_limits_46 (by decide) (fun c16 => ?_) (fun c16 => ?_)
          · skip
            refine g_iconst hC 0 dX5_limits_58 (by decide) ?_
            exact g_iret hC dX5_limits_59 rfl rfl ⟨rfl, Or.inl ⟨fun _ _ _ => by simp only [limM, safC, Bool.and_true, Bool.true_and, Bool.and_false, Bool.false_and, Bool.not_true, Bool.not_false, decide_true, decide_false, Bool.or_true, Bool.true_or, Bool.or_false, Bool.false_or, c9, c14, c15, c16], rfl, rfl⟩⟩ (Nat.zero_le _) (Nat.zero_le _)
          · skip
            refine g_dload hC dX5_limits_49 4 rfl ?_
            refine g_ldc2 hC dX5_limits_51 q_cd_X5_104 ?_
            refine g_dcmpl_le hC 60 dX5_limits_54 dX5_limits_55 (by decide) (fun c17 => ?_) (fun c17 => ?_)
            · skip
              refine g_aload_n hC dX5_limits_60 0 rfl ?_
              refine g_get hC (kf := 4) (TT := TX5) (N := 26) (Cn := RX5) dX5_limits_61 (MI.m hM) (MI.o hM) rfl q_u5 (by decide) q_fl_X5_19 rfl rfl ?_
              refine g_iload_n hC dX5_limits_64 1 rfl ?_
              refine g_dload_n hC dX5_limits_65 2 rfl ?_
              refine g_mds hC hM 9 (by decide) (by decide) hi16 dX5_limits_66 (fun f18 hM19 hR20 => ?_)
              refine g_aload_n hC dX5_limits_67 0 rfl ?_
              refine g_get hC (kf := 5) (TT := TX5) (N := 26) (Cn := RX5) dX5_limits_68 (MI.m hM19) (MI.o hM19) rfl q_u5 (by decide) q_fl_X5_22 rfl rfl ?_
              refine g_iload_n hC dX5_limits_71 1 rfl ?_
              refine g_dload hC dX5_limits_72 3 rfl ?_
              refine g_mds hC hM19 10 (by decide) (by decide) hi16 dX5_limits_74 (fun f21 hM22 hR23 => ?_)
              refine g_aload_n hC dX5_limits_75 0 rfl ?_
              refine g_get hC (kf := 6) (TT := TX5) (N := 26) (Cn := RX5) dX5_limits_76 (MI.m hM22) (MI.o hM22) rfl q_u5 (by decide) q_fl_X5_25 rfl rfl ?_
              refine g_iload_n hC dX5_limits_79 1 rfl ?_
              refine g_dload hC dX5_limits_80 4 rfl ?_
              refine g_mds hC hM22 3 (by decide) (by decide) hi16 dX5_limits_82 (fun f24 hM25 hR26 => ?_)
              refine g_iconst hC 1 dX5_limits_83 (by decide) ?_
              exact g_iret hC dX5_limits_84 rfl rfl ⟨rfl, Or.inr ⟨i, hi, rfl, by simp only [limM, safC, Bool.and_true, Bool.true_and, Bool.and_false, Bool.false_and, Bool.not_true, Bool.not_false, decide_true, decide_false, Bool.or_true, Bool.true_or, Bool.or_false, Bool.false_or, c9, c14, c15, c16, c17], rfl, (FRm.trans (FRm.trans hR20 hR23) hR26), hM25⟩⟩ (Nat.zero_le _) (Nat.zero_le _)
            · skip
              refine g_iconst hC 0 dX5_limits_58 (by decide) ?_
              exact g_iret hC dX5_limits_59 rfl rfl ⟨rfl, Or.inl ⟨fun _ _ _ => by simp only [limM, safC, Bool.and_true, Bool.true_and, Bool.and_false, Bool.false_and, Bool.not_true, Bool.not_false, decide_true, decide_false, Bool.or_true, Bool.true_or, Bool.or_false, Bool.false_or, c9, c14, c15, c16, c17], rfl, rfl⟩⟩ (Nat.zero_le _) (Nat.zero_le _)
set_option maxHeartbeats 4000000 in
set_option maxRecDepth 100000 in
/-- band of the model -/
theorem ct_X5_band (l : Launch) (G : GD) (L : List Nat) (f : Nat → va_E) {q0 : Nat} {ma : Nat → Nat} {n k : Nat} {Y : Nat → Nat → UInt64} {W0 : Nat → Nat → Int32} (hM : MI G q0 ma n k Y W0 L f) (kx : Int32) (lo hi0 : UInt64) : Ctr l yX5_band cX5_band 6 (some .boolean) { frames := 1, cells := 0, slots := 0, locals := 30 } G [.ref q0, .int kx, .double lo, .double hi0] L f (fun vv L1 f1 => L = L1 ∧ (((∀ i, i < n → kx = nI i → bndM (dv lo) (dv hi0) = false) ∧ vv = some (.int 0) ∧ f = f1) ∨ (∃ i, i < n ∧ kx = nI i ∧ bndM (dv lo) (dv hi0) = true ∧ vv = some (.int 1) ∧ FRm L f f1 ∧ MI G q0 ma n k (up2 (up2 Y i 11 lo) i 12 hi0) W0 L f1))) := by
  refine g_enter RX5 false (by decide) rfl (fun h => by cases h) (Nat.le_of_ble_eq_true rfl) (fun C hC => ?_)
  refine (show V C 6 L f 0 0 0 [(0, .ref q0), (1, .int kx), (2, .double lo), (4, .double hi0)] [] from ?_)
  refine g_aload_n hC dX5_band_0 0 rfl ?_
  refine g_iload_n hC dX5_band_1 1 rfl ?_
  refine g_callV hC (Cn := RX5) (TT := TX5) (N := 26) dX5_band_2 (ct_X5_isLoop l G L f hM kx) q_code_X5_isLoop q_ml_X5_98 q_im_X5_isLoop q_sel_X5_isLoop q_init_X5 ⟨rfl, by decide, by decide, (show (parseMethodDescriptor yX5_isLoop.desc).map (fun d => d.parameters.length) = some 1 from by decide +kernel)⟩ (MI.m hM) (MI.o hM) rfl (by decide) (by decide) (Nat.le_of_ble_eq_true rfl) (fun v2 L3 f4 hp1 => ?_)
  obtain ⟨rfl, rfl, rfl⟩ := hp1
  rcases okL_cases (MI.n16 hM) kx with ⟨hb, hnoi⟩ | ⟨i, hi, rfl, hb⟩
  · refine g_eqI (show bI (okL n kx) = 0 from by rw [hb]; rfl) ?_
    refine g_if_eq hC 33 dX5_band_5 (by decide) (fun _ => ?_) (fun c => absurd c (by decide))
    refine g_iconst hC 0 dX5_band_33 (by decide) ?_
    exact g_iret hC dX5_band_34 rfl rfl ⟨rfl, Or.inl ⟨fun j hj q => absurd q (hnoi j hj), rfl, rfl⟩⟩ (Nat.zero_le _) (Nat.zero_le _)
  · refine g_eqI (show bI (okL n (nI i)) = 1 from by rw [hb]; rfl) ?_
    have hi16 : i < 16 := by have := MI.n16 hM; omega
    refine g_if_eq hC 33 dX5_band_5 (by decide) (fun c => absurd c (by decide)) (fun _ => ?_)
    refine g_dload_n hC dX5_band_8 2 rfl ?_
    refine g_ldc2 hC dX5_band_9 q_cd_X5_102 ?_
    refine g_ldc2 hC dX5_band_12 q_cd_X5_104 ?_
    refine g_callS hC dX5_band_15 (ct_X5_isIn l G L f lo 13890095209322119168 4666723172467343360) q_code_X5_isIn q_ml_X5_90 q_st_X5_isIn q_init_X5 ⟨by decide, by decide, (show (parseMethodDescriptor yX5_isIn.desc).map (fun d => d.parameters.length) = some 3 from by decide +kernel)⟩ (by decide) (by decide) (Nat.le_of_ble_eq_true rfl) (fun v6 L7 f8 hp5 => ?_)
    obtain ⟨rfl, rfl, rfl⟩ := hp5
    refine (show V C 6 L f 0 0 18 [(0, .ref q0), (1, .int (nI i)), (2, .double lo), (4, .double hi0)] [.int (bI (inB (dv lo) (dv 13890095209322119168) (dv 4666723172467343360)))] from ?_)
    refine g_ifB_eq hC 33 dX5_band_18 (by decide) (fun c9 => ?_) (fun c9 => ?_)
    · skip
      refine g_iconst hC 0 dX5_band_33 (by decide) ?_
      exact g_iret hC dX5_band_34 rfl rfl ⟨rfl, Or.inl ⟨fun _ _ _ => by simp only [bndM, safC, Bool.and_true, Bool.true_and, Bool.and_false, Bool.false_and, Bool.not_true, Bool.not_false, decide_true, decide_false, Bool.or_true, Bool.true_or, Bool.or_false, Bool.false_or, c9], rfl, rfl⟩⟩ (Nat.zero_le _) (Nat.zero_le _)
    · skip
      refine g_dload hC dX5_band_21 3 rfl ?_
      refine g_dload_n hC dX5_band_23 2 rfl ?_
      refine g_ldc2 hC dX5_band_24 q_cd_X5_104 ?_
      refine g_callS hC dX5_band_27 (ct_X5_isIn l G L f hi0 lo 4666723172467343360) q_code_X5_isIn q_ml_X5_90 q_st_X5_isIn q_init_X5 ⟨by decide, by decide, (show (parseMethodDescriptor yX5_isIn.desc).map (fun d => d.parameters.length) = some 3 from by decide +kernel)⟩ (by decide) (by decide) (Nat.le_of_ble_eq_true rfl) (fun v11 L12 f13 hp10 => ?_)
      obtain ⟨rfl, rfl, rfl⟩ := hp10
      refine (show V C 6 L f 0 0 30 [(0, .ref q0), (1, .int (nI i)), (2, .double lo), (4, .double hi0)] [.int (bI (inB (dv hi0) (dv lo) (dv 4666723172467343360)))] from ?_)
      refine g_ifB_ne hC 35 dX5_band_30 (by decide) (fun c14 => ?_) (fun c14 => ?_)
      · skip
        refine g_aload_n hC dX5_band_35 0 rfl ?_
        refine g_get hC (kf := 8) (TT := TX5) (N := 26) (Cn := RX5) dX5_band_36 (MI.m hM) (MI.o hM) rfl q_u5 (by decide) q_fl_X5_31 rfl rfl ?_
        refine g_iload_n hC dX5_band_39 1 rfl ?_
        refine g_dload_n hC dX5_band_40 2 rfl ?_
        refine g_mds hC hM 11 (by decide) (by decide) hi16 dX5_band_41 (fun f15 hM16 hR17 => ?_)
        refine g_aload_n hC dX5_band_42 0 rfl ?_
        refine g_get hC (kf := 9) (TT := TX5) (N := 26) (Cn := RX5) dX5_band_43 (MI.m hM16) (MI.o hM16) rfl q_u5 (by decide) q_fl_X5_34 rfl rfl ?_
        refine g_iload_n hC dX5_band_46 1 rfl ?_
        refine g_dload hC dX5_band_47 3 rfl ?_
        refine g_mds hC hM16 12 (by decide) (by decide) hi16 dX5_band_49 (fun f18 hM19 hR20 => ?_)
        refine g_iconst hC 1 dX5_band_50 (by decide) ?_
        exact g_iret hC dX5_band_51 rfl rfl ⟨rfl, Or.inr ⟨i, hi, rfl, by simp only [bndM, safC, Bool.and_true, Bool.true_and, Bool.and_false, Bool.false_and, Bool.not_true, Bool.not_false, decide_true, decide_false, Bool.or_true, Bool.true_or, Bool.or_false, Bool.false_or, c9, c14], rfl, (FRm.trans hR17 hR20), hM19⟩⟩ (Nat.zero_le _) (Nat.zero_le _)
      · skip
        refine g_iconst hC 0 dX5_band_33 (by decide) ?_
        exact g_iret hC dX5_band_34 rfl rfl ⟨rfl, Or.inl ⟨fun _ _ _ => by simp only [bndM, safC, Bool.and_true, Bool.true_and, Bool.and_false, Bool.false_and, Bool.not_true, Bool.not_false, decide_true, decide_false, Bool.or_true, Bool.true_or, Bool.or_false, Bool.false_or, c9, c14], rfl, rfl⟩⟩ (Nat.zero_le _) (Nat.zero_le _)
set_option maxHeartbeats 4000000 in
set_option maxRecDepth 100000 in
/-- range of the model -/
theorem ct_X5_range (l : Launch) (G : GD) (L : List Nat) (f : Nat → va_E) {q0 : Nat} {ma : Nat → Nat} {n k : Nat} {Y : Nat → Nat → UInt64} {W0 : Nat → Nat → Int32} (hM : MI G q0 ma n k Y W0 L f) (kx : Int32) (lo hi0 : UInt64) : Ctr l yX5_range cX5_range 6 (some .boolean) { frames := 1, cells := 0, slots := 0, locals := 30 } G [.ref q0, .int kx, .double lo, .double hi0] L f (fun vv L1 f1 => L = L1 ∧ (((∀ i, i < n → kx = nI i → rngM (dv lo) (dv hi0) = false) ∧ vv = some (.int 0) ∧ f = f1) ∨ (∃ i, i < n ∧ kx = nI i ∧ rngM (dv lo) (dv hi0) = true ∧ vv = some (.int 1) ∧ FRm L f f1 ∧ MI G q0 ma n k (up2 (up2 Y i 13 lo) i 14 hi0) (up2 W0 i 25 1) L f1))) := by
  refine g_enter RX5 false (by decide) rfl (fun h => by cases h) (Nat.le_of_ble_eq_true rfl) (fun C hC => ?_)
  refine (show V C 6 L f 0 0 0 [(0, .ref q0), (1, .int kx), (2, .double lo), (4, .double hi0)] [] from ?_)
  refine g_aload_n hC dX5_range_0 0 rfl ?_
  refine g_iload_n hC dX5_range_1 1 rfl ?_
  refine g_callV hC (Cn := RX5) (TT := TX5) (N := 26) dX5_range_2 (ct_X5_isLoop l G L f hM kx) q_code_X5_isLoop q_ml_X5_98 q_im_X5_isLoop q_sel_X5_isLoop q_init_X5 ⟨rfl, by decide, by decide, (show (parseMethodDescriptor yX5_isLoop.desc).map (fun d => d.parameters.length) = some 1 from by decide +kernel)⟩ (MI.m hM) (MI.o hM) rfl (by decide) (by decide) (Nat.le_of_ble_eq_true rfl) (fun v2 L3 f4 hp1 => ?_)
  obtain ⟨rfl, rfl, rfl⟩ := hp1
  rcases okL_cases (MI.n16 hM) kx with ⟨hb, hnoi⟩ | ⟨i, hi, rfl, hb⟩
  · refine g_eqI (show bI (okL n kx) = 0 from by rw [hb]; rfl) ?_
    refine g_if_eq hC 33 dX5_range_5 (by decide) (fun _ => ?_) (fun c => absurd c (by decide))
    refine g_iconst hC 0 dX5_range_33 (by decide) ?_
    exact g_iret hC dX5_range_34 rfl rfl ⟨rfl, Or.inl ⟨fun j hj q => absurd q (hnoi j hj), rfl, rfl⟩⟩ (Nat.zero_le _) (Nat.zero_le _)
  · refine g_eqI (show bI (okL n (nI i)) = 1 from by rw [hb]; rfl) ?_
    have hi16 : i < 16 := by have := MI.n16 hM; omega
    refine g_if_eq hC 33 dX5_range_5 (by decide) (fun c => absurd c (by decide)) (fun _ => ?_)
    refine g_dload_n hC dX5_range_8 2 rfl ?_
    refine g_ldc2 hC dX5_range_9 q_cd_X5_106 ?_
    refine g_ldc2 hC dX5_range_12 q_cd_X5_108 ?_
    refine g_callS hC dX5_range_15 (ct_X5_isIn l G L f lo 13920209183539462144 4696837146684686336) q_code_X5_isIn q_ml_X5_90 q_st_X5_isIn q_init_X5 ⟨by decide, by decide, (show (parseMethodDescriptor yX5_isIn.desc).map (fun d => d.parameters.length) = some 3 from by decide +kernel)⟩ (by decide) (by decide) (Nat.le_of_ble_eq_true rfl) (fun v6 L7 f8 hp5 => ?_)
    obtain ⟨rfl, rfl, rfl⟩ := hp5
    refine (show V C 6 L f 0 0 18 [(0, .ref q0), (1, .int (nI i)), (2, .double lo), (4, .double hi0)] [.int (bI (inB (dv lo) (dv 13920209183539462144) (dv 4696837146684686336)))] from ?_)
    refine g_ifB_eq hC 33 dX5_range_18 (by decide) (fun c9 => ?_) (fun c9 => ?_)
    · skip
      refine g_iconst hC 0 dX5_range_33 (by decide) ?_
      exact g_iret hC dX5_range_34 rfl rfl ⟨rfl, Or.inl ⟨fun _ _ _ => by simp only [rngM, readS, Bool.and_true, Bool.true_and, Bool.and_false, Bool.false_and, Bool.not_true, Bool.not_false, decide_true, decide_false, Bool.or_true, Bool.true_or, Bool.or_false, Bool.false_or, c9], rfl, rfl⟩⟩ (Nat.zero_le _) (Nat.zero_le _)
    · skip
      refine g_dload hC dX5_range_21 3 rfl ?_
      refine g_dload_n hC dX5_range_23 2 rfl ?_
      refine g_ldc2 hC dX5_range_24 q_cd_X5_108 ?_
      refine g_callS hC dX5_range_27 (ct_X5_isIn l G L f hi0 lo 4696837146684686336) q_code_X5_isIn q_ml_X5_90 q_st_X5_isIn q_init_X5 ⟨by decide, by decide, (show (parseMethodDescriptor yX5_isIn.desc).map (fun d => d.parameters.length) = some 3 from by decide +kernel)⟩ (by decide) (by decide) (Nat.le_of_ble_eq_true rfl) (fun v11 L12 f13 hp10 => ?_)
      obtain ⟨rfl, rfl, rfl⟩ := hp10
      refine (show V C 6 L f 0 0 30 [(0, .ref q0), (1, .int (nI i)), (2, .double lo), (4, .double hi0)] [.int (bI (inB (dv hi0) (dv lo) (dv 4696837146684686336)))] from ?_)
      refine g_ifB_ne hC 35 dX5_range_30 (by decide) (fun c14 => ?_) (fun c14 => ?_)
      · skip
        refine g_aload_n hC dX5_range_35 0 rfl ?_
        refine g_get hC (kf := 10) (TT := TX5) (N := 26) (Cn := RX5) dX5_range_36 (MI.m hM) (MI.o hM) rfl q_u5 (by decide) q_fl_X5_37 rfl rfl ?_
        refine g_iload_n hC dX5_range_39 1 rfl ?_
        refine g_iconst hC 1 dX5_range_40 (by decide) ?_
        refine g_mzs hC hM hi16 (by decide) dX5_range_41 (fun f15 hM16 hR17 => ?_)
        refine g_aload_n hC dX5_range_42 0 rfl ?_
        refine g_get hC (kf := 11) (TT := TX5) (N := 26) (Cn := RX5) dX5_range_43 (MI.m hM16) (MI.o hM16) rfl q_u5 (by decide) q_fl_X5_41 rfl rfl ?_
        refine g_iload_n hC dX5_range_46 1 rfl ?_
        refine g_dload_n hC dX5_range_47 2 rfl ?_
        refine g_mds hC hM16 13 (by decide) (by decide) hi16 dX5_range_48 (fun f18 hM19 hR20 => ?_)
        refine g_aload_n hC dX5_range_49 0 rfl ?_
        refine g_get hC (kf := 12) (TT := TX5) (N := 26) (Cn := RX5) dX5_range_50 (MI.m hM19) (MI.o hM19) rfl q_u5 (by decide) q_fl_X5_44 rfl rfl ?_
        refine g_iload_n hC dX5_range_53 1 rfl ?_
        refine g_dload hC dX5_range_54 3 rfl ?_
        refine g_mds hC hM19 14 (by decide) (by decide) hi16 dX5_range_56 (fun f21 hM22 hR23 => ?_)
        refine g_iconst hC 1 dX5_range_57 (by decide) ?_
        exact g_iret hC dX5_range_58 rfl rfl ⟨rfl, Or.inr ⟨i, hi, rfl, by simp only [rngM, readS, Bool.and_true, Bool.true_and, Bool.and_false, Bool.false_and, Bool.not_true, Bool.not_false, decide_true, decide_false, Bool.or_true, Bool.true_or, Bool.or_false, Bool.false_or, c9, c14], rfl, (FRm.trans (FRm.trans hR17 hR20) hR23), hM22⟩⟩ (Nat.zero_le _) (Nat.zero_le _)
      · skip
        refine g_iconst hC 0 dX5_range_33 (by decide) ?_
        exact g_iret hC dX5_range_34 rfl rfl ⟨rfl, Or.inl ⟨fun _ _ _ => by simp only [rngM, readS, Bool.and_true, Bool.true_and, Bool.and_false, Bool.false_and, Bool.not_true, Bool.not_false, decide_true, decide_false, Bool.or_true, Bool.true_or, Bool.or_false, Bool.false_or, c9, c14], rfl, rfl⟩⟩ (Nat.zero_le _) (Nat.zero_le _)
set_option maxHeartbeats 4000000 in
set_option maxRecDepth 100000 in
/-- hand of the model -/
theorem ct_X5_hand (l : Launch) (G : GD) (L : List Nat) (f : Nat → va_E) {q0 : Nat} {ma : Nat → Nat} {n k : Nat} {Y : Nat → Nat → UInt64} {W0 : Nat → Nat → Int32} (hM : MI G q0 ma n k Y W0 L f) (kx : Int32) (v : UInt64) : Ctr l yX5_hand cX5_hand 4 (some .boolean) { frames := 1, cells := 0, slots := 0, locals := 30 } G [.ref q0, .int kx, .double v] L f (fun vv L1 f1 => L = L1 ∧ (((∀ i, i < n → kx = nI i → hanC (W0 i 20) (dv v) (dv (Y i 9)) (dv (Y i 10)) = false) ∧ vv = some (.int 0) ∧ f = f1) ∨ (∃ i, i < n ∧ kx = nI i ∧ hanC (W0 i 20) (dv v) (dv (Y i 9)) (dv (Y i 10)) = true ∧ vv = some (.int 1) ∧ FRm L f f1 ∧ MI G q0 ma n k (up2 Y i 8 v) W0 L f1))) := by
  refine g_enter RX5 false (by decide) rfl (fun h => by cases h) (Nat.le_of_ble_eq_true rfl) (fun C hC => ?_)
  refine (show V C 4 L f 0 0 0 [(0, .ref q0), (1, .int kx), (2, .double v)] [] from ?_)
  refine g_aload_n hC dX5_hand_0 0 rfl ?_
  refine g_iload_n hC dX5_hand_1 1 rfl ?_
  refine g_callV hC (Cn := RX5) (TT := TX5) (N := 26) dX5_hand_2 (ct_X5_isLoop l G L f hM kx) q_code_X5_isLoop q_ml_X5_98 q_im_X5_isLoop q_sel_X5_isLoop q_init_X5 ⟨rfl, by decide, by decide, (show (parseMethodDescriptor yX5_isLoop.desc).map (fun d => d.parameters.length) = some 1 from by decide +kernel)⟩ (MI.m hM) (MI.o hM) rfl (by decide) (by decide) (Nat.le_of_ble_eq_true rfl) (fun v2 L3 f4 hp1 => ?_)
  obtain ⟨rfl, rfl, rfl⟩ := hp1
  rcases okL_cases (MI.n16 hM) kx with ⟨hb, hnoi⟩ | ⟨i, hi, rfl, hb⟩
  · refine g_eqI (show bI (okL n kx) = 0 from by rw [hb]; rfl) ?_
    refine g_if_eq hC 36 dX5_hand_5 (by decide) (fun _ => ?_) (fun c => absurd c (by decide))
    refine g_iconst hC 0 dX5_hand_36 (by decide) ?_
    exact g_iret hC dX5_hand_37 rfl rfl ⟨rfl, Or.inl ⟨fun j hj q => absurd q (hnoi j hj), rfl, rfl⟩⟩ (Nat.zero_le _) (Nat.zero_le _)
  · refine g_eqI (show bI (okL n (nI i)) = 1 from by rw [hb]; rfl) ?_
    have hi16 : i < 16 := by have := MI.n16 hM; omega
    refine g_if_eq hC 36 dX5_hand_5 (by decide) (fun c => absurd c (by decide)) (fun _ => ?_)
    refine g_aload_n hC dX5_hand_8 0 rfl ?_
    refine g_get hC (kf := 17) (TT := TX5) (N := 26) (Cn := RX5) dX5_hand_9 (MI.m hM) (MI.o hM) rfl q_u5 (by decide) q_fl_X5_59 rfl rfl ?_
    refine g_iload_n hC dX5_hand_12 1 rfl ?_
    refine g_mil hC hM 20 (by decide) (by decide) hi16 (W0 i 20) rfl dX5_hand_13 ?_
    refine g_if_ne hC 36 dX5_hand_14 (by decide) (fun c5 => ?_) (fun c5 => ?_)
    · skip
      refine g_iconst hC 0 dX5_hand_36 (by decide) ?_
      exact g_iret hC dX5_hand_37 rfl rfl ⟨rfl, Or.inl ⟨fun j hj q => by have q1 := nI_injL hi16 (by have := MI.n16 hM; omega) q; subst q1; simp only [hanC, Bool.and_true, Bool.true_and, Bool.and_false, Bool.false_and, Bool.not_true, Bool.not_false, decide_true, decide_false, Bool.or_true, Bool.true_or, Bool.or_false, Bool.false_or, eq_false c5], rfl, rfl⟩⟩ (Nat.zero_le _) (Nat.zero_le _)
    · skip
      refine g_dload_n hC dX5_hand_17 2 rfl ?_
      refine g_aload_n hC dX5_hand_18 0 rfl ?_
      refine g_get hC (kf := 4) (TT := TX5) (N := 26) (Cn := RX5) dX5_hand_19 (MI.m hM) (MI.o hM) rfl q_u5 (by decide) q_fl_X5_19 rfl rfl ?_
      refine g_iload_n hC dX5_hand_22 1 rfl ?_
      refine g_mdl hC hM 9 (by decide) (by decide) hi16 (Y i 9) rfl dX5_hand_23 ?_
      refine g_aload_n hC dX5_hand_24 0 rfl ?_
      refine g_get hC (kf := 5) (TT := TX5) (N := 26) (Cn := RX5) dX5_hand_25 (MI.m hM) (MI.o hM) rfl q_u5 (by decide) q_fl_X5_22 rfl rfl ?_
      refine g_iload_n hC dX5_hand_28 1 rfl ?_
      refine g_mdl hC hM 10 (by decide) (by decide) hi16 (Y i 10) rfl dX5_hand_29 ?_
      refine g_callS hC dX5_hand_30 (ct_X5_isIn l G L f v (Y i 9) (Y i 10)) q_code_X5_isIn q_ml_X5_90 q_st_X5_isIn q_init_X5 ⟨by decide, by decide, (show (parseMethodDescriptor yX5_isIn.desc).map (fun d => d.parameters.length) = some 3 from by decide +kernel)⟩ (by decide) (by decide) (Nat.le_of_ble_eq_true rfl) (fun v7 L8 f9 hp6 => ?_)
      obtain ⟨rfl, rfl, rfl⟩ := hp6
      refine (show V C 4 L f 0 0 33 [(0, .ref q0), (1, .int (nI i)), (2, .double v)] [.int (bI (inB (dv v) (dv (Y i 9)) (dv (Y i 10))))] from ?_)
      refine g_ifB_ne hC 38 dX5_hand_33 (by decide) (fun c10 => ?_) (fun c10 => ?_)
      · skip
        refine g_aload_n hC dX5_hand_38 0 rfl ?_
        refine g_get hC (kf := 16) (TT := TX5) (N := 26) (Cn := RX5) dX5_hand_39 (MI.m hM) (MI.o hM) rfl q_u5 (by decide) q_fl_X5_56 rfl rfl ?_
        refine g_iload_n hC dX5_hand_42 1 rfl ?_
        refine g_dload_n hC dX5_hand_43 2 rfl ?_
        refine g_mds hC hM 8 (by decide) (by decide) hi16 dX5_hand_44 (fun f11 hM12 hR13 => ?_)
        refine g_iconst hC 1 dX5_hand_45 (by decide) ?_
        exact g_iret hC dX5_hand_46 rfl rfl ⟨rfl, Or.inr ⟨i, hi, rfl, by simp only [hanC, Bool.and_true, Bool.true_and, Bool.and_false, Bool.false_and, Bool.not_true, Bool.not_false, decide_true, decide_false, Bool.or_true, Bool.true_or, Bool.or_false, Bool.false_or, eq_true c5, c10], rfl, hR13, hM12⟩⟩ (Nat.zero_le _) (Nat.zero_le _)
      · skip
        refine g_iconst hC 0 dX5_hand_36 (by decide) ?_
        exact g_iret hC dX5_hand_37 rfl rfl ⟨rfl, Or.inl ⟨fun j hj q => by have q1 := nI_injL hi16 (by have := MI.n16 hM; omega) q; subst q1; simp only [hanC, Bool.and_true, Bool.true_and, Bool.and_false, Bool.false_and, Bool.not_true, Bool.not_false, decide_true, decide_false, Bool.or_true, Bool.true_or, Bool.or_false, Bool.false_or, eq_true c5, c10], rfl, rfl⟩⟩ (Nat.zero_le _) (Nat.zero_le _)
set_option maxHeartbeats 4000000 in
set_option maxRecDepth 100000 in
/-- fault of the model -/
theorem ct_X5_fault (l : Launch) (G : GD) (L : List Nat) (f : Nat → va_E) {q0 : Nat} {ma : Nat → Nat} {n k : Nat} {Y : Nat → Nat → UInt64} {W0 : Nat → Nat → Int32} (hM : MI G q0 ma n k Y W0 L f) (kx : Int32) : Ctr l yX5_fault cX5_fault 2 (some .int) { frames := 1, cells := 0, slots := 0, locals := 30 } G [.ref q0, .int kx] L f (fun vv L1 f1 => L = L1 ∧ f = f1 ∧ (((∀ i, i < n → ¬ kx = nI i) ∧ vv = some (.int (-1))) ∨ ∃ i, i < n ∧ kx = nI i ∧ vv = some (.int (W0 i 21)))) := by
  refine g_enter RX5 false (by decide) rfl (fun h => by cases h) (Nat.le_of_ble_eq_true rfl) (fun C hC => ?_)
  refine (show V C 2 L f 0 0 0 [(0, .ref q0), (1, .int kx)] [] from ?_)
  refine g_aload_n hC dX5_fault_0 0 rfl ?_
  refine g_iload_n hC dX5_fault_1 1 rfl ?_
  refine g_callV hC (Cn := RX5) (TT := TX5) (N := 26) dX5_fault_2 (ct_X5_isLoop l G L f hM kx) q_code_X5_isLoop q_ml_X5_98 q_im_X5_isLoop q_sel_X5_isLoop q_init_X5 ⟨rfl, by decide, by decide, (show (parseMethodDescriptor yX5_isLoop.desc).map (fun d => d.parameters.length) = some 1 from by decide +kernel)⟩ (MI.m hM) (MI.o hM) rfl (by decide) (by decide) (Nat.le_of_ble_eq_true rfl) (fun v2 L3 f4 hp1 => ?_)
  obtain ⟨rfl, rfl, rfl⟩ := hp1
  rcases okL_cases (MI.n16 hM) kx with ⟨hb, hnoi⟩ | ⟨i, hi, rfl, hb⟩
  · refine g_eqI (show bI (okL n kx) = 0 from by rw [hb]; rfl) ?_
    refine g_if_eq hC 17 dX5_fault_5 (by decide) (fun _ => ?_) (fun c => absurd c (by decide))
    refine g_iconst hC (-1) dX5_fault_17 (by decide) ?_
    exact g_iret hC dX5_fault_18 rfl rfl ⟨rfl, rfl, Or.inl ⟨hnoi, rfl⟩⟩ (Nat.zero_le _) (Nat.zero_le _)
  · refine g_eqI (show bI (okL n (nI i)) = 1 from by rw [hb]; rfl) ?_
    have hi16 : i < 16 := by have := MI.n16 hM; omega
    refine g_if_eq hC 17 dX5_fault_5 (by decide) (fun c => absurd c (by decide)) (fun _ => ?_)
    refine g_aload_n hC dX5_fault_8 0 rfl ?_
    refine g_get hC (kf := 19) (TT := TX5) (N := 26) (Cn := RX5) dX5_fault_9 (MI.m hM) (MI.o hM) rfl q_u5 (by decide) q_fl_X5_66 rfl rfl ?_
    refine g_iload_n hC dX5_fault_12 1 rfl ?_
    refine g_mil hC hM 21 (by decide) (by decide) hi16 (W0 i 21) rfl dX5_fault_13 ?_
    refine g_goto hC 18 dX5_fault_14 (by decide) ?_
    exact g_iret hC dX5_fault_18 rfl rfl ⟨rfl, rfl, Or.inr ⟨i, hi, rfl, rfl⟩⟩ (Nat.zero_le _) (Nat.zero_le _)
set_option maxHeartbeats 4000000 in
set_option maxRecDepth 100000 in
/-- move of the model -/
theorem ct_X5_move (l : Launch) (G : GD) (L : List Nat) (f : Nat → va_E) {q0 : Nat} {ma : Nat → Nat} {n k : Nat} {Y : Nat → Nat → UInt64} {W0 : Nat → Nat → Int32} (hM : MI G q0 ma n k Y W0 L f) {i : Nat} (hi : i < 16) (w0 : UInt64) : Ctr l yX5_move cX5_move 8 none R00 G [.ref q0, .int (nI i), .double w0] L f (fun vv L1 f1 => vv = none ∧ L = L1 ∧ FRm L f f1 ∧ ∃ u : UInt64, dv u = MV (dv (Y i 5)) (dv (Y i 3)) (dv w0) ∧ MI G q0 ma n k (up2 Y i 5 u) W0 L f1) := by
  refine g_enter RX5 false (by decide) rfl (fun h => by cases h) (Nat.le_of_ble_eq_true rfl) (fun C hC => ?_)
  refine (show V C 8 L f 0 0 0 [(0, .ref q0), (1, .int (nI i)), (2, .double w0)] [] from ?_)
  refine g_aload_n hC dX5_move_0 0 rfl ?_
  refine g_get hC (kf := 13) (TT := TX5) (N := 26) (Cn := RX5) dX5_move_1 (MI.m hM) (MI.o hM) rfl q_u5 (by decide) q_fl_X5_47 rfl rfl ?_
  refine g_iload_n hC dX5_move_4 1 rfl ?_
  refine g_mdl hC hM 5 (by decide) (by decide) hi (Y i 5) rfl dX5_move_5 ?_
  refine g_aload_n hC dX5_move_6 0 rfl ?_
  refine g_get hC (kf := 6) (TT := TX5) (N := 26) (Cn := RX5) dX5_move_7 (MI.m hM) (MI.o hM) rfl q_u5 (by decide) q_fl_X5_25 rfl rfl ?_
  refine g_iload_n hC dX5_move_10 1 rfl ?_
  refine g_mdl hC hM 3 (by decide) (by decide) hi (Y i 3) rfl dX5_move_11 ?_
  refine g_dadd hC dX5_move_12 (fun r1 er1 => ?_)
  refine g_dstore hC (lv1 := [(4, .double r1), (0, .ref q0), (1, .int (nI i)), (2, .double w0)]) dX5_move_13 (by decide) rfl ?_
  refine g_aload_n hC dX5_move_15 1 rfl ?_
  refine g_get hC (kf := 13) (TT := TX5) (N := 26) (Cn := RX5) dX5_move_16 (MI.m hM) (MI.o hM) rfl q_u5 (by decide) q_fl_X5_47 rfl rfl ?_
  refine g_iload_n hC dX5_move_19 2 rfl ?_
  refine g_mdl hC hM 5 (by decide) (by decide) hi (Y i 5) rfl dX5_move_20 ?_
  refine g_aload_n hC dX5_move_21 1 rfl ?_
  refine g_get hC (kf := 6) (TT := TX5) (N := 26) (Cn := RX5) dX5_move_22 (MI.m hM) (MI.o hM) rfl q_u5 (by decide) q_fl_X5_25 rfl rfl ?_
  refine g_iload_n hC dX5_move_25 2 rfl ?_
  refine g_mdl hC hM 3 (by decide) (by decide) hi (Y i 3) rfl dX5_move_26 ?_
  refine g_dsub hC dX5_move_27 (fun r2 er2 => ?_)
  refine g_dstore hC (lv1 := [(6, .double r2), (4, .double r1), (0, .ref q0), (1, .int (nI i)), (2, .double w0)]) dX5_move_28 (by decide) rfl ?_
  refine g_aload_n hC dX5_move_30 2 rfl ?_
  refine g_get hC (kf := 13) (TT := TX5) (N := 26) (Cn := RX5) dX5_move_31 (MI.m hM) (MI.o hM) rfl q_u5 (by decide) q_fl_X5_47 rfl rfl ?_
  refine g_iload_n hC dX5_move_34 3 rfl ?_
  refine g_dload_n hC dX5_move_35 4 rfl ?_
  refine g_dload hC dX5_move_36 1 rfl ?_
  refine g_dcmpl_le hC 47 dX5_move_38 dX5_move_39 (by decide) (fun c3 => ?_) (fun c3 => ?_)
  · try simp only [er1, er2] at c3
    refine g_dload_n hC dX5_move_47 4 rfl ?_
    refine g_dload hC dX5_move_48 0 rfl ?_
    refine g_dcmpg_ge hC 59 dX5_move_50 dX5_move_51 (by decide) (fun c4 => ?_) (fun c4 => ?_)
    · try simp only [er1, er2] at c4
      refine g_dload_n hC dX5_move_59 4 rfl ?_
      refine g_mds hC hM 5 (by decide) (by decide) hi dX5_move_60 (fun f5 hM6 hR7 => ?_)
      exact g_vret hC dX5_move_61 rfl ⟨rfl, rfl, hR7, w0, by simp [MV, c3, c4, er1, er2], hM6⟩ (Nat.zero_le _) (Nat.zero_le _)
    · try simp only [er1, er2] at c4
      refine g_dload hC dX5_move_54 0 rfl ?_
      refine g_goto hC 60 dX5_move_56 (by decide) ?_
      refine g_mds hC hM 5 (by decide) (by decide) hi dX5_move_60 (fun f8 hM9 hR10 => ?_)
      exact g_vret hC dX5_move_61 rfl ⟨rfl, rfl, hR10, r2, by simp [MV, c3, c4, er1, er2], hM9⟩ (Nat.zero_le _) (Nat.zero_le _)
  · try simp only [er1, er2] at c3
    refine g_dload hC dX5_move_42 1 rfl ?_
    refine g_goto hC 60 dX5_move_44 (by decide) ?_
    refine g_mds hC hM 5 (by decide) (by decide) hi dX5_move_60 (fun f11 hM12 hR13 => ?_)
    exact g_vret hC dX5_move_61 rfl ⟨rfl, rfl, hR13, r1, by simp [MV, c3, er1, er2], hM12⟩ (Nat.zero_le _) (Nat.zero_le _)
set_option maxHeartbeats 4000000 in
set_option maxRecDepth 100000 in
/-- mode of the model -/
theorem ct_X5_mode (l : Launch) (G : GD) (L : List Nat) (f : Nat → va_E) {q0 : Nat} {ma : Nat → Nat} {n k : Nat} {Y : Nat → Nat → UInt64} {W0 : Nat → Nat → Int32} (hM : MI G q0 ma n k Y W0 L f) (kx m : Int32) : Ctr l yX5_mode cX5_mode 3 (some .boolean) { frames := 1, cells := 0, slots := 0, locals := 30 } G [.ref q0, .int kx, .int m] L f (fun vv L1 f1 => L = L1 ∧ (((∀ i, i < n → kx = nI i → modC m = false) ∧ vv = some (.int 0) ∧ f = f1) ∨ (∃ i, i < n ∧ kx = nI i ∧ modC m = true ∧ vv = some (.int 1) ∧ FRm L f f1 ∧ ∃ h s : UInt64, dv h = mdH (dz (Y i)) (W0 i 20) m ∧ dv s = mdS (dz (Y i)) (W0 i 20) m ∧ MI G q0 ma n k (up2 (up2 Y i 8 h) i 6 s) (up2 W0 i 20 m) L f1))) := by
  refine g_enter RX5 false (by decide) rfl (fun h => by cases h) (Nat.le_of_ble_eq_true rfl) (fun C hC => ?_)
  refine (show V C 3 L f 0 0 0 [(0, .ref q0), (1, .int kx), (2, .int m)] [] from ?_)
  refine g_aload_n hC dX5_mode_0 0 rfl ?_
  refine g_iload_n hC dX5_mode_1 1 rfl ?_
  refine g_callV hC (Cn := RX5) (TT := TX5) (N := 26) dX5_mode_2 (ct_X5_isLoop l G L f hM kx) q_code_X5_isLoop q_ml_X5_98 q_im_X5_isLoop q_sel_X5_isLoop q_init_X5 ⟨rfl, by decide, by decide, (show (parseMethodDescriptor yX5_isLoop.desc).map (fun d => d.parameters.length) = some 1 from by decide +kernel)⟩ (MI.m hM) (MI.o hM) rfl (by decide) (by decide) (Nat.le_of_ble_eq_true rfl) (fun v2 L3 f4 hp1 => ?_)
  obtain ⟨rfl, rfl, rfl⟩ := hp1
  rcases okL_cases (MI.n16 hM) kx with ⟨hb, hnoi⟩ | ⟨i, hi, rfl, hb⟩
  · refine g_eqI (show bI (okL n kx) = 0 from by rw [hb]; rfl) ?_
    refine g_if_eq hC 17 dX5_mode_5 (by decide) (fun _ => ?_) (fun c => absurd c (by decide))
    refine g_iconst hC 0 dX5_mode_17 (by decide) ?_
    exact g_iret hC dX5_mode_18 rfl rfl ⟨rfl, Or.inl ⟨fun j hj q => absurd q (hnoi j hj), rfl, rfl⟩⟩ (Nat.zero_le _) (Nat.zero_le _)
  · refine g_eqI (show bI (okL n (nI i)) = 1 from by rw [hb]; rfl) ?_
    have hi16 : i < 16 := by have := MI.n16 hM; omega
    refine g_if_eq hC 17 dX5_mode_5 (by decide) (fun c => absurd c (by decide)) (fun _ => ?_)
    refine g_iload_n hC dX5_mode_8 2 rfl ?_
    refine g_if_lt hC 17 dX5_mode_9 (by decide) (fun c5 => ?_) (fun c5 => ?_)
    · skip
      refine g_iconst hC 0 dX5_mode_17 (by decide) ?_
      exact g_iret hC dX5_mode_18 rfl rfl ⟨rfl, Or.inl ⟨fun _ _ _ => by simp only [modC, Bool.and_true, Bool.true_and, Bool.and_false, Bool.false_and, Bool.not_true, Bool.not_false, decide_true, decide_false, Bool.or_true, Bool.true_or, Bool.or_false, Bool.false_or, eq_true c5], rfl, rfl⟩⟩ (Nat.zero_le _) (Nat.zero_le _)
    · skip
      refine g_iload_n hC dX5_mode_12 2 rfl ?_
      refine g_iconst hC 2 dX5_mode_13 (by decide) ?_
      refine g_icmp_le hC 19 dX5_mode_14 (by decide) (fun c6 => ?_) (fun c6 => ?_)
      · skip
        refine g_aload_n hC dX5_mode_19 0 rfl ?_
        refine g_get hC (kf := 17) (TT := TX5) (N := 26) (Cn := RX5) dX5_mode_20 (MI.m hM) (MI.o hM) rfl q_u5 (by decide) q_fl_X5_59 rfl rfl ?_
        refine g_iload_n hC dX5_mode_23 1 rfl ?_
        refine g_mil hC hM 20 (by decide) (by decide) hi16 (W0 i 20) rfl dX5_mode_24 ?_
        refine g_iload_n hC dX5_mode_25 2 rfl ?_
        refine g_icmp_eq hC 101 dX5_mode_26 (by decide) (fun c7 => ?_) (fun c7 => ?_)
        · skip
          refine g_iconst hC 1 dX5_mode_101 (by decide) ?_
          refine g_iret hC dX5_mode_102 rfl rfl ⟨rfl, Or.inr ⟨i, hi, rfl, by simp only [modC, Bool.and_true, Bool.true_and, Bool.and_false, Bool.false_and, Bool.not_true, Bool.not_false, decide_true, decide_false, Bool.or_true, Bool.true_or, Bool.or_false, Bool.false_or, eq_false c5, eq_true c6, eq_true c7], rfl, FRm.rf, ?_⟩⟩ (Nat.zero_le _) (Nat.zero_le _)
          refine ⟨Y i 8, Y i 6, by simp only [mdH, if_pos (Eq.symm c7)], by simp only [mdS, if_pos (Eq.symm c7)], ?_⟩
          rw [up2_id, up2_id, ← c7, up2_id]; exact hM
        · skip
          refine g_aload_n hC dX5_mode_29 0 rfl ?_
          refine g_get hC (kf := 16) (TT := TX5) (N := 26) (Cn := RX5) dX5_mode_30 (MI.m hM) (MI.o hM) rfl q_u5 (by decide) q_fl_X5_56 rfl rfl ?_
          refine g_iload_n hC dX5_mode_33 1 rfl ?_
          refine g_iload_n hC dX5_mode_34 2 rfl ?_
          refine g_if_ne hC 47 dX5_mode_35 (by decide) (fun c8 => ?_) (fun c8 => ?_)
          · skip
            refine g_aload_n hC dX5_mode_47 0 rfl ?_
            refine g_get hC (kf := 16) (TT := TX5) (N := 26) (Cn := RX5) dX5_mode_48 (MI.m hM) (MI.o hM) rfl q_u5 (by decide) q_fl_X5_56 rfl rfl ?_
            refine g_iload_n hC dX5_mode_51 1 rfl ?_
            refine g_mdl hC hM 8 (by decide) (by decide) hi16 (Y i 8) rfl dX5_mode_52 ?_
            refine g_mds hC hM 8 (by decide) (by decide) hi16 dX5_mode_53 (fun f9 hM10 hR11 => ?_)
            refine g_aload_n hC dX5_mode_54 0 rfl ?_
            refine g_get hC (kf := 14) (TT := TX5) (N := 26) (Cn := RX5) dX5_mode_55 (MI.m hM10) (MI.o hM10) rfl q_u5 (by decide) q_fl_X5_50 rfl rfl ?_
            refine g_iload_n hC dX5_mode_58 1 rfl ?_
            refine g_iload_n hC dX5_mode_59 2 rfl ?_
            refine g_iconst hC 1 dX5_mode_60 (by decide) ?_
            refine g_icmp_ne hC 87 dX5_mode_61 (by decide) (fun c12 => ?_) (fun c12 => ?_)
            · skip
              refine g_aload_n hC dX5_mode_87 0 rfl ?_
              refine g_get hC (kf := 14) (TT := TX5) (N := 26) (Cn := RX5) dX5_mode_88 (MI.m hM10) (MI.o hM10) rfl q_u5 (by decide) q_fl_X5_50 rfl rfl ?_
              refine g_iload_n hC dX5_mode_91 1 rfl ?_
              refine g_mdl hC hM10 6 (by decide) (by decide) hi16 (Y i 6) (by simp [up2]) dX5_mode_92 ?_
              refine g_mds hC hM10 6 (by decide) (by decide) hi16 dX5_mode_93 (fun f13 hM14 hR15 => ?_)
              refine g_aload_n hC dX5_mode_94 0 rfl ?_
              refine g_get hC (kf := 17) (TT := TX5) (N := 26) (Cn := RX5) dX5_mode_95 (MI.m hM14) (MI.o hM14) rfl q_u5 (by decide) q_fl_X5_59 rfl rfl ?_
              refine g_iload_n hC dX5_mode_98 1 rfl ?_
              refine g_iload_n hC dX5_mode_99 2 rfl ?_
              refine g_mis hC hM14 20 (by decide) (by decide) hi16 dX5_mode_100 (fun f16 hM17 hR18 => ?_)
              refine g_iconst hC 1 dX5_mode_101 (by decide) ?_
              refine g_iret hC dX5_mode_102 rfl rfl ⟨rfl, Or.inr ⟨i, hi, rfl, by simp only [modC, Bool.and_true, Bool.true_and, Bool.and_false, Bool.false_and, Bool.not_true, Bool.not_false, decide_true, decide_false, Bool.or_true, Bool.true_or, Bool.or_false, Bool.false_or, eq_false c5, eq_true c6, eq_false c7, eq_false c8, eq_false c12], rfl, (FRm.trans (FRm.trans hR11 hR15) hR18), ?_⟩⟩ (Nat.zero_le _) (Nat.zero_le _)
              have hne : ¬ m = W0 i 20 := fun q => c7 q.symm
              exact ⟨(Y i 8), (Y i 6), by simp only [mdH, if_neg hne]; simp [c8, c12], by simp only [mdS, if_neg hne]; simp [c8, c12], by first | exact hM17 | (have h9 := hM17; simp only [up2_id] at h9 ⊢; exact h9)⟩
            · skip
              refine g_aload_n hC dX5_mode_64 0 rfl ?_
              refine g_get hC (kf := 13) (TT := TX5) (N := 26) (Cn := RX5) dX5_mode_65 (MI.m hM10) (MI.o hM10) rfl q_u5 (by decide) q_fl_X5_47 rfl rfl ?_
              refine g_iload_n hC dX5_mode_68 1 rfl ?_
              refine g_mdl hC hM10 5 (by decide) (by decide) hi16 (Y i 5) (by simp [up2]) dX5_mode_69 ?_
              refine g_aload_n hC dX5_mode_70 0 rfl ?_
              refine g_get hC (kf := 1) (TT := TX5) (N := 26) (Cn := RX5) dX5_mode_71 (MI.m hM10) (MI.o hM10) rfl q_u5 (by decide) q_fl_X5_9 rfl rfl ?_
              refine g_iload_n hC dX5_mode_74 1 rfl ?_
              refine g_mdl hC hM10 0 (by decide) (by decide) hi16 (Y i 0) (by simp [up2]) dX5_mode_75 ?_
              refine g_aload_n hC dX5_mode_76 0 rfl ?_
              refine g_get hC (kf := 15) (TT := TX5) (N := 26) (Cn := RX5) dX5_mode_77 (MI.m hM10) (MI.o hM10) rfl q_u5 (by decide) q_fl_X5_53 rfl rfl ?_
              refine g_iload_n hC dX5_mode_80 1 rfl ?_
              refine g_mdl hC hM10 7 (by decide) (by decide) hi16 (Y i 7) (by simp [up2]) dX5_mode_81 ?_
              refine g_dmul hC dX5_mode_82 (fun r19 er19 => ?_)
              refine g_dsub hC dX5_mode_83 (fun r20 er20 => ?_)
              try simp only [er19] at er20
              refine g_goto hC 93 dX5_mode_84 (by decide) ?_
              refine g_mds hC hM10 6 (by decide) (by decide) hi16 dX5_mode_93 (fun f21 hM22 hR23 => ?_)
              refine g_aload_n hC dX5_mode_94 0 rfl ?_
              refine g_get hC (kf := 17) (TT := TX5) (N := 26) (Cn := RX5) dX5_mode_95 (MI.m hM22) (MI.o hM22) rfl q_u5 (by decide) q_fl_X5_59 rfl rfl ?_
              refine g_iload_n hC dX5_mode_98 1 rfl ?_
              refine g_iload_n hC dX5_mode_99 2 rfl ?_
              refine g_mis hC hM22 20 (by decide) (by decide) hi16 dX5_mode_100 (fun f24 hM25 hR26 => ?_)
              refine g_iconst hC 1 dX5_mode_101 (by decide) ?_
              refine g_iret hC dX5_mode_102 rfl rfl ⟨rfl, Or.inr ⟨i, hi, rfl, by simp only [modC, Bool.and_true, Bool.true_and, Bool.and_false, Bool.false_and, Bool.not_true, Bool.not_false, decide_true, decide_false, Bool.or_true, Bool.true_or, Bool.or_false, Bool.false_or, eq_false c5, eq_true c6, eq_false c7, eq_false c8, eq_true c12], rfl, (FRm.trans (FRm.trans hR11 hR23) hR26), ?_⟩⟩ (Nat.zero_le _) (Nat.zero_le _)
              have hne : ¬ m = W0 i 20 := fun q => c7 q.symm
              exact ⟨(Y i 8), r20, by simp only [mdH, if_neg hne]; simp [c8, c12, er19, er20], by simp only [mdS, if_neg hne]; simp [c8, c12, er19, er20], by first | exact hM25 | (have h9 := hM25; simp only [up2_id] at h9 ⊢; exact h9)⟩
          · skip
            refine g_aload_n hC dX5_mode_38 0 rfl ?_
            refine g_get hC (kf := 13) (TT := TX5) (N := 26) (Cn := RX5) dX5_mode_39 (MI.m hM) (MI.o hM) rfl q_u5 (by decide) q_fl_X5_47 rfl rfl ?_
            refine g_iload_n hC dX5_mode_42 1 rfl ?_
            refine g_mdl hC hM 5 (by decide) (by decide) hi16 (Y i 5) rfl dX5_mode_43 ?_
            refine g_goto hC 53 dX5_mode_44 (by decide) ?_
            refine g_mds hC hM 8 (by decide) (by decide) hi16 dX5_mode_53 (fun f27 hM28 hR29 => ?_)
            refine g_aload_n hC dX5_mode_54 0 rfl ?_
            refine g_get hC (kf := 14) (TT := TX5) (N := 26) (Cn := RX5) dX5_mode_55 (MI.m hM28) (MI.o hM28) rfl q_u5 (by decide) q_fl_X5_50 rfl rfl ?_
            refine g_iload_n hC dX5_mode_58 1 rfl ?_
            refine g_iload_n hC dX5_mode_59 2 rfl ?_
            refine g_iconst hC 1 dX5_mode_60 (by decide) ?_
            refine g_icmp_ne hC 87 dX5_mode_61 (by decide) (fun c30 => ?_) (fun c30 => ?_)
            · skip
              refine g_aload_n hC dX5_mode_87 0 rfl ?_
              refine g_get hC (kf := 14) (TT := TX5) (N := 26) (Cn := RX5) dX5_mode_88 (MI.m hM28) (MI.o hM28) rfl q_u5 (by decide) q_fl_X5_50 rfl rfl ?_
              refine g_iload_n hC dX5_mode_91 1 rfl ?_
              refine g_mdl hC hM28 6 (by decide) (by decide) hi16 (Y i 6) (by simp [up2]) dX5_mode_92 ?_
              refine g_mds hC hM28 6 (by decide) (by decide) hi16 dX5_mode_93 (fun f31 hM32 hR33 => ?_)
              refine g_aload_n hC dX5_mode_94 0 rfl ?_
              refine g_get hC (kf := 17) (TT := TX5) (N := 26) (Cn := RX5) dX5_mode_95 (MI.m hM32) (MI.o hM32) rfl q_u5 (by decide) q_fl_X5_59 rfl rfl ?_
              refine g_iload_n hC dX5_mode_98 1 rfl ?_
              refine g_iload_n hC dX5_mode_99 2 rfl ?_
              refine g_mis hC hM32 20 (by decide) (by decide) hi16 dX5_mode_100 (fun f34 hM35 hR36 => ?_)
              refine g_iconst hC 1 dX5_mode_101 (by decide) ?_
              refine g_iret hC dX5_mode_102 rfl rfl ⟨rfl, Or.inr ⟨i, hi, rfl, by simp only [modC, Bool.and_true, Bool.true_and, Bool.and_false, Bool.false_and, Bool.not_true, Bool.not_false, decide_true, decide_false, Bool.or_true, Bool.true_or, Bool.or_false, Bool.false_or, eq_false c5, eq_true c6, eq_false c7, eq_true c8, eq_false c30], rfl, (FRm.trans (FRm.trans hR29 hR33) hR36), ?_⟩⟩ (Nat.zero_le _) (Nat.zero_le _)
              have hne : ¬ m = W0 i 20 := fun q => c7 q.symm
              exact ⟨(Y i 5), (Y i 6), by simp only [mdH, if_neg hne]; simp [c8, c30], by simp only [mdS, if_neg hne]; simp [c8, c30], by first | exact hM35 | (have h9 := hM35; simp only [up2_id] at h9 ⊢; exact h9)⟩
            · skip
              refine g_aload_n hC dX5_mode_64 0 rfl ?_
              refine g_get hC (kf := 13) (TT := TX5) (N := 26) (Cn := RX5) dX5_mode_65 (MI.m hM28) (MI.o hM28) rfl q_u5 (by decide) q_fl_X5_47 rfl rfl ?_
              refine g_iload_n hC dX5_mode_68 1 rfl ?_
              refine g_mdl hC hM28 5 (by decide) (by decide) hi16 (Y i 5) (by simp [up2]) dX5_mode_69 ?_
              refine g_aload_n hC dX5_mode_70 0 rfl ?_
              refine g_get hC (kf := 1) (TT := TX5) (N := 26) (Cn := RX5) dX5_mode_71 (MI.m hM28) (MI.o hM28) rfl q_u5 (by decide) q_fl_X5_9 rfl rfl ?_
              refine g_iload_n hC dX5_mode_74 1 rfl ?_
              refine g_mdl hC hM28 0 (by decide) (by decide) hi16 (Y i 0) (by simp [up2]) dX5_mode_75 ?_
              refine g_aload_n hC dX5_mode_76 0 rfl ?_
              refine g_get hC (kf := 15) (TT := TX5) (N := 26) (Cn := RX5) dX5_mode_77 (MI.m hM28) (MI.o hM28) rfl q_u5 (by decide) q_fl_X5_53 rfl rfl ?_
              refine g_iload_n hC dX5_mode_80 1 rfl ?_
              refine g_mdl hC hM28 7 (by decide) (by decide) hi16 (Y i 7) (by simp [up2]) dX5_mode_81 ?_
              refine g_dmul hC dX5_mode_82 (fun r37 er37 => ?_)
              refine g_dsub hC dX5_mode_83 (fun r38 er38 => ?_)
              try simp only [er37] at er38
              refine g_goto hC 93 dX5_mode_84 (by decide) ?_
              refine g_mds hC hM28 6 (by decide) (by decide) hi16 dX5_mode_93 (fun f39 hM40 hR41 => ?_)
              refine g_aload_n hC dX5_mode_94 0 rfl ?_
              refine g_get hC (kf := 17) (TT := TX5) (N := 26) (Cn := RX5) dX5_mode_95 (MI.m hM40) (MI.o hM40) rfl q_u5 (by decide) q_fl_X5_59 rfl rfl ?_
              refine g_iload_n hC dX5_mode_98 1 rfl ?_
              refine g_iload_n hC dX5_mode_99 2 rfl ?_
              refine g_mis hC hM40 20 (by decide) (by decide) hi16 dX5_mode_100 (fun f42 hM43 hR44 => ?_)
              refine g_iconst hC 1 dX5_mode_101 (by decide) ?_
              refine g_iret hC dX5_mode_102 rfl rfl ⟨rfl, Or.inr ⟨i, hi, rfl, by simp only [modC, Bool.and_true, Bool.true_and, Bool.and_false, Bool.false_and, Bool.not_true, Bool.not_false, decide_true, decide_false, Bool.or_true, Bool.true_or, Bool.or_false, Bool.false_or, eq_false c5, eq_true c6, eq_false c7, eq_true c8, eq_true c30], rfl, (FRm.trans (FRm.trans hR29 hR41) hR44), ?_⟩⟩ (Nat.zero_le _) (Nat.zero_le _)
              exact absurd (c8.symm.trans c30) (by decide)
      · skip
        refine g_iconst hC 0 dX5_mode_17 (by decide) ?_
        exact g_iret hC dX5_mode_18 rfl rfl ⟨rfl, Or.inl ⟨fun _ _ _ => by simp only [modC, Bool.and_true, Bool.true_and, Bool.and_false, Bool.false_and, Bool.not_true, Bool.not_false, decide_true, decide_false, Bool.or_true, Bool.true_or, Bool.or_false, Bool.false_or, eq_false c5, eq_false c6], rfl, rfl⟩⟩ (Nat.zero_le _) (Nat.zero_le _)
