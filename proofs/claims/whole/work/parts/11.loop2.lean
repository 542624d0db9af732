set_option maxHeartbeats 4000000 in
set_option maxRecDepth 100000 in
/-- pass(measured, target), without an outer loop -/
theorem ct_X0_pass_n (l : Launch) (G : GD) (L : List Nat) (f : Nat → va_E) (a lm bd rg tn : Nat) (x : Nat → UInt64) (md fa : Int32) (lo hi bl bh rl rh : UInt64) (m tg : UInt64) (hL_a : a ∈ L) (h0 : f a = eLp x md fa lm bd rg tn none) (hL_lm : lm ∈ L) (hL_bd : bd ∈ L) (hL_rg : rg ∈ L) (h1 : f lm = eSp lo hi) (h2 : f bd = eSp bl bh) (h3 : f rg = eSp rl rh) : Ctr l yX0_pass cX0_pass 7 none { frames := 2, cells := 0, slots := 0, locals := 50 } G [.ref a, .double m, .double tg] L f (fun vv L1 f1 => vv = none ∧ L = L1 ∧ ((inB (dv m) (dv rl) (dv rh) = false ∧ f1 = va_up f a (eLp (va_up x 5 (x 4)) md (fa + 1) lm bd rg tn none)) ∨ (inB (dv m) (dv rl) (dv rh) = true ∧ ∃ u s e : UInt64, dv e = qsub (dv tg) (dv m) ∧ dv u = tU (dz x) md (dv lo) (dv hi) (dv bl) (dv bh) (dv e) ∧ dv s = tS (dz x) md (dv lo) (dv hi) (dv e) ∧ f1 = va_up f a (eLp (va_up (va_up (va_up x 6 s) 5 u) 7 e) md fa lm bd rg tn none)))) := by
  refine g_enter RX0 false (by decide) rfl (fun h => by cases h) (Nat.le_of_ble_eq_true rfl) (fun C hC => ?_)
  refine (show V C 7 L f 0 0 0 [(0, .ref a), (1, .double m), (3, .double tg)] [] from ?_)
  refine g_aload_n hC dX0_pass_0 0 rfl ?_
  refine g_get hC (kf := 5) (TT := TX0) (N := 16) (Cn := RX0) dX0_pass_1 hL_a h0 rfl q_u0 (by decide) q_fl_X0_31 rfl rfl ?_
  refine g_dload_n hC dX0_pass_4 1 rfl ?_
  refine g_callV hC (Cn := RX1) (TT := TX1) (N := 2) dX0_pass_5 (ct_X1_holds l G L f rg rl rh m hL_rg h3) q_code_X1_holds q_ml_X0_58 q_im_X1_holds q_sel_X1_holds q_init_X1 ⟨rfl, by decide, by decide, (show (parseMethodDescriptor yX1_holds.desc).map (fun d => d.parameters.length) = some 1 from by decide +kernel)⟩ hL_rg h3 rfl (by decide) (by decide) (Nat.le_of_ble_eq_true rfl) (fun v2 L3 f4 hp1 => ?_)
  obtain ⟨rfl, rfl, rfl⟩ := hp1
  refine (show V C 7 L f 0 0 8 [(0, .ref a), (1, .double m), (3, .double tg)] [.int (bI (inB (dv m) (dv rl) (dv rh)))] from ?_)
  refine g_ifB_ne hC 30 dX0_pass_8 (by decide) (fun c5 => ?_) (fun c5 => ?_)
  · skip
    refine g_aload_n hC dX0_pass_30 0 rfl ?_
    refine g_get hC (kf := 15) (TT := TX0) (N := 16) (Cn := RX0) dX0_pass_31 hL_a h0 rfl q_u0 (by decide) q_fl_X0_71 rfl rfl ?_
    refine g_ifnonnullN hC dX0_pass_34 ?_
    refine g_dload_n hC dX0_pass_37 2 rfl ?_
    refine g_goto hC 48 dX0_pass_38 (by decide) ?_
    refine g_dload_n hC dX0_pass_48 1 rfl ?_
    refine g_dsub hC dX0_pass_49 (fun r6 er6 => ?_)
    refine g_dstore hC (lv1 := [(5, .double r6), (0, .ref a), (1, .double m), (3, .double tg)]) dX0_pass_50 (by decide) rfl ?_
    refine g_aload_n hC dX0_pass_52 1 rfl ?_
    refine g_get hC (kf := 13) (TT := TX0) (N := 16) (Cn := RX0) dX0_pass_53 hL_a h0 rfl q_u0 (by decide) q_fl_X0_45 rfl rfl ?_
    refine g_if_ne hC 70 dX0_pass_56 (by decide) (fun c7 => ?_) (fun c7 => ?_)
    · skip
      refine g_aload_n hC dX0_pass_70 1 rfl ?_
      refine g_get hC (kf := 13) (TT := TX0) (N := 16) (Cn := RX0) dX0_pass_71 hL_a h0 rfl q_u0 (by decide) q_fl_X0_45 rfl rfl ?_
      refine g_iconst hC 1 dX0_pass_74 (by decide) ?_
      refine g_icmp_ne hC 87 dX0_pass_75 (by decide) (fun c8 => ?_) (fun c8 => ?_)
      · skip
        refine g_aload_n hC dX0_pass_87 1 rfl ?_
        refine g_dload hC dX0_pass_88 0 rfl ?_
        refine g_callV hC (Cn := RX0) (TT := TX0) (N := 16) dX0_pass_90 (ct_X0_switchOnOrOff l G L f a lm bd rg tn (x) md fa none lo hi bl bh r6 hL_a h0 hL_lm hL_bd h1 h2) q_code_X0_switchOnOrOff q_ml_X0_85 q_im_X0_switchOnOrOff q_sel_X0_switchOnOrOff q_init_X0 ⟨rfl, by decide, by decide, (show (parseMethodDescriptor yX0_switchOnOrOff.desc).map (fun d => d.parameters.length) = some 1 from by decide +kernel)⟩ hL_a h0 rfl (by decide) (by decide) (Nat.le_of_ble_eq_true rfl) (fun v10 L11 f12 hp9 => ?_)
        obtain ⟨rfl, rfl, u13, hu14, hf15⟩ := hp9
        have hf15x : f12 = va_up f a (.inr (0, [.double (x 0), .double (x 1), .double (x 2), .ref lm, .ref bd, .ref rg, .ref tn, .double (x 3), .double (x 4), .double u13, .double (x 6), .double (x 7), .double (x 8), .int md, .int fa, .null])) := hf15
        have h0_n : f12 a = .inr (0, [.double (x 0), .double (x 1), .double (x 2), .ref lm, .ref bd, .ref rg, .ref tn, .double (x 3), .double (x 4), .double u13, .double (x 6), .double (x 7), .double (x 8), .int md, .int fa, .null]) := by rw [hf15x]; exact va_up_self _ _ _
        have h1_n : f12 lm = .inr (1, [.double lo, .double hi]) := by rw [hf15x, va_up_ne _ _ (fun z => by have z1 := h1; rw [z, h0] at z1; simp at z1)]; exact h1
        have h2_n : f12 bd = .inr (1, [.double bl, .double bh]) := by rw [hf15x, va_up_ne _ _ (fun z => by have z1 := h2; rw [z, h0] at z1; simp at z1)]; exact h2
        have h3_n : f12 rg = .inr (1, [.double rl, .double rh]) := by rw [hf15x, va_up_ne _ _ (fun z => by have z1 := h3; rw [z, h0] at z1; simp at z1)]; exact h3
        have hF16 : f12 = va_up f a (.inr (0, [.double (x 0), .double (x 1), .double (x 2), .ref lm, .ref bd, .ref rg, .ref tn, .double (x 3), .double (x 4), .double u13, .double (x 6), .double (x 7), .double (x 8), .int md, .int fa, .null])) := hf15x
        refine (show V C 7 L f12 0 0 93 [(5, .double r6), (0, .ref a), (1, .double m), (3, .double tg)] [] from ?_)
        refine g_aload_n hC dX0_pass_93 1 rfl ?_
        refine g_dload hC dX0_pass_94 0 rfl ?_
        refine g_put hC (kf := 11) (TT := TX0) (N := 16) (Cn := RX0) (ty0 := tyX0) (fs1 := [.double (x 0), .double (x 1), .double (x 2), .ref lm, .ref bd, .ref rg, .ref tn, .double (x 3), .double (x 4), .double u13, .double (x 6), .double r6, .double (x 8), .int md, .int fa, .null]) dX0_pass_96 hL_a h0_n rfl q_u0 (by decide) tyX0_ok nmX0 q_fl_X0_88 rfl rfl rfl rfl rfl (Nat.le_of_ble_eq_true rfl) rfl ?_
        refine g_nm (fun f17 hf18 => ?_)
        have h0_n_n : f17 a = .inr (0, [.double (x 0), .double (x 1), .double (x 2), .ref lm, .ref bd, .ref rg, .ref tn, .double (x 3), .double (x 4), .double u13, .double (x 6), .double r6, .double (x 8), .int md, .int fa, .null]) := by rw [hf18]; exact va_up_self _ _ _
        have h1_n_n : f17 lm = .inr (1, [.double lo, .double hi]) := by rw [hf18, va_up_ne _ _ (fun z => by have z1 := h1_n; rw [z, h0_n] at z1; simp at z1)]; exact h1_n
        have h2_n_n : f17 bd = .inr (1, [.double bl, .double bh]) := by rw [hf18, va_up_ne _ _ (fun z => by have z1 := h2_n; rw [z, h0_n] at z1; simp at z1)]; exact h2_n
        have h3_n_n : f17 rg = .inr (1, [.double rl, .double rh]) := by rw [hf18, va_up_ne _ _ (fun z => by have z1 := h3_n; rw [z, h0_n] at z1; simp at z1)]; exact h3_n
        have hF19 : f17 = va_up f a (.inr (0, [.double (x 0), .double (x 1), .double (x 2), .ref lm, .ref bd, .ref rg, .ref tn, .double (x 3), .double (x 4), .double u13, .double (x 6), .double r6, .double (x 8), .int md, .int fa, .null])) := by rw [hf18, hF16, va_up_up]
        exact g_vret hC dX0_pass_99 rfl ⟨rfl, rfl, Or.inr ⟨c5, u13, (x 6), r6, er6, by simp [dz, va_up, tU, fU, fV, fA, oU, c7, c8, hu14], by simp [dz, va_up, tS, fS, fV, fA, c7, c8, hu14], hF19⟩⟩ (Nat.zero_le _) (Nat.zero_le _)
      · skip
        refine g_aload_n hC dX0_pass_78 1 rfl ?_
        refine g_dload hC dX0_pass_79 0 rfl ?_
        refine g_callV hC (Cn := RX0) (TT := TX0) (N := 16) dX0_pass_81 (ct_X0_followLaw l G L f a lm bd rg tn (x) md fa none lo hi r6 hL_a h0 hL_lm h1) q_code_X0_followLaw q_ml_X0_82 q_im_X0_followLaw q_sel_X0_followLaw q_init_X0 ⟨rfl, by decide, by decide, (show (parseMethodDescriptor yX0_followLaw.desc).map (fun d => d.parameters.length) = some 1 from by decide +kernel)⟩ hL_a h0 rfl (by decide) (by decide) (Nat.le_of_ble_eq_true rfl) (fun v21 L22 f23 hp20 => ?_)
        obtain ⟨rfl, rfl, u24, s25, hu26, hs27, hf28⟩ := hp20
        have hf28x : f23 = va_up f a (.inr (0, [.double (x 0), .double (x 1), .double (x 2), .ref lm, .ref bd, .ref rg, .ref tn, .double (x 3), .double (x 4), .double u24, .double s25, .double (x 7), .double (x 8), .int md, .int fa, .null])) := hf28
        have h0_n : f23 a = .inr (0, [.double (x 0), .double (x 1), .double (x 2), .ref lm, .ref bd, .ref rg, .ref tn, .double (x 3), .double (x 4), .double u24, .double s25, .double (x 7), .double (x 8), .int md, .int fa, .null]) := by rw [hf28x]; exact va_up_self _ _ _
        have h1_n : f23 lm = .inr (1, [.double lo, .double hi]) := by rw [hf28x, va_up_ne _ _ (fun z => by have z1 := h1; rw [z, h0] at z1; simp at z1)]; exact h1
        have h2_n : f23 bd = .inr (1, [.double bl, .double bh]) := by rw [hf28x, va_up_ne _ _ (fun z => by have z1 := h2; rw [z, h0] at z1; simp at z1)]; exact h2
        have h3_n : f23 rg = .inr (1, [.double rl, .double rh]) := by rw [hf28x, va_up_ne _ _ (fun z => by have z1 := h3; rw [z, h0] at z1; simp at z1)]; exact h3
        have hF29 : f23 = va_up f a (.inr (0, [.double (x 0), .double (x 1), .double (x 2), .ref lm, .ref bd, .ref rg, .ref tn, .double (x 3), .double (x 4), .double u24, .double s25, .double (x 7), .double (x 8), .int md, .int fa, .null])) := hf28x
        refine (show V C 7 L f23 0 0 84 [(5, .double r6), (0, .ref a), (1, .double m), (3, .double tg)] [] from ?_)
        refine g_goto hC 93 dX0_pass_84 (by decide) ?_
        refine g_aload_n hC dX0_pass_93 1 rfl ?_
        refine g_dload hC dX0_pass_94 0 rfl ?_
        refine g_put hC (kf := 11) (TT := TX0) (N := 16) (Cn := RX0) (ty0 := tyX0) (fs1 := [.double (x 0), .double (x 1), .double (x 2), .ref lm, .ref bd, .ref rg, .ref tn, .double (x 3), .double (x 4), .double u24, .double s25, .double r6, .double (x 8), .int md, .int fa, .null]) dX0_pass_96 hL_a h0_n rfl q_u0 (by decide) tyX0_ok nmX0 q_fl_X0_88 rfl rfl rfl rfl rfl (Nat.le_of_ble_eq_true rfl) rfl ?_
        refine g_nm (fun f30 hf31 => ?_)
        have h0_n_n : f30 a = .inr (0, [.double (x 0), .double (x 1), .double (x 2), .ref lm, .ref bd, .ref rg, .ref tn, .double (x 3), .double (x 4), .double u24, .double s25, .double r6, .double (x 8), .int md, .int fa, .null]) := by rw [hf31]; exact va_up_self _ _ _
        have h1_n_n : f30 lm = .inr (1, [.double lo, .double hi]) := by rw [hf31, va_up_ne _ _ (fun z => by have z1 := h1_n; rw [z, h0_n] at z1; simp at z1)]; exact h1_n
        have h2_n_n : f30 bd = .inr (1, [.double bl, .double bh]) := by rw [hf31, va_up_ne _ _ (fun z => by have z1 := h2_n; rw [z, h0_n] at z1; simp at z1)]; exact h2_n
        have h3_n_n : f30 rg = .inr (1, [.double rl, .double rh]) := by rw [hf31, va_up_ne _ _ (fun z => by have z1 := h3_n; rw [z, h0_n] at z1; simp at z1)]; exact h3_n
        have hF32 : f30 = va_up f a (.inr (0, [.double (x 0), .double (x 1), .double (x 2), .ref lm, .ref bd, .ref rg, .ref tn, .double (x 3), .double (x 4), .double u24, .double s25, .double r6, .double (x 8), .int md, .int fa, .null])) := by rw [hf31, hF29, va_up_up]
        exact g_vret hC dX0_pass_99 rfl ⟨rfl, rfl, Or.inr ⟨c5, u24, s25, r6, er6, by simp [dz, va_up, tU, fU, fV, fA, oU, c7, c8, hu26, hs27], by simp [dz, va_up, tS, fS, fV, fA, c7, c8, hu26, hs27], hF32⟩⟩ (Nat.zero_le _) (Nat.zero_le _)
    · skip
      refine g_aload_n hC dX0_pass_59 1 rfl ?_
      refine g_aload_n hC dX0_pass_60 1 rfl ?_
      refine g_get hC (kf := 12) (TT := TX0) (N := 16) (Cn := RX0) dX0_pass_61 hL_a h0 rfl q_u0 (by decide) q_fl_X0_75 rfl rfl ?_
      refine g_callV hC (Cn := RX0) (TT := TX0) (N := 16) dX0_pass_64 (ct_X0_moveTo l G L f a lm bd rg tn (x) md fa none (x 8) hL_a h0) q_code_X0_moveTo q_ml_X0_78 q_im_X0_moveTo q_sel_X0_moveTo q_init_X0 ⟨rfl, by decide, by decide, (show (parseMethodDescriptor yX0_moveTo.desc).map (fun d => d.parameters.length) = some 1 from by decide +kernel)⟩ hL_a h0 rfl (by decide) (by decide) (Nat.le_of_ble_eq_true rfl) (fun v34 L35 f36 hp33 => ?_)
      obtain ⟨rfl, rfl, u37, hu38, hf39⟩ := hp33
      have hf39x : f36 = va_up f a (.inr (0, [.double (x 0), .double (x 1), .double (x 2), .ref lm, .ref bd, .ref rg, .ref tn, .double (x 3), .double (x 4), .double u37, .double (x 6), .double (x 7), .double (x 8), .int md, .int fa, .null])) := hf39
      have h0_n : f36 a = .inr (0, [.double (x 0), .double (x 1), .double (x 2), .ref lm, .ref bd, .ref rg, .ref tn, .double (x 3), .double (x 4), .double u37, .double (x 6), .double (x 7), .double (x 8), .int md, .int fa, .null]) := by rw [hf39x]; exact va_up_self _ _ _
      have h1_n : f36 lm = .inr (1, [.double lo, .double hi]) := by rw [hf39x, va_up_ne _ _ (fun z => by have z1 := h1; rw [z, h0] at z1; simp at z1)]; exact h1
      have h2_n : f36 bd = .inr (1, [.double bl, .double bh]) := by rw [hf39x, va_up_ne _ _ (fun z => by have z1 := h2; rw [z, h0] at z1; simp at z1)]; exact h2
      have h3_n : f36 rg = .inr (1, [.double rl, .double rh]) := by rw [hf39x, va_up_ne _ _ (fun z => by have z1 := h3; rw [z, h0] at z1; simp at z1)]; exact h3
      have hF40 : f36 = va_up f a (.inr (0, [.double (x 0), .double (x 1), .double (x 2), .ref lm, .ref bd, .ref rg, .ref tn, .double (x 3), .double (x 4), .double u37, .double (x 6), .double (x 7), .double (x 8), .int md, .int fa, .null])) := hf39x
      refine (show V C 7 L f36 0 0 67 [(5, .double r6), (0, .ref a), (1, .double m), (3, .double tg)] [] from ?_)
      refine g_goto hC 93 dX0_pass_67 (by decide) ?_
      refine g_aload_n hC dX0_pass_93 1 rfl ?_
      refine g_dload hC dX0_pass_94 0 rfl ?_
      refine g_put hC (kf := 11) (TT := TX0) (N := 16) (Cn := RX0) (ty0 := tyX0) (fs1 := [.double (x 0), .double (x 1), .double (x 2), .ref lm, .ref bd, .ref rg, .ref tn, .double (x 3), .double (x 4), .double u37, .double (x 6), .double r6, .double (x 8), .int md, .int fa, .null]) dX0_pass_96 hL_a h0_n rfl q_u0 (by decide) tyX0_ok nmX0 q_fl_X0_88 rfl rfl rfl rfl rfl (Nat.le_of_ble_eq_true rfl) rfl ?_
      refine g_nm (fun f41 hf42 => ?_)
      have h0_n_n : f41 a = .inr (0, [.double (x 0), .double (x 1), .double (x 2), .ref lm, .ref bd, .ref rg, .ref tn, .double (x 3), .double (x 4), .double u37, .double (x 6), .double r6, .double (x 8), .int md, .int fa, .null]) := by rw [hf42]; exact va_up_self _ _ _
      have h1_n_n : f41 lm = .inr (1, [.double lo, .double hi]) := by rw [hf42, va_up_ne _ _ (fun z => by have z1 := h1_n; rw [z, h0_n] at z1; simp at z1)]; exact h1_n
      have h2_n_n : f41 bd = .inr (1, [.double bl, .double bh]) := by rw [hf42, va_up_ne _ _ (fun z => by have z1 := h2_n; rw [z, h0_n] at z1; simp at z1)]; exact h2_n
      have h3_n_n : f41 rg = .inr (1, [.double rl, .double rh]) := by rw [hf42, va_up_ne _ _ (fun z => by have z1 := h3_n; rw [z, h0_n] at z1; simp at z1)]; exact h3_n
      have hF43 : f41 = va_up f a (.inr (0, [.double (x 0), .double (x 1), .double (x 2), .ref lm, .ref bd, .ref rg, .ref tn, .double (x 3), .double (x 4), .double u37, .double (x 6), .double r6, .double (x 8), .int md, .int fa, .null])) := by rw [hf42, hF40, va_up_up]
      exact g_vret hC dX0_pass_99 rfl ⟨rfl, rfl, Or.inr ⟨c5, u37, (x 6), r6, er6, by simp [dz, va_up, tU, fU, fV, fA, oU, c7, hu38], by simp [dz, va_up, tS, fS, fV, fA, c7, hu38], hF43⟩⟩ (Nat.zero_le _) (Nat.zero_le _)
  · skip
    refine g_aload_n hC dX0_pass_11 0 rfl ?_
    refine g_aload_n hC dX0_pass_12 0 rfl ?_
    refine g_get hC (kf := 8) (TT := TX0) (N := 16) (Cn := RX0) dX0_pass_13 hL_a h0 rfl q_u0 (by decide) q_fl_X0_62 rfl rfl ?_
    refine g_put hC (kf := 9) (TT := TX0) (N := 16) (Cn := RX0) (ty0 := tyX0) (fs1 := [.double (x 0), .double (x 1), .double (x 2), .ref lm, .ref bd, .ref rg, .ref tn, .double (x 3), .double (x 4), .double (x 4), .double (x 6), .double (x 7), .double (x 8), .int md, .int fa, .null]) dX0_pass_16 hL_a h0 rfl q_u0 (by decide) tyX0_ok nmX0 q_fl_X0_65 rfl rfl rfl rfl rfl (Nat.le_of_ble_eq_true rfl) rfl ?_
    refine g_nm (fun f44 hf45 => ?_)
    have h0_n : f44 a = .inr (0, [.double (x 0), .double (x 1), .double (x 2), .ref lm, .ref bd, .ref rg, .ref tn, .double (x 3), .double (x 4), .double (x 4), .double (x 6), .double (x 7), .double (x 8), .int md, .int fa, .null]) := by rw [hf45]; exact va_up_self _ _ _
    have h1_n : f44 lm = .inr (1, [.double lo, .double hi]) := by rw [hf45, va_up_ne _ _ (fun z => by have z1 := h1; rw [z, h0] at z1; simp at z1)]; exact h1
    have h2_n : f44 bd = .inr (1, [.double bl, .double bh]) := by rw [hf45, va_up_ne _ _ (fun z => by have z1 := h2; rw [z, h0] at z1; simp at z1)]; exact h2
    have h3_n : f44 rg = .inr (1, [.double rl, .double rh]) := by rw [hf45, va_up_ne _ _ (fun z => by have z1 := h3; rw [z, h0] at z1; simp at z1)]; exact h3
    have hF46 : f44 = va_up f a (.inr (0, [.double (x 0), .double (x 1), .double (x 2), .ref lm, .ref bd, .ref rg, .ref tn, .double (x 3), .double (x 4), .double (x 4), .double (x 6), .double (x 7), .double (x 8), .int md, .int fa, .null])) := hf45
    refine g_aload_n hC dX0_pass_19 0 rfl ?_
    refine g_dup hC dX0_pass_20 rfl ?_
    refine g_get hC (kf := 14) (TT := TX0) (N := 16) (Cn := RX0) dX0_pass_21 hL_a h0_n rfl q_u0 (by decide) q_fl_X0_68 rfl rfl ?_
    refine g_iconst hC 1 dX0_pass_24 (by decide) ?_
    refine g_iadd hC dX0_pass_25 ?_
    refine g_put hC (kf := 14) (TT := TX0) (N := 16) (Cn := RX0) (ty0 := tyX0) (fs1 := [.double (x 0), .double (x 1), .double (x 2), .ref lm, .ref bd, .ref rg, .ref tn, .double (x 3), .double (x 4), .double (x 4), .double (x 6), .double (x 7), .double (x 8), .int md, .int (fa + 1), .null]) dX0_pass_26 hL_a h0_n rfl q_u0 (by decide) tyX0_ok nmX0 q_fl_X0_68 rfl rfl rfl rfl rfl (Nat.le_of_ble_eq_true rfl) rfl ?_
    refine g_nm (fun f47 hf48 => ?_)
    have h0_n_n : f47 a = .inr (0, [.double (x 0), .double (x 1), .double (x 2), .ref lm, .ref bd, .ref rg, .ref tn, .double (x 3), .double (x 4), .double (x 4), .double (x 6), .double (x 7), .double (x 8), .int md, .int (fa + 1), .null]) := by rw [hf48]; exact va_up_self _ _ _
    have h1_n_n : f47 lm = .inr (1, [.double lo, .double hi]) := by rw [hf48, va_up_ne _ _ (fun z => by have z1 := h1_n; rw [z, h0_n] at z1; simp at z1)]; exact h1_n
    have h2_n_n : f47 bd = .inr (1, [.double bl, .double bh]) := by rw [hf48, va_up_ne _ _ (fun z => by have z1 := h2_n; rw [z, h0_n] at z1; simp at z1)]; exact h2_n
    have h3_n_n : f47 rg = .inr (1, [.double rl, .double rh]) := by rw [hf48, va_up_ne _ _ (fun z => by have z1 := h3_n; rw [z, h0_n] at z1; simp at z1)]; exact h3_n
    have hF49 : f47 = va_up f a (.inr (0, [.double (x 0), .double (x 1), .double (x 2), .ref lm, .ref bd, .ref rg, .ref tn, .double (x 3), .double (x 4), .double (x 4), .double (x 6), .double (x 7), .double (x 8), .int md, .int (fa + 1), .null])) := by rw [hf48, hF46, va_up_up]
    exact g_vret hC dX0_pass_29 rfl ⟨rfl, rfl, Or.inl ⟨c5, hF49⟩⟩ (Nat.zero_le _) (Nat.zero_le _)
set_option maxHeartbeats 4000000 in
set_option maxRecDepth 100000 in
/-- pass(measured, target), with an outer loop -/
theorem ct_X0_pass_s (l : Launch) (G : GD) (L : List Nat) (f : Nat → va_E) (a lm bd rg tn : Nat) (x : Nat → UInt64) (md fa : Int32) (lo hi bl bh rl rh : UInt64) (m tg : UInt64) (b lm2 bd2 rg2 tn2 : Nat) (y : Nat → UInt64) (md2 fa2 : Int32) (ou2 : Option Nat) (hL_a : a ∈ L) (h0 : f a = eLp x md fa lm bd rg tn (some b)) (hL_lm : lm ∈ L) (hL_bd : bd ∈ L) (hL_rg : rg ∈ L) (h1 : f lm = eSp lo hi) (h2 : f bd = eSp bl bh) (h3 : f rg = eSp rl rh) (hL_b : b ∈ L) (h4 : f b = eLp y md2 fa2 lm2 bd2 rg2 tn2 ou2) : Ctr l yX0_pass cX0_pass 7 none { frames := 2, cells := 0, slots := 0, locals := 50 } G [.ref a, .double m, .double tg] L f (fun vv L1 f1 => vv = none ∧ L = L1 ∧ ((inB (dv m) (dv rl) (dv rh) = false ∧ f1 = va_up f a (eLp (va_up x 5 (x 4)) md (fa + 1) lm bd rg tn (some b))) ∨ (inB (dv m) (dv rl) (dv rh) = true ∧ ∃ u s e : UInt64, dv e = qsub (dv (y 5)) (dv m) ∧ dv u = tU (dz x) md (dv lo) (dv hi) (dv bl) (dv bh) (dv e) ∧ dv s = tS (dz x) md (dv lo) (dv hi) (dv e) ∧ f1 = va_up f a (eLp (va_up (va_up (va_up x 6 s) 5 u) 7 e) md fa lm bd rg tn (some b))))) := by
  refine g_enter RX0 false (by decide) rfl (fun h => by cases h) (Nat.le_of_ble_eq_true rfl) (fun C hC => ?_)
  refine (show V C 7 L f 0 0 0 [(0, .ref a), (1, .double m), (3, .double tg)] [] from ?_)
  refine g_aload_n hC dX0_pass_0 0 rfl ?_
  refine g_get hC (kf := 5) (TT := TX0) (N := 16) (Cn := RX0) dX0_pass_1 hL_a h0 rfl q_u0 (by decide) q_fl_X0_31 rfl rfl ?_
  refine g_dload_n hC dX0_pass_4 1 rfl ?_
  refine g_callV hC (Cn := RX1) (TT := TX1) (N := 2) dX0_pass_5 (ct_X1_holds l G L f rg rl rh m hL_rg h3) q_code_X1_holds q_ml_X0_58 q_im_X1_holds q_sel_X1_holds q_init_X1 ⟨rfl, by decide, by decide, (show (parseMethodDescriptor yX1_holds.desc).map (fun d => d.parameters.length) = some 1 from by decide +kernel)⟩ hL_rg h3 rfl (by decide) (by decide) (Nat.le_of_ble_eq_true rfl) (fun v2 L3 f4 hp1 => ?_)
  obtain ⟨rfl, rfl, rfl⟩ := hp1
  refine (show V C 7 L f 0 0 8 [(0, .ref a), (1, .double m), (3, .double tg)] [.int (bI (inB (dv m) (dv rl) (dv rh)))] from ?_)
  refine g_ifB_ne hC 30 dX0_pass_8 (by decide) (fun c5 => ?_) (fun c5 => ?_)
  · skip
    refine g_aload_n hC dX0_pass_30 0 rfl ?_
    refine g_get hC (kf := 15) (TT := TX0) (N := 16) (Cn := RX0) dX0_pass_31 hL_a h0 rfl q_u0 (by decide) q_fl_X0_71 rfl rfl ?_
    refine g_ifnonnull hC 41 dX0_pass_34 (by decide) ?_
    refine g_aload_n hC dX0_pass_41 0 rfl ?_
    refine g_get hC (kf := 15) (TT := TX0) (N := 16) (Cn := RX0) dX0_pass_42 hL_a h0 rfl q_u0 (by decide) q_fl_X0_71 rfl rfl ?_
    refine g_get hC (kf := 9) (TT := TX0) (N := 16) (Cn := RX0) dX0_pass_45 hL_b h4 rfl q_u0 (by decide) q_fl_X0_65 rfl rfl ?_
    refine g_dload_n hC dX0_pass_48 1 rfl ?_
    refine g_dsub hC dX0_pass_49 (fun r6 er6 => ?_)
    refine g_dstore hC (lv1 := [(5, .double r6), (0, .ref a), (1, .double m), (3, .double tg)]) dX0_pass_50 (by decide) rfl ?_
    refine g_aload_n hC dX0_pass_52 1 rfl ?_
    refine g_get hC (kf := 13) (TT := TX0) (N := 16) (Cn := RX0) dX0_pass_53 hL_a h0 rfl q_u0 (by decide) q_fl_X0_45 rfl rfl ?_
    refine g_if_ne hC 70 dX0_pass_56 (by decide) (fun c7 => ?_) (fun c7 => ?_)
    · skip
      refine g_aload_n hC dX0_pass_70 1 rfl ?_
      refine g_get hC (kf := 13) (TT := TX0) (N := 16) (Cn := RX0) dX0_pass_71 hL_a h0 rfl q_u0 (by decide) q_fl_X0_45 rfl rfl ?_
      refine g_iconst hC 1 dX0_pass_74 (by decide) ?_
      refine g_icmp_ne hC 87 dX0_pass_75 (by decide) (fun c8 => ?_) (fun c8 => ?_)
      · skip
        refine g_aload_n hC dX0_pass_87 1 rfl ?_
        refine g_dload hC dX0_pass_88 0 rfl ?_
        refine g_callV hC (Cn := RX0) (TT := TX0) (N := 16) dX0_pass_90 (ct_X0_switchOnOrOff l G L f a lm bd rg tn (x) md fa (some b) lo hi bl bh r6 hL_a h0 hL_lm hL_bd h1 h2) q_code_X0_switchOnOrOff q_ml_X0_85 q_im_X0_switchOnOrOff q_sel_X0_switchOnOrOff q_init_X0 ⟨rfl, by decide, by decide, (show (parseMethodDescriptor yX0_switchOnOrOff.desc).map (fun d => d.parameters.length) = some 1 from by decide +kernel)⟩ hL_a h0 rfl (by decide) (by decide) (Nat.le_of_ble_eq_true rfl) (fun v10 L11 f12 hp9 => ?_)
        obtain ⟨rfl, rfl, u13, hu14, hf15⟩ := hp9
        have hf15x : f12 = va_up f a (.inr (0, [.double (x 0), .double (x 1), .double (x 2), .ref lm, .ref bd, .ref rg, .ref tn, .double (x 3), .double (x 4), .double u13, .double (x 6), .double (x 7), .double (x 8), .int md, .int fa, .ref b])) := hf15
        have h0_n : f12 a = .inr (0, [.double (x 0), .double (x 1), .double (x 2), .ref lm, .ref bd, .ref rg, .ref tn, .double (x 3), .double (x 4), .double u13, .double (x 6), .double (x 7), .double (x 8), .int md, .int fa, .ref b]) := by rw [hf15x]; exact va_up_self _ _ _
        have h1_n : f12 lm = .inr (1, [.double lo, .double hi]) := by rw [hf15x, va_up_ne _ _ (fun z => by have z1 := h1; rw [z, h0] at z1; simp at z1)]; exact h1
        have h2_n : f12 bd = .inr (1, [.double bl, .double bh]) := by rw [hf15x, va_up_ne _ _ (fun z => by have z1 := h2; rw [z, h0] at z1; simp at z1)]; exact h2
        have h3_n : f12 rg = .inr (1, [.double rl, .double rh]) := by rw [hf15x, va_up_ne _ _ (fun z => by have z1 := h3; rw [z, h0] at z1; simp at z1)]; exact h3
        have hF16 : f12 = va_up f a (.inr (0, [.double (x 0), .double (x 1), .double (x 2), .ref lm, .ref bd, .ref rg, .ref tn, .double (x 3), .double (x 4), .double u13, .double (x 6), .double (x 7), .double (x 8), .int md, .int fa, .ref b])) := hf15x
        refine (show V C 7 L f12 0 0 93 [(5, .double r6), (0, .ref a), (1, .double m), (3, .double tg)] [] from ?_)
        refine g_aload_n hC dX0_pass_93 1 rfl ?_
        refine g_dload hC dX0_pass_94 0 rfl ?_
        refine g_put hC (kf := 11) (TT := TX0) (N := 16) (Cn := RX0) (ty0 := tyX0) (fs1 := [.double (x 0), .double (x 1), .double (x 2), .ref lm, .ref bd, .ref rg, .ref tn, .double (x 3), .double (x 4), .double u13, .double (x 6), .double r6, .double (x 8), .int md, .int fa, .ref b]) dX0_pass_96 hL_a h0_n rfl q_u0 (by decide) tyX0_ok nmX0 q_fl_X0_88 rfl rfl rfl rfl rfl (Nat.le_of_ble_eq_true rfl) rfl ?_
        refine g_nm (fun f17 hf18 => ?_)
        have h0_n_n : f17 a = .inr (0, [.double (x 0), .double (x 1), .double (x 2), .ref lm, .ref bd, .ref rg, .ref tn, .double (x 3), .double (x 4), .double u13, .double (x 6), .double r6, .double (x 8), .int md, .int fa, .ref b]) := by rw [hf18]; exact va_up_self _ _ _
        have h1_n_n : f17 lm = .inr (1, [.double lo, .double hi]) := by rw [hf18, va_up_ne _ _ (fun z => by have z1 := h1_n; rw [z, h0_n] at z1; simp at z1)]; exact h1_n
        have h2_n_n : f17 bd = .inr (1, [.double bl, .double bh]) := by rw [hf18, va_up_ne _ _ (fun z => by have z1 := h2_n; rw [z, h0_n] at z1; simp at z1)]; exact h2_n
        have h3_n_n : f17 rg = .inr (1, [.double rl, .double rh]) := by rw [hf18, va_up_ne _ _ (fun z => by have z1 := h3_n; rw [z, h0_n] at z1; simp at z1)]; exact h3_n
        have hF19 : f17 = va_up f a (.inr (0, [.double (x 0), .double (x 1), .double (x 2), .ref lm, .ref bd, .ref rg, .ref tn, .double (x 3), .double (x 4), .double u13, .double (x 6), .double r6, .double (x 8), .int md, .int fa, .ref b])) := by rw [hf18, hF16, va_up_up]
        exact g_vret hC dX0_pass_99 rfl ⟨rfl, rfl, Or.inr ⟨c5, u13, (x 6), r6, er6, by simp [dz, va_up, tU, fU, fV, fA, oU, c7, c8, hu14], by simp [dz, va_up, tS, fS, fV, fA, c7, c8, hu14], hF19⟩⟩ (Nat.zero_le _) (Nat.zero_le _)
      · skip
        refine g_aload_n hC dX0_pass_78 1 rfl ?_
        refine g_dload hC dX0_pass_79 0 rfl ?_
        refine g_callV hC (Cn := RX0) (TT := TX0) (N := 16) dX0_pass_81 (ct_X0_followLaw l G L f a lm bd rg tn (x) md fa (some b) lo hi r6 hL_a h0 hL_lm h1) q_code_X0_followLaw q_ml_X0_82 q_im_X0_followLaw q_sel_X0_followLaw q_init_X0 ⟨rfl, by decide, by decide, (show (parseMethodDescriptor yX0_followLaw.desc).map (fun d => d.parameters.length) = some 1 from by decide +kernel)⟩ hL_a h0 rfl (by decide) (by decide) (Nat.le_of_ble_eq_true rfl) (fun v21 L22 f23 hp20 => ?_)
        obtain ⟨rfl, rfl, u24, s25, hu26, hs27, hf28⟩ := hp20
        have hf28x : f23 = va_up f a (.inr (0, [.double (x 0), .double (x 1), .double (x 2), .ref lm, .ref bd, .ref rg, .ref tn, .double (x 3), .double (x 4), .double u24, .double s25, .double (x 7), .double (x 8), .int md, .int fa, .ref b])) := hf28
        have h0_n : f23 a = .inr (0, [.double (x 0), .double (x 1), .double (x 2), .ref lm, .ref bd, .ref rg, .ref tn, .double (x 3), .double (x 4), .double u24, .double s25, .double (x 7), .double (x 8), .int md, .int fa, .ref b]) := by rw [hf28x]; exact va_up_self _ _ _
        have h1_n : f23 lm = .inr (1, [.double lo, .double hi]) := by rw [hf28x, va_up_ne _ _ (fun z => by have z1 := h1; rw [z, h0] at z1; simp at z1)]; exact h1
        have h2_n : f23 bd = .inr (1, [.double bl, .double bh]) := by rw [hf28x, va_up_ne _ _ (fun z => by have z1 := h2; rw [z, h0] at z1; simp at z1)]; exact h2
        have h3_n : f23 rg = .inr (1, [.double rl, .double rh]) := by rw [hf28x, va_up_ne _ _ (fun z => by have z1 := h3; rw [z, h0] at z1; simp at z1)]; exact h3
        have hF29 : f23 = va_up f a (.inr (0, [.double (x 0), .double (x 1), .double (x 2), .ref lm, .ref bd, .ref rg, .ref tn, .double (x 3), .double (x 4), .double u24, .double s25, .double (x 7), .double (x 8), .int md, .int fa, .ref b])) := hf28x
        refine (show V C 7 L f23 0 0 84 [(5, .double r6), (0, .ref a), (1, .double m), (3, .double tg)] [] from ?_)
        refine g_goto hC 93 dX0_pass_84 (by decide) ?_
        refine g_aload_n hC dX0_pass_93 1 rfl ?_
        refine g_dload hC dX0_pass_94 0 rfl ?_
        refine g_put hC (kf := 11) (TT := TX0) (N := 16) (Cn := RX0) (ty0 := tyX0) (fs1 := [.double (x 0), .double (x 1), .double (x 2), .ref lm, .ref bd, .ref rg, .ref tn, .double (x 3), .double (x 4), .double u24, .double s25, .double r6, .double (x 8), .int md, .int fa, .ref b]) dX0_pass_96 hL_a h0_n rfl q_u0 (by decide) tyX0_ok nmX0 q_fl_X0_88 rfl rfl rfl rfl rfl (Nat.le_of_ble_eq_true rfl) rfl ?_
        refine g_nm (fun f30 hf31 => ?_)
        have h0_n_n : f30 a = .inr (0, [.double (x 0), .double (x 1), .double (x 2), .ref lm, .ref bd, .ref rg, .ref tn, .double (x 3), .double (x 4), .double u24, .double s25, .double r6, .double (x 8), .int md, .int fa, .ref b]) := by rw [hf31]; exact va_up_self _ _ _
        have h1_n_n : f30 lm = .inr (1, [.double lo, .double hi]) := by rw [hf31, va_up_ne _ _ (fun z => by have z1 := h1_n; rw [z, h0_n] at z1; simp at z1)]; exact h1_n
        have h2_n_n : f30 bd = .inr (1, [.double bl, .double bh]) := by rw [hf31, va_up_ne _ _ (fun z => by have z1 := h2_n; rw [z, h0_n] at z1; simp at z1)]; exact h2_n
        have h3_n_n : f30 rg = .inr (1, [.double rl, .double rh]) := by rw [hf31, va_up_ne _ _ (fun z => by have z1 := h3_n; rw [z, h0_n] at z1; simp at z1)]; exact h3_n
        have hF32 : f30 = va_up f a (.inr (0, [.double (x 0), .double (x 1), .double (x 2), .ref lm, .ref bd, .ref rg, .ref tn, .double (x 3), .double (x 4), .double u24, .double s25, .double r6, .double (x 8), .int md, .int fa, .ref b])) := by rw [hf31, hF29, va_up_up]
        exact g_vret hC dX0_pass_99 rfl ⟨rfl, rfl, Or.inr ⟨c5, u24, s25, r6, er6, by simp [dz, va_up, tU, fU, fV, fA, oU, c7, c8, hu26, hs27], by simp [dz, va_up, tS, fS, fV, fA, c7, c8, hu26, hs27], hF32⟩⟩ (Nat.zero_le _) (Nat.zero_le _)
    · skip
      refine g_aload_n hC dX0_pass_59 1 rfl ?_
      refine g_aload_n hC dX0_pass_60 1 rfl ?_
      refine g_get hC (kf := 12) (TT := TX0) (N := 16) (Cn := RX0) dX0_pass_61 hL_a h0 rfl q_u0 (by decide) q_fl_X0_75 rfl rfl ?_
      refine g_callV hC (Cn := RX0) (TT := TX0) (N := 16) dX0_pass_64 (ct_X0_moveTo l G L f a lm bd rg tn (x) md fa (some b) (x 8) hL_a h0) q_code_X0_moveTo q_ml_X0_78 q_im_X0_moveTo q_sel_X0_moveTo q_init_X0 ⟨rfl, by decide, by decide, (show (parseMethodDescriptor yX0_moveTo.desc).map (fun d => d.parameters.length) = some 1 from by decide +kernel)⟩ hL_a h0 rfl (by decide) (by decide) (Nat.le_of_ble_eq_true rfl) (fun v34 L35 f36 hp33 => ?_)
      obtain ⟨rfl, rfl, u37, hu38, hf39⟩ := hp33
      have hf39x : f36 = va_up f a (.inr (0, [.double (x 0), .double (x 1), .double (x 2), .ref lm, .ref bd, .ref rg, .ref tn, .double (x 3), .double (x 4), .double u37, .double (x 6), .double (x 7), .double (x 8), .int md, .int fa, .ref b])) := hf39
      have h0_n : f36 a = .inr (0, [.double (x 0), .double (x 1), .double (x 2), .ref lm, .ref bd, .ref rg, .ref tn, .double (x 3), .double (x 4), .double u37, .double (x 6), .double (x 7), .double (x 8), .int md, .int fa, .ref b]) := by rw [hf39x]; exact va_up_self _ _ _
      have h1_n : f36 lm = .inr (1, [.double lo, .double hi]) := by rw [hf39x, va_up_ne _ _ (fun z => by have z1 := h1; rw [z, h0] at z1; simp at z1)]; exact h1
      have h2_n : f36 bd = .inr (1, [.double bl, .double bh]) := by rw [hf39x, va_up_ne _ _ (fun z => by have z1 := h2; rw [z, h0] at z1; simp at z1)]; exact h2
      have h3_n : f36 rg = .inr (1, [.double rl, .double rh]) := by rw [hf39x, va_up_ne _ _ (fun z => by have z1 := h3; rw [z, h0] at z1; simp at z1)]; exact h3
      have hF40 : f36 = va_up f a (.inr (0, [.double (x 0), .double (x 1), .double (x 2), .ref lm, .ref bd, .ref rg, .ref tn, .double (x 3), .double (x 4), .double u37, .double (x 6), .double (x 7), .double (x 8), .int md, .int fa, .ref b])) := hf39x
      refine (show V C 7 L f36 0 0 67 [(5, .double r6), (0, .ref a), (1, .double m), (3, .double tg)] [] from ?_)
      refine g_goto hC 93 dX0_pass_67 (by decide) ?_
      refine g_aload_n hC dX0_pass_93 1 rfl ?_
      refine g_dload hC dX0_pass_94 0 rfl ?_
      refine g_put hC (kf := 11) (TT := TX0) (N := 16) (Cn := RX0) (ty0 := tyX0) (fs1 := [.double (x 0), .double (x 1), .double (x 2), .ref lm, .ref bd, .ref rg, .ref tn, .double (x 3), .double (x 4), .double u37, .double (x 6), .double r6, .double (x 8), .int md, .int fa, .ref b]) dX0_pass_96 hL_a h0_n rfl q_u0 (by decide) tyX0_ok nmX0 q_fl_X0_88 rfl rfl rfl rfl rfl (Nat.le_of_ble_eq_true rfl) rfl ?_
      refine g_nm (fun f41 hf42 => ?_)
      have h0_n_n : f41 a = .inr (0, [.double (x 0), .double (x 1), .double (x 2), .ref lm, .ref bd, .ref rg, .ref tn, .double (x 3), .double (x 4), .double u37, .double (x 6), .double r6, .double (x 8), .int md, .int fa, .ref b]) := by rw [hf42]; exact va_up_self _ _ _
      have h1_n_n : f41 lm = .inr (1, [.double lo, .double hi]) := by rw [hf42, va_up_ne _ _ (fun z => by have z1 := h1_n; rw [z, h0_n] at z1; simp at z1)]; exact h1_n
      have h2_n_n : f41 bd = .inr (1, [.double bl, .double bh]) := by rw [hf42, va_up_ne _ _ (fun z => by have z1 := h2_n; rw [z, h0_n] at z1; simp at z1)]; exact h2_n
      have h3_n_n : f41 rg = .inr (1, [.double rl, .double rh]) := by rw [hf42, va_up_ne _ _ (fun z => by have z1 := h3_n; rw [z, h0_n] at z1; simp at z1)]; exact h3_n
      have hF43 : f41 = va_up f a (.inr (0, [.double (x 0), .double (x 1), .double (x 2), .ref lm, .ref bd, .ref rg, .ref tn, .double (x 3), .double (x 4), .double u37, .double (x 6), .double r6, .double (x 8), .int md, .int fa, .ref b])) := by rw [hf42, hF40, va_up_up]
      exact g_vret hC dX0_pass_99 rfl ⟨rfl, rfl, Or.inr ⟨c5, u37, (x 6), r6, er6, by simp [dz, va_up, tU, fU, fV, fA, oU, c7, hu38], by simp [dz, va_up, tS, fS, fV, fA, c7, hu38], hF43⟩⟩ (Nat.zero_le _) (Nat.zero_le _)
  · skip
    refine g_aload_n hC dX0_pass_11 0 rfl ?_
    refine g_aload_n hC dX0_pass_12 0 rfl ?_
    refine g_get hC (kf := 8) (TT := TX0) (N := 16) (Cn := RX0) dX0_pass_13 hL_a h0 rfl q_u0 (by decide) q_fl_X0_62 rfl rfl ?_
    refine g_put hC (kf := 9) (TT := TX0) (N := 16) (Cn := RX0) (ty0 := tyX0) (fs1 := [.double (x 0), .double (x 1), .double (x 2), .ref lm, .ref bd, .ref rg, .ref tn, .double (x 3), .double (x 4), .double (x 4), .double (x 6), .double (x 7), .double (x 8), .int md, .int fa, .ref b]) dX0_pass_16 hL_a h0 rfl q_u0 (by decide) tyX0_ok nmX0 q_fl_X0_65 rfl rfl rfl rfl rfl (Nat.le_of_ble_eq_true rfl) rfl ?_
    refine g_nm (fun f44 hf45 => ?_)
    have h0_n : f44 a = .inr (0, [.double (x 0), .double (x 1), .double (x 2), .ref lm, .ref bd, .ref rg, .ref tn, .double (x 3), .double (x 4), .double (x 4), .double (x 6), .double (x 7), .double (x 8), .int md, .int fa, .ref b]) := by rw [hf45]; exact va_up_self _ _ _
    have h1_n : f44 lm = .inr (1, [.double lo, .double hi]) := by rw [hf45, va_up_ne _ _ (fun z => by have z1 := h1; rw [z, h0] at z1; simp at z1)]; exact h1
    have h2_n : f44 bd = .inr (1, [.double bl, .double bh]) := by rw [hf45, va_up_ne _ _ (fun z => by have z1 := h2; rw [z, h0] at z1; simp at z1)]; exact h2
    have h3_n : f44 rg = .inr (1, [.double rl, .double rh]) := by rw [hf45, va_up_ne _ _ (fun z => by have z1 := h3; rw [z, h0] at z1; simp at z1)]; exact h3
    have hF46 : f44 = va_up f a (.inr (0, [.double (x 0), .double (x 1), .double (x 2), .ref lm, .ref bd, .ref rg, .ref tn, .double (x 3), .double (x 4), .double (x 4), .double (x 6), .double (x 7), .double (x 8), .int md, .int fa, .ref b])) := hf45
    refine g_aload_n hC dX0_pass_19 0 rfl ?_
    refine g_dup hC dX0_pass_20 rfl ?_
    refine g_get hC (kf := 14) (TT := TX0) (N := 16) (Cn := RX0) dX0_pass_21 hL_a h0_n rfl q_u0 (by decide) q_fl_X0_68 rfl rfl ?_
    refine g_iconst hC 1 dX0_pass_24 (by decide) ?_
    refine g_iadd hC dX0_pass_25 ?_
    refine g_put hC (kf := 14) (TT := TX0) (N := 16) (Cn := RX0) (ty0 := tyX0) (fs1 := [.double (x 0), .double (x 1), .double (x 2), .ref lm, .ref bd, .ref rg, .ref tn, .double (x 3), .double (x 4), .double (x 4), .double (x 6), .double (x 7), .double (x 8), .int md, .int (fa + 1), .ref b]) dX0_pass_26 hL_a h0_n rfl q_u0 (by decide) tyX0_ok nmX0 q_fl_X0_68 rfl rfl rfl rfl rfl (Nat.le_of_ble_eq_true rfl) rfl ?_
    refine g_nm (fun f47 hf48 => ?_)
    have h0_n_n : f47 a = .inr (0, [.double (x 0), .double (x 1), .double (x 2), .ref lm, .ref bd, .ref rg, .ref tn, .double (x 3), .double (x 4), .double (x 4), .double (x 6), .double (x 7), .double (x 8), .int md, .int (fa + 1), .ref b]) := by rw [hf48]; exact va_up_self _ _ _
    have h1_n_n : f47 lm = .inr (1, [.double lo, .double hi]) := by rw [hf48, va_up_ne _ _ (fun z => by have z1 := h1_n; rw [z, h0_n] at z1; simp at z1)]; exact h1_n
    have h2_n_n : f47 bd = .inr (1, [.double bl, .double bh]) := by rw [hf48, va_up_ne _ _ (fun z => by have z1 := h2_n; rw [z, h0_n] at z1; simp at z1)]; exact h2_n
    have h3_n_n : f47 rg = .inr (1, [.double rl, .double rh]) := by rw [hf48, va_up_ne _ _ (fun z => by have z1 := h3_n; rw [z, h0_n] at z1; simp at z1)]; exact h3_n
    have hF49 : f47 = va_up f a (.inr (0, [.double (x 0), .double (x 1), .double (x 2), .ref lm, .ref bd, .ref rg, .ref tn, .double (x 3), .double (x 4), .double (x 4), .double (x 6), .double (x 7), .double (x 8), .int md, .int (fa + 1), .ref b])) := by rw [hf48, hF46, va_up_up]
    exact g_vret hC dX0_pass_29 rfl ⟨rfl, rfl, Or.inl ⟨c5, hF49⟩⟩ (Nat.zero_le _) (Nat.zero_le _)
set_option maxHeartbeats 4000000 in
set_option maxRecDepth 100000 in
/-- turnTo(m) -/
theorem ct_X0_turnTo (l : Launch) (G : GD) (L : List Nat) (f : Nat → va_E) (a lm bd rg tn : Nat) (x : Nat → UInt64) (md fa : Int32) (ou : Option Nat) (m : Int32) (hL_a : a ∈ L) (h0 : f a = eLp x md fa lm bd rg tn ou) : Ctr l yX0_turnTo cX0_turnTo 2 none R00 G [.ref a, .int m] L f (fun vv L1 f1 => vv = none ∧ L = L1 ∧ ((m = md ∧ f = f1) ∨ (¬ m = md ∧ ∃ h s : UInt64, dv h = (if m = 0 then dv (x 5) else dv (x 8)) ∧ dv s = (if m = 1 then qsub (dv (x 5)) (qmul (dv (x 0)) (dv (x 7))) else dv (x 6)) ∧ f1 = va_up f a (eLp (va_up (va_up x 6 s) 8 h) m fa lm bd rg tn ou)))) := by
  refine g_enter RX0 false (by decide) rfl (fun h => by cases h) (Nat.le_of_ble_eq_true rfl) (fun C hC => ?_)
  refine (show V C 2 L f 0 0 0 [(0, .ref a), (1, .int m)] [] from ?_)
  refine g_iload_n hC dX0_turnTo_0 1 rfl ?_
  refine g_aload_n hC dX0_turnTo_1 0 rfl ?_
  refine g_get hC (kf := 13) (TT := TX0) (N := 16) (Cn := RX0) dX0_turnTo_2 hL_a h0 rfl q_u0 (by decide) q_fl_X0_45 rfl rfl ?_
  refine g_icmp_ne hC 9 dX0_turnTo_5 (by decide) (fun c1 => ?_) (fun c1 => ?_)
  · skip
    refine g_aload_n hC dX0_turnTo_9 0 rfl ?_
    refine g_iload_n hC dX0_turnTo_10 1 rfl ?_
    refine g_put hC (kf := 13) (TT := TX0) (N := 16) (Cn := RX0) (ty0 := tyX0) (fs1 := [.double (x 0), .double (x 1), .double (x 2), .ref lm, .ref bd, .ref rg, .ref tn, .double (x 3), .double (x 4), .double (x 5), .double (x 6), .double (x 7), .double (x 8), .int m, .int fa, va_rf ou]) dX0_turnTo_11 hL_a h0 rfl q_u0 (by decide) tyX0_ok nmX0 q_fl_X0_45 rfl rfl rfl rfl rfl (Nat.le_of_ble_eq_true rfl) rfl ?_
    refine g_nm (fun f2 hf3 => ?_)
    have h0_n : f2 a = .inr (0, [.double (x 0), .double (x 1), .double (x 2), .ref lm, .ref bd, .ref rg, .ref tn, .double (x 3), .double (x 4), .double (x 5), .double (x 6), .double (x 7), .double (x 8), .int m, .int fa, va_rf ou]) := by rw [hf3]; exact va_up_self _ _ _
    have hF4 : f2 = va_up f a (.inr (0, [.double (x 0), .double (x 1), .double (x 2), .ref lm, .ref bd, .ref rg, .ref tn, .double (x 3), .double (x 4), .double (x 5), .double (x 6), .double (x 7), .double (x 8), .int m, .int fa, va_rf ou])) := hf3
    refine g_iload_n hC dX0_turnTo_14 1 rfl ?_
    refine g_if_ne hC 29 dX0_turnTo_15 (by decide) (fun c5 => ?_) (fun c5 => ?_)
    · skip
      refine g_iload_n hC dX0_turnTo_29 1 rfl ?_
      refine g_iconst hC 1 dX0_turnTo_30 (by decide) ?_
      refine g_icmp_ne hC 52 dX0_turnTo_31 (by decide) (fun c6 => ?_) (fun c6 => ?_)
      · skip
        exact g_vret hC dX0_turnTo_52 rfl ⟨rfl, rfl, Or.inr ⟨c1, (x 8), (x 6), by simp [c5, c6], by simp [c5, c6], hF4⟩⟩ (Nat.zero_le _) (Nat.zero_le _)
      · skip
        refine g_aload_n hC dX0_turnTo_34 0 rfl ?_
        refine g_aload_n hC dX0_turnTo_35 0 rfl ?_
        refine g_get hC (kf := 9) (TT := TX0) (N := 16) (Cn := RX0) dX0_turnTo_36 hL_a h0_n rfl q_u0 (by decide) q_fl_X0_65 rfl rfl ?_
        refine g_aload_n hC dX0_turnTo_39 0 rfl ?_
        refine g_get hC (kf := 0) (TT := TX0) (N := 16) (Cn := RX0) dX0_turnTo_40 hL_a h0_n rfl q_u0 (by decide) q_fl_X0_49 rfl rfl ?_
        refine g_aload_n hC dX0_turnTo_43 0 rfl ?_
        refine g_get hC (kf := 11) (TT := TX0) (N := 16) (Cn := RX0) dX0_turnTo_44 hL_a h0_n rfl q_u0 (by decide) q_fl_X0_88 rfl rfl ?_
        refine g_dmul hC dX0_turnTo_47 (fun r7 er7 => ?_)
        refine g_dsub hC dX0_turnTo_48 (fun r8 er8 => ?_)
        try simp only [er7] at er8
        refine g_put hC (kf := 10) (TT := TX0) (N := 16) (Cn := RX0) (ty0 := tyX0) (fs1 := [.double (x 0), .double (x 1), .double (x 2), .ref lm, .ref bd, .ref rg, .ref tn, .double (x 3), .double (x 4), .double (x 5), .double r8, .double (x 7), .double (x 8), .int m, .int fa, va_rf ou]) dX0_turnTo_49 hL_a h0_n rfl q_u0 (by decide) tyX0_ok nmX0 q_fl_X0_91 rfl rfl rfl rfl rfl (Nat.le_of_ble_eq_true rfl) rfl ?_
        refine g_nm (fun f9 hf10 => ?_)
        have h0_n_n : f9 a = .inr (0, [.double (x 0), .double (x 1), .double (x 2), .ref lm, .ref bd, .ref rg, .ref tn, .double (x 3), .double (x 4), .double (x 5), .double r8, .double (x 7), .double (x 8), .int m, .int fa, va_rf ou]) := by rw [hf10]; exact va_up_self _ _ _
        have hF11 : f9 = va_up f a (.inr (0, [.double (x 0), .double (x 1), .double (x 2), .ref lm, .ref bd, .ref rg, .ref tn, .double (x 3), .double (x 4), .double (x 5), .double r8, .double (x 7), .double (x 8), .int m, .int fa, va_rf ou])) := by rw [hf10, hF4, va_up_up]
        exact g_vret hC dX0_turnTo_52 rfl ⟨rfl, rfl, Or.inr ⟨c1, (x 8), r8, by simp [c5, c6, er7, er8], by simp [c5, c6, er7, er8], hF11⟩⟩ (Nat.zero_le _) (Nat.zero_le _)
    · skip
      refine g_aload_n hC dX0_turnTo_18 0 rfl ?_
      refine g_aload_n hC dX0_turnTo_19 0 rfl ?_
      refine g_get hC (kf := 9) (TT := TX0) (N := 16) (Cn := RX0) dX0_turnTo_20 hL_a h0_n rfl q_u0 (by decide) q_fl_X0_65 rfl rfl ?_
      refine g_put hC (kf := 12) (TT := TX0) (N := 16) (Cn := RX0) (ty0 := tyX0) (fs1 := [.double (x 0), .double (x 1), .double (x 2), .ref lm, .ref bd, .ref rg, .ref tn, .double (x 3), .double (x 4), .double (x 5), .double (x 6), .double (x 7), .double (x 5), .int m, .int fa, va_rf ou]) dX0_turnTo_23 hL_a h0_n rfl q_u0 (by decide) tyX0_ok nmX0 q_fl_X0_75 rfl rfl rfl rfl rfl (Nat.le_of_ble_eq_true rfl) rfl ?_
      refine g_nm (fun f12 hf13 => ?_)
      have h0_n_n : f12 a = .inr (0, [.double (x 0), .double (x 1), .double (x 2), .ref lm, .ref bd, .ref rg, .ref tn, .double (x 3), .double (x 4), .double (x 5), .double (x 6), .double (x 7), .double (x 5), .int m, .int fa, va_rf ou]) := by rw [hf13]; exact va_up_self _ _ _
      have hF14 : f12 = va_up f a (.inr (0, [.double (x 0), .double (x 1), .double (x 2), .ref lm, .ref bd, .ref rg, .ref tn, .double (x 3), .double (x 4), .double (x 5), .double (x 6), .double (x 7), .double (x 5), .int m, .int fa, va_rf ou])) := by rw [hf13, hF4, va_up_up]
      refine g_goto hC 52 dX0_turnTo_26 (by decide) ?_
      exact g_vret hC dX0_turnTo_52 rfl ⟨rfl, rfl, Or.inr ⟨c1, (x 5), (x 6), by simp [c5], by simp [c5], hF14⟩⟩ (Nat.zero_le _) (Nat.zero_le _)
  · skip
    exact g_vret hC dX0_turnTo_8 rfl ⟨rfl, rfl, Or.inl ⟨c1, rfl⟩⟩ (Nat.zero_le _) (Nat.zero_le _)
