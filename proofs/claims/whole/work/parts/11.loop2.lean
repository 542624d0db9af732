set_option maxHeartbeats 4000000 in
set_option maxRecDepth 100000 in
/-- pass(measured, target), without an outer loop -/
theorem ct_X0_pass_n (l : Launch) (G : GD) (L : List Nat) (f : Nat → va_E) (a lm bd rg tn : Nat) (x : Nat → UInt64) (md fa : Int32) (lo hi bl bh rl rh : UInt64) (m tg : UInt64) (hL_a : a ∈ L) (h0 : f a = eLp x md fa lm bd rg tn none) (hL_lm : lm ∈ L) (hL_bd : bd ∈ L) (hL_rg : rg ∈ L) (h1 : f lm = eSp lo hi) (h2 : f bd = eSp bl bh) (h3 : f rg = eSp rl rh) : Ctr l yX0_pass cX0_pass 7 none { frames := 2, cells := 0, slots := 0, locals := 50 } G [.ref a, .double m, .double tg] L f (fun vv L1 f1 => vv = none ∧ L = L1 ∧ ((inB (dv m) (dv rl) (dv rh) = false ∧ f1 = va_up f a (eLp (va_up x 5 (x 4)) md (fa + 1) lm bd rg tn none)) ∨ (inB (dv m) (dv rl) (dv rh) = true ∧ ∃ u s e : UInt64, dv e = qsub (dv tg) (dv m) ∧ dv u = tU (dz x) md (dv lo) (dv hi) (dv bl) (dv bh) (dv e) ∧ dv s = tS (dz x) md (dv lo) (dv hi) (dv e) ∧ f1 = va_up f a (eLp (va_up (va_up (va_up x 6 s) 5 u) 7 e) md fa lm bd rg tn none)))) := by
  refine g_enter RX0 false (by decide) rfl (fun h => by cases h) (Nat.le_of_ble_eq_true rfl) (fun C hC => ?_)
  refine (show V C 7 L f 0 0 0 [(0, .ref a), (1, .double m), (3, .double tg)] [] from ?_)
  refine g_aload_n hC dX0_pass_0 0 rfl ?_
  refine g_get hC (kf := 5) (TT := TX0) (N := 16) (Cn := RX0) dX0_pass_1 hL_a h0 rfl q_u0 (by decide) q_fl_X0_31 rfl rfl ?_
  refine g_dload_n hC dX0_pass_4 1 rfl ?_
  refine g_callV hC (Cn := RX1) (TT := TX1) (N := 2) dX0_pass_5 (ct_X1_holds l G L f rg rl rh m hL_rg h3) q_code_X1_holds q_ml_X0_58 q_im_X1_holds q_sel_X1_holds q_init_X1 ⟨rfl, by decide, by decide, (show (parseMethodDescriptor yX1_holds.desc).map (fun d => d.parameters.length) = some 1 from by decide +kernel)⟩ hL_rg h3 rfl (by decide) (by decide) (Nat.le_of_ble_eq_true rfl) (fun v2 L3 f4 hp1 => ?_)
  obtain ⟨rfl, rfl, rfl⟩ := hp1
  refine (show V C 7 L f 0 0 8 [(0, .ref a), (1, .double m), (3, .double tg)] [.int (bI (inB (dv m) (dv rl) (dv rh)))] from ?_)
  refine g_ifB_ne hC 30 dX0_pass_8 (by decide) (fun c5 => ?_) (fun c5 => ?_)
  · skip
    refine g_aload_n hC dX0_pass_30 0 rfl ?_
    refine g_get hC (kf := 15) (TT := TX0) (N := 16) (Cn := RX0) dX0_pass_31 hL_a h0 rfl q_u0 (by decide) q_fl_X0_71 rfl rfl ?_
    refine g_ifnonnullN hC dX0_pass_34 ?_
    refine g_dload_n hC dX0_pass_37 2 rfl ?_
    refine g_goto hC 48 dX0_pass_38 (by decide) ?_
    refine g_dload_n hC dX0_pass_48 1 rfl ?_
    refine g_dsub hC dX0_pass_49 (fun r6 er6 => ?_)
    refine g_dstore hC (lv1 := [(5, .double r6), (0, .ref a), (1, .double m), (3, .double tg)]) dX0_pass_50 (by decide) rfl ?_
    refine g_aload_n hC dX0_pass_52 1 rfl ?_
    refine g_get hC (kf := 13) (TT := TX0) (N := 16) (Cn := RX0) dX0_pass_53 hL_a h0 rfl q_u0 (by decide) q_fl_X0_45 rfl rfl ?_
    refine g_if_ne hC 70 dX0_pass_56 (by decide) (fun c7 => ?_) (fun c7 => ?_)
    · skip
      refine g_aload_n hC dX0_pass_70 1 rfl ?_
      refine g_get hC (kf := 13) (TT := TX0) (N := 16) (Cn := RX0) dX0_pass_71 hL_a h0 rfl q_u0 (by decide) q_fl_X0_45 rfl rfl ?_
      refine g_iconst hC 1 dX0_pass_74 (by decide) ?_
      refine g_icmp_ne hC 87 dX0_pass_75 (by decide) (fun c8 => ?_) (fun c8 => ?_)
      · skip
        refine g_aload_n hC dX0_pass_87 1 rfl ?_
        refine g_dload hC dX0_pass_88 0 rfl ?_
        refine g_callV hC (Cn := RX0) (TT := TX0) (N := 16) dX0_pass_90 (ct_X0_switchOnOrOff l G L f a lm bd rg tn (x) md fa none lo hi bl bh r6 hL_a h0 hL_lm hL_bd h1 h2) q_code_X0_switchOnOrOff q_ml_X0_85 q_im_X0_switchOnOrOff q_sel_X0_switchOnOrOff q_init_X0 ⟨rfl, by decide, by decide, (show (parseMethodDescriptor yX0_switchOnOrOff.desc).map (fun d => d.parameters.length) = some 1 from by decide +kernel)⟩ hL_a h0 rfl (by decide) (by decide) (Nat.le_of_ble_eq_true rfl) (fun v10 L11 f12 hp9 => ?_)
        obtain ⟨rfl, rfl, u13, hu14, hf15⟩ := hp9
        have hf15x : f12 = va_up f a (.inr (0, [.double (x 0), .double (x 1), .double (x 2), .ref lm, .ref bd, .ref rg, .ref tn, .double (x 3), .double (x 4), .double u13, .double (x 6), .double (x 7), .double (x 8), .int md, .int fa, .null])) := hf15
        have hx16 : f12 a = .inr (0, [.double (x 0), .double (x 1), .double (x 2), .ref lm, .ref bd, .ref rg, .ref tn, .double (x 3), .double (x 4), .double u13, .double (x 6), .double (x 7), .double (x 8), .int md, .int fa, .null]) := by rw [hf15x]; exact va_up_self _ _ _
        have hx17 : f12 lm = .inr (1, [.double lo, .double hi]) := by rw [hf15x, va_up_ne _ _ (fun z => by have z1 := h1; rw [z, h0] at z1; simp at z1)]; exact h1
        have hx18 : f12 bd = .inr (1, [.double bl, .double bh]) := by rw [hf15x, va_up_ne _ _ (fun z => by have z1 := h2; rw [z, h0] at z1; simp at z1)]; exact h2
        have hx19 : f12 rg = .inr (1, [.double rl, .double rh]) := by rw [hf15x, va_up_ne _ _ (fun z => by have z1 := h3; rw [z, h0] at z1; simp at z1)]; exact h3
        have hF20 : f12 = va_up f a (.inr (0, [.double (x 0), .double (x 1), .double (x 2), .ref lm, .ref bd, .ref rg, .ref tn, .double (x 3), .double (x 4), .double u13, .double (x 6), .double (x 7), .double (x 8), .int md, .int fa, .null])) := hf15x
        refine (show V C 7 L f12 0 0 93 [(5, .double r6), (0, .ref a), (1, .double m), (3, .double tg)] [] from ?_)
        refine g_aload_n hC dX0_pass_93 1 rfl ?_
        refine g_dload hC dX0_pass_94 0 rfl ?_
        refine g_put hC (kf := 11) (TT := TX0) (N := 16) (Cn := RX0) (ty0 := tyX0) (fs1 := [.double (x 0), .double (x 1), .double (x 2), .ref lm, .ref bd, .ref rg, .ref tn, .double (x 3), .double (x 4), .double u13, .double (x 6), .double r6, .double (x 8), .int md, .int fa, .null]) dX0_pass_96 hL_a hx16 rfl q_u0 (by decide) tyX0_ok nmX0 q_fl_X0_88 rfl rfl rfl rfl rfl (Nat.le_of_ble_eq_true rfl) rfl ?_
        refine g_nm (fun f21 hf22 => ?_)
        have hx23 : f21 a = .inr (0, [.double (x 0), .double (x 1), .double (x 2), .ref lm, .ref bd, .ref rg, .ref tn, .double (x 3), .double (x 4), .double u13, .double (x 6), .double r6, .double (x 8), .int md, .int fa, .null]) := by rw [hf22]; exact va_up_self _ _ _
        have hx24 : f21 lm = .inr (1, [.double lo, .double hi]) := by rw [hf22, va_up_ne _ _ (fun z => by have z1 := hx17; rw [z, hx16] at z1; simp at z1)]; exact hx17
        have hx25 : f21 bd = .inr (1, [.double bl, .double bh]) := by rw [hf22, va_up_ne _ _ (fun z => by have z1 := hx18; rw [z, hx16] at z1; simp at z1)]; exact hx18
        have hx26 : f21 rg = .inr (1, [.double rl, .double rh]) := by rw [hf22, va_up_ne _ _ (fun z => by have z1 := hx19; rw [z, hx16] at z1; simp at z1)]; exact hx19
        have hF27 : f21 = va_up f a (.inr (0, [.double (x 0), .double (x 1), .double (x 2), .ref lm, .ref bd, .ref rg, .ref tn, .double (x 3), .double (x 4), .double u13, .double (x 6), .double r6, .double (x 8), .int md, .int fa, .null])) := by rw [hf22, hF20, va_up_up]
        exact g_vret hC dX0_pass_99 rfl ⟨rfl, rfl, Or.inr ⟨c5, u13, (x 6), r6, er6, by simp [dz, va_up, tU, fU, fV, fA, oU, c7, c8, hu14], by simp [dz, va_up, tS, fS, fV, fA, c7, c8, hu14], hF27⟩⟩ (Nat.zero_le _) (Nat.zero_le _)
      · skip
        refine g_aload_n hC dX0_pass_78 1 rfl ?_
        refine g_dload hC dX0_pass_79 0 rfl ?_
        refine g_callV hC (Cn := RX0) (TT := TX0) (N := 16) dX0_pass_81 (ct_X0_followLaw l G L f a lm bd rg tn (x) md fa none lo hi r6 hL_a h0 hL_lm h1) q_code_X0_followLaw q_ml_X0_82 q_im_X0_followLaw q_sel_X0_followLaw q_init_X0 ⟨rfl, by decide, by decide, (show (parseMethodDescriptor yX0_followLaw.desc).map (fun d => d.parameters.length) = some 1 from by decide +kernel)⟩ hL_a h0 rfl (by decide) (by decide) (Nat.le_of_ble_eq_true rfl) (fun v29 L30 f31 hp28 => ?_)
        obtain ⟨rfl, rfl, u32, s33, hu34, hs35, hf36⟩ := hp28
        have hf36x : f31 = va_up f a (.inr (0, [.double (x 0), .double (x 1), .double (x 2), .ref lm, .ref bd, .ref rg, .ref tn, .double (x 3), .double (x 4), .double u32, .double s33, .double (x 7), .double (x 8), .int md, .int fa, .null])) := hf36
        have hx37 : f31 a = .inr (0, [.double (x 0), .double (x 1), .double (x 2), .ref lm, .ref bd, .ref rg, .ref tn, .double (x 3), .double (x 4), .double u32, .double s33, .double (x 7), .double (x 8), .int md, .int fa, .null]) := by rw [hf36x]; exact va_up_self _ _ _
        have hx38 : f31 lm = .inr (1, [.double lo, .double hi]) := by rw [hf36x, va_up_ne _ _ (fun z => by have z1 := h1; rw [z, h0] at z1; simp at z1)]; exact h1
        have hx39 : f31 bd = .inr (1, [.double bl, .double bh]) := by rw [hf36x, va_up_ne _ _ (fun z => by have z1 := h2; rw [z, h0] at z1; simp at z1)]; exact h2
        have hx40 : f31 rg = .inr (1, [.double rl, .double rh]) := by rw [hf36x, va_up_ne _ _ (fun z => by have z1 := h3; rw [z, h0] at z1; simp at z1)]; exact h3
        have hF41 : f31 = va_up f a (.inr (0, [.double (x 0), .double (x 1), .double (x 2), .ref lm, .ref bd, .ref rg, .ref tn, .double (x 3), .double (x 4), .double u32, .double s33, .double (x 7), .double (x 8), .int md, .int fa, .null])) := hf36x
        refine (show V C 7 L f31 0 0 84 [(5, .double r6), (0, .ref a), (1, .double m), (3, .double tg)] [] from ?_)
        refine g_goto hC 93 dX0_pass_84 (by decide) ?_
        refine g_aload_n hC dX0_pass_93 1 rfl ?_
        refine g_dload hC dX0_pass_94 0 rfl ?_
        refine g_put hC (kf := 11) (TT := TX0) (N := 16) (Cn := RX0) (ty0 := tyX0) (fs1 := [.double (x 0), .double (x 1), .double (x 2), .ref lm, .ref bd, .ref rg, .ref tn, .double (x 3), .double (x 4), .double u32, .double s33, .double r6, .double (x 8), .int md, .int fa, .null]) dX0_pass_96 hL_a hx37 rfl q_u0 (by decide) tyX0_ok nmX0 q_fl_X0_88 rfl rfl rfl rfl rfl (Nat.le_of_ble_eq_true rfl) rfl ?_
        refine g_nm (fun f42 hf43 => ?_)
        have hx44 : f42 a = .inr (0, [.double (x 0), .double (x 1), .double (x 2), .ref lm, .ref bd, .ref rg, .ref tn, .double (x 3), .double (x 4), .double u32, .double s33, .double r6, .double (x 8), .int md, .int fa, .null]) := by rw [hf43]; exact va_up_self _ _ _
        have hx45 : f42 lm = .inr (1, [.double lo, .double hi]) := by rw [hf43, va_up_ne _ _ (fun z => by have z1 := hx38; rw [z, hx37] at z1; simp at z1)]; exact hx38
        have hx46 : f42 bd = .inr (1, [.double bl, .double bh]) := by rw [hf43, va_up_ne _ _ (fun z => by have z1 := hx39; rw [z, hx37] at z1; simp at z1)]; exact hx39
        have hx47 : f42 rg = .inr (1, [.double rl, .double rh]) := by rw [hf43, va_up_ne _ _ (fun z => by have z1 := hx40; rw [z, hx37] at z1; simp at z1)]; exact hx40
        have hF48 : f42 = va_up f a (.inr (0, [.double (x 0), .double (x 1), .double (x 2), .ref lm, .ref bd, .ref rg, .ref tn, .double (x 3), .double (x 4), .double u32, .double s33, .double r6, .double (x 8), .int md, .int fa, .null])) := by rw [hf43, hF41, va_up_up]
        exact g_vret hC dX0_pass_99 rfl ⟨rfl, rfl, Or.inr ⟨c5, u32, s33, r6, er6, by simp [dz, va_up, tU, fU, fV, fA, oU, c7, c8, hu34, hs35], by simp [dz, va_up, tS, fS, fV, fA, c7, c8, hu34, hs35], hF48⟩⟩ (Nat.zero_le _) (Nat.zero_le _)
    · skip
      refine g_aload_n hC dX0_pass_59 1 rfl ?_
      refine g_aload_n hC dX0_pass_60 1 rfl ?_
      refine g_get hC (kf := 12) (TT := TX0) (N := 16) (Cn := RX0) dX0_pass_61 hL_a h0 rfl q_u0 (by decide) q_fl_X0_75 rfl rfl ?_
      refine g_callV hC (Cn := RX0) (TT := TX0) (N := 16) dX0_pass_64 (ct_X0_moveTo l G L f a lm bd rg tn (x) md fa none (x 8) hL_a h0) q_code_X0_moveTo q_ml_X0_78 q_im_X0_moveTo q_sel_X0_moveTo q_init_X0 ⟨rfl, by decide, by decide, (show (parseMethodDescriptor yX0_moveTo.desc).map (fun d => d.parameters.length) = some 1 from by decide +kernel)⟩ hL_a h0 rfl (by decide) (by decide) (Nat.le_of_ble_eq_true rfl) (fun v50 L51 f52 hp49 => ?_)
      obtain ⟨rfl, rfl, u53, hu54, hf55⟩ := hp49
      have hf55x : f52 = va_up f a (.inr (0, [.double (x 0), .double (x 1), .double (x 2), .ref lm, .ref bd, .ref rg, .ref tn, .double (x 3), .double (x 4), .double u53, .double (x 6), .double (x 7), .double (x 8), .int md, .int fa, .null])) := hf55
      have hx56 : f52 a = .inr (0, [.double (x 0), .double (x 1), .double (x 2), .ref lm, .ref bd, .ref rg, .ref tn, .double (x 3), .double (x 4), .double u53, .double (x 6), .double (x 7), .double (x 8), .int md, .int fa, .null]) := by rw [hf55x]; exact va_up_self _ _ _
      have hx57 : f52 lm = .inr (1, [.double lo, .double hi]) := by rw [hf55x, va_up_ne _ _ (fun z => by have z1 := h1; rw [z, h0] at z1; simp at z1)]; exact h1
      have hx58 : f52 bd = .inr (1, [.double bl, .double bh]) := by rw [hf55x, va_up_ne _ _ (fun z => by have z1 := h2; rw [z, h0] at z1; simp at z1)]; exact h2
      have hx59 : f52 rg = .inr (1, [.double rl, .double rh]) := by rw [hf55x, va_up_ne _ _ (fun z => by have z1 := h3; rw [z, h0] at z1; simp at z1)]; exact h3
      have hF60 : f52 = va_up f a (.inr (0, [.double (x 0), .double (x 1), .double (x 2), .ref lm, .ref bd, .ref rg, .ref tn, .double (x 3), .double (x 4), .double u53, .double (x 6), .double (x 7), .double (x 8), .int md, .int fa, .null])) := hf55x
      refine (show V C 7 L f52 0 0 67 [(5, .double r6), (0, .ref a), (1, .double m), (3, .double tg)] [] from ?_)
      refine g_goto hC 93 dX0_pass_67 (by decide) ?_
      refine g_aload_n hC dX0_pass_93 1 rfl ?_
      refine g_dload hC dX0_pass_94 0 rfl ?_
      refine g_put hC (kf := 11) (TT := TX0) (N := 16) (Cn := RX0) (ty0 := tyX0) (fs1 := [.double (x 0), .double (x 1), .double (x 2), .ref lm, .ref bd, .ref rg, .ref tn, .double (x 3), .double (x 4), .double u53, .double (x 6), .double r6, .double (x 8), .int md, .int fa, .null]) dX0_pass_96 hL_a hx56 rfl q_u0 (by decide) tyX0_ok nmX0 q_fl_X0_88 rfl rfl rfl rfl rfl (Nat.le_of_ble_eq_true rfl) rfl ?_
      refine g_nm (fun f61 hf62 => ?_)
      have hx63 : f61 a = .inr (0, [.double (x 0), .double (x 1), .double (x 2), .ref lm, .ref bd, .ref rg, .ref tn, .double (x 3), .double (x 4), .double u53, .double (x 6), .double r6, .double (x 8), .int md, .int fa, .null]) := by rw [hf62]; exact va_up_self _ _ _
      have hx64 : f61 lm = .inr (1, [.double lo, .double hi]) := by rw [hf62, va_up_ne _ _ (fun z => by have z1 := hx57; rw [z, hx56] at z1; simp at z1)]; exact hx57
      have hx65 : f61 bd = .inr (1, [.double bl, .double bh]) := by rw [hf62, va_up_ne _ _ (fun z => by have z1 := hx58; rw [z, hx56] at z1; simp at z1)]; exact hx58
      have hx66 : f61 rg = .inr (1, [.double rl, .double rh]) := by rw [hf62, va_up_ne _ _ (fun z => by have z1 := hx59; rw [z, hx56] at z1; simp at z1)]; exact hx59
      have hF67 : f61 = va_up f a (.inr (0, [.double (x 0), .double (x 1), .double (x 2), .ref lm, .ref bd, .ref rg, .ref tn, .double (x 3), .double (x 4), .double u53, .double (x 6), .double r6, .double (x 8), .int md, .int fa, .null])) := by rw [hf62, hF60, va_up_up]
      exact g_vret hC dX0_pass_99 rfl ⟨rfl, rfl, Or.inr ⟨c5, u53, (x 6), r6, er6, by simp [dz, va_up, tU, fU, fV, fA, oU, c7, hu54], by simp [dz, va_up, tS, fS, fV, fA, c7, hu54], hF67⟩⟩ (Nat.zero_le _) (Nat.zero_le _)
  · skip
    refine g_aload_n hC dX0_pass_11 0 rfl ?_
    refine g_aload_n hC dX0_pass_12 0 rfl ?_
    refine g_get hC (kf := 8) (TT := TX0) (N := 16) (Cn := RX0) dX0_pass_13 hL_a h0 rfl q_u0 (by decide) q_fl_X0_62 rfl rfl ?_
    refine g_put hC (kf := 9) (TT := TX0) (N := 16) (Cn := RX0) (ty0 := tyX0) (fs1 := [.double (x 0), .double (x 1), .double (x 2), .ref lm, .ref bd, .ref rg, .ref tn, .double (x 3), .double (x 4), .double (x 4), .double (x 6), .double (x 7), .double (x 8), .int md, .int fa, .null]) dX0_pass_16 hL_a h0 rfl q_u0 (by decide) tyX0_ok nmX0 q_fl_X0_65 rfl rfl rfl rfl rfl (Nat.le_of_ble_eq_true rfl) rfl ?_
    refine g_nm (fun f68 hf69 => ?_)
    have hx70 : f68 a = .inr (0, [.double (x 0), .double (x 1), .double (x 2), .ref lm, .ref bd, .ref rg, .ref tn, .double (x 3), .double (x 4), .double (x 4), .double (x 6), .double (x 7), .double (x 8), .int md, .int fa, .null]) := by rw [hf69]; exact va_up_self _ _ _
    have hx71 : f68 lm = .inr (1, [.double lo, .double hi]) := by rw [hf69, va_up_ne _ _ (fun z => by have z1 := h1; rw [z, h0] at z1; simp at z1)]; exact h1
    have hx72 : f68 bd = .inr (1, [.double bl, .double bh]) := by rw [hf69, va_up_ne _ _ (fun z => by have z1 := h2; rw [z, h0] at z1; simp at z1)]; exact h2
    have hx73 : f68 rg = .inr (1, [.double rl, .double rh]) := by rw [hf69, va_up_ne _ _ (fun z => by have z1 := h3; rw [z, h0] at z1; simp at z1)]; exact h3
    have hF74 : f68 = va_up f a (.inr (0, [.double (x 0), .double (x 1), .double (x 2), .ref lm, .ref bd, .ref rg, .ref tn, .double (x 3), .double (x 4), .double (x 4), .double (x 6), .double (x 7), .double (x 8), .int md, .int fa, .null])) := hf69
    refine g_aload_n hC dX0_pass_19 0 rfl ?_
    refine g_dup hC dX0_pass_20 rfl ?_
    refine g_get hC (kf := 14) (TT := TX0) (N := 16) (Cn := RX0) dX0_pass_21 hL_a hx70 rfl q_u0 (by decide) q_fl_X0_68 rfl rfl ?_
    refine g_iconst hC 1 dX0_pass_24 (by decide) ?_
    refine g_iadd hC dX0_pass_25 ?_
    refine g_put hC (kf := 14) (TT := TX0) (N := 16) (Cn := RX0) (ty0 := tyX0) (fs1 := [.double (x 0), .double (x 1), .double (x 2), .ref lm, .ref bd, .ref rg, .ref tn, .double (x 3), .double (x 4), .double (x 4), .double (x 6), .double (x 7), .double (x 8), .int md, .int (fa + 1), .null]) dX0_pass_26 hL_a hx70 rfl q_u0 (by decide) tyX0_ok nmX0 q_fl_X0_68 rfl rfl rfl rfl rfl (Nat.le_of_ble_eq_true rfl) rfl ?_
    refine g_nm (fun f75 hf76 => ?_)
    have hx77 : f75 a = .inr (0, [.double (x 0), .double (x 1), .double (x 2), .ref lm, .ref bd, .ref rg, .ref tn, .double (x 3), .double (x 4), .double (x 4), .double (x 6), .double (x 7), .double (x 8), .int md, .int (fa + 1), .null]) := by rw [hf76]; exact va_up_self _ _ _
    have hx78 : f75 lm = .inr (1, [.double lo, .double hi]) := by rw [hf76, va_up_ne _ _ (fun z => by have z1 := hx71; rw [z, hx70] at z1; simp at z1)]; exact hx71
    have hx79 : f75 bd = .inr (1, [.double bl, .double bh]) := by rw [hf76, va_up_ne _ _ (fun z => by have z1 := hx72; rw [z, hx70] at z1; simp at z1)]; exact hx72
    have hx80 : f75 rg = .inr (1, [.double rl, .double rh]) := by rw [hf76, va_up_ne _ _ (fun z => by have z1 := hx73; rw [z, hx70] at z1; simp at z1)]; exact hx73
    have hF81 : f75 = va_up f a (.inr (0, [.double (x 0), .double (x 1), .double (x 2), .ref lm, .ref bd, .ref rg, .ref tn, .double (x 3), .double (x 4), .double (x 4), .double (x 6), .double (x 7), .double (x 8), .int md, .int (fa + 1), .null])) := by rw [hf76, hF74, va_up_up]
    exact g_vret hC dX0_pass_29 rfl ⟨rfl, rfl, Or.inl ⟨c5, hF81⟩⟩ (Nat.zero_le _) (Nat.zero_le _)
set_option maxHeartbeats 4000000 in
set_option maxRecDepth 100000 in
/-- pass(measured, target), with an outer loop -/
theorem ct_X0_pass_s (l : Launch) (G : GD) (L : List Nat) (f : Nat → va_E) (a lm bd rg tn : Nat) (x : Nat → UInt64) (md fa : Int32) (lo hi bl bh rl rh : UInt64) (m tg : UInt64) (b lm2 bd2 rg2 tn2 : Nat) (y : Nat → UInt64) (md2 fa2 : Int32) (ou2 : Option Nat) (hL_a : a ∈ L) (h0 : f a = eLp x md fa lm bd rg tn (some b)) (hL_lm : lm ∈ L) (hL_bd : bd ∈ L) (hL_rg : rg ∈ L) (h1 : f lm = eSp lo hi) (h2 : f bd = eSp bl bh) (h3 : f rg = eSp rl rh) (hL_b : b ∈ L) (h4 : f b = eLp y md2 fa2 lm2 bd2 rg2 tn2 ou2) : Ctr l yX0_pass cX0_pass 7 none { frames := 2, cells := 0, slots := 0, locals := 50 } G [.ref a, .double m, .double tg] L f (fun vv L1 f1 => vv = none ∧ L = L1 ∧ ((inB (dv m) (dv rl) (dv rh) = false ∧ f1 = va_up f a (eLp (va_up x 5 (x 4)) md (fa + 1) lm bd rg tn (some b))) ∨ (inB (dv m) (dv rl) (dv rh) = true ∧ ∃ u s e : UInt64, dv e = qsub (dv (y 5)) (dv m) ∧ dv u = tU (dz x) md (dv lo) (dv hi) (dv bl) (dv bh) (dv e) ∧ dv s = tS (dz x) md (dv lo) (dv hi) (dv e) ∧ f1 = va_up f a (eLp (va_up (va_up (va_up x 6 s) 5 u) 7 e) md fa lm bd rg tn (some b))))) := by
  refine g_enter RX0 false (by decide) rfl (fun h => by cases h) (Nat.le_of_ble_eq_true rfl) (fun C hC => ?_)
  refine (show V C 7 L f 0 0 0 [(0, .ref a), (1, .double m), (3, .double tg)] [] from ?_)
  refine g_aload_n hC dX0_pass_0 0 rfl ?_
  refine g_get hC (kf := 5) (TT := TX0) (N := 16) (Cn := RX0) dX0_pass_1 hL_a h0 rfl q_u0 (by decide) q_fl_X0_31 rfl rfl ?_
  refine g_dload_n hC dX0_pass_4 1 rfl ?_
  refine g_callV hC (Cn := RX1) (TT := TX1) (N := 2) dX0_pass_5 (ct_X1_holds l G L f rg rl rh m hL_rg h3) q_code_X1_holds q_ml_X0_58 q_im_X1_holds q_sel_X1_holds q_init_X1 ⟨rfl, by decide, by decide, (show (parseMethodDescriptor yX1_holds.desc).map (fun d => d.parameters.length) = some 1 from by decide +kernel)⟩ hL_rg h3 rfl (by decide) (by decide) (Nat.le_of_ble_eq_true rfl) (fun v2 L3 f4 hp1 => ?_)
  obtain ⟨rfl, rfl, rfl⟩ := hp1
  refine (show V C 7 L f 0 0 8 [(0, .ref a), (1, .double m), (3, .double tg)] [.int (bI (inB (dv m) (dv rl) (dv rh)))] from ?_)
  refine g_ifB_ne hC 30 dX0_pass_8 (by decide) (fun c5 => ?_) (fun c5 => ?_)
  · skip
    refine g_aload_n hC dX0_pass_30 0 rfl ?_
    refine g_get hC (kf := 15) (TT := TX0) (N := 16) (Cn := RX0) dX0_pass_31 hL_a h0 rfl q_u0 (by decide) q_fl_X0_71 rfl rfl ?_
    refine g_ifnonnull hC 41 dX0_pass_34 (by decide) ?_
    refine g_aload_n hC dX0_pass_41 0 rfl ?_
    refine g_get hC (kf := 15) (TT := TX0) (N := 16) (Cn := RX0) dX0_pass_42 hL_a h0 rfl q_u0 (by decide) q_fl_X0_71 rfl rfl ?_
    refine g_get hC (kf := 9) (TT := TX0) (N := 16) (Cn := RX0) dX0_pass_45 hL_b h4 rfl q_u0 (by decide) q_fl_X0_65 rfl rfl ?_
    refine g_dload_n hC dX0_pass_48 1 rfl ?_
    refine g_dsub hC dX0_pass_49 (fun r6 er6 => ?_)
    refine g_dstore hC (lv1 := [(5, .double r6), (0, .ref a), (1, .double m), (3, .double tg)]) dX0_pass_50 (by decide) rfl ?_
    refine g_aload_n hC dX0_pass_52 1 rfl ?_
    refine g_get hC (kf := 13) (TT := TX0) (N := 16) (Cn := RX0) dX0_pass_53 hL_a h0 rfl q_u0 (by decide) q_fl_X0_45 rfl rfl ?_
    refine g_if_ne hC 70 dX0_pass_56 (by decide) (fun c7 => ?_) (fun c7 => ?_)
    · skip
      refine g_aload_n hC dX0_pass_70 1 rfl ?_
      refine g_get hC (kf := 13) (TT := TX0) (N := 16) (Cn := RX0) dX0_pass_71 hL_a h0 rfl q_u0 (by decide) q_fl_X0_45 rfl rfl ?_
      refine g_iconst hC 1 dX0_pass_74 (by decide) ?_
      refine g_icmp_ne hC 87 dX0_pass_75 (by decide) (fun c8 => ?_) (fun c8 => ?_)
      · skip
        refine g_aload_n hC dX0_pass_87 1 rfl ?_
        refine g_dload hC dX0_pass_88 0 rfl ?_
        refine g_callV hC (Cn := RX0) (TT := TX0) (N := 16) dX0_pass_90 (ct_X0_switchOnOrOff l G L f a lm bd rg tn (x) md fa (some b) lo hi bl bh r6 hL_a h0 hL_lm hL_bd h1 h2) q_code_X0_switchOnOrOff q_ml_X0_85 q_im_X0_switchOnOrOff q_sel_X0_switchOnOrOff q_init_X0 ⟨rfl, by decide, by decide, (show (parseMethodDescriptor yX0_switchOnOrOff.desc).map (fun d => d.parameters.length) = some 1 from by decide +kernel)⟩ hL_a h0 rfl (by decide) (by decide) (Nat.le_of_ble_eq_true rfl) (fun v10 L11 f12 hp9 => ?_)
        obtain ⟨rfl, rfl, u13, hu14, hf15⟩ := hp9
        have hf15x : f12 = va_up f a (.inr (0, [.double (x 0), .double (x 1), .double (x 2), .ref lm, .ref bd, .ref rg, .ref tn, .double (x 3), .double (x 4), .double u13, .double (x 6), .double (x 7), .double (x 8), .int md, .int fa, .ref b])) := hf15
        have hx16 : f12 a = .inr (0, [.double (x 0), .double (x 1), .double (x 2), .ref lm, .ref bd, .ref rg, .ref tn, .double (x 3), .double (x 4), .double u13, .double (x 6), .double (x 7), .double (x 8), .int md, .int fa, .ref b]) := by rw [hf15x]; exact va_up_self _ _ _
        have hx17 : f12 lm = .inr (1, [.double lo, .double hi]) := by rw [hf15x, va_up_ne _ _ (fun z => by have z1 := h1; rw [z, h0] at z1; simp at z1)]; exact h1
        have hx18 : f12 bd = .inr (1, [.double bl, .double bh]) := by rw [hf15x, va_up_ne _ _ (fun z => by have z1 := h2; rw [z, h0] at z1; simp at z1)]; exact h2
        have hx19 : f12 rg = .inr (1, [.double rl, .double rh]) := by rw [hf15x, va_up_ne _ _ (fun z => by have z1 := h3; rw [z, h0] at z1; simp at z1)]; exact h3
        have hF21 : f12 = va_up f a (.inr (0, [.double (x 0), .double (x 1), .double (x 2), .ref lm, .ref bd, .ref rg, .ref tn, .double (x 3), .double (x 4), .double u13, .double (x 6), .double (x 7), .double (x 8), .int md, .int fa, .ref b])) := hf15x
        refine (show V C 7 L f12 0 0 93 [(5, .double r6), (0, .ref a), (1, .double m), (3, .double tg)] [] from ?_)
        refine g_aload_n hC dX0_pass_93 1 rfl ?_
        refine g_dload hC dX0_pass_94 0 rfl ?_
        refine g_put hC (kf := 11) (TT := TX0) (N := 16) (Cn := RX0) (ty0 := tyX0) (fs1 := [.double (x 0), .double (x 1), .double (x 2), .ref lm, .ref bd, .ref rg, .ref tn, .double (x 3), .double (x 4), .double u13, .double (x 6), .double r6, .double (x 8), .int md, .int fa, .ref b]) dX0_pass_96 hL_a hx16 rfl q_u0 (by decide) tyX0_ok nmX0 q_fl_X0_88 rfl rfl rfl rfl rfl (Nat.le_of_ble_eq_true rfl) rfl ?_
        refine g_nm (fun f22 hf23 => ?_)
        have hx24 : f22 a = .inr (0, [.double (x 0), .double (x 1), .double (x 2), .ref lm, .ref bd, .ref rg, .ref tn, .double (x 3), .double (x 4), .double u13, .double (x 6), .double r6, .double (x 8), .int md, .int fa, .ref b]) := by rw [hf23]; exact va_up_self _ _ _
        have hx25 : f22 lm = .inr (1, [.double lo, .double hi]) := by rw [hf23, va_up_ne _ _ (fun z => by have z1 := hx17; rw [z, hx16] at z1; simp at z1)]; exact hx17
        have hx26 : f22 bd = .inr (1, [.double bl, .double bh]) := by rw [hf23, va_up_ne _ _ (fun z => by have z1 := hx18; rw [z, hx16] at z1; simp at z1)]; exact hx18
        have hx27 : f22 rg = .inr (1, [.double rl, .double rh]) := by rw [hf23, va_up_ne _ _ (fun z => by have z1 := hx19; rw [z, hx16] at z1; simp at z1)]; exact hx19
        have hF28 : f22 = va_up f a (.inr (0, [.double (x 0), .double (x 1), .double (x 2), .ref lm, .ref bd, .ref rg, .ref tn, .double (x 3), .double (x 4), .double u13, .double (x 6), .double r6, .double (x 8), .int md, .int fa, .ref b])) := by rw [hf23, hF21, va_up_up]
        exact g_vret hC dX0_pass_99 rfl ⟨rfl, rfl, Or.inr ⟨c5, u13, (x 6), r6, er6, by simp [dz, va_up, tU, fU, fV, fA, oU, c7, c8, hu14], by simp [dz, va_up, tS, fS, fV, fA, c7, c8, hu14], hF28⟩⟩ (Nat.zero_le _) (Nat.zero_le _)
      · skip
        refine g_aload_n hC dX0_pass_78 1 rfl ?_
        refine g_dload hC dX0_pass_79 0 rfl ?_
        refine g_callV hC (Cn := RX0) (TT := TX0) (N := 16) dX0_pass_81 (ct_X0_followLaw l G L f a lm bd rg tn (x) md fa (some b) lo hi r6 hL_a h0 hL_lm h1) q_code_X0_followLaw q_ml_X0_82 q_im_X0_followLaw q_sel_X0_followLaw q_init_X0 ⟨rfl, by decide, by decide, (show (parseMethodDescriptor yX0_followLaw.desc).map (fun d => d.parameters.length) = some 1 from by decide +kernel)⟩ hL_a h0 rfl (by decide) (by decide) (Nat.le_of_ble_eq_true rfl) (fun v30 L31 f32 hp29 => ?_)
        obtain ⟨rfl, rfl, u33, s34, hu35, hs36, hf37⟩ := hp29
        have hf37x : f32 = va_up f a (.inr (0, [.double (x 0), .double (x 1), .double (x 2), .ref lm, .ref bd, .ref rg, .ref tn, .double (x 3), .double (x 4), .double u33, .double s34, .double (x 7), .double (x 8), .int md, .int fa, .ref b])) := hf37
        have hx38 : f32 a = .inr (0, [.double (x 0), .double (x 1), .double (x 2), .ref lm, .ref bd, .ref rg, .ref tn, .double (x 3), .double (x 4), .double u33, .double s34, .double (x 7), .double (x 8), .int md, .int fa, .ref b]) := by rw [hf37x]; exact va_up_self _ _ _
        have hx39 : f32 lm = .inr (1, [.double lo, .double hi]) := by rw [hf37x, va_up_ne _ _ (fun z => by have z1 := h1; rw [z, h0] at z1; simp at z1)]; exact h1
        have hx40 : f32 bd = .inr (1, [.double bl, .double bh]) := by rw [hf37x, va_up_ne _ _ (fun z => by have z1 := h2; rw [z, h0] at z1; simp at z1)]; exact h2
        have hx41 : f32 rg = .inr (1, [.double rl, .double rh]) := by rw [hf37x, va_up_ne _ _ (fun z => by have z1 := h3; rw [z, h0] at z1; simp at z1)]; exact h3
        have hF43 : f32 = va_up f a (.inr (0, [.double (x 0), .double (x 1), .double (x 2), .ref lm, .ref bd, .ref rg, .ref tn, .double (x 3), .double (x 4), .double u33, .double s34, .double (x 7), .double (x 8), .int md, .int fa, .ref b])) := hf37x
        refine (show V C 7 L f32 0 0 84 [(5, .double r6), (0, .ref a), (1, .double m), (3, .double tg)] [] from ?_)
        refine g_goto hC 93 dX0_pass_84 (by decide) ?_
        refine g_aload_n hC dX0_pass_93 1 rfl ?_
        refine g_dload hC dX0_pass_94 0 rfl ?_
        refine g_put hC (kf := 11) (TT := TX0) (N := 16) (Cn := RX0) (ty0 := tyX0) (fs1 := [.double (x 0), .double (x 1), .double (x 2), .ref lm, .ref bd, .ref rg, .ref tn, .double (x 3), .double (x 4), .double u33, .double s34, .double r6, .double (x 8), .int md, .int fa, .ref b]) dX0_pass_96 hL_a hx38 rfl q_u0 (by decide) tyX0_ok nmX0 q_fl_X0_88 rfl rfl rfl rfl rfl (Nat.le_of_ble_eq_true rfl) rfl ?_
        refine g_nm (fun f44 hf45 => ?_)
        have hx46 : f44 a = .inr (0, [.double (x 0), .double (x 1), .double (x 2), .ref lm, .ref bd, .ref rg, .ref tn, .double (x 3), .double (x 4), .double u33, .double s34, .double r6, .double (x 8), .int md, .int fa, .ref b]) := by rw [hf45]; exact va_up_self _ _ _
        have hx47 : f44 lm = .inr (1, [.double lo, .double hi]) := by rw [hf45, va_up_ne _ _ (fun z => by have z1 := hx39; rw [z, hx38] at z1; simp at z1)]; exact hx39
        have hx48 : f44 bd = .inr (1, [.double bl, .double bh]) := by rw [hf45, va_up_ne _ _ (fun z => by have z1 := hx40; rw [z, hx38] at z1; simp at z1)]; exact hx40
        have hx49 : f44 rg = .inr (1, [.double rl, .double rh]) := by rw [hf45, va_up_ne _ _ (fun z => by have z1 := hx41; rw [z, hx38] at z1; simp at z1)]; exact hx41
        have hF50 : f44 = va_up f a (.inr (0, [.double (x 0), .double (x 1), .double (x 2), .ref lm, .ref bd, .ref rg, .ref tn, .double (x 3), .double (x 4), .double u33, .double s34, .double r6, .double (x 8), .int md, .int fa, .ref b])) := by rw [hf45, hF43, va_up_up]
        exact g_vret hC dX0_pass_99 rfl ⟨rfl, rfl, Or.inr ⟨c5, u33, s34, r6, er6, by simp [dz, va_up, tU, fU, fV, fA, oU, c7, c8, hu35, hs36], by simp [dz, va_up, tS, fS, fV, fA, c7, c8, hu35, hs36], hF50⟩⟩ (Nat.zero_le _) (Nat.zero_le _)
    · skip
      refine g_aload_n hC dX0_pass_59 1 rfl ?_
      refine g_aload_n hC dX0_pass_60 1 rfl ?_
      refine g_get hC (kf := 12) (TT := TX0) (N := 16) (Cn := RX0) dX0_pass_61 hL_a h0 rfl q_u0 (by decide) q_fl_X0_75 rfl rfl ?_
      refine g_callV hC (Cn := RX0) (TT := TX0) (N := 16) dX0_pass_64 (ct_X0_moveTo l G L f a lm bd rg tn (x) md fa (some b) (x 8) hL_a h0) q_code_X0_moveTo q_ml_X0_78 q_im_X0_moveTo q_sel_X0_moveTo q_init_X0 ⟨rfl, by decide, by decide, (show (parseMethodDescriptor yX0_moveTo.desc).map (fun d => d.parameters.length) = some 1 from by decide +kernel)⟩ hL_a h0 rfl (by decide) (by decide) (Nat.le_of_ble_eq_true rfl) (fun v52 L53 f54 hp51 => ?_)
      obtain ⟨rfl, rfl, u55, hu56, hf57⟩ := hp51
      have hf57x : f54 = va_up f a (.inr (0, [.double (x 0), .double (x 1), .double (x 2), .ref lm, .ref bd, .ref rg, .ref tn, .double (x 3), .double (x 4), .double u55, .double (x 6), .double (x 7), .double (x 8), .int md, .int fa, .ref b])) := hf57
      have hx58 : f54 a = .inr (0, [.double (x 0), .double (x 1), .double (x 2), .ref lm, .ref bd, .ref rg, .ref tn, .double (x 3), .double (x 4), .double u55, .double (x 6), .double (x 7), .double (x 8), .int md, .int fa, .ref b]) := by rw [hf57x]; exact va_up_self _ _ _
      have hx59 : f54 lm = .inr (1, [.double lo, .double hi]) := by rw [hf57x, va_up_ne _ _ (fun z => by have z1 := h1; rw [z, h0] at z1; simp at z1)]; exact h1
      have hx60 : f54 bd = .inr (1, [.double bl, .double bh]) := by rw [hf57x, va_up_ne _ _ (fun z => by have z1 := h2; rw [z, h0] at z1; simp at z1)]; exact h2
      have hx61 : f54 rg = .inr (1, [.double rl, .double rh]) := by rw [hf57x, va_up_ne _ _ (fun z => by have z1 := h3; rw [z, h0] at z1; simp at z1)]; exact h3
      have hF63 : f54 = va_up f a (.inr (0, [.double (x 0), .double (x 1), .double (x 2), .ref lm, .ref bd, .ref rg, .ref tn, .double (x 3), .double (x 4), .double u55, .double (x 6), .double (x 7), .double (x 8), .int md, .int fa, .ref b])) := hf57x
      refine (show V C 7 L f54 0 0 67 [(5, .double r6), (0, .ref a), (1, .double m), (3, .double tg)] [] from ?_)
      refine g_goto hC 93 dX0_pass_67 (by decide) ?_
      refine g_aload_n hC dX0_pass_93 1 rfl ?_
      refine g_dload hC dX0_pass_94 0 rfl ?_
      refine g_put hC (kf := 11) (TT := TX0) (N := 16) (Cn := RX0) (ty0 := tyX0) (fs1 := [.double (x 0), .double (x 1), .double (x 2), .ref lm, .ref bd, .ref rg, .ref tn, .double (x 3), .double (x 4), .double u55, .double (x 6), .double r6, .double (x 8), .int md, .int fa, .ref b]) dX0_pass_96 hL_a hx58 rfl q_u0 (by decide) tyX0_ok nmX0 q_fl_X0_88 rfl rfl rfl rfl rfl (Nat.le_of_ble_eq_true rfl) rfl ?_
      refine g_nm (fun f64 hf65 => ?_)
      have hx66 : f64 a = .inr (0, [.double (x 0), .double (x 1), .double (x 2), .ref lm, .ref bd, .ref rg, .ref tn, .double (x 3), .double (x 4), .double u55, .double (x 6), .double r6, .double (x 8), .int md, .int fa, .ref b]) := by rw [hf65]; exact va_up_self _ _ _
      have hx67 : f64 lm = .inr (1, [.double lo, .double hi]) := by rw [hf65, va_up_ne _ _ (fun z => by have z1 := hx59; rw [z, hx58] at z1; simp at z1)]; exact hx59
      have hx68 : f64 bd = .inr (1, [.double bl, .double bh]) := by rw [hf65, va_up_ne _ _ (fun z => by have z1 := hx60; rw [z, hx58] at z1; simp at z1)]; exact hx60
      have hx69 : f64 rg = .inr (1, [.double rl, .double rh]) := by rw [hf65, va_up_ne _ _ (fun z => by have z1 := hx61; rw [z, hx58] at z1; simp at z1)]; exact hx61
      have hF70 : f64 = va_up f a (.inr (0, [.double (x 0), .double (x 1), .double (x 2), .ref lm, .ref bd, .ref rg, .ref tn, .double (x 3), .double (x 4), .double u55, .double (x 6), .double r6, .double (x 8), .int md, .int fa, .ref b])) := by rw [hf65, hF63, va_up_up]
      exact g_vret hC dX0_pass_99 rfl ⟨rfl, rfl, Or.inr ⟨c5, u55, (x 6), r6, er6, by simp [dz, va_up, tU, fU, fV, fA, oU, c7, hu56], by simp [dz, va_up, tS, fS, fV, fA, c7, hu56], hF70⟩⟩ (Nat.zero_le _) (Nat.zero_le _)
  · skip
    refine g_aload_n hC dX0_pass_11 0 rfl ?_
    refine g_aload_n hC dX0_pass_12 0 rfl ?_
    refine g_get hC (kf := 8) (TT := TX0) (N := 16) (Cn := RX0) dX0_pass_13 hL_a h0 rfl q_u0 (by decide) q_fl_X0_62 rfl rfl ?_
    refine g_put hC (kf := 9) (TT := TX0) (N := 16) (Cn := RX0) (ty0 := tyX0) (fs1 := [.double (x 0), .double (x 1), .double (x 2), .ref lm, .ref bd, .ref rg, .ref tn, .double (x 3), .double (x 4), .double (x 4), .double (x 6), .double (x 7), .double (x 8), .int md, .int fa, .ref b]) dX0_pass_16 hL_a h0 rfl q_u0 (by decide) tyX0_ok nmX0 q_fl_X0_65 rfl rfl rfl rfl rfl (Nat.le_of_ble_eq_true rfl) rfl ?_
    refine g_nm (fun f71 hf72 => ?_)
    have hx73 : f71 a = .inr (0, [.double (x 0), .double (x 1), .double (x 2), .ref lm, .ref bd, .ref rg, .ref tn, .double (x 3), .double (x 4), .double (x 4), .double (x 6), .double (x 7), .double (x 8), .int md, .int fa, .ref b]) := by rw [hf72]; exact va_up_self _ _ _
    have hx74 : f71 lm = .inr (1, [.double lo, .double hi]) := by rw [hf72, va_up_ne _ _ (fun z => by have z1 := h1; rw [z, h0] at z1; simp at z1)]; exact h1
    have hx75 : f71 bd = .inr (1, [.double bl, .double bh]) := by rw [hf72, va_up_ne _ _ (fun z => by have z1 := h2; rw [z, h0] at z1; simp at z1)]; exact h2
    have hx76 : f71 rg = .inr (1, [.double rl, .double rh]) := by rw [hf72, va_up_ne _ _ (fun z => by have z1 := h3; rw [z, h0] at z1; simp at z1)]; exact h3
    have hF78 : f71 = va_up f a (.inr (0, [.double (x 0), .double (x 1), .double (x 2), .ref lm, .ref bd, .ref rg, .ref tn, .double (x 3), .double (x 4), .double (x 4), .double (x 6), .double (x 7), .double (x 8), .int md, .int fa, .ref b])) := hf72
    refine g_aload_n hC dX0_pass_19 0 rfl ?_
    refine g_dup hC dX0_pass_20 rfl ?_
    refine g_get hC (kf := 14) (TT := TX0) (N := 16) (Cn := RX0) dX0_pass_21 hL_a hx73 rfl q_u0 (by decide) q_fl_X0_68 rfl rfl ?_
    refine g_iconst hC 1 dX0_pass_24 (by decide) ?_
    refine g_iadd hC dX0_pass_25 ?_
    refine g_put hC (kf := 14) (TT := TX0) (N := 16) (Cn := RX0) (ty0 := tyX0) (fs1 := [.double (x 0), .double (x 1), .double (x 2), .ref lm, .ref bd, .ref rg, .ref tn, .double (x 3), .double (x 4), .double (x 4), .double (x 6), .double (x 7), .double (x 8), .int md, .int (fa + 1), .ref b]) dX0_pass_26 hL_a hx73 rfl q_u0 (by decide) tyX0_ok nmX0 q_fl_X0_68 rfl rfl rfl rfl rfl (Nat.le_of_ble_eq_true rfl) rfl ?_
    refine g_nm (fun f79 hf80 => ?_)
    have hx81 : f79 a = .inr (0, [.double (x 0), .double (x 1), .double (x 2), .ref lm, .ref bd, .ref rg, .ref tn, .double (x 3), .double (x 4), .double (x 4), .double (x 6), .double (x 7), .double (x 8), .int md, .int (fa + 1), .ref b]) := by rw [hf80]; exact va_up_self _ _ _
    have hx82 : f79 lm = .inr (1, [.double lo, .double hi]) := by rw [hf80, va_up_ne _ _ (fun z => by have z1 := hx74; rw [z, hx73] at z1; simp at z1)]; exact hx74
    have hx83 : f79 bd = .inr (1, [.double bl, .double bh]) := by rw [hf80, va_up_ne _ _ (fun z => by have z1 := hx75; rw [z, hx73] at z1; simp at z1)]; exact hx75
    have hx84 : f79 rg = .inr (1, [.double rl, .double rh]) := by rw [hf80, va_up_ne _ _ (fun z => by have z1 := hx76; rw [z, hx73] at z1; simp at z1)]; exact hx76
    have hF85 : f79 = va_up f a (.inr (0, [.double (x 0), .double (x 1), .double (x 2), .ref lm, .ref bd, .ref rg, .ref tn, .double (x 3), .double (x 4), .double (x 4), .double (x 6), .double (x 7), .double (x 8), .int md, .int (fa + 1), .ref b])) := by rw [hf80, hF78, va_up_up]
    exact g_vret hC dX0_pass_29 rfl ⟨rfl, rfl, Or.inl ⟨c5, hF85⟩⟩ (Nat.zero_le _) (Nat.zero_le _)
set_option maxHeartbeats 4000000 in
set_option maxRecDepth 100000 in
/-- turnTo(m) -/
theorem ct_X0_turnTo (l : Launch) (G : GD) (L : List Nat) (f : Nat → va_E) (a lm bd rg tn : Nat) (x : Nat → UInt64) (md fa : Int32) (ou : Option Nat) (m : Int32) (hL_a : a ∈ L) (h0 : f a = eLp x md fa lm bd rg tn ou) : Ctr l yX0_turnTo cX0_turnTo 2 none R00 G [.ref a, .int m] L f (fun vv L1 f1 => vv = none ∧ L = L1 ∧ ((m = md ∧ f = f1) ∨ (¬ m = md ∧ ∃ h s : UInt64, dv h = (if m = 0 then dv (x 5) else dv (x 8)) ∧ dv s = (if m = 1 then qsub (dv (x 5)) (qmul (dv (x 0)) (dv (x 7))) else dv (x 6)) ∧ f1 = va_up f a (eLp (va_up (va_up x 6 s) 8 h) m fa lm bd rg tn ou)))) := by
  refine g_enter RX0 false (by decide) rfl (fun h => by cases h) (Nat.le_of_ble_eq_true rfl) (fun C hC => ?_)
  refine (show V C 2 L f 0 0 0 [(0, .ref a), (1, .int m)] [] from ?_)
  refine g_iload_n hC dX0_turnTo_0 1 rfl ?_
  refine g_aload_n hC dX0_turnTo_1 0 rfl ?_
  refine g_get hC (kf := 13) (TT := TX0) (N := 16) (Cn := RX0) dX0_turnTo_2 hL_a h0 rfl q_u0 (by decide) q_fl_X0_45 rfl rfl ?_
  refine g_icmp_ne hC 9 dX0_turnTo_5 (by decide) (fun c1 => ?_) (fun c1 => ?_)
  · skip
    refine g_aload_n hC dX0_turnTo_9 0 rfl ?_
    refine g_iload_n hC dX0_turnTo_10 1 rfl ?_
    refine g_put hC (kf := 13) (TT := TX0) (N := 16) (Cn := RX0) (ty0 := tyX0) (fs1 := [.double (x 0), .double (x 1), .double (x 2), .ref lm, .ref bd, .ref rg, .ref tn, .double (x 3), .double (x 4), .double (x 5), .double (x 6), .double (x 7), .double (x 8), .int m, .int fa, va_rf ou]) dX0_turnTo_11 hL_a h0 rfl q_u0 (by decide) tyX0_ok nmX0 q_fl_X0_45 rfl rfl rfl rfl rfl (Nat.le_of_ble_eq_true rfl) rfl ?_
    refine g_nm (fun f2 hf3 => ?_)
    have hx4 : f2 a = .inr (0, [.double (x 0), .double (x 1), .double (x 2), .ref lm, .ref bd, .ref rg, .ref tn, .double (x 3), .double (x 4), .double (x 5), .double (x 6), .double (x 7), .double (x 8), .int m, .int fa, va_rf ou]) := by rw [hf3]; exact va_up_self _ _ _
    have hF5 : f2 = va_up f a (.inr (0, [.double (x 0), .double (x 1), .double (x 2), .ref lm, .ref bd, .ref rg, .ref tn, .double (x 3), .double (x 4), .double (x 5), .double (x 6), .double (x 7), .double (x 8), .int m, .int fa, va_rf ou])) := hf3
    refine g_iload_n hC dX0_turnTo_14 1 rfl ?_
    refine g_if_ne hC 29 dX0_turnTo_15 (by decide) (fun c6 => ?_) (fun c6 => ?_)
    · skip
      refine g_iload_n hC dX0_turnTo_29 1 rfl ?_
      refine g_iconst hC 1 dX0_turnTo_30 (by decide) ?_
      refine g_icmp_ne hC 52 dX0_turnTo_31 (by decide) (fun c7 => ?_) (fun c7 => ?_)
      · skip
        exact g_vret hC dX0_turnTo_52 rfl ⟨rfl, rfl, Or.inr ⟨c1, (x 8), (x 6), by simp [c6, c7], by simp [c6, c7], hF5⟩⟩ (Nat.zero_le _) (Nat.zero_le _)
      · skip
        refine g_aload_n hC dX0_turnTo_34 0 rfl ?_
        refine g_aload_n hC dX0_turnTo_35 0 rfl ?_
        refine g_get hC (kf := 9) (TT := TX0) (N := 16) (Cn := RX0) dX0_turnTo_36 hL_a hx4 rfl q_u0 (by decide) q_fl_X0_65 rfl rfl ?_
        refine g_aload_n hC dX0_turnTo_39 0 rfl ?_
        refine g_get hC (kf := 0) (TT := TX0) (N := 16) (Cn := RX0) dX0_turnTo_40 hL_a hx4 rfl q_u0 (by decide) q_fl_X0_49 rfl rfl ?_
        refine g_aload_n hC dX0_turnTo_43 0 rfl ?_
        refine g_get hC (kf := 11) (TT := TX0) (N := 16) (Cn := RX0) dX0_turnTo_44 hL_a hx4 rfl q_u0 (by decide) q_fl_X0_88 rfl rfl ?_
        refine g_dmul hC dX0_turnTo_47 (fun r8 er8 => ?_)
        refine g_dsub hC dX0_turnTo_48 (fun r9 er9 => ?_)
        try simp only [er8] at er9
        refine g_put hC (kf := 10) (TT := TX0) (N := 16) (Cn := RX0) (ty0 := tyX0) (fs1 := [.double (x 0), .double (x 1), .double (x 2), .ref lm, .ref bd, .ref rg, .ref tn, .double (x 3), .double (x 4), .double (x 5), .double r9, .double (x 7), .double (x 8), .int m, .int fa, va_rf ou]) dX0_turnTo_49 hL_a hx4 rfl q_u0 (by decide) tyX0_ok nmX0 q_fl_X0_91 rfl rfl rfl rfl rfl (Nat.le_of_ble_eq_true rfl) rfl ?_
        refine g_nm (fun f10 hf11 => ?_)
        have hx12 : f10 a = .inr (0, [.double (x 0), .double (x 1), .double (x 2), .ref lm, .ref bd, .ref rg, .ref tn, .double (x 3), .double (x 4), .double (x 5), .double r9, .double (x 7), .double (x 8), .int m, .int fa, va_rf ou]) := by rw [hf11]; exact va_up_self _ _ _
        have hF13 : f10 = va_up f a (.inr (0, [.double (x 0), .double (x 1), .double (x 2), .ref lm, .ref bd, .ref rg, .ref tn, .double (x 3), .double (x 4), .double (x 5), .double r9, .double (x 7), .double (x 8), .int m, .int fa, va_rf ou])) := by rw [hf11, hF5, va_up_up]
        exact g_vret hC dX0_turnTo_52 rfl ⟨rfl, rfl, Or.inr ⟨c1, (x 8), r9, by simp [c6, c7, er8, er9], by simp [c6, c7, er8, er9], hF13⟩⟩ (Nat.zero_le _) (Nat.zero_le _)
    · skip
      refine g_aload_n hC dX0_turnTo_18 0 rfl ?_
      refine g_aload_n hC dX0_turnTo_19 0 rfl ?_
      refine g_get hC (kf := 9) (TT := TX0) (N := 16) (Cn := RX0) dX0_turnTo_20 hL_a hx4 rfl q_u0 (by decide) q_fl_X0_65 rfl rfl ?_
      refine g_put hC (kf := 12) (TT := TX0) (N := 16) (Cn := RX0) (ty0 := tyX0) (fs1 := [.double (x 0), .double (x 1), .double (x 2), .ref lm, .ref bd, .ref rg, .ref tn, .double (x 3), .double (x 4), .double (x 5), .double (x 6), .double (x 7), .double (x 5), .int m, .int fa, va_rf ou]) dX0_turnTo_23 hL_a hx4 rfl q_u0 (by decide) tyX0_ok nmX0 q_fl_X0_75 rfl rfl rfl rfl rfl (Nat.le_of_ble_eq_true rfl) rfl ?_
      refine g_nm (fun f14 hf15 => ?_)
      have hx16 : f14 a = .inr (0, [.double (x 0), .double (x 1), .double (x 2), .ref lm, .ref bd, .ref rg, .ref tn, .double (x 3), .double (x 4), .double (x 5), .double (x 6), .double (x 7), .double (x 5), .int m, .int fa, va_rf ou]) := by rw [hf15]; exact va_up_self _ _ _
      have hF17 : f14 = va_up f a (.inr (0, [.double (x 0), .double (x 1), .double (x 2), .ref lm, .ref bd, .ref rg, .ref tn, .double (x 3), .double (x 4), .double (x 5), .double (x 6), .double (x 7), .double (x 5), .int m, .int fa, va_rf ou])) := by rw [hf15, hF5, va_up_up]
      refine g_goto hC 52 dX0_turnTo_26 (by decide) ?_
      exact g_vret hC dX0_turnTo_52 rfl ⟨rfl, rfl, Or.inr ⟨c1, (x 5), (x 6), by simp [c6], by simp [c6], hF17⟩⟩ (Nat.zero_le _) (Nat.zero_le _)
  · skip
    exact g_vret hC dX0_turnTo_8 rfl ⟨rfl, rfl, Or.inl ⟨c1, rfl⟩⟩ (Nat.zero_le _) (Nat.zero_le _)
