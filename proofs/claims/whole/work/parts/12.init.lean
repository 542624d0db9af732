theorem dfX0 : ∀ j, j < 16 → defaultValue (tyX0 j) = vp_V [.double 0, .double 0, .double 0, .null, .null, .null, .null, .double 0, .double 0, .double 0, .double 0, .double 0, .double 0, .int 0, .int 0, .null] j := by decide +kernel
theorem dfX1 : ∀ j, j < 2 → defaultValue (tyX1 j) = vp_V [.double 0, .double 0] j := by decide +kernel
theorem dfX2 : ∀ j, j < 2 → defaultValue (tyX2 j) = vp_V [.null, .double 0] j := by decide +kernel
theorem dfX3 : ∀ j, j < 7 → defaultValue (tyX3 j) = vp_V [.double 0, .int 0, .int 0, .int 0, .double 0, .double 0, .int 0] j := by decide +kernel
theorem dfX4 : ∀ j, j < 4 → defaultValue (tyX4 j) = vp_V [.null, .null, .int 0, .int 0] j := by decide +kernel
theorem dfX5 : ∀ j, j < 26 → defaultValue (tyX5 j) = vp_V [.int 0, .null, .null, .null, .null, .null, .null, .null, .null, .null, .null, .null, .null, .null, .null, .null, .null, .null, .null, .null, .null, .null, .null, .int 0, .null, .null] j := by decide +kernel
def xI (p i d : UInt64) : Nat → UInt64 := fun j => if j = 0 then p else if j = 1 then i else if j = 2 then d else if j = 3 then 4636737291354636288 else 0
def clS (s : DT) : DT := if qlt s (dv 0) = true then dv 0 else if qgt s (dv 4636737291354636288) = true then dv 4636737291354636288 else s
def shS (at0 u lo hi : DT) (which : Int32) : DT := if inS at0 lo hi = true then clS (if which = 0 then qmul (qdiv (qsub u lo) (qsub at0 lo)) (dv 4636737291354636288) else qmul (qdiv (qsub u at0) (qsub hi at0)) (dv 4636737291354636288)) else dv 0
theorem ne_new {L : List Nat} {b q : Nat} (hb : b ∈ L) (hq : q ∉ L) : b ≠ q := fun z => hq (z ▸ hb)
theorem mem_r {L : List Nat} {q : Nat} : q ∈ L ++ [q] := List.mem_append_right _ (List.mem_singleton.mpr rfl)
theorem mem_l {L M : List Nat} {a : Nat} (h : a ∈ L) : a ∈ L ++ M := List.mem_append_left _ h
set_option maxHeartbeats 4000000 in
set_option maxRecDepth 100000 in
/-- Tuning() -/
theorem ct_X3_init (l : Launch) (G : GD) (L : List Nat) (f : Nat → va_E) (a : Nat) (hL_a : a ∈ L) (h0 : f a = eTn 0 0 0 0 0 0 0) : Ctr l yX3_init cX3_init 1 none { frames := 1, cells := 0, slots := 0, locals := 12 } G [.ref a] L f (fun vv L1 f1 => vv = none ∧ L = L1 ∧ f = f1) := by
  refine g_enter RX3 true (by decide) rfl (fun _ => rfl) (Nat.le_of_ble_eq_true rfl) (fun C hC => ?_)
  refine (show V C 1 L f 0 0 0 [(0, .ref a)] [] from ?_)
  refine g_aload_n hC dX3_init_0 0 rfl ?_
  refine g_objInit hC dX3_init_1 q_ml_X3_1 (by decide) (by decide) ?_
  exact g_vret hC dX3_init_4 rfl ⟨rfl, rfl, rfl⟩ (Nat.zero_le _) (Nat.zero_le _)
set_option maxHeartbeats 4000000 in
set_option maxRecDepth 100000 in
/-- Split(loop, at) -/
theorem ct_X2_init (l : Launch) (G : GD) (L : List Nat) (f : Nat → va_E) (a lp : Nat) (at0 : UInt64) (hL_a : a ∈ L) (h0 : f a = .inr (2, [.null, .double 0])) : Ctr l yX2_init cX2_init 4 none { frames := 1, cells := 0, slots := 0, locals := 12 } G [.ref a, .ref lp, .double at0] L f (fun vv L1 f1 => vv = none ∧ L = L1 ∧ f1 = va_up f a (eSt lp at0)) := by
  refine g_enter RX2 true (by decide) rfl (fun _ => rfl) (Nat.le_of_ble_eq_true rfl) (fun C hC => ?_)
  refine (show V C 4 L f 0 0 0 [(0, .ref a), (1, .ref lp), (2, .double at0)] [] from ?_)
  refine g_aload_n hC dX2_init_0 0 rfl ?_
  refine g_objInit hC dX2_init_1 q_ml_X2_1 (by decide) (by decide) ?_
  refine g_aload_n hC dX2_init_4 0 rfl ?_
  refine g_aload_n hC dX2_init_5 1 rfl ?_
  refine g_putF hC (kf := 0) (TT := TX2) (N := 2) (Cn := RX2) (ty0 := tyX2) (fs1 := [.ref lp, .double 0]) dX2_init_6 hL_a h0 rfl q_u2 (by decide) tyX2_ok nmX2 q_fl_X2_7 rfl rfl rfl rfl rfl rfl rfl (Nat.le_of_ble_eq_true rfl) rfl ?_
  refine g_nm (fun f1 hf2 => ?_)
  have hx3 : f1 a = .inr (2, [.ref lp, .double 0]) := by rw [hf2]; exact va_up_self _ _ _
  have hF4 : f1 = va_up f a (.inr (2, [.ref lp, .double 0])) := hf2
  refine g_aload_n hC dX2_init_9 0 rfl ?_
  refine g_dload_n hC dX2_init_10 2 rfl ?_
  refine g_putF hC (kf := 1) (TT := TX2) (N := 2) (Cn := RX2) (ty0 := tyX2) (fs1 := [.ref lp, .double at0]) dX2_init_11 hL_a hx3 rfl q_u2 (by decide) tyX2_ok nmX2 q_fl_X2_13 rfl rfl rfl rfl rfl rfl rfl (Nat.le_of_ble_eq_true rfl) rfl ?_
  refine g_nm (fun f5 hf6 => ?_)
  have hx7 : f5 a = .inr (2, [.ref lp, .double at0]) := by rw [hf6]; exact va_up_self _ _ _
  have hF8 : f5 = va_up f a (.inr (2, [.ref lp, .double at0])) := by rw [hf6, hF4, va_up_up]
  exact g_vret hC dX2_init_14 rfl ⟨rfl, rfl, hF8⟩ (Nat.zero_le _) (Nat.zero_le _)
set_option maxHeartbeats 4000000 in
set_option maxRecDepth 100000 in
/-- Split.share(which) -/
theorem ct_X2_share (l : Launch) (G : GD) (L : List Nat) (f : Nat → va_E) (a lp lm bd rg tn : Nat) (at0 lo hi : UInt64) (x : Nat → UInt64) (md fa : Int32) (ou : Option Nat) (wh : Int32) (hL_a : a ∈ L) (hL_lp : lp ∈ L) (hL_lm : lm ∈ L) (h0 : f a = eSt lp at0) (h1 : f lp = eLp x md fa lm bd rg tn ou) (h2 : f lm = eSp lo hi) : Ctr l yX2_share cX2_share 5 (some .double) { frames := 1, cells := 0, slots := 0, locals := 22 } G [.ref a, .int wh] L f (fun vv L1 f1 => ∃ r : UInt64, vv = some (.double r) ∧ dv r = shS (dv at0) (dv (x 5)) (dv lo) (dv hi) wh ∧ L = L1 ∧ f = f1) := by
  refine g_enter RX2 false (by decide) rfl (fun h => by cases h) (Nat.le_of_ble_eq_true rfl) (fun C hC => ?_)
  refine (show V C 5 L f 0 0 0 [(0, .ref a), (1, .int wh)] [] from ?_)
  refine g_aload_n hC dX2_share_0 0 rfl ?_
  refine g_get hC (kf := 0) (TT := TX2) (N := 2) (Cn := RX2) dX2_share_1 hL_a h0 rfl q_u2 (by decide) q_fl_X2_7 rfl rfl ?_
  refine g_getN hC (kf := 3) (TT := TX0) (N := 16) (Cn := RX0) dX2_share_4 hL_lp h1 rfl q_u0 (by decide) q_fn_X2_17 rfl rfl ?_
  refine g_astore_n hC (lv1 := [(2, .ref lm), (0, .ref a), (1, .int wh)]) dX2_share_7 (by decide) rfl ?_
  refine g_aload_n hC dX2_share_8 0 rfl ?_
  refine g_aload_n hC dX2_share_9 1 rfl ?_
  refine g_get hC (kf := 1) (TT := TX2) (N := 2) (Cn := RX2) dX2_share_10 hL_a h0 rfl q_u2 (by decide) q_fl_X2_13 rfl rfl ?_
  refine g_callV hC (Cn := RX1) (TT := TX1) (N := 2) dX2_share_13 (ct_X1_holdsInside l G L f lm lo hi at0 hL_lm h2) q_code_X1_holdsInside q_ml_X2_23 q_im_X1_holdsInside q_sel_X1_holdsInside q_init_X1 ⟨rfl, by decide, by decide, (show (parseMethodDescriptor yX1_holdsInside.desc).map (fun d => d.parameters.length) = some 1 from by decide +kernel)⟩ hL_lm h2 rfl (by decide) (by decide) (Nat.le_of_ble_eq_true rfl) (fun v2 L3 f4 hp1 => ?_)
  obtain ⟨rfl, rfl, rfl⟩ := hp1
  refine (show V C 5 L f 0 0 16 [(2, .ref lm), (0, .ref a), (1, .int wh)] [.int (bI (inS (dv at0) (dv lo) (dv hi)))] from ?_)
  refine g_ifB_ne hC 21 dX2_share_16 (by decide) (fun c5 => ?_) (fun c5 => ?_)
  · skip
    refine g_iload_n hC dX2_share_21 2 rfl ?_
    refine g_if_ne hC 54 dX2_share_22 (by decide) (fun c6 => ?_) (fun c6 => ?_)
    · skip
      refine g_aload_n hC dX2_share_54 1 rfl ?_
      refine g_get hC (kf := 0) (TT := TX2) (N := 2) (Cn := RX2) dX2_share_55 hL_a h0 rfl q_u2 (by decide) q_fl_X2_7 rfl rfl ?_
      refine g_getN hC (kf := 9) (TT := TX0) (N := 16) (Cn := RX0) dX2_share_58 hL_lp h1 rfl q_u0 (by decide) q_fn_X2_29 rfl rfl ?_
      refine g_aload_n hC dX2_share_61 1 rfl ?_
      refine g_get hC (kf := 1) (TT := TX2) (N := 2) (Cn := RX2) dX2_share_62 hL_a h0 rfl q_u2 (by decide) q_fl_X2_13 rfl rfl ?_
      refine g_dsub hC dX2_share_65 (fun r7 er7 => ?_)
      refine g_aload_n hC dX2_share_66 0 rfl ?_
      refine g_getN hC (kf := 1) (TT := TX1) (N := 2) (Cn := RX1) dX2_share_67 hL_lm h2 rfl q_u1 (by decide) q_fn_X2_37 rfl rfl ?_
      refine g_aload_n hC dX2_share_70 1 rfl ?_
      refine g_get hC (kf := 1) (TT := TX2) (N := 2) (Cn := RX2) dX2_share_71 hL_a h0 rfl q_u2 (by decide) q_fl_X2_13 rfl rfl ?_
      refine g_dsub hC dX2_share_74 (fun r8 er8 => ?_)
      refine g_ddiv hC dX2_share_75 (fun r9 er9 => ?_)
      try simp only [er7, er8] at er9
      refine g_ldc2 hC dX2_share_76 q_cd_X2_35 ?_
      refine g_dmul hC dX2_share_79 (fun r10 er10 => ?_)
      try simp only [er7, er8, er9] at er10
      refine g_dstore_n hC (lv1 := [(3, .double r10), (2, .ref lm), (0, .ref a), (1, .int wh)]) dX2_share_80 (by decide) rfl ?_
      refine g_dload_n hC dX2_share_81 0 rfl ?_
      refine g_dconst0 hC dX2_share_82 ?_
      refine g_dcmpg_ge hC 91 dX2_share_83 dX2_share_84 (by decide) (fun c11 => ?_) (fun c11 => ?_)
      · try simp only [er7, er8, er9, er10] at c11
        refine g_dload_n hC dX2_share_91 0 rfl ?_
        refine g_ldc2 hC dX2_share_92 q_cd_X2_35 ?_
        refine g_dcmpl_le hC 105 dX2_share_95 dX2_share_96 (by decide) (fun c12 => ?_) (fun c12 => ?_)
        · try simp only [er7, er8, er9, er10] at c12
          refine g_dload_n hC dX2_share_105 0 rfl ?_
          exact g_dret hC dX2_share_106 rfl ⟨r10, rfl, by simp [shS, clS, c5, c6, c11, c12, er7, er8, er9, er10], rfl, rfl⟩ (Nat.zero_le _) (Nat.zero_le _)
        · try simp only [er7, er8, er9, er10] at c12
          refine g_ldc2 hC dX2_share_99 q_cd_X2_35 ?_
          refine g_goto hC 106 dX2_share_102 (by decide) ?_
          exact g_dret hC dX2_share_106 rfl ⟨4636737291354636288, rfl, by simp [shS, clS, c5, c6, c11, c12, er7, er8, er9, er10], rfl, rfl⟩ (Nat.zero_le _) (Nat.zero_le _)
      · try simp only [er7, er8, er9, er10] at c11
        refine g_dconst0 hC dX2_share_87 ?_
        refine g_goto hC 106 dX2_share_88 (by decide) ?_
        exact g_dret hC dX2_share_106 rfl ⟨0, rfl, by simp [shS, clS, c5, c6, c11, er7, er8, er9, er10], rfl, rfl⟩ (Nat.zero_le _) (Nat.zero_le _)
    · skip
      refine g_aload_n hC dX2_share_25 1 rfl ?_
      refine g_get hC (kf := 0) (TT := TX2) (N := 2) (Cn := RX2) dX2_share_26 hL_a h0 rfl q_u2 (by decide) q_fl_X2_7 rfl rfl ?_
      refine g_getN hC (kf := 9) (TT := TX0) (N := 16) (Cn := RX0) dX2_share_29 hL_lp h1 rfl q_u0 (by decide) q_fn_X2_29 rfl rfl ?_
      refine g_aload_n hC dX2_share_32 0 rfl ?_
      refine g_getN hC (kf := 0) (TT := TX1) (N := 2) (Cn := RX1) dX2_share_33 hL_lm h2 rfl q_u1 (by decide) q_fn_X2_32 rfl rfl ?_
      refine g_dsub hC dX2_share_36 (fun r13 er13 => ?_)
      refine g_aload_n hC dX2_share_37 1 rfl ?_
      refine g_get hC (kf := 1) (TT := TX2) (N := 2) (Cn := RX2) dX2_share_38 hL_a h0 rfl q_u2 (by decide) q_fl_X2_13 rfl rfl ?_
      refine g_aload_n hC dX2_share_41 0 rfl ?_
      refine g_getN hC (kf := 0) (TT := TX1) (N := 2) (Cn := RX1) dX2_share_42 hL_lm h2 rfl q_u1 (by decide) q_fn_X2_32 rfl rfl ?_
      refine g_dsub hC dX2_share_45 (fun r14 er14 => ?_)
      refine g_ddiv hC dX2_share_46 (fun r15 er15 => ?_)
      try simp only [er13, er14] at er15
      refine g_ldc2 hC dX2_share_47 q_cd_X2_35 ?_
      refine g_dmul hC dX2_share_50 (fun r16 er16 => ?_)
      try simp only [er13, er14, er15] at er16
      refine g_goto hC 80 dX2_share_51 (by decide) ?_
      refine g_dstore_n hC (lv1 := [(3, .double r16), (2, .ref lm), (0, .ref a), (1, .int wh)]) dX2_share_80 (by decide) rfl ?_
      refine g_dload_n hC dX2_share_81 0 rfl ?_
      refine g_dconst0 hC dX2_share_82 ?_
      refine g_dcmpg_ge hC 91 dX2_share_83 dX2_share_84 (by decide) (fun c17 => ?_) (fun c17 => ?_)
      · try simp only [er13, er14, er15, er16] at c17
        refine g_dload_n hC dX2_share_91 0 rfl ?_
        refine g_ldc2 hC dX2_share_92 q_cd_X2_35 ?_
        refine g_dcmpl_le hC 105 dX2_share_95 dX2_share_96 (by decide) (fun c18 => ?_) (fun c18 => ?_)
        · try simp only [er13, er14, er15, er16] at c18
          refine g_dload_n hC dX2_share_105 0 rfl ?_
          exact g_dret hC dX2_share_106 rfl ⟨r16, rfl, by simp [shS, clS, c5, c6, c17, c18, er13, er14, er15, er16], rfl, rfl⟩ (Nat.zero_le _) (Nat.zero_le _)
        · try simp only [er13, er14, er15, er16] at c18
          refine g_ldc2 hC dX2_share_99 q_cd_X2_35 ?_
          refine g_goto hC 106 dX2_share_102 (by decide) ?_
          exact g_dret hC dX2_share_106 rfl ⟨4636737291354636288, rfl, by simp [shS, clS, c5, c6, c17, c18, er13, er14, er15, er16], rfl, rfl⟩ (Nat.zero_le _) (Nat.zero_le _)
      · try simp only [er13, er14, er15, er16] at c17
        refine g_dconst0 hC dX2_share_87 ?_
        refine g_goto hC 106 dX2_share_88 (by decide) ?_
        exact g_dret hC dX2_share_106 rfl ⟨0, rfl, by simp [shS, clS, c5, c6, c17, er13, er14, er15, er16], rfl, rfl⟩ (Nat.zero_le _) (Nat.zero_le _)
  · skip
    refine g_dconst0 hC dX2_share_19 ?_
    exact g_dret hC dX2_share_20 rfl ⟨0, rfl, by simp [shS, clS, c5], rfl, rfl⟩ (Nat.zero_le _) (Nat.zero_le _)
set_option maxHeartbeats 4000000 in
set_option maxRecDepth 100000 in
/-- Loop(p, i, d) -/
theorem ct_X0_init (l : Launch) (G : GD) (L : List Nat) (f : Nat → va_E) (a : Nat) (p i d : UInt64) (hL_a : a ∈ L) (h0 : f a = .inr (0, [.double 0, .double 0, .double 0, .null, .null, .null, .null, .double 0, .double 0, .double 0, .double 0, .double 0, .double 0, .int 0, .int 0, .null])) : Ctr l yX0_init cX0_init 7 none { frames := 2, cells := 4, slots := 13, locals := 36 } G [.ref a, .double p, .double i, .double d] L f (fun vv L1 f1 => vv = none ∧ ∃ q1 q2 q3 q4 : Nat, q1 ∉ L ∧ q2 ∉ L ++ [q1] ∧ q3 ∉ (L ++ [q1]) ++ [q2] ∧ q4 ∉ ((L ++ [q1]) ++ [q2]) ++ [q3] ∧ L1 = (((L ++ [q1]) ++ [q2]) ++ [q3]) ++ [q4] ∧ f1 a = eLp (xI p i d) 0 0 q1 q2 q3 q4 none ∧ f1 q1 = eSp 0 4636737291354636288 ∧ f1 q2 = eSp 13830554455654793216 4607182418800017408 ∧ f1 q3 = eSp 13920209183539462144 4696837146684686336 ∧ f1 q4 = eTn 0 0 0 0 0 0 0 ∧ ∀ b : Nat, b ≠ a → b ≠ q1 → b ≠ q2 → b ≠ q3 → b ≠ q4 → f1 b = f b) := by
  refine g_enter RX0 true (by decide) rfl (fun _ => rfl) (Nat.le_of_ble_eq_true rfl) (fun C hC => ?_)
  refine (show V C 7 L f 0 0 0 [(0, .ref a), (1, .double p), (3, .double i), (5, .double d)] [] from ?_)
  refine g_aload_n hC dX0_init_0 0 rfl ?_
  refine g_objInit hC dX0_init_1 q_ml_X0_3 (by decide) (by decide) ?_
  refine g_aload_n hC dX0_init_4 0 rfl ?_
  refine g_new hC (ci := 1) (N := 2) (Cn := RX1) (TT := TX1) (ty0 := tyX1) [.double 0, .double 0] dX0_init_5 rfl q_u1 tyX1_ok q_cl_X0_9 q_inst_X1 q_init_X1 dfX1 (Nat.le_of_ble_eq_true rfl) (Nat.le_of_ble_eq_true rfl) (fun q1 hq1 => ?_)
  refine g_nm (fun f2 hf3 => ?_)
  have hx4 : f2 a = .inr (0, [.double 0, .double 0, .double 0, .null, .null, .null, .null, .double 0, .double 0, .double 0, .double 0, .double 0, .double 0, .int 0, .int 0, .null]) := by rw [hf3, va_up_ne _ _ (ne_new hL_a hq1)]; exact h0
  have hx5 : f2 q1 = .inr (1, [.double 0, .double 0]) := by rw [hf3]; exact va_up_self _ _ _
  have hF6 : f2 = va_up f q1 (.inr (1, [.double 0, .double 0])) := hf3
  refine (show V C 7 (L ++ [q1]) f2 1 2 8 [(0, .ref a), (1, .double p), (3, .double i), (5, .double d)] [.ref q1, .ref a] from ?_)
  refine g_dup hC dX0_init_8 rfl ?_
  refine g_dconst0 hC dX0_init_9 ?_
  refine g_ldc2 hC dX0_init_10 q_cd_X0_11 ?_
  refine g_callI hC dX0_init_13 (ct_X1_init l G (L ++ [q1]) f2 q1 0 0 0 4636737291354636288 mem_r hx5) q_code_X1_init q_ml_X0_13 q_im_X1_init q_init_X1 ⟨rfl, by decide, by decide, (show (parseMethodDescriptor yX1_init.desc).map (fun d => d.parameters.length) = some 2 from by decide +kernel)⟩ (by decide) (by decide) (Nat.le_of_ble_eq_true rfl) (fun v8 L9 f10 hp7 => ?_)
  obtain ⟨rfl, rfl, hf11⟩ := hp7
  have hx12 : f10 a = .inr (0, [.double 0, .double 0, .double 0, .null, .null, .null, .null, .double 0, .double 0, .double 0, .double 0, .double 0, .double 0, .int 0, .int 0, .null]) := by rw [hf11, va_up_ne _ _ (ne_new hL_a hq1)]; exact hx4
  have hx13 : f10 q1 = .inr (1, [.double 0, .double 4636737291354636288]) := by rw [hf11]; exact va_up_self _ _ _
  have hF14 : f10 = va_up f q1 (.inr (1, [.double 0, .double 4636737291354636288])) := by rw [hf11, hF6, va_up_up]
  refine (show V C 7 (L ++ [q1]) f10 1 2 16 [(0, .ref a), (1, .double p), (3, .double i), (5, .double d)] [.ref q1, .ref a] from ?_)
  refine g_putF hC (kf := 3) (TT := TX0) (N := 16) (Cn := RX0) (ty0 := tyX0) (fs1 := [.double 0, .double 0, .double 0, .ref q1, .null, .null, .null, .double 0, .double 0, .double 0, .double 0, .double 0, .double 0, .int 0, .int 0, .null]) dX0_init_16 (mem_l hL_a) hx12 rfl q_u0 (by decide) tyX0_ok nmX0 q_fl_X0_16 rfl rfl rfl rfl rfl rfl rfl (Nat.le_of_ble_eq_true rfl) rfl ?_
  refine g_nm (fun f15 hf16 => ?_)
  have hx17 : f15 a = .inr (0, [.double 0, .double 0, .double 0, .ref q1, .null, .null, .null, .double 0, .double 0, .double 0, .double 0, .double 0, .double 0, .int 0, .int 0, .null]) := by rw [hf16]; exact va_up_self _ _ _
  have hx18 : f15 q1 = .inr (1, [.double 0, .double 4636737291354636288]) := by rw [hf16, va_up_ne _ _ (Ne.symm (ne_new hL_a hq1))]; exact hx13
  have hF19 : f15 = va_up (va_up f q1 (.inr (1, [.double 0, .double 4636737291354636288]))) a (.inr (0, [.double 0, .double 0, .double 0, .ref q1, .null, .null, .null, .double 0, .double 0, .double 0, .double 0, .double 0, .double 0, .int 0, .int 0, .null])) := by rw [hf16, hF14]
  refine g_aload_n hC dX0_init_19 0 rfl ?_
  refine g_new hC (ci := 1) (N := 2) (Cn := RX1) (TT := TX1) (ty0 := tyX1) [.double 0, .double 0] dX0_init_20 rfl q_u1 tyX1_ok q_cl_X0_9 q_inst_X1 q_init_X1 dfX1 (Nat.le_of_ble_eq_true rfl) (Nat.le_of_ble_eq_true rfl) (fun q20 hq20 => ?_)
  refine g_nm (fun f21 hf22 => ?_)
  have hx23 : f21 a = .inr (0, [.double 0, .double 0, .double 0, .ref q1, .null, .null, .null, .double 0, .double 0, .double 0, .double 0, .double 0, .double 0, .int 0, .int 0, .null]) := by rw [hf22, va_up_ne _ _ (ne_new (mem_l hL_a) hq20)]; exact hx17
  have hx24 : f21 q1 = .inr (1, [.double 0, .double 4636737291354636288]) := by rw [hf22, va_up_ne _ _ (ne_new mem_r hq20)]; exact hx18
  have hx25 : f21 q20 = .inr (1, [.double 0, .double 0]) := by rw [hf22]; exact va_up_self _ _ _
  have hF26 : f21 = va_up (va_up (va_up f q1 (.inr (1, [.double 0, .double 4636737291354636288]))) a (.inr (0, [.double 0, .double 0, .double 0, .ref q1, .null, .null, .null, .double 0, .double 0, .double 0, .double 0, .double 0, .double 0, .int 0, .int 0, .null]))) q20 (.inr (1, [.double 0, .double 0])) := by rw [hf22, hF19]
  refine (show V C 7 ((L ++ [q1]) ++ [q20]) f21 2 4 23 [(0, .ref a), (1, .double p), (3, .double i), (5, .double d)] [.ref q20, .ref a] from ?_)
  refine g_dup hC dX0_init_23 rfl ?_
  refine g_ldc2 hC dX0_init_24 q_cd_X0_22 ?_
  refine g_dconst1 hC dX0_init_27 ?_
  refine g_callI hC dX0_init_28 (ct_X1_init l G ((L ++ [q1]) ++ [q20]) f21 q20 0 0 13830554455654793216 4607182418800017408 mem_r hx25) q_code_X1_init q_ml_X0_13 q_im_X1_init q_init_X1 ⟨rfl, by decide, by decide, (show (parseMethodDescriptor yX1_init.desc).map (fun d => d.parameters.length) = some 2 from by decide +kernel)⟩ (by decide) (by decide) (Nat.le_of_ble_eq_true rfl) (fun v28 L29 f30 hp27 => ?_)
  obtain ⟨rfl, rfl, hf31⟩ := hp27
  have hx32 : f30 a = .inr (0, [.double 0, .double 0, .double 0, .ref q1, .null, .null, .null, .double 0, .double 0, .double 0, .double 0, .double 0, .double 0, .int 0, .int 0, .null]) := by rw [hf31, va_up_ne _ _ (ne_new (mem_l hL_a) hq20)]; exact hx23
  have hx33 : f30 q1 = .inr (1, [.double 0, .double 4636737291354636288]) := by rw [hf31, va_up_ne _ _ (ne_new mem_r hq20)]; exact hx24
  have hx34 : f30 q20 = .inr (1, [.double 13830554455654793216, .double 4607182418800017408]) := by rw [hf31]; exact va_up_self _ _ _
  have hF35 : f30 = va_up (va_up (va_up f q1 (.inr (1, [.double 0, .double 4636737291354636288]))) a (.inr (0, [.double 0, .double 0, .double 0, .ref q1, .null, .null, .null, .double 0, .double 0, .double 0, .double 0, .double 0, .double 0, .int 0, .int 0, .null]))) q20 (.inr (1, [.double 13830554455654793216, .double 4607182418800017408])) := by rw [hf31, hF26, va_up_up]
  refine (show V C 7 ((L ++ [q1]) ++ [q20]) f30 2 4 31 [(0, .ref a), (1, .double p), (3, .double i), (5, .double d)] [.ref q20, .ref a] from ?_)
  refine g_putF hC (kf := 4) (TT := TX0) (N := 16) (Cn := RX0) (ty0 := tyX0) (fs1 := [.double 0, .double 0, .double 0, .ref q1, .ref q20, .null, .null, .double 0, .double 0, .double 0, .double 0, .double 0, .double 0, .int 0, .int 0, .null]) dX0_init_31 (mem_l (mem_l hL_a)) hx32 rfl q_u0 (by decide) tyX0_ok nmX0 q_fl_X0_24 rfl rfl rfl rfl rfl rfl rfl (Nat.le_of_ble_eq_true rfl) rfl ?_
  refine g_nm (fun f36 hf37 => ?_)
  have hx38 : f36 a = .inr (0, [.double 0, .double 0, .double 0, .ref q1, .ref q20, .null, .null, .double 0, .double 0, .double 0, .double 0, .double 0, .double 0, .int 0, .int 0, .null]) := by rw [hf37]; exact va_up_self _ _ _
  have hx39 : f36 q1 = .inr (1, [.double 0, .double 4636737291354636288]) := by rw [hf37, va_up_ne _ _ (Ne.symm (ne_new hL_a hq1))]; exact hx33
  have hx40 : f36 q20 = .inr (1, [.double 13830554455654793216, .double 4607182418800017408]) := by rw [hf37, va_up_ne _ _ (Ne.symm (ne_new (mem_l hL_a) hq20))]; exact hx34
  have hF41 : f36 = va_up (va_up (va_up (va_up f q1 (.inr (1, [.double 0, .double 4636737291354636288]))) a (.inr (0, [.double 0, .double 0, .double 0, .ref q1, .null, .null, .null, .double 0, .double 0, .double 0, .double 0, .double 0, .double 0, .int 0, .int 0, .null]))) q20 (.inr (1, [.double 13830554455654793216, .double 4607182418800017408]))) a (.inr (0, [.double 0, .double 0, .double 0, .ref q1, .ref q20, .null, .null, .double 0, .double 0, .double 0, .double 0, .double 0, .double 0, .int 0, .int 0, .null])) := by rw [hf37, hF35]
  refine g_aload_n hC dX0_init_34 0 rfl ?_
  refine g_new hC (ci := 1) (N := 2) (Cn := RX1) (TT := TX1) (ty0 := tyX1) [.double 0, .double 0] dX0_init_35 rfl q_u1 tyX1_ok q_cl_X0_9 q_inst_X1 q_init_X1 dfX1 (Nat.le_of_ble_eq_true rfl) (Nat.le_of_ble_eq_true rfl) (fun q42 hq42 => ?_)
  refine g_nm (fun f43 hf44 => ?_)
  have hx45 : f43 a = .inr (0, [.double 0, .double 0, .double 0, .ref q1, .ref q20, .null, .null, .double 0, .double 0, .double 0, .double 0, .double 0, .double 0, .int 0, .int 0, .null]) := by rw [hf44, va_up_ne _ _ (ne_new (mem_l (mem_l hL_a)) hq42)]; exact hx38
  have hx46 : f43 q1 = .inr (1, [.double 0, .double 4636737291354636288]) := by rw [hf44, va_up_ne _ _ (ne_new (mem_l mem_r) hq42)]; exact hx39
  have hx47 : f43 q20 = .inr (1, [.double 13830554455654793216, .double 4607182418800017408]) := by rw [hf44, va_up_ne _ _ (ne_new mem_r hq42)]; exact hx40
  have hx48 : f43 q42 = .inr (1, [.double 0, .double 0]) := by rw [hf44]; exact va_up_self _ _ _
  have hF49 : f43 = va_up (va_up (va_up (va_up (va_up f q1 (.inr (1, [.double 0, .double 4636737291354636288]))) a (.inr (0, [.double 0, .double 0, .double 0, .ref q1, .null, .null, .null, .double 0, .double 0, .double 0, .double 0, .double 0, .double 0, .int 0, .int 0, .null]))) q20 (.inr (1, [.double 13830554455654793216, .double 4607182418800017408]))) a (.inr (0, [.double 0, .double 0, .double 0, .ref q1, .ref q20, .null, .null, .double 0, .double 0, .double 0, .double 0, .double 0, .double 0, .int 0, .int 0, .null]))) q42 (.inr (1, [.double 0, .double 0])) := by rw [hf44, hF41]
  refine (show V C 7 (((L ++ [q1]) ++ [q20]) ++ [q42]) f43 3 6 38 [(0, .ref a), (1, .double p), (3, .double i), (5, .double d)] [.ref q42, .ref a] from ?_)
  refine g_dup hC dX0_init_38 rfl ?_
  refine g_ldc2 hC dX0_init_39 q_cd_X0_27 ?_
  refine g_ldc2 hC dX0_init_42 q_cd_X0_29 ?_
  refine g_callI hC dX0_init_45 (ct_X1_init l G (((L ++ [q1]) ++ [q20]) ++ [q42]) f43 q42 0 0 13920209183539462144 4696837146684686336 mem_r hx48) q_code_X1_init q_ml_X0_13 q_im_X1_init q_init_X1 ⟨rfl, by decide, by decide, (show (parseMethodDescriptor yX1_init.desc).map (fun d => d.parameters.length) = some 2 from by decide +kernel)⟩ (by decide) (by decide) (Nat.le_of_ble_eq_true rfl) (fun v51 L52 f53 hp50 => ?_)
  obtain ⟨rfl, rfl, hf54⟩ := hp50
  have hx55 : f53 a = .inr (0, [.double 0, .double 0, .double 0, .ref q1, .ref q20, .null, .null, .double 0, .double 0, .double 0, .double 0, .double 0, .double 0, .int 0, .int 0, .null]) := by rw [hf54, va_up_ne _ _ (ne_new (mem_l (mem_l hL_a)) hq42)]; exact hx45
  have hx56 : f53 q1 = .inr (1, [.double 0, .double 4636737291354636288]) := by rw [hf54, va_up_ne _ _ (ne_new (mem_l mem_r) hq42)]; exact hx46
  have hx57 : f53 q20 = .inr (1, [.double 13830554455654793216, .double 4607182418800017408]) := by rw [hf54, va_up_ne _ _ (ne_new mem_r hq42)]; exact hx47
  have hx58 : f53 q42 = .inr (1, [.double 13920209183539462144, .double 4696837146684686336]) := by rw [hf54]; exact va_up_self _ _ _
  have hF59 : f53 = va_up (va_up (va_up (va_up (va_up f q1 (.inr (1, [.double 0, .double 4636737291354636288]))) a (.inr (0, [.double 0, .double 0, .double 0, .ref q1, .null, .null, .null, .double 0, .double 0, .double 0, .double 0, .double 0, .double 0, .int 0, .int 0, .null]))) q20 (.inr (1, [.double 13830554455654793216, .double 4607182418800017408]))) a (.inr (0, [.double 0, .double 0, .double 0, .ref q1, .ref q20, .null, .null, .double 0, .double 0, .double 0, .double 0, .double 0, .double 0, .int 0, .int 0, .null]))) q42 (.inr (1, [.double 13920209183539462144, .double 4696837146684686336])) := by rw [hf54, hF49, va_up_up]
  refine (show V C 7 (((L ++ [q1]) ++ [q20]) ++ [q42]) f53 3 6 48 [(0, .ref a), (1, .double p), (3, .double i), (5, .double d)] [.ref q42, .ref a] from ?_)
  refine g_putF hC (kf := 5) (TT := TX0) (N := 16) (Cn := RX0) (ty0 := tyX0) (fs1 := [.double 0, .double 0, .double 0, .ref q1, .ref q20, .ref q42, .null, .double 0, .double 0, .double 0, .double 0, .double 0, .double 0, .int 0, .int 0, .null]) dX0_init_48 (mem_l (mem_l (mem_l hL_a))) hx55 rfl q_u0 (by decide) tyX0_ok nmX0 q_fl_X0_31 rfl rfl rfl rfl rfl rfl rfl (Nat.le_of_ble_eq_true rfl) rfl ?_
  refine g_nm (fun f60 hf61 => ?_)
  have hx62 : f60 a = .inr (0, [.double 0, .double 0, .double 0, .ref q1, .ref q20, .ref q42, .null, .double 0, .double 0, .double 0, .double 0, .double 0, .double 0, .int 0, .int 0, .null]) := by rw [hf61]; exact va_up_self _ _ _
  have hx63 : f60 q1 = .inr (1, [.double 0, .double 4636737291354636288]) := by rw [hf61, va_up_ne _ _ (Ne.symm (ne_new hL_a hq1))]; exact hx56
  have hx64 : f60 q20 = .inr (1, [.double 13830554455654793216, .double 4607182418800017408]) := by rw [hf61, va_up_ne _ _ (Ne.symm (ne_new (mem_l hL_a) hq20))]; exact hx57
  have hx65 : f60 q42 = .inr (1, [.double 13920209183539462144, .double 4696837146684686336]) := by rw [hf61, va_up_ne _ _ (Ne.symm (ne_new (mem_l (mem_l hL_a)) hq42))]; exact hx58
  have hF66 : f60 = va_up (va_up (va_up (va_up (va_up (va_up f q1 (.inr (1, [.double 0, .double 4636737291354636288]))) a (.inr (0, [.double 0, .double 0, .double 0, .ref q1, .null, .null, .null, .double 0, .double 0, .double 0, .double 0, .double 0, .double 0, .int 0, .int 0, .null]))) q20 (.inr (1, [.double 13830554455654793216, .double 4607182418800017408]))) a (.inr (0, [.double 0, .double 0, .double 0, .ref q1, .ref q20, .null, .null, .double 0, .double 0, .double 0, .double 0, .double 0, .double 0, .int 0, .int 0, .null]))) q42 (.inr (1, [.double 13920209183539462144, .double 4696837146684686336]))) a (.inr (0, [.double 0, .double 0, .double 0, .ref q1, .ref q20, .ref q42, .null, .double 0, .double 0, .double 0, .double 0, .double 0, .double 0, .int 0, .int 0, .null])) := by rw [hf61, hF59]
  refine g_aload_n hC dX0_init_51 0 rfl ?_
  refine g_new hC (ci := 3) (N := 7) (Cn := RX3) (TT := TX3) (ty0 := tyX3) [.double 0, .int 0, .int 0, .int 0, .double 0, .double 0, .int 0] dX0_init_52 rfl q_u3 tyX3_ok q_cl_X0_34 q_inst_X3 q_init_X3 dfX3 (Nat.le_of_ble_eq_true rfl) (Nat.le_of_ble_eq_true rfl) (fun q67 hq67 => ?_)
  refine g_nm (fun f68 hf69 => ?_)
  have hx70 : f68 a = .inr (0, [.double 0, .double 0, .double 0, .ref q1, .ref q20, .ref q42, .null, .double 0, .double 0, .double 0, .double 0, .double 0, .double 0, .int 0, .int 0, .null]) := by rw [hf69, va_up_ne _ _ (ne_new (mem_l (mem_l (mem_l hL_a))) hq67)]; exact hx62
  have hx71 : f68 q1 = .inr (1, [.double 0, .double 4636737291354636288]) := by rw [hf69, va_up_ne _ _ (ne_new (mem_l (mem_l mem_r)) hq67)]; exact hx63
  have hx72 : f68 q20 = .inr (1, [.double 13830554455654793216, .double 4607182418800017408]) := by rw [hf69, va_up_ne _ _ (ne_new (mem_l mem_r) hq67)]; exact hx64
  have hx73 : f68 q42 = .inr (1, [.double 13920209183539462144, .double 4696837146684686336]) := by rw [hf69, va_up_ne _ _ (ne_new mem_r hq67)]; exact hx65
  have hx74 : f68 q67 = .inr (3, [.double 0, .int 0, .int 0, .int 0, .double 0, .double 0, .int 0]) := by rw [hf69]; exact va_up_self _ _ _
  have hF75 : f68 = va_up (va_up (va_up (va_up (va_up (va_up (va_up f q1 (.inr (1, [.double 0, .double 4636737291354636288]))) a (.inr (0, [.double 0, .double 0, .double 0, .ref q1, .null, .null, .null, .double 0, .double 0, .double 0, .double 0, .double 0, .double 0, .int 0, .int 0, .null]))) q20 (.inr (1, [.double 13830554455654793216, .double 4607182418800017408]))) a (.inr (0, [.double 0, .double 0, .double 0, .ref q1, .ref q20, .null, .null, .double 0, .double 0, .double 0, .double 0, .double 0, .double 0, .int 0, .int 0, .null]))) q42 (.inr (1, [.double 13920209183539462144, .double 4696837146684686336]))) a (.inr (0, [.double 0, .double 0, .double 0, .ref q1, .ref q20, .ref q42, .null, .double 0, .double 0, .double 0, .double 0, .double 0, .double 0, .int 0, .int 0, .null]))) q67 (.inr (3, [.double 0, .int 0, .int 0, .int 0, .double 0, .double 0, .int 0])) := by rw [hf69, hF66]
  refine (show V C 7 ((((L ++ [q1]) ++ [q20]) ++ [q42]) ++ [q67]) f68 4 13 55 [(0, .ref a), (1, .double p), (3, .double i), (5, .double d)] [.ref q67, .ref a] from ?_)
  refine g_dup hC dX0_init_55 rfl ?_
  refine g_callIN hC dX0_init_56 (ct_X3_init l G ((((L ++ [q1]) ++ [q20]) ++ [q42]) ++ [q67]) f68 q67 mem_r hx74) q_code_X3_init q_mn_X0_36 q_im_X3_init q_init_X3 ⟨rfl, by decide, by decide, (show (parseMethodDescriptor yX3_init.desc).map (fun d => d.parameters.length) = some 0 from by decide +kernel)⟩ (by decide) (by decide) (Nat.le_of_ble_eq_true rfl) (fun v77 L78 f79 hp76 => ?_)
  obtain ⟨rfl, rfl, rfl⟩ := hp76
  refine (show V C 7 ((((L ++ [q1]) ++ [q20]) ++ [q42]) ++ [q67]) f68 4 13 59 [(0, .ref a), (1, .double p), (3, .double i), (5, .double d)] [.ref q67, .ref a] from ?_)
  refine g_putF hC (kf := 6) (TT := TX0) (N := 16) (Cn := RX0) (ty0 := tyX0) (fs1 := [.double 0, .double 0, .double 0, .ref q1, .ref q20, .ref q42, .ref q67, .double 0, .double 0, .double 0, .double 0, .double 0, .double 0, .int 0, .int 0, .null]) dX0_init_59 (mem_l (mem_l (mem_l (mem_l hL_a)))) hx70 rfl q_u0 (by decide) tyX0_ok nmX0 q_fl_X0_37 rfl rfl rfl rfl rfl rfl rfl (Nat.le_of_ble_eq_true rfl) rfl ?_
  refine g_nm (fun f80 hf81 => ?_)
  have hx82 : f80 a = .inr (0, [.double 0, .double 0, .double 0, .ref q1, .ref q20, .ref q42, .ref q67, .double 0, .double 0, .double 0, .double 0, .double 0, .double 0, .int 0, .int 0, .null]) := by rw [hf81]; exact va_up_self _ _ _
  have hx83 : f80 q1 = .inr (1, [.double 0, .double 4636737291354636288]) := by rw [hf81, va_up_ne _ _ (Ne.symm (ne_new hL_a hq1))]; exact hx71
  have hx84 : f80 q20 = .inr (1, [.double 13830554455654793216, .double 4607182418800017408]) := by rw [hf81, va_up_ne _ _ (Ne.symm (ne_new (mem_l hL_a) hq20))]; exact hx72
  have hx85 : f80 q42 = .inr (1, [.double 13920209183539462144, .double 4696837146684686336]) := by rw [hf81, va_up_ne _ _ (Ne.symm (ne_new (mem_l (mem_l hL_a)) hq42))]; exact hx73
  have hx86 : f80 q67 = .inr (3, [.double 0, .int 0, .int 0, .int 0, .double 0, .double 0, .int 0]) := by rw [hf81, va_up_ne _ _ (Ne.symm (ne_new (mem_l (mem_l (mem_l hL_a))) hq67))]; exact hx74
  have hF87 : f80 = va_up (va_up (va_up (va_up (va_up (va_up (va_up (va_up f q1 (.inr (1, [.double 0, .double 4636737291354636288]))) a (.inr (0, [.double 0, .double 0, .double 0, .ref q1, .null, .null, .null, .double 0, .double 0, .double 0, .double 0, .double 0, .double 0, .int 0, .int 0, .null]))) q20 (.inr (1, [.double 13830554455654793216, .double 4607182418800017408]))) a (.inr (0, [.double 0, .double 0, .double 0, .ref q1, .ref q20, .null, .null, .double 0, .double 0, .double 0, .double 0, .double 0, .double 0, .int 0, .int 0, .null]))) q42 (.inr (1, [.double 13920209183539462144, .double 4696837146684686336]))) a (.inr (0, [.double 0, .double 0, .double 0, .ref q1, .ref q20, .ref q42, .null, .double 0, .double 0, .double 0, .double 0, .double 0, .double 0, .int 0, .int 0, .null]))) q67 (.inr (3, [.double 0, .int 0, .int 0, .int 0, .double 0, .double 0, .int 0]))) a (.inr (0, [.double 0, .double 0, .double 0, .ref q1, .ref q20, .ref q42, .ref q67, .double 0, .double 0, .double 0, .double 0, .double 0, .double 0, .int 0, .int 0, .null])) := by rw [hf81, hF75]
  refine g_aload_n hC dX0_init_62 0 rfl ?_
  refine g_ldc2 hC dX0_init_63 q_cd_X0_11 ?_
  refine g_put hC (kf := 7) (TT := TX0) (N := 16) (Cn := RX0) (ty0 := tyX0) (fs1 := [.double 0, .double 0, .double 0, .ref q1, .ref q20, .ref q42, .ref q67, .double 4636737291354636288, .double 0, .double 0, .double 0, .double 0, .double 0, .int 0, .int 0, .null]) dX0_init_66 (mem_l (mem_l (mem_l (mem_l hL_a)))) hx82 rfl q_u0 (by decide) tyX0_ok nmX0 q_fl_X0_41 rfl rfl rfl rfl rfl (Nat.le_of_ble_eq_true rfl) rfl ?_
  refine g_nm (fun f88 hf89 => ?_)
  have hx90 : f88 a = .inr (0, [.double 0, .double 0, .double 0, .ref q1, .ref q20, .ref q42, .ref q67, .double 4636737291354636288, .double 0, .double 0, .double 0, .double 0, .double 0, .int 0, .int 0, .null]) := by rw [hf89]; exact va_up_self _ _ _
  have hx91 : f88 q1 = .inr (1, [.double 0, .double 4636737291354636288]) := by rw [hf89, va_up_ne _ _ (Ne.symm (ne_new hL_a hq1))]; exact hx83
  have hx92 : f88 q20 = .inr (1, [.double 13830554455654793216, .double 4607182418800017408]) := by rw [hf89, va_up_ne _ _ (Ne.symm (ne_new (mem_l hL_a) hq20))]; exact hx84
  have hx93 : f88 q42 = .inr (1, [.double 13920209183539462144, .double 4696837146684686336]) := by rw [hf89, va_up_ne _ _ (Ne.symm (ne_new (mem_l (mem_l hL_a)) hq42))]; exact hx85
  have hx94 : f88 q67 = .inr (3, [.double 0, .int 0, .int 0, .int 0, .double 0, .double 0, .int 0]) := by rw [hf89, va_up_ne _ _ (Ne.symm (ne_new (mem_l (mem_l (mem_l hL_a))) hq67))]; exact hx86
  have hF95 : f88 = va_up (va_up (va_up (va_up (va_up (va_up (va_up (va_up f q1 (.inr (1, [.double 0, .double 4636737291354636288]))) a (.inr (0, [.double 0, .double 0, .double 0, .ref q1, .null, .null, .null, .double 0, .double 0, .double 0, .double 0, .double 0, .double 0, .int 0, .int 0, .null]))) q20 (.inr (1, [.double 13830554455654793216, .double 4607182418800017408]))) a (.inr (0, [.double 0, .double 0, .double 0, .ref q1, .ref q20, .null, .null, .double 0, .double 0, .double 0, .double 0, .double 0, .double 0, .int 0, .int 0, .null]))) q42 (.inr (1, [.double 13920209183539462144, .double 4696837146684686336]))) a (.inr (0, [.double 0, .double 0, .double 0, .ref q1, .ref q20, .ref q42, .null, .double 0, .double 0, .double 0, .double 0, .double 0, .double 0, .int 0, .int 0, .null]))) q67 (.inr (3, [.double 0, .int 0, .int 0, .int 0, .double 0, .double 0, .int 0]))) a (.inr (0, [.double 0, .double 0, .double 0, .ref q1, .ref q20, .ref q42, .ref q67, .double 4636737291354636288, .double 0, .double 0, .double 0, .double 0, .double 0, .int 0, .int 0, .null])) := by rw [hf89, hF87, va_up_up]
  refine g_aload_n hC dX0_init_69 0 rfl ?_
  refine g_iconst hC 0 dX0_init_70 (by decide) ?_
  refine g_put hC (kf := 13) (TT := TX0) (N := 16) (Cn := RX0) (ty0 := tyX0) (fs1 := [.double 0, .double 0, .double 0, .ref q1, .ref q20, .ref q42, .ref q67, .double 4636737291354636288, .double 0, .double 0, .double 0, .double 0, .double 0, .int 0, .int 0, .null]) dX0_init_71 (mem_l (mem_l (mem_l (mem_l hL_a)))) hx90 rfl q_u0 (by decide) tyX0_ok nmX0 q_fl_X0_45 rfl rfl rfl rfl rfl (Nat.le_of_ble_eq_true rfl) rfl ?_
  refine g_nm (fun f96 hf97 => ?_)
  have hx98 : f96 a = .inr (0, [.double 0, .double 0, .double 0, .ref q1, .ref q20, .ref q42, .ref q67, .double 4636737291354636288, .double 0, .double 0, .double 0, .double 0, .double 0, .int 0, .int 0, .null]) := by rw [hf97]; exact va_up_self _ _ _
  have hx99 : f96 q1 = .inr (1, [.double 0, .double 4636737291354636288]) := by rw [hf97, va_up_ne _ _ (Ne.symm (ne_new hL_a hq1))]; exact hx91
  have hx100 : f96 q20 = .inr (1, [.double 13830554455654793216, .double 4607182418800017408]) := by rw [hf97, va_up_ne _ _ (Ne.symm (ne_new (mem_l hL_a) hq20))]; exact hx92
  have hx101 : f96 q42 = .inr (1, [.double 13920209183539462144, .double 4696837146684686336]) := by rw [hf97, va_up_ne _ _ (Ne.symm (ne_new (mem_l (mem_l hL_a)) hq42))]; exact hx93
  have hx102 : f96 q67 = .inr (3, [.double 0, .int 0, .int 0, .int 0, .double 0, .double 0, .int 0]) := by rw [hf97, va_up_ne _ _ (Ne.symm (ne_new (mem_l (mem_l (mem_l hL_a))) hq67))]; exact hx94
  have hF103 : f96 = va_up (va_up (va_up (va_up (va_up (va_up (va_up (va_up f q1 (.inr (1, [.double 0, .double 4636737291354636288]))) a (.inr (0, [.double 0, .double 0, .double 0, .ref q1, .null, .null, .null, .double 0, .double 0, .double 0, .double 0, .double 0, .double 0, .int 0, .int 0, .null]))) q20 (.inr (1, [.double 13830554455654793216, .double 4607182418800017408]))) a (.inr (0, [.double 0, .double 0, .double 0, .ref q1, .ref q20, .null, .null, .double 0, .double 0, .double 0, .double 0, .double 0, .double 0, .int 0, .int 0, .null]))) q42 (.inr (1, [.double 13920209183539462144, .double 4696837146684686336]))) a (.inr (0, [.double 0, .double 0, .double 0, .ref q1, .ref q20, .ref q42, .null, .double 0, .double 0, .double 0, .double 0, .double 0, .double 0, .int 0, .int 0, .null]))) q67 (.inr (3, [.double 0, .int 0, .int 0, .int 0, .double 0, .double 0, .int 0]))) a (.inr (0, [.double 0, .double 0, .double 0, .ref q1, .ref q20, .ref q42, .ref q67, .double 4636737291354636288, .double 0, .double 0, .double 0, .double 0, .double 0, .int 0, .int 0, .null])) := by rw [hf97, hF95, va_up_up]
  refine g_aload_n hC dX0_init_74 0 rfl ?_
  refine g_dload_n hC dX0_init_75 1 rfl ?_
  refine g_putF hC (kf := 0) (TT := TX0) (N := 16) (Cn := RX0) (ty0 := tyX0) (fs1 := [.double p, .double 0, .double 0, .ref q1, .ref q20, .ref q42, .ref q67, .double 4636737291354636288, .double 0, .double 0, .double 0, .double 0, .double 0, .int 0, .int 0, .null]) dX0_init_76 (mem_l (mem_l (mem_l (mem_l hL_a)))) hx98 rfl q_u0 (by decide) tyX0_ok nmX0 q_fl_X0_49 rfl rfl rfl rfl rfl rfl rfl (Nat.le_of_ble_eq_true rfl) rfl ?_
  refine g_nm (fun f104 hf105 => ?_)
  have hx106 : f104 a = .inr (0, [.double p, .double 0, .double 0, .ref q1, .ref q20, .ref q42, .ref q67, .double 4636737291354636288, .double 0, .double 0, .double 0, .double 0, .double 0, .int 0, .int 0, .null]) := by rw [hf105]; exact va_up_self _ _ _
  have hx107 : f104 q1 = .inr (1, [.double 0, .double 4636737291354636288]) := by rw [hf105, va_up_ne _ _ (Ne.symm (ne_new hL_a hq1))]; exact hx99
  have hx108 : f104 q20 = .inr (1, [.double 13830554455654793216, .double 4607182418800017408]) := by rw [hf105, va_up_ne _ _ (Ne.symm (ne_new (mem_l hL_a) hq20))]; exact hx100
  have hx109 : f104 q42 = .inr (1, [.double 13920209183539462144, .double 4696837146684686336]) := by rw [hf105, va_up_ne _ _ (Ne.symm (ne_new (mem_l (mem_l hL_a)) hq42))]; exact hx101
  have hx110 : f104 q67 = .inr (3, [.double 0, .int 0, .int 0, .int 0, .double 0, .double 0, .int 0]) := by rw [hf105, va_up_ne _ _ (Ne.symm (ne_new (mem_l (mem_l (mem_l hL_a))) hq67))]; exact hx102
  have hF111 : f104 = va_up (va_up (va_up (va_up (va_up (va_up (va_up (va_up f q1 (.inr (1, [.double 0, .double 4636737291354636288]))) a (.inr (0, [.double 0, .double 0, .double 0, .ref q1, .null, .null, .null, .double 0, .double 0, .double 0, .double 0, .double 0, .double 0, .int 0, .int 0, .null]))) q20 (.inr (1, [.double 13830554455654793216, .double 4607182418800017408]))) a (.inr (0, [.double 0, .double 0, .double 0, .ref q1, .ref q20, .null, .null, .double 0, .double 0, .double 0, .double 0, .double 0, .double 0, .int 0, .int 0, .null]))) q42 (.inr (1, [.double 13920209183539462144, .double 4696837146684686336]))) a (.inr (0, [.double 0, .double 0, .double 0, .ref q1, .ref q20, .ref q42, .null, .double 0, .double 0, .double 0, .double 0, .double 0, .double 0, .int 0, .int 0, .null]))) q67 (.inr (3, [.double 0, .int 0, .int 0, .int 0, .double 0, .double 0, .int 0]))) a (.inr (0, [.double p, .double 0, .double 0, .ref q1, .ref q20, .ref q42, .ref q67, .double 4636737291354636288, .double 0, .double 0, .double 0, .double 0, .double 0, .int 0, .int 0, .null])) := by rw [hf105, hF103, va_up_up]
  refine g_aload_n hC dX0_init_79 0 rfl ?_
  refine g_dload_n hC dX0_init_80 2 rfl ?_
  refine g_putF hC (kf := 1) (TT := TX0) (N := 16) (Cn := RX0) (ty0 := tyX0) (fs1 := [.double p, .double i, .double 0, .ref q1, .ref q20, .ref q42, .ref q67, .double 4636737291354636288, .double 0, .double 0, .double 0, .double 0, .double 0, .int 0, .int 0, .null]) dX0_init_81 (mem_l (mem_l (mem_l (mem_l hL_a)))) hx106 rfl q_u0 (by decide) tyX0_ok nmX0 q_fl_X0_52 rfl rfl rfl rfl rfl rfl rfl (Nat.le_of_ble_eq_true rfl) rfl ?_
  refine g_nm (fun f112 hf113 => ?_)
  have hx114 : f112 a = .inr (0, [.double p, .double i, .double 0, .ref q1, .ref q20, .ref q42, .ref q67, .double 4636737291354636288, .double 0, .double 0, .double 0, .double 0, .double 0, .int 0, .int 0, .null]) := by rw [hf113]; exact va_up_self _ _ _
  have hx115 : f112 q1 = .inr (1, [.double 0, .double 4636737291354636288]) := by rw [hf113, va_up_ne _ _ (Ne.symm (ne_new hL_a hq1))]; exact hx107
  have hx116 : f112 q20 = .inr (1, [.double 13830554455654793216, .double 4607182418800017408]) := by rw [hf113, va_up_ne _ _ (Ne.symm (ne_new (mem_l hL_a) hq20))]; exact hx108
  have hx117 : f112 q42 = .inr (1, [.double 13920209183539462144, .double 4696837146684686336]) := by rw [hf113, va_up_ne _ _ (Ne.symm (ne_new (mem_l (mem_l hL_a)) hq42))]; exact hx109
  have hx118 : f112 q67 = .inr (3, [.double 0, .int 0, .int 0, .int 0, .double 0, .double 0, .int 0]) := by rw [hf113, va_up_ne _ _ (Ne.symm (ne_new (mem_l (mem_l (mem_l hL_a))) hq67))]; exact hx110
  have hF119 : f112 = va_up (va_up (va_up (va_up (va_up (va_up (va_up (va_up f q1 (.inr (1, [.double 0, .double 4636737291354636288]))) a (.inr (0, [.double 0, .double 0, .double 0, .ref q1, .null, .null, .null, .double 0, .double 0, .double 0, .double 0, .double 0, .double 0, .int 0, .int 0, .null]))) q20 (.inr (1, [.double 13830554455654793216, .double 4607182418800017408]))) a (.inr (0, [.double 0, .double 0, .double 0, .ref q1, .ref q20, .null, .null, .double 0, .double 0, .double 0, .double 0, .double 0, .double 0, .int 0, .int 0, .null]))) q42 (.inr (1, [.double 13920209183539462144, .double 4696837146684686336]))) a (.inr (0, [.double 0, .double 0, .double 0, .ref q1, .ref q20, .ref q42, .null, .double 0, .double 0, .double 0, .double 0, .double 0, .double 0, .int 0, .int 0, .null]))) q67 (.inr (3, [.double 0, .int 0, .int 0, .int 0, .double 0, .double 0, .int 0]))) a (.inr (0, [.double p, .double i, .double 0, .ref q1, .ref q20, .ref q42, .ref q67, .double 4636737291354636288, .double 0, .double 0, .double 0, .double 0, .double 0, .int 0, .int 0, .null])) := by rw [hf113, hF111, va_up_up]
  refine g_aload_n hC dX0_init_84 0 rfl ?_
  refine g_dload hC dX0_init_85 3 rfl ?_
  refine g_putF hC (kf := 2) (TT := TX0) (N := 16) (Cn := RX0) (ty0 := tyX0) (fs1 := [.double p, .double i, .double d, .ref q1, .ref q20, .ref q42, .ref q67, .double 4636737291354636288, .double 0, .double 0, .double 0, .double 0, .double 0, .int 0, .int 0, .null]) dX0_init_87 (mem_l (mem_l (mem_l (mem_l hL_a)))) hx114 rfl q_u0 (by decide) tyX0_ok nmX0 q_fl_X0_55 rfl rfl rfl rfl rfl rfl rfl (Nat.le_of_ble_eq_true rfl) rfl ?_
  refine g_nm (fun f120 hf121 => ?_)
  have hx122 : f120 a = .inr (0, [.double p, .double i, .double d, .ref q1, .ref q20, .ref q42, .ref q67, .double 4636737291354636288, .double 0, .double 0, .double 0, .double 0, .double 0, .int 0, .int 0, .null]) := by rw [hf121]; exact va_up_self _ _ _
  have hx123 : f120 q1 = .inr (1, [.double 0, .double 4636737291354636288]) := by rw [hf121, va_up_ne _ _ (Ne.symm (ne_new hL_a hq1))]; exact hx115
  have hx124 : f120 q20 = .inr (1, [.double 13830554455654793216, .double 4607182418800017408]) := by rw [hf121, va_up_ne _ _ (Ne.symm (ne_new (mem_l hL_a) hq20))]; exact hx116
  have hx125 : f120 q42 = .inr (1, [.double 13920209183539462144, .double 4696837146684686336]) := by rw [hf121, va_up_ne _ _ (Ne.symm (ne_new (mem_l (mem_l hL_a)) hq42))]; exact hx117
  have hx126 : f120 q67 = .inr (3, [.double 0, .int 0, .int 0, .int 0, .double 0, .double 0, .int 0]) := by rw [hf121, va_up_ne _ _ (Ne.symm (ne_new (mem_l (mem_l (mem_l hL_a))) hq67))]; exact hx118
  have hF127 : f120 = va_up (va_up (va_up (va_up (va_up (va_up (va_up (va_up f q1 (.inr (1, [.double 0, .double 4636737291354636288]))) a (.inr (0, [.double 0, .double 0, .double 0, .ref q1, .null, .null, .null, .double 0, .double 0, .double 0, .double 0, .double 0, .double 0, .int 0, .int 0, .null]))) q20 (.inr (1, [.double 13830554455654793216, .double 4607182418800017408]))) a (.inr (0, [.double 0, .double 0, .double 0, .ref q1, .ref q20, .null, .null, .double 0, .double 0, .double 0, .double 0, .double 0, .double 0, .int 0, .int 0, .null]))) q42 (.inr (1, [.double 13920209183539462144, .double 4696837146684686336]))) a (.inr (0, [.double 0, .double 0, .double 0, .ref q1, .ref q20, .ref q42, .null, .double 0, .double 0, .double 0, .double 0, .double 0, .double 0, .int 0, .int 0, .null]))) q67 (.inr (3, [.double 0, .int 0, .int 0, .int 0, .double 0, .double 0, .int 0]))) a (.inr (0, [.double p, .double i, .double d, .ref q1, .ref q20, .ref q42, .ref q67, .double 4636737291354636288, .double 0, .double 0, .double 0, .double 0, .double 0, .int 0, .int 0, .null])) := by rw [hf121, hF119, va_up_up]
  refine g_vret hC dX0_init_90 rfl ⟨rfl, q1, q20, q42, q67, hq1, hq20, hq42, hq67, rfl, hx122, hx123, hx124, hx125, hx126, ?_⟩ (Nat.le_of_ble_eq_true rfl) (Nat.le_of_ble_eq_true rfl)
  intro b hb h1 h2 h3 h4
  rw [hF127]
  simp only [va_up_ne _ _ hb, va_up_ne _ _ h1, va_up_ne _ _ h2, va_up_ne _ _ h3, va_up_ne _ _ h4]
