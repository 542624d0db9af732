/-! the loop's own methods, over data -/
def fA (z : Nat → DT) (e : DT) : DT := qadd (z 6) (qmul (z 1) e)
def fV (z : Nat → DT) (e : DT) : DT := qadd (qadd (qmul (z 0) e) (fA z e)) (qmul (z 2) (qsub e (z 7)))
def fS (z : Nat → DT) (lo hi e : DT) : DT := if ((qgt (fV z e) hi && qgt e (dv 0)) || (qlt (fV z e) lo && qlt e (dv 0))) = true then z 6 else fA z e
def fU (z : Nat → DT) (lo hi e : DT) : DT := MV (z 5) (z 3) (nearS (fV z e) lo hi)
def oU (z : Nat → DT) (lo hi bl bh e : DT) : DT := if qgt e bh = true then MV (z 5) (z 3) hi else if qlt e bl = true then MV (z 5) (z 3) lo else z 5
def tU (z : Nat → DT) (md : Int32) (lo hi bl bh e : DT) : DT := if md = 0 then MV (z 5) (z 3) (z 8) else if md = 1 then fU z lo hi e else oU z lo hi bl bh e
def tS (z : Nat → DT) (md : Int32) (lo hi e : DT) : DT := if md = 1 then fS z lo hi e else z 6
abbrev dz (x : Nat → UInt64) : Nat → DT := fun j => dv (x j)
set_option maxHeartbeats 4000000 in
set_option maxRecDepth 100000 in
/-- moveTo(w) -/
theorem ct_X0_moveTo (l : Launch) (G : GD) (L : List Nat) (f : Nat → va_E) (a lm bd rg tn : Nat) (x : Nat → UInt64) (md fa : Int32) (ou : Option Nat) (w : UInt64) (hL_a : a ∈ L) (h0 : f a = eLp x md fa lm bd rg tn ou) : Ctr l yX0_moveTo cX0_moveTo 3 none R00 G [.ref a, .double w] L f (fun vv L1 f1 => vv = none ∧ L = L1 ∧ ∃ u : UInt64, dv u = MV (dv (x 5)) (dv (x 3)) (dv w) ∧ f1 = va_up f a (eLp (va_up x 5 u) md fa lm bd rg tn ou)) := by
  refine g_enter RX0 false (by decide) rfl (fun h => by cases h) (Nat.le_of_ble_eq_true rfl) (fun C hC => ?_)
  refine (show V C 3 L f 0 0 0 [(0, .ref a), (1, .double w)] [] from ?_)
  refine g_dload_n hC dX0_moveTo_0 1 rfl ?_
  refine g_aload_n hC dX0_moveTo_1 0 rfl ?_
  refine g_get hC (kf := 9) (TT := TX0) (N := 16) (Cn := RX0) dX0_moveTo_2 hL_a h0 rfl q_u0 (by decide) q_fl_X0_65 rfl rfl ?_
  refine g_aload_n hC dX0_moveTo_5 0 rfl ?_
  refine g_get hC (kf := 7) (TT := TX0) (N := 16) (Cn := RX0) dX0_moveTo_6 hL_a h0 rfl q_u0 (by decide) q_fl_X0_41 rfl rfl ?_
  refine g_dadd hC dX0_moveTo_9 (fun r1 er1 => ?_)
  refine g_dcmpl_le hC 30 dX0_moveTo_10 dX0_moveTo_11 (by decide) (fun c2 => ?_) (fun c2 => ?_)
  · try simp only [er1] at c2
    refine g_dload_n hC dX0_moveTo_30 1 rfl ?_
    refine g_aload_n hC dX0_moveTo_31 0 rfl ?_
    refine g_get hC (kf := 9) (TT := TX0) (N := 16) (Cn := RX0) dX0_moveTo_32 hL_a h0 rfl q_u0 (by decide) q_fl_X0_65 rfl rfl ?_
    refine g_aload_n hC dX0_moveTo_35 0 rfl ?_
    refine g_get hC (kf := 7) (TT := TX0) (N := 16) (Cn := RX0) dX0_moveTo_36 hL_a h0 rfl q_u0 (by decide) q_fl_X0_41 rfl rfl ?_
    refine g_dsub hC dX0_moveTo_39 (fun r3 er3 => ?_)
    refine g_dcmpg_ge hC 60 dX0_moveTo_40 dX0_moveTo_41 (by decide) (fun c4 => ?_) (fun c4 => ?_)
    · try simp only [er1, er3] at c4
      refine g_aload_n hC dX0_moveTo_60 0 rfl ?_
      refine g_dload_n hC dX0_moveTo_61 1 rfl ?_
      refine g_put hC (kf := 9) (TT := TX0) (N := 16) (Cn := RX0) (ty0 := tyX0) (fs1 := [.double (x 0), .double (x 1), .double (x 2), .ref lm, .ref bd, .ref rg, .ref tn, .double (x 3), .double (x 4), .double w, .double (x 6), .double (x 7), .double (x 8), .int md, .int fa, va_rf ou]) dX0_moveTo_62 hL_a h0 rfl q_u0 (by decide) tyX0_ok nmX0 q_fl_X0_65 rfl rfl rfl rfl rfl (Nat.le_of_ble_eq_true rfl) rfl ?_
      refine g_nm (fun f5 hf6 => ?_)
      have hx7 : f5 a = .inr (0, [.double (x 0), .double (x 1), .double (x 2), .ref lm, .ref bd, .ref rg, .ref tn, .double (x 3), .double (x 4), .double w, .double (x 6), .double (x 7), .double (x 8), .int md, .int fa, va_rf ou]) := by rw [hf6]; exact va_up_self _ _ _
      have hF8 : f5 = va_up f a (.inr (0, [.double (x 0), .double (x 1), .double (x 2), .ref lm, .ref bd, .ref rg, .ref tn, .double (x 3), .double (x 4), .double w, .double (x 6), .double (x 7), .double (x 8), .int md, .int fa, va_rf ou])) := hf6
      exact g_vret hC dX0_moveTo_65 rfl ⟨rfl, rfl, w, by simp [MV, c2, c4, er1, er3], hF8⟩ (Nat.zero_le _) (Nat.zero_le _)
    · try simp only [er1, er3] at c4
      refine g_aload_n hC dX0_moveTo_44 0 rfl ?_
      refine g_aload_n hC dX0_moveTo_45 0 rfl ?_
      refine g_get hC (kf := 9) (TT := TX0) (N := 16) (Cn := RX0) dX0_moveTo_46 hL_a h0 rfl q_u0 (by decide) q_fl_X0_65 rfl rfl ?_
      refine g_aload_n hC dX0_moveTo_49 0 rfl ?_
      refine g_get hC (kf := 7) (TT := TX0) (N := 16) (Cn := RX0) dX0_moveTo_50 hL_a h0 rfl q_u0 (by decide) q_fl_X0_41 rfl rfl ?_
      refine g_dsub hC dX0_moveTo_53 (fun r9 er9 => ?_)
      refine g_put hC (kf := 9) (TT := TX0) (N := 16) (Cn := RX0) (ty0 := tyX0) (fs1 := [.double (x 0), .double (x 1), .double (x 2), .ref lm, .ref bd, .ref rg, .ref tn, .double (x 3), .double (x 4), .double r9, .double (x 6), .double (x 7), .double (x 8), .int md, .int fa, va_rf ou]) dX0_moveTo_54 hL_a h0 rfl q_u0 (by decide) tyX0_ok nmX0 q_fl_X0_65 rfl rfl rfl rfl rfl (Nat.le_of_ble_eq_true rfl) rfl ?_
      refine g_nm (fun f10 hf11 => ?_)
      have hx12 : f10 a = .inr (0, [.double (x 0), .double (x 1), .double (x 2), .ref lm, .ref bd, .ref rg, .ref tn, .double (x 3), .double (x 4), .double r9, .double (x 6), .double (x 7), .double (x 8), .int md, .int fa, va_rf ou]) := by rw [hf11]; exact va_up_self _ _ _
      have hF13 : f10 = va_up f a (.inr (0, [.double (x 0), .double (x 1), .double (x 2), .ref lm, .ref bd, .ref rg, .ref tn, .double (x 3), .double (x 4), .double r9, .double (x 6), .double (x 7), .double (x 8), .int md, .int fa, va_rf ou])) := hf11
      refine g_goto hC 65 dX0_moveTo_57 (by decide) ?_
      exact g_vret hC dX0_moveTo_65 rfl ⟨rfl, rfl, r9, by simp [MV, c2, c4, er1, er3, er9], hF13⟩ (Nat.zero_le _) (Nat.zero_le _)
  · try simp only [er1] at c2
    refine g_aload_n hC dX0_moveTo_14 0 rfl ?_
    refine g_aload_n hC dX0_moveTo_15 0 rfl ?_
    refine g_get hC (kf := 9) (TT := TX0) (N := 16) (Cn := RX0) dX0_moveTo_16 hL_a h0 rfl q_u0 (by decide) q_fl_X0_65 rfl rfl ?_
    refine g_aload_n hC dX0_moveTo_19 0 rfl ?_
    refine g_get hC (kf := 7) (TT := TX0) (N := 16) (Cn := RX0) dX0_moveTo_20 hL_a h0 rfl q_u0 (by decide) q_fl_X0_41 rfl rfl ?_
    refine g_dadd hC dX0_moveTo_23 (fun r14 er14 => ?_)
    refine g_put hC (kf := 9) (TT := TX0) (N := 16) (Cn := RX0) (ty0 := tyX0) (fs1 := [.double (x 0), .double (x 1), .double (x 2), .ref lm, .ref bd, .ref rg, .ref tn, .double (x 3), .double (x 4), .double r14, .double (x 6), .double (x 7), .double (x 8), .int md, .int fa, va_rf ou]) dX0_moveTo_24 hL_a h0 rfl q_u0 (by decide) tyX0_ok nmX0 q_fl_X0_65 rfl rfl rfl rfl rfl (Nat.le_of_ble_eq_true rfl) rfl ?_
    refine g_nm (fun f15 hf16 => ?_)
    have hx17 : f15 a = .inr (0, [.double (x 0), .double (x 1), .double (x 2), .ref lm, .ref bd, .ref rg, .ref tn, .double (x 3), .double (x 4), .double r14, .double (x 6), .double (x 7), .double (x 8), .int md, .int fa, va_rf ou]) := by rw [hf16]; exact va_up_self _ _ _
    have hF18 : f15 = va_up f a (.inr (0, [.double (x 0), .double (x 1), .double (x 2), .ref lm, .ref bd, .ref rg, .ref tn, .double (x 3), .double (x 4), .double r14, .double (x 6), .double (x 7), .double (x 8), .int md, .int fa, va_rf ou])) := hf16
    refine g_goto hC 65 dX0_moveTo_27 (by decide) ?_
    exact g_vret hC dX0_moveTo_65 rfl ⟨rfl, rfl, r14, by simp [MV, c2, er1, er14], hF18⟩ (Nat.zero_le _) (Nat.zero_le _)
theorem va_up_id {α : Type} {f : Nat → α} {k : Nat} {v : α} (h : f k = v) : va_up f k v = f := by
  funext j
  unfold va_up
  split
  · rename_i h1
    rw [h1, h]
  · rfl
set_option maxHeartbeats 4000000 in
set_option maxRecDepth 100000 in
/-- switchOnOrOff(e) -/
theorem ct_X0_switchOnOrOff (l : Launch) (G : GD) (L : List Nat) (f : Nat → va_E) (a lm bd rg tn : Nat) (x : Nat → UInt64) (md fa : Int32) (ou : Option Nat) (lo hi bl bh : UInt64) (e : UInt64) (hL_a : a ∈ L) (h0 : f a = eLp x md fa lm bd rg tn ou) (hL_lm : lm ∈ L) (hL_bd : bd ∈ L) (h1 : f lm = eSp lo hi) (h2 : f bd = eSp bl bh) : Ctr l yX0_switchOnOrOff cX0_switchOnOrOff 3 none { frames := 1, cells := 0, slots := 0, locals := 22 } G [.ref a, .double e] L f (fun vv L1 f1 => vv = none ∧ L = L1 ∧ ∃ u : UInt64, dv u = oU (dz x) (dv lo) (dv hi) (dv bl) (dv bh) (dv e) ∧ f1 = va_up f a (eLp (va_up x 5 u) md fa lm bd rg tn ou)) := by
  refine g_enter RX0 false (by decide) rfl (fun h => by cases h) (Nat.le_of_ble_eq_true rfl) (fun C hC => ?_)
  refine (show V C 3 L f 0 0 0 [(0, .ref a), (1, .double e)] [] from ?_)
  refine g_dload_n hC dX0_switchOnOrOff_0 1 rfl ?_
  refine g_aload_n hC dX0_switchOnOrOff_1 0 rfl ?_
  refine g_get hC (kf := 4) (TT := TX0) (N := 16) (Cn := RX0) dX0_switchOnOrOff_2 hL_a h0 rfl q_u0 (by decide) q_fl_X0_24 rfl rfl ?_
  refine g_getN hC (kf := 1) (TT := TX1) (N := 2) (Cn := RX1) dX0_switchOnOrOff_5 hL_bd h2 rfl q_u1 (by decide) q_fn_X0_94 rfl rfl ?_
  refine g_dcmpl_le hC 26 dX0_switchOnOrOff_8 dX0_switchOnOrOff_9 (by decide) (fun c1 => ?_) (fun c1 => ?_)
  · skip
    refine g_dload_n hC dX0_switchOnOrOff_26 1 rfl ?_
    refine g_aload_n hC dX0_switchOnOrOff_27 0 rfl ?_
    refine g_get hC (kf := 4) (TT := TX0) (N := 16) (Cn := RX0) dX0_switchOnOrOff_28 hL_a h0 rfl q_u0 (by decide) q_fl_X0_24 rfl rfl ?_
    refine g_getN hC (kf := 0) (TT := TX1) (N := 2) (Cn := RX1) dX0_switchOnOrOff_31 hL_bd h2 rfl q_u1 (by decide) q_fn_X0_97 rfl rfl ?_
    refine g_dcmpg_ge hC 49 dX0_switchOnOrOff_34 dX0_switchOnOrOff_35 (by decide) (fun c2 => ?_) (fun c2 => ?_)
    · skip
      exact g_vret hC dX0_switchOnOrOff_49 rfl ⟨rfl, rfl, x 5, by simp [dz, va_up, oU, c1, c2], (va_up_id h0).symm⟩ (Nat.zero_le _) (Nat.zero_le _)
    · skip
      refine g_aload_n hC dX0_switchOnOrOff_38 0 rfl ?_
      refine g_aload_n hC dX0_switchOnOrOff_39 0 rfl ?_
      refine g_get hC (kf := 3) (TT := TX0) (N := 16) (Cn := RX0) dX0_switchOnOrOff_40 hL_a h0 rfl q_u0 (by decide) q_fl_X0_16 rfl rfl ?_
      refine g_getN hC (kf := 0) (TT := TX1) (N := 2) (Cn := RX1) dX0_switchOnOrOff_43 hL_lm h1 rfl q_u1 (by decide) q_fn_X0_97 rfl rfl ?_
      refine g_callV hC (Cn := RX0) (TT := TX0) (N := 16) dX0_switchOnOrOff_46 (ct_X0_moveTo l G L f a lm bd rg tn (x) md fa ou lo hL_a h0) q_code_X0_moveTo q_ml_X0_78 q_im_X0_moveTo q_sel_X0_moveTo q_init_X0 ⟨rfl, by decide, by decide, (show (parseMethodDescriptor yX0_moveTo.desc).map (fun d => d.parameters.length) = some 1 from by decide +kernel)⟩ hL_a h0 rfl (by decide) (by decide) (Nat.le_of_ble_eq_true rfl) (fun v4 L5 f6 hp3 => ?_)
      obtain ⟨rfl, rfl, u7, hu8, hf9⟩ := hp3
      have hf9x : f6 = va_up f a (.inr (0, [.double (x 0), .double (x 1), .double (x 2), .ref lm, .ref bd, .ref rg, .ref tn, .double (x 3), .double (x 4), .double u7, .double (x 6), .double (x 7), .double (x 8), .int md, .int fa, va_rf ou])) := hf9
      have hx10 : f6 a = .inr (0, [.double (x 0), .double (x 1), .double (x 2), .ref lm, .ref bd, .ref rg, .ref tn, .double (x 3), .double (x 4), .double u7, .double (x 6), .double (x 7), .double (x 8), .int md, .int fa, va_rf ou]) := by rw [hf9x]; exact va_up_self _ _ _
      have hx11 : f6 lm = .inr (1, [.double lo, .double hi]) := by rw [hf9x, va_up_ne _ _ (fun z => by have z1 := h1; rw [z, h0] at z1; simp at z1)]; exact h1
      have hx12 : f6 bd = .inr (1, [.double bl, .double bh]) := by rw [hf9x, va_up_ne _ _ (fun z => by have z1 := h2; rw [z, h0] at z1; simp at z1)]; exact h2
      have hF13 : f6 = va_up f a (.inr (0, [.double (x 0), .double (x 1), .double (x 2), .ref lm, .ref bd, .ref rg, .ref tn, .double (x 3), .double (x 4), .double u7, .double (x 6), .double (x 7), .double (x 8), .int md, .int fa, va_rf ou])) := hf9x
      refine (show V C 3 L f6 0 0 49 [(0, .ref a), (1, .double e)] [] from ?_)
      exact g_vret hC dX0_switchOnOrOff_49 rfl ⟨rfl, rfl, u7, by simp [dz, va_up, oU, c1, c2, hu8], hF13⟩ (Nat.zero_le _) (Nat.zero_le _)
  · skip
    refine g_aload_n hC dX0_switchOnOrOff_12 0 rfl ?_
    refine g_aload_n hC dX0_switchOnOrOff_13 0 rfl ?_
    refine g_get hC (kf := 3) (TT := TX0) (N := 16) (Cn := RX0) dX0_switchOnOrOff_14 hL_a h0 rfl q_u0 (by decide) q_fl_X0_16 rfl rfl ?_
    refine g_getN hC (kf := 1) (TT := TX1) (N := 2) (Cn := RX1) dX0_switchOnOrOff_17 hL_lm h1 rfl q_u1 (by decide) q_fn_X0_94 rfl rfl ?_
    refine g_callV hC (Cn := RX0) (TT := TX0) (N := 16) dX0_switchOnOrOff_20 (ct_X0_moveTo l G L f a lm bd rg tn (x) md fa ou hi hL_a h0) q_code_X0_moveTo q_ml_X0_78 q_im_X0_moveTo q_sel_X0_moveTo q_init_X0 ⟨rfl, by decide, by decide, (show (parseMethodDescriptor yX0_moveTo.desc).map (fun d => d.parameters.length) = some 1 from by decide +kernel)⟩ hL_a h0 rfl (by decide) (by decide) (Nat.le_of_ble_eq_true rfl) (fun v15 L16 f17 hp14 => ?_)
    obtain ⟨rfl, rfl, u18, hu19, hf20⟩ := hp14
    have hf20x : f17 = va_up f a (.inr (0, [.double (x 0), .double (x 1), .double (x 2), .ref lm, .ref bd, .ref rg, .ref tn, .double (x 3), .double (x 4), .double u18, .double (x 6), .double (x 7), .double (x 8), .int md, .int fa, va_rf ou])) := hf20
    have hx21 : f17 a = .inr (0, [.double (x 0), .double (x 1), .double (x 2), .ref lm, .ref bd, .ref rg, .ref tn, .double (x 3), .double (x 4), .double u18, .double (x 6), .double (x 7), .double (x 8), .int md, .int fa, va_rf ou]) := by rw [hf20x]; exact va_up_self _ _ _
    have hx22 : f17 lm = .inr (1, [.double lo, .double hi]) := by rw [hf20x, va_up_ne _ _ (fun z => by have z1 := h1; rw [z, h0] at z1; simp at z1)]; exact h1
    have hx23 : f17 bd = .inr (1, [.double bl, .double bh]) := by rw [hf20x, va_up_ne _ _ (fun z => by have z1 := h2; rw [z, h0] at z1; simp at z1)]; exact h2
    have hF24 : f17 = va_up f a (.inr (0, [.double (x 0), .double (x 1), .double (x 2), .ref lm, .ref bd, .ref rg, .ref tn, .double (x 3), .double (x 4), .double u18, .double (x 6), .double (x 7), .double (x 8), .int md, .int fa, va_rf ou])) := hf20x
    refine (show V C 3 L f17 0 0 23 [(0, .ref a), (1, .double e)] [] from ?_)
    refine g_goto hC 49 dX0_switchOnOrOff_23 (by decide) ?_
    exact g_vret hC dX0_switchOnOrOff_49 rfl ⟨rfl, rfl, u18, by simp [dz, va_up, oU, c1, hu19], hF24⟩ (Nat.zero_le _) (Nat.zero_le _)
set_option maxHeartbeats 4000000 in
set_option maxRecDepth 100000 in
/-- followLaw(e) -/
theorem ct_X0_followLaw (l : Launch) (G : GD) (L : List Nat) (f : Nat → va_E) (a lm bd rg tn : Nat) (x : Nat → UInt64) (md fa : Int32) (ou : Option Nat) (lo hi : UInt64) (e : UInt64) (hL_a : a ∈ L) (h0 : f a = eLp x md fa lm bd rg tn ou) (hL_lm : lm ∈ L) (h1 : f lm = eSp lo hi) : Ctr l yX0_followLaw cX0_followLaw 9 none { frames := 1, cells := 0, slots := 0, locals := 22 } G [.ref a, .double e] L f (fun vv L1 f1 => vv = none ∧ L = L1 ∧ ∃ u s : UInt64, dv u = fU (dz x) (dv lo) (dv hi) (dv e) ∧ dv s = fS (dz x) (dv lo) (dv hi) (dv e) ∧ f1 = va_up f a (eLp (va_up (va_up x 6 s) 5 u) md fa lm bd rg tn ou)) := by
  refine g_enter RX0 false (by decide) rfl (fun h => by cases h) (Nat.le_of_ble_eq_true rfl) (fun C hC => ?_)
  refine (show V C 9 L f 0 0 0 [(0, .ref a), (1, .double e)] [] from ?_)
  refine g_aload_n hC dX0_followLaw_0 0 rfl ?_
  refine g_get hC (kf := 10) (TT := TX0) (N := 16) (Cn := RX0) dX0_followLaw_1 hL_a h0 rfl q_u0 (by decide) q_fl_X0_91 rfl rfl ?_
  refine g_aload_n hC dX0_followLaw_4 0 rfl ?_
  refine g_get hC (kf := 1) (TT := TX0) (N := 16) (Cn := RX0) dX0_followLaw_5 hL_a h0 rfl q_u0 (by decide) q_fl_X0_52 rfl rfl ?_
  refine g_dload_n hC dX0_followLaw_8 1 rfl ?_
  refine g_dmul hC dX0_followLaw_9 (fun r1 er1 => ?_)
  refine g_dadd hC dX0_followLaw_10 (fun r2 er2 => ?_)
  try simp only [er1] at er2
  refine g_dstore_n hC (lv1 := [(3, .double r2), (0, .ref a), (1, .double e)]) dX0_followLaw_11 (by decide) rfl ?_
  refine g_aload_n hC dX0_followLaw_12 1 rfl ?_
  refine g_get hC (kf := 0) (TT := TX0) (N := 16) (Cn := RX0) dX0_followLaw_13 hL_a h0 rfl q_u0 (by decide) q_fl_X0_49 rfl rfl ?_
  refine g_dload_n hC dX0_followLaw_16 2 rfl ?_
  refine g_dmul hC dX0_followLaw_17 (fun r3 er3 => ?_)
  refine g_dload_n hC dX0_followLaw_18 0 rfl ?_
  refine g_dadd hC dX0_followLaw_19 (fun r4 er4 => ?_)
  try simp only [er1, er2, er3] at er4
  refine g_aload_n hC dX0_followLaw_20 1 rfl ?_
  refine g_get hC (kf := 2) (TT := TX0) (N := 16) (Cn := RX0) dX0_followLaw_21 hL_a h0 rfl q_u0 (by decide) q_fl_X0_55 rfl rfl ?_
  refine g_dload_n hC dX0_followLaw_24 2 rfl ?_
  refine g_aload_n hC dX0_followLaw_25 1 rfl ?_
  refine g_get hC (kf := 11) (TT := TX0) (N := 16) (Cn := RX0) dX0_followLaw_26 hL_a h0 rfl q_u0 (by decide) q_fl_X0_88 rfl rfl ?_
  refine g_dsub hC dX0_followLaw_29 (fun r5 er5 => ?_)
  refine g_dmul hC dX0_followLaw_30 (fun r6 er6 => ?_)
  try simp only [er1, er2, er3, er4, er5] at er6
  refine g_dadd hC dX0_followLaw_31 (fun r7 er7 => ?_)
  try simp only [er1, er2, er3, er4, er5, er6] at er7
  refine g_dstore hC (lv1 := [(5, .double r7), (3, .double r2), (0, .ref a), (1, .double e)]) dX0_followLaw_32 (by decide) rfl ?_
  refine g_dload hC dX0_followLaw_34 0 rfl ?_
  refine g_aload_n hC dX0_followLaw_36 2 rfl ?_
  refine g_get hC (kf := 3) (TT := TX0) (N := 16) (Cn := RX0) dX0_followLaw_37 hL_a h0 rfl q_u0 (by decide) q_fl_X0_16 rfl rfl ?_
  refine g_getN hC (kf := 1) (TT := TX1) (N := 2) (Cn := RX1) dX0_followLaw_40 hL_lm h1 rfl q_u1 (by decide) q_fn_X0_94 rfl rfl ?_
  refine g_dcmpl_le hC 57 dX0_followLaw_43 dX0_followLaw_44 (by decide) (fun c8 => ?_) (fun c8 => ?_)
  · try simp only [er1, er2, er3, er4, er5, er6, er7] at c8
    refine g_iconst hC 0 dX0_followLaw_57 (by decide) ?_
    refine g_istore hC (lv1 := [(7, .int 0), (5, .double r7), (3, .double r2), (0, .ref a), (1, .double e)]) dX0_followLaw_58 (by decide) rfl ?_
    refine g_dload hC dX0_followLaw_60 1 rfl ?_
    refine g_aload_n hC dX0_followLaw_62 3 rfl ?_
    refine g_get hC (kf := 3) (TT := TX0) (N := 16) (Cn := RX0) dX0_followLaw_63 hL_a h0 rfl q_u0 (by decide) q_fl_X0_16 rfl rfl ?_
    refine g_getN hC (kf := 0) (TT := TX1) (N := 2) (Cn := RX1) dX0_followLaw_66 hL_lm h1 rfl q_u1 (by decide) q_fn_X0_97 rfl rfl ?_
    refine g_dcmpg_ge hC 83 dX0_followLaw_69 dX0_followLaw_70 (by decide) (fun c9 => ?_) (fun c9 => ?_)
    · try simp only [er1, er2, er3, er4, er5, er6, er7] at c9
      refine g_iconst hC 0 dX0_followLaw_83 (by decide) ?_
      refine g_istore hC (lv1 := [(8, .int 0), (7, .int 0), (5, .double r7), (3, .double r2), (0, .ref a), (1, .double e)]) dX0_followLaw_84 (by decide) rfl ?_
      refine g_iload hC dX0_followLaw_86 1 rfl ?_
      refine g_if_ne hC 101 dX0_followLaw_88 (by decide) (fun c => absurd c (by decide)) (fun _ => ?_)
      refine g_iload hC dX0_followLaw_91 0 rfl ?_
      refine g_if_ne hC 101 dX0_followLaw_93 (by decide) (fun c => absurd c (by decide)) (fun _ => ?_)
      refine g_aload_n hC dX0_followLaw_96 4 rfl ?_
      refine g_dload_n hC dX0_followLaw_97 3 rfl ?_
      refine g_put hC (kf := 10) (TT := TX0) (N := 16) (Cn := RX0) (ty0 := tyX0) (fs1 := [.double (x 0), .double (x 1), .double (x 2), .ref lm, .ref bd, .ref rg, .ref tn, .double (x 3), .double (x 4), .double (x 5), .double r2, .double (x 7), .double (x 8), .int md, .int fa, va_rf ou]) dX0_followLaw_98 hL_a h0 rfl q_u0 (by decide) tyX0_ok nmX0 q_fl_X0_91 rfl rfl rfl rfl rfl (Nat.le_of_ble_eq_true rfl) rfl ?_
      refine g_nm (fun f10 hf11 => ?_)
      have hx12 : f10 a = .inr (0, [.double (x 0), .double (x 1), .double (x 2), .ref lm, .ref bd, .ref rg, .ref tn, .double (x 3), .double (x 4), .double (x 5), .double r2, .double (x 7), .double (x 8), .int md, .int fa, va_rf ou]) := by rw [hf11]; exact va_up_self _ _ _
      have hx13 : f10 lm = .inr (1, [.double lo, .double hi]) := by rw [hf11, va_up_ne _ _ (fun z => by have z1 := h1; rw [z, h0] at z1; simp at z1)]; exact h1
      have hF14 : f10 = va_up f a (.inr (0, [.double (x 0), .double (x 1), .double (x 2), .ref lm, .ref bd, .ref rg, .ref tn, .double (x 3), .double (x 4), .double (x 5), .double r2, .double (x 7), .double (x 8), .int md, .int fa, va_rf ou])) := hf11
      refine g_aload_n hC dX0_followLaw_101 4 rfl ?_
      refine g_aload_n hC dX0_followLaw_102 4 rfl ?_
      refine g_get hC (kf := 3) (TT := TX0) (N := 16) (Cn := RX0) dX0_followLaw_103 hL_a hx12 rfl q_u0 (by decide) q_fl_X0_16 rfl rfl ?_
      refine g_dload hC dX0_followLaw_106 2 rfl ?_
      refine g_callV hC (Cn := RX1) (TT := TX1) (N := 2) dX0_followLaw_108 (ct_X1_nearest l G L f10 lm lo hi r7 hL_lm hx13) q_code_X1_nearest q_ml_X0_100 q_im_X1_nearest q_sel_X1_nearest q_init_X1 ⟨rfl, by decide, by decide, (show (parseMethodDescriptor yX1_nearest.desc).map (fun d => d.parameters.length) = some 1 from by decide +kernel)⟩ hL_lm hx13 rfl (by decide) (by decide) (Nat.le_of_ble_eq_true rfl) (fun v16 L17 f18 hp15 => ?_)
      obtain ⟨r19, rfl, hr20, rfl, rfl⟩ := hp15
      refine (show V C 9 L f10 0 0 111 [(8, .int 0), (7, .int 0), (5, .double r7), (3, .double r2), (0, .ref a), (1, .double e)] [.double r19, .ref a] from ?_)
      refine g_callV hC (Cn := RX0) (TT := TX0) (N := 16) dX0_followLaw_111 (ct_X0_moveTo l G L f10 a lm bd rg tn (va_up x 6 r2) md fa ou r19 hL_a hx12) q_code_X0_moveTo q_ml_X0_78 q_im_X0_moveTo q_sel_X0_moveTo q_init_X0 ⟨rfl, by decide, by decide, (show (parseMethodDescriptor yX0_moveTo.desc).map (fun d => d.parameters.length) = some 1 from by decide +kernel)⟩ hL_a hx12 rfl (by decide) (by decide) (Nat.le_of_ble_eq_true rfl) (fun v22 L23 f24 hp21 => ?_)
      obtain ⟨rfl, rfl, u25, hu26, hf27⟩ := hp21
      have hf27x : f24 = va_up f10 a (.inr (0, [.double (x 0), .double (x 1), .double (x 2), .ref lm, .ref bd, .ref rg, .ref tn, .double (x 3), .double (x 4), .double u25, .double r2, .double (x 7), .double (x 8), .int md, .int fa, va_rf ou])) := hf27
      have hx28 : f24 a = .inr (0, [.double (x 0), .double (x 1), .double (x 2), .ref lm, .ref bd, .ref rg, .ref tn, .double (x 3), .double (x 4), .double u25, .double r2, .double (x 7), .double (x 8), .int md, .int fa, va_rf ou]) := by rw [hf27x]; exact va_up_self _ _ _
      have hx29 : f24 lm = .inr (1, [.double lo, .double hi]) := by rw [hf27x, va_up_ne _ _ (fun z => by have z1 := hx13; rw [z, hx12] at z1; simp at z1)]; exact hx13
      have hF30 : f24 = va_up f a (.inr (0, [.double (x 0), .double (x 1), .double (x 2), .ref lm, .ref bd, .ref rg, .ref tn, .double (x 3), .double (x 4), .double u25, .double r2, .double (x 7), .double (x 8), .int md, .int fa, va_rf ou])) := by rw [hf27x, hF14, va_up_up]
      refine (show V C 9 L f24 0 0 114 [(8, .int 0), (7, .int 0), (5, .double r7), (3, .double r2), (0, .ref a), (1, .double e)] [] from ?_)
      exact g_vret hC dX0_followLaw_114 rfl ⟨rfl, rfl, u25, r2, by simp [dz, va_up, fU, fV, fA, c8, c9, hr20, hu26, er1, er2, er3, er4, er5, er6, er7], by simp [dz, va_up, fS, fV, fA, c8, c9, hr20, hu26, er1, er2, er3, er4, er5, er6, er7], hF30⟩ (Nat.zero_le _) (Nat.zero_le _)
    · try simp only [er1, er2, er3, er4, er5, er6, er7] at c9
      refine g_dload_n hC dX0_followLaw_73 4 rfl ?_
      refine g_dconst0 hC dX0_followLaw_74 ?_
      refine g_dcmpg_ge hC 83 dX0_followLaw_75 dX0_followLaw_76 (by decide) (fun c31 => ?_) (fun c31 => ?_)
      · skip
        refine g_iconst hC 0 dX0_followLaw_83 (by decide) ?_
        refine g_istore hC (lv1 := [(8, .int 0), (7, .int 0), (5, .double r7), (3, .double r2), (0, .ref a), (1, .double e)]) dX0_followLaw_84 (by decide) rfl ?_
        refine g_iload hC dX0_followLaw_86 1 rfl ?_
        refine g_if_ne hC 101 dX0_followLaw_88 (by decide) (fun c => absurd c (by decide)) (fun _ => ?_)
        refine g_iload hC dX0_followLaw_91 0 rfl ?_
        refine g_if_ne hC 101 dX0_followLaw_93 (by decide) (fun c => absurd c (by decide)) (fun _ => ?_)
        refine g_aload_n hC dX0_followLaw_96 4 rfl ?_
        refine g_dload_n hC dX0_followLaw_97 3 rfl ?_
        refine g_put hC (kf := 10) (TT := TX0) (N := 16) (Cn := RX0) (ty0 := tyX0) (fs1 := [.double (x 0), .double (x 1), .double (x 2), .ref lm, .ref bd, .ref rg, .ref tn, .double (x 3), .double (x 4), .double (x 5), .double r2, .double (x 7), .double (x 8), .int md, .int fa, va_rf ou]) dX0_followLaw_98 hL_a h0 rfl q_u0 (by decide) tyX0_ok nmX0 q_fl_X0_91 rfl rfl rfl rfl rfl (Nat.le_of_ble_eq_true rfl) rfl ?_
        refine g_nm (fun f32 hf33 => ?_)
        have hx34 : f32 a = .inr (0, [.double (x 0), .double (x 1), .double (x 2), .ref lm, .ref bd, .ref rg, .ref tn, .double (x 3), .double (x 4), .double (x 5), .double r2, .double (x 7), .double (x 8), .int md, .int fa, va_rf ou]) := by rw [hf33]; exact va_up_self _ _ _
        have hx35 : f32 lm = .inr (1, [.double lo, .double hi]) := by rw [hf33, va_up_ne _ _ (fun z => by have z1 := h1; rw [z, h0] at z1; simp at z1)]; exact h1
        have hF36 : f32 = va_up f a (.inr (0, [.double (x 0), .double (x 1), .double (x 2), .ref lm, .ref bd, .ref rg, .ref tn, .double (x 3), .double (x 4), .double (x 5), .double r2, .double (x 7), .double (x 8), .int md, .int fa, va_rf ou])) := hf33
        refine g_aload_n hC dX0_followLaw_101 4 rfl ?_
        refine g_aload_n hC dX0_followLaw_102 4 rfl ?_
        refine g_get hC (kf := 3) (TT := TX0) (N := 16) (Cn := RX0) dX0_followLaw_103 hL_a hx34 rfl q_u0 (by decide) q_fl_X0_16 rfl rfl ?_
        refine g_dload hC dX0_followLaw_106 2 rfl ?_
        refine g_callV hC (Cn := RX1) (TT := TX1) (N := 2) dX0_followLaw_108 (ct_X1_nearest l G L f32 lm lo hi r7 hL_lm hx35) q_code_X1_nearest q_ml_X0_100 q_im_X1_nearest q_sel_X1_nearest q_init_X1 ⟨rfl, by decide, by decide, (show (parseMethodDescriptor yX1_nearest.desc).map (fun d => d.parameters.length) = some 1 from by decide +kernel)⟩ hL_lm hx35 rfl (by decide) (by decide) (Nat.le_of_ble_eq_true rfl) (fun v38 L39 f40 hp37 => ?_)
        obtain ⟨r41, rfl, hr42, rfl, rfl⟩ := hp37
        refine (show V C 9 L f32 0 0 111 [(8, .int 0), (7, .int 0), (5, .double r7), (3, .double r2), (0, .ref a), (1, .double e)] [.double r41, .ref a] from ?_)
        refine g_callV hC (Cn := RX0) (TT := TX0) (N := 16) dX0_followLaw_111 (ct_X0_moveTo l G L f32 a lm bd rg tn (va_up x 6 r2) md fa ou r41 hL_a hx34) q_code_X0_moveTo q_ml_X0_78 q_im_X0_moveTo q_sel_X0_moveTo q_init_X0 ⟨rfl, by decide, by decide, (show (parseMethodDescriptor yX0_moveTo.desc).map (fun d => d.parameters.length) = some 1 from by decide +kernel)⟩ hL_a hx34 rfl (by decide) (by decide) (Nat.le_of_ble_eq_true rfl) (fun v44 L45 f46 hp43 => ?_)
        obtain ⟨rfl, rfl, u47, hu48, hf49⟩ := hp43
        have hf49x : f46 = va_up f32 a (.inr (0, [.double (x 0), .double (x 1), .double (x 2), .ref lm, .ref bd, .ref rg, .ref tn, .double (x 3), .double (x 4), .double u47, .double r2, .double (x 7), .double (x 8), .int md, .int fa, va_rf ou])) := hf49
        have hx50 : f46 a = .inr (0, [.double (x 0), .double (x 1), .double (x 2), .ref lm, .ref bd, .ref rg, .ref tn, .double (x 3), .double (x 4), .double u47, .double r2, .double (x 7), .double (x 8), .int md, .int fa, va_rf ou]) := by rw [hf49x]; exact va_up_self _ _ _
        have hx51 : f46 lm = .inr (1, [.double lo, .double hi]) := by rw [hf49x, va_up_ne _ _ (fun z => by have z1 := hx35; rw [z, hx34] at z1; simp at z1)]; exact hx35
        have hF52 : f46 = va_up f a (.inr (0, [.double (x 0), .double (x 1), .double (x 2), .ref lm, .ref bd, .ref rg, .ref tn, .double (x 3), .double (x 4), .double u47, .double r2, .double (x 7), .double (x 8), .int md, .int fa, va_rf ou])) := by rw [hf49x, hF36, va_up_up]
        refine (show V C 9 L f46 0 0 114 [(8, .int 0), (7, .int 0), (5, .double r7), (3, .double r2), (0, .ref a), (1, .double e)] [] from ?_)
        exact g_vret hC dX0_followLaw_114 rfl ⟨rfl, rfl, u47, r2, by simp [dz, va_up, fU, fV, fA, c8, c9, c31, hr42, hu48, er1, er2, er3, er4, er5, er6, er7], by simp [dz, va_up, fS, fV, fA, c8, c9, c31, hr42, hu48, er1, er2, er3, er4, er5, er6, er7], hF52⟩ (Nat.zero_le _) (Nat.zero_le _)
      · skip
        refine g_iconst hC 1 dX0_followLaw_79 (by decide) ?_
        refine g_goto hC 84 dX0_followLaw_80 (by decide) ?_
        refine g_istore hC (lv1 := [(8, .int 1), (7, .int 0), (5, .double r7), (3, .double r2), (0, .ref a), (1, .double e)]) dX0_followLaw_84 (by decide) rfl ?_
        refine g_iload hC dX0_followLaw_86 1 rfl ?_
        refine g_if_ne hC 101 dX0_followLaw_88 (by decide) (fun c => absurd c (by decide)) (fun _ => ?_)
        refine g_iload hC dX0_followLaw_91 0 rfl ?_
        refine g_if_ne hC 101 dX0_followLaw_93 (by decide) (fun _ => ?_) (fun c => absurd c (by decide))
        refine g_aload_n hC dX0_followLaw_101 4 rfl ?_
        refine g_aload_n hC dX0_followLaw_102 4 rfl ?_
        refine g_get hC (kf := 3) (TT := TX0) (N := 16) (Cn := RX0) dX0_followLaw_103 hL_a h0 rfl q_u0 (by decide) q_fl_X0_16 rfl rfl ?_
        refine g_dload hC dX0_followLaw_106 2 rfl ?_
        refine g_callV hC (Cn := RX1) (TT := TX1) (N := 2) dX0_followLaw_108 (ct_X1_nearest l G L f lm lo hi r7 hL_lm h1) q_code_X1_nearest q_ml_X0_100 q_im_X1_nearest q_sel_X1_nearest q_init_X1 ⟨rfl, by decide, by decide, (show (parseMethodDescriptor yX1_nearest.desc).map (fun d => d.parameters.length) = some 1 from by decide +kernel)⟩ hL_lm h1 rfl (by decide) (by decide) (Nat.le_of_ble_eq_true rfl) (fun v54 L55 f56 hp53 => ?_)
        obtain ⟨r57, rfl, hr58, rfl, rfl⟩ := hp53
        refine (show V C 9 L f 0 0 111 [(8, .int 1), (7, .int 0), (5, .double r7), (3, .double r2), (0, .ref a), (1, .double e)] [.double r57, .ref a] from ?_)
        refine g_callV hC (Cn := RX0) (TT := TX0) (N := 16) dX0_followLaw_111 (ct_X0_moveTo l G L f a lm bd rg tn (x) md fa ou r57 hL_a h0) q_code_X0_moveTo q_ml_X0_78 q_im_X0_moveTo q_sel_X0_moveTo q_init_X0 ⟨rfl, by decide, by decide, (show (parseMethodDescriptor yX0_moveTo.desc).map (fun d => d.parameters.length) = some 1 from by decide +kernel)⟩ hL_a h0 rfl (by decide) (by decide) (Nat.le_of_ble_eq_true rfl) (fun v60 L61 f62 hp59 => ?_)
        obtain ⟨rfl, rfl, u63, hu64, hf65⟩ := hp59
        have hf65x : f62 = va_up f a (.inr (0, [.double (x 0), .double (x 1), .double (x 2), .ref lm, .ref bd, .ref rg, .ref tn, .double (x 3), .double (x 4), .double u63, .double (x 6), .double (x 7), .double (x 8), .int md, .int fa, va_rf ou])) := hf65
        have hx66 : f62 a = .inr (0, [.double (x 0), .double (x 1), .double (x 2), .ref lm, .ref bd, .ref rg, .ref tn, .double (x 3), .double (x 4), .double u63, .double (x 6), .double (x 7), .double (x 8), .int md, .int fa, va_rf ou]) := by rw [hf65x]; exact va_up_self _ _ _
        have hx67 : f62 lm = .inr (1, [.double lo, .double hi]) := by rw [hf65x, va_up_ne _ _ (fun z => by have z1 := h1; rw [z, h0] at z1; simp at z1)]; exact h1
        have hF68 : f62 = va_up f a (.inr (0, [.double (x 0), .double (x 1), .double (x 2), .ref lm, .ref bd, .ref rg, .ref tn, .double (x 3), .double (x 4), .double u63, .double (x 6), .double (x 7), .double (x 8), .int md, .int fa, va_rf ou])) := hf65x
        refine (show V C 9 L f62 0 0 114 [(8, .int 1), (7, .int 0), (5, .double r7), (3, .double r2), (0, .ref a), (1, .double e)] [] from ?_)
        exact g_vret hC dX0_followLaw_114 rfl ⟨rfl, rfl, u63, (x 6), by simp [dz, va_up, fU, fV, fA, c8, c9, c31, hr58, hu64, er1, er2, er3, er4, er5, er6, er7], by simp [dz, va_up, fS, fV, fA, c8, c9, c31, hr58, hu64, er1, er2, er3, er4, er5, er6, er7], hF68⟩ (Nat.zero_le _) (Nat.zero_le _)
  · try simp only [er1, er2, er3, er4, er5, er6, er7] at c8
    refine g_dload_n hC dX0_followLaw_47 3 rfl ?_
    refine g_dconst0 hC dX0_followLaw_48 ?_
    refine g_dcmpl_le hC 57 dX0_followLaw_49 dX0_followLaw_50 (by decide) (fun c69 => ?_) (fun c69 => ?_)
    · skip
      refine g_iconst hC 0 dX0_followLaw_57 (by decide) ?_
      refine g_istore hC (lv1 := [(7, .int 0), (5, .double r7), (3, .double r2), (0, .ref a), (1, .double e)]) dX0_followLaw_58 (by decide) rfl ?_
      refine g_dload hC dX0_followLaw_60 1 rfl ?_
      refine g_aload_n hC dX0_followLaw_62 3 rfl ?_
      refine g_get hC (kf := 3) (TT := TX0) (N := 16) (Cn := RX0) dX0_followLaw_63 hL_a h0 rfl q_u0 (by decide) q_fl_X0_16 rfl rfl ?_
      refine g_getN hC (kf := 0) (TT := TX1) (N := 2) (Cn := RX1) dX0_followLaw_66 hL_lm h1 rfl q_u1 (by decide) q_fn_X0_97 rfl rfl ?_
      refine g_dcmpg_ge hC 83 dX0_followLaw_69 dX0_followLaw_70 (by decide) (fun c70 => ?_) (fun c70 => ?_)
      · try simp only [er1, er2, er3, er4, er5, er6, er7] at c70
        refine g_iconst hC 0 dX0_followLaw_83 (by decide) ?_
        refine g_istore hC (lv1 := [(8, .int 0), (7, .int 0), (5, .double r7), (3, .double r2), (0, .ref a), (1, .double e)]) dX0_followLaw_84 (by decide) rfl ?_
        refine g_iload hC dX0_followLaw_86 1 rfl ?_
        refine g_if_ne hC 101 dX0_followLaw_88 (by decide) (fun c => absurd c (by decide)) (fun _ => ?_)
        refine g_iload hC dX0_followLaw_91 0 rfl ?_
        refine g_if_ne hC 101 dX0_followLaw_93 (by decide) (fun c => absurd c (by decide)) (fun _ => ?_)
        refine g_aload_n hC dX0_followLaw_96 4 rfl ?_
        refine g_dload_n hC dX0_followLaw_97 3 rfl ?_
        refine g_put hC (kf := 10) (TT := TX0) (N := 16) (Cn := RX0) (ty0 := tyX0) (fs1 := [.double (x 0), .double (x 1), .double (x 2), .ref lm, .ref bd, .ref rg, .ref tn, .double (x 3), .double (x 4), .double (x 5), .double r2, .double (x 7), .double (x 8), .int md, .int fa, va_rf ou]) dX0_followLaw_98 hL_a h0 rfl q_u0 (by decide) tyX0_ok nmX0 q_fl_X0_91 rfl rfl rfl rfl rfl (Nat.le_of_ble_eq_true rfl) rfl ?_
        refine g_nm (fun f71 hf72 => ?_)
        have hx73 : f71 a = .inr (0, [.double (x 0), .double (x 1), .double (x 2), .ref lm, .ref bd, .ref rg, .ref tn, .double (x 3), .double (x 4), .double (x 5), .double r2, .double (x 7), .double (x 8), .int md, .int fa, va_rf ou]) := by rw [hf72]; exact va_up_self _ _ _
        have hx74 : f71 lm = .inr (1, [.double lo, .double hi]) := by rw [hf72, va_up_ne _ _ (fun z => by have z1 := h1; rw [z, h0] at z1; simp at z1)]; exact h1
        have hF75 : f71 = va_up f a (.inr (0, [.double (x 0), .double (x 1), .double (x 2), .ref lm, .ref bd, .ref rg, .ref tn, .double (x 3), .double (x 4), .double (x 5), .double r2, .double (x 7), .double (x 8), .int md, .int fa, va_rf ou])) := hf72
        refine g_aload_n hC dX0_followLaw_101 4 rfl ?_
        refine g_aload_n hC dX0_followLaw_102 4 rfl ?_
        refine g_get hC (kf := 3) (TT := TX0) (N := 16) (Cn := RX0) dX0_followLaw_103 hL_a hx73 rfl q_u0 (by decide) q_fl_X0_16 rfl rfl ?_
        refine g_dload hC dX0_followLaw_106 2 rfl ?_
        refine g_callV hC (Cn := RX1) (TT := TX1) (N := 2) dX0_followLaw_108 (ct_X1_nearest l G L f71 lm lo hi r7 hL_lm hx74) q_code_X1_nearest q_ml_X0_100 q_im_X1_nearest q_sel_X1_nearest q_init_X1 ⟨rfl, by decide, by decide, (show (parseMethodDescriptor yX1_nearest.desc).map (fun d => d.parameters.length) = some 1 from by decide +kernel)⟩ hL_lm hx74 rfl (by decide) (by decide) (Nat.le_of_ble_eq_true rfl) (fun v77 L78 f79 hp76 => ?_)
        obtain ⟨r80, rfl, hr81, rfl, rfl⟩ := hp76
        refine (show V C 9 L f71 0 0 111 [(8, .int 0), (7, .int 0), (5, .double r7), (3, .double r2), (0, .ref a), (1, .double e)] [.double r80, .ref a] from ?_)
        refine g_callV hC (Cn := RX0) (TT := TX0) (N := 16) dX0_followLaw_111 (ct_X0_moveTo l G L f71 a lm bd rg tn (va_up x 6 r2) md fa ou r80 hL_a hx73) q_code_X0_moveTo q_ml_X0_78 q_im_X0_moveTo q_sel_X0_moveTo q_init_X0 ⟨rfl, by decide, by decide, (show (parseMethodDescriptor yX0_moveTo.desc).map (fun d => d.parameters.length) = some 1 from by decide +kernel)⟩ hL_a hx73 rfl (by decide) (by decide) (Nat.le_of_ble_eq_true rfl) (fun v83 L84 f85 hp82 => ?_)
        obtain ⟨rfl, rfl, u86, hu87, hf88⟩ := hp82
        have hf88x : f85 = va_up f71 a (.inr (0, [.double (x 0), .double (x 1), .double (x 2), .ref lm, .ref bd, .ref rg, .ref tn, .double (x 3), .double (x 4), .double u86, .double r2, .double (x 7), .double (x 8), .int md, .int fa, va_rf ou])) := hf88
        have hx89 : f85 a = .inr (0, [.double (x 0), .double (x 1), .double (x 2), .ref lm, .ref bd, .ref rg, .ref tn, .double (x 3), .double (x 4), .double u86, .double r2, .double (x 7), .double (x 8), .int md, .int fa, va_rf ou]) := by rw [hf88x]; exact va_up_self _ _ _
        have hx90 : f85 lm = .inr (1, [.double lo, .double hi]) := by rw [hf88x, va_up_ne _ _ (fun z => by have z1 := hx74; rw [z, hx73] at z1; simp at z1)]; exact hx74
        have hF91 : f85 = va_up f a (.inr (0, [.double (x 0), .double (x 1), .double (x 2), .ref lm, .ref bd, .ref rg, .ref tn, .double (x 3), .double (x 4), .double u86, .double r2, .double (x 7), .double (x 8), .int md, .int fa, va_rf ou])) := by rw [hf88x, hF75, va_up_up]
        refine (show V C 9 L f85 0 0 114 [(8, .int 0), (7, .int 0), (5, .double r7), (3, .double r2), (0, .ref a), (1, .double e)] [] from ?_)
        exact g_vret hC dX0_followLaw_114 rfl ⟨rfl, rfl, u86, r2, by simp [dz, va_up, fU, fV, fA, c8, c69, c70, hr81, hu87, er1, er2, er3, er4, er5, er6, er7], by simp [dz, va_up, fS, fV, fA, c8, c69, c70, hr81, hu87, er1, er2, er3, er4, er5, er6, er7], hF91⟩ (Nat.zero_le _) (Nat.zero_le _)
      · try simp only [er1, er2, er3, er4, er5, er6, er7] at c70
        refine g_dload_n hC dX0_followLaw_73 4 rfl ?_
        refine g_dconst0 hC dX0_followLaw_74 ?_
        refine g_dcmpg_ge hC 83 dX0_followLaw_75 dX0_followLaw_76 (by decide) (fun c92 => ?_) (fun c92 => ?_)
        · skip
          refine g_iconst hC 0 dX0_followLaw_83 (by decide) ?_
          refine g_istore hC (lv1 := [(8, .int 0), (7, .int 0), (5, .double r7), (3, .double r2), (0, .ref a), (1, .double e)]) dX0_followLaw_84 (by decide) rfl ?_
          refine g_iload hC dX0_followLaw_86 1 rfl ?_
          refine g_if_ne hC 101 dX0_followLaw_88 (by decide) (fun c => absurd c (by decide)) (fun _ => ?_)
          refine g_iload hC dX0_followLaw_91 0 rfl ?_
          refine g_if_ne hC 101 dX0_followLaw_93 (by decide) (fun c => absurd c (by decide)) (fun _ => ?_)
          refine g_aload_n hC dX0_followLaw_96 4 rfl ?_
          refine g_dload_n hC dX0_followLaw_97 3 rfl ?_
          refine g_put hC (kf := 10) (TT := TX0) (N := 16) (Cn := RX0) (ty0 := tyX0) (fs1 := [.double (x 0), .double (x 1), .double (x 2), .ref lm, .ref bd, .ref rg, .ref tn, .double (x 3), .double (x 4), .double (x 5), .double r2, .double (x 7), .double (x 8), .int md, .int fa, va_rf ou]) dX0_followLaw_98 hL_a h0 rfl q_u0 (by decide) tyX0_ok nmX0 q_fl_X0_91 rfl rfl rfl rfl rfl (Nat.le_of_ble_eq_true rfl) rfl ?_
          refine g_nm (fun f93 hf94 => ?_)
          have hx95 : f93 a = .inr (0, [.double (x 0), .double (x 1), .double (x 2), .ref lm, .ref bd, .ref rg, .ref tn, .double (x 3), .double (x 4), .double (x 5), .double r2, .double (x 7), .double (x 8), .int md, .int fa, va_rf ou]) := by rw [hf94]; exact va_up_self _ _ _
          have hx96 : f93 lm = .inr (1, [.double lo, .double hi]) := by rw [hf94, va_up_ne _ _ (fun z => by have z1 := h1; rw [z, h0] at z1; simp at z1)]; exact h1
          have hF97 : f93 = va_up f a (.inr (0, [.double (x 0), .double (x 1), .double (x 2), .ref lm, .ref bd, .ref rg, .ref tn, .double (x 3), .double (x 4), .double (x 5), .double r2, .double (x 7), .double (x 8), .int md, .int fa, va_rf ou])) := hf94
          refine g_aload_n hC dX0_followLaw_101 4 rfl ?_
          refine g_aload_n hC dX0_followLaw_102 4 rfl ?_
          refine g_get hC (kf := 3) (TT := TX0) (N := 16) (Cn := RX0) dX0_followLaw_103 hL_a hx95 rfl q_u0 (by decide) q_fl_X0_16 rfl rfl ?_
          refine g_dload hC dX0_followLaw_106 2 rfl ?_
          refine g_callV hC (Cn := RX1) (TT := TX1) (N := 2) dX0_followLaw_108 (ct_X1_nearest l G L f93 lm lo hi r7 hL_lm hx96) q_code_X1_nearest q_ml_X0_100 q_im_X1_nearest q_sel_X1_nearest q_init_X1 ⟨rfl, by decide, by decide, (show (parseMethodDescriptor yX1_nearest.desc).map (fun d => d.parameters.length) = some 1 from by decide +kernel)⟩ hL_lm hx96 rfl (by decide) (by decide) (Nat.le_of_ble_eq_true rfl) (fun v99 L100 f101 hp98 => ?_)
          obtain ⟨r102, rfl, hr103, rfl, rfl⟩ := hp98
          refine (show V C 9 L f93 0 0 111 [(8, .int 0), (7, .int 0), (5, .double r7), (3, .double r2), (0, .ref a), (1, .double e)] [.double r102, .ref a] from ?_)
          refine g_callV hC (Cn := RX0) (TT := TX0) (N := 16) dX0_followLaw_111 (ct_X0_moveTo l G L f93 a lm bd rg tn (va_up x 6 r2) md fa ou r102 hL_a hx95) q_code_X0_moveTo q_ml_X0_78 q_im_X0_moveTo q_sel_X0_moveTo q_init_X0 ⟨rfl, by decide, by decide, (show (parseMethodDescriptor yX0_moveTo.desc).map (fun d => d.parameters.length) = some 1 from by decide +kernel)⟩ hL_a hx95 rfl (by decide) (by decide) (Nat.le_of_ble_eq_true rfl) (fun v105 L106 f107 hp104 => ?_)
          obtain ⟨rfl, rfl, u108, hu109, hf110⟩ := hp104
          have hf110x : f107 = va_up f93 a (.inr (0, [.double (x 0), .double (x 1), .double (x 2), .ref lm, .ref bd, .ref rg, .ref tn, .double (x 3), .double (x 4), .double u108, .double r2, .double (x 7), .double (x 8), .int md, .int fa, va_rf ou])) := hf110
          have hx111 : f107 a = .inr (0, [.double (x 0), .double (x 1), .double (x 2), .ref lm, .ref bd, .ref rg, .ref tn, .double (x 3), .double (x 4), .double u108, .double r2, .double (x 7), .double (x 8), .int md, .int fa, va_rf ou]) := by rw [hf110x]; exact va_up_self _ _ _
          have hx112 : f107 lm = .inr (1, [.double lo, .double hi]) := by rw [hf110x, va_up_ne _ _ (fun z => by have z1 := hx96; rw [z, hx95] at z1; simp at z1)]; exact hx96
          have hF113 : f107 = va_up f a (.inr (0, [.double (x 0), .double (x 1), .double (x 2), .ref lm, .ref bd, .ref rg, .ref tn, .double (x 3), .double (x 4), .double u108, .double r2, .double (x 7), .double (x 8), .int md, .int fa, va_rf ou])) := by rw [hf110x, hF97, va_up_up]
          refine (show V C 9 L f107 0 0 114 [(8, .int 0), (7, .int 0), (5, .double r7), (3, .double r2), (0, .ref a), (1, .double e)] [] from ?_)
          exact g_vret hC dX0_followLaw_114 rfl ⟨rfl, rfl, u108, r2, by simp [dz, va_up, fU, fV, fA, c8, c69, c70, c92, hr103, hu109, er1, er2, er3, er4, er5, er6, er7], by simp [dz, va_up, fS, fV, fA, c8, c69, c70, c92, hr103, hu109, er1, er2, er3, er4, er5, er6, er7], hF113⟩ (Nat.zero_le _) (Nat.zero_le _)
        · skip
          refine g_iconst hC 1 dX0_followLaw_79 (by decide) ?_
          refine g_goto hC 84 dX0_followLaw_80 (by decide) ?_
          refine g_istore hC (lv1 := [(8, .int 1), (7, .int 0), (5, .double r7), (3, .double r2), (0, .ref a), (1, .double e)]) dX0_followLaw_84 (by decide) rfl ?_
          refine g_iload hC dX0_followLaw_86 1 rfl ?_
          refine g_if_ne hC 101 dX0_followLaw_88 (by decide) (fun c => absurd c (by decide)) (fun _ => ?_)
          refine g_iload hC dX0_followLaw_91 0 rfl ?_
          refine g_if_ne hC 101 dX0_followLaw_93 (by decide) (fun _ => ?_) (fun c => absurd c (by decide))
          refine g_aload_n hC dX0_followLaw_101 4 rfl ?_
          refine g_aload_n hC dX0_followLaw_102 4 rfl ?_
          refine g_get hC (kf := 3) (TT := TX0) (N := 16) (Cn := RX0) dX0_followLaw_103 hL_a h0 rfl q_u0 (by decide) q_fl_X0_16 rfl rfl ?_
          refine g_dload hC dX0_followLaw_106 2 rfl ?_
          refine g_callV hC (Cn := RX1) (TT := TX1) (N := 2) dX0_followLaw_108 (ct_X1_nearest l G L f lm lo hi r7 hL_lm h1) q_code_X1_nearest q_ml_X0_100 q_im_X1_nearest q_sel_X1_nearest q_init_X1 ⟨rfl, by decide, by decide, (show (parseMethodDescriptor yX1_nearest.desc).map (fun d => d.parameters.length) = some 1 from by decide +kernel)⟩ hL_lm h1 rfl (by decide) (by decide) (Nat.le_of_ble_eq_true rfl) (fun v115 L116 f117 hp114 => ?_)
          obtain ⟨r118, rfl, hr119, rfl, rfl⟩ := hp114
          refine (show V C 9 L f 0 0 111 [(8, .int 1), (7, .int 0), (5, .double r7), (3, .double r2), (0, .ref a), (1, .double e)] [.double r118, .ref a] from ?_)
          refine g_callV hC (Cn := RX0) (TT := TX0) (N := 16) dX0_followLaw_111 (ct_X0_moveTo l G L f a lm bd rg tn (x) md fa ou r118 hL_a h0) q_code_X0_moveTo q_ml_X0_78 q_im_X0_moveTo q_sel_X0_moveTo q_init_X0 ⟨rfl, by decide, by decide, (show (parseMethodDescriptor yX0_moveTo.desc).map (fun d => d.parameters.length) = some 1 from by decide +kernel)⟩ hL_a h0 rfl (by decide) (by decide) (Nat.le_of_ble_eq_true rfl) (fun v121 L122 f123 hp120 => ?_)
          obtain ⟨rfl, rfl, u124, hu125, hf126⟩ := hp120
          have hf126x : f123 = va_up f a (.inr (0, [.double (x 0), .double (x 1), .double (x 2), .ref lm, .ref bd, .ref rg, .ref tn, .double (x 3), .double (x 4), .double u124, .double (x 6), .double (x 7), .double (x 8), .int md, .int fa, va_rf ou])) := hf126
          have hx127 : f123 a = .inr (0, [.double (x 0), .double (x 1), .double (x 2), .ref lm, .ref bd, .ref rg, .ref tn, .double (x 3), .double (x 4), .double u124, .double (x 6), .double (x 7), .double (x 8), .int md, .int fa, va_rf ou]) := by rw [hf126x]; exact va_up_self _ _ _
          have hx128 : f123 lm = .inr (1, [.double lo, .double hi]) := by rw [hf126x, va_up_ne _ _ (fun z => by have z1 := h1; rw [z, h0] at z1; simp at z1)]; exact h1
          have hF129 : f123 = va_up f a (.inr (0, [.double (x 0), .double (x 1), .double (x 2), .ref lm, .ref bd, .ref rg, .ref tn, .double (x 3), .double (x 4), .double u124, .double (x 6), .double (x 7), .double (x 8), .int md, .int fa, va_rf ou])) := hf126x
          refine (show V C 9 L f123 0 0 114 [(8, .int 1), (7, .int 0), (5, .double r7), (3, .double r2), (0, .ref a), (1, .double e)] [] from ?_)
          exact g_vret hC dX0_followLaw_114 rfl ⟨rfl, rfl, u124, (x 6), by simp [dz, va_up, fU, fV, fA, c8, c69, c70, c92, hr119, hu125, er1, er2, er3, er4, er5, er6, er7], by simp [dz, va_up, fS, fV, fA, c8, c69, c70, c92, hr119, hu125, er1, er2, er3, er4, er5, er6, er7], hF129⟩ (Nat.zero_le _) (Nat.zero_le _)
    · skip
      refine g_iconst hC 1 dX0_followLaw_53 (by decide) ?_
      refine g_goto hC 58 dX0_followLaw_54 (by decide) ?_
      refine g_istore hC (lv1 := [(7, .int 1), (5, .double r7), (3, .double r2), (0, .ref a), (1, .double e)]) dX0_followLaw_58 (by decide) rfl ?_
      refine g_dload hC dX0_followLaw_60 1 rfl ?_
      refine g_aload_n hC dX0_followLaw_62 3 rfl ?_
      refine g_get hC (kf := 3) (TT := TX0) (N := 16) (Cn := RX0) dX0_followLaw_63 hL_a h0 rfl q_u0 (by decide) q_fl_X0_16 rfl rfl ?_
      refine g_getN hC (kf := 0) (TT := TX1) (N := 2) (Cn := RX1) dX0_followLaw_66 hL_lm h1 rfl q_u1 (by decide) q_fn_X0_97 rfl rfl ?_
      refine g_dcmpg_ge hC 83 dX0_followLaw_69 dX0_followLaw_70 (by decide) (fun c130 => ?_) (fun c130 => ?_)
      · try simp only [er1, er2, er3, er4, er5, er6, er7] at c130
        refine g_iconst hC 0 dX0_followLaw_83 (by decide) ?_
        refine g_istore hC (lv1 := [(8, .int 0), (7, .int 1), (5, .double r7), (3, .double r2), (0, .ref a), (1, .double e)]) dX0_followLaw_84 (by decide) rfl ?_
        refine g_iload hC dX0_followLaw_86 1 rfl ?_
        refine g_if_ne hC 101 dX0_followLaw_88 (by decide) (fun _ => ?_) (fun c => absurd c (by decide))
        refine g_aload_n hC dX0_followLaw_101 4 rfl ?_
        refine g_aload_n hC dX0_followLaw_102 4 rfl ?_
        refine g_get hC (kf := 3) (TT := TX0) (N := 16) (Cn := RX0) dX0_followLaw_103 hL_a h0 rfl q_u0 (by decide) q_fl_X0_16 rfl rfl ?_
        refine g_dload hC dX0_followLaw_106 2 rfl ?_
        refine g_callV hC (Cn := RX1) (TT := TX1) (N := 2) dX0_followLaw_108 (ct_X1_nearest l G L f lm lo hi r7 hL_lm h1) q_code_X1_nearest q_ml_X0_100 q_im_X1_nearest q_sel_X1_nearest q_init_X1 ⟨rfl, by decide, by decide, (show (parseMethodDescriptor yX1_nearest.desc).map (fun d => d.parameters.length) = some 1 from by decide +kernel)⟩ hL_lm h1 rfl (by decide) (by decide) (Nat.le_of_ble_eq_true rfl) (fun v132 L133 f134 hp131 => ?_)
        obtain ⟨r135, rfl, hr136, rfl, rfl⟩ := hp131
        refine (show V C 9 L f 0 0 111 [(8, .int 0), (7, .int 1), (5, .double r7), (3, .double r2), (0, .ref a), (1, .double e)] [.double r135, .ref a] from ?_)
        refine g_callV hC (Cn := RX0) (TT := TX0) (N := 16) dX0_followLaw_111 (ct_X0_moveTo l G L f a lm bd rg tn (x) md fa ou r135 hL_a h0) q_code_X0_moveTo q_ml_X0_78 q_im_X0_moveTo q_sel_X0_moveTo q_init_X0 ⟨rfl, by decide, by decide, (show (parseMethodDescriptor yX0_moveTo.desc).map (fun d => d.parameters.length) = some 1 from by decide +kernel)⟩ hL_a h0 rfl (by decide) (by decide) (Nat.le_of_ble_eq_true rfl) (fun v138 L139 f140 hp137 => ?_)
        obtain ⟨rfl, rfl, u141, hu142, hf143⟩ := hp137
        have hf143x : f140 = va_up f a (.inr (0, [.double (x 0), .double (x 1), .double (x 2), .ref lm, .ref bd, .ref rg, .ref tn, .double (x 3), .double (x 4), .double u141, .double (x 6), .double (x 7), .double (x 8), .int md, .int fa, va_rf ou])) := hf143
        have hx144 : f140 a = .inr (0, [.double (x 0), .double (x 1), .double (x 2), .ref lm, .ref bd, .ref rg, .ref tn, .double (x 3), .double (x 4), .double u141, .double (x 6), .double (x 7), .double (x 8), .int md, .int fa, va_rf ou]) := by rw [hf143x]; exact va_up_self _ _ _
        have hx145 : f140 lm = .inr (1, [.double lo, .double hi]) := by rw [hf143x, va_up_ne _ _ (fun z => by have z1 := h1; rw [z, h0] at z1; simp at z1)]; exact h1
        have hF146 : f140 = va_up f a (.inr (0, [.double (x 0), .double (x 1), .double (x 2), .ref lm, .ref bd, .ref rg, .ref tn, .double (x 3), .double (x 4), .double u141, .double (x 6), .double (x 7), .double (x 8), .int md, .int fa, va_rf ou])) := hf143x
        refine (show V C 9 L f140 0 0 114 [(8, .int 0), (7, .int 1), (5, .double r7), (3, .double r2), (0, .ref a), (1, .double e)] [] from ?_)
        exact g_vret hC dX0_followLaw_114 rfl ⟨rfl, rfl, u141, (x 6), by simp [dz, va_up, fU, fV, fA, c8, c69, c130, hr136, hu142, er1, er2, er3, er4, er5, er6, er7], by simp [dz, va_up, fS, fV, fA, c8, c69, c130, hr136, hu142, er1, er2, er3, er4, er5, er6, er7], hF146⟩ (Nat.zero_le _) (Nat.zero_le _)
      · try simp only [er1, er2, er3, er4, er5, er6, er7] at c130
        refine g_dload_n hC dX0_followLaw_73 4 rfl ?_
        refine g_dconst0 hC dX0_followLaw_74 ?_
        refine g_dcmpg_ge hC 83 dX0_followLaw_75 dX0_followLaw_76 (by decide) (fun c147 => ?_) (fun c147 => ?_)
        · skip
          refine g_iconst hC 0 dX0_followLaw_83 (by decide) ?_
          refine g_istore hC (lv1 := [(8, .int 0), (7, .int 1), (5, .double r7), (3, .double r2), (0, .ref a), (1, .double e)]) dX0_followLaw_84 (by decide) rfl ?_
          refine g_iload hC dX0_followLaw_86 1 rfl ?_
          refine g_if_ne hC 101 dX0_followLaw_88 (by decide) (fun _ => ?_) (fun c => absurd c (by decide))
          refine g_aload_n hC dX0_followLaw_101 4 rfl ?_
          refine g_aload_n hC dX0_followLaw_102 4 rfl ?_
          refine g_get hC (kf := 3) (TT := TX0) (N := 16) (Cn := RX0) dX0_followLaw_103 hL_a h0 rfl q_u0 (by decide) q_fl_X0_16 rfl rfl ?_
          refine g_dload hC dX0_followLaw_106 2 rfl ?_
          refine g_callV hC (Cn := RX1) (TT := TX1) (N := 2) dX0_followLaw_108 (ct_X1_nearest l G L f lm lo hi r7 hL_lm h1) q_code_X1_nearest q_ml_X0_100 q_im_X1_nearest q_sel_X1_nearest q_init_X1 ⟨rfl, by decide, by decide, (show (parseMethodDescriptor yX1_nearest.desc).map (fun d => d.parameters.length) = some 1 from by decide +kernel)⟩ hL_lm h1 rfl (by decide) (by decide) (Nat.le_of_ble_eq_true rfl) (fun v149 L150 f151 hp148 => ?_)
          obtain ⟨r152, rfl, hr153, rfl, rfl⟩ := hp148
          refine (show V C 9 L f 0 0 111 [(8, .int 0), (7, .int 1), (5, .double r7), (3, .double r2), (0, .ref a), (1, .double e)] [.double r152, .ref a] from ?_)
          refine g_callV hC (Cn := RX0) (TT := TX0) (N := 16) dX0_followLaw_111 (ct_X0_moveTo l G L f a lm bd rg tn (x) md fa ou r152 hL_a h0) q_code_X0_moveTo q_ml_X0_78 q_im_X0_moveTo q_sel_X0_moveTo q_init_X0 ⟨rfl, by decide, by decide, (show (parseMethodDescriptor yX0_moveTo.desc).map (fun d => d.parameters.length) = some 1 from by decide +kernel)⟩ hL_a h0 rfl (by decide) (by decide) (Nat.le_of_ble_eq_true rfl) (fun v155 L156 f157 hp154 => ?_)
          obtain ⟨rfl, rfl, u158, hu159, hf160⟩ := hp154
          have hf160x : f157 = va_up f a (.inr (0, [.double (x 0), .double (x 1), .double (x 2), .ref lm, .ref bd, .ref rg, .ref tn, .double (x 3), .double (x 4), .double u158, .double (x 6), .double (x 7), .double (x 8), .int md, .int fa, va_rf ou])) := hf160
          have hx161 : f157 a = .inr (0, [.double (x 0), .double (x 1), .double (x 2), .ref lm, .ref bd, .ref rg, .ref tn, .double (x 3), .double (x 4), .double u158, .double (x 6), .double (x 7), .double (x 8), .int md, .int fa, va_rf ou]) := by rw [hf160x]; exact va_up_self _ _ _
          have hx162 : f157 lm = .inr (1, [.double lo, .double hi]) := by rw [hf160x, va_up_ne _ _ (fun z => by have z1 := h1; rw [z, h0] at z1; simp at z1)]; exact h1
          have hF163 : f157 = va_up f a (.inr (0, [.double (x 0), .double (x 1), .double (x 2), .ref lm, .ref bd, .ref rg, .ref tn, .double (x 3), .double (x 4), .double u158, .double (x 6), .double (x 7), .double (x 8), .int md, .int fa, va_rf ou])) := hf160x
          refine (show V C 9 L f157 0 0 114 [(8, .int 0), (7, .int 1), (5, .double r7), (3, .double r2), (0, .ref a), (1, .double e)] [] from ?_)
          exact g_vret hC dX0_followLaw_114 rfl ⟨rfl, rfl, u158, (x 6), by simp [dz, va_up, fU, fV, fA, c8, c69, c130, c147, hr153, hu159, er1, er2, er3, er4, er5, er6, er7], by simp [dz, va_up, fS, fV, fA, c8, c69, c130, c147, hr153, hu159, er1, er2, er3, er4, er5, er6, er7], hF163⟩ (Nat.zero_le _) (Nat.zero_le _)
        · skip
          refine g_iconst hC 1 dX0_followLaw_79 (by decide) ?_
          refine g_goto hC 84 dX0_followLaw_80 (by decide) ?_
          refine g_istore hC (lv1 := [(8, .int 1), (7, .int 1), (5, .double r7), (3, .double r2), (0, .ref a), (1, .double e)]) dX0_followLaw_84 (by decide) rfl ?_
          refine g_iload hC dX0_followLaw_86 1 rfl ?_
          refine g_if_ne hC 101 dX0_followLaw_88 (by decide) (fun _ => ?_) (fun c => absurd c (by decide))
          refine g_aload_n hC dX0_followLaw_101 4 rfl ?_
          refine g_aload_n hC dX0_followLaw_102 4 rfl ?_
          refine g_get hC (kf := 3) (TT := TX0) (N := 16) (Cn := RX0) dX0_followLaw_103 hL_a h0 rfl q_u0 (by decide) q_fl_X0_16 rfl rfl ?_
          refine g_dload hC dX0_followLaw_106 2 rfl ?_
          refine g_callV hC (Cn := RX1) (TT := TX1) (N := 2) dX0_followLaw_108 (ct_X1_nearest l G L f lm lo hi r7 hL_lm h1) q_code_X1_nearest q_ml_X0_100 q_im_X1_nearest q_sel_X1_nearest q_init_X1 ⟨rfl, by decide, by decide, (show (parseMethodDescriptor yX1_nearest.desc).map (fun d => d.parameters.length) = some 1 from by decide +kernel)⟩ hL_lm h1 rfl (by decide) (by decide) (Nat.le_of_ble_eq_true rfl) (fun v165 L166 f167 hp164 => ?_)
          obtain ⟨r168, rfl, hr169, rfl, rfl⟩ := hp164
          refine (show V C 9 L f 0 0 111 [(8, .int 1), (7, .int 1), (5, .double r7), (3, .double r2), (0, .ref a), (1, .double e)] [.double r168, .ref a] from ?_)
          refine g_callV hC (Cn := RX0) (TT := TX0) (N := 16) dX0_followLaw_111 (ct_X0_moveTo l G L f a lm bd rg tn (x) md fa ou r168 hL_a h0) q_code_X0_moveTo q_ml_X0_78 q_im_X0_moveTo q_sel_X0_moveTo q_init_X0 ⟨rfl, by decide, by decide, (show (parseMethodDescriptor yX0_moveTo.desc).map (fun d => d.parameters.length) = some 1 from by decide +kernel)⟩ hL_a h0 rfl (by decide) (by decide) (Nat.le_of_ble_eq_true rfl) (fun v171 L172 f173 hp170 => ?_)
          obtain ⟨rfl, rfl, u174, hu175, hf176⟩ := hp170
          have hf176x : f173 = va_up f a (.inr (0, [.double (x 0), .double (x 1), .double (x 2), .ref lm, .ref bd, .ref rg, .ref tn, .double (x 3), .double (x 4), .double u174, .double (x 6), .double (x 7), .double (x 8), .int md, .int fa, va_rf ou])) := hf176
          have hx177 : f173 a = .inr (0, [.double (x 0), .double (x 1), .double (x 2), .ref lm, .ref bd, .ref rg, .ref tn, .double (x 3), .double (x 4), .double u174, .double (x 6), .double (x 7), .double (x 8), .int md, .int fa, va_rf ou]) := by rw [hf176x]; exact va_up_self _ _ _
          have hx178 : f173 lm = .inr (1, [.double lo, .double hi]) := by rw [hf176x, va_up_ne _ _ (fun z => by have z1 := h1; rw [z, h0] at z1; simp at z1)]; exact h1
          have hF179 : f173 = va_up f a (.inr (0, [.double (x 0), .double (x 1), .double (x 2), .ref lm, .ref bd, .ref rg, .ref tn, .double (x 3), .double (x 4), .double u174, .double (x 6), .double (x 7), .double (x 8), .int md, .int fa, va_rf ou])) := hf176x
          refine (show V C 9 L f173 0 0 114 [(8, .int 1), (7, .int 1), (5, .double r7), (3, .double r2), (0, .ref a), (1, .double e)] [] from ?_)
          exact g_vret hC dX0_followLaw_114 rfl ⟨rfl, rfl, u174, (x 6), by simp [dz, va_up, fU, fV, fA, c8, c69, c130, c147, hr169, hu175, er1, er2, er3, er4, er5, er6, er7], by simp [dz, va_up, fS, fV, fA, c8, c69, c130, c147, hr169, hu175, er1, er2, er3, er4, er5, er6, er7], hF179⟩ (Nat.zero_le _) (Nat.zero_le _)
