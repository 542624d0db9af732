/-! the loop's own methods, over data -/
def fA (z : Nat → DT) (e : DT) : DT := qadd (z 6) (qmul (z 1) e)
def fV (z : Nat → DT) (e : DT) : DT := qadd (qadd (qmul (z 0) e) (fA z e)) (qmul (z 2) (qsub e (z 7)))
def fS (z : Nat → DT) (lo hi e : DT) : DT := if ((qgt (fV z e) hi && qgt e (dv 0)) || (qlt (fV z e) lo && qlt e (dv 0))) = true then z 6 else fA z e
def fU (z : Nat → DT) (lo hi e : DT) : DT := MV (z 5) (z 3) (nearS (fV z e) lo hi)
def oU (z : Nat → DT) (lo hi bl bh e : DT) : DT := if qgt e bh = true then MV (z 5) (z 3) hi else if qlt e bl = true then MV (z 5) (z 3) lo else z 5
def tU (z : Nat → DT) (md : Int32) (lo hi bl bh e : DT) : DT := if md = 0 then MV (z 5) (z 3) (z 8) else if md = 1 then fU z lo hi e else oU z lo hi bl bh e
def tS (z : Nat → DT) (md : Int32) (lo hi e : DT) : DT := if md = 1 then fS z lo hi e else z 6
abbrev dz (x : Nat → UInt64) : Nat → DT := fun j => dv (x j)
set_option maxHeartbeats 4000000 in
set_option maxRecDepth 100000 in
/-- moveTo(w) -/
theorem ct_X0_moveTo (l : Launch) (G : GD) (L : List Nat) (f : Nat → va_E) (a lm bd rg tn : Nat) (x : Nat → UInt64) (md fa : Int32) (ou : Option Nat) (w : UInt64) (hL_a : a ∈ L) (h0 : f a = eLp x md fa lm bd rg tn ou) : Ctr l yX0_moveTo cX0_moveTo 3 none R00 G [.ref a, .double w] L f (fun vv L1 f1 => vv = none ∧ L = L1 ∧ ∃ u : UInt64, dv u = MV (dv (x 5)) (dv (x 3)) (dv w) ∧ f1 = va_up f a (eLp (va_up x 5 u) md fa lm bd rg tn ou)) := by
  refine g_enter RX0 false (by decide) rfl (fun h => by cases h) (Nat.le_of_ble_eq_true rfl) (fun C hC => ?_)
  refine (show V C 3 L f 0 0 0 [(0, .ref a), (1, .double w)] [] from ?_)
  refine g_dload_n hC dX0_moveTo_0 1 rfl ?_
  refine g_aload_n hC dX0_moveTo_1 0 rfl ?_
  refine g_get hC (kf := 9) (TT := TX0) (N := 16) (Cn := RX0) dX0_moveTo_2 hL_a h0 rfl q_u0 (by decide) q_fl_X0_65 rfl rfl ?_
  refine g_aload_n hC dX0_moveTo_5 0 rfl ?_
  refine g_get hC (kf := 7) (TT := TX0) (N := 16) (Cn := RX0) dX0_moveTo_6 hL_a h0 rfl q_u0 (by decide) q_fl_X0_41 rfl rfl ?_
  refine g_dadd hC dX0_moveTo_9 (fun r1 er1 => ?_)
  refine g_dcmpl_le hC 30 dX0_moveTo_10 dX0_moveTo_11 (by decide) (fun c2 => ?_) (fun c2 => ?_)
  · try simp only [er1] at c2
    refine g_dload_n hC dX0_moveTo_30 1 rfl ?_
    refine g_aload_n hC dX0_moveTo_31 0 rfl ?_
    refine g_get hC (kf := 9) (TT := TX0) (N := 16) (Cn := RX0) dX0_moveTo_32 hL_a h0 rfl q_u0 (by decide) q_fl_X0_65 rfl rfl ?_
    refine g_aload_n hC dX0_moveTo_35 0 rfl ?_
    refine g_get hC (kf := 7) (TT := TX0) (N := 16) (Cn := RX0) dX0_moveTo_36 hL_a h0 rfl q_u0 (by decide) q_fl_X0_41 rfl rfl ?_
    refine g_dsub hC dX0_moveTo_39 (fun r3 er3 => ?_)
    refine g_dcmpg_ge hC 60 dX0_moveTo_40 dX0_moveTo_41 (by decide) (fun c4 => ?_) (fun c4 => ?_)
    · try simp only [er1, er3] at c4
      refine g_aload_n hC dX0_moveTo_60 0 rfl ?_
      refine g_dload_n hC dX0_moveTo_61 1 rfl ?_
      refine g_put hC (kf := 9) (TT := TX0) (N := 16) (Cn := RX0) (ty0 := tyX0) (fs1 := [.double (x 0), .double (x 1), .double (x 2), .ref lm, .ref bd, .ref rg, .ref tn, .double (x 3), .double (x 4), .double w, .double (x 6), .double (x 7), .double (x 8), .int md, .int fa, va_rf ou]) dX0_moveTo_62 hL_a h0 rfl q_u0 (by decide) tyX0_ok nmX0 q_fl_X0_65 rfl rfl rfl rfl rfl (Nat.le_of_ble_eq_true rfl) rfl ?_
      refine g_nm (fun f5 hf6 => ?_)
      have h0_n : f5 a = .inr (0, [.double (x 0), .double (x 1), .double (x 2), .ref lm, .ref bd, .ref rg, .ref tn, .double (x 3), .double (x 4), .double w, .double (x 6), .double (x 7), .double (x 8), .int md, .int fa, va_rf ou]) := by rw [hf6]; exact va_up_self _ _ _
      have hF7 : f5 = va_up f a (.inr (0, [.double (x 0), .double (x 1), .double (x 2), .ref lm, .ref bd, .ref rg, .ref tn, .double (x 3), .double (x 4), .double w, .double (x 6), .double (x 7), .double (x 8), .int md, .int fa, va_rf ou])) := hf6
      exact g_vret hC dX0_moveTo_65 rfl ⟨rfl, rfl, w, by simp [MV, c2, c4, er1, er3], hF7⟩ (Nat.zero_le _) (Nat.zero_le _)
    · try simp only [er1, er3] at c4
      refine g_aload_n hC dX0_moveTo_44 0 rfl ?_
      refine g_aload_n hC dX0_moveTo_45 0 rfl ?_
      refine g_get hC (kf := 9) (TT := TX0) (N := 16) (Cn := RX0) dX0_moveTo_46 hL_a h0 rfl q_u0 (by decide) q_fl_X0_65 rfl rfl ?_
      refine g_aload_n hC dX0_moveTo_49 0 rfl ?_
      refine g_get hC (kf := 7) (TT := TX0) (N := 16) (Cn := RX0) dX0_moveTo_50 hL_a h0 rfl q_u0 (by decide) q_fl_X0_41 rfl rfl ?_
      refine g_dsub hC dX0_moveTo_53 (fun r8 er8 => ?_)
      refine g_put hC (kf := 9) (TT := TX0) (N := 16) (Cn := RX0) (ty0 := tyX0) (fs1 := [.double (x 0), .double (x 1), .double (x 2), .ref lm, .ref bd, .ref rg, .ref tn, .double (x 3), .double (x 4), .double r8, .double (x 6), .double (x 7), .double (x 8), .int md, .int fa, va_rf ou]) dX0_moveTo_54 hL_a h0 rfl q_u0 (by decide) tyX0_ok nmX0 q_fl_X0_65 rfl rfl rfl rfl rfl (Nat.le_of_ble_eq_true rfl) rfl ?_
      refine g_nm (fun f9 hf10 => ?_)
      have h0_n : f9 a = .inr (0, [.double (x 0), .double (x 1), .double (x 2), .ref lm, .ref bd, .ref rg, .ref tn, .double (x 3), .double (x 4), .double r8, .double (x 6), .double (x 7), .double (x 8), .int md, .int fa, va_rf ou]) := by rw [hf10]; exact va_up_self _ _ _
      have hF11 : f9 = va_up f a (.inr (0, [.double (x 0), .double (x 1), .double (x 2), .ref lm, .ref bd, .ref rg, .ref tn, .double (x 3), .double (x 4), .double r8, .double (x 6), .double (x 7), .double (x 8), .int md, .int fa, va_rf ou])) := hf10
      refine g_goto hC 65 dX0_moveTo_57 (by decide) ?_
      exact g_vret hC dX0_moveTo_65 rfl ⟨rfl, rfl, r8, by simp [MV, c2, c4, er1, er3, er8], hF11⟩ (Nat.zero_le _) (Nat.zero_le _)
  · try simp only [er1] at c2
    refine g_aload_n hC dX0_moveTo_14 0 rfl ?_
    refine g_aload_n hC dX0_moveTo_15 0 rfl ?_
    refine g_get hC (kf := 9) (TT := TX0) (N := 16) (Cn := RX0) dX0_moveTo_16 hL_a h0 rfl q_u0 (by decide) q_fl_X0_65 rfl rfl ?_
    refine g_aload_n hC dX0_moveTo_19 0 rfl ?_
    refine g_get hC (kf := 7) (TT := TX0) (N := 16) (Cn := RX0) dX0_moveTo_20 hL_a h0 rfl q_u0 (by decide) q_fl_X0_41 rfl rfl ?_
    refine g_dadd hC dX0_moveTo_23 (fun r12 er12 => ?_)
    refine g_put hC (kf := 9) (TT := TX0) (N := 16) (Cn := RX0) (ty0 := tyX0) (fs1 := [.double (x 0), .double (x 1), .double (x 2), .ref lm, .ref bd, .ref rg, .ref tn, .double (x 3), .double (x 4), .double r12, .double (x 6), .double (x 7), .double (x 8), .int md, .int fa, va_rf ou]) dX0_moveTo_24 hL_a h0 rfl q_u0 (by decide) tyX0_ok nmX0 q_fl_X0_65 rfl rfl rfl rfl rfl (Nat.le_of_ble_eq_true rfl) rfl ?_
    refine g_nm (fun f13 hf14 => ?_)
    have h0_n : f13 a = .inr (0, [.double (x 0), .double (x 1), .double (x 2), .ref lm, .ref bd, .ref rg, .ref tn, .double (x 3), .double (x 4), .double r12, .double (x 6), .double (x 7), .double (x 8), .int md, .int fa, va_rf ou]) := by rw [hf14]; exact va_up_self _ _ _
    have hF15 : f13 = va_up f a (.inr (0, [.double (x 0), .double (x 1), .double (x 2), .ref lm, .ref bd, .ref rg, .ref tn, .double (x 3), .double (x 4), .double r12, .double (x 6), .double (x 7), .double (x 8), .int md, .int fa, va_rf ou])) := hf14
    refine g_goto hC 65 dX0_moveTo_27 (by decide) ?_
    exact g_vret hC dX0_moveTo_65 rfl ⟨rfl, rfl, r12, by simp [MV, c2, er1, er12], hF15⟩ (Nat.zero_le _) (Nat.zero_le _)
theorem va_up_id {α : Type} {f : Nat → α} {k : Nat} {v : α} (h : f k = v) : va_up f k v = f := by
  funext j
  unfold va_up
  split
  · rename_i h1
    rw [h1, h]
  · rfl
set_option maxHeartbeats 4000000 in
set_option maxRecDepth 100000 in
/-- switchOnOrOff(e) -/
theorem ct_X0_switchOnOrOff (l : Launch) (G : GD) (L : List Nat) (f : Nat → va_E) (a lm bd rg tn : Nat) (x : Nat → UInt64) (md fa : Int32) (ou : Option Nat) (lo hi bl bh : UInt64) (e : UInt64) (hL_a : a ∈ L) (h0 : f a = eLp x md fa lm bd rg tn ou) (hL_lm : lm ∈ L) (hL_bd : bd ∈ L) (h1 : f lm = eSp lo hi) (h2 : f bd = eSp bl bh) : Ctr l yX0_switchOnOrOff cX0_switchOnOrOff 3 none { frames := 1, cells := 0, slots := 0, locals := 22 } G [.ref a, .double e] L f (fun vv L1 f1 => vv = none ∧ L = L1 ∧ ∃ u : UInt64, dv u = oU (dz x) (dv lo) (dv hi) (dv bl) (dv bh) (dv e) ∧ f1 = va_up f a (eLp (va_up x 5 u) md fa lm bd rg tn ou)) := by
  refine g_enter RX0 false (by decide) rfl (fun h => by cases h) (Nat.le_of_ble_eq_true rfl) (fun C hC => ?_)
  refine (show V C 3 L f 0 0 0 [(0, .ref a), (1, .double e)] [] from ?_)
  refine g_dload_n hC dX0_switchOnOrOff_0 1 rfl ?_
  refine g_aload_n hC dX0_switchOnOrOff_1 0 rfl ?_
  refine g_get hC (kf := 4) (TT := TX0) (N := 16) (Cn := RX0) dX0_switchOnOrOff_2 hL_a h0 rfl q_u0 (by decide) q_fl_X0_24 rfl rfl ?_
  refine g_getN hC (kf := 1) (TT := TX1) (N := 2) (Cn := RX1) dX0_switchOnOrOff_5 hL_bd h2 rfl q_u1 (by decide) q_fn_X0_94 rfl rfl ?_
  refine g_dcmpl_le hC 26 dX0_switchOnOrOff_8 dX0_switchOnOrOff_9 (by decide) (fun c1 => ?_) (fun c1 => ?_)
  · skip
    refine g_dload_n hC dX0_switchOnOrOff_26 1 rfl ?_
    refine g_aload_n hC dX0_switchOnOrOff_27 0 rfl ?_
    refine g_get hC (kf := 4) (TT := TX0) (N := 16) (Cn := RX0) dX0_switchOnOrOff_28 hL_a h0 rfl q_u0 (by decide) q_fl_X0_24 rfl rfl ?_
    refine g_getN hC (kf := 0) (TT := TX1) (N := 2) (Cn := RX1) dX0_switchOnOrOff_31 hL_bd h2 rfl q_u1 (by decide) q_fn_X0_97 rfl rfl ?_
    refine g_dcmpg_ge hC 49 dX0_switchOnOrOff_34 dX0_switchOnOrOff_35 (by decide) (fun c2 => ?_) (fun c2 => ?_)
    · skip
      exact g_vret hC dX0_switchOnOrOff_49 rfl ⟨rfl, rfl, x 5, by simp [dz, va_up, oU, c1, c2], (va_up_id h0).symm⟩ (Nat.zero_le _) (Nat.zero_le _)
    · skip
      refine g_aload_n hC dX0_switchOnOrOff_38 0 rfl ?_
      refine g_aload_n hC dX0_switchOnOrOff_39 0 rfl ?_
      refine g_get hC (kf := 3) (TT := TX0) (N := 16) (Cn := RX0) dX0_switchOnOrOff_40 hL_a h0 rfl q_u0 (by decide) q_fl_X0_16 rfl rfl ?_
      refine g_getN hC (kf := 0) (TT := TX1) (N := 2) (Cn := RX1) dX0_switchOnOrOff_43 hL_lm h1 rfl q_u1 (by decide) q_fn_X0_97 rfl rfl ?_
      refine g_callV hC (Cn := RX0) (TT := TX0) (N := 16) dX0_switchOnOrOff_46 (ct_X0_moveTo l G L f a lm bd rg tn (x) md fa ou lo hL_a h0) q_code_X0_moveTo q_ml_X0_78 q_im_X0_moveTo q_sel_X0_moveTo q_init_X0 ⟨rfl, by decide, by decide, (show (parseMethodDescriptor yX0_moveTo.desc).map (fun d => d.parameters.length) = some 1 from by decide +kernel)⟩ hL_a h0 rfl (by decide) (by decide) (Nat.le_of_ble_eq_true rfl) (fun v4 L5 f6 hp3 => ?_)
      obtain ⟨rfl, rfl, u7, hu8, hf9⟩ := hp3
      have hf9x : f6 = va_up f a (.inr (0, [.double (x 0), .double (x 1), .double (x 2), .ref lm, .ref bd, .ref rg, .ref tn, .double (x 3), .double (x 4), .double u7, .double (x 6), .double (x 7), .double (x 8), .int md, .int fa, va_rf ou])) := hf9
      have h0_n : f6 a = .inr (0, [.double (x 0), .double (x 1), .double (x 2), .ref lm, .ref bd, .ref rg, .ref tn, .double (x 3), .double (x 4), .double u7, .double (x 6), .double (x 7), .double (x 8), .int md, .int fa, va_rf ou]) := by rw [hf9x]; exact va_up_self _ _ _
      have h1_n : f6 lm = .inr (1, [.double lo, .double hi]) := by rw [hf9x, va_up_ne _ _ (fun z => by have z1 := h1; rw [z, h0] at z1; simp at z1)]; exact h1
      have h2_n : f6 bd = .inr (1, [.double bl, .double bh]) := by rw [hf9x, va_up_ne _ _ (fun z => by have z1 := h2; rw [z, h0] at z1; simp at z1)]; exact h2
      have hF10 : f6 = va_up f a (.inr (0, [.double (x 0), .double (x 1), .double (x 2), .ref lm, .ref bd, .ref rg, .ref tn, .double (x 3), .double (x 4), .double u7, .double (x 6), .double (x 7), .double (x 8), .int md, .int fa, va_rf ou])) := hf9x
      refine (show V C 3 L f6 0 0 49 [(0, .ref a), (1, .double e)] [] from ?_)
      exact g_vret hC dX0_switchOnOrOff_49 rfl ⟨rfl, rfl, u7, by simp [dz, va_up, oU, c1, c2, hu8], hF10⟩ (Nat.zero_le _) (Nat.zero_le _)
  · skip
    refine g_aload_n hC dX0_switchOnOrOff_12 0 rfl ?_
    refine g_aload_n hC dX0_switchOnOrOff_13 0 rfl ?_
    refine g_get hC (kf := 3) (TT := TX0) (N := 16) (Cn := RX0) dX0_switchOnOrOff_14 hL_a h0 rfl q_u0 (by decide) q_fl_X0_16 rfl rfl ?_
    refine g_getN hC (kf := 1) (TT := TX1) (N := 2) (Cn := RX1) dX0_switchOnOrOff_17 hL_lm h1 rfl q_u1 (by decide) q_fn_X0_94 rfl rfl ?_
    refine g_callV hC (Cn := RX0) (TT := TX0) (N := 16) dX0_switchOnOrOff_20 (ct_X0_moveTo l G L f a lm bd rg tn (x) md fa ou hi hL_a h0) q_code_X0_moveTo q_ml_X0_78 q_im_X0_moveTo q_sel_X0_moveTo q_init_X0 ⟨rfl, by decide, by decide, (show (parseMethodDescriptor yX0_moveTo.desc).map (fun d => d.parameters.length) = some 1 from by decide +kernel)⟩ hL_a h0 rfl (by decide) (by decide) (Nat.le_of_ble_eq_true rfl) (fun v12 L13 f14 hp11 => ?_)
    obtain ⟨rfl, rfl, u15, hu16, hf17⟩ := hp11
    have hf17x : f14 = va_up f a (.inr (0, [.double (x 0), .double (x 1), .double (x 2), .ref lm, .ref bd, .ref rg, .ref tn, .double (x 3), .double (x 4), .double u15, .double (x 6), .double (x 7), .double (x 8), .int md, .int fa, va_rf ou])) := hf17
    have h0_n : f14 a = .inr (0, [.double (x 0), .double (x 1), .double (x 2), .ref lm, .ref bd, .ref rg, .ref tn, .double (x 3), .double (x 4), .double u15, .double (x 6), .double (x 7), .double (x 8), .int md, .int fa, va_rf ou]) := by rw [hf17x]; exact va_up_self _ _ _
    have h1_n : f14 lm = .inr (1, [.double lo, .double hi]) := by rw [hf17x, va_up_ne _ _ (fun z => by have z1 := h1; rw [z, h0] at z1; simp at z1)]; exact h1
    have h2_n : f14 bd = .inr (1, [.double bl, .double bh]) := by rw [hf17x, va_up_ne _ _ (fun z => by have z1 := h2; rw [z, h0] at z1; simp at z1)]; exact h2
    have hF18 : f14 = va_up f a (.inr (0, [.double (x 0), .double (x 1), .double (x 2), .ref lm, .ref bd, .ref rg, .ref tn, .double (x 3), .double (x 4), .double u15, .double (x 6), .double (x 7), .double (x 8), .int md, .int fa, va_rf ou])) := hf17x
    refine (show V C 3 L f14 0 0 23 [(0, .ref a), (1, .double e)] [] from ?_)
    refine g_goto hC 49 dX0_switchOnOrOff_23 (by decide) ?_
    exact g_vret hC dX0_switchOnOrOff_49 rfl ⟨rfl, rfl, u15, by simp [dz, va_up, oU, c1, hu16], hF18⟩ (Nat.zero_le _) (Nat.zero_le _)
set_option maxHeartbeats 4000000 in
set_option maxRecDepth 100000 in
/-- followLaw(e) -/
theorem ct_X0_followLaw (l : Launch) (G : GD) (L : List Nat) (f : Nat → va_E) (a lm bd rg tn : Nat) (x : Nat → UInt64) (md fa : Int32) (ou : Option Nat) (lo hi : UInt64) (e : UInt64) (hL_a : a ∈ L) (h0 : f a = eLp x md fa lm bd rg tn ou) (hL_lm : lm ∈ L) (h1 : f lm = eSp lo hi) : Ctr l yX0_followLaw cX0_followLaw 9 none { frames := 1, cells := 0, slots := 0, locals := 22 } G [.ref a, .double e] L f (fun vv L1 f1 => vv = none ∧ L = L1 ∧ ∃ u s : UInt64, dv u = fU (dz x) (dv lo) (dv hi) (dv e) ∧ dv s = fS (dz x) (dv lo) (dv hi) (dv e) ∧ f1 = va_up f a (eLp (va_up (va_up x 6 s) 5 u) md fa lm bd rg tn ou)) := by
  refine g_enter RX0 false (by decide) rfl (fun h => by cases h) (Nat.le_of_ble_eq_true rfl) (fun C hC => ?_)
  refine (show V C 9 L f 0 0 0 [(0, .ref a), (1, .double e)] [] from ?_)
  refine g_aload_n hC dX0_followLaw_0 0 rfl ?_
  refine g_get hC (kf := 10) (TT := TX0) (N := 16) (Cn := RX0) dX0_followLaw_1 hL_a h0 rfl q_u0 (by decide) q_fl_X0_91 rfl rfl ?_
  refine g_aload_n hC dX0_followLaw_4 0 rfl ?_
  refine g_get hC (kf := 1) (TT := TX0) (N := 16) (Cn := RX0) dX0_followLaw_5 hL_a h0 rfl q_u0 (by decide) q_fl_X0_52 rfl rfl ?_
  refine g_dload_n hC dX0_followLaw_8 1 rfl ?_
  refine g_dmul hC dX0_followLaw_9 (fun r1 er1 => ?_)
  refine g_dadd hC dX0_followLaw_10 (fun r2 er2 => ?_)
  try simp only [er1] at er2
  refine g_dstore_n hC (lv1 := [(3, .double r2), (0, .ref a), (1, .double e)]) dX0_followLaw_11 (by decide) rfl ?_
  refine g_aload_n hC dX0_followLaw_12 1 rfl ?_
  refine g_get hC (kf := 0) (TT := TX0) (N := 16) (Cn := RX0) dX0_followLaw_13 hL_a h0 rfl q_u0 (by decide) q_fl_X0_49 rfl rfl ?_
  refine g_dload_n hC dX0_followLaw_16 2 rfl ?_
  refine g_dmul hC dX0_followLaw_17 (fun r3 er3 => ?_)
  refine g_dload_n hC dX0_followLaw_18 0 rfl ?_
  refine g_dadd hC dX0_followLaw_19 (fun r4 er4 => ?_)
  try simp only [er1, er2, er3] at er4
  refine g_aload_n hC dX0_followLaw_20 1 rfl ?_
  refine g_get hC (kf := 2) (TT := TX0) (N := 16) (Cn := RX0) dX0_followLaw_21 hL_a h0 rfl q_u0 (by decide) q_fl_X0_55 rfl rfl ?_
  refine g_dload_n hC dX0_followLaw_24 2 rfl ?_
  refine g_aload_n hC dX0_followLaw_25 1 rfl ?_
  refine g_get hC (kf := 11) (TT := TX0) (N := 16) (Cn := RX0) dX0_followLaw_26 hL_a h0 rfl q_u0 (by decide) q_fl_X0_88 rfl rfl ?_
  refine g_dsub hC dX0_followLaw_29 (fun r5 er5 => ?_)
  refine g_dmul hC dX0_followLaw_30 (fun r6 er6 => ?_)
  try simp only [er1, er2, er3, er4, er5] at er6
  refine g_dadd hC dX0_followLaw_31 (fun r7 er7 => ?_)
  try simp only [er1, er2, er3, er4, er5, er6] at er7
  refine g_dstore hC (lv1 := [(5, .double r7), (3, .double r2), (0, .ref a), (1, .double e)]) dX0_followLaw_32 (by decide) rfl ?_
  refine g_dload hC dX0_followLaw_34 0 rfl ?_
  refine g_aload_n hC dX0_followLaw_36 2 rfl ?_
  refine g_get hC (kf := 3) (TT := TX0) (N := 16) (Cn := RX0) dX0_followLaw_37 hL_a h0 rfl q_u0 (by decide) q_fl_X0_16 rfl rfl ?_
  refine g_getN hC (kf := 1) (TT := TX1) (N := 2) (Cn := RX1) dX0_followLaw_40 hL_lm h1 rfl q_u1 (by decide) q_fn_X0_94 rfl rfl ?_
  refine g_dcmpl_le hC 57 dX0_followLaw_43 dX0_followLaw_44 (by decide) (fun c8 => ?_) (fun c8 => ?_)
  · try simp only [er1, er2, er3, er4, er5, er6, er7] at c8
    refine g_iconst hC 0 dX0_followLaw_57 (by decide) ?_
    refine g_istore hC (lv1 := [(7, .int 0), (5, .double r7), (3, .double r2), (0, .ref a), (1, .double e)]) dX0_followLaw_58 (by decide) rfl ?_
    refine g_dload hC dX0_followLaw_60 1 rfl ?_
    refine g_aload_n hC dX0_followLaw_62 3 rfl ?_
    refine g_get hC (kf := 3) (TT := TX0) (N := 16) (Cn := RX0) dX0_followLaw_63 hL_a h0 rfl q_u0 (by decide) q_fl_X0_16 rfl rfl ?_
    refine g_getN hC (kf := 0) (TT := TX1) (N := 2) (Cn := RX1) dX0_followLaw_66 hL_lm h1 rfl q_u1 (by decide) q_fn_X0_97 rfl rfl ?_
    refine g_dcmpg_ge hC 83 dX0_followLaw_69 dX0_followLaw_70 (by decide) (fun c9 => ?_) (fun c9 => ?_)
    · try simp only [er1, er2, er3, er4, er5, er6, er7] at c9
      refine g_iconst hC 0 dX0_followLaw_83 (by decide) ?_
      refine g_istore hC (lv1 := [(8, .int 0), (7, .int 0), (5, .double r7), (3, .double r2), (0, .ref a), (1, .double e)]) dX0_followLaw_84 (by decide) rfl ?_
      refine g_iload hC dX0_followLaw_86 1 rfl ?_
      refine g_if_ne hC 101 dX0_followLaw_88 (by decide) (fun c => absurd c (by decide)) (fun _ => ?_)
      refine g_iload hC dX0_followLaw_91 0 rfl ?_
      refine g_if_ne hC 101 dX0_followLaw_93 (by decide) (fun c => absurd c (by decide)) (fun _ => ?_)
      refine g_aload_n hC dX0_followLaw_96 4 rfl ?_
      refine g_dload_n hC dX0_followLaw_97 3 rfl ?_
      refine g_put hC (kf := 10) (TT := TX0) (N := 16) (Cn := RX0) (ty0 := tyX0) (fs1 := [.double (x 0), .double (x 1), .double (x 2), .ref lm, .ref bd, .ref rg, .ref tn, .double (x 3), .double (x 4), .double (x 5), .double r2, .double (x 7), .double (x 8), .int md, .int fa, va_rf ou]) dX0_followLaw_98 hL_a h0 rfl q_u0 (by decide) tyX0_ok nmX0 q_fl_X0_91 rfl rfl rfl rfl rfl (Nat.le_of_ble_eq_true rfl) rfl ?_
      refine g_nm (fun f10 hf11 => ?_)
      have h0_n : f10 a = .inr (0, [.double (x 0), .double (x 1), .double (x 2), .ref lm, .ref bd, .ref rg, .ref tn, .double (x 3), .double (x 4), .double (x 5), .double r2, .double (x 7), .double (x 8), .int md, .int fa, va_rf ou]) := by rw [hf11]; exact va_up_self _ _ _
      have h1_n : f10 lm = .inr (1, [.double lo, .double hi]) := by rw [hf11, va_up_ne _ _ (fun z => by have z1 := h1; rw [z, h0] at z1; simp at z1)]; exact h1
      have hF12 : f10 = va_up f a (.inr (0, [.double (x 0), .double (x 1), .double (x 2), .ref lm, .ref bd, .ref rg, .ref tn, .double (x 3), .double (x 4), .double (x 5), .double r2, .double (x 7), .double (x 8), .int md, .int fa, va_rf ou])) := hf11
      refine g_aload_n hC dX0_followLaw_101 4 rfl ?_
      refine g_aload_n hC dX0_followLaw_102 4 rfl ?_
      refine g_get hC (kf := 3) (TT := TX0) (N := 16) (Cn := RX0) dX0_followLaw_103 hL_a h0_n rfl q_u0 (by decide) q_fl_X0_16 rfl rfl ?_
      refine g_dload hC dX0_followLaw_106 2 rfl ?_
      refine g_callV hC (Cn := RX1) (TT := TX1) (N := 2) dX0_followLaw_108 (ct_X1_nearest l G L f10 lm lo hi r7 hL_lm h1_n) q_code_X1_nearest q_ml_X0_100 q_im_X1_nearest q_sel_X1_nearest q_init_X1 ⟨rfl, by decide, by decide, (show (parseMethodDescriptor yX1_nearest.desc).map (fun d => d.parameters.length) = some 1 from by decide +kernel)⟩ hL_lm h1_n rfl (by decide) (by decide) (Nat.le_of_ble_eq_true rfl) (fun v14 L15 f16 hp13 => ?_)
      obtain ⟨r17, rfl, hr18, rfl, rfl⟩ := hp13
      refine (show V C 9 L f10 0 0 111 [(8, .int 0), (7, .int 0), (5, .double r7), (3, .double r2), (0, .ref a), (1, .double e)] [.double r17, .ref a] from ?_)
      refine g_callV hC (Cn := RX0) (TT := TX0) (N := 16) dX0_followLaw_111 (ct_X0_moveTo l G L f10 a lm bd rg tn (va_up x 6 r2) md fa ou r17 hL_a h0_n) q_code_X0_moveTo q_ml_X0_78 q_im_X0_moveTo q_sel_X0_moveTo q_init_X0 ⟨rfl, by decide, by decide, (show (parseMethodDescriptor yX0_moveTo.desc).map (fun d => d.parameters.length) = some 1 from by decide +kernel)⟩ hL_a h0_n rfl (by decide) (by decide) (Nat.le_of_ble_eq_true rfl) (fun v20 L21 f22 hp19 => ?_)
      obtain ⟨rfl, rfl, u23, hu24, hf25⟩ := hp19
      have hf25x : f22 = va_up f10 a (.inr (0, [.double (x 0), .double (x 1), .double (x 2), .ref lm, .ref bd, .ref rg, .ref tn, .double (x 3), .double (x 4), .double u23, .double r2, .double (x 7), .double (x 8), .int md, .int fa, va_rf ou])) := hf25
      have h0_n_n : f22 a = .inr (0, [.double (x 0), .double (x 1), .double (x 2), .ref lm, .ref bd, .ref rg, .ref tn, .double (x 3), .double (x 4), .double u23, .double r2, .double (x 7), .double (x 8), .int md, .int fa, va_rf ou]) := by rw [hf25x]; exact va_up_self _ _ _
      have h1_n_n : f22 lm = .inr (1, [.double lo, .double hi]) := by rw [hf25x, va_up_ne _ _ (fun z => by have z1 := h1_n; rw [z, h0_n] at z1; simp at z1)]; exact h1_n
      have hF26 : f22 = va_up f a (.inr (0, [.double (x 0), .double (x 1), .double (x 2), .ref lm, .ref bd, .ref rg, .ref tn, .double (x 3), .double (x 4), .double u23, .double r2, .double (x 7), .double (x 8), .int md, .int fa, va_rf ou])) := by rw [hf25x, hF12, va_up_up]
      refine (show V C 9 L f22 0 0 114 [(8, .int 0), (7, .int 0), (5, .double r7), (3, .double r2), (0, .ref a), (1, .double e)] [] from ?_)
      exact g_vret hC dX0_followLaw_114 rfl ⟨rfl, rfl, u23, r2, by simp [dz, va_up, fU, fV, fA, c8, c9, hr18, hu24, er1, er2, er3, er4, er5, er6, er7], by simp [dz, va_up, fS, fV, fA, c8, c9, hr18, hu24, er1, er2, er3, er4, er5, er6, er7], hF26⟩ (Nat.zero_le _) (Nat.zero_le _)
    · try simp only [er1, er2, er3, er4, er5, er6, er7] at c9
      refine g_dload_n hC dX0_followLaw_73 4 rfl ?_
      refine g_dconst0 hC dX0_followLaw_74 ?_
      refine g_dcmpg_ge hC 83 dX0_followLaw_75 dX0_followLaw_76 (by decide) (fun c27 => ?_) (fun c27 => ?_)
      · skip
        refine g_iconst hC 0 dX0_followLaw_83 (by decide) ?_
        refine g_istore hC (lv1 := [(8, .int 0), (7, .int 0), (5, .double r7), (3, .double r2), (0, .ref a), (1, .double e)]) dX0_followLaw_84 (by decide) rfl ?_
        refine g_iload hC dX0_followLaw_86 1 rfl ?_
        refine g_if_ne hC 101 dX0_followLaw_88 (by decide) (fun c => absurd c (by decide)) (fun _ => ?_)
        refine g_iload hC dX0_followLaw_91 0 rfl ?_
        refine g_if_ne hC 101 dX0_followLaw_93 (by decide) (fun c => absurd c (by decide)) (fun _ => ?_)
        refine g_aload_n hC dX0_followLaw_96 4 rfl ?_
        refine g_dload_n hC dX0_followLaw_97 3 rfl ?_
        refine g_put hC (kf := 10) (TT := TX0) (N := 16) (Cn := RX0) (ty0 := tyX0) (fs1 := [.double (x 0), .double (x 1), .double (x 2), .ref lm, .ref bd, .ref rg, .ref tn, .double (x 3), .double (x 4), .double (x 5), .double r2, .double (x 7), .double (x 8), .int md, .int fa, va_rf ou]) dX0_followLaw_98 hL_a h0 rfl q_u0 (by decide) tyX0_ok nmX0 q_fl_X0_91 rfl rfl rfl rfl rfl (Nat.le_of_ble_eq_true rfl) rfl ?_
        refine g_nm (fun f28 hf29 => ?_)
        have h0_n : f28 a = .inr (0, [.double (x 0), .double (x 1), .double (x 2), .ref lm, .ref bd, .ref rg, .ref tn, .double (x 3), .double (x 4), .double (x 5), .double r2, .double (x 7), .double (x 8), .int md, .int fa, va_rf ou]) := by rw [hf29]; exact va_up_self _ _ _
        have h1_n : f28 lm = .inr (1, [.double lo, .double hi]) := by rw [hf29, va_up_ne _ _ (fun z => by have z1 := h1; rw [z, h0] at z1; simp at z1)]; exact h1
        have hF30 : f28 = va_up f a (.inr (0, [.double (x 0), .double (x 1), .double (x 2), .ref lm, .ref bd, .ref rg, .ref tn, .double (x 3), .double (x 4), .double (x 5), .double r2, .double (x 7), .double (x 8), .int md, .int fa, va_rf ou])) := hf29
        refine g_aload_n hC dX0_followLaw_101 4 rfl ?_
        refine g_aload_n hC dX0_followLaw_102 4 rfl ?_
        refine g_get hC (kf := 3) (TT := TX0) (N := 16) (Cn := RX0) dX0_followLaw_103 hL_a h0_n rfl q_u0 (by decide) q_fl_X0_16 rfl rfl ?_
        refine g_dload hC dX0_followLaw_106 2 rfl ?_
        refine g_callV hC (Cn := RX1) (TT := TX1) (N := 2) dX0_followLaw_108 (ct_X1_nearest l G L f28 lm lo hi r7 hL_lm h1_n) q_code_X1_nearest q_ml_X0_100 q_im_X1_nearest q_sel_X1_nearest q_init_X1 ⟨rfl, by decide, by decide, (show (parseMethodDescriptor yX1_nearest.desc).map (fun d => d.parameters.length) = some 1 from by decide +kernel)⟩ hL_lm h1_n rfl (by decide) (by decide) (Nat.le_of_ble_eq_true rfl) (fun v32 L33 f34 hp31 => ?_)
        obtain ⟨r35, rfl, hr36, rfl, rfl⟩ := hp31
        refine (show V C 9 L f28 0 0 111 [(8, .int 0), (7, .int 0), (5, .double r7), (3, .double r2), (0, .ref a), (1, .double e)] [.double r35, .ref a] from ?_)
        refine g_callV hC (Cn := RX0) (TT := TX0) (N := 16) dX0_followLaw_111 (ct_X0_moveTo l G L f28 a lm bd rg tn (va_up x 6 r2) md fa ou r35 hL_a h0_n) q_code_X0_moveTo q_ml_X0_78 q_im_X0_moveTo q_sel_X0_moveTo q_init_X0 ⟨rfl, by decide, by decide, (show (parseMethodDescriptor yX0_moveTo.desc).map (fun d => d.parameters.length) = some 1 from by decide +kernel)⟩ hL_a h0_n rfl (by decide) (by decide) (Nat.le_of_ble_eq_true rfl) (fun v38 L39 f40 hp37 => ?_)
        obtain ⟨rfl, rfl, u41, hu42, hf43⟩ := hp37
        have hf43x : f40 = va_up f28 a (.inr (0, [.double (x 0), .double (x 1), .double (x 2), .ref lm, .ref bd, .ref rg, .ref tn, .double (x 3), .double (x 4), .double u41, .double r2, .double (x 7), .double (x 8), .int md, .int fa, va_rf ou])) := hf43
        have h0_n_n : f40 a = .inr (0, [.double (x 0), .double (x 1), .double (x 2), .ref lm, .ref bd, .ref rg, .ref tn, .double (x 3), .double (x 4), .double u41, .double r2, .double (x 7), .double (x 8), .int md, .int fa, va_rf ou]) := by rw [hf43x]; exact va_up_self _ _ _
        have h1_n_n : f40 lm = .inr (1, [.double lo, .double hi]) := by rw [hf43x, va_up_ne _ _ (fun z => by have z1 := h1_n; rw [z, h0_n] at z1; simp at z1)]; exact h1_n
        have hF44 : f40 = va_up f a (.inr (0, [.double (x 0), .double (x 1), .double (x 2), .ref lm, .ref bd, .ref rg, .ref tn, .double (x 3), .double (x 4), .double u41, .double r2, .double (x 7), .double (x 8), .int md, .int fa, va_rf ou])) := by rw [hf43x, hF30, va_up_up]
        refine (show V C 9 L f40 0 0 114 [(8, .int 0), (7, .int 0), (5, .double r7), (3, .double r2), (0, .ref a), (1, .double e)] [] from ?_)
        exact g_vret hC dX0_followLaw_114 rfl ⟨rfl, rfl, u41, r2, by simp [dz, va_up, fU, fV, fA, c8, c9, c27, hr36, hu42, er1, er2, er3, er4, er5, er6, er7], by simp [dz, va_up, fS, fV, fA, c8, c9, c27, hr36, hu42, er1, er2, er3, er4, er5, er6, er7], hF44⟩ (Nat.zero_le _) (Nat.zero_le _)
      · skip
        refine g_iconst hC 1 dX0_followLaw_79 (by decide) ?_
        refine g_goto hC 84 dX0_followLaw_80 (by decide) ?_
        refine g_istore hC (lv1 := [(8, .int 1), (7, .int 0), (5, .double r7), (3, .double r2), (0, .ref a), (1, .double e)]) dX0_followLaw_84 (by decide) rfl ?_
        refine g_iload hC dX0_followLaw_86 1 rfl ?_
        refine g_if_ne hC 101 dX0_followLaw_88 (by decide) (fun c => absurd c (by decide)) (fun _ => ?_)
        refine g_iload hC dX0_followLaw_91 0 rfl ?_
        refine g_if_ne hC 101 dX0_followLaw_93 (by decide) (fun _ => ?_) (fun c => absurd c (by decide))
        refine g_aload_n hC dX0_followLaw_101 4 rfl ?_
        refine g_aload_n hC dX0_followLaw_102 4 rfl ?_
        refine g_get hC (kf := 3) (TT := TX0) (N := 16) (Cn := RX0) dX0_followLaw_103 hL_a h0 rfl q_u0 (by decide) q_fl_X0_16 rfl rfl ?_
        refine g_dload hC dX0_followLaw_106 2 rfl ?_
        refine g_callV hC (Cn := RX1) (TT := TX1) (N := 2) dX0_followLaw_108 (ct_X1_nearest l G L f lm lo hi r7 hL_lm h1) q_code_X1_nearest q_ml_X0_100 q_im_X1_nearest q_sel_X1_nearest q_init_X1 ⟨rfl, by decide, by decide, (show (parseMethodDescriptor yX1_nearest.desc).map (fun d => d.parameters.length) = some 1 from by decide +kernel)⟩ hL_lm h1 rfl (by decide) (by decide) (Nat.le_of_ble_eq_true rfl) (fun v46 L47 f48 hp45 => ?_)
        obtain ⟨r49, rfl, hr50, rfl, rfl⟩ := hp45
        refine (show V C 9 L f 0 0 111 [(8, .int 1), (7, .int 0), (5, .double r7), (3, .double r2), (0, .ref a), (1, .double e)] [.double r49, .ref a] from ?_)
        refine g_callV hC (Cn := RX0) (TT := TX0) (N := 16) dX0_followLaw_111 (ct_X0_moveTo l G L f a lm bd rg tn (x) md fa ou r49 hL_a h0) q_code_X0_moveTo q_ml_X0_78 q_im_X0_moveTo q_sel_X0_moveTo q_init_X0 ⟨rfl, by decide, by decide, (show (parseMethodDescriptor yX0_moveTo.desc).map (fun d => d.parameters.length) = some 1 from by decide +kernel)⟩ hL_a h0 rfl (by decide) (by decide) (Nat.le_of_ble_eq_true rfl) (fun v52 L53 f54 hp51 => ?_)
        obtain ⟨rfl, rfl, u55, hu56, hf57⟩ := hp51
        have hf57x : f54 = va_up f a (.inr (0, [.double (x 0), .double (x 1), .double (x 2), .ref lm, .ref bd, .ref rg, .ref tn, .double (x 3), .double (x 4), .double u55, .double (x 6), .double (x 7), .double (x 8), .int md, .int fa, va_rf ou])) := hf57
        have h0_n : f54 a = .inr (0, [.double (x 0), .double (x 1), .double (x 2), .ref lm, .ref bd, .ref rg, .ref tn, .double (x 3), .double (x 4), .double u55, .double (x 6), .double (x 7), .double (x 8), .int md, .int fa, va_rf ou]) := by rw [hf57x]; exact va_up_self _ _ _
        have h1_n : f54 lm = .inr (1, [.double lo, .double hi]) := by rw [hf57x, va_up_ne _ _ (fun z => by have z1 := h1; rw [z, h0] at z1; simp at z1)]; exact h1
        have hF58 : f54 = va_up f a (.inr (0, [.double (x 0), .double (x 1), .double (x 2), .ref lm, .ref bd, .ref rg, .ref tn, .double (x 3), .double (x 4), .double u55, .double (x 6), .double (x 7), .double (x 8), .int md, .int fa, va_rf ou])) := hf57x
        refine (show V C 9 L f54 0 0 114 [(8, .int 1), (7, .int 0), (5, .double r7), (3, .double r2), (0, .ref a), (1, .double e)] [] from ?_)
        exact g_vret hC dX0_followLaw_114 rfl ⟨rfl, rfl, u55, (x 6), by simp [dz, va_up, fU, fV, fA, c8, c9, c27, hr50, hu56, er1, er2, er3, er4, er5, er6, er7], by simp [dz, va_up, fS, fV, fA, c8, c9, c27, hr50, hu56, er1, er2, er3, er4, er5, er6, er7], hF58⟩ (Nat.zero_le _) (Nat.zero_le _)
  · try simp only [er1, er2, er3, er4, er5, er6, er7] at c8
    refine g_dload_n hC dX0_followLaw_47 3 rfl ?_
    refine g_dconst0 hC dX0_followLaw_48 ?_
    refine g_dcmpl_le hC 57 dX0_followLaw_49 dX0_followLaw_50 (by decide) (fun c59 => ?_) (fun c59 => ?_)
    · skip
      refine g_iconst hC 0 dX0_followLaw_57 (by decide) ?_
      refine g_istore hC (lv1 := [(7, .int 0), (5, .double r7), (3, .double r2), (0, .ref a), (1, .double e)]) dX0_followLaw_58 (by decide) rfl ?_
      refine g_dload hC dX0_followLaw_60 1 rfl ?_
      refine g_aload_n hC dX0_followLaw_62 3 rfl ?_
      refine g_get hC (kf := 3) (TT := TX0) (N := 16) (Cn := RX0) dX0_followLaw_63 hL_a h0 rfl q_u0 (by decide) q_fl_X0_16 rfl rfl ?_
      refine g_getN hC (kf := 0) (TT := TX1) (N := 2) (Cn := RX1) dX0_followLaw_66 hL_lm h1 rfl q_u1 (by decide) q_fn_X0_97 rfl rfl ?_
      refine g_dcmpg_ge hC 83 dX0_followLaw_69 dX0_followLaw_70 (by decide) (fun c60 => ?_) (fun c60 => ?_)
      · try simp only [er1, er2, er3, er4, er5, er6, er7] at c60
        refine g_iconst hC 0 dX0_followLaw_83 (by decide) ?_
        refine g_istore hC (lv1 := [(8, .int 0), (7, .int 0), (5, .double r7), (3, .double r2), (0, .ref a), (1, .double e)]) dX0_followLaw_84 (by decide) rfl ?_
        refine g_iload hC dX0_followLaw_86 1 rfl ?_
        refine g_if_ne hC 101 dX0_followLaw_88 (by decide) (fun c => absurd c (by decide)) (fun _ => ?_)
        refine g_iload hC dX0_followLaw_91 0 rfl ?_
        refine g_if_ne hC 101 dX0_followLaw_93 (by decide) (fun c => absurd c (by decide)) (fun _ => ?_)
        refine g_aload_n hC dX0_followLaw_96 4 rfl ?_
        refine g_dload_n hC dX0_followLaw_97 3 rfl ?_
        refine g_put hC (kf := 10) (TT := TX0) (N := 16) (Cn := RX0) (ty0 := tyX0) (fs1 := [.double (x 0), .double (x 1), .double (x 2), .ref lm, .ref bd, .ref rg, .ref tn, .double (x 3), .double (x 4), .double (x 5), .double r2, .double (x 7), .double (x 8), .int md, .int fa, va_rf ou]) dX0_followLaw_98 hL_a h0 rfl q_u0 (by decide) tyX0_ok nmX0 q_fl_X0_91 rfl rfl rfl rfl rfl (Nat.le_of_ble_eq_true rfl) rfl ?_
        refine g_nm (fun f61 hf62 => ?_)
        have h0_n : f61 a = .inr (0, [.double (x 0), .double (x 1), .double (x 2), .ref lm, .ref bd, .ref rg, .ref tn, .double (x 3), .double (x 4), .double (x 5), .double r2, .double (x 7), .double (x 8), .int md, .int fa, va_rf ou]) := by rw [hf62]; exact va_up_self _ _ _
        have h1_n : f61 lm = .inr (1, [.double lo, .double hi]) := by rw [hf62, va_up_ne _ _ (fun z => by have z1 := h1; rw [z, h0] at z1; simp at z1)]; exact h1
        have hF63 : f61 = va_up f a (.inr (0, [.double (x 0), .double (x 1), .double (x 2), .ref lm, .ref bd, .ref rg, .ref tn, .double (x 3), .double (x 4), .double (x 5), .double r2, .double (x 7), .double (x 8), .int md, .int fa, va_rf ou])) := hf62
        refine g_aload_n hC dX0_followLaw_101 4 rfl ?_
        refine g_aload_n hC dX0_followLaw_102 4 rfl ?_
        refine g_get hC (kf := 3) (TT := TX0) (N := 16) (Cn := RX0) dX0_followLaw_103 hL_a h0_n rfl q_u0 (by decide) q_fl_X0_16 rfl rfl ?_
        refine g_dload hC dX0_followLaw_106 2 rfl ?_
        refine g_callV hC (Cn := RX1) (TT := TX1) (N := 2) dX0_followLaw_108 (ct_X1_nearest l G L f61 lm lo hi r7 hL_lm h1_n) q_code_X1_nearest q_ml_X0_100 q_im_X1_nearest q_sel_X1_nearest q_init_X1 ⟨rfl, by decide, by decide, (show (parseMethodDescriptor yX1_nearest.desc).map (fun d => d.parameters.length) = some 1 from by decide +kernel)⟩ hL_lm h1_n rfl (by decide) (by decide) (Nat.le_of_ble_eq_true rfl) (fun v65 L66 f67 hp64 => ?_)
        obtain ⟨r68, rfl, hr69, rfl, rfl⟩ := hp64
        refine (show V C 9 L f61 0 0 111 [(8, .int 0), (7, .int 0), (5, .double r7), (3, .double r2), (0, .ref a), (1, .double e)] [.double r68, .ref a] from ?_)
        refine g_callV hC (Cn := RX0) (TT := TX0) (N := 16) dX0_followLaw_111 (ct_X0_moveTo l G L f61 a lm bd rg tn (va_up x 6 r2) md fa ou r68 hL_a h0_n) q_code_X0_moveTo q_ml_X0_78 q_im_X0_moveTo q_sel_X0_moveTo q_init_X0 ⟨rfl, by decide, by decide, (show (parseMethodDescriptor yX0_moveTo.desc).map (fun d => d.parameters.length) = some 1 from by decide +kernel)⟩ hL_a h0_n rfl (by decide) (by decide) (Nat.le_of_ble_eq_true rfl) (fun v71 L72 f73 hp70 => ?_)
        obtain ⟨rfl, rfl, u74, hu75, hf76⟩ := hp70
        have hf76x : f73 = va_up f61 a (.inr (0, [.double (x 0), .double (x 1), .double (x 2), .ref lm, .ref bd, .ref rg, .ref tn, .double (x 3), .double (x 4), .double u74, .double r2, .double (x 7), .double (x 8), .int md, .int fa, va_rf ou])) := hf76
        have h0_n_n : f73 a = .inr (0, [.double (x 0), .double (x 1), .double (x 2), .ref lm, .ref bd, .ref rg, .ref tn, .double (x 3), .double (x 4), .double u74, .double r2, .double (x 7), .double (x 8), .int md, .int fa, va_rf ou]) := by rw [hf76x]; exact va_up_self _ _ _
        have h1_n_n : f73 lm = .inr (1, [.double lo, .double hi]) := by rw [hf76x, va_up_ne _ _ (fun z => by have z1 := h1_n; rw [z, h0_n] at z1; simp at z1)]; exact h1_n
        have hF77 : f73 = va_up f a (.inr (0, [.double (x 0), .double (x 1), .double (x 2), .ref lm, .ref bd, .ref rg, .ref tn, .double (x 3), .double (x 4), .double u74, .double r2, .double (x 7), .double (x 8), .int md, .int fa, va_rf ou])) := by rw [hf76x, hF63, va_up_up]
        refine (show V C 9 L f73 0 0 114 [(8, .int 0), (7, .int 0), (5, .double r7), (3, .double r2), (0, .ref a), (1, .double e)] [] from ?_)
        exact g_vret hC dX0_followLaw_114 rfl ⟨rfl, rfl, u74, r2, by simp [dz, va_up, fU, fV, fA, c8, c59, c60, hr69, hu75, er1, er2, er3, er4, er5, er6, er7], by simp [dz, va_up, fS, fV, fA, c8, c59, c60, hr69, hu75, er1, er2, er3, er4, er5, er6, er7], hF77⟩ (Nat.zero_le _) (Nat.zero_le _)
      · try simp only [er1, er2, er3, er4, er5, er6, er7] at c60
        refine g_dload_n hC dX0_followLaw_73 4 rfl ?_
        refine g_dconst0 hC dX0_followLaw_74 ?_
        refine g_dcmpg_ge hC 83 dX0_followLaw_75 dX0_followLaw_76 (by decide) (fun c78 => ?_) (fun c78 => ?_)
        · skip
          refine g_iconst hC 0 dX0_followLaw_83 (by decide) ?_
          refine g_istore hC (lv1 := [(8, .int 0), (7, .int 0), (5, .double r7), (3, .double r2), (0, .ref a), (1, .double e)]) dX0_followLaw_84 (by decide) rfl ?_
          refine g_iload hC dX0_followLaw_86 1 rfl ?_
          refine g_if_ne hC 101 dX0_followLaw_88 (by decide) (fun c => absurd c (by decide)) (fun _ => ?_)
          refine g_iload hC dX0_followLaw_91 0 rfl ?_
          refine g_if_ne hC 101 dX0_followLaw_93 (by decide) (fun c => absurd c (by decide)) (fun _ => ?_)
          refine g_aload_n hC dX0_followLaw_96 4 rfl ?_
          refine g_dload_n hC dX0_followLaw_97 3 rfl ?_
          refine g_put hC (kf := 10) (TT := TX0) (N := 16) (Cn := RX0) (ty0 := tyX0) (fs1 := [.double (x 0), .double (x 1), .double (x 2), .ref lm, .ref bd, .ref rg, .ref tn, .double (x 3), .double (x 4), .double (x 5), .double r2, .double (x 7), .double (x 8), .int md, .int fa, va_rf ou]) dX0_followLaw_98 hL_a h0 rfl q_u0 (by decide) tyX0_ok nmX0 q_fl_X0_91 rfl rfl rfl rfl rfl (Nat.le_of_ble_eq_true rfl) rfl ?_
          refine g_nm (fun f79 hf80 => ?_)
          have h0_n : f79 a = .inr (0, [.double (x 0), .double (x 1), .double (x 2), .ref lm, .ref bd, .ref rg, .ref tn, .double (x 3), .double (x 4), .double (x 5), .double r2, .double (x 7), .double (x 8), .int md, .int fa, va_rf ou]) := by rw [hf80]; exact va_up_self _ _ _
          have h1_n : f79 lm = .inr (1, [.double lo, .double hi]) := by rw [hf80, va_up_ne _ _ (fun z => by have z1 := h1; rw [z, h0] at z1; simp at z1)]; exact h1
          have hF81 : f79 = va_up f a (.inr (0, [.double (x 0), .double (x 1), .double (x 2), .ref lm, .ref bd, .ref rg, .ref tn, .double (x 3), .double (x 4), .double (x 5), .double r2, .double (x 7), .double (x 8), .int md, .int fa, va_rf ou])) := hf80
          refine g_aload_n hC dX0_followLaw_101 4 rfl ?_
          refine g_aload_n hC dX0_followLaw_102 4 rfl ?_
          refine g_get hC (kf := 3) (TT := TX0) (N := 16) (Cn := RX0) dX0_followLaw_103 hL_a h0_n rfl q_u0 (by decide) q_fl_X0_16 rfl rfl ?_
          refine g_dload hC dX0_followLaw_106 2 rfl ?_
          refine g_callV hC (Cn := RX1) (TT := TX1) (N := 2) dX0_followLaw_108 (ct_X1_nearest l G L f79 lm lo hi r7 hL_lm h1_n) q_code_X1_nearest q_ml_X0_100 q_im_X1_nearest q_sel_X1_nearest q_init_X1 ⟨rfl, by decide, by decide, (show (parseMethodDescriptor yX1_nearest.desc).map (fun d => d.parameters.length) = some 1 from by decide +kernel)⟩ hL_lm h1_n rfl (by decide) (by decide) (Nat.le_of_ble_eq_true rfl) (fun v83 L84 f85 hp82 => ?_)
          obtain ⟨r86, rfl, hr87, rfl, rfl⟩ := hp82
          refine (show V C 9 L f79 0 0 111 [(8, .int 0), (7, .int 0), (5, .double r7), (3, .double r2), (0, .ref a), (1, .double e)] [.double r86, .ref a] from ?_)
          refine g_callV hC (Cn := RX0) (TT := TX0) (N := 16) dX0_followLaw_111 (ct_X0_moveTo l G L f79 a lm bd rg tn (va_up x 6 r2) md fa ou r86 hL_a h0_n) q_code_X0_moveTo q_ml_X0_78 q_im_X0_moveTo q_sel_X0_moveTo q_init_X0 ⟨rfl, by decide, by decide, (show (parseMethodDescriptor yX0_moveTo.desc).map (fun d => d.parameters.length) = some 1 from by decide +kernel)⟩ hL_a h0_n rfl (by decide) (by decide) (Nat.le_of_ble_eq_true rfl) (fun v89 L90 f91 hp88 => ?_)
          obtain ⟨rfl, rfl, u92, hu93, hf94⟩ := hp88
          have hf94x : f91 = va_up f79 a (.inr (0, [.double (x 0), .double (x 1), .double (x 2), .ref lm, .ref bd, .ref rg, .ref tn, .double (x 3), .double (x 4), .double u92, .double r2, .double (x 7), .double (x 8), .int md, .int fa, va_rf ou])) := hf94
          have h0_n_n : f91 a = .inr (0, [.double (x 0), .double (x 1), .double (x 2), .ref lm, .ref bd, .ref rg, .ref tn, .double (x 3), .double (x 4), .double u92, .double r2, .double (x 7), .double (x 8), .int md, .int fa, va_rf ou]) := by rw [hf94x]; exact va_up_self _ _ _
          have h1_n_n : f91 lm = .inr (1, [.double lo, .double hi]) := by rw [hf94x, va_up_ne _ _ (fun z => by have z1 := h1_n; rw [z, h0_n] at z1; simp at z1)]; exact h1_n
          have hF95 : f91 = va_up f a (.inr (0, [.double (x 0), .double (x 1), .double (x 2), .ref lm, .ref bd, .ref rg, .ref tn, .double (x 3), .double (x 4), .double u92, .double r2, .double (x 7), .double (x 8), .int md, .int fa, va_rf ou])) := by rw [hf94x, hF81, va_up_up]
          refine (show V C 9 L f91 0 0 114 [(8, .int 0), (7, .int 0), (5, .double r7), (3, .double r2), (0, .ref a), (1, .double e)] [] from ?_)
          exact g_vret hC dX0_followLaw_114 rfl ⟨rfl, rfl, u92, r2, by simp [dz, va_up, fU, fV, fA, c8, c59, c60, c78, hr87, hu93, er1, er2, er3, er4, er5, er6, er7], by simp [dz, va_up, fS, fV, fA, c8, c59, c60, c78, hr87, hu93, er1, er2, er3, er4, er5, er6, er7], hF95⟩ (Nat.zero_le _) (Nat.zero_le _)
        · skip
          refine g_iconst hC 1 dX0_followLaw_79 (by decide) ?_
          refine g_goto hC 84 dX0_followLaw_80 (by decide) ?_
          refine g_istore hC (lv1 := [(8, .int 1), (7, .int 0), (5, .double r7), (3, .double r2), (0, .ref a), (1, .double e)]) dX0_followLaw_84 (by decide) rfl ?_
          refine g_iload hC dX0_followLaw_86 1 rfl ?_
          refine g_if_ne hC 101 dX0_followLaw_88 (by decide) (fun c => absurd c (by decide)) (fun _ => ?_)
          refine g_iload hC dX0_followLaw_91 0 rfl ?_
          refine g_if_ne hC 101 dX0_followLaw_93 (by decide) (fun _ => ?_) (fun c => absurd c (by decide))
          refine g_aload_n hC dX0_followLaw_101 4 rfl ?_
          refine g_aload_n hC dX0_followLaw_102 4 rfl ?_
          refine g_get hC (kf := 3) (TT := TX0) (N := 16) (Cn := RX0) dX0_followLaw_103 hL_a h0 rfl q_u0 (by decide) q_fl_X0_16 rfl rfl ?_
          refine g_dload hC dX0_followLaw_106 2 rfl ?_
          refine g_callV hC (Cn := RX1) (TT := TX1) (N := 2) dX0_followLaw_108 (ct_X1_nearest l G L f lm lo hi r7 hL_lm h1) q_code_X1_nearest q_ml_X0_100 q_im_X1_nearest q_sel_X1_nearest q_init_X1 ⟨rfl, by decide, by decide, (show (parseMethodDescriptor yX1_nearest.desc).map (fun d => d.parameters.length) = some 1 from by decide +kernel)⟩ hL_lm h1 rfl (by decide) (by decide) (Nat.le_of_ble_eq_true rfl) (fun v97 L98 f99 hp96 => ?_)
          obtain ⟨r100, rfl, hr101, rfl, rfl⟩ := hp96
          refine (show V C 9 L f 0 0 111 [(8, .int 1), (7, .int 0), (5, .double r7), (3, .double r2), (0, .ref a), (1, .double e)] [.double r100, .ref a] from ?_)
          refine g_callV hC (Cn := RX0) (TT := TX0) (N := 16) dX0_followLaw_111 (ct_X0_moveTo l G L f a lm bd rg tn (x) md fa ou r100 hL_a h0) q_code_X0_moveTo q_ml_X0_78 q_im_X0_moveTo q_sel_X0_moveTo q_init_X0 ⟨rfl, by decide, by decide, (show (parseMethodDescriptor yX0_moveTo.desc).map (fun d => d.parameters.length) = some 1 from by decide +kernel)⟩ hL_a h0 rfl (by decide) (by decide) (Nat.le_of_ble_eq_true rfl) (fun v103 L104 f105 hp102 => ?_)
          obtain ⟨rfl, rfl, u106, hu107, hf108⟩ := hp102
          have hf108x : f105 = va_up f a (.inr (0, [.double (x 0), .double (x 1), .double (x 2), .ref lm, .ref bd, .ref rg, .ref tn, .double (x 3), .double (x 4), .double u106, .double (x 6), .double (x 7), .double (x 8), .int md, .int fa, va_rf ou])) := hf108
          have h0_n : f105 a = .inr (0, [.double (x 0), .double (x 1), .double (x 2), .ref lm, .ref bd, .ref rg, .ref tn, .double (x 3), .double (x 4), .double u106, .double (x 6), .double (x 7), .double (x 8), .int md, .int fa, va_rf ou]) := by rw [hf108x]; exact va_up_self _ _ _
          have h1_n : f105 lm = .inr (1, [.double lo, .double hi]) := by rw [hf108x, va_up_ne _ _ (fun z => by have z1 := h1; rw [z, h0] at z1; simp at z1)]; exact h1
          have hF109 : f105 = va_up f a (.inr (0, [.double (x 0), .double (x 1), .double (x 2), .ref lm, .ref bd, .ref rg, .ref tn, .double (x 3), .double (x 4), .double u106, .double (x 6), .double (x 7), .double (x 8), .int md, .int fa, va_rf ou])) := hf108x
          refine (show V C 9 L f105 0 0 114 [(8, .int 1), (7, .int 0), (5, .double r7), (3, .double r2), (0, .ref a), (1, .double e)] [] from ?_)
          exact g_vret hC dX0_followLaw_114 rfl ⟨rfl, rfl, u106, (x 6), by simp [dz, va_up, fU, fV, fA, c8, c59, c60, c78, hr101, hu107, er1, er2, er3, er4, er5, er6, er7], by simp [dz, va_up, fS, fV, fA, c8, c59, c60, c78, hr101, hu107, er1, er2, er3, er4, er5, er6, er7], hF109⟩ (Nat.zero_le _) (Nat.zero_le _)
    · skip
      refine g_iconst hC 1 dX0_followLaw_53 (by decide) ?_
      refine g_goto hC 58 dX0_followLaw_54 (by decide) ?_
      refine g_istore hC (lv1 := [(7, .int 1), (5, .double r7), (3, .double r2), (0, .ref a), (1, .double e)]) dX0_followLaw_58 (by decide) rfl ?_
      refine g_dload hC dX0_followLaw_60 1 rfl ?_
      refine g_aload_n hC dX0_followLaw_62 3 rfl ?_
      refine g_get hC (kf := 3) (TT := TX0) (N := 16) (Cn := RX0) dX0_followLaw_63 hL_a h0 rfl q_u0 (by decide) q_fl_X0_16 rfl rfl ?_
      refine g_getN hC (kf := 0) (TT := TX1) (N := 2) (Cn := RX1) dX0_followLaw_66 hL_lm h1 rfl q_u1 (by decide) q_fn_X0_97 rfl rfl ?_
      refine g_dcmpg_ge hC 83 dX0_followLaw_69 dX0_followLaw_70 (by decide) (fun c110 => ?_) (fun c110 => ?_)
      · try simp only [er1, er2, er3, er4, er5, er6, er7] at c110
        refine g_iconst hC 0 dX0_followLaw_83 (by decide) ?_
        refine g_istore hC (lv1 := [(8, .int 0), (7, .int 1), (5, .double r7), (3, .double r2), (0, .ref a), (1, .double e)]) dX0_followLaw_84 (by decide) rfl ?_
        refine g_iload hC dX0_followLaw_86 1 rfl ?_
        refine g_if_ne hC 101 dX0_followLaw_88 (by decide) (fun _ => ?_) (fun c => absurd c (by decide))
        refine g_aload_n hC dX0_followLaw_101 4 rfl ?_
        refine g_aload_n hC dX0_followLaw_102 4 rfl ?_
        refine g_get hC (kf := 3) (TT := TX0) (N := 16) (Cn := RX0) dX0_followLaw_103 hL_a h0 rfl q_u0 (by decide) q_fl_X0_16 rfl rfl ?_
        refine g_dload hC dX0_followLaw_106 2 rfl ?_
        refine g_callV hC (Cn := RX1) (TT := TX1) (N := 2) dX0_followLaw_108 (ct_X1_nearest l G L f lm lo hi r7 hL_lm h1) q_code_X1_nearest q_ml_X0_100 q_im_X1_nearest q_sel_X1_nearest q_init_X1 ⟨rfl, by decide, by decide, (show (parseMethodDescriptor yX1_nearest.desc).map (fun d => d.parameters.length) = some 1 from by decide +kernel)⟩ hL_lm h1 rfl (by decide) (by decide) (Nat.le_of_ble_eq_true rfl) (fun v112 L113 f114 hp111 => ?_)
        obtain ⟨r115, rfl, hr116, rfl, rfl⟩ := hp111
        refine (show V C 9 L f 0 0 111 [(8, .int 0), (7, .int 1), (5, .double r7), (3, .double r2), (0, .ref a), (1, .double e)] [.double r115, .ref a] from ?_)
        refine g_callV hC (Cn := RX0) (TT := TX0) (N := 16) dX0_followLaw_111 (ct_X0_moveTo l G L f a lm bd rg tn (x) md fa ou r115 hL_a h0) q_code_X0_moveTo q_ml_X0_78 q_im_X0_moveTo q_sel_X0_moveTo q_init_X0 ⟨rfl, by decide, by decide, (show (parseMethodDescriptor yX0_moveTo.desc).map (fun d => d.parameters.length) = some 1 from by decide +kernel)⟩ hL_a h0 rfl (by decide) (by decide) (Nat.le_of_ble_eq_true rfl) (fun v118 L119 f120 hp117 => ?_)
        obtain ⟨rfl, rfl, u121, hu122, hf123⟩ := hp117
        have hf123x : f120 = va_up f a (.inr (0, [.double (x 0), .double (x 1), .double (x 2), .ref lm, .ref bd, .ref rg, .ref tn, .double (x 3), .double (x 4), .double u121, .double (x 6), .double (x 7), .double (x 8), .int md, .int fa, va_rf ou])) := hf123
        have h0_n : f120 a = .inr (0, [.double (x 0), .double (x 1), .double (x 2), .ref lm, .ref bd, .ref rg, .ref tn, .double (x 3), .double (x 4), .double u121, .double (x 6), .double (x 7), .double (x 8), .int md, .int fa, va_rf ou]) := by rw [hf123x]; exact va_up_self _ _ _
        have h1_n : f120 lm = .inr (1, [.double lo, .double hi]) := by rw [hf123x, va_up_ne _ _ (fun z => by have z1 := h1; rw [z, h0] at z1; simp at z1)]; exact h1
        have hF124 : f120 = va_up f a (.inr (0, [.double (x 0), .double (x 1), .double (x 2), .ref lm, .ref bd, .ref rg, .ref tn, .double (x 3), .double (x 4), .double u121, .double (x 6), .double (x 7), .double (x 8), .int md, .int fa, va_rf ou])) := hf123x
        refine (show V C 9 L f120 0 0 114 [(8, .int 0), (7, .int 1), (5, .double r7), (3, .double r2), (0, .ref a), (1, .double e)] [] from ?_)
        exact g_vret hC dX0_followLaw_114 rfl ⟨rfl, rfl, u121, (x 6), by simp [dz, va_up, fU, fV, fA, c8, c59, c110, hr116, hu122, er1, er2, er3, er4, er5, er6, er7], by simp [dz, va_up, fS, fV, fA, c8, c59, c110, hr116, hu122, er1, er2, er3, er4, er5, er6, er7], hF124⟩ (Nat.zero_le _) (Nat.zero_le _)
      · try simp only [er1, er2, er3, er4, er5, er6, er7] at c110
        refine g_dload_n hC dX0_followLaw_73 4 rfl ?_
        refine g_dconst0 hC dX0_followLaw_74 ?_
        refine g_dcmpg_ge hC 83 dX0_followLaw_75 dX0_followLaw_76 (by decide) (fun c125 => ?_) (fun c125 => ?_)
        · skip
          refine g_iconst hC 0 dX0_followLaw_83 (by decide) ?_
          refine g_istore hC (lv1 := [(8, .int 0), (7, .int 1), (5, .double r7), (3, .double r2), (0, .ref a), (1, .double e)]) dX0_followLaw_84 (by decide) rfl ?_
          refine g_iload hC dX0_followLaw_86 1 rfl ?_
          refine g_if_ne hC 101 dX0_followLaw_88 (by decide) (fun _ => ?_) (fun c => absurd c (by decide))
          refine g_aload_n hC dX0_followLaw_101 4 rfl ?_
          refine g_aload_n hC dX0_followLaw_102 4 rfl ?_
          refine g_get hC (kf := 3) (TT := TX0) (N := 16) (Cn := RX0) dX0_followLaw_103 hL_a h0 rfl q_u0 (by decide) q_fl_X0_16 rfl rfl ?_
          refine g_dload hC dX0_followLaw_106 2 rfl ?_
          refine g_callV hC (Cn := RX1) (TT := TX1) (N := 2) dX0_followLaw_108 (ct_X1_nearest l G L f lm lo hi r7 hL_lm h1) q_code_X1_nearest q_ml_X0_100 q_im_X1_nearest q_sel_X1_nearest q_init_X1 ⟨rfl, by decide, by decide, (show (parseMethodDescriptor yX1_nearest.desc).map (fun d => d.parameters.length) = some 1 from by decide +kernel)⟩ hL_lm h1 rfl (by decide) (by decide) (Nat.le_of_ble_eq_true rfl) (fun v127 L128 f129 hp126 => ?_)
          obtain ⟨r130, rfl, hr131, rfl, rfl⟩ := hp126
          refine (show V C 9 L f 0 0 111 [(8, .int 0), (7, .int 1), (5, .double r7), (3, .double r2), (0, .ref a), (1, .double e)] [.double r130, .ref a] from ?_)
          refine g_callV hC (Cn := RX0) (TT := TX0) (N := 16) dX0_followLaw_111 (ct_X0_moveTo l G L f a lm bd rg tn (x) md fa ou r130 hL_a h0) q_code_X0_moveTo q_ml_X0_78 q_im_X0_moveTo q_sel_X0_moveTo q_init_X0 ⟨rfl, by decide, by decide, (show (parseMethodDescriptor yX0_moveTo.desc).map (fun d => d.parameters.length) = some 1 from by decide +kernel)⟩ hL_a h0 rfl (by decide) (by decide) (Nat.le_of_ble_eq_true rfl) (fun v133 L134 f135 hp132 => ?_)
          obtain ⟨rfl, rfl, u136, hu137, hf138⟩ := hp132
          have hf138x : f135 = va_up f a (.inr (0, [.double (x 0), .double (x 1), .double (x 2), .ref lm, .ref bd, .ref rg, .ref tn, .double (x 3), .double (x 4), .double u136, .double (x 6), .double (x 7), .double (x 8), .int md, .int fa, va_rf ou])) := hf138
          have h0_n : f135 a = .inr (0, [.double (x 0), .double (x 1), .double (x 2), .ref lm, .ref bd, .ref rg, .ref tn, .double (x 3), .double (x 4), .double u136, .double (x 6), .double (x 7), .double (x 8), .int md, .int fa, va_rf ou]) := by rw [hf138x]; exact va_up_self _ _ _
          have h1_n : f135 lm = .inr (1, [.double lo, .double hi]) := by rw [hf138x, va_up_ne _ _ (fun z => by have z1 := h1; rw [z, h0] at z1; simp at z1)]; exact h1
          have hF139 : f135 = va_up f a (.inr (0, [.double (x 0), .double (x 1), .double (x 2), .ref lm, .ref bd, .ref rg, .ref tn, .double (x 3), .double (x 4), .double u136, .double (x 6), .double (x 7), .double (x 8), .int md, .int fa, va_rf ou])) := hf138x
          refine (show V C 9 L f135 0 0 114 [(8, .int 0), (7, .int 1), (5, .double r7), (3, .double r2), (0, .ref a), (1, .double e)] [] from ?_)
          exact g_vret hC dX0_followLaw_114 rfl ⟨rfl, rfl, u136, (x 6), by simp [dz, va_up, fU, fV, fA, c8, c59, c110, c125, hr131, hu137, er1, er2, er3, er4, er5, er6, er7], by simp [dz, va_up, fS, fV, fA, c8, c59, c110, c125, hr131, hu137, er1, er2, er3, er4, er5, er6, er7], hF139⟩ (Nat.zero_le _) (Nat.zero_le _)
        · skip
          refine g_iconst hC 1 dX0_followLaw_79 (by decide) ?_
          refine g_goto hC 84 dX0_followLaw_80 (by decide) ?_
          refine g_istore hC (lv1 := [(8, .int 1), (7, .int 1), (5, .double r7), (3, .double r2), (0, .ref a), (1, .double e)]) dX0_followLaw_84 (by decide) rfl ?_
          refine g_iload hC dX0_followLaw_86 1 rfl ?_
          refine g_if_ne hC 101 dX0_followLaw_88 (by decide) (fun _ => ?_) (fun c => absurd c (by decide))
          refine g_aload_n hC dX0_followLaw_101 4 rfl ?_
          refine g_aload_n hC dX0_followLaw_102 4 rfl ?_
          refine g_get hC (kf := 3) (TT := TX0) (N := 16) (Cn := RX0) dX0_followLaw_103 hL_a h0 rfl q_u0 (by decide) q_fl_X0_16 rfl rfl ?_
          refine g_dload hC dX0_followLaw_106 2 rfl ?_
          refine g_callV hC (Cn := RX1) (TT := TX1) (N := 2) dX0_followLaw_108 (ct_X1_nearest l G L f lm lo hi r7 hL_lm h1) q_code_X1_nearest q_ml_X0_100 q_im_X1_nearest q_sel_X1_nearest q_init_X1 ⟨rfl, by decide, by decide, (show (parseMethodDescriptor yX1_nearest.desc).map (fun d => d.parameters.length) = some 1 from by decide +kernel)⟩ hL_lm h1 rfl (by decide) (by decide) (Nat.le_of_ble_eq_true rfl) (fun v141 L142 f143 hp140 => ?_)
          obtain ⟨r144, rfl, hr145, rfl, rfl⟩ := hp140
          refine (show V C 9 L f 0 0 111 [(8, .int 1), (7, .int 1), (5, .double r7), (3, .double r2), (0, .ref a), (1, .double e)] [.double r144, .ref a] from ?_)
          refine g_callV hC (Cn := RX0) (TT := TX0) (N := 16) dX0_followLaw_111 (ct_X0_moveTo l G L f a lm bd rg tn (x) md fa ou r144 hL_a h0) q_code_X0_moveTo q_ml_X0_78 q_im_X0_moveTo q_sel_X0_moveTo q_init_X0 ⟨rfl, by decide, by decide, (show (parseMethodDescriptor yX0_moveTo.desc).map (fun d => d.parameters.length) = some 1 from by decide +kernel)⟩ hL_a h0 rfl (by decide) (by decide) (Nat.le_of_ble_eq_true rfl) (fun v147 L148 f149 hp146 => ?_)
          obtain ⟨rfl, rfl, u150, hu151, hf152⟩ := hp146
          have hf152x : f149 = va_up f a (.inr (0, [.double (x 0), .double (x 1), .double (x 2), .ref lm, .ref bd, .ref rg, .ref tn, .double (x 3), .double (x 4), .double u150, .double (x 6), .double (x 7), .double (x 8), .int md, .int fa, va_rf ou])) := hf152
          have h0_n : f149 a = .inr (0, [.double (x 0), .double (x 1), .double (x 2), .ref lm, .ref bd, .ref rg, .ref tn, .double (x 3), .double (x 4), .double u150, .double (x 6), .double (x 7), .double (x 8), .int md, .int fa, va_rf ou]) := by rw [hf152x]; exact va_up_self _ _ _
          have h1_n : f149 lm = .inr (1, [.double lo, .double hi]) := by rw [hf152x, va_up_ne _ _ (fun z => by have z1 := h1; rw [z, h0] at z1; simp at z1)]; exact h1
          have hF153 : f149 = va_up f a (.inr (0, [.double (x 0), .double (x 1), .double (x 2), .ref lm, .ref bd, .ref rg, .ref tn, .double (x 3), .double (x 4), .double u150, .double (x 6), .double (x 7), .double (x 8), .int md, .int fa, va_rf ou])) := hf152x
          refine (show V C 9 L f149 0 0 114 [(8, .int 1), (7, .int 1), (5, .double r7), (3, .double r2), (0, .ref a), (1, .double e)] [] from ?_)
          exact g_vret hC dX0_followLaw_114 rfl ⟨rfl, rfl, u150, (x 6), by simp [dz, va_up, fU, fV, fA, c8, c59, c110, c125, hr145, hu151, er1, er2, er3, er4, er5, er6, er7], by simp [dz, va_up, fS, fV, fA, c8, c59, c110, c125, hr145, hu151, er1, er2, er3, er4, er5, er6, er7], hF153⟩ (Nat.zero_le _) (Nat.zero_le _)
