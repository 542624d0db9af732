def modC (m : Int32) : Bool := !decide (m < 0) && decide (m ≤ 2)
def mdH (z : Nat → DT) (md m : Int32) : DT := if m = md then z 8 else if m = 0 then z 5 else z 8
def mdS (z : Nat → DT) (md m : Int32) : DT := if m = md then z 6 else if m = 1 then qsub (z 5) (qmul (z 0) (z 7)) else z 6
set_option maxHeartbeats 4000000 in
set_option maxRecDepth 100000 in
/-- mode(loop, m) -/
theorem ct_X4_mode (l : Launch) (G : GD) (L : List Nat) (f : Nat → va_E) {c : Nat → Nat → Nat} {n k : Nat} {X : Nat → Nat → UInt64} {XS : Nat → UInt64} {Z : Nat → Nat → Int32} {OU : Nat → Option Nat} {SL : Nat → Nat} (hI : CI G c n k X XS Z OU SL L f) (kx m : Int32) : Ctr l yX4_mode cX4_mode 4 (some .boolean) { frames := 1, cells := 0, slots := 0, locals := 30 } G [.ref (c 6 0), .int kx, .int m] L f (fun vv L1 f1 => L = L1 ∧ (((∀ i, i < n → kx = nI i → modC m = false) ∧ vv = some (.int 0) ∧ f = f1) ∨ (∃ i, i < n ∧ kx = nI i ∧ modC m = true ∧ vv = some (.int 1) ∧ FRc L f f1 ∧ ∃ h s : UInt64, dv h = mdH (dz (X i)) (Z i 0) m ∧ dv s = mdS (dz (X i)) (Z i 0) m ∧ CI G c n k (va_up X i (va_up (va_up (X i) 6 s) 8 h)) XS (va_up Z i (va_up (Z i) 0 m)) OU SL L f1))) := by
  refine g_enter RX4 false (by decide) rfl (fun h => by cases h) (Nat.le_of_ble_eq_true rfl) (fun C hC => ?_)
  refine (show V C 4 L f 0 0 0 [(0, .ref (c 6 0)), (1, .int kx), (2, .int m)] [] from ?_)
  refine g_aload_n hC dX4_mode_0 0 rfl ?_
  refine g_iload_n hC dX4_mode_1 1 rfl ?_
  refine g_callV hC (Cn := RX4) (TT := TX4) (N := 4) dX4_mode_2 (ct_X4_findLoop l G L f hI kx) q_code_X4_findLoop q_ml_X4_32 q_im_X4_findLoop q_sel_X4_findLoop q_init_X4 ⟨rfl, by decide, by decide, (show (parseMethodDescriptor yX4_findLoop.desc).map (fun d => d.parameters.length) = some 1 from by decide +kernel)⟩ (CI.hm hI) (CI.h0 hI) rfl (by decide) (by decide) (Nat.le_of_ble_eq_true rfl) (fun v2 L3 f4 hp1 => ?_)
  obtain ⟨rfl, rfl, ⟨rfl, hno_i⟩ | ⟨i, hi, rfl, rfl⟩⟩ := hp1
  · refine (show V C 4 L f 0 0 5 [(0, .ref (c 6 0)), (1, .int kx), (2, .int m)] [.null] from ?_)
    refine g_astore_nN hC (lv1 := [(3, .null), (0, .ref (c 6 0)), (1, .int kx), (2, .int m)]) dX4_mode_5 (by decide) rfl ?_
    refine g_aload_nN hC dX4_mode_6 0 rfl ?_
    refine g_ifnullN hC 19 dX4_mode_7 (by decide) ?_
    refine g_iconst hC 0 dX4_mode_19 (by decide) ?_
    exact g_iret hC dX4_mode_20 rfl rfl ⟨rfl, Or.inl ⟨fun j hj q => absurd q (hno_i j hj), rfl, rfl⟩⟩ (Nat.zero_le _) (Nat.zero_le _)
  · refine (show V C 4 L f 0 0 5 [(0, .ref (c 6 0)), (1, .int (nI i)), (2, .int m)] [.ref (c 0 i)] from ?_)
    refine g_astore_n hC (lv1 := [(3, .ref (c 0 i)), (0, .ref (c 6 0)), (1, .int (nI i)), (2, .int m)]) dX4_mode_5 (by decide) rfl ?_
    refine g_aload_n hC dX4_mode_6 0 rfl ?_
    refine g_ifnull hC dX4_mode_7 ?_
    refine g_iload_n hC dX4_mode_10 3 rfl ?_
    refine g_if_lt hC 19 dX4_mode_11 (by decide) (fun c5 => ?_) (fun c5 => ?_)
    · skip
      refine g_iconst hC 0 dX4_mode_19 (by decide) ?_
      exact g_iret hC dX4_mode_20 rfl rfl ⟨rfl, Or.inl ⟨fun _ _ _ => by simp only [modC, decide_true, decide_false, Bool.and_true, Bool.true_and, Bool.and_false, Bool.false_and, Bool.not_true, Bool.not_false, eq_true c5], rfl, rfl⟩⟩ (Nat.zero_le _) (Nat.zero_le _)
    · skip
      refine g_iload_n hC dX4_mode_14 3 rfl ?_
      refine g_iconst hC 2 dX4_mode_15 (by decide) ?_
      refine g_icmp_le hC 21 dX4_mode_16 (by decide) (fun c6 => ?_) (fun c6 => ?_)
      · skip
        refine g_aload_n hC dX4_mode_21 0 rfl ?_
        refine g_iload_n hC dX4_mode_22 3 rfl ?_
        refine g_callV hC (Cn := RX0) (TT := TX0) (N := 16) dX4_mode_23 (ct_X0_turnTo l G L f (c 0 i) (c 1 i) (c 2 i) (c 3 i) (c 4 i) (X i) (Z i 0) (Z i 1) ((OU i).map (c 0)) m (CI.lp hI hi).1.1 (CI.lp hI hi).1.2) q_code_X0_turnTo q_ml_X4_74 q_im_X0_turnTo q_sel_X0_turnTo q_init_X0 ⟨rfl, by decide, by decide, (show (parseMethodDescriptor yX0_turnTo.desc).map (fun d => d.parameters.length) = some 1 from by decide +kernel)⟩ (CI.lp hI hi).1.1 (CI.lp hI hi).1.2 rfl (by decide) (by decide) (Nat.le_of_ble_eq_true rfl) (fun v8 L9 f10 hp7 => ?_)
        obtain ⟨rfl, rfl, hq⟩ := hp7
        refine (show V C 4 L f10 0 0 26 [(3, .ref (c 0 i)), (0, .ref (c 6 0)), (1, .int (nI i)), (2, .int m)] [] from ?_)
        refine g_iconst hC 1 dX4_mode_26 (by decide) ?_
        refine g_iret hC dX4_mode_27 rfl rfl ⟨rfl, Or.inr ⟨i, hi, rfl, by simp only [modC, decide_true, decide_false, Bool.and_true, Bool.true_and, Bool.and_false, Bool.false_and, Bool.not_true, Bool.not_false, eq_false c5, eq_true c6], rfl, ?_, ?_⟩⟩ (Nat.zero_le _) (Nat.zero_le _)
        · rcases hq with ⟨-, hq⟩ | ⟨-, h, s, -, -, hq⟩
          · rw [← hq]; exact FRc.rf
          · rw [hq]; exact FRc.up _ FRc.rf (CI.lp hI hi).1.2 rfl
        · rcases hq with ⟨hm, hq⟩ | ⟨hm, h, s, hh, hs, hq⟩
          · refine ⟨X i 8, X i 6, by simp only [mdH, if_pos hm], by simp only [mdS, if_pos hm], ?_⟩
            rw [← hq, va_up_id (f := X i) rfl, va_up_id (f := X i) rfl, va_up_id (f := X) rfl, va_up_id (f := Z i) hm.symm, va_up_id (f := Z) rfl]; exact hI
          · refine ⟨h, s, by simp only [mdH, if_neg hm]; exact hh, by simp only [mdS, if_neg hm]; exact hs, ?_⟩
            have h2 := CI.loop hI hi (va_up (va_up (X i) 6 s) 8 h) (va_up (Z i) 0 m) (OU i) (fun j hj => by rw [va_up_ne _ _ (by omega), va_up_ne _ _ (by omega)]) (fun j hj => va_up_ne _ _ (by omega)) (fun o ho => hI.2.2.2.2.2.2.2.1 i o hi ho)
            rw [va_up_id (f := OU) rfl] at h2; rw [hq]; exact h2
      · skip
        refine g_iconst hC 0 dX4_mode_19 (by decide) ?_
        exact g_iret hC dX4_mode_20 rfl rfl ⟨rfl, Or.inl ⟨fun _ _ _ => by simp only [modC, decide_true, decide_false, Bool.and_true, Bool.true_and, Bool.and_false, Bool.false_and, Bool.not_true, Bool.not_false, eq_false c5, eq_false c6], rfl, rfl⟩⟩ (Nat.zero_le _) (Nat.zero_le _)
set_option maxHeartbeats 4000000 in
set_option maxRecDepth 100000 in
/-- tuned(loop, k) -/
theorem ct_X4_tuned (l : Launch) (G : GD) (L : List Nat) (f : Nat → va_E) {c : Nat → Nat → Nat} {n k : Nat} {X : Nat → Nat → UInt64} {XS : Nat → UInt64} {Z : Nat → Nat → Int32} {OU : Nat → Option Nat} {SL : Nat → Nat} (hI : CI G c n k X XS Z OU SL L f) (kx k0 : Int32) : Ctr l yX4_tuned cX4_tuned 4 (some .double) { frames := 1, cells := 0, slots := 0, locals := 30 } G [.ref (c 6 0), .int kx, .int k0] L f (fun vv L1 f1 => L = L1 ∧ f = f1 ∧ (((∀ i, i < n → ¬ kx = nI i) ∧ vv = some (.double 0)) ∨ ∃ i, i < n ∧ kx = nI i ∧ ∃ r : UInt64, vv = some (.double r) ∧ dv r = tgS (dv (X i 16)) (dv (X i 17)) (Z i 5) k0)) := by
  refine g_enter RX4 false (by decide) rfl (fun h => by cases h) (Nat.le_of_ble_eq_true rfl) (fun C hC => ?_)
  refine (show V C 4 L f 0 0 0 [(0, .ref (c 6 0)), (1, .int kx), (2, .int k0)] [] from ?_)
  refine g_aload_n hC dX4_tuned_0 0 rfl ?_
  refine g_iload_n hC dX4_tuned_1 1 rfl ?_
  refine g_callV hC (Cn := RX4) (TT := TX4) (N := 4) dX4_tuned_2 (ct_X4_findLoop l G L f hI kx) q_code_X4_findLoop q_ml_X4_32 q_im_X4_findLoop q_sel_X4_findLoop q_init_X4 ⟨rfl, by decide, by decide, (show (parseMethodDescriptor yX4_findLoop.desc).map (fun d => d.parameters.length) = some 1 from by decide +kernel)⟩ (CI.hm hI) (CI.h0 hI) rfl (by decide) (by decide) (Nat.le_of_ble_eq_true rfl) (fun v2 L3 f4 hp1 => ?_)
  obtain ⟨rfl, rfl, ⟨rfl, hno_i⟩ | ⟨i, hi, rfl, rfl⟩⟩ := hp1
  · refine (show V C 4 L f 0 0 5 [(0, .ref (c 6 0)), (1, .int kx), (2, .int k0)] [.null] from ?_)
    refine g_astore_nN hC (lv1 := [(3, .null), (0, .ref (c 6 0)), (1, .int kx), (2, .int k0)]) dX4_tuned_5 (by decide) rfl ?_
    refine g_aload_nN hC dX4_tuned_6 0 rfl ?_
    refine g_ifnonnullN hC dX4_tuned_7 ?_
    refine g_dconst0 hC dX4_tuned_10 ?_
    refine g_goto hC 22 dX4_tuned_11 (by decide) ?_
    exact g_dret hC dX4_tuned_22 rfl ⟨rfl, rfl, Or.inl ⟨hno_i, rfl⟩⟩ (Nat.zero_le _) (Nat.zero_le _)
  · refine (show V C 4 L f 0 0 5 [(0, .ref (c 6 0)), (1, .int (nI i)), (2, .int k0)] [.ref (c 0 i)] from ?_)
    refine g_astore_n hC (lv1 := [(3, .ref (c 0 i)), (0, .ref (c 6 0)), (1, .int (nI i)), (2, .int k0)]) dX4_tuned_5 (by decide) rfl ?_
    refine g_aload_n hC dX4_tuned_6 0 rfl ?_
    refine g_ifnonnull hC 14 dX4_tuned_7 (by decide) ?_
    refine g_aload_n hC dX4_tuned_14 0 rfl ?_
    refine g_getN hC (kf := 6) (TT := TX0) (N := 16) (Cn := RX0) dX4_tuned_15 (CI.lp hI hi).1.1 (CI.lp hI hi).1.2 rfl q_u0 (by decide) q_fn_X4_117 rfl rfl ?_
    refine g_iload_n hC dX4_tuned_18 3 rfl ?_
    refine g_callV hC (Cn := RX3) (TT := TX3) (N := 7) dX4_tuned_19 (ct_X3_gain l G L f (c 4 i) (X i 15) (Z i 2) (Z i 3) (Z i 4) (X i 16) (X i 17) (Z i 5) k0 (CI.lp hI hi).2.2.2.2.1 (CI.lp hI hi).2.2.2.2.2) q_code_X3_gain q_ml_X4_127 q_im_X3_gain q_sel_X3_gain q_init_X3 ⟨rfl, by decide, by decide, (show (parseMethodDescriptor yX3_gain.desc).map (fun d => d.parameters.length) = some 1 from by decide +kernel)⟩ (CI.lp hI hi).2.2.2.2.1 (CI.lp hI hi).2.2.2.2.2 rfl (by decide) (by decide) (Nat.le_of_ble_eq_true rfl) (fun v6 L7 f8 hp5 => ?_)
    obtain ⟨r, rfl, hr, rfl, rfl⟩ := hp5
    refine (show V C 4 L f 0 0 22 [(3, .ref (c 0 i)), (0, .ref (c 6 0)), (1, .int (nI i)), (2, .int k0)] [.double r] from ?_)
    exact g_dret hC dX4_tuned_22 rfl ⟨rfl, rfl, Or.inr ⟨i, hi, rfl, r, rfl, hr⟩⟩ (Nat.zero_le _) (Nat.zero_le _)
def tunC (s : Int32) : Bool := !decide (s < 1) && decide (s ≤ 10000)
theorem tun_of {s : Int32} (h1 : ¬ s < 1) (h2 : s ≤ 10000) : ∃ m : Nat, m ≤ 10000 ∧ s = nI m := by
  have h0 : ¬ s < 0 := fun h => h1 (by rw [Int32.lt_iff_toInt_lt] at h ⊢; exact Int.lt_trans h (by decide))
  exact nI_of2 (M := 10000) (n := 10000) (by decide) h0 h2
set_option maxHeartbeats 4000000 in
set_option maxRecDepth 100000 in
/-- tune(loop, seconds) -/
theorem ct_X4_tune (l : Launch) (G : GD) (L : List Nat) (f : Nat → va_E) {c : Nat → Nat → Nat} {n k : Nat} {X : Nat → Nat → UInt64} {XS : Nat → UInt64} {Z : Nat → Nat → Int32} {OU : Nat → Option Nat} {SL : Nat → Nat} (hI : CI G c n k X XS Z OU SL L f) (kx sc : Int32) : Ctr l yX4_tune cX4_tune 4 (some .int) { frames := 3, cells := 0, slots := 0, locals := 72 } G [.ref (c 6 0), .int kx, .int sc] L f (fun vv L1 f1 => L = L1 ∧ (((∀ i, i < n → kx = nI i → tunC sc = false) ∧ vv = some (.int (-1)) ∧ f = f1) ∨ (∃ i, i < n ∧ kx = nI i ∧ ∃ m : Nat, m ≤ 10000 ∧ sc = nI m ∧ tunC sc = true ∧ FRc L f f1 ∧ ∃ (le1 : UInt64) (rl1 sw1 lr1 : Int32) (mn1 mx1 : UInt64) (pe1 : Int32), (dv le1, rl1, sw1, lr1, dv mn1, dv mx1, pe1) = tRun (dv 0, 0, 0, 0, dv (X i 16), dv (X i 17), 0) m ∧ vv = some (.int sw1) ∧ CI G c n k (va_up X i (va_up (va_up (va_up (X i) 15 le1) 16 mn1) 17 mx1)) XS (va_up Z i (va_up (va_up (va_up (va_up (Z i) 2 rl1) 3 sw1) 4 lr1) 5 pe1)) OU SL L f1))) := by
  refine g_enter RX4 false (by decide) rfl (fun h => by cases h) (Nat.le_of_ble_eq_true rfl) (fun C hC => ?_)
  refine (show V C 4 L f 0 0 0 [(0, .ref (c 6 0)), (1, .int kx), (2, .int sc)] [] from ?_)
  refine g_aload_n hC dX4_tune_0 0 rfl ?_
  refine g_iload_n hC dX4_tune_1 1 rfl ?_
  refine g_callV hC (Cn := RX4) (TT := TX4) (N := 4) dX4_tune_2 (ct_X4_findLoop l G L f hI kx) q_code_X4_findLoop q_ml_X4_32 q_im_X4_findLoop q_sel_X4_findLoop q_init_X4 ⟨rfl, by decide, by decide, (show (parseMethodDescriptor yX4_findLoop.desc).map (fun d => d.parameters.length) = some 1 from by decide +kernel)⟩ (CI.hm hI) (CI.h0 hI) rfl (by decide) (by decide) (Nat.le_of_ble_eq_true rfl) (fun v2 L3 f4 hp1 => ?_)
  obtain ⟨rfl, rfl, ⟨rfl, hno_i⟩ | ⟨i, hi, rfl, rfl⟩⟩ := hp1
  · refine (show V C 4 L f 0 0 5 [(0, .ref (c 6 0)), (1, .int kx), (2, .int sc)] [.null] from ?_)
    refine g_astore_nN hC (lv1 := [(3, .null), (0, .ref (c 6 0)), (1, .int kx), (2, .int sc)]) dX4_tune_5 (by decide) rfl ?_
    refine g_aload_nN hC dX4_tune_6 0 rfl ?_
    refine g_ifnullN hC 22 dX4_tune_7 (by decide) ?_
    refine g_iconst hC (-1) dX4_tune_22 (by decide) ?_
    exact g_iret hC dX4_tune_23 rfl rfl ⟨rfl, Or.inl ⟨fun j hj q => absurd q (hno_i j hj), rfl, rfl⟩⟩ (Nat.zero_le _) (Nat.zero_le _)
  · refine (show V C 4 L f 0 0 5 [(0, .ref (c 6 0)), (1, .int (nI i)), (2, .int sc)] [.ref (c 0 i)] from ?_)
    refine g_astore_n hC (lv1 := [(3, .ref (c 0 i)), (0, .ref (c 6 0)), (1, .int (nI i)), (2, .int sc)]) dX4_tune_5 (by decide) rfl ?_
    refine g_aload_n hC dX4_tune_6 0 rfl ?_
    refine g_ifnull hC dX4_tune_7 ?_
    refine g_iload_n hC dX4_tune_10 3 rfl ?_
    refine g_iconst hC 1 dX4_tune_11 (by decide) ?_
    refine g_icmp_lt hC 22 dX4_tune_12 (by decide) (fun c5 => ?_) (fun c5 => ?_)
    · skip
      refine g_iconst hC (-1) dX4_tune_22 (by decide) ?_
      exact g_iret hC dX4_tune_23 rfl rfl ⟨rfl, Or.inl ⟨fun _ _ _ => by simp only [tunC, decide_true, decide_false, Bool.and_true, Bool.true_and, Bool.and_false, Bool.false_and, Bool.not_true, Bool.not_false, eq_true c5], rfl, rfl⟩⟩ (Nat.zero_le _) (Nat.zero_le _)
    · skip
      refine g_iload_n hC dX4_tune_15 3 rfl ?_
      refine g_sipush hC 10000 dX4_tune_16 (by decide) ?_
      refine g_icmp_le hC 24 dX4_tune_19 (by decide) (fun c6 => ?_) (fun c6 => ?_)
      · skip
        refine g_aload_n hC dX4_tune_24 0 rfl ?_
        refine g_getN hC (kf := 6) (TT := TX0) (N := 16) (Cn := RX0) dX4_tune_25 (CI.lp hI hi).1.1 (CI.lp hI hi).1.2 rfl q_u0 (by decide) q_fn_X4_117 rfl rfl ?_
        refine g_iload_n hC dX4_tune_28 3 rfl ?_
        obtain ⟨m, hm, rfl⟩ := tun_of c5 c6
        refine g_callV hC (Cn := RX3) (TT := TX3) (N := 7) dX4_tune_29 (ct_X3_run l G L f (c 4 i) (X i 15) (Z i 2) (Z i 3) (Z i 4) (X i 16) (X i 17) (Z i 5) m (by omega) (CI.lp hI hi).2.2.2.2.1 (CI.lp hI hi).2.2.2.2.2) q_code_X3_run q_ml_X4_121 q_im_X3_run q_sel_X3_run q_init_X3 ⟨rfl, by decide, by decide, (show (parseMethodDescriptor yX3_run.desc).map (fun d => d.parameters.length) = some 1 from by decide +kernel)⟩ (CI.lp hI hi).2.2.2.2.1 (CI.lp hI hi).2.2.2.2.2 rfl (by decide) (by decide) (Nat.le_of_ble_eq_true rfl) (fun v8 L9 f10 hp7 => ?_)
        obtain ⟨le1, rl1, sw1, lr1, mn1, mx1, pe1, rfl, rfl, hr, hf⟩ := hp7
        refine (show V C 4 L f10 0 0 32 [(3, .ref (c 0 i)), (0, .ref (c 6 0)), (1, .int (nI i)), (2, .int (nI m))] [.int sw1] from ?_)
        refine g_iret hC dX4_tune_32 rfl rfl ⟨rfl, Or.inr ⟨i, hi, rfl, m, hm, rfl, by simp only [tunC, decide_true, decide_false, Bool.and_true, Bool.true_and, Bool.and_false, Bool.false_and, Bool.not_true, Bool.not_false, eq_false c5, eq_true c6], ?_, le1, rl1, sw1, lr1, mn1, mx1, pe1, hr, rfl, ?_⟩⟩ (Nat.zero_le _) (Nat.zero_le _)
        · rw [hf]; exact FRc.up _ FRc.rf (CI.lp hI hi).2.2.2.2.2 rfl
        · rw [hf]; exact CI.tune hI hi (va_up (va_up (va_up (X i) 15 le1) 16 mn1) 17 mx1) (va_up (va_up (va_up (va_up (Z i) 2 rl1) 3 sw1) 4 lr1) 5 pe1) (fun j hj => by rw [va_up_ne _ _ (by omega), va_up_ne _ _ (by omega), va_up_ne _ _ (by omega)]) (fun j hj => by rw [va_up_ne _ _ (by omega), va_up_ne _ _ (by omega), va_up_ne _ _ (by omega), va_up_ne _ _ (by omega)])
      · skip
        refine g_iconst hC (-1) dX4_tune_22 (by decide) ?_
        exact g_iret hC dX4_tune_23 rfl rfl ⟨rfl, Or.inl ⟨fun _ _ _ => by simp only [tunC, decide_true, decide_false, Bool.and_true, Bool.true_and, Bool.and_false, Bool.false_and, Bool.not_true, Bool.not_false, eq_false c5, eq_false c6], rfl, rfl⟩⟩ (Nat.zero_le _) (Nat.zero_le _)
def parC (wh : Int32) : Bool := !decide (wh < 0) && decide (wh ≤ 1)
set_option maxHeartbeats 4000000 in
set_option maxRecDepth 100000 in
/-- part(split, which) -/
theorem ct_X4_part (l : Launch) (G : GD) (L : List Nat) (f : Nat → va_E) {c : Nat → Nat → Nat} {n k : Nat} {X : Nat → Nat → UInt64} {XS : Nat → UInt64} {Z : Nat → Nat → Int32} {OU : Nat → Option Nat} {SL : Nat → Nat} (hI : CI G c n k X XS Z OU SL L f) (kx wh : Int32) : Ctr l yX4_part cX4_part 4 (some .double) { frames := 2, cells := 0, slots := 0, locals := 50 } G [.ref (c 6 0), .int kx, .int wh] L f (fun vv L1 f1 => L = L1 ∧ f = f1 ∧ (((∀ j, j < k → kx = nI j → parC wh = false) ∧ vv = some (.double 13830554455654793216)) ∨ ∃ j, j < k ∧ kx = nI j ∧ parC wh = true ∧ ∃ r : UInt64, vv = some (.double r) ∧ dv r = shS (dv (XS j)) (dv (X (SL j) 5)) (dv (X (SL j) 9)) (dv (X (SL j) 10)) wh)) := by
  refine g_enter RX4 false (by decide) rfl (fun h => by cases h) (Nat.le_of_ble_eq_true rfl) (fun C hC => ?_)
  refine (show V C 4 L f 0 0 0 [(0, .ref (c 6 0)), (1, .int kx), (2, .int wh)] [] from ?_)
  refine g_aload_n hC dX4_part_0 0 rfl ?_
  refine g_iload_n hC dX4_part_1 1 rfl ?_
  refine g_callV hC (Cn := RX4) (TT := TX4) (N := 4) dX4_part_2 (ct_X4_findSplit l G L f hI kx) q_code_X4_findSplit q_ml_X4_104 q_im_X4_findSplit q_sel_X4_findSplit q_init_X4 ⟨rfl, by decide, by decide, (show (parseMethodDescriptor yX4_findSplit.desc).map (fun d => d.parameters.length) = some 1 from by decide +kernel)⟩ (CI.hm hI) (CI.h0 hI) rfl (by decide) (by decide) (Nat.le_of_ble_eq_true rfl) (fun v2 L3 f4 hp1 => ?_)
  obtain ⟨rfl, rfl, ⟨rfl, hno_j⟩ | ⟨j, hj, rfl, rfl⟩⟩ := hp1
  · refine (show V C 4 L f 0 0 5 [(0, .ref (c 6 0)), (1, .int kx), (2, .int wh)] [.null] from ?_)
    refine g_astore_nN hC (lv1 := [(3, .null), (0, .ref (c 6 0)), (1, .int kx), (2, .int wh)]) dX4_part_5 (by decide) rfl ?_
    refine g_aload_nN hC dX4_part_6 0 rfl ?_
    refine g_ifnullN hC 19 dX4_part_7 (by decide) ?_
    refine g_ldc2 hC dX4_part_19 q_cd_X4_108 ?_
    exact g_dret hC dX4_part_22 rfl ⟨rfl, rfl, Or.inl ⟨fun j hj q => absurd q (hno_j j hj), rfl⟩⟩ (Nat.zero_le _) (Nat.zero_le _)
  · refine (show V C 4 L f 0 0 5 [(0, .ref (c 6 0)), (1, .int (nI j)), (2, .int wh)] [.ref (c 5 j)] from ?_)
    refine g_astore_n hC (lv1 := [(3, .ref (c 5 j)), (0, .ref (c 6 0)), (1, .int (nI j)), (2, .int wh)]) dX4_part_5 (by decide) rfl ?_
    refine g_aload_n hC dX4_part_6 0 rfl ?_
    refine g_ifnull hC dX4_part_7 ?_
    refine g_iload_n hC dX4_part_10 3 rfl ?_
    refine g_if_lt hC 19 dX4_part_11 (by decide) (fun c5 => ?_) (fun c5 => ?_)
    · skip
      refine g_ldc2 hC dX4_part_19 q_cd_X4_108 ?_
      exact g_dret hC dX4_part_22 rfl ⟨rfl, rfl, Or.inl ⟨fun _ _ _ => by simp only [parC, decide_true, decide_false, Bool.and_true, Bool.true_and, Bool.and_false, Bool.false_and, Bool.not_true, Bool.not_false, eq_true c5], rfl⟩⟩ (Nat.zero_le _) (Nat.zero_le _)
    · skip
      refine g_iload_n hC dX4_part_14 3 rfl ?_
      refine g_iconst hC 1 dX4_part_15 (by decide) ?_
      refine g_icmp_le hC 23 dX4_part_16 (by decide) (fun c6 => ?_) (fun c6 => ?_)
      · skip
        refine g_aload_n hC dX4_part_23 0 rfl ?_
        refine g_iload_n hC dX4_part_24 3 rfl ?_
        have hs := CI.sp hI hj
        have hp := CI.lp hI hs.2.2
        refine g_callV hC (Cn := RX2) (TT := TX2) (N := 2) dX4_part_25 (ct_X2_share l G L f (c 5 j) (c 0 (SL j)) (c 1 (SL j)) (c 2 (SL j)) (c 3 (SL j)) (c 4 (SL j)) (XS j) (X (SL j) 9) (X (SL j) 10) (X (SL j)) (Z (SL j) 0) (Z (SL j) 1) ((OU (SL j)).map (c 0)) wh hs.1 hp.1.1 hp.2.1.1 hs.2.1 hp.1.2 hp.2.1.2) q_code_X2_share q_ml_X4_110 q_im_X2_share q_sel_X2_share q_init_X2 ⟨rfl, by decide, by decide, (show (parseMethodDescriptor yX2_share.desc).map (fun d => d.parameters.length) = some 1 from by decide +kernel)⟩ hs.1 hs.2.1 rfl (by decide) (by decide) (Nat.le_of_ble_eq_true rfl) (fun v8 L9 f10 hp7 => ?_)
        obtain ⟨r, rfl, hr, rfl, rfl⟩ := hp7
        refine (show V C 4 L f 0 0 28 [(3, .ref (c 5 j)), (0, .ref (c 6 0)), (1, .int (nI j)), (2, .int wh)] [.double r] from ?_)
        exact g_dret hC dX4_part_28 rfl ⟨rfl, rfl, Or.inr ⟨j, hj, rfl, by simp only [parC, decide_true, decide_false, Bool.and_true, Bool.true_and, Bool.and_false, Bool.false_and, Bool.not_true, Bool.not_false, eq_false c5, eq_true c6], r, rfl, hr⟩⟩ (Nat.zero_le _) (Nat.zero_le _)
      · skip
        refine g_ldc2 hC dX4_part_19 q_cd_X4_108 ?_
        exact g_dret hC dX4_part_22 rfl ⟨rfl, rfl, Or.inl ⟨fun _ _ _ => by simp only [parC, decide_true, decide_false, Bool.and_true, Bool.true_and, Bool.and_false, Bool.false_and, Bool.not_true, Bool.not_false, eq_false c5, eq_false c6], rfl⟩⟩ (Nat.zero_le _) (Nat.zero_le _)
