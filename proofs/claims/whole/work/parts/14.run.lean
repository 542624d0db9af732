set_option maxHeartbeats 4000000 in
set_option maxRecDepth 100000 in
/-- run(seconds) -/
theorem ct_X3_run (l : Launch) (G : GD) (L : List Nat) (f : Nat → va_E) (a : Nat) (le : UInt64) (rl sw lr : Int32) (mn mx : UInt64) (pe : Int32) (n : Nat) (hn : n < 2 ^ 31) (hL_a : a ∈ L) (h0 : f a = eTn le rl sw lr mn mx pe) : Ctr l yX3_run cX3_run 3 (some .int) { frames := 2, cells := 0, slots := 0, locals := 46 } G [.ref a, .int (nI n)] L f (fun vv L1 f1 => ∃ (le1 : UInt64) (rl1 sw1 lr1 : Int32) (mn1 mx1 : UInt64) (pe1 : Int32), vv = some (.int sw1) ∧ L = L1 ∧ (dv le1, rl1, sw1, lr1, dv mn1, dv mx1, pe1) = tRun (dv 0, 0, 0, 0, dv mn, dv mx, 0) n ∧ f1 = va_up f a (eTn le1 rl1 sw1 lr1 mn1 mx1 pe1)) := by
  refine g_enter RX3 false (by decide) rfl (fun h => by cases h) (Nat.le_of_ble_eq_true rfl) (fun C hC => ?_)
  refine (show V C 3 L f 0 0 0 [(0, .ref a), (1, .int (nI n))] [] from ?_)
  have K : ∀ (m j : Nat), j + m = n → ∀ (F : Nat → va_E) (le1 : UInt64) (rl1 sw1 lr1 : Int32) (mn1 mx1 : UInt64) (pe1 : Int32), (dv le1, rl1, sw1, lr1, dv mn1, dv mx1, pe1) = tRun (dv 0, 0, 0, 0, dv mn, dv mx, 0) j → F = va_up f a (eTn le1 rl1 sw1 lr1 mn1 mx1 pe1) → V C 3 L F 0 0 27 [(2, .int (nI j)), (0, .ref a), (1, .int (nI n))] [] := by
    intro m
    induction m with
    | zero =>
      intro j hj F le1 rl1 sw1 lr1 mn1 mx1 pe1 hr hF
      have hjn : j = n := by omega
      have hh : F a = eTn le1 rl1 sw1 lr1 mn1 mx1 pe1 := by rw [hF]; exact va_up_self _ _ _
      refine g_iload_n hC dX3_run_27 0 rfl ?_
      refine g_iload_n hC dX3_run_28 2 rfl ?_
      refine g_icmp_ge hC 43 dX3_run_29 (by decide) (fun _ => ?_) (fun c => absurd (show nI n ≤ nI j by rw [hjn]; exact nI_le (Nat.le_refl _) hn) c)
      refine g_aload_n hC dX3_run_43 1 rfl ?_
      refine g_get hC (kf := 2) (TT := TX3) (N := 7) (Cn := RX3) dX3_run_44 hL_a hh rfl q_u3 (by decide) q_fl_X3_17 rfl rfl ?_
      exact g_iret hC dX3_run_47 rfl rfl ⟨le1, rl1, sw1, lr1, mn1, mx1, pe1, rfl, rfl, by rw [hr, hjn], hF⟩ (Nat.zero_le _) (Nat.zero_le _)
    | succ m ih =>
      intro j hj F le1 rl1 sw1 lr1 mn1 mx1 pe1 hr hF
      have hh : F a = eTn le1 rl1 sw1 lr1 mn1 mx1 pe1 := by rw [hF]; exact va_up_self _ _ _
      refine g_iload_n hC dX3_run_27 0 rfl ?_
      refine g_iload_n hC dX3_run_28 2 rfl ?_
      refine g_icmp_ge hC 43 dX3_run_29 (by decide) (fun c => absurd c (nI_ge (by omega) hn)) (fun _ => ?_)
      refine g_aload_n hC dX3_run_32 1 rfl ?_
      refine g_iload_n hC dX3_run_33 0 rfl ?_
      refine g_callV hC (Cn := RX3) (TT := TX3) (N := 7) dX3_run_34 (ct_X3_step l G L F a le1 rl1 sw1 lr1 mn1 mx1 pe1 (nI j) hL_a hh) q_code_X3_step q_ml_X3_26 q_im_X3_step q_sel_X3_step q_init_X3 ⟨rfl, by decide, by decide, (show (parseMethodDescriptor yX3_step.desc).map (fun d => d.parameters.length) = some 1 from by decide +kernel)⟩ hL_a hh rfl (by decide) (by decide) (Nat.le_of_ble_eq_true rfl) (fun v2 L3 f4 hp1 => ?_)
      obtain ⟨rfl, rfl, le2, rl2, sw2, lr2, mn2, mx2, pe2, hs, hf2⟩ := hp1
      rw [hF] at hf2
      rw [va_up_up] at hf2
      refine (show V C 3 L f4 0 0 37 [(2, .int (nI j)), (0, .ref a), (1, .int (nI n))] [] from ?_)
      refine g_iinc hC (v := nI (j + 1)) (lv1 := [(2, .int (nI (j + 1))), (0, .ref a), (1, .int (nI n))]) dX3_run_37 0 rfl (by rw [nI_succ]; rfl) (by decide) rfl ?_
      refine g_goto hC 27 dX3_run_40 (by decide) ?_
      exact ih (j + 1) (by omega) f4 le2 rl2 sw2 lr2 mn2 mx2 pe2 (by rw [hs, hr]; rfl) hf2
  refine g_aload_n hC dX3_run_0 0 rfl ?_
  refine g_dconst0 hC dX3_run_1 ?_
  refine g_put hC (kf := 0) (TT := TX3) (N := 7) (Cn := RX3) (ty0 := tyX3) (fs1 := [.double 0, .int rl, .int sw, .int lr, .double mn, .double mx, .int pe]) dX3_run_2 hL_a h0 rfl q_u3 (by decide) tyX3_ok nmX3 q_fl_X3_7 rfl rfl rfl rfl rfl (Nat.le_of_ble_eq_true rfl) rfl ?_
  refine g_nm (fun f1 hf2 => ?_)
  have hx3 : f1 a = .inr (3, [.double 0, .int rl, .int sw, .int lr, .double mn, .double mx, .int pe]) := by rw [hf2]; exact va_up_self _ _ _
  have hF4 : f1 = va_up f a (.inr (3, [.double 0, .int rl, .int sw, .int lr, .double mn, .double mx, .int pe])) := hf2
  refine g_aload_n hC dX3_run_5 0 rfl ?_
  refine g_iconst hC 0 dX3_run_6 (by decide) ?_
  refine g_put hC (kf := 1) (TT := TX3) (N := 7) (Cn := RX3) (ty0 := tyX3) (fs1 := [.double 0, .int 0, .int sw, .int lr, .double mn, .double mx, .int pe]) dX3_run_7 hL_a hx3 rfl q_u3 (by decide) tyX3_ok nmX3 q_fl_X3_13 rfl rfl rfl rfl rfl (Nat.le_of_ble_eq_true rfl) rfl ?_
  refine g_nm (fun f5 hf6 => ?_)
  have hx7 : f5 a = .inr (3, [.double 0, .int 0, .int sw, .int lr, .double mn, .double mx, .int pe]) := by rw [hf6]; exact va_up_self _ _ _
  have hF8 : f5 = va_up f a (.inr (3, [.double 0, .int 0, .int sw, .int lr, .double mn, .double mx, .int pe])) := by rw [hf6, hF4, va_up_up]
  refine g_aload_n hC dX3_run_10 0 rfl ?_
  refine g_iconst hC 0 dX3_run_11 (by decide) ?_
  refine g_put hC (kf := 2) (TT := TX3) (N := 7) (Cn := RX3) (ty0 := tyX3) (fs1 := [.double 0, .int 0, .int 0, .int lr, .double mn, .double mx, .int pe]) dX3_run_12 hL_a hx7 rfl q_u3 (by decide) tyX3_ok nmX3 q_fl_X3_17 rfl rfl rfl rfl rfl (Nat.le_of_ble_eq_true rfl) rfl ?_
  refine g_nm (fun f9 hf10 => ?_)
  have hx11 : f9 a = .inr (3, [.double 0, .int 0, .int 0, .int lr, .double mn, .double mx, .int pe]) := by rw [hf10]; exact va_up_self _ _ _
  have hF12 : f9 = va_up f a (.inr (3, [.double 0, .int 0, .int 0, .int lr, .double mn, .double mx, .int pe])) := by rw [hf10, hF8, va_up_up]
  refine g_aload_n hC dX3_run_15 0 rfl ?_
  refine g_iconst hC 0 dX3_run_16 (by decide) ?_
  refine g_put hC (kf := 3) (TT := TX3) (N := 7) (Cn := RX3) (ty0 := tyX3) (fs1 := [.double 0, .int 0, .int 0, .int 0, .double mn, .double mx, .int pe]) dX3_run_17 hL_a hx11 rfl q_u3 (by decide) tyX3_ok nmX3 q_fl_X3_20 rfl rfl rfl rfl rfl (Nat.le_of_ble_eq_true rfl) rfl ?_
  refine g_nm (fun f13 hf14 => ?_)
  have hx15 : f13 a = .inr (3, [.double 0, .int 0, .int 0, .int 0, .double mn, .double mx, .int pe]) := by rw [hf14]; exact va_up_self _ _ _
  have hF16 : f13 = va_up f a (.inr (3, [.double 0, .int 0, .int 0, .int 0, .double mn, .double mx, .int pe])) := by rw [hf14, hF12, va_up_up]
  refine g_aload_n hC dX3_run_20 0 rfl ?_
  refine g_iconst hC 0 dX3_run_21 (by decide) ?_
  refine g_put hC (kf := 6) (TT := TX3) (N := 7) (Cn := RX3) (ty0 := tyX3) (fs1 := [.double 0, .int 0, .int 0, .int 0, .double mn, .double mx, .int 0]) dX3_run_22 hL_a hx15 rfl q_u3 (by decide) tyX3_ok nmX3 q_fl_X3_23 rfl rfl rfl rfl rfl (Nat.le_of_ble_eq_true rfl) rfl ?_
  refine g_nm (fun f17 hf18 => ?_)
  have hx19 : f17 a = .inr (3, [.double 0, .int 0, .int 0, .int 0, .double mn, .double mx, .int 0]) := by rw [hf18]; exact va_up_self _ _ _
  have hF20 : f17 = va_up f a (.inr (3, [.double 0, .int 0, .int 0, .int 0, .double mn, .double mx, .int 0])) := by rw [hf18, hF16, va_up_up]
  refine g_iconst hC (nI 0) dX3_run_25 (by decide) ?_
  refine g_istore_n hC (lv1 := [(2, .int (nI 0)), (0, .ref a), (1, .int (nI n))]) dX3_run_26 (by decide) rfl ?_
  exact K n 0 (Nat.zero_add n) f17 0 0 0 0 mn mx 0 rfl hF20
