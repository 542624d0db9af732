/-! the law's loop -/
set_option maxHeartbeats 4000000 in
set_option maxRecDepth 100000 in
theorem law_round {C : CX} {l : Launch} {G : GD} {post : PO} (hC : CxOk C cL_law 8 RL false room_1 G l (some .boolean) post) (hp : ∀ (L : List Nat) (f : Nat → va_E), post (some (.int 1)) L f) {b N : Nat} {xs : Nat → Int32} (hS0 : ScrOk C b N xs) (hN : N ≤ 2560) {x0 q0 : Nat} : ∀ (m j k0 n0 : Nat), N < j + 5 * m → j ≤ N → k0 + 5 * m ≤ 600000 → n0 + 29 * m ≤ 7302250 → ∀ (L : List Nat) (f : Nat → va_E), JW G x0 q0 L f → V C 8 L f k0 n0 18 [(3, .int (nI j)), (0, .ref b), (1, .ref x0), (2, .ref q0)] [] := by
  intro m
  induction m with
  | zero => intro j k0 n0 h1 h2; omega
  | succ m ih =>
    intro j k0 n0 h1 h2 hk0 hn0 L f hJ
    have K850 : j + 5 ≤ N → ∀ (L2 : List Nat) (f2 : Nat → va_E), JW G x0 q0 L2 f2 → V C 8 L2 f2 (k0 + 5) (n0 + 29) 850 [(3, .int (nI j)), (0, .ref b), (1, .ref x0), (2, .ref q0)] [] := by
      intro hj L2 f2 hJ2
      refine g_iinc hC (v := nI (j + 5)) (lv1 := [(3, .int (nI (j + 5))), (0, .ref b), (1, .ref x0), (2, .ref q0)]) dL_law_850 0 rfl (nI_add j 5) (by decide) rfl ?_
      refine g_goto hC 18 dL_law_853 (by decide) ?_
      exact ih (j + 5) (k0 + 5) (n0 + 29) (by omega) hj (by omega) (by omega) L2 f2 hJ2
    refine g_iload_n hC dL_law_18 0 rfl ?_
    refine g_aload_n hC dL_law_19 1 rfl ?_
    refine g_slen hC hS0 dL_law_20 ?_
    refine g_iconst hC 5 dL_law_21 (by decide) ?_
    refine g_isub hC dL_law_22 ?_
    refine g_icmp_gt hC 856 dL_law_23 (by decide) (fun _ => ?_) (fun c => ?_)
    · refine g_iconst hC 1 dL_law_856 (by decide) ?_
      exact g_iret hC dL_law_857 rfl rfl (hp L f) (show k0 ≤ 600000 by omega) (show n0 ≤ 7302250 by omega)
    · have hj : j + 5 ≤ N := by
        rcases Nat.lt_or_ge N (j + 5) with q | q
        · refine absurd ?_ c
          rw [Int32.lt_iff_toInt_lt, show (5 : Int32) = nI 5 from rfl, pk_sub_toInt (by omega) (by decide), nI_toInt (by omega)]
          omega
        · exact q
      refine g_aload_n hC dL_law_26 1 rfl ?_
      refine g_iload_n hC dL_law_27 0 rfl ?_
      refine g_scr hC hS0 j rfl (by omega) hN dL_law_28 ?_
      refine g_bipush hC 15 dL_law_29 (by decide) ?_
      refine g_iand hC dL_law_31 ?_
      obtain ⟨r, hr, hr2⟩ := pk_andE (xs j) (m := 15) 4 (by decide)
      refine g_eqI hr2 ?_
      have h16 : r = 0 ∨ r = 1 ∨ r = 2 ∨ r = 3 ∨ r = 4 ∨ r = 5 ∨ r = 6 ∨ r = 7 ∨ r = 8 ∨ r = 9 ∨ r = 10 ∨ r = 11 ∨ r = 12 ∨ r = 13 ∨ r = 14 ∨ r = 15 := by omega
      rcases h16 with rfl | rfl | rfl | rfl | rfl | rfl | rfl | rfl | rfl | rfl | rfl | rfl | rfl | rfl | rfl | rfl
      · refine g_table hC 104 dL_law_32 (by decide) (by decide) rfl (by decide) ?_
        exact law_loop hC hS0 hN hj (by omega) (by omega) hJ (K850 hj)
      · refine g_table hC 177 dL_law_32 (by decide) (by decide) rfl (by decide) ?_
        exact law_limits hC hS0 hN hj (by omega) (by omega) hJ (K850 hj)
      · refine g_table hC 260 dL_law_32 (by decide) (by decide) rfl (by decide) ?_
        exact law_safe hC hS0 hN hj (by omega) (by omega) hJ (K850 hj)
      · refine g_table hC 303 dL_law_32 (by decide) (by decide) rfl (by decide) ?_
        exact law_tick hC hS0 hN hj (by omega) (by omega) hJ (K850 hj)
      · refine g_table hC 394 dL_law_32 (by decide) (by decide) rfl (by decide) ?_
        exact law_mode hC hS0 hN hj (by omega) (by omega) hJ (K850 hj)
      · refine g_table hC 427 dL_law_32 (by decide) (by decide) rfl (by decide) ?_
        exact law_hand hC hS0 hN hj (by omega) (by omega) hJ (K850 hj)
      · refine g_table hC 470 dL_law_32 (by decide) (by decide) rfl (by decide) ?_
        exact law_cascade hC hS0 hN hj (by omega) (by omega) hJ (K850 hj)
      · refine g_table hC 503 dL_law_32 (by decide) (by decide) rfl (by decide) ?_
        exact law_split hC hS0 hN hj (by omega) (by omega) hJ (K850 hj)
      · refine g_table hC 546 dL_law_32 (by decide) (by decide) rfl (by decide) ?_
        exact law_part hC hS0 hN hj (by omega) (by omega) hJ (K850 hj)
      · refine g_table hC 607 dL_law_32 (by decide) (by decide) rfl (by decide) ?_
        exact law_band hC hS0 hN hj (by omega) (by omega) hJ (K850 hj)
      · refine g_table hC 670 dL_law_32 (by decide) (by decide) rfl (by decide) ?_
        exact law_tune hC hS0 hN hj (by omega) (by omega) hJ (K850 hj)
      · refine g_table hC 703 dL_law_32 (by decide) (by decide) rfl (by decide) ?_
        exact law_tuned hC hS0 hN hj (by omega) (by omega) hJ (K850 hj)
      · refine g_table hC 764 dL_law_32 (by decide) (by decide) rfl (by decide) ?_
        exact law_fault hC hS0 hN hj (by omega) (by omega) hJ (K850 hj)
      · refine g_table hC 787 dL_law_32 (by decide) (by decide) rfl (by decide) ?_
        exact law_range hC hS0 hN hj (by omega) (by omega) hJ (K850 hj)
      · refine g_tableOut hC 850 dL_law_32 (Or.inr (by decide)) (by decide) ?_
        exact g_widen (by omega) (by omega) (K850 hj L f hJ)
      · refine g_tableOut hC 850 dL_law_32 (Or.inr (by decide)) (by decide) ?_
        exact g_widen (by omega) (by omega) (K850 hj L f hJ)
theorem defX4 : ∀ j, j < 4 → defaultValue (tyX4 j) = vp_V [.null, .null, .int 0, .int 0] j := by
  intro j hj
  have h : j = 0 ∨ j = 1 ∨ j = 2 ∨ j = 3 := by omega
  rcases h with rfl | rfl | rfl | rfl <;> rfl
theorem defX5 : ∀ j, j < 26 → defaultValue (tyX5 j) = vp_V [.int 0, .null, .null, .null, .null, .null, .null, .null, .null, .null, .null, .null, .null, .null, .null, .null, .null, .null, .null, .null, .null, .null, .null, .int 0, .null, .null] j := by
  intro j hj
  have h : j = 0 ∨ j = 1 ∨ j = 2 ∨ j = 3 ∨ j = 4 ∨ j = 5 ∨ j = 6 ∨ j = 7 ∨ j = 8 ∨ j = 9 ∨ j = 10 ∨ j = 11 ∨ j = 12 ∨ j = 13 ∨ j = 14 ∨ j = 15 ∨ j = 16 ∨ j = 17 ∨ j = 18 ∨ j = 19 ∨ j = 20 ∨ j = 21 ∨ j = 22 ∨ j = 23 ∨ j = 24 ∨ j = 25 := by omega
  rcases h with rfl | rfl | rfl | rfl | rfl | rfl | rfl | rfl | rfl | rfl | rfl | rfl | rfl | rfl | rfl | rfl | rfl | rfl | rfl | rfl | rfl | rfl | rfl | rfl | rfl | rfl <;> rfl
theorem REL.zero (SL : Nat → Nat) : REL 0 0 (fun _ _ => 0) (fun _ => 0) (fun _ _ => 0) (fun _ => none) SL (fun _ _ => 0) (fun _ _ => 0) := ⟨fun i h => absurd h (Nat.not_lt_zero _), fun _ _ _ => ⟨fun _ _ => rfl, fun _ _ _ => rfl⟩, fun j h => absurd h (Nat.not_lt_zero _), fun i _ h _ => absurd h (Nat.not_lt_zero _), fun a h => absurd h (Nat.not_lt_zero _)⟩
set_option maxHeartbeats 4000000 in
set_option maxRecDepth 100000 in
theorem law_all {C : CX} {l : Launch} {G : GD} {post : PO} (hC : CxOk C cL_law 8 RL false room_1 G l (some .boolean) post) (hp : ∀ (L : List Nat) (f : Nat → va_E), post (some (.int 1)) L f) {b N : Nat} {xs : Nat → Int32} (hS0 : ScrOk C b N xs) (hN : N ≤ 2560) (f : Nat → va_E) : V C 8 [] f 0 0 0 [(0, .ref b)] [] := by
  refine g_new hC (ci := 4) (N := 4) (Cn := RX4) (TT := TX4) (ty0 := tyX4) [.null, .null, .int 0, .int 0] dL_law_0 rfl q_u4 tyX4_ok q_cl_L_7 q_inst_X4 q_init_X4 defX4 (Nat.le_of_ble_eq_true rfl) (Nat.le_of_ble_eq_true rfl) (fun q1 hq1 => ?_)
  refine g_nm (fun f2 hf2 => ?_)
  have hx1 : f2 q1 = .inr (4, [.null, .null, .int 0, .int 0]) := by rw [hf2]; exact va_up_self _ _ _
  refine g_dup hC dL_law_3 rfl ?_
  refine g_callI hC dL_law_4 (ct_X4_init l G ([] ++ [q1]) f2 q1 mem_r hx1) q_code_X4_init q_ml_L_9 q_im_X4_init q_init_X4 ⟨rfl, by decide, by decide, (show (parseMethodDescriptor yX4_init.desc).map (fun d => d.parameters.length) = some 0 from by decide +kernel)⟩ (by decide) (by decide) (Nat.le_of_ble_eq_true rfl) (fun v3 L3 f3 hp3 => ?_)
  obtain ⟨rfl, hL3, hf3, c, hc0, hI0⟩ := hp3
  refine (show V C 8 L3 f3 3 36 7 [(0, .ref b)] [.ref q1] from ?_)
  refine g_astore_n hC (lv1 := [(1, .ref q1), (0, .ref b)]) dL_law_7 (by decide) rfl ?_
  have hI := hI0 (fun _ _ => 0) (fun _ => 0) (fun _ _ => 0) (fun _ => none) (fun _ => 0)
  refine g_new hC (ci := 5) (N := 26) (Cn := RX5) (TT := TX5) (ty0 := tyX5) [.int 0, .null, .null, .null, .null, .null, .null, .null, .null, .null, .null, .null, .null, .null, .null, .null, .null, .null, .null, .null, .null, .null, .null, .int 0, .null, .null] dL_law_8 rfl q_u5 tyX5_ok q_cl_L_10 q_inst_X5 q_init_X5 defX5 (Nat.le_of_ble_eq_true rfl) (Nat.le_of_ble_eq_true rfl) (fun q2 hq2 => ?_)
  refine g_nm (fun f4 hf4 => ?_)
  have hx2 : f4 q2 = .inr (5, [.int 0, .null, .null, .null, .null, .null, .null, .null, .null, .null, .null, .null, .null, .null, .null, .null, .null, .null, .null, .null, .null, .null, .null, .int 0, .null, .null]) := by rw [hf4]; exact va_up_self _ _ _
  refine g_dup hC dL_law_11 rfl ?_
  refine g_callI hC dL_law_12 (ct_X5_init l G (L3 ++ [q2]) f4 q2 mem_r hx2) q_code_X5_init q_ml_L_12 q_im_X5_init q_init_X5 ⟨rfl, by decide, by decide, (show (parseMethodDescriptor yX5_init.desc).map (fun d => d.parameters.length) = some 0 from by decide +kernel)⟩ (by decide) (by decide) (Nat.le_of_ble_eq_true rfl) (fun v5 L5 f5 hp5 => ?_)
  obtain ⟨rfl, hL5, hf5, ma, hM⟩ := hp5
  refine (show V C 8 L5 f5 28 446 15 [(1, .ref q1), (0, .ref b)] [.ref q2] from ?_)
  refine g_astore_n hC (lv1 := [(2, .ref q2), (1, .ref q1), (0, .ref b)]) dL_law_15 (by decide) rfl ?_
  have hI5 := CI.frame hI (fun a ha => hL5 a (mem_l ha)) (show FRm L3 f3 f5 from fun a ha _ => by
    have hne : a ≠ q2 := fun q => hq2 (q ▸ ha)
    rw [hf5 a (mem_l ha) hne, hf4, va_up_ne _ _ hne])
  refine g_iconst hC 0 dL_law_16 (by decide) ?_
  refine g_istore_n hC (lv1 := [(3, .int 0), (2, .ref q2), (1, .ref q1), (0, .ref b)]) dL_law_17 (by decide) rfl ?_
  refine g_sub [0, 3, 2, 1] rfl ?_
  exact law_round hC hp hS0 hN 513 0 28 446 (by omega) (Nat.zero_le _) (by decide) (by decide) L5 f5 (JW.mk hc0 hI5 hM (REL.zero _))
