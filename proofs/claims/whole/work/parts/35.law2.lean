set_option maxHeartbeats 4000000 in
set_option maxRecDepth 100000 in
/-- the law: limits -/
theorem law_limits {C : CX} {l : Launch} {G : GD} {ret : Option FieldType} {post : PO} (hC : CxOk C cL_law 8 RL false room_1 G l ret post) {b N : Nat} {xs : Nat → Int32} (hS0 : ScrOk C b N xs) (hN : N ≤ 2560) {x0 q0 j k0 n0 : Nat} (hj : j + 5 ≤ N) (hk0 : k0 + 5 ≤ 600000) (hn0 : n0 + 29 ≤ 7302250) {L : List Nat} {f : Nat → va_E} (hJ : JW G x0 q0 L f) (kc : ∀ (L2 : List Nat) (f2 : Nat → va_E), JW G x0 q0 L2 f2 → V C 8 L2 f2 (k0 + 5) (n0 + 29) 850 [(3, .int (nI j)), (0, .ref b), (1, .ref x0), (2, .ref q0)] []) : V C 8 L f k0 n0 177 [(3, .int (nI j)), (0, .ref b), (1, .ref x0), (2, .ref q0)] [] := by
  obtain ⟨n, k, c, ma, X, XS, Z, OU, SL, Y, W0, rfl, hI, hM, hR⟩ := hJ
  have hn16 : n ≤ 16 := MI.n16 hM
  have hk16 : k ≤ 16 := MI.k16 hM
  refine g_aload_n hC dL_law_177 2 rfl ?_
  refine g_aload_n hC dL_law_178 1 rfl ?_
  refine g_iload_n hC dL_law_179 0 rfl ?_
  refine g_iconst hC 1 dL_law_180 (by decide) ?_
  refine g_iadd hC dL_law_181 ?_
  refine g_scr hC hS0 (j + 1) (show nI j + 1 = nI (j + 1) from nI_add j 1) (by omega) hN dL_law_182 ?_
  refine g_aload_n hC dL_law_183 1 rfl ?_
  refine g_iload_n hC dL_law_184 0 rfl ?_
  refine g_iconst hC 2 dL_law_185 (by decide) ?_
  refine g_iadd hC dL_law_186 ?_
  refine g_scr hC hS0 (j + 2) (show nI j + 2 = nI (j + 2) from nI_add j 2) (by omega) hN dL_law_187 ?_
  refine g_i2d hC dL_law_188 ?_
  refine g_ldc2 hC dL_law_189 q_cd_L_13 ?_
  refine g_dmul hC dL_law_192 (fun r1 er1 => ?_)
  refine g_aload_n hC dL_law_193 1 rfl ?_
  refine g_iload_n hC dL_law_194 0 rfl ?_
  refine g_iconst hC 3 dL_law_195 (by decide) ?_
  refine g_iadd hC dL_law_196 ?_
  refine g_scr hC hS0 (j + 3) (show nI j + 3 = nI (j + 3) from nI_add j 3) (by omega) hN dL_law_197 ?_
  refine g_i2d hC dL_law_198 ?_
  refine g_ldc2 hC dL_law_199 q_cd_L_13 ?_
  refine g_dmul hC dL_law_202 (fun r2 er2 => ?_)
  refine g_aload_n hC dL_law_203 1 rfl ?_
  refine g_iload_n hC dL_law_204 0 rfl ?_
  refine g_iconst hC 4 dL_law_205 (by decide) ?_
  refine g_iadd hC dL_law_206 ?_
  refine g_scr hC hS0 (j + 4) (show nI j + 4 = nI (j + 4) from nI_add j 4) (by omega) hN dL_law_207 ?_
  refine g_i2d hC dL_law_208 ?_
  refine g_ldc2 hC dL_law_209 q_cd_L_13 ?_
  refine g_dmul hC dL_law_212 (fun r3 er3 => ?_)
  refine g_callV hC (Cn := RX4) (TT := TX4) (N := 4) dL_law_213 (ct_X4_limits l G L f hI (xs (j + 1)) r1 r2 r3) q_code_X4_limits q_ml_L_20 q_im_X4_limits q_sel_X4_limits q_init_X4 ⟨rfl, by decide, by decide, (show (parseMethodDescriptor yX4_limits.desc).map (fun d => d.parameters.length) = some 4 from by decide +kernel)⟩ (CI.hm hI) (CI.h0 hI) rfl (by decide) (cs5 (by decide) (by decide) hk0 hn0) (Nat.le_of_ble_eq_true rfl) (fun v5 L6 f7 hp4 => ?_)
  obtain ⟨hL1, F1⟩ : (∀ b, b ∈ L → b ∈ L6) ∧ FRc L f f7 := by
    obtain ⟨rfl, hp⟩ := hp4
    refine ⟨fun _ h => h, ?_⟩
    rcases hp with ⟨_, _, rfl⟩ | ⟨_, _, _, _, _, h, _⟩
    · exact FRc.rf
    · exact h
  have hM1 : MI G q0 ma n k Y W0 L6 f7 := MI.frame hM hL1 F1
  obtain ⟨a1, rfl⟩ : ∃ a, v5 = some (.int a) := by
    rcases hp4.2 with ⟨_, h, _⟩ | ⟨_, _, _, _, h, _⟩ <;> exact ⟨_, h⟩
  refine (show V C 8 L6 f7 (k0 + 0) (n0 + 0) 216 [(3, .int (nI j)), (0, .ref b), (1, .ref (c 6 0)), (2, .ref q0)] [.int a1] from ?_)
  refine g_aload_n hC dL_law_216 3 rfl ?_
  refine g_aload_n hC dL_law_217 1 rfl ?_
  refine g_iload_n hC dL_law_218 0 rfl ?_
  refine g_iconst hC 1 dL_law_219 (by decide) ?_
  refine g_iadd hC dL_law_220 ?_
  refine g_scr hC hS0 (j + 1) (show nI j + 1 = nI (j + 1) from nI_add j 1) (by omega) hN dL_law_221 ?_
  refine g_aload_n hC dL_law_222 1 rfl ?_
  refine g_iload_n hC dL_law_223 0 rfl ?_
  refine g_iconst hC 2 dL_law_224 (by decide) ?_
  refine g_iadd hC dL_law_225 ?_
  refine g_scr hC hS0 (j + 2) (show nI j + 2 = nI (j + 2) from nI_add j 2) (by omega) hN dL_law_226 ?_
  refine g_i2d hC dL_law_227 ?_
  refine g_ldc2 hC dL_law_228 q_cd_L_13 ?_
  refine g_dmul hC dL_law_231 (fun r8 er8 => ?_)
  refine g_aload_n hC dL_law_232 1 rfl ?_
  refine g_iload_n hC dL_law_233 0 rfl ?_
  refine g_iconst hC 3 dL_law_234 (by decide) ?_
  refine g_iadd hC dL_law_235 ?_
  refine g_scr hC hS0 (j + 3) (show nI j + 3 = nI (j + 3) from nI_add j 3) (by omega) hN dL_law_236 ?_
  refine g_i2d hC dL_law_237 ?_
  refine g_ldc2 hC dL_law_238 q_cd_L_13 ?_
  refine g_dmul hC dL_law_241 (fun r9 er9 => ?_)
  refine g_aload_n hC dL_law_242 1 rfl ?_
  refine g_iload_n hC dL_law_243 0 rfl ?_
  refine g_iconst hC 4 dL_law_244 (by decide) ?_
  refine g_iadd hC dL_law_245 ?_
  refine g_scr hC hS0 (j + 4) (show nI j + 4 = nI (j + 4) from nI_add j 4) (by omega) hN dL_law_246 ?_
  refine g_i2d hC dL_law_247 ?_
  refine g_ldc2 hC dL_law_248 q_cd_L_13 ?_
  refine g_dmul hC dL_law_251 (fun r10 er10 => ?_)
  have hv1 : dv r1 = dv r8 := er1.trans er8.symm
  have hv2 : dv r2 = dv r9 := er2.trans er9.symm
  have hv3 : dv r3 = dv r10 := er3.trans er10.symm
  refine g_callV hC (Cn := RX5) (TT := TX5) (N := 26) dL_law_252 (ct_X5_limits l G L6 f7 hM1  (xs (j + 1)) r8 r9 r10) q_code_X5_limits q_ml_L_24 q_im_X5_limits q_sel_X5_limits q_init_X5 ⟨rfl, by decide, by decide, (show (parseMethodDescriptor yX5_limits.desc).map (fun d => d.parameters.length) = some 4 from by decide +kernel)⟩ (MI.m hM1) (MI.o hM1) rfl (by decide) (cs0 rfl rfl (show k0 + 0 ≤ 600000 by omega) (show n0 + 0 ≤ 7302250 by omega)) (Nat.le_of_ble_eq_true rfl) (fun v12 L13 f14 hp11 => ?_)
  obtain ⟨a2, rfl⟩ : ∃ a, v12 = some (.int a) := by
    rcases hp11.2 with ⟨_, h, _⟩ | ⟨_, _, _, _, h, _⟩ <;> exact ⟨_, h⟩
  refine (show V C 8 L13 f14 (k0 + 0) (n0 + 0) 255 [(3, .int (nI j)), (0, .ref b), (1, .ref (c 6 0)), (2, .ref q0)] [.int a2, .int a1] from ?_)
  have hfin : a1 = a2 ∧ JW G (c 6 0) q0 L13 f14 := by
    have hq : ∀ i, i < n → limC (dv r1) (dv r2) (dv r3) = limM (dv r8) (dv r9) (dv r10) := by
      intro i hi
      rw [lim_eq, hv1, hv2, hv3]
    obtain ⟨rfl, g1⟩ := hp4
    obtain ⟨rfl, g2⟩ := hp11
    rcases g1 with ⟨r1, e1, rfl⟩ | ⟨i, hi, hk1, hc1, e1, F2, I1⟩
    · rcases g2 with ⟨r2, e2, rfl⟩ | ⟨i, hi, hk2, hc2, e2, F3, I2⟩
      · cases e1; cases e2; exact ⟨rfl, JW.mk rfl hI hM hR⟩
      · exact (tf (r1 i hi hk2) ((hq i hi).trans hc2)).elim
    · rcases g2 with ⟨r2, e2, rfl⟩ | ⟨i2, hi2, hk2, hc2, e2, F3, I2⟩
      · exact (tf (r2 i hi hk1) ((hq i hi).symm.trans hc1)).elim
      · have hii : i = i2 := nI_injL (by omega) (by omega) (hk1.symm.trans hk2)
        subst hii
        cases e1; cases e2
        exact ⟨rfl, JW.mk rfl (CI.frame I1 (fun _ h => h) F3) I2 (REL.setX hR hi (fun a h => by rw [up2_o _ _ _ _ h, up2_o _ _ _ _ h, up2_o _ _ _ _ h]) (fun _ _ => rfl) (by simp [up2]) rfl (by simp only [up2_r]; exact (LR.up (LR.up (LR.up (hR.1 i hi) (j := 9) (by decide) hv1) (j := 10) (by decide) hv2) (j := 3) (by decide) hv3)))⟩
  refine g_icmp_eq hC 850 dL_law_255 (by decide) (fun _ => ?_) (fun c => absurd hfin.1 c)
  exact g_widen (by omega) (by omega) (kc L13 f14 hfin.2)
set_option maxHeartbeats 4000000 in
set_option maxRecDepth 100000 in
/-- the law: hand -/
theorem law_hand {C : CX} {l : Launch} {G : GD} {ret : Option FieldType} {post : PO} (hC : CxOk C cL_law 8 RL false room_1 G l ret post) {b N : Nat} {xs : Nat → Int32} (hS0 : ScrOk C b N xs) (hN : N ≤ 2560) {x0 q0 j k0 n0 : Nat} (hj : j + 5 ≤ N) (hk0 : k0 + 5 ≤ 600000) (hn0 : n0 + 29 ≤ 7302250) {L : List Nat} {f : Nat → va_E} (hJ : JW G x0 q0 L f) (kc : ∀ (L2 : List Nat) (f2 : Nat → va_E), JW G x0 q0 L2 f2 → V C 8 L2 f2 (k0 + 5) (n0 + 29) 850 [(3, .int (nI j)), (0, .ref b), (1, .ref x0), (2, .ref q0)] []) : V C 8 L f k0 n0 427 [(3, .int (nI j)), (0, .ref b), (1, .ref x0), (2, .ref q0)] [] := by
  obtain ⟨n, k, c, ma, X, XS, Z, OU, SL, Y, W0, rfl, hI, hM, hR⟩ := hJ
  have hn16 : n ≤ 16 := MI.n16 hM
  have hk16 : k ≤ 16 := MI.k16 hM
  refine g_aload_n hC dL_law_427 2 rfl ?_
  refine g_aload_n hC dL_law_428 1 rfl ?_
  refine g_iload_n hC dL_law_429 0 rfl ?_
  refine g_iconst hC 1 dL_law_430 (by decide) ?_
  refine g_iadd hC dL_law_431 ?_
  refine g_scr hC hS0 (j + 1) (show nI j + 1 = nI (j + 1) from nI_add j 1) (by omega) hN dL_law_432 ?_
  refine g_aload_n hC dL_law_433 1 rfl ?_
  refine g_iload_n hC dL_law_434 0 rfl ?_
  refine g_iconst hC 2 dL_law_435 (by decide) ?_
  refine g_iadd hC dL_law_436 ?_
  refine g_scr hC hS0 (j + 2) (show nI j + 2 = nI (j + 2) from nI_add j 2) (by omega) hN dL_law_437 ?_
  refine g_i2d hC dL_law_438 ?_
  refine g_ldc2 hC dL_law_439 q_cd_L_13 ?_
  refine g_dmul hC dL_law_442 (fun r1 er1 => ?_)
  refine g_callV hC (Cn := RX4) (TT := TX4) (N := 4) dL_law_443 (ct_X4_hand l G L f hI (xs (j + 1)) r1) q_code_X4_hand q_ml_L_40 q_im_X4_hand q_sel_X4_hand q_init_X4 ⟨rfl, by decide, by decide, (show (parseMethodDescriptor yX4_hand.desc).map (fun d => d.parameters.length) = some 2 from by decide +kernel)⟩ (CI.hm hI) (CI.h0 hI) rfl (by decide) (cs5 (by decide) (by decide) hk0 hn0) (Nat.le_of_ble_eq_true rfl) (fun v3 L4 f5 hp2 => ?_)
  obtain ⟨hL1, F1⟩ : (∀ b, b ∈ L → b ∈ L4) ∧ FRc L f f5 := by
    obtain ⟨rfl, hp⟩ := hp2
    refine ⟨fun _ h => h, ?_⟩
    rcases hp with ⟨_, _, rfl⟩ | ⟨_, _, _, _, _, h, _⟩
    · exact FRc.rf
    · exact h
  have hM1 : MI G q0 ma n k Y W0 L4 f5 := MI.frame hM hL1 F1
  obtain ⟨a1, rfl⟩ : ∃ a, v3 = some (.int a) := by
    rcases hp2.2 with ⟨_, h, _⟩ | ⟨_, _, _, _, h, _⟩ <;> exact ⟨_, h⟩
  refine (show V C 8 L4 f5 (k0 + 0) (n0 + 0) 446 [(3, .int (nI j)), (0, .ref b), (1, .ref (c 6 0)), (2, .ref q0)] [.int a1] from ?_)
  refine g_aload_n hC dL_law_446 3 rfl ?_
  refine g_aload_n hC dL_law_447 1 rfl ?_
  refine g_iload_n hC dL_law_448 0 rfl ?_
  refine g_iconst hC 1 dL_law_449 (by decide) ?_
  refine g_iadd hC dL_law_450 ?_
  refine g_scr hC hS0 (j + 1) (show nI j + 1 = nI (j + 1) from nI_add j 1) (by omega) hN dL_law_451 ?_
  refine g_aload_n hC dL_law_452 1 rfl ?_
  refine g_iload_n hC dL_law_453 0 rfl ?_
  refine g_iconst hC 2 dL_law_454 (by decide) ?_
  refine g_iadd hC dL_law_455 ?_
  refine g_scr hC hS0 (j + 2) (show nI j + 2 = nI (j + 2) from nI_add j 2) (by omega) hN dL_law_456 ?_
  refine g_i2d hC dL_law_457 ?_
  refine g_ldc2 hC dL_law_458 q_cd_L_13 ?_
  refine g_dmul hC dL_law_461 (fun r6 er6 => ?_)
  have hv1 : dv r1 = dv r6 := er1.trans er6.symm
  refine g_callV hC (Cn := RX5) (TT := TX5) (N := 26) dL_law_462 (ct_X5_hand l G L4 f5 hM1  (xs (j + 1)) r6) q_code_X5_hand q_ml_L_43 q_im_X5_hand q_sel_X5_hand q_init_X5 ⟨rfl, by decide, by decide, (show (parseMethodDescriptor yX5_hand.desc).map (fun d => d.parameters.length) = some 2 from by decide +kernel)⟩ (MI.m hM1) (MI.o hM1) rfl (by decide) (cs0 rfl rfl (show k0 + 0 ≤ 600000 by omega) (show n0 + 0 ≤ 7302250 by omega)) (Nat.le_of_ble_eq_true rfl) (fun v8 L9 f10 hp7 => ?_)
  obtain ⟨a2, rfl⟩ : ∃ a, v8 = some (.int a) := by
    rcases hp7.2 with ⟨_, h, _⟩ | ⟨_, _, _, _, h, _⟩ <;> exact ⟨_, h⟩
  refine (show V C 8 L9 f10 (k0 + 0) (n0 + 0) 465 [(3, .int (nI j)), (0, .ref b), (1, .ref (c 6 0)), (2, .ref q0)] [.int a2, .int a1] from ?_)
  have hfin : a1 = a2 ∧ JW G (c 6 0) q0 L9 f10 := by
    have hq : ∀ i, i < n → hanC (Z i 0) (dv r1) (dv (X i 9)) (dv (X i 10)) = hanC (W0 i 20) (dv r6) (dv (Y i 9)) (dv (Y i 10)) := by
      intro i hi
      rw [(hR.1 i hi).2.1, (hR.1 i hi).1 9 (by decide), (hR.1 i hi).1 10 (by decide), hv1]
    obtain ⟨rfl, g1⟩ := hp2
    obtain ⟨rfl, g2⟩ := hp7
    rcases g1 with ⟨r1, e1, rfl⟩ | ⟨i, hi, hk1, hc1, e1, F2, I1⟩
    · rcases g2 with ⟨r2, e2, rfl⟩ | ⟨i, hi, hk2, hc2, e2, F3, I2⟩
      · cases e1; cases e2; exact ⟨rfl, JW.mk rfl hI hM hR⟩
      · exact (tf (r1 i hi hk2) ((hq i hi).trans hc2)).elim
    · rcases g2 with ⟨r2, e2, rfl⟩ | ⟨i2, hi2, hk2, hc2, e2, F3, I2⟩
      · exact (tf (r2 i hi hk1) ((hq i hi).symm.trans hc1)).elim
      · have hii : i = i2 := nI_injL (by omega) (by omega) (hk1.symm.trans hk2)
        subst hii
        cases e1; cases e2
        exact ⟨rfl, JW.mk rfl (CI.frame I1 (fun _ h => h) F3) I2 (REL.setX hR hi (fun a h => by rw [up2_o _ _ _ _ h]) (fun _ _ => rfl) (by simp [up2]) rfl (by simp only [up2_r]; exact (LR.up (hR.1 i hi) (j := 8) (by decide) hv1)))⟩
  refine g_icmp_eq hC 850 dL_law_465 (by decide) (fun _ => ?_) (fun c => absurd hfin.1 c)
  exact g_widen (by omega) (by omega) (kc L9 f10 hfin.2)
set_option maxHeartbeats 4000000 in
set_option maxRecDepth 100000 in
/-- the law: band -/
theorem law_band {C : CX} {l : Launch} {G : GD} {ret : Option FieldType} {post : PO} (hC : CxOk C cL_law 8 RL false room_1 G l ret post) {b N : Nat} {xs : Nat → Int32} (hS0 : ScrOk C b N xs) (hN : N ≤ 2560) {x0 q0 j k0 n0 : Nat} (hj : j + 5 ≤ N) (hk0 : k0 + 5 ≤ 600000) (hn0 : n0 + 29 ≤ 7302250) {L : List Nat} {f : Nat → va_E} (hJ : JW G x0 q0 L f) (kc : ∀ (L2 : List Nat) (f2 : Nat → va_E), JW G x0 q0 L2 f2 → V C 8 L2 f2 (k0 + 5) (n0 + 29) 850 [(3, .int (nI j)), (0, .ref b), (1, .ref x0), (2, .ref q0)] []) : V C 8 L f k0 n0 607 [(3, .int (nI j)), (0, .ref b), (1, .ref x0), (2, .ref q0)] [] := by
  obtain ⟨n, k, c, ma, X, XS, Z, OU, SL, Y, W0, rfl, hI, hM, hR⟩ := hJ
  have hn16 : n ≤ 16 := MI.n16 hM
  have hk16 : k ≤ 16 := MI.k16 hM
  refine g_aload_n hC dL_law_607 2 rfl ?_
  refine g_aload_n hC dL_law_608 1 rfl ?_
  refine g_iload_n hC dL_law_609 0 rfl ?_
  refine g_iconst hC 1 dL_law_610 (by decide) ?_
  refine g_iadd hC dL_law_611 ?_
  refine g_scr hC hS0 (j + 1) (show nI j + 1 = nI (j + 1) from nI_add j 1) (by omega) hN dL_law_612 ?_
  refine g_aload_n hC dL_law_613 1 rfl ?_
  refine g_iload_n hC dL_law_614 0 rfl ?_
  refine g_iconst hC 2 dL_law_615 (by decide) ?_
  refine g_iadd hC dL_law_616 ?_
  refine g_scr hC hS0 (j + 2) (show nI j + 2 = nI (j + 2) from nI_add j 2) (by omega) hN dL_law_617 ?_
  refine g_i2d hC dL_law_618 ?_
  refine g_ldc2 hC dL_law_619 q_cd_L_13 ?_
  refine g_dmul hC dL_law_622 (fun r1 er1 => ?_)
  refine g_aload_n hC dL_law_623 1 rfl ?_
  refine g_iload_n hC dL_law_624 0 rfl ?_
  refine g_iconst hC 3 dL_law_625 (by decide) ?_
  refine g_iadd hC dL_law_626 ?_
  refine g_scr hC hS0 (j + 3) (show nI j + 3 = nI (j + 3) from nI_add j 3) (by omega) hN dL_law_627 ?_
  refine g_i2d hC dL_law_628 ?_
  refine g_ldc2 hC dL_law_629 q_cd_L_13 ?_
  refine g_dmul hC dL_law_632 (fun r2 er2 => ?_)
  refine g_callV hC (Cn := RX4) (TT := TX4) (N := 4) dL_law_633 (ct_X4_band l G L f hI (xs (j + 1)) r1 r2) q_code_X4_band q_ml_L_58 q_im_X4_band q_sel_X4_band q_init_X4 ⟨rfl, by decide, by decide, (show (parseMethodDescriptor yX4_band.desc).map (fun d => d.parameters.length) = some 3 from by decide +kernel)⟩ (CI.hm hI) (CI.h0 hI) rfl (by decide) (cs5 (by decide) (by decide) hk0 hn0) (Nat.le_of_ble_eq_true rfl) (fun v4 L5 f6 hp3 => ?_)
  obtain ⟨hL1, F1⟩ : (∀ b, b ∈ L → b ∈ L5) ∧ FRc L f f6 := by
    obtain ⟨rfl, hp⟩ := hp3
    refine ⟨fun _ h => h, ?_⟩
    rcases hp with ⟨_, _, rfl⟩ | ⟨_, _, _, _, _, h, _⟩
    · exact FRc.rf
    · exact h
  have hM1 : MI G q0 ma n k Y W0 L5 f6 := MI.frame hM hL1 F1
  obtain ⟨a1, rfl⟩ : ∃ a, v4 = some (.int a) := by
    rcases hp3.2 with ⟨_, h, _⟩ | ⟨_, _, _, _, h, _⟩ <;> exact ⟨_, h⟩
  refine (show V C 8 L5 f6 (k0 + 0) (n0 + 0) 636 [(3, .int (nI j)), (0, .ref b), (1, .ref (c 6 0)), (2, .ref q0)] [.int a1] from ?_)
  refine g_aload_n hC dL_law_636 3 rfl ?_
  refine g_aload_n hC dL_law_637 1 rfl ?_
  refine g_iload_n hC dL_law_638 0 rfl ?_
  refine g_iconst hC 1 dL_law_639 (by decide) ?_
  refine g_iadd hC dL_law_640 ?_
  refine g_scr hC hS0 (j + 1) (show nI j + 1 = nI (j + 1) from nI_add j 1) (by omega) hN dL_law_641 ?_
  refine g_aload_n hC dL_law_642 1 rfl ?_
  refine g_iload_n hC dL_law_643 0 rfl ?_
  refine g_iconst hC 2 dL_law_644 (by decide) ?_
  refine g_iadd hC dL_law_645 ?_
  refine g_scr hC hS0 (j + 2) (show nI j + 2 = nI (j + 2) from nI_add j 2) (by omega) hN dL_law_646 ?_
  refine g_i2d hC dL_law_647 ?_
  refine g_ldc2 hC dL_law_648 q_cd_L_13 ?_
  refine g_dmul hC dL_law_651 (fun r7 er7 => ?_)
  refine g_aload_n hC dL_law_652 1 rfl ?_
  refine g_iload_n hC dL_law_653 0 rfl ?_
  refine g_iconst hC 3 dL_law_654 (by decide) ?_
  refine g_iadd hC dL_law_655 ?_
  refine g_scr hC hS0 (j + 3) (show nI j + 3 = nI (j + 3) from nI_add j 3) (by omega) hN dL_law_656 ?_
  refine g_i2d hC dL_law_657 ?_
  refine g_ldc2 hC dL_law_658 q_cd_L_13 ?_
  refine g_dmul hC dL_law_661 (fun r8 er8 => ?_)
  have hv1 : dv r1 = dv r7 := er1.trans er7.symm
  have hv2 : dv r2 = dv r8 := er2.trans er8.symm
  refine g_callV hC (Cn := RX5) (TT := TX5) (N := 26) dL_law_662 (ct_X5_band l G L5 f6 hM1  (xs (j + 1)) r7 r8) q_code_X5_band q_ml_L_62 q_im_X5_band q_sel_X5_band q_init_X5 ⟨rfl, by decide, by decide, (show (parseMethodDescriptor yX5_band.desc).map (fun d => d.parameters.length) = some 3 from by decide +kernel)⟩ (MI.m hM1) (MI.o hM1) rfl (by decide) (cs0 rfl rfl (show k0 + 0 ≤ 600000 by omega) (show n0 + 0 ≤ 7302250 by omega)) (Nat.le_of_ble_eq_true rfl) (fun v10 L11 f12 hp9 => ?_)
  obtain ⟨a2, rfl⟩ : ∃ a, v10 = some (.int a) := by
    rcases hp9.2 with ⟨_, h, _⟩ | ⟨_, _, _, _, h, _⟩ <;> exact ⟨_, h⟩
  refine (show V C 8 L11 f12 (k0 + 0) (n0 + 0) 665 [(3, .int (nI j)), (0, .ref b), (1, .ref (c 6 0)), (2, .ref q0)] [.int a2, .int a1] from ?_)
  have hfin : a1 = a2 ∧ JW G (c 6 0) q0 L11 f12 := by
    have hq : ∀ i, i < n → ordS (dv r1) (dv r2) 10000 = bndM (dv r7) (dv r8) := by
      intro i hi
      rw [bnd_eq, hv1, hv2]
    obtain ⟨rfl, g1⟩ := hp3
    obtain ⟨rfl, g2⟩ := hp9
    rcases g1 with ⟨r1, e1, rfl⟩ | ⟨i, hi, hk1, hc1, e1, F2, I1⟩
    · rcases g2 with ⟨r2, e2, rfl⟩ | ⟨i, hi, hk2, hc2, e2, F3, I2⟩
      · cases e1; cases e2; exact ⟨rfl, JW.mk rfl hI hM hR⟩
      · exact (tf (r1 i hi hk2) ((hq i hi).trans hc2)).elim
    · rcases g2 with ⟨r2, e2, rfl⟩ | ⟨i2, hi2, hk2, hc2, e2, F3, I2⟩
      · exact (tf (r2 i hi hk1) ((hq i hi).symm.trans hc1)).elim
      · have hii : i = i2 := nI_injL (by omega) (by omega) (hk1.symm.trans hk2)
        subst hii
        cases e1; cases e2
        exact ⟨rfl, JW.mk rfl (CI.frame I1 (fun _ h => h) F3) I2 (REL.setX hR hi (fun a h => by rw [up2_o _ _ _ _ h, up2_o _ _ _ _ h]) (fun _ _ => rfl) (by simp [up2]) rfl (by simp only [up2_r]; exact (LR.up (LR.up (hR.1 i hi) (j := 11) (by decide) hv1) (j := 12) (by decide) hv2)))⟩
  refine g_icmp_eq hC 850 dL_law_665 (by decide) (fun _ => ?_) (fun c => absurd hfin.1 c)
  exact g_widen (by omega) (by omega) (kc L11 f12 hfin.2)
set_option maxHeartbeats 4000000 in
set_option maxRecDepth 100000 in
/-- the law: range -/
theorem law_range {C : CX} {l : Launch} {G : GD} {ret : Option FieldType} {post : PO} (hC : CxOk C cL_law 8 RL false room_1 G l ret post) {b N : Nat} {xs : Nat → Int32} (hS0 : ScrOk C b N xs) (hN : N ≤ 2560) {x0 q0 j k0 n0 : Nat} (hj : j + 5 ≤ N) (hk0 : k0 + 5 ≤ 600000) (hn0 : n0 + 29 ≤ 7302250) {L : List Nat} {f : Nat → va_E} (hJ : JW G x0 q0 L f) (kc : ∀ (L2 : List Nat) (f2 : Nat → va_E), JW G x0 q0 L2 f2 → V C 8 L2 f2 (k0 + 5) (n0 + 29) 850 [(3, .int (nI j)), (0, .ref b), (1, .ref x0), (2, .ref q0)] []) : V C 8 L f k0 n0 787 [(3, .int (nI j)), (0, .ref b), (1, .ref x0), (2, .ref q0)] [] := by
  obtain ⟨n, k, c, ma, X, XS, Z, OU, SL, Y, W0, rfl, hI, hM, hR⟩ := hJ
  have hn16 : n ≤ 16 := MI.n16 hM
  have hk16 : k ≤ 16 := MI.k16 hM
  refine g_aload_n hC dL_law_787 2 rfl ?_
  refine g_aload_n hC dL_law_788 1 rfl ?_
  refine g_iload_n hC dL_law_789 0 rfl ?_
  refine g_iconst hC 1 dL_law_790 (by decide) ?_
  refine g_iadd hC dL_law_791 ?_
  refine g_scr hC hS0 (j + 1) (show nI j + 1 = nI (j + 1) from nI_add j 1) (by omega) hN dL_law_792 ?_
  refine g_aload_n hC dL_law_793 1 rfl ?_
  refine g_iload_n hC dL_law_794 0 rfl ?_
  refine g_iconst hC 2 dL_law_795 (by decide) ?_
  refine g_iadd hC dL_law_796 ?_
  refine g_scr hC hS0 (j + 2) (show nI j + 2 = nI (j + 2) from nI_add j 2) (by omega) hN dL_law_797 ?_
  refine g_i2d hC dL_law_798 ?_
  refine g_ldc2 hC dL_law_799 q_cd_L_13 ?_
  refine g_dmul hC dL_law_802 (fun r1 er1 => ?_)
  refine g_aload_n hC dL_law_803 1 rfl ?_
  refine g_iload_n hC dL_law_804 0 rfl ?_
  refine g_iconst hC 3 dL_law_805 (by decide) ?_
  refine g_iadd hC dL_law_806 ?_
  refine g_scr hC hS0 (j + 3) (show nI j + 3 = nI (j + 3) from nI_add j 3) (by omega) hN dL_law_807 ?_
  refine g_i2d hC dL_law_808 ?_
  refine g_ldc2 hC dL_law_809 q_cd_L_13 ?_
  refine g_dmul hC dL_law_812 (fun r2 er2 => ?_)
  refine g_callV hC (Cn := RX4) (TT := TX4) (N := 4) dL_law_813 (ct_X4_range l G L f hI (xs (j + 1)) r1 r2) q_code_X4_range q_ml_L_77 q_im_X4_range q_sel_X4_range q_init_X4 ⟨rfl, by decide, by decide, (show (parseMethodDescriptor yX4_range.desc).map (fun d => d.parameters.length) = some 3 from by decide +kernel)⟩ (CI.hm hI) (CI.h0 hI) rfl (by decide) (cs5 (by decide) (by decide) hk0 hn0) (Nat.le_of_ble_eq_true rfl) (fun v4 L5 f6 hp3 => ?_)
  obtain ⟨hL1, F1⟩ : (∀ b, b ∈ L → b ∈ L5) ∧ FRc L f f6 := by
    obtain ⟨rfl, hp⟩ := hp3
    refine ⟨fun _ h => h, ?_⟩
    rcases hp with ⟨_, _, rfl⟩ | ⟨_, _, _, _, _, h, _⟩
    · exact FRc.rf
    · exact h
  have hM1 : MI G q0 ma n k Y W0 L5 f6 := MI.frame hM hL1 F1
  obtain ⟨a1, rfl⟩ : ∃ a, v4 = some (.int a) := by
    rcases hp3.2 with ⟨_, h, _⟩ | ⟨_, _, _, _, h, _⟩ <;> exact ⟨_, h⟩
  refine (show V C 8 L5 f6 (k0 + 0) (n0 + 0) 816 [(3, .int (nI j)), (0, .ref b), (1, .ref (c 6 0)), (2, .ref q0)] [.int a1] from ?_)
  refine g_aload_n hC dL_law_816 3 rfl ?_
  refine g_aload_n hC dL_law_817 1 rfl ?_
  refine g_iload_n hC dL_law_818 0 rfl ?_
  refine g_iconst hC 1 dL_law_819 (by decide) ?_
  refine g_iadd hC dL_law_820 ?_
  refine g_scr hC hS0 (j + 1) (show nI j + 1 = nI (j + 1) from nI_add j 1) (by omega) hN dL_law_821 ?_
  refine g_aload_n hC dL_law_822 1 rfl ?_
  refine g_iload_n hC dL_law_823 0 rfl ?_
  refine g_iconst hC 2 dL_law_824 (by decide) ?_
  refine g_iadd hC dL_law_825 ?_
  refine g_scr hC hS0 (j + 2) (show nI j + 2 = nI (j + 2) from nI_add j 2) (by omega) hN dL_law_826 ?_
  refine g_i2d hC dL_law_827 ?_
  refine g_ldc2 hC dL_law_828 q_cd_L_13 ?_
  refine g_dmul hC dL_law_831 (fun r7 er7 => ?_)
  refine g_aload_n hC dL_law_832 1 rfl ?_
  refine g_iload_n hC dL_law_833 0 rfl ?_
  refine g_iconst hC 3 dL_law_834 (by decide) ?_
  refine g_iadd hC dL_law_835 ?_
  refine g_scr hC hS0 (j + 3) (show nI j + 3 = nI (j + 3) from nI_add j 3) (by omega) hN dL_law_836 ?_
  refine g_i2d hC dL_law_837 ?_
  refine g_ldc2 hC dL_law_838 q_cd_L_13 ?_
  refine g_dmul hC dL_law_841 (fun r8 er8 => ?_)
  have hv1 : dv r1 = dv r7 := er1.trans er7.symm
  have hv2 : dv r2 = dv r8 := er2.trans er8.symm
  refine g_callV hC (Cn := RX5) (TT := TX5) (N := 26) dL_law_842 (ct_X5_range l G L5 f6 hM1  (xs (j + 1)) r7 r8) q_code_X5_range q_ml_L_80 q_im_X5_range q_sel_X5_range q_init_X5 ⟨rfl, by decide, by decide, (show (parseMethodDescriptor yX5_range.desc).map (fun d => d.parameters.length) = some 3 from by decide +kernel)⟩ (MI.m hM1) (MI.o hM1) rfl (by decide) (cs0 rfl rfl (show k0 + 0 ≤ 600000 by omega) (show n0 + 0 ≤ 7302250 by omega)) (Nat.le_of_ble_eq_true rfl) (fun v10 L11 f12 hp9 => ?_)
  obtain ⟨a2, rfl⟩ : ∃ a, v10 = some (.int a) := by
    rcases hp9.2 with ⟨_, h, _⟩ | ⟨_, _, _, _, h, _⟩ <;> exact ⟨_, h⟩
  refine (show V C 8 L11 f12 (k0 + 0) (n0 + 0) 845 [(3, .int (nI j)), (0, .ref b), (1, .ref (c 6 0)), (2, .ref q0)] [.int a2, .int a1] from ?_)
  have hfin : a1 = a2 ∧ JW G (c 6 0) q0 L11 f12 := by
    have hq : ∀ i, i < n → ordS (dv r1) (dv r2) 1000000 = rngM (dv r7) (dv r8) := by
      intro i hi
      rw [rng_eq, hv1, hv2]
    obtain ⟨rfl, g1⟩ := hp3
    obtain ⟨rfl, g2⟩ := hp9
    rcases g1 with ⟨r1, e1, rfl⟩ | ⟨i, hi, hk1, hc1, e1, F2, I1⟩
    · rcases g2 with ⟨r2, e2, rfl⟩ | ⟨i, hi, hk2, hc2, e2, F3, I2⟩
      · cases e1; cases e2; exact ⟨rfl, JW.mk rfl hI hM hR⟩
      · exact (tf (r1 i hi hk2) ((hq i hi).trans hc2)).elim
    · rcases g2 with ⟨r2, e2, rfl⟩ | ⟨i2, hi2, hk2, hc2, e2, F3, I2⟩
      · exact (tf (r2 i hi hk1) ((hq i hi).symm.trans hc1)).elim
      · have hii : i = i2 := nI_injL (by omega) (by omega) (hk1.symm.trans hk2)
        subst hii
        cases e1; cases e2
        exact ⟨rfl, JW.mk rfl (CI.frame I1 (fun _ h => h) F3) I2 (REL.setX hR hi (fun a h => by rw [up2_o _ _ _ _ h, up2_o _ _ _ _ h]) (fun a h => up2_o _ _ _ _ h) (by simp [up2]) (by simp [up2]) (by simp only [up2_r]; exact LR.rng (hR.1 i hi) hv1 hv2))⟩
  refine g_icmp_eq hC 850 dL_law_845 (by decide) (fun _ => ?_) (fun c => absurd hfin.1 c)
  exact g_widen (by omega) (by omega) (kc L11 f12 hfin.2)
set_option maxHeartbeats 4000000 in
set_option maxRecDepth 100000 in
/-- the law: mode -/
theorem law_mode {C : CX} {l : Launch} {G : GD} {ret : Option FieldType} {post : PO} (hC : CxOk C cL_law 8 RL false room_1 G l ret post) {b N : Nat} {xs : Nat → Int32} (hS0 : ScrOk C b N xs) (hN : N ≤ 2560) {x0 q0 j k0 n0 : Nat} (hj : j + 5 ≤ N) (hk0 : k0 + 5 ≤ 600000) (hn0 : n0 + 29 ≤ 7302250) {L : List Nat} {f : Nat → va_E} (hJ : JW G x0 q0 L f) (kc : ∀ (L2 : List Nat) (f2 : Nat → va_E), JW G x0 q0 L2 f2 → V C 8 L2 f2 (k0 + 5) (n0 + 29) 850 [(3, .int (nI j)), (0, .ref b), (1, .ref x0), (2, .ref q0)] []) : V C 8 L f k0 n0 394 [(3, .int (nI j)), (0, .ref b), (1, .ref x0), (2, .ref q0)] [] := by
  obtain ⟨n, k, c, ma, X, XS, Z, OU, SL, Y, W0, rfl, hI, hM, hR⟩ := hJ
  have hn16 : n ≤ 16 := MI.n16 hM
  have hk16 : k ≤ 16 := MI.k16 hM
  refine g_aload_n hC dL_law_394 2 rfl ?_
  refine g_aload_n hC dL_law_395 1 rfl ?_
  refine g_iload_n hC dL_law_396 0 rfl ?_
  refine g_iconst hC 1 dL_law_397 (by decide) ?_
  refine g_iadd hC dL_law_398 ?_
  refine g_scr hC hS0 (j + 1) (show nI j + 1 = nI (j + 1) from nI_add j 1) (by omega) hN dL_law_399 ?_
  refine g_aload_n hC dL_law_400 1 rfl ?_
  refine g_iload_n hC dL_law_401 0 rfl ?_
  refine g_iconst hC 2 dL_law_402 (by decide) ?_
  refine g_iadd hC dL_law_403 ?_
  refine g_scr hC hS0 (j + 2) (show nI j + 2 = nI (j + 2) from nI_add j 2) (by omega) hN dL_law_404 ?_
  refine g_callV hC (Cn := RX4) (TT := TX4) (N := 4) dL_law_405 (ct_X4_mode l G L f hI (xs (j + 1)) (xs (j + 2))) q_code_X4_mode q_ml_L_35 q_im_X4_mode q_sel_X4_mode q_init_X4 ⟨rfl, by decide, by decide, (show (parseMethodDescriptor yX4_mode.desc).map (fun d => d.parameters.length) = some 2 from by decide +kernel)⟩ (CI.hm hI) (CI.h0 hI) rfl (by decide) (cs5 (by decide) (by decide) hk0 hn0) (Nat.le_of_ble_eq_true rfl) (fun v2 L3 f4 hp1 => ?_)
  obtain ⟨hL1, F1⟩ : (∀ b, b ∈ L → b ∈ L3) ∧ FRc L f f4 := by
    obtain ⟨rfl, hp⟩ := hp1
    refine ⟨fun _ h => h, ?_⟩
    rcases hp with ⟨_, _, rfl⟩ | ⟨_, _, _, _, _, h, _⟩
    · exact FRc.rf
    · exact h
  have hM1 : MI G q0 ma n k Y W0 L3 f4 := MI.frame hM hL1 F1
  obtain ⟨a1, rfl⟩ : ∃ a, v2 = some (.int a) := by
    rcases hp1.2 with ⟨_, h, _⟩ | ⟨_, _, _, _, h, _⟩ <;> exact ⟨_, h⟩
  refine (show V C 8 L3 f4 (k0 + 0) (n0 + 0) 408 [(3, .int (nI j)), (0, .ref b), (1, .ref (c 6 0)), (2, .ref q0)] [.int a1] from ?_)
  refine g_aload_n hC dL_law_408 3 rfl ?_
  refine g_aload_n hC dL_law_409 1 rfl ?_
  refine g_iload_n hC dL_law_410 0 rfl ?_
  refine g_iconst hC 1 dL_law_411 (by decide) ?_
  refine g_iadd hC dL_law_412 ?_
  refine g_scr hC hS0 (j + 1) (show nI j + 1 = nI (j + 1) from nI_add j 1) (by omega) hN dL_law_413 ?_
  refine g_aload_n hC dL_law_414 1 rfl ?_
  refine g_iload_n hC dL_law_415 0 rfl ?_
  refine g_iconst hC 2 dL_law_416 (by decide) ?_
  refine g_iadd hC dL_law_417 ?_
  refine g_scr hC hS0 (j + 2) (show nI j + 2 = nI (j + 2) from nI_add j 2) (by omega) hN dL_law_418 ?_
  refine g_callV hC (Cn := RX5) (TT := TX5) (N := 26) dL_law_419 (ct_X5_mode l G L3 f4 hM1  (xs (j + 1)) (xs (j + 2))) q_code_X5_mode q_ml_L_39 q_im_X5_mode q_sel_X5_mode q_init_X5 ⟨rfl, by decide, by decide, (show (parseMethodDescriptor yX5_mode.desc).map (fun d => d.parameters.length) = some 2 from by decide +kernel)⟩ (MI.m hM1) (MI.o hM1) rfl (by decide) (cs0 rfl rfl (show k0 + 0 ≤ 600000 by omega) (show n0 + 0 ≤ 7302250 by omega)) (Nat.le_of_ble_eq_true rfl) (fun v6 L7 f8 hp5 => ?_)
  obtain ⟨a2, rfl⟩ : ∃ a, v6 = some (.int a) := by
    rcases hp5.2 with ⟨_, h, _⟩ | ⟨_, _, _, _, h, _⟩ <;> exact ⟨_, h⟩
  refine (show V C 8 L7 f8 (k0 + 0) (n0 + 0) 422 [(3, .int (nI j)), (0, .ref b), (1, .ref (c 6 0)), (2, .ref q0)] [.int a2, .int a1] from ?_)
  have hfin : a1 = a2 ∧ JW G (c 6 0) q0 L7 f8 := by
    have hq : ∀ i, i < n → modC (xs (j + 2)) = modC (xs (j + 2)) := by
      intro i hi
      rfl
    obtain ⟨rfl, g1⟩ := hp1
    obtain ⟨rfl, g2⟩ := hp5
    rcases g1 with ⟨r1, e1, rfl⟩ | ⟨i, hi, hk1, hc1, e1, F2, h1, s1, gh1, gs1, I1⟩
    · rcases g2 with ⟨r2, e2, rfl⟩ | ⟨i, hi, hk2, hc2, e2, F3, h2, s2, gh2, gs2, I2⟩
      · cases e1; cases e2; exact ⟨rfl, JW.mk rfl hI hM hR⟩
      · exact (tf (r1 i hi hk2) ((hq i hi).trans hc2)).elim
    · rcases g2 with ⟨r2, e2, rfl⟩ | ⟨i2, hi2, hk2, hc2, e2, F3, h2, s2, gh2, gs2, I2⟩
      · exact (tf (r2 i hi hk1) ((hq i hi).symm.trans hc1)).elim
      · have hii : i = i2 := nI_injL (by omega) (by omega) (hk1.symm.trans hk2)
        subst hii
        cases e1; cases e2
        exact ⟨rfl, JW.mk rfl (CI.frame I1 (fun _ h => h) F3) I2 (REL.set hR hi (fun a h => by rw [up2_o _ _ _ _ h, up2_o _ _ _ _ h]) (fun a h => up2_o _ _ _ _ h) (by simp [up2]) (by simp [up2]) (by simp only [up2_r]; exact LR.mode (hR.1 i hi) _ (gs1.trans ((LR.md (hR.1 i hi) _).2.trans gs2.symm)) (gh1.trans ((LR.md (hR.1 i hi) _).1.trans gh2.symm))))⟩
  refine g_icmp_eq hC 850 dL_law_422 (by decide) (fun _ => ?_) (fun c => absurd hfin.1 c)
  exact g_widen (by omega) (by omega) (kc L7 f8 hfin.2)
set_option maxHeartbeats 4000000 in
set_option maxRecDepth 100000 in
/-- the law: fault -/
theorem law_fault {C : CX} {l : Launch} {G : GD} {ret : Option FieldType} {post : PO} (hC : CxOk C cL_law 8 RL false room_1 G l ret post) {b N : Nat} {xs : Nat → Int32} (hS0 : ScrOk C b N xs) (hN : N ≤ 2560) {x0 q0 j k0 n0 : Nat} (hj : j + 5 ≤ N) (hk0 : k0 + 5 ≤ 600000) (hn0 : n0 + 29 ≤ 7302250) {L : List Nat} {f : Nat → va_E} (hJ : JW G x0 q0 L f) (kc : ∀ (L2 : List Nat) (f2 : Nat → va_E), JW G x0 q0 L2 f2 → V C 8 L2 f2 (k0 + 5) (n0 + 29) 850 [(3, .int (nI j)), (0, .ref b), (1, .ref x0), (2, .ref q0)] []) : V C 8 L f k0 n0 764 [(3, .int (nI j)), (0, .ref b), (1, .ref x0), (2, .ref q0)] [] := by
  obtain ⟨n, k, c, ma, X, XS, Z, OU, SL, Y, W0, rfl, hI, hM, hR⟩ := hJ
  have hn16 : n ≤ 16 := MI.n16 hM
  have hk16 : k ≤ 16 := MI.k16 hM
  refine g_aload_n hC dL_law_764 2 rfl ?_
  refine g_aload_n hC dL_law_765 1 rfl ?_
  refine g_iload_n hC dL_law_766 0 rfl ?_
  refine g_iconst hC 1 dL_law_767 (by decide) ?_
  refine g_iadd hC dL_law_768 ?_
  refine g_scr hC hS0 (j + 1) (show nI j + 1 = nI (j + 1) from nI_add j 1) (by omega) hN dL_law_769 ?_
  refine g_callV hC (Cn := RX4) (TT := TX4) (N := 4) dL_law_770 (ct_X4_fault l G L f hI (xs (j + 1))) q_code_X4_fault q_ml_L_72 q_im_X4_fault q_sel_X4_fault q_init_X4 ⟨rfl, by decide, by decide, (show (parseMethodDescriptor yX4_fault.desc).map (fun d => d.parameters.length) = some 1 from by decide +kernel)⟩ (CI.hm hI) (CI.h0 hI) rfl (by decide) (cs5 (by decide) (by decide) hk0 hn0) (Nat.le_of_ble_eq_true rfl) (fun v2 L3 f4 hp1 => ?_)
  obtain ⟨hL1, F1⟩ : (∀ b, b ∈ L → b ∈ L3) ∧ FRc L f f4 := by
    obtain ⟨rfl, rfl, hp⟩ := hp1
    exact ⟨fun _ h => h, FRc.rf⟩
  have hM1 : MI G q0 ma n k Y W0 L3 f4 := MI.frame hM hL1 F1
  obtain ⟨a1, rfl⟩ : ∃ a, v2 = some (.int a) := by
    rcases hp1.2.2 with ⟨_, h⟩ | ⟨_, _, _, h⟩ <;> exact ⟨_, h⟩
  refine (show V C 8 L3 f4 (k0 + 0) (n0 + 0) 773 [(3, .int (nI j)), (0, .ref b), (1, .ref (c 6 0)), (2, .ref q0)] [.int a1] from ?_)
  refine g_aload_n hC dL_law_773 3 rfl ?_
  refine g_aload_n hC dL_law_774 1 rfl ?_
  refine g_iload_n hC dL_law_775 0 rfl ?_
  refine g_iconst hC 1 dL_law_776 (by decide) ?_
  refine g_iadd hC dL_law_777 ?_
  refine g_scr hC hS0 (j + 1) (show nI j + 1 = nI (j + 1) from nI_add j 1) (by omega) hN dL_law_778 ?_
  refine g_callV hC (Cn := RX5) (TT := TX5) (N := 26) dL_law_779 (ct_X5_fault l G L3 f4 hM1  (xs (j + 1))) q_code_X5_fault q_ml_L_76 q_im_X5_fault q_sel_X5_fault q_init_X5 ⟨rfl, by decide, by decide, (show (parseMethodDescriptor yX5_fault.desc).map (fun d => d.parameters.length) = some 1 from by decide +kernel)⟩ (MI.m hM1) (MI.o hM1) rfl (by decide) (cs0 rfl rfl (show k0 + 0 ≤ 600000 by omega) (show n0 + 0 ≤ 7302250 by omega)) (Nat.le_of_ble_eq_true rfl) (fun v6 L7 f8 hp5 => ?_)
  obtain ⟨a2, rfl⟩ : ∃ a, v6 = some (.int a) := by
    rcases hp5.2.2 with ⟨_, h⟩ | ⟨_, _, _, h⟩ <;> exact ⟨_, h⟩
  refine (show V C 8 L7 f8 (k0 + 0) (n0 + 0) 782 [(3, .int (nI j)), (0, .ref b), (1, .ref (c 6 0)), (2, .ref q0)] [.int a2, .int a1] from ?_)
  have hfin : a1 = a2 ∧ JW G (c 6 0) q0 L7 f8 := by
    obtain ⟨rfl, rfl, g1⟩ := hp1
    obtain ⟨rfl, rfl, g2⟩ := hp5
    refine ⟨?_, JW.mk rfl hI hM hR⟩
    rcases g1 with ⟨r1, e1⟩ | ⟨i, hi, hk1, e1⟩
    · rcases g2 with ⟨r2, e2⟩ | ⟨i, hi, hk2, e2⟩
      · cases e1; cases e2; rfl
      · exact absurd hk2 (r1 i hi)
    · rcases g2 with ⟨r2, e2⟩ | ⟨i2, hi2, hk2, e2⟩
      · exact absurd hk1 (r2 i hi)
      · have hii : i = i2 := nI_injL (by omega) (by omega) (hk1.symm.trans hk2)
        subst hii
        cases e1; cases e2; exact (hR.1 i hi).2.2.1
  refine g_icmp_eq hC 850 dL_law_782 (by decide) (fun _ => ?_) (fun c => absurd hfin.1 c)
  exact g_widen (by omega) (by omega) (kc L7 f8 hfin.2)
set_option maxHeartbeats 4000000 in
set_option maxRecDepth 100000 in
/-- the law: tuned -/
theorem law_tuned {C : CX} {l : Launch} {G : GD} {ret : Option FieldType} {post : PO} (hC : CxOk C cL_law 8 RL false room_1 G l ret post) {b N : Nat} {xs : Nat → Int32} (hS0 : ScrOk C b N xs) (hN : N ≤ 2560) {x0 q0 j k0 n0 : Nat} (hj : j + 5 ≤ N) (hk0 : k0 + 5 ≤ 600000) (hn0 : n0 + 29 ≤ 7302250) {L : List Nat} {f : Nat → va_E} (hJ : JW G x0 q0 L f) (kc : ∀ (L2 : List Nat) (f2 : Nat → va_E), JW G x0 q0 L2 f2 → V C 8 L2 f2 (k0 + 5) (n0 + 29) 850 [(3, .int (nI j)), (0, .ref b), (1, .ref x0), (2, .ref q0)] []) : V C 8 L f k0 n0 703 [(3, .int (nI j)), (0, .ref b), (1, .ref x0), (2, .ref q0)] [] := by
  obtain ⟨n, k, c, ma, X, XS, Z, OU, SL, Y, W0, rfl, hI, hM, hR⟩ := hJ
  have hn16 : n ≤ 16 := MI.n16 hM
  have hk16 : k ≤ 16 := MI.k16 hM
  refine g_aload_n hC dL_law_703 2 rfl ?_
  refine g_aload_n hC dL_law_704 1 rfl ?_
  refine g_iload_n hC dL_law_705 0 rfl ?_
  refine g_iconst hC 1 dL_law_706 (by decide) ?_
  refine g_iadd hC dL_law_707 ?_
  refine g_scr hC hS0 (j + 1) (show nI j + 1 = nI (j + 1) from nI_add j 1) (by omega) hN dL_law_708 ?_
  refine g_aload_n hC dL_law_709 1 rfl ?_
  refine g_iload_n hC dL_law_710 0 rfl ?_
  refine g_iconst hC 2 dL_law_711 (by decide) ?_
  refine g_iadd hC dL_law_712 ?_
  refine g_scr hC hS0 (j + 2) (show nI j + 2 = nI (j + 2) from nI_add j 2) (by omega) hN dL_law_713 ?_
  refine g_callV hC (Cn := RX4) (TT := TX4) (N := 4) dL_law_714 (ct_X4_tuned l G L f hI (xs (j + 1)) (xs (j + 2))) q_code_X4_tuned q_ml_L_68 q_im_X4_tuned q_sel_X4_tuned q_init_X4 ⟨rfl, by decide, by decide, (show (parseMethodDescriptor yX4_tuned.desc).map (fun d => d.parameters.length) = some 2 from by decide +kernel)⟩ (CI.hm hI) (CI.h0 hI) rfl (by decide) (cs5 (by decide) (by decide) hk0 hn0) (Nat.le_of_ble_eq_true rfl) (fun v2 L3 f4 hp1 => ?_)
  obtain ⟨hL1, F1⟩ : (∀ b, b ∈ L → b ∈ L3) ∧ FRc L f f4 := by
    obtain ⟨rfl, rfl, hp⟩ := hp1
    exact ⟨fun _ h => h, FRc.rf⟩
  have hM1 : MI G q0 ma n k Y W0 L3 f4 := MI.frame hM hL1 F1
  obtain ⟨a1, rfl⟩ : ∃ a, v2 = some (.double a) := by
    rcases hp1.2.2 with ⟨_, h⟩ | ⟨_, _, _, _, h, _⟩ <;> exact ⟨_, h⟩
  refine (show V C 8 L3 f4 (k0 + 0) (n0 + 0) 717 [(3, .int (nI j)), (0, .ref b), (1, .ref (c 6 0)), (2, .ref q0)] [.double a1] from ?_)
  refine g_dstore hC (lv1 := [(4, .double a1), (3, .int (nI j)), (0, .ref b), (1, .ref (c 6 0)), (2, .ref q0)]) dL_law_717 (by decide) rfl ?_
  refine g_aload_n hC dL_law_719 4 rfl ?_
  refine g_aload_n hC dL_law_720 2 rfl ?_
  refine g_iload_n hC dL_law_721 1 rfl ?_
  refine g_iconst hC 1 dL_law_722 (by decide) ?_
  refine g_iadd hC dL_law_723 ?_
  refine g_scr hC hS0 (j + 1) (show nI j + 1 = nI (j + 1) from nI_add j 1) (by omega) hN dL_law_724 ?_
  refine g_aload_n hC dL_law_725 2 rfl ?_
  refine g_iload_n hC dL_law_726 1 rfl ?_
  refine g_iconst hC 2 dL_law_727 (by decide) ?_
  refine g_iadd hC dL_law_728 ?_
  refine g_scr hC hS0 (j + 2) (show nI j + 2 = nI (j + 2) from nI_add j 2) (by omega) hN dL_law_729 ?_
  refine g_callV hC (Cn := RX5) (TT := TX5) (N := 26) dL_law_730 (ct_X5_tuned l G L3 f4 hM1  (xs (j + 1)) (xs (j + 2))) q_code_X5_tuned q_ml_L_71 q_im_X5_tuned q_sel_X5_tuned q_init_X5 ⟨rfl, by decide, by decide, (show (parseMethodDescriptor yX5_tuned.desc).map (fun d => d.parameters.length) = some 2 from by decide +kernel)⟩ (MI.m hM1) (MI.o hM1) rfl (by decide) (cs0 rfl rfl (show k0 + 0 ≤ 600000 by omega) (show n0 + 0 ≤ 7302250 by omega)) (Nat.le_of_ble_eq_true rfl) (fun v6 L7 f8 hp5 => ?_)
  obtain ⟨a2, rfl⟩ : ∃ a, v6 = some (.double a) := by
    rcases hp5.2.2 with ⟨_, h⟩ | ⟨_, _, _, _, h, _⟩ <;> exact ⟨_, h⟩
  refine (show V C 8 L7 f8 (k0 + 0) (n0 + 0) 733 [(4, .double a1), (3, .int (nI j)), (0, .ref b), (1, .ref (c 6 0)), (2, .ref q0)] [.double a2] from ?_)
  have hfin : dv a1 = dv a2 ∧ JW G (c 6 0) q0 L7 f8 := by
    obtain ⟨rfl, rfl, g1⟩ := hp1
    obtain ⟨rfl, rfl, g2⟩ := hp5
    refine ⟨?_, JW.mk rfl hI hM hR⟩
    rcases g1 with ⟨r1, e1⟩ | ⟨i, hi, hk1, q1, e1, t1⟩
    · rcases g2 with ⟨r2, e2⟩ | ⟨i, hi, hk2, q2, e2, t2⟩
      · cases e1; cases e2; rfl
      · exact absurd hk2 (r1 i hi)
    · rcases g2 with ⟨r2, e2⟩ | ⟨i2, hi2, hk2, q2, e2, t2⟩
      · exact absurd hk1 (r2 i hi)
      · have hii : i = i2 := nI_injL (by omega) (by omega) (hk1.symm.trans hk2)
        subst hii
        cases e1; cases e2; exact t1.trans ((LR.tg (hR.1 i hi) _).trans t2.symm)
  refine g_dstore hC (lv1 := [(6, .double a2), (4, .double a1), (3, .int (nI j)), (0, .ref b), (1, .ref (c 6 0)), (2, .ref q0)]) dL_law_733 (by decide) rfl ?_
  refine g_dload hC dL_law_735 1 rfl ?_
  refine g_dload hC dL_law_737 0 rfl ?_
  have K : V C 8 L7 f8 (k0 + 0) (n0 + 0) 761 [(6, .double a2), (4, .double a1), (3, .int (nI j)), (0, .ref b), (1, .ref (c 6 0)), (2, .ref q0)] [] := by
    refine g_goto hC 850 dL_law_761 (by decide) ?_
    refine g_sub [2, 3, 4, 5] rfl ?_
    exact g_widen (by omega) (by omega) (kc L7 f8 hfin.2)
  refine g_dcmpl_eq hC 761 dL_law_739 dL_law_740 (by decide) (fun _ => K) (fun c1 => ?_)
  rw [hfin.1] at c1
  refine g_dload hC dL_law_743 1 rfl ?_
  refine g_dload hC dL_law_745 1 rfl ?_
  refine g_dcmpl_eq hC 759 dL_law_747 dL_law_748 (by decide) (fun c2 => absurd (hfin.1 ▸ c2) (fun z => tf c1 z)) (fun _ => ?_)
  refine g_dload hC dL_law_751 0 rfl ?_
  refine g_dload hC dL_law_753 0 rfl ?_
  exact g_dcmpl_ne hC 761 dL_law_755 dL_law_756 (by decide) (fun _ => K) (fun c3 => (tf c1 c3).elim)
set_option maxHeartbeats 4000000 in
set_option maxRecDepth 100000 in
/-- the law: part -/
theorem law_part {C : CX} {l : Launch} {G : GD} {ret : Option FieldType} {post : PO} (hC : CxOk C cL_law 8 RL false room_1 G l ret post) {b N : Nat} {xs : Nat → Int32} (hS0 : ScrOk C b N xs) (hN : N ≤ 2560) {x0 q0 j k0 n0 : Nat} (hj : j + 5 ≤ N) (hk0 : k0 + 5 ≤ 600000) (hn0 : n0 + 29 ≤ 7302250) {L : List Nat} {f : Nat → va_E} (hJ : JW G x0 q0 L f) (kc : ∀ (L2 : List Nat) (f2 : Nat → va_E), JW G x0 q0 L2 f2 → V C 8 L2 f2 (k0 + 5) (n0 + 29) 850 [(3, .int (nI j)), (0, .ref b), (1, .ref x0), (2, .ref q0)] []) : V C 8 L f k0 n0 546 [(3, .int (nI j)), (0, .ref b), (1, .ref x0), (2, .ref q0)] [] := by
  obtain ⟨n, k, c, ma, X, XS, Z, OU, SL, Y, W0, rfl, hI, hM, hR⟩ := hJ
  have hn16 : n ≤ 16 := MI.n16 hM
  have hk16 : k ≤ 16 := MI.k16 hM
  refine g_aload_n hC dL_law_546 2 rfl ?_
  refine g_aload_n hC dL_law_547 1 rfl ?_
  refine g_iload_n hC dL_law_548 0 rfl ?_
  refine g_iconst hC 1 dL_law_549 (by decide) ?_
  refine g_iadd hC dL_law_550 ?_
  refine g_scr hC hS0 (j + 1) (show nI j + 1 = nI (j + 1) from nI_add j 1) (by omega) hN dL_law_551 ?_
  refine g_aload_n hC dL_law_552 1 rfl ?_
  refine g_iload_n hC dL_law_553 0 rfl ?_
  refine g_iconst hC 2 dL_law_554 (by decide) ?_
  refine g_iadd hC dL_law_555 ?_
  refine g_scr hC hS0 (j + 2) (show nI j + 2 = nI (j + 2) from nI_add j 2) (by omega) hN dL_law_556 ?_
  refine g_callV hC (Cn := RX4) (TT := TX4) (N := 4) dL_law_557 (ct_X4_part l G L f hI (xs (j + 1)) (xs (j + 2))) q_code_X4_part q_ml_L_53 q_im_X4_part q_sel_X4_part q_init_X4 ⟨rfl, by decide, by decide, (show (parseMethodDescriptor yX4_part.desc).map (fun d => d.parameters.length) = some 2 from by decide +kernel)⟩ (CI.hm hI) (CI.h0 hI) rfl (by decide) (cs5 (by decide) (by decide) hk0 hn0) (Nat.le_of_ble_eq_true rfl) (fun v2 L3 f4 hp1 => ?_)
  obtain ⟨hL1, F1⟩ : (∀ b, b ∈ L → b ∈ L3) ∧ FRc L f f4 := by
    obtain ⟨rfl, rfl, hp⟩ := hp1
    exact ⟨fun _ h => h, FRc.rf⟩
  have hM1 : MI G q0 ma n k Y W0 L3 f4 := MI.frame hM hL1 F1
  obtain ⟨a1, rfl⟩ : ∃ a, v2 = some (.double a) := by
    rcases hp1.2.2 with ⟨_, h⟩ | ⟨_, _, _, _, _, h, _⟩ <;> exact ⟨_, h⟩
  refine (show V C 8 L3 f4 (k0 + 0) (n0 + 0) 560 [(3, .int (nI j)), (0, .ref b), (1, .ref (c 6 0)), (2, .ref q0)] [.double a1] from ?_)
  refine g_dstore hC (lv1 := [(4, .double a1), (3, .int (nI j)), (0, .ref b), (1, .ref (c 6 0)), (2, .ref q0)]) dL_law_560 (by decide) rfl ?_
  refine g_aload_n hC dL_law_562 4 rfl ?_
  refine g_aload_n hC dL_law_563 2 rfl ?_
  refine g_iload_n hC dL_law_564 1 rfl ?_
  refine g_iconst hC 1 dL_law_565 (by decide) ?_
  refine g_iadd hC dL_law_566 ?_
  refine g_scr hC hS0 (j + 1) (show nI j + 1 = nI (j + 1) from nI_add j 1) (by omega) hN dL_law_567 ?_
  refine g_aload_n hC dL_law_568 2 rfl ?_
  refine g_iload_n hC dL_law_569 1 rfl ?_
  refine g_iconst hC 2 dL_law_570 (by decide) ?_
  refine g_iadd hC dL_law_571 ?_
  refine g_scr hC hS0 (j + 2) (show nI j + 2 = nI (j + 2) from nI_add j 2) (by omega) hN dL_law_572 ?_
  refine g_callV hC (Cn := RX5) (TT := TX5) (N := 26) dL_law_573 (ct_X5_part l G L3 f4 hM1 SL (fun j hj => ⟨(hR.2.2.1 j hj).1, (hR.2.2.1 j hj).2.1⟩) (xs (j + 1)) (xs (j + 2))) q_code_X5_part q_ml_L_57 q_im_X5_part q_sel_X5_part q_init_X5 ⟨rfl, by decide, by decide, (show (parseMethodDescriptor yX5_part.desc).map (fun d => d.parameters.length) = some 2 from by decide +kernel)⟩ (MI.m hM1) (MI.o hM1) rfl (by decide) (cs0 rfl rfl (show k0 + 0 ≤ 600000 by omega) (show n0 + 0 ≤ 7302250 by omega)) (Nat.le_of_ble_eq_true rfl) (fun v6 L7 f8 hp5 => ?_)
  obtain ⟨a2, rfl⟩ : ∃ a, v6 = some (.double a) := by
    rcases hp5.2.2 with ⟨_, h⟩ | ⟨_, _, _, _, _, h, _⟩ <;> exact ⟨_, h⟩
  refine (show V C 8 L7 f8 (k0 + 0) (n0 + 0) 576 [(4, .double a1), (3, .int (nI j)), (0, .ref b), (1, .ref (c 6 0)), (2, .ref q0)] [.double a2] from ?_)
  have hfin : dv a1 = dv a2 ∧ JW G (c 6 0) q0 L7 f8 := by
    obtain ⟨rfl, rfl, g1⟩ := hp1
    obtain ⟨rfl, rfl, g2⟩ := hp5
    refine ⟨?_, JW.mk rfl hI hM hR⟩
    rcases g1 with ⟨r1, e1⟩ | ⟨i, hi, hk1, hc1, q1, e1, t1⟩
    · rcases g2 with ⟨r2, e2⟩ | ⟨i, hi, hk2, hc2, q2, e2, t2⟩
      · cases e1; cases e2; rfl
      · exact (tf (r1 i hi hk2) hc2).elim
    · rcases g2 with ⟨r2, e2⟩ | ⟨i2, hi2, hk2, hc2, q2, e2, t2⟩
      · exact (tf (r2 i hi hk1) hc1).elim
      · have hii : i = i2 := nI_injL (by omega) (by omega) (hk1.symm.trans hk2)
        subst hii
        obtain ⟨s1, s2, s3⟩ := hR.2.2.1 i hi
        have hg := (hR.1 (SL i) s1).1
        cases e1; cases e2
        rw [t1, t2, s3, hg 5 (by decide), hg 9 (by decide), hg 10 (by decide)]
  refine g_dstore hC (lv1 := [(6, .double a2), (4, .double a1), (3, .int (nI j)), (0, .ref b), (1, .ref (c 6 0)), (2, .ref q0)]) dL_law_576 (by decide) rfl ?_
  refine g_dload hC dL_law_578 1 rfl ?_
  refine g_dload hC dL_law_580 0 rfl ?_
  have K : V C 8 L7 f8 (k0 + 0) (n0 + 0) 604 [(6, .double a2), (4, .double a1), (3, .int (nI j)), (0, .ref b), (1, .ref (c 6 0)), (2, .ref q0)] [] := by
    refine g_goto hC 850 dL_law_604 (by decide) ?_
    refine g_sub [2, 3, 4, 5] rfl ?_
    exact g_widen (by omega) (by omega) (kc L7 f8 hfin.2)
  refine g_dcmpl_eq hC 604 dL_law_582 dL_law_583 (by decide) (fun _ => K) (fun c1 => ?_)
  rw [hfin.1] at c1
  refine g_dload hC dL_law_586 1 rfl ?_
  refine g_dload hC dL_law_588 1 rfl ?_
  refine g_dcmpl_eq hC 602 dL_law_590 dL_law_591 (by decide) (fun c2 => absurd (hfin.1 ▸ c2) (fun z => tf c1 z)) (fun _ => ?_)
  refine g_dload hC dL_law_594 0 rfl ?_
  refine g_dload hC dL_law_596 0 rfl ?_
  exact g_dcmpl_ne hC 604 dL_law_598 dL_law_599 (by decide) (fun _ => K) (fun c3 => (tf c1 c3).elim)
set_option maxHeartbeats 4000000 in
set_option maxRecDepth 100000 in
/-- the law: tick -/
theorem law_tick {C : CX} {l : Launch} {G : GD} {ret : Option FieldType} {post : PO} (hC : CxOk C cL_law 8 RL false room_1 G l ret post) {b N : Nat} {xs : Nat → Int32} (hS0 : ScrOk C b N xs) (hN : N ≤ 2560) {x0 q0 j k0 n0 : Nat} (hj : j + 5 ≤ N) (hk0 : k0 + 5 ≤ 600000) (hn0 : n0 + 29 ≤ 7302250) {L : List Nat} {f : Nat → va_E} (hJ : JW G x0 q0 L f) (kc : ∀ (L2 : List Nat) (f2 : Nat → va_E), JW G x0 q0 L2 f2 → V C 8 L2 f2 (k0 + 5) (n0 + 29) 850 [(3, .int (nI j)), (0, .ref b), (1, .ref x0), (2, .ref q0)] []) : V C 8 L f k0 n0 303 [(3, .int (nI j)), (0, .ref b), (1, .ref x0), (2, .ref q0)] [] := by
  obtain ⟨n, k, c, ma, X, XS, Z, OU, SL, Y, W0, rfl, hI, hM, hR⟩ := hJ
  have hn16 : n ≤ 16 := MI.n16 hM
  have hk16 : k ≤ 16 := MI.k16 hM
  refine g_aload_n hC dL_law_303 2 rfl ?_
  refine g_aload_n hC dL_law_304 1 rfl ?_
  refine g_iload_n hC dL_law_305 0 rfl ?_
  refine g_iconst hC 1 dL_law_306 (by decide) ?_
  refine g_iadd hC dL_law_307 ?_
  refine g_scr hC hS0 (j + 1) (show nI j + 1 = nI (j + 1) from nI_add j 1) (by omega) hN dL_law_308 ?_
  refine g_aload_n hC dL_law_309 1 rfl ?_
  refine g_iload_n hC dL_law_310 0 rfl ?_
  refine g_iconst hC 2 dL_law_311 (by decide) ?_
  refine g_iadd hC dL_law_312 ?_
  refine g_scr hC hS0 (j + 2) (show nI j + 2 = nI (j + 2) from nI_add j 2) (by omega) hN dL_law_313 ?_
  refine g_i2d hC dL_law_314 ?_
  refine g_ldc2 hC dL_law_315 q_cd_L_13 ?_
  refine g_dmul hC dL_law_318 (fun r1 er1 => ?_)
  refine g_aload_n hC dL_law_319 1 rfl ?_
  refine g_iload_n hC dL_law_320 0 rfl ?_
  refine g_iconst hC 3 dL_law_321 (by decide) ?_
  refine g_iadd hC dL_law_322 ?_
  refine g_scr hC hS0 (j + 3) (show nI j + 3 = nI (j + 3) from nI_add j 3) (by omega) hN dL_law_323 ?_
  refine g_i2d hC dL_law_324 ?_
  refine g_ldc2 hC dL_law_325 q_cd_L_13 ?_
  refine g_dmul hC dL_law_328 (fun r2 er2 => ?_)
  refine g_callV hC (Cn := RX4) (TT := TX4) (N := 4) dL_law_329 (ct_X4_tick l G L f hI (xs (j + 1)) r1 r2) q_code_X4_tick q_ml_L_30 q_im_X4_tick q_sel_X4_tick q_init_X4 ⟨rfl, by decide, by decide, (show (parseMethodDescriptor yX4_tick.desc).map (fun d => d.parameters.length) = some 3 from by decide +kernel)⟩ (CI.hm hI) (CI.h0 hI) rfl (by decide) (cs5 (by decide) (by decide) hk0 hn0) (Nat.le_of_ble_eq_true rfl) (fun v4 L5 f6 hp3 => ?_)
  obtain ⟨hL1, F1⟩ : (∀ b, b ∈ L → b ∈ L5) ∧ FRc L f f6 := by
    obtain ⟨rfl, hp⟩ := hp3
    refine ⟨fun _ h => h, ?_⟩
    rcases hp with ⟨_, _, rfl⟩ | ⟨_, _, _, _, h, _⟩
    · exact FRc.rf
    · exact h
  have hM1 : MI G q0 ma n k Y W0 L5 f6 := MI.frame hM hL1 F1
  obtain ⟨a1, rfl⟩ : ∃ a, v4 = some (.double a) := by
    rcases hp3.2 with ⟨_, h, _⟩ | ⟨_, _, _, _, _, ⟨_, h, _⟩ | ⟨_, _, _, _, _, _, _, h, _⟩⟩ <;> exact ⟨_, h⟩
  refine (show V C 8 L5 f6 (k0 + 0) (n0 + 0) 332 [(3, .int (nI j)), (0, .ref b), (1, .ref (c 6 0)), (2, .ref q0)] [.double a1] from ?_)
  refine g_dstore hC (lv1 := [(4, .double a1), (3, .int (nI j)), (0, .ref b), (1, .ref (c 6 0)), (2, .ref q0)]) dL_law_332 (by decide) rfl ?_
  refine g_aload_n hC dL_law_334 4 rfl ?_
  refine g_aload_n hC dL_law_335 2 rfl ?_
  refine g_iload_n hC dL_law_336 1 rfl ?_
  refine g_iconst hC 1 dL_law_337 (by decide) ?_
  refine g_iadd hC dL_law_338 ?_
  refine g_scr hC hS0 (j + 1) (show nI j + 1 = nI (j + 1) from nI_add j 1) (by omega) hN dL_law_339 ?_
  refine g_aload_n hC dL_law_340 2 rfl ?_
  refine g_iload_n hC dL_law_341 1 rfl ?_
  refine g_iconst hC 2 dL_law_342 (by decide) ?_
  refine g_iadd hC dL_law_343 ?_
  refine g_scr hC hS0 (j + 2) (show nI j + 2 = nI (j + 2) from nI_add j 2) (by omega) hN dL_law_344 ?_
  refine g_i2d hC dL_law_345 ?_
  refine g_ldc2 hC dL_law_346 q_cd_L_13 ?_
  refine g_dmul hC dL_law_349 (fun r7 er7 => ?_)
  refine g_aload_n hC dL_law_350 2 rfl ?_
  refine g_iload_n hC dL_law_351 1 rfl ?_
  refine g_iconst hC 3 dL_law_352 (by decide) ?_
  refine g_iadd hC dL_law_353 ?_
  refine g_scr hC hS0 (j + 3) (show nI j + 3 = nI (j + 3) from nI_add j 3) (by omega) hN dL_law_354 ?_
  refine g_i2d hC dL_law_355 ?_
  refine g_ldc2 hC dL_law_356 q_cd_L_13 ?_
  refine g_dmul hC dL_law_359 (fun r8 er8 => ?_)
  have hv1 : dv r1 = dv r7 := er1.trans er7.symm
  have hv2 : dv r2 = dv r8 := er2.trans er8.symm
  refine g_callV hC (Cn := RX5) (TT := TX5) (N := 26) dL_law_360 (ct_X5_tick l G L5 f6 hM1 OU (fun i hi => (hR.1 i hi).2.2.2.1) hR.2.2.2.1 (xs (j + 1)) r7 r8) q_code_X5_tick q_ml_L_34 q_im_X5_tick q_sel_X5_tick q_init_X5 ⟨rfl, by decide, by decide, (show (parseMethodDescriptor yX5_tick.desc).map (fun d => d.parameters.length) = some 3 from by decide +kernel)⟩ (MI.m hM1) (MI.o hM1) rfl (by decide) (cs0 rfl rfl (show k0 + 0 ≤ 600000 by omega) (show n0 + 0 ≤ 7302250 by omega)) (Nat.le_of_ble_eq_true rfl) (fun v10 L11 f12 hp9 => ?_)
  obtain ⟨a2, rfl⟩ : ∃ a, v10 = some (.double a) := by
    rcases hp9.2 with ⟨_, h, _⟩ | ⟨_, _, _, _, _, ⟨_, h, _⟩ | ⟨_, _, _, _, _, _, _, h, _⟩⟩ <;> exact ⟨_, h⟩
  refine (show V C 8 L11 f12 (k0 + 0) (n0 + 0) 363 [(4, .double a1), (3, .int (nI j)), (0, .ref b), (1, .ref (c 6 0)), (2, .ref q0)] [.double a2] from ?_)
  have hfin : dv a1 = dv a2 ∧ JW G (c 6 0) q0 L11 f12 := by
    have hq : ∀ i, i < n → tkC (dv r1) (dv r2) = tkC (dv r7) (dv r8) := by
      intro i hi
      rw [hv1, hv2]
    obtain ⟨rfl, g1⟩ := hp3
    obtain ⟨rfl, g2⟩ := hp9
    rcases g1 with ⟨r1, e1, rfl⟩ | ⟨i, hi, hk1, hc1, F2, I1⟩
    · rcases g2 with ⟨r2, e2, rfl⟩ | ⟨i, hi, hk2, hc2, F3, I2⟩
      · cases e1; cases e2; exact ⟨rfl, JW.mk rfl hI hM hR⟩
      · exact (tf (r1 i hi hk2) ((hq i hi).trans hc2)).elim
    · rcases g2 with ⟨r2, e2, rfl⟩ | ⟨i2, hi2, hk2, hc2, F3, I2⟩
      · exact (tf (r2 i hi hk1) ((hq i hi).symm.trans hc1)).elim
      · have hii : i = i2 := nI_injL (by omega) (by omega) (hk1.symm.trans hk2)
        subst hii
        have hl := hR.1 i hi
        have hrd : readS (dv r7) = true := (Bool.and_eq_true_iff.mp hc2).1
        have hin := LR.rin hl hrd
        have hou : (OU i).map (fun o => dv (X o 5)) = (OU i).map (fun o => dv (Y o 5)) := by
          rcases ho : OU i with _ | o
          · rfl
          · exact congrArg some ((hR.1 o (hR.2.2.2.1 i o hi ho)).1 5 (by decide))
        rcases I1 with ⟨b1, e1, I1⟩ | ⟨b1, u1, s1, q1, ee1, eu1, es1, e1, I1⟩
        · rcases I2 with ⟨b2, e2, I2⟩ | ⟨b2, u2, s2, q2, ee2, eu2, es2, e2, I2⟩
          · cases e1; cases e2
            exact ⟨hl.1 4 (by decide), JW.mk rfl (CI.frame I1 (fun _ h => h) F3) I2 (REL.set hR hi (fun a h => up2_o _ _ _ _ h) (fun a h => up2_o _ _ _ _ h) (by simp [up2]) (by simp [up2]) (by simp only [up2_r]; exact LR.flt hl))⟩
          · rw [hv1] at b1; exact (tf b1 (hin.trans b2)).elim
        · rcases I2 with ⟨b2, e2, I2⟩ | ⟨b2, u2, s2, q2, ee2, eu2, es2, e2, I2⟩
          · rw [hv1] at b1; exact (tf b2 (hin.symm.trans b1)).elim
          · have hqe : dv q1 = dv q2 := by rw [ee1, ee2, hou, hv1, hv2]
            have hue : dv u1 = dv u2 := by rw [eu1, eu2, hqe]; exact LR.eu hl _
            have hse : dv s1 = dv s2 := by rw [es1, es2, hqe]; exact LR.es hl _
            cases e1; cases e2
            exact ⟨hue, JW.mk rfl (CI.frame I1 (fun _ h => h) F3) I2 (REL.setX hR hi (fun a h => by rw [up2_o _ _ _ _ h, up2_o _ _ _ _ h, up2_o _ _ _ _ h]) (fun _ _ => rfl) (by simp [up2]) rfl (by simp only [up2_r]; exact LR.up (LR.up (LR.up hl (j := 6) (by decide) hse) (j := 5) (by decide) hue) (j := 7) (by decide) hqe))⟩
  refine g_dstore hC (lv1 := [(6, .double a2), (4, .double a1), (3, .int (nI j)), (0, .ref b), (1, .ref (c 6 0)), (2, .ref q0)]) dL_law_363 (by decide) rfl ?_
  refine g_dload hC dL_law_365 1 rfl ?_
  refine g_dload hC dL_law_367 0 rfl ?_
  have K : V C 8 L11 f12 (k0 + 0) (n0 + 0) 391 [(6, .double a2), (4, .double a1), (3, .int (nI j)), (0, .ref b), (1, .ref (c 6 0)), (2, .ref q0)] [] := by
    refine g_goto hC 850 dL_law_391 (by decide) ?_
    refine g_sub [2, 3, 4, 5] rfl ?_
    exact g_widen (by omega) (by omega) (kc L11 f12 hfin.2)
  refine g_dcmpl_eq hC 391 dL_law_369 dL_law_370 (by decide) (fun _ => K) (fun c1 => ?_)
  rw [hfin.1] at c1
  refine g_dload hC dL_law_373 1 rfl ?_
  refine g_dload hC dL_law_375 1 rfl ?_
  refine g_dcmpl_eq hC 389 dL_law_377 dL_law_378 (by decide) (fun c2 => absurd (hfin.1 ▸ c2) (fun z => tf c1 z)) (fun _ => ?_)
  refine g_dload hC dL_law_381 0 rfl ?_
  refine g_dload hC dL_law_383 0 rfl ?_
  exact g_dcmpl_ne hC 391 dL_law_385 dL_law_386 (by decide) (fun _ => K) (fun c3 => (tf c1 c3).elim)
set_option maxHeartbeats 4000000 in
set_option maxRecDepth 100000 in
/-- the law: cascade -/
theorem law_cascade {C : CX} {l : Launch} {G : GD} {ret : Option FieldType} {post : PO} (hC : CxOk C cL_law 8 RL false room_1 G l ret post) {b N : Nat} {xs : Nat → Int32} (hS0 : ScrOk C b N xs) (hN : N ≤ 2560) {x0 q0 j k0 n0 : Nat} (hj : j + 5 ≤ N) (hk0 : k0 + 5 ≤ 600000) (hn0 : n0 + 29 ≤ 7302250) {L : List Nat} {f : Nat → va_E} (hJ : JW G x0 q0 L f) (kc : ∀ (L2 : List Nat) (f2 : Nat → va_E), JW G x0 q0 L2 f2 → V C 8 L2 f2 (k0 + 5) (n0 + 29) 850 [(3, .int (nI j)), (0, .ref b), (1, .ref x0), (2, .ref q0)] []) : V C 8 L f k0 n0 470 [(3, .int (nI j)), (0, .ref b), (1, .ref x0), (2, .ref q0)] [] := by
  obtain ⟨n, k, c, ma, X, XS, Z, OU, SL, Y, W0, rfl, hI, hM, hR⟩ := hJ
  have hn16 : n ≤ 16 := MI.n16 hM
  have hk16 : k ≤ 16 := MI.k16 hM
  refine g_aload_n hC dL_law_470 2 rfl ?_
  refine g_aload_n hC dL_law_471 1 rfl ?_
  refine g_iload_n hC dL_law_472 0 rfl ?_
  refine g_iconst hC 1 dL_law_473 (by decide) ?_
  refine g_iadd hC dL_law_474 ?_
  refine g_scr hC hS0 (j + 1) (show nI j + 1 = nI (j + 1) from nI_add j 1) (by omega) hN dL_law_475 ?_
  refine g_aload_n hC dL_law_476 1 rfl ?_
  refine g_iload_n hC dL_law_477 0 rfl ?_
  refine g_iconst hC 2 dL_law_478 (by decide) ?_
  refine g_iadd hC dL_law_479 ?_
  refine g_scr hC hS0 (j + 2) (show nI j + 2 = nI (j + 2) from nI_add j 2) (by omega) hN dL_law_480 ?_
  refine g_callV hC (Cn := RX4) (TT := TX4) (N := 4) dL_law_481 (ct_X4_cascade l G L f hI (xs (j + 1)) (xs (j + 2))) q_code_X4_cascade q_ml_L_44 q_im_X4_cascade q_sel_X4_cascade q_init_X4 ⟨rfl, by decide, by decide, (show (parseMethodDescriptor yX4_cascade.desc).map (fun d => d.parameters.length) = some 2 from by decide +kernel)⟩ (CI.hm hI) (CI.h0 hI) rfl (by decide) (cs5 (by decide) (by decide) hk0 hn0) (Nat.le_of_ble_eq_true rfl) (fun v2 L3 f4 hp1 => ?_)
  obtain ⟨hL1, F1⟩ : (∀ b, b ∈ L → b ∈ L3) ∧ FRc L f f4 := by
    obtain ⟨rfl, hp⟩ := hp1
    refine ⟨fun _ h => h, ?_⟩
    rcases hp with ⟨_, _, rfl⟩ | ⟨_, _, _, _, _, _, _, _, h, _⟩
    · exact FRc.rf
    · exact h
  have hM1 : MI G q0 ma n k Y W0 L3 f4 := MI.frame hM hL1 F1
  obtain ⟨a1, rfl⟩ : ∃ a, v2 = some (.int a) := by
    rcases hp1.2 with ⟨_, h, _⟩ | ⟨_, _, _, _, _, _, _, h, _⟩ <;> exact ⟨_, h⟩
  refine (show V C 8 L3 f4 (k0 + 0) (n0 + 0) 484 [(3, .int (nI j)), (0, .ref b), (1, .ref (c 6 0)), (2, .ref q0)] [.int a1] from ?_)
  refine g_aload_n hC dL_law_484 3 rfl ?_
  refine g_aload_n hC dL_law_485 1 rfl ?_
  refine g_iload_n hC dL_law_486 0 rfl ?_
  refine g_iconst hC 1 dL_law_487 (by decide) ?_
  refine g_iadd hC dL_law_488 ?_
  refine g_scr hC hS0 (j + 1) (show nI j + 1 = nI (j + 1) from nI_add j 1) (by omega) hN dL_law_489 ?_
  refine g_aload_n hC dL_law_490 1 rfl ?_
  refine g_iload_n hC dL_law_491 0 rfl ?_
  refine g_iconst hC 2 dL_law_492 (by decide) ?_
  refine g_iadd hC dL_law_493 ?_
  refine g_scr hC hS0 (j + 2) (show nI j + 2 = nI (j + 2) from nI_add j 2) (by omega) hN dL_law_494 ?_
  refine g_callV hC (Cn := RX5) (TT := TX5) (N := 26) dL_law_495 (ct_X5_cascade l G L3 f4 hM1 OU (fun i hi => (hR.1 i hi).2.2.2.1) hR.2.2.2.1 hR.2.2.2.2 (xs (j + 1)) (xs (j + 2))) q_code_X5_cascade q_ml_L_47 q_im_X5_cascade q_sel_X5_cascade q_init_X5 ⟨rfl, by decide, by decide, (show (parseMethodDescriptor yX5_cascade.desc).map (fun d => d.parameters.length) = some 2 from by decide +kernel)⟩ (MI.m hM1) (MI.o hM1) rfl (by decide) (cs0 rfl rfl (show k0 + 0 ≤ 600000 by omega) (show n0 + 0 ≤ 7302250 by omega)) (Nat.le_of_ble_eq_true rfl) (fun v6 L7 f8 hp5 => ?_)
  obtain ⟨a2, rfl⟩ : ∃ a, v6 = some (.int a) := by
    rcases hp5.2 with ⟨_, h, _⟩ | ⟨_, _, _, _, _, _, _, h, _⟩ <;> exact ⟨_, h⟩
  refine (show V C 8 L7 f8 (k0 + 0) (n0 + 0) 498 [(3, .int (nI j)), (0, .ref b), (1, .ref (c 6 0)), (2, .ref q0)] [.int a2, .int a1] from ?_)
  have hfin : a1 = a2 ∧ JW G (c 6 0) q0 L7 f8 := by
    obtain ⟨rfl, g1⟩ := hp1
    obtain ⟨rfl, g2⟩ := hp5
    rcases g1 with ⟨r1, e1, rfl⟩ | ⟨i, b9, hi, hb, hk1, hy1, hc1, e1, F2, I1⟩
    · rcases g2 with ⟨r2, e2, rfl⟩ | ⟨i, b9, hi, hb, hk2, hy2, hc2, e2, F3, I2⟩
      · cases e1; cases e2; exact ⟨rfl, JW.mk rfl hI hM hR⟩
      · exact (tf hc2 (r1 i b9 hi hb hk2 hy2)).elim
    · rcases g2 with ⟨r2, e2, rfl⟩ | ⟨i2, b2, hi2, hb2, hk2, hy2, hc2, e2, F3, I2⟩
      · exact (tf hc1 (r2 i b9 hi hb hk1 hy1)).elim
      · have hii : i = i2 := nI_injL (by omega) (by omega) (hk1.symm.trans hk2)
        have hbb : b9 = b2 := nI_injL (by omega) (by omega) (hy1.symm.trans hy2)
        subst hii; subst hbb
        cases e1; cases e2
        exact ⟨rfl, JW.mk rfl (CI.frame I1 (fun _ h => h) F3) I2 (REL.cas hR hn16 hi hb hc1)⟩
  refine g_icmp_eq hC 850 dL_law_498 (by decide) (fun _ => ?_) (fun c => absurd hfin.1 c)
  exact g_widen (by omega) (by omega) (kc L7 f8 hfin.2)
set_option maxHeartbeats 4000000 in
set_option maxRecDepth 100000 in
/-- the law: split -/
theorem law_split {C : CX} {l : Launch} {G : GD} {ret : Option FieldType} {post : PO} (hC : CxOk C cL_law 8 RL false room_1 G l ret post) {b N : Nat} {xs : Nat → Int32} (hS0 : ScrOk C b N xs) (hN : N ≤ 2560) {x0 q0 j k0 n0 : Nat} (hj : j + 5 ≤ N) (hk0 : k0 + 5 ≤ 600000) (hn0 : n0 + 29 ≤ 7302250) {L : List Nat} {f : Nat → va_E} (hJ : JW G x0 q0 L f) (kc : ∀ (L2 : List Nat) (f2 : Nat → va_E), JW G x0 q0 L2 f2 → V C 8 L2 f2 (k0 + 5) (n0 + 29) 850 [(3, .int (nI j)), (0, .ref b), (1, .ref x0), (2, .ref q0)] []) : V C 8 L f k0 n0 503 [(3, .int (nI j)), (0, .ref b), (1, .ref x0), (2, .ref q0)] [] := by
  obtain ⟨n, k, c, ma, X, XS, Z, OU, SL, Y, W0, rfl, hI, hM, hR⟩ := hJ
  have hn16 : n ≤ 16 := MI.n16 hM
  have hk16 : k ≤ 16 := MI.k16 hM
  refine g_aload_n hC dL_law_503 2 rfl ?_
  refine g_aload_n hC dL_law_504 1 rfl ?_
  refine g_iload_n hC dL_law_505 0 rfl ?_
  refine g_iconst hC 1 dL_law_506 (by decide) ?_
  refine g_iadd hC dL_law_507 ?_
  refine g_scr hC hS0 (j + 1) (show nI j + 1 = nI (j + 1) from nI_add j 1) (by omega) hN dL_law_508 ?_
  refine g_aload_n hC dL_law_509 1 rfl ?_
  refine g_iload_n hC dL_law_510 0 rfl ?_
  refine g_iconst hC 2 dL_law_511 (by decide) ?_
  refine g_iadd hC dL_law_512 ?_
  refine g_scr hC hS0 (j + 2) (show nI j + 2 = nI (j + 2) from nI_add j 2) (by omega) hN dL_law_513 ?_
  refine g_i2d hC dL_law_514 ?_
  refine g_ldc2 hC dL_law_515 q_cd_L_13 ?_
  refine g_dmul hC dL_law_518 (fun r1 er1 => ?_)
  refine g_callV hC (Cn := RX4) (TT := TX4) (N := 4) dL_law_519 (ct_X4_split l G L f hI (xs (j + 1)) r1) q_code_X4_split q_ml_L_48 q_im_X4_split q_sel_X4_split q_init_X4 ⟨rfl, by decide, by decide, (show (parseMethodDescriptor yX4_split.desc).map (fun d => d.parameters.length) = some 2 from by decide +kernel)⟩ (CI.hm hI) (CI.h0 hI) rfl (by decide) (cs5 (by decide) (by decide) hk0 hn0) (Nat.le_of_ble_eq_true rfl) (fun v3 L4 f5 hp2 => ?_)
  obtain ⟨hL1, F1⟩ : (∀ b, b ∈ L → b ∈ L4) ∧ FRc L f f5 := by
    rcases hp2 with ⟨_, _, rfl, rfl⟩ | ⟨_, _, _, _, _, _, rfl, rfl⟩ | ⟨_, _, _, _, _, _, h1, h2, _⟩
    · exact ⟨fun _ h => h, FRc.rf⟩
    · exact ⟨fun _ h => h, FRc.rf⟩
    · exact ⟨h1, h2⟩
  have hM1 : MI G q0 ma n k Y W0 L4 f5 := MI.frame hM hL1 F1
  obtain ⟨a1, rfl⟩ : ∃ a, v3 = some (.int a) := by
    rcases hp2 with ⟨_, h, _⟩ | ⟨_, _, _, _, _, h, _⟩ | ⟨_, _, _, _, _, h, _⟩ <;> exact ⟨_, h⟩
  refine (show V C 8 L4 f5 (k0 + 1) (n0 + 2) 522 [(3, .int (nI j)), (0, .ref b), (1, .ref (c 6 0)), (2, .ref q0)] [.int a1] from ?_)
  refine g_aload_n hC dL_law_522 3 rfl ?_
  refine g_aload_n hC dL_law_523 1 rfl ?_
  refine g_iload_n hC dL_law_524 0 rfl ?_
  refine g_iconst hC 1 dL_law_525 (by decide) ?_
  refine g_iadd hC dL_law_526 ?_
  refine g_scr hC hS0 (j + 1) (show nI j + 1 = nI (j + 1) from nI_add j 1) (by omega) hN dL_law_527 ?_
  refine g_aload_n hC dL_law_528 1 rfl ?_
  refine g_iload_n hC dL_law_529 0 rfl ?_
  refine g_iconst hC 2 dL_law_530 (by decide) ?_
  refine g_iadd hC dL_law_531 ?_
  refine g_scr hC hS0 (j + 2) (show nI j + 2 = nI (j + 2) from nI_add j 2) (by omega) hN dL_law_532 ?_
  refine g_i2d hC dL_law_533 ?_
  refine g_ldc2 hC dL_law_534 q_cd_L_13 ?_
  refine g_dmul hC dL_law_537 (fun r6 er6 => ?_)
  have hv1 : dv r1 = dv r6 := er1.trans er6.symm
  refine g_callV hC (Cn := RX5) (TT := TX5) (N := 26) dL_law_538 (ct_X5_split l G L4 f5 hM1  (xs (j + 1)) r6) q_code_X5_split q_ml_L_52 q_im_X5_split q_sel_X5_split q_init_X5 ⟨rfl, by decide, by decide, (show (parseMethodDescriptor yX5_split.desc).map (fun d => d.parameters.length) = some 2 from by decide +kernel)⟩ (MI.m hM1) (MI.o hM1) rfl (by decide) (cs0 rfl rfl (show k0 + 1 ≤ 600000 by omega) (show n0 + 2 ≤ 7302250 by omega)) (Nat.le_of_ble_eq_true rfl) (fun v8 L9 f10 hp7 => ?_)
  obtain ⟨a2, rfl⟩ : ∃ a, v8 = some (.int a) := by
    rcases hp7.2 with ⟨_, h, _⟩ | ⟨_, _, _, _, _, h, _⟩ | ⟨_, _, _, _, _, h, _⟩ <;> exact ⟨_, h⟩
  refine (show V C 8 L9 f10 (k0 + 1) (n0 + 2) 541 [(3, .int (nI j)), (0, .ref b), (1, .ref (c 6 0)), (2, .ref q0)] [.int a2, .int a1] from ?_)
  have hfin : a1 = a2 ∧ JW G (c 6 0) q0 L9 f10 := by
    have hq : ∀ i, i < n → inS (dv r1) (dv (X i 9)) (dv (X i 10)) = inS (dv r6) (dv (Y i 9)) (dv (Y i 10)) := by
      intro i hi
      rw [(hR.1 i hi).1 9 (by decide), (hR.1 i hi).1 10 (by decide), hv1]
    obtain ⟨rfl, g2⟩ := hp7
    rcases hp2 with ⟨r1, e1, rfl, rfl⟩ | ⟨i, hi, hk1, hc1, hx1, e1, rfl, rfl⟩ | ⟨i, hi, hk1, hc1, hx1, e1, hL2, F2, c1, hcc, I1⟩
    · rcases g2 with ⟨r2, e2, rfl⟩ | ⟨i, hi, hk2, hc2, hx2, e2, rfl⟩ | ⟨i, hi, hk2, hc2, hx2, e2, F3, I2⟩
      · cases e1; cases e2; exact ⟨rfl, JW.mk rfl hI hM hR⟩
      · exact (tf (r1 i hi hk2) ((hq i hi).trans hc2)).elim
      · exact (tf (r1 i hi hk2) ((hq i hi).trans hc2)).elim
    · rcases g2 with ⟨r2, e2, rfl⟩ | ⟨i2, hi2, hk2, hc2, hx2, e2, rfl⟩ | ⟨i2, hi2, hk2, hc2, hx2, e2, F3, I2⟩
      · exact (tf (r2 i hi hk1) ((hq i hi).symm.trans hc1)).elim
      · cases e1; cases e2; exact ⟨rfl, JW.mk rfl hI hM hR⟩
      · exact absurd hx2 hx1
    · rcases g2 with ⟨r2, e2, rfl⟩ | ⟨i2, hi2, hk2, hc2, hx2, e2, rfl⟩ | ⟨i2, hi2, hk2, hc2, hx2, e2, F3, I2⟩
      · exact (tf (r2 i hi hk1) ((hq i hi).symm.trans hc1)).elim
      · exact absurd hx1 hx2
      · have hii : i = i2 := nI_injL (by omega) (by omega) (hk1.symm.trans hk2)
        subst hii
        cases e1; cases e2
        exact ⟨rfl, JW.mk hcc (CI.frame I1 (fun _ h => h) F3) I2 (REL.split hR hi hv1)⟩
  refine g_icmp_eq hC 850 dL_law_541 (by decide) (fun _ => ?_) (fun c => absurd hfin.1 c)
  exact g_widen (by omega) (by omega) (kc L9 f10 hfin.2)
set_option maxHeartbeats 4000000 in
set_option maxRecDepth 100000 in
/-- the law: tune -/
theorem law_tune {C : CX} {l : Launch} {G : GD} {ret : Option FieldType} {post : PO} (hC : CxOk C cL_law 8 RL false room_1 G l ret post) {b N : Nat} {xs : Nat → Int32} (hS0 : ScrOk C b N xs) (hN : N ≤ 2560) {x0 q0 j k0 n0 : Nat} (hj : j + 5 ≤ N) (hk0 : k0 + 5 ≤ 600000) (hn0 : n0 + 29 ≤ 7302250) {L : List Nat} {f : Nat → va_E} (hJ : JW G x0 q0 L f) (kc : ∀ (L2 : List Nat) (f2 : Nat → va_E), JW G x0 q0 L2 f2 → V C 8 L2 f2 (k0 + 5) (n0 + 29) 850 [(3, .int (nI j)), (0, .ref b), (1, .ref x0), (2, .ref q0)] []) : V C 8 L f k0 n0 670 [(3, .int (nI j)), (0, .ref b), (1, .ref x0), (2, .ref q0)] [] := by
  obtain ⟨n, k, c, ma, X, XS, Z, OU, SL, Y, W0, rfl, hI, hM, hR⟩ := hJ
  have hn16 : n ≤ 16 := MI.n16 hM
  have hk16 : k ≤ 16 := MI.k16 hM
  refine g_aload_n hC dL_law_670 2 rfl ?_
  refine g_aload_n hC dL_law_671 1 rfl ?_
  refine g_iload_n hC dL_law_672 0 rfl ?_
  refine g_iconst hC 1 dL_law_673 (by decide) ?_
  refine g_iadd hC dL_law_674 ?_
  refine g_scr hC hS0 (j + 1) (show nI j + 1 = nI (j + 1) from nI_add j 1) (by omega) hN dL_law_675 ?_
  refine g_aload_n hC dL_law_676 1 rfl ?_
  refine g_iload_n hC dL_law_677 0 rfl ?_
  refine g_iconst hC 2 dL_law_678 (by decide) ?_
  refine g_iadd hC dL_law_679 ?_
  refine g_scr hC hS0 (j + 2) (show nI j + 2 = nI (j + 2) from nI_add j 2) (by omega) hN dL_law_680 ?_
  refine g_callV hC (Cn := RX4) (TT := TX4) (N := 4) dL_law_681 (ct_X4_tune l G L f hI (xs (j + 1)) (xs (j + 2))) q_code_X4_tune q_ml_L_63 q_im_X4_tune q_sel_X4_tune q_init_X4 ⟨rfl, by decide, by decide, (show (parseMethodDescriptor yX4_tune.desc).map (fun d => d.parameters.length) = some 2 from by decide +kernel)⟩ (CI.hm hI) (CI.h0 hI) rfl (by decide) (cs5 (by decide) (by decide) hk0 hn0) (Nat.le_of_ble_eq_true rfl) (fun v2 L3 f4 hp1 => ?_)
  obtain ⟨hL1, F1⟩ : (∀ b, b ∈ L → b ∈ L3) ∧ FRc L f f4 := by
    obtain ⟨rfl, hp⟩ := hp1
    refine ⟨fun _ h => h, ?_⟩
    rcases hp with ⟨_, _, rfl⟩ | ⟨_, _, _, _, _, _, _, h, _⟩
    · exact FRc.rf
    · exact h
  have hM1 : MI G q0 ma n k Y W0 L3 f4 := MI.frame hM hL1 F1
  obtain ⟨a1, rfl⟩ : ∃ a, v2 = some (.int a) := by
    rcases hp1.2 with ⟨_, h, _⟩ | ⟨_, _, _, _, _, _, _, _, _, _, _, _, _, _, _, _, h, _⟩ <;> exact ⟨_, h⟩
  refine (show V C 8 L3 f4 (k0 + 0) (n0 + 0) 684 [(3, .int (nI j)), (0, .ref b), (1, .ref (c 6 0)), (2, .ref q0)] [.int a1] from ?_)
  refine g_aload_n hC dL_law_684 3 rfl ?_
  refine g_aload_n hC dL_law_685 1 rfl ?_
  refine g_iload_n hC dL_law_686 0 rfl ?_
  refine g_iconst hC 1 dL_law_687 (by decide) ?_
  refine g_iadd hC dL_law_688 ?_
  refine g_scr hC hS0 (j + 1) (show nI j + 1 = nI (j + 1) from nI_add j 1) (by omega) hN dL_law_689 ?_
  refine g_aload_n hC dL_law_690 1 rfl ?_
  refine g_iload_n hC dL_law_691 0 rfl ?_
  refine g_iconst hC 2 dL_law_692 (by decide) ?_
  refine g_iadd hC dL_law_693 ?_
  refine g_scr hC hS0 (j + 2) (show nI j + 2 = nI (j + 2) from nI_add j 2) (by omega) hN dL_law_694 ?_
  refine g_callV hC (Cn := RX5) (TT := TX5) (N := 26) dL_law_695 (ct_X5_tune l G L3 f4 hM1  (xs (j + 1)) (xs (j + 2))) q_code_X5_tune q_ml_L_67 q_im_X5_tune q_sel_X5_tune q_init_X5 ⟨rfl, by decide, by decide, (show (parseMethodDescriptor yX5_tune.desc).map (fun d => d.parameters.length) = some 2 from by decide +kernel)⟩ (MI.m hM1) (MI.o hM1) rfl (by decide) (cs0 rfl rfl (show k0 + 0 ≤ 600000 by omega) (show n0 + 0 ≤ 7302250 by omega)) (Nat.le_of_ble_eq_true rfl) (fun v6 L7 f8 hp5 => ?_)
  obtain ⟨a2, rfl⟩ : ∃ a, v6 = some (.int a) := by
    rcases hp5.2 with ⟨_, h, _⟩ | ⟨_, _, _, _, _, _, _, _, _, _, _, _, _, _, h, _⟩ <;> exact ⟨_, h⟩
  refine (show V C 8 L7 f8 (k0 + 0) (n0 + 0) 698 [(3, .int (nI j)), (0, .ref b), (1, .ref (c 6 0)), (2, .ref q0)] [.int a2, .int a1] from ?_)
  have hfin : a1 = a2 ∧ JW G (c 6 0) q0 L7 f8 := by
    have hq : ∀ i, i < n → tunC (xs (j + 2)) = tunC (xs (j + 2)) := by
      intro i hi
      rfl
    obtain ⟨rfl, g1⟩ := hp1
    obtain ⟨rfl, g2⟩ := hp5
    rcases g1 with ⟨r1, e1, rfl⟩ | ⟨i, hi, hk1, m1, hm1, hs1, hc1, F2, le1, rl1, sw1, lr1, mn1, mx1, pe1, t1, e1, I1⟩
    · rcases g2 with ⟨r2, e2, rfl⟩ | ⟨i, hi, hk2, m2, hm2, hs2, hc2, le2, rl2, sw2, lr2, mn2, mx2, pe2, e2, t2, hs3, F3, I2⟩
      · cases e1; cases e2; exact ⟨rfl, JW.mk rfl hI hM hR⟩
      · exact (tf (r1 i hi hk2) ((hq i hi).trans hc2)).elim
    · rcases g2 with ⟨r2, e2, rfl⟩ | ⟨i2, hi2, hk2, m2, hm2, hs2, hc2, le2, rl2, sw2, lr2, mn2, mx2, pe2, e2, t2, hs3, F3, I2⟩
      · exact (tf (r2 i hi hk1) ((hq i hi).symm.trans hc1)).elim
      · have hii : i = i2 := nI_injL (by omega) (by omega) (hk1.symm.trans hk2)
        subst hii
        have hmm : m1 = m2 := (nI_eq (by omega) (by omega)).mp (hs1.symm.trans hs2)
        subst hmm
        obtain ⟨zle, zrl, zs, zlr, zpe, zmn, zmx, zmn1, zmx1, w1, w2, w3, w4⟩ := tRun_two (dv (X i 16)) (dv (X i 17)) m1 (by omega)
        have t3 := t1.trans w1
        have t4 : _ = _ := t2.trans (show tRun (dv 0, 0, 0, 0, dv 0, dv 0, 0) m1 = _ from w2)
        have tok : zpe ≠ 0 → isN (tgA zmn1 zmx1) = false := fun hp => by
          have q := tune_ok (j := m1) (by omega) (by rw [w2]; exact hp)
          rw [w2] at q; exact q
        simp only [Prod.mk.injEq] at t3 t4
        obtain ⟨a01, a02, a03, a04, a05, a06, a07⟩ := t3
        obtain ⟨b01, b02, b03, b04, b05, b06, b07⟩ := t4
        cases e1; cases e2
        have hfn : pe2 ≠ 0 → dv mn1 = dv mn2 ∧ dv mx1 = dv mx2 ∧ isN (tgA (dv mn2) (dv mx2)) = false := fun hp => by
          have hz : zpe ≠ 0 := by rw [← b07]; exact hp
          rcases w4 with ⟨_, c2⟩ | ⟨_, c1, c2⟩
          · exact absurd c2 hz
          · exact ⟨by rw [a05, b05]; exact c1, by rw [a06, b06]; exact c2, by rw [b05, b06]; exact tok hz⟩
        exact ⟨a03.trans b03.symm, JW.mk rfl (CI.frame I1 (fun _ h => h) F3) I2 (REL.set hR hi (fun a h => by rw [up2_o _ _ _ _ h, up2_o _ _ _ _ h]) (fun a h => up2_o _ _ _ _ h) (by simp [up2]) (by simp [up2]) (by simp only [up2_r]; exact LR.tune (hR.1 i hi) (a07.trans b07.symm) hfn))⟩
  refine g_icmp_eq hC 850 dL_law_698 (by decide) (fun _ => ?_) (fun c => absurd hfin.1 c)
  exact g_widen (by omega) (by omega) (kc L7 f8 hfin.2)
set_option maxHeartbeats 4000000 in
set_option maxRecDepth 100000 in
/-- the law: loop -/
theorem law_loop {C : CX} {l : Launch} {G : GD} {ret : Option FieldType} {post : PO} (hC : CxOk C cL_law 8 RL false room_1 G l ret post) {b N : Nat} {xs : Nat → Int32} (hS0 : ScrOk C b N xs) (hN : N ≤ 2560) {x0 q0 j k0 n0 : Nat} (hj : j + 5 ≤ N) (hk0 : k0 + 5 ≤ 600000) (hn0 : n0 + 29 ≤ 7302250) {L : List Nat} {f : Nat → va_E} (hJ : JW G x0 q0 L f) (kc : ∀ (L2 : List Nat) (f2 : Nat → va_E), JW G x0 q0 L2 f2 → V C 8 L2 f2 (k0 + 5) (n0 + 29) 850 [(3, .int (nI j)), (0, .ref b), (1, .ref x0), (2, .ref q0)] []) : V C 8 L f k0 n0 104 [(3, .int (nI j)), (0, .ref b), (1, .ref x0), (2, .ref q0)] [] := by
  obtain ⟨n, k, c, ma, X, XS, Z, OU, SL, Y, W0, rfl, hI, hM, hR⟩ := hJ
  have hn16 : n ≤ 16 := MI.n16 hM
  have hk16 : k ≤ 16 := MI.k16 hM
  refine g_aload_n hC dL_law_104 2 rfl ?_
  refine g_aload_n hC dL_law_105 1 rfl ?_
  refine g_iload_n hC dL_law_106 0 rfl ?_
  refine g_iconst hC 1 dL_law_107 (by decide) ?_
  refine g_iadd hC dL_law_108 ?_
  refine g_scr hC hS0 (j + 1) (show nI j + 1 = nI (j + 1) from nI_add j 1) (by omega) hN dL_law_109 ?_
  refine g_i2d hC dL_law_110 ?_
  refine g_ldc2 hC dL_law_111 q_cd_L_13 ?_
  refine g_dmul hC dL_law_114 (fun r1 er1 => ?_)
  refine g_aload_n hC dL_law_115 1 rfl ?_
  refine g_iload_n hC dL_law_116 0 rfl ?_
  refine g_iconst hC 2 dL_law_117 (by decide) ?_
  refine g_iadd hC dL_law_118 ?_
  refine g_scr hC hS0 (j + 2) (show nI j + 2 = nI (j + 2) from nI_add j 2) (by omega) hN dL_law_119 ?_
  refine g_i2d hC dL_law_120 ?_
  refine g_ldc2 hC dL_law_121 q_cd_L_13 ?_
  refine g_dmul hC dL_law_124 (fun r2 er2 => ?_)
  refine g_aload_n hC dL_law_125 1 rfl ?_
  refine g_iload_n hC dL_law_126 0 rfl ?_
  refine g_iconst hC 3 dL_law_127 (by decide) ?_
  refine g_iadd hC dL_law_128 ?_
  refine g_scr hC hS0 (j + 3) (show nI j + 3 = nI (j + 3) from nI_add j 3) (by omega) hN dL_law_129 ?_
  refine g_i2d hC dL_law_130 ?_
  refine g_ldc2 hC dL_law_131 q_cd_L_13 ?_
  refine g_dmul hC dL_law_134 (fun r3 er3 => ?_)
  refine g_callV hC (Cn := RX4) (TT := TX4) (N := 4) dL_law_135 (ct_X4_loop l G L f hI r1 r2 r3) q_code_X4_loop q_ml_L_15 q_im_X4_loop q_sel_X4_loop q_init_X4 ⟨rfl, by decide, by decide, (show (parseMethodDescriptor yX4_loop.desc).map (fun d => d.parameters.length) = some 3 from by decide +kernel)⟩ (CI.hm hI) (CI.h0 hI) rfl (by decide) (cs5 (by decide) (by decide) hk0 hn0) (Nat.le_of_ble_eq_true rfl) (fun v5 L6 f7 hp4 => ?_)
  obtain ⟨hL1, F1⟩ : (∀ b, b ∈ L → b ∈ L6) ∧ FRc L f f7 := by
    rcases hp4 with ⟨_, _, rfl, rfl⟩ | ⟨_, _, _, rfl, rfl⟩ | ⟨_, _, _, h1, h2, _⟩
    · exact ⟨fun _ h => h, FRc.rf⟩
    · exact ⟨fun _ h => h, FRc.rf⟩
    · exact ⟨h1, h2⟩
  have hM1 : MI G q0 ma n k Y W0 L6 f7 := MI.frame hM hL1 F1
  obtain ⟨a1, rfl⟩ : ∃ a, v5 = some (.int a) := by
    rcases hp4 with ⟨_, h, _⟩ | ⟨_, _, h, _⟩ | ⟨_, _, h, _⟩ <;> exact ⟨_, h⟩
  refine (show V C 8 L6 f7 (k0 + 5) (n0 + 29) 138 [(3, .int (nI j)), (0, .ref b), (1, .ref (c 6 0)), (2, .ref q0)] [.int a1] from ?_)
  refine g_aload_n hC dL_law_138 3 rfl ?_
  refine g_aload_n hC dL_law_139 1 rfl ?_
  refine g_iload_n hC dL_law_140 0 rfl ?_
  refine g_iconst hC 1 dL_law_141 (by decide) ?_
  refine g_iadd hC dL_law_142 ?_
  refine g_scr hC hS0 (j + 1) (show nI j + 1 = nI (j + 1) from nI_add j 1) (by omega) hN dL_law_143 ?_
  refine g_i2d hC dL_law_144 ?_
  refine g_ldc2 hC dL_law_145 q_cd_L_13 ?_
  refine g_dmul hC dL_law_148 (fun r8 er8 => ?_)
  refine g_aload_n hC dL_law_149 1 rfl ?_
  refine g_iload_n hC dL_law_150 0 rfl ?_
  refine g_iconst hC 2 dL_law_151 (by decide) ?_
  refine g_iadd hC dL_law_152 ?_
  refine g_scr hC hS0 (j + 2) (show nI j + 2 = nI (j + 2) from nI_add j 2) (by omega) hN dL_law_153 ?_
  refine g_i2d hC dL_law_154 ?_
  refine g_ldc2 hC dL_law_155 q_cd_L_13 ?_
  refine g_dmul hC dL_law_158 (fun r9 er9 => ?_)
  refine g_aload_n hC dL_law_159 1 rfl ?_
  refine g_iload_n hC dL_law_160 0 rfl ?_
  refine g_iconst hC 3 dL_law_161 (by decide) ?_
  refine g_iadd hC dL_law_162 ?_
  refine g_scr hC hS0 (j + 3) (show nI j + 3 = nI (j + 3) from nI_add j 3) (by omega) hN dL_law_163 ?_
  refine g_i2d hC dL_law_164 ?_
  refine g_ldc2 hC dL_law_165 q_cd_L_13 ?_
  refine g_dmul hC dL_law_168 (fun r10 er10 => ?_)
  have hv0 : dv r1 = dv r8 := er1.trans er8.symm
  have hv1 : dv r2 = dv r9 := er2.trans er9.symm
  have hv2 : dv r3 = dv r10 := er3.trans er10.symm
  refine g_callV hC (Cn := RX5) (TT := TX5) (N := 26) dL_law_169 (ct_X5_loop l G L6 f7 hM1  r8 r9 r10) q_code_X5_loop q_ml_L_19 q_im_X5_loop q_sel_X5_loop q_init_X5 ⟨rfl, by decide, by decide, (show (parseMethodDescriptor yX5_loop.desc).map (fun d => d.parameters.length) = some 3 from by decide +kernel)⟩ (MI.m hM1) (MI.o hM1) rfl (by decide) (cs0 rfl rfl (show k0 + 5 ≤ 600000 by omega) (show n0 + 29 ≤ 7302250 by omega)) (Nat.le_of_ble_eq_true rfl) (fun v12 L13 f14 hp11 => ?_)
  obtain ⟨a2, rfl⟩ : ∃ a, v12 = some (.int a) := by
    rcases hp11.2 with ⟨_, h, _⟩ | ⟨_, _, h, _⟩ | ⟨_, _, h, _⟩ <;> exact ⟨_, h⟩
  refine (show V C 8 L13 f14 (k0 + 5) (n0 + 29) 172 [(3, .int (nI j)), (0, .ref b), (1, .ref (c 6 0)), (2, .ref q0)] [.int a2, .int a1] from ?_)
  have hfin : a1 = a2 ∧ JW G (c 6 0) q0 L13 f14 := by
    obtain ⟨rfl, g2⟩ := hp11
    have hq : gnC (dv r1) (dv r2) (dv r3) = gnC (dv r8) (dv r9) (dv r10) := by rw [hv0, hv1, hv2]
    rcases hp4 with ⟨hc1, e1, rfl, rfl⟩ | ⟨hc1, hx1, e1, rfl, rfl⟩ | ⟨hc1, hx1, e1, hL2, F2, c1, hcc, I1⟩
    · rcases g2 with ⟨hc2, e2, rfl⟩ | ⟨hc2, hx2, e2, rfl⟩ | ⟨hc2, hx2, e2, F3, I2⟩
      · cases e1; cases e2; exact ⟨rfl, JW.mk rfl hI hM hR⟩
      · exact (tf hc1 (hq.trans hc2)).elim
      · exact (tf hc1 (hq.trans hc2)).elim
    · rcases g2 with ⟨hc2, e2, rfl⟩ | ⟨hc2, hx2, e2, rfl⟩ | ⟨hc2, hx2, e2, F3, I2⟩
      · exact (tf hc2 (hq.symm.trans hc1)).elim
      · cases e1; cases e2; exact ⟨rfl, JW.mk rfl hI hM hR⟩
      · exact absurd hx2 hx1
    · rcases g2 with ⟨hc2, e2, rfl⟩ | ⟨hc2, hx2, e2, rfl⟩ | ⟨hc2, hx2, e2, F3, I2⟩
      · exact (tf hc2 (hq.symm.trans hc1)).elim
      · exact absurd hx1 hx2
      · cases e1; cases e2
        exact ⟨rfl, JW.mk hcc (CI.frame I1 (fun _ h => h) F3) I2 (REL.loop hR hx1 hv0 hv1 hv2)⟩
  refine g_icmp_eq hC 850 dL_law_172 (by decide) (fun _ => ?_) (fun c => absurd hfin.1 c)
  exact g_widen (by omega) (by omega) (kc L13 f14 hfin.2)
