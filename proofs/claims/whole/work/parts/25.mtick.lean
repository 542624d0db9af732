def rngT (w : Int32) (m lo hi : DT) : Bool := decide (w = 0) || inB m lo hi
def oI (x : Option Nat) : Int32 := match x with | none => -1 | some o => nI o
set_option maxHeartbeats 4000000 in
set_option maxRecDepth 100000 in
/-- tick of the model -/
theorem ct_X5_tick (l : Launch) (G : GD) (L : List Nat) (f : Nat → va_E) {q0 : Nat} {ma : Nat → Nat} {n k : Nat} {Y : Nat → Nat → UInt64} {W0 : Nat → Nat → Int32} (hM : MI G q0 ma n k Y W0 L f) (OU : Nat → Option Nat) (hO : ∀ i, i < n → W0 i 22 = oI (OU i)) (hO2 : ∀ i o, i < n → OU i = some o → o < n) (kx : Int32) (m tg : UInt64) : Ctr l yX5_tick cX5_tick 14 (some .double) { frames := 1, cells := 0, slots := 0, locals := 30 } G [.ref q0, .int kx, .double m, .double tg] L f (fun vv L1 f1 => L = L1 ∧ (((∀ i, i < n → kx = nI i → tkC (dv m) (dv tg) = false) ∧ vv = some (.double 0) ∧ f = f1) ∨ (∃ i, i < n ∧ kx = nI i ∧ tkC (dv m) (dv tg) = true ∧ FRm L f f1 ∧ ((rngT (W0 i 25) (dv m) (dv (Y i 13)) (dv (Y i 14)) = false ∧ vv = some (.double (Y i 4)) ∧ MI G q0 ma n k (up2 Y i 5 (Y i 4)) (up2 W0 i 21 (W0 i 21 + 1)) L f1) ∨ (rngT (W0 i 25) (dv m) (dv (Y i 13)) (dv (Y i 14)) = true ∧ ∃ u s e : UInt64, dv e = tkE ((OU i).map (fun o => dv (Y o 5))) (dv tg) (dv m) ∧ dv u = tU (dz (Y i)) (W0 i 20) (dv (Y i 9)) (dv (Y i 10)) (dv (Y i 11)) (dv (Y i 12)) (dv e) ∧ dv s = tS (dz (Y i)) (W0 i 20) (dv (Y i 9)) (dv (Y i 10)) (dv e) ∧ vv = some (.double u) ∧ MI G q0 ma n k (up2 (up2 (up2 Y i 6 s) i 5 u) i 7 e) W0 L f1))))) := by
  refine g_enter RX5 false (by decide) rfl (fun h => by cases h) (Nat.le_of_ble_eq_true rfl) (fun C hC => ?_)
  refine (show V C 14 L f 0 0 0 [(0, .ref q0), (1, .int kx), (2, .double m), (4, .double tg)] [] from ?_)
  refine g_aload_n hC dX5_tick_0 0 rfl ?_
  refine g_iload_n hC dX5_tick_1 1 rfl ?_
  refine g_callV hC (Cn := RX5) (TT := TX5) (N := 26) dX5_tick_2 (ct_X5_isLoop l G L f hM kx) q_code_X5_isLoop q_ml_X5_98 q_im_X5_isLoop q_sel_X5_isLoop q_init_X5 ⟨rfl, by decide, by decide, (show (parseMethodDescriptor yX5_isLoop.desc).map (fun d => d.parameters.length) = some 1 from by decide +kernel)⟩ (MI.m hM) (MI.o hM) rfl (by decide) (by decide) (Nat.le_of_ble_eq_true rfl) (fun v2 L3 f4 hp1 => ?_)
  obtain ⟨rfl, rfl, rfl⟩ := hp1
  rcases okL_cases (MI.n16 hM) kx with ⟨hb, hnoi⟩ | ⟨i, hi, rfl, hb⟩
  · refine g_eqI (show bI (okL n kx) = 0 from by rw [hb]; rfl) ?_
    refine g_if_eq hC 35 dX5_tick_5 (by decide) (fun _ => ?_) (fun c => absurd c (by decide))
    refine g_dconst0 hC dX5_tick_35 ?_
    exact g_dret hC dX5_tick_36 rfl ⟨rfl, Or.inl ⟨fun j hj q => absurd q (hnoi j hj), rfl, rfl⟩⟩ (Nat.zero_le _) (Nat.zero_le _)
  · refine g_eqI (show bI (okL n (nI i)) = 1 from by rw [hb]; rfl) ?_
    have hi16 : i < 16 := by have := MI.n16 hM; omega
    refine g_if_eq hC 35 dX5_tick_5 (by decide) (fun c => absurd c (by decide)) (fun _ => ?_)
    refine g_dload_n hC dX5_tick_8 2 rfl ?_
    refine g_ldc2 hC dX5_tick_9 q_cd_X5_106 ?_
    refine g_ldc2 hC dX5_tick_12 q_cd_X5_108 ?_
    refine g_callS hC dX5_tick_15 (ct_X5_isIn l G L f m 13920209183539462144 4696837146684686336) q_code_X5_isIn q_ml_X5_90 q_st_X5_isIn q_init_X5 ⟨by decide, by decide, (show (parseMethodDescriptor yX5_isIn.desc).map (fun d => d.parameters.length) = some 3 from by decide +kernel)⟩ (by decide) (by decide) (Nat.le_of_ble_eq_true rfl) (fun v6 L7 f8 hp5 => ?_)
    obtain ⟨rfl, rfl, rfl⟩ := hp5
    refine (show V C 14 L f 0 0 18 [(0, .ref q0), (1, .int (nI i)), (2, .double m), (4, .double tg)] [.int (bI (inB (dv m) (dv 13920209183539462144) (dv 4696837146684686336)))] from ?_)
    refine g_ifB_eq hC 35 dX5_tick_18 (by decide) (fun c9 => ?_) (fun c9 => ?_)
    · skip
      refine g_dconst0 hC dX5_tick_35 ?_
      exact g_dret hC dX5_tick_36 rfl ⟨rfl, Or.inl ⟨fun _ _ _ => by simp only [tkC, readS, Bool.and_true, Bool.true_and, Bool.and_false, Bool.false_and, Bool.not_true, Bool.not_false, decide_true, decide_false, Bool.or_true, Bool.true_or, Bool.or_false, Bool.false_or, c9], rfl, rfl⟩⟩ (Nat.zero_le _) (Nat.zero_le _)
    · skip
      refine g_dload hC dX5_tick_21 3 rfl ?_
      refine g_ldc2 hC dX5_tick_23 q_cd_X5_106 ?_
      refine g_ldc2 hC dX5_tick_26 q_cd_X5_108 ?_
      refine g_callS hC dX5_tick_29 (ct_X5_isIn l G L f tg 13920209183539462144 4696837146684686336) q_code_X5_isIn q_ml_X5_90 q_st_X5_isIn q_init_X5 ⟨by decide, by decide, (show (parseMethodDescriptor yX5_isIn.desc).map (fun d => d.parameters.length) = some 3 from by decide +kernel)⟩ (by decide) (by decide) (Nat.le_of_ble_eq_true rfl) (fun v11 L12 f13 hp10 => ?_)
      obtain ⟨rfl, rfl, rfl⟩ := hp10
      refine (show V C 14 L f 0 0 32 [(0, .ref q0), (1, .int (nI i)), (2, .double m), (4, .double tg)] [.int (bI (inB (dv tg) (dv 13920209183539462144) (dv 4696837146684686336)))] from ?_)
      refine g_ifB_ne hC 37 dX5_tick_32 (by decide) (fun c14 => ?_) (fun c14 => ?_)
      · skip
        have htk : tkC (dv m) (dv tg) = true := by simp only [tkC, readS, Bool.and_true, Bool.true_and, Bool.and_false, Bool.false_and, Bool.not_true, Bool.not_false, decide_true, decide_false, Bool.or_true, Bool.true_or, Bool.or_false, Bool.false_or, c9, c14]
        have K : rngT (W0 i 25) (dv m) (dv (Y i 13)) (dv (Y i 14)) = true → V C 14 L f 0 0 94 [(0, .ref q0), (1, .int (nI i)), (2, .double m), (4, .double tg)] [] := by
          intro hr
          refine g_aload_n hC dX5_tick_94 0 rfl ?_
          refine g_get hC (kf := 18) (TT := TX5) (N := 26) (Cn := RX5) dX5_tick_95 (MI.m hM) (MI.o hM) rfl q_u5 (by decide) q_fl_X5_63 rfl rfl ?_
          refine g_iload_n hC dX5_tick_98 1 rfl ?_
          refine g_mil hC hM 22 (by decide) (by decide) hi16 (W0 i 22) rfl dX5_tick_99 ?_
          rcases ho : OU i with _ | o
          · refine g_eqI (show W0 i 22 = (-1) from by rw [hO i hi, ho]; rfl) ?_
            refine g_if_lt hC 117 dX5_tick_100 (by decide) (fun _ => ?_) (fun c => absurd (by decide) c)
            refine g_dload hC dX5_tick_117 3 rfl ?_
            refine g_dload_n hC dX5_tick_119 2 rfl ?_
            refine g_dsub hC dX5_tick_120 (fun r15 er15 => ?_)
            refine g_dstore hC (lv1 := [(6, .double r15), (0, .ref q0), (1, .int (nI i)), (2, .double m), (4, .double tg)]) dX5_tick_121 (by decide) rfl ?_
            refine g_aload_n hC dX5_tick_123 1 rfl ?_
            refine g_get hC (kf := 17) (TT := TX5) (N := 26) (Cn := RX5) dX5_tick_124 (MI.m hM) (MI.o hM) rfl q_u5 (by decide) q_fl_X5_59 rfl rfl ?_
            refine g_iload_n hC dX5_tick_127 2 rfl ?_
            refine g_mil hC hM 20 (by decide) (by decide) hi16 (W0 i 20) rfl dX5_tick_128 ?_
            refine g_if_ne hC 146 dX5_tick_129 (by decide) (fun c16 => ?_) (fun c16 => ?_)
            · skip
              refine g_aload_n hC dX5_tick_146 1 rfl ?_
              refine g_get hC (kf := 17) (TT := TX5) (N := 26) (Cn := RX5) dX5_tick_147 (MI.m hM) (MI.o hM) rfl q_u5 (by decide) q_fl_X5_59 rfl rfl ?_
              refine g_iload_n hC dX5_tick_150 2 rfl ?_
              refine g_mil hC hM 20 (by decide) (by decide) hi16 (W0 i 20) rfl dX5_tick_151 ?_
              refine g_iconst hC 1 dX5_tick_152 (by decide) ?_
              refine g_icmp_ne hC 313 dX5_tick_153 (by decide) (fun c17 => ?_) (fun c17 => ?_)
              · skip
                refine g_dload hC dX5_tick_313 0 rfl ?_
                refine g_aload_n hC dX5_tick_315 1 rfl ?_
                refine g_get hC (kf := 9) (TT := TX5) (N := 26) (Cn := RX5) dX5_tick_316 (MI.m hM) (MI.o hM) rfl q_u5 (by decide) q_fl_X5_34 rfl rfl ?_
                refine g_iload_n hC dX5_tick_319 2 rfl ?_
                refine g_mdl hC hM 12 (by decide) (by decide) hi16 (Y i 12) rfl dX5_tick_320 ?_
                refine g_dcmpl_le hC 339 dX5_tick_321 dX5_tick_322 (by decide) (fun c18 => ?_) (fun c18 => ?_)
                · try simp only [er15] at c18
                  refine g_dload hC dX5_tick_339 0 rfl ?_
                  refine g_aload_n hC dX5_tick_341 1 rfl ?_
                  refine g_get hC (kf := 8) (TT := TX5) (N := 26) (Cn := RX5) dX5_tick_342 (MI.m hM) (MI.o hM) rfl q_u5 (by decide) q_fl_X5_31 rfl rfl ?_
                  refine g_iload_n hC dX5_tick_345 2 rfl ?_
                  refine g_mdl hC hM 11 (by decide) (by decide) hi16 (Y i 11) rfl dX5_tick_346 ?_
                  refine g_dcmpg_ge hC 362 dX5_tick_347 dX5_tick_348 (by decide) (fun c19 => ?_) (fun c19 => ?_)
                  · try simp only [er15] at c19
                    refine g_aload_n hC dX5_tick_362 1 rfl ?_
                    refine g_get hC (kf := 15) (TT := TX5) (N := 26) (Cn := RX5) dX5_tick_363 (MI.m hM) (MI.o hM) rfl q_u5 (by decide) q_fl_X5_53 rfl rfl ?_
                    refine g_iload_n hC dX5_tick_366 2 rfl ?_
                    refine g_dload hC dX5_tick_367 0 rfl ?_
                    refine g_mds hC hM 7 (by decide) (by decide) hi16 dX5_tick_369 (fun f20 hM21 hR22 => ?_)
                    refine g_aload_n hC dX5_tick_370 1 rfl ?_
                    refine g_get hC (kf := 13) (TT := TX5) (N := 26) (Cn := RX5) dX5_tick_371 (MI.m hM21) (MI.o hM21) rfl q_u5 (by decide) q_fl_X5_47 rfl rfl ?_
                    refine g_iload_n hC dX5_tick_374 2 rfl ?_
                    refine g_mdl hC hM21 5 (by decide) (by decide) hi16 (Y i 5) (by simp [up2]) dX5_tick_375 ?_
                    exact g_dret hC dX5_tick_376 rfl ⟨rfl, Or.inr ⟨i, hi, rfl, htk, hR22, Or.inr ⟨hr, (Y i 5), (Y i 6), r15, by rw [ho]; exact er15, by simp [dz, tU, fU, fV, fA, oU, nearS, c16, c17, c18, c19, er15], by simp [dz, tS, fS, fV, fA, c16, c17, c18, c19, er15], rfl, (by rw [up2_id, up2_id]; exact hM21)⟩⟩⟩ (Nat.zero_le _) (Nat.zero_le _)
                  · try simp only [er15] at c19
                    refine g_aload_n hC dX5_tick_351 1 rfl ?_
                    refine g_iload_n hC dX5_tick_352 2 rfl ?_
                    refine g_aload_n hC dX5_tick_353 1 rfl ?_
                    refine g_get hC (kf := 4) (TT := TX5) (N := 26) (Cn := RX5) dX5_tick_354 (MI.m hM) (MI.o hM) rfl q_u5 (by decide) q_fl_X5_19 rfl rfl ?_
                    refine g_iload_n hC dX5_tick_357 2 rfl ?_
                    refine g_mdl hC hM 9 (by decide) (by decide) hi16 (Y i 9) rfl dX5_tick_358 ?_
                    refine g_callV hC (Cn := RX5) (TT := TX5) (N := 26) dX5_tick_359 (ct_X5_move l G L f hM hi16 (Y i 9)) q_code_X5_move q_ml_X5_110 q_im_X5_move q_sel_X5_move q_init_X5 ⟨rfl, by decide, by decide, (show (parseMethodDescriptor yX5_move.desc).map (fun d => d.parameters.length) = some 2 from by decide +kernel)⟩ (MI.m hM) (MI.o hM) rfl (by decide) (by decide) (Nat.le_of_ble_eq_true rfl) (fun v24 L25 f26 hp23 => ?_)
                    obtain ⟨rfl, rfl, hR27, u28, hu29, hM30⟩ := hp23
                    have hu29x : dv u28 = MV (dv (Y i 5)) (dv (Y i 3)) (dv (Y i 9)) := hu29.trans (by simp [up2])
                    refine (show V C 14 L f26 0 0 362 [(6, .double r15), (0, .ref q0), (1, .int (nI i)), (2, .double m), (4, .double tg)] [] from ?_)
                    refine g_aload_n hC dX5_tick_362 1 rfl ?_
                    refine g_get hC (kf := 15) (TT := TX5) (N := 26) (Cn := RX5) dX5_tick_363 (MI.m hM30) (MI.o hM30) rfl q_u5 (by decide) q_fl_X5_53 rfl rfl ?_
                    refine g_iload_n hC dX5_tick_366 2 rfl ?_
                    refine g_dload hC dX5_tick_367 0 rfl ?_
                    refine g_mds hC hM30 7 (by decide) (by decide) hi16 dX5_tick_369 (fun f31 hM32 hR33 => ?_)
                    refine g_aload_n hC dX5_tick_370 1 rfl ?_
                    refine g_get hC (kf := 13) (TT := TX5) (N := 26) (Cn := RX5) dX5_tick_371 (MI.m hM32) (MI.o hM32) rfl q_u5 (by decide) q_fl_X5_47 rfl rfl ?_
                    refine g_iload_n hC dX5_tick_374 2 rfl ?_
                    refine g_mdl hC hM32 5 (by decide) (by decide) hi16 u28 (by simp [up2]) dX5_tick_375 ?_
                    exact g_dret hC dX5_tick_376 rfl ⟨rfl, Or.inr ⟨i, hi, rfl, htk, (FRm.trans hR27 hR33), Or.inr ⟨hr, u28, (Y i 6), r15, by rw [ho]; exact er15, by simp [dz, tU, fU, fV, fA, oU, nearS, c16, c17, c18, c19, hu29x, er15], by simp [dz, tS, fS, fV, fA, c16, c17, c18, c19, hu29x, er15], rfl, (by rw [up2_id]; exact hM32)⟩⟩⟩ (Nat.zero_le _) (Nat.zero_le _)
                · try simp only [er15] at c18
                  refine g_aload_n hC dX5_tick_325 1 rfl ?_
                  refine g_iload_n hC dX5_tick_326 2 rfl ?_
                  refine g_aload_n hC dX5_tick_327 1 rfl ?_
                  refine g_get hC (kf := 5) (TT := TX5) (N := 26) (Cn := RX5) dX5_tick_328 (MI.m hM) (MI.o hM) rfl q_u5 (by decide) q_fl_X5_22 rfl rfl ?_
                  refine g_iload_n hC dX5_tick_331 2 rfl ?_
                  refine g_mdl hC hM 10 (by decide) (by decide) hi16 (Y i 10) rfl dX5_tick_332 ?_
                  refine g_callV hC (Cn := RX5) (TT := TX5) (N := 26) dX5_tick_333 (ct_X5_move l G L f hM hi16 (Y i 10)) q_code_X5_move q_ml_X5_110 q_im_X5_move q_sel_X5_move q_init_X5 ⟨rfl, by decide, by decide, (show (parseMethodDescriptor yX5_move.desc).map (fun d => d.parameters.length) = some 2 from by decide +kernel)⟩ (MI.m hM) (MI.o hM) rfl (by decide) (by decide) (Nat.le_of_ble_eq_true rfl) (fun v35 L36 f37 hp34 => ?_)
                  obtain ⟨rfl, rfl, hR38, u39, hu40, hM41⟩ := hp34
                  have hu40x : dv u39 = MV (dv (Y i 5)) (dv (Y i 3)) (dv (Y i 10)) := hu40.trans (by simp [up2])
                  refine (show V C 14 L f37 0 0 336 [(6, .double r15), (0, .ref q0), (1, .int (nI i)), (2, .double m), (4, .double tg)] [] from ?_)
                  refine g_goto hC 362 dX5_tick_336 (by decide) ?_
                  refine g_aload_n hC dX5_tick_362 1 rfl ?_
                  refine g_get hC (kf := 15) (TT := TX5) (N := 26) (Cn := RX5) dX5_tick_363 (MI.m hM41) (MI.o hM41) rfl q_u5 (by decide) q_fl_X5_53 rfl rfl ?_
                  refine g_iload_n hC dX5_tick_366 2 rfl ?_
                  refine g_dload hC dX5_tick_367 0 rfl ?_
                  refine g_mds hC hM41 7 (by decide) (by decide) hi16 dX5_tick_369 (fun f42 hM43 hR44 => ?_)
                  refine g_aload_n hC dX5_tick_370 1 rfl ?_
                  refine g_get hC (kf := 13) (TT := TX5) (N := 26) (Cn := RX5) dX5_tick_371 (MI.m hM43) (MI.o hM43) rfl q_u5 (by decide) q_fl_X5_47 rfl rfl ?_
                  refine g_iload_n hC dX5_tick_374 2 rfl ?_
                  refine g_mdl hC hM43 5 (by decide) (by decide) hi16 u39 (by simp [up2]) dX5_tick_375 ?_
                  exact g_dret hC dX5_tick_376 rfl ⟨rfl, Or.inr ⟨i, hi, rfl, htk, (FRm.trans hR38 hR44), Or.inr ⟨hr, u39, (Y i 6), r15, by rw [ho]; exact er15, by simp [dz, tU, fU, fV, fA, oU, nearS, c16, c17, c18, hu40x, er15], by simp [dz, tS, fS, fV, fA, c16, c17, c18, hu40x, er15], rfl, (by rw [up2_id]; exact hM43)⟩⟩⟩ (Nat.zero_le _) (Nat.zero_le _)
              · skip
                refine g_aload_n hC dX5_tick_156 1 rfl ?_
                refine g_get hC (kf := 14) (TT := TX5) (N := 26) (Cn := RX5) dX5_tick_157 (MI.m hM) (MI.o hM) rfl q_u5 (by decide) q_fl_X5_50 rfl rfl ?_
                refine g_iload_n hC dX5_tick_160 2 rfl ?_
                refine g_mdl hC hM 6 (by decide) (by decide) hi16 (Y i 6) rfl dX5_tick_161 ?_
                refine g_aload_n hC dX5_tick_162 1 rfl ?_
                refine g_get hC (kf := 2) (TT := TX5) (N := 26) (Cn := RX5) dX5_tick_163 (MI.m hM) (MI.o hM) rfl q_u5 (by decide) q_fl_X5_13 rfl rfl ?_
                refine g_iload_n hC dX5_tick_166 2 rfl ?_
                refine g_mdl hC hM 1 (by decide) (by decide) hi16 (Y i 1) rfl dX5_tick_167 ?_
                refine g_dload hC dX5_tick_168 0 rfl ?_
                refine g_dmul hC dX5_tick_170 (fun r45 er45 => ?_)
                try simp only [er15] at er45
                refine g_dadd hC dX5_tick_171 (fun r46 er46 => ?_)
                try simp only [er15, er45] at er46
                refine g_dstore hC (lv1 := [(8, .double r46), (6, .double r15), (0, .ref q0), (1, .int (nI i)), (2, .double m), (4, .double tg)]) dX5_tick_172 (by decide) rfl ?_
                refine g_aload_n hC dX5_tick_174 2 rfl ?_
                refine g_get hC (kf := 1) (TT := TX5) (N := 26) (Cn := RX5) dX5_tick_175 (MI.m hM) (MI.o hM) rfl q_u5 (by decide) q_fl_X5_9 rfl rfl ?_
                refine g_iload_n hC dX5_tick_178 3 rfl ?_
                refine g_mdl hC hM 0 (by decide) (by decide) hi16 (Y i 0) rfl dX5_tick_179 ?_
                refine g_dload hC dX5_tick_180 1 rfl ?_
                refine g_dmul hC dX5_tick_182 (fun r47 er47 => ?_)
                try simp only [er15, er45, er46] at er47
                refine g_dload hC dX5_tick_183 0 rfl ?_
                refine g_dadd hC dX5_tick_185 (fun r48 er48 => ?_)
                try simp only [er15, er45, er46, er47] at er48
                refine g_aload_n hC dX5_tick_186 2 rfl ?_
                refine g_get hC (kf := 3) (TT := TX5) (N := 26) (Cn := RX5) dX5_tick_187 (MI.m hM) (MI.o hM) rfl q_u5 (by decide) q_fl_X5_16 rfl rfl ?_
                refine g_iload_n hC dX5_tick_190 3 rfl ?_
                refine g_mdl hC hM 2 (by decide) (by decide) hi16 (Y i 2) rfl dX5_tick_191 ?_
                refine g_dload hC dX5_tick_192 1 rfl ?_
                refine g_aload_n hC dX5_tick_194 2 rfl ?_
                refine g_get hC (kf := 15) (TT := TX5) (N := 26) (Cn := RX5) dX5_tick_195 (MI.m hM) (MI.o hM) rfl q_u5 (by decide) q_fl_X5_53 rfl rfl ?_
                refine g_iload_n hC dX5_tick_198 3 rfl ?_
                refine g_mdl hC hM 7 (by decide) (by decide) hi16 (Y i 7) rfl dX5_tick_199 ?_
                refine g_dsub hC dX5_tick_200 (fun r49 er49 => ?_)
                try simp only [er15, er45, er46, er47, er48] at er49
                refine g_dmul hC dX5_tick_201 (fun r50 er50 => ?_)
                try simp only [er15, er45, er46, er47, er48, er49] at er50
                refine g_dadd hC dX5_tick_202 (fun r51 er51 => ?_)
                try simp only [er15, er45, er46, er47, er48, er49, er50] at er51
                refine g_dstore hC (lv1 := [(10, .double r51), (8, .double r46), (6, .double r15), (0, .ref q0), (1, .int (nI i)), (2, .double m), (4, .double tg)]) dX5_tick_203 (by decide) rfl ?_
                refine g_dload hC dX5_tick_205 0 rfl ?_
                refine g_aload_n hC dX5_tick_207 3 rfl ?_
                refine g_get hC (kf := 5) (TT := TX5) (N := 26) (Cn := RX5) dX5_tick_208 (MI.m hM) (MI.o hM) rfl q_u5 (by decide) q_fl_X5_22 rfl rfl ?_
                refine g_iload_n hC dX5_tick_211 4 rfl ?_
                refine g_mdl hC hM 10 (by decide) (by decide) hi16 (Y i 10) rfl dX5_tick_212 ?_
                refine g_dcmpl_le hC 221 dX5_tick_213 dX5_tick_214 (by decide) (fun c52 => ?_) (fun c52 => ?_)
                · try simp only [er15, er45, er46, er47, er48, er49, er50, er51] at c52
                  refine g_iconst hC 0 dX5_tick_221 (by decide) ?_
                  refine g_istore hC (lv1 := [(12, .int 0), (10, .double r51), (8, .double r46), (6, .double r15), (0, .ref q0), (1, .int (nI i)), (2, .double m), (4, .double tg)]) dX5_tick_222 (by decide) rfl ?_
                  refine g_dload hC dX5_tick_224 1 rfl ?_
                  refine g_aload_n hC dX5_tick_226 4 rfl ?_
                  refine g_get hC (kf := 4) (TT := TX5) (N := 26) (Cn := RX5) dX5_tick_227 (MI.m hM) (MI.o hM) rfl q_u5 (by decide) q_fl_X5_19 rfl rfl ?_
                  refine g_iload_n hC dX5_tick_230 5 rfl ?_
                  refine g_mdl hC hM 9 (by decide) (by decide) hi16 (Y i 9) rfl dX5_tick_231 ?_
                  refine g_dcmpg_ge hC 240 dX5_tick_232 dX5_tick_233 (by decide) (fun c53 => ?_) (fun c53 => ?_)
                  · try simp only [er15, er45, er46, er47, er48, er49, er50, er51] at c53
                    refine g_iconst hC 0 dX5_tick_240 (by decide) ?_
                    refine g_istore hC (lv1 := [(13, .int 0), (12, .int 0), (10, .double r51), (8, .double r46), (6, .double r15), (0, .ref q0), (1, .int (nI i)), (2, .double m), (4, .double tg)]) dX5_tick_241 (by decide) rfl ?_
                    refine g_iload hC dX5_tick_243 1 rfl ?_
                    refine g_if_eq hC 255 dX5_tick_245 (by decide) (fun _ => ?_) (fun c => absurd c (by decide))
                    refine g_iload hC dX5_tick_255 0 rfl ?_
                    refine g_if_eq hC 267 dX5_tick_257 (by decide) (fun _ => ?_) (fun c => absurd c (by decide))
                    refine g_aload_n hC dX5_tick_267 5 rfl ?_
                    refine g_get hC (kf := 14) (TT := TX5) (N := 26) (Cn := RX5) dX5_tick_268 (MI.m hM) (MI.o hM) rfl q_u5 (by decide) q_fl_X5_50 rfl rfl ?_
                    refine g_iload_n hC dX5_tick_271 6 rfl ?_
                    refine g_dload hC dX5_tick_272 3 rfl ?_
                    refine g_mds hC hM 6 (by decide) (by decide) hi16 dX5_tick_274 (fun f54 hM55 hR56 => ?_)
                    refine g_aload_n hC dX5_tick_275 5 rfl ?_
                    refine g_iload_n hC dX5_tick_276 6 rfl ?_
                    refine g_iload hC dX5_tick_277 0 rfl ?_
                    refine g_if_eq hC 291 dX5_tick_279 (by decide) (fun _ => ?_) (fun c => absurd c (by decide))
                    refine g_iload hC dX5_tick_291 1 rfl ?_
                    refine g_if_eq hC 305 dX5_tick_293 (by decide) (fun _ => ?_) (fun c => absurd c (by decide))
                    refine g_dload hC dX5_tick_305 2 rfl ?_
                    refine g_callV hC (Cn := RX5) (TT := TX5) (N := 26) dX5_tick_307 (ct_X5_move l G L f54 hM55 hi16 r51) q_code_X5_move q_ml_X5_110 q_im_X5_move q_sel_X5_move q_init_X5 ⟨rfl, by decide, by decide, (show (parseMethodDescriptor yX5_move.desc).map (fun d => d.parameters.length) = some 2 from by decide +kernel)⟩ (MI.m hM55) (MI.o hM55) rfl (by decide) (by decide) (Nat.le_of_ble_eq_true rfl) (fun v58 L59 f60 hp57 => ?_)
                    obtain ⟨rfl, rfl, hR61, u62, hu63, hM64⟩ := hp57
                    have hu63x : dv u62 = MV (dv (Y i 5)) (dv (Y i 3)) (dv r51) := hu63.trans (by simp [up2])
                    refine (show V C 14 L f60 0 0 310 [(13, .int 0), (12, .int 0), (10, .double r51), (8, .double r46), (6, .double r15), (0, .ref q0), (1, .int (nI i)), (2, .double m), (4, .double tg)] [] from ?_)
                    refine g_goto hC 362 dX5_tick_310 (by decide) ?_
                    refine g_aload_n hC dX5_tick_362 5 rfl ?_
                    refine g_get hC (kf := 15) (TT := TX5) (N := 26) (Cn := RX5) dX5_tick_363 (MI.m hM64) (MI.o hM64) rfl q_u5 (by decide) q_fl_X5_53 rfl rfl ?_
                    refine g_iload_n hC dX5_tick_366 6 rfl ?_
                    refine g_dload hC dX5_tick_367 4 rfl ?_
                    refine g_mds hC hM64 7 (by decide) (by decide) hi16 dX5_tick_369 (fun f65 hM66 hR67 => ?_)
                    refine g_aload_n hC dX5_tick_370 5 rfl ?_
                    refine g_get hC (kf := 13) (TT := TX5) (N := 26) (Cn := RX5) dX5_tick_371 (MI.m hM66) (MI.o hM66) rfl q_u5 (by decide) q_fl_X5_47 rfl rfl ?_
                    refine g_iload_n hC dX5_tick_374 6 rfl ?_
                    refine g_mdl hC hM66 5 (by decide) (by decide) hi16 u62 (by simp [up2]) dX5_tick_375 ?_
                    exact g_dret hC dX5_tick_376 rfl ⟨rfl, Or.inr ⟨i, hi, rfl, htk, (FRm.trans (FRm.trans hR56 hR61) hR67), Or.inr ⟨hr, u62, r46, r15, by rw [ho]; exact er15, by simp [dz, tU, fU, fV, fA, oU, nearS, c16, c17, c52, c53, hu63x, er15, er45, er46, er47, er48, er49, er50, er51], by simp [dz, tS, fS, fV, fA, c16, c17, c52, c53, hu63x, er15, er45, er46, er47, er48, er49, er50, er51], rfl, hM66⟩⟩⟩ (Nat.zero_le _) (Nat.zero_le _)
                  · try simp only [er15, er45, er46, er47, er48, er49, er50, er51] at c53
                    refine g_iconst hC 1 dX5_tick_236 (by decide) ?_
                    refine g_goto hC 241 dX5_tick_237 (by decide) ?_
                    refine g_istore hC (lv1 := [(13, .int 1), (12, .int 0), (10, .double r51), (8, .double r46), (6, .double r15), (0, .ref q0), (1, .int (nI i)), (2, .double m), (4, .double tg)]) dX5_tick_241 (by decide) rfl ?_
                    refine g_iload hC dX5_tick_243 1 rfl ?_
                    refine g_if_eq hC 255 dX5_tick_245 (by decide) (fun _ => ?_) (fun c => absurd c (by decide))
                    refine g_iload hC dX5_tick_255 0 rfl ?_
                    refine g_if_eq hC 267 dX5_tick_257 (by decide) (fun c => absurd c (by decide)) (fun _ => ?_)
                    refine g_dload hC dX5_tick_260 4 rfl ?_
                    refine g_dconst0 hC dX5_tick_262 ?_
                    refine g_dcmpg_lt hC 275 dX5_tick_263 dX5_tick_264 (by decide) (fun c68 => ?_) (fun c68 => ?_)
                    · try simp only [er15, er45, er46, er47, er48, er49, er50, er51] at c68
                      refine g_aload_n hC dX5_tick_275 5 rfl ?_
                      refine g_iload_n hC dX5_tick_276 6 rfl ?_
                      refine g_iload hC dX5_tick_277 0 rfl ?_
                      refine g_if_eq hC 291 dX5_tick_279 (by decide) (fun c => absurd c (by decide)) (fun _ => ?_)
                      refine g_aload_n hC dX5_tick_282 5 rfl ?_
                      refine g_get hC (kf := 4) (TT := TX5) (N := 26) (Cn := RX5) dX5_tick_283 (MI.m hM) (MI.o hM) rfl q_u5 (by decide) q_fl_X5_19 rfl rfl ?_
                      refine g_iload_n hC dX5_tick_286 6 rfl ?_
                      refine g_mdl hC hM 9 (by decide) (by decide) hi16 (Y i 9) rfl dX5_tick_287 ?_
                      refine g_goto hC 307 dX5_tick_288 (by decide) ?_
                      refine g_callV hC (Cn := RX5) (TT := TX5) (N := 26) dX5_tick_307 (ct_X5_move l G L f hM hi16 (Y i 9)) q_code_X5_move q_ml_X5_110 q_im_X5_move q_sel_X5_move q_init_X5 ⟨rfl, by decide, by decide, (show (parseMethodDescriptor yX5_move.desc).map (fun d => d.parameters.length) = some 2 from by decide +kernel)⟩ (MI.m hM) (MI.o hM) rfl (by decide) (by decide) (Nat.le_of_ble_eq_true rfl) (fun v70 L71 f72 hp69 => ?_)
                      obtain ⟨rfl, rfl, hR73, u74, hu75, hM76⟩ := hp69
                      have hu75x : dv u74 = MV (dv (Y i 5)) (dv (Y i 3)) (dv (Y i 9)) := hu75.trans (by simp [up2])
                      refine (show V C 14 L f72 0 0 310 [(13, .int 1), (12, .int 0), (10, .double r51), (8, .double r46), (6, .double r15), (0, .ref q0), (1, .int (nI i)), (2, .double m), (4, .double tg)] [] from ?_)
                      refine g_goto hC 362 dX5_tick_310 (by decide) ?_
                      refine g_aload_n hC dX5_tick_362 5 rfl ?_
                      refine g_get hC (kf := 15) (TT := TX5) (N := 26) (Cn := RX5) dX5_tick_363 (MI.m hM76) (MI.o hM76) rfl q_u5 (by decide) q_fl_X5_53 rfl rfl ?_
                      refine g_iload_n hC dX5_tick_366 6 rfl ?_
                      refine g_dload hC dX5_tick_367 4 rfl ?_
                      refine g_mds hC hM76 7 (by decide) (by decide) hi16 dX5_tick_369 (fun f77 hM78 hR79 => ?_)
                      refine g_aload_n hC dX5_tick_370 5 rfl ?_
                      refine g_get hC (kf := 13) (TT := TX5) (N := 26) (Cn := RX5) dX5_tick_371 (MI.m hM78) (MI.o hM78) rfl q_u5 (by decide) q_fl_X5_47 rfl rfl ?_
                      refine g_iload_n hC dX5_tick_374 6 rfl ?_
                      refine g_mdl hC hM78 5 (by decide) (by decide) hi16 u74 (by simp [up2]) dX5_tick_375 ?_
                      exact g_dret hC dX5_tick_376 rfl ⟨rfl, Or.inr ⟨i, hi, rfl, htk, (FRm.trans hR73 hR79), Or.inr ⟨hr, u74, (Y i 6), r15, by rw [ho]; exact er15, by simp [dz, tU, fU, fV, fA, oU, nearS, c16, c17, c52, c53, c68, hu75x, er15, er45, er46, er47, er48, er49, er50, er51], by simp [dz, tS, fS, fV, fA, c16, c17, c52, c53, c68, hu75x, er15, er45, er46, er47, er48, er49, er50, er51], rfl, (by rw [up2_id]; exact hM78)⟩⟩⟩ (Nat.zero_le _) (Nat.zero_le _)
                    · try simp only [er15, er45, er46, er47, er48, er49, er50, er51] at c68
                      refine g_aload_n hC dX5_tick_267 5 rfl ?_
                      refine g_get hC (kf := 14) (TT := TX5) (N := 26) (Cn := RX5) dX5_tick_268 (MI.m hM) (MI.o hM) rfl q_u5 (by decide) q_fl_X5_50 rfl rfl ?_
                      refine g_iload_n hC dX5_tick_271 6 rfl ?_
                      refine g_dload hC dX5_tick_272 3 rfl ?_
                      refine g_mds hC hM 6 (by decide) (by decide) hi16 dX5_tick_274 (fun f80 hM81 hR82 => ?_)
                      refine g_aload_n hC dX5_tick_275 5 rfl ?_
                      refine g_iload_n hC dX5_tick_276 6 rfl ?_
                      refine g_iload hC dX5_tick_277 0 rfl ?_
                      refine g_if_eq hC 291 dX5_tick_279 (by decide) (fun c => absurd c (by decide)) (fun _ => ?_)
                      refine g_aload_n hC dX5_tick_282 5 rfl ?_
                      refine g_get hC (kf := 4) (TT := TX5) (N := 26) (Cn := RX5) dX5_tick_283 (MI.m hM81) (MI.o hM81) rfl q_u5 (by decide) q_fl_X5_19 rfl rfl ?_
                      refine g_iload_n hC dX5_tick_286 6 rfl ?_
                      refine g_mdl hC hM81 9 (by decide) (by decide) hi16 (Y i 9) (by simp [up2]) dX5_tick_287 ?_
                      refine g_goto hC 307 dX5_tick_288 (by decide) ?_
                      refine g_callV hC (Cn := RX5) (TT := TX5) (N := 26) dX5_tick_307 (ct_X5_move l G L f80 hM81 hi16 (Y i 9)) q_code_X5_move q_ml_X5_110 q_im_X5_move q_sel_X5_move q_init_X5 ⟨rfl, by decide, by decide, (show (parseMethodDescriptor yX5_move.desc).map (fun d => d.parameters.length) = some 2 from by decide +kernel)⟩ (MI.m hM81) (MI.o hM81) rfl (by decide) (by decide) (Nat.le_of_ble_eq_true rfl) (fun v84 L85 f86 hp83 => ?_)
                      obtain ⟨rfl, rfl, hR87, u88, hu89, hM90⟩ := hp83
                      have hu89x : dv u88 = MV (dv (Y i 5)) (dv (Y i 3)) (dv (Y i 9)) := hu89.trans (by simp [up2])
                      refine (show V C 14 L f86 0 0 310 [(13, .int 1), (12, .int 0), (10, .double r51), (8, .double r46), (6, .double r15), (0, .ref q0), (1, .int (nI i)), (2, .double m), (4, .double tg)] [] from ?_)
                      refine g_goto hC 362 dX5_tick_310 (by decide) ?_
                      refine g_aload_n hC dX5_tick_362 5 rfl ?_
                      refine g_get hC (kf := 15) (TT := TX5) (N := 26) (Cn := RX5) dX5_tick_363 (MI.m hM90) (MI.o hM90) rfl q_u5 (by decide) q_fl_X5_53 rfl rfl ?_
                      refine g_iload_n hC dX5_tick_366 6 rfl ?_
                      refine g_dload hC dX5_tick_367 4 rfl ?_
                      refine g_mds hC hM90 7 (by decide) (by decide) hi16 dX5_tick_369 (fun f91 hM92 hR93 => ?_)
                      refine g_aload_n hC dX5_tick_370 5 rfl ?_
                      refine g_get hC (kf := 13) (TT := TX5) (N := 26) (Cn := RX5) dX5_tick_371 (MI.m hM92) (MI.o hM92) rfl q_u5 (by decide) q_fl_X5_47 rfl rfl ?_
                      refine g_iload_n hC dX5_tick_374 6 rfl ?_
                      refine g_mdl hC hM92 5 (by decide) (by decide) hi16 u88 (by simp [up2]) dX5_tick_375 ?_
                      exact g_dret hC dX5_tick_376 rfl ⟨rfl, Or.inr ⟨i, hi, rfl, htk, (FRm.trans (FRm.trans hR82 hR87) hR93), Or.inr ⟨hr, u88, r46, r15, by rw [ho]; exact er15, by simp [dz, tU, fU, fV, fA, oU, nearS, c16, c17, c52, c53, c68, hu89x, er15, er45, er46, er47, er48, er49, er50, er51], by simp [dz, tS, fS, fV, fA, c16, c17, c52, c53, c68, hu89x, er15, er45, er46, er47, er48, er49, er50, er51], rfl, hM92⟩⟩⟩ (Nat.zero_le _) (Nat.zero_le _)
                · try simp only [er15, er45, er46, er47, er48, er49, er50, er51] at c52
                  refine g_iconst hC 1 dX5_tick_217 (by decide) ?_
                  refine g_goto hC 222 dX5_tick_218 (by decide) ?_
                  refine g_istore hC (lv1 := [(12, .int 1), (10, .double r51), (8, .double r46), (6, .double r15), (0, .ref q0), (1, .int (nI i)), (2, .double m), (4, .double tg)]) dX5_tick_222 (by decide) rfl ?_
                  refine g_dload hC dX5_tick_224 1 rfl ?_
                  refine g_aload_n hC dX5_tick_226 4 rfl ?_
                  refine g_get hC (kf := 4) (TT := TX5) (N := 26) (Cn := RX5) dX5_tick_227 (MI.m hM) (MI.o hM) rfl q_u5 (by decide) q_fl_X5_19 rfl rfl ?_
                  refine g_iload_n hC dX5_tick_230 5 rfl ?_
                  refine g_mdl hC hM 9 (by decide) (by decide) hi16 (Y i 9) rfl dX5_tick_231 ?_
                  refine g_dcmpg_ge hC 240 dX5_tick_232 dX5_tick_233 (by decide) (fun c94 => ?_) (fun c94 => ?_)
                  · try simp only [er15, er45, er46, er47, er48, er49, er50, er51] at c94
                    refine g_iconst hC 0 dX5_tick_240 (by decide) ?_
                    refine g_istore hC (lv1 := [(13, .int 0), (12, .int 1), (10, .double r51), (8, .double r46), (6, .double r15), (0, .ref q0), (1, .int (nI i)), (2, .double m), (4, .double tg)]) dX5_tick_241 (by decide) rfl ?_
                    refine g_iload hC dX5_tick_243 1 rfl ?_
                    refine g_if_eq hC 255 dX5_tick_245 (by decide) (fun c => absurd c (by decide)) (fun _ => ?_)
                    refine g_dload hC dX5_tick_248 4 rfl ?_
                    refine g_dconst0 hC dX5_tick_250 ?_
                    refine g_dcmpl_gt hC 275 dX5_tick_251 dX5_tick_252 (by decide) (fun c95 => ?_) (fun c95 => ?_)
                    · try simp only [er15, er45, er46, er47, er48, er49, er50, er51] at c95
                      refine g_aload_n hC dX5_tick_275 5 rfl ?_
                      refine g_iload_n hC dX5_tick_276 6 rfl ?_
                      refine g_iload hC dX5_tick_277 0 rfl ?_
                      refine g_if_eq hC 291 dX5_tick_279 (by decide) (fun _ => ?_) (fun c => absurd c (by decide))
                      refine g_iload hC dX5_tick_291 1 rfl ?_
                      refine g_if_eq hC 305 dX5_tick_293 (by decide) (fun c => absurd c (by decide)) (fun _ => ?_)
                      refine g_aload_n hC dX5_tick_296 5 rfl ?_
                      refine g_get hC (kf := 5) (TT := TX5) (N := 26) (Cn := RX5) dX5_tick_297 (MI.m hM) (MI.o hM) rfl q_u5 (by decide) q_fl_X5_22 rfl rfl ?_
                      refine g_iload_n hC dX5_tick_300 6 rfl ?_
                      refine g_mdl hC hM 10 (by decide) (by decide) hi16 (Y i 10) rfl dX5_tick_301 ?_
                      refine g_goto hC 307 dX5_tick_302 (by decide) ?_
                      refine g_callV hC (Cn := RX5) (TT := TX5) (N := 26) dX5_tick_307 (ct_X5_move l G L f hM hi16 (Y i 10)) q_code_X5_move q_ml_X5_110 q_im_X5_move q_sel_X5_move q_init_X5 ⟨rfl, by decide, by decide, (show (parseMethodDescriptor yX5_move.desc).map (fun d => d.parameters.length) = some 2 from by decide +kernel)⟩ (MI.m hM) (MI.o hM) rfl (by decide) (by decide) (Nat.le_of_ble_eq_true rfl) (fun v97 L98 f99 hp96 => ?_)
                      obtain ⟨rfl, rfl, hR100, u101, hu102, hM103⟩ := hp96
                      have hu102x : dv u101 = MV (dv (Y i 5)) (dv (Y i 3)) (dv (Y i 10)) := hu102.trans (by simp [up2])
                      refine (show V C 14 L f99 0 0 310 [(13, .int 0), (12, .int 1), (10, .double r51), (8, .double r46), (6, .double r15), (0, .ref q0), (1, .int (nI i)), (2, .double m), (4, .double tg)] [] from ?_)
                      refine g_goto hC 362 dX5_tick_310 (by decide) ?_
                      refine g_aload_n hC dX5_tick_362 5 rfl ?_
                      refine g_get hC (kf := 15) (TT := TX5) (N := 26) (Cn := RX5) dX5_tick_363 (MI.m hM103) (MI.o hM103) rfl q_u5 (by decide) q_fl_X5_53 rfl rfl ?_
                      refine g_iload_n hC dX5_tick_366 6 rfl ?_
                      refine g_dload hC dX5_tick_367 4 rfl ?_
                      refine g_mds hC hM103 7 (by decide) (by decide) hi16 dX5_tick_369 (fun f104 hM105 hR106 => ?_)
                      refine g_aload_n hC dX5_tick_370 5 rfl ?_
                      refine g_get hC (kf := 13) (TT := TX5) (N := 26) (Cn := RX5) dX5_tick_371 (MI.m hM105) (MI.o hM105) rfl q_u5 (by decide) q_fl_X5_47 rfl rfl ?_
                      refine g_iload_n hC dX5_tick_374 6 rfl ?_
                      refine g_mdl hC hM105 5 (by decide) (by decide) hi16 u101 (by simp [up2]) dX5_tick_375 ?_
                      exact g_dret hC dX5_tick_376 rfl ⟨rfl, Or.inr ⟨i, hi, rfl, htk, (FRm.trans hR100 hR106), Or.inr ⟨hr, u101, (Y i 6), r15, by rw [ho]; exact er15, by simp [dz, tU, fU, fV, fA, oU, nearS, c16, c17, c52, c94, c95, hu102x, er15, er45, er46, er47, er48, er49, er50, er51], by simp [dz, tS, fS, fV, fA, c16, c17, c52, c94, c95, hu102x, er15, er45, er46, er47, er48, er49, er50, er51], rfl, (by rw [up2_id]; exact hM105)⟩⟩⟩ (Nat.zero_le _) (Nat.zero_le _)
                    · try simp only [er15, er45, er46, er47, er48, er49, er50, er51] at c95
                      refine g_iload hC dX5_tick_255 0 rfl ?_
                      refine g_if_eq hC 267 dX5_tick_257 (by decide) (fun _ => ?_) (fun c => absurd c (by decide))
                      refine g_aload_n hC dX5_tick_267 5 rfl ?_
                      refine g_get hC (kf := 14) (TT := TX5) (N := 26) (Cn := RX5) dX5_tick_268 (MI.m hM) (MI.o hM) rfl q_u5 (by decide) q_fl_X5_50 rfl rfl ?_
                      refine g_iload_n hC dX5_tick_271 6 rfl ?_
                      refine g_dload hC dX5_tick_272 3 rfl ?_
                      refine g_mds hC hM 6 (by decide) (by decide) hi16 dX5_tick_274 (fun f107 hM108 hR109 => ?_)
                      refine g_aload_n hC dX5_tick_275 5 rfl ?_
                      refine g_iload_n hC dX5_tick_276 6 rfl ?_
                      refine g_iload hC dX5_tick_277 0 rfl ?_
                      refine g_if_eq hC 291 dX5_tick_279 (by decide) (fun _ => ?_) (fun c => absurd c (by decide))
                      refine g_iload hC dX5_tick_291 1 rfl ?_
                      refine g_if_eq hC 305 dX5_tick_293 (by decide) (fun c => absurd c (by decide)) (fun _ => ?_)
                      refine g_aload_n hC dX5_tick_296 5 rfl ?_
                      refine g_get hC (kf := 5) (TT := TX5) (N := 26) (Cn := RX5) dX5_tick_297 (MI.m hM108) (MI.o hM108) rfl q_u5 (by decide) q_fl_X5_22 rfl rfl ?_
                      refine g_iload_n hC dX5_tick_300 6 rfl ?_
                      refine g_mdl hC hM108 10 (by decide) (by decide) hi16 (Y i 10) (by simp [up2]) dX5_tick_301 ?_
                      refine g_goto hC 307 dX5_tick_302 (by decide) ?_
                      refine g_callV hC (Cn := RX5) (TT := TX5) (N := 26) dX5_tick_307 (ct_X5_move l G L f107 hM108 hi16 (Y i 10)) q_code_X5_move q_ml_X5_110 q_im_X5_move q_sel_X5_move q_init_X5 ⟨rfl, by decide, by decide, (show (parseMethodDescriptor yX5_move.desc).map (fun d => d.parameters.length) = some 2 from by decide +kernel)⟩ (MI.m hM108) (MI.o hM108) rfl (by decide) (by decide) (Nat.le_of_ble_eq_true rfl) (fun v111 L112 f113 hp110 => ?_)
                      obtain ⟨rfl, rfl, hR114, u115, hu116, hM117⟩ := hp110
                      have hu116x : dv u115 = MV (dv (Y i 5)) (dv (Y i 3)) (dv (Y i 10)) := hu116.trans (by simp [up2])
                      refine (show V C 14 L f113 0 0 310 [(13, .int 0), (12, .int 1), (10, .double r51), (8, .double r46), (6, .double r15), (0, .ref q0), (1, .int (nI i)), (2, .double m), (4, .double tg)] [] from ?_)
                      refine g_goto hC 362 dX5_tick_310 (by decide) ?_
                      refine g_aload_n hC dX5_tick_362 5 rfl ?_
                      refine g_get hC (kf := 15) (TT := TX5) (N := 26) (Cn := RX5) dX5_tick_363 (MI.m hM117) (MI.o hM117) rfl q_u5 (by decide) q_fl_X5_53 rfl rfl ?_
                      refine g_iload_n hC dX5_tick_366 6 rfl ?_
                      refine g_dload hC dX5_tick_367 4 rfl ?_
                      refine g_mds hC hM117 7 (by decide) (by decide) hi16 dX5_tick_369 (fun f118 hM119 hR120 => ?_)
                      refine g_aload_n hC dX5_tick_370 5 rfl ?_
                      refine g_get hC (kf := 13) (TT := TX5) (N := 26) (Cn := RX5) dX5_tick_371 (MI.m hM119) (MI.o hM119) rfl q_u5 (by decide) q_fl_X5_47 rfl rfl ?_
                      refine g_iload_n hC dX5_tick_374 6 rfl ?_
                      refine g_mdl hC hM119 5 (by decide) (by decide) hi16 u115 (by simp [up2]) dX5_tick_375 ?_
                      exact g_dret hC dX5_tick_376 rfl ⟨rfl, Or.inr ⟨i, hi, rfl, htk, (FRm.trans (FRm.trans hR109 hR114) hR120), Or.inr ⟨hr, u115, r46, r15, by rw [ho]; exact er15, by simp [dz, tU, fU, fV, fA, oU, nearS, c16, c17, c52, c94, c95, hu116x, er15, er45, er46, er47, er48, er49, er50, er51], by simp [dz, tS, fS, fV, fA, c16, c17, c52, c94, c95, hu116x, er15, er45, er46, er47, er48, er49, er50, er51], rfl, hM119⟩⟩⟩ (Nat.zero_le _) (Nat.zero_le _)
                  · try simp only [er15, er45, er46, er47, er48, er49, er50, er51] at c94
                    refine g_iconst hC 1 dX5_tick_236 (by decide) ?_
                    refine g_goto hC 241 dX5_tick_237 (by decide) ?_
                    refine g_istore hC (lv1 := [(13, .int 1), (12, .int 1), (10, .double r51), (8, .double r46), (6, .double r15), (0, .ref q0), (1, .int (nI i)), (2, .double m), (4, .double tg)]) dX5_tick_241 (by decide) rfl ?_
                    refine g_iload hC dX5_tick_243 1 rfl ?_
                    refine g_if_eq hC 255 dX5_tick_245 (by decide) (fun c => absurd c (by decide)) (fun _ => ?_)
                    refine g_dload hC dX5_tick_248 4 rfl ?_
                    refine g_dconst0 hC dX5_tick_250 ?_
                    refine g_dcmpl_gt hC 275 dX5_tick_251 dX5_tick_252 (by decide) (fun c121 => ?_) (fun c121 => ?_)
                    · try simp only [er15, er45, er46, er47, er48, er49, er50, er51] at c121
                      refine g_aload_n hC dX5_tick_275 5 rfl ?_
                      refine g_iload_n hC dX5_tick_276 6 rfl ?_
                      refine g_iload hC dX5_tick_277 0 rfl ?_
                      refine g_if_eq hC 291 dX5_tick_279 (by decide) (fun c => absurd c (by decide)) (fun _ => ?_)
                      refine g_aload_n hC dX5_tick_282 5 rfl ?_
                      refine g_get hC (kf := 4) (TT := TX5) (N := 26) (Cn := RX5) dX5_tick_283 (MI.m hM) (MI.o hM) rfl q_u5 (by decide) q_fl_X5_19 rfl rfl ?_
                      refine g_iload_n hC dX5_tick_286 6 rfl ?_
                      refine g_mdl hC hM 9 (by decide) (by decide) hi16 (Y i 9) rfl dX5_tick_287 ?_
                      refine g_goto hC 307 dX5_tick_288 (by decide) ?_
                      refine g_callV hC (Cn := RX5) (TT := TX5) (N := 26) dX5_tick_307 (ct_X5_move l G L f hM hi16 (Y i 9)) q_code_X5_move q_ml_X5_110 q_im_X5_move q_sel_X5_move q_init_X5 ⟨rfl, by decide, by decide, (show (parseMethodDescriptor yX5_move.desc).map (fun d => d.parameters.length) = some 2 from by decide +kernel)⟩ (MI.m hM) (MI.o hM) rfl (by decide) (by decide) (Nat.le_of_ble_eq_true rfl) (fun v123 L124 f125 hp122 => ?_)
                      obtain ⟨rfl, rfl, hR126, u127, hu128, hM129⟩ := hp122
                      have hu128x : dv u127 = MV (dv (Y i 5)) (dv (Y i 3)) (dv (Y i 9)) := hu128.trans (by simp [up2])
                      refine (show V C 14 L f125 0 0 310 [(13, .int 1), (12, .int 1), (10, .double r51), (8, .double r46), (6, .double r15), (0, .ref q0), (1, .int (nI i)), (2, .double m), (4, .double tg)] [] from ?_)
                      refine g_goto hC 362 dX5_tick_310 (by decide) ?_
                      refine g_aload_n hC dX5_tick_362 5 rfl ?_
                      refine g_get hC (kf := 15) (TT := TX5) (N := 26) (Cn := RX5) dX5_tick_363 (MI.m hM129) (MI.o hM129) rfl q_u5 (by decide) q_fl_X5_53 rfl rfl ?_
                      refine g_iload_n hC dX5_tick_366 6 rfl ?_
                      refine g_dload hC dX5_tick_367 4 rfl ?_
                      refine g_mds hC hM129 7 (by decide) (by decide) hi16 dX5_tick_369 (fun f130 hM131 hR132 => ?_)
                      refine g_aload_n hC dX5_tick_370 5 rfl ?_
                      refine g_get hC (kf := 13) (TT := TX5) (N := 26) (Cn := RX5) dX5_tick_371 (MI.m hM131) (MI.o hM131) rfl q_u5 (by decide) q_fl_X5_47 rfl rfl ?_
                      refine g_iload_n hC dX5_tick_374 6 rfl ?_
                      refine g_mdl hC hM131 5 (by decide) (by decide) hi16 u127 (by simp [up2]) dX5_tick_375 ?_
                      exact g_dret hC dX5_tick_376 rfl ⟨rfl, Or.inr ⟨i, hi, rfl, htk, (FRm.trans hR126 hR132), Or.inr ⟨hr, u127, (Y i 6), r15, by rw [ho]; exact er15, by simp [dz, tU, fU, fV, fA, oU, nearS, c16, c17, c52, c94, c121, hu128x, er15, er45, er46, er47, er48, er49, er50, er51], by simp [dz, tS, fS, fV, fA, c16, c17, c52, c94, c121, hu128x, er15, er45, er46, er47, er48, er49, er50, er51], rfl, (by rw [up2_id]; exact hM131)⟩⟩⟩ (Nat.zero_le _) (Nat.zero_le _)
                    · try simp only [er15, er45, er46, er47, er48, er49, er50, er51] at c121
                      refine g_iload hC dX5_tick_255 0 rfl ?_
                      refine g_if_eq hC 267 dX5_tick_257 (by decide) (fun c => absurd c (by decide)) (fun _ => ?_)
                      refine g_dload hC dX5_tick_260 4 rfl ?_
                      refine g_dconst0 hC dX5_tick_262 ?_
                      refine g_dcmpg_lt hC 275 dX5_tick_263 dX5_tick_264 (by decide) (fun c133 => ?_) (fun c133 => ?_)
                      · try simp only [er15, er45, er46, er47, er48, er49, er50, er51] at c133
                        refine g_aload_n hC dX5_tick_275 5 rfl ?_
                        refine g_iload_n hC dX5_tick_276 6 rfl ?_
                        refine g_iload hC dX5_tick_277 0 rfl ?_
                        refine g_if_eq hC 291 dX5_tick_279 (by decide) (fun c => absurd c (by decide)) (fun _ => ?_)
                        refine g_aload_n hC dX5_tick_282 5 rfl ?_
                        refine g_get hC (kf := 4) (TT := TX5) (N := 26) (Cn := RX5) dX5_tick_283 (MI.m hM) (MI.o hM) rfl q_u5 (by decide) q_fl_X5_19 rfl rfl ?_
                        refine g_iload_n hC dX5_tick_286 6 rfl ?_
                        refine g_mdl hC hM 9 (by decide) (by decide) hi16 (Y i 9) rfl dX5_tick_287 ?_
                        refine g_goto hC 307 dX5_tick_288 (by decide) ?_
                        refine g_callV hC (Cn := RX5) (TT := TX5) (N := 26) dX5_tick_307 (ct_X5_move l G L f hM hi16 (Y i 9)) q_code_X5_move q_ml_X5_110 q_im_X5_move q_sel_X5_move q_init_X5 ⟨rfl, by decide, by decide, (show (parseMethodDescriptor yX5_move.desc).map (fun d => d.parameters.length) = some 2 from by decide +kernel)⟩ (MI.m hM) (MI.o hM) rfl (by decide) (by decide) (Nat.le_of_ble_eq_true rfl) (fun v135 L136 f137 hp134 => ?_)
                        obtain ⟨rfl, rfl, hR138, u139, hu140, hM141⟩ := hp134
                        have hu140x : dv u139 = MV (dv (Y i 5)) (dv (Y i 3)) (dv (Y i 9)) := hu140.trans (by simp [up2])
                        refine (show V C 14 L f137 0 0 310 [(13, .int 1), (12, .int 1), (10, .double r51), (8, .double r46), (6, .double r15), (0, .ref q0), (1, .int (nI i)), (2, .double m), (4, .double tg)] [] from ?_)
                        refine g_goto hC 362 dX5_tick_310 (by decide) ?_
                        refine g_aload_n hC dX5_tick_362 5 rfl ?_
                        refine g_get hC (kf := 15) (TT := TX5) (N := 26) (Cn := RX5) dX5_tick_363 (MI.m hM141) (MI.o hM141) rfl q_u5 (by decide) q_fl_X5_53 rfl rfl ?_
                        refine g_iload_n hC dX5_tick_366 6 rfl ?_
                        refine g_dload hC dX5_tick_367 4 rfl ?_
                        refine g_mds hC hM141 7 (by decide) (by decide) hi16 dX5_tick_369 (fun f142 hM143 hR144 => ?_)
                        refine g_aload_n hC dX5_tick_370 5 rfl ?_
                        refine g_get hC (kf := 13) (TT := TX5) (N := 26) (Cn := RX5) dX5_tick_371 (MI.m hM143) (MI.o hM143) rfl q_u5 (by decide) q_fl_X5_47 rfl rfl ?_
                        refine g_iload_n hC dX5_tick_374 6 rfl ?_
                        refine g_mdl hC hM143 5 (by decide) (by decide) hi16 u139 (by simp [up2]) dX5_tick_375 ?_
                        exact g_dret hC dX5_tick_376 rfl ⟨rfl, Or.inr ⟨i, hi, rfl, htk, (FRm.trans hR138 hR144), Or.inr ⟨hr, u139, (Y i 6), r15, by rw [ho]; exact er15, by simp [dz, tU, fU, fV, fA, oU, nearS, c16, c17, c52, c94, c121, c133, hu140x, er15, er45, er46, er47, er48, er49, er50, er51], by simp [dz, tS, fS, fV, fA, c16, c17, c52, c94, c121, c133, hu140x, er15, er45, er46, er47, er48, er49, er50, er51], rfl, (by rw [up2_id]; exact hM143)⟩⟩⟩ (Nat.zero_le _) (Nat.zero_le _)
                      · try simp only [er15, er45, er46, er47, er48, er49, er50, er51] at c133
                        refine g_aload_n hC dX5_tick_267 5 rfl ?_
                        refine g_get hC (kf := 14) (TT := TX5) (N := 26) (Cn := RX5) dX5_tick_268 (MI.m hM) (MI.o hM) rfl q_u5 (by decide) q_fl_X5_50 rfl rfl ?_
                        refine g_iload_n hC dX5_tick_271 6 rfl ?_
                        refine g_dload hC dX5_tick_272 3 rfl ?_
                        refine g_mds hC hM 6 (by decide) (by decide) hi16 dX5_tick_274 (fun f145 hM146 hR147 => ?_)
                        refine g_aload_n hC dX5_tick_275 5 rfl ?_
                        refine g_iload_n hC dX5_tick_276 6 rfl ?_
                        refine g_iload hC dX5_tick_277 0 rfl ?_
                        refine g_if_eq hC 291 dX5_tick_279 (by decide) (fun c => absurd c (by decide)) (fun _ => ?_)
                        refine g_aload_n hC dX5_tick_282 5 rfl ?_
                        refine g_get hC (kf := 4) (TT := TX5) (N := 26) (Cn := RX5) dX5_tick_283 (MI.m hM146) (MI.o hM146) rfl q_u5 (by decide) q_fl_X5_19 rfl rfl ?_
                        refine g_iload_n hC dX5_tick_286 6 rfl ?_
                        refine g_mdl hC hM146 9 (by decide) (by decide) hi16 (Y i 9) (by simp [up2]) dX5_tick_287 ?_
                        refine g_goto hC 307 dX5_tick_288 (by decide) ?_
                        refine g_callV hC (Cn := RX5) (TT := TX5) (N := 26) dX5_tick_307 (ct_X5_move l G L f145 hM146 hi16 (Y i 9)) q_code_X5_move q_ml_X5_110 q_im_X5_move q_sel_X5_move q_init_X5 ⟨rfl, by decide, by decide, (show (parseMethodDescriptor yX5_move.desc).map (fun d => d.parameters.length) = some 2 from by decide +kernel)⟩ (MI.m hM146) (MI.o hM146) rfl (by decide) (by decide) (Nat.le_of_ble_eq_true rfl) (fun v149 L150 f151 hp148 => ?_)
                        obtain ⟨rfl, rfl, hR152, u153, hu154, hM155⟩ := hp148
                        have hu154x : dv u153 = MV (dv (Y i 5)) (dv (Y i 3)) (dv (Y i 9)) := hu154.trans (by simp [up2])
                        refine (show V C 14 L f151 0 0 310 [(13, .int 1), (12, .int 1), (10, .double r51), (8, .double r46), (6, .double r15), (0, .ref q0), (1, .int (nI i)), (2, .double m), (4, .double tg)] [] from ?_)
                        refine g_goto hC 362 dX5_tick_310 (by decide) ?_
                        refine g_aload_n hC dX5_tick_362 5 rfl ?_
                        refine g_get hC (kf := 15) (TT := TX5) (N := 26) (Cn := RX5) dX5_tick_363 (MI.m hM155) (MI.o hM155) rfl q_u5 (by decide) q_fl_X5_53 rfl rfl ?_
                        refine g_iload_n hC dX5_tick_366 6 rfl ?_
                        refine g_dload hC dX5_tick_367 4 rfl ?_
                        refine g_mds hC hM155 7 (by decide) (by decide) hi16 dX5_tick_369 (fun f156 hM157 hR158 => ?_)
                        refine g_aload_n hC dX5_tick_370 5 rfl ?_
                        refine g_get hC (kf := 13) (TT := TX5) (N := 26) (Cn := RX5) dX5_tick_371 (MI.m hM157) (MI.o hM157) rfl q_u5 (by decide) q_fl_X5_47 rfl rfl ?_
                        refine g_iload_n hC dX5_tick_374 6 rfl ?_
                        refine g_mdl hC hM157 5 (by decide) (by decide) hi16 u153 (by simp [up2]) dX5_tick_375 ?_
                        exact g_dret hC dX5_tick_376 rfl ⟨rfl, Or.inr ⟨i, hi, rfl, htk, (FRm.trans (FRm.trans hR147 hR152) hR158), Or.inr ⟨hr, u153, r46, r15, by rw [ho]; exact er15, by simp [dz, tU, fU, fV, fA, oU, nearS, c16, c17, c52, c94, c121, c133, hu154x, er15, er45, er46, er47, er48, er49, er50, er51], by simp [dz, tS, fS, fV, fA, c16, c17, c52, c94, c121, c133, hu154x, er15, er45, er46, er47, er48, er49, er50, er51], rfl, hM157⟩⟩⟩ (Nat.zero_le _) (Nat.zero_le _)
            · skip
              refine g_aload_n hC dX5_tick_132 1 rfl ?_
              refine g_iload_n hC dX5_tick_133 2 rfl ?_
              refine g_aload_n hC dX5_tick_134 1 rfl ?_
              refine g_get hC (kf := 16) (TT := TX5) (N := 26) (Cn := RX5) dX5_tick_135 (MI.m hM) (MI.o hM) rfl q_u5 (by decide) q_fl_X5_56 rfl rfl ?_
              refine g_iload_n hC dX5_tick_138 2 rfl ?_
              refine g_mdl hC hM 8 (by decide) (by decide) hi16 (Y i 8) rfl dX5_tick_139 ?_
              refine g_callV hC (Cn := RX5) (TT := TX5) (N := 26) dX5_tick_140 (ct_X5_move l G L f hM hi16 (Y i 8)) q_code_X5_move q_ml_X5_110 q_im_X5_move q_sel_X5_move q_init_X5 ⟨rfl, by decide, by decide, (show (parseMethodDescriptor yX5_move.desc).map (fun d => d.parameters.length) = some 2 from by decide +kernel)⟩ (MI.m hM) (MI.o hM) rfl (by decide) (by decide) (Nat.le_of_ble_eq_true rfl) (fun v160 L161 f162 hp159 => ?_)
              obtain ⟨rfl, rfl, hR163, u164, hu165, hM166⟩ := hp159
              have hu165x : dv u164 = MV (dv (Y i 5)) (dv (Y i 3)) (dv (Y i 8)) := hu165.trans (by simp [up2])
              refine (show V C 14 L f162 0 0 143 [(6, .double r15), (0, .ref q0), (1, .int (nI i)), (2, .double m), (4, .double tg)] [] from ?_)
              refine g_goto hC 362 dX5_tick_143 (by decide) ?_
              refine g_aload_n hC dX5_tick_362 1 rfl ?_
              refine g_get hC (kf := 15) (TT := TX5) (N := 26) (Cn := RX5) dX5_tick_363 (MI.m hM166) (MI.o hM166) rfl q_u5 (by decide) q_fl_X5_53 rfl rfl ?_
              refine g_iload_n hC dX5_tick_366 2 rfl ?_
              refine g_dload hC dX5_tick_367 0 rfl ?_
              refine g_mds hC hM166 7 (by decide) (by decide) hi16 dX5_tick_369 (fun f167 hM168 hR169 => ?_)
              refine g_aload_n hC dX5_tick_370 1 rfl ?_
              refine g_get hC (kf := 13) (TT := TX5) (N := 26) (Cn := RX5) dX5_tick_371 (MI.m hM168) (MI.o hM168) rfl q_u5 (by decide) q_fl_X5_47 rfl rfl ?_
              refine g_iload_n hC dX5_tick_374 2 rfl ?_
              refine g_mdl hC hM168 5 (by decide) (by decide) hi16 u164 (by simp [up2]) dX5_tick_375 ?_
              exact g_dret hC dX5_tick_376 rfl ⟨rfl, Or.inr ⟨i, hi, rfl, htk, (FRm.trans hR163 hR169), Or.inr ⟨hr, u164, (Y i 6), r15, by rw [ho]; exact er15, by simp [dz, tU, fU, fV, fA, oU, nearS, c16, hu165x, er15], by simp [dz, tS, fS, fV, fA, c16, hu165x, er15], rfl, (by rw [up2_id]; exact hM168)⟩⟩⟩ (Nat.zero_le _) (Nat.zero_le _)
          · have ho16 : o < 16 := by have := hO2 i o hi ho; have := MI.n16 hM; omega
            refine g_eqI (show W0 i 22 = nI o from by rw [hO i hi, ho]; rfl) ?_
            refine g_if_lt hC 117 dX5_tick_100 (by decide) (fun c => absurd c (nI_pos (by omega))) (fun _ => ?_)
            refine g_aload_n hC dX5_tick_103 0 rfl ?_
            refine g_get hC (kf := 13) (TT := TX5) (N := 26) (Cn := RX5) dX5_tick_104 (MI.m hM) (MI.o hM) rfl q_u5 (by decide) q_fl_X5_47 rfl rfl ?_
            refine g_aload_n hC dX5_tick_107 0 rfl ?_
            refine g_get hC (kf := 18) (TT := TX5) (N := 26) (Cn := RX5) dX5_tick_108 (MI.m hM) (MI.o hM) rfl q_u5 (by decide) q_fl_X5_63 rfl rfl ?_
            refine g_iload_n hC dX5_tick_111 1 rfl ?_
            refine g_mil hC hM 22 (by decide) (by decide) hi16 (nI o) (by rw [hO i hi, ho]; rfl) dX5_tick_112 ?_
            refine g_mdl hC hM 5 (by decide) (by decide) ho16 (Y o 5) rfl dX5_tick_113 ?_
            refine g_goto hC 119 dX5_tick_114 (by decide) ?_
            refine g_dload_n hC dX5_tick_119 2 rfl ?_
            refine g_dsub hC dX5_tick_120 (fun r170 er170 => ?_)
            refine g_dstore hC (lv1 := [(6, .double r170), (0, .ref q0), (1, .int (nI i)), (2, .double m), (4, .double tg)]) dX5_tick_121 (by decide) rfl ?_
            refine g_aload_n hC dX5_tick_123 1 rfl ?_
            refine g_get hC (kf := 17) (TT := TX5) (N := 26) (Cn := RX5) dX5_tick_124 (MI.m hM) (MI.o hM) rfl q_u5 (by decide) q_fl_X5_59 rfl rfl ?_
            refine g_iload_n hC dX5_tick_127 2 rfl ?_
            refine g_mil hC hM 20 (by decide) (by decide) hi16 (W0 i 20) rfl dX5_tick_128 ?_
            refine g_if_ne hC 146 dX5_tick_129 (by decide) (fun c171 => ?_) (fun c171 => ?_)
            · skip
              refine g_aload_n hC dX5_tick_146 1 rfl ?_
              refine g_get hC (kf := 17) (TT := TX5) (N := 26) (Cn := RX5) dX5_tick_147 (MI.m hM) (MI.o hM) rfl q_u5 (by decide) q_fl_X5_59 rfl rfl ?_
              refine g_iload_n hC dX5_tick_150 2 rfl ?_
              refine g_mil hC hM 20 (by decide) (by decide) hi16 (W0 i 20) rfl dX5_tick_151 ?_
              refine g_iconst hC 1 dX5_tick_152 (by decide) ?_
              refine g_icmp_ne hC 313 dX5_tick_153 (by decide) (fun c172 => ?_) (fun c172 => ?_)
              · skip
                refine g_dload hC dX5_tick_313 0 rfl ?_
                refine g_aload_n hC dX5_tick_315 1 rfl ?_
                refine g_get hC (kf := 9) (TT := TX5) (N := 26) (Cn := RX5) dX5_tick_316 (MI.m hM) (MI.o hM) rfl q_u5 (by decide) q_fl_X5_34 rfl rfl ?_
                refine g_iload_n hC dX5_tick_319 2 rfl ?_
                refine g_mdl hC hM 12 (by decide) (by decide) hi16 (Y i 12) rfl dX5_tick_320 ?_
                refine g_dcmpl_le hC 339 dX5_tick_321 dX5_tick_322 (by decide) (fun c173 => ?_) (fun c173 => ?_)
                · try simp only [er170] at c173
                  refine g_dload hC dX5_tick_339 0 rfl ?_
                  refine g_aload_n hC dX5_tick_341 1 rfl ?_
                  refine g_get hC (kf := 8) (TT := TX5) (N := 26) (Cn := RX5) dX5_tick_342 (MI.m hM) (MI.o hM) rfl q_u5 (by decide) q_fl_X5_31 rfl rfl ?_
                  refine g_iload_n hC dX5_tick_345 2 rfl ?_
                  refine g_mdl hC hM 11 (by decide) (by decide) hi16 (Y i 11) rfl dX5_tick_346 ?_
                  refine g_dcmpg_ge hC 362 dX5_tick_347 dX5_tick_348 (by decide) (fun c174 => ?_) (fun c174 => ?_)
                  · try simp only [er170] at c174
                    refine g_aload_n hC dX5_tick_362 1 rfl ?_
                    refine g_get hC (kf := 15) (TT := TX5) (N := 26) (Cn := RX5) dX5_tick_363 (MI.m hM) (MI.o hM) rfl q_u5 (by decide) q_fl_X5_53 rfl rfl ?_
                    refine g_iload_n hC dX5_tick_366 2 rfl ?_
                    refine g_dload hC dX5_tick_367 0 rfl ?_
                    refine g_mds hC hM 7 (by decide) (by decide) hi16 dX5_tick_369 (fun f175 hM176 hR177 => ?_)
                    refine g_aload_n hC dX5_tick_370 1 rfl ?_
                    refine g_get hC (kf := 13) (TT := TX5) (N := 26) (Cn := RX5) dX5_tick_371 (MI.m hM176) (MI.o hM176) rfl q_u5 (by decide) q_fl_X5_47 rfl rfl ?_
                    refine g_iload_n hC dX5_tick_374 2 rfl ?_
                    refine g_mdl hC hM176 5 (by decide) (by decide) hi16 (Y i 5) (by simp [up2]) dX5_tick_375 ?_
                    exact g_dret hC dX5_tick_376 rfl ⟨rfl, Or.inr ⟨i, hi, rfl, htk, hR177, Or.inr ⟨hr, (Y i 5), (Y i 6), r170, by rw [ho]; exact er170, by simp [dz, tU, fU, fV, fA, oU, nearS, c171, c172, c173, c174, er170], by simp [dz, tS, fS, fV, fA, c171, c172, c173, c174, er170], rfl, (by rw [up2_id, up2_id]; exact hM176)⟩⟩⟩ (Nat.zero_le _) (Nat.zero_le _)
                  · try simp only [er170] at c174
                    refine g_aload_n hC dX5_tick_351 1 rfl ?_
                    refine g_iload_n hC dX5_tick_352 2 rfl ?_
                    refine g_aload_n hC dX5_tick_353 1 rfl ?_
                    refine g_get hC (kf := 4) (TT := TX5) (N := 26) (Cn := RX5) dX5_tick_354 (MI.m hM) (MI.o hM) rfl q_u5 (by decide) q_fl_X5_19 rfl rfl ?_
                    refine g_iload_n hC dX5_tick_357 2 rfl ?_
                    refine g_mdl hC hM 9 (by decide) (by decide) hi16 (Y i 9) rfl dX5_tick_358 ?_
                    refine g_callV hC (Cn := RX5) (TT := TX5) (N := 26) dX5_tick_359 (ct_X5_move l G L f hM hi16 (Y i 9)) q_code_X5_move q_ml_X5_110 q_im_X5_move q_sel_X5_move q_init_X5 ⟨rfl, by decide, by decide, (show (parseMethodDescriptor yX5_move.desc).map (fun d => d.parameters.length) = some 2 from by decide +kernel)⟩ (MI.m hM) (MI.o hM) rfl (by decide) (by decide) (Nat.le_of_ble_eq_true rfl) (fun v179 L180 f181 hp178 => ?_)
                    obtain ⟨rfl, rfl, hR182, u183, hu184, hM185⟩ := hp178
                    have hu184x : dv u183 = MV (dv (Y i 5)) (dv (Y i 3)) (dv (Y i 9)) := hu184.trans (by simp [up2])
                    refine (show V C 14 L f181 0 0 362 [(6, .double r170), (0, .ref q0), (1, .int (nI i)), (2, .double m), (4, .double tg)] [] from ?_)
                    refine g_aload_n hC dX5_tick_362 1 rfl ?_
                    refine g_get hC (kf := 15) (TT := TX5) (N := 26) (Cn := RX5) dX5_tick_363 (MI.m hM185) (MI.o hM185) rfl q_u5 (by decide) q_fl_X5_53 rfl rfl ?_
                    refine g_iload_n hC dX5_tick_366 2 rfl ?_
                    refine g_dload hC dX5_tick_367 0 rfl ?_
                    refine g_mds hC hM185 7 (by decide) (by decide) hi16 dX5_tick_369 (fun f186 hM187 hR188 => ?_)
                    refine g_aload_n hC dX5_tick_370 1 rfl ?_
                    refine g_get hC (kf := 13) (TT := TX5) (N := 26) (Cn := RX5) dX5_tick_371 (MI.m hM187) (MI.o hM187) rfl q_u5 (by decide) q_fl_X5_47 rfl rfl ?_
                    refine g_iload_n hC dX5_tick_374 2 rfl ?_
                    refine g_mdl hC hM187 5 (by decide) (by decide) hi16 u183 (by simp [up2]) dX5_tick_375 ?_
                    exact g_dret hC dX5_tick_376 rfl ⟨rfl, Or.inr ⟨i, hi, rfl, htk, (FRm.trans hR182 hR188), Or.inr ⟨hr, u183, (Y i 6), r170, by rw [ho]; exact er170, by simp [dz, tU, fU, fV, fA, oU, nearS, c171, c172, c173, c174, hu184x, er170], by simp [dz, tS, fS, fV, fA, c171, c172, c173, c174, hu184x, er170], rfl, (by rw [up2_id]; exact hM187)⟩⟩⟩ (Nat.zero_le _) (Nat.zero_le _)
                · try simp only [er170] at c173
                  refine g_aload_n hC dX5_tick_325 1 rfl ?_
                  refine g_iload_n hC dX5_tick_326 2 rfl ?_
                  refine g_aload_n hC dX5_tick_327 1 rfl ?_
                  refine g_get hC (kf := 5) (TT := TX5) (N := 26) (Cn := RX5) dX5_tick_328 (MI.m hM) (MI.o hM) rfl q_u5 (by decide) q_fl_X5_22 rfl rfl ?_
                  refine g_iload_n hC dX5_tick_331 2 rfl ?_
                  refine g_mdl hC hM 10 (by decide) (by decide) hi16 (Y i 10) rfl dX5_tick_332 ?_
                  refine g_callV hC (Cn := RX5) (TT := TX5) (N := 26) dX5_tick_333 (ct_X5_move l G L f hM hi16 (Y i 10)) q_code_X5_move q_ml_X5_110 q_im_X5_move q_sel_X5_move q_init_X5 ⟨rfl, by decide, by decide, (show (parseMethodDescriptor yX5_move.desc).map (fun d => d.parameters.length) = some 2 from by decide +kernel)⟩ (MI.m hM) (MI.o hM) rfl (by decide) (by decide) (Nat.le_of_ble_eq_true rfl) (fun v190 L191 f192 hp189 => ?_)
                  obtain ⟨rfl, rfl, hR193, u194, hu195, hM196⟩ := hp189
                  have hu195x : dv u194 = MV (dv (Y i 5)) (dv (Y i 3)) (dv (Y i 10)) := hu195.trans (by simp [up2])
                  refine (show V C 14 L f192 0 0 336 [(6, .double r170), (0, .ref q0), (1, .int (nI i)), (2, .double m), (4, .double tg)] [] from ?_)
                  refine g_goto hC 362 dX5_tick_336 (by decide) ?_
                  refine g_aload_n hC dX5_tick_362 1 rfl ?_
                  refine g_get hC (kf := 15) (TT := TX5) (N := 26) (Cn := RX5) dX5_tick_363 (MI.m hM196) (MI.o hM196) rfl q_u5 (by decide) q_fl_X5_53 rfl rfl ?_
                  refine g_iload_n hC dX5_tick_366 2 rfl ?_
                  refine g_dload hC dX5_tick_367 0 rfl ?_
                  refine g_mds hC hM196 7 (by decide) (by decide) hi16 dX5_tick_369 (fun f197 hM198 hR199 => ?_)
                  refine g_aload_n hC dX5_tick_370 1 rfl ?_
                  refine g_get hC (kf := 13) (TT := TX5) (N := 26) (Cn := RX5) dX5_tick_371 (MI.m hM198) (MI.o hM198) rfl q_u5 (by decide) q_fl_X5_47 rfl rfl ?_
                  refine g_iload_n hC dX5_tick_374 2 rfl ?_
                  refine g_mdl hC hM198 5 (by decide) (by decide) hi16 u194 (by simp [up2]) dX5_tick_375 ?_
                  exact g_dret hC dX5_tick_376 rfl ⟨rfl, Or.inr ⟨i, hi, rfl, htk, (FRm.trans hR193 hR199), Or.inr ⟨hr, u194, (Y i 6), r170, by rw [ho]; exact er170, by simp [dz, tU, fU, fV, fA, oU, nearS, c171, c172, c173, hu195x, er170], by simp [dz, tS, fS, fV, fA, c171, c172, c173, hu195x, er170], rfl, (by rw [up2_id]; exact hM198)⟩⟩⟩ (Nat.zero_le _) (Nat.zero_le _)
              · skip
                refine g_aload_n hC dX5_tick_156 1 rfl ?_
                refine g_get hC (kf := 14) (TT := TX5) (N := 26) (Cn := RX5) dX5_tick_157 (MI.m hM) (MI.o hM) rfl q_u5 (by decide) q_fl_X5_50 rfl rfl ?_
                refine g_iload_n hC dX5_tick_160 2 rfl ?_
                refine g_mdl hC hM 6 (by decide) (by decide) hi16 (Y i 6) rfl dX5_tick_161 ?_
                refine g_aload_n hC dX5_tick_162 1 rfl ?_
                refine g_get hC (kf := 2) (TT := TX5) (N := 26) (Cn := RX5) dX5_tick_163 (MI.m hM) (MI.o hM) rfl q_u5 (by decide) q_fl_X5_13 rfl rfl ?_
                refine g_iload_n hC dX5_tick_166 2 rfl ?_
                refine g_mdl hC hM 1 (by decide) (by decide) hi16 (Y i 1) rfl dX5_tick_167 ?_
                refine g_dload hC dX5_tick_168 0 rfl ?_
                refine g_dmul hC dX5_tick_170 (fun r200 er200 => ?_)
                try simp only [er170] at er200
                refine g_dadd hC dX5_tick_171 (fun r201 er201 => ?_)
                try simp only [er170, er200] at er201
                refine g_dstore hC (lv1 := [(8, .double r201), (6, .double r170), (0, .ref q0), (1, .int (nI i)), (2, .double m), (4, .double tg)]) dX5_tick_172 (by decide) rfl ?_
                refine g_aload_n hC dX5_tick_174 2 rfl ?_
                refine g_get hC (kf := 1) (TT := TX5) (N := 26) (Cn := RX5) dX5_tick_175 (MI.m hM) (MI.o hM) rfl q_u5 (by decide) q_fl_X5_9 rfl rfl ?_
                refine g_iload_n hC dX5_tick_178 3 rfl ?_
                refine g_mdl hC hM 0 (by decide) (by decide) hi16 (Y i 0) rfl dX5_tick_179 ?_
                refine g_dload hC dX5_tick_180 1 rfl ?_
                refine g_dmul hC dX5_tick_182 (fun r202 er202 => ?_)
                try simp only [er170, er200, er201] at er202
                refine g_dload hC dX5_tick_183 0 rfl ?_
                refine g_dadd hC dX5_tick_185 (fun r203 er203 => ?_)
                try simp only [er170, er200, er201, er202] at er203
                refine g_aload_n hC dX5_tick_186 2 rfl ?_
                refine g_get hC (kf := 3) (TT := TX5) (N := 26) (Cn := RX5) dX5_tick_187 (MI.m hM) (MI.o hM) rfl q_u5 (by decide) q_fl_X5_16 rfl rfl ?_
                refine g_iload_n hC dX5_tick_190 3 rfl ?_
                refine g_mdl hC hM 2 (by decide) (by decide) hi16 (Y i 2) rfl dX5_tick_191 ?_
                refine g_dload hC dX5_tick_192 1 rfl ?_
                refine g_aload_n hC dX5_tick_194 2 rfl ?_
                refine g_get hC (kf := 15) (TT := TX5) (N := 26) (Cn := RX5) dX5_tick_195 (MI.m hM) (MI.o hM) rfl q_u5 (by decide) q_fl_X5_53 rfl rfl ?_
                refine g_iload_n hC dX5_tick_198 3 rfl ?_
                refine g_mdl hC hM 7 (by decide) (by decide) hi16 (Y i 7) rfl dX5_tick_199 ?_
                refine g_dsub hC dX5_tick_200 (fun r204 er204 => ?_)
                try simp only [er170, er200, er201, er202, er203] at er204
                refine g_dmul hC dX5_tick_201 (fun r205 er205 => ?_)
                try simp only [er170, er200, er201, er202, er203, er204] at er205
                refine g_dadd hC dX5_tick_202 (fun r206 er206 => ?_)
                try simp only [er170, er200, er201, er202, er203, er204, er205] at er206
                refine g_dstore hC (lv1 := [(10, .double r206), (8, .double r201), (6, .double r170), (0, .ref q0), (1, .int (nI i)), (2, .double m), (4, .double tg)]) dX5_tick_203 (by decide) rfl ?_
                refine g_dload hC dX5_tick_205 0 rfl ?_
                refine g_aload_n hC dX5_tick_207 3 rfl ?_
                refine g_get hC (kf := 5) (TT := TX5) (N := 26) (Cn := RX5) dX5_tick_208 (MI.m hM) (MI.o hM) rfl q_u5 (by decide) q_fl_X5_22 rfl rfl ?_
                refine g_iload_n hC dX5_tick_211 4 rfl ?_
                refine g_mdl hC hM 10 (by decide) (by decide) hi16 (Y i 10) rfl dX5_tick_212 ?_
                refine g_dcmpl_le hC 221 dX5_tick_213 dX5_tick_214 (by decide) (fun c207 => ?_) (fun c207 => ?_)
                · try simp only [er170, er200, er201, er202, er203, er204, er205, er206] at c207
                  refine g_iconst hC 0 dX5_tick_221 (by decide) ?_
                  refine g_istore hC (lv1 := [(12, .int 0), (10, .double r206), (8, .double r201), (6, .double r170), (0, .ref q0), (1, .int (nI i)), (2, .double m), (4, .double tg)]) dX5_tick_222 (by decide) rfl ?_
                  refine g_dload hC dX5_tick_224 1 rfl ?_
                  refine g_aload_n hC dX5_tick_226 4 rfl ?_
                  refine g_get hC (kf := 4) (TT := TX5) (N := 26) (Cn := RX5) dX5_tick_227 (MI.m hM) (MI.o hM) rfl q_u5 (by decide) q_fl_X5_19 rfl rfl ?_
                  refine g_iload_n hC dX5_tick_230 5 rfl ?_
                  refine g_mdl hC hM 9 (by decide) (by decide) hi16 (Y i 9) rfl dX5_tick_231 ?_
                  refine g_dcmpg_ge hC 240 dX5_tick_232 dX5_tick_233 (by decide) (fun c208 => ?_) (fun c208 => ?_)
                  · try simp only [er170, er200, er201, er202, er203, er204, er205, er206] at c208
                    refine g_iconst hC 0 dX5_tick_240 (by decide) ?_
                    refine g_istore hC (lv1 := [(13, .int 0), (12, .int 0), (10, .double r206), (8, .double r201), (6, .double r170), (0, .ref q0), (1, .int (nI i)), (2, .double m), (4, .double tg)]) dX5_tick_241 (by decide) rfl ?_
                    refine g_iload hC dX5_tick_243 1 rfl ?_
                    refine g_if_eq hC 255 dX5_tick_245 (by decide) (fun _ => ?_) (fun c => absurd c (by decide))
                    refine g_iload hC dX5_tick_255 0 rfl ?_
                    refine g_if_eq hC 267 dX5_tick_257 (by decide) (fun _ => ?_) (fun c => absurd c (by decide))
                    refine g_aload_n hC dX5_tick_267 5 rfl ?_
                    refine g_get hC (kf := 14) (TT := TX5) (N := 26) (Cn := RX5) dX5_tick_268 (MI.m hM) (MI.o hM) rfl q_u5 (by decide) q_fl_X5_50 rfl rfl ?_
                    refine g_iload_n hC dX5_tick_271 6 rfl ?_
                    refine g_dload hC dX5_tick_272 3 rfl ?_
                    refine g_mds hC hM 6 (by decide) (by decide) hi16 dX5_tick_274 (fun f209 hM210 hR211 => ?_)
                    refine g_aload_n hC dX5_tick_275 5 rfl ?_
                    refine g_iload_n hC dX5_tick_276 6 rfl ?_
                    refine g_iload hC dX5_tick_277 0 rfl ?_
                    refine g_if_eq hC 291 dX5_tick_279 (by decide) (fun _ => ?_) (fun c => absurd c (by decide))
                    refine g_iload hC dX5_tick_291 1 rfl ?_
                    refine g_if_eq hC 305 dX5_tick_293 (by decide) (fun _ => ?_) (fun c => absurd c (by decide))
                    refine g_dload hC dX5_tick_305 2 rfl ?_
                    refine g_callV hC (Cn := RX5) (TT := TX5) (N := 26) dX5_tick_307 (ct_X5_move l G L f209 hM210 hi16 r206) q_code_X5_move q_ml_X5_110 q_im_X5_move q_sel_X5_move q_init_X5 ⟨rfl, by decide, by decide, (show (parseMethodDescriptor yX5_move.desc).map (fun d => d.parameters.length) = some 2 from by decide +kernel)⟩ (MI.m hM210) (MI.o hM210) rfl (by decide) (by decide) (Nat.le_of_ble_eq_true rfl) (fun v213 L214 f215 hp212 => ?_)
                    obtain ⟨rfl, rfl, hR216, u217, hu218, hM219⟩ := hp212
                    have hu218x : dv u217 = MV (dv (Y i 5)) (dv (Y i 3)) (dv r206) := hu218.trans (by simp [up2])
                    refine (show V C 14 L f215 0 0 310 [(13, .int 0), (12, .int 0), (10, .double r206), (8, .double r201), (6, .double r170), (0, .ref q0), (1, .int (nI i)), (2, .double m), (4, .double tg)] [] from ?_)
                    refine g_goto hC 362 dX5_tick_310 (by decide) ?_
                    refine g_aload_n hC dX5_tick_362 5 rfl ?_
                    refine g_get hC (kf := 15) (TT := TX5) (N := 26) (Cn := RX5) dX5_tick_363 (MI.m hM219) (MI.o hM219) rfl q_u5 (by decide) q_fl_X5_53 rfl rfl ?_
                    refine g_iload_n hC dX5_tick_366 6 rfl ?_
                    refine g_dload hC dX5_tick_367 4 rfl ?_
                    refine g_mds hC hM219 7 (by decide) (by decide) hi16 dX5_tick_369 (fun f220 hM221 hR222 => ?_)
                    refine g_aload_n hC dX5_tick_370 5 rfl ?_
                    refine g_get hC (kf := 13) (TT := TX5) (N := 26) (Cn := RX5) dX5_tick_371 (MI.m hM221) (MI.o hM221) rfl q_u5 (by decide) q_fl_X5_47 rfl rfl ?_
                    refine g_iload_n hC dX5_tick_374 6 rfl ?_
                    refine g_mdl hC hM221 5 (by decide) (by decide) hi16 u217 (by simp [up2]) dX5_tick_375 ?_
                    exact g_dret hC dX5_tick_376 rfl ⟨rfl, Or.inr ⟨i, hi, rfl, htk, (FRm.trans (FRm.trans hR211 hR216) hR222), Or.inr ⟨hr, u217, r201, r170, by rw [ho]; exact er170, by simp [dz, tU, fU, fV, fA, oU, nearS, c171, c172, c207, c208, hu218x, er170, er200, er201, er202, er203, er204, er205, er206], by simp [dz, tS, fS, fV, fA, c171, c172, c207, c208, hu218x, er170, er200, er201, er202, er203, er204, er205, er206], rfl, hM221⟩⟩⟩ (Nat.zero_le _) (Nat.zero_le _)
                  · try simp only [er170, er200, er201, er202, er203, er204, er205, er206] at c208
                    refine g_iconst hC 1 dX5_tick_236 (by decide) ?_
                    refine g_goto hC 241 dX5_tick_237 (by decide) ?_
                    refine g_istore hC (lv1 := [(13, .int 1), (12, .int 0), (10, .double r206), (8, .double r201), (6, .double r170), (0, .ref q0), (1, .int (nI i)), (2, .double m), (4, .double tg)]) dX5_tick_241 (by decide) rfl ?_
                    refine g_iload hC dX5_tick_243 1 rfl ?_
                    refine g_if_eq hC 255 dX5_tick_245 (by decide) (fun _ => ?_) (fun c => absurd c (by decide))
                    refine g_iload hC dX5_tick_255 0 rfl ?_
                    refine g_if_eq hC 267 dX5_tick_257 (by decide) (fun c => absurd c (by decide)) (fun _ => ?_)
                    refine g_dload hC dX5_tick_260 4 rfl ?_
                    refine g_dconst0 hC dX5_tick_262 ?_
                    refine g_dcmpg_lt hC 275 dX5_tick_263 dX5_tick_264 (by decide) (fun c223 => ?_) (fun c223 => ?_)
                    · try simp only [er170, er200, er201, er202, er203, er204, er205, er206] at c223
                      refine g_aload_n hC dX5_tick_275 5 rfl ?_
                      refine g_iload_n hC dX5_tick_276 6 rfl ?_
                      refine g_iload hC dX5_tick_277 0 rfl ?_
                      refine g_if_eq hC 291 dX5_tick_279 (by decide) (fun c => absurd c (by decide)) (fun _ => ?_)
                      refine g_aload_n hC dX5_tick_282 5 rfl ?_
                      refine g_get hC (kf := 4) (TT := TX5) (N := 26) (Cn := RX5) dX5_tick_283 (MI.m hM) (MI.o hM) rfl q_u5 (by decide) q_fl_X5_19 rfl rfl ?_
                      refine g_iload_n hC dX5_tick_286 6 rfl ?_
                      refine g_mdl hC hM 9 (by decide) (by decide) hi16 (Y i 9) rfl dX5_tick_287 ?_
                      refine g_goto hC 307 dX5_tick_288 (by decide) ?_
                      refine g_callV hC (Cn := RX5) (TT := TX5) (N := 26) dX5_tick_307 (ct_X5_move l G L f hM hi16 (Y i 9)) q_code_X5_move q_ml_X5_110 q_im_X5_move q_sel_X5_move q_init_X5 ⟨rfl, by decide, by decide, (show (parseMethodDescriptor yX5_move.desc).map (fun d => d.parameters.length) = some 2 from by decide +kernel)⟩ (MI.m hM) (MI.o hM) rfl (by decide) (by decide) (Nat.le_of_ble_eq_true rfl) (fun v225 L226 f227 hp224 => ?_)
                      obtain ⟨rfl, rfl, hR228, u229, hu230, hM231⟩ := hp224
                      have hu230x : dv u229 = MV (dv (Y i 5)) (dv (Y i 3)) (dv (Y i 9)) := hu230.trans (by simp [up2])
                      refine (show V C 14 L f227 0 0 310 [(13, .int 1), (12, .int 0), (10, .double r206), (8, .double r201), (6, .double r170), (0, .ref q0), (1, .int (nI i)), (2, .double m), (4, .double tg)] [] from ?_)
                      refine g_goto hC 362 dX5_tick_310 (by decide) ?_
                      refine g_aload_n hC dX5_tick_362 5 rfl ?_
                      refine g_get hC (kf := 15) (TT := TX5) (N := 26) (Cn := RX5) dX5_tick_363 (MI.m hM231) (MI.o hM231) rfl q_u5 (by decide) q_fl_X5_53 rfl rfl ?_
                      refine g_iload_n hC dX5_tick_366 6 rfl ?_
                      refine g_dload hC dX5_tick_367 4 rfl ?_
                      refine g_mds hC hM231 7 (by decide) (by decide) hi16 dX5_tick_369 (fun f232 hM233 hR234 => ?_)
                      refine g_aload_n hC dX5_tick_370 5 rfl ?_
                      refine g_get hC (kf := 13) (TT := TX5) (N := 26) (Cn := RX5) dX5_tick_371 (MI.m hM233) (MI.o hM233) rfl q_u5 (by decide) q_fl_X5_47 rfl rfl ?_
                      refine g_iload_n hC dX5_tick_374 6 rfl ?_
                      refine g_mdl hC hM233 5 (by decide) (by decide) hi16 u229 (by simp [up2]) dX5_tick_375 ?_
                      exact g_dret hC dX5_tick_376 rfl ⟨rfl, Or.inr ⟨i, hi, rfl, htk, (FRm.trans hR228 hR234), Or.inr ⟨hr, u229, (Y i 6), r170, by rw [ho]; exact er170, by simp [dz, tU, fU, fV, fA, oU, nearS, c171, c172, c207, c208, c223, hu230x, er170, er200, er201, er202, er203, er204, er205, er206], by simp [dz, tS, fS, fV, fA, c171, c172, c207, c208, c223, hu230x, er170, er200, er201, er202, er203, er204, er205, er206], rfl, (by rw [up2_id]; exact hM233)⟩⟩⟩ (Nat.zero_le _) (Nat.zero_le _)
                    · try simp only [er170, er200, er201, er202, er203, er204, er205, er206] at c223
                      refine g_aload_n hC dX5_tick_267 5 rfl ?_
                      refine g_get hC (kf := 14) (TT := TX5) (N := 26) (Cn := RX5) dX5_tick_268 (MI.m hM) (MI.o hM) rfl q_u5 (by decide) q_fl_X5_50 rfl rfl ?_
                      refine g_iload_n hC dX5_tick_271 6 rfl ?_
                      refine g_dload hC dX5_tick_272 3 rfl ?_
                      refine g_mds hC hM 6 (by decide) (by decide) hi16 dX5_tick_274 (fun f235 hM236 hR237 => ?_)
                      refine g_aload_n hC dX5_tick_275 5 rfl ?_
                      refine g_iload_n hC dX5_tick_276 6 rfl ?_
                      refine g_iload hC dX5_tick_277 0 rfl ?_
                      refine g_if_eq hC 291 dX5_tick_279 (by decide) (fun c => absurd c (by decide)) (fun _ => ?_)
                      refine g_aload_n hC dX5_tick_282 5 rfl ?_
                      refine g_get hC (kf := 4) (TT := TX5) (N := 26) (Cn := RX5) dX5_tick_283 (MI.m hM236) (MI.o hM236) rfl q_u5 (by decide) q_fl_X5_19 rfl rfl ?_
                      refine g_iload_n hC dX5_tick_286 6 rfl ?_
                      refine g_mdl hC hM236 9 (by decide) (by decide) hi16 (Y i 9) (by simp [up2]) dX5_tick_287 ?_
                      refine g_goto hC 307 dX5_tick_288 (by decide) ?_
                      refine g_callV hC (Cn := RX5) (TT := TX5) (N := 26) dX5_tick_307 (ct_X5_move l G L f235 hM236 hi16 (Y i 9)) q_code_X5_move q_ml_X5_110 q_im_X5_move q_sel_X5_move q_init_X5 ⟨rfl, by decide, by decide, (show (parseMethodDescriptor yX5_move.desc).map (fun d => d.parameters.length) = some 2 from by decide +kernel)⟩ (MI.m hM236) (MI.o hM236) rfl (by decide) (by decide) (Nat.le_of_ble_eq_true rfl) (fun v239 L240 f241 hp238 => ?_)
                      obtain ⟨rfl, rfl, hR242, u243, hu244, hM245⟩ := hp238
                      have hu244x : dv u243 = MV (dv (Y i 5)) (dv (Y i 3)) (dv (Y i 9)) := hu244.trans (by simp [up2])
                      refine (show V C 14 L f241 0 0 310 [(13, .int 1), (12, .int 0), (10, .double r206), (8, .double r201), (6, .double r170), (0, .ref q0), (1, .int (nI i)), (2, .double m), (4, .double tg)] [] from ?_)
                      refine g_goto hC 362 dX5_tick_310 (by decide) ?_
                      refine g_aload_n hC dX5_tick_362 5 rfl ?_
                      refine g_get hC (kf := 15) (TT := TX5) (N := 26) (Cn := RX5) dX5_tick_363 (MI.m hM245) (MI.o hM245) rfl q_u5 (by decide) q_fl_X5_53 rfl rfl ?_
                      refine g_iload_n hC dX5_tick_366 6 rfl ?_
                      refine g_dload hC dX5_tick_367 4 rfl ?_
                      refine g_mds hC hM245 7 (by decide) (by decide) hi16 dX5_tick_369 (fun f246 hM247 hR248 => ?_)
                      refine g_aload_n hC dX5_tick_370 5 rfl ?_
                      refine g_get hC (kf := 13) (TT := TX5) (N := 26) (Cn := RX5) dX5_tick_371 (MI.m hM247) (MI.o hM247) rfl q_u5 (by decide) q_fl_X5_47 rfl rfl ?_
                      refine g_iload_n hC dX5_tick_374 6 rfl ?_
                      refine g_mdl hC hM247 5 (by decide) (by decide) hi16 u243 (by simp [up2]) dX5_tick_375 ?_
                      exact g_dret hC dX5_tick_376 rfl ⟨rfl, Or.inr ⟨i, hi, rfl, htk, (FRm.trans (FRm.trans hR237 hR242) hR248), Or.inr ⟨hr, u243, r201, r170, by rw [ho]; exact er170, by simp [dz, tU, fU, fV, fA, oU, nearS, c171, c172, c207, c208, c223, hu244x, er170, er200, er201, er202, er203, er204, er205, er206], by simp [dz, tS, fS, fV, fA, c171, c172, c207, c208, c223, hu244x, er170, er200, er201, er202, er203, er204, er205, er206], rfl, hM247⟩⟩⟩ (Nat.zero_le _) (Nat.zero_le _)
                · try simp only [er170, er200, er201, er202, er203, er204, er205, er206] at c207
                  refine g_iconst hC 1 dX5_tick_217 (by decide) ?_
                  refine g_goto hC 222 dX5_tick_218 (by decide) ?_
                  refine g_istore hC (lv1 := [(12, .int 1), (10, .double r206), (8, .double r201), (6, .double r170), (0, .ref q0), (1, .int (nI i)), (2, .double m), (4, .double tg)]) dX5_tick_222 (by decide) rfl ?_
                  refine g_dload hC dX5_tick_224 1 rfl ?_
                  refine g_aload_n hC dX5_tick_226 4 rfl ?_
                  refine g_get hC (kf := 4) (TT := TX5) (N := 26) (Cn := RX5) dX5_tick_227 (MI.m hM) (MI.o hM) rfl q_u5 (by decide) q_fl_X5_19 rfl rfl ?_
                  refine g_iload_n hC dX5_tick_230 5 rfl ?_
                  refine g_mdl hC hM 9 (by decide) (by decide) hi16 (Y i 9) rfl dX5_tick_231 ?_
                  refine g_dcmpg_ge hC 240 dX5_tick_232 dX5_tick_233 (by decide) (fun c249 => ?_) (fun c249 => ?_)
                  · try simp only [er170, er200, er201, er202, er203, er204, er205, er206] at c249
                    refine g_iconst hC 0 dX5_tick_240 (by decide) ?_
                    refine g_istore hC (lv1 := [(13, .int 0), (12, .int 1), (10, .double r206), (8, .double r201), (6, .double r170), (0, .ref q0), (1, .int (nI i)), (2, .double m), (4, .double tg)]) dX5_tick_241 (by decide) rfl ?_
                    refine g_iload hC dX5_tick_243 1 rfl ?_
                    refine g_if_eq hC 255 dX5_tick_245 (by decide) (fun c => absurd c (by decide)) (fun _ => ?_)
                    refine g_dload hC dX5_tick_248 4 rfl ?_
                    refine g_dconst0 hC dX5_tick_250 ?_
                    refine g_dcmpl_gt hC 275 dX5_tick_251 dX5_tick_252 (by decide) (fun c250 => ?_) (fun c250 => ?_)
                    · try simp only [er170, er200, er201, er202, er203, er204, er205, er206] at c250
                      refine g_aload_n hC dX5_tick_275 5 rfl ?_
                      refine g_iload_n hC dX5_tick_276 6 rfl ?_
                      refine g_iload hC dX5_tick_277 0 rfl ?_
                      refine g_if_eq hC 291 dX5_tick_279 (by decide) (fun _ => ?_) (fun c => absurd c (by decide))
                      refine g_iload hC dX5_tick_291 1 rfl ?_
                      refine g_if_eq hC 305 dX5_tick_293 (by decide) (fun c => absurd c (by decide)) (fun _ => ?_)
                      refine g_aload_n hC dX5_tick_296 5 rfl ?_
                      refine g_get hC (kf := 5) (TT := TX5) (N := 26) (Cn := RX5) dX5_tick_297 (MI.m hM) (MI.o hM) rfl q_u5 (by decide) q_fl_X5_22 rfl rfl ?_
                      refine g_iload_n hC dX5_tick_300 6 rfl ?_
                      refine g_mdl hC hM 10 (by decide) (by decide) hi16 (Y i 10) rfl dX5_tick_301 ?_
                      refine g_goto hC 307 dX5_tick_302 (by decide) ?_
                      refine g_callV hC (Cn := RX5) (TT := TX5) (N := 26) dX5_tick_307 (ct_X5_move l G L f hM hi16 (Y i 10)) q_code_X5_move q_ml_X5_110 q_im_X5_move q_sel_X5_move q_init_X5 ⟨rfl, by decide, by decide, (show (parseMethodDescriptor yX5_move.desc).map (fun d => d.parameters.length) = some 2 from by decide +kernel)⟩ (MI.m hM) (MI.o hM) rfl (by decide) (by decide) (Nat.le_of_ble_eq_true rfl) (fun v252 L253 f254 hp251 => ?_)
                      obtain ⟨rfl, rfl, hR255, u256, hu257, hM258⟩ := hp251
                      have hu257x : dv u256 = MV (dv (Y i 5)) (dv (Y i 3)) (dv (Y i 10)) := hu257.trans (by simp [up2])
                      refine (show V C 14 L f254 0 0 310 [(13, .int 0), (12, .int 1), (10, .double r206), (8, .double r201), (6, .double r170), (0, .ref q0), (1, .int (nI i)), (2, .double m), (4, .double tg)] [] from ?_)
                      refine g_goto hC 362 dX5_tick_310 (by decide) ?_
                      refine g_aload_n hC dX5_tick_362 5 rfl ?_
                      refine g_get hC (kf := 15) (TT := TX5) (N := 26) (Cn := RX5) dX5_tick_363 (MI.m hM258) (MI.o hM258) rfl q_u5 (by decide) q_fl_X5_53 rfl rfl ?_
                      refine g_iload_n hC dX5_tick_366 6 rfl ?_
                      refine g_dload hC dX5_tick_367 4 rfl ?_
                      refine g_mds hC hM258 7 (by decide) (by decide) hi16 dX5_tick_369 (fun f259 hM260 hR261 => ?_)
                      refine g_aload_n hC dX5_tick_370 5 rfl ?_
                      refine g_get hC (kf := 13) (TT := TX5) (N := 26) (Cn := RX5) dX5_tick_371 (MI.m hM260) (MI.o hM260) rfl q_u5 (by decide) q_fl_X5_47 rfl rfl ?_
                      refine g_iload_n hC dX5_tick_374 6 rfl ?_
                      refine g_mdl hC hM260 5 (by decide) (by decide) hi16 u256 (by simp [up2]) dX5_tick_375 ?_
                      exact g_dret hC dX5_tick_376 rfl ⟨rfl, Or.inr ⟨i, hi, rfl, htk, (FRm.trans hR255 hR261), Or.inr ⟨hr, u256, (Y i 6), r170, by rw [ho]; exact er170, by simp [dz, tU, fU, fV, fA, oU, nearS, c171, c172, c207, c249, c250, hu257x, er170, er200, er201, er202, er203, er204, er205, er206], by simp [dz, tS, fS, fV, fA, c171, c172, c207, c249, c250, hu257x, er170, er200, er201, er202, er203, er204, er205, er206], rfl, (by rw [up2_id]; exact hM260)⟩⟩⟩ (Nat.zero_le _) (Nat.zero_le _)
                    · try simp only [er170, er200, er201, er202, er203, er204, er205, er206] at c250
                      refine g_iload hC dX5_tick_255 0 rfl ?_
                      refine g_if_eq hC 267 dX5_tick_257 (by decide) (fun _ => ?_) (fun c => absurd c (by decide))
                      refine g_aload_n hC dX5_tick_267 5 rfl ?_
                      refine g_get hC (kf := 14) (TT := TX5) (N := 26) (Cn := RX5) dX5_tick_268 (MI.m hM) (MI.o hM) rfl q_u5 (by decide) q_fl_X5_50 rfl rfl ?_
                      refine g_iload_n hC dX5_tick_271 6 rfl ?_
                      refine g_dload hC dX5_tick_272 3 rfl ?_
                      refine g_mds hC hM 6 (by decide) (by decide) hi16 dX5_tick_274 (fun f262 hM263 hR264 => ?_)
                      refine g_aload_n hC dX5_tick_275 5 rfl ?_
                      refine g_iload_n hC dX5_tick_276 6 rfl ?_
                      refine g_iload hC dX5_tick_277 0 rfl ?_
                      refine g_if_eq hC 291 dX5_tick_279 (by decide) (fun _ => ?_) (fun c => absurd c (by decide))
                      refine g_iload hC dX5_tick_291 1 rfl ?_
                      refine g_if_eq hC 305 dX5_tick_293 (by decide) (fun c => absurd c (by decide)) (fun _ => ?_)
                      refine g_aload_n hC dX5_tick_296 5 rfl ?_
                      refine g_get hC (kf := 5) (TT := TX5) (N := 26) (Cn := RX5) dX5_tick_297 (MI.m hM263) (MI.o hM263) rfl q_u5 (by decide) q_fl_X5_22 rfl rfl ?_
                      refine g_iload_n hC dX5_tick_300 6 rfl ?_
                      refine g_mdl hC hM263 10 (by decide) (by decide) hi16 (Y i 10) (by simp [up2]) dX5_tick_301 ?_
                      refine g_goto hC 307 dX5_tick_302 (by decide) ?_
                      refine g_callV hC (Cn := RX5) (TT := TX5) (N := 26) dX5_tick_307 (ct_X5_move l G L f262 hM263 hi16 (Y i 10)) q_code_X5_move q_ml_X5_110 q_im_X5_move q_sel_X5_move q_init_X5 ⟨rfl, by decide, by decide, (show (parseMethodDescriptor yX5_move.desc).map (fun d => d.parameters.length) = some 2 from by decide +kernel)⟩ (MI.m hM263) (MI.o hM263) rfl (by decide) (by decide) (Nat.le_of_ble_eq_true rfl) (fun v266 L267 f268 hp265 => ?_)
                      obtain ⟨rfl, rfl, hR269, u270, hu271, hM272⟩ := hp265
                      have hu271x : dv u270 = MV (dv (Y i 5)) (dv (Y i 3)) (dv (Y i 10)) := hu271.trans (by simp [up2])
                      refine (show V C 14 L f268 0 0 310 [(13, .int 0), (12, .int 1), (10, .double r206), (8, .double r201), (6, .double r170), (0, .ref q0), (1, .int (nI i)), (2, .double m), (4, .double tg)] [] from ?_)
                      refine g_goto hC 362 dX5_tick_310 (by decide) ?_
                      refine g_aload_n hC dX5_tick_362 5 rfl ?_
                      refine g_get hC (kf := 15) (TT := TX5) (N := 26) (Cn := RX5) dX5_tick_363 (MI.m hM272) (MI.o hM272) rfl q_u5 (by decide) q_fl_X5_53 rfl rfl ?_
                      refine g_iload_n hC dX5_tick_366 6 rfl ?_
                      refine g_dload hC dX5_tick_367 4 rfl ?_
                      refine g_mds hC hM272 7 (by decide) (by decide) hi16 dX5_tick_369 (fun f273 hM274 hR275 => ?_)
                      refine g_aload_n hC dX5_tick_370 5 rfl ?_
                      refine g_get hC (kf := 13) (TT := TX5) (N := 26) (Cn := RX5) dX5_tick_371 (MI.m hM274) (MI.o hM274) rfl q_u5 (by decide) q_fl_X5_47 rfl rfl ?_
                      refine g_iload_n hC dX5_tick_374 6 rfl ?_
                      refine g_mdl hC hM274 5 (by decide) (by decide) hi16 u270 (by simp [up2]) dX5_tick_375 ?_
                      exact g_dret hC dX5_tick_376 rfl ⟨rfl, Or.inr ⟨i, hi, rfl, htk, (FRm.trans (FRm.trans hR264 hR269) hR275), Or.inr ⟨hr, u270, r201, r170, by rw [ho]; exact er170, by simp [dz, tU, fU, fV, fA, oU, nearS, c171, c172, c207, c249, c250, hu271x, er170, er200, er201, er202, er203, er204, er205, er206], by simp [dz, tS, fS, fV, fA, c171, c172, c207, c249, c250, hu271x, er170, er200, er201, er202, er203, er204, er205, er206], rfl, hM274⟩⟩⟩ (Nat.zero_le _) (Nat.zero_le _)
                  · try simp only [er170, er200, er201, er202, er203, er204, er205, er206] at c249
                    refine g_iconst hC 1 dX5_tick_236 (by decide) ?_
                    refine g_goto hC 241 dX5_tick_237 (by decide) ?_
                    refine g_istore hC (lv1 := [(13, .int 1), (12, .int 1), (10, .double r206), (8, .double r201), (6, .double r170), (0, .ref q0), (1, .int (nI i)), (2, .double m), (4, .double tg)]) dX5_tick_241 (by decide) rfl ?_
                    refine g_iload hC dX5_tick_243 1 rfl ?_
                    refine g_if_eq hC 255 dX5_tick_245 (by decide) (fun c => absurd c (by decide)) (fun _ => ?_)
                    refine g_dload hC dX5_tick_248 4 rfl ?_
                    refine g_dconst0 hC dX5_tick_250 ?_
                    refine g_dcmpl_gt hC 275 dX5_tick_251 dX5_tick_252 (by decide) (fun c276 => ?_) (fun c276 => ?_)
                    · try simp only [er170, er200, er201, er202, er203, er204, er205, er206] at c276
                      refine g_aload_n hC dX5_tick_275 5 rfl ?_
                      refine g_iload_n hC dX5_tick_276 6 rfl ?_
                      refine g_iload hC dX5_tick_277 0 rfl ?_
                      refine g_if_eq hC 291 dX5_tick_279 (by decide) (fun c => absurd c (by decide)) (fun _ => ?_)
                      refine g_aload_n hC dX5_tick_282 5 rfl ?_
                      refine g_get hC (kf := 4) (TT := TX5) (N := 26) (Cn := RX5) dX5_tick_283 (MI.m hM) (MI.o hM) rfl q_u5 (by decide) q_fl_X5_19 rfl rfl ?_
                      refine g_iload_n hC dX5_tick_286 6 rfl ?_
                      refine g_mdl hC hM 9 (by decide) (by decide) hi16 (Y i 9) rfl dX5_tick_287 ?_
                      refine g_goto hC 307 dX5_tick_288 (by decide) ?_
                      refine g_callV hC (Cn := RX5) (TT := TX5) (N := 26) dX5_tick_307 (ct_X5_move l G L f hM hi16 (Y i 9)) q_code_X5_move q_ml_X5_110 q_im_X5_move q_sel_X5_move q_init_X5 ⟨rfl, by decide, by decide, (show (parseMethodDescriptor yX5_move.desc).map (fun d => d.parameters.length) = some 2 from by decide +kernel)⟩ (MI.m hM) (MI.o hM) rfl (by decide) (by decide) (Nat.le_of_ble_eq_true rfl) (fun v278 L279 f280 hp277 => ?_)
                      obtain ⟨rfl, rfl, hR281, u282, hu283, hM284⟩ := hp277
                      have hu283x : dv u282 = MV (dv (Y i 5)) (dv (Y i 3)) (dv (Y i 9)) := hu283.trans (by simp [up2])
                      refine (show V C 14 L f280 0 0 310 [(13, .int 1), (12, .int 1), (10, .double r206), (8, .double r201), (6, .double r170), (0, .ref q0), (1, .int (nI i)), (2, .double m), (4, .double tg)] [] from ?_)
                      refine g_goto hC 362 dX5_tick_310 (by decide) ?_
                      refine g_aload_n hC dX5_tick_362 5 rfl ?_
                      refine g_get hC (kf := 15) (TT := TX5) (N := 26) (Cn := RX5) dX5_tick_363 (MI.m hM284) (MI.o hM284) rfl q_u5 (by decide) q_fl_X5_53 rfl rfl ?_
                      refine g_iload_n hC dX5_tick_366 6 rfl ?_
                      refine g_dload hC dX5_tick_367 4 rfl ?_
                      refine g_mds hC hM284 7 (by decide) (by decide) hi16 dX5_tick_369 (fun f285 hM286 hR287 => ?_)
                      refine g_aload_n hC dX5_tick_370 5 rfl ?_
                      refine g_get hC (kf := 13) (TT := TX5) (N := 26) (Cn := RX5) dX5_tick_371 (MI.m hM286) (MI.o hM286) rfl q_u5 (by decide) q_fl_X5_47 rfl rfl ?_
                      refine g_iload_n hC dX5_tick_374 6 rfl ?_
                      refine g_mdl hC hM286 5 (by decide) (by decide) hi16 u282 (by simp [up2]) dX5_tick_375 ?_
                      exact g_dret hC dX5_tick_376 rfl ⟨rfl, Or.inr ⟨i, hi, rfl, htk, (FRm.trans hR281 hR287), Or.inr ⟨hr, u282, (Y i 6), r170, by rw [ho]; exact er170, by simp [dz, tU, fU, fV, fA, oU, nearS, c171, c172, c207, c249, c276, hu283x, er170, er200, er201, er202, er203, er204, er205, er206], by simp [dz, tS, fS, fV, fA, c171, c172, c207, c249, c276, hu283x, er170, er200, er201, er202, er203, er204, er205, er206], rfl, (by rw [up2_id]; exact hM286)⟩⟩⟩ (Nat.zero_le _) (Nat.zero_le _)
                    · try simp only [er170, er200, er201, er202, er203, er204, er205, er206] at c276
                      refine g_iload hC dX5_tick_255 0 rfl ?_
                      refine g_if_eq hC 267 dX5_tick_257 (by decide) (fun c => absurd c (by decide)) (fun _ => ?_)
                      refine g_dload hC dX5_tick_260 4 rfl ?_
                      refine g_dconst0 hC dX5_tick_262 ?_
                      refine g_dcmpg_lt hC 275 dX5_tick_263 dX5_tick_264 (by decide) (fun c288 => ?_) (fun c288 => ?_)
                      · try simp only [er170, er200, er201, er202, er203, er204, er205, er206] at c288
                        refine g_aload_n hC dX5_tick_275 5 rfl ?_
                        refine g_iload_n hC dX5_tick_276 6 rfl ?_
                        refine g_iload hC dX5_tick_277 0 rfl ?_
                        refine g_if_eq hC 291 dX5_tick_279 (by decide) (fun c => absurd c (by decide)) (fun _ => ?_)
                        refine g_aload_n hC dX5_tick_282 5 rfl ?_
                        refine g_get hC (kf := 4) (TT := TX5) (N := 26) (Cn := RX5) dX5_tick_283 (MI.m hM) (MI.o hM) rfl q_u5 (by decide) q_fl_X5_19 rfl rfl ?_
                        refine g_iload_n hC dX5_tick_286 6 rfl ?_
                        refine g_mdl hC hM 9 (by decide) (by decide) hi16 (Y i 9) rfl dX5_tick_287 ?_
                        refine g_goto hC 307 dX5_tick_288 (by decide) ?_
                        refine g_callV hC (Cn := RX5) (TT := TX5) (N := 26) dX5_tick_307 (ct_X5_move l G L f hM hi16 (Y i 9)) q_code_X5_move q_ml_X5_110 q_im_X5_move q_sel_X5_move q_init_X5 ⟨rfl, by decide, by decide, (show (parseMethodDescriptor yX5_move.desc).map (fun d => d.parameters.length) = some 2 from by decide +kernel)⟩ (MI.m hM) (MI.o hM) rfl (by decide) (by decide) (Nat.le_of_ble_eq_true rfl) (fun v290 L291 f292 hp289 => ?_)
                        obtain ⟨rfl, rfl, hR293, u294, hu295, hM296⟩ := hp289
                        have hu295x : dv u294 = MV (dv (Y i 5)) (dv (Y i 3)) (dv (Y i 9)) := hu295.trans (by simp [up2])
                        refine (show V C 14 L f292 0 0 310 [(13, .int 1), (12, .int 1), (10, .double r206), (8, .double r201), (6, .double r170), (0, .ref q0), (1, .int (nI i)), (2, .double m), (4, .double tg)] [] from ?_)
                        refine g_goto hC 362 dX5_tick_310 (by decide) ?_
                        refine g_aload_n hC dX5_tick_362 5 rfl ?_
                        refine g_get hC (kf := 15) (TT := TX5) (N := 26) (Cn := RX5) dX5_tick_363 (MI.m hM296) (MI.o hM296) rfl q_u5 (by decide) q_fl_X5_53 rfl rfl ?_
                        refine g_iload_n hC dX5_tick_366 6 rfl ?_
                        refine g_dload hC dX5_tick_367 4 rfl ?_
                        refine g_mds hC hM296 7 (by decide) (by decide) hi16 dX5_tick_369 (fun f297 hM298 hR299 => ?_)
                        refine g_aload_n hC dX5_tick_370 5 rfl ?_
                        refine g_get hC (kf := 13) (TT := TX5) (N := 26) (Cn := RX5) dX5_tick_371 (MI.m hM298) (MI.o hM298) rfl q_u5 (by decide) q_fl_X5_47 rfl rfl ?_
                        refine g_iload_n hC dX5_tick_374 6 rfl ?_
                        refine g_mdl hC hM298 5 (by decide) (by decide) hi16 u294 (by simp [up2]) dX5_tick_375 ?_
                        exact g_dret hC dX5_tick_376 rfl ⟨rfl, Or.inr ⟨i, hi, rfl, htk, (FRm.trans hR293 hR299), Or.inr ⟨hr, u294, (Y i 6), r170, by rw [ho]; exact er170, by simp [dz, tU, fU, fV, fA, oU, nearS, c171, c172, c207, c249, c276, c288, hu295x, er170, er200, er201, er202, er203, er204, er205, er206], by simp [dz, tS, fS, fV, fA, c171, c172, c207, c249, c276, c288, hu295x, er170, er200, er201, er202, er203, er204, er205, er206], rfl, (by rw [up2_id]; exact hM298)⟩⟩⟩ (Nat.zero_le _) (Nat.zero_le _)
                      · try simp only [er170, er200, er201, er202, er203, er204, er205, er206] at c288
                        refine g_aload_n hC dX5_tick_267 5 rfl ?_
                        refine g_get hC (kf := 14) (TT := TX5) (N := 26) (Cn := RX5) dX5_tick_268 (MI.m hM) (MI.o hM) rfl q_u5 (by decide) q_fl_X5_50 rfl rfl ?_
                        refine g_iload_n hC dX5_tick_271 6 rfl ?_
                        refine g_dload hC dX5_tick_272 3 rfl ?_
                        refine g_mds hC hM 6 (by decide) (by decide) hi16 dX5_tick_274 (fun f300 hM301 hR302 => ?_)
                        refine g_aload_n hC dX5_tick_275 5 rfl ?_
                        refine g_iload_n hC dX5_tick_276 6 rfl ?_
                        refine g_iload hC dX5_tick_277 0 rfl ?_
                        refine g_if_eq hC 291 dX5_tick_279 (by decide) (fun c => absurd c (by decide)) (fun _ => ?_)
                        refine g_aload_n hC dX5_tick_282 5 rfl ?_
                        refine g_get hC (kf := 4) (TT := TX5) (N := 26) (Cn := RX5) dX5_tick_283 (MI.m hM301) (MI.o hM301) rfl q_u5 (by decide) q_fl_X5_19 rfl rfl ?_
                        refine g_iload_n hC dX5_tick_286 6 rfl ?_
                        refine g_mdl hC hM301 9 (by decide) (by decide) hi16 (Y i 9) (by simp [up2]) dX5_tick_287 ?_
                        refine g_goto hC 307 dX5_tick_288 (by decide) ?_
                        refine g_callV hC (Cn := RX5) (TT := TX5) (N := 26) dX5_tick_307 (ct_X5_move l G L f300 hM301 hi16 (Y i 9)) q_code_X5_move q_ml_X5_110 q_im_X5_move q_sel_X5_move q_init_X5 ⟨rfl, by decide, by decide, (show (parseMethodDescriptor yX5_move.desc).map (fun d => d.parameters.length) = some 2 from by decide +kernel)⟩ (MI.m hM301) (MI.o hM301) rfl (by decide) (by decide) (Nat.le_of_ble_eq_true rfl) (fun v304 L305 f306 hp303 => ?_)
                        obtain ⟨rfl, rfl, hR307, u308, hu309, hM310⟩ := hp303
                        have hu309x : dv u308 = MV (dv (Y i 5)) (dv (Y i 3)) (dv (Y i 9)) := hu309.trans (by simp [up2])
                        refine (show V C 14 L f306 0 0 310 [(13, .int 1), (12, .int 1), (10, .double r206), (8, .double r201), (6, .double r170), (0, .ref q0), (1, .int (nI i)), (2, .double m), (4, .double tg)] [] from ?_)
                        refine g_goto hC 362 dX5_tick_310 (by decide) ?_
                        refine g_aload_n hC dX5_tick_362 5 rfl ?_
                        refine g_get hC (kf := 15) (TT := TX5) (N := 26) (Cn := RX5) dX5_tick_363 (MI.m hM310) (MI.o hM310) rfl q_u5 (by decide) q_fl_X5_53 rfl rfl ?_
                        refine g_iload_n hC dX5_tick_366 6 rfl ?_
                        refine g_dload hC dX5_tick_367 4 rfl ?_
                        refine g_mds hC hM310 7 (by decide) (by decide) hi16 dX5_tick_369 (fun f311 hM312 hR313 => ?_)
                        refine g_aload_n hC dX5_tick_370 5 rfl ?_
                        refine g_get hC (kf := 13) (TT := TX5) (N := 26) (Cn := RX5) dX5_tick_371 (MI.m hM312) (MI.o hM312) rfl q_u5 (by decide) q_fl_X5_47 rfl rfl ?_
                        refine g_iload_n hC dX5_tick_374 6 rfl ?_
                        refine g_mdl hC hM312 5 (by decide) (by decide) hi16 u308 (by simp [up2]) dX5_tick_375 ?_
                        exact g_dret hC dX5_tick_376 rfl ⟨rfl, Or.inr ⟨i, hi, rfl, htk, (FRm.trans (FRm.trans hR302 hR307) hR313), Or.inr ⟨hr, u308, r201, r170, by rw [ho]; exact er170, by simp [dz, tU, fU, fV, fA, oU, nearS, c171, c172, c207, c249, c276, c288, hu309x, er170, er200, er201, er202, er203, er204, er205, er206], by simp [dz, tS, fS, fV, fA, c171, c172, c207, c249, c276, c288, hu309x, er170, er200, er201, er202, er203, er204, er205, er206], rfl, hM312⟩⟩⟩ (Nat.zero_le _) (Nat.zero_le _)
            · skip
              refine g_aload_n hC dX5_tick_132 1 rfl ?_
              refine g_iload_n hC dX5_tick_133 2 rfl ?_
              refine g_aload_n hC dX5_tick_134 1 rfl ?_
              refine g_get hC (kf := 16) (TT := TX5) (N := 26) (Cn := RX5) dX5_tick_135 (MI.m hM) (MI.o hM) rfl q_u5 (by decide) q_fl_X5_56 rfl rfl ?_
              refine g_iload_n hC dX5_tick_138 2 rfl ?_
              refine g_mdl hC hM 8 (by decide) (by decide) hi16 (Y i 8) rfl dX5_tick_139 ?_
              refine g_callV hC (Cn := RX5) (TT := TX5) (N := 26) dX5_tick_140 (ct_X5_move l G L f hM hi16 (Y i 8)) q_code_X5_move q_ml_X5_110 q_im_X5_move q_sel_X5_move q_init_X5 ⟨rfl, by decide, by decide, (show (parseMethodDescriptor yX5_move.desc).map (fun d => d.parameters.length) = some 2 from by decide +kernel)⟩ (MI.m hM) (MI.o hM) rfl (by decide) (by decide) (Nat.le_of_ble_eq_true rfl) (fun v315 L316 f317 hp314 => ?_)
              obtain ⟨rfl, rfl, hR318, u319, hu320, hM321⟩ := hp314
              have hu320x : dv u319 = MV (dv (Y i 5)) (dv (Y i 3)) (dv (Y i 8)) := hu320.trans (by simp [up2])
              refine (show V C 14 L f317 0 0 143 [(6, .double r170), (0, .ref q0), (1, .int (nI i)), (2, .double m), (4, .double tg)] [] from ?_)
              refine g_goto hC 362 dX5_tick_143 (by decide) ?_
              refine g_aload_n hC dX5_tick_362 1 rfl ?_
              refine g_get hC (kf := 15) (TT := TX5) (N := 26) (Cn := RX5) dX5_tick_363 (MI.m hM321) (MI.o hM321) rfl q_u5 (by decide) q_fl_X5_53 rfl rfl ?_
              refine g_iload_n hC dX5_tick_366 2 rfl ?_
              refine g_dload hC dX5_tick_367 0 rfl ?_
              refine g_mds hC hM321 7 (by decide) (by decide) hi16 dX5_tick_369 (fun f322 hM323 hR324 => ?_)
              refine g_aload_n hC dX5_tick_370 1 rfl ?_
              refine g_get hC (kf := 13) (TT := TX5) (N := 26) (Cn := RX5) dX5_tick_371 (MI.m hM323) (MI.o hM323) rfl q_u5 (by decide) q_fl_X5_47 rfl rfl ?_
              refine g_iload_n hC dX5_tick_374 2 rfl ?_
              refine g_mdl hC hM323 5 (by decide) (by decide) hi16 u319 (by simp [up2]) dX5_tick_375 ?_
              exact g_dret hC dX5_tick_376 rfl ⟨rfl, Or.inr ⟨i, hi, rfl, htk, (FRm.trans hR318 hR324), Or.inr ⟨hr, u319, (Y i 6), r170, by rw [ho]; exact er170, by simp [dz, tU, fU, fV, fA, oU, nearS, c171, hu320x, er170], by simp [dz, tS, fS, fV, fA, c171, hu320x, er170], rfl, (by rw [up2_id]; exact hM323)⟩⟩⟩ (Nat.zero_le _) (Nat.zero_le _)
        refine g_aload_n hC dX5_tick_37 0 rfl ?_
        refine g_get hC (kf := 10) (TT := TX5) (N := 26) (Cn := RX5) dX5_tick_38 (MI.m hM) (MI.o hM) rfl q_u5 (by decide) q_fl_X5_37 rfl rfl ?_
        refine g_iload_n hC dX5_tick_41 1 rfl ?_
        refine g_mzl hC hM hi16 (W0 i 25) rfl dX5_tick_42 ?_
        refine g_if_eq hC 94 dX5_tick_43 (by decide) (fun c325 => ?_) (fun c325 => ?_)
        · skip
          exact K (by simp only [rngT, Bool.and_true, Bool.true_and, Bool.and_false, Bool.false_and, Bool.not_true, Bool.not_false, decide_true, decide_false, Bool.or_true, Bool.true_or, Bool.or_false, Bool.false_or, eq_true c325])
        · skip
          refine g_dload_n hC dX5_tick_46 2 rfl ?_
          refine g_aload_n hC dX5_tick_47 0 rfl ?_
          refine g_get hC (kf := 11) (TT := TX5) (N := 26) (Cn := RX5) dX5_tick_48 (MI.m hM) (MI.o hM) rfl q_u5 (by decide) q_fl_X5_41 rfl rfl ?_
          refine g_iload_n hC dX5_tick_51 1 rfl ?_
          refine g_mdl hC hM 13 (by decide) (by decide) hi16 (Y i 13) rfl dX5_tick_52 ?_
          refine g_aload_n hC dX5_tick_53 0 rfl ?_
          refine g_get hC (kf := 12) (TT := TX5) (N := 26) (Cn := RX5) dX5_tick_54 (MI.m hM) (MI.o hM) rfl q_u5 (by decide) q_fl_X5_44 rfl rfl ?_
          refine g_iload_n hC dX5_tick_57 1 rfl ?_
          refine g_mdl hC hM 14 (by decide) (by decide) hi16 (Y i 14) rfl dX5_tick_58 ?_
          refine g_callS hC dX5_tick_59 (ct_X5_isIn l G L f m (Y i 13) (Y i 14)) q_code_X5_isIn q_ml_X5_90 q_st_X5_isIn q_init_X5 ⟨by decide, by decide, (show (parseMethodDescriptor yX5_isIn.desc).map (fun d => d.parameters.length) = some 3 from by decide +kernel)⟩ (by decide) (by decide) (Nat.le_of_ble_eq_true rfl) (fun v327 L328 f329 hp326 => ?_)
          obtain ⟨rfl, rfl, rfl⟩ := hp326
          refine (show V C 14 L f 0 0 62 [(0, .ref q0), (1, .int (nI i)), (2, .double m), (4, .double tg)] [.int (bI (inB (dv m) (dv (Y i 13)) (dv (Y i 14))))] from ?_)
          refine g_ifB_ne hC 94 dX5_tick_62 (by decide) (fun c330 => ?_) (fun c330 => ?_)
          · skip
            exact K (by simp only [rngT, Bool.and_true, Bool.true_and, Bool.and_false, Bool.false_and, Bool.not_true, Bool.not_false, decide_true, decide_false, Bool.or_true, Bool.true_or, Bool.or_false, Bool.false_or, eq_false c325, c330])
          · skip
            refine g_aload_n hC dX5_tick_65 0 rfl ?_
            refine g_get hC (kf := 13) (TT := TX5) (N := 26) (Cn := RX5) dX5_tick_66 (MI.m hM) (MI.o hM) rfl q_u5 (by decide) q_fl_X5_47 rfl rfl ?_
            refine g_iload_n hC dX5_tick_69 1 rfl ?_
            refine g_aload_n hC dX5_tick_70 0 rfl ?_
            refine g_get hC (kf := 7) (TT := TX5) (N := 26) (Cn := RX5) dX5_tick_71 (MI.m hM) (MI.o hM) rfl q_u5 (by decide) q_fl_X5_28 rfl rfl ?_
            refine g_iload_n hC dX5_tick_74 1 rfl ?_
            refine g_mdl hC hM 4 (by decide) (by decide) hi16 (Y i 4) rfl dX5_tick_75 ?_
            refine g_mds hC hM 5 (by decide) (by decide) hi16 dX5_tick_76 (fun f331 hM332 hR333 => ?_)
            refine g_aload_n hC dX5_tick_77 0 rfl ?_
            refine g_get hC (kf := 19) (TT := TX5) (N := 26) (Cn := RX5) dX5_tick_78 (MI.m hM332) (MI.o hM332) rfl q_u5 (by decide) q_fl_X5_66 rfl rfl ?_
            refine g_iload_n hC dX5_tick_81 1 rfl ?_
            refine g_dup2 hC dX5_tick_82 rfl rfl ?_
            refine g_mil hC hM332 21 (by decide) (by decide) hi16 (W0 i 21) rfl dX5_tick_83 ?_
            refine g_iconst hC 1 dX5_tick_84 (by decide) ?_
            refine g_iadd hC dX5_tick_85 ?_
            refine g_mis hC hM332 21 (by decide) (by decide) hi16 dX5_tick_86 (fun f334 hM335 hR336 => ?_)
            refine g_aload_n hC dX5_tick_87 0 rfl ?_
            refine g_get hC (kf := 13) (TT := TX5) (N := 26) (Cn := RX5) dX5_tick_88 (MI.m hM335) (MI.o hM335) rfl q_u5 (by decide) q_fl_X5_47 rfl rfl ?_
            refine g_iload_n hC dX5_tick_91 1 rfl ?_
            refine g_mdl hC hM335 5 (by decide) (by decide) hi16 (Y i 4) (by simp [up2]) dX5_tick_92 ?_
            exact g_dret hC dX5_tick_93 rfl ⟨rfl, Or.inr ⟨i, hi, rfl, htk, (FRm.trans hR333 hR336), Or.inl ⟨by simp only [rngT, Bool.and_true, Bool.true_and, Bool.and_false, Bool.false_and, Bool.not_true, Bool.not_false, decide_true, decide_false, Bool.or_true, Bool.true_or, Bool.or_false, Bool.false_or, eq_false c325, c330], rfl, hM335⟩⟩⟩ (Nat.zero_le _) (Nat.zero_le _)
      · skip
        refine g_dconst0 hC dX5_tick_35 ?_
        exact g_dret hC dX5_tick_36 rfl ⟨rfl, Or.inl ⟨fun _ _ _ => by simp only [tkC, readS, Bool.and_true, Bool.true_and, Bool.and_false, Bool.false_and, Bool.not_true, Bool.not_false, decide_true, decide_false, Bool.or_true, Bool.true_or, Bool.or_false, Bool.false_or, c9, c14], rfl, rfl⟩⟩ (Nat.zero_le _) (Nat.zero_le _)
