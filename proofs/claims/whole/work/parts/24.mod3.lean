set_option maxHeartbeats 4000000 in
set_option maxRecDepth 100000 in
/-- part of the model -/
theorem ct_X5_part (l : Launch) (G : GD) (L : List Nat) (f : Nat → va_E) {q0 : Nat} {ma : Nat → Nat} {n k : Nat} {Y : Nat → Nat → UInt64} {W0 : Nat → Nat → Int32} (hM : MI G q0 ma n k Y W0 L f) (SL : Nat → Nat) (hS : ∀ j, j < k → SL j < n ∧ W0 j 24 = nI (SL j)) (kx wh : Int32) : Ctr l yX5_part cX5_part 8 (some .double) R00 G [.ref q0, .int kx, .int wh] L f (fun vv L1 f1 => L = L1 ∧ f = f1 ∧ (((∀ j, j < k → kx = nI j → parC wh = false) ∧ vv = some (.double 13830554455654793216)) ∨ ∃ j, j < k ∧ kx = nI j ∧ parC wh = true ∧ ∃ r : UInt64, vv = some (.double r) ∧ dv r = shS (dv (Y j 18)) (dv (Y (SL j) 5)) (dv (Y (SL j) 9)) (dv (Y (SL j) 10)) wh)) := by
  refine g_enter RX5 false (by decide) rfl (fun h => by cases h) (Nat.le_of_ble_eq_true rfl) (fun C hC => ?_)
  refine (show V C 8 L f 0 0 0 [(0, .ref q0), (1, .int kx), (2, .int wh)] [] from ?_)
  refine g_iload_n hC dX5_part_0 1 rfl ?_
  refine g_if_lt hC 21 dX5_part_1 (by decide) (fun c1 => ?_) (fun c1 => ?_)
  · skip
    refine g_ldc2 hC dX5_part_21 q_cd_X5_96 ?_
    exact g_dret hC dX5_part_24 rfl ⟨rfl, rfl, Or.inl ⟨fun j hj q => by rw [q] at c1; exact absurd c1 (nI_pos (by have := MI.k16 hM; omega)), rfl⟩⟩ (Nat.zero_le _) (Nat.zero_le _)
  · skip
    refine g_iload_n hC dX5_part_4 1 rfl ?_
    refine g_aload_n hC dX5_part_5 0 rfl ?_
    refine g_get hC (kf := 23) (TT := TX5) (N := 26) (Cn := RX5) dX5_part_6 (MI.m hM) (MI.o hM) rfl q_u5 (by decide) q_fl_X5_114 rfl rfl ?_
    refine g_icmp_ge hC 21 dX5_part_9 (by decide) (fun c2 => ?_) (fun c2 => ?_)
    · skip
      refine g_ldc2 hC dX5_part_21 q_cd_X5_96 ?_
      exact g_dret hC dX5_part_24 rfl ⟨rfl, rfl, Or.inl ⟨fun j hj q => by rw [q] at c2; exact absurd c2 (nI_ge hj (by have := MI.k16 hM; omega)), rfl⟩⟩ (Nat.zero_le _) (Nat.zero_le _)
    · skip
      refine g_iload_n hC dX5_part_12 2 rfl ?_
      refine g_if_lt hC 21 dX5_part_13 (by decide) (fun c3 => ?_) (fun c3 => ?_)
      · skip
        refine g_ldc2 hC dX5_part_21 q_cd_X5_96 ?_
        exact g_dret hC dX5_part_24 rfl ⟨rfl, rfl, Or.inl ⟨fun _ _ _ => by simp only [parC, Bool.and_true, Bool.true_and, Bool.and_false, Bool.false_and, Bool.not_true, Bool.not_false, decide_true, decide_false, Bool.or_true, Bool.true_or, Bool.or_false, Bool.false_or, eq_true c3], rfl⟩⟩ (Nat.zero_le _) (Nat.zero_le _)
      · skip
        refine g_iload_n hC dX5_part_16 2 rfl ?_
        refine g_iconst hC 1 dX5_part_17 (by decide) ?_
        refine g_icmp_le hC 25 dX5_part_18 (by decide) (fun c4 => ?_) (fun c4 => ?_)
        · skip
          obtain ⟨j, hj0, rfl⟩ := nI_of c1
          have hj : j < k := by have q := c2; rcases Nat.lt_or_ge j k with z | z; exact z; exact absurd (nI_le z hj0) q
          have hj16 : j < 16 := by have := MI.k16 hM; omega
          obtain ⟨hs1, hs2⟩ := hS j hj
          have hi16 : SL j < 16 := by have := MI.n16 hM; omega
          refine g_aload_n hC dX5_part_25 0 rfl ?_
          refine g_get hC (kf := 24) (TT := TX5) (N := 26) (Cn := RX5) dX5_part_26 (MI.m hM) (MI.o hM) rfl q_u5 (by decide) q_fl_X5_78 rfl rfl ?_
          refine g_iload_n hC dX5_part_29 1 rfl ?_
          refine g_mil hC hM 24 (by decide) (by decide) hj16 (nI (SL j)) hs2 dX5_part_30 ?_
          obtain ⟨sl, hsl⟩ : ∃ sl, sl = SL j := ⟨_, rfl⟩
          rw [← hsl] at hi16 ⊢
          refine g_istore_n hC (lv1 := [(3, .int (nI sl)), (0, .ref q0), (1, .int (nI j)), (2, .int wh)]) dX5_part_31 (by decide) rfl ?_
          refine g_aload_n hC dX5_part_32 1 rfl ?_
          refine g_get hC (kf := 25) (TT := TX5) (N := 26) (Cn := RX5) dX5_part_33 (MI.m hM) (MI.o hM) rfl q_u5 (by decide) q_fl_X5_81 rfl rfl ?_
          refine g_iload_n hC dX5_part_36 2 rfl ?_
          refine g_mdl hC hM 18 (by decide) (by decide) hj16 (Y j 18) rfl dX5_part_37 ?_
          refine g_dstore hC (lv1 := [(4, .double (Y j 18)), (3, .int (nI sl)), (0, .ref q0), (1, .int (nI j)), (2, .int wh)]) dX5_part_38 (by decide) rfl ?_
          refine g_dload hC dX5_part_40 0 rfl ?_
          refine g_aload_n hC dX5_part_42 2 rfl ?_
          refine g_get hC (kf := 4) (TT := TX5) (N := 26) (Cn := RX5) dX5_part_43 (MI.m hM) (MI.o hM) rfl q_u5 (by decide) q_fl_X5_19 rfl rfl ?_
          refine g_iload_n hC dX5_part_46 1 rfl ?_
          refine g_mdl hC hM 9 (by decide) (by decide) hi16 (Y sl 9) rfl dX5_part_47 ?_
          refine g_dcmpl_le hC 64 dX5_part_48 dX5_part_49 (by decide) (fun c5 => ?_) (fun c5 => ?_)
          · skip
            refine g_dconst0 hC dX5_part_64 ?_
            exact g_dret hC dX5_part_65 rfl ⟨rfl, rfl, Or.inr ⟨j, hj, rfl, by simp only [parC, Bool.and_true, Bool.true_and, Bool.and_false, Bool.false_and, Bool.not_true, Bool.not_false, decide_true, decide_false, Bool.or_true, Bool.true_or, Bool.or_false, Bool.false_or, eq_false c3, eq_true c4], 0, rfl, by rw [← hsl]; simp [shS, clS, inS, c5]⟩⟩ (Nat.zero_le _) (Nat.zero_le _)
          · skip
            refine g_dload hC dX5_part_52 0 rfl ?_
            refine g_aload_n hC dX5_part_54 2 rfl ?_
            refine g_get hC (kf := 5) (TT := TX5) (N := 26) (Cn := RX5) dX5_part_55 (MI.m hM) (MI.o hM) rfl q_u5 (by decide) q_fl_X5_22 rfl rfl ?_
            refine g_iload_n hC dX5_part_58 1 rfl ?_
            refine g_mdl hC hM 10 (by decide) (by decide) hi16 (Y sl 10) rfl dX5_part_59 ?_
            refine g_dcmpg_lt hC 66 dX5_part_60 dX5_part_61 (by decide) (fun c6 => ?_) (fun c6 => ?_)
            · skip
              refine g_iload_n hC dX5_part_66 4 rfl ?_
              refine g_if_ne hC 100 dX5_part_67 (by decide) (fun c7 => ?_) (fun c7 => ?_)
              · skip
                refine g_aload_n hC dX5_part_100 2 rfl ?_
                refine g_get hC (kf := 13) (TT := TX5) (N := 26) (Cn := RX5) dX5_part_101 (MI.m hM) (MI.o hM) rfl q_u5 (by decide) q_fl_X5_47 rfl rfl ?_
                refine g_iload_n hC dX5_part_104 1 rfl ?_
                refine g_mdl hC hM 5 (by decide) (by decide) hi16 (Y sl 5) rfl dX5_part_105 ?_
                refine g_dload hC dX5_part_106 0 rfl ?_
                refine g_dsub hC dX5_part_108 (fun r8 er8 => ?_)
                refine g_aload_n hC dX5_part_109 2 rfl ?_
                refine g_get hC (kf := 5) (TT := TX5) (N := 26) (Cn := RX5) dX5_part_110 (MI.m hM) (MI.o hM) rfl q_u5 (by decide) q_fl_X5_22 rfl rfl ?_
                refine g_iload_n hC dX5_part_113 1 rfl ?_
                refine g_mdl hC hM 10 (by decide) (by decide) hi16 (Y sl 10) rfl dX5_part_114 ?_
                refine g_dload hC dX5_part_115 0 rfl ?_
                refine g_dsub hC dX5_part_117 (fun r9 er9 => ?_)
                refine g_ddiv hC dX5_part_118 (fun r10 er10 => ?_)
                try simp only [er8, er9] at er10
                refine g_ldc2 hC dX5_part_119 q_cd_X5_94 ?_
                refine g_dmul hC dX5_part_122 (fun r11 er11 => ?_)
                try simp only [er8, er9, er10] at er11
                refine g_dstore hC (lv1 := [(6, .double r11), (4, .double (Y j 18)), (3, .int (nI sl)), (0, .ref q0), (1, .int (nI j)), (2, .int wh)]) dX5_part_123 (by decide) rfl ?_
                refine g_dload hC dX5_part_125 0 rfl ?_
                refine g_dconst0 hC dX5_part_127 ?_
                refine g_dcmpg_ge hC 136 dX5_part_128 dX5_part_129 (by decide) (fun c12 => ?_) (fun c12 => ?_)
                · try simp only [er8, er9, er10, er11] at c12
                  refine g_dload hC dX5_part_136 0 rfl ?_
                  refine g_ldc2 hC dX5_part_138 q_cd_X5_94 ?_
                  refine g_dcmpl_le hC 151 dX5_part_141 dX5_part_142 (by decide) (fun c13 => ?_) (fun c13 => ?_)
                  · try simp only [er8, er9, er10, er11] at c13
                    refine g_dload hC dX5_part_151 0 rfl ?_
                    exact g_dret hC dX5_part_153 rfl ⟨rfl, rfl, Or.inr ⟨j, hj, rfl, by simp only [parC, Bool.and_true, Bool.true_and, Bool.and_false, Bool.false_and, Bool.not_true, Bool.not_false, decide_true, decide_false, Bool.or_true, Bool.true_or, Bool.or_false, Bool.false_or, eq_false c3, eq_true c4], r11, rfl, by rw [← hsl]; simp [shS, clS, inS, c5, c6, c7, c12, c13, er8, er9, er10, er11]⟩⟩ (Nat.zero_le _) (Nat.zero_le _)
                  · try simp only [er8, er9, er10, er11] at c13
                    refine g_ldc2 hC dX5_part_145 q_cd_X5_94 ?_
                    refine g_goto hC 153 dX5_part_148 (by decide) ?_
                    exact g_dret hC dX5_part_153 rfl ⟨rfl, rfl, Or.inr ⟨j, hj, rfl, by simp only [parC, Bool.and_true, Bool.true_and, Bool.and_false, Bool.false_and, Bool.not_true, Bool.not_false, decide_true, decide_false, Bool.or_true, Bool.true_or, Bool.or_false, Bool.false_or, eq_false c3, eq_true c4], 4636737291354636288, rfl, by rw [← hsl]; simp [shS, clS, inS, c5, c6, c7, c12, c13, er8, er9, er10, er11]⟩⟩ (Nat.zero_le _) (Nat.zero_le _)
                · try simp only [er8, er9, er10, er11] at c12
                  refine g_dconst0 hC dX5_part_132 ?_
                  refine g_goto hC 153 dX5_part_133 (by decide) ?_
                  exact g_dret hC dX5_part_153 rfl ⟨rfl, rfl, Or.inr ⟨j, hj, rfl, by simp only [parC, Bool.and_true, Bool.true_and, Bool.and_false, Bool.false_and, Bool.not_true, Bool.not_false, decide_true, decide_false, Bool.or_true, Bool.true_or, Bool.or_false, Bool.false_or, eq_false c3, eq_true c4], 0, rfl, by rw [← hsl]; simp [shS, clS, inS, c5, c6, c7, c12, er8, er9, er10, er11]⟩⟩ (Nat.zero_le _) (Nat.zero_le _)
              · skip
                refine g_aload_n hC dX5_part_70 2 rfl ?_
                refine g_get hC (kf := 13) (TT := TX5) (N := 26) (Cn := RX5) dX5_part_71 (MI.m hM) (MI.o hM) rfl q_u5 (by decide) q_fl_X5_47 rfl rfl ?_
                refine g_iload_n hC dX5_part_74 1 rfl ?_
                refine g_mdl hC hM 5 (by decide) (by decide) hi16 (Y sl 5) rfl dX5_part_75 ?_
                refine g_aload_n hC dX5_part_76 2 rfl ?_
                refine g_get hC (kf := 4) (TT := TX5) (N := 26) (Cn := RX5) dX5_part_77 (MI.m hM) (MI.o hM) rfl q_u5 (by decide) q_fl_X5_19 rfl rfl ?_
                refine g_iload_n hC dX5_part_80 1 rfl ?_
                refine g_mdl hC hM 9 (by decide) (by decide) hi16 (Y sl 9) rfl dX5_part_81 ?_
                refine g_dsub hC dX5_part_82 (fun r14 er14 => ?_)
                refine g_dload hC dX5_part_83 0 rfl ?_
                refine g_aload_n hC dX5_part_85 2 rfl ?_
                refine g_get hC (kf := 4) (TT := TX5) (N := 26) (Cn := RX5) dX5_part_86 (MI.m hM) (MI.o hM) rfl q_u5 (by decide) q_fl_X5_19 rfl rfl ?_
                refine g_iload_n hC dX5_part_89 1 rfl ?_
                refine g_mdl hC hM 9 (by decide) (by decide) hi16 (Y sl 9) rfl dX5_part_90 ?_
                refine g_dsub hC dX5_part_91 (fun r15 er15 => ?_)
                refine g_ddiv hC dX5_part_92 (fun r16 er16 => ?_)
                try simp only [er14, er15] at er16
                refine g_ldc2 hC dX5_part_93 q_cd_X5_94 ?_
                refine g_dmul hC dX5_part_96 (fun r17 er17 => ?_)
                try simp only [er14, er15, er16] at er17
                refine g_goto hC 123 dX5_part_97 (by decide) ?_
                refine g_dstore hC (lv1 := [(6, .double r17), (4, .double (Y j 18)), (3, .int (nI sl)), (0, .ref q0), (1, .int (nI j)), (2, .int wh)]) dX5_part_123 (by decide) rfl ?_
                refine g_dload hC dX5_part_125 0 rfl ?_
                refine g_dconst0 hC dX5_part_127 ?_
                refine g_dcmpg_ge hC 136 dX5_part_128 dX5_part_129 (by decide) (fun c18 => ?_) (fun c18 => ?_)
                · try simp only [er14, er15, er16, er17] at c18
                  refine g_dload hC dX5_part_136 0 rfl ?_
                  refine g_ldc2 hC dX5_part_138 q_cd_X5_94 ?_
                  refine g_dcmpl_le hC 151 dX5_part_141 dX5_part_142 (by decide) (fun c19 => ?_) (fun c19 => ?_)
                  · try simp only [er14, er15, er16, er17] at c19
                    refine g_dload hC dX5_part_151 0 rfl ?_
                    exact g_dret hC dX5_part_153 rfl ⟨rfl, rfl, Or.inr ⟨j, hj, rfl, by simp only [parC, Bool.and_true, Bool.true_and, Bool.and_false, Bool.false_and, Bool.not_true, Bool.not_false, decide_true, decide_false, Bool.or_true, Bool.true_or, Bool.or_false, Bool.false_or, eq_false c3, eq_true c4], r17, rfl, by rw [← hsl]; simp [shS, clS, inS, c5, c6, c7, c18, c19, er14, er15, er16, er17]⟩⟩ (Nat.zero_le _) (Nat.zero_le _)
                  · try simp only [er14, er15, er16, er17] at c19
                    refine g_ldc2 hC dX5_part_145 q_cd_X5_94 ?_
                    refine g_goto hC 153 dX5_part_148 (by decide) ?_
                    exact g_dret hC dX5_part_153 rfl ⟨rfl, rfl, Or.inr ⟨j, hj, rfl, by simp only [parC, Bool.and_true, Bool.true_and, Bool.and_false, Bool.false_and, Bool.not_true, Bool.not_false, decide_true, decide_false, Bool.or_true, Bool.true_or, Bool.or_false, Bool.false_or, eq_false c3, eq_true c4], 4636737291354636288, rfl, by rw [← hsl]; simp [shS, clS, inS, c5, c6, c7, c18, c19, er14, er15, er16, er17]⟩⟩ (Nat.zero_le _) (Nat.zero_le _)
                · try simp only [er14, er15, er16, er17] at c18
                  refine g_dconst0 hC dX5_part_132 ?_
                  refine g_goto hC 153 dX5_part_133 (by decide) ?_
                  exact g_dret hC dX5_part_153 rfl ⟨rfl, rfl, Or.inr ⟨j, hj, rfl, by simp only [parC, Bool.and_true, Bool.true_and, Bool.and_false, Bool.false_and, Bool.not_true, Bool.not_false, decide_true, decide_false, Bool.or_true, Bool.true_or, Bool.or_false, Bool.false_or, eq_false c3, eq_true c4], 0, rfl, by rw [← hsl]; simp [shS, clS, inS, c5, c6, c7, c18, er14, er15, er16, er17]⟩⟩ (Nat.zero_le _) (Nat.zero_le _)
            · skip
              refine g_dconst0 hC dX5_part_64 ?_
              exact g_dret hC dX5_part_65 rfl ⟨rfl, rfl, Or.inr ⟨j, hj, rfl, by simp only [parC, Bool.and_true, Bool.true_and, Bool.and_false, Bool.false_and, Bool.not_true, Bool.not_false, decide_true, decide_false, Bool.or_true, Bool.true_or, Bool.or_false, Bool.false_or, eq_false c3, eq_true c4], 0, rfl, by rw [← hsl]; simp [shS, clS, inS, c5, c6]⟩⟩ (Nat.zero_le _) (Nat.zero_le _)
        · skip
          refine g_ldc2 hC dX5_part_21 q_cd_X5_96 ?_
          exact g_dret hC dX5_part_24 rfl ⟨rfl, rfl, Or.inl ⟨fun _ _ _ => by simp only [parC, Bool.and_true, Bool.true_and, Bool.and_false, Bool.false_and, Bool.not_true, Bool.not_false, decide_true, decide_false, Bool.or_true, Bool.true_or, Bool.or_false, Bool.false_or, eq_false c3, eq_false c4], rfl⟩⟩ (Nat.zero_le _) (Nat.zero_le _)
def tgM (mn mx : DT) (pe k : Int32) : DT := if k < 0 then dv 0 else if 2 < k then dv 0 else if pe = 0 then dv 0 else if qgt (tgA mn mx) (dv 0) = true then (if k = 0 then qmul (dv 4602678819172646912) (tgG mn mx) else if k = 1 then qdiv (tgG mn mx) (dv (FP.i2d pe)) else qmul (qmul (dv 4589168020290535424) (tgG mn mx)) (dv (FP.i2d pe))) else dv 0
set_option maxHeartbeats 4000000 in
set_option maxRecDepth 100000 in
/-- tuned of the model -/
theorem ct_X5_tuned (l : Launch) (G : GD) (L : List Nat) (f : Nat → va_E) {q0 : Nat} {ma : Nat → Nat} {n k : Nat} {Y : Nat → Nat → UInt64} {W0 : Nat → Nat → Int32} (hM : MI G q0 ma n k Y W0 L f) (kx k0 : Int32) : Ctr l yX5_tuned cX5_tuned 9 (some .double) { frames := 1, cells := 0, slots := 0, locals := 30 } G [.ref q0, .int kx, .int k0] L f (fun vv L1 f1 => L = L1 ∧ f = f1 ∧ (((∀ i, i < n → ¬ kx = nI i) ∧ vv = some (.double 0)) ∨ ∃ i, i < n ∧ kx = nI i ∧ ∃ r : UInt64, vv = some (.double r) ∧ dv r = tgM (dv (Y i 16)) (dv (Y i 17)) (W0 i 23) k0)) := by
  refine g_enter RX5 false (by decide) rfl (fun h => by cases h) (Nat.le_of_ble_eq_true rfl) (fun C hC => ?_)
  refine (show V C 9 L f 0 0 0 [(0, .ref q0), (1, .int kx), (2, .int k0)] [] from ?_)
  refine g_aload_n hC dX5_tuned_0 0 rfl ?_
  refine g_iload_n hC dX5_tuned_1 1 rfl ?_
  refine g_callV hC (Cn := RX5) (TT := TX5) (N := 26) dX5_tuned_2 (ct_X5_isLoop l G L f hM kx) q_code_X5_isLoop q_ml_X5_98 q_im_X5_isLoop q_sel_X5_isLoop q_init_X5 ⟨rfl, by decide, by decide, (show (parseMethodDescriptor yX5_isLoop.desc).map (fun d => d.parameters.length) = some 1 from by decide +kernel)⟩ (MI.m hM) (MI.o hM) rfl (by decide) (by decide) (Nat.le_of_ble_eq_true rfl) (fun v2 L3 f4 hp1 => ?_)
  obtain ⟨rfl, rfl, rfl⟩ := hp1
  rcases okL_cases (MI.n16 hM) kx with ⟨hb, hnoi⟩ | ⟨i, hi, rfl, hb⟩
  · refine g_eqI (show bI (okL n kx) = 0 from by rw [hb]; rfl) ?_
    refine g_if_eq hC 26 dX5_tuned_5 (by decide) (fun _ => ?_) (fun c => absurd c (by decide))
    refine g_dconst0 hC dX5_tuned_26 ?_
    exact g_dret hC dX5_tuned_27 rfl ⟨rfl, rfl, Or.inl ⟨hnoi, rfl⟩⟩ (Nat.zero_le _) (Nat.zero_le _)
  · refine g_eqI (show bI (okL n (nI i)) = 1 from by rw [hb]; rfl) ?_
    have hi16 : i < 16 := by have := MI.n16 hM; omega
    refine g_if_eq hC 26 dX5_tuned_5 (by decide) (fun c => absurd c (by decide)) (fun _ => ?_)
    refine g_iload_n hC dX5_tuned_8 2 rfl ?_
    refine g_if_lt hC 26 dX5_tuned_9 (by decide) (fun c5 => ?_) (fun c5 => ?_)
    · skip
      refine g_dconst0 hC dX5_tuned_26 ?_
      exact g_dret hC dX5_tuned_27 rfl ⟨rfl, rfl, Or.inr ⟨i, hi, rfl, 0, rfl, by simp only [tgM, tgA, tgG, Bool.false_eq_true, if_true, if_false, eq_true c5]⟩⟩ (Nat.zero_le _) (Nat.zero_le _)
    · skip
      refine g_iload_n hC dX5_tuned_12 2 rfl ?_
      refine g_iconst hC 2 dX5_tuned_13 (by decide) ?_
      refine g_icmp_gt hC 26 dX5_tuned_14 (by decide) (fun c6 => ?_) (fun c6 => ?_)
      · skip
        refine g_dconst0 hC dX5_tuned_26 ?_
        exact g_dret hC dX5_tuned_27 rfl ⟨rfl, rfl, Or.inr ⟨i, hi, rfl, 0, rfl, by simp only [tgM, tgA, tgG, Bool.false_eq_true, if_true, if_false, eq_false c5, eq_true c6]⟩⟩ (Nat.zero_le _) (Nat.zero_le _)
      · skip
        refine g_aload_n hC dX5_tuned_17 0 rfl ?_
        refine g_get hC (kf := 22) (TT := TX5) (N := 26) (Cn := RX5) dX5_tuned_18 (MI.m hM) (MI.o hM) rfl q_u5 (by decide) q_fl_X5_75 rfl rfl ?_
        refine g_iload_n hC dX5_tuned_21 1 rfl ?_
        refine g_mil hC hM 23 (by decide) (by decide) hi16 (W0 i 23) rfl dX5_tuned_22 ?_
        refine g_if_ne hC 28 dX5_tuned_23 (by decide) (fun c7 => ?_) (fun c7 => ?_)
        · skip
          refine g_aload_n hC dX5_tuned_28 0 rfl ?_
          refine g_get hC (kf := 21) (TT := TX5) (N := 26) (Cn := RX5) dX5_tuned_29 (MI.m hM) (MI.o hM) rfl q_u5 (by decide) q_fl_X5_72 rfl rfl ?_
          refine g_iload_n hC dX5_tuned_32 1 rfl ?_
          refine g_mdl hC hM 17 (by decide) (by decide) hi16 (Y i 17) rfl dX5_tuned_33 ?_
          refine g_aload_n hC dX5_tuned_34 0 rfl ?_
          refine g_get hC (kf := 20) (TT := TX5) (N := 26) (Cn := RX5) dX5_tuned_35 (MI.m hM) (MI.o hM) rfl q_u5 (by decide) q_fl_X5_69 rfl rfl ?_
          refine g_iload_n hC dX5_tuned_38 1 rfl ?_
          refine g_mdl hC hM 16 (by decide) (by decide) hi16 (Y i 16) rfl dX5_tuned_39 ?_
          refine g_dsub hC dX5_tuned_40 (fun r8 er8 => ?_)
          refine g_ldc2 hC dX5_tuned_41 q_cd_X5_117 ?_
          refine g_dmul hC dX5_tuned_44 (fun r9 er9 => ?_)
          try simp only [er8] at er9
          refine g_dstore_n hC (lv1 := [(3, .double r9), (0, .ref q0), (1, .int (nI i)), (2, .int k0)]) dX5_tuned_45 (by decide) rfl ?_
          refine g_dload_n hC dX5_tuned_46 0 rfl ?_
          refine g_dconst0 hC dX5_tuned_47 ?_
          refine g_dcmpl_gt hC 54 dX5_tuned_48 dX5_tuned_49 (by decide) (fun c10 => ?_) (fun c10 => ?_)
          · try simp only [er8, er9] at c10
            refine g_dconst1 hC dX5_tuned_54 ?_
            refine g_dload_n hC dX5_tuned_55 0 rfl ?_
            refine g_ddiv hC dX5_tuned_56 (fun r11 er11 => ?_)
            try simp only [er8, er9] at er11
            refine g_dstore hC (lv1 := [(5, .double r11), (3, .double r9), (0, .ref q0), (1, .int (nI i)), (2, .int k0)]) dX5_tuned_57 (by decide) rfl ?_
            refine g_aload_n hC dX5_tuned_59 2 rfl ?_
            refine g_get hC (kf := 22) (TT := TX5) (N := 26) (Cn := RX5) dX5_tuned_60 (MI.m hM) (MI.o hM) rfl q_u5 (by decide) q_fl_X5_75 rfl rfl ?_
            refine g_iload_n hC dX5_tuned_63 3 rfl ?_
            refine g_mil hC hM 23 (by decide) (by decide) hi16 (W0 i 23) rfl dX5_tuned_64 ?_
            refine g_i2d hC dX5_tuned_65 ?_
            refine g_dstore hC (lv1 := [(7, .double (FP.i2d (W0 i 23))), (5, .double r11), (3, .double r9), (0, .ref q0), (1, .int (nI i)), (2, .int k0)]) dX5_tuned_66 (by decide) rfl ?_
            refine g_iload_n hC dX5_tuned_68 5 rfl ?_
            refine g_if_ne hC 81 dX5_tuned_69 (by decide) (fun c12 => ?_) (fun c12 => ?_)
            · skip
              refine g_iload_n hC dX5_tuned_81 5 rfl ?_
              refine g_iconst hC 1 dX5_tuned_82 (by decide) ?_
              refine g_icmp_ne hC 94 dX5_tuned_83 (by decide) (fun c13 => ?_) (fun c13 => ?_)
              · skip
                refine g_ldc2 hC dX5_tuned_94 q_cd_X5_119 ?_
                refine g_dload hC dX5_tuned_97 1 rfl ?_
                refine g_dmul hC dX5_tuned_99 (fun r14 er14 => ?_)
                try simp only [er8, er9, er11] at er14
                refine g_dload hC dX5_tuned_100 0 rfl ?_
                refine g_dmul hC dX5_tuned_102 (fun r15 er15 => ?_)
                try simp only [er8, er9, er11, er14] at er15
                exact g_dret hC dX5_tuned_103 rfl ⟨rfl, rfl, Or.inr ⟨i, hi, rfl, r15, rfl, by simp only [tgM, tgA, tgG, Bool.false_eq_true, if_true, if_false, eq_false c5, eq_false c6, eq_false c7, c10, eq_false c12, eq_false c13, er8, er9, er11, er14, er15]⟩⟩ (Nat.zero_le _) (Nat.zero_le _)
              · skip
                refine g_dload hC dX5_tuned_86 1 rfl ?_
                refine g_dload hC dX5_tuned_88 0 rfl ?_
                refine g_ddiv hC dX5_tuned_90 (fun r16 er16 => ?_)
                try simp only [er8, er9, er11] at er16
                refine g_goto hC 103 dX5_tuned_91 (by decide) ?_
                exact g_dret hC dX5_tuned_103 rfl ⟨rfl, rfl, Or.inr ⟨i, hi, rfl, r16, rfl, by simp only [tgM, tgA, tgG, Bool.false_eq_true, if_true, if_false, eq_false c5, eq_false c6, eq_false c7, c10, eq_false c12, eq_true c13, er8, er9, er11, er16]⟩⟩ (Nat.zero_le _) (Nat.zero_le _)
            · skip
              refine g_ldc2 hC dX5_tuned_72 q_cd_X5_117 ?_
              refine g_dload hC dX5_tuned_75 1 rfl ?_
              refine g_dmul hC dX5_tuned_77 (fun r17 er17 => ?_)
              try simp only [er8, er9, er11] at er17
              refine g_goto hC 103 dX5_tuned_78 (by decide) ?_
              exact g_dret hC dX5_tuned_103 rfl ⟨rfl, rfl, Or.inr ⟨i, hi, rfl, r17, rfl, by simp only [tgM, tgA, tgG, Bool.false_eq_true, if_true, if_false, eq_false c5, eq_false c6, eq_false c7, c10, eq_true c12, er8, er9, er11, er17]⟩⟩ (Nat.zero_le _) (Nat.zero_le _)
          · try simp only [er8, er9] at c10
            refine g_dconst0 hC dX5_tuned_52 ?_
            exact g_dret hC dX5_tuned_53 rfl ⟨rfl, rfl, Or.inr ⟨i, hi, rfl, 0, rfl, by simp only [tgM, tgA, tgG, Bool.false_eq_true, if_true, if_false, eq_false c5, eq_false c6, eq_false c7, c10, er8, er9]⟩⟩ (Nat.zero_le _) (Nat.zero_le _)
        · skip
          refine g_dconst0 hC dX5_tuned_26 ?_
          exact g_dret hC dX5_tuned_27 rfl ⟨rfl, rfl, Or.inr ⟨i, hi, rfl, 0, rfl, by simp only [tgM, tgA, tgG, Bool.false_eq_true, if_true, if_false, eq_false c5, eq_false c6, eq_true c7]⟩⟩ (Nat.zero_le _) (Nat.zero_le _)
set_option maxHeartbeats 4000000 in
set_option maxRecDepth 100000 in
/-- split of the model -/
theorem ct_X5_split (l : Launch) (G : GD) (L : List Nat) (f : Nat → va_E) {q0 : Nat} {ma : Nat → Nat} {n k : Nat} {Y : Nat → Nat → UInt64} {W0 : Nat → Nat → Int32} (hM : MI G q0 ma n k Y W0 L f) (kx : Int32) (at0 : UInt64) : Ctr l yX5_split cX5_split 4 (some .int) { frames := 1, cells := 0, slots := 0, locals := 30 } G [.ref q0, .int kx, .double at0] L f (fun vv L1 f1 => L = L1 ∧ (((∀ i, i < n → kx = nI i → inS (dv at0) (dv (Y i 9)) (dv (Y i 10)) = false) ∧ vv = some (.int (-1)) ∧ f = f1) ∨ (∃ i, i < n ∧ kx = nI i ∧ inS (dv at0) (dv (Y i 9)) (dv (Y i 10)) = true ∧ ¬ k < 16 ∧ vv = some (.int (-2)) ∧ f = f1) ∨ (∃ i, i < n ∧ kx = nI i ∧ inS (dv at0) (dv (Y i 9)) (dv (Y i 10)) = true ∧ k < 16 ∧ vv = some (.int (nI k)) ∧ FRm L f f1 ∧ MI G q0 ma n (k + 1) (up2 Y k 18 at0) (up2 W0 k 24 (nI i)) L f1))) := by
  refine g_enter RX5 false (by decide) rfl (fun h => by cases h) (Nat.le_of_ble_eq_true rfl) (fun C hC => ?_)
  refine (show V C 4 L f 0 0 0 [(0, .ref q0), (1, .int kx), (2, .double at0)] [] from ?_)
  refine g_aload_n hC dX5_split_0 0 rfl ?_
  refine g_iload_n hC dX5_split_1 1 rfl ?_
  refine g_callV hC (Cn := RX5) (TT := TX5) (N := 26) dX5_split_2 (ct_X5_isLoop l G L f hM kx) q_code_X5_isLoop q_ml_X5_98 q_im_X5_isLoop q_sel_X5_isLoop q_init_X5 ⟨rfl, by decide, by decide, (show (parseMethodDescriptor yX5_isLoop.desc).map (fun d => d.parameters.length) = some 1 from by decide +kernel)⟩ (MI.m hM) (MI.o hM) rfl (by decide) (by decide) (Nat.le_of_ble_eq_true rfl) (fun v2 L3 f4 hp1 => ?_)
  obtain ⟨rfl, rfl, rfl⟩ := hp1
  rcases okL_cases (MI.n16 hM) kx with ⟨hb, hnoi⟩ | ⟨i, hi, rfl, hb⟩
  · refine g_eqI (show bI (okL n kx) = 0 from by rw [hb]; rfl) ?_
    refine g_if_eq hC 30 dX5_split_5 (by decide) (fun _ => ?_) (fun c => absurd c (by decide))
    refine g_iconst hC (-1) dX5_split_30 (by decide) ?_
    exact g_iret hC dX5_split_31 rfl rfl ⟨rfl, Or.inl ⟨fun j hj q => absurd q (hnoi j hj), rfl, rfl⟩⟩ (Nat.zero_le _) (Nat.zero_le _)
  · refine g_eqI (show bI (okL n (nI i)) = 1 from by rw [hb]; rfl) ?_
    have hi16 : i < 16 := by have := MI.n16 hM; omega
    refine g_if_eq hC 30 dX5_split_5 (by decide) (fun c => absurd c (by decide)) (fun _ => ?_)
    refine g_dload_n hC dX5_split_8 2 rfl ?_
    refine g_aload_n hC dX5_split_9 0 rfl ?_
    refine g_get hC (kf := 4) (TT := TX5) (N := 26) (Cn := RX5) dX5_split_10 (MI.m hM) (MI.o hM) rfl q_u5 (by decide) q_fl_X5_19 rfl rfl ?_
    refine g_iload_n hC dX5_split_13 1 rfl ?_
    refine g_mdl hC hM 9 (by decide) (by decide) hi16 (Y i 9) rfl dX5_split_14 ?_
    refine g_dcmpl_le hC 30 dX5_split_15 dX5_split_16 (by decide) (fun c5 => ?_) (fun c5 => ?_)
    · skip
      refine g_iconst hC (-1) dX5_split_30 (by decide) ?_
      exact g_iret hC dX5_split_31 rfl rfl ⟨rfl, Or.inl ⟨fun j hj q => by have q1 := nI_injL hi16 (by have := MI.n16 hM; omega) q; subst q1; simp only [inS, Bool.and_true, Bool.true_and, Bool.and_false, Bool.false_and, Bool.not_true, Bool.not_false, decide_true, decide_false, Bool.or_true, Bool.true_or, Bool.or_false, Bool.false_or, c5], rfl, rfl⟩⟩ (Nat.zero_le _) (Nat.zero_le _)
    · skip
      refine g_dload_n hC dX5_split_19 2 rfl ?_
      refine g_aload_n hC dX5_split_20 0 rfl ?_
      refine g_get hC (kf := 5) (TT := TX5) (N := 26) (Cn := RX5) dX5_split_21 (MI.m hM) (MI.o hM) rfl q_u5 (by decide) q_fl_X5_22 rfl rfl ?_
      refine g_iload_n hC dX5_split_24 1 rfl ?_
      refine g_mdl hC hM 10 (by decide) (by decide) hi16 (Y i 10) rfl dX5_split_25 ?_
      refine g_dcmpg_lt hC 32 dX5_split_26 dX5_split_27 (by decide) (fun c6 => ?_) (fun c6 => ?_)
      · skip
        refine g_aload_n hC dX5_split_32 0 rfl ?_
        refine g_get hC (kf := 23) (TT := TX5) (N := 26) (Cn := RX5) dX5_split_33 (MI.m hM) (MI.o hM) rfl q_u5 (by decide) q_fl_X5_114 rfl rfl ?_
        refine g_bipush hC 16 dX5_split_36 (by decide) ?_
        refine g_icmp_ne hC 44 dX5_split_38 (by decide) (fun c7 => ?_) (fun c7 => ?_)
        · skip
          have hk16 := MI.k16 hM
          have hk : k < 16 := by rcases Nat.lt_or_ge k 16 with z | z; exact z; exact absurd (show nI k = nI 16 by rw [show k = 16 by omega]) c7
          refine g_aload_n hC dX5_split_44 0 rfl ?_
          refine g_get hC (kf := 24) (TT := TX5) (N := 26) (Cn := RX5) dX5_split_45 (MI.m hM) (MI.o hM) rfl q_u5 (by decide) q_fl_X5_78 rfl rfl ?_
          refine g_aload_n hC dX5_split_48 0 rfl ?_
          refine g_get hC (kf := 23) (TT := TX5) (N := 26) (Cn := RX5) dX5_split_49 (MI.m hM) (MI.o hM) rfl q_u5 (by decide) q_fl_X5_114 rfl rfl ?_
          refine g_iload_n hC dX5_split_52 1 rfl ?_
          refine g_mis hC hM 24 (by decide) (by decide) hk dX5_split_53 (fun f8 hM9 hR10 => ?_)
          refine g_aload_n hC dX5_split_54 0 rfl ?_
          refine g_get hC (kf := 25) (TT := TX5) (N := 26) (Cn := RX5) dX5_split_55 (MI.m hM9) (MI.o hM9) rfl q_u5 (by decide) q_fl_X5_81 rfl rfl ?_
          refine g_aload_n hC dX5_split_58 0 rfl ?_
          refine g_get hC (kf := 23) (TT := TX5) (N := 26) (Cn := RX5) dX5_split_59 (MI.m hM9) (MI.o hM9) rfl q_u5 (by decide) q_fl_X5_114 rfl rfl ?_
          refine g_dload_n hC dX5_split_62 2 rfl ?_
          refine g_mds hC hM9 18 (by decide) (by decide) hk dX5_split_63 (fun f11 hM12 hR13 => ?_)
          refine g_aload_n hC dX5_split_64 0 rfl ?_
          refine g_dup hC dX5_split_65 rfl ?_
          refine g_get hC (kf := 23) (TT := TX5) (N := 26) (Cn := RX5) dX5_split_66 (MI.m hM12) (MI.o hM12) rfl q_u5 (by decide) q_fl_X5_114 rfl rfl ?_
          refine g_iconst hC 1 dX5_split_69 (by decide) ?_
          refine g_iadd hC dX5_split_70 ?_
          refine g_eqI (nI_1 k) ?_
          refine g_put hC (kf := 23) (TT := TX5) (N := 26) (Cn := RX5) (ty0 := tyX5) (fs1 := [.int (nI (n)), .ref (ma 0), .ref (ma 1), .ref (ma 2), .ref (ma 9), .ref (ma 10), .ref (ma 3), .ref (ma 4), .ref (ma 11), .ref (ma 12), .ref (ma 25), .ref (ma 13), .ref (ma 14), .ref (ma 5), .ref (ma 6), .ref (ma 7), .ref (ma 8), .ref (ma 20), .ref (ma 22), .ref (ma 21), .ref (ma 16), .ref (ma 17), .ref (ma 23), .int (nI (k + 1)), .ref (ma 24), .ref (ma 18)]) dX5_split_71 (MI.m hM12) (MI.o hM12) rfl q_u5 (by decide) tyX5_ok nmX5 q_fl_X5_114 rfl rfl rfl rfl rfl (Nat.le_of_ble_eq_true rfl) rfl ?_
          refine g_nm (fun f14 hf17 => ?_)
          have hR16 : FRm L f11 f14 := by rw [hf17]; exact FRm.up _ FRm.rf (MI.o hM12) rfl
          have hM15 : MI G q0 ma (n) (k + 1) (up2 Y k 18 at0) (up2 W0 k 24 (nI i)) L f14 := by rw [hf17]; exact MI.cnt hM12 (MI.n16 hM12) (by omega)
          refine g_aload_n hC dX5_split_74 0 rfl ?_
          refine g_get hC (kf := 23) (TT := TX5) (N := 26) (Cn := RX5) dX5_split_75 (MI.m hM15) (MI.o hM15) rfl q_u5 (by decide) q_fl_X5_114 rfl rfl ?_
          refine g_iconst hC 1 dX5_split_78 (by decide) ?_
          refine g_isub hC dX5_split_79 ?_
          refine g_eqI (nI_pred k) ?_
          exact g_iret hC dX5_split_80 rfl rfl ⟨rfl, Or.inr (Or.inr ⟨i, hi, rfl, by simp only [inS, Bool.and_true, Bool.true_and, Bool.and_false, Bool.false_and, Bool.not_true, Bool.not_false, decide_true, decide_false, Bool.or_true, Bool.true_or, Bool.or_false, Bool.false_or, c5, c6], hk, rfl, (FRm.trans (FRm.trans hR10 hR13) hR16), hM15⟩)⟩ (Nat.zero_le _) (Nat.zero_le _)
        · skip
          refine g_bipush hC (-2) dX5_split_41 (by decide) ?_
          exact g_iret hC dX5_split_43 rfl rfl ⟨rfl, Or.inr (Or.inl ⟨i, hi, rfl, by simp only [inS, Bool.and_true, Bool.true_and, Bool.and_false, Bool.false_and, Bool.not_true, Bool.not_false, decide_true, decide_false, Bool.or_true, Bool.true_or, Bool.or_false, Bool.false_or, c5, c6], fun hk => absurd ((nI_eq (b := 16) (by omega) (by decide)).mp c7) (by omega), rfl, rfl⟩)⟩ (Nat.zero_le _) (Nat.zero_le _)
      · skip
        refine g_iconst hC (-1) dX5_split_30 (by decide) ?_
        exact g_iret hC dX5_split_31 rfl rfl ⟨rfl, Or.inl ⟨fun j hj q => by have q1 := nI_injL hi16 (by have := MI.n16 hM; omega) q; subst q1; simp only [inS, Bool.and_true, Bool.true_and, Bool.and_false, Bool.false_and, Bool.not_true, Bool.not_false, decide_true, decide_false, Bool.or_true, Bool.true_or, Bool.or_false, Bool.false_or, c5, c6], rfl, rfl⟩⟩ (Nat.zero_le _) (Nat.zero_le _)
set_option maxHeartbeats 4000000 in
set_option maxRecDepth 100000 in
/-- loop of the model -/
theorem ct_X5_loop (l : Launch) (G : GD) (L : List Nat) (f : Nat → va_E) {q0 : Nat} {ma : Nat → Nat} {n k : Nat} {Y : Nat → Nat → UInt64} {W0 : Nat → Nat → Int32} (hM : MI G q0 ma n k Y W0 L f) (p i d : UInt64) : Ctr l yX5_loop cX5_loop 7 (some .int) { frames := 1, cells := 0, slots := 0, locals := 30 } G [.ref q0, .double p, .double i, .double d] L f (fun vv L1 f1 => L = L1 ∧ ((gnC (dv p) (dv i) (dv d) = false ∧ vv = some (.int (-1)) ∧ f = f1) ∨ (gnC (dv p) (dv i) (dv d) = true ∧ ¬ n < 16 ∧ vv = some (.int (-2)) ∧ f = f1) ∨ (gnC (dv p) (dv i) (dv d) = true ∧ n < 16 ∧ vv = some (.int (nI n)) ∧ FRm L f f1 ∧ MI G q0 ma (n + 1) k (up2 (up2 (up2 (up2 (up2 (up2 (up2 Y n 0 p) n 1 i) n 2 d) n 10 4636737291354636288) n 3 4636737291354636288) n 11 13830554455654793216) n 12 4607182418800017408) (up2 W0 n 22 (-1)) L f1))) := by
  refine g_enter RX5 false (by decide) rfl (fun h => by cases h) (Nat.le_of_ble_eq_true rfl) (fun C hC => ?_)
  refine (show V C 7 L f 0 0 0 [(0, .ref q0), (1, .double p), (3, .double i), (5, .double d)] [] from ?_)
  refine g_dload_n hC dX5_loop_0 1 rfl ?_
  refine g_dconst0 hC dX5_loop_1 ?_
  refine g_ldc2 hC dX5_loop_2 q_cd_X5_88 ?_
  refine g_callS hC dX5_loop_5 (ct_X5_isIn l G L f p 0 4652007308841189376) q_code_X5_isIn q_ml_X5_90 q_st_X5_isIn q_init_X5 ⟨by decide, by decide, (show (parseMethodDescriptor yX5_isIn.desc).map (fun d => d.parameters.length) = some 3 from by decide +kernel)⟩ (by decide) (by decide) (Nat.le_of_ble_eq_true rfl) (fun v2 L3 f4 hp1 => ?_)
  obtain ⟨rfl, rfl, rfl⟩ := hp1
  refine (show V C 7 L f 0 0 8 [(0, .ref q0), (1, .double p), (3, .double i), (5, .double d)] [.int (bI (inB (dv p) (dv 0) (dv 4652007308841189376)))] from ?_)
  refine g_ifB_eq hC 34 dX5_loop_8 (by decide) (fun c5 => ?_) (fun c5 => ?_)
  · skip
    refine g_iconst hC (-1) dX5_loop_34 (by decide) ?_
    exact g_iret hC dX5_loop_35 rfl rfl ⟨rfl, Or.inl ⟨by simp only [gnC, gainS, Bool.and_true, Bool.true_and, Bool.and_false, Bool.false_and, Bool.not_true, Bool.not_false, decide_true, decide_false, Bool.or_true, Bool.true_or, Bool.or_false, Bool.false_or, c5], rfl, rfl⟩⟩ (Nat.zero_le _) (Nat.zero_le _)
  · skip
    refine g_dload_n hC dX5_loop_11 2 rfl ?_
    refine g_dconst0 hC dX5_loop_12 ?_
    refine g_ldc2 hC dX5_loop_13 q_cd_X5_88 ?_
    refine g_callS hC dX5_loop_16 (ct_X5_isIn l G L f i 0 4652007308841189376) q_code_X5_isIn q_ml_X5_90 q_st_X5_isIn q_init_X5 ⟨by decide, by decide, (show (parseMethodDescriptor yX5_isIn.desc).map (fun d => d.parameters.length) = some 3 from by decide +kernel)⟩ (by decide) (by decide) (Nat.le_of_ble_eq_true rfl) (fun v7 L8 f9 hp6 => ?_)
    obtain ⟨rfl, rfl, rfl⟩ := hp6
    refine (show V C 7 L f 0 0 19 [(0, .ref q0), (1, .double p), (3, .double i), (5, .double d)] [.int (bI (inB (dv i) (dv 0) (dv 4652007308841189376)))] from ?_)
    refine g_ifB_eq hC 34 dX5_loop_19 (by decide) (fun c10 => ?_) (fun c10 => ?_)
    · skip
      refine g_iconst hC (-1) dX5_loop_34 (by decide) ?_
      exact g_iret hC dX5_loop_35 rfl rfl ⟨rfl, Or.inl ⟨by simp only [gnC, gainS, Bool.and_true, Bool.true_and, Bool.and_false, Bool.false_and, Bool.not_true, Bool.not_false, decide_true, decide_false, Bool.or_true, Bool.true_or, Bool.or_false, Bool.false_or, c5, c10], rfl, rfl⟩⟩ (Nat.zero_le _) (Nat.zero_le _)
    · skip
      refine g_dload hC dX5_loop_22 3 rfl ?_
      refine g_dconst0 hC dX5_loop_24 ?_
      refine g_ldc2 hC dX5_loop_25 q_cd_X5_88 ?_
      refine g_callS hC dX5_loop_28 (ct_X5_isIn l G L f d 0 4652007308841189376) q_code_X5_isIn q_ml_X5_90 q_st_X5_isIn q_init_X5 ⟨by decide, by decide, (show (parseMethodDescriptor yX5_isIn.desc).map (fun d => d.parameters.length) = some 3 from by decide +kernel)⟩ (by decide) (by decide) (Nat.le_of_ble_eq_true rfl) (fun v12 L13 f14 hp11 => ?_)
      obtain ⟨rfl, rfl, rfl⟩ := hp11
      refine (show V C 7 L f 0 0 31 [(0, .ref q0), (1, .double p), (3, .double i), (5, .double d)] [.int (bI (inB (dv d) (dv 0) (dv 4652007308841189376)))] from ?_)
      refine g_ifB_ne hC 36 dX5_loop_31 (by decide) (fun c15 => ?_) (fun c15 => ?_)
      · skip
        refine g_aload_n hC dX5_loop_36 0 rfl ?_
        refine g_get hC (kf := 0) (TT := TX5) (N := 26) (Cn := RX5) dX5_loop_37 (MI.m hM) (MI.o hM) rfl q_u5 (by decide) q_fl_X5_84 rfl rfl ?_
        refine g_bipush hC 16 dX5_loop_40 (by decide) ?_
        refine g_icmp_ne hC 48 dX5_loop_42 (by decide) (fun c16 => ?_) (fun c16 => ?_)
        · skip
          have hn16 := MI.n16 hM
          have hn : n < 16 := by rcases Nat.lt_or_ge n 16 with z | z; exact z; exact absurd (show nI n = nI 16 by rw [show n = 16 by omega]) c16
          refine g_aload_n hC dX5_loop_48 0 rfl ?_
          refine g_get hC (kf := 1) (TT := TX5) (N := 26) (Cn := RX5) dX5_loop_49 (MI.m hM) (MI.o hM) rfl q_u5 (by decide) q_fl_X5_9 rfl rfl ?_
          refine g_aload_n hC dX5_loop_52 0 rfl ?_
          refine g_get hC (kf := 0) (TT := TX5) (N := 26) (Cn := RX5) dX5_loop_53 (MI.m hM) (MI.o hM) rfl q_u5 (by decide) q_fl_X5_84 rfl rfl ?_
          refine g_dload_n hC dX5_loop_56 1 rfl ?_
          refine g_mds hC hM 0 (by decide) (by decide) hn dX5_loop_57 (fun f17 hM18 hR19 => ?_)
          refine g_aload_n hC dX5_loop_58 0 rfl ?_
          refine g_get hC (kf := 2) (TT := TX5) (N := 26) (Cn := RX5) dX5_loop_59 (MI.m hM18) (MI.o hM18) rfl q_u5 (by decide) q_fl_X5_13 rfl rfl ?_
          refine g_aload_n hC dX5_loop_62 0 rfl ?_
          refine g_get hC (kf := 0) (TT := TX5) (N := 26) (Cn := RX5) dX5_loop_63 (MI.m hM18) (MI.o hM18) rfl q_u5 (by decide) q_fl_X5_84 rfl rfl ?_
          refine g_dload_n hC dX5_loop_66 2 rfl ?_
          refine g_mds hC hM18 1 (by decide) (by decide) hn dX5_loop_67 (fun f20 hM21 hR22 => ?_)
          refine g_aload_n hC dX5_loop_68 0 rfl ?_
          refine g_get hC (kf := 3) (TT := TX5) (N := 26) (Cn := RX5) dX5_loop_69 (MI.m hM21) (MI.o hM21) rfl q_u5 (by decide) q_fl_X5_16 rfl rfl ?_
          refine g_aload_n hC dX5_loop_72 0 rfl ?_
          refine g_get hC (kf := 0) (TT := TX5) (N := 26) (Cn := RX5) dX5_loop_73 (MI.m hM21) (MI.o hM21) rfl q_u5 (by decide) q_fl_X5_84 rfl rfl ?_
          refine g_dload hC dX5_loop_76 3 rfl ?_
          refine g_mds hC hM21 2 (by decide) (by decide) hn dX5_loop_78 (fun f23 hM24 hR25 => ?_)
          refine g_aload_n hC dX5_loop_79 0 rfl ?_
          refine g_get hC (kf := 5) (TT := TX5) (N := 26) (Cn := RX5) dX5_loop_80 (MI.m hM24) (MI.o hM24) rfl q_u5 (by decide) q_fl_X5_22 rfl rfl ?_
          refine g_aload_n hC dX5_loop_83 0 rfl ?_
          refine g_get hC (kf := 0) (TT := TX5) (N := 26) (Cn := RX5) dX5_loop_84 (MI.m hM24) (MI.o hM24) rfl q_u5 (by decide) q_fl_X5_84 rfl rfl ?_
          refine g_ldc2 hC dX5_loop_87 q_cd_X5_94 ?_
          refine g_mds hC hM24 10 (by decide) (by decide) hn dX5_loop_90 (fun f26 hM27 hR28 => ?_)
          refine g_aload_n hC dX5_loop_91 0 rfl ?_
          refine g_get hC (kf := 6) (TT := TX5) (N := 26) (Cn := RX5) dX5_loop_92 (MI.m hM27) (MI.o hM27) rfl q_u5 (by decide) q_fl_X5_25 rfl rfl ?_
          refine g_aload_n hC dX5_loop_95 0 rfl ?_
          refine g_get hC (kf := 0) (TT := TX5) (N := 26) (Cn := RX5) dX5_loop_96 (MI.m hM27) (MI.o hM27) rfl q_u5 (by decide) q_fl_X5_84 rfl rfl ?_
          refine g_ldc2 hC dX5_loop_99 q_cd_X5_94 ?_
          refine g_mds hC hM27 3 (by decide) (by decide) hn dX5_loop_102 (fun f29 hM30 hR31 => ?_)
          refine g_aload_n hC dX5_loop_103 0 rfl ?_
          refine g_get hC (kf := 8) (TT := TX5) (N := 26) (Cn := RX5) dX5_loop_104 (MI.m hM30) (MI.o hM30) rfl q_u5 (by decide) q_fl_X5_31 rfl rfl ?_
          refine g_aload_n hC dX5_loop_107 0 rfl ?_
          refine g_get hC (kf := 0) (TT := TX5) (N := 26) (Cn := RX5) dX5_loop_108 (MI.m hM30) (MI.o hM30) rfl q_u5 (by decide) q_fl_X5_84 rfl rfl ?_
          refine g_ldc2 hC dX5_loop_111 q_cd_X5_96 ?_
          refine g_mds hC hM30 11 (by decide) (by decide) hn dX5_loop_114 (fun f32 hM33 hR34 => ?_)
          refine g_aload_n hC dX5_loop_115 0 rfl ?_
          refine g_get hC (kf := 9) (TT := TX5) (N := 26) (Cn := RX5) dX5_loop_116 (MI.m hM33) (MI.o hM33) rfl q_u5 (by decide) q_fl_X5_34 rfl rfl ?_
          refine g_aload_n hC dX5_loop_119 0 rfl ?_
          refine g_get hC (kf := 0) (TT := TX5) (N := 26) (Cn := RX5) dX5_loop_120 (MI.m hM33) (MI.o hM33) rfl q_u5 (by decide) q_fl_X5_84 rfl rfl ?_
          refine g_dconst1 hC dX5_loop_123 ?_
          refine g_mds hC hM33 12 (by decide) (by decide) hn dX5_loop_124 (fun f35 hM36 hR37 => ?_)
          refine g_aload_n hC dX5_loop_125 0 rfl ?_
          refine g_get hC (kf := 18) (TT := TX5) (N := 26) (Cn := RX5) dX5_loop_126 (MI.m hM36) (MI.o hM36) rfl q_u5 (by decide) q_fl_X5_63 rfl rfl ?_
          refine g_aload_n hC dX5_loop_129 0 rfl ?_
          refine g_get hC (kf := 0) (TT := TX5) (N := 26) (Cn := RX5) dX5_loop_130 (MI.m hM36) (MI.o hM36) rfl q_u5 (by decide) q_fl_X5_84 rfl rfl ?_
          refine g_iconst hC (-1) dX5_loop_133 (by decide) ?_
          refine g_mis hC hM36 22 (by decide) (by decide) hn dX5_loop_134 (fun f38 hM39 hR40 => ?_)
          refine g_aload_n hC dX5_loop_135 0 rfl ?_
          refine g_dup hC dX5_loop_136 rfl ?_
          refine g_get hC (kf := 0) (TT := TX5) (N := 26) (Cn := RX5) dX5_loop_137 (MI.m hM39) (MI.o hM39) rfl q_u5 (by decide) q_fl_X5_84 rfl rfl ?_
          refine g_iconst hC 1 dX5_loop_140 (by decide) ?_
          refine g_iadd hC dX5_loop_141 ?_
          refine g_eqI (nI_1 n) ?_
          refine g_put hC (kf := 0) (TT := TX5) (N := 26) (Cn := RX5) (ty0 := tyX5) (fs1 := [.int (nI (n + 1)), .ref (ma 0), .ref (ma 1), .ref (ma 2), .ref (ma 9), .ref (ma 10), .ref (ma 3), .ref (ma 4), .ref (ma 11), .ref (ma 12), .ref (ma 25), .ref (ma 13), .ref (ma 14), .ref (ma 5), .ref (ma 6), .ref (ma 7), .ref (ma 8), .ref (ma 20), .ref (ma 22), .ref (ma 21), .ref (ma 16), .ref (ma 17), .ref (ma 23), .int (nI (k)), .ref (ma 24), .ref (ma 18)]) dX5_loop_142 (MI.m hM39) (MI.o hM39) rfl q_u5 (by decide) tyX5_ok nmX5 q_fl_X5_84 rfl rfl rfl rfl rfl (Nat.le_of_ble_eq_true rfl) rfl ?_
          refine g_nm (fun f41 hf44 => ?_)
          have hR43 : FRm L f38 f41 := by rw [hf44]; exact FRm.up _ FRm.rf (MI.o hM39) rfl
          have hM42 : MI G q0 ma (n + 1) (k) (up2 (up2 (up2 (up2 (up2 (up2 (up2 Y n 0 p) n 1 i) n 2 d) n 10 4636737291354636288) n 3 4636737291354636288) n 11 13830554455654793216) n 12 4607182418800017408) (up2 W0 n 22 (-1)) L f41 := by rw [hf44]; exact MI.cnt hM39 (by omega) (MI.k16 hM39)
          refine g_aload_n hC dX5_loop_145 0 rfl ?_
          refine g_get hC (kf := 0) (TT := TX5) (N := 26) (Cn := RX5) dX5_loop_146 (MI.m hM42) (MI.o hM42) rfl q_u5 (by decide) q_fl_X5_84 rfl rfl ?_
          refine g_iconst hC 1 dX5_loop_149 (by decide) ?_
          refine g_isub hC dX5_loop_150 ?_
          refine g_eqI (nI_pred n) ?_
          exact g_iret hC dX5_loop_151 rfl rfl ⟨rfl, Or.inr (Or.inr ⟨by simp only [gnC, gainS, Bool.and_true, Bool.true_and, Bool.and_false, Bool.false_and, Bool.not_true, Bool.not_false, decide_true, decide_false, Bool.or_true, Bool.true_or, Bool.or_false, Bool.false_or, c5, c10, c15], hn, rfl, (FRm.trans (FRm.trans (FRm.trans (FRm.trans (FRm.trans (FRm.trans (FRm.trans (FRm.trans hR19 hR22) hR25) hR28) hR31) hR34) hR37) hR40) hR43), hM42⟩)⟩ (Nat.zero_le _) (Nat.zero_le _)
        · skip
          refine g_bipush hC (-2) dX5_loop_45 (by decide) ?_
          exact g_iret hC dX5_loop_47 rfl rfl ⟨rfl, Or.inr (Or.inl ⟨by simp only [gnC, gainS, Bool.and_true, Bool.true_and, Bool.and_false, Bool.false_and, Bool.not_true, Bool.not_false, decide_true, decide_false, Bool.or_true, Bool.true_or, Bool.or_false, Bool.false_or, c5, c10, c15], fun hn => absurd ((nI_eq (b := 16) (by omega) (by decide)).mp c16) (by omega), rfl, rfl⟩)⟩ (Nat.zero_le _) (Nat.zero_le _)
      · skip
        refine g_iconst hC (-1) dX5_loop_34 (by decide) ?_
        exact g_iret hC dX5_loop_35 rfl rfl ⟨rfl, Or.inl ⟨by simp only [gnC, gainS, Bool.and_true, Bool.true_and, Bool.and_false, Bool.false_and, Bool.not_true, Bool.not_false, decide_true, decide_false, Bool.or_true, Bool.true_or, Bool.or_false, Bool.false_or, c5, c10, c15], rfl, rfl⟩⟩ (Nat.zero_le _) (Nat.zero_le _)
