/-! tune of the model -/
theorem up2_2 {α : Type} (Y : Nat → Nat → α) (i j : Nat) (x y : α) : up2 (up2 Y i j x) i j y = up2 Y i j y := by
  funext a b
  unfold up2
  split
  · split <;> rfl
  · rfl
theorem up2_sw {α : Type} (Y : Nat → Nat → α) (i j j1 : Nat) (x y : α) (h : j ≠ j1) : up2 (up2 Y i j x) i j1 y = up2 (up2 Y i j1 y) i j x := by
  funext a b
  unfold up2
  by_cases h1 : b = j
  · have h2 : ¬ b = j1 := by rw [h1]; exact h
    simp only [if_pos h1, if_neg h2]
  · by_cases h2 : b = j1
    · simp only [if_neg h1, if_pos h2]
    · simp only [if_neg h1, if_neg h2]
theorem up2_4 {α : Type} (Y : Nat → Nat → α) (i : Nat) (a b a1 b1 : α) : up2 (up2 (up2 (up2 Y i 16 a) i 17 b) i 16 a1) i 17 b1 = up2 (up2 Y i 16 a1) i 17 b1 := by
  rw [up2_sw (up2 Y i 16 a) i 17 16 b a1 (by decide), up2_2, up2_2]
theorem nI_z {u : Nat} (hu : u < 2 ^ 31) (h : nI u ≤ 0) : u = 0 := by
  rcases Nat.eq_zero_or_pos u with z | z
  · exact z
  · exact absurd (show nI u ≤ nI 0 from h) (nI_ge z hu)
theorem tRel_01 (le : DT) : tRel le = 0 ∨ tRel le = 1 := by
  unfold tRel
  split
  · exact Or.inr rfl
  · exact Or.inl rfl
theorem tRl_eq (a r : Int32) (h : r = 0 ∨ r = 1) : (a &&& 15) ||| r = (a ||| r) &&& 15 := by
  rcases h with rfl | rfl
  · apply Int32.toBitVec_inj.mp; simp
  · apply Int32.toBitVec_inj.mp
    apply BitVec.eq_of_getLsbD_eq
    intro i hi
    simp only [Int32.toBitVec_or, Int32.toBitVec_and, BitVec.getLsbD_or, BitVec.getLsbD_and]
    have h1 : ((15 : Int32).toBitVec.getLsbD i) = decide (i < 4) := by
      revert i; decide
    have h2 : ((1 : Int32).toBitVec.getLsbD i) = decide (i < 1) := by
      revert i; decide
    rw [h1, h2]
    by_cases q : i < 1
    · simp [q, show i < 4 by omega]
    · simp [q]
theorem tup7 {a a1 e e1 g g1 : DT} {b b1 c c1 d d1 h h1 : Int32} (p1 : a = a1) (p2 : b = b1) (p3 : c = c1) (p4 : d = d1) (p5 : e = e1) (p6 : g = g1) (p7 : h = h1) : ((a, b, c, d, e, g, h) : TS) = (a1, b1, c1, d1, e1, g1, h1) := by rw [p1, p2, p3, p4, p5, p6, p7]
theorem tMn_a {t : Int32} {z : TS} (h : tSw t z ≤ 0) : tMn t z = z.2.2.2.2.1 := by unfold tMn; rw [if_pos h]
theorem tMn_b {t : Int32} {z : TS} (h : ¬ tSw t z ≤ 0) (hf : (tFi t z || qlt (tLe z) z.2.2.2.2.1) = true) : tMn t z = tLe z := by unfold tMn; rw [if_neg h, if_pos hf]
theorem tMn_c {t : Int32} {z : TS} (h : ¬ tSw t z ≤ 0) (hf : (tFi t z || qlt (tLe z) z.2.2.2.2.1) = false) : tMn t z = z.2.2.2.2.1 := by unfold tMn; rw [if_neg h, hf]; rfl
theorem tMx_a {t : Int32} {z : TS} (h : tSw t z ≤ 0) : tMx t z = z.2.2.2.2.2.1 := by unfold tMx; rw [if_pos h]
theorem tMx_b {t : Int32} {z : TS} (h : ¬ tSw t z ≤ 0) (hf : (tFi t z || qgt (tLe z) z.2.2.2.2.2.1) = true) : tMx t z = tLe z := by unfold tMx; rw [if_neg h, if_pos hf]
theorem tMx_c {t : Int32} {z : TS} (h : ¬ tSw t z ≤ 0) (hf : (tFi t z || qgt (tLe z) z.2.2.2.2.2.1) = false) : tMx t z = z.2.2.2.2.2.1 := by unfold tMx; rw [if_neg h, hf]; rfl
theorem tSw_t {t : Int32} {z : TS} {s : Nat} (hz : z.2.2.1 = nI s) (h : tIs t z = true) : nI (s + 1) = tSw t z := by unfold tSw; rw [if_pos h, hz]; exact nI_succ s
theorem tSw_f {t : Int32} {z : TS} {s : Nat} (hz : z.2.2.1 = nI s) (h : tIs t z = false) : nI s = tSw t z := by unfold tSw; rw [h, hz]; rfl
set_option maxHeartbeats 4000000 in
set_option maxRecDepth 100000 in
/-- tune of the model -/
theorem ct_X5_tune (l : Launch) (G : GD) (L : List Nat) (f : Nat → va_E) {q0 : Nat} {ma : Nat → Nat} {n k : Nat} {Y : Nat → Nat → UInt64} {W0 : Nat → Nat → Int32} (hM : MI G q0 ma n k Y W0 L f) (kx sc0 : Int32) : Ctr l yX5_tune cX5_tune 14 (some .int) { frames := 1, cells := 0, slots := 0, locals := 30 } G [.ref q0, .int kx, .int sc0] L f (fun vv L1 f1 => L = L1 ∧ (((∀ i, i < n → kx = nI i → tunC sc0 = false) ∧ vv = some (.int (-1)) ∧ f = f1) ∨ (∃ i, i < n ∧ kx = nI i ∧ ∃ sc : Nat, sc ≤ 10000 ∧ sc0 = nI sc ∧ tunC sc0 = true ∧ ∃ (le : UInt64) (rl : Int32) (s : Nat) (lr : Int32) (mn mx : UInt64) (pe : Int32), vv = some (.int (nI s)) ∧ (dv le, rl, nI s, lr, dv mn, dv mx, pe) = tRun (dv 0, 0, 0, 0, dv 0, dv 0, 0) sc ∧ s ≤ sc ∧ FRm L f f1 ∧ MI G q0 ma n k (up2 (up2 Y i 16 mn) i 17 mx) (up2 W0 i 23 pe) L f1))) := by
  refine g_enter RX5 false (by decide) rfl (fun h => by cases h) (Nat.le_of_ble_eq_true rfl) (fun C hC => ?_)
  refine (show V C 14 L f 0 0 0 [(0, .ref q0), (1, .int kx), (2, .int sc0)] [] from ?_)
  refine g_aload_n hC dX5_tune_0 0 rfl ?_
  refine g_iload_n hC dX5_tune_1 1 rfl ?_
  refine g_callV hC (Cn := RX5) (TT := TX5) (N := 26) dX5_tune_2 (ct_X5_isLoop l G L f hM kx) q_code_X5_isLoop q_ml_X5_98 q_im_X5_isLoop q_sel_X5_isLoop q_init_X5 ⟨rfl, by decide, by decide, (show (parseMethodDescriptor yX5_isLoop.desc).map (fun d => d.parameters.length) = some 1 from by decide +kernel)⟩ (MI.m hM) (MI.o hM) rfl (by decide) (by decide) (Nat.le_of_ble_eq_true rfl) (fun v2 L3 f4 hp1 => ?_)
  obtain ⟨rfl, rfl, rfl⟩ := hp1
  rcases okL_cases (MI.n16 hM) kx with ⟨hb, hnoi⟩ | ⟨i, hi, rfl, hb⟩
  · refine g_eqI (show bI (okL n kx) = 0 from by rw [hb]; rfl) ?_
    refine g_if_eq hC 20 dX5_tune_5 (by decide) (fun _ => ?_) (fun c => absurd c (by decide))
    refine g_iconst hC (-1) dX5_tune_20 (by decide) ?_
    exact g_iret hC dX5_tune_21 rfl rfl ⟨rfl, Or.inl ⟨fun j hj q => absurd q (hnoi j hj), rfl, rfl⟩⟩ (Nat.zero_le _) (Nat.zero_le _)
  · refine g_eqI (show bI (okL n (nI i)) = 1 from by rw [hb]; rfl) ?_
    have hi16 : i < 16 := by have := MI.n16 hM; omega
    refine g_if_eq hC 20 dX5_tune_5 (by decide) (fun c => absurd c (by decide)) (fun _ => ?_)
    refine g_iload_n hC dX5_tune_8 2 rfl ?_
    refine g_iconst hC 1 dX5_tune_9 (by decide) ?_
    refine g_icmp_lt hC 20 dX5_tune_10 (by decide) (fun c5 => ?_) (fun c5 => ?_)
    · skip
      refine g_iconst hC (-1) dX5_tune_20 (by decide) ?_
      exact g_iret hC dX5_tune_21 rfl rfl ⟨rfl, Or.inl ⟨fun _ _ _ => by simp only [tunC, Bool.and_true, Bool.true_and, Bool.and_false, Bool.false_and, Bool.not_true, Bool.not_false, decide_true, decide_false, Bool.or_true, Bool.true_or, Bool.or_false, Bool.false_or, eq_true c5], rfl, rfl⟩⟩ (Nat.zero_le _) (Nat.zero_le _)
    · skip
      refine g_iload_n hC dX5_tune_13 2 rfl ?_
      refine g_sipush hC 10000 dX5_tune_14 (by decide) ?_
      refine g_icmp_le hC 22 dX5_tune_17 (by decide) (fun c6 => ?_) (fun c6 => ?_)
      · skip
        obtain ⟨sc, hsc, rfl⟩ := tun_of c5 c6
        have htc : tunC (nI sc) = true := by simp only [tunC, Bool.and_true, Bool.true_and, Bool.and_false, Bool.false_and, Bool.not_true, Bool.not_false, decide_true, decide_false, Bool.or_true, Bool.true_or, Bool.or_false, Bool.false_or, eq_false c5, eq_true c6]
        have hsc1 : 1 ≤ sc := by rcases Nat.eq_zero_or_pos sc with z | z; exact absurd (show nI sc < 1 by rw [z]; decide) c5; exact z
        have K : ∀ (m j : Nat), j + m = sc → ∀ (F : Nat → va_E) (le : UInt64) (rl : Int32) (s u : Nat) (lr an : Int32) (mn mx : UInt64) (pe : Int32), (dv le, rl, nI s, lr, dv mn, dv mx, pe) = tRun (dv 0, 0, 0, 0, dv 0, dv 0, 0) j → (an = if s = 0 then 0 else 1) → s ≤ j → u ≤ j → (lr ≠ 0 ↔ 0 < u) → MI G q0 ma n k (up2 (up2 Y i 16 mn) i 17 mx) (up2 W0 i 23 pe) L F → FRm L f F → V C 14 L F 0 0 63 [(10, .int (nI j)), (9, .int an), (8, .int lr), (7, .int (nI u)), (6, .int (nI s)), (5, .int rl), (3, .double le), (0, .ref q0), (1, .int (nI i)), (2, .int (nI sc))] [] := by
          intro m
          induction m with
          | zero =>
            intro j hj F le rl s u lr an mn mx pe hz han hs hu hlr hMF hFR
            have hjn : j = sc := by omega
            refine g_iload hC dX5_tune_63 0 rfl ?_
            refine g_iload_n hC dX5_tune_65 9 rfl ?_
            refine g_icmp_ge hC 244 dX5_tune_66 (by decide) (fun _ => ?_) (fun c => absurd (show nI sc ≤ nI j by rw [hjn]; exact nI_le (Nat.le_refl _) (by omega)) c)
            refine g_iload hC dX5_tune_244 4 rfl ?_
            exact g_iret hC dX5_tune_246 rfl rfl ⟨rfl, Or.inr ⟨i, hi, rfl, sc, hsc, rfl, htc, le, rl, s, lr, mn, mx, pe, rfl, by rw [hz, hjn], by omega, hFR, hMF⟩⟩ (Nat.zero_le _) (Nat.zero_le _)
          | succ m ih =>
            intro j hj F le rl s u lr an mn mx pe hz han hs hu hlr hMF hFR
            have K134 : ∀ (F2 : Nat → va_E) (s2 u2 : Nat) (r lr2 pe2 : Int32), r = tRel (dv le) → ((tIs (nI j) (dv le, rl, nI s, lr, dv mn, dv mx, pe) = true ∧ s2 = s + 1) ∨ (tIs (nI j) (dv le, rl, nI s, lr, dv mn, dv mx, pe) = false ∧ s2 = s)) → lr2 = tLr (nI j) (dv le, rl, nI s, lr, dv mn, dv mx, pe) → pe2 = tPe (nI j) (dv le, rl, nI s, lr, dv mn, dv mx, pe) → u2 ≤ j + 1 → (lr2 ≠ 0 ↔ 0 < u2) → MI G q0 ma n k (up2 (up2 Y i 16 mn) i 17 mx) (up2 W0 i 23 pe2) L F2 → FRm L f F2 → V C 14 L F2 0 0 134 [(10, .int (nI j)), (9, .int an), (8, .int lr2), (7, .int (nI u2)), (6, .int (nI s2)), (5, .int rl), (3, .double le), (0, .ref q0), (1, .int (nI i)), (2, .int (nI sc)), (11, .int r)] [] := by
              intro F2 s2 u2 r lr2 pe2 hr hs2 hlr2 hpe2 hu2 hlu hM2 hF2
              have hs3 : nI s2 = tSw (nI j) (dv le, rl, nI s, lr, dv mn, dv mx, pe) := by rcases hs2 with ⟨q1, rfl⟩ | ⟨q1, rfl⟩; exact tSw_t rfl q1; exact tSw_f rfl q1
              have hs4 : s2 ≤ j + 1 := by rcases hs2 with ⟨q1, rfl⟩ | ⟨q1, rfl⟩ <;> omega
              rcases Nat.eq_zero_or_pos s with hs0 | hs0
              · have han1 : an = 0 := by rw [han, hs0]; rfl
                subst han1
                refine g_iload hC dX5_tune_134 5 rfl ?_
                refine g_iconst hC 3 dX5_tune_136 (by decide) ?_
                refine g_ishr hC dX5_tune_137 ?_
                refine g_iconst hC 1 dX5_tune_138 (by decide) ?_
                refine g_iand hC dX5_tune_139 ?_
                refine g_i2d hC dX5_tune_140 ?_
                refine g_dstore hC (lv1 := [(12, .double (FP.i2d ((rl >>> (3 &&& 31)) &&& 1))), (10, .int (nI j)), (9, .int 0), (8, .int lr2), (7, .int (nI u2)), (6, .int (nI s2)), (5, .int rl), (3, .double le), (0, .ref q0), (1, .int (nI i)), (2, .int (nI sc)), (11, .int r)]) dX5_tune_141 (by decide) rfl ?_
                refine g_dload_n hC dX5_tune_143 7 rfl ?_
                refine g_dload hC dX5_tune_144 0 rfl ?_
                refine g_dload_n hC dX5_tune_146 7 rfl ?_
                refine g_dsub hC dX5_tune_147 (fun r7 er7 => ?_)
                refine g_ldc2 hC dX5_tune_148 q_cd_X5_119 ?_
                refine g_dmul hC dX5_tune_151 (fun r8 er8 => ?_)
                try simp only [er7] at er8
                refine g_dadd hC dX5_tune_152 (fun r9 er9 => ?_)
                try simp only [er7, er8] at er9
                have hle : dv r9 = tLe (dv le, rl, nI s, lr, dv mn, dv mx, pe) := er9
                refine g_dstore_n hC (lv1 := [(3, .double r9), (12, .double (FP.i2d ((rl >>> (3 &&& 31)) &&& 1))), (10, .int (nI j)), (9, .int 0), (8, .int lr2), (7, .int (nI u2)), (6, .int (nI s2)), (5, .int rl), (0, .ref q0), (1, .int (nI i)), (2, .int (nI sc)), (11, .int r)]) dX5_tune_153 (by decide) rfl ?_
                refine g_iload hC dX5_tune_154 7 rfl ?_
                refine g_iconst hC 1 dX5_tune_156 (by decide) ?_
                refine g_ishl hC dX5_tune_157 ?_
                refine g_bipush hC 15 dX5_tune_158 (by decide) ?_
                refine g_iand hC dX5_tune_160 ?_
                refine g_iload hC dX5_tune_161 11 rfl ?_
                refine g_ior hC dX5_tune_163 ?_
                refine g_eqI (show ((rl <<< (1 &&& 31)) &&& 15) ||| r = tRl (dv le, rl, nI s, lr, dv mn, dv mx, pe) by rw [hr]; exact tRl_eq _ _ (tRel_01 _)) ?_
                refine g_istore hC (lv1 := [(5, .int (tRl (dv le, rl, nI s, lr, dv mn, dv mx, pe))), (3, .double r9), (12, .double (FP.i2d ((rl >>> (3 &&& 31)) &&& 1))), (10, .int (nI j)), (9, .int 0), (8, .int lr2), (7, .int (nI u2)), (6, .int (nI s2)), (0, .ref q0), (1, .int (nI i)), (2, .int (nI sc)), (11, .int r)]) dX5_tune_164 (by decide) rfl ?_
                refine g_iload hC dX5_tune_166 7 rfl ?_
                refine g_if_le hC 238 dX5_tune_168 (by decide) (fun c10 => ?_) (fun c10 => ?_)
                · skip
                  refine g_iinc hC (v := nI (j + 1)) (lv1 := [(10, .int (nI (j + 1))), (5, .int (tRl (dv le, rl, nI s, lr, dv mn, dv mx, pe))), (3, .double r9), (12, .double (FP.i2d ((rl >>> (3 &&& 31)) &&& 1))), (9, .int 0), (8, .int lr2), (7, .int (nI u2)), (6, .int (nI s2)), (0, .ref q0), (1, .int (nI i)), (2, .int (nI sc)), (11, .int r)]) dX5_tune_238 3 rfl (by rw [nI_succ]; rfl) (by decide) rfl ?_
                  have hs20 : s2 = 0 := nI_z (by omega) c10
                  have hc : tSw (nI j) (dv le, rl, nI s, lr, dv mn, dv mx, pe) ≤ 0 := by rw [← hs3]; exact c10
                  refine g_goto hC 63 dX5_tune_241 (by decide) ?_
                  have hzz : ((dv r9, tRl (dv le, rl, nI s, lr, dv mn, dv mx, pe), nI s2, lr2, dv mn, dv mx, pe2) : TS) = tRun (dv 0, 0, 0, 0, dv 0, dv 0, 0) (j + 1) := by
                    refine Eq.trans ?_ (show tStep (nI j) (tRun (dv 0, 0, 0, 0, dv 0, dv 0, 0) j) = tRun (dv 0, 0, 0, 0, dv 0, dv 0, 0) (j + 1) from rfl)
                    rw [← hz]
                    exact tup7 hle rfl hs3 hlr2 (tMn_a hc).symm (tMx_a hc).symm hpe2
                  refine g_sub [0, 4, 5, 6, 7, 1, 2, 8, 9, 10] rfl ?_
                  exact ih (j + 1) (by omega) F2 r9 (tRl (dv le, rl, nI s, lr, dv mn, dv mx, pe)) s2 u2 lr2 0 mn mx pe2 hzz (by rw [hs20]; rfl) hs4 hu2 hlu hM2 hF2
                · skip
                  refine g_aload_n hC dX5_tune_171 8 rfl ?_
                  refine g_get hC (kf := 20) (TT := TX5) (N := 26) (Cn := RX5) dX5_tune_172 (MI.m hM2) (MI.o hM2) rfl q_u5 (by decide) q_fl_X5_69 rfl rfl ?_
                  refine g_iload_n hC dX5_tune_175 9 rfl ?_
                  refine g_iload hC dX5_tune_176 4 rfl ?_
                  refine g_if_eq hC 192 dX5_tune_178 (by decide) (fun _ => ?_) (fun c => absurd c (by decide))
                  refine g_dload_n hC dX5_tune_192 1 rfl ?_
                  refine g_goto hC 202 dX5_tune_193 (by decide) ?_
                  refine g_mds hC hM2 16 (by decide) (by decide) hi16 dX5_tune_202 (fun f11 hM12 hR13 => ?_)
                  refine g_aload_n hC dX5_tune_203 8 rfl ?_
                  refine g_get hC (kf := 21) (TT := TX5) (N := 26) (Cn := RX5) dX5_tune_204 (MI.m hM12) (MI.o hM12) rfl q_u5 (by decide) q_fl_X5_72 rfl rfl ?_
                  refine g_iload_n hC dX5_tune_207 9 rfl ?_
                  refine g_iload hC dX5_tune_208 4 rfl ?_
                  refine g_if_eq hC 224 dX5_tune_210 (by decide) (fun _ => ?_) (fun c => absurd c (by decide))
                  refine g_dload_n hC dX5_tune_224 1 rfl ?_
                  refine g_goto hC 234 dX5_tune_225 (by decide) ?_
                  refine g_mds hC hM12 17 (by decide) (by decide) hi16 dX5_tune_234 (fun f14 hM15 hR16 => ?_)
                  refine g_iconst hC 1 dX5_tune_235 (by decide) ?_
                  refine g_istore hC (lv1 := [(9, .int 1), (5, .int (tRl (dv le, rl, nI s, lr, dv mn, dv mx, pe))), (3, .double r9), (12, .double (FP.i2d ((rl >>> (3 &&& 31)) &&& 1))), (10, .int (nI j)), (8, .int lr2), (7, .int (nI u2)), (6, .int (nI s2)), (0, .ref q0), (1, .int (nI i)), (2, .int (nI sc)), (11, .int r)]) dX5_tune_236 (by decide) rfl ?_
                  refine g_iinc hC (v := nI (j + 1)) (lv1 := [(10, .int (nI (j + 1))), (9, .int 1), (5, .int (tRl (dv le, rl, nI s, lr, dv mn, dv mx, pe))), (3, .double r9), (12, .double (FP.i2d ((rl >>> (3 &&& 31)) &&& 1))), (8, .int lr2), (7, .int (nI u2)), (6, .int (nI s2)), (0, .ref q0), (1, .int (nI i)), (2, .int (nI sc)), (11, .int r)]) dX5_tune_238 4 rfl (by rw [nI_succ]; rfl) (by decide) rfl ?_
                  have hs20 : ¬ s2 = 0 := fun q => c10 (by rw [q]; decide)
                  have hc : ¬ tSw (nI j) (dv le, rl, nI s, lr, dv mn, dv mx, pe) ≤ 0 := by rw [← hs3]; exact c10
                  have hfi : tFi (nI j) (dv le, rl, nI s, lr, dv mn, dv mx, pe) = true := by rcases hs2 with ⟨q1, q2⟩ | ⟨_, q2⟩; exact (by rw [hs0] at q2; rw [q2] at hs3; unfold tFi; rw [q1, ← hs3]; rfl); exact absurd (q2.trans hs0) hs20
                  refine g_goto hC 63 dX5_tune_241 (by decide) ?_
                  have hzz : ((dv r9, tRl (dv le, rl, nI s, lr, dv mn, dv mx, pe), nI s2, lr2, dv r9, dv r9, pe2) : TS) = tRun (dv 0, 0, 0, 0, dv 0, dv 0, 0) (j + 1) := by
                    refine Eq.trans ?_ (show tStep (nI j) (tRun (dv 0, 0, 0, 0, dv 0, dv 0, 0) j) = tRun (dv 0, 0, 0, 0, dv 0, dv 0, 0) (j + 1) from rfl)
                    rw [← hz]
                    exact tup7 hle rfl hs3 hlr2 (hle.trans (tMn_b hc (by rw [hfi]; rfl)).symm) (hle.trans (tMx_b hc (by rw [hfi]; rfl)).symm) hpe2
                  refine g_sub [0, 1, 5, 6, 7, 2, 3, 8, 9, 10] rfl ?_
                  exact ih (j + 1) (by omega) f14 r9 (tRl (dv le, rl, nI s, lr, dv mn, dv mx, pe)) s2 u2 lr2 1 r9 r9 pe2 hzz (by rw [if_neg hs20]) hs4 hu2 hlu (by have q := hM15; rwa [up2_4] at q) (FRm.trans (FRm.trans hF2 hR13) hR16)
              · have han1 : an = 1 := by rw [han, if_neg (by omega)]
                subst han1
                refine g_iload hC dX5_tune_134 5 rfl ?_
                refine g_iconst hC 3 dX5_tune_136 (by decide) ?_
                refine g_ishr hC dX5_tune_137 ?_
                refine g_iconst hC 1 dX5_tune_138 (by decide) ?_
                refine g_iand hC dX5_tune_139 ?_
                refine g_i2d hC dX5_tune_140 ?_
                refine g_dstore hC (lv1 := [(12, .double (FP.i2d ((rl >>> (3 &&& 31)) &&& 1))), (10, .int (nI j)), (9, .int 1), (8, .int lr2), (7, .int (nI u2)), (6, .int (nI s2)), (5, .int rl), (3, .double le), (0, .ref q0), (1, .int (nI i)), (2, .int (nI sc)), (11, .int r)]) dX5_tune_141 (by decide) rfl ?_
                refine g_dload_n hC dX5_tune_143 7 rfl ?_
                refine g_dload hC dX5_tune_144 0 rfl ?_
                refine g_dload_n hC dX5_tune_146 7 rfl ?_
                refine g_dsub hC dX5_tune_147 (fun r17 er17 => ?_)
                refine g_ldc2 hC dX5_tune_148 q_cd_X5_119 ?_
                refine g_dmul hC dX5_tune_151 (fun r18 er18 => ?_)
                try simp only [er17] at er18
                refine g_dadd hC dX5_tune_152 (fun r19 er19 => ?_)
                try simp only [er17, er18] at er19
                have hle : dv r19 = tLe (dv le, rl, nI s, lr, dv mn, dv mx, pe) := er19
                refine g_dstore_n hC (lv1 := [(3, .double r19), (12, .double (FP.i2d ((rl >>> (3 &&& 31)) &&& 1))), (10, .int (nI j)), (9, .int 1), (8, .int lr2), (7, .int (nI u2)), (6, .int (nI s2)), (5, .int rl), (0, .ref q0), (1, .int (nI i)), (2, .int (nI sc)), (11, .int r)]) dX5_tune_153 (by decide) rfl ?_
                refine g_iload hC dX5_tune_154 7 rfl ?_
                refine g_iconst hC 1 dX5_tune_156 (by decide) ?_
                refine g_ishl hC dX5_tune_157 ?_
                refine g_bipush hC 15 dX5_tune_158 (by decide) ?_
                refine g_iand hC dX5_tune_160 ?_
                refine g_iload hC dX5_tune_161 11 rfl ?_
                refine g_ior hC dX5_tune_163 ?_
                refine g_eqI (show ((rl <<< (1 &&& 31)) &&& 15) ||| r = tRl (dv le, rl, nI s, lr, dv mn, dv mx, pe) by rw [hr]; exact tRl_eq _ _ (tRel_01 _)) ?_
                refine g_istore hC (lv1 := [(5, .int (tRl (dv le, rl, nI s, lr, dv mn, dv mx, pe))), (3, .double r19), (12, .double (FP.i2d ((rl >>> (3 &&& 31)) &&& 1))), (10, .int (nI j)), (9, .int 1), (8, .int lr2), (7, .int (nI u2)), (6, .int (nI s2)), (0, .ref q0), (1, .int (nI i)), (2, .int (nI sc)), (11, .int r)]) dX5_tune_164 (by decide) rfl ?_
                refine g_iload hC dX5_tune_166 7 rfl ?_
                refine g_if_le hC 238 dX5_tune_168 (by decide) (fun c20 => ?_) (fun c20 => ?_)
                · skip
                  refine g_iinc hC (v := nI (j + 1)) (lv1 := [(10, .int (nI (j + 1))), (5, .int (tRl (dv le, rl, nI s, lr, dv mn, dv mx, pe))), (3, .double r19), (12, .double (FP.i2d ((rl >>> (3 &&& 31)) &&& 1))), (9, .int 1), (8, .int lr2), (7, .int (nI u2)), (6, .int (nI s2)), (0, .ref q0), (1, .int (nI i)), (2, .int (nI sc)), (11, .int r)]) dX5_tune_238 3 rfl (by rw [nI_succ]; rfl) (by decide) rfl ?_
                  exact absurd (nI_z (by omega) c20) (by rcases hs2 with ⟨_, q⟩ | ⟨_, q⟩ <;> omega)
                · skip
                  refine g_aload_n hC dX5_tune_171 8 rfl ?_
                  refine g_get hC (kf := 20) (TT := TX5) (N := 26) (Cn := RX5) dX5_tune_172 (MI.m hM2) (MI.o hM2) rfl q_u5 (by decide) q_fl_X5_69 rfl rfl ?_
                  refine g_iload_n hC dX5_tune_175 9 rfl ?_
                  refine g_iload hC dX5_tune_176 4 rfl ?_
                  refine g_if_eq hC 192 dX5_tune_178 (by decide) (fun c => absurd c (by decide)) (fun _ => ?_)
                  refine g_dload_n hC dX5_tune_181 1 rfl ?_
                  refine g_aload_n hC dX5_tune_182 8 rfl ?_
                  refine g_get hC (kf := 20) (TT := TX5) (N := 26) (Cn := RX5) dX5_tune_183 (MI.m hM2) (MI.o hM2) rfl q_u5 (by decide) q_fl_X5_69 rfl rfl ?_
                  refine g_iload_n hC dX5_tune_186 9 rfl ?_
                  refine g_mdl hC hM2 16 (by decide) (by decide) hi16 mn (by simp [up2]) dX5_tune_187 ?_
                  refine g_dcmpg_ge hC 196 dX5_tune_188 dX5_tune_189 (by decide) (fun c21 => ?_) (fun c21 => ?_)
                  · skip
                    refine g_aload_n hC dX5_tune_196 8 rfl ?_
                    refine g_get hC (kf := 20) (TT := TX5) (N := 26) (Cn := RX5) dX5_tune_197 (MI.m hM2) (MI.o hM2) rfl q_u5 (by decide) q_fl_X5_69 rfl rfl ?_
                    refine g_iload_n hC dX5_tune_200 9 rfl ?_
                    refine g_mdl hC hM2 16 (by decide) (by decide) hi16 mn (by simp [up2]) dX5_tune_201 ?_
                    refine g_mds hC hM2 16 (by decide) (by decide) hi16 dX5_tune_202 (fun f22 hM23 hR24 => ?_)
                    refine g_aload_n hC dX5_tune_203 8 rfl ?_
                    refine g_get hC (kf := 21) (TT := TX5) (N := 26) (Cn := RX5) dX5_tune_204 (MI.m hM23) (MI.o hM23) rfl q_u5 (by decide) q_fl_X5_72 rfl rfl ?_
                    refine g_iload_n hC dX5_tune_207 9 rfl ?_
                    refine g_iload hC dX5_tune_208 4 rfl ?_
                    refine g_if_eq hC 224 dX5_tune_210 (by decide) (fun c => absurd c (by decide)) (fun _ => ?_)
                    refine g_dload_n hC dX5_tune_213 1 rfl ?_
                    refine g_aload_n hC dX5_tune_214 8 rfl ?_
                    refine g_get hC (kf := 21) (TT := TX5) (N := 26) (Cn := RX5) dX5_tune_215 (MI.m hM23) (MI.o hM23) rfl q_u5 (by decide) q_fl_X5_72 rfl rfl ?_
                    refine g_iload_n hC dX5_tune_218 9 rfl ?_
                    refine g_mdl hC hM23 17 (by decide) (by decide) hi16 mx (by simp [up2]) dX5_tune_219 ?_
                    refine g_dcmpl_le hC 228 dX5_tune_220 dX5_tune_221 (by decide) (fun c25 => ?_) (fun c25 => ?_)
                    · skip
                      refine g_aload_n hC dX5_tune_228 8 rfl ?_
                      refine g_get hC (kf := 21) (TT := TX5) (N := 26) (Cn := RX5) dX5_tune_229 (MI.m hM23) (MI.o hM23) rfl q_u5 (by decide) q_fl_X5_72 rfl rfl ?_
                      refine g_iload_n hC dX5_tune_232 9 rfl ?_
                      refine g_mdl hC hM23 17 (by decide) (by decide) hi16 mx (by simp [up2]) dX5_tune_233 ?_
                      refine g_mds hC hM23 17 (by decide) (by decide) hi16 dX5_tune_234 (fun f26 hM27 hR28 => ?_)
                      refine g_iconst hC 1 dX5_tune_235 (by decide) ?_
                      refine g_istore hC (lv1 := [(9, .int 1), (5, .int (tRl (dv le, rl, nI s, lr, dv mn, dv mx, pe))), (3, .double r19), (12, .double (FP.i2d ((rl >>> (3 &&& 31)) &&& 1))), (10, .int (nI j)), (8, .int lr2), (7, .int (nI u2)), (6, .int (nI s2)), (0, .ref q0), (1, .int (nI i)), (2, .int (nI sc)), (11, .int r)]) dX5_tune_236 (by decide) rfl ?_
                      refine g_iinc hC (v := nI (j + 1)) (lv1 := [(10, .int (nI (j + 1))), (9, .int 1), (5, .int (tRl (dv le, rl, nI s, lr, dv mn, dv mx, pe))), (3, .double r19), (12, .double (FP.i2d ((rl >>> (3 &&& 31)) &&& 1))), (8, .int lr2), (7, .int (nI u2)), (6, .int (nI s2)), (0, .ref q0), (1, .int (nI i)), (2, .int (nI sc)), (11, .int r)]) dX5_tune_238 4 rfl (by rw [nI_succ]; rfl) (by decide) rfl ?_
                      have hs20 : ¬ s2 = 0 := fun q => c20 (by rw [q]; decide)
                      have hc : ¬ tSw (nI j) (dv le, rl, nI s, lr, dv mn, dv mx, pe) ≤ 0 := by rw [← hs3]; exact c20
                      have hfi : tFi (nI j) (dv le, rl, nI s, lr, dv mn, dv mx, pe) = false := by rcases hs2 with ⟨q1, q2⟩ | ⟨q1, _⟩; exact (by unfold tFi; rw [q1, ← hs3]; exact decide_eq_false (fun q => absurd ((nI_eq (b := 1) (by omega) (by decide)).mp q) (by omega))); exact (by unfold tFi; rw [q1]; rfl)
                      refine g_goto hC 63 dX5_tune_241 (by decide) ?_
                      have hzz : ((dv r19, tRl (dv le, rl, nI s, lr, dv mn, dv mx, pe), nI s2, lr2, dv mn, dv mx, pe2) : TS) = tRun (dv 0, 0, 0, 0, dv 0, dv 0, 0) (j + 1) := by
                        refine Eq.trans ?_ (show tStep (nI j) (tRun (dv 0, 0, 0, 0, dv 0, dv 0, 0) j) = tRun (dv 0, 0, 0, 0, dv 0, dv 0, 0) (j + 1) from rfl)
                        rw [← hz]
                        exact tup7 hle rfl hs3 hlr2 (tMn_c hc (by rw [hfi, ← hle]; exact c21)).symm (tMx_c hc (by rw [hfi, ← hle]; exact c25)).symm hpe2
                      refine g_sub [0, 1, 5, 6, 7, 2, 3, 8, 9, 10] rfl ?_
                      exact ih (j + 1) (by omega) f26 r19 (tRl (dv le, rl, nI s, lr, dv mn, dv mx, pe)) s2 u2 lr2 1 mn mx pe2 hzz (by rw [if_neg hs20]) hs4 hu2 hlu (by have q := hM27; rwa [up2_4] at q) (FRm.trans (FRm.trans hF2 hR24) hR28)
                    · skip
                      refine g_dload_n hC dX5_tune_224 1 rfl ?_
                      refine g_goto hC 234 dX5_tune_225 (by decide) ?_
                      refine g_mds hC hM23 17 (by decide) (by decide) hi16 dX5_tune_234 (fun f29 hM30 hR31 => ?_)
                      refine g_iconst hC 1 dX5_tune_235 (by decide) ?_
                      refine g_istore hC (lv1 := [(9, .int 1), (5, .int (tRl (dv le, rl, nI s, lr, dv mn, dv mx, pe))), (3, .double r19), (12, .double (FP.i2d ((rl >>> (3 &&& 31)) &&& 1))), (10, .int (nI j)), (8, .int lr2), (7, .int (nI u2)), (6, .int (nI s2)), (0, .ref q0), (1, .int (nI i)), (2, .int (nI sc)), (11, .int r)]) dX5_tune_236 (by decide) rfl ?_
                      refine g_iinc hC (v := nI (j + 1)) (lv1 := [(10, .int (nI (j + 1))), (9, .int 1), (5, .int (tRl (dv le, rl, nI s, lr, dv mn, dv mx, pe))), (3, .double r19), (12, .double (FP.i2d ((rl >>> (3 &&& 31)) &&& 1))), (8, .int lr2), (7, .int (nI u2)), (6, .int (nI s2)), (0, .ref q0), (1, .int (nI i)), (2, .int (nI sc)), (11, .int r)]) dX5_tune_238 4 rfl (by rw [nI_succ]; rfl) (by decide) rfl ?_
                      have hs20 : ¬ s2 = 0 := fun q => c20 (by rw [q]; decide)
                      have hc : ¬ tSw (nI j) (dv le, rl, nI s, lr, dv mn, dv mx, pe) ≤ 0 := by rw [← hs3]; exact c20
                      have hfi : tFi (nI j) (dv le, rl, nI s, lr, dv mn, dv mx, pe) = false := by rcases hs2 with ⟨q1, q2⟩ | ⟨q1, _⟩; exact (by unfold tFi; rw [q1, ← hs3]; exact decide_eq_false (fun q => absurd ((nI_eq (b := 1) (by omega) (by decide)).mp q) (by omega))); exact (by unfold tFi; rw [q1]; rfl)
                      refine g_goto hC 63 dX5_tune_241 (by decide) ?_
                      have hzz : ((dv r19, tRl (dv le, rl, nI s, lr, dv mn, dv mx, pe), nI s2, lr2, dv mn, dv r19, pe2) : TS) = tRun (dv 0, 0, 0, 0, dv 0, dv 0, 0) (j + 1) := by
                        refine Eq.trans ?_ (show tStep (nI j) (tRun (dv 0, 0, 0, 0, dv 0, dv 0, 0) j) = tRun (dv 0, 0, 0, 0, dv 0, dv 0, 0) (j + 1) from rfl)
                        rw [← hz]
                        exact tup7 hle rfl hs3 hlr2 (tMn_c hc (by rw [hfi, ← hle]; exact c21)).symm (hle.trans (tMx_b hc (by rw [hfi, ← hle]; exact c25)).symm) hpe2
                      refine g_sub [0, 1, 5, 6, 7, 2, 3, 8, 9, 10] rfl ?_
                      exact ih (j + 1) (by omega) f29 r19 (tRl (dv le, rl, nI s, lr, dv mn, dv mx, pe)) s2 u2 lr2 1 mn r19 pe2 hzz (by rw [if_neg hs20]) hs4 hu2 hlu (by have q := hM30; rwa [up2_4] at q) (FRm.trans (FRm.trans hF2 hR24) hR31)
                  · skip
                    refine g_dload_n hC dX5_tune_192 1 rfl ?_
                    refine g_goto hC 202 dX5_tune_193 (by decide) ?_
                    refine g_mds hC hM2 16 (by decide) (by decide) hi16 dX5_tune_202 (fun f32 hM33 hR34 => ?_)
                    refine g_aload_n hC dX5_tune_203 8 rfl ?_
                    refine g_get hC (kf := 21) (TT := TX5) (N := 26) (Cn := RX5) dX5_tune_204 (MI.m hM33) (MI.o hM33) rfl q_u5 (by decide) q_fl_X5_72 rfl rfl ?_
                    refine g_iload_n hC dX5_tune_207 9 rfl ?_
                    refine g_iload hC dX5_tune_208 4 rfl ?_
                    refine g_if_eq hC 224 dX5_tune_210 (by decide) (fun c => absurd c (by decide)) (fun _ => ?_)
                    refine g_dload_n hC dX5_tune_213 1 rfl ?_
                    refine g_aload_n hC dX5_tune_214 8 rfl ?_
                    refine g_get hC (kf := 21) (TT := TX5) (N := 26) (Cn := RX5) dX5_tune_215 (MI.m hM33) (MI.o hM33) rfl q_u5 (by decide) q_fl_X5_72 rfl rfl ?_
                    refine g_iload_n hC dX5_tune_218 9 rfl ?_
                    refine g_mdl hC hM33 17 (by decide) (by decide) hi16 mx (by simp [up2]) dX5_tune_219 ?_
                    refine g_dcmpl_le hC 228 dX5_tune_220 dX5_tune_221 (by decide) (fun c35 => ?_) (fun c35 => ?_)
                    · skip
                      refine g_aload_n hC dX5_tune_228 8 rfl ?_
                      refine g_get hC (kf := 21) (TT := TX5) (N := 26) (Cn := RX5) dX5_tune_229 (MI.m hM33) (MI.o hM33) rfl q_u5 (by decide) q_fl_X5_72 rfl rfl ?_
                      refine g_iload_n hC dX5_tune_232 9 rfl ?_
                      refine g_mdl hC hM33 17 (by decide) (by decide) hi16 mx (by simp [up2]) dX5_tune_233 ?_
                      refine g_mds hC hM33 17 (by decide) (by decide) hi16 dX5_tune_234 (fun f36 hM37 hR38 => ?_)
                      refine g_iconst hC 1 dX5_tune_235 (by decide) ?_
                      refine g_istore hC (lv1 := [(9, .int 1), (5, .int (tRl (dv le, rl, nI s, lr, dv mn, dv mx, pe))), (3, .double r19), (12, .double (FP.i2d ((rl >>> (3 &&& 31)) &&& 1))), (10, .int (nI j)), (8, .int lr2), (7, .int (nI u2)), (6, .int (nI s2)), (0, .ref q0), (1, .int (nI i)), (2, .int (nI sc)), (11, .int r)]) dX5_tune_236 (by decide) rfl ?_
                      refine g_iinc hC (v := nI (j + 1)) (lv1 := [(10, .int (nI (j + 1))), (9, .int 1), (5, .int (tRl (dv le, rl, nI s, lr, dv mn, dv mx, pe))), (3, .double r19), (12, .double (FP.i2d ((rl >>> (3 &&& 31)) &&& 1))), (8, .int lr2), (7, .int (nI u2)), (6, .int (nI s2)), (0, .ref q0), (1, .int (nI i)), (2, .int (nI sc)), (11, .int r)]) dX5_tune_238 4 rfl (by rw [nI_succ]; rfl) (by decide) rfl ?_
                      have hs20 : ¬ s2 = 0 := fun q => c20 (by rw [q]; decide)
                      have hc : ¬ tSw (nI j) (dv le, rl, nI s, lr, dv mn, dv mx, pe) ≤ 0 := by rw [← hs3]; exact c20
                      have hfi : tFi (nI j) (dv le, rl, nI s, lr, dv mn, dv mx, pe) = false := by rcases hs2 with ⟨q1, q2⟩ | ⟨q1, _⟩; exact (by unfold tFi; rw [q1, ← hs3]; exact decide_eq_false (fun q => absurd ((nI_eq (b := 1) (by omega) (by decide)).mp q) (by omega))); exact (by unfold tFi; rw [q1]; rfl)
                      refine g_goto hC 63 dX5_tune_241 (by decide) ?_
                      have hzz : ((dv r19, tRl (dv le, rl, nI s, lr, dv mn, dv mx, pe), nI s2, lr2, dv r19, dv mx, pe2) : TS) = tRun (dv 0, 0, 0, 0, dv 0, dv 0, 0) (j + 1) := by
                        refine Eq.trans ?_ (show tStep (nI j) (tRun (dv 0, 0, 0, 0, dv 0, dv 0, 0) j) = tRun (dv 0, 0, 0, 0, dv 0, dv 0, 0) (j + 1) from rfl)
                        rw [← hz]
                        exact tup7 hle rfl hs3 hlr2 (hle.trans (tMn_b hc (by rw [hfi, ← hle]; exact c21)).symm) (tMx_c hc (by rw [hfi, ← hle]; exact c35)).symm hpe2
                      refine g_sub [0, 1, 5, 6, 7, 2, 3, 8, 9, 10] rfl ?_
                      exact ih (j + 1) (by omega) f36 r19 (tRl (dv le, rl, nI s, lr, dv mn, dv mx, pe)) s2 u2 lr2 1 r19 mx pe2 hzz (by rw [if_neg hs20]) hs4 hu2 hlu (by have q := hM37; rwa [up2_4] at q) (FRm.trans (FRm.trans hF2 hR34) hR38)
                    · skip
                      refine g_dload_n hC dX5_tune_224 1 rfl ?_
                      refine g_goto hC 234 dX5_tune_225 (by decide) ?_
                      refine g_mds hC hM33 17 (by decide) (by decide) hi16 dX5_tune_234 (fun f39 hM40 hR41 => ?_)
                      refine g_iconst hC 1 dX5_tune_235 (by decide) ?_
                      refine g_istore hC (lv1 := [(9, .int 1), (5, .int (tRl (dv le, rl, nI s, lr, dv mn, dv mx, pe))), (3, .double r19), (12, .double (FP.i2d ((rl >>> (3 &&& 31)) &&& 1))), (10, .int (nI j)), (8, .int lr2), (7, .int (nI u2)), (6, .int (nI s2)), (0, .ref q0), (1, .int (nI i)), (2, .int (nI sc)), (11, .int r)]) dX5_tune_236 (by decide) rfl ?_
                      refine g_iinc hC (v := nI (j + 1)) (lv1 := [(10, .int (nI (j + 1))), (9, .int 1), (5, .int (tRl (dv le, rl, nI s, lr, dv mn, dv mx, pe))), (3, .double r19), (12, .double (FP.i2d ((rl >>> (3 &&& 31)) &&& 1))), (8, .int lr2), (7, .int (nI u2)), (6, .int (nI s2)), (0, .ref q0), (1, .int (nI i)), (2, .int (nI sc)), (11, .int r)]) dX5_tune_238 4 rfl (by rw [nI_succ]; rfl) (by decide) rfl ?_
                      have hs20 : ¬ s2 = 0 := fun q => c20 (by rw [q]; decide)
                      have hc : ¬ tSw (nI j) (dv le, rl, nI s, lr, dv mn, dv mx, pe) ≤ 0 := by rw [← hs3]; exact c20
                      have hfi : tFi (nI j) (dv le, rl, nI s, lr, dv mn, dv mx, pe) = false := by rcases hs2 with ⟨q1, q2⟩ | ⟨q1, _⟩; exact (by unfold tFi; rw [q1, ← hs3]; exact decide_eq_false (fun q => absurd ((nI_eq (b := 1) (by omega) (by decide)).mp q) (by omega))); exact (by unfold tFi; rw [q1]; rfl)
                      refine g_goto hC 63 dX5_tune_241 (by decide) ?_
                      have hzz : ((dv r19, tRl (dv le, rl, nI s, lr, dv mn, dv mx, pe), nI s2, lr2, dv r19, dv r19, pe2) : TS) = tRun (dv 0, 0, 0, 0, dv 0, dv 0, 0) (j + 1) := by
                        refine Eq.trans ?_ (show tStep (nI j) (tRun (dv 0, 0, 0, 0, dv 0, dv 0, 0) j) = tRun (dv 0, 0, 0, 0, dv 0, dv 0, 0) (j + 1) from rfl)
                        rw [← hz]
                        exact tup7 hle rfl hs3 hlr2 (hle.trans (tMn_b hc (by rw [hfi, ← hle]; exact c21)).symm) (hle.trans (tMx_b hc (by rw [hfi, ← hle]; exact c35)).symm) hpe2
                      refine g_sub [0, 1, 5, 6, 7, 2, 3, 8, 9, 10] rfl ?_
                      exact ih (j + 1) (by omega) f39 r19 (tRl (dv le, rl, nI s, lr, dv mn, dv mx, pe)) s2 u2 lr2 1 r19 r19 pe2 hzz (by rw [if_neg hs20]) hs4 hu2 hlu (by have q := hM40; rwa [up2_4] at q) (FRm.trans (FRm.trans hF2 hR34) hR41)
            refine g_iload hC dX5_tune_63 0 rfl ?_
            refine g_iload_n hC dX5_tune_65 9 rfl ?_
            refine g_icmp_ge hC 244 dX5_tune_66 (by decide) (fun c => absurd c (nI_ge (by omega) (by omega))) (fun _ => ?_)
            refine g_dload_n hC dX5_tune_69 6 rfl ?_
            refine g_ldc2 hC dX5_tune_70 q_cd_X5_117 ?_
            refine g_dcmpg_ge hC 81 dX5_tune_73 dX5_tune_74 (by decide) (fun c42 => ?_) (fun c42 => ?_)
            · skip
              refine g_iconst hC 0 dX5_tune_81 (by decide) ?_
              refine g_istore hC (lv1 := [(11, .int 0), (10, .int (nI j)), (9, .int an), (8, .int lr), (7, .int (nI u)), (6, .int (nI s)), (5, .int rl), (3, .double le), (0, .ref q0), (1, .int (nI i)), (2, .int (nI sc))]) dX5_tune_82 (by decide) rfl ?_
              refine g_iload hC dX5_tune_84 1 rfl ?_
              refine g_if_le hC 134 dX5_tune_86 (by decide) (fun c43 => ?_) (fun c43 => ?_)
              · skip
                have hr : tRel (dv le) = 0 := by simp only [tRel, c42, if_true, Bool.false_eq_true, if_false]
                have hi9 : tIs (nI j) (dv le, rl, nI s, lr, dv mn, dv mx, pe) = false := by simp [tIs, hr, eq_true c43]
                have hri : tRise (nI j) (dv le, rl, nI s, lr, dv mn, dv mx, pe) = false := by simp [tRise, hr, hi9]
                refine g_sub [1, 2, 3, 4, 5, 6, 7, 8, 9, 10, 0] rfl ?_
                exact K134 F s u 0 lr pe hr.symm (Or.inr ⟨hi9, rfl⟩) (by unfold tLr; rw [hri]; rfl) (by unfold tPe; rw [hri]; rfl) (by omega) hlr hMF hFR
              · skip
                refine g_iload hC dX5_tune_89 0 rfl ?_
                refine g_iload hC dX5_tune_91 6 rfl ?_
                refine g_iconst hC 1 dX5_tune_93 (by decide) ?_
                refine g_iand hC dX5_tune_94 ?_
                refine g_icmp_eq hC 134 dX5_tune_95 (by decide) (fun c44 => ?_) (fun c44 => ?_)
                · skip
                  have hr : tRel (dv le) = 0 := by simp only [tRel, c42, if_true, Bool.false_eq_true, if_false]
                  have hi9 : tIs (nI j) (dv le, rl, nI s, lr, dv mn, dv mx, pe) = false := by simp [tIs, hr, eq_false c43, eq_true c44]
                  have hri : tRise (nI j) (dv le, rl, nI s, lr, dv mn, dv mx, pe) = false := by simp [tRise, hr, hi9]
                  refine g_sub [1, 2, 3, 4, 5, 6, 7, 8, 9, 10, 0] rfl ?_
                  exact K134 F s u 0 lr pe hr.symm (Or.inr ⟨hi9, rfl⟩) (by unfold tLr; rw [hri]; rfl) (by unfold tPe; rw [hri]; rfl) (by omega) hlr hMF hFR
                · skip
                  refine g_iinc hC (v := nI (s + 1)) (lv1 := [(6, .int (nI (s + 1))), (11, .int 0), (10, .int (nI j)), (9, .int an), (8, .int lr), (7, .int (nI u)), (5, .int rl), (3, .double le), (0, .ref q0), (1, .int (nI i)), (2, .int (nI sc))]) dX5_tune_98 5 rfl (by rw [nI_succ]; rfl) (by decide) rfl ?_
                  refine g_iload hC dX5_tune_101 1 rfl ?_
                  refine g_iconst hC 1 dX5_tune_103 (by decide) ?_
                  refine g_icmp_ne hC 134 dX5_tune_104 (by decide) (fun _ => ?_) (fun c => absurd c (by decide))
                  have hr : tRel (dv le) = 0 := by simp only [tRel, c42, if_true, Bool.false_eq_true, if_false]
                  have hi9 : tIs (nI j) (dv le, rl, nI s, lr, dv mn, dv mx, pe) = true := by simp [tIs, hr, eq_false c43, eq_false c44]
                  have hri : tRise (nI j) (dv le, rl, nI s, lr, dv mn, dv mx, pe) = false := by simp [tRise, hr, hi9]
                  refine g_sub [2, 3, 4, 5, 0, 6, 7, 8, 9, 10, 1] rfl ?_
                  exact K134 F (s + 1) u 0 lr pe hr.symm (Or.inl ⟨hi9, rfl⟩) (by unfold tLr; rw [hri]; rfl) (by unfold tPe; rw [hri]; rfl) (by omega) hlr hMF hFR
            · skip
              refine g_iconst hC 1 dX5_tune_77 (by decide) ?_
              refine g_goto hC 82 dX5_tune_78 (by decide) ?_
              refine g_istore hC (lv1 := [(11, .int 1), (10, .int (nI j)), (9, .int an), (8, .int lr), (7, .int (nI u)), (6, .int (nI s)), (5, .int rl), (3, .double le), (0, .ref q0), (1, .int (nI i)), (2, .int (nI sc))]) dX5_tune_82 (by decide) rfl ?_
              refine g_iload hC dX5_tune_84 1 rfl ?_
              refine g_if_le hC 134 dX5_tune_86 (by decide) (fun c46 => ?_) (fun c46 => ?_)
              · skip
                have hr : tRel (dv le) = 1 := by simp only [tRel, c42, if_true, Bool.false_eq_true, if_false]
                have hi9 : tIs (nI j) (dv le, rl, nI s, lr, dv mn, dv mx, pe) = false := by simp [tIs, hr, eq_true c46]
                have hri : tRise (nI j) (dv le, rl, nI s, lr, dv mn, dv mx, pe) = false := by simp [tRise, hr, hi9]
                refine g_sub [1, 2, 3, 4, 5, 6, 7, 8, 9, 10, 0] rfl ?_
                exact K134 F s u 1 lr pe hr.symm (Or.inr ⟨hi9, rfl⟩) (by unfold tLr; rw [hri]; rfl) (by unfold tPe; rw [hri]; rfl) (by omega) hlr hMF hFR
              · skip
                refine g_iload hC dX5_tune_89 0 rfl ?_
                refine g_iload hC dX5_tune_91 6 rfl ?_
                refine g_iconst hC 1 dX5_tune_93 (by decide) ?_
                refine g_iand hC dX5_tune_94 ?_
                refine g_icmp_eq hC 134 dX5_tune_95 (by decide) (fun c47 => ?_) (fun c47 => ?_)
                · skip
                  have hr : tRel (dv le) = 1 := by simp only [tRel, c42, if_true, Bool.false_eq_true, if_false]
                  have hi9 : tIs (nI j) (dv le, rl, nI s, lr, dv mn, dv mx, pe) = false := by simp [tIs, hr, eq_false c46, eq_true c47]
                  have hri : tRise (nI j) (dv le, rl, nI s, lr, dv mn, dv mx, pe) = false := by simp [tRise, hr, hi9]
                  refine g_sub [1, 2, 3, 4, 5, 6, 7, 8, 9, 10, 0] rfl ?_
                  exact K134 F s u 1 lr pe hr.symm (Or.inr ⟨hi9, rfl⟩) (by unfold tLr; rw [hri]; rfl) (by unfold tPe; rw [hri]; rfl) (by omega) hlr hMF hFR
                · skip
                  refine g_iinc hC (v := nI (s + 1)) (lv1 := [(6, .int (nI (s + 1))), (11, .int 1), (10, .int (nI j)), (9, .int an), (8, .int lr), (7, .int (nI u)), (5, .int rl), (3, .double le), (0, .ref q0), (1, .int (nI i)), (2, .int (nI sc))]) dX5_tune_98 5 rfl (by rw [nI_succ]; rfl) (by decide) rfl ?_
                  refine g_iload hC dX5_tune_101 1 rfl ?_
                  refine g_iconst hC 1 dX5_tune_103 (by decide) ?_
                  refine g_icmp_ne hC 134 dX5_tune_104 (by decide) (fun c => absurd c (by decide)) (fun _ => ?_)
                  refine g_aload_n hC dX5_tune_107 8 rfl ?_
                  refine g_get hC (kf := 22) (TT := TX5) (N := 26) (Cn := RX5) dX5_tune_108 (MI.m hMF) (MI.o hMF) rfl q_u5 (by decide) q_fl_X5_75 rfl rfl ?_
                  refine g_iload_n hC dX5_tune_111 9 rfl ?_
                  refine g_iload hC dX5_tune_112 5 rfl ?_
                  refine g_if_le hC 125 dX5_tune_114 (by decide) (fun c49 => ?_) (fun c49 => ?_)
                  · skip
                    refine g_iconst hC 0 dX5_tune_125 (by decide) ?_
                    refine g_mis hC hMF 23 (by decide) (by decide) hi16 dX5_tune_126 (fun f50 hM51 hR52 => ?_)
                    refine g_iload hC dX5_tune_127 2 rfl ?_
                    refine g_istore hC (lv1 := [(8, .int (nI j)), (6, .int (nI (s + 1))), (11, .int 1), (10, .int (nI j)), (9, .int an), (7, .int (nI u)), (5, .int rl), (3, .double le), (0, .ref q0), (1, .int (nI i)), (2, .int (nI sc))]) dX5_tune_129 (by decide) rfl ?_
                    refine g_iinc hC (v := nI (u + 1)) (lv1 := [(7, .int (nI (u + 1))), (8, .int (nI j)), (6, .int (nI (s + 1))), (11, .int 1), (10, .int (nI j)), (9, .int an), (5, .int rl), (3, .double le), (0, .ref q0), (1, .int (nI i)), (2, .int (nI sc))]) dX5_tune_131 5 rfl (by rw [nI_succ]; rfl) (by decide) rfl ?_
                    have hr : tRel (dv le) = 1 := by simp only [tRel, c42, if_true, Bool.false_eq_true, if_false]
                    have hi9 : tIs (nI j) (dv le, rl, nI s, lr, dv mn, dv mx, pe) = true := by simp [tIs, hr, eq_false c46, eq_false c47, eq_true c49]
                    have hri : tRise (nI j) (dv le, rl, nI s, lr, dv mn, dv mx, pe) = true := by simp [tRise, hr, hi9]
                    have hu0 : u = 0 := nI_z (by omega) c49
                    have hl0 : lr = 0 := Classical.byContradiction (fun q => absurd (hlr.mp q) (by omega))
                    have hj0 : ¬ nI j = 0 := fun q => c46 (by rw [q]; decide)
                    refine g_sub [4, 5, 1, 0, 2, 6, 7, 8, 9, 10, 3] rfl ?_
                    exact K134 f50 (s + 1) (u + 1) 1 (nI j) 0 hr.symm (Or.inl ⟨hi9, rfl⟩) (by unfold tLr; rw [if_pos hri]) (by unfold tPe; rw [if_pos hri, if_pos hl0]) (by omega) ⟨fun _ => by omega, fun _ => hj0⟩ (by have q := hM51; rwa [up2_2] at q) (FRm.trans hFR hR52)
                  · skip
                    refine g_iload hC dX5_tune_117 2 rfl ?_
                    refine g_iload hC dX5_tune_119 4 rfl ?_
                    refine g_isub hC dX5_tune_121 ?_
                    refine g_goto hC 126 dX5_tune_122 (by decide) ?_
                    refine g_mis hC hMF 23 (by decide) (by decide) hi16 dX5_tune_126 (fun f53 hM54 hR55 => ?_)
                    refine g_iload hC dX5_tune_127 2 rfl ?_
                    refine g_istore hC (lv1 := [(8, .int (nI j)), (6, .int (nI (s + 1))), (11, .int 1), (10, .int (nI j)), (9, .int an), (7, .int (nI u)), (5, .int rl), (3, .double le), (0, .ref q0), (1, .int (nI i)), (2, .int (nI sc))]) dX5_tune_129 (by decide) rfl ?_
                    refine g_iinc hC (v := nI (u + 1)) (lv1 := [(7, .int (nI (u + 1))), (8, .int (nI j)), (6, .int (nI (s + 1))), (11, .int 1), (10, .int (nI j)), (9, .int an), (5, .int rl), (3, .double le), (0, .ref q0), (1, .int (nI i)), (2, .int (nI sc))]) dX5_tune_131 5 rfl (by rw [nI_succ]; rfl) (by decide) rfl ?_
                    have hr : tRel (dv le) = 1 := by simp only [tRel, c42, if_true, Bool.false_eq_true, if_false]
                    have hi9 : tIs (nI j) (dv le, rl, nI s, lr, dv mn, dv mx, pe) = true := by simp [tIs, hr, eq_false c46, eq_false c47, eq_false c49]
                    have hri : tRise (nI j) (dv le, rl, nI s, lr, dv mn, dv mx, pe) = true := by simp [tRise, hr, hi9]
                    have hu0 : 0 < u := by rcases Nat.eq_zero_or_pos u with q | q; exact absurd (show nI u ≤ 0 by rw [q]; decide) c49; exact q
                    have hl0 : ¬ lr = 0 := hlr.mpr hu0
                    have hj0 : ¬ nI j = 0 := fun q => c46 (by rw [q]; decide)
                    refine g_sub [4, 5, 1, 0, 2, 6, 7, 8, 9, 10, 3] rfl ?_
                    exact K134 f53 (s + 1) (u + 1) 1 (nI j) ((nI j) - lr) hr.symm (Or.inl ⟨hi9, rfl⟩) (by unfold tLr; rw [if_pos hri]) (by unfold tPe; rw [if_pos hri, if_neg hl0]) (by omega) ⟨fun _ => by omega, fun _ => hj0⟩ (by have q := hM54; rwa [up2_2] at q) (FRm.trans hFR hR55)
        refine g_dconst0 hC dX5_tune_22 ?_
        refine g_dstore_n hC (lv1 := [(3, .double 0), (0, .ref q0), (1, .int (nI i)), (2, .int (nI sc))]) dX5_tune_23 (by decide) rfl ?_
        refine g_iconst hC 0 dX5_tune_24 (by decide) ?_
        refine g_istore hC (lv1 := [(5, .int 0), (3, .double 0), (0, .ref q0), (1, .int (nI i)), (2, .int (nI sc))]) dX5_tune_25 (by decide) rfl ?_
        refine g_iconst hC 0 dX5_tune_27 (by decide) ?_
        refine g_istore hC (lv1 := [(6, .int 0), (5, .int 0), (3, .double 0), (0, .ref q0), (1, .int (nI i)), (2, .int (nI sc))]) dX5_tune_28 (by decide) rfl ?_
        refine g_iconst hC 0 dX5_tune_30 (by decide) ?_
        refine g_istore hC (lv1 := [(7, .int 0), (6, .int 0), (5, .int 0), (3, .double 0), (0, .ref q0), (1, .int (nI i)), (2, .int (nI sc))]) dX5_tune_31 (by decide) rfl ?_
        refine g_iconst hC 0 dX5_tune_33 (by decide) ?_
        refine g_istore hC (lv1 := [(8, .int 0), (7, .int 0), (6, .int 0), (5, .int 0), (3, .double 0), (0, .ref q0), (1, .int (nI i)), (2, .int (nI sc))]) dX5_tune_34 (by decide) rfl ?_
        refine g_aload_n hC dX5_tune_36 5 rfl ?_
        refine g_get hC (kf := 22) (TT := TX5) (N := 26) (Cn := RX5) dX5_tune_37 (MI.m hM) (MI.o hM) rfl q_u5 (by decide) q_fl_X5_75 rfl rfl ?_
        refine g_iload_n hC dX5_tune_40 6 rfl ?_
        refine g_iconst hC 0 dX5_tune_41 (by decide) ?_
        refine g_mis hC hM 23 (by decide) (by decide) hi16 dX5_tune_42 (fun f56 hM57 hR58 => ?_)
        refine g_aload_n hC dX5_tune_43 5 rfl ?_
        refine g_get hC (kf := 20) (TT := TX5) (N := 26) (Cn := RX5) dX5_tune_44 (MI.m hM57) (MI.o hM57) rfl q_u5 (by decide) q_fl_X5_69 rfl rfl ?_
        refine g_iload_n hC dX5_tune_47 6 rfl ?_
        refine g_dconst0 hC dX5_tune_48 ?_
        refine g_mds hC hM57 16 (by decide) (by decide) hi16 dX5_tune_49 (fun f59 hM60 hR61 => ?_)
        refine g_aload_n hC dX5_tune_50 5 rfl ?_
        refine g_get hC (kf := 21) (TT := TX5) (N := 26) (Cn := RX5) dX5_tune_51 (MI.m hM60) (MI.o hM60) rfl q_u5 (by decide) q_fl_X5_72 rfl rfl ?_
        refine g_iload_n hC dX5_tune_54 6 rfl ?_
        refine g_dconst0 hC dX5_tune_55 ?_
        refine g_mds hC hM60 17 (by decide) (by decide) hi16 dX5_tune_56 (fun f62 hM63 hR64 => ?_)
        refine g_iconst hC 0 dX5_tune_57 (by decide) ?_
        refine g_istore hC (lv1 := [(9, .int 0), (8, .int 0), (7, .int 0), (6, .int 0), (5, .int 0), (3, .double 0), (0, .ref q0), (1, .int (nI i)), (2, .int (nI sc))]) dX5_tune_58 (by decide) rfl ?_
        refine g_iconst hC 0 dX5_tune_60 (by decide) ?_
        refine g_istore hC (lv1 := [(10, .int 0), (9, .int 0), (8, .int 0), (7, .int 0), (6, .int 0), (5, .int 0), (3, .double 0), (0, .ref q0), (1, .int (nI i)), (2, .int (nI sc))]) dX5_tune_61 (by decide) rfl ?_
        refine g_sub [0, 1, 2, 3, 4, 5, 6, 7, 8, 9] rfl ?_
        exact K sc 0 (Nat.zero_add _) f62 0 0 0 0 0 0 0 0 0 rfl rfl (Nat.le_refl _) (Nat.le_refl _) ⟨fun q => absurd rfl q, fun q => absurd q (by decide)⟩ hM63 (FRm.trans (FRm.trans hR58 hR61) hR64)
      · skip
        refine g_iconst hC (-1) dX5_tune_20 (by decide) ?_
        exact g_iret hC dX5_tune_21 rfl rfl ⟨rfl, Or.inl ⟨fun _ _ _ => by simp only [tunC, Bool.and_true, Bool.true_and, Bool.and_false, Bool.false_and, Bool.not_true, Bool.not_false, decide_true, decide_false, Bool.or_true, Bool.true_or, Bool.or_false, Bool.false_or, eq_false c5, eq_false c6], rfl, rfl⟩⟩ (Nat.zero_le _) (Nat.zero_le _)
