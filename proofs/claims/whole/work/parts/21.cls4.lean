def q5 (q q1 q2 q3 q4 : Nat) : Nat → Nat := fun t => if t = 0 then q else if t = 1 then q1 else if t = 2 then q2 else if t = 3 then q3 else q4
theorem q5_ok {L : List Nat} {q q1 q2 q3 q4 : Nat} (h0 : q ∉ L) (h1 : q1 ∉ L ++ [q]) (h2 : q2 ∉ (L ++ [q]) ++ [q1]) (h3 : q3 ∉ ((L ++ [q]) ++ [q1]) ++ [q2]) (h4 : q4 ∉ (((L ++ [q]) ++ [q1]) ++ [q2]) ++ [q3]) :
    (∀ t, t < 5 → q5 q q1 q2 q3 q4 t ∉ L ∧ q5 q q1 q2 q3 q4 t ∈ ((((L ++ [q]) ++ [q1]) ++ [q2]) ++ [q3]) ++ [q4]) ∧ (∀ t t1, t < 5 → t1 < 5 → q5 q q1 q2 q3 q4 t = q5 q q1 q2 q3 q4 t1 → t = t1) ∧ (∀ b, b ∈ L → b ≠ q ∧ b ≠ q1 ∧ b ≠ q2 ∧ b ≠ q3 ∧ b ≠ q4) ∧ (∀ b, b ∈ L → b ∈ ((((L ++ [q]) ++ [q1]) ++ [q2]) ++ [q3]) ++ [q4]) := by
  simp only [List.mem_append, List.mem_singleton, not_or] at h0 h1 h2 h3 h4
  obtain ⟨g1, g2⟩ := h1
  obtain ⟨⟨g3, g4⟩, g5⟩ := h2
  obtain ⟨⟨⟨g6, g7⟩, g8⟩, g9⟩ := h3
  obtain ⟨⟨⟨⟨k1, k2⟩, k3⟩, k4⟩, k5⟩ := h4
  refine ⟨fun t ht => ?_, fun t t1 ht ht1 he => ?_, fun b hb => ⟨fun z => h0 (z ▸ hb), fun z => g1 (z ▸ hb), fun z => g3 (z ▸ hb), fun z => g6 (z ▸ hb), fun z => k1 (z ▸ hb)⟩, fun b hb => by simp only [List.mem_append]; exact Or.inl (Or.inl (Or.inl (Or.inl (Or.inl hb))))⟩
  · rcases (by omega : t = 0 ∨ t = 1 ∨ t = 2 ∨ t = 3 ∨ t = 4) with rfl | rfl | rfl | rfl | rfl <;> simp [q5, *]
  · rcases (by omega : t = 0 ∨ t = 1 ∨ t = 2 ∨ t = 3 ∨ t = 4) with rfl | rfl | rfl | rfl | rfl <;> rcases (by omega : t1 = 0 ∨ t1 = 1 ∨ t1 = 2 ∨ t1 = 3 ∨ t1 = 4) with rfl | rfl | rfl | rfl | rfl <;> first | rfl | (exfalso; simp only [q5] at he; simp at he; first | exact g2 he.symm | exact g2 he | exact g4 he.symm | exact g4 he | exact g5 he.symm | exact g5 he | exact g7 he.symm | exact g7 he | exact g8 he.symm | exact g8 he | exact g9 he.symm | exact g9 he | exact k2 he.symm | exact k2 he | exact k3 he.symm | exact k3 he | exact k4 he.symm | exact k4 he | exact k5 he.symm | exact k5 he)
theorem FRc.of2 {L : List Nat} {f f1 : Nat → va_E} {x y : Nat} (h : ∀ b, b ∈ L → b ≠ x → b ≠ y → f1 b = f b) (hx : isM (f x) = false) (hy : isM (f y) = false) : FRc L f f1 := fun a ha hm => h a ha (fun z => by rw [z, hx] at hm; cases hm) (fun z => by rw [z, hy] at hm; cases hm)
def gnC (p i d : DT) : Bool := gainS p && (gainS i && gainS d)
set_option maxHeartbeats 4000000 in
set_option maxRecDepth 100000 in
/-- loop(p, i, d) -/
theorem ct_X4_loop (l : Launch) (G : GD) (L : List Nat) (f : Nat → va_E) {c : Nat → Nat → Nat} {n k : Nat} {X : Nat → Nat → UInt64} {XS : Nat → UInt64} {Z : Nat → Nat → Int32} {OU : Nat → Option Nat} {SL : Nat → Nat} (hI : CI G c n k X XS Z OU SL L f) (p i d : UInt64) : Ctr l yX4_loop cX4_loop 8 (some .int) { frames := 3, cells := 5, slots := 29, locals := 62 } G [.ref (c 6 0), .double p, .double i, .double d] L f (fun vv L1 f1 => (gnC (dv p) (dv i) (dv d) = false ∧ vv = some (.int (-1)) ∧ L = L1 ∧ f = f1) ∨ (gnC (dv p) (dv i) (dv d) = true ∧ ¬ n < 16 ∧ vv = some (.int (-2)) ∧ L = L1 ∧ f = f1) ∨ (gnC (dv p) (dv i) (dv d) = true ∧ n < 16 ∧ vv = some (.int (nI n)) ∧ (∀ b, b ∈ L → b ∈ L1) ∧ FRc L f f1 ∧ ∃ c1, c1 6 0 = c 6 0 ∧ CI G c1 (n + 1) k (va_up X n (xN p i d)) XS (va_up Z n (fun _ => 0)) (va_up OU n none) SL L1 f1)) := by
  refine g_enter RX4 false (by decide) rfl (fun h => by cases h) (Nat.le_of_ble_eq_true rfl) (fun C hC => ?_)
  refine (show V C 8 L f 0 0 0 [(0, .ref (c 6 0)), (1, .double p), (3, .double i), (5, .double d)] [] from ?_)
  refine g_dload_n hC dX4_loop_0 1 rfl ?_
  refine g_callS hC dX4_loop_1 (ct_X4_isGain l G L f p) q_code_X4_isGain q_ml_X4_21 q_st_X4_isGain q_init_X4 ⟨by decide, by decide, (show (parseMethodDescriptor yX4_isGain.desc).map (fun d => d.parameters.length) = some 1 from by decide +kernel)⟩ (by decide) (by decide) (Nat.le_of_ble_eq_true rfl) (fun v2 L3 f4 hp1 => ?_)
  obtain ⟨rfl, rfl, rfl⟩ := hp1
  refine (show V C 8 L f 0 0 4 [(0, .ref (c 6 0)), (1, .double p), (3, .double i), (5, .double d)] [.int (bI (gainS (dv p)))] from ?_)
  refine g_ifB_eq hC 22 dX4_loop_4 (by decide) (fun c5 => ?_) (fun c5 => ?_)
  · skip
    refine g_iconst hC (-1) dX4_loop_22 (by decide) ?_
    exact g_iret hC dX4_loop_23 rfl rfl (Or.inl ⟨by simp only [gnC, Bool.and_true, Bool.true_and, Bool.and_false, Bool.false_and, Bool.not_true, Bool.not_false, c5], rfl, rfl, rfl⟩) (Nat.zero_le _) (Nat.zero_le _)
  · skip
    refine g_dload_n hC dX4_loop_7 2 rfl ?_
    refine g_callS hC dX4_loop_8 (ct_X4_isGain l G L f i) q_code_X4_isGain q_ml_X4_21 q_st_X4_isGain q_init_X4 ⟨by decide, by decide, (show (parseMethodDescriptor yX4_isGain.desc).map (fun d => d.parameters.length) = some 1 from by decide +kernel)⟩ (by decide) (by decide) (Nat.le_of_ble_eq_true rfl) (fun v7 L8 f9 hp6 => ?_)
    obtain ⟨rfl, rfl, rfl⟩ := hp6
    refine (show V C 8 L f 0 0 11 [(0, .ref (c 6 0)), (1, .double p), (3, .double i), (5, .double d)] [.int (bI (gainS (dv i)))] from ?_)
    refine g_ifB_eq hC 22 dX4_loop_11 (by decide) (fun c10 => ?_) (fun c10 => ?_)
    · skip
      refine g_iconst hC (-1) dX4_loop_22 (by decide) ?_
      exact g_iret hC dX4_loop_23 rfl rfl (Or.inl ⟨by simp only [gnC, Bool.and_true, Bool.true_and, Bool.and_false, Bool.false_and, Bool.not_true, Bool.not_false, c5, c10], rfl, rfl, rfl⟩) (Nat.zero_le _) (Nat.zero_le _)
    · skip
      refine g_dload hC dX4_loop_14 3 rfl ?_
      refine g_callS hC dX4_loop_16 (ct_X4_isGain l G L f d) q_code_X4_isGain q_ml_X4_21 q_st_X4_isGain q_init_X4 ⟨by decide, by decide, (show (parseMethodDescriptor yX4_isGain.desc).map (fun d => d.parameters.length) = some 1 from by decide +kernel)⟩ (by decide) (by decide) (Nat.le_of_ble_eq_true rfl) (fun v12 L13 f14 hp11 => ?_)
      obtain ⟨rfl, rfl, rfl⟩ := hp11
      refine (show V C 8 L f 0 0 19 [(0, .ref (c 6 0)), (1, .double p), (3, .double i), (5, .double d)] [.int (bI (gainS (dv d)))] from ?_)
      refine g_ifB_ne hC 24 dX4_loop_19 (by decide) (fun c15 => ?_) (fun c15 => ?_)
      · skip
        refine g_aload_n hC dX4_loop_24 0 rfl ?_
        refine g_get hC (kf := 2) (TT := TX4) (N := 4) (Cn := RX4) dX4_loop_25 (CI.hm hI) (CI.h0 hI) rfl q_u4 (by decide) q_fl_X4_25 rfl rfl ?_
        refine g_aload_n hC dX4_loop_28 0 rfl ?_
        refine g_get hC (kf := 0) (TT := TX4) (N := 4) (Cn := RX4) dX4_loop_29 (CI.hm hI) (CI.h0 hI) rfl q_u4 (by decide) q_fl_X4_11 rfl rfl ?_
        refine g_alen hC 3 16 dX4_loop_32 (CI.lm hI) (CI.l0 hI) rfl (by decide) ?_
        refine g_icmp_lt hC 39 dX4_loop_33 (by decide) (fun c16 => ?_) (fun c16 => ?_)
        · skip
          have hn : n < 16 := (nI_ltI (b := 16) (by have := CI.n16 hI; omega) (by decide)).mp c16
          have hn16 := CI.n16 hI
          refine g_aload_n hC dX4_loop_39 0 rfl ?_
          refine g_get hC (kf := 2) (TT := TX4) (N := 4) (Cn := RX4) dX4_loop_40 (CI.hm hI) (CI.h0 hI) rfl q_u4 (by decide) q_fl_X4_25 rfl rfl ?_
          refine g_istore hC (lv1 := [(7, .int (nI n)), (0, .ref (c 6 0)), (1, .double p), (3, .double i), (5, .double d)]) dX4_loop_43 (by decide) rfl ?_
          refine g_aload_n hC dX4_loop_45 1 rfl ?_
          refine g_get hC (kf := 0) (TT := TX4) (N := 4) (Cn := RX4) dX4_loop_46 (CI.hm hI) (CI.h0 hI) rfl q_u4 (by decide) q_fl_X4_11 rfl rfl ?_
          refine g_iload hC dX4_loop_49 0 rfl ?_
          refine g_new hC (ci := 0) (N := 16) (Cn := RX0) (TT := TX0) (ty0 := tyX0) [.double 0, .double 0, .double 0, .null, .null, .null, .null, .double 0, .double 0, .double 0, .double 0, .double 0, .double 0, .int 0, .int 0, .null] dX4_loop_51 rfl q_u0 tyX0_ok q_cl_X4_9 q_inst_X0 q_init_X0 dfX0 (Nat.le_of_ble_eq_true rfl) (Nat.le_of_ble_eq_true rfl) (fun q17 hq17 => ?_)
          refine g_nm (fun f18 hf19 => ?_)
          have hx20 : f18 (c 6 0) = .inr (4, [.ref (c 6 1), .ref (c 6 2), .int (nI n), .int (nI k)]) := by rw [hf19, va_up_ne _ _ (ne_new (CI.hm hI) hq17)]; exact (CI.h0 hI)
          have hx21 : f18 q17 = .inr (0, [.double 0, .double 0, .double 0, .null, .null, .null, .null, .double 0, .double 0, .double 0, .double 0, .double 0, .double 0, .int 0, .int 0, .null]) := by rw [hf19]; exact va_up_self _ _ _
          have hx22 : f18 (c 6 1) = aRf G.2.2.2.2.1 (rowN n (c 0)) := by rw [hf19, va_up_ne _ _ (ne_new (CI.lm hI) hq17)]; exact (CI.l0 hI)
          have hF23 : f18 = va_up f q17 (.inr (0, [.double 0, .double 0, .double 0, .null, .null, .null, .null, .double 0, .double 0, .double 0, .double 0, .double 0, .double 0, .int 0, .int 0, .null])) := hf19
          refine (show V C 8 (L ++ [q17]) f18 1 16 54 [(7, .int (nI n)), (0, .ref (c 6 0)), (1, .double p), (3, .double i), (5, .double d)] [.ref q17, .int (nI n), .ref (c 6 1)] from ?_)
          refine g_dup hC dX4_loop_54 rfl ?_
          refine g_dload_n hC dX4_loop_55 2 rfl ?_
          refine g_dload_n hC dX4_loop_56 3 rfl ?_
          refine g_dload hC dX4_loop_57 4 rfl ?_
          refine g_callI hC dX4_loop_59 (ct_X0_init l G (L ++ [q17]) f18 q17 p i d mem_r hx21) q_code_X0_init q_ml_X4_29 q_im_X0_init q_init_X0 ⟨rfl, by decide, by decide, (show (parseMethodDescriptor yX0_init.desc).map (fun d => d.parameters.length) = some 3 from by decide +kernel)⟩ (by decide) (by decide) (Nat.le_of_ble_eq_true rfl) (fun v25 L26 f27 hp24 => ?_)
          obtain ⟨rfl, q1, q2, q3, q4, hn1, hn2, hn3, hn4, rfl, x0, x1, x2, x3, x4, xf⟩ := hp24
          have hy0 : f27 (c 6 0) = .inr (4, [.ref (c 6 1), .ref (c 6 2), .int (nI n), .int (nI k)]) := (xf _ (ne_new (CI.hm hI) hq17) (ne_new (mem_l (CI.hm hI)) hn1) (ne_new (mem_l (mem_l (CI.hm hI))) hn2) (ne_new (mem_l (mem_l (mem_l (CI.hm hI)))) hn3) (ne_new (mem_l (mem_l (mem_l (mem_l (CI.hm hI))))) hn4)).trans hx20
          have hy1 : f27 (c 6 1) = aRf G.2.2.2.2.1 (rowN n (c 0)) := (xf _ (ne_new (CI.lm hI) hq17) (ne_new (mem_l (CI.lm hI)) hn1) (ne_new (mem_l (mem_l (CI.lm hI))) hn2) (ne_new (mem_l (mem_l (mem_l (CI.lm hI)))) hn3) (ne_new (mem_l (mem_l (mem_l (mem_l (CI.lm hI))))) hn4)).trans hx22
          refine (show V C 8 (((((L ++ [q17]) ++ [q1]) ++ [q2]) ++ [q3]) ++ [q4]) f27 5 29 62 [(7, .int (nI n)), (0, .ref (c 6 0)), (1, .double p), (3, .double i), (5, .double d)] [.ref q17, .int (nI n), .ref (c 6 1)] from ?_)
          refine g_lastore hC dX4_loop_62 (mem_l (mem_l (mem_l (mem_l (mem_l (CI.lm hI)))))) hy1 (mem_l (mem_l (mem_l (mem_l mem_r)))) x0 (vp_in_nI (by omega) (by decide)) ?_
          rw [nI_clamp (by omega)]
          refine g_nm (fun f28 hf29 => ?_)
          have hx30 : f28 (c 6 0) = .inr (4, [.ref (c 6 1), .ref (c 6 2), .int (nI n), .int (nI k)]) := by rw [hf29, va_up_ne _ _ (fun z => by have z1 := hy0; rw [z, hy1] at z1; simp at z1)]; exact hy0
          have hx31 : f28 (c 6 1) = aRf G.2.2.2.2.1 (va_up (rowN n (c 0)) n (some q17)) := by rw [hf29]; exact va_up_self _ _ _
          have hF32 : f28 = va_up f27 (c 6 1) (aRf G.2.2.2.2.1 (va_up (rowN n (c 0)) n (some q17))) := hf29
          refine g_aload_n hC dX4_loop_63 1 rfl ?_
          refine g_iload hC dX4_loop_64 0 rfl ?_
          refine g_iconst hC 1 dX4_loop_66 (by decide) ?_
          refine g_iadd hC dX4_loop_67 ?_
          refine g_eqI (nI_1 n) ?_
          refine g_put hC (kf := 2) (TT := TX4) (N := 4) (Cn := RX4) (ty0 := tyX4) (fs1 := [.ref (c 6 1), .ref (c 6 2), .int (nI (n + 1)), .int (nI k)]) dX4_loop_68 (mem_l (mem_l (mem_l (mem_l (mem_l (CI.hm hI)))))) hx30 rfl q_u4 (by decide) tyX4_ok nmX4 q_fl_X4_25 rfl rfl rfl rfl rfl (Nat.le_of_ble_eq_true rfl) rfl ?_
          refine g_nm (fun f33 hf34 => ?_)
          have hx35 : f33 (c 6 0) = .inr (4, [.ref (c 6 1), .ref (c 6 2), .int (nI (n + 1)), .int (nI k)]) := by rw [hf34]; exact va_up_self _ _ _
          have hx36 : f33 (c 6 1) = aRf G.2.2.2.2.1 (va_up (rowN n (c 0)) n (some q17)) := by rw [hf34, va_up_ne _ _ (fun z => by have z1 := hx31; rw [z, hx30] at z1; simp at z1)]; exact hx31
          have hF37 : f33 = va_up (va_up f27 (c 6 1) (aRf G.2.2.2.2.1 (va_up (rowN n (c 0)) n (some q17)))) (c 6 0) (.inr (4, [.ref (c 6 1), .ref (c 6 2), .int (nI (n + 1)), .int (nI k)])) := by rw [hf34, hF32]
          refine g_iload hC dX4_loop_71 0 rfl ?_
          have hq5 := q5_ok hq17 hn1 hn2 hn3 hn4
          have hfr : ∀ b, b ∈ L → b ≠ c 6 0 → b ≠ c 6 1 → f33 b = f b := by
            intro b hb n0 n1
            have hb5 := hq5.2.2.1 b hb
            rw [hF37, va_up_ne _ _ n0, va_up_ne _ _ n1, xf b hb5.1 hb5.2.1 hb5.2.2.1 hb5.2.2.2.1 hb5.2.2.2.2, hF23, va_up_ne _ _ hb5.1]
          have yx0 : f33 q17 = eLp (xI p i d) 0 0 q1 q2 q3 q4 none := (by rw [hF37, va_up_ne _ _ (fun z => by have z1 := x0; rw [z, hy0] at z1; cases z1), va_up_ne _ _ (fun z => by have z1 := x0; rw [z, hy1] at z1; cases z1)]; exact x0)
          have yx1 : f33 q1 = eSp 0 4636737291354636288 := (by rw [hF37, va_up_ne _ _ (fun z => by have z1 := x1; rw [z, hy0] at z1; cases z1), va_up_ne _ _ (fun z => by have z1 := x1; rw [z, hy1] at z1; cases z1)]; exact x1)
          have yx2 : f33 q2 = eSp 13830554455654793216 4607182418800017408 := (by rw [hF37, va_up_ne _ _ (fun z => by have z1 := x2; rw [z, hy0] at z1; cases z1), va_up_ne _ _ (fun z => by have z1 := x2; rw [z, hy1] at z1; cases z1)]; exact x2)
          have yx3 : f33 q3 = eSp 13920209183539462144 4696837146684686336 := (by rw [hF37, va_up_ne _ _ (fun z => by have z1 := x3; rw [z, hy0] at z1; cases z1), va_up_ne _ _ (fun z => by have z1 := x3; rw [z, hy1] at z1; cases z1)]; exact x3)
          have yx4 : f33 q4 = eTn 0 0 0 0 0 0 0 := (by rw [hF37, va_up_ne _ _ (fun z => by have z1 := x4; rw [z, hy0] at z1; cases z1), va_up_ne _ _ (fun z => by have z1 := x4; rw [z, hy1] at z1; cases z1)]; exact x4)
          refine g_iret hC dX4_loop_73 rfl rfl (Or.inr (Or.inr ⟨by simp only [gnC, Bool.and_true, Bool.true_and, Bool.and_false, Bool.false_and, Bool.not_true, Bool.not_false, c5, c10, c15, eq_true c16], hn, rfl, hq5.2.2.2, FRc.of2 hfr (by rw [CI.h0 hI]; rfl) (by rw [CI.l0 hI]; rfl), cN c n (q5 q17 q1 q2 q3 q4), cN_5 (by decide), ?_⟩)) (Nat.le_of_ble_eq_true rfl) (Nat.le_of_ble_eq_true rfl)
          exact CI.newloop hI hn (q5 q17 q1 q2 q3 q4) p i d hq5.2.2.2 hq5.1 hq5.2.1 hx35 (by rw [hF37, va_up_ne _ _ (fun z => by have z1 := hy0; rw [← z, hy1] at z1; cases z1)]; exact va_up_self _ _ _) hfr yx0 yx1 yx2 yx3 yx4
        · skip
          have hn16 := CI.n16 hI
          refine g_bipush hC (-2) dX4_loop_36 (by decide) ?_
          exact g_iret hC dX4_loop_38 rfl rfl (Or.inr (Or.inl ⟨by simp only [gnC, Bool.and_true, Bool.true_and, Bool.and_false, Bool.false_and, Bool.not_true, Bool.not_false, c5, c10, c15, eq_false c16], fun hn => c16 (show nI n < nI 16 from (nI_ltI (by omega) (by decide)).mpr hn), rfl, rfl, rfl⟩)) (Nat.zero_le _) (Nat.zero_le _)
      · skip
        refine g_iconst hC (-1) dX4_loop_22 (by decide) ?_
        exact g_iret hC dX4_loop_23 rfl rfl (Or.inl ⟨by simp only [gnC, Bool.and_true, Bool.true_and, Bool.and_false, Bool.false_and, Bool.not_true, Bool.not_false, c5, c10, c15], rfl, rfl, rfl⟩) (Nat.zero_le _) (Nat.zero_le _)
set_option maxHeartbeats 4000000 in
set_option maxRecDepth 100000 in
/-- split(loop, at) -/
theorem ct_X4_split (l : Launch) (G : GD) (L : List Nat) (f : Nat → va_E) {c : Nat → Nat → Nat} {n k : Nat} {X : Nat → Nat → UInt64} {XS : Nat → UInt64} {Z : Nat → Nat → Int32} {OU : Nat → Option Nat} {SL : Nat → Nat} (hI : CI G c n k X XS Z OU SL L f) (kx : Int32) (at0 : UInt64) : Ctr l yX4_split cX4_split 6 (some .int) { frames := 2, cells := 1, slots := 2, locals := 37 } G [.ref (c 6 0), .int kx, .double at0] L f (fun vv L1 f1 => ((∀ i, i < n → kx = nI i → inS (dv at0) (dv (X i 9)) (dv (X i 10)) = false) ∧ vv = some (.int (-1)) ∧ L = L1 ∧ f = f1) ∨ (∃ i, i < n ∧ kx = nI i ∧ inS (dv at0) (dv (X i 9)) (dv (X i 10)) = true ∧ ¬ k < 16 ∧ vv = some (.int (-2)) ∧ L = L1 ∧ f = f1) ∨ (∃ i, i < n ∧ kx = nI i ∧ inS (dv at0) (dv (X i 9)) (dv (X i 10)) = true ∧ k < 16 ∧ vv = some (.int (nI k)) ∧ (∀ b, b ∈ L → b ∈ L1) ∧ FRc L f f1 ∧ ∃ c1, c1 6 0 = c 6 0 ∧ CI G c1 n (k + 1) X (va_up XS k at0) Z OU (va_up SL k i) L1 f1)) := by
  refine g_enter RX4 false (by decide) rfl (fun h => by cases h) (Nat.le_of_ble_eq_true rfl) (fun C hC => ?_)
  refine (show V C 6 L f 0 0 0 [(0, .ref (c 6 0)), (1, .int kx), (2, .double at0)] [] from ?_)
  refine g_aload_n hC dX4_split_0 0 rfl ?_
  refine g_iload_n hC dX4_split_1 1 rfl ?_
  refine g_callV hC (Cn := RX4) (TT := TX4) (N := 4) dX4_split_2 (ct_X4_findLoop l G L f hI kx) q_code_X4_findLoop q_ml_X4_32 q_im_X4_findLoop q_sel_X4_findLoop q_init_X4 ⟨rfl, by decide, by decide, (show (parseMethodDescriptor yX4_findLoop.desc).map (fun d => d.parameters.length) = some 1 from by decide +kernel)⟩ (CI.hm hI) (CI.h0 hI) rfl (by decide) (by decide) (Nat.le_of_ble_eq_true rfl) (fun v2 L3 f4 hp1 => ?_)
  obtain ⟨rfl, rfl, ⟨rfl, hno_i⟩ | ⟨i, hi, rfl, rfl⟩⟩ := hp1
  · refine (show V C 6 L f 0 0 5 [(0, .ref (c 6 0)), (1, .int kx), (2, .double at0)] [.null] from ?_)
    refine g_astoreN hC (lv1 := [(4, .null), (0, .ref (c 6 0)), (1, .int kx), (2, .double at0)]) dX4_split_5 (by decide) rfl ?_
    refine g_aloadN hC dX4_split_7 0 rfl ?_
    refine g_ifnullN hC 24 dX4_split_9 (by decide) ?_
    refine g_iconst hC (-1) dX4_split_24 (by decide) ?_
    exact g_iret hC dX4_split_25 rfl rfl (Or.inl ⟨fun j hj q => absurd q (hno_i j hj), rfl, rfl, rfl⟩) (Nat.zero_le _) (Nat.zero_le _)
  · refine (show V C 6 L f 0 0 5 [(0, .ref (c 6 0)), (1, .int (nI i)), (2, .double at0)] [.ref (c 0 i)] from ?_)
    refine g_astore hC (lv1 := [(4, .ref (c 0 i)), (0, .ref (c 6 0)), (1, .int (nI i)), (2, .double at0)]) dX4_split_5 (by decide) rfl ?_
    refine g_aload hC dX4_split_7 0 rfl ?_
    refine g_ifnull hC dX4_split_9 ?_
    refine g_aload hC dX4_split_12 0 rfl ?_
    refine g_getN hC (kf := 3) (TT := TX0) (N := 16) (Cn := RX0) dX4_split_14 (CI.lp hI hi).1.1 (CI.lp hI hi).1.2 rfl q_u0 (by decide) q_fn_X4_46 rfl rfl ?_
    refine g_dload_n hC dX4_split_17 3 rfl ?_
    refine g_callV hC (Cn := RX1) (TT := TX1) (N := 2) dX4_split_18 (ct_X1_holdsInside l G L f (c 1 i) (X i 9) (X i 10) at0 (CI.lp hI hi).2.1.1 (CI.lp hI hi).2.1.2) q_code_X1_holdsInside q_ml_X4_95 q_im_X1_holdsInside q_sel_X1_holdsInside q_init_X1 ⟨rfl, by decide, by decide, (show (parseMethodDescriptor yX1_holdsInside.desc).map (fun d => d.parameters.length) = some 1 from by decide +kernel)⟩ (CI.lp hI hi).2.1.1 (CI.lp hI hi).2.1.2 rfl (by decide) (by decide) (Nat.le_of_ble_eq_true rfl) (fun v6 L7 f8 hp5 => ?_)
    obtain ⟨rfl, rfl, rfl⟩ := hp5
    refine (show V C 6 L f 0 0 21 [(4, .ref (c 0 i)), (0, .ref (c 6 0)), (1, .int (nI i)), (2, .double at0)] [.int (bI (inS (dv at0) (dv (X i 9)) (dv (X i 10))))] from ?_)
    refine g_ifB_ne hC 26 dX4_split_21 (by decide) (fun c9 => ?_) (fun c9 => ?_)
    · skip
      have hk16 := CI.k16 hI
      refine g_aload_n hC dX4_split_26 1 rfl ?_
      refine g_get hC (kf := 3) (TT := TX4) (N := 4) (Cn := RX4) dX4_split_27 (CI.hm hI) (CI.h0 hI) rfl q_u4 (by decide) q_fl_X4_98 rfl rfl ?_
      refine g_aload_n hC dX4_split_30 1 rfl ?_
      refine g_get hC (kf := 1) (TT := TX4) (N := 4) (Cn := RX4) dX4_split_31 (CI.hm hI) (CI.h0 hI) rfl q_u4 (by decide) q_fl_X4_17 rfl rfl ?_
      refine g_alen hC 4 16 dX4_split_34 (CI.sm hI) (CI.s0 hI) rfl (by decide) ?_
      refine g_icmp_lt hC 41 dX4_split_35 (by decide) (fun c10 => ?_) (fun c10 => ?_)
      · skip
        have hk : k < 16 := (nI_ltI (b := 16) (by omega) (by decide)).mp c10
        refine g_aload_n hC dX4_split_41 1 rfl ?_
        refine g_get hC (kf := 3) (TT := TX4) (N := 4) (Cn := RX4) dX4_split_42 (CI.hm hI) (CI.h0 hI) rfl q_u4 (by decide) q_fl_X4_98 rfl rfl ?_
        refine g_istore hC (lv1 := [(5, .int (nI k)), (4, .ref (c 0 i)), (0, .ref (c 6 0)), (1, .int (nI i)), (2, .double at0)]) dX4_split_45 (by decide) rfl ?_
        refine g_aload_n hC dX4_split_47 2 rfl ?_
        refine g_get hC (kf := 1) (TT := TX4) (N := 4) (Cn := RX4) dX4_split_48 (CI.hm hI) (CI.h0 hI) rfl q_u4 (by decide) q_fl_X4_17 rfl rfl ?_
        refine g_iload hC dX4_split_51 0 rfl ?_
        refine g_new hC (ci := 2) (N := 2) (Cn := RX2) (TT := TX2) (ty0 := tyX2) [.null, .double 0] dX4_split_53 rfl q_u2 tyX2_ok q_cl_X4_15 q_inst_X2 q_init_X2 dfX2 (Nat.le_of_ble_eq_true rfl) (Nat.le_of_ble_eq_true rfl) (fun q11 hq11 => ?_)
        refine g_nm (fun f12 hf13 => ?_)
        have hx14 : f12 (c 6 0) = .inr (4, [.ref (c 6 1), .ref (c 6 2), .int (nI n), .int (nI k)]) := by rw [hf13, va_up_ne _ _ (ne_new (CI.hm hI) hq11)]; exact (CI.h0 hI)
        have hx15 : f12 (c 0 i) = .inr (0, [.double ((X i) 0), .double ((X i) 1), .double ((X i) 2), .ref (c 1 i), .ref (c 2 i), .ref (c 3 i), .ref (c 4 i), .double ((X i) 3), .double ((X i) 4), .double ((X i) 5), .double ((X i) 6), .double ((X i) 7), .double ((X i) 8), .int (Z i 0), .int (Z i 1), va_rf ((OU i).map (c 0))]) := by rw [hf13, va_up_ne _ _ (ne_new (CI.lp hI hi).1.1 hq11)]; exact (CI.lp hI hi).1.2
        have hx16 : f12 (c 1 i) = .inr (1, [.double (X i 9), .double (X i 10)]) := by rw [hf13, va_up_ne _ _ (ne_new (CI.lp hI hi).2.1.1 hq11)]; exact (CI.lp hI hi).2.1.2
        have hx17 : f12 (c 2 i) = .inr (1, [.double (X i 11), .double (X i 12)]) := by rw [hf13, va_up_ne _ _ (ne_new (CI.lp hI hi).2.2.1.1 hq11)]; exact (CI.lp hI hi).2.2.1.2
        have hx18 : f12 (c 3 i) = .inr (1, [.double (X i 13), .double (X i 14)]) := by rw [hf13, va_up_ne _ _ (ne_new (CI.lp hI hi).2.2.2.1.1 hq11)]; exact (CI.lp hI hi).2.2.2.1.2
        have hx19 : f12 (c 4 i) = .inr (3, [.double (X i 15), .int (Z i 2), .int (Z i 3), .int (Z i 4), .double (X i 16), .double (X i 17), .int (Z i 5)]) := by rw [hf13, va_up_ne _ _ (ne_new (CI.lp hI hi).2.2.2.2.1 hq11)]; exact (CI.lp hI hi).2.2.2.2.2
        have hx20 : f12 q11 = .inr (2, [.null, .double 0]) := by rw [hf13]; exact va_up_self _ _ _
        have hx21 : f12 (c 6 2) = aRf G.2.2.2.2.2 (rowN k (c 5)) := by rw [hf13, va_up_ne _ _ (ne_new (CI.sm hI) hq11)]; exact (CI.s0 hI)
        have hF22 : f12 = va_up f q11 (.inr (2, [.null, .double 0])) := hf13
        refine (show V C 6 (L ++ [q11]) f12 1 2 56 [(5, .int (nI k)), (4, .ref (c 0 i)), (0, .ref (c 6 0)), (1, .int (nI i)), (2, .double at0)] [.ref q11, .int (nI k), .ref (c 6 2)] from ?_)
        refine g_dup hC dX4_split_56 rfl ?_
        refine g_aload hC dX4_split_57 1 rfl ?_
        refine g_dload_n hC dX4_split_59 4 rfl ?_
        refine g_callI hC dX4_split_60 (ct_X2_init l G (L ++ [q11]) f12 q11 (c 0 i) at0 mem_r hx20) q_code_X2_init q_ml_X4_101 q_im_X2_init q_init_X2 ⟨rfl, by decide, by decide, (show (parseMethodDescriptor yX2_init.desc).map (fun d => d.parameters.length) = some 2 from by decide +kernel)⟩ (by decide) (by decide) (Nat.le_of_ble_eq_true rfl) (fun v24 L25 f26 hp23 => ?_)
        obtain ⟨rfl, rfl, hf27⟩ := hp23
        have hx28 : f26 (c 6 0) = .inr (4, [.ref (c 6 1), .ref (c 6 2), .int (nI n), .int (nI k)]) := by rw [hf27, va_up_ne _ _ (ne_new (CI.hm hI) hq11)]; exact hx14
        have hx29 : f26 (c 0 i) = .inr (0, [.double ((X i) 0), .double ((X i) 1), .double ((X i) 2), .ref (c 1 i), .ref (c 2 i), .ref (c 3 i), .ref (c 4 i), .double ((X i) 3), .double ((X i) 4), .double ((X i) 5), .double ((X i) 6), .double ((X i) 7), .double ((X i) 8), .int (Z i 0), .int (Z i 1), va_rf ((OU i).map (c 0))]) := by rw [hf27, va_up_ne _ _ (ne_new (CI.lp hI hi).1.1 hq11)]; exact hx15
        have hx30 : f26 (c 1 i) = .inr (1, [.double (X i 9), .double (X i 10)]) := by rw [hf27, va_up_ne _ _ (ne_new (CI.lp hI hi).2.1.1 hq11)]; exact hx16
        have hx31 : f26 (c 2 i) = .inr (1, [.double (X i 11), .double (X i 12)]) := by rw [hf27, va_up_ne _ _ (ne_new (CI.lp hI hi).2.2.1.1 hq11)]; exact hx17
        have hx32 : f26 (c 3 i) = .inr (1, [.double (X i 13), .double (X i 14)]) := by rw [hf27, va_up_ne _ _ (ne_new (CI.lp hI hi).2.2.2.1.1 hq11)]; exact hx18
        have hx33 : f26 (c 4 i) = .inr (3, [.double (X i 15), .int (Z i 2), .int (Z i 3), .int (Z i 4), .double (X i 16), .double (X i 17), .int (Z i 5)]) := by rw [hf27, va_up_ne _ _ (ne_new (CI.lp hI hi).2.2.2.2.1 hq11)]; exact hx19
        have hx34 : f26 q11 = .inr (2, [.ref (c 0 i), .double at0]) := by rw [hf27]; exact va_up_self _ _ _
        have hx35 : f26 (c 6 2) = aRf G.2.2.2.2.2 (rowN k (c 5)) := by rw [hf27, va_up_ne _ _ (ne_new (CI.sm hI) hq11)]; exact hx21
        have hF36 : f26 = va_up f q11 (.inr (2, [.ref (c 0 i), .double at0])) := by rw [hf27, hF22, va_up_up]
        refine (show V C 6 (L ++ [q11]) f26 1 2 63 [(5, .int (nI k)), (4, .ref (c 0 i)), (0, .ref (c 6 0)), (1, .int (nI i)), (2, .double at0)] [.ref q11, .int (nI k), .ref (c 6 2)] from ?_)
        refine g_pastore hC dX4_split_63 (mem_l (CI.sm hI)) hx35 mem_r hx34 (vp_in_nI (by omega) (by decide)) ?_
        rw [nI_clamp (by omega)]
        refine g_nm (fun f37 hf38 => ?_)
        have hx39 : f37 (c 6 0) = .inr (4, [.ref (c 6 1), .ref (c 6 2), .int (nI n), .int (nI k)]) := by rw [hf38, va_up_ne _ _ (fun z => by have z1 := hx28; rw [z, hx35] at z1; simp at z1)]; exact hx28
        have hx40 : f37 (c 0 i) = .inr (0, [.double ((X i) 0), .double ((X i) 1), .double ((X i) 2), .ref (c 1 i), .ref (c 2 i), .ref (c 3 i), .ref (c 4 i), .double ((X i) 3), .double ((X i) 4), .double ((X i) 5), .double ((X i) 6), .double ((X i) 7), .double ((X i) 8), .int (Z i 0), .int (Z i 1), va_rf ((OU i).map (c 0))]) := by rw [hf38, va_up_ne _ _ (fun z => by have z1 := hx29; rw [z, hx35] at z1; simp at z1)]; exact hx29
        have hx41 : f37 (c 1 i) = .inr (1, [.double (X i 9), .double (X i 10)]) := by rw [hf38, va_up_ne _ _ (fun z => by have z1 := hx30; rw [z, hx35] at z1; simp at z1)]; exact hx30
        have hx42 : f37 (c 2 i) = .inr (1, [.double (X i 11), .double (X i 12)]) := by rw [hf38, va_up_ne _ _ (fun z => by have z1 := hx31; rw [z, hx35] at z1; simp at z1)]; exact hx31
        have hx43 : f37 (c 3 i) = .inr (1, [.double (X i 13), .double (X i 14)]) := by rw [hf38, va_up_ne _ _ (fun z => by have z1 := hx32; rw [z, hx35] at z1; simp at z1)]; exact hx32
        have hx44 : f37 (c 4 i) = .inr (3, [.double (X i 15), .int (Z i 2), .int (Z i 3), .int (Z i 4), .double (X i 16), .double (X i 17), .int (Z i 5)]) := by rw [hf38, va_up_ne _ _ (fun z => by have z1 := hx33; rw [z, hx35] at z1; simp at z1)]; exact hx33
        have hx45 : f37 q11 = .inr (2, [.ref (c 0 i), .double at0]) := by rw [hf38, va_up_ne _ _ (Ne.symm (ne_new (CI.sm hI) hq11))]; exact hx34
        have hx46 : f37 (c 6 2) = aRf G.2.2.2.2.2 (va_up (rowN k (c 5)) k (some q11)) := by rw [hf38]; exact va_up_self _ _ _
        have hF47 : f37 = va_up (va_up f q11 (.inr (2, [.ref (c 0 i), .double at0]))) (c 6 2) (aRf G.2.2.2.2.2 (va_up (rowN k (c 5)) k (some q11))) := by rw [hf38, hF36]
        refine g_aload_n hC dX4_split_64 2 rfl ?_
        refine g_iload hC dX4_split_65 0 rfl ?_
        refine g_iconst hC 1 dX4_split_67 (by decide) ?_
        refine g_iadd hC dX4_split_68 ?_
        refine g_eqI (nI_1 k) ?_
        refine g_put hC (kf := 3) (TT := TX4) (N := 4) (Cn := RX4) (ty0 := tyX4) (fs1 := [.ref (c 6 1), .ref (c 6 2), .int (nI n), .int (nI (k + 1))]) dX4_split_69 (mem_l (CI.hm hI)) hx39 rfl q_u4 (by decide) tyX4_ok nmX4 q_fl_X4_98 rfl rfl rfl rfl rfl (Nat.le_of_ble_eq_true rfl) rfl ?_
        refine g_nm (fun f48 hf49 => ?_)
        have hx50 : f48 (c 6 0) = .inr (4, [.ref (c 6 1), .ref (c 6 2), .int (nI n), .int (nI (k + 1))]) := by rw [hf49]; exact va_up_self _ _ _
        have hx51 : f48 (c 0 i) = .inr (0, [.double ((X i) 0), .double ((X i) 1), .double ((X i) 2), .ref (c 1 i), .ref (c 2 i), .ref (c 3 i), .ref (c 4 i), .double ((X i) 3), .double ((X i) 4), .double ((X i) 5), .double ((X i) 6), .double ((X i) 7), .double ((X i) 8), .int (Z i 0), .int (Z i 1), va_rf ((OU i).map (c 0))]) := by rw [hf49, va_up_ne _ _ (fun z => by have z1 := hx40; rw [z, hx39] at z1; simp at z1)]; exact hx40
        have hx52 : f48 (c 1 i) = .inr (1, [.double (X i 9), .double (X i 10)]) := by rw [hf49, va_up_ne _ _ (fun z => by have z1 := hx41; rw [z, hx39] at z1; simp at z1)]; exact hx41
        have hx53 : f48 (c 2 i) = .inr (1, [.double (X i 11), .double (X i 12)]) := by rw [hf49, va_up_ne _ _ (fun z => by have z1 := hx42; rw [z, hx39] at z1; simp at z1)]; exact hx42
        have hx54 : f48 (c 3 i) = .inr (1, [.double (X i 13), .double (X i 14)]) := by rw [hf49, va_up_ne _ _ (fun z => by have z1 := hx43; rw [z, hx39] at z1; simp at z1)]; exact hx43
        have hx55 : f48 (c 4 i) = .inr (3, [.double (X i 15), .int (Z i 2), .int (Z i 3), .int (Z i 4), .double (X i 16), .double (X i 17), .int (Z i 5)]) := by rw [hf49, va_up_ne _ _ (fun z => by have z1 := hx44; rw [z, hx39] at z1; simp at z1)]; exact hx44
        have hx56 : f48 q11 = .inr (2, [.ref (c 0 i), .double at0]) := by rw [hf49, va_up_ne _ _ (Ne.symm (ne_new (CI.hm hI) hq11))]; exact hx45
        have hx57 : f48 (c 6 2) = aRf G.2.2.2.2.2 (va_up (rowN k (c 5)) k (some q11)) := by rw [hf49, va_up_ne _ _ (fun z => by have z1 := hx46; rw [z, hx39] at z1; simp at z1)]; exact hx46
        have hF58 : f48 = va_up (va_up (va_up f q11 (.inr (2, [.ref (c 0 i), .double at0]))) (c 6 2) (aRf G.2.2.2.2.2 (va_up (rowN k (c 5)) k (some q11)))) (c 6 0) (.inr (4, [.ref (c 6 1), .ref (c 6 2), .int (nI n), .int (nI (k + 1))])) := by rw [hf49, hF47]
        refine g_iload hC dX4_split_72 0 rfl ?_
        have hfr : ∀ b, b ∈ L → b ≠ c 6 0 → b ≠ c 6 2 → f48 b = f b := by
          intro b hb n0 n1
          rw [hF58, va_up_ne _ _ n0, va_up_ne _ _ n1, va_up_ne _ _ (ne_new hb hq11)]
        refine g_iret hC dX4_split_74 rfl rfl (Or.inr (Or.inr ⟨i, hi, rfl, c9, hk, rfl, fun b hb => mem_l hb, FRc.of2 hfr (by rw [CI.h0 hI]; rfl) (by rw [CI.s0 hI]; rfl), cS c k q11, cS_n5 (by decide), ?_⟩)) (Nat.le_of_ble_eq_true rfl) (Nat.le_of_ble_eq_true rfl)
        exact CI.newsplit hI hk q11 i hi at0 (fun b hb => mem_l hb) mem_r hx50 hx57 hfr hx56
      · skip
        refine g_bipush hC (-2) dX4_split_38 (by decide) ?_
        exact g_iret hC dX4_split_40 rfl rfl (Or.inr (Or.inl ⟨i, hi, rfl, c9, fun hn => c10 (show nI k < nI 16 from (nI_ltI (by omega) (by decide)).mpr hn), rfl, rfl, rfl⟩)) (Nat.zero_le _) (Nat.zero_le _)
    · skip
      refine g_iconst hC (-1) dX4_split_24 (by decide) ?_
      exact g_iret hC dX4_split_25 rfl rfl (Or.inl ⟨fun j hj q => by have q1 := nI_injL (by have := CI.n16 hI; omega) (by have := CI.n16 hI; omega) q; subst q1; exact c9, rfl, rfl, rfl⟩) (Nat.zero_le _) (Nat.zero_le _)
set_option maxHeartbeats 4000000 in
set_option maxRecDepth 100000 in
/-- LoopLaws() -/
theorem ct_X4_init (l : Launch) (G : GD) (L : List Nat) (f : Nat → va_E) (a : Nat) (hL_a : a ∈ L) (h0 : f a = .inr (4, [.null, .null, .int 0, .int 0])) : Ctr l yX4_init cX4_init 1 none { frames := 1, cells := 2, slots := 32, locals := 12 } G [.ref a] L f (fun vv L1 f1 => vv = none ∧ (∀ b, b ∈ L → b ∈ L1) ∧ (∀ b, b ∈ L → b ≠ a → f1 b = f b) ∧ ∃ c : Nat → Nat → Nat, c 6 0 = a ∧ ∀ (X : Nat → Nat → UInt64) (XS : Nat → UInt64) (Z : Nat → Nat → Int32) (OU : Nat → Option Nat) (SL : Nat → Nat), CI G c 0 0 X XS Z OU SL L1 f1) := by
  refine g_enter RX4 true (by decide) rfl (fun _ => rfl) (Nat.le_of_ble_eq_true rfl) (fun C hC => ?_)
  refine (show V C 1 L f 0 0 0 [(0, .ref a)] [] from ?_)
  refine g_aload_n hC dX4_init_0 0 rfl ?_
  refine g_objInit hC dX4_init_1 q_ml_X4_1 (by decide) (by decide) ?_
  refine g_aload_n hC dX4_init_4 0 rfl ?_
  refine g_bipush hC 16 dX4_init_5 (by decide) ?_
  refine g_newL hC dX4_init_7 q_cl_X4_9 (Nat.le_of_ble_eq_true rfl) (Nat.le_of_ble_eq_true rfl) (fun q1 hq1 => ?_)
  refine g_nm (fun f2 hf3 => ?_)
  have hx4 : f2 a = .inr (4, [.null, .null, .int 0, .int 0]) := by rw [hf3, va_up_ne _ _ (ne_new hL_a hq1)]; exact h0
  have hx5 : f2 q1 = aRf G.2.2.2.2.1 (fun _ => none) := by rw [hf3]; exact va_up_self _ _ _
  have hF6 : f2 = va_up f q1 (aRf G.2.2.2.2.1 (fun _ => none)) := hf3
  refine (show V C 1 (L ++ [q1]) f2 1 16 10 [(0, .ref a)] [.ref q1, .ref a] from ?_)
  refine g_putF hC (kf := 0) (TT := TX4) (N := 4) (Cn := RX4) (ty0 := tyX4) (fs1 := [.ref q1, .null, .int 0, .int 0]) dX4_init_10 (mem_l hL_a) hx4 rfl q_u4 (by decide) tyX4_ok nmX4 q_fl_X4_11 rfl rfl rfl rfl rfl rfl rfl (Nat.le_of_ble_eq_true rfl) rfl ?_
  refine g_nm (fun f7 hf8 => ?_)
  have hx9 : f7 a = .inr (4, [.ref q1, .null, .int 0, .int 0]) := by rw [hf8]; exact va_up_self _ _ _
  have hx10 : f7 q1 = aRf G.2.2.2.2.1 (fun _ => none) := by rw [hf8, va_up_ne _ _ (Ne.symm (ne_new hL_a hq1))]; exact hx5
  have hF11 : f7 = va_up (va_up f q1 (aRf G.2.2.2.2.1 (fun _ => none))) a (.inr (4, [.ref q1, .null, .int 0, .int 0])) := by rw [hf8, hF6]
  refine g_aload_n hC dX4_init_13 0 rfl ?_
  refine g_bipush hC 16 dX4_init_14 (by decide) ?_
  refine g_newP hC dX4_init_16 q_cl_X4_15 (Nat.le_of_ble_eq_true rfl) (Nat.le_of_ble_eq_true rfl) (fun q12 hq12 => ?_)
  refine g_nm (fun f13 hf14 => ?_)
  have hx15 : f13 a = .inr (4, [.ref q1, .null, .int 0, .int 0]) := by rw [hf14, va_up_ne _ _ (ne_new (mem_l hL_a) hq12)]; exact hx9
  have hx16 : f13 q1 = aRf G.2.2.2.2.1 (fun _ => none) := by rw [hf14, va_up_ne _ _ (ne_new mem_r hq12)]; exact hx10
  have hx17 : f13 q12 = aRf G.2.2.2.2.2 (fun _ => none) := by rw [hf14]; exact va_up_self _ _ _
  have hF18 : f13 = va_up (va_up (va_up f q1 (aRf G.2.2.2.2.1 (fun _ => none))) a (.inr (4, [.ref q1, .null, .int 0, .int 0]))) q12 (aRf G.2.2.2.2.2 (fun _ => none)) := by rw [hf14, hF11]
  refine (show V C 1 ((L ++ [q1]) ++ [q12]) f13 2 32 19 [(0, .ref a)] [.ref q12, .ref a] from ?_)
  refine g_putF hC (kf := 1) (TT := TX4) (N := 4) (Cn := RX4) (ty0 := tyX4) (fs1 := [.ref q1, .ref q12, .int 0, .int 0]) dX4_init_19 (mem_l (mem_l hL_a)) hx15 rfl q_u4 (by decide) tyX4_ok nmX4 q_fl_X4_17 rfl rfl rfl rfl rfl rfl rfl (Nat.le_of_ble_eq_true rfl) rfl ?_
  refine g_nm (fun f19 hf20 => ?_)
  have hx21 : f19 a = .inr (4, [.ref q1, .ref q12, .int 0, .int 0]) := by rw [hf20]; exact va_up_self _ _ _
  have hx22 : f19 q1 = aRf G.2.2.2.2.1 (fun _ => none) := by rw [hf20, va_up_ne _ _ (Ne.symm (ne_new hL_a hq1))]; exact hx16
  have hx23 : f19 q12 = aRf G.2.2.2.2.2 (fun _ => none) := by rw [hf20, va_up_ne _ _ (Ne.symm (ne_new (mem_l hL_a) hq12))]; exact hx17
  have hF24 : f19 = va_up (va_up (va_up (va_up f q1 (aRf G.2.2.2.2.1 (fun _ => none))) a (.inr (4, [.ref q1, .null, .int 0, .int 0]))) q12 (aRf G.2.2.2.2.2 (fun _ => none))) a (.inr (4, [.ref q1, .ref q12, .int 0, .int 0])) := by rw [hf20, hF18]
  refine g_vret hC dX4_init_22 rfl ⟨rfl, fun b hb => mem_l (mem_l hb), fun b hb hba => ?_, cI a q1 q12, rfl, fun X XS Z OU SL => CI.init (mem_l (mem_l hL_a)) (mem_l mem_r) mem_r (ne_new mem_r hq12) hx21 hx22 hx23⟩ (Nat.le_of_ble_eq_true rfl) (Nat.le_of_ble_eq_true rfl)
  rw [hF24]; simp only [va_up_ne _ _ hba, va_up_ne _ _ (ne_new hb hq1), va_up_ne _ _ (ne_new (mem_l hb) hq12)]
