section G17
variable {C : CX} {cc : ByteArray} {nL : Nat} {own : String} {ini : Bool} {R0 : Room} {G0 : GD} {l0 : Launch} {ret : Option FieldType} {post : PO} {L : List Nat} {f : Nat → va_E} {k n pc : Nat} {lv : List (Nat × Value)} {st : List Value}
theorem g_aload_nN (hC : CxOk C cc nL own ini R0 G0 l0 ret post) {kx : Fin 4} (hdg : decode cc pc = .ok (.aload_n kx, 1)) (j : Nat) (hj : lv[j]? = some ((kx : Nat), .null)) (kk : V C nL L f k n (pc + 1) lv (.null :: st)) : V C nL L f k n pc lv st := by
  obtain ⟨p, l, e, R, s, m, args, below, meth, c, G, A, H0, Q⟩ := C
  obtain ⟨hx, hb, hml, hown, hts, hK, hN, hA, rfl, rfl, rfl, hin, hexit⟩ := hC
  intro H locs d ls hd hP hD hS hl
  exact lv_aload_nN hx hb hdg rfl (lv_at hl j hj) (kk H locs d ls hd hP hD hS hl)
theorem g_aloadN (hC : CxOk C cc nL own ini R0 G0 l0 ret post) {i : Nat} (hdg : decode cc pc = .ok (.aload i, 2)) (j : Nat) (hj : lv[j]? = some (i, .null)) (kk : V C nL L f k n (pc + 2) lv (.null :: st)) : V C nL L f k n pc lv st := by
  obtain ⟨p, l, e, R, s, m, args, below, meth, c, G, A, H0, Q⟩ := C
  obtain ⟨hx, hb, hml, hown, hts, hK, hN, hA, rfl, rfl, rfl, hin, hexit⟩ := hC
  intro H locs d ls hd hP hD hS hl
  exact lv_aloadN hx hb hdg (lv_at hl j hj) (kk H locs d ls hd hP hD hS hl)
theorem g_astore_nN (hC : CxOk C cc nL own ini R0 G0 l0 ret post) {kx : Fin 4} {lv1 : List (Nat × Value)} (hdg : decode cc pc = .ok (.astore_n kx, 1)) (hn : (kx : Nat) < nL) (hl1 : ((kx : Nat), Value.null) :: lv.filter (fun q => !(q.1 == (kx : Nat)) && !(q.1 + 1 == (kx : Nat) && q.2.category == 2)) = lv1) (kk : V C nL L f k n (pc + 1) lv1 st) : V C nL L f k n pc lv (.null :: st) := by
  obtain ⟨p, l, e, R, s, m, args, below, meth, c, G, A, H0, Q⟩ := C
  obtain ⟨hx, hb, hml, hown, hts, hK, hN, hA, rfl, rfl, rfl, hin, hexit⟩ := hC
  intro H locs d ls hd hP hD hS hl
  exact lv_astore_nN hx hb hdg rfl hl hn hl1 (fun ls1 hl2 => kk H locs d ls1 hd hP hD hS hl2)
theorem g_astoreN (hC : CxOk C cc nL own ini R0 G0 l0 ret post) {i : Nat} {lv1 : List (Nat × Value)} (hdg : decode cc pc = .ok (.astore i, 2)) (hn : i < nL) (hl1 : (i, Value.null) :: lv.filter (fun q => !(q.1 == i) && !(q.1 + 1 == i && q.2.category == 2)) = lv1) (kk : V C nL L f k n (pc + 2) lv1 st) : V C nL L f k n pc lv (.null :: st) := by
  obtain ⟨p, l, e, R, s, m, args, below, meth, c, G, A, H0, Q⟩ := C
  obtain ⟨hx, hb, hml, hown, hts, hK, hN, hA, rfl, rfl, rfl, hin, hexit⟩ := hC
  intro H locs d ls hd hP hD hS hl
  exact lv_astoreN hx hb hdg hl hn hl1 (fun ls1 hl2 => kk H locs d ls1 hd hP hD hS hl2)
end G17
set_option maxHeartbeats 4000000 in
set_option maxRecDepth 100000 in
/-- safe(loop, v) -/
theorem ct_X4_safe (l : Launch) (G : GD) (L : List Nat) (f : Nat → va_E) {c : Nat → Nat → Nat} {n k : Nat} {X : Nat → Nat → UInt64} {XS : Nat → UInt64} {Z : Nat → Nat → Int32} {OU : Nat → Option Nat} {SL : Nat → Nat} (hI : CI G c n k X XS Z OU SL L f) (kx : Int32) (v : UInt64) : Ctr l yX4_safe cX4_safe 5 (some .boolean) { frames := 1, cells := 0, slots := 0, locals := 30 } G [.ref (c 6 0), .int kx, .double v] L f (fun vv L1 f1 => L = L1 ∧ (((∀ i, i < n → kx = nI i → safC (dv v) = false) ∧ vv = some (.int 0) ∧ f = f1) ∨ (∃ i, i < n ∧ kx = nI i ∧ safC (dv v) = true ∧ vv = some (.int 1) ∧ FRc L f f1 ∧ CI G c n k (va_up X i (va_up (X i) 4 v)) XS Z OU SL L f1))) := by
  refine g_enter RX4 false (by decide) rfl (fun h => by cases h) (Nat.le_of_ble_eq_true rfl) (fun C hC => ?_)
  refine (show V C 5 L f 0 0 0 [(0, .ref (c 6 0)), (1, .int kx), (2, .double v)] [] from ?_)
  refine g_aload_n hC dX4_safe_0 0 rfl ?_
  refine g_iload_n hC dX4_safe_1 1 rfl ?_
  refine g_callV hC (Cn := RX4) (TT := TX4) (N := 4) dX4_safe_2 (ct_X4_findLoop l G L f hI kx) q_code_X4_findLoop q_ml_X4_32 q_im_X4_findLoop q_sel_X4_findLoop q_init_X4 ⟨rfl, by decide, by decide, (show (parseMethodDescriptor yX4_findLoop.desc).map (fun d => d.parameters.length) = some 1 from by decide +kernel)⟩ (CI.hm hI) (CI.h0 hI) rfl (by decide) (by decide) (Nat.le_of_ble_eq_true rfl) (fun v2 L3 f4 hp1 => ?_)
  obtain ⟨rfl, rfl, ⟨rfl, hno_i⟩ | ⟨i, hi, rfl, rfl⟩⟩ := hp1
  · refine (show V C 5 L f 0 0 5 [(0, .ref (c 6 0)), (1, .int kx), (2, .double v)] [.null] from ?_)
    refine g_astoreN hC (lv1 := [(4, .null), (0, .ref (c 6 0)), (1, .int kx), (2, .double v)]) dX4_safe_5 (by decide) rfl ?_
    refine g_aloadN hC dX4_safe_7 0 rfl ?_
    refine g_ifnullN hC 25 dX4_safe_9 (by decide) ?_
    refine g_iconst hC 0 dX4_safe_25 (by decide) ?_
    exact g_iret hC dX4_safe_26 rfl rfl ⟨rfl, Or.inl ⟨fun j hj q => absurd q (hno_i j hj), rfl, rfl⟩⟩ (Nat.zero_le _) (Nat.zero_le _)
  · refine (show V C 5 L f 0 0 5 [(0, .ref (c 6 0)), (1, .int (nI i)), (2, .double v)] [.ref (c 0 i)] from ?_)
    refine g_astore hC (lv1 := [(4, .ref (c 0 i)), (0, .ref (c 6 0)), (1, .int (nI i)), (2, .double v)]) dX4_safe_5 (by decide) rfl ?_
    refine g_aload hC dX4_safe_7 0 rfl ?_
    refine g_ifnull hC dX4_safe_9 ?_
    refine g_dload_n hC dX4_safe_12 3 rfl ?_
    refine g_ldc2 hC dX4_safe_13 q_cd_X4_60 ?_
    refine g_ldc2 hC dX4_safe_16 q_cd_X4_40 ?_
    refine g_callS hC dX4_safe_19 (ct_X4_isWithin l G L f v 13890095209322119168 4666723172467343360) q_code_X4_isWithin q_ml_X4_42 q_st_X4_isWithin q_init_X4 ⟨by decide, by decide, (show (parseMethodDescriptor yX4_isWithin.desc).map (fun d => d.parameters.length) = some 3 from by decide +kernel)⟩ (by decide) (by decide) (Nat.le_of_ble_eq_true rfl) (fun v6 L7 f8 hp5 => ?_)
    obtain ⟨rfl, rfl, rfl⟩ := hp5
    refine (show V C 5 L f 0 0 22 [(4, .ref (c 0 i)), (0, .ref (c 6 0)), (1, .int (nI i)), (2, .double v)] [.int (bI (inB (dv v) (dv 13890095209322119168) (dv 4666723172467343360)))] from ?_)
    refine g_ifB_ne hC 27 dX4_safe_22 (by decide) (fun c9 => ?_) (fun c9 => ?_)
    · skip
      refine g_aload hC dX4_safe_27 0 rfl ?_
      refine g_dload_n hC dX4_safe_29 3 rfl ?_
      refine g_putN hC (kf := 8) (TT := TX0) (N := 16) (Cn := RX0) (ty0 := tyX0) (fs1 := [.double ((X i) 0), .double ((X i) 1), .double ((X i) 2), .ref (c 1 i), .ref (c 2 i), .ref (c 3 i), .ref (c 4 i), .double ((X i) 3), .double v, .double ((X i) 5), .double ((X i) 6), .double ((X i) 7), .double ((X i) 8), .int (Z i 0), .int (Z i 1), va_rf ((OU i).map (c 0))]) dX4_safe_30 (CI.lp hI hi).1.1 (CI.lp hI hi).1.2 rfl q_u0 (by decide) tyX0_ok nmX0 q_fn_X4_62 rfl rfl rfl rfl rfl (Nat.le_of_ble_eq_true rfl) rfl ?_
      refine g_nm (fun f10 hf11 => ?_)
      have hx12 : f10 (c 0 i) = .inr (0, [.double ((X i) 0), .double ((X i) 1), .double ((X i) 2), .ref (c 1 i), .ref (c 2 i), .ref (c 3 i), .ref (c 4 i), .double ((X i) 3), .double v, .double ((X i) 5), .double ((X i) 6), .double ((X i) 7), .double ((X i) 8), .int (Z i 0), .int (Z i 1), va_rf ((OU i).map (c 0))]) := by rw [hf11]; exact va_up_self _ _ _
      have hF13 : f10 = va_up f (c 0 i) (.inr (0, [.double ((X i) 0), .double ((X i) 1), .double ((X i) 2), .ref (c 1 i), .ref (c 2 i), .ref (c 3 i), .ref (c 4 i), .double ((X i) 3), .double v, .double ((X i) 5), .double ((X i) 6), .double ((X i) 7), .double ((X i) 8), .int (Z i 0), .int (Z i 1), va_rf ((OU i).map (c 0))])) := hf11
      refine g_iconst hC 1 dX4_safe_33 (by decide) ?_
      refine g_iret hC dX4_safe_34 rfl rfl ⟨rfl, Or.inr ⟨i, hi, rfl, by simp only [safC, Bool.and_true, Bool.true_and, Bool.and_false, Bool.false_and, Bool.not_true, Bool.not_false, c9], rfl, ?_, ?_⟩⟩ (Nat.zero_le _) (Nat.zero_le _)
      · exact (by rw [hf11]; exact FRc.up _ FRc.rf (CI.lp hI hi).1.2 rfl)
      · rw [hF13]; exact CI.loopX hI hi (va_up (X i) 4 v) (fun j hj => va_up_ne _ _ (by omega))
    · skip
      refine g_iconst hC 0 dX4_safe_25 (by decide) ?_
      exact g_iret hC dX4_safe_26 rfl rfl ⟨rfl, Or.inl ⟨fun _ _ _ => by simp only [safC, Bool.and_true, Bool.true_and, Bool.and_false, Bool.false_and, Bool.not_true, Bool.not_false, c9], rfl, rfl⟩⟩ (Nat.zero_le _) (Nat.zero_le _)
set_option maxHeartbeats 4000000 in
set_option maxRecDepth 100000 in
/-- limits(loop, low, high, rate) -/
theorem ct_X4_limits (l : Launch) (G : GD) (L : List Nat) (f : Nat → va_E) {c : Nat → Nat → Nat} {n k : Nat} {X : Nat → Nat → UInt64} {XS : Nat → UInt64} {Z : Nat → Nat → Int32} {OU : Nat → Option Nat} {SL : Nat → Nat} (hI : CI G c n k X XS Z OU SL L f) (kx : Int32) (lo hi0 rt : UInt64) : Ctr l yX4_limits cX4_limits 9 (some .boolean) { frames := 1, cells := 0, slots := 0, locals := 30 } G [.ref (c 6 0), .int kx, .double lo, .double hi0, .double rt] L f (fun vv L1 f1 => L = L1 ∧ (((∀ i, i < n → kx = nI i → limC (dv lo) (dv hi0) (dv rt) = false) ∧ vv = some (.int 0) ∧ f = f1) ∨ (∃ i, i < n ∧ kx = nI i ∧ limC (dv lo) (dv hi0) (dv rt) = true ∧ vv = some (.int 1) ∧ FRc L f f1 ∧ CI G c n k (va_up X i (va_up (va_up (va_up (X i) 9 lo) 10 hi0) 3 rt)) XS Z OU SL L f1))) := by
  refine g_enter RX4 false (by decide) rfl (fun h => by cases h) (Nat.le_of_ble_eq_true rfl) (fun C hC => ?_)
  refine (show V C 9 L f 0 0 0 [(0, .ref (c 6 0)), (1, .int kx), (2, .double lo), (4, .double hi0), (6, .double rt)] [] from ?_)
  refine g_aload_n hC dX4_limits_0 0 rfl ?_
  refine g_iload_n hC dX4_limits_1 1 rfl ?_
  refine g_callV hC (Cn := RX4) (TT := TX4) (N := 4) dX4_limits_2 (ct_X4_findLoop l G L f hI kx) q_code_X4_findLoop q_ml_X4_32 q_im_X4_findLoop q_sel_X4_findLoop q_init_X4 ⟨rfl, by decide, by decide, (show (parseMethodDescriptor yX4_findLoop.desc).map (fun d => d.parameters.length) = some 1 from by decide +kernel)⟩ (CI.hm hI) (CI.h0 hI) rfl (by decide) (by decide) (Nat.le_of_ble_eq_true rfl) (fun v2 L3 f4 hp1 => ?_)
  obtain ⟨rfl, rfl, ⟨rfl, hno_i⟩ | ⟨i, hi, rfl, rfl⟩⟩ := hp1
  · refine (show V C 9 L f 0 0 5 [(0, .ref (c 6 0)), (1, .int kx), (2, .double lo), (4, .double hi0), (6, .double rt)] [.null] from ?_)
    refine g_astoreN hC (lv1 := [(8, .null), (0, .ref (c 6 0)), (1, .int kx), (2, .double lo), (4, .double hi0), (6, .double rt)]) dX4_limits_5 (by decide) rfl ?_
    refine g_aloadN hC dX4_limits_7 0 rfl ?_
    refine g_ifnullN hC 31 dX4_limits_9 (by decide) ?_
    refine g_iconst hC 0 dX4_limits_31 (by decide) ?_
    exact g_iret hC dX4_limits_32 rfl rfl ⟨rfl, Or.inl ⟨fun j hj q => absurd q (hno_i j hj), rfl, rfl⟩⟩ (Nat.zero_le _) (Nat.zero_le _)
  · refine (show V C 9 L f 0 0 5 [(0, .ref (c 6 0)), (1, .int (nI i)), (2, .double lo), (4, .double hi0), (6, .double rt)] [.ref (c 0 i)] from ?_)
    refine g_astore hC (lv1 := [(8, .ref (c 0 i)), (0, .ref (c 6 0)), (1, .int (nI i)), (2, .double lo), (4, .double hi0), (6, .double rt)]) dX4_limits_5 (by decide) rfl ?_
    refine g_aload hC dX4_limits_7 0 rfl ?_
    refine g_ifnull hC dX4_limits_9 ?_
    refine g_dload_n hC dX4_limits_12 3 rfl ?_
    refine g_dload hC dX4_limits_13 4 rfl ?_
    refine g_sipush hC 10000 dX4_limits_15 (by decide) ?_
    refine g_callS hC dX4_limits_18 (ct_X4_isOrdered l G L f lo hi0 10000) q_code_X4_isOrdered q_ml_X4_36 q_st_X4_isOrdered q_init_X4 ⟨by decide, by decide, (show (parseMethodDescriptor yX4_isOrdered.desc).map (fun d => d.parameters.length) = some 3 from by decide +kernel)⟩ (by decide) (by decide) (Nat.le_of_ble_eq_true rfl) (fun v6 L7 f8 hp5 => ?_)
    obtain ⟨rfl, rfl, rfl⟩ := hp5
    refine (show V C 9 L f 0 0 21 [(8, .ref (c 0 i)), (0, .ref (c 6 0)), (1, .int (nI i)), (2, .double lo), (4, .double hi0), (6, .double rt)] [.int (bI (ordS (dv lo) (dv hi0) 10000))] from ?_)
    refine g_ifB_eq hC 31 dX4_limits_21 (by decide) (fun c9 => ?_) (fun c9 => ?_)
    · skip
      refine g_iconst hC 0 dX4_limits_31 (by decide) ?_
      exact g_iret hC dX4_limits_32 rfl rfl ⟨rfl, Or.inl ⟨fun _ _ _ => by simp only [limC, Bool.and_true, Bool.true_and, Bool.and_false, Bool.false_and, Bool.not_true, Bool.not_false, c9], rfl, rfl⟩⟩ (Nat.zero_le _) (Nat.zero_le _)
    · skip
      refine g_dload_n hC dX4_limits_24 3 rfl ?_
      refine g_dload hC dX4_limits_25 4 rfl ?_
      refine g_dcmpl_ne hC 33 dX4_limits_27 dX4_limits_28 (by decide) (fun c10 => ?_) (fun c10 => ?_)
      · skip
        refine g_dload hC dX4_limits_33 5 rfl ?_
        refine g_dconst0 hC dX4_limits_35 ?_
        refine g_dcmpg_le hC 52 dX4_limits_36 dX4_limits_37 (by decide) (fun c11 => ?_) (fun c11 => ?_)
        · skip
          refine g_iconst hC 0 dX4_limits_52 (by decide) ?_
          exact g_iret hC dX4_limits_53 rfl rfl ⟨rfl, Or.inl ⟨fun _ _ _ => by simp only [limC, Bool.and_true, Bool.true_and, Bool.and_false, Bool.false_and, Bool.not_true, Bool.not_false, c9, c10, c11], rfl, rfl⟩⟩ (Nat.zero_le _) (Nat.zero_le _)
        · skip
          refine g_dload hC dX4_limits_40 5 rfl ?_
          refine g_dconst0 hC dX4_limits_42 ?_
          refine g_ldc2 hC dX4_limits_43 q_cd_X4_40 ?_
          refine g_callS hC dX4_limits_46 (ct_X4_isWithin l G L f rt 0 4666723172467343360) q_code_X4_isWithin q_ml_X4_42 q_st_X4_isWithin q_init_X4 ⟨by decide, by decide, (show (parseMethodDescriptor yX4_isWithin.desc).map (fun d => d.parameters.length) = some 3 from by decide +kernel)⟩ (by decide) (by decide) (Nat.le_of_ble_eq_true rfl) (fun v13 L14 f15 hp12 => ?_)
          obtain ⟨rfl, rfl, rfl⟩ := hp12
          refine (show V C 9 L f 0 0 49 [(8, .ref (c 0 i)), (0, .ref (c 6 0)), (1, .int (nI i)), (2, .double lo), (4, .double hi0), (6, .double rt)] [.int (bI (inB (dv rt) (dv 0) (dv 4666723172467343360)))] from ?_)
          refine g_ifB_ne hC 54 dX4_limits_49 (by decide) (fun c16 => ?_) (fun c16 => ?_)
          · skip
            refine g_aload hC dX4_limits_54 0 rfl ?_
            refine g_getN hC (kf := 3) (TT := TX0) (N := 16) (Cn := RX0) dX4_limits_56 (CI.lp hI hi).1.1 (CI.lp hI hi).1.2 rfl q_u0 (by decide) q_fn_X4_46 rfl rfl ?_
            refine g_dload_n hC dX4_limits_59 3 rfl ?_
            refine g_dload hC dX4_limits_60 4 rfl ?_
            refine g_callV hC (Cn := RX1) (TT := TX1) (N := 2) dX4_limits_62 (ct_X1_set l G L f (c 1 i) (X i 9) (X i 10) lo hi0 (CI.lp hI hi).2.1.1 (CI.lp hI hi).2.1.2) q_code_X1_set q_ml_X4_50 q_im_X1_set q_sel_X1_set q_init_X1 ⟨rfl, by decide, by decide, (show (parseMethodDescriptor yX1_set.desc).map (fun d => d.parameters.length) = some 2 from by decide +kernel)⟩ (CI.lp hI hi).2.1.1 (CI.lp hI hi).2.1.2 rfl (by decide) (by decide) (Nat.le_of_ble_eq_true rfl) (fun v18 L19 f20 hp17 => ?_)
            obtain ⟨rfl, rfl, hf21⟩ := hp17
            have hz22 : f20 (c 0 i) = .inr (0, [.double ((X i) 0), .double ((X i) 1), .double ((X i) 2), .ref (c 1 i), .ref (c 2 i), .ref (c 3 i), .ref (c 4 i), .double ((X i) 3), .double ((X i) 4), .double ((X i) 5), .double ((X i) 6), .double ((X i) 7), .double ((X i) 8), .int (Z i 0), .int (Z i 1), va_rf ((OU i).map (c 0))]) := by rw [hf21, va_up_ne _ _ (fun z => by have z1 := (CI.lp hI hi).1.2; rw [z, (CI.lp hI hi).2.1.2] at z1; cases z1)]; exact (CI.lp hI hi).1.2
            refine (show V C 9 L f20 0 0 65 [(8, .ref (c 0 i)), (0, .ref (c 6 0)), (1, .int (nI i)), (2, .double lo), (4, .double hi0), (6, .double rt)] [] from ?_)
            refine g_aload hC dX4_limits_65 0 rfl ?_
            refine g_dload hC dX4_limits_67 5 rfl ?_
            refine g_putN hC (kf := 7) (TT := TX0) (N := 16) (Cn := RX0) (ty0 := tyX0) (fs1 := [.double ((X i) 0), .double ((X i) 1), .double ((X i) 2), .ref (c 1 i), .ref (c 2 i), .ref (c 3 i), .ref (c 4 i), .double rt, .double ((X i) 4), .double ((X i) 5), .double ((X i) 6), .double ((X i) 7), .double ((X i) 8), .int (Z i 0), .int (Z i 1), va_rf ((OU i).map (c 0))]) dX4_limits_69 (CI.lp hI hi).1.1 hz22 rfl q_u0 (by decide) tyX0_ok nmX0 q_fn_X4_56 rfl rfl rfl rfl rfl (Nat.le_of_ble_eq_true rfl) rfl ?_
            refine g_nm (fun f23 hf24 => ?_)
            have hx25 : f23 (c 0 i) = .inr (0, [.double ((X i) 0), .double ((X i) 1), .double ((X i) 2), .ref (c 1 i), .ref (c 2 i), .ref (c 3 i), .ref (c 4 i), .double rt, .double ((X i) 4), .double ((X i) 5), .double ((X i) 6), .double ((X i) 7), .double ((X i) 8), .int (Z i 0), .int (Z i 1), va_rf ((OU i).map (c 0))]) := by rw [hf24]; exact va_up_self _ _ _
            have hF26 : f23 = va_up (va_up f (c 1 i) (.inr (1, [.double lo, .double hi0]))) (c 0 i) (.inr (0, [.double ((X i) 0), .double ((X i) 1), .double ((X i) 2), .ref (c 1 i), .ref (c 2 i), .ref (c 3 i), .ref (c 4 i), .double rt, .double ((X i) 4), .double ((X i) 5), .double ((X i) 6), .double ((X i) 7), .double ((X i) 8), .int (Z i 0), .int (Z i 1), va_rf ((OU i).map (c 0))])) := by rw [hf24, hf21]
            refine g_iconst hC 1 dX4_limits_72 (by decide) ?_
            refine g_iret hC dX4_limits_73 rfl rfl ⟨rfl, Or.inr ⟨i, hi, rfl, by simp only [limC, Bool.and_true, Bool.true_and, Bool.and_false, Bool.false_and, Bool.not_true, Bool.not_false, c9, c10, c11, c16], rfl, ?_, ?_⟩⟩ (Nat.zero_le _) (Nat.zero_le _)
            · exact (by rw [hf24]; exact FRc.up _ (by rw [hf21]; exact FRc.up _ FRc.rf (CI.lp hI hi).2.1.2 rfl) hz22 rfl)
            · rw [hF26]; exact (by have h2 := CI.loopX (CI.limits hI hi (va_up (va_up (X i) 9 lo) 10 hi0) (fun j h1 h2 => by rw [va_up_ne _ _ h2, va_up_ne _ _ h1])) hi (va_up (va_up (va_up (X i) 9 lo) 10 hi0) 3 rt) (fun j hj => by rw [va_up_self, va_up_ne _ _ (by omega)]); rw [va_up_up] at h2; exact h2)
          · skip
            refine g_iconst hC 0 dX4_limits_52 (by decide) ?_
            exact g_iret hC dX4_limits_53 rfl rfl ⟨rfl, Or.inl ⟨fun _ _ _ => by simp only [limC, Bool.and_true, Bool.true_and, Bool.and_false, Bool.false_and, Bool.not_true, Bool.not_false, c9, c10, c11, c16], rfl, rfl⟩⟩ (Nat.zero_le _) (Nat.zero_le _)
      · skip
        refine g_iconst hC 0 dX4_limits_31 (by decide) ?_
        exact g_iret hC dX4_limits_32 rfl rfl ⟨rfl, Or.inl ⟨fun _ _ _ => by simp only [limC, Bool.and_true, Bool.true_and, Bool.and_false, Bool.false_and, Bool.not_true, Bool.not_false, c9, c10], rfl, rfl⟩⟩ (Nat.zero_le _) (Nat.zero_le _)
set_option maxHeartbeats 4000000 in
set_option maxRecDepth 100000 in
/-- band(loop, low, high) -/
theorem ct_X4_band (l : Launch) (G : GD) (L : List Nat) (f : Nat → va_E) {c : Nat → Nat → Nat} {n k : Nat} {X : Nat → Nat → UInt64} {XS : Nat → UInt64} {Z : Nat → Nat → Int32} {OU : Nat → Option Nat} {SL : Nat → Nat} (hI : CI G c n k X XS Z OU SL L f) (kx : Int32) (lo hi0 : UInt64) : Ctr l yX4_band cX4_band 7 (some .boolean) { frames := 1, cells := 0, slots := 0, locals := 30 } G [.ref (c 6 0), .int kx, .double lo, .double hi0] L f (fun vv L1 f1 => L = L1 ∧ (((∀ i, i < n → kx = nI i → ordS (dv lo) (dv hi0) 10000 = false) ∧ vv = some (.int 0) ∧ f = f1) ∨ (∃ i, i < n ∧ kx = nI i ∧ ordS (dv lo) (dv hi0) 10000 = true ∧ vv = some (.int 1) ∧ FRc L f f1 ∧ CI G c n k (va_up X i (va_up (va_up (X i) 11 lo) 12 hi0)) XS Z OU SL L f1))) := by
  refine g_enter RX4 false (by decide) rfl (fun h => by cases h) (Nat.le_of_ble_eq_true rfl) (fun C hC => ?_)
  refine (show V C 7 L f 0 0 0 [(0, .ref (c 6 0)), (1, .int kx), (2, .double lo), (4, .double hi0)] [] from ?_)
  refine g_aload_n hC dX4_band_0 0 rfl ?_
  refine g_iload_n hC dX4_band_1 1 rfl ?_
  refine g_callV hC (Cn := RX4) (TT := TX4) (N := 4) dX4_band_2 (ct_X4_findLoop l G L f hI kx) q_code_X4_findLoop q_ml_X4_32 q_im_X4_findLoop q_sel_X4_findLoop q_init_X4 ⟨rfl, by decide, by decide, (show (parseMethodDescriptor yX4_findLoop.desc).map (fun d => d.parameters.length) = some 1 from by decide +kernel)⟩ (CI.hm hI) (CI.h0 hI) rfl (by decide) (by decide) (Nat.le_of_ble_eq_true rfl) (fun v2 L3 f4 hp1 => ?_)
  obtain ⟨rfl, rfl, ⟨rfl, hno_i⟩ | ⟨i, hi, rfl, rfl⟩⟩ := hp1
  · refine (show V C 7 L f 0 0 5 [(0, .ref (c 6 0)), (1, .int kx), (2, .double lo), (4, .double hi0)] [.null] from ?_)
    refine g_astoreN hC (lv1 := [(6, .null), (0, .ref (c 6 0)), (1, .int kx), (2, .double lo), (4, .double hi0)]) dX4_band_5 (by decide) rfl ?_
    refine g_aloadN hC dX4_band_7 0 rfl ?_
    refine g_ifnullN hC 24 dX4_band_9 (by decide) ?_
    refine g_iconst hC 0 dX4_band_24 (by decide) ?_
    exact g_iret hC dX4_band_25 rfl rfl ⟨rfl, Or.inl ⟨fun j hj q => absurd q (hno_i j hj), rfl, rfl⟩⟩ (Nat.zero_le _) (Nat.zero_le _)
  · refine (show V C 7 L f 0 0 5 [(0, .ref (c 6 0)), (1, .int (nI i)), (2, .double lo), (4, .double hi0)] [.ref (c 0 i)] from ?_)
    refine g_astore hC (lv1 := [(6, .ref (c 0 i)), (0, .ref (c 6 0)), (1, .int (nI i)), (2, .double lo), (4, .double hi0)]) dX4_band_5 (by decide) rfl ?_
    refine g_aload hC dX4_band_7 0 rfl ?_
    refine g_ifnull hC dX4_band_9 ?_
    refine g_dload_n hC dX4_band_12 3 rfl ?_
    refine g_dload hC dX4_band_13 4 rfl ?_
    refine g_sipush hC 10000 dX4_band_15 (by decide) ?_
    refine g_callS hC dX4_band_18 (ct_X4_isOrdered l G L f lo hi0 10000) q_code_X4_isOrdered q_ml_X4_36 q_st_X4_isOrdered q_init_X4 ⟨by decide, by decide, (show (parseMethodDescriptor yX4_isOrdered.desc).map (fun d => d.parameters.length) = some 3 from by decide +kernel)⟩ (by decide) (by decide) (Nat.le_of_ble_eq_true rfl) (fun v6 L7 f8 hp5 => ?_)
    obtain ⟨rfl, rfl, rfl⟩ := hp5
    refine (show V C 7 L f 0 0 21 [(6, .ref (c 0 i)), (0, .ref (c 6 0)), (1, .int (nI i)), (2, .double lo), (4, .double hi0)] [.int (bI (ordS (dv lo) (dv hi0) 10000))] from ?_)
    refine g_ifB_ne hC 26 dX4_band_21 (by decide) (fun c9 => ?_) (fun c9 => ?_)
    · skip
      refine g_aload hC dX4_band_26 0 rfl ?_
      refine g_getN hC (kf := 4) (TT := TX0) (N := 16) (Cn := RX0) dX4_band_28 (CI.lp hI hi).1.1 (CI.lp hI hi).1.2 rfl q_u0 (by decide) q_fn_X4_114 rfl rfl ?_
      refine g_dload_n hC dX4_band_31 3 rfl ?_
      refine g_dload hC dX4_band_32 4 rfl ?_
      refine g_callV hC (Cn := RX1) (TT := TX1) (N := 2) dX4_band_34 (ct_X1_set l G L f (c 2 i) (X i 11) (X i 12) lo hi0 (CI.lp hI hi).2.2.1.1 (CI.lp hI hi).2.2.1.2) q_code_X1_set q_ml_X4_50 q_im_X1_set q_sel_X1_set q_init_X1 ⟨rfl, by decide, by decide, (show (parseMethodDescriptor yX1_set.desc).map (fun d => d.parameters.length) = some 2 from by decide +kernel)⟩ (CI.lp hI hi).2.2.1.1 (CI.lp hI hi).2.2.1.2 rfl (by decide) (by decide) (Nat.le_of_ble_eq_true rfl) (fun v11 L12 f13 hp10 => ?_)
      obtain ⟨rfl, rfl, hf14⟩ := hp10
      have hz15 : f13 (c 0 i) = .inr (0, [.double ((X i) 0), .double ((X i) 1), .double ((X i) 2), .ref (c 1 i), .ref (c 2 i), .ref (c 3 i), .ref (c 4 i), .double ((X i) 3), .double ((X i) 4), .double ((X i) 5), .double ((X i) 6), .double ((X i) 7), .double ((X i) 8), .int (Z i 0), .int (Z i 1), va_rf ((OU i).map (c 0))]) := by rw [hf14, va_up_ne _ _ (fun z => by have z1 := (CI.lp hI hi).1.2; rw [z, (CI.lp hI hi).2.2.1.2] at z1; cases z1)]; exact (CI.lp hI hi).1.2
      refine (show V C 7 L f13 0 0 37 [(6, .ref (c 0 i)), (0, .ref (c 6 0)), (1, .int (nI i)), (2, .double lo), (4, .double hi0)] [] from ?_)
      refine g_iconst hC 1 dX4_band_37 (by decide) ?_
      refine g_iret hC dX4_band_38 rfl rfl ⟨rfl, Or.inr ⟨i, hi, rfl, by simp only [Bool.and_true, Bool.and_true, Bool.true_and, Bool.and_false, Bool.false_and, Bool.not_true, Bool.not_false, c9], rfl, ?_, ?_⟩⟩ (Nat.zero_le _) (Nat.zero_le _)
      · exact (by rw [hf14]; exact FRc.up _ FRc.rf (CI.lp hI hi).2.2.1.2 rfl)
      · rw [hf14]; exact CI.band hI hi (va_up (va_up (X i) 11 lo) 12 hi0) (fun j h1 h2 => by rw [va_up_ne _ _ h2, va_up_ne _ _ h1])
    · skip
      refine g_iconst hC 0 dX4_band_24 (by decide) ?_
      exact g_iret hC dX4_band_25 rfl rfl ⟨rfl, Or.inl ⟨fun _ _ _ => by simp only [Bool.and_true, Bool.and_true, Bool.true_and, Bool.and_false, Bool.false_and, Bool.not_true, Bool.not_false, c9], rfl, rfl⟩⟩ (Nat.zero_le _) (Nat.zero_le _)
set_option maxHeartbeats 4000000 in
set_option maxRecDepth 100000 in
/-- range(loop, low, high) -/
theorem ct_X4_range (l : Launch) (G : GD) (L : List Nat) (f : Nat → va_E) {c : Nat → Nat → Nat} {n k : Nat} {X : Nat → Nat → UInt64} {XS : Nat → UInt64} {Z : Nat → Nat → Int32} {OU : Nat → Option Nat} {SL : Nat → Nat} (hI : CI G c n k X XS Z OU SL L f) (kx : Int32) (lo hi0 : UInt64) : Ctr l yX4_range cX4_range 7 (some .boolean) { frames := 1, cells := 0, slots := 0, locals := 30 } G [.ref (c 6 0), .int kx, .double lo, .double hi0] L f (fun vv L1 f1 => L = L1 ∧ (((∀ i, i < n → kx = nI i → ordS (dv lo) (dv hi0) 1000000 = false) ∧ vv = some (.int 0) ∧ f = f1) ∨ (∃ i, i < n ∧ kx = nI i ∧ ordS (dv lo) (dv hi0) 1000000 = true ∧ vv = some (.int 1) ∧ FRc L f f1 ∧ CI G c n k (va_up X i (va_up (va_up (X i) 13 lo) 14 hi0)) XS Z OU SL L f1))) := by
  refine g_enter RX4 false (by decide) rfl (fun h => by cases h) (Nat.le_of_ble_eq_true rfl) (fun C hC => ?_)
  refine (show V C 7 L f 0 0 0 [(0, .ref (c 6 0)), (1, .int kx), (2, .double lo), (4, .double hi0)] [] from ?_)
  refine g_aload_n hC dX4_range_0 0 rfl ?_
  refine g_iload_n hC dX4_range_1 1 rfl ?_
  refine g_callV hC (Cn := RX4) (TT := TX4) (N := 4) dX4_range_2 (ct_X4_findLoop l G L f hI kx) q_code_X4_findLoop q_ml_X4_32 q_im_X4_findLoop q_sel_X4_findLoop q_init_X4 ⟨rfl, by decide, by decide, (show (parseMethodDescriptor yX4_findLoop.desc).map (fun d => d.parameters.length) = some 1 from by decide +kernel)⟩ (CI.hm hI) (CI.h0 hI) rfl (by decide) (by decide) (Nat.le_of_ble_eq_true rfl) (fun v2 L3 f4 hp1 => ?_)
  obtain ⟨rfl, rfl, ⟨rfl, hno_i⟩ | ⟨i, hi, rfl, rfl⟩⟩ := hp1
  · refine (show V C 7 L f 0 0 5 [(0, .ref (c 6 0)), (1, .int kx), (2, .double lo), (4, .double hi0)] [.null] from ?_)
    refine g_astoreN hC (lv1 := [(6, .null), (0, .ref (c 6 0)), (1, .int kx), (2, .double lo), (4, .double hi0)]) dX4_range_5 (by decide) rfl ?_
    refine g_aloadN hC dX4_range_7 0 rfl ?_
    refine g_ifnullN hC 23 dX4_range_9 (by decide) ?_
    refine g_iconst hC 0 dX4_range_23 (by decide) ?_
    exact g_iret hC dX4_range_24 rfl rfl ⟨rfl, Or.inl ⟨fun j hj q => absurd q (hno_i j hj), rfl, rfl⟩⟩ (Nat.zero_le _) (Nat.zero_le _)
  · refine (show V C 7 L f 0 0 5 [(0, .ref (c 6 0)), (1, .int (nI i)), (2, .double lo), (4, .double hi0)] [.ref (c 0 i)] from ?_)
    refine g_astore hC (lv1 := [(6, .ref (c 0 i)), (0, .ref (c 6 0)), (1, .int (nI i)), (2, .double lo), (4, .double hi0)]) dX4_range_5 (by decide) rfl ?_
    refine g_aload hC dX4_range_7 0 rfl ?_
    refine g_ifnull hC dX4_range_9 ?_
    refine g_dload_n hC dX4_range_12 3 rfl ?_
    refine g_dload hC dX4_range_13 4 rfl ?_
    refine g_ldc hC dX4_range_15 q_ci_X4_133 ?_
    refine g_callS hC dX4_range_17 (ct_X4_isOrdered l G L f lo hi0 1000000) q_code_X4_isOrdered q_ml_X4_36 q_st_X4_isOrdered q_init_X4 ⟨by decide, by decide, (show (parseMethodDescriptor yX4_isOrdered.desc).map (fun d => d.parameters.length) = some 3 from by decide +kernel)⟩ (by decide) (by decide) (Nat.le_of_ble_eq_true rfl) (fun v6 L7 f8 hp5 => ?_)
    obtain ⟨rfl, rfl, rfl⟩ := hp5
    refine (show V C 7 L f 0 0 20 [(6, .ref (c 0 i)), (0, .ref (c 6 0)), (1, .int (nI i)), (2, .double lo), (4, .double hi0)] [.int (bI (ordS (dv lo) (dv hi0) 1000000))] from ?_)
    refine g_ifB_ne hC 25 dX4_range_20 (by decide) (fun c9 => ?_) (fun c9 => ?_)
    · skip
      refine g_aload hC dX4_range_25 0 rfl ?_
      refine g_getN hC (kf := 5) (TT := TX0) (N := 16) (Cn := RX0) dX4_range_27 (CI.lp hI hi).1.1 (CI.lp hI hi).1.2 rfl q_u0 (by decide) q_fn_X4_134 rfl rfl ?_
      refine g_dload_n hC dX4_range_30 3 rfl ?_
      refine g_dload hC dX4_range_31 4 rfl ?_
      refine g_callV hC (Cn := RX1) (TT := TX1) (N := 2) dX4_range_33 (ct_X1_set l G L f (c 3 i) (X i 13) (X i 14) lo hi0 (CI.lp hI hi).2.2.2.1.1 (CI.lp hI hi).2.2.2.1.2) q_code_X1_set q_ml_X4_50 q_im_X1_set q_sel_X1_set q_init_X1 ⟨rfl, by decide, by decide, (show (parseMethodDescriptor yX1_set.desc).map (fun d => d.parameters.length) = some 2 from by decide +kernel)⟩ (CI.lp hI hi).2.2.2.1.1 (CI.lp hI hi).2.2.2.1.2 rfl (by decide) (by decide) (Nat.le_of_ble_eq_true rfl) (fun v11 L12 f13 hp10 => ?_)
      obtain ⟨rfl, rfl, hf14⟩ := hp10
      have hz15 : f13 (c 0 i) = .inr (0, [.double ((X i) 0), .double ((X i) 1), .double ((X i) 2), .ref (c 1 i), .ref (c 2 i), .ref (c 3 i), .ref (c 4 i), .double ((X i) 3), .double ((X i) 4), .double ((X i) 5), .double ((X i) 6), .double ((X i) 7), .double ((X i) 8), .int (Z i 0), .int (Z i 1), va_rf ((OU i).map (c 0))]) := by rw [hf14, va_up_ne _ _ (fun z => by have z1 := (CI.lp hI hi).1.2; rw [z, (CI.lp hI hi).2.2.2.1.2] at z1; cases z1)]; exact (CI.lp hI hi).1.2
      refine (show V C 7 L f13 0 0 36 [(6, .ref (c 0 i)), (0, .ref (c 6 0)), (1, .int (nI i)), (2, .double lo), (4, .double hi0)] [] from ?_)
      refine g_iconst hC 1 dX4_range_36 (by decide) ?_
      refine g_iret hC dX4_range_37 rfl rfl ⟨rfl, Or.inr ⟨i, hi, rfl, by simp only [Bool.and_true, Bool.and_true, Bool.true_and, Bool.and_false, Bool.false_and, Bool.not_true, Bool.not_false, c9], rfl, ?_, ?_⟩⟩ (Nat.zero_le _) (Nat.zero_le _)
      · exact (by rw [hf14]; exact FRc.up _ FRc.rf (CI.lp hI hi).2.2.2.1.2 rfl)
      · rw [hf14]; exact CI.range hI hi (va_up (va_up (X i) 13 lo) 14 hi0) (fun j h1 h2 => by rw [va_up_ne _ _ h2, va_up_ne _ _ h1])
    · skip
      refine g_iconst hC 0 dX4_range_23 (by decide) ?_
      exact g_iret hC dX4_range_24 rfl rfl ⟨rfl, Or.inl ⟨fun _ _ _ => by simp only [Bool.and_true, Bool.and_true, Bool.true_and, Bool.and_false, Bool.false_and, Bool.not_true, Bool.not_false, c9], rfl, rfl⟩⟩ (Nat.zero_le _) (Nat.zero_le _)
def hanC (md : Int32) (v lo hi : DT) : Bool := decide (md = 0) && inB v lo hi
set_option maxHeartbeats 4000000 in
set_option maxRecDepth 100000 in
/-- hand(loop, v) -/
theorem ct_X4_hand (l : Launch) (G : GD) (L : List Nat) (f : Nat → va_E) {c : Nat → Nat → Nat} {n k : Nat} {X : Nat → Nat → UInt64} {XS : Nat → UInt64} {Z : Nat → Nat → Int32} {OU : Nat → Option Nat} {SL : Nat → Nat} (hI : CI G c n k X XS Z OU SL L f) (kx : Int32) (v : UInt64) : Ctr l yX4_hand cX4_hand 5 (some .boolean) { frames := 1, cells := 0, slots := 0, locals := 30 } G [.ref (c 6 0), .int kx, .double v] L f (fun vv L1 f1 => L = L1 ∧ (((∀ i, i < n → kx = nI i → hanC (Z i 0) (dv v) (dv (X i 9)) (dv (X i 10)) = false) ∧ vv = some (.int 0) ∧ f = f1) ∨ (∃ i, i < n ∧ kx = nI i ∧ hanC (Z i 0) (dv v) (dv (X i 9)) (dv (X i 10)) = true ∧ vv = some (.int 1) ∧ FRc L f f1 ∧ CI G c n k (va_up X i (va_up (X i) 8 v)) XS Z OU SL L f1))) := by
  refine g_enter RX4 false (by decide) rfl (fun h => by cases h) (Nat.le_of_ble_eq_true rfl) (fun C hC => ?_)
  refine (show V C 5 L f 0 0 0 [(0, .ref (c 6 0)), (1, .int kx), (2, .double v)] [] from ?_)
  refine g_aload_n hC dX4_hand_0 0 rfl ?_
  refine g_iload_n hC dX4_hand_1 1 rfl ?_
  refine g_callV hC (Cn := RX4) (TT := TX4) (N := 4) dX4_hand_2 (ct_X4_findLoop l G L f hI kx) q_code_X4_findLoop q_ml_X4_32 q_im_X4_findLoop q_sel_X4_findLoop q_init_X4 ⟨rfl, by decide, by decide, (show (parseMethodDescriptor yX4_findLoop.desc).map (fun d => d.parameters.length) = some 1 from by decide +kernel)⟩ (CI.hm hI) (CI.h0 hI) rfl (by decide) (by decide) (Nat.le_of_ble_eq_true rfl) (fun v2 L3 f4 hp1 => ?_)
  obtain ⟨rfl, rfl, ⟨rfl, hno_i⟩ | ⟨i, hi, rfl, rfl⟩⟩ := hp1
  · refine (show V C 5 L f 0 0 5 [(0, .ref (c 6 0)), (1, .int kx), (2, .double v)] [.null] from ?_)
    refine g_astoreN hC (lv1 := [(4, .null), (0, .ref (c 6 0)), (1, .int kx), (2, .double v)]) dX4_hand_5 (by decide) rfl ?_
    refine g_aloadN hC dX4_hand_7 0 rfl ?_
    refine g_ifnullN hC 32 dX4_hand_9 (by decide) ?_
    refine g_iconst hC 0 dX4_hand_32 (by decide) ?_
    exact g_iret hC dX4_hand_33 rfl rfl ⟨rfl, Or.inl ⟨fun j hj q => absurd q (hno_i j hj), rfl, rfl⟩⟩ (Nat.zero_le _) (Nat.zero_le _)
  · refine (show V C 5 L f 0 0 5 [(0, .ref (c 6 0)), (1, .int (nI i)), (2, .double v)] [.ref (c 0 i)] from ?_)
    refine g_astore hC (lv1 := [(4, .ref (c 0 i)), (0, .ref (c 6 0)), (1, .int (nI i)), (2, .double v)]) dX4_hand_5 (by decide) rfl ?_
    refine g_aload hC dX4_hand_7 0 rfl ?_
    refine g_ifnull hC dX4_hand_9 ?_
    refine g_aload hC dX4_hand_12 0 rfl ?_
    refine g_getN hC (kf := 13) (TT := TX0) (N := 16) (Cn := RX0) dX4_hand_14 (CI.lp hI hi).1.1 (CI.lp hI hi).1.2 rfl q_u0 (by decide) q_fn_X4_78 rfl rfl ?_
    refine g_if_ne hC 32 dX4_hand_17 (by decide) (fun c5 => ?_) (fun c5 => ?_)
    · skip
      refine g_iconst hC 0 dX4_hand_32 (by decide) ?_
      exact g_iret hC dX4_hand_33 rfl rfl ⟨rfl, Or.inl ⟨fun j hj q => by have q1 := nI_injL (by have := CI.n16 hI; omega) (by have := CI.n16 hI; omega) q; subst q1; simp only [hanC, Bool.and_true, Bool.true_and, Bool.and_false, Bool.false_and, Bool.not_true, Bool.not_false, decide_true, decide_false, eq_false c5], rfl, rfl⟩⟩ (Nat.zero_le _) (Nat.zero_le _)
    · skip
      refine g_aload hC dX4_hand_20 0 rfl ?_
      refine g_getN hC (kf := 3) (TT := TX0) (N := 16) (Cn := RX0) dX4_hand_22 (CI.lp hI hi).1.1 (CI.lp hI hi).1.2 rfl q_u0 (by decide) q_fn_X4_46 rfl rfl ?_
      refine g_dload_n hC dX4_hand_25 3 rfl ?_
      refine g_callV hC (Cn := RX1) (TT := TX1) (N := 2) dX4_hand_26 (ct_X1_holds l G L f (c 1 i) (X i 9) (X i 10) v (CI.lp hI hi).2.1.1 (CI.lp hI hi).2.1.2) q_code_X1_holds q_ml_X4_81 q_im_X1_holds q_sel_X1_holds q_init_X1 ⟨rfl, by decide, by decide, (show (parseMethodDescriptor yX1_holds.desc).map (fun d => d.parameters.length) = some 1 from by decide +kernel)⟩ (CI.lp hI hi).2.1.1 (CI.lp hI hi).2.1.2 rfl (by decide) (by decide) (Nat.le_of_ble_eq_true rfl) (fun v7 L8 f9 hp6 => ?_)
      obtain ⟨rfl, rfl, rfl⟩ := hp6
      refine (show V C 5 L f 0 0 29 [(4, .ref (c 0 i)), (0, .ref (c 6 0)), (1, .int (nI i)), (2, .double v)] [.int (bI (inB (dv v) (dv (X i 9)) (dv (X i 10))))] from ?_)
      refine g_ifB_ne hC 34 dX4_hand_29 (by decide) (fun c10 => ?_) (fun c10 => ?_)
      · skip
        refine g_aload hC dX4_hand_34 0 rfl ?_
        refine g_dload_n hC dX4_hand_36 3 rfl ?_
        refine g_putN hC (kf := 12) (TT := TX0) (N := 16) (Cn := RX0) (ty0 := tyX0) (fs1 := [.double ((X i) 0), .double ((X i) 1), .double ((X i) 2), .ref (c 1 i), .ref (c 2 i), .ref (c 3 i), .ref (c 4 i), .double ((X i) 3), .double ((X i) 4), .double ((X i) 5), .double ((X i) 6), .double ((X i) 7), .double v, .int (Z i 0), .int (Z i 1), va_rf ((OU i).map (c 0))]) dX4_hand_37 (CI.lp hI hi).1.1 (CI.lp hI hi).1.2 rfl q_u0 (by decide) tyX0_ok nmX0 q_fn_X4_84 rfl rfl rfl rfl rfl (Nat.le_of_ble_eq_true rfl) rfl ?_
        refine g_nm (fun f11 hf12 => ?_)
        have hx13 : f11 (c 0 i) = .inr (0, [.double ((X i) 0), .double ((X i) 1), .double ((X i) 2), .ref (c 1 i), .ref (c 2 i), .ref (c 3 i), .ref (c 4 i), .double ((X i) 3), .double ((X i) 4), .double ((X i) 5), .double ((X i) 6), .double ((X i) 7), .double v, .int (Z i 0), .int (Z i 1), va_rf ((OU i).map (c 0))]) := by rw [hf12]; exact va_up_self _ _ _
        have hF14 : f11 = va_up f (c 0 i) (.inr (0, [.double ((X i) 0), .double ((X i) 1), .double ((X i) 2), .ref (c 1 i), .ref (c 2 i), .ref (c 3 i), .ref (c 4 i), .double ((X i) 3), .double ((X i) 4), .double ((X i) 5), .double ((X i) 6), .double ((X i) 7), .double v, .int (Z i 0), .int (Z i 1), va_rf ((OU i).map (c 0))])) := hf12
        refine g_iconst hC 1 dX4_hand_40 (by decide) ?_
        refine g_iret hC dX4_hand_41 rfl rfl ⟨rfl, Or.inr ⟨i, hi, rfl, by simp only [hanC, decide_true, Bool.and_true, Bool.true_and, Bool.and_false, Bool.false_and, Bool.not_true, Bool.not_false, eq_true c5, c10], rfl, ?_, ?_⟩⟩ (Nat.zero_le _) (Nat.zero_le _)
        · exact (by rw [hf12]; exact FRc.up _ FRc.rf (CI.lp hI hi).1.2 rfl)
        · rw [hF14]; exact CI.loopX hI hi (va_up (X i) 8 v) (fun j hj => va_up_ne _ _ (by omega))
      · skip
        refine g_iconst hC 0 dX4_hand_32 (by decide) ?_
        exact g_iret hC dX4_hand_33 rfl rfl ⟨rfl, Or.inl ⟨fun j hj q => by have q1 := nI_injL (by have := CI.n16 hI; omega) (by have := CI.n16 hI; omega) q; subst q1; simp only [hanC, Bool.and_true, Bool.true_and, Bool.and_false, Bool.false_and, Bool.not_true, Bool.not_false, decide_true, decide_false, eq_true c5, c10], rfl, rfl⟩⟩ (Nat.zero_le _) (Nat.zero_le _)
set_option maxHeartbeats 4000000 in
set_option maxRecDepth 100000 in
/-- fault(loop) -/
theorem ct_X4_fault (l : Launch) (G : GD) (L : List Nat) (f : Nat → va_E) {c : Nat → Nat → Nat} {n k : Nat} {X : Nat → Nat → UInt64} {XS : Nat → UInt64} {Z : Nat → Nat → Int32} {OU : Nat → Option Nat} {SL : Nat → Nat} (hI : CI G c n k X XS Z OU SL L f) (kx : Int32) : Ctr l yX4_fault cX4_fault 3 (some .int) { frames := 1, cells := 0, slots := 0, locals := 30 } G [.ref (c 6 0), .int kx] L f (fun vv L1 f1 => L = L1 ∧ f = f1 ∧ (((∀ i, i < n → ¬ kx = nI i) ∧ vv = some (.int (-1))) ∨ ∃ i, i < n ∧ kx = nI i ∧ vv = some (.int (Z i 1)))) := by
  refine g_enter RX4 false (by decide) rfl (fun h => by cases h) (Nat.le_of_ble_eq_true rfl) (fun C hC => ?_)
  refine (show V C 3 L f 0 0 0 [(0, .ref (c 6 0)), (1, .int kx)] [] from ?_)
  refine g_aload_n hC dX4_fault_0 0 rfl ?_
  refine g_iload_n hC dX4_fault_1 1 rfl ?_
  refine g_callV hC (Cn := RX4) (TT := TX4) (N := 4) dX4_fault_2 (ct_X4_findLoop l G L f hI kx) q_code_X4_findLoop q_ml_X4_32 q_im_X4_findLoop q_sel_X4_findLoop q_init_X4 ⟨rfl, by decide, by decide, (show (parseMethodDescriptor yX4_findLoop.desc).map (fun d => d.parameters.length) = some 1 from by decide +kernel)⟩ (CI.hm hI) (CI.h0 hI) rfl (by decide) (by decide) (Nat.le_of_ble_eq_true rfl) (fun v2 L3 f4 hp1 => ?_)
  obtain ⟨rfl, rfl, ⟨rfl, hno_i⟩ | ⟨i, hi, rfl, rfl⟩⟩ := hp1
  · refine (show V C 3 L f 0 0 5 [(0, .ref (c 6 0)), (1, .int kx)] [.null] from ?_)
    refine g_astore_nN hC (lv1 := [(2, .null), (0, .ref (c 6 0)), (1, .int kx)]) dX4_fault_5 (by decide) rfl ?_
    refine g_aload_nN hC dX4_fault_6 0 rfl ?_
    refine g_ifnonnullN hC dX4_fault_7 ?_
    refine g_iconst hC (-1) dX4_fault_10 (by decide) ?_
    refine g_goto hC 18 dX4_fault_11 (by decide) ?_
    exact g_iret hC dX4_fault_18 rfl rfl ⟨rfl, rfl, Or.inl ⟨hno_i, rfl⟩⟩ (Nat.zero_le _) (Nat.zero_le _)
  · refine (show V C 3 L f 0 0 5 [(0, .ref (c 6 0)), (1, .int (nI i))] [.ref (c 0 i)] from ?_)
    refine g_astore_n hC (lv1 := [(2, .ref (c 0 i)), (0, .ref (c 6 0)), (1, .int (nI i))]) dX4_fault_5 (by decide) rfl ?_
    refine g_aload_n hC dX4_fault_6 0 rfl ?_
    refine g_ifnonnull hC 14 dX4_fault_7 (by decide) ?_
    refine g_aload_n hC dX4_fault_14 0 rfl ?_
    refine g_getN hC (kf := 14) (TT := TX0) (N := 16) (Cn := RX0) dX4_fault_15 (CI.lp hI hi).1.1 (CI.lp hI hi).1.2 rfl q_u0 (by decide) q_fn_X4_130 rfl rfl ?_
    exact g_iret hC dX4_fault_18 rfl rfl ⟨rfl, rfl, Or.inr ⟨i, hi, rfl, rfl⟩⟩ (Nat.zero_le _) (Nat.zero_le _)
