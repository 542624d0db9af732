def tkC (m tg : DT) : Bool := readS m && readS tg
def tkE (uo : Option DT) (tg m : DT) : DT := qsub (match uo with | none => tg | some w => w) m
set_option maxHeartbeats 4000000 in
set_option maxRecDepth 100000 in
/-- tick(loop, measured, target) -/
theorem ct_X4_tick (l : Launch) (G : GD) (L : List Nat) (f : Nat → va_E) {c : Nat → Nat → Nat} {n k : Nat} {X : Nat → Nat → UInt64} {XS : Nat → UInt64} {Z : Nat → Nat → Int32} {OU : Nat → Option Nat} {SL : Nat → Nat} (hI : CI G c n k X XS Z OU SL L f) (kx : Int32) (m tg : UInt64) : Ctr l yX4_tick cX4_tick 7 (some .double) { frames := 3, cells := 0, slots := 0, locals := 76 } G [.ref (c 6 0), .int kx, .double m, .double tg] L f (fun vv L1 f1 => L = L1 ∧ (((∀ i, i < n → kx = nI i → tkC (dv m) (dv tg) = false) ∧ vv = some (.double 0) ∧ f = f1) ∨ (∃ i, i < n ∧ kx = nI i ∧ tkC (dv m) (dv tg) = true ∧ FRc L f f1 ∧ ((inB (dv m) (dv (X i 13)) (dv (X i 14)) = false ∧ vv = some (.double (X i 4)) ∧ CI G c n k (va_up X i (va_up (X i) 5 (X i 4))) XS (va_up Z i (va_up (Z i) 1 (Z i 1 + 1))) OU SL L f1) ∨ (inB (dv m) (dv (X i 13)) (dv (X i 14)) = true ∧ ∃ u s e : UInt64, dv e = tkE ((OU i).map (fun o => dv (X o 5))) (dv tg) (dv m) ∧ dv u = tU (dz (X i)) (Z i 0) (dv (X i 9)) (dv (X i 10)) (dv (X i 11)) (dv (X i 12)) (dv e) ∧ dv s = tS (dz (X i)) (Z i 0) (dv (X i 9)) (dv (X i 10)) (dv e) ∧ vv = some (.double u) ∧ CI G c n k (va_up X i (va_up (va_up (va_up (X i) 6 s) 5 u) 7 e)) XS Z OU SL L f1))))) := by
  refine g_enter RX4 false (by decide) rfl (fun h => by cases h) (Nat.le_of_ble_eq_true rfl) (fun C hC => ?_)
  refine (show V C 7 L f 0 0 0 [(0, .ref (c 6 0)), (1, .int kx), (2, .double m), (4, .double tg)] [] from ?_)
  refine g_aload_n hC dX4_tick_0 0 rfl ?_
  refine g_iload_n hC dX4_tick_1 1 rfl ?_
  refine g_callV hC (Cn := RX4) (TT := TX4) (N := 4) dX4_tick_2 (ct_X4_findLoop l G L f hI kx) q_code_X4_findLoop q_ml_X4_32 q_im_X4_findLoop q_sel_X4_findLoop q_init_X4 ⟨rfl, by decide, by decide, (show (parseMethodDescriptor yX4_findLoop.desc).map (fun d => d.parameters.length) = some 1 from by decide +kernel)⟩ (CI.hm hI) (CI.h0 hI) rfl (by decide) (by decide) (Nat.le_of_ble_eq_true rfl) (fun v2 L3 f4 hp1 => ?_)
  obtain ⟨rfl, rfl, ⟨rfl, hno_i⟩ | ⟨i, hi, rfl, rfl⟩⟩ := hp1
  · refine (show V C 7 L f 0 0 5 [(0, .ref (c 6 0)), (1, .int kx), (2, .double m), (4, .double tg)] [.null] from ?_)
    refine g_astoreN hC (lv1 := [(6, .null), (0, .ref (c 6 0)), (1, .int kx), (2, .double m), (4, .double tg)]) dX4_tick_5 (by decide) rfl ?_
    refine g_aloadN hC dX4_tick_7 0 rfl ?_
    refine g_ifnullN hC 27 dX4_tick_9 (by decide) ?_
    refine g_dconst0 hC dX4_tick_27 ?_
    exact g_dret hC dX4_tick_28 rfl ⟨rfl, Or.inl ⟨fun j hj q => absurd q (hno_i j hj), rfl, rfl⟩⟩ (Nat.zero_le _) (Nat.zero_le _)
  · refine (show V C 7 L f 0 0 5 [(0, .ref (c 6 0)), (1, .int (nI i)), (2, .double m), (4, .double tg)] [.ref (c 0 i)] from ?_)
    refine g_astore hC (lv1 := [(6, .ref (c 0 i)), (0, .ref (c 6 0)), (1, .int (nI i)), (2, .double m), (4, .double tg)]) dX4_tick_5 (by decide) rfl ?_
    refine g_aload hC dX4_tick_7 0 rfl ?_
    refine g_ifnull hC dX4_tick_9 ?_
    refine g_dload_n hC dX4_tick_12 3 rfl ?_
    refine g_callS hC dX4_tick_13 (ct_X4_isReading l G L f m) q_code_X4_isReading q_ml_X4_65 q_st_X4_isReading q_init_X4 ⟨by decide, by decide, (show (parseMethodDescriptor yX4_isReading.desc).map (fun d => d.parameters.length) = some 1 from by decide +kernel)⟩ (by decide) (by decide) (Nat.le_of_ble_eq_true rfl) (fun v6 L7 f8 hp5 => ?_)
    obtain ⟨rfl, rfl, rfl⟩ := hp5
    refine (show V C 7 L f 0 0 16 [(6, .ref (c 0 i)), (0, .ref (c 6 0)), (1, .int (nI i)), (2, .double m), (4, .double tg)] [.int (bI (readS (dv m)))] from ?_)
    refine g_ifB_eq hC 27 dX4_tick_16 (by decide) (fun c9 => ?_) (fun c9 => ?_)
    · skip
      refine g_dconst0 hC dX4_tick_27 ?_
      exact g_dret hC dX4_tick_28 rfl ⟨rfl, Or.inl ⟨fun _ _ _ => by simp only [tkC, Bool.and_true, Bool.true_and, Bool.and_false, Bool.false_and, Bool.not_true, Bool.not_false, c9], rfl, rfl⟩⟩ (Nat.zero_le _) (Nat.zero_le _)
    · skip
      refine g_dload hC dX4_tick_19 4 rfl ?_
      refine g_callS hC dX4_tick_21 (ct_X4_isReading l G L f tg) q_code_X4_isReading q_ml_X4_65 q_st_X4_isReading q_init_X4 ⟨by decide, by decide, (show (parseMethodDescriptor yX4_isReading.desc).map (fun d => d.parameters.length) = some 1 from by decide +kernel)⟩ (by decide) (by decide) (Nat.le_of_ble_eq_true rfl) (fun v11 L12 f13 hp10 => ?_)
      obtain ⟨rfl, rfl, rfl⟩ := hp10
      refine (show V C 7 L f 0 0 24 [(6, .ref (c 0 i)), (0, .ref (c 6 0)), (1, .int (nI i)), (2, .double m), (4, .double tg)] [.int (bI (readS (dv tg)))] from ?_)
      refine g_ifB_ne hC 29 dX4_tick_24 (by decide) (fun c14 => ?_) (fun c14 => ?_)
      · skip
        refine g_aload hC dX4_tick_29 0 rfl ?_
        refine g_dload_n hC dX4_tick_31 3 rfl ?_
        refine g_dload hC dX4_tick_32 4 rfl ?_
        rcases ho : OU i with _ | o
        · have hq0 := (CI.lp hI hi).1.2
          rw [ho] at hq0
          refine g_callV hC (Cn := RX0) (TT := TX0) (N := 16) dX4_tick_34 (ct_X0_pass_n l G L f (c 0 i) (c 1 i) (c 2 i) (c 3 i) (c 4 i) (X i) (Z i 0) (Z i 1) (X i 9) (X i 10) (X i 11) (X i 12) (X i 13) (X i 14) m tg (CI.lp hI hi).1.1 hq0 (CI.lp hI hi).2.1.1 (CI.lp hI hi).2.2.1.1 (CI.lp hI hi).2.2.2.1.1 (CI.lp hI hi).2.1.2 (CI.lp hI hi).2.2.1.2 (CI.lp hI hi).2.2.2.1.2) q_code_X0_pass q_ml_X4_68 q_im_X0_pass q_sel_X0_pass q_init_X0 ⟨rfl, by decide, by decide, (show (parseMethodDescriptor yX0_pass.desc).map (fun d => d.parameters.length) = some 2 from by decide +kernel)⟩ (CI.lp hI hi).1.1 (CI.lp hI hi).1.2 rfl (by decide) (by decide) (Nat.le_of_ble_eq_true rfl) (fun v16 L17 f18 hp15 => ?_)
          obtain ⟨rfl, rfl, ⟨hin, hf⟩ | ⟨hin, u, sm, er, he, hu, hs, hf⟩⟩ := hp15
          · have hz : f18 (c 0 i) = .inr (0, [.double ((X i) 0), .double ((X i) 1), .double ((X i) 2), .ref (c 1 i), .ref (c 2 i), .ref (c 3 i), .ref (c 4 i), .double ((X i) 3), .double ((X i) 4), .double (X i 4), .double ((X i) 6), .double ((X i) 7), .double ((X i) 8), .int (Z i 0), .int (Z i 1 + 1), .null]) := by rw [hf]; exact va_up_self _ _ _
            refine (show V C 7 L f18 0 0 37 [(6, .ref (c 0 i)), (0, .ref (c 6 0)), (1, .int (nI i)), (2, .double m), (4, .double tg)] [] from ?_)
            refine g_aload hC dX4_tick_37 0 rfl ?_
            refine g_getN hC (kf := 9) (TT := TX0) (N := 16) (Cn := RX0) dX4_tick_39 (CI.lp hI hi).1.1 hz rfl q_u0 (by decide) q_fn_X4_71 rfl rfl ?_
            refine g_dret hC dX4_tick_42 rfl ⟨rfl, Or.inr ⟨i, hi, rfl, by simp only [tkC, Bool.and_true, Bool.true_and, Bool.and_false, Bool.false_and, Bool.not_true, Bool.not_false, c9, c14], by rw [hf]; exact FRc.up _ FRc.rf (CI.lp hI hi).1.2 rfl, ?_⟩⟩ (Nat.zero_le _) (Nat.zero_le _)
            refine Or.inl ⟨hin, rfl, ?_⟩
            have h2 := CI.loop hI hi (va_up (X i) 5 (X i 4)) (va_up (Z i) 1 (Z i 1 + 1)) (OU i) (fun j hj => va_up_ne _ _ (by omega)) (fun j hj => va_up_ne _ _ (by omega)) (fun o ho => hI.2.2.2.2.2.2.2.1 i o hi ho)
            rw [va_up_id (f := OU) rfl, ho] at h2; rw [hf]; exact h2
          · have hz : f18 (c 0 i) = .inr (0, [.double ((X i) 0), .double ((X i) 1), .double ((X i) 2), .ref (c 1 i), .ref (c 2 i), .ref (c 3 i), .ref (c 4 i), .double ((X i) 3), .double ((X i) 4), .double u, .double sm, .double er, .double ((X i) 8), .int (Z i 0), .int (Z i 1), .null]) := by rw [hf]; exact va_up_self _ _ _
            refine (show V C 7 L f18 0 0 37 [(6, .ref (c 0 i)), (0, .ref (c 6 0)), (1, .int (nI i)), (2, .double m), (4, .double tg)] [] from ?_)
            refine g_aload hC dX4_tick_37 0 rfl ?_
            refine g_getN hC (kf := 9) (TT := TX0) (N := 16) (Cn := RX0) dX4_tick_39 (CI.lp hI hi).1.1 hz rfl q_u0 (by decide) q_fn_X4_71 rfl rfl ?_
            refine g_dret hC dX4_tick_42 rfl ⟨rfl, Or.inr ⟨i, hi, rfl, by simp only [tkC, Bool.and_true, Bool.true_and, Bool.and_false, Bool.false_and, Bool.not_true, Bool.not_false, c9, c14], by rw [hf]; exact FRc.up _ FRc.rf (CI.lp hI hi).1.2 rfl, ?_⟩⟩ (Nat.zero_le _) (Nat.zero_le _)
            refine Or.inr ⟨hin, u, sm, er, by rw [ho]; exact he, hu, hs, rfl, ?_⟩
            have h2 := CI.loopX hI hi (va_up (va_up (va_up (X i) 6 sm) 5 u) 7 er) (fun j hj => by rw [va_up_ne _ _ (by omega), va_up_ne _ _ (by omega), va_up_ne _ _ (by omega)])
            rw [ho] at h2; rw [hf]; exact h2
        · have hq0 := (CI.lp hI hi).1.2
          rw [ho] at hq0
          have hon := hI.2.2.2.2.2.2.2.1 i o hi ho
          refine g_callV hC (Cn := RX0) (TT := TX0) (N := 16) dX4_tick_34 (ct_X0_pass_s l G L f (c 0 i) (c 1 i) (c 2 i) (c 3 i) (c 4 i) (X i) (Z i 0) (Z i 1) (X i 9) (X i 10) (X i 11) (X i 12) (X i 13) (X i 14) m tg (c 0 o) (c 1 o) (c 2 o) (c 3 o) (c 4 o) (X o) (Z o 0) (Z o 1) ((OU o).map (c 0)) (CI.lp hI hi).1.1 hq0 (CI.lp hI hi).2.1.1 (CI.lp hI hi).2.2.1.1 (CI.lp hI hi).2.2.2.1.1 (CI.lp hI hi).2.1.2 (CI.lp hI hi).2.2.1.2 (CI.lp hI hi).2.2.2.1.2 (CI.lp hI hon).1.1 (CI.lp hI hon).1.2) q_code_X0_pass q_ml_X4_68 q_im_X0_pass q_sel_X0_pass q_init_X0 ⟨rfl, by decide, by decide, (show (parseMethodDescriptor yX0_pass.desc).map (fun d => d.parameters.length) = some 2 from by decide +kernel)⟩ (CI.lp hI hi).1.1 (CI.lp hI hi).1.2 rfl (by decide) (by decide) (Nat.le_of_ble_eq_true rfl) (fun v20 L21 f22 hp19 => ?_)
          obtain ⟨rfl, rfl, ⟨hin, hf⟩ | ⟨hin, u, sm, er, he, hu, hs, hf⟩⟩ := hp19
          · have hz : f22 (c 0 i) = .inr (0, [.double ((X i) 0), .double ((X i) 1), .double ((X i) 2), .ref (c 1 i), .ref (c 2 i), .ref (c 3 i), .ref (c 4 i), .double ((X i) 3), .double ((X i) 4), .double (X i 4), .double ((X i) 6), .double ((X i) 7), .double ((X i) 8), .int (Z i 0), .int (Z i 1 + 1), .ref (c 0 o)]) := by rw [hf]; exact va_up_self _ _ _
            refine (show V C 7 L f22 0 0 37 [(6, .ref (c 0 i)), (0, .ref (c 6 0)), (1, .int (nI i)), (2, .double m), (4, .double tg)] [] from ?_)
            refine g_aload hC dX4_tick_37 0 rfl ?_
            refine g_getN hC (kf := 9) (TT := TX0) (N := 16) (Cn := RX0) dX4_tick_39 (CI.lp hI hi).1.1 hz rfl q_u0 (by decide) q_fn_X4_71 rfl rfl ?_
            refine g_dret hC dX4_tick_42 rfl ⟨rfl, Or.inr ⟨i, hi, rfl, by simp only [tkC, Bool.and_true, Bool.true_and, Bool.and_false, Bool.false_and, Bool.not_true, Bool.not_false, c9, c14], by rw [hf]; exact FRc.up _ FRc.rf (CI.lp hI hi).1.2 rfl, ?_⟩⟩ (Nat.zero_le _) (Nat.zero_le _)
            refine Or.inl ⟨hin, rfl, ?_⟩
            have h2 := CI.loop hI hi (va_up (X i) 5 (X i 4)) (va_up (Z i) 1 (Z i 1 + 1)) (OU i) (fun j hj => va_up_ne _ _ (by omega)) (fun j hj => va_up_ne _ _ (by omega)) (fun o ho => hI.2.2.2.2.2.2.2.1 i o hi ho)
            rw [va_up_id (f := OU) rfl, ho] at h2; rw [hf]; exact h2
          · have hz : f22 (c 0 i) = .inr (0, [.double ((X i) 0), .double ((X i) 1), .double ((X i) 2), .ref (c 1 i), .ref (c 2 i), .ref (c 3 i), .ref (c 4 i), .double ((X i) 3), .double ((X i) 4), .double u, .double sm, .double er, .double ((X i) 8), .int (Z i 0), .int (Z i 1), .ref (c 0 o)]) := by rw [hf]; exact va_up_self _ _ _
            refine (show V C 7 L f22 0 0 37 [(6, .ref (c 0 i)), (0, .ref (c 6 0)), (1, .int (nI i)), (2, .double m), (4, .double tg)] [] from ?_)
            refine g_aload hC dX4_tick_37 0 rfl ?_
            refine g_getN hC (kf := 9) (TT := TX0) (N := 16) (Cn := RX0) dX4_tick_39 (CI.lp hI hi).1.1 hz rfl q_u0 (by decide) q_fn_X4_71 rfl rfl ?_
            refine g_dret hC dX4_tick_42 rfl ⟨rfl, Or.inr ⟨i, hi, rfl, by simp only [tkC, Bool.and_true, Bool.true_and, Bool.and_false, Bool.false_and, Bool.not_true, Bool.not_false, c9, c14], by rw [hf]; exact FRc.up _ FRc.rf (CI.lp hI hi).1.2 rfl, ?_⟩⟩ (Nat.zero_le _) (Nat.zero_le _)
            refine Or.inr ⟨hin, u, sm, er, by rw [ho]; exact he, hu, hs, rfl, ?_⟩
            have h2 := CI.loopX hI hi (va_up (va_up (va_up (X i) 6 sm) 5 u) 7 er) (fun j hj => by rw [va_up_ne _ _ (by omega), va_up_ne _ _ (by omega), va_up_ne _ _ (by omega)])
            rw [ho] at h2; rw [hf]; exact h2
      · skip
        refine g_dconst0 hC dX4_tick_27 ?_
        exact g_dret hC dX4_tick_28 rfl ⟨rfl, Or.inl ⟨fun _ _ _ => by simp only [tkC, Bool.and_true, Bool.true_and, Bool.and_false, Bool.false_and, Bool.not_true, Bool.not_false, c9, c14], rfl, rfl⟩⟩ (Nat.zero_le _) (Nat.zero_le _)
def ledN (OU : Nat → Option Nat) : Nat → Option Nat → Nat → Bool
  | 0, _, _ => false
  | _ + 1, none, _ => false
  | s + 1, some a, w => if a = w then true else ledN OU s (OU a) w
section G20
variable {C : CX} {cc : ByteArray} {nL : Nat} {own : String} {ini : Bool} {R0 : Room} {G0 : GD} {l0 : Launch} {ret : Option FieldType} {post : PO} {L : List Nat} {f : Nat → va_E} {k n pc : Nat} {lv : List (Nat × Value)} {st : List Value}
theorem g_lv {lv' : List (Nat × Value)} (h : lv = lv') (kk : V C nL L f k n pc lv' st) : V C nL L f k n pc lv st := h ▸ kk
end G20
set_option maxHeartbeats 4000000 in
set_option maxRecDepth 100000 in
/-- isLed(loop, wanted) -/
theorem ct_X4_isLed (l : Launch) (G : GD) (L : List Nat) (f : Nat → va_E) {c : Nat → Nat → Nat} {n k : Nat} {X : Nat → Nat → UInt64} {XS : Nat → UInt64} {Z : Nat → Nat → Int32} {OU : Nat → Option Nat} {SL : Nat → Nat} (hI : CI G c n k X XS Z OU SL L f) {a b : Nat} (ha : a < n) (hb : b < n) : Ctr l yX4_isLed cX4_isLed 4 (some .boolean) R00 G [.ref (c 0 a), .ref (c 0 b)] L f (fun vv L1 f1 => vv = some (.int (bI (ledN OU 16 (some a) b))) ∧ L = L1 ∧ f = f1) := by
  refine g_enter RX4 false (by decide) rfl (fun h => by cases h) (Nat.le_of_ble_eq_true rfl) (fun C hC => ?_)
  refine (show V C 4 L f 0 0 0 [(0, .ref (c 0 a)), (1, .ref (c 0 b))] [] from ?_)
  have K : ∀ (m s : Nat) (x : Option Nat), s + m = 16 → (∀ o, x = some o → o < n) → ledN OU m x b = ledN OU 16 (some a) b → V C 4 L f 0 0 4 [(3, .int (nI s)), (2, va_rf (x.map (c 0))), (0, .ref (c 0 a)), (1, .ref (c 0 b))] [] := by
    intro m
    induction m with
    | zero =>
      intro s x hs hx hr
      have hs1 : s = 16 := by omega
      subst hs1
      refine g_iload_n hC dX4_isLed_4 0 rfl ?_
      refine g_bipush hC 16 dX4_isLed_5 (by decide) ?_
      refine g_icmp_ge hC 32 dX4_isLed_7 (by decide) (fun _ => ?_) (fun c => absurd (by decide) c)
      refine g_iconst hC 0 dX4_isLed_32 (by decide) ?_
      exact g_iret hC dX4_isLed_33 rfl rfl ⟨by rw [← hr]; rfl, rfl, rfl⟩ (Nat.zero_le _) (Nat.zero_le _)
    | succ m ih =>
      intro s x hs hx hr
      refine g_iload_n hC dX4_isLed_4 0 rfl ?_
      refine g_bipush hC 16 dX4_isLed_5 (by decide) ?_
      refine g_icmp_ge hC 32 dX4_isLed_7 (by decide) (fun c => absurd (show nI 16 ≤ nI s from c) (nI_ge (by omega) (by decide))) (fun _ => ?_)
      rcases x with _ | o
      · refine g_aload_nN hC dX4_isLed_10 1 rfl ?_
        refine g_ifnullN hC 32 dX4_isLed_11 (by decide) ?_
        refine g_iconst hC 0 dX4_isLed_32 (by decide) ?_
        exact g_iret hC dX4_isLed_33 rfl rfl ⟨by rw [← hr]; rfl, rfl, rfl⟩ (Nat.zero_le _) (Nat.zero_le _)
      · have ho := hx o rfl
        refine (show V C 4 L f 0 0 10 [(3, .int (nI s)), (2, .ref (c 0 o)), (0, .ref (c 0 a)), (1, .ref (c 0 b))] [] from ?_)
        refine g_aload_n hC dX4_isLed_10 1 rfl ?_
        refine g_ifnull hC dX4_isLed_11 ?_
        refine g_aload_n hC dX4_isLed_14 1 rfl ?_
        refine g_aload_n hC dX4_isLed_15 3 rfl ?_
        refine g_acmp_ne hC 21 dX4_isLed_16 (by decide) (fun q => ?_) (fun q => ?_)
        · have hob : ¬ o = b := fun z => q (by rw [z])
          have hr1 : ledN OU m (OU o) b = ledN OU 16 (some a) b := by rw [← hr]; simp only [ledN, if_neg hob]
          refine g_aload_n hC dX4_isLed_21 1 rfl ?_
          refine g_getN hC (kf := 15) (TT := TX0) (N := 16) (Cn := RX0) dX4_isLed_22 (CI.lp hI ho).1.1 (CI.lp hI ho).1.2 rfl q_u0 (by decide) q_fn_X4_91 rfl rfl ?_
          rcases hoo : OU o with _ | o2
          · refine (show V C 4 L f 0 0 25 [(3, .int (nI s)), (2, .ref (c 0 o)), (0, .ref (c 0 a)), (1, .ref (c 0 b))] [.null] from ?_)
            refine g_astore_nN hC (lv1 := [(2, .null), (3, .int (nI s)), (0, .ref (c 0 a)), (1, .ref (c 0 b))]) dX4_isLed_25 (by decide) rfl ?_
            refine g_iinc hC (v := nI (s + 1)) (lv1 := [(3, .int (nI (s + 1))), (2, .null), (0, .ref (c 0 a)), (1, .ref (c 0 b))]) dX4_isLed_26 1 rfl (by rw [nI_succ]; rfl) (by decide) rfl ?_
            refine g_goto hC 4 dX4_isLed_29 (by decide) ?_
            exact ih (s + 1) none (by omega) (fun o h => by cases h) (by rw [← hoo]; exact hr1)
          · refine (show V C 4 L f 0 0 25 [(3, .int (nI s)), (2, .ref (c 0 o)), (0, .ref (c 0 a)), (1, .ref (c 0 b))] [.ref (c 0 o2)] from ?_)
            refine g_astore_n hC (lv1 := [(2, .ref (c 0 o2)), (3, .int (nI s)), (0, .ref (c 0 a)), (1, .ref (c 0 b))]) dX4_isLed_25 (by decide) rfl ?_
            refine g_iinc hC (v := nI (s + 1)) (lv1 := [(3, .int (nI (s + 1))), (2, .ref (c 0 o2)), (0, .ref (c 0 a)), (1, .ref (c 0 b))]) dX4_isLed_26 1 rfl (by rw [nI_succ]; rfl) (by decide) rfl ?_
            refine g_goto hC 4 dX4_isLed_29 (by decide) ?_
            exact ih (s + 1) (some o2) (by omega) (fun o3 h => by cases h; exact hI.2.2.2.2.2.2.2.1 o o2 ho hoo) (by rw [← hoo]; exact hr1)
        · have hob : o = b := (hI.2.2.2.2.2.2.2.2 0 0 o b (by decide) (by decide) ho hb q).2
          have hr1 : ledN OU 16 (some a) b = true := by rw [← hr]; simp only [ledN, if_pos hob]
          refine g_iconst hC 1 dX4_isLed_19 (by decide) ?_
          exact g_iret hC dX4_isLed_20 rfl rfl ⟨by rw [hr1]; rfl, rfl, rfl⟩ (Nat.zero_le _) (Nat.zero_le _)
  refine g_aload_n hC dX4_isLed_0 0 rfl ?_
  refine g_astore_n hC (lv1 := [(2, .ref (c 0 a)), (0, .ref (c 0 a)), (1, .ref (c 0 b))]) dX4_isLed_1 (by decide) rfl ?_
  refine g_iconst hC (nI 0) dX4_isLed_2 (by decide) ?_
  refine g_istore_n hC (lv1 := [(3, .int (nI 0)), (2, .ref (c 0 a)), (0, .ref (c 0 a)), (1, .ref (c 0 b))]) dX4_isLed_3 (by decide) rfl ?_
  exact K 16 0 (some a) rfl (fun o h => by cases h; exact ha) rfl
set_option maxHeartbeats 4000000 in
set_option maxRecDepth 100000 in
/-- cascade(outer, inner) -/
theorem ct_X4_cascade (l : Launch) (G : GD) (L : List Nat) (f : Nat → va_E) {c : Nat → Nat → Nat} {n k : Nat} {X : Nat → Nat → UInt64} {XS : Nat → UInt64} {Z : Nat → Nat → Int32} {OU : Nat → Option Nat} {SL : Nat → Nat} (hI : CI G c n k X XS Z OU SL L f) (kx ky : Int32) : Ctr l yX4_cascade cX4_cascade 5 (some .boolean) { frames := 1, cells := 0, slots := 0, locals := 30 } G [.ref (c 6 0), .int kx, .int ky] L f (fun vv L1 f1 => L = L1 ∧ (((∀ a b, a < n → b < n → kx = nI a → ky = nI b → ledN OU 16 (some a) b = true) ∧ vv = some (.int 0) ∧ f = f1) ∨ (∃ a b, a < n ∧ b < n ∧ kx = nI a ∧ ky = nI b ∧ ledN OU 16 (some a) b = false ∧ vv = some (.int 1) ∧ FRc L f f1 ∧ CI G c n k X XS Z (va_up OU b (some a)) SL L f1))) := by
  refine g_enter RX4 false (by decide) rfl (fun h => by cases h) (Nat.le_of_ble_eq_true rfl) (fun C hC => ?_)
  refine (show V C 5 L f 0 0 0 [(0, .ref (c 6 0)), (1, .int kx), (2, .int ky)] [] from ?_)
  refine g_aload_n hC dX4_cascade_0 0 rfl ?_
  refine g_iload_n hC dX4_cascade_1 1 rfl ?_
  refine g_callV hC (Cn := RX4) (TT := TX4) (N := 4) dX4_cascade_2 (ct_X4_findLoop l G L f hI kx) q_code_X4_findLoop q_ml_X4_32 q_im_X4_findLoop q_sel_X4_findLoop q_init_X4 ⟨rfl, by decide, by decide, (show (parseMethodDescriptor yX4_findLoop.desc).map (fun d => d.parameters.length) = some 1 from by decide +kernel)⟩ (CI.hm hI) (CI.h0 hI) rfl (by decide) (by decide) (Nat.le_of_ble_eq_true rfl) (fun v2 L3 f4 hp1 => ?_)
  obtain ⟨rfl, rfl, ⟨rfl, hno_i⟩ | ⟨i, hi, rfl, rfl⟩⟩ := hp1
  · refine (show V C 5 L f 0 0 5 [(0, .ref (c 6 0)), (1, .int kx), (2, .int ky)] [.null] from ?_)
    refine g_astore_nN hC (lv1 := [(3, .null), (0, .ref (c 6 0)), (1, .int kx), (2, .int ky)]) dX4_cascade_5 (by decide) rfl ?_
    refine g_aload_n hC dX4_cascade_6 1 rfl ?_
    refine g_iload_n hC dX4_cascade_7 3 rfl ?_
    refine g_callV hC (Cn := RX4) (TT := TX4) (N := 4) dX4_cascade_8 (ct_X4_findLoop l G L f hI ky) q_code_X4_findLoop q_ml_X4_32 q_im_X4_findLoop q_sel_X4_findLoop q_init_X4 ⟨rfl, by decide, by decide, (show (parseMethodDescriptor yX4_findLoop.desc).map (fun d => d.parameters.length) = some 1 from by decide +kernel)⟩ (CI.hm hI) (CI.h0 hI) rfl (by decide) (by decide) (Nat.le_of_ble_eq_true rfl) (fun v6 L7 f8 hp5 => ?_)
    obtain ⟨rfl, rfl, ⟨rfl, hno_i2⟩ | ⟨i2, hi2, rfl, rfl⟩⟩ := hp5
    · refine (show V C 5 L f 0 0 11 [(3, .null), (0, .ref (c 6 0)), (1, .int kx), (2, .int ky)] [.null] from ?_)
      refine g_astoreN hC (lv1 := [(4, .null), (3, .null), (0, .ref (c 6 0)), (1, .int kx), (2, .int ky)]) dX4_cascade_11 (by decide) rfl ?_
      refine g_aload_nN hC dX4_cascade_13 1 rfl ?_
      refine g_ifnullN hC 31 dX4_cascade_14 (by decide) ?_
      refine g_iconst hC 0 dX4_cascade_31 (by decide) ?_
      exact g_iret hC dX4_cascade_32 rfl rfl ⟨rfl, Or.inl ⟨fun a b h1 _ q _ => absurd q (hno_i a h1), rfl, rfl⟩⟩ (Nat.zero_le _) (Nat.zero_le _)
    · refine (show V C 5 L f 0 0 11 [(3, .null), (0, .ref (c 6 0)), (1, .int kx), (2, .int (nI i2))] [.ref (c 0 i2)] from ?_)
      refine g_astore hC (lv1 := [(4, .ref (c 0 i2)), (3, .null), (0, .ref (c 6 0)), (1, .int kx), (2, .int (nI i2))]) dX4_cascade_11 (by decide) rfl ?_
      refine g_aload_nN hC dX4_cascade_13 1 rfl ?_
      refine g_ifnullN hC 31 dX4_cascade_14 (by decide) ?_
      refine g_iconst hC 0 dX4_cascade_31 (by decide) ?_
      exact g_iret hC dX4_cascade_32 rfl rfl ⟨rfl, Or.inl ⟨fun a b h1 _ q _ => absurd q (hno_i a h1), rfl, rfl⟩⟩ (Nat.zero_le _) (Nat.zero_le _)
  · refine (show V C 5 L f 0 0 5 [(0, .ref (c 6 0)), (1, .int (nI i)), (2, .int ky)] [.ref (c 0 i)] from ?_)
    refine g_astore_n hC (lv1 := [(3, .ref (c 0 i)), (0, .ref (c 6 0)), (1, .int (nI i)), (2, .int ky)]) dX4_cascade_5 (by decide) rfl ?_
    refine g_aload_n hC dX4_cascade_6 1 rfl ?_
    refine g_iload_n hC dX4_cascade_7 3 rfl ?_
    refine g_callV hC (Cn := RX4) (TT := TX4) (N := 4) dX4_cascade_8 (ct_X4_findLoop l G L f hI ky) q_code_X4_findLoop q_ml_X4_32 q_im_X4_findLoop q_sel_X4_findLoop q_init_X4 ⟨rfl, by decide, by decide, (show (parseMethodDescriptor yX4_findLoop.desc).map (fun d => d.parameters.length) = some 1 from by decide +kernel)⟩ (CI.hm hI) (CI.h0 hI) rfl (by decide) (by decide) (Nat.le_of_ble_eq_true rfl) (fun v10 L11 f12 hp9 => ?_)
    obtain ⟨rfl, rfl, ⟨rfl, hno_i2⟩ | ⟨i2, hi2, rfl, rfl⟩⟩ := hp9
    · refine (show V C 5 L f 0 0 11 [(3, .ref (c 0 i)), (0, .ref (c 6 0)), (1, .int (nI i)), (2, .int ky)] [.null] from ?_)
      refine g_astoreN hC (lv1 := [(4, .null), (3, .ref (c 0 i)), (0, .ref (c 6 0)), (1, .int (nI i)), (2, .int ky)]) dX4_cascade_11 (by decide) rfl ?_
      refine g_aload_n hC dX4_cascade_13 1 rfl ?_
      refine g_ifnull hC dX4_cascade_14 ?_
      refine g_aloadN hC dX4_cascade_17 0 rfl ?_
      refine g_ifnullN hC 31 dX4_cascade_19 (by decide) ?_
      refine g_iconst hC 0 dX4_cascade_31 (by decide) ?_
      exact g_iret hC dX4_cascade_32 rfl rfl ⟨rfl, Or.inl ⟨fun a b _ h2 _ q => absurd q (hno_i2 b h2), rfl, rfl⟩⟩ (Nat.zero_le _) (Nat.zero_le _)
    · refine (show V C 5 L f 0 0 11 [(3, .ref (c 0 i)), (0, .ref (c 6 0)), (1, .int (nI i)), (2, .int (nI i2))] [.ref (c 0 i2)] from ?_)
      refine g_astore hC (lv1 := [(4, .ref (c 0 i2)), (3, .ref (c 0 i)), (0, .ref (c 6 0)), (1, .int (nI i)), (2, .int (nI i2))]) dX4_cascade_11 (by decide) rfl ?_
      refine g_aload_n hC dX4_cascade_13 1 rfl ?_
      refine g_ifnull hC dX4_cascade_14 ?_
      refine g_aload hC dX4_cascade_17 0 rfl ?_
      refine g_ifnull hC dX4_cascade_19 ?_
      refine g_aload_n hC dX4_cascade_22 1 rfl ?_
      refine g_aload hC dX4_cascade_23 0 rfl ?_
      refine g_callS hC dX4_cascade_25 (ct_X4_isLed l G L f hI hi hi2) q_code_X4_isLed q_ml_X4_87 q_st_X4_isLed q_init_X4 ⟨by decide, by decide, (show (parseMethodDescriptor yX4_isLed.desc).map (fun d => d.parameters.length) = some 2 from by decide +kernel)⟩ (by decide) (by decide) (Nat.le_of_ble_eq_true rfl) (fun v14 L15 f16 hp13 => ?_)
      obtain ⟨rfl, rfl, rfl⟩ := hp13
      refine (show V C 5 L f 0 0 28 [(4, .ref (c 0 i2)), (3, .ref (c 0 i)), (0, .ref (c 6 0)), (1, .int (nI i)), (2, .int (nI i2))] [.int (bI (ledN OU 16 (some i) i2))] from ?_)
      refine g_ifB_eq hC 33 dX4_cascade_28 (by decide) (fun c17 => ?_) (fun c17 => ?_)
      · skip
        refine g_aload hC dX4_cascade_33 0 rfl ?_
        refine g_aload_n hC dX4_cascade_35 1 rfl ?_
        refine g_putN hC (kf := 15) (TT := TX0) (N := 16) (Cn := RX0) (ty0 := tyX0) (fs1 := [.double ((X i2) 0), .double ((X i2) 1), .double ((X i2) 2), .ref (c 1 i2), .ref (c 2 i2), .ref (c 3 i2), .ref (c 4 i2), .double ((X i2) 3), .double ((X i2) 4), .double ((X i2) 5), .double ((X i2) 6), .double ((X i2) 7), .double ((X i2) 8), .int (Z i2 0), .int (Z i2 1), .ref (c 0 i)]) dX4_cascade_36 (CI.lp hI hi2).1.1 (CI.lp hI hi2).1.2 rfl q_u0 (by decide) tyX0_ok nmX0 q_fn_X4_91 rfl rfl rfl rfl rfl (Nat.le_of_ble_eq_true rfl) rfl ?_
        refine g_nm (fun f18 hf19 => ?_)
        have hx20 : f18 (c 0 i2) = .inr (0, [.double ((X i2) 0), .double ((X i2) 1), .double ((X i2) 2), .ref (c 1 i2), .ref (c 2 i2), .ref (c 3 i2), .ref (c 4 i2), .double ((X i2) 3), .double ((X i2) 4), .double ((X i2) 5), .double ((X i2) 6), .double ((X i2) 7), .double ((X i2) 8), .int (Z i2 0), .int (Z i2 1), .ref (c 0 i)]) := by rw [hf19]; exact va_up_self _ _ _
        have hF21 : f18 = va_up f (c 0 i2) (.inr (0, [.double ((X i2) 0), .double ((X i2) 1), .double ((X i2) 2), .ref (c 1 i2), .ref (c 2 i2), .ref (c 3 i2), .ref (c 4 i2), .double ((X i2) 3), .double ((X i2) 4), .double ((X i2) 5), .double ((X i2) 6), .double ((X i2) 7), .double ((X i2) 8), .int (Z i2 0), .int (Z i2 1), .ref (c 0 i)])) := hf19
        refine g_iconst hC 1 dX4_cascade_39 (by decide) ?_
        refine g_iret hC dX4_cascade_40 rfl rfl ⟨rfl, Or.inr ⟨i, i2, hi, hi2, rfl, rfl, c17, rfl, (by rw [hf19]; exact FRc.up _ FRc.rf (CI.lp hI hi2).1.2 rfl), ?_⟩⟩ (Nat.zero_le _) (Nat.zero_le _)
        have h2 := CI.loop hI hi2 (X i2) (Z i2) (some i) (fun _ _ => rfl) (fun _ _ => rfl) (fun o ho => by cases ho; exact hi)
        rw [va_up_id (f := X) rfl, va_up_id (f := Z) rfl] at h2; rw [hF21]; exact h2
      · skip
        refine g_iconst hC 0 dX4_cascade_31 (by decide) ?_
        exact g_iret hC dX4_cascade_32 rfl rfl ⟨rfl, Or.inl ⟨fun a b h1 h2 q q2 => by have q3 := nI_injL (by have := CI.n16 hI; omega) (by have := CI.n16 hI; omega) q; have q4 := nI_injL (by have := CI.n16 hI; omega) (by have := CI.n16 hI; omega) q2; rw [← q3, ← q4]; exact c17, rfl, rfl⟩⟩ (Nat.zero_le _) (Nat.zero_le _)
