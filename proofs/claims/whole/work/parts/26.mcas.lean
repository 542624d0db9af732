def endsN (OU : Nat → Option Nat) : Nat → Option Nat → Bool
  | _, none => true
  | 0, some _ => false
  | s + 1, some a => endsN OU s (OU a)
set_option maxHeartbeats 4000000 in
set_option maxRecDepth 100000 in
/-- cascade of the model -/
theorem ct_X5_cascade (l : Launch) (G : GD) (L : List Nat) (f : Nat → va_E) {q0 : Nat} {ma : Nat → Nat} {n k : Nat} {Y : Nat → Nat → UInt64} {W0 : Nat → Nat → Int32} (hM : MI G q0 ma n k Y W0 L f) (OU : Nat → Option Nat) (hO : ∀ i, i < n → W0 i 22 = oI (OU i)) (hO2 : ∀ i o, i < n → OU i = some o → o < n) (hE : ∀ a, a < n → endsN OU 16 (some a) = true) (kx ky : Int32) : Ctr l yX5_cascade cX5_cascade 4 (some .boolean) { frames := 1, cells := 0, slots := 0, locals := 30 } G [.ref q0, .int kx, .int ky] L f (fun vv L1 f1 => L = L1 ∧ (((∀ a b, a < n → b < n → kx = nI a → ky = nI b → ledN OU 16 (some a) b = true) ∧ vv = some (.int 0) ∧ f = f1) ∨ (∃ a b, a < n ∧ b < n ∧ kx = nI a ∧ ky = nI b ∧ ledN OU 16 (some a) b = false ∧ vv = some (.int 1) ∧ FRm L f f1 ∧ MI G q0 ma n k Y (up2 W0 b 22 (nI a)) L f1))) := by
  refine g_enter RX5 false (by decide) rfl (fun h => by cases h) (Nat.le_of_ble_eq_true rfl) (fun C hC => ?_)
  refine (show V C 4 L f 0 0 0 [(0, .ref q0), (1, .int kx), (2, .int ky)] [] from ?_)
  refine g_aload_n hC dX5_cascade_0 0 rfl ?_
  refine g_iload_n hC dX5_cascade_1 1 rfl ?_
  refine g_callV hC (Cn := RX5) (TT := TX5) (N := 26) dX5_cascade_2 (ct_X5_isLoop l G L f hM kx) q_code_X5_isLoop q_ml_X5_98 q_im_X5_isLoop q_sel_X5_isLoop q_init_X5 ⟨rfl, by decide, by decide, (show (parseMethodDescriptor yX5_isLoop.desc).map (fun d => d.parameters.length) = some 1 from by decide +kernel)⟩ (MI.m hM) (MI.o hM) rfl (by decide) (by decide) (Nat.le_of_ble_eq_true rfl) (fun v2 L3 f4 hp1 => ?_)
  obtain ⟨rfl, rfl, rfl⟩ := hp1
  rcases okL_cases (MI.n16 hM) kx with ⟨hb, hnoi⟩ | ⟨i, hi, rfl, hb⟩
  · refine g_eqI (show bI (okL n kx) = 0 from by rw [hb]; rfl) ?_
    refine g_if_eq hC 16 dX5_cascade_5 (by decide) (fun _ => ?_) (fun c => absurd c (by decide))
    refine g_iconst hC 0 dX5_cascade_16 (by decide) ?_
    exact g_iret hC dX5_cascade_17 rfl rfl ⟨rfl, Or.inl ⟨fun a b h1 _ q _ => absurd q (hnoi a h1), rfl, rfl⟩⟩ (Nat.zero_le _) (Nat.zero_le _)
  · refine g_eqI (show bI (okL n (nI i)) = 1 from by rw [hb]; rfl) ?_
    have hi16 : i < 16 := by have := MI.n16 hM; omega
    refine g_if_eq hC 16 dX5_cascade_5 (by decide) (fun c => absurd c (by decide)) (fun _ => ?_)
    refine g_aload_n hC dX5_cascade_8 0 rfl ?_
    refine g_iload_n hC dX5_cascade_9 2 rfl ?_
    refine g_callV hC (Cn := RX5) (TT := TX5) (N := 26) dX5_cascade_10 (ct_X5_isLoop l G L f hM ky) q_code_X5_isLoop q_ml_X5_98 q_im_X5_isLoop q_sel_X5_isLoop q_init_X5 ⟨rfl, by decide, by decide, (show (parseMethodDescriptor yX5_isLoop.desc).map (fun d => d.parameters.length) = some 1 from by decide +kernel)⟩ (MI.m hM) (MI.o hM) rfl (by decide) (by decide) (Nat.le_of_ble_eq_true rfl) (fun v6 L7 f8 hp5 => ?_)
    obtain ⟨rfl, rfl, rfl⟩ := hp5
    rcases okL_cases (MI.n16 hM) ky with ⟨hb, hnoi2⟩ | ⟨i2, hi2, rfl, hb⟩
    · refine g_eqI (show bI (okL n ky) = 0 from by rw [hb]; rfl) ?_
      refine g_if_ne hC 18 dX5_cascade_13 (by decide) (fun c => absurd c (by decide)) (fun _ => ?_)
      refine g_iconst hC 0 dX5_cascade_16 (by decide) ?_
      exact g_iret hC dX5_cascade_17 rfl rfl ⟨rfl, Or.inl ⟨fun a b _ h2 _ q => absurd q (hnoi2 b h2), rfl, rfl⟩⟩ (Nat.zero_le _) (Nat.zero_le _)
    · refine g_eqI (show bI (okL n (nI i2)) = 1 from by rw [hb]; rfl) ?_
      refine g_if_ne hC 18 dX5_cascade_13 (by decide) (fun _ => ?_) (fun c => absurd c (by decide))
      have hi216 : i2 < 16 := by have := MI.n16 hM; omega
      have T : ledN OU 16 (some i) i2 = false → ∀ z : Int32, V C 4 L f 0 0 41 [(3, .int z), (0, .ref q0), (1, .int (nI i)), (2, .int (nI i2))] [] := by
        intro hr z
        refine g_aload_n hC dX5_cascade_41 1 rfl ?_
        refine g_get hC (kf := 18) (TT := TX5) (N := 26) (Cn := RX5) dX5_cascade_42 (MI.m hM) (MI.o hM) rfl q_u5 (by decide) q_fl_X5_63 rfl rfl ?_
        refine g_iload_n hC dX5_cascade_45 3 rfl ?_
        refine g_iload_n hC dX5_cascade_46 2 rfl ?_
        refine g_mis hC hM 22 (by decide) (by decide) hi216 dX5_cascade_47 (fun f9 hM10 hR11 => ?_)
        refine g_iconst hC 1 dX5_cascade_48 (by decide) ?_
        exact g_iret hC dX5_cascade_49 rfl rfl ⟨rfl, Or.inr ⟨i, i2, hi, hi2, rfl, rfl, hr, rfl, hR11, hM10⟩⟩ (Nat.zero_le _) (Nat.zero_le _)
      have K : ∀ (m : Nat) (x : Option Nat), endsN OU m x = true → (∀ o, x = some o → o < n) → ledN OU m x i2 = ledN OU 16 (some i) i2 → V C 4 L f 0 0 20 [(3, .int (oI x)), (0, .ref q0), (1, .int (nI i)), (2, .int (nI i2))] [] := by
        intro m
        have N : ∀ m, ledN OU m none i2 = ledN OU 16 (some i) i2 → V C 4 L f 0 0 20 [(3, .int (-1)), (0, .ref q0), (1, .int (nI i)), (2, .int (nI i2))] [] := by
          intro m hr
          refine g_iload_n hC dX5_cascade_20 0 rfl ?_
          refine g_if_lt hC 41 dX5_cascade_21 (by decide) (fun _ => ?_) (fun c => absurd (by decide) c)
          exact T (by rw [← hr]; cases m <;> rfl) _
        induction m with
        | zero =>
          intro x he hx hr
          rcases x with _ | o
          · exact N 0 hr
          · cases he
        | succ m ih =>
          intro x he hx hr
          rcases x with _ | o
          · exact N (m + 1) hr
          · have ho := hx o rfl
            have ho16 : o < 16 := by have := MI.n16 hM; omega
            refine (show V C 4 L f 0 0 20 [(3, .int (nI o)), (0, .ref q0), (1, .int (nI i)), (2, .int (nI i2))] [] from ?_)
            refine g_iload_n hC dX5_cascade_20 0 rfl ?_
            refine g_if_lt hC 41 dX5_cascade_21 (by decide) (fun c => absurd c (nI_pos (by omega))) (fun _ => ?_)
            refine g_iload_n hC dX5_cascade_24 0 rfl ?_
            refine g_iload_n hC dX5_cascade_25 3 rfl ?_
            refine g_icmp_ne hC 31 dX5_cascade_26 (by decide) (fun q => ?_) (fun q => ?_)
            · have hob : ¬ o = i2 := fun z => q (by rw [z])
              refine g_aload_n hC dX5_cascade_31 1 rfl ?_
              refine g_get hC (kf := 18) (TT := TX5) (N := 26) (Cn := RX5) dX5_cascade_32 (MI.m hM) (MI.o hM) rfl q_u5 (by decide) q_fl_X5_63 rfl rfl ?_
              refine g_iload_n hC dX5_cascade_35 0 rfl ?_
              refine g_mil hC hM 22 (by decide) (by decide) ho16 (oI (OU o)) (hO o ho) dX5_cascade_36 ?_
              refine g_istore_n hC (lv1 := [(3, .int (oI (OU o))), (0, .ref q0), (1, .int (nI i)), (2, .int (nI i2))]) dX5_cascade_37 (by decide) rfl ?_
              refine g_goto hC 20 dX5_cascade_38 (by decide) ?_
              exact ih (OU o) he (fun o2 h2 => hO2 o o2 ho h2) (by rw [← hr]; simp only [ledN, if_neg hob])
            · have hob : o = i2 := nI_injL ho16 hi216 q
              refine g_iconst hC 0 dX5_cascade_29 (by decide) ?_
              refine g_iret hC dX5_cascade_30 rfl rfl ⟨rfl, Or.inl ⟨fun a b h1 h2 q q2 => ?_, rfl, rfl⟩⟩ (Nat.zero_le _) (Nat.zero_le _)
              have hi16b : i < 16 := hi16
              have q3 := nI_injL hi16 (by have := MI.n16 hM; omega) q
              have q4 := nI_injL hi216 (by have := MI.n16 hM; omega) q2
              rw [← q3, ← q4, ← hr]
              simp only [ledN, if_pos hob]
      refine g_iload_n hC dX5_cascade_18 1 rfl ?_
      refine g_istore_n hC (lv1 := [(3, .int (nI i)), (0, .ref q0), (1, .int (nI i)), (2, .int (nI i2))]) dX5_cascade_19 (by decide) rfl ?_
      exact K 16 (some i) (hE i hi) (fun o h => by cases h; exact hi) rfl
