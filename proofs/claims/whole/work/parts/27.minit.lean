/-! the model's constructor: 24 arrays -/
def entK (G : GD) (kd : Nat) : va_E := if kd = 0 then aDb G.2.1 (fun _ => 0) else if kd = 1 then aIn G.2.2.1 (fun _ => 0) else aIn G.2.2.2.1 (fun _ => 0)
theorem entK_ne {G : GD} {kd : Nat} {x : Nat × List Value} : entK G kd ≠ .inr x := by
  unfold entK
  split
  · intro h; cases h
  · split
    · intro h; cases h
    · intro h; cases h
def PA (G : GD) (a : Nat) (L0 : List Nat) (f0 : Nat → va_E) (L qs ks : List Nat) (f : Nat → va_E) : Prop :=
  a ∈ L0 ∧ (∀ b, b ∈ L0 → b ∈ L) ∧ (∀ b, b ∈ L0 → b ≠ a → f b = f0 b) ∧ (∀ (m q kd : Nat), qs[m]? = some q → ks[m]? = some kd → q ∈ L ∧ q ∉ L0 ∧ f q = entK G kd) ∧ (∀ (m m1 q : Nat), qs[m]? = some q → qs[m1]? = some q → m = m1) ∧ qs.length = ks.length ∧ ∀ (m q : Nat), qs[m]? = some q → q ∈ L
theorem PA.rf {G : GD} {a : Nat} {L : List Nat} {f : Nat → va_E} (h : a ∈ L) : PA G a L f L [] [] f := ⟨h, fun _ hb => hb, fun _ _ _ => rfl, fun m q kd h => by simp at h, fun m m1 q h => by simp at h, rfl, fun m q h => by simp at h⟩
theorem PA.put {G : GD} {a : Nat} {L0 L qs ks : List Nat} {f0 f f1 : Nat → va_E} (h : PA G a L0 f0 L qs ks f) {e : va_E} (hf : f1 = va_up f a e) : PA G a L0 f0 L qs ks f1 := by
  obtain ⟨h1, h2, h3, h4, h5, h6, h7⟩ := h
  subst hf
  exact ⟨h1, h2, fun b hb hn => by rw [va_up_ne _ _ hn]; exact h3 b hb hn, fun m q kd x y => ⟨(h4 m q kd x y).1, (h4 m q kd x y).2.1, by rw [va_up_ne _ _ (fun z : q = a => (h4 m q kd x y).2.1 (by rw [z]; exact h1))]; exact (h4 m q kd x y).2.2⟩, h5, h6, h7⟩
theorem app_at {l : List Nat} {a q m : Nat} (h : (l ++ [a])[m]? = some q) : (m < l.length ∧ l[m]? = some q) ∨ (m = l.length ∧ q = a) := by
  rcases Nat.lt_or_ge m l.length with h1 | h1
  · rw [List.getElem?_append_left h1] at h; exact Or.inl ⟨h1, h⟩
  · rw [List.getElem?_append_right h1] at h
    have hz : m - l.length < 1 := (List.getElem?_eq_some_iff.mp h).1
    have hm : m = l.length := by omega
    subst hm
    rw [Nat.sub_self] at h
    exact Or.inr ⟨rfl, (Option.some.inj h).symm⟩
theorem PA.new {G : GD} {a : Nat} {L0 L qs ks : List Nat} {f0 f f1 : Nat → va_E} (h : PA G a L0 f0 L qs ks f) (kd : Nat) {q : Nat} (hq : q ∉ L) (hf : f1 = va_up f q (entK G kd)) : PA G a L0 f0 (L ++ [q]) (qs ++ [q]) (ks ++ [kd]) f1 := by
  obtain ⟨h1, h2, h3, h4, h5, h6, h7⟩ := h
  subst hf
  refine ⟨h1, fun b hb => mem_l (h2 b hb), fun b hb hn => by rw [va_up_ne _ _ (ne_new (h2 b hb) hq)]; exact h3 b hb hn, fun m x k1 hx hk => ?_, fun m m1 x hx hx1 => ?_, by simp [h6], fun m x hx => ?_⟩
  · rcases app_at hx with ⟨c1, c2⟩ | ⟨c1, c2⟩
    · rcases app_at hk with ⟨e1, e2⟩ | ⟨e1, e2⟩
      · obtain ⟨g1, g2, g3⟩ := h4 m x k1 c2 e2
        exact ⟨mem_l g1, g2, by rw [va_up_ne _ _ (ne_new g1 hq)]; exact g3⟩
      · omega
    · rcases app_at hk with ⟨e1, e2⟩ | ⟨e1, e2⟩
      · omega
      · subst c2; subst e2
        exact ⟨mem_r, fun z => hq (h2 _ z), va_up_self _ _ _⟩
  · rcases app_at hx with ⟨c1, c2⟩ | ⟨c1, c2⟩ <;> rcases app_at hx1 with ⟨e1, e2⟩ | ⟨e1, e2⟩
    · exact h5 m m1 x c2 e2
    · subst e2; exact absurd (h7 m x c2) hq
    · subst c2; exact absurd (h7 m1 x e2) hq
    · omega
  · rcases app_at hx with ⟨c1, c2⟩ | ⟨c1, c2⟩
    · exact mem_l (h7 m x c2)
    · subst c2; exact mem_r
def posL : List Nat := [0, 1, 2, 5, 6, 12, 13, 14, 15, 3, 4, 7, 8, 10, 11, 24, 19, 20, 23, 24, 16, 18, 17, 21, 22, 9]
def kndL : List Nat := [0, 0, 0, 0, 0, 0, 0, 0, 0, 2, 0, 0, 0, 0, 0, 0, 1, 1, 1, 0, 0, 1, 1, 0]
def posM (j : Nat) : Nat := posL.getD j 24
theorem posM_d : ∀ j, j < 19 → j ≠ 15 → posM j < 24 ∧ kndL[posM j]? = some 0 := by decide +kernel
theorem posM_i : ∀ j, j < 25 → 20 ≤ j → posM j < 24 ∧ kndL[posM j]? = some 1 := by decide +kernel
theorem posM_z : posM 25 < 24 ∧ kndL[posM 25]? = some 2 := by decide +kernel
theorem posM_lt : ∀ j, j < 26 → j ≠ 15 → j ≠ 19 → posM j < 24 := by decide +kernel
theorem posM_inj : ∀ j, j < 26 → ∀ j1, j1 < 26 → (j ≠ 15 ∧ j ≠ 19 ∧ j1 ≠ 15 ∧ j1 ≠ 19 ∧ posM j = posM j1) → j = j1 := by decide +kernel
theorem MI.init {G : GD} {a : Nat} {L0 L qs : List Nat} {f0 f : Nat → va_E} (h : PA G a L0 f0 L qs kndL f) (ha : f a = eMd (fun j => qs.getD (posM j) 0) 0 0) : MI G a (fun j => qs.getD (posM j) 0) 0 0 (fun _ _ => 0) (fun _ _ => 0) L f := by
  obtain ⟨h1, h2, h3, h4, h5, h6, h7⟩ := h
  have hl : qs.length = 24 := h6
  have hg : ∀ m, m < 24 → qs[m]? = some (qs.getD m 0) := fun m hm => by simp [List.getD, List.getElem?_eq_getElem (show m < qs.length by omega)]
  refine ⟨⟨by decide, by decide⟩, ⟨h2 _ h1, ha⟩, fun j hj hj2 => ?_, fun j hj hj2 => ?_, ?_, fun j j1 hj hj1 he => ?_⟩
  · obtain ⟨p1, p2⟩ := posM_d j hj hj2
    exact ⟨(h4 _ _ _ (hg _ p1) p2).1, (h4 _ _ _ (hg _ p1) p2).2.2⟩
  · obtain ⟨p1, p2⟩ := posM_i j hj2 hj
    exact ⟨(h4 _ _ _ (hg _ p1) p2).1, (h4 _ _ _ (hg _ p1) p2).2.2⟩
  · obtain ⟨p1, p2⟩ := posM_z
    exact ⟨(h4 _ _ _ (hg _ p1) p2).1, (h4 _ _ _ (hg _ p1) p2).2.2⟩
  · have e1 := hg _ (posM_lt j hj.1 hj.2.1 hj.2.2)
    have e2 := hg _ (posM_lt j1 hj1.1 hj1.2.1 hj1.2.2)
    have he2 : qs.getD (posM j) 0 = qs.getD (posM j1) 0 := he
    rw [← he2] at e2
    exact posM_inj j hj.1 j1 hj1.1 ⟨hj.2.1, hj.2.2, hj1.2.1, hj1.2.2, h5 _ _ _ e1 e2⟩
set_option maxHeartbeats 4000000 in
set_option maxRecDepth 100000 in
/-- LoopLawsModel() -/
theorem ct_X5_init (l : Launch) (G : GD) (L : List Nat) (f : Nat → va_E) (a : Nat) (hL_a : a ∈ L) (h0 : f a = .inr (5, [.int 0, .null, .null, .null, .null, .null, .null, .null, .null, .null, .null, .null, .null, .null, .null, .null, .null, .null, .null, .null, .null, .null, .null, .int 0, .null, .null])) : Ctr l yX5_init cX5_init 1 none { frames := 1, cells := 24, slots := 384, locals := 12 } G [.ref a] L f (fun vv L1 f1 => vv = none ∧ (∀ b, b ∈ L → b ∈ L1) ∧ (∀ b, b ∈ L → b ≠ a → f1 b = f b) ∧ ∃ ma : Nat → Nat, MI G a ma 0 0 (fun _ _ => 0) (fun _ _ => 0) L1 f1) := by
  refine g_enter RX5 true (by decide) rfl (fun _ => rfl) (Nat.le_of_ble_eq_true rfl) (fun C hC => ?_)
  refine (show V C 1 L f 0 0 0 [(0, .ref a)] [] from ?_)
  have hP0 : PA G a L f L [] [] f := PA.rf hL_a
  refine g_aload_n hC dX5_init_0 0 rfl ?_
  refine g_objInit hC dX5_init_1 q_ml_X5_1 (by decide) (by decide) ?_
  refine g_aload_n hC dX5_init_4 0 rfl ?_
  refine g_bipush hC 16 dX5_init_5 (by decide) ?_
  refine g_newD hC dX5_init_7 q_arr_double (Nat.le_of_ble_eq_true rfl) (Nat.le_of_ble_eq_true rfl) (fun q1 hq1 => ?_)
  refine g_nm (fun f2 hf3 => ?_)
  have hx4 : f2 a = .inr (5, [.int 0, .null, .null, .null, .null, .null, .null, .null, .null, .null, .null, .null, .null, .null, .null, .null, .null, .null, .null, .null, .null, .null, .null, .int 0, .null, .null]) := by rw [hf3, va_up_ne _ _ (ne_new hL_a hq1)]; exact h0
  have hP5 := PA.new hP0 0 hq1 hf3
  refine (show V C 1 (L ++ [q1]) f2 1 16 9 [(0, .ref a)] [.ref q1, .ref a] from ?_)
  refine g_putF hC (kf := 1) (TT := TX5) (N := 26) (Cn := RX5) (ty0 := tyX5) (fs1 := [.int 0, .ref q1, .null, .null, .null, .null, .null, .null, .null, .null, .null, .null, .null, .null, .null, .null, .null, .null, .null, .null, .null, .null, .null, .int 0, .null, .null]) dX5_init_9 (mem_l hL_a) hx4 rfl q_u5 (by decide) tyX5_ok nmX5 q_fl_X5_9 rfl rfl rfl rfl rfl rfl rfl (Nat.le_of_ble_eq_true rfl) rfl ?_
  refine g_nm (fun f6 hf7 => ?_)
  have hx8 : f6 a = .inr (5, [.int 0, .ref q1, .null, .null, .null, .null, .null, .null, .null, .null, .null, .null, .null, .null, .null, .null, .null, .null, .null, .null, .null, .null, .null, .int 0, .null, .null]) := by rw [hf7]; exact va_up_self _ _ _
  have hP9 := PA.put hP5 hf7
  refine g_aload_n hC dX5_init_12 0 rfl ?_
  refine g_bipush hC 16 dX5_init_13 (by decide) ?_
  refine g_newD hC dX5_init_15 q_arr_double (Nat.le_of_ble_eq_true rfl) (Nat.le_of_ble_eq_true rfl) (fun q10 hq10 => ?_)
  refine g_nm (fun f11 hf12 => ?_)
  have hx13 : f11 a = .inr (5, [.int 0, .ref q1, .null, .null, .null, .null, .null, .null, .null, .null, .null, .null, .null, .null, .null, .null, .null, .null, .null, .null, .null, .null, .null, .int 0, .null, .null]) := by rw [hf12, va_up_ne _ _ (ne_new (mem_l hL_a) hq10)]; exact hx8
  have hP14 := PA.new hP9 0 hq10 hf12
  refine (show V C 1 ((L ++ [q1]) ++ [q10]) f11 2 32 17 [(0, .ref a)] [.ref q10, .ref a] from ?_)
  refine g_putF hC (kf := 2) (TT := TX5) (N := 26) (Cn := RX5) (ty0 := tyX5) (fs1 := [.int 0, .ref q1, .ref q10, .null, .null, .null, .null, .null, .null, .null, .null, .null, .null, .null, .null, .null, .null, .null, .null, .null, .null, .null, .null, .int 0, .null, .null]) dX5_init_17 (mem_l (mem_l hL_a)) hx13 rfl q_u5 (by decide) tyX5_ok nmX5 q_fl_X5_13 rfl rfl rfl rfl rfl rfl rfl (Nat.le_of_ble_eq_true rfl) rfl ?_
  refine g_nm (fun f15 hf16 => ?_)
  have hx17 : f15 a = .inr (5, [.int 0, .ref q1, .ref q10, .null, .null, .null, .null, .null, .null, .null, .null, .null, .null, .null, .null, .null, .null, .null, .null, .null, .null, .null, .null, .int 0, .null, .null]) := by rw [hf16]; exact va_up_self _ _ _
  have hP18 := PA.put hP14 hf16
  refine g_aload_n hC dX5_init_20 0 rfl ?_
  refine g_bipush hC 16 dX5_init_21 (by decide) ?_
  refine g_newD hC dX5_init_23 q_arr_double (Nat.le_of_ble_eq_true rfl) (Nat.le_of_ble_eq_true rfl) (fun q19 hq19 => ?_)
  refine g_nm (fun f20 hf21 => ?_)
  have hx22 : f20 a = .inr (5, [.int 0, .ref q1, .ref q10, .null, .null, .null, .null, .null, .null, .null, .null, .null, .null, .null, .null, .null, .null, .null, .null, .null, .null, .null, .null, .int 0, .null, .null]) := by rw [hf21, va_up_ne _ _ (ne_new (mem_l (mem_l hL_a)) hq19)]; exact hx17
  have hP23 := PA.new hP18 0 hq19 hf21
  refine (show V C 1 (((L ++ [q1]) ++ [q10]) ++ [q19]) f20 3 48 25 [(0, .ref a)] [.ref q19, .ref a] from ?_)
  refine g_putF hC (kf := 3) (TT := TX5) (N := 26) (Cn := RX5) (ty0 := tyX5) (fs1 := [.int 0, .ref q1, .ref q10, .ref q19, .null, .null, .null, .null, .null, .null, .null, .null, .null, .null, .null, .null, .null, .null, .null, .null, .null, .null, .null, .int 0, .null, .null]) dX5_init_25 (mem_l (mem_l (mem_l hL_a))) hx22 rfl q_u5 (by decide) tyX5_ok nmX5 q_fl_X5_16 rfl rfl rfl rfl rfl rfl rfl (Nat.le_of_ble_eq_true rfl) rfl ?_
  refine g_nm (fun f24 hf25 => ?_)
  have hx26 : f24 a = .inr (5, [.int 0, .ref q1, .ref q10, .ref q19, .null, .null, .null, .null, .null, .null, .null, .null, .null, .null, .null, .null, .null, .null, .null, .null, .null, .null, .null, .int 0, .null, .null]) := by rw [hf25]; exact va_up_self _ _ _
  have hP27 := PA.put hP23 hf25
  refine g_aload_n hC dX5_init_28 0 rfl ?_
  refine g_bipush hC 16 dX5_init_29 (by decide) ?_
  refine g_newD hC dX5_init_31 q_arr_double (Nat.le_of_ble_eq_true rfl) (Nat.le_of_ble_eq_true rfl) (fun q28 hq28 => ?_)
  refine g_nm (fun f29 hf30 => ?_)
  have hx31 : f29 a = .inr (5, [.int 0, .ref q1, .ref q10, .ref q19, .null, .null, .null, .null, .null, .null, .null, .null, .null, .null, .null, .null, .null, .null, .null, .null, .null, .null, .null, .int 0, .null, .null]) := by rw [hf30, va_up_ne _ _ (ne_new (mem_l (mem_l (mem_l hL_a))) hq28)]; exact hx26
  have hP32 := PA.new hP27 0 hq28 hf30
  refine (show V C 1 ((((L ++ [q1]) ++ [q10]) ++ [q19]) ++ [q28]) f29 4 64 33 [(0, .ref a)] [.ref q28, .ref a] from ?_)
  refine g_putF hC (kf := 4) (TT := TX5) (N := 26) (Cn := RX5) (ty0 := tyX5) (fs1 := [.int 0, .ref q1, .ref q10, .ref q19, .ref q28, .null, .null, .null, .null, .null, .null, .null, .null, .null, .null, .null, .null, .null, .null, .null, .null, .null, .null, .int 0, .null, .null]) dX5_init_33 (mem_l (mem_l (mem_l (mem_l hL_a)))) hx31 rfl q_u5 (by decide) tyX5_ok nmX5 q_fl_X5_19 rfl rfl rfl rfl rfl rfl rfl (Nat.le_of_ble_eq_true rfl) rfl ?_
  refine g_nm (fun f33 hf34 => ?_)
  have hx35 : f33 a = .inr (5, [.int 0, .ref q1, .ref q10, .ref q19, .ref q28, .null, .null, .null, .null, .null, .null, .null, .null, .null, .null, .null, .null, .null, .null, .null, .null, .null, .null, .int 0, .null, .null]) := by rw [hf34]; exact va_up_self _ _ _
  have hP36 := PA.put hP32 hf34
  refine g_aload_n hC dX5_init_36 0 rfl ?_
  refine g_bipush hC 16 dX5_init_37 (by decide) ?_
  refine g_newD hC dX5_init_39 q_arr_double (Nat.le_of_ble_eq_true rfl) (Nat.le_of_ble_eq_true rfl) (fun q37 hq37 => ?_)
  refine g_nm (fun f38 hf39 => ?_)
  have hx40 : f38 a = .inr (5, [.int 0, .ref q1, .ref q10, .ref q19, .ref q28, .null, .null, .null, .null, .null, .null, .null, .null, .null, .null, .null, .null, .null, .null, .null, .null, .null, .null, .int 0, .null, .null]) := by rw [hf39, va_up_ne _ _ (ne_new (mem_l (mem_l (mem_l (mem_l hL_a)))) hq37)]; exact hx35
  have hP41 := PA.new hP36 0 hq37 hf39
  refine (show V C 1 (((((L ++ [q1]) ++ [q10]) ++ [q19]) ++ [q28]) ++ [q37]) f38 5 80 41 [(0, .ref a)] [.ref q37, .ref a] from ?_)
  refine g_putF hC (kf := 5) (TT := TX5) (N := 26) (Cn := RX5) (ty0 := tyX5) (fs1 := [.int 0, .ref q1, .ref q10, .ref q19, .ref q28, .ref q37, .null, .null, .null, .null, .null, .null, .null, .null, .null, .null, .null, .null, .null, .null, .null, .null, .null, .int 0, .null, .null]) dX5_init_41 (mem_l (mem_l (mem_l (mem_l (mem_l hL_a))))) hx40 rfl q_u5 (by decide) tyX5_ok nmX5 q_fl_X5_22 rfl rfl rfl rfl rfl rfl rfl (Nat.le_of_ble_eq_true rfl) rfl ?_
  refine g_nm (fun f42 hf43 => ?_)
  have hx44 : f42 a = .inr (5, [.int 0, .ref q1, .ref q10, .ref q19, .ref q28, .ref q37, .null, .null, .null, .null, .null, .null, .null, .null, .null, .null, .null, .null, .null, .null, .null, .null, .null, .int 0, .null, .null]) := by rw [hf43]; exact va_up_self _ _ _
  have hP45 := PA.put hP41 hf43
  refine g_aload_n hC dX5_init_44 0 rfl ?_
  refine g_bipush hC 16 dX5_init_45 (by decide) ?_
  refine g_newD hC dX5_init_47 q_arr_double (Nat.le_of_ble_eq_true rfl) (Nat.le_of_ble_eq_true rfl) (fun q46 hq46 => ?_)
  refine g_nm (fun f47 hf48 => ?_)
  have hx49 : f47 a = .inr (5, [.int 0, .ref q1, .ref q10, .ref q19, .ref q28, .ref q37, .null, .null, .null, .null, .null, .null, .null, .null, .null, .null, .null, .null, .null, .null, .null, .null, .null, .int 0, .null, .null]) := by rw [hf48, va_up_ne _ _ (ne_new (mem_l (mem_l (mem_l (mem_l (mem_l hL_a))))) hq46)]; exact hx44
  have hP50 := PA.new hP45 0 hq46 hf48
  refine (show V C 1 ((((((L ++ [q1]) ++ [q10]) ++ [q19]) ++ [q28]) ++ [q37]) ++ [q46]) f47 6 96 49 [(0, .ref a)] [.ref q46, .ref a] from ?_)
  refine g_putF hC (kf := 6) (TT := TX5) (N := 26) (Cn := RX5) (ty0 := tyX5) (fs1 := [.int 0, .ref q1, .ref q10, .ref q19, .ref q28, .ref q37, .ref q46, .null, .null, .null, .null, .null, .null, .null, .null, .null, .null, .null, .null, .null, .null, .null, .null, .int 0, .null, .null]) dX5_init_49 (mem_l (mem_l (mem_l (mem_l (mem_l (mem_l hL_a)))))) hx49 rfl q_u5 (by decide) tyX5_ok nmX5 q_fl_X5_25 rfl rfl rfl rfl rfl rfl rfl (Nat.le_of_ble_eq_true rfl) rfl ?_
  refine g_nm (fun f51 hf52 => ?_)
  have hx53 : f51 a = .inr (5, [.int 0, .ref q1, .ref q10, .ref q19, .ref q28, .ref q37, .ref q46, .null, .null, .null, .null, .null, .null, .null, .null, .null, .null, .null, .null, .null, .null, .null, .null, .int 0, .null, .null]) := by rw [hf52]; exact va_up_self _ _ _
  have hP54 := PA.put hP50 hf52
  refine g_aload_n hC dX5_init_52 0 rfl ?_
  refine g_bipush hC 16 dX5_init_53 (by decide) ?_
  refine g_newD hC dX5_init_55 q_arr_double (Nat.le_of_ble_eq_true rfl) (Nat.le_of_ble_eq_true rfl) (fun q55 hq55 => ?_)
  refine g_nm (fun f56 hf57 => ?_)
  have hx58 : f56 a = .inr (5, [.int 0, .ref q1, .ref q10, .ref q19, .ref q28, .ref q37, .ref q46, .null, .null, .null, .null, .null, .null, .null, .null, .null, .null, .null, .null, .null, .null, .null, .null, .int 0, .null, .null]) := by rw [hf57, va_up_ne _ _ (ne_new (mem_l (mem_l (mem_l (mem_l (mem_l (mem_l hL_a)))))) hq55)]; exact hx53
  have hP59 := PA.new hP54 0 hq55 hf57
  refine (show V C 1 (((((((L ++ [q1]) ++ [q10]) ++ [q19]) ++ [q28]) ++ [q37]) ++ [q46]) ++ [q55]) f56 7 112 57 [(0, .ref a)] [.ref q55, .ref a] from ?_)
  refine g_putF hC (kf := 7) (TT := TX5) (N := 26) (Cn := RX5) (ty0 := tyX5) (fs1 := [.int 0, .ref q1, .ref q10, .ref q19, .ref q28, .ref q37, .ref q46, .ref q55, .null, .null, .null, .null, .null, .null, .null, .null, .null, .null, .null, .null, .null, .null, .null, .int 0, .null, .null]) dX5_init_57 (mem_l (mem_l (mem_l (mem_l (mem_l (mem_l (mem_l hL_a))))))) hx58 rfl q_u5 (by decide) tyX5_ok nmX5 q_fl_X5_28 rfl rfl rfl rfl rfl rfl rfl (Nat.le_of_ble_eq_true rfl) rfl ?_
  refine g_nm (fun f60 hf61 => ?_)
  have hx62 : f60 a = .inr (5, [.int 0, .ref q1, .ref q10, .ref q19, .ref q28, .ref q37, .ref q46, .ref q55, .null, .null, .null, .null, .null, .null, .null, .null, .null, .null, .null, .null, .null, .null, .null, .int 0, .null, .null]) := by rw [hf61]; exact va_up_self _ _ _
  have hP63 := PA.put hP59 hf61
  refine g_aload_n hC dX5_init_60 0 rfl ?_
  refine g_bipush hC 16 dX5_init_61 (by decide) ?_
  refine g_newD hC dX5_init_63 q_arr_double (Nat.le_of_ble_eq_true rfl) (Nat.le_of_ble_eq_true rfl) (fun q64 hq64 => ?_)
  refine g_nm (fun f65 hf66 => ?_)
  have hx67 : f65 a = .inr (5, [.int 0, .ref q1, .ref q10, .ref q19, .ref q28, .ref q37, .ref q46, .ref q55, .null, .null, .null, .null, .null, .null, .null, .null, .null, .null, .null, .null, .null, .null, .null, .int 0, .null, .null]) := by rw [hf66, va_up_ne _ _ (ne_new (mem_l (mem_l (mem_l (mem_l (mem_l (mem_l (mem_l hL_a))))))) hq64)]; exact hx62
  have hP68 := PA.new hP63 0 hq64 hf66
  refine (show V C 1 ((((((((L ++ [q1]) ++ [q10]) ++ [q19]) ++ [q28]) ++ [q37]) ++ [q46]) ++ [q55]) ++ [q64]) f65 8 128 65 [(0, .ref a)] [.ref q64, .ref a] from ?_)
  refine g_putF hC (kf := 8) (TT := TX5) (N := 26) (Cn := RX5) (ty0 := tyX5) (fs1 := [.int 0, .ref q1, .ref q10, .ref q19, .ref q28, .ref q37, .ref q46, .ref q55, .ref q64, .null, .null, .null, .null, .null, .null, .null, .null, .null, .null, .null, .null, .null, .null, .int 0, .null, .null]) dX5_init_65 (mem_l (mem_l (mem_l (mem_l (mem_l (mem_l (mem_l (mem_l hL_a)))))))) hx67 rfl q_u5 (by decide) tyX5_ok nmX5 q_fl_X5_31 rfl rfl rfl rfl rfl rfl rfl (Nat.le_of_ble_eq_true rfl) rfl ?_
  refine g_nm (fun f69 hf70 => ?_)
  have hx71 : f69 a = .inr (5, [.int 0, .ref q1, .ref q10, .ref q19, .ref q28, .ref q37, .ref q46, .ref q55, .ref q64, .null, .null, .null, .null, .null, .null, .null, .null, .null, .null, .null, .null, .null, .null, .int 0, .null, .null]) := by rw [hf70]; exact va_up_self _ _ _
  have hP72 := PA.put hP68 hf70
  refine g_aload_n hC dX5_init_68 0 rfl ?_
  refine g_bipush hC 16 dX5_init_69 (by decide) ?_
  refine g_newD hC dX5_init_71 q_arr_double (Nat.le_of_ble_eq_true rfl) (Nat.le_of_ble_eq_true rfl) (fun q73 hq73 => ?_)
  refine g_nm (fun f74 hf75 => ?_)
  have hx76 : f74 a = .inr (5, [.int 0, .ref q1, .ref q10, .ref q19, .ref q28, .ref q37, .ref q46, .ref q55, .ref q64, .null, .null, .null, .null, .null, .null, .null, .null, .null, .null, .null, .null, .null, .null, .int 0, .null, .null]) := by rw [hf75, va_up_ne _ _ (ne_new (mem_l (mem_l (mem_l (mem_l (mem_l (mem_l (mem_l (mem_l hL_a)))))))) hq73)]; exact hx71
  have hP77 := PA.new hP72 0 hq73 hf75
  refine (show V C 1 (((((((((L ++ [q1]) ++ [q10]) ++ [q19]) ++ [q28]) ++ [q37]) ++ [q46]) ++ [q55]) ++ [q64]) ++ [q73]) f74 9 144 73 [(0, .ref a)] [.ref q73, .ref a] from ?_)
  refine g_putF hC (kf := 9) (TT := TX5) (N := 26) (Cn := RX5) (ty0 := tyX5) (fs1 := [.int 0, .ref q1, .ref q10, .ref q19, .ref q28, .ref q37, .ref q46, .ref q55, .ref q64, .ref q73, .null, .null, .null, .null, .null, .null, .null, .null, .null, .null, .null, .null, .null, .int 0, .null, .null]) dX5_init_73 (mem_l (mem_l (mem_l (mem_l (mem_l (mem_l (mem_l (mem_l (mem_l hL_a))))))))) hx76 rfl q_u5 (by decide) tyX5_ok nmX5 q_fl_X5_34 rfl rfl rfl rfl rfl rfl rfl (Nat.le_of_ble_eq_true rfl) rfl ?_
  refine g_nm (fun f78 hf79 => ?_)
  have hx80 : f78 a = .inr (5, [.int 0, .ref q1, .ref q10, .ref q19, .ref q28, .ref q37, .ref q46, .ref q55, .ref q64, .ref q73, .null, .null, .null, .null, .null, .null, .null, .null, .null, .null, .null, .null, .null, .int 0, .null, .null]) := by rw [hf79]; exact va_up_self _ _ _
  have hP81 := PA.put hP77 hf79
  refine g_aload_n hC dX5_init_76 0 rfl ?_
  refine g_bipush hC 16 dX5_init_77 (by decide) ?_
  refine g_newZ hC dX5_init_79 q_arr_boolean (Nat.le_of_ble_eq_true rfl) (Nat.le_of_ble_eq_true rfl) (fun q82 hq82 => ?_)
  refine g_nm (fun f83 hf84 => ?_)
  have hx85 : f83 a = .inr (5, [.int 0, .ref q1, .ref q10, .ref q19, .ref q28, .ref q37, .ref q46, .ref q55, .ref q64, .ref q73, .null, .null, .null, .null, .null, .null, .null, .null, .null, .null, .null, .null, .null, .int 0, .null, .null]) := by rw [hf84, va_up_ne _ _ (ne_new (mem_l (mem_l (mem_l (mem_l (mem_l (mem_l (mem_l (mem_l (mem_l hL_a))))))))) hq82)]; exact hx80
  have hP86 := PA.new hP81 2 hq82 hf84
  refine (show V C 1 ((((((((((L ++ [q1]) ++ [q10]) ++ [q19]) ++ [q28]) ++ [q37]) ++ [q46]) ++ [q55]) ++ [q64]) ++ [q73]) ++ [q82]) f83 10 160 81 [(0, .ref a)] [.ref q82, .ref a] from ?_)
  refine g_putF hC (kf := 10) (TT := TX5) (N := 26) (Cn := RX5) (ty0 := tyX5) (fs1 := [.int 0, .ref q1, .ref q10, .ref q19, .ref q28, .ref q37, .ref q46, .ref q55, .ref q64, .ref q73, .ref q82, .null, .null, .null, .null, .null, .null, .null, .null, .null, .null, .null, .null, .int 0, .null, .null]) dX5_init_81 (mem_l (mem_l (mem_l (mem_l (mem_l (mem_l (mem_l (mem_l (mem_l (mem_l hL_a)))))))))) hx85 rfl q_u5 (by decide) tyX5_ok nmX5 q_fl_X5_37 rfl rfl rfl rfl rfl rfl rfl (Nat.le_of_ble_eq_true rfl) rfl ?_
  refine g_nm (fun f87 hf88 => ?_)
  have hx89 : f87 a = .inr (5, [.int 0, .ref q1, .ref q10, .ref q19, .ref q28, .ref q37, .ref q46, .ref q55, .ref q64, .ref q73, .ref q82, .null, .null, .null, .null, .null, .null, .null, .null, .null, .null, .null, .null, .int 0, .null, .null]) := by rw [hf88]; exact va_up_self _ _ _
  have hP90 := PA.put hP86 hf88
  refine g_aload_n hC dX5_init_84 0 rfl ?_
  refine g_bipush hC 16 dX5_init_85 (by decide) ?_
  refine g_newD hC dX5_init_87 q_arr_double (Nat.le_of_ble_eq_true rfl) (Nat.le_of_ble_eq_true rfl) (fun q91 hq91 => ?_)
  refine g_nm (fun f92 hf93 => ?_)
  have hx94 : f92 a = .inr (5, [.int 0, .ref q1, .ref q10, .ref q19, .ref q28, .ref q37, .ref q46, .ref q55, .ref q64, .ref q73, .ref q82, .null, .null, .null, .null, .null, .null, .null, .null, .null, .null, .null, .null, .int 0, .null, .null]) := by rw [hf93, va_up_ne _ _ (ne_new (mem_l (mem_l (mem_l (mem_l (mem_l (mem_l (mem_l (mem_l (mem_l (mem_l hL_a)))))))))) hq91)]; exact hx89
  have hP95 := PA.new hP90 0 hq91 hf93
  refine (show V C 1 (((((((((((L ++ [q1]) ++ [q10]) ++ [q19]) ++ [q28]) ++ [q37]) ++ [q46]) ++ [q55]) ++ [q64]) ++ [q73]) ++ [q82]) ++ [q91]) f92 11 176 89 [(0, .ref a)] [.ref q91, .ref a] from ?_)
  refine g_putF hC (kf := 11) (TT := TX5) (N := 26) (Cn := RX5) (ty0 := tyX5) (fs1 := [.int 0, .ref q1, .ref q10, .ref q19, .ref q28, .ref q37, .ref q46, .ref q55, .ref q64, .ref q73, .ref q82, .ref q91, .null, .null, .null, .null, .null, .null, .null, .null, .null, .null, .null, .int 0, .null, .null]) dX5_init_89 (mem_l (mem_l (mem_l (mem_l (mem_l (mem_l (mem_l (mem_l (mem_l (mem_l (mem_l hL_a))))))))))) hx94 rfl q_u5 (by decide) tyX5_ok nmX5 q_fl_X5_41 rfl rfl rfl rfl rfl rfl rfl (Nat.le_of_ble_eq_true rfl) rfl ?_
  refine g_nm (fun f96 hf97 => ?_)
  have hx98 : f96 a = .inr (5, [.int 0, .ref q1, .ref q10, .ref q19, .ref q28, .ref q37, .ref q46, .ref q55, .ref q64, .ref q73, .ref q82, .ref q91, .null, .null, .null, .null, .null, .null, .null, .null, .null, .null, .null, .int 0, .null, .null]) := by rw [hf97]; exact va_up_self _ _ _
  have hP99 := PA.put hP95 hf97
  refine g_aload_n hC dX5_init_92 0 rfl ?_
  refine g_bipush hC 16 dX5_init_93 (by decide) ?_
  refine g_newD hC dX5_init_95 q_arr_double (Nat.le_of_ble_eq_true rfl) (Nat.le_of_ble_eq_true rfl) (fun q100 hq100 => ?_)
  refine g_nm (fun f101 hf102 => ?_)
  have hx103 : f101 a = .inr (5, [.int 0, .ref q1, .ref q10, .ref q19, .ref q28, .ref q37, .ref q46, .ref q55, .ref q64, .ref q73, .ref q82, .ref q91, .null, .null, .null, .null, .null, .null, .null, .null, .null, .null, .null, .int 0, .null, .null]) := by rw [hf102, va_up_ne _ _ (ne_new (mem_l (mem_l (mem_l (mem_l (mem_l (mem_l (mem_l (mem_l (mem_l (mem_l (mem_l hL_a))))))))))) hq100)]; exact hx98
  have hP104 := PA.new hP99 0 hq100 hf102
  refine (show V C 1 ((((((((((((L ++ [q1]) ++ [q10]) ++ [q19]) ++ [q28]) ++ [q37]) ++ [q46]) ++ [q55]) ++ [q64]) ++ [q73]) ++ [q82]) ++ [q91]) ++ [q100]) f101 12 192 97 [(0, .ref a)] [.ref q100, .ref a] from ?_)
  refine g_putF hC (kf := 12) (TT := TX5) (N := 26) (Cn := RX5) (ty0 := tyX5) (fs1 := [.int 0, .ref q1, .ref q10, .ref q19, .ref q28, .ref q37, .ref q46, .ref q55, .ref q64, .ref q73, .ref q82, .ref q91, .ref q100, .null, .null, .null, .null, .null, .null, .null, .null, .null, .null, .int 0, .null, .null]) dX5_init_97 (mem_l (mem_l (mem_l (mem_l (mem_l (mem_l (mem_l (mem_l (mem_l (mem_l (mem_l (mem_l hL_a)))))))))))) hx103 rfl q_u5 (by decide) tyX5_ok nmX5 q_fl_X5_44 rfl rfl rfl rfl rfl rfl rfl (Nat.le_of_ble_eq_true rfl) rfl ?_
  refine g_nm (fun f105 hf106 => ?_)
  have hx107 : f105 a = .inr (5, [.int 0, .ref q1, .ref q10, .ref q19, .ref q28, .ref q37, .ref q46, .ref q55, .ref q64, .ref q73, .ref q82, .ref q91, .ref q100, .null, .null, .null, .null, .null, .null, .null, .null, .null, .null, .int 0, .null, .null]) := by rw [hf106]; exact va_up_self _ _ _
  have hP108 := PA.put hP104 hf106
  refine g_aload_n hC dX5_init_100 0 rfl ?_
  refine g_bipush hC 16 dX5_init_101 (by decide) ?_
  refine g_newD hC dX5_init_103 q_arr_double (Nat.le_of_ble_eq_true rfl) (Nat.le_of_ble_eq_true rfl) (fun q109 hq109 => ?_)
  refine g_nm (fun f110 hf111 => ?_)
  have hx112 : f110 a = .inr (5, [.int 0, .ref q1, .ref q10, .ref q19, .ref q28, .ref q37, .ref q46, .ref q55, .ref q64, .ref q73, .ref q82, .ref q91, .ref q100, .null, .null, .null, .null, .null, .null, .null, .null, .null, .null, .int 0, .null, .null]) := by rw [hf111, va_up_ne _ _ (ne_new (mem_l (mem_l (mem_l (mem_l (mem_l (mem_l (mem_l (mem_l (mem_l (mem_l (mem_l (mem_l hL_a)))))))))))) hq109)]; exact hx107
  have hP113 := PA.new hP108 0 hq109 hf111
  refine (show V C 1 (((((((((((((L ++ [q1]) ++ [q10]) ++ [q19]) ++ [q28]) ++ [q37]) ++ [q46]) ++ [q55]) ++ [q64]) ++ [q73]) ++ [q82]) ++ [q91]) ++ [q100]) ++ [q109]) f110 13 208 105 [(0, .ref a)] [.ref q109, .ref a] from ?_)
  refine g_putF hC (kf := 13) (TT := TX5) (N := 26) (Cn := RX5) (ty0 := tyX5) (fs1 := [.int 0, .ref q1, .ref q10, .ref q19, .ref q28, .ref q37, .ref q46, .ref q55, .ref q64, .ref q73, .ref q82, .ref q91, .ref q100, .ref q109, .null, .null, .null, .null, .null, .null, .null, .null, .null, .int 0, .null, .null]) dX5_init_105 (mem_l (mem_l (mem_l (mem_l (mem_l (mem_l (mem_l (mem_l (mem_l (mem_l (mem_l (mem_l (mem_l hL_a))))))))))))) hx112 rfl q_u5 (by decide) tyX5_ok nmX5 q_fl_X5_47 rfl rfl rfl rfl rfl rfl rfl (Nat.le_of_ble_eq_true rfl) rfl ?_
  refine g_nm (fun f114 hf115 => ?_)
  have hx116 : f114 a = .inr (5, [.int 0, .ref q1, .ref q10, .ref q19, .ref q28, .ref q37, .ref q46, .ref q55, .ref q64, .ref q73, .ref q82, .ref q91, .ref q100, .ref q109, .null, .null, .null, .null, .null, .null, .null, .null, .null, .int 0, .null, .null]) := by rw [hf115]; exact va_up_self _ _ _
  have hP117 := PA.put hP113 hf115
  refine g_aload_n hC dX5_init_108 0 rfl ?_
  refine g_bipush hC 16 dX5_init_109 (by decide) ?_
  refine g_newD hC dX5_init_111 q_arr_double (Nat.le_of_ble_eq_true rfl) (Nat.le_of_ble_eq_true rfl) (fun q118 hq118 => ?_)
  refine g_nm (fun f119 hf120 => ?_)
  have hx121 : f119 a = .inr (5, [.int 0, .ref q1, .ref q10, .ref q19, .ref q28, .ref q37, .ref q46, .ref q55, .ref q64, .ref q73, .ref q82, .ref q91, .ref q100, .ref q109, .null, .null, .null, .null, .null, .null, .null, .null, .null, .int 0, .null, .null]) := by rw [hf120, va_up_ne _ _ (ne_new (mem_l (mem_l (mem_l (mem_l (mem_l (mem_l (mem_l (mem_l (mem_l (mem_l (mem_l (mem_l (mem_l hL_a))))))))))))) hq118)]; exact hx116
  have hP122 := PA.new hP117 0 hq118 hf120
  refine (show V C 1 ((((((((((((((L ++ [q1]) ++ [q10]) ++ [q19]) ++ [q28]) ++ [q37]) ++ [q46]) ++ [q55]) ++ [q64]) ++ [q73]) ++ [q82]) ++ [q91]) ++ [q100]) ++ [q109]) ++ [q118]) f119 14 224 113 [(0, .ref a)] [.ref q118, .ref a] from ?_)
  refine g_putF hC (kf := 14) (TT := TX5) (N := 26) (Cn := RX5) (ty0 := tyX5) (fs1 := [.int 0, .ref q1, .ref q10, .ref q19, .ref q28, .ref q37, .ref q46, .ref q55, .ref q64, .ref q73, .ref q82, .ref q91, .ref q100, .ref q109, .ref q118, .null, .null, .null, .null, .null, .null, .null, .null, .int 0, .null, .null]) dX5_init_113 (mem_l (mem_l (mem_l (mem_l (mem_l (mem_l (mem_l (mem_l (mem_l (mem_l (mem_l (mem_l (mem_l (mem_l hL_a)))))))))))))) hx121 rfl q_u5 (by decide) tyX5_ok nmX5 q_fl_X5_50 rfl rfl rfl rfl rfl rfl rfl (Nat.le_of_ble_eq_true rfl) rfl ?_
  refine g_nm (fun f123 hf124 => ?_)
  have hx125 : f123 a = .inr (5, [.int 0, .ref q1, .ref q10, .ref q19, .ref q28, .ref q37, .ref q46, .ref q55, .ref q64, .ref q73, .ref q82, .ref q91, .ref q100, .ref q109, .ref q118, .null, .null, .null, .null, .null, .null, .null, .null, .int 0, .null, .null]) := by rw [hf124]; exact va_up_self _ _ _
  have hP126 := PA.put hP122 hf124
  refine g_aload_n hC dX5_init_116 0 rfl ?_
  refine g_bipush hC 16 dX5_init_117 (by decide) ?_
  refine g_newD hC dX5_init_119 q_arr_double (Nat.le_of_ble_eq_true rfl) (Nat.le_of_ble_eq_true rfl) (fun q127 hq127 => ?_)
  refine g_nm (fun f128 hf129 => ?_)
  have hx130 : f128 a = .inr (5, [.int 0, .ref q1, .ref q10, .ref q19, .ref q28, .ref q37, .ref q46, .ref q55, .ref q64, .ref q73, .ref q82, .ref q91, .ref q100, .ref q109, .ref q118, .null, .null, .null, .null, .null, .null, .null, .null, .int 0, .null, .null]) := by rw [hf129, va_up_ne _ _ (ne_new (mem_l (mem_l (mem_l (mem_l (mem_l (mem_l (mem_l (mem_l (mem_l (mem_l (mem_l (mem_l (mem_l (mem_l hL_a)))))))))))))) hq127)]; exact hx125
  have hP131 := PA.new hP126 0 hq127 hf129
  refine (show V C 1 (((((((((((((((L ++ [q1]) ++ [q10]) ++ [q19]) ++ [q28]) ++ [q37]) ++ [q46]) ++ [q55]) ++ [q64]) ++ [q73]) ++ [q82]) ++ [q91]) ++ [q100]) ++ [q109]) ++ [q118]) ++ [q127]) f128 15 240 121 [(0, .ref a)] [.ref q127, .ref a] from ?_)
  refine g_putF hC (kf := 15) (TT := TX5) (N := 26) (Cn := RX5) (ty0 := tyX5) (fs1 := [.int 0, .ref q1, .ref q10, .ref q19, .ref q28, .ref q37, .ref q46, .ref q55, .ref q64, .ref q73, .ref q82, .ref q91, .ref q100, .ref q109, .ref q118, .ref q127, .null, .null, .null, .null, .null, .null, .null, .int 0, .null, .null]) dX5_init_121 (mem_l (mem_l (mem_l (mem_l (mem_l (mem_l (mem_l (mem_l (mem_l (mem_l (mem_l (mem_l (mem_l (mem_l (mem_l hL_a))))))))))))))) hx130 rfl q_u5 (by decide) tyX5_ok nmX5 q_fl_X5_53 rfl rfl rfl rfl rfl rfl rfl (Nat.le_of_ble_eq_true rfl) rfl ?_
  refine g_nm (fun f132 hf133 => ?_)
  have hx134 : f132 a = .inr (5, [.int 0, .ref q1, .ref q10, .ref q19, .ref q28, .ref q37, .ref q46, .ref q55, .ref q64, .ref q73, .ref q82, .ref q91, .ref q100, .ref q109, .ref q118, .ref q127, .null, .null, .null, .null, .null, .null, .null, .int 0, .null, .null]) := by rw [hf133]; exact va_up_self _ _ _
  have hP135 := PA.put hP131 hf133
  refine g_aload_n hC dX5_init_124 0 rfl ?_
  refine g_bipush hC 16 dX5_init_125 (by decide) ?_
  refine g_newD hC dX5_init_127 q_arr_double (Nat.le_of_ble_eq_true rfl) (Nat.le_of_ble_eq_true rfl) (fun q136 hq136 => ?_)
  refine g_nm (fun f137 hf138 => ?_)
  have hx139 : f137 a = .inr (5, [.int 0, .ref q1, .ref q10, .ref q19, .ref q28, .ref q37, .ref q46, .ref q55, .ref q64, .ref q73, .ref q82, .ref q91, .ref q100, .ref q109, .ref q118, .ref q127, .null, .null, .null, .null, .null, .null, .null, .int 0, .null, .null]) := by rw [hf138, va_up_ne _ _ (ne_new (mem_l (mem_l (mem_l (mem_l (mem_l (mem_l (mem_l (mem_l (mem_l (mem_l (mem_l (mem_l (mem_l (mem_l (mem_l hL_a))))))))))))))) hq136)]; exact hx134
  have hP140 := PA.new hP135 0 hq136 hf138
  refine (show V C 1 ((((((((((((((((L ++ [q1]) ++ [q10]) ++ [q19]) ++ [q28]) ++ [q37]) ++ [q46]) ++ [q55]) ++ [q64]) ++ [q73]) ++ [q82]) ++ [q91]) ++ [q100]) ++ [q109]) ++ [q118]) ++ [q127]) ++ [q136]) f137 16 256 129 [(0, .ref a)] [.ref q136, .ref a] from ?_)
  refine g_putF hC (kf := 16) (TT := TX5) (N := 26) (Cn := RX5) (ty0 := tyX5) (fs1 := [.int 0, .ref q1, .ref q10, .ref q19, .ref q28, .ref q37, .ref q46, .ref q55, .ref q64, .ref q73, .ref q82, .ref q91, .ref q100, .ref q109, .ref q118, .ref q127, .ref q136, .null, .null, .null, .null, .null, .null, .int 0, .null, .null]) dX5_init_129 (mem_l (mem_l (mem_l (mem_l (mem_l (mem_l (mem_l (mem_l (mem_l (mem_l (mem_l (mem_l (mem_l (mem_l (mem_l (mem_l hL_a)))))))))))))))) hx139 rfl q_u5 (by decide) tyX5_ok nmX5 q_fl_X5_56 rfl rfl rfl rfl rfl rfl rfl (Nat.le_of_ble_eq_true rfl) rfl ?_
  refine g_nm (fun f141 hf142 => ?_)
  have hx143 : f141 a = .inr (5, [.int 0, .ref q1, .ref q10, .ref q19, .ref q28, .ref q37, .ref q46, .ref q55, .ref q64, .ref q73, .ref q82, .ref q91, .ref q100, .ref q109, .ref q118, .ref q127, .ref q136, .null, .null, .null, .null, .null, .null, .int 0, .null, .null]) := by rw [hf142]; exact va_up_self _ _ _
  have hP144 := PA.put hP140 hf142
  refine g_aload_n hC dX5_init_132 0 rfl ?_
  refine g_bipush hC 16 dX5_init_133 (by decide) ?_
  refine g_newI hC dX5_init_135 q_arr_int (Nat.le_of_ble_eq_true rfl) (Nat.le_of_ble_eq_true rfl) (fun q145 hq145 => ?_)
  refine g_nm (fun f146 hf147 => ?_)
  have hx148 : f146 a = .inr (5, [.int 0, .ref q1, .ref q10, .ref q19, .ref q28, .ref q37, .ref q46, .ref q55, .ref q64, .ref q73, .ref q82, .ref q91, .ref q100, .ref q109, .ref q118, .ref q127, .ref q136, .null, .null, .null, .null, .null, .null, .int 0, .null, .null]) := by rw [hf147, va_up_ne _ _ (ne_new (mem_l (mem_l (mem_l (mem_l (mem_l (mem_l (mem_l (mem_l (mem_l (mem_l (mem_l (mem_l (mem_l (mem_l (mem_l (mem_l hL_a)))))))))))))))) hq145)]; exact hx143
  have hP149 := PA.new hP144 1 hq145 hf147
  refine (show V C 1 (((((((((((((((((L ++ [q1]) ++ [q10]) ++ [q19]) ++ [q28]) ++ [q37]) ++ [q46]) ++ [q55]) ++ [q64]) ++ [q73]) ++ [q82]) ++ [q91]) ++ [q100]) ++ [q109]) ++ [q118]) ++ [q127]) ++ [q136]) ++ [q145]) f146 17 272 137 [(0, .ref a)] [.ref q145, .ref a] from ?_)
  refine g_putF hC (kf := 17) (TT := TX5) (N := 26) (Cn := RX5) (ty0 := tyX5) (fs1 := [.int 0, .ref q1, .ref q10, .ref q19, .ref q28, .ref q37, .ref q46, .ref q55, .ref q64, .ref q73, .ref q82, .ref q91, .ref q100, .ref q109, .ref q118, .ref q127, .ref q136, .ref q145, .null, .null, .null, .null, .null, .int 0, .null, .null]) dX5_init_137 (mem_l (mem_l (mem_l (mem_l (mem_l (mem_l (mem_l (mem_l (mem_l (mem_l (mem_l (mem_l (mem_l (mem_l (mem_l (mem_l (mem_l hL_a))))))))))))))))) hx148 rfl q_u5 (by decide) tyX5_ok nmX5 q_fl_X5_59 rfl rfl rfl rfl rfl rfl rfl (Nat.le_of_ble_eq_true rfl) rfl ?_
  refine g_nm (fun f150 hf151 => ?_)
  have hx152 : f150 a = .inr (5, [.int 0, .ref q1, .ref q10, .ref q19, .ref q28, .ref q37, .ref q46, .ref q55, .ref q64, .ref q73, .ref q82, .ref q91, .ref q100, .ref q109, .ref q118, .ref q127, .ref q136, .ref q145, .null, .null, .null, .null, .null, .int 0, .null, .null]) := by rw [hf151]; exact va_up_self _ _ _
  have hP153 := PA.put hP149 hf151
  refine g_aload_n hC dX5_init_140 0 rfl ?_
  refine g_bipush hC 16 dX5_init_141 (by decide) ?_
  refine g_newI hC dX5_init_143 q_arr_int (Nat.le_of_ble_eq_true rfl) (Nat.le_of_ble_eq_true rfl) (fun q154 hq154 => ?_)
  refine g_nm (fun f155 hf156 => ?_)
  have hx157 : f155 a = .inr (5, [.int 0, .ref q1, .ref q10, .ref q19, .ref q28, .ref q37, .ref q46, .ref q55, .ref q64, .ref q73, .ref q82, .ref q91, .ref q100, .ref q109, .ref q118, .ref q127, .ref q136, .ref q145, .null, .null, .null, .null, .null, .int 0, .null, .null]) := by rw [hf156, va_up_ne _ _ (ne_new (mem_l (mem_l (mem_l (mem_l (mem_l (mem_l (mem_l (mem_l (mem_l (mem_l (mem_l (mem_l (mem_l (mem_l (mem_l (mem_l (mem_l hL_a))))))))))))))))) hq154)]; exact hx152
  have hP158 := PA.new hP153 1 hq154 hf156
  refine (show V C 1 ((((((((((((((((((L ++ [q1]) ++ [q10]) ++ [q19]) ++ [q28]) ++ [q37]) ++ [q46]) ++ [q55]) ++ [q64]) ++ [q73]) ++ [q82]) ++ [q91]) ++ [q100]) ++ [q109]) ++ [q118]) ++ [q127]) ++ [q136]) ++ [q145]) ++ [q154]) f155 18 288 145 [(0, .ref a)] [.ref q154, .ref a] from ?_)
  refine g_putF hC (kf := 18) (TT := TX5) (N := 26) (Cn := RX5) (ty0 := tyX5) (fs1 := [.int 0, .ref q1, .ref q10, .ref q19, .ref q28, .ref q37, .ref q46, .ref q55, .ref q64, .ref q73, .ref q82, .ref q91, .ref q100, .ref q109, .ref q118, .ref q127, .ref q136, .ref q145, .ref q154, .null, .null, .null, .null, .int 0, .null, .null]) dX5_init_145 (mem_l (mem_l (mem_l (mem_l (mem_l (mem_l (mem_l (mem_l (mem_l (mem_l (mem_l (mem_l (mem_l (mem_l (mem_l (mem_l (mem_l (mem_l hL_a)))))))))))))))))) hx157 rfl q_u5 (by decide) tyX5_ok nmX5 q_fl_X5_63 rfl rfl rfl rfl rfl rfl rfl (Nat.le_of_ble_eq_true rfl) rfl ?_
  refine g_nm (fun f159 hf160 => ?_)
  have hx161 : f159 a = .inr (5, [.int 0, .ref q1, .ref q10, .ref q19, .ref q28, .ref q37, .ref q46, .ref q55, .ref q64, .ref q73, .ref q82, .ref q91, .ref q100, .ref q109, .ref q118, .ref q127, .ref q136, .ref q145, .ref q154, .null, .null, .null, .null, .int 0, .null, .null]) := by rw [hf160]; exact va_up_self _ _ _
  have hP162 := PA.put hP158 hf160
  refine g_aload_n hC dX5_init_148 0 rfl ?_
  refine g_bipush hC 16 dX5_init_149 (by decide) ?_
  refine g_newI hC dX5_init_151 q_arr_int (Nat.le_of_ble_eq_true rfl) (Nat.le_of_ble_eq_true rfl) (fun q163 hq163 => ?_)
  refine g_nm (fun f164 hf165 => ?_)
  have hx166 : f164 a = .inr (5, [.int 0, .ref q1, .ref q10, .ref q19, .ref q28, .ref q37, .ref q46, .ref q55, .ref q64, .ref q73, .ref q82, .ref q91, .ref q100, .ref q109, .ref q118, .ref q127, .ref q136, .ref q145, .ref q154, .null, .null, .null, .null, .int 0, .null, .null]) := by rw [hf165, va_up_ne _ _ (ne_new (mem_l (mem_l (mem_l (mem_l (mem_l (mem_l (mem_l (mem_l (mem_l (mem_l (mem_l (mem_l (mem_l (mem_l (mem_l (mem_l (mem_l (mem_l hL_a)))))))))))))))))) hq163)]; exact hx161
  have hP167 := PA.new hP162 1 hq163 hf165
  refine (show V C 1 (((((((((((((((((((L ++ [q1]) ++ [q10]) ++ [q19]) ++ [q28]) ++ [q37]) ++ [q46]) ++ [q55]) ++ [q64]) ++ [q73]) ++ [q82]) ++ [q91]) ++ [q100]) ++ [q109]) ++ [q118]) ++ [q127]) ++ [q136]) ++ [q145]) ++ [q154]) ++ [q163]) f164 19 304 153 [(0, .ref a)] [.ref q163, .ref a] from ?_)
  refine g_putF hC (kf := 19) (TT := TX5) (N := 26) (Cn := RX5) (ty0 := tyX5) (fs1 := [.int 0, .ref q1, .ref q10, .ref q19, .ref q28, .ref q37, .ref q46, .ref q55, .ref q64, .ref q73, .ref q82, .ref q91, .ref q100, .ref q109, .ref q118, .ref q127, .ref q136, .ref q145, .ref q154, .ref q163, .null, .null, .null, .int 0, .null, .null]) dX5_init_153 (mem_l (mem_l (mem_l (mem_l (mem_l (mem_l (mem_l (mem_l (mem_l (mem_l (mem_l (mem_l (mem_l (mem_l (mem_l (mem_l (mem_l (mem_l (mem_l hL_a))))))))))))))))))) hx166 rfl q_u5 (by decide) tyX5_ok nmX5 q_fl_X5_66 rfl rfl rfl rfl rfl rfl rfl (Nat.le_of_ble_eq_true rfl) rfl ?_
  refine g_nm (fun f168 hf169 => ?_)
  have hx170 : f168 a = .inr (5, [.int 0, .ref q1, .ref q10, .ref q19, .ref q28, .ref q37, .ref q46, .ref q55, .ref q64, .ref q73, .ref q82, .ref q91, .ref q100, .ref q109, .ref q118, .ref q127, .ref q136, .ref q145, .ref q154, .ref q163, .null, .null, .null, .int 0, .null, .null]) := by rw [hf169]; exact va_up_self _ _ _
  have hP171 := PA.put hP167 hf169
  refine g_aload_n hC dX5_init_156 0 rfl ?_
  refine g_bipush hC 16 dX5_init_157 (by decide) ?_
  refine g_newD hC dX5_init_159 q_arr_double (Nat.le_of_ble_eq_true rfl) (Nat.le_of_ble_eq_true rfl) (fun q172 hq172 => ?_)
  refine g_nm (fun f173 hf174 => ?_)
  have hx175 : f173 a = .inr (5, [.int 0, .ref q1, .ref q10, .ref q19, .ref q28, .ref q37, .ref q46, .ref q55, .ref q64, .ref q73, .ref q82, .ref q91, .ref q100, .ref q109, .ref q118, .ref q127, .ref q136, .ref q145, .ref q154, .ref q163, .null, .null, .null, .int 0, .null, .null]) := by rw [hf174, va_up_ne _ _ (ne_new (mem_l (mem_l (mem_l (mem_l (mem_l (mem_l (mem_l (mem_l (mem_l (mem_l (mem_l (mem_l (mem_l (mem_l (mem_l (mem_l (mem_l (mem_l (mem_l hL_a))))))))))))))))))) hq172)]; exact hx170
  have hP176 := PA.new hP171 0 hq172 hf174
  refine (show V C 1 ((((((((((((((((((((L ++ [q1]) ++ [q10]) ++ [q19]) ++ [q28]) ++ [q37]) ++ [q46]) ++ [q55]) ++ [q64]) ++ [q73]) ++ [q82]) ++ [q91]) ++ [q100]) ++ [q109]) ++ [q118]) ++ [q127]) ++ [q136]) ++ [q145]) ++ [q154]) ++ [q163]) ++ [q172]) f173 20 320 161 [(0, .ref a)] [.ref q172, .ref a] from ?_)
  refine g_putF hC (kf := 20) (TT := TX5) (N := 26) (Cn := RX5) (ty0 := tyX5) (fs1 := [.int 0, .ref q1, .ref q10, .ref q19, .ref q28, .ref q37, .ref q46, .ref q55, .ref q64, .ref q73, .ref q82, .ref q91, .ref q100, .ref q109, .ref q118, .ref q127, .ref q136, .ref q145, .ref q154, .ref q163, .ref q172, .null, .null, .int 0, .null, .null]) dX5_init_161 (mem_l (mem_l (mem_l (mem_l (mem_l (mem_l (mem_l (mem_l (mem_l (mem_l (mem_l (mem_l (mem_l (mem_l (mem_l (mem_l (mem_l (mem_l (mem_l (mem_l hL_a)))))))))))))))))))) hx175 rfl q_u5 (by decide) tyX5_ok nmX5 q_fl_X5_69 rfl rfl rfl rfl rfl rfl rfl (Nat.le_of_ble_eq_true rfl) rfl ?_
  refine g_nm (fun f177 hf178 => ?_)
  have hx179 : f177 a = .inr (5, [.int 0, .ref q1, .ref q10, .ref q19, .ref q28, .ref q37, .ref q46, .ref q55, .ref q64, .ref q73, .ref q82, .ref q91, .ref q100, .ref q109, .ref q118, .ref q127, .ref q136, .ref q145, .ref q154, .ref q163, .ref q172, .null, .null, .int 0, .null, .null]) := by rw [hf178]; exact va_up_self _ _ _
  have hP180 := PA.put hP176 hf178
  refine g_aload_n hC dX5_init_164 0 rfl ?_
  refine g_bipush hC 16 dX5_init_165 (by decide) ?_
  refine g_newD hC dX5_init_167 q_arr_double (Nat.le_of_ble_eq_true rfl) (Nat.le_of_ble_eq_true rfl) (fun q181 hq181 => ?_)
  refine g_nm (fun f182 hf183 => ?_)
  have hx184 : f182 a = .inr (5, [.int 0, .ref q1, .ref q10, .ref q19, .ref q28, .ref q37, .ref q46, .ref q55, .ref q64, .ref q73, .ref q82, .ref q91, .ref q100, .ref q109, .ref q118, .ref q127, .ref q136, .ref q145, .ref q154, .ref q163, .ref q172, .null, .null, .int 0, .null, .null]) := by rw [hf183, va_up_ne _ _ (ne_new (mem_l (mem_l (mem_l (mem_l (mem_l (mem_l (mem_l (mem_l (mem_l (mem_l (mem_l (mem_l (mem_l (mem_l (mem_l (mem_l (mem_l (mem_l (mem_l (mem_l hL_a)))))))))))))))))))) hq181)]; exact hx179
  have hP185 := PA.new hP180 0 hq181 hf183
  refine (show V C 1 (((((((((((((((((((((L ++ [q1]) ++ [q10]) ++ [q19]) ++ [q28]) ++ [q37]) ++ [q46]) ++ [q55]) ++ [q64]) ++ [q73]) ++ [q82]) ++ [q91]) ++ [q100]) ++ [q109]) ++ [q118]) ++ [q127]) ++ [q136]) ++ [q145]) ++ [q154]) ++ [q163]) ++ [q172]) ++ [q181]) f182 21 336 169 [(0, .ref a)] [.ref q181, .ref a] from ?_)
  refine g_putF hC (kf := 21) (TT := TX5) (N := 26) (Cn := RX5) (ty0 := tyX5) (fs1 := [.int 0, .ref q1, .ref q10, .ref q19, .ref q28, .ref q37, .ref q46, .ref q55, .ref q64, .ref q73, .ref q82, .ref q91, .ref q100, .ref q109, .ref q118, .ref q127, .ref q136, .ref q145, .ref q154, .ref q163, .ref q172, .ref q181, .null, .int 0, .null, .null]) dX5_init_169 (mem_l (mem_l (mem_l (mem_l (mem_l (mem_l (mem_l (mem_l (mem_l (mem_l (mem_l (mem_l (mem_l (mem_l (mem_l (mem_l (mem_l (mem_l (mem_l (mem_l (mem_l hL_a))))))))))))))))))))) hx184 rfl q_u5 (by decide) tyX5_ok nmX5 q_fl_X5_72 rfl rfl rfl rfl rfl rfl rfl (Nat.le_of_ble_eq_true rfl) rfl ?_
  refine g_nm (fun f186 hf187 => ?_)
  have hx188 : f186 a = .inr (5, [.int 0, .ref q1, .ref q10, .ref q19, .ref q28, .ref q37, .ref q46, .ref q55, .ref q64, .ref q73, .ref q82, .ref q91, .ref q100, .ref q109, .ref q118, .ref q127, .ref q136, .ref q145, .ref q154, .ref q163, .ref q172, .ref q181, .null, .int 0, .null, .null]) := by rw [hf187]; exact va_up_self _ _ _
  have hP189 := PA.put hP185 hf187
  refine g_aload_n hC dX5_init_172 0 rfl ?_
  refine g_bipush hC 16 dX5_init_173 (by decide) ?_
  refine g_newI hC dX5_init_175 q_arr_int (Nat.le_of_ble_eq_true rfl) (Nat.le_of_ble_eq_true rfl) (fun q190 hq190 => ?_)
  refine g_nm (fun f191 hf192 => ?_)
  have hx193 : f191 a = .inr (5, [.int 0, .ref q1, .ref q10, .ref q19, .ref q28, .ref q37, .ref q46, .ref q55, .ref q64, .ref q73, .ref q82, .ref q91, .ref q100, .ref q109, .ref q118, .ref q127, .ref q136, .ref q145, .ref q154, .ref q163, .ref q172, .ref q181, .null, .int 0, .null, .null]) := by rw [hf192, va_up_ne _ _ (ne_new (mem_l (mem_l (mem_l (mem_l (mem_l (mem_l (mem_l (mem_l (mem_l (mem_l (mem_l (mem_l (mem_l (mem_l (mem_l (mem_l (mem_l (mem_l (mem_l (mem_l (mem_l hL_a))))))))))))))))))))) hq190)]; exact hx188
  have hP194 := PA.new hP189 1 hq190 hf192
  refine (show V C 1 ((((((((((((((((((((((L ++ [q1]) ++ [q10]) ++ [q19]) ++ [q28]) ++ [q37]) ++ [q46]) ++ [q55]) ++ [q64]) ++ [q73]) ++ [q82]) ++ [q91]) ++ [q100]) ++ [q109]) ++ [q118]) ++ [q127]) ++ [q136]) ++ [q145]) ++ [q154]) ++ [q163]) ++ [q172]) ++ [q181]) ++ [q190]) f191 22 352 177 [(0, .ref a)] [.ref q190, .ref a] from ?_)
  refine g_putF hC (kf := 22) (TT := TX5) (N := 26) (Cn := RX5) (ty0 := tyX5) (fs1 := [.int 0, .ref q1, .ref q10, .ref q19, .ref q28, .ref q37, .ref q46, .ref q55, .ref q64, .ref q73, .ref q82, .ref q91, .ref q100, .ref q109, .ref q118, .ref q127, .ref q136, .ref q145, .ref q154, .ref q163, .ref q172, .ref q181, .ref q190, .int 0, .null, .null]) dX5_init_177 (mem_l (mem_l (mem_l (mem_l (mem_l (mem_l (mem_l (mem_l (mem_l (mem_l (mem_l (mem_l (mem_l (mem_l (mem_l (mem_l (mem_l (mem_l (mem_l (mem_l (mem_l (mem_l hL_a)))))))))))))))))))))) hx193 rfl q_u5 (by decide) tyX5_ok nmX5 q_fl_X5_75 rfl rfl rfl rfl rfl rfl rfl (Nat.le_of_ble_eq_true rfl) rfl ?_
  refine g_nm (fun f195 hf196 => ?_)
  have hx197 : f195 a = .inr (5, [.int 0, .ref q1, .ref q10, .ref q19, .ref q28, .ref q37, .ref q46, .ref q55, .ref q64, .ref q73, .ref q82, .ref q91, .ref q100, .ref q109, .ref q118, .ref q127, .ref q136, .ref q145, .ref q154, .ref q163, .ref q172, .ref q181, .ref q190, .int 0, .null, .null]) := by rw [hf196]; exact va_up_self _ _ _
  have hP198 := PA.put hP194 hf196
  refine g_aload_n hC dX5_init_180 0 rfl ?_
  refine g_bipush hC 16 dX5_init_181 (by decide) ?_
  refine g_newI hC dX5_init_183 q_arr_int (Nat.le_of_ble_eq_true rfl) (Nat.le_of_ble_eq_true rfl) (fun q199 hq199 => ?_)
  refine g_nm (fun f200 hf201 => ?_)
  have hx202 : f200 a = .inr (5, [.int 0, .ref q1, .ref q10, .ref q19, .ref q28, .ref q37, .ref q46, .ref q55, .ref q64, .ref q73, .ref q82, .ref q91, .ref q100, .ref q109, .ref q118, .ref q127, .ref q136, .ref q145, .ref q154, .ref q163, .ref q172, .ref q181, .ref q190, .int 0, .null, .null]) := by rw [hf201, va_up_ne _ _ (ne_new (mem_l (mem_l (mem_l (mem_l (mem_l (mem_l (mem_l (mem_l (mem_l (mem_l (mem_l (mem_l (mem_l (mem_l (mem_l (mem_l (mem_l (mem_l (mem_l (mem_l (mem_l (mem_l hL_a)))))))))))))))))))))) hq199)]; exact hx197
  have hP203 := PA.new hP198 1 hq199 hf201
  refine (show V C 1 (((((((((((((((((((((((L ++ [q1]) ++ [q10]) ++ [q19]) ++ [q28]) ++ [q37]) ++ [q46]) ++ [q55]) ++ [q64]) ++ [q73]) ++ [q82]) ++ [q91]) ++ [q100]) ++ [q109]) ++ [q118]) ++ [q127]) ++ [q136]) ++ [q145]) ++ [q154]) ++ [q163]) ++ [q172]) ++ [q181]) ++ [q190]) ++ [q199]) f200 23 368 185 [(0, .ref a)] [.ref q199, .ref a] from ?_)
  refine g_putF hC (kf := 24) (TT := TX5) (N := 26) (Cn := RX5) (ty0 := tyX5) (fs1 := [.int 0, .ref q1, .ref q10, .ref q19, .ref q28, .ref q37, .ref q46, .ref q55, .ref q64, .ref q73, .ref q82, .ref q91, .ref q100, .ref q109, .ref q118, .ref q127, .ref q136, .ref q145, .ref q154, .ref q163, .ref q172, .ref q181, .ref q190, .int 0, .ref q199, .null]) dX5_init_185 (mem_l (mem_l (mem_l (mem_l (mem_l (mem_l (mem_l (mem_l (mem_l (mem_l (mem_l (mem_l (mem_l (mem_l (mem_l (mem_l (mem_l (mem_l (mem_l (mem_l (mem_l (mem_l (mem_l hL_a))))))))))))))))))))))) hx202 rfl q_u5 (by decide) tyX5_ok nmX5 q_fl_X5_78 rfl rfl rfl rfl rfl rfl rfl (Nat.le_of_ble_eq_true rfl) rfl ?_
  refine g_nm (fun f204 hf205 => ?_)
  have hx206 : f204 a = .inr (5, [.int 0, .ref q1, .ref q10, .ref q19, .ref q28, .ref q37, .ref q46, .ref q55, .ref q64, .ref q73, .ref q82, .ref q91, .ref q100, .ref q109, .ref q118, .ref q127, .ref q136, .ref q145, .ref q154, .ref q163, .ref q172, .ref q181, .ref q190, .int 0, .ref q199, .null]) := by rw [hf205]; exact va_up_self _ _ _
  have hP207 := PA.put hP203 hf205
  refine g_aload_n hC dX5_init_188 0 rfl ?_
  refine g_bipush hC 16 dX5_init_189 (by decide) ?_
  refine g_newD hC dX5_init_191 q_arr_double (Nat.le_of_ble_eq_true rfl) (Nat.le_of_ble_eq_true rfl) (fun q208 hq208 => ?_)
  refine g_nm (fun f209 hf210 => ?_)
  have hx211 : f209 a = .inr (5, [.int 0, .ref q1, .ref q10, .ref q19, .ref q28, .ref q37, .ref q46, .ref q55, .ref q64, .ref q73, .ref q82, .ref q91, .ref q100, .ref q109, .ref q118, .ref q127, .ref q136, .ref q145, .ref q154, .ref q163, .ref q172, .ref q181, .ref q190, .int 0, .ref q199, .null]) := by rw [hf210, va_up_ne _ _ (ne_new (mem_l (mem_l (mem_l (mem_l (mem_l (mem_l (mem_l (mem_l (mem_l (mem_l (mem_l (mem_l (mem_l (mem_l (mem_l (mem_l (mem_l (mem_l (mem_l (mem_l (mem_l (mem_l (mem_l hL_a))))))))))))))))))))))) hq208)]; exact hx206
  have hP212 := PA.new hP207 0 hq208 hf210
  refine (show V C 1 ((((((((((((((((((((((((L ++ [q1]) ++ [q10]) ++ [q19]) ++ [q28]) ++ [q37]) ++ [q46]) ++ [q55]) ++ [q64]) ++ [q73]) ++ [q82]) ++ [q91]) ++ [q100]) ++ [q109]) ++ [q118]) ++ [q127]) ++ [q136]) ++ [q145]) ++ [q154]) ++ [q163]) ++ [q172]) ++ [q181]) ++ [q190]) ++ [q199]) ++ [q208]) f209 24 384 193 [(0, .ref a)] [.ref q208, .ref a] from ?_)
  refine g_putF hC (kf := 25) (TT := TX5) (N := 26) (Cn := RX5) (ty0 := tyX5) (fs1 := [.int 0, .ref q1, .ref q10, .ref q19, .ref q28, .ref q37, .ref q46, .ref q55, .ref q64, .ref q73, .ref q82, .ref q91, .ref q100, .ref q109, .ref q118, .ref q127, .ref q136, .ref q145, .ref q154, .ref q163, .ref q172, .ref q181, .ref q190, .int 0, .ref q199, .ref q208]) dX5_init_193 (mem_l (mem_l (mem_l (mem_l (mem_l (mem_l (mem_l (mem_l (mem_l (mem_l (mem_l (mem_l (mem_l (mem_l (mem_l (mem_l (mem_l (mem_l (mem_l (mem_l (mem_l (mem_l (mem_l (mem_l hL_a)))))))))))))))))))))))) hx211 rfl q_u5 (by decide) tyX5_ok nmX5 q_fl_X5_81 rfl rfl rfl rfl rfl rfl rfl (Nat.le_of_ble_eq_true rfl) rfl ?_
  refine g_nm (fun f213 hf214 => ?_)
  have hx215 : f213 a = .inr (5, [.int 0, .ref q1, .ref q10, .ref q19, .ref q28, .ref q37, .ref q46, .ref q55, .ref q64, .ref q73, .ref q82, .ref q91, .ref q100, .ref q109, .ref q118, .ref q127, .ref q136, .ref q145, .ref q154, .ref q163, .ref q172, .ref q181, .ref q190, .int 0, .ref q199, .ref q208]) := by rw [hf214]; exact va_up_self _ _ _
  have hP216 := PA.put hP212 hf214
  have hPx : PA G a L f ((((((((((((((((((((((((L ++ [q1]) ++ [q10]) ++ [q19]) ++ [q28]) ++ [q37]) ++ [q46]) ++ [q55]) ++ [q64]) ++ [q73]) ++ [q82]) ++ [q91]) ++ [q100]) ++ [q109]) ++ [q118]) ++ [q127]) ++ [q136]) ++ [q145]) ++ [q154]) ++ [q163]) ++ [q172]) ++ [q181]) ++ [q190]) ++ [q199]) ++ [q208]) [q1, q10, q19, q28, q37, q46, q55, q64, q73, q82, q91, q100, q109, q118, q127, q136, q145, q154, q163, q172, q181, q190, q199, q208] kndL f213 := by simpa only [List.nil_append, List.cons_append, kndL] using hP216
  have hax : f213 a = eMd (fun j => ([q1, q10, q19, q28, q37, q46, q55, q64, q73, q82, q91, q100, q109, q118, q127, q136, q145, q154, q163, q172, q181, q190, q199, q208] : List Nat).getD (posM j) 0) 0 0 := hx215
  exact g_vret hC dX5_init_196 rfl ⟨rfl, hPx.2.1, hPx.2.2.1, (fun j => ([q1, q10, q19, q28, q37, q46, q55, q64, q73, q82, q91, q100, q109, q118, q127, q136, q145, q154, q163, q172, q181, q190, q199, q208] : List Nat).getD (posM j) 0), MI.init hPx hax⟩ (Nat.le_of_ble_eq_true rfl) (Nat.le_of_ble_eq_true rfl)
