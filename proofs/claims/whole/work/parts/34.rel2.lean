/-! the relation, kept by each of the calls -/
theorem va_up_sw {α : Type} (f : Nat → α) {a b : Nat} (h : a ≠ b) (x y : α) : va_up (va_up f a x) b y = va_up (va_up f b y) a x := by
  funext j
  unfold va_up
  by_cases h1 : j = a
  · have h2 : ¬ j = b := fun q => h (h1.symm.trans q)
    simp only [if_pos h1, if_neg h2]
  · by_cases h2 : j = b
    · simp only [if_neg h1, if_pos h2]
    · simp only [if_neg h1, if_neg h2]
section G34
variable {x y : Nat → UInt64} {z w : Nat → Int32} {o : Option Nat}
theorem LR.zc (h : LR x z o y w) {z1 w1 : Nat → Int32} (h0 : z1 0 = w1 20) (h1 : z1 1 = w1 21) (h5 : z1 5 = z 5) (w22 : w1 22 = w 22) (w23 : w1 23 = w 23) (w25 : w1 25 = w 25) : LR x z1 o y w1 := by
  obtain ⟨g1, g2, g3, g4, g5, g6⟩ := h
  refine ⟨g1, h0, h1, w22.trans g4, ?_, ?_⟩
  · rw [w25]; exact g5
  · rw [h5, w23]; exact g6
theorem LR.rng (h : LR x z o y w) {v u v1 u1 : UInt64} (hv : dv v = dv v1) (hu : dv u = dv u1) : LR (va_up (va_up x 13 v) 14 u) z o (va_up (va_up y 13 v1) 14 u1) (va_up w 25 1) := by
  obtain ⟨g1, g2, g3, g4, g5, g6⟩ := h
  refine ⟨fun j hj => ?_, g2, g3, g4, Or.inr ⟨by rw [va_up_self]; decide, hv, hu⟩, g6⟩
  rw [va_up_ne _ _ (by omega), va_up_ne _ _ (by omega), va_up_ne _ _ (by omega), va_up_ne _ _ (by omega)]; exact g1 j hj
theorem LR.md (h : LR x z o y w) (m : Int32) : mdH (dz x) (z 0) m = mdH (dz y) (w 20) m ∧ mdS (dz x) (z 0) m = mdS (dz y) (w 20) m := by
  obtain ⟨g1, g2, -⟩ := h
  unfold mdH mdS
  simp only [dz, g2, g1 0 (by decide), g1 5 (by decide), g1 6 (by decide), g1 7 (by decide), g1 8 (by decide), and_self]
theorem LR.mode (h : LR x z o y w) {s h1 s1 h2 : UInt64} (m : Int32) (hs : dv s = dv s1) (hh : dv h1 = dv h2) : LR (va_up (va_up x 6 s) 8 h1) (va_up z 0 m) o (va_up (va_up y 8 h2) 6 s1) (va_up w 20 m) := by
  rw [va_up_sw y (by decide : 8 ≠ 6)]
  have g := LR.up (LR.up h (j := 6) (by decide) hs) (j := 8) (by decide) hh
  exact LR.zc g rfl h.2.2.1 rfl rfl rfl rfl
theorem LR.tg (h : LR x z o y w) (k : Int32) : tgS (dv (x 16)) (dv (x 17)) (z 5) k = tgM (dv (y 16)) (dv (y 17)) (w 23) k := by
  obtain ⟨-, -, -, -, -, g1, g2⟩ := h
  rw [g1]
  by_cases hp : w 23 = 0
  · rw [tg_same k (fun q => absurd hp q), hp]
    unfold tgS
    rw [if_pos rfl, if_pos rfl]
  · obtain ⟨e1, e2, e3⟩ := g2 hp
    rw [tg_same k (fun _ => e3), e1, e2]
theorem LR.flt (h : LR x z o y w) : LR (va_up x 5 (x 4)) (va_up z 1 (z 1 + 1)) o (va_up y 5 (y 4)) (va_up w 21 (w 21 + 1)) := by
  have g := LR.up h (j := 5) (by decide) (h.1 4 (by decide))
  refine LR.zc g h.2.1 ?_ rfl rfl rfl rfl
  show z 1 + 1 = w 21 + 1
  rw [h.2.2.1]
theorem LR.rin (h : LR x z o y w) {m : DT} (hm : readS m = true) : inB m (dv (x 13)) (dv (x 14)) = rngT (w 25) m (dv (y 13)) (dv (y 14)) := by
  obtain ⟨-, -, -, -, g, -⟩ := h
  unfold rngT
  rcases g with ⟨a, b, c⟩ | ⟨a, b, c⟩
  · rw [b, c, decide_eq_true a, Bool.true_or]; exact hm
  · rw [b, c, decide_eq_false a, Bool.false_or]
theorem LR.eu (h : LR x z o y w) (e : DT) : (tU (dz x) (z 0) (dv (x 9)) (dv (x 10)) (dv (x 11)) (dv (x 12)) e = tU (dz y) (w 20) (dv (y 9)) (dv (y 10)) (dv (y 11)) (dv (y 12)) e) := by
  obtain ⟨g1, g2, -⟩ := h
  unfold tU fU oU fV fA
  simp only [dz, g2, g1 0 (by decide), g1 1 (by decide), g1 2 (by decide), g1 3 (by decide), g1 4 (by decide), g1 5 (by decide), g1 6 (by decide), g1 7 (by decide), g1 8 (by decide), g1 9 (by decide), g1 10 (by decide), g1 11 (by decide), g1 12 (by decide)]
theorem LR.es (h : LR x z o y w) (e : DT) : (tS (dz x) (z 0) (dv (x 9)) (dv (x 10)) e = tS (dz y) (w 20) (dv (y 9)) (dv (y 10)) e) := by
  obtain ⟨g1, g2, -⟩ := h
  unfold tS fS fV fA
  simp only [dz, g2, g1 0 (by decide), g1 1 (by decide), g1 2 (by decide), g1 3 (by decide), g1 4 (by decide), g1 5 (by decide), g1 6 (by decide), g1 7 (by decide), g1 8 (by decide), g1 9 (by decide), g1 10 (by decide), g1 11 (by decide), g1 12 (by decide)]
theorem LR.tune (h : LR x z o y w) {le mn1 mx1 mn mx : UInt64} {rl sw lr pe1 pe : Int32} (hp : pe1 = pe) (hn : pe ≠ 0 → dv mn1 = dv mn ∧ dv mx1 = dv mx ∧ isN (tgA (dv mn) (dv mx)) = false) : LR (va_up (va_up (va_up x 15 le) 16 mn1) 17 mx1) (va_up (va_up (va_up (va_up z 2 rl) 3 sw) 4 lr) 5 pe1) o (va_up (va_up y 16 mn) 17 mx) (va_up w 23 pe) := by
  obtain ⟨g1, g2, g3, g4, g5, g6⟩ := h
  refine ⟨fun j hj => ?_, g2, g3, g4, g5, hp, hn⟩
  rw [va_up_ne _ _ (by omega), va_up_ne _ _ (by omega), va_up_ne _ _ (by omega), va_up_ne _ _ (by omega), va_up_ne _ _ (by omega)]; exact g1 j hj
end G34
section G35
variable {n k : Nat} {X : Nat → Nat → UInt64} {XS : Nat → UInt64} {Z : Nat → Nat → Int32} {OU : Nat → Option Nat} {SL : Nat → Nat} {Y : Nat → Nat → UInt64} {W0 : Nat → Nat → Int32}
theorem REL.cas (h : REL n k X XS Z OU SL Y W0) (hn : n ≤ 16) {a b : Nat} (ha : a < n) (hb : b < n) (hl : ledN OU 16 (some a) b = false) : REL n k X XS Z (va_up OU b (some a)) SL Y (up2 W0 b 22 (nI a)) := by
  obtain ⟨h1, h2, h3, h4, h5⟩ := h
  obtain ⟨e1, e2⟩ := ends_put hn h4 h5 ha hb hl
  refine ⟨fun i hi => ?_, fun i h6 h7 => ?_, fun j hj => ?_, e1, e2⟩
  · by_cases q : i = b
    · subst q
      rw [va_up_self, up2_r]
      obtain ⟨g1, g2, g3, g4, g5, g6⟩ := h1 i hi
      exact ⟨g1, g2, g3, rfl, g5, g6⟩
    · rw [va_up_ne _ _ q, up2_o _ _ _ _ q]; exact h1 i hi
  · rw [up2_o _ _ _ _ (by omega)]; exact h2 i h6 h7
  · obtain ⟨g1, g2, g3⟩ := h3 j hj
    exact ⟨g1, (up2_n W0 b 22 j 24 _ (Or.inr (by decide))).trans g2, g3⟩
theorem REL.split (h : REL n k X XS Z OU SL Y W0) {i : Nat} (hi : i < n) {v v1 : UInt64} (hv : dv v = dv v1) : REL n (k + 1) X (va_up XS k v) Z OU (va_up SL k i) (up2 Y k 18 v1) (up2 W0 k 24 (nI i)) := by
  obtain ⟨h1, h2, h3, h4, h5⟩ := h
  have eY : ∀ a j, j ≠ 18 → up2 Y k 18 v1 a j = Y a j := fun a j hj => up2_n Y k 18 a j v1 (Or.inr hj)
  have eW : ∀ a j, j ≠ 24 → up2 W0 k 24 (nI i) a j = W0 a j := fun a j hj => up2_n W0 k 24 a j _ (Or.inr hj)
  refine ⟨fun a ha => ?_, fun a h6 h7 => ⟨fun j hj => ?_, fun j hj hj2 => ?_⟩, fun j hj => ?_, h4, h5⟩
  · obtain ⟨g1, g2, g3, g4, g5, g6⟩ := h1 a ha
    refine ⟨fun j hj => by rw [eY a j (by omega)]; exact g1 j hj, ?_, ?_, ?_, ?_, ?_⟩
    · rw [eW a 20 (by decide)]; exact g2
    · rw [eW a 21 (by decide)]; exact g3
    · rw [eW a 22 (by decide)]; exact g4
    · rw [eW a 25 (by decide), eY a 13 (by decide), eY a 14 (by decide)]; exact g5
    · rw [eW a 23 (by decide), eY a 16 (by decide), eY a 17 (by decide)]; exact g6
  · rw [eY a j (by omega)]; exact (h2 a h6 h7).1 j hj
  · rw [eW a j hj2]; exact (h2 a h6 h7).2 j hj hj2
  · by_cases q : j = k
    · subst q
      rw [va_up_self, va_up_self, up2_s, up2_s]
      exact ⟨hi, rfl, hv⟩
    · rw [va_up_ne _ _ q, va_up_ne _ _ q, up2_n W0 k 24 j 24 _ (Or.inl q), up2_n Y k 18 j 18 _ (Or.inl q)]
      exact h3 j (by omega)
theorem ends_new {OU : Nat → Option Nat} {n : Nat} {v : Option Nat} (h : ∀ i o, i < n → OU i = some o → o < n) : ∀ (s : Nat) (o : Option Nat), (∀ x, o = some x → x < n) → endsN OU s o = true → endsN (va_up OU n v) s o = true := by
  intro s
  induction s with
  | zero => intro o _ he; cases o; rfl; cases he
  | succ s ih =>
    intro o ho he
    cases o with
    | none => rfl
    | some a =>
      have ha := ho a rfl
      show endsN (va_up OU n v) s (va_up OU n v a) = true
      rw [va_up_ne _ _ (by omega)]
      exact ih (OU a) (fun x hx => h a x ha hx) he
theorem REL.loop (h : REL n k X XS Z OU SL Y W0) (hn : n < 16) {p i d p1 i1 d1 : UInt64} (hp : dv p = dv p1) (hi : dv i = dv i1) (hd : dv d = dv d1) : REL (n + 1) k (va_up X n (xN p i d)) XS (va_up Z n (fun _ => 0)) (va_up OU n none) SL (up2 (up2 (up2 (up2 (up2 (up2 (up2 Y n 0 p1) n 1 i1) n 2 d1) n 10 4636737291354636288) n 3 4636737291354636288) n 11 13830554455654793216) n 12 4607182418800017408) (up2 W0 n 22 (-1)) := by
  obtain ⟨h1, h2, h3, h4, h5⟩ := h
  obtain ⟨z1, z2⟩ := h2 n (Nat.le_refl _) hn
  have hb : ∀ a o, a < n + 1 → va_up OU n none a = some o → o < n + 1 := fun a o ha ho => by
    by_cases q : a = n
    · subst q; rw [va_up_self] at ho; cases ho
    · rw [va_up_ne _ _ q] at ho; exact Nat.lt_succ_of_lt (h4 a o (by omega) ho)
  refine ⟨fun a ha => ?_, fun a h6 h7 => ?_, fun j hj => ?_, hb, fun a ha => ?_⟩
  · by_cases q : a = n
    · subst q
      rw [va_up_self, va_up_self, va_up_self]
      simp only [up2_r]
      refine ⟨fun j hj => ?_, (z2 20 (by decide) (by decide)).symm, (z2 21 (by decide) (by decide)).symm, rfl, Or.inl ⟨z2 25 (by decide) (by decide), rfl, rfl⟩, (z2 23 (by decide) (by decide)).symm, fun c => absurd (z2 23 (by decide) (by decide)) c⟩
      have zz := fun b hb => z1 b hb
      have cases13 : j = 0 ∨ j = 1 ∨ j = 2 ∨ j = 3 ∨ j = 4 ∨ j = 5 ∨ j = 6 ∨ j = 7 ∨ j = 8 ∨ j = 9 ∨ j = 10 ∨ j = 11 ∨ j = 12 := by omega
      rcases cases13 with rfl | rfl | rfl | rfl | rfl | rfl | rfl | rfl | rfl | rfl | rfl | rfl | rfl
      · exact hp
      · exact hi
      · exact hd
      · rfl
      · exact congrArg dv (zz 4 (by decide)).symm
      · exact congrArg dv (zz 5 (by decide)).symm
      · exact congrArg dv (zz 6 (by decide)).symm
      · exact congrArg dv (zz 7 (by decide)).symm
      · exact congrArg dv (zz 8 (by decide)).symm
      · exact congrArg dv (zz 9 (by decide)).symm
      · rfl
      · rfl
      · rfl
    · rw [va_up_ne _ _ q, va_up_ne _ _ q, va_up_ne _ _ q]
      simp only [up2_o _ _ _ _ q]
      exact h1 a (by omega)
  · have q : a ≠ n := by omega
    simp only [up2_o _ _ _ _ q]
    exact h2 a (by omega) h7
  · obtain ⟨g1, g2, g3⟩ := h3 j hj
    refine ⟨by omega, (up2_n W0 n 22 j 24 _ (Or.inr (by decide))).trans g2, ?_⟩
    simp only [up2, show ¬ (18 : Nat) = 12 from by decide, show ¬ (18 : Nat) = 11 from by decide, show ¬ (18 : Nat) = 3 from by decide, show ¬ (18 : Nat) = 10 from by decide, show ¬ (18 : Nat) = 2 from by decide, show ¬ (18 : Nat) = 1 from by decide, show ¬ (18 : Nat) = 0 from by decide, if_false]
    exact g3
  · by_cases q : a = n
    · subst q
      show endsN (va_up OU a none) 15 (va_up OU a none a) = true
      rw [va_up_self]; rfl
    · exact ends_new h4 16 (some a) (fun x hx => by cases hx; omega) (h5 a (by omega))
end G35
