/-! two tunings from other least and greatest levels; no NaN in a swing -/
theorem tStep_eq (t : Int32) (z : TS) : tStep t z = (tLe z, tRl z, tSw t z, tLr t z, tMn t z, tMx t z, tPe t z) := rfl
theorem nI_zp {s : Nat} (h : s ≠ 0) (hs : s < 2 ^ 31) : ¬ nI s ≤ 0 := fun q => h (nI_z hs q)
theorem tRun_two (m1 m2 : DT) : ∀ j, j ≤ 10000 → ∃ (le : DT) (rl : Int32) (s : Nat) (lr pe : Int32) (mn mx mn1 mx1 : DT), tRun (dv 0, 0, 0, 0, m1, m2, 0) j = (le, rl, nI s, lr, mn, mx, pe) ∧ tRun tZ0 j = (le, rl, nI s, lr, mn1, mx1, pe) ∧ s ≤ j ∧ ((s = 0 ∧ pe = 0) ∨ (s ≠ 0 ∧ mn = mn1 ∧ mx = mx1)) := by
  intro j
  induction j with
  | zero => intro _; exact ⟨dv 0, 0, 0, 0, 0, m1, m2, dv 0, dv 0, rfl, rfl, Nat.le_refl _, Or.inl ⟨rfl, rfl⟩⟩
  | succ j ih =>
    intro hj
    obtain ⟨le, rl, s, lr, pe, mn, mx, mn1, mx1, hz, hw, hs, hc⟩ := ih (by omega)
    have hz1 : tRun (dv 0, 0, 0, 0, m1, m2, 0) (j + 1) = tStep (nI j) (le, rl, nI s, lr, mn, mx, pe) := by rw [← hz]; rfl
    have hw1 : tRun tZ0 (j + 1) = tStep (nI j) (le, rl, nI s, lr, mn1, mx1, pe) := by rw [← hw]; rfl
    rcases hi : tIs (nI j) (le, rl, nI s, lr, mn, mx, pe) with _ | _
    · have e1 : nI s = tSw (nI j) (le, rl, nI s, lr, mn, mx, pe) := tSw_f rfl hi
      have e2 : nI s = tSw (nI j) (le, rl, nI s, lr, mn1, mx1, pe) := tSw_f rfl hi
      have r1 : tRise (nI j) (le, rl, nI s, lr, mn, mx, pe) = false := by unfold tRise; rw [hi]; rfl
      have p1 : tPe (nI j) (le, rl, nI s, lr, mn, mx, pe) = pe := by unfold tPe; rw [r1]; rfl
      refine ⟨tLe (le, rl, nI s, lr, mn, mx, pe), tRl (le, rl, nI s, lr, mn, mx, pe), s, tLr (nI j) (le, rl, nI s, lr, mn, mx, pe), pe, tMn (nI j) (le, rl, nI s, lr, mn, mx, pe), tMx (nI j) (le, rl, nI s, lr, mn, mx, pe), tMn (nI j) (le, rl, nI s, lr, mn1, mx1, pe), tMx (nI j) (le, rl, nI s, lr, mn1, mx1, pe), ?_, ?_, by omega, ?_⟩
      · rw [hz1, tStep_eq, ← e1, p1]
      · rw [hw1, tStep_eq, ← e2]; exact tup7 rfl rfl rfl rfl rfl rfl p1
      · rcases hc with ⟨rfl, rfl⟩ | ⟨h0, rfl, rfl⟩
        · exact Or.inl ⟨rfl, rfl⟩
        · exact Or.inr ⟨h0, rfl, rfl⟩
    · have e1 : nI (s + 1) = tSw (nI j) (le, rl, nI s, lr, mn, mx, pe) := tSw_t rfl hi
      have e2 : nI (s + 1) = tSw (nI j) (le, rl, nI s, lr, mn1, mx1, pe) := tSw_t rfl hi
      refine ⟨tLe (le, rl, nI s, lr, mn, mx, pe), tRl (le, rl, nI s, lr, mn, mx, pe), s + 1, tLr (nI j) (le, rl, nI s, lr, mn, mx, pe), tPe (nI j) (le, rl, nI s, lr, mn, mx, pe), tMn (nI j) (le, rl, nI s, lr, mn, mx, pe), tMx (nI j) (le, rl, nI s, lr, mn, mx, pe), tMn (nI j) (le, rl, nI s, lr, mn1, mx1, pe), tMx (nI j) (le, rl, nI s, lr, mn1, mx1, pe), ?_, ?_, by omega, ?_⟩
      · rw [hz1, tStep_eq, ← e1]
      · rw [hw1, tStep_eq, ← e2]; exact tup7 rfl rfl rfl rfl rfl rfl rfl
      · refine Or.inr ⟨by omega, ?_⟩
        rcases hc with ⟨rfl, rfl⟩ | ⟨h0, rfl, rfl⟩
        · have n1 : ¬ tSw (nI j) (le, rl, nI 0, lr, mn, mx, 0) ≤ 0 := by rw [← e1]; exact nI_zp (by decide) (by decide)
          have n2 : ¬ tSw (nI j) (le, rl, nI 0, lr, mn1, mx1, 0) ≤ 0 := by rw [← e2]; exact nI_zp (by decide) (by decide)
          have f1 : tFi (nI j) (le, rl, nI 0, lr, mn, mx, 0) = true := by unfold tFi; rw [hi, ← e1]; rfl
          have f2 : tFi (nI j) (le, rl, nI 0, lr, mn1, mx1, 0) = true := f1
          exact ⟨(tMn_b n1 (by rw [f1]; rfl)).trans (tMn_b n2 (by rw [f2]; rfl)).symm, (tMx_b n1 (by rw [f1]; rfl)).trans (tMx_b n2 (by rw [f2]; rfl)).symm⟩
        · exact ⟨rfl, rfl⟩
theorem tPj_step {t : Int32} {z : TS} {s : Nat} (hz : z.2.2.1 = nI s) (h0 : s ≠ 0) (hs : s ≤ 10000) : tPj (tStep t z) = tRs (tPj z) ∧ ∃ s1, s1 ≠ 0 ∧ s1 ≤ s + 1 ∧ (tStep t z).2.2.1 = nI s1 := by
  rcases hi : tIs t z with _ | _
  · have e1 : nI s = tSw t z := tSw_f hz hi
    have n1 : ¬ tSw t z ≤ 0 := by rw [← e1]; exact nI_zp h0 (by omega)
    have f1 : tFi t z = false := by unfold tFi; rw [hi]; rfl
    refine ⟨?_, s, h0, by omega, e1.symm⟩
    show (tLe z, tRl z, tMn t z, tMx t z) = _
    unfold tMn tMx
    rw [if_neg n1, if_neg n1, f1, Bool.false_or, Bool.false_or]
    rfl
  · have e1 : nI (s + 1) = tSw t z := tSw_t hz hi
    have n1 : ¬ tSw t z ≤ 0 := by rw [← e1]; exact nI_zp (by omega) (by omega)
    have f1 : tFi t z = false := by unfold tFi; rw [hi, ← e1]; exact decide_eq_false (fun q => absurd ((nI_eq (b := 1) (by omega) (by decide)).mp q) (by omega))
    refine ⟨?_, s + 1, by omega, by omega, e1.symm⟩
    show (tLe z, tRl z, tMn t z, tMx t z) = _
    unfold tMn tMx
    rw [if_neg n1, if_neg n1, f1, Bool.false_or, Bool.false_or]
    rfl
theorem orb_all : ∀ m, m + 16 ≤ 10000 → ∃ i, i < 515 ∧ tPj (tRun tZ0 (16 + m)) = orbC i ∧ ∃ s, s ≠ 0 ∧ s ≤ 1 + m ∧ (tRun tZ0 (16 + m)).2.2.1 = nI s := by
  intro m
  induction m with
  | zero => intro _; exact ⟨0, by decide, orb_start.1, 1, by decide, by decide, orb_start.2⟩
  | succ m ih =>
    intro hm
    obtain ⟨i, hi, h1, s, h0, hs, h2⟩ := ih (by omega)
    have hr : tRun tZ0 (16 + (m + 1)) = tStep (nI (16 + m)) (tRun tZ0 (16 + m)) := rfl
    obtain ⟨g1, s1, g2, g3, g4⟩ := tPj_step (t := nI (16 + m)) h2 h0 (by omega)
    exact ⟨orbN i, orbN_lt hi, by rw [hr, g1, h1]; exact (orb_ok hi).1, s1, g2, by omega, by rw [hr]; exact g4⟩
theorem orb_early : ((List.range 16).all (fun j => decide ((tRun tZ0 j).2.2.2.2.2.2 = 0))) = true := by decide +kernel
theorem tune_ok {j : Nat} (hj : j ≤ 10000) (hp : (tRun tZ0 j).2.2.2.2.2.2 ≠ 0) : isN (tgA (tRun tZ0 j).2.2.2.2.1 (tRun tZ0 j).2.2.2.2.2.1) = false := by
  rcases Nat.lt_or_ge j 16 with h | h
  · exact absurd (of_decide_eq_true (List.all_eq_true.mp orb_early j (List.mem_range.mpr h))) hp
  · obtain ⟨i, hi, h1, -⟩ := orb_all (j - 16) (by omega)
    rw [show 16 + (j - 16) = j by omega] at h1
    have h2 : (tRun tZ0 j).2.2.2.2.1 = (orbC i).2.2.1 := by rw [← h1]; rfl
    have h3 : (tRun tZ0 j).2.2.2.2.2.1 = (orbC i).2.2.2 := by rw [← h1]; rfl
    rw [h2, h3]
    exact (orb_ok hi).2
theorem tgA_ok (mn mx : DT) : okD (tgA mn mx) := dv_ok _
theorem tg_same {mn mx : DT} {pe : Int32} (k : Int32) (h : pe ≠ 0 → isN (tgA mn mx) = false) : tgM mn mx pe k = tgS mn mx pe k := by
  have hz : okD (dv 0) := dv_ok 0
  have hzn : isN (dv 0) = false := by decide +kernel
  unfold tgM tgS
  by_cases hp : pe = 0
  · rw [if_pos hp, if_pos hp]
    split
    · rfl
    · split <;> rfl
  · have hn := h hp
    rw [if_neg hp, if_neg hp]
    have hq : qle (tgA mn mx) (dv 0) = !qgt (tgA mn mx) (dv 0) := by
      rw [qle_k (tgA_ok _ _) hz, qgt_k (tgA_ok _ _) hz, hn, hzn]
      by_cases c : kE (tgA mn mx) ≤ kE (dv 0)
      · have c2 : ¬ kE (dv 0) < kE (tgA mn mx) := by omega
        simp [c, c2]
      · have c2 : kE (dv 0) < kE (tgA mn mx) := by omega
        simp [c, c2]
    rw [hq]
    unfold tgV
    have z1 : ¬ (1 : Int32) = 0 := by decide
    have z2 : ¬ (2 : Int32) = 0 := by decide
    have z3 : ¬ (2 : Int32) = 1 := by decide
    have a0 : ¬ (0 : Int32) < 0 := by decide
    have a1 : ¬ (1 : Int32) < 0 := by decide
    have a2 : ¬ (2 : Int32) < 0 := by decide
    have b0 : ¬ (2 : Int32) < 0 := by decide
    have b1 : ¬ (2 : Int32) < 1 := by decide
    have b2 : ¬ (2 : Int32) < 2 := by decide
    rcases qgt (tgA mn mx) (dv 0) with _ | _
    · rcases sw3 k with rfl | rfl | rfl | c
      · rfl
      · rfl
      · rfl
      · simp
    · rcases sw3 k with rfl | rfl | rfl | c
      · rfl
      · rfl
      · rfl
      · have k0 : ¬ k = 0 := fun q => by rw [q] at c; revert c; decide
        have k1 : ¬ k = 1 := fun q => by rw [q] at c; revert c; decide
        have k2 : ¬ k = 2 := fun q => by rw [q] at c; revert c; decide
        rw [if_neg k0, if_neg k1, if_neg k2]
        rcases c with c | c
        · rw [if_pos (Int32.lt_iff_toInt_lt.mpr c)]; simp [k0, k1]
        · by_cases d : k < 0
          · rw [if_pos d]; simp [k0, k1]
          · rw [if_neg d, if_pos (show (2 : Int32) < k from Int32.lt_iff_toInt_lt.mpr (show (2 : Int32).toInt < k.toInt from c))]; simp [k0, k1]
