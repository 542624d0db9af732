/-! the class's own methods over its world -/
theorem in16 {kx : Int32} (h1 : ¬ kx < 0) (h2 : kx < 16) : ∃ j : Nat, j < 16 ∧ kx = nI j := by
  obtain ⟨j, hj, rfl⟩ := nI_of h1
  exact ⟨j, (nI_ltI hj (by decide)).mp h2, rfl⟩
theorem nI_injL {i j : Nat} (hi : i < 16) (hj : j < 16) (h : nI i = nI j) : i = j := (nI_eq (by omega) (by omega)).mp h
theorem CI.loopX {G : GD} {c : Nat → Nat → Nat} {n k : Nat} {X : Nat → Nat → UInt64} {XS : Nat → UInt64} {Z : Nat → Nat → Int32} {OU : Nat → Option Nat} {SL : Nat → Nat} {L : List Nat} {f : Nat → va_E} (h : CI G c n k X XS Z OU SL L f) {i : Nat} (hi : i < n) (x : Nat → UInt64) (hx : ∀ j, 9 ≤ j → x j = X i j) : CI G c n k (va_up X i x) XS Z OU SL L (va_up f (c 0 i) (eLp x (Z i 0) (Z i 1) (c 1 i) (c 2 i) (c 3 i) (c 4 i) ((OU i).map (c 0)))) := by
  have h2 := CI.loop h hi x (Z i) (OU i) hx (fun _ _ => rfl) (fun o ho => h.2.2.2.2.2.2.2.1 i o hi ho)
  rwa [va_up_id rfl, va_up_id rfl] at h2
def limC (lo hi rt : DT) : Bool := (ordS lo hi 10000 && !qeq lo hi) && (!qle rt (dv 0) && inB rt (dv 0) (dv 4666723172467343360))
def safC (v : DT) : Bool := inB v (dv 13890095209322119168) (dv 4666723172467343360)
set_option maxHeartbeats 4000000 in
set_option maxRecDepth 100000 in
/-- findLoop(number) -/
theorem ct_X4_findLoop (l : Launch) (G : GD) (L : List Nat) (f : Nat → va_E) {c : Nat → Nat → Nat} {n k : Nat} {X : Nat → Nat → UInt64} {XS : Nat → UInt64} {Z : Nat → Nat → Int32} {OU : Nat → Option Nat} {SL : Nat → Nat} (hI : CI G c n k X XS Z OU SL L f) (kx : Int32) : Ctr l yX4_findLoop cX4_findLoop 2 (some (.object "LoopLaws$Loop")) R00 G [.ref (c 6 0), .int kx] L f (fun vv L1 f1 => L = L1 ∧ f = f1 ∧ ((vv = some .null ∧ ∀ i, i < n → ¬ kx = nI i) ∨ ∃ i, i < n ∧ kx = nI i ∧ vv = some (.ref (c 0 i)))) := by
  refine g_enter RX4 false (by decide) rfl (fun h => by cases h) (Nat.le_of_ble_eq_true rfl) (fun C hC => ?_)
  refine (show V C 2 L f 0 0 0 [(0, .ref (c 6 0)), (1, .int kx)] [] from ?_)
  refine g_iload_n hC dX4_findLoop_0 1 rfl ?_
  refine g_if_lt hC 13 dX4_findLoop_1 (by decide) (fun c1 => ?_) (fun c1 => ?_)
  · skip
    refine g_null hC dX4_findLoop_13 ?_
    refine g_goto hC 23 dX4_findLoop_14 (by decide) ?_
    exact g_aret hC (x := none) dX4_findLoop_23 rfl ⟨rfl, rfl, Or.inl ⟨rfl, fun i hi q => by rw [q] at c1; exact absurd c1 (nI_pos (by have := CI.n16 hI; omega))⟩⟩ (Nat.zero_le _) (Nat.zero_le _)
  · skip
    refine g_iload_n hC dX4_findLoop_4 1 rfl ?_
    refine g_aload_n hC dX4_findLoop_5 0 rfl ?_
    refine g_get hC (kf := 0) (TT := TX4) (N := 4) (Cn := RX4) dX4_findLoop_6 (CI.hm hI) (CI.h0 hI) rfl q_u4 (by decide) q_fl_X4_11 rfl rfl ?_
    refine g_alen hC 3 16 dX4_findLoop_9 (CI.lm hI) (CI.l0 hI) rfl (by decide) ?_
    refine g_icmp_lt hC 17 dX4_findLoop_10 (by decide) (fun c2 => ?_) (fun c2 => ?_)
    · skip
      refine g_aload_n hC dX4_findLoop_17 0 rfl ?_
      refine g_get hC (kf := 0) (TT := TX4) (N := 4) (Cn := RX4) dX4_findLoop_18 (CI.hm hI) (CI.h0 hI) rfl q_u4 (by decide) q_fl_X4_11 rfl rfl ?_
      refine g_iload_n hC dX4_findLoop_21 1 rfl ?_
      obtain ⟨j, hj, rfl⟩ := in16 c1 c2
      refine g_laload hC dX4_findLoop_22 (CI.lm hI) (CI.l0 hI) (vp_in_nI hj (by decide)) ?_
      rw [nI_clamp (by omega)]
      refine g_aret hC (x := rowN n (c 0) j) dX4_findLoop_23 rfl ⟨rfl, rfl, ?_⟩ (Nat.zero_le _) (Nat.zero_le _)
      by_cases q : j < n
      · exact Or.inr ⟨j, q, rfl, by simp only [rowN, if_pos q]; rfl⟩
      · refine Or.inl ⟨by simp only [rowN, if_neg q]; rfl, fun i hi q2 => q ?_⟩
        have := CI.n16 hI
        rw [nI_injL hj (by omega) q2]; exact hi
    · skip
      refine g_null hC dX4_findLoop_13 ?_
      refine g_goto hC 23 dX4_findLoop_14 (by decide) ?_
      exact g_aret hC (x := none) dX4_findLoop_23 rfl ⟨rfl, rfl, Or.inl ⟨rfl, fun i hi q => by rw [q] at c2; exact c2 (show nI i < nI 16 from (nI_ltI (by have := CI.n16 hI; omega) (by decide)).mpr (by have := CI.n16 hI; omega))⟩⟩ (Nat.zero_le _) (Nat.zero_le _)
set_option maxHeartbeats 4000000 in
set_option maxRecDepth 100000 in
/-- findSplit(number) -/
theorem ct_X4_findSplit (l : Launch) (G : GD) (L : List Nat) (f : Nat → va_E) {c : Nat → Nat → Nat} {n k : Nat} {X : Nat → Nat → UInt64} {XS : Nat → UInt64} {Z : Nat → Nat → Int32} {OU : Nat → Option Nat} {SL : Nat → Nat} (hI : CI G c n k X XS Z OU SL L f) (kx : Int32) : Ctr l yX4_findSplit cX4_findSplit 2 (some (.object "LoopLaws$Split")) R00 G [.ref (c 6 0), .int kx] L f (fun vv L1 f1 => L = L1 ∧ f = f1 ∧ ((vv = some .null ∧ ∀ i, i < k → ¬ kx = nI i) ∨ ∃ i, i < k ∧ kx = nI i ∧ vv = some (.ref (c 5 i)))) := by
  refine g_enter RX4 false (by decide) rfl (fun h => by cases h) (Nat.le_of_ble_eq_true rfl) (fun C hC => ?_)
  refine (show V C 2 L f 0 0 0 [(0, .ref (c 6 0)), (1, .int kx)] [] from ?_)
  refine g_iload_n hC dX4_findSplit_0 1 rfl ?_
  refine g_if_lt hC 13 dX4_findSplit_1 (by decide) (fun c1 => ?_) (fun c1 => ?_)
  · skip
    refine g_null hC dX4_findSplit_13 ?_
    refine g_goto hC 23 dX4_findSplit_14 (by decide) ?_
    exact g_aret hC (x := none) dX4_findSplit_23 rfl ⟨rfl, rfl, Or.inl ⟨rfl, fun i hi q => by rw [q] at c1; exact absurd c1 (nI_pos (by have := CI.k16 hI; omega))⟩⟩ (Nat.zero_le _) (Nat.zero_le _)
  · skip
    refine g_iload_n hC dX4_findSplit_4 1 rfl ?_
    refine g_aload_n hC dX4_findSplit_5 0 rfl ?_
    refine g_get hC (kf := 1) (TT := TX4) (N := 4) (Cn := RX4) dX4_findSplit_6 (CI.hm hI) (CI.h0 hI) rfl q_u4 (by decide) q_fl_X4_17 rfl rfl ?_
    refine g_alen hC 4 16 dX4_findSplit_9 (CI.sm hI) (CI.s0 hI) rfl (by decide) ?_
    refine g_icmp_lt hC 17 dX4_findSplit_10 (by decide) (fun c2 => ?_) (fun c2 => ?_)
    · skip
      refine g_aload_n hC dX4_findSplit_17 0 rfl ?_
      refine g_get hC (kf := 1) (TT := TX4) (N := 4) (Cn := RX4) dX4_findSplit_18 (CI.hm hI) (CI.h0 hI) rfl q_u4 (by decide) q_fl_X4_17 rfl rfl ?_
      refine g_iload_n hC dX4_findSplit_21 1 rfl ?_
      obtain ⟨j, hj, rfl⟩ := in16 c1 c2
      refine g_paload hC dX4_findSplit_22 (CI.sm hI) (CI.s0 hI) (vp_in_nI hj (by decide)) ?_
      rw [nI_clamp (by omega)]
      refine g_aret hC (x := rowN k (c 5) j) dX4_findSplit_23 rfl ⟨rfl, rfl, ?_⟩ (Nat.zero_le _) (Nat.zero_le _)
      by_cases q : j < k
      · exact Or.inr ⟨j, q, rfl, by simp only [rowN, if_pos q]; rfl⟩
      · refine Or.inl ⟨by simp only [rowN, if_neg q]; rfl, fun i hi q2 => q ?_⟩
        have := CI.k16 hI
        rw [nI_injL hj (by omega) q2]; exact hi
    · skip
      refine g_null hC dX4_findSplit_13 ?_
      refine g_goto hC 23 dX4_findSplit_14 (by decide) ?_
      exact g_aret hC (x := none) dX4_findSplit_23 rfl ⟨rfl, rfl, Or.inl ⟨rfl, fun i hi q => by rw [q] at c2; exact c2 (show nI i < nI 16 from (nI_ltI (by have := CI.k16 hI; omega) (by decide)).mpr (by have := CI.k16 hI; omega))⟩⟩ (Nat.zero_le _) (Nat.zero_le _)
