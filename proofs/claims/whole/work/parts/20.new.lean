/-! new loops and splits in the class's world -/
def xN (p i d : UInt64) : Nat → UInt64 := fun j => if j < 9 then xI p i d j else if j = 10 then 4636737291354636288 else if j = 11 then 13830554455654793216 else if j = 12 then 4607182418800017408 else if j = 13 then 13920209183539462144 else if j = 14 then 4696837146684686336 else 0
theorem CI.frame {G : GD} {c : Nat → Nat → Nat} {n k : Nat} {X : Nat → Nat → UInt64} {XS : Nat → UInt64} {Z : Nat → Nat → Int32} {OU : Nat → Option Nat} {SL : Nat → Nat} {L L1 : List Nat} {f f1 : Nat → va_E} (h : CI G c n k X XS Z OU SL L f) (hL : ∀ a, a ∈ L → a ∈ L1) (hf : FRm L f f1) : CI G c n k X XS Z OU SL L1 f1 := by
  obtain ⟨hn, ⟨a1, b1⟩, ⟨a2, b2⟩, ⟨a3, b3⟩, hne, hl, hs, ho, hj⟩ := h
  have g : ∀ {a : Nat} {e : va_E}, a ∈ L → f a = e → isM e = false → f1 a = e := fun ha he hm => (hf _ ha (by rw [he]; exact hm)).trans he
  refine ⟨hn, ⟨hL _ a1, g a1 b1 rfl⟩, ⟨hL _ a2, g a2 b2 rfl⟩, ⟨hL _ a3, g a3 b3 rfl⟩, hne, fun i hi => ?_, fun j hj1 => ⟨hL _ (hs j hj1).1, g (hs j hj1).1 (hs j hj1).2.1 rfl, (hs j hj1).2.2⟩, ho, hj⟩
  obtain ⟨⟨m0, p0⟩, ⟨m1, p1⟩, ⟨m2, p2⟩, ⟨m3, p3⟩, ⟨m4, p4⟩⟩ := hl i hi
  exact ⟨⟨hL _ m0, g m0 p0 rfl⟩, ⟨hL _ m1, g m1 p1 rfl⟩, ⟨hL _ m2, g m2 p2 rfl⟩, ⟨hL _ m3, g m3 p3 rfl⟩, ⟨hL _ m4, g m4 p4 rfl⟩⟩
def cN (c : Nat → Nat → Nat) (n : Nat) (qs : Nat → Nat) : Nat → Nat → Nat := fun t i => if t < 5 ∧ i = n then qs t else c t i
theorem cN_o {c : Nat → Nat → Nat} {n : Nat} {qs : Nat → Nat} {t i : Nat} (h : i < n) : cN c n qs t i = c t i := by
  unfold cN; rw [if_neg (fun q => by omega)]
theorem cN_5 {c : Nat → Nat → Nat} {n : Nat} {qs : Nat → Nat} {t i : Nat} (h : 5 ≤ t) : cN c n qs t i = c t i := by
  unfold cN; rw [if_neg (fun q => by omega)]
theorem cN_n {c : Nat → Nat → Nat} {n : Nat} {qs : Nat → Nat} {t : Nat} (h : t < 5) : cN c n qs t n = qs t := by
  unfold cN; rw [if_pos ⟨h, rfl⟩]
theorem rowN_N {c : Nat → Nat → Nat} {n : Nat} {qs : Nat → Nat} : va_up (rowN n (c 0)) n (some (qs 0)) = rowN (n + 1) (cN c n qs 0) := by
  funext j
  by_cases h : j = n
  · subst h
    rw [va_up_self]; unfold rowN; rw [if_pos (by omega), cN_n (by decide)]
  · rw [va_up_ne _ _ h]
    unfold rowN
    by_cases h2 : j < n
    · rw [if_pos h2, if_pos (by omega), cN_o h2]
    · rw [if_neg h2, if_neg (by omega)]
theorem CI.newloop {G : GD} {c : Nat → Nat → Nat} {n k : Nat} {X : Nat → Nat → UInt64} {XS : Nat → UInt64} {Z : Nat → Nat → Int32} {OU : Nat → Option Nat} {SL : Nat → Nat} {L L1 : List Nat} {f f1 : Nat → va_E} (h : CI G c n k X XS Z OU SL L f) (hn : n < 16) (qs : Nat → Nat) (p i d : UInt64) (hL : ∀ a, a ∈ L → a ∈ L1) (hq : ∀ t, t < 5 → qs t ∉ L ∧ qs t ∈ L1) (hqj : ∀ t t1, t < 5 → t1 < 5 → qs t = qs t1 → t = t1)
    (h0 : f1 (c 6 0) = eLw (c 6 1) (c 6 2) (n + 1) k) (h1 : f1 (c 6 1) = aRf G.2.2.2.2.1 (va_up (rowN n (c 0)) n (some (qs 0)))) (hf : ∀ b, b ∈ L → b ≠ c 6 0 → b ≠ c 6 1 → f1 b = f b)
    (e0 : f1 (qs 0) = eLp (xI p i d) 0 0 (qs 1) (qs 2) (qs 3) (qs 4) none) (e1 : f1 (qs 1) = eSp 0 4636737291354636288) (e2 : f1 (qs 2) = eSp 13830554455654793216 4607182418800017408) (e3 : f1 (qs 3) = eSp 13920209183539462144 4696837146684686336) (e4 : f1 (qs 4) = eTn 0 0 0 0 0 0 0) :
    CI G (cN c n qs) (n + 1) k (va_up X n (xN p i d)) XS (va_up Z n (fun _ => 0)) (va_up OU n none) SL L1 f1 := by
  obtain ⟨hn0, ⟨a1, b1⟩, ⟨a2, b2⟩, ⟨a3, b3⟩, hne, hl, hs, ho, hj⟩ := h
  have g : ∀ {a : Nat} {e : va_E}, a ∈ L → f a = e → (∀ la sa x y, e ≠ eLw la sa x y) → (∀ cA r, e ≠ aRf cA r) → f1 a = e := fun {a e} ha he x1 x2 => (hf a ha (fun z => x1 _ _ _ _ (he.symm.trans ((congrArg f z).trans b1))) (fun z => x2 _ _ (he.symm.trans ((congrArg f z).trans b2)))).trans he
  refine ⟨⟨by omega, hn0.2⟩, ?_, ?_, ?_, by rw [cN_5 (by decide), cN_5 (by decide)]; exact hne, fun j hj1 => ?_, fun j hj1 => ?_, ?_, ?_⟩
  · rw [cN_5 (by decide), cN_5 (by decide), cN_5 (by decide)]; exact ⟨hL _ a1, h0⟩
  · rw [cN_5 (by decide), ← rowN_N]; exact ⟨hL _ a2, h1⟩
  · rw [cN_5 (by decide)]
    refine ⟨hL _ a3, ?_⟩
    have hr : cN c n qs 5 = c 5 := funext fun j => cN_5 (by decide)
    rw [hr]
    exact (hf _ a3 (fun z => by rw [z, b1] at b3; cases b3) (fun z => hne z.symm)).trans b3
  · rcases Nat.lt_or_ge j n with q | q
    · obtain ⟨⟨m0, p0⟩, ⟨m1, p1⟩, ⟨m2, p2⟩, ⟨m3, p3⟩, ⟨m4, p4⟩⟩ := hl j q
      have q1 : j ≠ n := by omega
      simp only [CIl, cN_o q, va_up_ne _ _ q1]
      have ho2 : (OU j).map (cN c n qs 0) = (OU j).map (c 0) := by
        cases hoo : OU j with
        | none => rfl
        | some o => simp only [Option.map]; rw [cN_o (ho j o q hoo)]
      rw [ho2]
      exact ⟨⟨hL _ m0, g m0 p0 (fun _ _ _ _ z => by cases z) (fun _ _ z => by cases z)⟩, ⟨hL _ m1, g m1 p1 (fun _ _ _ _ z => by cases z) (fun _ _ z => by cases z)⟩, ⟨hL _ m2, g m2 p2 (fun _ _ _ _ z => by cases z) (fun _ _ z => by cases z)⟩, ⟨hL _ m3, g m3 p3 (fun _ _ _ _ z => by cases z) (fun _ _ z => by cases z)⟩, ⟨hL _ m4, g m4 p4 (fun _ _ _ _ z => by cases z) (fun _ _ z => by cases z)⟩⟩
    · have q1 : j = n := by omega
      subst q1
      simp only [CIl, va_up_self]
      rw [cN_n (t := 0) (by decide), cN_n (t := 1) (by decide), cN_n (t := 2) (by decide), cN_n (t := 3) (by decide), cN_n (t := 4) (by decide)]
      exact ⟨⟨(hq 0 (by decide)).2, e0⟩, ⟨(hq 1 (by decide)).2, e1⟩, ⟨(hq 2 (by decide)).2, e2⟩, ⟨(hq 3 (by decide)).2, e3⟩, ⟨(hq 4 (by decide)).2, e4⟩⟩
  · obtain ⟨m, q, r⟩ := hs j hj1
    rw [cN_5 (by decide), cN_o r]
    exact ⟨hL _ m, g m q (fun _ _ _ _ z => by cases z) (fun _ _ z => by cases z), by omega⟩
  · intro j o hj1 he
    by_cases q : j = n
    · subst q; rw [va_up_self] at he; cases he
    · rw [va_up_ne _ _ q] at he
      have := ho j o (by omega) he
      omega
  · intro t t1 j j1 ht ht1 hj1 hj2 he
    by_cases q : j = n
    · by_cases q1 : j1 = n
      · subst q; subst q1
        rw [cN_n ht, cN_n ht1] at he
        exact ⟨hqj t t1 ht ht1 he, rfl⟩
      · subst q
        rw [cN_n ht, cN_o (by omega)] at he
        exfalso
        have hm : c t1 j1 ∈ L := by
          obtain ⟨⟨m0, -⟩, ⟨m1, -⟩, ⟨m2, -⟩, ⟨m3, -⟩, ⟨m4, -⟩⟩ := hl j1 (by omega)
          rcases (by omega : t1 = 0 ∨ t1 = 1 ∨ t1 = 2 ∨ t1 = 3 ∨ t1 = 4) with rfl | rfl | rfl | rfl | rfl <;> assumption
        exact (hq t ht).1 (he ▸ hm)
    · by_cases q1 : j1 = n
      · subst q1
        rw [cN_n ht1, cN_o (by omega)] at he
        exfalso
        have hm : c t j ∈ L := by
          obtain ⟨⟨m0, -⟩, ⟨m1, -⟩, ⟨m2, -⟩, ⟨m3, -⟩, ⟨m4, -⟩⟩ := hl j (by omega)
          rcases (by omega : t = 0 ∨ t = 1 ∨ t = 2 ∨ t = 3 ∨ t = 4) with rfl | rfl | rfl | rfl | rfl <;> assumption
        exact (hq t1 ht1).1 (he ▸ hm)
      · rw [cN_o (by omega), cN_o (by omega)] at he
        exact hj t t1 j j1 ht ht1 (by omega) (by omega) he
def cS (c : Nat → Nat → Nat) (k q : Nat) : Nat → Nat → Nat := fun t i => if t = 5 ∧ i = k then q else c t i
theorem cS_n5 {c : Nat → Nat → Nat} {k q t i : Nat} (h : t ≠ 5) : cS c k q t i = c t i := by
  unfold cS; rw [if_neg (fun z => h z.1)]
theorem cS_o {c : Nat → Nat → Nat} {k q i : Nat} (h : i ≠ k) : cS c k q 5 i = c 5 i := by
  unfold cS; rw [if_neg (fun z => h z.2)]
theorem cS_k {c : Nat → Nat → Nat} {k q : Nat} : cS c k q 5 k = q := by
  unfold cS; rw [if_pos ⟨rfl, rfl⟩]
theorem rowN_S {c : Nat → Nat → Nat} {k q : Nat} : va_up (rowN k (c 5)) k (some q) = rowN (k + 1) (cS c k q 5) := by
  funext j
  by_cases h : j = k
  · subst h
    rw [va_up_self]; unfold rowN; rw [if_pos (by omega), cS_k]
  · rw [va_up_ne _ _ h]
    unfold rowN
    by_cases h2 : j < k
    · rw [if_pos h2, if_pos (by omega), cS_o h]
    · rw [if_neg h2, if_neg (by omega)]
theorem CI.newsplit {G : GD} {c : Nat → Nat → Nat} {n k : Nat} {X : Nat → Nat → UInt64} {XS : Nat → UInt64} {Z : Nat → Nat → Int32} {OU : Nat → Option Nat} {SL : Nat → Nat} {L L1 : List Nat} {f f1 : Nat → va_E} (h : CI G c n k X XS Z OU SL L f) (hk : k < 16) (q i : Nat) (hi : i < n) (at0 : UInt64) (hL : ∀ a, a ∈ L → a ∈ L1) (hq : q ∈ L1)
    (h0 : f1 (c 6 0) = eLw (c 6 1) (c 6 2) n (k + 1)) (h1 : f1 (c 6 2) = aRf G.2.2.2.2.2 (va_up (rowN k (c 5)) k (some q))) (hf : ∀ b, b ∈ L → b ≠ c 6 0 → b ≠ c 6 2 → f1 b = f b) (e0 : f1 q = eSt (c 0 i) at0) :
    CI G (cS c k q) n (k + 1) X (va_up XS k at0) Z OU (va_up SL k i) L1 f1 := by
  obtain ⟨hn0, ⟨a1, b1⟩, ⟨a2, b2⟩, ⟨a3, b3⟩, hne, hl, hs, ho, hj⟩ := h
  have g : ∀ {a : Nat} {e : va_E}, a ∈ L → f a = e → (∀ la sa x y, e ≠ eLw la sa x y) → (∀ cA r, e ≠ aRf cA r) → f1 a = e := fun {a e} ha he x1 x2 => (hf a ha (fun z => x1 _ _ _ _ (he.symm.trans ((congrArg f z).trans b1))) (fun z => x2 _ _ (he.symm.trans ((congrArg f z).trans b3)))).trans he
  have n0 : ∀ i, cS c k q 0 i = c 0 i := fun i => cS_n5 (by decide)
  have n1 : ∀ i, cS c k q 1 i = c 1 i := fun i => cS_n5 (by decide)
  have n2 : ∀ i, cS c k q 2 i = c 2 i := fun i => cS_n5 (by decide)
  have n3 : ∀ i, cS c k q 3 i = c 3 i := fun i => cS_n5 (by decide)
  have n4 : ∀ i, cS c k q 4 i = c 4 i := fun i => cS_n5 (by decide)
  have n6 : ∀ i, cS c k q 6 i = c 6 i := fun i => cS_n5 (by decide)
  have m0 : cS c k q 0 = c 0 := funext n0
  refine ⟨⟨hn0.1, by omega⟩, ?_, ?_, ?_, by rw [n6, n6]; exact hne, fun j hj1 => ?_, fun j hj1 => ?_, ho, ?_⟩
  · rw [n6, n6, n6]; exact ⟨hL _ a1, h0⟩
  · rw [n6, m0]; exact ⟨hL _ a2, (hf _ a2 (fun z => by rw [z, b1] at b2; cases b2) hne).trans b2⟩
  · rw [n6, ← rowN_S]; exact ⟨hL _ a3, h1⟩
  · obtain ⟨⟨m0, p0⟩, ⟨m1, p1⟩, ⟨m2, p2⟩, ⟨m3, p3⟩, ⟨m4, p4⟩⟩ := hl j hj1
    have mm : cS c k q 0 = c 0 := funext n0
    simp only [CIl, n0, n1, n2, n3, n4, mm]
    exact ⟨⟨hL _ m0, g m0 p0 (fun _ _ _ _ z => by cases z) (fun _ _ z => by cases z)⟩, ⟨hL _ m1, g m1 p1 (fun _ _ _ _ z => by cases z) (fun _ _ z => by cases z)⟩, ⟨hL _ m2, g m2 p2 (fun _ _ _ _ z => by cases z) (fun _ _ z => by cases z)⟩, ⟨hL _ m3, g m3 p3 (fun _ _ _ _ z => by cases z) (fun _ _ z => by cases z)⟩, ⟨hL _ m4, g m4 p4 (fun _ _ _ _ z => by cases z) (fun _ _ z => by cases z)⟩⟩
  · by_cases z : j = k
    · subst z
      rw [cS_k, va_up_self, va_up_self, n0]
      exact ⟨hq, e0, hi⟩
    · obtain ⟨m, p, r⟩ := hs j (by omega)
      rw [cS_o z, va_up_ne _ _ z, va_up_ne _ _ z, n0]
      exact ⟨hL _ m, g m p (fun _ _ _ _ z => by cases z) (fun _ _ z => by cases z), r⟩
  · intro t t1 j j1 ht ht1 hj1 hj2 he
    rw [cS_n5 (by omega), cS_n5 (by omega)] at he
    exact hj t t1 j j1 ht ht1 hj1 hj2 he
def cI (h0 la sa : Nat) : Nat → Nat → Nat := fun t i => if t = 6 then (if i = 0 then h0 else if i = 1 then la else sa) else 0
theorem CI.init {G : GD} {X : Nat → Nat → UInt64} {XS : Nat → UInt64} {Z : Nat → Nat → Int32} {OU : Nat → Option Nat} {SL : Nat → Nat} {L : List Nat} {f : Nat → va_E} {h0 la sa : Nat} (m0 : h0 ∈ L) (m1 : la ∈ L) (m2 : sa ∈ L) (hne : la ≠ sa) (e0 : f h0 = .inr (4, [.ref la, .ref sa, .int 0, .int 0])) (e1 : f la = aRf G.2.2.2.2.1 (fun _ => none)) (e2 : f sa = aRf G.2.2.2.2.2 (fun _ => none)) : CI G (cI h0 la sa) 0 0 X XS Z OU SL L f := by
  have r : ∀ g : Nat → Nat, rowN 0 g = fun _ => none := fun g => funext fun j => by simp [rowN]
  refine ⟨⟨by decide, by decide⟩, ⟨m0, ?_⟩, ⟨m1, ?_⟩, ⟨m2, ?_⟩, hne, fun i hi => absurd hi (Nat.not_lt_zero i), fun i hi => absurd hi (Nat.not_lt_zero i), fun i _ hi => absurd hi (Nat.not_lt_zero i), fun _ _ i _ _ _ hi => absurd hi (Nat.not_lt_zero i)⟩
  · exact e0
  · rw [r]; exact e1
  · rw [r]; exact e2
