/-! the world of the two objects: CI (the class's cells), MI (the model's cells) -/
def isM (e : va_E) : Bool := match e with
  | .inr (5, _) => true
  | .inl (_, _, .inl _) => true
  | .inl (_, _, .inr (.inr (.inr (.inl _)))) => true
  | _ => false
def FRc (L : List Nat) (f f1 : Nat → va_E) : Prop := ∀ a : Nat, a ∈ L → isM (f a) = true → f1 a = f a
def FRm (L : List Nat) (f f1 : Nat → va_E) : Prop := ∀ a : Nat, a ∈ L → isM (f a) = false → f1 a = f a
theorem FRc.rf {L : List Nat} {f : Nat → va_E} : FRc L f f := fun _ _ _ => rfl
theorem FRm.rf {L : List Nat} {f : Nat → va_E} : FRm L f f := fun _ _ _ => rfl
theorem FRc.up {L : List Nat} {f f1 : Nat → va_E} {a : Nat} {e0 : va_E} (e : va_E) (h : FRc L f f1) (h0 : f1 a = e0) (hm : isM e0 = false) : FRc L f (va_up f1 a e) := by
  intro b hb hm1
  have h1 := h b hb hm1
  rw [va_up_ne _ _ (fun z => by subst z; rw [← h1, h0, hm] at hm1; cases hm1)]
  exact h1
theorem FRm.up {L : List Nat} {f f1 : Nat → va_E} {a : Nat} {e0 : va_E} (e : va_E) (h : FRm L f f1) (h0 : f1 a = e0) (hm : isM e0 = true) : FRm L f (va_up f1 a e) := by
  intro b hb hm1
  have h1 := h b hb hm1
  rw [va_up_ne _ _ (fun z => by subst z; rw [← h1, h0, hm] at hm1; cases hm1)]
  exact h1
theorem FRm.trans {L : List Nat} {f f1 f2 : Nat → va_E} (h : FRm L f f1) (h2 : FRm L f1 f2) : FRm L f f2 := fun a ha hm => by
  have h1 := h a ha hm
  rw [h2 a ha (by rw [h1]; exact hm), h1]
theorem FRc.trans {L : List Nat} {f f1 f2 : Nat → va_E} (h : FRc L f f1) (h2 : FRc L f1 f2) : FRc L f f2 := fun a ha hm => by
  have h1 := h a ha hm
  rw [h2 a ha (by rw [h1]; exact hm), h1]
abbrev aRf (cA : ClassId) (r : Nat → Option Nat) : va_E := .inl (cA, 16, .inr (.inr (.inr (.inr r))))
abbrev aDb (cA : ClassId) (r : Nat → UInt64) : va_E := .inl (cA, 16, .inr (.inr (.inr (.inl r))))
abbrev aIn (cA : ClassId) (r : Nat → Int32) : va_E := .inl (cA, 16, .inl r)
def rowN (n : Nat) (g : Nat → Nat) : Nat → Option Nat := fun j => if j < n then some (g j) else none
abbrev eLw (la sa n k : Nat) : va_E := .inr (4, [.ref la, .ref sa, .int (nI n), .int (nI k)])
def CIl (c : Nat → Nat → Nat) (X : Nat → Nat → UInt64) (Z : Nat → Nat → Int32) (OU : Nat → Option Nat) (L : List Nat) (f : Nat → va_E) (i : Nat) : Prop :=
  (c 0 i ∈ L ∧ f (c 0 i) = eLp (X i) (Z i 0) (Z i 1) (c 1 i) (c 2 i) (c 3 i) (c 4 i) ((OU i).map (c 0))) ∧ (c 1 i ∈ L ∧ f (c 1 i) = eSp (X i 9) (X i 10)) ∧ (c 2 i ∈ L ∧ f (c 2 i) = eSp (X i 11) (X i 12)) ∧ (c 3 i ∈ L ∧ f (c 3 i) = eSp (X i 13) (X i 14)) ∧ (c 4 i ∈ L ∧ f (c 4 i) = eTn (X i 15) (Z i 2) (Z i 3) (Z i 4) (X i 16) (X i 17) (Z i 5))
def CI (G : GD) (c : Nat → Nat → Nat) (n k : Nat) (X : Nat → Nat → UInt64) (XS : Nat → UInt64) (Z : Nat → Nat → Int32) (OU : Nat → Option Nat) (SL : Nat → Nat) (L : List Nat) (f : Nat → va_E) : Prop :=
  (n ≤ 16 ∧ k ≤ 16) ∧ (c 6 0 ∈ L ∧ f (c 6 0) = eLw (c 6 1) (c 6 2) n k) ∧ (c 6 1 ∈ L ∧ f (c 6 1) = aRf G.2.2.2.2.1 (rowN n (c 0))) ∧ (c 6 2 ∈ L ∧ f (c 6 2) = aRf G.2.2.2.2.2 (rowN k (c 5))) ∧ c 6 1 ≠ c 6 2 ∧
  (∀ i, i < n → CIl c X Z OU L f i) ∧ (∀ j, j < k → c 5 j ∈ L ∧ f (c 5 j) = eSt (c 0 (SL j)) (XS j) ∧ SL j < n) ∧ (∀ i o, i < n → OU i = some o → o < n) ∧ (∀ t t1 i i1, t < 5 → t1 < 5 → i < n → i1 < n → c t i = c t1 i1 → t = t1 ∧ i = i1)
theorem CI.hm {G : GD} {c : Nat → Nat → Nat} {n k : Nat} {X : Nat → Nat → UInt64} {XS : Nat → UInt64} {Z : Nat → Nat → Int32} {OU : Nat → Option Nat} {SL : Nat → Nat} {L : List Nat} {f : Nat → va_E} (h : CI G c n k X XS Z OU SL L f) : c 6 0 ∈ L := h.2.1.1
theorem CI.h0 {G : GD} {c : Nat → Nat → Nat} {n k : Nat} {X : Nat → Nat → UInt64} {XS : Nat → UInt64} {Z : Nat → Nat → Int32} {OU : Nat → Option Nat} {SL : Nat → Nat} {L : List Nat} {f : Nat → va_E} (h : CI G c n k X XS Z OU SL L f) : f (c 6 0) = eLw (c 6 1) (c 6 2) n k := h.2.1.2
theorem CI.lm {G : GD} {c : Nat → Nat → Nat} {n k : Nat} {X : Nat → Nat → UInt64} {XS : Nat → UInt64} {Z : Nat → Nat → Int32} {OU : Nat → Option Nat} {SL : Nat → Nat} {L : List Nat} {f : Nat → va_E} (h : CI G c n k X XS Z OU SL L f) : c 6 1 ∈ L := h.2.2.1.1
theorem CI.l0 {G : GD} {c : Nat → Nat → Nat} {n k : Nat} {X : Nat → Nat → UInt64} {XS : Nat → UInt64} {Z : Nat → Nat → Int32} {OU : Nat → Option Nat} {SL : Nat → Nat} {L : List Nat} {f : Nat → va_E} (h : CI G c n k X XS Z OU SL L f) : f (c 6 1) = aRf G.2.2.2.2.1 (rowN n (c 0)) := h.2.2.1.2
theorem CI.sm {G : GD} {c : Nat → Nat → Nat} {n k : Nat} {X : Nat → Nat → UInt64} {XS : Nat → UInt64} {Z : Nat → Nat → Int32} {OU : Nat → Option Nat} {SL : Nat → Nat} {L : List Nat} {f : Nat → va_E} (h : CI G c n k X XS Z OU SL L f) : c 6 2 ∈ L := h.2.2.2.1.1
theorem CI.s0 {G : GD} {c : Nat → Nat → Nat} {n k : Nat} {X : Nat → Nat → UInt64} {XS : Nat → UInt64} {Z : Nat → Nat → Int32} {OU : Nat → Option Nat} {SL : Nat → Nat} {L : List Nat} {f : Nat → va_E} (h : CI G c n k X XS Z OU SL L f) : f (c 6 2) = aRf G.2.2.2.2.2 (rowN k (c 5)) := h.2.2.2.1.2
theorem CI.lp {G : GD} {c : Nat → Nat → Nat} {n k : Nat} {X : Nat → Nat → UInt64} {XS : Nat → UInt64} {Z : Nat → Nat → Int32} {OU : Nat → Option Nat} {SL : Nat → Nat} {L : List Nat} {f : Nat → va_E} (h : CI G c n k X XS Z OU SL L f) {i : Nat} (hi : i < n) : CIl c X Z OU L f i := h.2.2.2.2.2.1 i hi
theorem CI.sp {G : GD} {c : Nat → Nat → Nat} {n k : Nat} {X : Nat → Nat → UInt64} {XS : Nat → UInt64} {Z : Nat → Nat → Int32} {OU : Nat → Option Nat} {SL : Nat → Nat} {L : List Nat} {f : Nat → va_E} (h : CI G c n k X XS Z OU SL L f) {j : Nat} (hj : j < k) : c 5 j ∈ L ∧ f (c 5 j) = eSt (c 0 (SL j)) (XS j) ∧ SL j < n := h.2.2.2.2.2.2.1 j hj
theorem CI.n16 {G : GD} {c : Nat → Nat → Nat} {n k : Nat} {X : Nat → Nat → UInt64} {XS : Nat → UInt64} {Z : Nat → Nat → Int32} {OU : Nat → Option Nat} {SL : Nat → Nat} {L : List Nat} {f : Nat → va_E} (h : CI G c n k X XS Z OU SL L f) : n ≤ 16 := h.1.1
theorem CI.k16 {G : GD} {c : Nat → Nat → Nat} {n k : Nat} {X : Nat → Nat → UInt64} {XS : Nat → UInt64} {Z : Nat → Nat → Int32} {OU : Nat → Option Nat} {SL : Nat → Nat} {L : List Nat} {f : Nat → va_E} (h : CI G c n k X XS Z OU SL L f) : k ≤ 16 := h.1.2
theorem CI.loop {G : GD} {c : Nat → Nat → Nat} {n k : Nat} {X : Nat → Nat → UInt64} {XS : Nat → UInt64} {Z : Nat → Nat → Int32} {OU : Nat → Option Nat} {SL : Nat → Nat} {L : List Nat} {f : Nat → va_E} (h : CI G c n k X XS Z OU SL L f) {i : Nat} (hi : i < n) (x : Nat → UInt64) (z : Nat → Int32) (ou : Option Nat) (hx : ∀ j, 9 ≤ j → x j = X i j) (hz : ∀ j, 2 ≤ j → z j = Z i j) (hou : ∀ o, ou = some o → o < n) : CI G c n k (va_up X i x) XS (va_up Z i z) (va_up OU i ou) SL L (va_up f (c 0 i) (eLp x (z 0) (z 1) (c 1 i) (c 2 i) (c 3 i) (c 4 i) (ou.map (c 0)))) := by
  obtain ⟨hn, ⟨a1, b1⟩, ⟨a2, b2⟩, ⟨a3, b3⟩, hne, hl, hs, ho, hj⟩ := h
  have e0 := (hl i hi).1.2
  refine ⟨hn, ⟨a1, ?_⟩, ⟨a2, ?_⟩, ⟨a3, ?_⟩, hne, fun j hj1 => ?_, fun j hj1 => ⟨(hs j hj1).1, ?_, (hs j hj1).2.2⟩, ?_, hj⟩
  · rw [va_up_ne _ _ (fun q => by rw [q, e0] at b1; cases b1)]; exact b1
  · rw [va_up_ne _ _ (fun q => by rw [q, e0] at b2; cases b2)]; exact b2
  · rw [va_up_ne _ _ (fun q => by rw [q, e0] at b3; cases b3)]; exact b3
  · obtain ⟨⟨m0, p0⟩, ⟨m1, p1⟩, ⟨m2, p2⟩, ⟨m3, p3⟩, ⟨m4, p4⟩⟩ := hl j hj1
    by_cases q : j = i
    · subst q
      simp only [CIl, va_up_self]
      refine ⟨⟨m0, ?_⟩, ⟨m1, ?_⟩, ⟨m2, ?_⟩, ⟨m3, ?_⟩, ⟨m4, ?_⟩⟩
      · first | trivial | rfl
      · rw [va_up_ne _ _ (fun q => by have q2 := (hj 1 0 j j (by decide) (by decide) hj1 hj1 q).1; cases q2)]
        rw [p1]; rw [hx 9 (by decide), hx 10 (by decide)]
      · rw [va_up_ne _ _ (fun q => by have q2 := (hj 2 0 j j (by decide) (by decide) hj1 hj1 q).1; cases q2)]
        rw [p2]; rw [hx 11 (by decide), hx 12 (by decide)]
      · rw [va_up_ne _ _ (fun q => by have q2 := (hj 3 0 j j (by decide) (by decide) hj1 hj1 q).1; cases q2)]
        rw [p3]; rw [hx 13 (by decide), hx 14 (by decide)]
      · rw [va_up_ne _ _ (fun q => by have q2 := (hj 4 0 j j (by decide) (by decide) hj1 hj1 q).1; cases q2)]
        rw [p4]; rw [hx 15 (by decide), hx 16 (by decide), hx 17 (by decide), hz 2 (by decide), hz 3 (by decide), hz 4 (by decide), hz 5 (by decide)]
    · simp only [CIl, va_up_ne _ _ q]
      refine ⟨⟨m0, ?_⟩, ⟨m1, ?_⟩, ⟨m2, ?_⟩, ⟨m3, ?_⟩, ⟨m4, ?_⟩⟩
      · rw [va_up_ne _ _ (fun z => q (hj 0 0 j i (by decide) (by decide) hj1 hi z).2)]; exact p0
      · rw [va_up_ne _ _ (fun z => q (hj 1 0 j i (by decide) (by decide) hj1 hi z).2)]; exact p1
      · rw [va_up_ne _ _ (fun z => q (hj 2 0 j i (by decide) (by decide) hj1 hi z).2)]; exact p2
      · rw [va_up_ne _ _ (fun z => q (hj 3 0 j i (by decide) (by decide) hj1 hi z).2)]; exact p3
      · rw [va_up_ne _ _ (fun z => q (hj 4 0 j i (by decide) (by decide) hj1 hi z).2)]; exact p4
  · rw [va_up_ne _ _ (fun q => by have e1 := (hs j hj1).2.1; rw [q, e0] at e1; cases e1)]; exact (hs j hj1).2.1
  · intro j o hj1 he
    by_cases q : j = i
    · subst q; rw [va_up_self] at he; exact hou o he
    · rw [va_up_ne _ _ q] at he; exact ho j o hj1 he
theorem CI.limits {G : GD} {c : Nat → Nat → Nat} {n k : Nat} {X : Nat → Nat → UInt64} {XS : Nat → UInt64} {Z : Nat → Nat → Int32} {OU : Nat → Option Nat} {SL : Nat → Nat} {L : List Nat} {f : Nat → va_E} (h : CI G c n k X XS Z OU SL L f) {i : Nat} (hi : i < n) (x : Nat → UInt64) (hx : ∀ j, j ≠ 9 → j ≠ 10 → x j = X i j) : CI G c n k (va_up X i x) XS Z OU SL L (va_up f (c 1 i) (eSp (x 9) (x 10))) := by
  obtain ⟨hn, ⟨a1, b1⟩, ⟨a2, b2⟩, ⟨a3, b3⟩, hne, hl, hs, ho, hj⟩ := h
  have e0 := (hl i hi).2.1.2
  refine ⟨hn, ⟨a1, ?_⟩, ⟨a2, ?_⟩, ⟨a3, ?_⟩, hne, fun j hj1 => ?_, fun j hj1 => ⟨(hs j hj1).1, ?_, (hs j hj1).2.2⟩, ?_, hj⟩
  · rw [va_up_ne _ _ (fun q => by rw [q, e0] at b1; cases b1)]; exact b1
  · rw [va_up_ne _ _ (fun q => by rw [q, e0] at b2; cases b2)]; exact b2
  · rw [va_up_ne _ _ (fun q => by rw [q, e0] at b3; cases b3)]; exact b3
  · obtain ⟨⟨m0, p0⟩, ⟨m1, p1⟩, ⟨m2, p2⟩, ⟨m3, p3⟩, ⟨m4, p4⟩⟩ := hl j hj1
    by_cases q : j = i
    · subst q
      simp only [CIl, va_up_self]
      refine ⟨⟨m0, ?_⟩, ⟨m1, ?_⟩, ⟨m2, ?_⟩, ⟨m3, ?_⟩, ⟨m4, ?_⟩⟩
      · rw [va_up_ne _ _ (fun q => by have q2 := (hj 0 1 j j (by decide) (by decide) hj1 hj1 q).1; cases q2)]
        rw [p0]; simp only [eLp, hx 0 (by decide) (by decide), hx 1 (by decide) (by decide), hx 2 (by decide) (by decide), hx 3 (by decide) (by decide), hx 4 (by decide) (by decide), hx 5 (by decide) (by decide), hx 6 (by decide) (by decide), hx 7 (by decide) (by decide), hx 8 (by decide) (by decide)]
      · first | trivial | rfl
      · rw [va_up_ne _ _ (fun q => by have q2 := (hj 2 1 j j (by decide) (by decide) hj1 hj1 q).1; cases q2)]
        rw [p2]; rw [hx 11 (by decide) (by decide), hx 12 (by decide) (by decide)]
      · rw [va_up_ne _ _ (fun q => by have q2 := (hj 3 1 j j (by decide) (by decide) hj1 hj1 q).1; cases q2)]
        rw [p3]; rw [hx 13 (by decide) (by decide), hx 14 (by decide) (by decide)]
      · rw [va_up_ne _ _ (fun q => by have q2 := (hj 4 1 j j (by decide) (by decide) hj1 hj1 q).1; cases q2)]
        rw [p4]; rw [hx 15 (by decide) (by decide), hx 16 (by decide) (by decide), hx 17 (by decide) (by decide)]
    · simp only [CIl, va_up_ne _ _ q]
      refine ⟨⟨m0, ?_⟩, ⟨m1, ?_⟩, ⟨m2, ?_⟩, ⟨m3, ?_⟩, ⟨m4, ?_⟩⟩
      · rw [va_up_ne _ _ (fun z => q (hj 0 1 j i (by decide) (by decide) hj1 hi z).2)]; exact p0
      · rw [va_up_ne _ _ (fun z => q (hj 1 1 j i (by decide) (by decide) hj1 hi z).2)]; exact p1
      · rw [va_up_ne _ _ (fun z => q (hj 2 1 j i (by decide) (by decide) hj1 hi z).2)]; exact p2
      · rw [va_up_ne _ _ (fun z => q (hj 3 1 j i (by decide) (by decide) hj1 hi z).2)]; exact p3
      · rw [va_up_ne _ _ (fun z => q (hj 4 1 j i (by decide) (by decide) hj1 hi z).2)]; exact p4
  · rw [va_up_ne _ _ (fun q => by have e1 := (hs j hj1).2.1; rw [q, e0] at e1; cases e1)]; exact (hs j hj1).2.1
  · exact ho
theorem CI.band {G : GD} {c : Nat → Nat → Nat} {n k : Nat} {X : Nat → Nat → UInt64} {XS : Nat → UInt64} {Z : Nat → Nat → Int32} {OU : Nat → Option Nat} {SL : Nat → Nat} {L : List Nat} {f : Nat → va_E} (h : CI G c n k X XS Z OU SL L f) {i : Nat} (hi : i < n) (x : Nat → UInt64) (hx : ∀ j, j ≠ 11 → j ≠ 12 → x j = X i j) : CI G c n k (va_up X i x) XS Z OU SL L (va_up f (c 2 i) (eSp (x 11) (x 12))) := by
  obtain ⟨hn, ⟨a1, b1⟩, ⟨a2, b2⟩, ⟨a3, b3⟩, hne, hl, hs, ho, hj⟩ := h
  have e0 := (hl i hi).2.2.1.2
  refine ⟨hn, ⟨a1, ?_⟩, ⟨a2, ?_⟩, ⟨a3, ?_⟩, hne, fun j hj1 => ?_, fun j hj1 => ⟨(hs j hj1).1, ?_, (hs j hj1).2.2⟩, ?_, hj⟩
  · rw [va_up_ne _ _ (fun q => by rw [q, e0] at b1; cases b1)]; exact b1
  · rw [va_up_ne _ _ (fun q => by rw [q, e0] at b2; cases b2)]; exact b2
  · rw [va_up_ne _ _ (fun q => by rw [q, e0] at b3; cases b3)]; exact b3
  · obtain ⟨⟨m0, p0⟩, ⟨m1, p1⟩, ⟨m2, p2⟩, ⟨m3, p3⟩, ⟨m4, p4⟩⟩ := hl j hj1
    by_cases q : j = i
    · subst q
      simp only [CIl, va_up_self]
      refine ⟨⟨m0, ?_⟩, ⟨m1, ?_⟩, ⟨m2, ?_⟩, ⟨m3, ?_⟩, ⟨m4, ?_⟩⟩
      · rw [va_up_ne _ _ (fun q => by have q2 := (hj 0 2 j j (by decide) (by decide) hj1 hj1 q).1; cases q2)]
        rw [p0]; simp only [eLp, hx 0 (by decide) (by decide), hx 1 (by decide) (by decide), hx 2 (by decide) (by decide), hx 3 (by decide) (by decide), hx 4 (by decide) (by decide), hx 5 (by decide) (by decide), hx 6 (by decide) (by decide), hx 7 (by decide) (by decide), hx 8 (by decide) (by decide)]
      · rw [va_up_ne _ _ (fun q => by have q2 := (hj 1 2 j j (by decide) (by decide) hj1 hj1 q).1; cases q2)]
        rw [p1]; rw [hx 9 (by decide) (by decide), hx 10 (by decide) (by decide)]
      · first | trivial | rfl
      · rw [va_up_ne _ _ (fun q => by have q2 := (hj 3 2 j j (by decide) (by decide) hj1 hj1 q).1; cases q2)]
        rw [p3]; rw [hx 13 (by decide) (by decide), hx 14 (by decide) (by decide)]
      · rw [va_up_ne _ _ (fun q => by have q2 := (hj 4 2 j j (by decide) (by decide) hj1 hj1 q).1; cases q2)]
        rw [p4]; rw [hx 15 (by decide) (by decide), hx 16 (by decide) (by decide), hx 17 (by decide) (by decide)]
    · simp only [CIl, va_up_ne _ _ q]
      refine ⟨⟨m0, ?_⟩, ⟨m1, ?_⟩, ⟨m2, ?_⟩, ⟨m3, ?_⟩, ⟨m4, ?_⟩⟩
      · rw [va_up_ne _ _ (fun z => q (hj 0 2 j i (by decide) (by decide) hj1 hi z).2)]; exact p0
      · rw [va_up_ne _ _ (fun z => q (hj 1 2 j i (by decide) (by decide) hj1 hi z).2)]; exact p1
      · rw [va_up_ne _ _ (fun z => q (hj 2 2 j i (by decide) (by decide) hj1 hi z).2)]; exact p2
      · rw [va_up_ne _ _ (fun z => q (hj 3 2 j i (by decide) (by decide) hj1 hi z).2)]; exact p3
      · rw [va_up_ne _ _ (fun z => q (hj 4 2 j i (by decide) (by decide) hj1 hi z).2)]; exact p4
  · rw [va_up_ne _ _ (fun q => by have e1 := (hs j hj1).2.1; rw [q, e0] at e1; cases e1)]; exact (hs j hj1).2.1
  · exact ho
theorem CI.range {G : GD} {c : Nat → Nat → Nat} {n k : Nat} {X : Nat → Nat → UInt64} {XS : Nat → UInt64} {Z : Nat → Nat → Int32} {OU : Nat → Option Nat} {SL : Nat → Nat} {L : List Nat} {f : Nat → va_E} (h : CI G c n k X XS Z OU SL L f) {i : Nat} (hi : i < n) (x : Nat → UInt64) (hx : ∀ j, j ≠ 13 → j ≠ 14 → x j = X i j) : CI G c n k (va_up X i x) XS Z OU SL L (va_up f (c 3 i) (eSp (x 13) (x 14))) := by
  obtain ⟨hn, ⟨a1, b1⟩, ⟨a2, b2⟩, ⟨a3, b3⟩, hne, hl, hs, ho, hj⟩ := h
  have e0 := (hl i hi).2.2.2.1.2
  refine ⟨hn, ⟨a1, ?_⟩, ⟨a2, ?_⟩, ⟨a3, ?_⟩, hne, fun j hj1 => ?_, fun j hj1 => ⟨(hs j hj1).1, ?_, (hs j hj1).2.2⟩, ?_, hj⟩
  · rw [va_up_ne _ _ (fun q => by rw [q, e0] at b1; cases b1)]; exact b1
  · rw [va_up_ne _ _ (fun q => by rw [q, e0] at b2; cases b2)]; exact b2
  · rw [va_up_ne _ _ (fun q => by rw [q, e0] at b3; cases b3)]; exact b3
  · obtain ⟨⟨m0, p0⟩, ⟨m1, p1⟩, ⟨m2, p2⟩, ⟨m3, p3⟩, ⟨m4, p4⟩⟩ := hl j hj1
    by_cases q : j = i
    · subst q
      simp only [CIl, va_up_self]
      refine ⟨⟨m0, ?_⟩, ⟨m1, ?_⟩, ⟨m2, ?_⟩, ⟨m3, ?_⟩, ⟨m4, ?_⟩⟩
      · rw [va_up_ne _ _ (fun q => by have q2 := (hj 0 3 j j (by decide) (by decide) hj1 hj1 q).1; cases q2)]
        rw [p0]; simp only [eLp, hx 0 (by decide) (by decide), hx 1 (by decide) (by decide), hx 2 (by decide) (by decide), hx 3 (by decide) (by decide), hx 4 (by decide) (by decide), hx 5 (by decide) (by decide), hx 6 (by decide) (by decide), hx 7 (by decide) (by decide), hx 8 (by decide) (by decide)]
      · rw [va_up_ne _ _ (fun q => by have q2 := (hj 1 3 j j (by decide) (by decide) hj1 hj1 q).1; cases q2)]
        rw [p1]; rw [hx 9 (by decide) (by decide), hx 10 (by decide) (by decide)]
      · rw [va_up_ne _ _ (fun q => by have q2 := (hj 2 3 j j (by decide) (by decide) hj1 hj1 q).1; cases q2)]
        rw [p2]; rw [hx 11 (by decide) (by decide), hx 12 (by decide) (by decide)]
      · first | trivial | rfl
      · rw [va_up_ne _ _ (fun q => by have q2 := (hj 4 3 j j (by decide) (by decide) hj1 hj1 q).1; cases q2)]
        rw [p4]; rw [hx 15 (by decide) (by decide), hx 16 (by decide) (by decide), hx 17 (by decide) (by decide)]
    · simp only [CIl, va_up_ne _ _ q]
      refine ⟨⟨m0, ?_⟩, ⟨m1, ?_⟩, ⟨m2, ?_⟩, ⟨m3, ?_⟩, ⟨m4, ?_⟩⟩
      · rw [va_up_ne _ _ (fun z => q (hj 0 3 j i (by decide) (by decide) hj1 hi z).2)]; exact p0
      · rw [va_up_ne _ _ (fun z => q (hj 1 3 j i (by decide) (by decide) hj1 hi z).2)]; exact p1
      · rw [va_up_ne _ _ (fun z => q (hj 2 3 j i (by decide) (by decide) hj1 hi z).2)]; exact p2
      · rw [va_up_ne _ _ (fun z => q (hj 3 3 j i (by decide) (by decide) hj1 hi z).2)]; exact p3
      · rw [va_up_ne _ _ (fun z => q (hj 4 3 j i (by decide) (by decide) hj1 hi z).2)]; exact p4
  · rw [va_up_ne _ _ (fun q => by have e1 := (hs j hj1).2.1; rw [q, e0] at e1; cases e1)]; exact (hs j hj1).2.1
  · exact ho
theorem CI.tune {G : GD} {c : Nat → Nat → Nat} {n k : Nat} {X : Nat → Nat → UInt64} {XS : Nat → UInt64} {Z : Nat → Nat → Int32} {OU : Nat → Option Nat} {SL : Nat → Nat} {L : List Nat} {f : Nat → va_E} (h : CI G c n k X XS Z OU SL L f) {i : Nat} (hi : i < n) (x : Nat → UInt64) (z : Nat → Int32) (hx : ∀ j, j < 15 → x j = X i j) (hz : ∀ j, j < 2 → z j = Z i j) : CI G c n k (va_up X i x) XS (va_up Z i z) OU SL L (va_up f (c 4 i) (eTn (x 15) (z 2) (z 3) (z 4) (x 16) (x 17) (z 5))) := by
  obtain ⟨hn, ⟨a1, b1⟩, ⟨a2, b2⟩, ⟨a3, b3⟩, hne, hl, hs, ho, hj⟩ := h
  have e0 := (hl i hi).2.2.2.2.2
  refine ⟨hn, ⟨a1, ?_⟩, ⟨a2, ?_⟩, ⟨a3, ?_⟩, hne, fun j hj1 => ?_, fun j hj1 => ⟨(hs j hj1).1, ?_, (hs j hj1).2.2⟩, ?_, hj⟩
  · rw [va_up_ne _ _ (fun q => by rw [q, e0] at b1; cases b1)]; exact b1
  · rw [va_up_ne _ _ (fun q => by rw [q, e0] at b2; cases b2)]; exact b2
  · rw [va_up_ne _ _ (fun q => by rw [q, e0] at b3; cases b3)]; exact b3
  · obtain ⟨⟨m0, p0⟩, ⟨m1, p1⟩, ⟨m2, p2⟩, ⟨m3, p3⟩, ⟨m4, p4⟩⟩ := hl j hj1
    by_cases q : j = i
    · subst q
      simp only [CIl, va_up_self]
      refine ⟨⟨m0, ?_⟩, ⟨m1, ?_⟩, ⟨m2, ?_⟩, ⟨m3, ?_⟩, ⟨m4, ?_⟩⟩
      · rw [va_up_ne _ _ (fun q => by have q2 := (hj 0 4 j j (by decide) (by decide) hj1 hj1 q).1; cases q2)]
        rw [p0]; simp only [eLp, hx 0 (by decide), hx 1 (by decide), hx 2 (by decide), hx 3 (by decide), hx 4 (by decide), hx 5 (by decide), hx 6 (by decide), hx 7 (by decide), hx 8 (by decide), hz 0 (by decide), hz 1 (by decide)]
      · rw [va_up_ne _ _ (fun q => by have q2 := (hj 1 4 j j (by decide) (by decide) hj1 hj1 q).1; cases q2)]
        rw [p1]; rw [hx 9 (by decide), hx 10 (by decide)]
      · rw [va_up_ne _ _ (fun q => by have q2 := (hj 2 4 j j (by decide) (by decide) hj1 hj1 q).1; cases q2)]
        rw [p2]; rw [hx 11 (by decide), hx 12 (by decide)]
      · rw [va_up_ne _ _ (fun q => by have q2 := (hj 3 4 j j (by decide) (by decide) hj1 hj1 q).1; cases q2)]
        rw [p3]; rw [hx 13 (by decide), hx 14 (by decide)]
      · first | trivial | rfl
    · simp only [CIl, va_up_ne _ _ q]
      refine ⟨⟨m0, ?_⟩, ⟨m1, ?_⟩, ⟨m2, ?_⟩, ⟨m3, ?_⟩, ⟨m4, ?_⟩⟩
      · rw [va_up_ne _ _ (fun z => q (hj 0 4 j i (by decide) (by decide) hj1 hi z).2)]; exact p0
      · rw [va_up_ne _ _ (fun z => q (hj 1 4 j i (by decide) (by decide) hj1 hi z).2)]; exact p1
      · rw [va_up_ne _ _ (fun z => q (hj 2 4 j i (by decide) (by decide) hj1 hi z).2)]; exact p2
      · rw [va_up_ne _ _ (fun z => q (hj 3 4 j i (by decide) (by decide) hj1 hi z).2)]; exact p3
      · rw [va_up_ne _ _ (fun z => q (hj 4 4 j i (by decide) (by decide) hj1 hi z).2)]; exact p4
  · rw [va_up_ne _ _ (fun q => by have e1 := (hs j hj1).2.1; rw [q, e0] at e1; cases e1)]; exact (hs j hj1).2.1
  · exact ho
