/-! the model's world: its object, its arrays by field numbers -/
def up2 {α : Type} (Y : Nat → Nat → α) (i j : Nat) (x : α) : Nat → Nat → α := fun a b => if b = j then (if a = i then x else Y a b) else Y a b
theorem up2_id {α : Type} (Y : Nat → Nat → α) (i j : Nat) : up2 Y i j (Y i j) = Y := by
  funext a b
  unfold up2
  split
  · rename_i h1
    split
    · rename_i h2; rw [h1, h2]
    · rfl
  · rfl
theorem up2_s {α : Type} (Y : Nat → Nat → α) (i j : Nat) (x : α) : up2 Y i j x i j = x := by simp [up2]
theorem up2_n {α : Type} (Y : Nat → Nat → α) (i j a b : Nat) (x : α) (h : a ≠ i ∨ b ≠ j) : up2 Y i j x a b = Y a b := by
  unfold up2
  split
  · split
    · rename_i h1 h2; exact absurd h (by simp [h1, h2])
    · rfl
  · rfl
theorem up2_c {α : Type} (Y : Nat → Nat → α) (i j : Nat) (x : α) : (fun a => up2 Y i j x a j) = va_up (fun a => Y a j) i x := by
  funext a
  simp [up2, va_up]
theorem up2_d {α : Type} (Y : Nat → Nat → α) (i j b : Nat) (x : α) (h : b ≠ j) : (fun a => up2 Y i j x a b) = (fun a => Y a b) := by
  funext a
  simp [up2, h]
abbrev eMd (ma : Nat → Nat) (n k : Nat) : va_E := .inr (5, [.int (nI n), .ref (ma 0), .ref (ma 1), .ref (ma 2), .ref (ma 9), .ref (ma 10), .ref (ma 3), .ref (ma 4), .ref (ma 11), .ref (ma 12), .ref (ma 25), .ref (ma 13), .ref (ma 14), .ref (ma 5), .ref (ma 6), .ref (ma 7), .ref (ma 8), .ref (ma 20), .ref (ma 22), .ref (ma 21), .ref (ma 16), .ref (ma 17), .ref (ma 23), .int (nI k), .ref (ma 24), .ref (ma 18)])
def mv (j : Nat) : Prop := j < 26 ∧ j ≠ 15 ∧ j ≠ 19
def MI (G : GD) (q0 : Nat) (ma : Nat → Nat) (n k : Nat) (Y : Nat → Nat → UInt64) (W0 : Nat → Nat → Int32) (L : List Nat) (f : Nat → va_E) : Prop :=
  (n ≤ 16 ∧ k ≤ 16) ∧ (q0 ∈ L ∧ f q0 = eMd ma n k) ∧ (∀ j, j < 19 → j ≠ 15 → ma j ∈ L ∧ f (ma j) = aDb G.2.1 (fun i => Y i j)) ∧ (∀ j, 20 ≤ j → j < 25 → ma j ∈ L ∧ f (ma j) = aIn G.2.2.1 (fun i => W0 i j)) ∧ (ma 25 ∈ L ∧ f (ma 25) = aIn G.2.2.2.1 (fun i => W0 i 25)) ∧ (∀ j j1, mv j → mv j1 → ma j = ma j1 → j = j1)
theorem MI.m {G : GD} {q0 : Nat} {ma : Nat → Nat} {n k : Nat} {Y : Nat → Nat → UInt64} {W0 : Nat → Nat → Int32} {L : List Nat} {f : Nat → va_E} (h : MI G q0 ma n k Y W0 L f) : q0 ∈ L := h.2.1.1
theorem MI.o {G : GD} {q0 : Nat} {ma : Nat → Nat} {n k : Nat} {Y : Nat → Nat → UInt64} {W0 : Nat → Nat → Int32} {L : List Nat} {f : Nat → va_E} (h : MI G q0 ma n k Y W0 L f) : f q0 = eMd ma n k := h.2.1.2
theorem MI.n16 {G : GD} {q0 : Nat} {ma : Nat → Nat} {n k : Nat} {Y : Nat → Nat → UInt64} {W0 : Nat → Nat → Int32} {L : List Nat} {f : Nat → va_E} (h : MI G q0 ma n k Y W0 L f) : n ≤ 16 := h.1.1
theorem MI.k16 {G : GD} {q0 : Nat} {ma : Nat → Nat} {n k : Nat} {Y : Nat → Nat → UInt64} {W0 : Nat → Nat → Int32} {L : List Nat} {f : Nat → va_E} (h : MI G q0 ma n k Y W0 L f) : k ≤ 16 := h.1.2
theorem MI.frame {G : GD} {q0 : Nat} {ma : Nat → Nat} {n k : Nat} {Y : Nat → Nat → UInt64} {W0 : Nat → Nat → Int32} {L : List Nat} {f : Nat → va_E} (h : MI G q0 ma n k Y W0 L f) {L1 : List Nat} {f1 : Nat → va_E} (hL : ∀ a, a ∈ L → a ∈ L1) (hf : FRc L f f1) : MI G q0 ma n k Y W0 L1 f1 := by
  obtain ⟨hn, ⟨a1, b1⟩, hd, hi, ⟨a2, b2⟩, hj⟩ := h
  have g : ∀ {a : Nat} {e : va_E}, a ∈ L → f a = e → isM e = true → f1 a = e := fun ha he hm => (hf _ ha (by rw [he]; exact hm)).trans he
  exact ⟨hn, ⟨hL _ a1, g a1 b1 rfl⟩, fun j h1 h2 => ⟨hL _ (hd j h1 h2).1, g (hd j h1 h2).1 (hd j h1 h2).2 rfl⟩, fun j h1 h2 => ⟨hL _ (hi j h1 h2).1, g (hi j h1 h2).1 (hi j h1 h2).2 rfl⟩, ⟨hL _ a2, g a2 b2 rfl⟩, hj⟩
theorem MI.dset {G : GD} {q0 : Nat} {ma : Nat → Nat} {n k : Nat} {Y : Nat → Nat → UInt64} {W0 : Nat → Nat → Int32} {L : List Nat} {f : Nat → va_E} (h : MI G q0 ma n k Y W0 L f) {i j : Nat} (hj : j < 19) (hj2 : j ≠ 15) (x : UInt64) : MI G q0 ma n k (up2 Y i j x) W0 L (va_up f (ma j) (aDb G.2.1 (va_up (fun a => Y a j) i x))) := by
  obtain ⟨hn, ⟨a1, b1⟩, hd, hi, ⟨a2, b2⟩, hjj⟩ := h
  have e0 := (hd j hj hj2).2
  refine ⟨hn, ⟨a1, ?_⟩, fun b h1 h2 => ⟨(hd b h1 h2).1, ?_⟩, fun b h1 h2 => ⟨(hi b h1 h2).1, ?_⟩, ⟨a2, ?_⟩, hjj⟩
  · rw [va_up_ne _ _ (fun q => by rw [q, e0] at b1; cases b1)]; exact b1
  · by_cases q : b = j
    · subst q; rw [va_up_self, up2_c]
    · rw [va_up_ne _ _ (fun z => q (hjj b j ⟨by omega, h2, by omega⟩ ⟨by omega, hj2, by omega⟩ z)), up2_d _ _ _ _ _ q]; exact (hd b h1 h2).2
  · rw [va_up_ne _ _ (fun z => by have q := hjj b j ⟨by omega, by omega, by omega⟩ ⟨by omega, hj2, by omega⟩ z; omega)]; exact (hi b h1 h2).2
  · rw [va_up_ne _ _ (fun z => by have q := hjj 25 j ⟨by omega, by omega, by omega⟩ ⟨by omega, hj2, by omega⟩ z; omega)]; exact b2
theorem MI.iset {G : GD} {q0 : Nat} {ma : Nat → Nat} {n k : Nat} {Y : Nat → Nat → UInt64} {W0 : Nat → Nat → Int32} {L : List Nat} {f : Nat → va_E} (h : MI G q0 ma n k Y W0 L f) {i j : Nat} (hj : 20 ≤ j) (hj2 : j < 25) (x : Int32) : MI G q0 ma n k Y (up2 W0 i j x) L (va_up f (ma j) (aIn G.2.2.1 (va_up (fun a => W0 a j) i x))) := by
  obtain ⟨hn, ⟨a1, b1⟩, hd, hi, ⟨a2, b2⟩, hjj⟩ := h
  have e0 := (hi j hj hj2).2
  refine ⟨hn, ⟨a1, ?_⟩, fun b h1 h2 => ⟨(hd b h1 h2).1, ?_⟩, fun b h1 h2 => ⟨(hi b h1 h2).1, ?_⟩, ⟨a2, ?_⟩, hjj⟩
  · rw [va_up_ne _ _ (fun q => by rw [q, e0] at b1; cases b1)]; exact b1
  · rw [va_up_ne _ _ (fun z => by have q := hjj b j ⟨by omega, h2, by omega⟩ ⟨by omega, by omega, by omega⟩ z; omega)]; exact (hd b h1 h2).2
  · by_cases q : b = j
    · subst q; rw [va_up_self, up2_c]
    · rw [va_up_ne _ _ (fun z => q (hjj b j ⟨by omega, by omega, by omega⟩ ⟨by omega, by omega, by omega⟩ z)), up2_d _ _ _ _ _ q]; exact (hi b h1 h2).2
  · rw [va_up_ne _ _ (fun z => by have q := hjj 25 j ⟨by omega, by omega, by omega⟩ ⟨by omega, by omega, by omega⟩ z; omega), up2_d _ _ _ _ _ (by omega)]; exact b2
theorem MI.zset {G : GD} {q0 : Nat} {ma : Nat → Nat} {n k : Nat} {Y : Nat → Nat → UInt64} {W0 : Nat → Nat → Int32} {L : List Nat} {f : Nat → va_E} (h : MI G q0 ma n k Y W0 L f) {i : Nat} (x : Int32) : MI G q0 ma n k Y (up2 W0 i 25 x) L (va_up f (ma 25) (aIn G.2.2.2.1 (va_up (fun a => W0 a 25) i x))) := by
  obtain ⟨hn, ⟨a1, b1⟩, hd, hi, ⟨a2, b2⟩, hjj⟩ := h
  refine ⟨hn, ⟨a1, ?_⟩, fun b h1 h2 => ⟨(hd b h1 h2).1, ?_⟩, fun b h1 h2 => ⟨(hi b h1 h2).1, ?_⟩, ⟨a2, ?_⟩, hjj⟩
  · rw [va_up_ne _ _ (fun q => by rw [q, b2] at b1; cases b1)]; exact b1
  · rw [va_up_ne _ _ (fun z => by have q := hjj b 25 ⟨by omega, h2, by omega⟩ ⟨by omega, by omega, by omega⟩ z; omega)]; exact (hd b h1 h2).2
  · rw [va_up_ne _ _ (fun z => by have q := hjj b 25 ⟨by omega, by omega, by omega⟩ ⟨by omega, by omega, by omega⟩ z; omega), up2_d _ _ _ _ _ (by omega)]; exact (hi b h1 h2).2
  · rw [va_up_self, up2_c]
theorem MI.cnt {G : GD} {q0 : Nat} {ma : Nat → Nat} {n k : Nat} {Y : Nat → Nat → UInt64} {W0 : Nat → Nat → Int32} {L : List Nat} {f : Nat → va_E} (h : MI G q0 ma n k Y W0 L f) {n1 k1 : Nat} (hn1 : n1 ≤ 16) (hk1 : k1 ≤ 16) : MI G q0 ma n1 k1 Y W0 L (va_up f q0 (eMd ma n1 k1)) := by
  obtain ⟨hn, ⟨a1, b1⟩, hd, hi, ⟨a2, b2⟩, hjj⟩ := h
  refine ⟨⟨hn1, hk1⟩, ⟨a1, va_up_self _ _ _⟩, fun b h1 h2 => ⟨(hd b h1 h2).1, ?_⟩, fun b h1 h2 => ⟨(hi b h1 h2).1, ?_⟩, ⟨a2, ?_⟩, hjj⟩
  · rw [va_up_ne _ _ (fun z => by have e1 := (hd b h1 h2).2; rw [z, b1] at e1; cases e1)]; exact (hd b h1 h2).2
  · rw [va_up_ne _ _ (fun z => by have e1 := (hi b h1 h2).2; rw [z, b1] at e1; cases e1)]; exact (hi b h1 h2).2
  · rw [va_up_ne _ _ (fun z => by rw [z, b1] at b2; cases b2)]; exact b2
def okL (n : Nat) (kx : Int32) : Bool := !decide (kx < 0) && !decide (nI n ≤ kx)
theorem okL_cases {n : Nat} (hn : n ≤ 16) (kx : Int32) : (okL n kx = false ∧ ∀ i, i < n → ¬ kx = nI i) ∨ ∃ i, i < n ∧ kx = nI i ∧ okL n kx = true := by
  by_cases h1 : kx < 0
  · refine Or.inl ⟨by simp [okL, h1], fun i hi q => ?_⟩
    rw [q] at h1; exact absurd h1 (nI_pos (by omega))
  · obtain ⟨j, hj, rfl⟩ := nI_of h1
    by_cases h2 : j < n
    · refine Or.inr ⟨j, h2, rfl, ?_⟩
      have h3 : ¬ nI n ≤ nI j := nI_ge h2 (by omega)
      simp [okL, h1, h3]
    · refine Or.inl ⟨?_, fun i hi q => ?_⟩
      · have h3 : nI n ≤ nI j := nI_le (by omega) hj
        simp [okL, h3]
      · have := (nI_eq (by omega) (by omega)).mp q
        omega
section G22
variable {C : CX} {cc : ByteArray} {nL : Nat} {own : String} {ini : Bool} {R0 : Room} {G0 : GD} {l0 : Launch} {ret : Option FieldType} {post : PO} {L : List Nat} {f : Nat → va_E} {k n pc : Nat} {lv : List (Nat × Value)} {st : List Value}
variable {q0 : Nat} {ma : Nat → Nat} {n1 k1 : Nat} {Y : Nat → Nat → UInt64} {W0 : Nat → Nat → Int32} {i : Nat}
theorem g_mdl (hC : CxOk C cc nL own ini R0 G0 l0 ret post) (hM : MI G0 q0 ma n1 k1 Y W0 L f) (j : Nat) (hj : j < 19) (hj2 : j ≠ 15) (hi : i < 16) (v : UInt64) (hv : Y i j = v) (hdg : decode cc pc = .ok (.daload, 1)) (kk : V C nL L f k n (pc + 1) lv (.double v :: st)) : V C nL L f k n pc lv (.int (nI i) :: .ref (ma j) :: st) := by
  refine g_daload hC hdg (hM.2.2.1 j hj hj2).1 (hM.2.2.1 j hj hj2).2 (vp_in_nI hi (by decide)) ?_
  rw [nI_clamp (by omega)]
  subst hv; exact kk
theorem g_mil (hC : CxOk C cc nL own ini R0 G0 l0 ret post) (hM : MI G0 q0 ma n1 k1 Y W0 L f) (j : Nat) (hj : 20 ≤ j) (hj2 : j < 25) (hi : i < 16) (v : Int32) (hv : W0 i j = v) (hdg : decode cc pc = .ok (.iaload, 1)) (kk : V C nL L f k n (pc + 1) lv (.int v :: st)) : V C nL L f k n pc lv (.int (nI i) :: .ref (ma j) :: st) := by
  refine g_iaload hC hdg (hM.2.2.2.1 j hj hj2).1 (hM.2.2.2.1 j hj hj2).2 (vp_in_nI hi (by decide)) ?_
  rw [nI_clamp (by omega)]
  subst hv; exact kk
theorem g_mzl (hC : CxOk C cc nL own ini R0 G0 l0 ret post) (hM : MI G0 q0 ma n1 k1 Y W0 L f) (hi : i < 16) (v : Int32) (hv : W0 i 25 = v) (hdg : decode cc pc = .ok (.baload, 1)) (kk : V C nL L f k n (pc + 1) lv (.int v :: st)) : V C nL L f k n pc lv (.int (nI i) :: .ref (ma 25) :: st) := by
  refine g_zaload hC hdg hM.2.2.2.2.1.1 hM.2.2.2.2.1.2 (vp_in_nI hi (by decide)) ?_
  rw [nI_clamp (by omega)]
  subst hv; exact kk
theorem g_mds (hC : CxOk C cc nL own ini R0 G0 l0 ret post) (hM : MI G0 q0 ma n1 k1 Y W0 L f) (j : Nat) (hj : j < 19) (hj2 : j ≠ 15) (hi : i < 16) {x : UInt64} (hdg : decode cc pc = .ok (.dastore, 1)) (kk : ∀ f1 : Nat → va_E, MI G0 q0 ma n1 k1 (up2 Y i j x) W0 L f1 → FRm L f f1 → V C nL L f1 k n (pc + 1) lv st) : V C nL L f k n pc lv (.double x :: .int (nI i) :: .ref (ma j) :: st) := by
  refine g_dastore hC hdg (hM.2.2.1 j hj hj2).1 (hM.2.2.1 j hj hj2).2 (vp_in_nI hi (by decide)) ?_
  rw [nI_clamp (by omega)]
  exact kk _ (MI.dset hM hj hj2 x) (FRm.up _ FRm.rf (hM.2.2.1 j hj hj2).2 rfl)
theorem g_mis (hC : CxOk C cc nL own ini R0 G0 l0 ret post) (hM : MI G0 q0 ma n1 k1 Y W0 L f) (j : Nat) (hj : 20 ≤ j) (hj2 : j < 25) (hi : i < 16) {x : Int32} (hdg : decode cc pc = .ok (.iastore, 1)) (kk : ∀ f1 : Nat → va_E, MI G0 q0 ma n1 k1 Y (up2 W0 i j x) L f1 → FRm L f f1 → V C nL L f1 k n (pc + 1) lv st) : V C nL L f k n pc lv (.int x :: .int (nI i) :: .ref (ma j) :: st) := by
  refine g_iastore hC hdg (hM.2.2.2.1 j hj hj2).1 (hM.2.2.2.1 j hj hj2).2 (vp_in_nI hi (by decide)) ?_
  rw [nI_clamp (by omega)]
  exact kk _ (MI.iset hM hj hj2 x) (FRm.up _ FRm.rf (hM.2.2.2.1 j hj hj2).2 rfl)
theorem g_mzs (hC : CxOk C cc nL own ini R0 G0 l0 ret post) (hM : MI G0 q0 ma n1 k1 Y W0 L f) (hi : i < 16) {x : Int32} (hx : vp_nar .boolean x = x) (hdg : decode cc pc = .ok (.bastore, 1)) (kk : ∀ f1 : Nat → va_E, MI G0 q0 ma n1 k1 Y (up2 W0 i 25 x) L f1 → FRm L f f1 → V C nL L f1 k n (pc + 1) lv st) : V C nL L f k n pc lv (.int x :: .int (nI i) :: .ref (ma 25) :: st) := by
  refine g_zastore hC hdg hM.2.2.2.2.1.1 hM.2.2.2.2.1.2 (vp_in_nI hi (by decide)) ?_
  rw [nI_clamp (by omega), hx]
  exact kk _ (MI.zset hM x) (FRm.up _ FRm.rf hM.2.2.2.2.1.2 rfl)
end G22
