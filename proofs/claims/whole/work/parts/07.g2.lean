/-! arrays, new cells, calls, ends -/
section G
variable {C : CX} {cc : ByteArray} {nL : Nat} {own : String} {ini : Bool} {R0 : Room} {G0 : GD} {l0 : Launch} {ret : Option FieldType} {post : PO} {L : List Nat} {f : Nat → va_E} {k n pc : Nat} {lv : List (Nat × Value)} {st : List Value}
theorem g_daload (hC : CxOk C cc nL own ini R0 G0 l0 ret post) {a N : Nat} {r : Nat → UInt64} {i : Int32} (hdg : decode cc pc = .ok (.daload, 1)) (hL : a ∈ L) (he : f a = .inl (G0.2.1, N, .inr (.inr (.inr (.inl r))))) (hi : vp_in i N) (kk : V C nL L f k n (pc + 1) lv (.double (r i.toNatClampNeg) :: st)) : V C nL L f k n pc lv (.int i :: .ref a :: st) := by
  obtain ⟨p, l, e, R, s, m, args, below, meth, c, G, A, H0, Q⟩ := C
  obtain ⟨hx, hb, hml, hown, hts, hK, hN, hA, rfl, rfl, rfl, hin, hexit⟩ := hC
  intro H locs d ls hd hP hD hS hl
  obtain ⟨q0, hq⟩ := pl_at hL he
  exact va_dald (s := s.setDrawn d) hx hb hK hP q0 0 hq rfl hi hdg (kk H locs d ls hd hP hD hS hl)
theorem g_iaload (hC : CxOk C cc nL own ini R0 G0 l0 ret post) {a N : Nat} {r : Nat → Int32} {i : Int32} (hdg : decode cc pc = .ok (.iaload, 1)) (hL : a ∈ L) (he : f a = .inl (G0.2.2.1, N, .inl r)) (hi : vp_in i N) (kk : V C nL L f k n (pc + 1) lv (.int (r i.toNatClampNeg) :: st)) : V C nL L f k n pc lv (.int i :: .ref a :: st) := by
  obtain ⟨p, l, e, R, s, m, args, below, meth, c, G, A, H0, Q⟩ := C
  obtain ⟨hx, hb, hml, hown, hts, hK, hN, hA, rfl, rfl, rfl, hin, hexit⟩ := hC
  intro H locs d ls hd hP hD hS hl
  obtain ⟨q0, hq⟩ := pl_at hL he
  exact va_iald (s := s.setDrawn d) hx hb hK hP q0 1 hq rfl hi hdg (kk H locs d ls hd hP hD hS hl)
theorem g_zaload (hC : CxOk C cc nL own ini R0 G0 l0 ret post) {a N : Nat} {r : Nat → Int32} {i : Int32} (hdg : decode cc pc = .ok (.baload, 1)) (hL : a ∈ L) (he : f a = .inl (G0.2.2.2.1, N, .inl r)) (hi : vp_in i N) (kk : V C nL L f k n (pc + 1) lv (.int (r i.toNatClampNeg) :: st)) : V C nL L f k n pc lv (.int i :: .ref a :: st) := by
  obtain ⟨p, l, e, R, s, m, args, below, meth, c, G, A, H0, Q⟩ := C
  obtain ⟨hx, hb, hml, hown, hts, hK, hN, hA, rfl, rfl, rfl, hin, hexit⟩ := hC
  intro H locs d ls hd hP hD hS hl
  obtain ⟨q0, hq⟩ := pl_at hL he
  exact va_zald (s := s.setDrawn d) hx hb hK hP q0 2 hq rfl hi hdg (kk H locs d ls hd hP hD hS hl)
theorem g_laload (hC : CxOk C cc nL own ini R0 G0 l0 ret post) {a N : Nat} {r : Nat → Option Nat} {i : Int32} (hdg : decode cc pc = .ok (.aaload, 1)) (hL : a ∈ L) (he : f a = .inl (G0.2.2.2.2.1, N, .inr (.inr (.inr (.inr r))))) (hi : vp_in i N) (kk : V C nL L f k n (pc + 1) lv (va_rf (r i.toNatClampNeg) :: st)) : V C nL L f k n pc lv (.int i :: .ref a :: st) := by
  obtain ⟨p, l, e, R, s, m, args, below, meth, c, G, A, H0, Q⟩ := C
  obtain ⟨hx, hb, hml, hown, hts, hK, hN, hA, rfl, rfl, rfl, hin, hexit⟩ := hC
  intro H locs d ls hd hP hD hS hl
  obtain ⟨q0, hq⟩ := pl_at hL he
  exact va_aldq (C := "LoopLaws$Loop") (s := s.setDrawn d) hx hb hK hP q0 3 hq rfl hi hdg (kk H locs d ls hd hP hD hS hl)
theorem g_paload (hC : CxOk C cc nL own ini R0 G0 l0 ret post) {a N : Nat} {r : Nat → Option Nat} {i : Int32} (hdg : decode cc pc = .ok (.aaload, 1)) (hL : a ∈ L) (he : f a = .inl (G0.2.2.2.2.2, N, .inr (.inr (.inr (.inr r))))) (hi : vp_in i N) (kk : V C nL L f k n (pc + 1) lv (va_rf (r i.toNatClampNeg) :: st)) : V C nL L f k n pc lv (.int i :: .ref a :: st) := by
  obtain ⟨p, l, e, R, s, m, args, below, meth, c, G, A, H0, Q⟩ := C
  obtain ⟨hx, hb, hml, hown, hts, hK, hN, hA, rfl, rfl, rfl, hin, hexit⟩ := hC
  intro H locs d ls hd hP hD hS hl
  obtain ⟨q0, hq⟩ := pl_at hL he
  exact va_aldq (C := "LoopLaws$Split") (s := s.setDrawn d) hx hb hK hP q0 4 hq rfl hi hdg (kk H locs d ls hd hP hD hS hl)
theorem g_dastore (hC : CxOk C cc nL own ini R0 G0 l0 ret post) {a N : Nat} {r : Nat → UInt64} {i : Int32} {x : UInt64} (hdg : decode cc pc = .ok (.dastore, 1)) (hL : a ∈ L) (he : f a = .inl (G0.2.1, N, .inr (.inr (.inr (.inl r))))) (hi : vp_in i N) (kk : V C nL L (va_up f a (.inl (G0.2.1, N, .inr (.inr (.inr (.inl (va_up r i.toNatClampNeg x))))))) k n (pc + 1) lv st) : V C nL L f k n pc lv (.double x :: .int i :: .ref a :: st) := by
  obtain ⟨p, l, e, R, s, m, args, below, meth, c, G, A, H0, Q⟩ := C
  obtain ⟨hx, hb, hml, hown, hts, hK, hN, hA, rfl, rfl, rfl, hin, hexit⟩ := hC
  intro H locs d ls hd hP hD hS hl
  obtain ⟨q0, hq⟩ := pl_at hL he
  exact va_dast (s := s.setDrawn d) hx hb hK hP hD hS q0 0 hq rfl hi hdg (fun H1 locs1 hP1 hD1 hS1 => kk H1 locs1 d ls hd (pl_set hD hL he hq ▸ hP1) (pl_set hD hL he hq ▸ hD1) hS1 hl)
theorem g_iastore (hC : CxOk C cc nL own ini R0 G0 l0 ret post) {a N : Nat} {r : Nat → Int32} {i : Int32} {x : Int32} (hdg : decode cc pc = .ok (.iastore, 1)) (hL : a ∈ L) (he : f a = .inl (G0.2.2.1, N, .inl r)) (hi : vp_in i N) (kk : V C nL L (va_up f a (.inl (G0.2.2.1, N, .inl (va_up r i.toNatClampNeg x)))) k n (pc + 1) lv st) : V C nL L f k n pc lv (.int x :: .int i :: .ref a :: st) := by
  obtain ⟨p, l, e, R, s, m, args, below, meth, c, G, A, H0, Q⟩ := C
  obtain ⟨hx, hb, hml, hown, hts, hK, hN, hA, rfl, rfl, rfl, hin, hexit⟩ := hC
  intro H locs d ls hd hP hD hS hl
  obtain ⟨q0, hq⟩ := pl_at hL he
  exact va_iast (s := s.setDrawn d) hx hb hK hP hD hS q0 1 hq rfl hi hdg (fun H1 locs1 hP1 hD1 hS1 => kk H1 locs1 d ls hd (pl_set hD hL he hq ▸ hP1) (pl_set hD hL he hq ▸ hD1) hS1 hl)
theorem g_zastore (hC : CxOk C cc nL own ini R0 G0 l0 ret post) {a N : Nat} {r : Nat → Int32} {i : Int32} {x : Int32} (hdg : decode cc pc = .ok (.bastore, 1)) (hL : a ∈ L) (he : f a = .inl (G0.2.2.2.1, N, .inl r)) (hi : vp_in i N) (kk : V C nL L (va_up f a (.inl (G0.2.2.2.1, N, .inl (va_up r i.toNatClampNeg (vp_nar .boolean x))))) k n (pc + 1) lv st) : V C nL L f k n pc lv (.int x :: .int i :: .ref a :: st) := by
  obtain ⟨p, l, e, R, s, m, args, below, meth, c, G, A, H0, Q⟩ := C
  obtain ⟨hx, hb, hml, hown, hts, hK, hN, hA, rfl, rfl, rfl, hin, hexit⟩ := hC
  intro H locs d ls hd hP hD hS hl
  obtain ⟨q0, hq⟩ := pl_at hL he
  exact va_zast (s := s.setDrawn d) hx hb hK hP hD hS q0 2 hq rfl hi hdg (fun H1 locs1 hP1 hD1 hS1 => kk H1 locs1 d ls hd (pl_set hD hL he hq ▸ hP1) (pl_set hD hL he hq ▸ hD1) hS1 hl)
theorem g_lastore (hC : CxOk C cc nL own ini R0 G0 l0 ret post) {a b N : Nat} {r : Nat → Option Nat} {vs : List Value} {i : Int32} (hdg : decode cc pc = .ok (.aastore, 1)) (hL : a ∈ L) (he : f a = .inl (G0.2.2.2.2.1, N, .inr (.inr (.inr (.inr r))))) (hLb : b ∈ L) (hb0 : f b = .inr (0, vs)) (hi : vp_in i N) (kk : V C nL L (va_up f a (.inl (G0.2.2.2.2.1, N, .inr (.inr (.inr (.inr (va_up r i.toNatClampNeg (some b)))))))) k n (pc + 1) lv st) : V C nL L f k n pc lv (.ref b :: .int i :: .ref a :: st) := by
  obtain ⟨p, l, e, R, s, m, args, below, meth, c, G, A, H0, Q⟩ := C
  obtain ⟨hx, hb, hml, hown, hts, hK, hN, hA, rfl, rfl, rfl, hin, hexit⟩ := hC
  intro H locs d ls hd hP hD hS hl
  obtain ⟨q0, hq⟩ := pl_at hL he
  obtain ⟨qb, hqb⟩ := pl_at hLb hb0
  exact va_astq (s := s.setDrawn d) hx hb hK hP hD hS q0 3 qb 0 (r := (RX0, TX0, 16)) hq rfl hqb rfl hi hdg (fun H1 locs1 hP1 hD1 hS1 => kk H1 locs1 d ls hd (pl_set hD hL he hq ▸ hP1) (pl_set hD hL he hq ▸ hD1) hS1 hl)
theorem g_pastore (hC : CxOk C cc nL own ini R0 G0 l0 ret post) {a b N : Nat} {r : Nat → Option Nat} {vs : List Value} {i : Int32} (hdg : decode cc pc = .ok (.aastore, 1)) (hL : a ∈ L) (he : f a = .inl (G0.2.2.2.2.2, N, .inr (.inr (.inr (.inr r))))) (hLb : b ∈ L) (hb0 : f b = .inr (2, vs)) (hi : vp_in i N) (kk : V C nL L (va_up f a (.inl (G0.2.2.2.2.2, N, .inr (.inr (.inr (.inr (va_up r i.toNatClampNeg (some b)))))))) k n (pc + 1) lv st) : V C nL L f k n pc lv (.ref b :: .int i :: .ref a :: st) := by
  obtain ⟨p, l, e, R, s, m, args, below, meth, c, G, A, H0, Q⟩ := C
  obtain ⟨hx, hb, hml, hown, hts, hK, hN, hA, rfl, rfl, rfl, hin, hexit⟩ := hC
  intro H locs d ls hd hP hD hS hl
  obtain ⟨q0, hq⟩ := pl_at hL he
  obtain ⟨qb, hqb⟩ := pl_at hLb hb0
  exact va_astq (s := s.setDrawn d) hx hb hK hP hD hS q0 4 qb 2 (r := (RX2, TX2, 2)) hq rfl hqb rfl hi hdg (fun H1 locs1 hP1 hD1 hS1 => kk H1 locs1 d ls hd (pl_set hD hL he hq ▸ hP1) (pl_set hD hL he hq ▸ hD1) hS1 hl)
theorem g_alen (hC : CxOk C cc nL own ini R0 G0 l0 ret post) {a : Nat} {N : Nat} {cA : ClassId} {r : (Nat → Int32) ⊕ (Nat → Int64) ⊕ (Nat → UInt32) ⊕ (Nat → UInt64) ⊕ (Nat → Option Nat)} (t0 : Nat) {ty : FieldType} (v : Int32) (hdg : decode cc pc = .ok (.arraylength, 1)) (hL : a ∈ L) (he : f a = .inl (cA, N, r)) (ht : (tysG G0)[t0]? = some (cA, ty)) (hv : Int32.ofNat N = v) (kk : V C nL L f k n (pc + 1) lv (.int v :: st)) : V C nL L f k n pc lv (.ref a :: st) := by
  obtain ⟨p, l, e, R, s, m, args, below, meth, c, G, A, H0, Q⟩ := C
  obtain ⟨hx, hb, hml, hown, hts, hK, hN, hA, rfl, rfl, rfl, hin, hexit⟩ := hC
  intro H locs d ls hd hP hD hS hl
  obtain ⟨q0, hq⟩ := pl_at hL he
  exact va_alen (s := s.setDrawn d) hx hb hK hP q0 t0 hq ht hv hdg (kk H locs d ls hd hP hD hS hl)
theorem g_new (hC : CxOk C cc nL own ini R0 G0 l0 ret post) {ix ci N : Nat} {Cn : String} {TT : u_T} {ty0 : Nat → FieldType} (fs : List Value) (hdg : decode cc pc = .ok (.new ix, 3)) (hc : vwCl[ci]? = some (Cn, TT, N)) (hu : ∀ w ∈ u_ws Cn TT N, w ∈ lw_all) (hty : ∀ j, j < N → parseFieldDescriptor (TT j).2.2.1 = some (ty0 j)) (hcl : Cond.classLink own ix Cn ∈ lw_all) (hin0 : Cond.instantiable Cn N ∈ lw_all) (hini : Cond.initialized Cn ∈ lw_all) (hfs : ∀ j, j < N → defaultValue (ty0 j) = vp_V fs j) (hk1 : k + 1 ≤ R0.cells) (hn1 : n + N ≤ R0.slots) (kk : ∀ q : Nat, q ∉ L → V C nL (L ++ [q]) (va_up f q (.inr (ci, fs))) (k + 1) (n + N) (pc + 3) lv (.ref q :: st)) : V C nL L f k n pc lv st := by
  obtain ⟨p, l, e, R, s, m, args, below, meth, c, G, A, H0, Q⟩ := C
  obtain ⟨hx, hb, hml, hown, hts, hK, hN, hA, rfl, rfl, rfl, hin, hexit⟩ := hC
  intro H locs d ls hd hP hD hS hl
  refine va_new (s := s.setDrawn d) hx hb (dr_words hts d) hu ty0 hty hown (dr_words hts d _ hcl) (dr_words hts d _ hin0) (dr_words hts d _ hini) hK hP hD hS hA hc hfs hk1 hn1 hdg (fun q H1 hP1 hD1 hS1 => ?_)
  obtain ⟨hq, he⟩ := pl_push hD1
  exact kk q hq H1 locs d ls hd (he ▸ hP1) (he ▸ hD1) hS1 hl
theorem g_newD (hC : CxOk C cc nL own ini R0 G0 l0 ret post) (hdg : decode cc pc = .ok (.newarray .double, 2)) (hw : Cond.arrayClass .double ∈ lw_all) (hk1 : k + 1 ≤ R0.cells) (hn1 : n + 16 ≤ R0.slots) (kk : ∀ q : Nat, q ∉ L → V C nL (L ++ [q]) (va_up f q (.inl (G0.2.1, 16, .inr (.inr (.inr (.inl (fun _ => 0))))))) (k + 1) (n + 16) (pc + 2) lv (.ref q :: st)) : V C nL L f k n pc lv (.int 16 :: st) := by
  obtain ⟨p, l, e, R, s, m, args, below, meth, c, G, A, H0, Q⟩ := C
  obtain ⟨hx, hb, hml, hown, hts, hK, hN, hA, rfl, rfl, rfl, hin, hexit⟩ := hC
  intro H locs d ls hd hP hD hS hl
  refine va_newa (s := s.setDrawn d) (atype := .double) hx hb (dr_words hts d _ hw) (ty := .double) rfl hK hP hD hS hA (N' := 16) (a0 := (16, .inr (.inr (.inr (.inl (fun _ => 0)))))) (fun cA => vp_cell_d _ _ _) (by decide) (by decide) (by decide) hk1 hn1 hdg (fun q cA H1 hK1 hP1 hD1 hS1 => ?_)
  have e1 := (hK1.2 5 (cA, .double) rfl).2
  have e2 := (hK.2 0 (G.2.1, .double) rfl).2
  have e3 : cA = G.2.1 := Option.some.inj (e1.symm.trans e2)
  subst e3
  obtain ⟨hq, he⟩ := pl_push hD1
  exact kk q hq H1 locs d ls hd (he ▸ hP1) (he ▸ hD1) hS1 hl
theorem g_newI (hC : CxOk C cc nL own ini R0 G0 l0 ret post) (hdg : decode cc pc = .ok (.newarray .int, 2)) (hw : Cond.arrayClass .int ∈ lw_all) (hk1 : k + 1 ≤ R0.cells) (hn1 : n + 16 ≤ R0.slots) (kk : ∀ q : Nat, q ∉ L → V C nL (L ++ [q]) (va_up f q (.inl (G0.2.2.1, 16, .inl (fun _ => 0)))) (k + 1) (n + 16) (pc + 2) lv (.ref q :: st)) : V C nL L f k n pc lv (.int 16 :: st) := by
  obtain ⟨p, l, e, R, s, m, args, below, meth, c, G, A, H0, Q⟩ := C
  obtain ⟨hx, hb, hml, hown, hts, hK, hN, hA, rfl, rfl, rfl, hin, hexit⟩ := hC
  intro H locs d ls hd hP hD hS hl
  refine va_newa (s := s.setDrawn d) (atype := .int) hx hb (dr_words hts d _ hw) (ty := .int) rfl hK hP hD hS hA (N' := 16) (a0 := (16, .inl (fun _ => 0))) (fun cA => rfl) (by decide) (by decide) (by decide) hk1 hn1 hdg (fun q cA H1 hK1 hP1 hD1 hS1 => ?_)
  have e1 := (hK1.2 5 (cA, .int) rfl).2
  have e2 := (hK.2 1 (G.2.2.1, .int) rfl).2
  have e3 : cA = G.2.2.1 := Option.some.inj (e1.symm.trans e2)
  subst e3
  obtain ⟨hq, he⟩ := pl_push hD1
  exact kk q hq H1 locs d ls hd (he ▸ hP1) (he ▸ hD1) hS1 hl
theorem g_newZ (hC : CxOk C cc nL own ini R0 G0 l0 ret post) (hdg : decode cc pc = .ok (.newarray .boolean, 2)) (hw : Cond.arrayClass .boolean ∈ lw_all) (hk1 : k + 1 ≤ R0.cells) (hn1 : n + 16 ≤ R0.slots) (kk : ∀ q : Nat, q ∉ L → V C nL (L ++ [q]) (va_up f q (.inl (G0.2.2.2.1, 16, .inl (fun _ => 0)))) (k + 1) (n + 16) (pc + 2) lv (.ref q :: st)) : V C nL L f k n pc lv (.int 16 :: st) := by
  obtain ⟨p, l, e, R, s, m, args, below, meth, c, G, A, H0, Q⟩ := C
  obtain ⟨hx, hb, hml, hown, hts, hK, hN, hA, rfl, rfl, rfl, hin, hexit⟩ := hC
  intro H locs d ls hd hP hD hS hl
  refine va_newa (s := s.setDrawn d) (atype := .boolean) hx hb (dr_words hts d _ hw) (ty := .boolean) rfl hK hP hD hS hA (N' := 16) (a0 := (16, .inl (fun _ => 0))) (fun cA => rfl) (by decide) (by decide) (by decide) hk1 hn1 hdg (fun q cA H1 hK1 hP1 hD1 hS1 => ?_)
  have e1 := (hK1.2 5 (cA, .boolean) rfl).2
  have e2 := (hK.2 2 (G.2.2.2.1, .boolean) rfl).2
  have e3 : cA = G.2.2.2.1 := Option.some.inj (e1.symm.trans e2)
  subst e3
  obtain ⟨hq, he⟩ := pl_push hD1
  exact kk q hq H1 locs d ls hd (he ▸ hP1) (he ▸ hD1) hS1 hl
theorem g_newL (hC : CxOk C cc nL own ini R0 G0 l0 ret post) {ix : Nat} (hdg : decode cc pc = .ok (.anewarray ix, 3)) (hcl : Cond.classLink own ix "LoopLaws$Loop" ∈ lw_all) (hk1 : k + 1 ≤ R0.cells) (hn1 : n + 16 ≤ R0.slots) (kk : ∀ q : Nat, q ∉ L → V C nL (L ++ [q]) (va_up f q (.inl (G0.2.2.2.2.1, 16, .inr (.inr (.inr (.inr (fun _ => none))))))) (k + 1) (n + 16) (pc + 3) lv (.ref q :: st)) : V C nL L f k n pc lv (.int 16 :: st) := by
  obtain ⟨p, l, e, R, s, m, args, below, meth, c, G, A, H0, Q⟩ := C
  obtain ⟨hx, hb, hml, hown, hts, hK, hN, hA, rfl, rfl, rfl, hin, hexit⟩ := hC
  intro H locs d ls hd hP hD hS hl
  refine va_newq (s := s.setDrawn d) (C := "LoopLaws$Loop") hx hb hown (dr_words hts d _ hcl) (hN.2.1.moved (Vm.Alike.refl _)) hK hP hD hS hA (N' := 16) (by decide) (by decide) (by decide) hk1 hn1 hdg (fun q cA H1 hK1 hP1 hD1 hS1 => ?_)
  obtain ⟨_, _, -, -, -, e1⟩ := (hK1.2 5 (cA, .object "LoopLaws$Loop") rfl).2
  obtain ⟨_, _, -, -, -, e2⟩ := (hK.2 3 (G.2.2.2.2.1, .object "LoopLaws$Loop") rfl).2
  have e3 : cA = G.2.2.2.2.1 := Option.some.inj (e1.symm.trans e2)
  subst e3
  obtain ⟨hq, he⟩ := pl_push hD1
  exact kk q hq H1 locs d ls hd (he ▸ hP1) (he ▸ hD1) hS1 hl
theorem g_newP (hC : CxOk C cc nL own ini R0 G0 l0 ret post) {ix : Nat} (hdg : decode cc pc = .ok (.anewarray ix, 3)) (hcl : Cond.classLink own ix "LoopLaws$Split" ∈ lw_all) (hk1 : k + 1 ≤ R0.cells) (hn1 : n + 16 ≤ R0.slots) (kk : ∀ q : Nat, q ∉ L → V C nL (L ++ [q]) (va_up f q (.inl (G0.2.2.2.2.2, 16, .inr (.inr (.inr (.inr (fun _ => none))))))) (k + 1) (n + 16) (pc + 3) lv (.ref q :: st)) : V C nL L f k n pc lv (.int 16 :: st) := by
  obtain ⟨p, l, e, R, s, m, args, below, meth, c, G, A, H0, Q⟩ := C
  obtain ⟨hx, hb, hml, hown, hts, hK, hN, hA, rfl, rfl, rfl, hin, hexit⟩ := hC
  intro H locs d ls hd hP hD hS hl
  refine va_newq (s := s.setDrawn d) (C := "LoopLaws$Split") hx hb hown (dr_words hts d _ hcl) (hN.2.2.moved (Vm.Alike.refl _)) hK hP hD hS hA (N' := 16) (by decide) (by decide) (by decide) hk1 hn1 hdg (fun q cA H1 hK1 hP1 hD1 hS1 => ?_)
  obtain ⟨_, _, -, -, -, e1⟩ := (hK1.2 5 (cA, .object "LoopLaws$Split") rfl).2
  obtain ⟨_, _, -, -, -, e2⟩ := (hK.2 4 (G.2.2.2.2.2, .object "LoopLaws$Split") rfl).2
  have e3 : cA = G.2.2.2.2.2 := Option.some.inj (e1.symm.trans e2)
  subst e3
  obtain ⟨hq, he⟩ := pl_push hD1
  exact kk q hq H1 locs d ls hd (he ▸ hP1) (he ▸ hD1) hS1 hl
theorem g_objInit (hC : CxOk C cc nL own ini R0 G0 l0 ret post) {ix a : Nat} (hdg : decode cc pc = .ok (.invokespecial ix, 3)) (hw : Cond.methodLink own ix objectInit ∈ lw_all) (h1 : 1 ≤ R0.frames) (h2 : 12 ≤ R0.locals) (kk : V C nL L f k n (pc + 3) lv []) : V C nL L f k n pc lv [.ref a] := by
  obtain ⟨p, l, e, R, s, m, args, below, meth, c, G, A, H0, Q⟩ := C
  obtain ⟨hx, hb, hml, hown, hts, hK, hN, hA, rfl, rfl, rfl, hin, hexit⟩ := hC
  intro H locs d ls hd hP hD hS hl
  exact W.objInit (s := s.setDrawn d) hx hb hown (dr_words hts d _ hw) (dr_words hts d _ q_im_obj_init) (dr_words hts d _ q_code_obj_init) (g := F0 m pc ls [.ref a]) rfl (by rw [hml]; exact hl.1) rfl hdg h1 h2 (kk H locs d ls hd hP hD hS hl)
theorem g_vret (hC : CxOk C cc nL own ini R0 G0 l0 ret post) (hdg : decode cc pc = .ok (.return_, 1)) (hr : ret = none) (hp : post none L f) (hk1 : k ≤ R0.cells) (hn1 : n ≤ R0.slots) : V C nL L f k n pc lv [] := by
  obtain ⟨p, l, e, R, s, m, args, below, meth, c, G, A, H0, Q⟩ := C
  obtain ⟨hx, hb, hml, hown, hts, hK, hN, hA, rfl, rfl, rfl, hin, hexit⟩ := hC
  intro H locs d ls hd hP hD hS hl
  exact hexit none L f k n pc H locs d ls hk1 hn1 (Or.inl ⟨hr, rfl, hdg⟩) hp hd hP hD hS
theorem g_iret (hC : CxOk C cc nL own ini R0 G0 l0 ret post) {x : Int32} {ty : FieldType} (hdg : decode cc pc = .ok (.ireturn, 1)) (hr : ret = some ty) (hnr : narrow ty (.int x) = .int x) (hp : post (some (.int x)) L f) (hk1 : k ≤ R0.cells) (hn1 : n ≤ R0.slots) : V C nL L f k n pc lv [.int x] := by
  obtain ⟨p, l, e, R, s, m, args, below, meth, c, G, A, H0, Q⟩ := C
  obtain ⟨hx, hb, hml, hown, hts, hK, hN, hA, rfl, rfl, rfl, hin, hexit⟩ := hC
  intro H locs d ls hd hP hD hS hl
  exact hexit (some (.int x)) L f k n pc H locs d ls hk1 hn1 (Or.inr (Or.inl ⟨ty, x, hr, rfl, hnr, hdg⟩)) hp hd hP hD hS
theorem g_dret (hC : CxOk C cc nL own ini R0 G0 l0 ret post) {x : UInt64} (hdg : decode cc pc = .ok (.dreturn, 1)) (hr : ret = some .double) (hp : post (some (.double x)) L f) (hk1 : k ≤ R0.cells) (hn1 : n ≤ R0.slots) : V C nL L f k n pc lv [.double x] := by
  obtain ⟨p, l, e, R, s, m, args, below, meth, c, G, A, H0, Q⟩ := C
  obtain ⟨hx, hb, hml, hown, hts, hK, hN, hA, rfl, rfl, rfl, hin, hexit⟩ := hC
  intro H locs d ls hd hP hD hS hl
  exact hexit (some (.double x)) L f k n pc H locs d ls hk1 hn1 (Or.inr (Or.inr (Or.inl ⟨x, hr, rfl, hdg⟩))) hp hd hP hD hS
theorem g_aret (hC : CxOk C cc nL own ini R0 G0 l0 ret post) {x : Option Nat} {nn : String} (hdg : decode cc pc = .ok (.areturn, 1)) (hr : ret = some (.object nn)) (hp : post (some (va_rf x)) L f) (hk1 : k ≤ R0.cells) (hn1 : n ≤ R0.slots) : V C nL L f k n pc lv [va_rf x] := by
  obtain ⟨p, l, e, R, s, m, args, below, meth, c, G, A, H0, Q⟩ := C
  obtain ⟨hx, hb, hml, hown, hts, hK, hN, hA, rfl, rfl, rfl, hin, hexit⟩ := hC
  intro H locs d ls hd hP hD hS hl
  exact hexit (some (va_rf x)) L f k n pc H locs d ls hk1 hn1 (Or.inr (Or.inr (Or.inr ⟨nn, x, hr, rfl, hdg⟩))) hp hd hP hD hS
end G
section GB
variable {p : Program} {l : Launch} {e : Env} {R : Room} {s : State} {m : MethodId} {args : Array Value} {below : List Frame} {meth : Method} {c : Code} {H : Heap} {locs : List Loc} {k n mc ms : Nat} {Q : State → Prop} {pc : Nat} {ls : Array Slot} {st st0 : List Value} {A0 : Nat → Prop} {H0 : Heap} {D : va_G} {L : List Nat} {f : Nat → va_E} {d : Drawn}
/-- back from a call of a contract -/
theorem g_back {post1 : PO} (hd : s.drawn.sameBut d lw_cs) (hD : va_D A0 (va_pl L f)) (hS : va_S A0 H0 H locs) (hA : ∀ q, H0.size ≤ q → A0 q)
    (hr : va_RunD lw_cs p l e R (s.setDrawn d) m args below meth c H locs k n mc ms (F0 m pc ls st0) st (fun st₁ oc t => (∃ (v : Option Value) (L1 : List Nat) (f1 : Nat → va_E), oc = .returned v ∧ post1 v L1 f1 ∧ va_P D vwCl (va_pl L1 f1) t.heap ∧ va_D (va_A (va_pl L f) H.size) (va_pl L1 f1)) ∧ va_F (va_A (va_pl L f) H.size) st₁ t) (va_A (va_pl L f) H.size))
    (kk : ∀ (v : Option Value) (L1 : List Nat) (f1 : Nat → va_E), post1 v L1 f1 → ∀ (H1 : Heap) (locs1 : List Loc) (d1 : Drawn), s.drawn.sameBut d1 lw_cs → va_P D vwCl (va_pl L1 f1) H1 → va_D A0 (va_pl L1 f1) → va_S A0 H0 H1 locs1 → W p l e R (s.setDrawn d1) m args below meth c H1 locs1 (k + mc) (n + ms) Q (F0 m (pc + 3) ls (v.toList ++ st))) :
    W p l e R (s.setDrawn d) m args below meth c H locs k n Q (F0 m pc ls st0) := by
  intro T hT X
  obtain ⟨v, st₁, t, T1, Lc, d1, hd1, h0, X1, hL, e1, e2, ⟨⟨v1, L1, f1, hv, hp, hP1, hD1⟩, hz, hk⟩, st⟩ := hr T hT X
  cases hv
  have hfr := pl_free hD hS hA
  rw [h0] at hz hk
  obtain ⟨t2, a1, b1⟩ := kk v L1 f1 hp T1.heap (locs ++ Lc) d1 (hd.trans hd1) (by rw [e1]; exact hP1) (hD1.weaken (fun _ q _ h => hfr q.1 h))
    ⟨Nat.le_trans hS.1 (by rw [e1]; exact hz), fun q h1 h2 => by rw [e1, hk q (Nat.lt_of_lt_of_le h1 hS.1) (fun z => h2 (hfr q z))]; exact hS.2.1 q h1 h2, fun q hq => by
      rcases List.mem_append.mp hq with h | h
      · exact hS.2.2 q h
      · exact hfr _ (hL q h)⟩ T1 rfl X1
  exact ⟨t2, st t2 a1, b1⟩
end GB
section GC
variable {C : CX} {cc : ByteArray} {nL : Nat} {own : String} {ini : Bool} {R0 : Room} {G0 : GD} {l0 : Launch} {ret : Option FieldType} {post : PO} {L : List Nat} {f : Nat → va_E} {k n pc : Nat} {lv : List (Nat × Value)} {st : List Value}
variable {y : MethodName} {bytes : ByteArray} {maxL : Nat} {ret1 : Option FieldType} {rm : Room} {As : List Value} {post1 : PO} {ix : Nat}
theorem g_callV (hC : CxOk C cc nL own ini R0 G0 l0 ret post) {b ci N : Nat} {Cn : String} {TT : u_T} {fs : List Value} (hdg : decode cc pc = .ok (.invokevirtual ix, 3)) (hM : Ctr l0 y bytes maxL ret1 rm G0 (.ref b :: As) L f post1) (hcode : Cond.code y bytes maxL ret1 ∈ lw_all) (hml0 : Cond.methodLink own ix y ∈ lw_all) (him : Cond.instanceMethod y ∈ lw_all) (hsel : Cond.selects Cn y y ∈ lw_all) (hini : Cond.initialized Cn ∈ lw_all) (hy : y.cls = Cn ∧ y.cls ≠ "java/lang/invoke/MethodHandle" ∧ y.cls ≠ "java/lang/invoke/VarHandle" ∧ (parseMethodDescriptor y.desc).map (fun d => d.parameters.length) = some As.length) (hL : b ∈ L) (he : f b = .inr (ci, fs)) (hc : vwCl[ci]? = some (Cn, TT, N)) (hrf : rm.frames + 1 ≤ R0.frames ∧ 8 + (maxL + 11) + rm.locals ≤ R0.locals) (hcs : k + rm.cells ≤ R0.cells ∧ n + rm.slots ≤ R0.slots) (hst : (st.map fun v => v.category).sum ≤ 8) (kk : ∀ (v : Option Value) (L1 : List Nat) (f1 : Nat → va_E), post1 v L1 f1 → V C nL L1 f1 (k + rm.cells) (n + rm.slots) (pc + 3) lv (v.toList ++ st)) : V C nL L f k n pc lv (As.reverse ++ .ref b :: st) := by
  obtain ⟨p, l, e, R, s, m, args, below, meth, c, G, A, H0, Q⟩ := C
  obtain ⟨hx, hb, hml, hown, hts, hK, hN, hA, rfl, rfl, rfl, hin, hexit⟩ := hC
  intro H locs d ls hd hP hD hS hl
  obtain ⟨q0, hq⟩ := pl_at hL he
  have hts1 := dr_words hts d
  have hrec : ∃ cell : Cell, H[b]? = some cell ∧ cell.vm.isStatics = false ∧ (s.setDrawn d).vm.findClass Cn = some cell.cls := va_recv (s := s.setDrawn d) hK hP hc hq
  obtain ⟨hy0, hy1, hy2, hy3⟩ := hy
  subst hy0
  have hcw : CallW R (s.setDrawn d) args own y.cls ix y bytes maxL ret1 (ws_ y bytes maxL ret1) rm rm.cells rm.slots As.length := ⟨callB_of As.length hts1 (ws_good hcode) rfl rfl rfl (hts1 _ hini) (hts1 _ hml0) ⟨hy1, hy2, hy3⟩ hrf, hts1 _ him, hts1 _ hsel⟩
  exact g_back hd hD hS hA (va_runV_D (s := s.setDrawn d) (As := As) (rest := st) ⟨hx, hb, hml, hown, hts1⟩ (hM H.size) hcw ⟨(fun a U g mk q => ⟨q.1, q.2.1, q.2.2.1, va_K.moved (u := U) (U := U.calling g mk a) (Vm.Alike.refl U.vm) q.2.2.2.1, NW.same (s := U) (U := U.calling g mk a) rfl q.2.2.2.2.1, q.2.2.2.2.2⟩), hrec, (fun U hU hW => ⟨rfl, by rw [hU], by rw [hU]; exact hP, va_K.moved hW.alike hK, NW.warm hW (NW.same (s := s) (U := s.setDrawn d) rfl hN), pl_mem hD⟩)⟩ rfl rfl hl.1 rfl (lv_room hst) hdg hcs) (fun v L1 f1 hp H1 locs1 d1 hd1 hP1 hD1 hS1 => kk v L1 f1 hp H1 locs1 d1 ls hd1 hP1 hD1 hS1 hl)
theorem g_callS (hC : CxOk C cc nL own ini R0 G0 l0 ret post) (hdg : decode cc pc = .ok (.invokestatic ix, 3)) (hM : Ctr l0 y bytes maxL ret1 rm G0 As L f post1) (hcode : Cond.code y bytes maxL ret1 ∈ lw_all) (hml0 : Cond.methodLink own ix y ∈ lw_all) (hst0 : Cond.static y ∈ lw_all) (hini : Cond.initialized y.cls ∈ lw_all) (hy : y.cls ≠ "java/lang/invoke/MethodHandle" ∧ y.cls ≠ "java/lang/invoke/VarHandle" ∧ (parseMethodDescriptor y.desc).map (fun d => d.parameters.length) = some As.length) (hrf : rm.frames + 1 ≤ R0.frames ∧ 8 + (maxL + 11) + rm.locals ≤ R0.locals) (hcs : k + rm.cells ≤ R0.cells ∧ n + rm.slots ≤ R0.slots) (hst : (st.map fun v => v.category).sum ≤ 8) (kk : ∀ (v : Option Value) (L1 : List Nat) (f1 : Nat → va_E), post1 v L1 f1 → V C nL L1 f1 (k + rm.cells) (n + rm.slots) (pc + 3) lv (v.toList ++ st)) : V C nL L f k n pc lv (As.reverse ++ st) := by
  obtain ⟨p, l, e, R, s, m, args, below, meth, c, G, A, H0, Q⟩ := C
  obtain ⟨hx, hb, hml, hown, hts, hK, hN, hA, rfl, rfl, rfl, hin, hexit⟩ := hC
  intro H locs d ls hd hP hD hS hl
  have hts1 := dr_words hts d
  refine g_back hd hD hS hA (va_runS_D (s := s.setDrawn d) (As := As) (rest := st) ⟨hx, hb, hml, hown, hts1⟩ (hM H.size) ⟨callB_of As.length hts1 (ws_good hcode) rfl rfl rfl (hts1 _ hini) (hts1 _ hml0) hy hrf, hts1 _ hst0⟩ ⟨(fun a U g mk q => ⟨q.1, q.2.1, q.2.2.1, va_K.moved (u := U) (U := U.calling g mk a) (Vm.Alike.refl U.vm) q.2.2.2.1, NW.same (s := U) (U := U.calling g mk a) rfl q.2.2.2.2.1, q.2.2.2.2.2⟩), (fun U hU hW => ⟨rfl, by rw [hU], by rw [hU]; exact hP, va_K.moved hW.alike hK, NW.warm hW (NW.same (s := s) (U := s.setDrawn d) rfl hN), pl_mem hD⟩)⟩ rfl rfl hl.1 rfl (lv_room hst) hdg hcs) (fun v L1 f1 hp H1 locs1 d1 hd1 hP1 hD1 hS1 => kk v L1 f1 hp H1 locs1 d1 ls hd1 hP1 hD1 hS1 hl)
theorem g_callI (hC : CxOk C cc nL own ini R0 G0 l0 ret post) {b : Nat} (hdg : decode cc pc = .ok (.invokespecial ix, 3)) (hM : Ctr l0 y bytes maxL none rm G0 (.ref b :: As) L f post1) (hcode : Cond.code y bytes maxL none ∈ lw_all) (hml0 : Cond.methodLink own ix y ∈ lw_all) (him : Cond.instanceMethod y ∈ lw_all) (hini : Cond.initialized y.cls ∈ lw_all) (hy : y.name = "<init>" ∧ y.cls ≠ "java/lang/invoke/MethodHandle" ∧ y.cls ≠ "java/lang/invoke/VarHandle" ∧ (parseMethodDescriptor y.desc).map (fun d => d.parameters.length) = some As.length) (hrf : rm.frames + 1 ≤ R0.frames ∧ 8 + (maxL + 11) + rm.locals ≤ R0.locals) (hcs : k + rm.cells ≤ R0.cells ∧ n + rm.slots ≤ R0.slots) (hst : (st.map fun v => v.category).sum ≤ 8) (kk : ∀ (v : Option Value) (L1 : List Nat) (f1 : Nat → va_E), post1 v L1 f1 → V C nL L1 f1 (k + rm.cells) (n + rm.slots) (pc + 3) lv (v.toList ++ st)) : V C nL L f k n pc lv (As.reverse ++ .ref b :: st) := by
  obtain ⟨p, l, e, R, s, m, args, below, meth, c, G, A, H0, Q⟩ := C
  obtain ⟨hx, hb, hml, hown, hts, hK, hN, hA, rfl, rfl, rfl, hin, hexit⟩ := hC
  intro H locs d ls hd hP hD hS hl
  have hts1 := dr_words hts d
  refine g_back hd hD hS hA (va_runI_D (s := s.setDrawn d) (As := As) (rest := st) ⟨hx, hb, hml, hown, hts1⟩ (hM H.size) ⟨callB_of As.length hts1 (ws_good hcode) rfl rfl rfl (hts1 _ hini) (hts1 _ hml0) hy.2 hrf, hy.1, hts1 _ him⟩ ⟨(fun a U g mk q => ⟨q.1, q.2.1, q.2.2.1, va_K.moved (u := U) (U := U.calling g mk a) (Vm.Alike.refl U.vm) q.2.2.2.1, NW.same (s := U) (U := U.calling g mk a) rfl q.2.2.2.2.1, q.2.2.2.2.2⟩), (fun U hU hW => ⟨rfl, by rw [hU], by rw [hU]; exact hP, va_K.moved hW.alike hK, NW.warm hW (NW.same (s := s) (U := s.setDrawn d) rfl hN), pl_mem hD⟩)⟩ rfl rfl hl.1 rfl (lv_room hst) hdg hcs) (fun v L1 f1 hp H1 locs1 d1 hd1 hP1 hD1 hS1 => kk v L1 f1 hp H1 locs1 d1 ls hd1 hP1 hD1 hS1 hl)
theorem g_callIN (hC : CxOk C cc nL own ini R0 G0 l0 ret post) {b : Nat} {host : String} (hdg : decode cc pc = .ok (.invokespecial ix, 3)) (hM : Ctr l0 y bytes maxL none rm G0 (.ref b :: As) L f post1) (hcode : Cond.code y bytes maxL none ∈ lw_all) (hml0 : Cond.methodLinkNest own ix y host ∈ lw_nest) (him : Cond.instanceMethod y ∈ lw_all) (hini : Cond.initialized y.cls ∈ lw_all) (hy : y.name = "<init>" ∧ y.cls ≠ "java/lang/invoke/MethodHandle" ∧ y.cls ≠ "java/lang/invoke/VarHandle" ∧ (parseMethodDescriptor y.desc).map (fun d => d.parameters.length) = some As.length) (hrf : rm.frames + 1 ≤ R0.frames ∧ 8 + (maxL + 11) + rm.locals ≤ R0.locals) (hcs : k + rm.cells ≤ R0.cells ∧ n + rm.slots ≤ R0.slots) (hst : (st.map fun v => v.category).sum ≤ 8) (kk : ∀ (v : Option Value) (L1 : List Nat) (f1 : Nat → va_E), post1 v L1 f1 → V C nL L1 f1 (k + rm.cells) (n + rm.slots) (pc + 3) lv (v.toList ++ st)) : V C nL L f k n pc lv (As.reverse ++ .ref b :: st) := by
  obtain ⟨p, l, e, R, s, m, args, below, meth, c, G, A, H0, Q⟩ := C
  obtain ⟨hx, hb, hml, hown, hts, hK, hN, hA, rfl, rfl, rfl, hin, hexit⟩ := hC
  intro H locs d ls hd hP hD hS hl
  have hts1 := dr_words hts d
  refine g_back hd hD hS hA (va_runIN_D (s := s.setDrawn d) (As := As) (rest := st) ⟨hx, hb, hml, hown, hts1⟩ (hM H.size) ⟨va_cnB As.length hts1 (ws_good hcode) rfl rfl rfl (va_Nw.same (u := s) (U := s.setDrawn d) rfl rfl (hN.1 _ hml0)) (hts1 _ hini) hy.2 hrf, hy.1, hts1 _ him⟩ ⟨(fun a U g mk q => ⟨q.1, q.2.1, q.2.2.1, va_K.moved (u := U) (U := U.calling g mk a) (Vm.Alike.refl U.vm) q.2.2.2.1, NW.same (s := U) (U := U.calling g mk a) rfl q.2.2.2.2.1, q.2.2.2.2.2⟩), (fun U hU hW => ⟨rfl, by rw [hU], by rw [hU]; exact hP, va_K.moved hW.alike hK, NW.warm hW (NW.same (s := s) (U := s.setDrawn d) rfl hN), pl_mem hD⟩)⟩ rfl rfl hl.1 rfl (lv_room hst) hdg hcs) (fun v L1 f1 hp H1 locs1 d1 hd1 hP1 hD1 hS1 => kk v L1 f1 hp H1 locs1 d1 ls hd1 hP1 hD1 hS1 hl)
end GC
