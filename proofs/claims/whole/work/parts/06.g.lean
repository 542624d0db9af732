/-! the judgement V: W with heap, locs, draws and the locals' array hidden; the world is one pool (L, f) -/
abbrev GD : Type := va_G × (ClassId × ClassId × ClassId × ClassId × ClassId)
def tysG (G : GD) : List (ClassId × FieldType) := [(G.2.1, .double), (G.2.2.1, .int), (G.2.2.2.1, .boolean), (G.2.2.2.2.1, .object "LoopLaws$Loop"), (G.2.2.2.2.2, .object "LoopLaws$Split")]
abbrev CX : Type := Program × Launch × Env × Room × State × MethodId × Array Value × List Frame × Method × Code × GD × (Nat → Prop) × Heap × (State → Prop)
abbrev PO : Type := Option Value → List Nat → (Nat → va_E) → Prop
def V (C : CX) (nL : Nat) (L : List Nat) (f : Nat → va_E) (k n pc : Nat) (lv : List (Nat × Value)) (st : List Value) : Prop :=
  match C with
  | (p, l, e, R, s, m, args, below, meth, c, G, A, H0, Q) => ∀ (H : Heap) (locs : List Loc) (d : Drawn) (ls : Array Slot), s.drawn.sameBut d lw_cs → va_P G.1 vwCl (va_pl L f) H → va_D A (va_pl L f) → va_S A H0 H locs → lv_has ls nL lv → W p l e R (s.setDrawn d) m args below meth c H locs k n Q (F0 m pc ls st)
def retOk (cc : ByteArray) (ret : Option FieldType) (pc : Nat) (v : Option Value) : Prop :=
  (ret = none ∧ v = none ∧ decode cc pc = .ok (.return_, 1)) ∨
  (∃ (ty : FieldType) (x : Int32), ret = some ty ∧ v = some (.int x) ∧ narrow ty (.int x) = .int x ∧ decode cc pc = .ok (.ireturn, 1)) ∨
  (∃ x : UInt64, ret = some .double ∧ v = some (.double x) ∧ decode cc pc = .ok (.dreturn, 1)) ∨
  (∃ (n : String) (x : Option Nat), ret = some (.object n) ∧ v = some (va_rf x) ∧ decode cc pc = .ok (.areturn, 1))
def CxOk (C : CX) (cc : ByteArray) (nL : Nat) (own : String) (ini : Bool) (R0 : Room) (G0 : GD) (l0 : Launch) (ret : Option FieldType) (post : PO) : Prop :=
  match C with
  | (p, l, e, R, s, m, args, below, meth, c, G, A, H0, Q) =>
    p.tables.exec = Jvm.exec ∧ c.code = cc ∧ c.maxLocals = nL ∧ s.vm.findClass own = some m.cls ∧ (∀ w ∈ lw_all, w.before args s = true) ∧ va_K G.1 vwCl (tysG G) s ∧ NW s ∧ (∀ q : Nat, H0.size ≤ q → A q) ∧ R = R0 ∧ G = G0 ∧ l = l0 ∧ (ini = true → meth.name = "<init>") ∧
    ∀ (v : Option Value) (L : List Nat) (f : Nat → va_E) (k n pc : Nat) (H : Heap) (locs : List Loc) (d : Drawn) (ls : Array Slot), k ≤ R0.cells → n ≤ R0.slots → retOk cc ret pc v → post v L f → s.drawn.sameBut d lw_cs → va_P G.1 vwCl (va_pl L f) H → va_D A (va_pl L f) → va_S A H0 H locs → W p l e R (s.setDrawn d) m args below meth c H locs k n Q (F0 m pc ls v.toList)
/-- a method's contract over the whole pool -/
def Ctr (l : Launch) (y : MethodName) (cc : ByteArray) (maxL : Nat) (ret : Option FieldType) (rm : Room) (G : GD) (av : List Value) (L : List Nat) (f : Nat → va_E) (post : PO) : Prop :=
  ∀ sz : Nat, MetD lw_cs l y (ws_ y cc maxL ret) rm (va_Pc av (fun U => U.heap.size = sz ∧ va_P G.1 vwCl (va_pl L f) U.heap ∧ va_K G.1 vwCl (tysG G) U ∧ NW U ∧ va_D (fun _ => True) (va_pl L f)))
    (fun _ st oc t => (∃ (v : Option Value) (L1 : List Nat) (f1 : Nat → va_E), oc = .returned v ∧ post v L1 f1 ∧ va_P G.1 vwCl (va_pl L1 f1) t.heap ∧ va_D (va_A (va_pl L f) sz) (va_pl L1 f1)) ∧ va_F (va_A (va_pl L f) sz) st t) rm.cells rm.slots (va_A (va_pl L f) sz)
theorem pl_free {A0 : Nat → Prop} {ws : va_W} {H0 H : Heap} {locs : List Loc} (hD : va_D A0 ws) (hS : va_S A0 H0 H locs) (hA : ∀ q, H0.size ≤ q → A0 q) : ∀ q, va_A ws H.size q → A0 q := by
  intro q h
  rcases h with ⟨k, e, h⟩ | h
  · exact hD.2 k (q, e) h
  · exact hA q (Nat.le_trans hS.1 h)
theorem pl_at {L : List Nat} {f : Nat → va_E} {a : Nat} {e : va_E} (h : a ∈ L) (he : f a = e) : ∃ k : Nat, (va_pl L f)[k]? = some (a, e) := by
  obtain ⟨k, hk⟩ := va_pl_get (X := []) (f := f) h
  exact ⟨k, he ▸ hk⟩
theorem pl_set {A : Nat → Prop} {L : List Nat} {f : Nat → va_E} {a k : Nat} {e e0 : va_E} (hD : va_D A (va_pl L f)) (h : a ∈ L) (he : f a = e0) (hk : (va_pl L f)[k]? = some (a, e0)) : (va_pl L f).set k (a, e) = va_pl L (va_up f a e) := by
  subst he
  exact va_pl_set (X := []) hD h hk
theorem pl_push {A : Nat → Prop} {L : List Nat} {f : Nat → va_E} {q : Nat} {e : va_E} (hD : va_D A (va_pl L f ++ [(q, e)])) : q ∉ L ∧ va_pl L f ++ [(q, e)] = va_pl (L ++ [q]) (va_up f q e) := by
  have h : q ∉ L := va_pl_fresh2 (X := []) hD
  exact ⟨h, va_pl_push h⟩
theorem pl_mem {A : Nat → Prop} {L : List Nat} {f : Nat → va_E} (hD : va_D A (va_pl L f)) : va_D (fun _ => True) (va_pl L f) := hD.weaken (fun _ _ _ _ => trivial)
/-- same place, written twice -/
theorem va_up_up {α : Type} (f : Nat → α) (k : Nat) (v w : α) : va_up (va_up f k v) k w = va_up f k w := by
  funext j
  unfold va_up
  split <;> rfl
set_option maxHeartbeats 4000000 in
/-- into a method: its contract out of the walk of its body -/
theorem g_enter {l : Launch} {y : MethodName} {cc : ByteArray} {maxL : Nat} {ret : Option FieldType} {rm : Room} {G : GD} {av : List Value} {L : List Nat} {f : Nat → va_E} {post : PO} (own : String) (ini : Bool) (hy : plainName y.cls = true) (ho : y.cls = own) (hi : ini = true → y.name = "<init>") (hlen : (lg_sl av).length ≤ maxL)
    (body : ∀ C : CX, CxOk C cc maxL own ini rm G l ret post → V C maxL L f 0 0 0 (lv_args 0 av) []) : Ctr l y cc maxL ret rm G av L f post := by
  intro sz
  refine MetD.ofW (cc := cc) (maxL := maxL) (ret := ret) hy rfl ?_
  intro p e s m args below meth c s₁ B hml hv hd0
  obtain ⟨rfl, hsz, hP, hK, hN, hD0⟩ := hv
  have hx := B.exec
  have hb := B.bytes
  have hr := B.returns
  have hts0 := atoms_spec (ws := ws_ y cc maxL ret) B.pre
  have hts : ∀ w ∈ lw_all, w.before _ s = true := fun w h => hts0 w (List.mem_cons_of_mem _ h)
  have hown : s.vm.findClass own = some m.cls := by rw [← ho]; exact findClass_of_methodNamed B.named
  have hlocks := B.notSynchronized
  have hin : ini = true → meth.name = "<init>" := fun h => (name_of_methodNamed B.named B.method).1.trans (hi h)
  subst hsz
  have hD := hD0.self (sz := s.heap.size)
  have hA : ∀ q : Nat, s.heap.size ≤ q → va_A (va_pl L f) s.heap.size q := fun q h => Or.inr h
  have hS : va_S (va_A (va_pl L f) s.heap.size) s.heap s.heap [] := va_S.rf
  have hl := lv_entry av (n := maxL) hlen
  rw [lg_entry_eq]
  refine body (p, l, e, (headSpec (ws_ y cc maxL ret) rm).room, s, m, av.toArray, below, meth, c, G, va_A (va_pl L f) s.heap.size, s.heap, _) ⟨hx, hb, hml, hown, hts, hK, hN, hA, rfl, rfl, rfl, hin, ?_⟩ s.heap [] s.drawn _ hd0 hP hD hS hl
  intro v L1 f1 k n pc H locs d ls hk hn hro hpost hd hP1 hD1 hS1
  refine W.widen hk hn (W.endD hd ?_)
  have hq : ∀ t : State, t.heap = H → (s.setDrawn d).WarmedH t.vm → (∃ (v1 : Option Value) (L2 : List Nat) (f2 : Nat → va_E), Outcome.returned v = .returned v1 ∧ post v1 L2 f2 ∧ va_P G.1 vwCl (va_pl L2 f2) t.heap ∧ va_D (va_A (va_pl L f) s.heap.size) (va_pl L2 f2)) ∧ va_F (va_A (va_pl L f) s.heap.size) (s.setDrawn d) t := fun t ht hW => ⟨⟨v, L1, f1, rfl, hpost, by rw [ht]; exact hP1, hD1⟩, ⟨by rw [ht]; exact hS1.1, fun q h1 h2 => by rw [ht]; exact hS1.2.1 q h1 h2⟩⟩
  rcases hro with ⟨h1, rfl, h3⟩ | ⟨ty, x, h1, rfl, h3, h4⟩ | ⟨x, h1, rfl, h3⟩ | ⟨nn, x, h1, rfl, h3⟩
  · exact W.vret hx hb (hr.trans h1) hq hS1.2.2 h3 hlocks
  · exact W.zret hx hb (hr.trans h1) h3 hq hS1.2.2 h4 hlocks
  · exact W.dret hx hb (hr.trans h1) hq hS1.2.2 h3 hlocks
  · exact W.aret hx hb (hr.trans h1) (Or.inl ⟨nn, rfl⟩) (by cases x; exact Or.inl rfl; exact Or.inr ⟨_, rfl⟩) hq hS1.2.2 h3 hlocks
section G
variable {C : CX} {cc : ByteArray} {nL : Nat} {own : String} {ini : Bool} {R0 : Room} {G0 : GD} {l0 : Launch} {ret : Option FieldType} {post : PO} {L : List Nat} {f : Nat → va_E} {k n pc : Nat} {lv : List (Nat × Value)} {st : List Value}
/-- cells and slots are counted up -/
theorem g_widen {k1 n1 : Nat} (h1 : k ≤ k1) (h2 : n ≤ n1) (kk : V C nL L f k1 n1 pc lv st) : V C nL L f k n pc lv st := by
  obtain ⟨p, l, e, R, s, m, args, below, meth, c, G, A, H0, Q⟩ := C
  intro H locs d ls hd hP hD hS hl
  exact W.widen h1 h2 (kk H locs d ls hd hP hD hS hl)
/-- fewer locals -/
theorem g_sub {lv' : List (Nat × Value)} (ks : List Nat) (h : lv_pick lv ks = lv') (kk : V C nL L f k n pc lv' st) : V C nL L f k n pc lv st := by
  obtain ⟨p, l, e, R, s, m, args, below, meth, c, G, A, H0, Q⟩ := C
  intro H locs d ls hd hP hD hS hl
  exact kk H locs d ls hd hP hD hS (lv_sub hl ks h)
theorem g_eq {f' : Nat → va_E} (h : f = f') (kk : V C nL L f' k n pc lv st) : V C nL L f k n pc lv st := h ▸ kk
theorem g_iload_n (hC : CxOk C cc nL own ini R0 G0 l0 ret post) {kx : Fin 4} {x : Int32} (hdg : decode cc pc = .ok (.iload_n kx, 1)) (j : Nat) (hj : lv[j]? = some ((kx : Nat), .int x)) (kk : V C nL L f k n (pc + 1) lv (.int x :: st)) : V C nL L f k n pc lv st := by
  obtain ⟨p, l, e, R, s, m, args, below, meth, c, G, A, H0, Q⟩ := C
  obtain ⟨hx, hb, hml, hown, hts, hK, hN, hA, rfl, rfl, rfl, hin, hexit⟩ := hC
  intro H locs d ls hd hP hD hS hl
  exact lv_iload_n hx hb hdg rfl (lv_at hl j hj) (kk H locs d ls hd hP hD hS hl)
theorem g_iload (hC : CxOk C cc nL own ini R0 G0 l0 ret post) {i : Nat} {x : Int32} (hdg : decode cc pc = .ok (.iload i, 2)) (j : Nat) (hj : lv[j]? = some (i, .int x)) (kk : V C nL L f k n (pc + 2) lv (.int x :: st)) : V C nL L f k n pc lv st := by
  obtain ⟨p, l, e, R, s, m, args, below, meth, c, G, A, H0, Q⟩ := C
  obtain ⟨hx, hb, hml, hown, hts, hK, hN, hA, rfl, rfl, rfl, hin, hexit⟩ := hC
  intro H locs d ls hd hP hD hS hl
  exact lv_iload hx hb hdg (lv_at hl j hj) (kk H locs d ls hd hP hD hS hl)
theorem g_istore_n (hC : CxOk C cc nL own ini R0 G0 l0 ret post) {kx : Fin 4} {x : Int32} {lv1 : List (Nat × Value)} (hdg : decode cc pc = .ok (.istore_n kx, 1)) (hn : (kx : Nat) < nL) (hl1 : ((kx : Nat), Value.int x) :: lv.filter (fun q => !(q.1 == (kx : Nat)) && !(q.1 + 1 == (kx : Nat) && q.2.category == 2)) = lv1) (kk : V C nL L f k n (pc + 1) lv1 st) : V C nL L f k n pc lv (.int x :: st) := by
  obtain ⟨p, l, e, R, s, m, args, below, meth, c, G, A, H0, Q⟩ := C
  obtain ⟨hx, hb, hml, hown, hts, hK, hN, hA, rfl, rfl, rfl, hin, hexit⟩ := hC
  intro H locs d ls hd hP hD hS hl
  exact lv_istore_n hx hb hdg rfl hl hn hl1 (fun ls1 hl2 => kk H locs d ls1 hd hP hD hS hl2)
theorem g_istore (hC : CxOk C cc nL own ini R0 G0 l0 ret post) {i : Nat} {x : Int32} {lv1 : List (Nat × Value)} (hdg : decode cc pc = .ok (.istore i, 2)) (hn : i < nL) (hl1 : (i, Value.int x) :: lv.filter (fun q => !(q.1 == i) && !(q.1 + 1 == i && q.2.category == 2)) = lv1) (kk : V C nL L f k n (pc + 2) lv1 st) : V C nL L f k n pc lv (.int x :: st) := by
  obtain ⟨p, l, e, R, s, m, args, below, meth, c, G, A, H0, Q⟩ := C
  obtain ⟨hx, hb, hml, hown, hts, hK, hN, hA, rfl, rfl, rfl, hin, hexit⟩ := hC
  intro H locs d ls hd hP hD hS hl
  exact lv_istore hx hb hdg hl hn hl1 (fun ls1 hl2 => kk H locs d ls1 hd hP hD hS hl2)
theorem g_dload_n (hC : CxOk C cc nL own ini R0 G0 l0 ret post) {kx : Fin 4} {x : UInt64} (hdg : decode cc pc = .ok (.dload_n kx, 1)) (j : Nat) (hj : lv[j]? = some ((kx : Nat), .double x)) (kk : V C nL L f k n (pc + 1) lv (.double x :: st)) : V C nL L f k n pc lv st := by
  obtain ⟨p, l, e, R, s, m, args, below, meth, c, G, A, H0, Q⟩ := C
  obtain ⟨hx, hb, hml, hown, hts, hK, hN, hA, rfl, rfl, rfl, hin, hexit⟩ := hC
  intro H locs d ls hd hP hD hS hl
  exact lv_dload_n hx hb hdg rfl (lv_at hl j hj) (kk H locs d ls hd hP hD hS hl)
theorem g_dload (hC : CxOk C cc nL own ini R0 G0 l0 ret post) {i : Nat} {x : UInt64} (hdg : decode cc pc = .ok (.dload i, 2)) (j : Nat) (hj : lv[j]? = some (i, .double x)) (kk : V C nL L f k n (pc + 2) lv (.double x :: st)) : V C nL L f k n pc lv st := by
  obtain ⟨p, l, e, R, s, m, args, below, meth, c, G, A, H0, Q⟩ := C
  obtain ⟨hx, hb, hml, hown, hts, hK, hN, hA, rfl, rfl, rfl, hin, hexit⟩ := hC
  intro H locs d ls hd hP hD hS hl
  exact lv_dload hx hb hdg (lv_at hl j hj) (kk H locs d ls hd hP hD hS hl)
theorem g_dstore_n (hC : CxOk C cc nL own ini R0 G0 l0 ret post) {kx : Fin 4} {x : UInt64} {lv1 : List (Nat × Value)} (hdg : decode cc pc = .ok (.dstore_n kx, 1)) (hn : (kx : Nat) + 1 < nL) (hl1 : ((kx : Nat), Value.double x) :: lv.filter (fun q => !(q.1 == (kx : Nat)) && (!(q.1 == (kx : Nat) + 1) && !(q.1 + 1 == (kx : Nat) && q.2.category == 2))) = lv1) (kk : V C nL L f k n (pc + 1) lv1 st) : V C nL L f k n pc lv (.double x :: st) := by
  obtain ⟨p, l, e, R, s, m, args, below, meth, c, G, A, H0, Q⟩ := C
  obtain ⟨hx, hb, hml, hown, hts, hK, hN, hA, rfl, rfl, rfl, hin, hexit⟩ := hC
  intro H locs d ls hd hP hD hS hl
  exact lv_dstore_n hx hb hdg rfl hl hn hl1 (fun ls1 hl2 => kk H locs d ls1 hd hP hD hS hl2)
theorem g_dstore (hC : CxOk C cc nL own ini R0 G0 l0 ret post) {i : Nat} {x : UInt64} {lv1 : List (Nat × Value)} (hdg : decode cc pc = .ok (.dstore i, 2)) (hn : i + 1 < nL) (hl1 : (i, Value.double x) :: lv.filter (fun q => !(q.1 == i) && (!(q.1 == i + 1) && !(q.1 + 1 == i && q.2.category == 2))) = lv1) (kk : V C nL L f k n (pc + 2) lv1 st) : V C nL L f k n pc lv (.double x :: st) := by
  obtain ⟨p, l, e, R, s, m, args, below, meth, c, G, A, H0, Q⟩ := C
  obtain ⟨hx, hb, hml, hown, hts, hK, hN, hA, rfl, rfl, rfl, hin, hexit⟩ := hC
  intro H locs d ls hd hP hD hS hl
  exact lv_dstore hx hb hdg hl hn hl1 (fun ls1 hl2 => kk H locs d ls1 hd hP hD hS hl2)
theorem g_aload_n (hC : CxOk C cc nL own ini R0 G0 l0 ret post) {kx : Fin 4} {x : Nat} (hdg : decode cc pc = .ok (.aload_n kx, 1)) (j : Nat) (hj : lv[j]? = some ((kx : Nat), .ref x)) (kk : V C nL L f k n (pc + 1) lv (.ref x :: st)) : V C nL L f k n pc lv st := by
  obtain ⟨p, l, e, R, s, m, args, below, meth, c, G, A, H0, Q⟩ := C
  obtain ⟨hx, hb, hml, hown, hts, hK, hN, hA, rfl, rfl, rfl, hin, hexit⟩ := hC
  intro H locs d ls hd hP hD hS hl
  exact lv_aload_n hx hb hdg rfl (lv_at hl j hj) (kk H locs d ls hd hP hD hS hl)
theorem g_aload (hC : CxOk C cc nL own ini R0 G0 l0 ret post) {i : Nat} {x : Nat} (hdg : decode cc pc = .ok (.aload i, 2)) (j : Nat) (hj : lv[j]? = some (i, .ref x)) (kk : V C nL L f k n (pc + 2) lv (.ref x :: st)) : V C nL L f k n pc lv st := by
  obtain ⟨p, l, e, R, s, m, args, below, meth, c, G, A, H0, Q⟩ := C
  obtain ⟨hx, hb, hml, hown, hts, hK, hN, hA, rfl, rfl, rfl, hin, hexit⟩ := hC
  intro H locs d ls hd hP hD hS hl
  exact lv_aload hx hb hdg (lv_at hl j hj) (kk H locs d ls hd hP hD hS hl)
theorem g_astore_n (hC : CxOk C cc nL own ini R0 G0 l0 ret post) {kx : Fin 4} {x : Nat} {lv1 : List (Nat × Value)} (hdg : decode cc pc = .ok (.astore_n kx, 1)) (hn : (kx : Nat) < nL) (hl1 : ((kx : Nat), Value.ref x) :: lv.filter (fun q => !(q.1 == (kx : Nat)) && !(q.1 + 1 == (kx : Nat) && q.2.category == 2)) = lv1) (kk : V C nL L f k n (pc + 1) lv1 st) : V C nL L f k n pc lv (.ref x :: st) := by
  obtain ⟨p, l, e, R, s, m, args, below, meth, c, G, A, H0, Q⟩ := C
  obtain ⟨hx, hb, hml, hown, hts, hK, hN, hA, rfl, rfl, rfl, hin, hexit⟩ := hC
  intro H locs d ls hd hP hD hS hl
  exact lv_astore_n hx hb hdg rfl hl hn hl1 (fun ls1 hl2 => kk H locs d ls1 hd hP hD hS hl2)
theorem g_astore (hC : CxOk C cc nL own ini R0 G0 l0 ret post) {i : Nat} {x : Nat} {lv1 : List (Nat × Value)} (hdg : decode cc pc = .ok (.astore i, 2)) (hn : i < nL) (hl1 : (i, Value.ref x) :: lv.filter (fun q => !(q.1 == i) && !(q.1 + 1 == i && q.2.category == 2)) = lv1) (kk : V C nL L f k n (pc + 2) lv1 st) : V C nL L f k n pc lv (.ref x :: st) := by
  obtain ⟨p, l, e, R, s, m, args, below, meth, c, G, A, H0, Q⟩ := C
  obtain ⟨hx, hb, hml, hown, hts, hK, hN, hA, rfl, rfl, rfl, hin, hexit⟩ := hC
  intro H locs d ls hd hP hD hS hl
  exact lv_astore hx hb hdg hl hn hl1 (fun ls1 hl2 => kk H locs d ls1 hd hP hD hS hl2)
theorem g_iconst (hC : CxOk C cc nL own ini R0 G0 l0 ret post) {z : Int} (v : Int32) (hdg : decode cc pc = .ok (.iconst z, 1)) (hv : Int32.ofInt z = v) (kk : V C nL L f k n (pc + 1) lv (.int v :: st)) : V C nL L f k n pc lv st := by
  obtain ⟨p, l, e, R, s, m, args, below, meth, c, G, A, H0, Q⟩ := C
  obtain ⟨hx, hb, hml, hown, hts, hK, hN, hA, rfl, rfl, rfl, hin, hexit⟩ := hC
  intro H locs d ls hd hP hD hS hl
  exact lv_iconst hx hb hdg hv (kk H locs d ls hd hP hD hS hl)
theorem g_bipush (hC : CxOk C cc nL own ini R0 G0 l0 ret post) {z : Int} (v : Int32) (hdg : decode cc pc = .ok (.bipush z, 2)) (hv : (Int8.ofInt z).toInt32 = v) (kk : V C nL L f k n (pc + 2) lv (.int v :: st)) : V C nL L f k n pc lv st := by
  obtain ⟨p, l, e, R, s, m, args, below, meth, c, G, A, H0, Q⟩ := C
  obtain ⟨hx, hb, hml, hown, hts, hK, hN, hA, rfl, rfl, rfl, hin, hexit⟩ := hC
  intro H locs d ls hd hP hD hS hl
  exact lv_bipush hx hb hdg hv (kk H locs d ls hd hP hD hS hl)
theorem g_sipush (hC : CxOk C cc nL own ini R0 G0 l0 ret post) {z : Int} (v : Int32) (hdg : decode cc pc = .ok (.sipush z, 3)) (hv : (Int16.ofInt z).toInt32 = v) (kk : V C nL L f k n (pc + 3) lv (.int v :: st)) : V C nL L f k n pc lv st := by
  obtain ⟨p, l, e, R, s, m, args, below, meth, c, G, A, H0, Q⟩ := C
  obtain ⟨hx, hb, hml, hown, hts, hK, hN, hA, rfl, rfl, rfl, hin, hexit⟩ := hC
  intro H locs d ls hd hP hD hS hl
  exact lv_sipush hx hb hdg hv (kk H locs d ls hd hP hD hS hl)
theorem g_ldc (hC : CxOk C cc nL own ini R0 G0 l0 ret post) {ix : Nat} {v : Int32} (hdg : decode cc pc = .ok (.ldc ix, 2)) (hw : Cond.constant own ix v ∈ lw_all) (kk : V C nL L f k n (pc + 2) lv (.int v :: st)) : V C nL L f k n pc lv st := by
  obtain ⟨p, l, e, R, s, m, args, below, meth, c, G, A, H0, Q⟩ := C
  obtain ⟨hx, hb, hml, hown, hts, hK, hN, hA, rfl, rfl, rfl, hin, hexit⟩ := hC
  intro H locs d ls hd hP hD hS hl
  exact lv_ldc (s := s.setDrawn d) hx hb hown (dr_words hts d _ hw) hdg (kk H locs d ls hd hP hD hS hl)
theorem g_ldc2 (hC : CxOk C cc nL own ini R0 G0 l0 ret post) {ix : Nat} {v : UInt64} (hdg : decode cc pc = .ok (.ldc2_w ix, 3)) (hw : Cond.constantDouble own ix v ∈ lw_all) (kk : V C nL L f k n (pc + 3) lv (.double v :: st)) : V C nL L f k n pc lv st := by
  obtain ⟨p, l, e, R, s, m, args, below, meth, c, G, A, H0, Q⟩ := C
  obtain ⟨hx, hb, hml, hown, hts, hK, hN, hA, rfl, rfl, rfl, hin, hexit⟩ := hC
  intro H locs d ls hd hP hD hS hl
  exact lv_ldc2d (s := s.setDrawn d) hx hb hown (dr_words hts d _ hw) hdg (kk H locs d ls hd hP hD hS hl)
theorem g_dconst0 (hC : CxOk C cc nL own ini R0 G0 l0 ret post) (hdg : decode cc pc = .ok (.dconst 0, 1)) (kk : V C nL L f k n (pc + 1) lv (.double 0 :: st)) : V C nL L f k n pc lv st := by
  obtain ⟨p, l, e, R, s, m, args, below, meth, c, G, A, H0, Q⟩ := C
  obtain ⟨hx, hb, hml, hown, hts, hK, hN, hA, rfl, rfl, rfl, hin, hexit⟩ := hC
  intro H locs d ls hd hP hD hS hl
  exact lv_dconst0 hx hb hdg (kk H locs d ls hd hP hD hS hl)
theorem g_dconst1 (hC : CxOk C cc nL own ini R0 G0 l0 ret post) (hdg : decode cc pc = .ok (.dconst 1, 1)) (kk : V C nL L f k n (pc + 1) lv (.double 4607182418800017408 :: st)) : V C nL L f k n pc lv st := by
  obtain ⟨p, l, e, R, s, m, args, below, meth, c, G, A, H0, Q⟩ := C
  obtain ⟨hx, hb, hml, hown, hts, hK, hN, hA, rfl, rfl, rfl, hin, hexit⟩ := hC
  intro H locs d ls hd hP hD hS hl
  exact lv_dconst1 hx hb hdg (kk H locs d ls hd hP hD hS hl)
theorem g_null (hC : CxOk C cc nL own ini R0 G0 l0 ret post) (hdg : decode cc pc = .ok (.aconst_null, 1)) (kk : V C nL L f k n (pc + 1) lv (.null :: st)) : V C nL L f k n pc lv st := by
  obtain ⟨p, l, e, R, s, m, args, below, meth, c, G, A, H0, Q⟩ := C
  obtain ⟨hx, hb, hml, hown, hts, hK, hN, hA, rfl, rfl, rfl, hin, hexit⟩ := hC
  intro H locs d ls hd hP hD hS hl
  exact lv_null hx hb hdg (kk H locs d ls hd hP hD hS hl)
theorem g_dup (hC : CxOk C cc nL own ini R0 G0 l0 ret post) {v : Value} (hdg : decode cc pc = .ok (.dup, 1)) (hv : v.category = 1) (kk : V C nL L f k n (pc + 1) lv (v :: v :: st)) : V C nL L f k n pc lv (v :: st) := by
  obtain ⟨p, l, e, R, s, m, args, below, meth, c, G, A, H0, Q⟩ := C
  obtain ⟨hx, hb, hml, hown, hts, hK, hN, hA, rfl, rfl, rfl, hin, hexit⟩ := hC
  intro H locs d ls hd hP hD hS hl
  exact lv_dup hx hb hdg hv (kk H locs d ls hd hP hD hS hl)
theorem g_dup2 (hC : CxOk C cc nL own ini R0 G0 l0 ret post) {v w : Value} (hdg : decode cc pc = .ok (.dup2, 1)) (hv : v.category = 1) (hw : w.category = 1) (kk : V C nL L f k n (pc + 1) lv (v :: w :: v :: w :: st)) : V C nL L f k n pc lv (v :: w :: st) := by
  obtain ⟨p, l, e, R, s, m, args, below, meth, c, G, A, H0, Q⟩ := C
  obtain ⟨hx, hb, hml, hown, hts, hK, hN, hA, rfl, rfl, rfl, hin, hexit⟩ := hC
  intro H locs d ls hd hP hD hS hl
  exact lv_dup2_11 hx hb hdg hv hw (kk H locs d ls hd hP hD hS hl)
theorem g_iadd (hC : CxOk C cc nL own ini R0 G0 l0 ret post) {x y : Int32} (hdg : decode cc pc = .ok (.iadd, 1)) (kk : V C nL L f k n (pc + 1) lv (.int (x + y) :: st)) : V C nL L f k n pc lv (.int y :: .int x :: st) := by
  obtain ⟨p, l, e, R, s, m, args, below, meth, c, G, A, H0, Q⟩ := C
  obtain ⟨hx, hb, hml, hown, hts, hK, hN, hA, rfl, rfl, rfl, hin, hexit⟩ := hC
  intro H locs d ls hd hP hD hS hl
  exact lv_iadd hx hb hdg (kk H locs d ls hd hP hD hS hl)
theorem g_isub (hC : CxOk C cc nL own ini R0 G0 l0 ret post) {x y : Int32} (hdg : decode cc pc = .ok (.isub, 1)) (kk : V C nL L f k n (pc + 1) lv (.int (x - y) :: st)) : V C nL L f k n pc lv (.int y :: .int x :: st) := by
  obtain ⟨p, l, e, R, s, m, args, below, meth, c, G, A, H0, Q⟩ := C
  obtain ⟨hx, hb, hml, hown, hts, hK, hN, hA, rfl, rfl, rfl, hin, hexit⟩ := hC
  intro H locs d ls hd hP hD hS hl
  exact lv_isub hx hb hdg (kk H locs d ls hd hP hD hS hl)
theorem g_iand (hC : CxOk C cc nL own ini R0 G0 l0 ret post) {x y : Int32} (hdg : decode cc pc = .ok (.iand, 1)) (kk : V C nL L f k n (pc + 1) lv (.int (x &&& y) :: st)) : V C nL L f k n pc lv (.int y :: .int x :: st) := by
  obtain ⟨p, l, e, R, s, m, args, below, meth, c, G, A, H0, Q⟩ := C
  obtain ⟨hx, hb, hml, hown, hts, hK, hN, hA, rfl, rfl, rfl, hin, hexit⟩ := hC
  intro H locs d ls hd hP hD hS hl
  exact lv_iand hx hb hdg (kk H locs d ls hd hP hD hS hl)
theorem g_ior (hC : CxOk C cc nL own ini R0 G0 l0 ret post) {x y : Int32} (hdg : decode cc pc = .ok (.ior, 1)) (kk : V C nL L f k n (pc + 1) lv (.int (x ||| y) :: st)) : V C nL L f k n pc lv (.int y :: .int x :: st) := by
  obtain ⟨p, l, e, R, s, m, args, below, meth, c, G, A, H0, Q⟩ := C
  obtain ⟨hx, hb, hml, hown, hts, hK, hN, hA, rfl, rfl, rfl, hin, hexit⟩ := hC
  intro H locs d ls hd hP hD hS hl
  exact lv_ior hx hb hdg (kk H locs d ls hd hP hD hS hl)
theorem g_ishl (hC : CxOk C cc nL own ini R0 G0 l0 ret post) {x y : Int32} (hdg : decode cc pc = .ok (.ishl, 1)) (kk : V C nL L f k n (pc + 1) lv (.int (x <<< (y &&& 31)) :: st)) : V C nL L f k n pc lv (.int y :: .int x :: st) := by
  obtain ⟨p, l, e, R, s, m, args, below, meth, c, G, A, H0, Q⟩ := C
  obtain ⟨hx, hb, hml, hown, hts, hK, hN, hA, rfl, rfl, rfl, hin, hexit⟩ := hC
  intro H locs d ls hd hP hD hS hl
  exact lv_ishl hx hb hdg (kk H locs d ls hd hP hD hS hl)
theorem g_ishr (hC : CxOk C cc nL own ini R0 G0 l0 ret post) {x y : Int32} (hdg : decode cc pc = .ok (.ishr, 1)) (kk : V C nL L f k n (pc + 1) lv (.int (x >>> (y &&& 31)) :: st)) : V C nL L f k n pc lv (.int y :: .int x :: st) := by
  obtain ⟨p, l, e, R, s, m, args, below, meth, c, G, A, H0, Q⟩ := C
  obtain ⟨hx, hb, hml, hown, hts, hK, hN, hA, rfl, rfl, rfl, hin, hexit⟩ := hC
  intro H locs d ls hd hP hD hS hl
  exact lv_ishr hx hb hdg (kk H locs d ls hd hP hD hS hl)
theorem g_ineg (hC : CxOk C cc nL own ini R0 G0 l0 ret post) {x : Int32} (hdg : decode cc pc = .ok (.ineg, 1)) (kk : V C nL L f k n (pc + 1) lv (.int (-x) :: st)) : V C nL L f k n pc lv (.int x :: st) := by
  obtain ⟨p, l, e, R, s, m, args, below, meth, c, G, A, H0, Q⟩ := C
  obtain ⟨hx, hb, hml, hown, hts, hK, hN, hA, rfl, rfl, rfl, hin, hexit⟩ := hC
  intro H locs d ls hd hP hD hS hl
  exact lv_ineg hx hb hdg (kk H locs d ls hd hP hD hS hl)
theorem g_i2d (hC : CxOk C cc nL own ini R0 G0 l0 ret post) {x : Int32} (hdg : decode cc pc = .ok (.i2d, 1)) (kk : V C nL L f k n (pc + 1) lv (.double (FP.i2d x) :: st)) : V C nL L f k n pc lv (.int x :: st) := by
  obtain ⟨p, l, e, R, s, m, args, below, meth, c, G, A, H0, Q⟩ := C
  obtain ⟨hx, hb, hml, hown, hts, hK, hN, hA, rfl, rfl, rfl, hin, hexit⟩ := hC
  intro H locs d ls hd hP hD hS hl
  exact lv_i2d hx hb hdg (kk H locs d ls hd hP hD hS hl)
theorem g_dadd (hC : CxOk C cc nL own ini R0 G0 l0 ret post) {x y : UInt64} (hdg : decode cc pc = .ok (.dadd, 1)) (kk : ∀ r : UInt64, dv r = qadd (dv x) (dv y) → V C nL L f k n (pc + 1) lv (.double r :: st)) : V C nL L f k n pc lv (.double y :: .double x :: st) := by
  obtain ⟨p, l, e, R, s, m, args, below, meth, c, G, A, H0, Q⟩ := C
  obtain ⟨hx, hb, hml, hown, hts, hK, hN, hA, rfl, rfl, rfl, hin, hexit⟩ := hC
  intro H locs d ls hd hP hD hS hl
  exact lv_dadd_any hd lw_bits hx hb hdg (fun r d1 ha hd1 => kk r (dv_add ha) H locs d1 ls hd1 hP hD hS hl)
theorem g_dsub (hC : CxOk C cc nL own ini R0 G0 l0 ret post) {x y : UInt64} (hdg : decode cc pc = .ok (.dsub, 1)) (kk : ∀ r : UInt64, dv r = qsub (dv x) (dv y) → V C nL L f k n (pc + 1) lv (.double r :: st)) : V C nL L f k n pc lv (.double y :: .double x :: st) := by
  obtain ⟨p, l, e, R, s, m, args, below, meth, c, G, A, H0, Q⟩ := C
  obtain ⟨hx, hb, hml, hown, hts, hK, hN, hA, rfl, rfl, rfl, hin, hexit⟩ := hC
  intro H locs d ls hd hP hD hS hl
  exact lv_dsub_any hd lw_bits hx hb hdg (fun r d1 ha hd1 => kk r (dv_sub ha) H locs d1 ls hd1 hP hD hS hl)
theorem g_dmul (hC : CxOk C cc nL own ini R0 G0 l0 ret post) {x y : UInt64} (hdg : decode cc pc = .ok (.dmul, 1)) (kk : ∀ r : UInt64, dv r = qmul (dv x) (dv y) → V C nL L f k n (pc + 1) lv (.double r :: st)) : V C nL L f k n pc lv (.double y :: .double x :: st) := by
  obtain ⟨p, l, e, R, s, m, args, below, meth, c, G, A, H0, Q⟩ := C
  obtain ⟨hx, hb, hml, hown, hts, hK, hN, hA, rfl, rfl, rfl, hin, hexit⟩ := hC
  intro H locs d ls hd hP hD hS hl
  exact lv_dmul_any hd lw_bits hx hb hdg (fun r d1 ha hd1 => kk r (dv_mul ha) H locs d1 ls hd1 hP hD hS hl)
theorem g_ddiv (hC : CxOk C cc nL own ini R0 G0 l0 ret post) {x y : UInt64} (hdg : decode cc pc = .ok (.ddiv, 1)) (kk : ∀ r : UInt64, dv r = qdiv (dv x) (dv y) → V C nL L f k n (pc + 1) lv (.double r :: st)) : V C nL L f k n pc lv (.double y :: .double x :: st) := by
  obtain ⟨p, l, e, R, s, m, args, below, meth, c, G, A, H0, Q⟩ := C
  obtain ⟨hx, hb, hml, hown, hts, hK, hN, hA, rfl, rfl, rfl, hin, hexit⟩ := hC
  intro H locs d ls hd hP hD hS hl
  exact lv_ddiv_any hd lw_bits hx hb hdg (fun r d1 ha hd1 => kk r (dv_div ha) H locs d1 ls hd1 hP hD hS hl)
theorem g_iinc (hC : CxOk C cc nL own ini R0 G0 l0 ret post) {i : Nat} {z : Int} {x v : Int32} {lv1 : List (Nat × Value)} (hdg : decode cc pc = .ok (.iinc i z, 3)) (j : Nat) (hj : lv[j]? = some (i, .int x)) (hv : x + Int32.ofInt z = v) (hn : i < nL) (hl1 : (i, Value.int v) :: lv.filter (fun q => !(q.1 == i) && !(q.1 + 1 == i && q.2.category == 2)) = lv1) (kk : V C nL L f k n (pc + 3) lv1 st) : V C nL L f k n pc lv st := by
  obtain ⟨p, l, e, R, s, m, args, below, meth, c, G, A, H0, Q⟩ := C
  obtain ⟨hx, hb, hml, hown, hts, hK, hN, hA, rfl, rfl, rfl, hin, hexit⟩ := hC
  intro H locs d ls hd hP hD hS hl
  exact lv_iinc hx hb hdg hl hj hv hn hl1 (fun ls1 hl2 => kk H locs d ls1 hd hP hD hS hl2)
theorem g_goto (hC : CxOk C cc nL own ini R0 G0 l0 ret post) {off : Int} (tgt : Nat) (hdg : decode cc pc = .ok (.goto off, 3)) (ht : (pc : Int) + off = (tgt : Int)) (kk : V C nL L f k n tgt lv st) : V C nL L f k n pc lv st := by
  obtain ⟨p, l, e, R, s, m, args, below, meth, c, G, A, H0, Q⟩ := C
  obtain ⟨hx, hb, hml, hown, hts, hK, hN, hA, rfl, rfl, rfl, hin, hexit⟩ := hC
  intro H locs d ls hd hP hD hS hl
  exact lv_goto hx hb hdg ht (kk H locs d ls hd hP hD hS hl)
theorem g_if_eq (hC : CxOk C cc nL own ini R0 G0 l0 ret post) {off : Int} {x : Int32} (tgt : Nat) (hdg : decode cc pc = .ok (.ifCond .eq off, 3)) (ht : (pc : Int) + off = (tgt : Int)) (kt : x = 0 → V C nL L f k n tgt lv st) (kf : ¬ x = 0 → V C nL L f k n (pc + 3) lv st)  : V C nL L f k n pc lv (.int x :: st) := by
  obtain ⟨p, l, e, R, s, m, args, below, meth, c, G, A, H0, Q⟩ := C
  obtain ⟨hx, hb, hml, hown, hts, hK, hN, hA, rfl, rfl, rfl, hin, hexit⟩ := hC
  intro H locs d ls hd hP hD hS hl
  exact lv_if_eq hx hb hdg ht (fun h => kt h H locs d ls hd hP hD hS hl) (fun h => kf h H locs d ls hd hP hD hS hl)
theorem g_icmp_eq (hC : CxOk C cc nL own ini R0 G0 l0 ret post) {off : Int} {x y : Int32} (tgt : Nat) (hdg : decode cc pc = .ok (.if_icmp .eq off, 3)) (ht : (pc : Int) + off = (tgt : Int)) (kt : x = y → V C nL L f k n tgt lv st) (kf : ¬ x = y → V C nL L f k n (pc + 3) lv st)  : V C nL L f k n pc lv (.int y :: .int x :: st) := by
  obtain ⟨p, l, e, R, s, m, args, below, meth, c, G, A, H0, Q⟩ := C
  obtain ⟨hx, hb, hml, hown, hts, hK, hN, hA, rfl, rfl, rfl, hin, hexit⟩ := hC
  intro H locs d ls hd hP hD hS hl
  exact lv_icmp_eq hx hb hdg ht (fun h => kt h H locs d ls hd hP hD hS hl) (fun h => kf h H locs d ls hd hP hD hS hl)
theorem g_if_ne (hC : CxOk C cc nL own ini R0 G0 l0 ret post) {off : Int} {x : Int32} (tgt : Nat) (hdg : decode cc pc = .ok (.ifCond .ne off, 3)) (ht : (pc : Int) + off = (tgt : Int)) (kt : ¬ x = 0 → V C nL L f k n tgt lv st) (kf : x = 0 → V C nL L f k n (pc + 3) lv st)  : V C nL L f k n pc lv (.int x :: st) := by
  obtain ⟨p, l, e, R, s, m, args, below, meth, c, G, A, H0, Q⟩ := C
  obtain ⟨hx, hb, hml, hown, hts, hK, hN, hA, rfl, rfl, rfl, hin, hexit⟩ := hC
  intro H locs d ls hd hP hD hS hl
  exact lv_if_ne hx hb hdg ht (fun h => kt h H locs d ls hd hP hD hS hl) (fun h => kf h H locs d ls hd hP hD hS hl)
theorem g_icmp_ne (hC : CxOk C cc nL own ini R0 G0 l0 ret post) {off : Int} {x y : Int32} (tgt : Nat) (hdg : decode cc pc = .ok (.if_icmp .ne off, 3)) (ht : (pc : Int) + off = (tgt : Int)) (kt : ¬ x = y → V C nL L f k n tgt lv st) (kf : x = y → V C nL L f k n (pc + 3) lv st)  : V C nL L f k n pc lv (.int y :: .int x :: st) := by
  obtain ⟨p, l, e, R, s, m, args, below, meth, c, G, A, H0, Q⟩ := C
  obtain ⟨hx, hb, hml, hown, hts, hK, hN, hA, rfl, rfl, rfl, hin, hexit⟩ := hC
  intro H locs d ls hd hP hD hS hl
  exact lv_icmp_ne hx hb hdg ht (fun h => kt h H locs d ls hd hP hD hS hl) (fun h => kf h H locs d ls hd hP hD hS hl)
theorem g_if_lt (hC : CxOk C cc nL own ini R0 G0 l0 ret post) {off : Int} {x : Int32} (tgt : Nat) (hdg : decode cc pc = .ok (.ifCond .lt off, 3)) (ht : (pc : Int) + off = (tgt : Int)) (kt : x < 0 → V C nL L f k n tgt lv st) (kf : ¬ x < 0 → V C nL L f k n (pc + 3) lv st)  : V C nL L f k n pc lv (.int x :: st) := by
  obtain ⟨p, l, e, R, s, m, args, below, meth, c, G, A, H0, Q⟩ := C
  obtain ⟨hx, hb, hml, hown, hts, hK, hN, hA, rfl, rfl, rfl, hin, hexit⟩ := hC
  intro H locs d ls hd hP hD hS hl
  exact lv_if_lt hx hb hdg ht (fun h => kt h H locs d ls hd hP hD hS hl) (fun h => kf h H locs d ls hd hP hD hS hl)
theorem g_icmp_lt (hC : CxOk C cc nL own ini R0 G0 l0 ret post) {off : Int} {x y : Int32} (tgt : Nat) (hdg : decode cc pc = .ok (.if_icmp .lt off, 3)) (ht : (pc : Int) + off = (tgt : Int)) (kt : x < y → V C nL L f k n tgt lv st) (kf : ¬ x < y → V C nL L f k n (pc + 3) lv st)  : V C nL L f k n pc lv (.int y :: .int x :: st) := by
  obtain ⟨p, l, e, R, s, m, args, below, meth, c, G, A, H0, Q⟩ := C
  obtain ⟨hx, hb, hml, hown, hts, hK, hN, hA, rfl, rfl, rfl, hin, hexit⟩ := hC
  intro H locs d ls hd hP hD hS hl
  exact lv_icmp_lt hx hb hdg ht (fun h => kt h H locs d ls hd hP hD hS hl) (fun h => kf h H locs d ls hd hP hD hS hl)
theorem g_if_ge (hC : CxOk C cc nL own ini R0 G0 l0 ret post) {off : Int} {x : Int32} (tgt : Nat) (hdg : decode cc pc = .ok (.ifCond .ge off, 3)) (ht : (pc : Int) + off = (tgt : Int)) (kt : 0 ≤ x → V C nL L f k n tgt lv st) (kf : ¬ 0 ≤ x → V C nL L f k n (pc + 3) lv st)  : V C nL L f k n pc lv (.int x :: st) := by
  obtain ⟨p, l, e, R, s, m, args, below, meth, c, G, A, H0, Q⟩ := C
  obtain ⟨hx, hb, hml, hown, hts, hK, hN, hA, rfl, rfl, rfl, hin, hexit⟩ := hC
  intro H locs d ls hd hP hD hS hl
  exact lv_if_ge hx hb hdg ht (fun h => kt h H locs d ls hd hP hD hS hl) (fun h => kf h H locs d ls hd hP hD hS hl)
theorem g_icmp_ge (hC : CxOk C cc nL own ini R0 G0 l0 ret post) {off : Int} {x y : Int32} (tgt : Nat) (hdg : decode cc pc = .ok (.if_icmp .ge off, 3)) (ht : (pc : Int) + off = (tgt : Int)) (kt : y ≤ x → V C nL L f k n tgt lv st) (kf : ¬ y ≤ x → V C nL L f k n (pc + 3) lv st)  : V C nL L f k n pc lv (.int y :: .int x :: st) := by
  obtain ⟨p, l, e, R, s, m, args, below, meth, c, G, A, H0, Q⟩ := C
  obtain ⟨hx, hb, hml, hown, hts, hK, hN, hA, rfl, rfl, rfl, hin, hexit⟩ := hC
  intro H locs d ls hd hP hD hS hl
  exact lv_icmp_ge hx hb hdg ht (fun h => kt h H locs d ls hd hP hD hS hl) (fun h => kf h H locs d ls hd hP hD hS hl)
theorem g_if_gt (hC : CxOk C cc nL own ini R0 G0 l0 ret post) {off : Int} {x : Int32} (tgt : Nat) (hdg : decode cc pc = .ok (.ifCond .gt off, 3)) (ht : (pc : Int) + off = (tgt : Int)) (kt : 0 < x → V C nL L f k n tgt lv st) (kf : ¬ 0 < x → V C nL L f k n (pc + 3) lv st)  : V C nL L f k n pc lv (.int x :: st) := by
  obtain ⟨p, l, e, R, s, m, args, below, meth, c, G, A, H0, Q⟩ := C
  obtain ⟨hx, hb, hml, hown, hts, hK, hN, hA, rfl, rfl, rfl, hin, hexit⟩ := hC
  intro H locs d ls hd hP hD hS hl
  exact lv_if_gt hx hb hdg ht (fun h => kt h H locs d ls hd hP hD hS hl) (fun h => kf h H locs d ls hd hP hD hS hl)
theorem g_icmp_gt (hC : CxOk C cc nL own ini R0 G0 l0 ret post) {off : Int} {x y : Int32} (tgt : Nat) (hdg : decode cc pc = .ok (.if_icmp .gt off, 3)) (ht : (pc : Int) + off = (tgt : Int)) (kt : y < x → V C nL L f k n tgt lv st) (kf : ¬ y < x → V C nL L f k n (pc + 3) lv st)  : V C nL L f k n pc lv (.int y :: .int x :: st) := by
  obtain ⟨p, l, e, R, s, m, args, below, meth, c, G, A, H0, Q⟩ := C
  obtain ⟨hx, hb, hml, hown, hts, hK, hN, hA, rfl, rfl, rfl, hin, hexit⟩ := hC
  intro H locs d ls hd hP hD hS hl
  exact lv_icmp_gt hx hb hdg ht (fun h => kt h H locs d ls hd hP hD hS hl) (fun h => kf h H locs d ls hd hP hD hS hl)
theorem g_if_le (hC : CxOk C cc nL own ini R0 G0 l0 ret post) {off : Int} {x : Int32} (tgt : Nat) (hdg : decode cc pc = .ok (.ifCond .le off, 3)) (ht : (pc : Int) + off = (tgt : Int)) (kt : x ≤ 0 → V C nL L f k n tgt lv st) (kf : ¬ x ≤ 0 → V C nL L f k n (pc + 3) lv st)  : V C nL L f k n pc lv (.int x :: st) := by
  obtain ⟨p, l, e, R, s, m, args, below, meth, c, G, A, H0, Q⟩ := C
  obtain ⟨hx, hb, hml, hown, hts, hK, hN, hA, rfl, rfl, rfl, hin, hexit⟩ := hC
  intro H locs d ls hd hP hD hS hl
  exact lv_if_le hx hb hdg ht (fun h => kt h H locs d ls hd hP hD hS hl) (fun h => kf h H locs d ls hd hP hD hS hl)
theorem g_icmp_le (hC : CxOk C cc nL own ini R0 G0 l0 ret post) {off : Int} {x y : Int32} (tgt : Nat) (hdg : decode cc pc = .ok (.if_icmp .le off, 3)) (ht : (pc : Int) + off = (tgt : Int)) (kt : x ≤ y → V C nL L f k n tgt lv st) (kf : ¬ x ≤ y → V C nL L f k n (pc + 3) lv st)  : V C nL L f k n pc lv (.int y :: .int x :: st) := by
  obtain ⟨p, l, e, R, s, m, args, below, meth, c, G, A, H0, Q⟩ := C
  obtain ⟨hx, hb, hml, hown, hts, hK, hN, hA, rfl, rfl, rfl, hin, hexit⟩ := hC
  intro H locs d ls hd hP hD hS hl
  exact lv_icmp_le hx hb hdg ht (fun h => kt h H locs d ls hd hP hD hS hl) (fun h => kf h H locs d ls hd hP hD hS hl)
theorem g_acmp_ne (hC : CxOk C cc nL own ini R0 G0 l0 ret post) {off : Int} {x y : Nat} (tgt : Nat) (hdg : decode cc pc = .ok (.if_acmp .ne off, 3)) (ht : (pc : Int) + off = (tgt : Int)) (kt : ¬ x = y → V C nL L f k n tgt lv st) (kf : x = y → V C nL L f k n (pc + 3) lv st)  : V C nL L f k n pc lv (.ref y :: .ref x :: st) := by
  obtain ⟨p, l, e, R, s, m, args, below, meth, c, G, A, H0, Q⟩ := C
  obtain ⟨hx, hb, hml, hown, hts, hK, hN, hA, rfl, rfl, rfl, hin, hexit⟩ := hC
  intro H locs d ls hd hP hD hS hl
  exact lv_acmp_ne (rx := some x) (ry := some y) hx hb hdg ht (fun h => kt (fun z => h (congrArg some z)) H locs d ls hd hP hD hS hl) (fun h => kf (Option.some.inj h) H locs d ls hd hP hD hS hl)
theorem g_ifnull (hC : CxOk C cc nL own ini R0 G0 l0 ret post) {off : Int} {x : Nat} (hdg : decode cc pc = .ok (.ifnull off, 3)) (kk : V C nL L f k n (pc + 3) lv st) : V C nL L f k n pc lv (.ref x :: st) := by
  obtain ⟨p, l, e, R, s, m, args, below, meth, c, G, A, H0, Q⟩ := C
  obtain ⟨hx, hb, hml, hown, hts, hK, hN, hA, rfl, rfl, rfl, hin, hexit⟩ := hC
  intro H locs d ls hd hP hD hS hl
  exact lv_ifnull hx hb hdg (kk H locs d ls hd hP hD hS hl)
theorem g_ifnullN (hC : CxOk C cc nL own ini R0 G0 l0 ret post) {off : Int} (tgt : Nat) (hdg : decode cc pc = .ok (.ifnull off, 3)) (ht : (pc : Int) + off = (tgt : Int)) (kk : V C nL L f k n tgt lv st) : V C nL L f k n pc lv (.null :: st) := by
  obtain ⟨p, l, e, R, s, m, args, below, meth, c, G, A, H0, Q⟩ := C
  obtain ⟨hx, hb, hml, hown, hts, hK, hN, hA, rfl, rfl, rfl, hin, hexit⟩ := hC
  intro H locs d ls hd hP hD hS hl
  exact lv_ifnullN hx hb hdg ht (kk H locs d ls hd hP hD hS hl)
theorem g_ifnonnull (hC : CxOk C cc nL own ini R0 G0 l0 ret post) {off : Int} {x : Nat} (tgt : Nat) (hdg : decode cc pc = .ok (.ifnonnull off, 3)) (ht : (pc : Int) + off = (tgt : Int)) (kk : V C nL L f k n tgt lv st) : V C nL L f k n pc lv (.ref x :: st) := by
  obtain ⟨p, l, e, R, s, m, args, below, meth, c, G, A, H0, Q⟩ := C
  obtain ⟨hx, hb, hml, hown, hts, hK, hN, hA, rfl, rfl, rfl, hin, hexit⟩ := hC
  intro H locs d ls hd hP hD hS hl
  exact lv_ifnonnull hx hb hdg ht (kk H locs d ls hd hP hD hS hl)
theorem g_ifnonnullN (hC : CxOk C cc nL own ini R0 G0 l0 ret post) {off : Int} (hdg : decode cc pc = .ok (.ifnonnull off, 3)) (kk : V C nL L f k n (pc + 3) lv st) : V C nL L f k n pc lv (.null :: st) := by
  obtain ⟨p, l, e, R, s, m, args, below, meth, c, G, A, H0, Q⟩ := C
  obtain ⟨hx, hb, hml, hown, hts, hK, hN, hA, rfl, rfl, rfl, hin, hexit⟩ := hC
  intro H locs d ls hd hP hD hS hl
  exact lv_ifnonnullN hx hb hdg (kk H locs d ls hd hP hD hS hl)
theorem g_dcmpl_le (hC : CxOk C cc nL own ini R0 G0 l0 ret post) {off : Int} {x y : UInt64} (tgt : Nat) (hdg : decode cc pc = .ok (.dcmp .l, 1)) (hdg2 : decode cc (pc + 1) = .ok (.ifCond .le off, 3)) (ht : ((pc + 1 : Nat) : Int) + off = (tgt : Int)) (kt : qgt (dv x) (dv y) = false → V C nL L f k n tgt lv st) (kf : qgt (dv x) (dv y) = true → V C nL L f k n (pc + 4) lv st)  : V C nL L f k n pc lv (.double y :: .double x :: st) := by
  obtain ⟨p, l, e, R, s, m, args, below, meth, c, G, A, H0, Q⟩ := C
  obtain ⟨hx, hb, hml, hown, hts, hK, hN, hA, rfl, rfl, rfl, hin, hexit⟩ := hC
  intro H locs d ls hd hP hD hS hl
  refine lv_dcmp hx hb hdg ?_
  exact lv_if_le hx hb hdg2 ht (fun h => kt ((br_l_le x y).mp h) H locs d ls hd hP hD hS hl) (fun h => kf (by cases hb2 : qgt (dv x) (dv y) with | true => rfl | false => exact absurd ((br_l_le x y).mpr hb2) h) H locs d ls hd hP hD hS hl)
theorem g_dcmpl_gt (hC : CxOk C cc nL own ini R0 G0 l0 ret post) {off : Int} {x y : UInt64} (tgt : Nat) (hdg : decode cc pc = .ok (.dcmp .l, 1)) (hdg2 : decode cc (pc + 1) = .ok (.ifCond .gt off, 3)) (ht : ((pc + 1 : Nat) : Int) + off = (tgt : Int)) (kt : qgt (dv x) (dv y) = true → V C nL L f k n tgt lv st) (kf : qgt (dv x) (dv y) = false → V C nL L f k n (pc + 4) lv st)  : V C nL L f k n pc lv (.double y :: .double x :: st) := by
  obtain ⟨p, l, e, R, s, m, args, below, meth, c, G, A, H0, Q⟩ := C
  obtain ⟨hx, hb, hml, hown, hts, hK, hN, hA, rfl, rfl, rfl, hin, hexit⟩ := hC
  intro H locs d ls hd hP hD hS hl
  refine lv_dcmp hx hb hdg ?_
  exact lv_if_gt hx hb hdg2 ht (fun h => kt ((br_l_gt x y).mp h) H locs d ls hd hP hD hS hl) (fun h => kf (by cases hb2 : qgt (dv x) (dv y) with | false => rfl | true => exact absurd ((br_l_gt x y).mpr hb2) h) H locs d ls hd hP hD hS hl)
theorem g_dcmpl_lt (hC : CxOk C cc nL own ini R0 G0 l0 ret post) {off : Int} {x y : UInt64} (tgt : Nat) (hdg : decode cc pc = .ok (.dcmp .l, 1)) (hdg2 : decode cc (pc + 1) = .ok (.ifCond .lt off, 3)) (ht : ((pc + 1 : Nat) : Int) + off = (tgt : Int)) (kt : qge (dv x) (dv y) = false → V C nL L f k n tgt lv st) (kf : qge (dv x) (dv y) = true → V C nL L f k n (pc + 4) lv st)  : V C nL L f k n pc lv (.double y :: .double x :: st) := by
  obtain ⟨p, l, e, R, s, m, args, below, meth, c, G, A, H0, Q⟩ := C
  obtain ⟨hx, hb, hml, hown, hts, hK, hN, hA, rfl, rfl, rfl, hin, hexit⟩ := hC
  intro H locs d ls hd hP hD hS hl
  refine lv_dcmp hx hb hdg ?_
  exact lv_if_lt hx hb hdg2 ht (fun h => kt ((br_l_lt x y).mp h) H locs d ls hd hP hD hS hl) (fun h => kf (by cases hb2 : qge (dv x) (dv y) with | true => rfl | false => exact absurd ((br_l_lt x y).mpr hb2) h) H locs d ls hd hP hD hS hl)
theorem g_dcmpl_eq (hC : CxOk C cc nL own ini R0 G0 l0 ret post) {off : Int} {x y : UInt64} (tgt : Nat) (hdg : decode cc pc = .ok (.dcmp .l, 1)) (hdg2 : decode cc (pc + 1) = .ok (.ifCond .eq off, 3)) (ht : ((pc + 1 : Nat) : Int) + off = (tgt : Int)) (kt : qeq (dv x) (dv y) = true → V C nL L f k n tgt lv st) (kf : qeq (dv x) (dv y) = false → V C nL L f k n (pc + 4) lv st)  : V C nL L f k n pc lv (.double y :: .double x :: st) := by
  obtain ⟨p, l, e, R, s, m, args, below, meth, c, G, A, H0, Q⟩ := C
  obtain ⟨hx, hb, hml, hown, hts, hK, hN, hA, rfl, rfl, rfl, hin, hexit⟩ := hC
  intro H locs d ls hd hP hD hS hl
  refine lv_dcmp hx hb hdg ?_
  exact lv_if_eq hx hb hdg2 ht (fun h => kt ((br_l_eq x y).mp h) H locs d ls hd hP hD hS hl) (fun h => kf (by cases hb2 : qeq (dv x) (dv y) with | false => rfl | true => exact absurd ((br_l_eq x y).mpr hb2) h) H locs d ls hd hP hD hS hl)
theorem g_dcmpl_ne (hC : CxOk C cc nL own ini R0 G0 l0 ret post) {off : Int} {x y : UInt64} (tgt : Nat) (hdg : decode cc pc = .ok (.dcmp .l, 1)) (hdg2 : decode cc (pc + 1) = .ok (.ifCond .ne off, 3)) (ht : ((pc + 1 : Nat) : Int) + off = (tgt : Int)) (kt : qeq (dv x) (dv y) = false → V C nL L f k n tgt lv st) (kf : qeq (dv x) (dv y) = true → V C nL L f k n (pc + 4) lv st)  : V C nL L f k n pc lv (.double y :: .double x :: st) := by
  obtain ⟨p, l, e, R, s, m, args, below, meth, c, G, A, H0, Q⟩ := C
  obtain ⟨hx, hb, hml, hown, hts, hK, hN, hA, rfl, rfl, rfl, hin, hexit⟩ := hC
  intro H locs d ls hd hP hD hS hl
  refine lv_dcmp hx hb hdg ?_
  exact lv_if_ne hx hb hdg2 ht (fun h => kt (Bool.eq_false_iff.mpr (fun z => h ((br_l_eq x y).mpr z))) H locs d ls hd hP hD hS hl) (fun h => kf ((br_l_eq x y).mp h) H locs d ls hd hP hD hS hl)
theorem g_dcmpg_ge (hC : CxOk C cc nL own ini R0 G0 l0 ret post) {off : Int} {x y : UInt64} (tgt : Nat) (hdg : decode cc pc = .ok (.dcmp .g, 1)) (hdg2 : decode cc (pc + 1) = .ok (.ifCond .ge off, 3)) (ht : ((pc + 1 : Nat) : Int) + off = (tgt : Int)) (kt : qlt (dv x) (dv y) = false → V C nL L f k n tgt lv st) (kf : qlt (dv x) (dv y) = true → V C nL L f k n (pc + 4) lv st)  : V C nL L f k n pc lv (.double y :: .double x :: st) := by
  obtain ⟨p, l, e, R, s, m, args, below, meth, c, G, A, H0, Q⟩ := C
  obtain ⟨hx, hb, hml, hown, hts, hK, hN, hA, rfl, rfl, rfl, hin, hexit⟩ := hC
  intro H locs d ls hd hP hD hS hl
  refine lv_dcmp hx hb hdg ?_
  exact lv_if_ge hx hb hdg2 ht (fun h => kt ((br_g_ge x y).mp h) H locs d ls hd hP hD hS hl) (fun h => kf (by cases hb2 : qlt (dv x) (dv y) with | true => rfl | false => exact absurd ((br_g_ge x y).mpr hb2) h) H locs d ls hd hP hD hS hl)
theorem g_dcmpg_lt (hC : CxOk C cc nL own ini R0 G0 l0 ret post) {off : Int} {x y : UInt64} (tgt : Nat) (hdg : decode cc pc = .ok (.dcmp .g, 1)) (hdg2 : decode cc (pc + 1) = .ok (.ifCond .lt off, 3)) (ht : ((pc + 1 : Nat) : Int) + off = (tgt : Int)) (kt : qlt (dv x) (dv y) = true → V C nL L f k n tgt lv st) (kf : qlt (dv x) (dv y) = false → V C nL L f k n (pc + 4) lv st)  : V C nL L f k n pc lv (.double y :: .double x :: st) := by
  obtain ⟨p, l, e, R, s, m, args, below, meth, c, G, A, H0, Q⟩ := C
  obtain ⟨hx, hb, hml, hown, hts, hK, hN, hA, rfl, rfl, rfl, hin, hexit⟩ := hC
  intro H locs d ls hd hP hD hS hl
  refine lv_dcmp hx hb hdg ?_
  exact lv_if_lt hx hb hdg2 ht (fun h => kt ((br_g_lt x y).mp h) H locs d ls hd hP hD hS hl) (fun h => kf (by cases hb2 : qlt (dv x) (dv y) with | false => rfl | true => exact absurd ((br_g_lt x y).mpr hb2) h) H locs d ls hd hP hD hS hl)
theorem g_dcmpg_gt (hC : CxOk C cc nL own ini R0 G0 l0 ret post) {off : Int} {x y : UInt64} (tgt : Nat) (hdg : decode cc pc = .ok (.dcmp .g, 1)) (hdg2 : decode cc (pc + 1) = .ok (.ifCond .gt off, 3)) (ht : ((pc + 1 : Nat) : Int) + off = (tgt : Int)) (kt : qle (dv x) (dv y) = false → V C nL L f k n tgt lv st) (kf : qle (dv x) (dv y) = true → V C nL L f k n (pc + 4) lv st)  : V C nL L f k n pc lv (.double y :: .double x :: st) := by
  obtain ⟨p, l, e, R, s, m, args, below, meth, c, G, A, H0, Q⟩ := C
  obtain ⟨hx, hb, hml, hown, hts, hK, hN, hA, rfl, rfl, rfl, hin, hexit⟩ := hC
  intro H locs d ls hd hP hD hS hl
  refine lv_dcmp hx hb hdg ?_
  exact lv_if_gt hx hb hdg2 ht (fun h => kt ((br_g_gt x y).mp h) H locs d ls hd hP hD hS hl) (fun h => kf (by cases hb2 : qle (dv x) (dv y) with | true => rfl | false => exact absurd ((br_g_gt x y).mpr hb2) h) H locs d ls hd hP hD hS hl)
theorem g_dcmpg_le (hC : CxOk C cc nL own ini R0 G0 l0 ret post) {off : Int} {x y : UInt64} (tgt : Nat) (hdg : decode cc pc = .ok (.dcmp .g, 1)) (hdg2 : decode cc (pc + 1) = .ok (.ifCond .le off, 3)) (ht : ((pc + 1 : Nat) : Int) + off = (tgt : Int)) (kt : qle (dv x) (dv y) = true → V C nL L f k n tgt lv st) (kf : qle (dv x) (dv y) = false → V C nL L f k n (pc + 4) lv st)  : V C nL L f k n pc lv (.double y :: .double x :: st) := by
  obtain ⟨p, l, e, R, s, m, args, below, meth, c, G, A, H0, Q⟩ := C
  obtain ⟨hx, hb, hml, hown, hts, hK, hN, hA, rfl, rfl, rfl, hin, hexit⟩ := hC
  intro H locs d ls hd hP hD hS hl
  refine lv_dcmp hx hb hdg ?_
  exact lv_if_le hx hb hdg2 ht (fun h => kt ((br_g_le x y).mp h) H locs d ls hd hP hD hS hl) (fun h => kf (by cases hb2 : qle (dv x) (dv y) with | false => rfl | true => exact absurd ((br_g_le x y).mpr hb2) h) H locs d ls hd hP hD hS hl)
theorem g_table (hC : CxOk C cc nL own ini R0 G0 l0 ret post) {dflt lo hi off : Int} {offs : Array Int} {len : Nat} {x : Int32} (tgt : Nat) (hdg : decode cc pc = .ok (.tableswitch dflt lo hi offs, len)) (h1 : ¬ x.toInt < lo) (h2 : ¬ hi < x.toInt) (ho : offs[(x.toInt - lo).toNat]? = some off) (ht : (pc : Int) + off = (tgt : Int)) (kk : V C nL L f k n tgt lv st) : V C nL L f k n pc lv (.int x :: st) := by
  obtain ⟨p, l, e, R, s, m, args, below, meth, c, G, A, H0, Q⟩ := C
  obtain ⟨hx, hb, hml, hown, hts, hK, hN, hA, rfl, rfl, rfl, hin, hexit⟩ := hC
  intro H locs d ls hd hP hD hS hl
  exact lv_tableIn hx hb hdg h1 h2 ho ht (kk H locs d ls hd hP hD hS hl)
theorem g_tableOut (hC : CxOk C cc nL own ini R0 G0 l0 ret post) {dflt lo hi : Int} {offs : Array Int} {len : Nat} {x : Int32} (tgt : Nat) (hdg : decode cc pc = .ok (.tableswitch dflt lo hi offs, len)) (h : x.toInt < lo ∨ hi < x.toInt) (ht : (pc : Int) + dflt = (tgt : Int)) (kk : V C nL L f k n tgt lv st) : V C nL L f k n pc lv (.int x :: st) := by
  obtain ⟨p, l, e, R, s, m, args, below, meth, c, G, A, H0, Q⟩ := C
  obtain ⟨hx, hb, hml, hown, hts, hK, hN, hA, rfl, rfl, rfl, hin, hexit⟩ := hC
  intro H locs d ls hd hP hD hS hl
  exact lv_tableOut hx hb hdg h ht (kk H locs d ls hd hP hD hS hl)
theorem g_get (hC : CxOk C cc nL own ini R0 G0 l0 ret post) {ix ci N kf : Nat} {Cn ref : String} {TT : u_T} {a : Nat} {fs : List Value} {v : Value} (hdg : decode cc pc = .ok (.getfield ix, 3)) (hL : a ∈ L) (he : f a = .inr (ci, fs)) (hc : vwCl[ci]? = some (Cn, TT, N)) (hu : ∀ w ∈ u_ws Cn TT N, w ∈ lw_all) (hk : kf < N) (hw : Cond.fieldLink own ix ref (TT kf).2.1 (TT kf).2.2.1 ∈ lw_all) (hr : (TT kf).1 = ref) (hv : fs[kf]? = some v) (kk : V C nL L f k n (pc + 3) lv (v :: st)) : V C nL L f k n pc lv (.ref a :: st) := by
  obtain ⟨p, l, e, R, s, m, args, below, meth, c, G, A, H0, Q⟩ := C
  obtain ⟨hx, hb, hml, hown, hts, hK, hN, hA, rfl, rfl, rfl, hin, hexit⟩ := hC
  intro H locs d ls hd hP hD hS hl
  obtain ⟨q0, hq⟩ := pl_at hL he
  exact va_get (s := s.setDrawn d) hx hb (dr_words hts d) hu hown hK hP q0 hq hc kf hk (dr_words hts d _ hw) (fun x9 h9 => by rw [← hr]; exact h9) hv hdg (kk H locs d ls hd hP hD hS hl)
theorem g_getN (hC : CxOk C cc nL own ini R0 G0 l0 ret post) {ix ci N kf : Nat} {Cn ref host : String} {TT : u_T} {a : Nat} {fs : List Value} {v : Value} (hdg : decode cc pc = .ok (.getfield ix, 3)) (hL : a ∈ L) (he : f a = .inr (ci, fs)) (hc : vwCl[ci]? = some (Cn, TT, N)) (hu : ∀ w ∈ u_ws Cn TT N, w ∈ lw_all) (hk : kf < N) (hw : Cond.fieldLinkNest own ix ref (TT kf).2.1 (TT kf).2.2.1 host ∈ lw_nest) (hr : (TT kf).1 = ref) (hv : fs[kf]? = some v) (kk : V C nL L f k n (pc + 3) lv (v :: st)) : V C nL L f k n pc lv (.ref a :: st) := by
  obtain ⟨p, l, e, R, s, m, args, below, meth, c, G, A, H0, Q⟩ := C
  obtain ⟨hx, hb, hml, hown, hts, hK, hN, hA, rfl, rfl, rfl, hin, hexit⟩ := hC
  intro H locs d ls hd hP hD hS hl
  obtain ⟨q0, hq⟩ := pl_at hL he
  exact va_getN (s := s.setDrawn d) hx hb (dr_words hts d) hu hown hK hP q0 hq hc kf hk ((va_Nw.same (U := s.setDrawn d) rfl rfl (hN.1 _ hw)).use rfl) (fun x9 h9 => by rw [← hr]; exact h9) hv hdg (kk H locs d ls hd hP hD hS hl)
theorem g_put (hC : CxOk C cc nL own ini R0 G0 l0 ret post) {ix ci N kf : Nat} {Cn ref : String} {TT : u_T} {a : Nat} {fs : List Value} {ty0 : Nat → FieldType} {fs1 : List Value} {v : Value} {ty : FieldType} (hdg : decode cc pc = .ok (.putfield ix, 3)) (hL : a ∈ L) (he : f a = .inr (ci, fs)) (hc : vwCl[ci]? = some (Cn, TT, N)) (hu : ∀ w ∈ u_ws Cn TT N, w ∈ lw_all) (hk : kf < N) (hty : ∀ j, j < N → parseFieldDescriptor (TT j).2.2.1 = some (ty0 j)) (hnm : ∀ a, a < N → ∀ b, b < N → a ≠ b → (TT a).2.1 ≠ (TT b).2.1) (hw : Cond.fieldLink own ix ref (TT kf).2.1 (TT kf).2.2.1 ∈ lw_all) (hr : (TT kf).1 = ref) (hfin : (TT kf).2.2.2 = false) (htk : ty0 kf = ty) (hnr : narrow ty v = v) (hft : fits ty v = true) (hfs : kf < fs.length) (h1 : fs.set kf v = fs1) (kk : V C nL L (va_up f a (.inr (ci, fs1))) k n (pc + 3) lv st) : V C nL L f k n pc lv (v :: .ref a :: st) := by
  obtain ⟨p, l, e, R, s, m, args, below, meth, c, G, A, H0, Q⟩ := C
  obtain ⟨hx, hb, hml, hown, hts, hK, hN, hA, rfl, rfl, rfl, hin, hexit⟩ := hC
  intro H locs d ls hd hP hD hS hl
  obtain ⟨q0, hq⟩ := pl_at hL he
  subst h1
  exact va_put (s := s.setDrawn d) hx hb (dr_words hts d) hu ty0 hty hnm hown hK hP hD hS q0 hq hc kf hk (dr_words hts d _ hw) (fun x9 h9 => by rw [← hr]; exact h9) hfin (htk ▸ hty kf hk) hnr hft hfs hdg (fun H1 locs1 hP1 hD1 hS1 => kk H1 locs1 d ls hd (pl_set hD hL he hq ▸ hP1) (pl_set hD hL he hq ▸ hD1) hS1 hl)
theorem g_putN (hC : CxOk C cc nL own ini R0 G0 l0 ret post) {ix ci N kf : Nat} {Cn ref host : String} {TT : u_T} {a : Nat} {fs : List Value} {ty0 : Nat → FieldType} {fs1 : List Value} {v : Value} {ty : FieldType} (hdg : decode cc pc = .ok (.putfield ix, 3)) (hL : a ∈ L) (he : f a = .inr (ci, fs)) (hc : vwCl[ci]? = some (Cn, TT, N)) (hu : ∀ w ∈ u_ws Cn TT N, w ∈ lw_all) (hk : kf < N) (hty : ∀ j, j < N → parseFieldDescriptor (TT j).2.2.1 = some (ty0 j)) (hnm : ∀ a, a < N → ∀ b, b < N → a ≠ b → (TT a).2.1 ≠ (TT b).2.1) (hw : Cond.fieldLinkNest own ix ref (TT kf).2.1 (TT kf).2.2.1 host ∈ lw_nest) (hr : (TT kf).1 = ref) (hfin : (TT kf).2.2.2 = false) (htk : ty0 kf = ty) (hnr : narrow ty v = v) (hft : fits ty v = true) (hfs : kf < fs.length) (h1 : fs.set kf v = fs1) (kk : V C nL L (va_up f a (.inr (ci, fs1))) k n (pc + 3) lv st) : V C nL L f k n pc lv (v :: .ref a :: st) := by
  obtain ⟨p, l, e, R, s, m, args, below, meth, c, G, A, H0, Q⟩ := C
  obtain ⟨hx, hb, hml, hown, hts, hK, hN, hA, rfl, rfl, rfl, hin, hexit⟩ := hC
  intro H locs d ls hd hP hD hS hl
  obtain ⟨q0, hq⟩ := pl_at hL he
  subst h1
  exact va_putN (s := s.setDrawn d) hx hb (dr_words hts d) hu ty0 hty hnm hown hK hP hD hS q0 hq hc kf hk ((va_Nw.same (U := s.setDrawn d) rfl rfl (hN.1 _ hw)).use rfl) (fun x9 h9 => by rw [← hr]; exact h9) hfin (htk ▸ hty kf hk) hnr hft hfs hdg (fun H1 locs1 hP1 hD1 hS1 => kk H1 locs1 d ls hd (pl_set hD hL he hq ▸ hP1) (pl_set hD hL he hq ▸ hD1) hS1 hl)
theorem g_putF (hC : CxOk C cc nL own ini R0 G0 l0 ret post) {ix ci N kf : Nat} {Cn ref : String} {TT : u_T} {a : Nat} {fs : List Value} {ty0 : Nat → FieldType} {fs1 : List Value} {v : Value} {ty : FieldType} (hdg : decode cc pc = .ok (.putfield ix, 3)) (hL : a ∈ L) (he : f a = .inr (ci, fs)) (hc : vwCl[ci]? = some (Cn, TT, N)) (hu : ∀ w ∈ u_ws Cn TT N, w ∈ lw_all) (hk : kf < N) (hty : ∀ j, j < N → parseFieldDescriptor (TT j).2.2.1 = some (ty0 j)) (hnm : ∀ a, a < N → ∀ b, b < N → a ≠ b → (TT a).2.1 ≠ (TT b).2.1) (hw : Cond.fieldLink own ix ref (TT kf).2.1 (TT kf).2.2.1 ∈ lw_all) (hr : (TT kf).1 = ref) (hfin : (TT kf).2.2.2 = true) (hin2 : ini = true) (hdecl : (TT kf).1 = own) (htk : ty0 kf = ty) (hnr : narrow ty v = v) (hft : fits ty v = true) (hfs : kf < fs.length) (h1 : fs.set kf v = fs1) (kk : V C nL L (va_up f a (.inr (ci, fs1))) k n (pc + 3) lv st) : V C nL L f k n pc lv (v :: .ref a :: st) := by
  obtain ⟨p, l, e, R, s, m, args, below, meth, c, G, A, H0, Q⟩ := C
  obtain ⟨hx, hb, hml, hown, hts, hK, hN, hA, rfl, rfl, rfl, hin, hexit⟩ := hC
  intro H locs d ls hd hP hD hS hl
  obtain ⟨q0, hq⟩ := pl_at hL he
  subst h1
  exact va_putF (s := s.setDrawn d) hx hb (dr_words hts d) hu ty0 hty hnm hown hK hP hD hS q0 hq hc kf hk (dr_words hts d _ hw) (fun x9 h9 => by rw [← hr]; exact h9) hfin (hin hin2) hdecl (htk ▸ hty kf hk) hnr hft hfs hdg (fun H1 locs1 hP1 hD1 hS1 => kk H1 locs1 d ls hd (pl_set hD hL he hq ▸ hP1) (pl_set hD hL he hq ▸ hD1) hS1 hl)
end G
