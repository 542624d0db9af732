/-! the law: its script, its steps -/
def ScrOk (C : CX) (b N : Nat) (xs : Nat → Int32) : Prop :=
  match C with
  | (_, _, _, _, s, _, _, _, _, _, _, A, H0, _) => va_X b N xs s H0 ∧ b < H0.size ∧ ¬ A b
section G33
variable {C : CX} {cc : ByteArray} {nL : Nat} {own : String} {ini : Bool} {R0 : Room} {G0 : GD} {l0 : Launch} {ret : Option FieldType} {post : PO} {L : List Nat} {f : Nat → va_E} {k n pc : Nat} {lv : List (Nat × Value)} {st : List Value}
theorem g_scr (hC : CxOk C cc nL own ini R0 G0 l0 ret post) {b N : Nat} {xs : Nat → Int32} (hS0 : ScrOk C b N xs) {i : Int32} (m : Nat) (hi : i = nI m) (hm : m < N) (hN : N ≤ 2560) (hdg : decode cc pc = .ok (.iaload, 1)) (kk : V C nL L f k n (pc + 1) lv (.int (xs m) :: st)) : V C nL L f k n pc lv (.int i :: .ref b :: st) := by
  obtain ⟨p, l, e, R, s, mm, args, below, meth, c, G, A, H0, Q⟩ := C
  obtain ⟨hx, hb, hml, hown, hts, hK, hNW, hA, rfl, rfl, rfl, hin, hexit⟩ := hC
  intro H locs d ls hd hP hD hS hl
  subst hi
  have h2 := kk H locs d ls hd hP hD hS hl
  exact va_sld (s := s.setDrawn d) hx hb hS0.1 hS0.2.1 hS0.2.2 hS (vp_in_nI hm (by omega)) hdg (by rw [nI_clamp (by omega)]; exact h2)
theorem g_slen (hC : CxOk C cc nL own ini R0 G0 l0 ret post) {b N : Nat} {xs : Nat → Int32} (hS0 : ScrOk C b N xs) (hdg : decode cc pc = .ok (.arraylength, 1)) (kk : V C nL L f k n (pc + 1) lv (.int (nI N) :: st)) : V C nL L f k n pc lv (.ref b :: st) := by
  obtain ⟨p, l, e, R, s, mm, args, below, meth, c, G, A, H0, Q⟩ := C
  obtain ⟨hx, hb, hml, hown, hts, hK, hNW, hA, rfl, rfl, rfl, hin, hexit⟩ := hC
  intro H locs d ls hd hP hD hS hl
  exact va_slen (s := s.setDrawn d) hx hb hS0.1 hS0.2.1 hS0.2.2 hS hdg (kk H locs d ls hd hP hD hS hl)
end G33
theorem cs5 {k n a b A B : Nat} (ha : a ≤ 5) (hb : b ≤ 29) (h1 : k + 5 ≤ A) (h2 : n + 29 ≤ B) : k + a ≤ A ∧ n + b ≤ B := ⟨by omega, by omega⟩
theorem cs0 {k n a b A B : Nat} (ha : a = 0) (hb : b = 0) (h1 : k ≤ A) (h2 : n ≤ B) : k + a ≤ A ∧ n + b ≤ B := ⟨by omega, by omega⟩
theorem tf {b : Bool} (h1 : b = false) (h2 : b = true) : False := by rw [h1] at h2; cases h2
set_option maxHeartbeats 4000000 in
set_option maxRecDepth 100000 in
/-- the law: safe -/
theorem law_safe {C : CX} {l : Launch} {G : GD} {ret : Option FieldType} {post : PO} (hC : CxOk C cL_law 8 RL false room_1 G l ret post) {b N : Nat} {xs : Nat → Int32} (hS0 : ScrOk C b N xs) (hN : N ≤ 2560) {x0 q0 j k0 n0 : Nat} (hj : j + 5 ≤ N) (hk0 : k0 + 5 ≤ 600000) (hn0 : n0 + 29 ≤ 7302250) {L : List Nat} {f : Nat → va_E} (hJ : JW G x0 q0 L f) (kc : ∀ (L2 : List Nat) (f2 : Nat → va_E), JW G x0 q0 L2 f2 → V C 8 L2 f2 (k0 + 5) (n0 + 29) 850 [(3, .int (nI j)), (0, .ref b), (1, .ref x0), (2, .ref q0)] []) : V C 8 L f k0 n0 260 [(3, .int (nI j)), (0, .ref b), (1, .ref x0), (2, .ref q0)] [] := by
  obtain ⟨n, k, c, ma, X, XS, Z, OU, SL, Y, W0, rfl, hI, hM, hR⟩ := hJ
  have hn16 : n ≤ 16 := MI.n16 hM
  have hk16 : k ≤ 16 := MI.k16 hM
  refine g_aload_n hC dL_law_260 2 rfl ?_
  refine g_aload_n hC dL_law_261 1 rfl ?_
  refine g_iload_n hC dL_law_262 0 rfl ?_
  refine g_iconst hC 1 dL_law_263 (by decide) ?_
  refine g_iadd hC dL_law_264 ?_
  refine g_scr hC hS0 (j + 1) (show nI j + 1 = nI (j + 1) from nI_add j 1) (by omega) hN dL_law_265 ?_
  refine g_aload_n hC dL_law_266 1 rfl ?_
  refine g_iload_n hC dL_law_267 0 rfl ?_
  refine g_iconst hC 2 dL_law_268 (by decide) ?_
  refine g_iadd hC dL_law_269 ?_
  refine g_scr hC hS0 (j + 2) (show nI j + 2 = nI (j + 2) from nI_add j 2) (by omega) hN dL_law_270 ?_
  refine g_i2d hC dL_law_271 ?_
  refine g_ldc2 hC dL_law_272 q_cd_L_13 ?_
  refine g_dmul hC dL_law_275 (fun r1 er1 => ?_)
  refine g_callV hC (Cn := RX4) (TT := TX4) (N := 4) dL_law_276 (ct_X4_safe l G L f hI (xs (j + 1)) r1) q_code_X4_safe q_ml_L_25 q_im_X4_safe q_sel_X4_safe q_init_X4 ⟨rfl, by decide, by decide, (show (parseMethodDescriptor yX4_safe.desc).map (fun d => d.parameters.length) = some 2 from by decide +kernel)⟩ (CI.hm hI) (CI.h0 hI) rfl (by decide) (cs5 (by decide) (by decide) hk0 hn0) (Nat.le_of_ble_eq_true rfl) (fun v3 L4 f5 hp2 => ?_)
  obtain ⟨hL1, F1⟩ : (∀ b, b ∈ L → b ∈ L4) ∧ FRc L f f5 := by
    obtain ⟨rfl, hp⟩ := hp2
    refine ⟨fun _ h => h, ?_⟩
    rcases hp with ⟨_, _, rfl⟩ | ⟨_, _, _, _, _, h, _⟩
    · exact FRc.rf
    · exact h
  have hM1 : MI G q0 ma n k Y W0 L4 f5 := MI.frame hM hL1 F1
  obtain ⟨a1, rfl⟩ : ∃ a, v3 = some (.int a) := by
    rcases hp2.2 with ⟨_, h, _⟩ | ⟨_, _, _, _, h, _⟩ <;> exact ⟨_, h⟩
  refine (show V C 8 L4 f5 (k0 + 0) (n0 + 0) 279 [(3, .int (nI j)), (0, .ref b), (1, .ref (c 6 0)), (2, .ref q0)] [.int a1] from ?_)
  refine g_aload_n hC dL_law_279 3 rfl ?_
  refine g_aload_n hC dL_law_280 1 rfl ?_
  refine g_iload_n hC dL_law_281 0 rfl ?_
  refine g_iconst hC 1 dL_law_282 (by decide) ?_
  refine g_iadd hC dL_law_283 ?_
  refine g_scr hC hS0 (j + 1) (show nI j + 1 = nI (j + 1) from nI_add j 1) (by omega) hN dL_law_284 ?_
  refine g_aload_n hC dL_law_285 1 rfl ?_
  refine g_iload_n hC dL_law_286 0 rfl ?_
  refine g_iconst hC 2 dL_law_287 (by decide) ?_
  refine g_iadd hC dL_law_288 ?_
  refine g_scr hC hS0 (j + 2) (show nI j + 2 = nI (j + 2) from nI_add j 2) (by omega) hN dL_law_289 ?_
  refine g_i2d hC dL_law_290 ?_
  refine g_ldc2 hC dL_law_291 q_cd_L_13 ?_
  refine g_dmul hC dL_law_294 (fun r6 er6 => ?_)
  have hv1 : dv r1 = dv r6 := er1.trans er6.symm
  refine g_callV hC (Cn := RX5) (TT := TX5) (N := 26) dL_law_295 (ct_X5_safe l G L4 f5 hM1  (xs (j + 1)) r6) q_code_X5_safe q_ml_L_29 q_im_X5_safe q_sel_X5_safe q_init_X5 ⟨rfl, by decide, by decide, (show (parseMethodDescriptor yX5_safe.desc).map (fun d => d.parameters.length) = some 2 from by decide +kernel)⟩ (MI.m hM1) (MI.o hM1) rfl (by decide) (cs0 rfl rfl (show k0 + 0 ≤ 600000 by omega) (show n0 + 0 ≤ 7302250 by omega)) (Nat.le_of_ble_eq_true rfl) (fun v8 L9 f10 hp7 => ?_)
  obtain ⟨a2, rfl⟩ : ∃ a, v8 = some (.int a) := by
    rcases hp7.2 with ⟨_, h, _⟩ | ⟨_, _, _, _, h, _⟩ <;> exact ⟨_, h⟩
  refine (show V C 8 L9 f10 (k0 + 0) (n0 + 0) 298 [(3, .int (nI j)), (0, .ref b), (1, .ref (c 6 0)), (2, .ref q0)] [.int a2, .int a1] from ?_)
  have hfin : a1 = a2 ∧ JW G (c 6 0) q0 L9 f10 := by
    have hq : ∀ i, i < n → safC (dv r1) = safC (dv r6) := by
      intro i hi
      rw [hv1]
    obtain ⟨rfl, g1⟩ := hp2
    obtain ⟨rfl, g2⟩ := hp7
    rcases g1 with ⟨r1, e1, rfl⟩ | ⟨i, hi, hk1, hc1, e1, F2, I1⟩
    · rcases g2 with ⟨r2, e2, rfl⟩ | ⟨i, hi, hk2, hc2, e2, F3, I2⟩
      · cases e1; cases e2; exact ⟨rfl, JW.mk rfl hI hM hR⟩
      · exact (tf (r1 i hi hk2) ((hq i hi).trans hc2)).elim
    · rcases g2 with ⟨r2, e2, rfl⟩ | ⟨i2, hi2, hk2, hc2, e2, F3, I2⟩
      · exact (tf (r2 i hi hk1) ((hq i hi).symm.trans hc1)).elim
      · have hii : i = i2 := nI_injL (by omega) (by omega) (hk1.symm.trans hk2)
        subst hii
        cases e1; cases e2
        exact ⟨rfl, JW.mk rfl (CI.frame I1 (fun _ h => h) F3) I2 (REL.setX hR hi (fun a h => by rw [up2_o _ _ _ _ h]) (fun _ _ => rfl) (by simp [up2]) rfl (by simp only [up2_r]; exact (LR.up (hR.1 i hi) (j := 4) (by decide) hv1)))⟩
  refine g_icmp_eq hC 850 dL_law_298 (by decide) (fun _ => ?_) (fun c => absurd hfin.1 c)
  exact g_widen (by omega) (by omega) (kc L9 f10 hfin.2)
