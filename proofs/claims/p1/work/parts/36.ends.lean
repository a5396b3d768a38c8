theorem wk_rem2 {y v : Int32} (e : v = y - y / 2 * 2) : v = 0 ∨ v = 1 ∨ v = -1 := by
  have hr := wk_rng y
  have e2 : (2 : Int32).toInt = 2 := by decide
  have hq : (y / 2).toInt = y.toInt.tdiv 2 := by
    rw [Int32.toInt_div_of_ne_right _ _ (by decide), e2]
  have hm := Int.mul_tdiv_add_tmod y.toInt 2
  have hl := Int.tmod_lt_of_pos y.toInt (show (0 : Int) < 2 by decide)
  have hg := Int.lt_tmod_of_pos y.toInt (show (0 : Int) < 2 by decide)
  have ht : v.toInt = y.toInt.tmod 2 := by
    rw [e]
    by_cases hs : 0 ≤ y.toInt
    · have h0 := Int.tmod_nonneg 2 hs
      rw [Int32.toInt_sub, Int32.toInt_mul, hq, e2, wk_bmod (z := y.toInt.tdiv 2 * 2) (by omega) (by omega), wk_bmod (by omega) (by omega)]
      omega
    · have h0 := Int.tmod_nonneg 2 (show 0 ≤ -y.toInt by omega)
      rw [Int.neg_tmod] at h0
      rw [Int32.toInt_sub, Int32.toInt_mul, hq, e2, wk_bmod (z := y.toInt.tdiv 2 * 2) (by omega) (by omega), wk_bmod (by omega) (by omega)]
      omega
  rcases (show v.toInt = 0 ∨ v.toInt = 1 ∨ v.toInt = -1 by omega) with h | h | h
  · exact Or.inl (wk_eq (by rw [h]; decide))
  · exact Or.inr (Or.inl (wk_eq (by rw [h]; decide)))
  · exact Or.inr (Or.inr (wk_eq (by rw [h]; decide)))
theorem wk_neg1 {r v : Int32} (h : r = 1 ∨ r = -1) (e : v = -r) : v = 1 ∨ v = -1 := by
  rcases h with h | h
  · exact Or.inr (by rw [e, h])
  · exact Or.inl (by rw [e, h]; decide)
theorem wk_ix {c1 va vb vix : Int32} {n1 x i : Nat} (h : c1 = nI n1) (e1 : va = c1 + nI x) (e2 : vb = va * 25) (e3 : vix = vb + nI i) : vix = nI ((n1 + x) * 25 + i) := by
  rw [e3, e2, e1, h, nI_add, show (25 : Int32) = nI 25 from rfl, pk_mul, nI_add]
set_option maxHeartbeats 4000000 in
set_option maxRecDepth 100000 in
/-- X12_passOf -/
theorem kX12_passOf_m (l : Launch) (D : va_G) (G : tyG) (sz : Nat) : Met l yX12_passOf wsX12_passOf ({ frames := 0, cells := 0, slots := 0, locals := 0 }) (va_Pc [.int (-1)] (wB D G sz [])) (va_Qi (fun (r : Int32) (_ : Unit) => r = (-1)) (fun _ _ => True) (va_A [] sz)) 0 0 (va_A [] sz) := by
  refine Met.ofW (cc := cX12_passOf) (maxL := 1) (ret := (some .int)) (by decide) rfl ?_
  intro p e s m args below meth c s₁ B hml hv
  obtain ⟨rfl, hsz, hP, hK, hD0, hN⟩ := hv
  have hx := B.exec
  have hb := B.bytes
  have hr := B.returns
  have hts := atoms_spec (ws := wsX12_passOf) B.pre
  have hown : s.vm.findClass RX12 = some m.cls := findClass_of_methodNamed B.named
  have hlocks := B.notSynchronized
  subst hsz
  have hD := hD0.self (sz := s.heap.size)
  generalize hAe : va_A [] s.heap.size = A at hD ⊢
  have hA : ∀ q : Nat, s.heap.size ≤ q → A q := fun q h => by rw [← hAe]; exact Or.inr h
  have hS : va_S A s.heap s.heap [] := va_S.rf
  have hP : va_P D vwCl [] s.heap := hP
  have hl := lv_entry ([.int (-1)]) (n := 1) (Nat.le_of_ble_eq_true rfl)
  rw [lg_entry_eq]
  generalize (lg_sl ([.int (-1)]) ++ List.replicate (1 - (lg_sl ([.int (-1)])).length) Slot.unset).toArray = ls at hl ⊢
  have hl : lv_has ls 1 [(0, .int (-1))] := hl
  refine lv_iload_n hx hb dX12_passOf_0 rfl (lv_at hl 0 rfl) ?_
  refine lv_iconst (v := 2) hx hb dX12_passOf_1 (by decide) ?_
  refine lv_irem hx hb dX12_passOf_2 (by decide) ?_
  refine wk_i (-1) (by decide) ?_
  refine lv_if_ne (tgt := 14) hx hb dX12_passOf_3 (by decide) (fun _ => ?_) (fun h9 => absurd h9 (by decide))
  refine lv_iload_n hx hb dX12_passOf_14 rfl (lv_at hl 0 rfl) ?_
  refine lv_iconst (v := 2) hx hb dX12_passOf_15 (by decide) ?_
  refine lv_idiv hx hb dX12_passOf_16 (by decide) ?_
  refine wk_i 0 (by decide) ?_
  refine lv_iconst (v := 1) hx hb dX12_passOf_17 (by decide) ?_
  refine lv_iadd hx hb dX12_passOf_18 ?_
  refine wk_i 1 (by decide) ?_
  refine lv_ineg hx hb dX12_passOf_19 ?_
  refine wk_i (-1) (by decide) ?_
  exact W.iret (v := (-1)) hx hb hr (fun t ht hW => ⟨⟨(-1), (), rfl, rfl, trivial⟩, hS.F ht⟩) hS.2.2 dX12_passOf_20

set_option maxHeartbeats 4000000 in
set_option maxRecDepth 100000 in
/-- X12_passAt -/
theorem kX12_passAt_s10 (l : Launch) (D : va_G) (G : tyG) (h0 : Nat) (w : Int32) (z0 : Nat) (z1 : Nat) (z2 : Nat) (z3 : Nat) (z4 : Nat) (z5 : Nat) (z20 : Nat) (z21 : Nat) (z22 : Nat) (z23 : Nat) (z24 : Nat) (z25 : Nat) (z26 : Nat) (z27 : Nat) (z28 : Nat) (z6 : Nat) (z29 : Nat) (z7 : Nat) (z19 : Nat) (z8 : Nat) (z9 : Nat) (z10 : Nat) (z11 : Nat) (z30 : Nat) (z31 : Nat) (z32 : Nat) (z33 : Nat) (z12 : Nat) (z34 : Nat) (z35 : Nat) (z36 : Nat) (z37 : Nat) (z38 : Nat) (z39 : Nat) (z40 : Nat) (z41 : Nat) (z42 : Nat) (z13 : Nat) (z14 : Nat) (z15 : Nat) (z16 : Nat) (z17 : Nat) (z18 : Nat) (z43 : Nat) (sz : Nat) : Met l yX12_passAt wsX12_passAt ({ frames := 1, cells := 0, slots := 0, locals := 23 }) (va_Pc [.ref h0, .int w, .int 1, .int 0] (wB D G sz [(h0, .inr (12, [.ref z0, .ref z1, .ref z2, .ref z3, .ref z4, .ref z5, .ref z20, .ref z21, .ref z22, .ref z23, .ref z24, .ref z25, .int 0, .ref z26, .ref z27, .ref z28, .int 9, .int 0, .int 0, .ref z6, .ref z29, .ref z7, .int 0, .int 2, .ref z19, .ref z8, .ref z9, .ref z10, .int 0, .ref z11, .int 0, .ref z30, .ref z31, .ref z32, .ref z33, .int 0, .ref z12, .int 0, .int 0, .ref z34, .ref z35, .ref z36, .ref z37, .int 0, .int 0, .int 0, .int 0, .ref z38, .int 0, .ref z39, .ref z40, .ref z41, .ref z42, .int 0, .ref z13, .ref z14, .ref z15, .ref z16, .int 0, .ref z17, .ref z18, .ref z43]))])) (va_Qi (fun (r : Int32) (_ : Unit) => r = 1 ∨ r = -1) (fun _ t => wS D G (va_A [(h0, .inr (12, [.ref z0, .ref z1, .ref z2, .ref z3, .ref z4, .ref z5, .ref z20, .ref z21, .ref z22, .ref z23, .ref z24, .ref z25, .int 0, .ref z26, .ref z27, .ref z28, .int 9, .int 0, .int 0, .ref z6, .ref z29, .ref z7, .int 0, .int 2, .ref z19, .ref z8, .ref z9, .ref z10, .int 0, .ref z11, .int 0, .ref z30, .ref z31, .ref z32, .ref z33, .int 0, .ref z12, .int 0, .int 0, .ref z34, .ref z35, .ref z36, .ref z37, .int 0, .int 0, .int 0, .int 0, .ref z38, .int 0, .ref z39, .ref z40, .ref z41, .ref z42, .int 0, .ref z13, .ref z14, .ref z15, .ref z16, .int 0, .ref z17, .ref z18, .ref z43]))] sz) [(h0, .inr (12, [.ref z0, .ref z1, .ref z2, .ref z3, .ref z4, .ref z5, .ref z20, .ref z21, .ref z22, .ref z23, .ref z24, .ref z25, .int 0, .ref z26, .ref z27, .ref z28, .int 9, .int 0, .int 0, .ref z6, .ref z29, .ref z7, .int 0, .int 2, .ref z19, .ref z8, .ref z9, .ref z10, .int 0, .ref z11, .int 0, .ref z30, .ref z31, .ref z32, .ref z33, .int 0, .ref z12, .int 0, .int 0, .ref z34, .ref z35, .ref z36, .ref z37, .int 0, .int 0, .int 0, .int 0, .ref z38, .int 0, .ref z39, .ref z40, .ref z41, .ref z42, .int 0, .ref z13, .ref z14, .ref z15, .ref z16, .int 0, .ref z17, .ref z18, .ref z43]))] t) (va_A [(h0, .inr (12, [.ref z0, .ref z1, .ref z2, .ref z3, .ref z4, .ref z5, .ref z20, .ref z21, .ref z22, .ref z23, .ref z24, .ref z25, .int 0, .ref z26, .ref z27, .ref z28, .int 9, .int 0, .int 0, .ref z6, .ref z29, .ref z7, .int 0, .int 2, .ref z19, .ref z8, .ref z9, .ref z10, .int 0, .ref z11, .int 0, .ref z30, .ref z31, .ref z32, .ref z33, .int 0, .ref z12, .int 0, .int 0, .ref z34, .ref z35, .ref z36, .ref z37, .int 0, .int 0, .int 0, .int 0, .ref z38, .int 0, .ref z39, .ref z40, .ref z41, .ref z42, .int 0, .ref z13, .ref z14, .ref z15, .ref z16, .int 0, .ref z17, .ref z18, .ref z43]))] sz)) 0 0 (va_A [(h0, .inr (12, [.ref z0, .ref z1, .ref z2, .ref z3, .ref z4, .ref z5, .ref z20, .ref z21, .ref z22, .ref z23, .ref z24, .ref z25, .int 0, .ref z26, .ref z27, .ref z28, .int 9, .int 0, .int 0, .ref z6, .ref z29, .ref z7, .int 0, .int 2, .ref z19, .ref z8, .ref z9, .ref z10, .int 0, .ref z11, .int 0, .ref z30, .ref z31, .ref z32, .ref z33, .int 0, .ref z12, .int 0, .int 0, .ref z34, .ref z35, .ref z36, .ref z37, .int 0, .int 0, .int 0, .int 0, .ref z38, .int 0, .ref z39, .ref z40, .ref z41, .ref z42, .int 0, .ref z13, .ref z14, .ref z15, .ref z16, .int 0, .ref z17, .ref z18, .ref z43]))] sz) := by
  refine Met.ofW (cc := cX12_passAt) (maxL := 4) (ret := (some .int)) (by decide) rfl ?_
  intro p e s m args below meth c s₁ B hml hv
  obtain ⟨rfl, hsz, hP, hK, hD0, hN⟩ := hv
  have hx := B.exec
  have hb := B.bytes
  have hr := B.returns
  have hts := atoms_spec (ws := wsX12_passAt) B.pre
  have hown : s.vm.findClass RX12 = some m.cls := findClass_of_methodNamed B.named
  have hlocks := B.notSynchronized
  subst hsz
  have hD := hD0.self (sz := s.heap.size)
  generalize hAe : va_A [(h0, .inr (12, [.ref z0, .ref z1, .ref z2, .ref z3, .ref z4, .ref z5, .ref z20, .ref z21, .ref z22, .ref z23, .ref z24, .ref z25, .int 0, .ref z26, .ref z27, .ref z28, .int 9, .int 0, .int 0, .ref z6, .ref z29, .ref z7, .int 0, .int 2, .ref z19, .ref z8, .ref z9, .ref z10, .int 0, .ref z11, .int 0, .ref z30, .ref z31, .ref z32, .ref z33, .int 0, .ref z12, .int 0, .int 0, .ref z34, .ref z35, .ref z36, .ref z37, .int 0, .int 0, .int 0, .int 0, .ref z38, .int 0, .ref z39, .ref z40, .ref z41, .ref z42, .int 0, .ref z13, .ref z14, .ref z15, .ref z16, .int 0, .ref z17, .ref z18, .ref z43]))] s.heap.size = A at hD ⊢
  have hA : ∀ q : Nat, s.heap.size ≤ q → A q := fun q h => by rw [← hAe]; exact Or.inr h
  have hS : va_S A s.heap s.heap [] := va_S.rf
  have hP : va_P D vwCl [(h0, .inr (12, [.ref z0, .ref z1, .ref z2, .ref z3, .ref z4, .ref z5, .ref z20, .ref z21, .ref z22, .ref z23, .ref z24, .ref z25, .int 0, .ref z26, .ref z27, .ref z28, .int 9, .int 0, .int 0, .ref z6, .ref z29, .ref z7, .int 0, .int 2, .ref z19, .ref z8, .ref z9, .ref z10, .int 0, .ref z11, .int 0, .ref z30, .ref z31, .ref z32, .ref z33, .int 0, .ref z12, .int 0, .int 0, .ref z34, .ref z35, .ref z36, .ref z37, .int 0, .int 0, .int 0, .int 0, .ref z38, .int 0, .ref z39, .ref z40, .ref z41, .ref z42, .int 0, .ref z13, .ref z14, .ref z15, .ref z16, .int 0, .ref z17, .ref z18, .ref z43]))] s.heap := hP
  have hl := lv_entry ([.ref h0, .int w, .int 1, .int 0]) (n := 4) (Nat.le_of_ble_eq_true rfl)
  rw [lg_entry_eq]
  generalize (lg_sl ([.ref h0, .int w, .int 1, .int 0]) ++ List.replicate (4 - (lg_sl ([.ref h0, .int w, .int 1, .int 0])).length) Slot.unset).toArray = ls at hl ⊢
  have hl : lv_has ls 4 [(0, .ref h0), (1, .int w), (2, .int 1), (3, .int 0)] := hl
  refine lv_iload_n hx hb dX12_passAt_0 rfl (lv_at hl 1 rfl) ?_
  refine lv_aload_n hx hb dX12_passAt_1 rfl (lv_at hl 0 rfl) ?_
  have hPc := hP.sub (ws' := [(h0, .inr (12, [.ref z0, .ref z1, .ref z2, .ref z3, .ref z4, .ref z5, .ref z20, .ref z21, .ref z22, .ref z23, .ref z24, .ref z25, .int 0, .ref z26, .ref z27, .ref z28, .int 9, .int 0, .int 0, .ref z6, .ref z29, .ref z7, .int 0, .int 2, .ref z19, .ref z8, .ref z9, .ref z10, .int 0, .ref z11, .int 0, .ref z30, .ref z31, .ref z32, .ref z33, .int 0, .ref z12, .int 0, .int 0, .ref z34, .ref z35, .ref z36, .ref z37, .int 0, .int 0, .int 0, .int 0, .ref z38, .int 0, .ref z39, .ref z40, .ref z41, .ref z42, .int 0, .ref z13, .ref z14, .ref z15, .ref z16, .int 0, .ref z17, .ref z18, .ref z43]))]) [0] rfl
  have hDc := hD.sub (ws' := [(h0, .inr (12, [.ref z0, .ref z1, .ref z2, .ref z3, .ref z4, .ref z5, .ref z20, .ref z21, .ref z22, .ref z23, .ref z24, .ref z25, .int 0, .ref z26, .ref z27, .ref z28, .int 9, .int 0, .int 0, .ref z6, .ref z29, .ref z7, .int 0, .int 2, .ref z19, .ref z8, .ref z9, .ref z10, .int 0, .ref z11, .int 0, .ref z30, .ref z31, .ref z32, .ref z33, .int 0, .ref z12, .int 0, .int 0, .ref z34, .ref z35, .ref z36, .ref z37, .int 0, .int 0, .int 0, .int 0, .ref z38, .int 0, .ref z39, .ref z40, .ref z41, .ref z42, .int 0, .ref z13, .ref z14, .ref z15, .ref z16, .int 0, .ref z17, .ref z18, .ref z43]))]) [0] (by decide) rfl
  have hFc := va_free (wc := [(h0, .inr (12, [.ref z0, .ref z1, .ref z2, .ref z3, .ref z4, .ref z5, .ref z20, .ref z21, .ref z22, .ref z23, .ref z24, .ref z25, .int 0, .ref z26, .ref z27, .ref z28, .int 9, .int 0, .int 0, .ref z6, .ref z29, .ref z7, .int 0, .int 2, .ref z19, .ref z8, .ref z9, .ref z10, .int 0, .ref z11, .int 0, .ref z30, .ref z31, .ref z32, .ref z33, .int 0, .ref z12, .int 0, .int 0, .ref z34, .ref z35, .ref z36, .ref z37, .int 0, .int 0, .int 0, .int 0, .ref z38, .int 0, .ref z39, .ref z40, .ref z41, .ref z42, .int 0, .ref z13, .ref z14, .ref z15, .ref z16, .int 0, .ref z17, .ref z18, .ref z43]))]) hD hS hA [0] rfl
  refine va_calli (va_runV (As := []) (rest := [.int w]) ⟨hx, hb, hml, hown, hts⟩ (kX12_gens l D G h0 z0 z1 z2 z3 z4 z5 z20 z21 z22 z23 z24 z25 z26 z27 z28 z6 z29 z7 z19 z8 z9 z10 z11 z30 z31 z32 z33 z12 z34 z35 z36 z37 z38 z39 z40 z41 z42 z13 z14 z15 z16 z17 z18 z43 0 s.heap.size) (cwV 0 hts gX12_passAt_X12_gens rfl rfl rfl (by decide +kernel) ⟨Nat.le_of_ble_eq_true rfl, Nat.le_of_ble_eq_true rfl⟩) ⟨wB_blind, va_recv hK hPc (ci := 12) (q0 := 0) rfl rfl, wB_pre hPc hK hDc hN⟩ rfl rfl hl.1 rfl (lv_room (Nat.le_of_ble_eq_true rfl)) dX12_passAt_2 ⟨Nat.le_of_ble_eq_true rfl, Nat.le_of_ble_eq_true rfl⟩) hS (fun q _ h => hFc q h) hFc (fun r1 u t H1 locs ht hvm hr1 hB hz1 hk1 hS => ?_)
  obtain ⟨hP1, hK1, hD1⟩ := hB
  rw [ht] at hP1
  obtain ⟨hP, hD⟩ := va_join (wr := []) (w1 := [(h0, .inr (12, [.ref z0, .ref z1, .ref z2, .ref z3, .ref z4, .ref z5, .ref z20, .ref z21, .ref z22, .ref z23, .ref z24, .ref z25, .int 0, .ref z26, .ref z27, .ref z28, .int 9, .int 0, .int 0, .ref z6, .ref z29, .ref z7, .int 0, .int 2, .ref z19, .ref z8, .ref z9, .ref z10, .int 0, .ref z11, .int 0, .ref z30, .ref z31, .ref z32, .ref z33, .int 0, .ref z12, .int 0, .int 0, .ref z34, .ref z35, .ref z36, .ref z37, .int 0, .int 0, .int 0, .int 0, .ref z38, .int 0, .ref z39, .ref z40, .ref z41, .ref z42, .int 0, .ref z13, .ref z14, .ref z15, .ref z16, .int 0, .ref z17, .ref z18, .ref z43]))]) hP hD [0] [] rfl rfl (by decide) (by decide) hk1 hFc hP1 hD1
  clear hPc hDc
  generalize H1 = H at hP hS ⊢
  have hP : va_P D vwCl [(h0, .inr (12, [.ref z0, .ref z1, .ref z2, .ref z3, .ref z4, .ref z5, .ref z20, .ref z21, .ref z22, .ref z23, .ref z24, .ref z25, .int 0, .ref z26, .ref z27, .ref z28, .int 9, .int 0, .int 0, .ref z6, .ref z29, .ref z7, .int 0, .int 2, .ref z19, .ref z8, .ref z9, .ref z10, .int 0, .ref z11, .int 0, .ref z30, .ref z31, .ref z32, .ref z33, .int 0, .ref z12, .int 0, .int 0, .ref z34, .ref z35, .ref z36, .ref z37, .int 0, .int 0, .int 0, .int 0, .ref z38, .int 0, .ref z39, .ref z40, .ref z41, .ref z42, .int 0, .ref z13, .ref z14, .ref z15, .ref z16, .int 0, .ref z17, .ref z18, .ref z43]))] H := hP
  have hD : va_D A [(h0, .inr (12, [.ref z0, .ref z1, .ref z2, .ref z3, .ref z4, .ref z5, .ref z20, .ref z21, .ref z22, .ref z23, .ref z24, .ref z25, .int 0, .ref z26, .ref z27, .ref z28, .int 9, .int 0, .int 0, .ref z6, .ref z29, .ref z7, .int 0, .int 2, .ref z19, .ref z8, .ref z9, .ref z10, .int 0, .ref z11, .int 0, .ref z30, .ref z31, .ref z32, .ref z33, .int 0, .ref z12, .int 0, .int 0, .ref z34, .ref z35, .ref z36, .ref z37, .int 0, .int 0, .int 0, .int 0, .ref z38, .int 0, .ref z39, .ref z40, .ref z41, .ref z42, .int 0, .ref z13, .ref z14, .ref z15, .ref z16, .int 0, .ref z17, .ref z18, .ref z43]))] := hD
  subst hr1
  refine lv_iload_n hx hb dX12_passAt_5 rfl (lv_at hl 2 rfl) ?_
  refine lv_iconst (v := 1) hx hb dX12_passAt_6 (by decide) ?_
  refine lv_isub hx hb dX12_passAt_7 ?_
  refine wk_i 0 (by decide) ?_
  refine lv_iload_n hx hb dX12_passAt_8 rfl (lv_at hl 3 rfl) ?_
  refine lv_isub hx hb dX12_passAt_9 ?_
  refine wk_i 0 (by decide) ?_
  have hPc := hP.sub (ws' := []) [] rfl
  have hDc := hD.sub (ws' := []) [] (by decide) rfl
  have hFc := va_free (wc := []) hD hS hA [] rfl
  refine va_calli (va_runS (As := [.int 2, .int 0]) (rest := [.int w]) ⟨hx, hb, hml, hown, hts⟩ (kX12_power_0 l D G  H.size) (va_cwS 2 hts gX12_passAt_X12_power rfl rfl rfl (by decide +kernel) ⟨Nat.le_of_ble_eq_true rfl, Nat.le_of_ble_eq_true rfl⟩) ⟨wB_blind, wB_pre hPc hK hDc hN⟩ rfl rfl hl.1 rfl (lv_room (Nat.le_of_ble_eq_true rfl)) dX12_passAt_10 ⟨Nat.le_of_ble_eq_true rfl, Nat.le_of_ble_eq_true rfl⟩) hS (fun q _ h => hFc q h) hFc (fun r2 u t H1 locs ht hvm hr2 hB hz1 hk1 hS => ?_)
  obtain ⟨hP, hD⟩ := va_join (wr := [(h0, .inr (12, [.ref z0, .ref z1, .ref z2, .ref z3, .ref z4, .ref z5, .ref z20, .ref z21, .ref z22, .ref z23, .ref z24, .ref z25, .int 0, .ref z26, .ref z27, .ref z28, .int 9, .int 0, .int 0, .ref z6, .ref z29, .ref z7, .int 0, .int 2, .ref z19, .ref z8, .ref z9, .ref z10, .int 0, .ref z11, .int 0, .ref z30, .ref z31, .ref z32, .ref z33, .int 0, .ref z12, .int 0, .int 0, .ref z34, .ref z35, .ref z36, .ref z37, .int 0, .int 0, .int 0, .int 0, .ref z38, .int 0, .ref z39, .ref z40, .ref z41, .ref z42, .int 0, .ref z13, .ref z14, .ref z15, .ref z16, .int 0, .ref z17, .ref z18, .ref z43]))]) (w1 := []) hP hD [] [0] rfl rfl (by decide) (by decide) hk1 hFc wP_nil wD_nil
  clear hPc hDc
  generalize H1 = H at hP hS ⊢
  have hP : va_P D vwCl [(h0, .inr (12, [.ref z0, .ref z1, .ref z2, .ref z3, .ref z4, .ref z5, .ref z20, .ref z21, .ref z22, .ref z23, .ref z24, .ref z25, .int 0, .ref z26, .ref z27, .ref z28, .int 9, .int 0, .int 0, .ref z6, .ref z29, .ref z7, .int 0, .int 2, .ref z19, .ref z8, .ref z9, .ref z10, .int 0, .ref z11, .int 0, .ref z30, .ref z31, .ref z32, .ref z33, .int 0, .ref z12, .int 0, .int 0, .ref z34, .ref z35, .ref z36, .ref z37, .int 0, .int 0, .int 0, .int 0, .ref z38, .int 0, .ref z39, .ref z40, .ref z41, .ref z42, .int 0, .ref z13, .ref z14, .ref z15, .ref z16, .int 0, .ref z17, .ref z18, .ref z43]))] H := hP
  have hD : va_D A [(h0, .inr (12, [.ref z0, .ref z1, .ref z2, .ref z3, .ref z4, .ref z5, .ref z20, .ref z21, .ref z22, .ref z23, .ref z24, .ref z25, .int 0, .ref z26, .ref z27, .ref z28, .int 9, .int 0, .int 0, .ref z6, .ref z29, .ref z7, .int 0, .int 2, .ref z19, .ref z8, .ref z9, .ref z10, .int 0, .ref z11, .int 0, .ref z30, .ref z31, .ref z32, .ref z33, .int 0, .ref z12, .int 0, .int 0, .ref z34, .ref z35, .ref z36, .ref z37, .int 0, .int 0, .int 0, .int 0, .ref z38, .int 0, .ref z39, .ref z40, .ref z41, .ref z42, .int 0, .ref z13, .ref z14, .ref z15, .ref z16, .int 0, .ref z17, .ref z18, .ref z43]))] := hD
  subst hr2
  refine lv_idiv hx hb dX12_passAt_13 (by decide) ?_
  refine lv_topi (fun v3 ev3 => ?_)
  refine lv_aload_n hx hb dX12_passAt_14 rfl (lv_at hl 0 rfl) ?_
  have hPc := hP.sub (ws' := [(h0, .inr (12, [.ref z0, .ref z1, .ref z2, .ref z3, .ref z4, .ref z5, .ref z20, .ref z21, .ref z22, .ref z23, .ref z24, .ref z25, .int 0, .ref z26, .ref z27, .ref z28, .int 9, .int 0, .int 0, .ref z6, .ref z29, .ref z7, .int 0, .int 2, .ref z19, .ref z8, .ref z9, .ref z10, .int 0, .ref z11, .int 0, .ref z30, .ref z31, .ref z32, .ref z33, .int 0, .ref z12, .int 0, .int 0, .ref z34, .ref z35, .ref z36, .ref z37, .int 0, .int 0, .int 0, .int 0, .ref z38, .int 0, .ref z39, .ref z40, .ref z41, .ref z42, .int 0, .ref z13, .ref z14, .ref z15, .ref z16, .int 0, .ref z17, .ref z18, .ref z43]))]) [0] rfl
  have hDc := hD.sub (ws' := [(h0, .inr (12, [.ref z0, .ref z1, .ref z2, .ref z3, .ref z4, .ref z5, .ref z20, .ref z21, .ref z22, .ref z23, .ref z24, .ref z25, .int 0, .ref z26, .ref z27, .ref z28, .int 9, .int 0, .int 0, .ref z6, .ref z29, .ref z7, .int 0, .int 2, .ref z19, .ref z8, .ref z9, .ref z10, .int 0, .ref z11, .int 0, .ref z30, .ref z31, .ref z32, .ref z33, .int 0, .ref z12, .int 0, .int 0, .ref z34, .ref z35, .ref z36, .ref z37, .int 0, .int 0, .int 0, .int 0, .ref z38, .int 0, .ref z39, .ref z40, .ref z41, .ref z42, .int 0, .ref z13, .ref z14, .ref z15, .ref z16, .int 0, .ref z17, .ref z18, .ref z43]))]) [0] (by decide) rfl
  have hFc := va_free (wc := [(h0, .inr (12, [.ref z0, .ref z1, .ref z2, .ref z3, .ref z4, .ref z5, .ref z20, .ref z21, .ref z22, .ref z23, .ref z24, .ref z25, .int 0, .ref z26, .ref z27, .ref z28, .int 9, .int 0, .int 0, .ref z6, .ref z29, .ref z7, .int 0, .int 2, .ref z19, .ref z8, .ref z9, .ref z10, .int 0, .ref z11, .int 0, .ref z30, .ref z31, .ref z32, .ref z33, .int 0, .ref z12, .int 0, .int 0, .ref z34, .ref z35, .ref z36, .ref z37, .int 0, .int 0, .int 0, .int 0, .ref z38, .int 0, .ref z39, .ref z40, .ref z41, .ref z42, .int 0, .ref z13, .ref z14, .ref z15, .ref z16, .int 0, .ref z17, .ref z18, .ref z43]))]) hD hS hA [0] rfl
  refine va_calli (va_runV (As := []) (rest := [.int v3]) ⟨hx, hb, hml, hown, hts⟩ (kX12_gens l D G h0 z0 z1 z2 z3 z4 z5 z20 z21 z22 z23 z24 z25 z26 z27 z28 z6 z29 z7 z19 z8 z9 z10 z11 z30 z31 z32 z33 z12 z34 z35 z36 z37 z38 z39 z40 z41 z42 z13 z14 z15 z16 z17 z18 z43 0 H.size) (cwV 0 hts gX12_passAt_X12_gens rfl rfl rfl (by decide +kernel) ⟨Nat.le_of_ble_eq_true rfl, Nat.le_of_ble_eq_true rfl⟩) ⟨wB_blind, va_recv hK hPc (ci := 12) (q0 := 0) rfl rfl, wB_pre hPc hK hDc hN⟩ rfl rfl hl.1 rfl (lv_room (Nat.le_of_ble_eq_true rfl)) dX12_passAt_15 ⟨Nat.le_of_ble_eq_true rfl, Nat.le_of_ble_eq_true rfl⟩) hS (fun q _ h => hFc q h) hFc (fun r4 u t H1 locs ht hvm hr4 hB hz1 hk1 hS => ?_)
  obtain ⟨hP1, hK1, hD1⟩ := hB
  rw [ht] at hP1
  obtain ⟨hP, hD⟩ := va_join (wr := []) (w1 := [(h0, .inr (12, [.ref z0, .ref z1, .ref z2, .ref z3, .ref z4, .ref z5, .ref z20, .ref z21, .ref z22, .ref z23, .ref z24, .ref z25, .int 0, .ref z26, .ref z27, .ref z28, .int 9, .int 0, .int 0, .ref z6, .ref z29, .ref z7, .int 0, .int 2, .ref z19, .ref z8, .ref z9, .ref z10, .int 0, .ref z11, .int 0, .ref z30, .ref z31, .ref z32, .ref z33, .int 0, .ref z12, .int 0, .int 0, .ref z34, .ref z35, .ref z36, .ref z37, .int 0, .int 0, .int 0, .int 0, .ref z38, .int 0, .ref z39, .ref z40, .ref z41, .ref z42, .int 0, .ref z13, .ref z14, .ref z15, .ref z16, .int 0, .ref z17, .ref z18, .ref z43]))]) hP hD [0] [] rfl rfl (by decide) (by decide) hk1 hFc hP1 hD1
  clear hPc hDc
  generalize H1 = H at hP hS ⊢
  have hP : va_P D vwCl [(h0, .inr (12, [.ref z0, .ref z1, .ref z2, .ref z3, .ref z4, .ref z5, .ref z20, .ref z21, .ref z22, .ref z23, .ref z24, .ref z25, .int 0, .ref z26, .ref z27, .ref z28, .int 9, .int 0, .int 0, .ref z6, .ref z29, .ref z7, .int 0, .int 2, .ref z19, .ref z8, .ref z9, .ref z10, .int 0, .ref z11, .int 0, .ref z30, .ref z31, .ref z32, .ref z33, .int 0, .ref z12, .int 0, .int 0, .ref z34, .ref z35, .ref z36, .ref z37, .int 0, .int 0, .int 0, .int 0, .ref z38, .int 0, .ref z39, .ref z40, .ref z41, .ref z42, .int 0, .ref z13, .ref z14, .ref z15, .ref z16, .int 0, .ref z17, .ref z18, .ref z43]))] H := hP
  have hD : va_D A [(h0, .inr (12, [.ref z0, .ref z1, .ref z2, .ref z3, .ref z4, .ref z5, .ref z20, .ref z21, .ref z22, .ref z23, .ref z24, .ref z25, .int 0, .ref z26, .ref z27, .ref z28, .int 9, .int 0, .int 0, .ref z6, .ref z29, .ref z7, .int 0, .int 2, .ref z19, .ref z8, .ref z9, .ref z10, .int 0, .ref z11, .int 0, .ref z30, .ref z31, .ref z32, .ref z33, .int 0, .ref z12, .int 0, .int 0, .ref z34, .ref z35, .ref z36, .ref z37, .int 0, .int 0, .int 0, .int 0, .ref z38, .int 0, .ref z39, .ref z40, .ref z41, .ref z42, .int 0, .ref z13, .ref z14, .ref z15, .ref z16, .int 0, .ref z17, .ref z18, .ref z43]))] := hD
  subst hr4
  refine lv_irem hx hb dX12_passAt_18 (by decide) ?_
  refine lv_topi (fun vq evq => ?_)
  rcases (wk_rem2 evq) with rfl | rfl | rfl
  · have hPc := hP.sub (ws' := []) [] rfl
    have hDc := hD.sub (ws' := []) [] (by decide) rfl
    have hFc := va_free (wc := []) hD hS hA [] rfl
    refine va_calli (va_runS (As := [.int 0]) (rest := []) ⟨hx, hb, hml, hown, hts⟩ (kX12_passOf_0 l D G  H.size) (va_cwS 1 hts gX12_passAt_X12_passOf rfl rfl rfl (by decide +kernel) ⟨Nat.le_of_ble_eq_true rfl, Nat.le_of_ble_eq_true rfl⟩) ⟨wB_blind, wB_pre hPc hK hDc hN⟩ rfl rfl hl.1 rfl (lv_room (Nat.le_of_ble_eq_true rfl)) dX12_passAt_19 ⟨Nat.le_of_ble_eq_true rfl, Nat.le_of_ble_eq_true rfl⟩) hS (fun q _ h => hFc q h) hFc (fun r5 u t H1 locs ht hvm hr5 hB hz1 hk1 hS => ?_)
    obtain ⟨hP, hD⟩ := va_join (wr := [(h0, .inr (12, [.ref z0, .ref z1, .ref z2, .ref z3, .ref z4, .ref z5, .ref z20, .ref z21, .ref z22, .ref z23, .ref z24, .ref z25, .int 0, .ref z26, .ref z27, .ref z28, .int 9, .int 0, .int 0, .ref z6, .ref z29, .ref z7, .int 0, .int 2, .ref z19, .ref z8, .ref z9, .ref z10, .int 0, .ref z11, .int 0, .ref z30, .ref z31, .ref z32, .ref z33, .int 0, .ref z12, .int 0, .int 0, .ref z34, .ref z35, .ref z36, .ref z37, .int 0, .int 0, .int 0, .int 0, .ref z38, .int 0, .ref z39, .ref z40, .ref z41, .ref z42, .int 0, .ref z13, .ref z14, .ref z15, .ref z16, .int 0, .ref z17, .ref z18, .ref z43]))]) (w1 := []) hP hD [] [0] rfl rfl (by decide) (by decide) hk1 hFc wP_nil wD_nil
    clear hPc hDc
    generalize H1 = H at hP hS ⊢
    have hP : va_P D vwCl [(h0, .inr (12, [.ref z0, .ref z1, .ref z2, .ref z3, .ref z4, .ref z5, .ref z20, .ref z21, .ref z22, .ref z23, .ref z24, .ref z25, .int 0, .ref z26, .ref z27, .ref z28, .int 9, .int 0, .int 0, .ref z6, .ref z29, .ref z7, .int 0, .int 2, .ref z19, .ref z8, .ref z9, .ref z10, .int 0, .ref z11, .int 0, .ref z30, .ref z31, .ref z32, .ref z33, .int 0, .ref z12, .int 0, .int 0, .ref z34, .ref z35, .ref z36, .ref z37, .int 0, .int 0, .int 0, .int 0, .ref z38, .int 0, .ref z39, .ref z40, .ref z41, .ref z42, .int 0, .ref z13, .ref z14, .ref z15, .ref z16, .int 0, .ref z17, .ref z18, .ref z43]))] H := hP
    have hD : va_D A [(h0, .inr (12, [.ref z0, .ref z1, .ref z2, .ref z3, .ref z4, .ref z5, .ref z20, .ref z21, .ref z22, .ref z23, .ref z24, .ref z25, .int 0, .ref z26, .ref z27, .ref z28, .int 9, .int 0, .int 0, .ref z6, .ref z29, .ref z7, .int 0, .int 2, .ref z19, .ref z8, .ref z9, .ref z10, .int 0, .ref z11, .int 0, .ref z30, .ref z31, .ref z32, .ref z33, .int 0, .ref z12, .int 0, .int 0, .ref z34, .ref z35, .ref z36, .ref z37, .int 0, .int 0, .int 0, .int 0, .ref z38, .int 0, .ref z39, .ref z40, .ref z41, .ref z42, .int 0, .ref z13, .ref z14, .ref z15, .ref z16, .int 0, .ref z17, .ref z18, .ref z43]))] := hD
    subst hr5
    have hP9 := hP.sub (ws' := [(h0, .inr (12, [.ref z0, .ref z1, .ref z2, .ref z3, .ref z4, .ref z5, .ref z20, .ref z21, .ref z22, .ref z23, .ref z24, .ref z25, .int 0, .ref z26, .ref z27, .ref z28, .int 9, .int 0, .int 0, .ref z6, .ref z29, .ref z7, .int 0, .int 2, .ref z19, .ref z8, .ref z9, .ref z10, .int 0, .ref z11, .int 0, .ref z30, .ref z31, .ref z32, .ref z33, .int 0, .ref z12, .int 0, .int 0, .ref z34, .ref z35, .ref z36, .ref z37, .int 0, .int 0, .int 0, .int 0, .ref z38, .int 0, .ref z39, .ref z40, .ref z41, .ref z42, .int 0, .ref z13, .ref z14, .ref z15, .ref z16, .int 0, .ref z17, .ref z18, .ref z43]))]) [0] rfl
    have hD9 := hD.sub (ws' := [(h0, .inr (12, [.ref z0, .ref z1, .ref z2, .ref z3, .ref z4, .ref z5, .ref z20, .ref z21, .ref z22, .ref z23, .ref z24, .ref z25, .int 0, .ref z26, .ref z27, .ref z28, .int 9, .int 0, .int 0, .ref z6, .ref z29, .ref z7, .int 0, .int 2, .ref z19, .ref z8, .ref z9, .ref z10, .int 0, .ref z11, .int 0, .ref z30, .ref z31, .ref z32, .ref z33, .int 0, .ref z12, .int 0, .int 0, .ref z34, .ref z35, .ref z36, .ref z37, .int 0, .int 0, .int 0, .int 0, .ref z38, .int 0, .ref z39, .ref z40, .ref z41, .ref z42, .int 0, .ref z13, .ref z14, .ref z15, .ref z16, .int 0, .ref z17, .ref z18, .ref z43]))]) [0] (by decide) rfl
    exact W.iret (v := 1) hx hb hr (fun t ht hW => ⟨⟨1, (), rfl, by decide, ⟨by rw [ht]; exact hP9, va_K.moved hW.alike hK, hD9⟩⟩, hS.F ht⟩) hS.2.2 dX12_passAt_22
  · have hPc := hP.sub (ws' := []) [] rfl
    have hDc := hD.sub (ws' := []) [] (by decide) rfl
    have hFc := va_free (wc := []) hD hS hA [] rfl
    refine va_calli (va_runS (As := [.int 1]) (rest := []) ⟨hx, hb, hml, hown, hts⟩ (kX12_passOf_1 l D G  H.size) (va_cwS 1 hts gX12_passAt_X12_passOf rfl rfl rfl (by decide +kernel) ⟨Nat.le_of_ble_eq_true rfl, Nat.le_of_ble_eq_true rfl⟩) ⟨wB_blind, wB_pre hPc hK hDc hN⟩ rfl rfl hl.1 rfl (lv_room (Nat.le_of_ble_eq_true rfl)) dX12_passAt_19 ⟨Nat.le_of_ble_eq_true rfl, Nat.le_of_ble_eq_true rfl⟩) hS (fun q _ h => hFc q h) hFc (fun r6 u t H1 locs ht hvm hr6 hB hz1 hk1 hS => ?_)
    obtain ⟨hP, hD⟩ := va_join (wr := [(h0, .inr (12, [.ref z0, .ref z1, .ref z2, .ref z3, .ref z4, .ref z5, .ref z20, .ref z21, .ref z22, .ref z23, .ref z24, .ref z25, .int 0, .ref z26, .ref z27, .ref z28, .int 9, .int 0, .int 0, .ref z6, .ref z29, .ref z7, .int 0, .int 2, .ref z19, .ref z8, .ref z9, .ref z10, .int 0, .ref z11, .int 0, .ref z30, .ref z31, .ref z32, .ref z33, .int 0, .ref z12, .int 0, .int 0, .ref z34, .ref z35, .ref z36, .ref z37, .int 0, .int 0, .int 0, .int 0, .ref z38, .int 0, .ref z39, .ref z40, .ref z41, .ref z42, .int 0, .ref z13, .ref z14, .ref z15, .ref z16, .int 0, .ref z17, .ref z18, .ref z43]))]) (w1 := []) hP hD [] [0] rfl rfl (by decide) (by decide) hk1 hFc wP_nil wD_nil
    clear hPc hDc
    generalize H1 = H at hP hS ⊢
    have hP : va_P D vwCl [(h0, .inr (12, [.ref z0, .ref z1, .ref z2, .ref z3, .ref z4, .ref z5, .ref z20, .ref z21, .ref z22, .ref z23, .ref z24, .ref z25, .int 0, .ref z26, .ref z27, .ref z28, .int 9, .int 0, .int 0, .ref z6, .ref z29, .ref z7, .int 0, .int 2, .ref z19, .ref z8, .ref z9, .ref z10, .int 0, .ref z11, .int 0, .ref z30, .ref z31, .ref z32, .ref z33, .int 0, .ref z12, .int 0, .int 0, .ref z34, .ref z35, .ref z36, .ref z37, .int 0, .int 0, .int 0, .int 0, .ref z38, .int 0, .ref z39, .ref z40, .ref z41, .ref z42, .int 0, .ref z13, .ref z14, .ref z15, .ref z16, .int 0, .ref z17, .ref z18, .ref z43]))] H := hP
    have hD : va_D A [(h0, .inr (12, [.ref z0, .ref z1, .ref z2, .ref z3, .ref z4, .ref z5, .ref z20, .ref z21, .ref z22, .ref z23, .ref z24, .ref z25, .int 0, .ref z26, .ref z27, .ref z28, .int 9, .int 0, .int 0, .ref z6, .ref z29, .ref z7, .int 0, .int 2, .ref z19, .ref z8, .ref z9, .ref z10, .int 0, .ref z11, .int 0, .ref z30, .ref z31, .ref z32, .ref z33, .int 0, .ref z12, .int 0, .int 0, .ref z34, .ref z35, .ref z36, .ref z37, .int 0, .int 0, .int 0, .int 0, .ref z38, .int 0, .ref z39, .ref z40, .ref z41, .ref z42, .int 0, .ref z13, .ref z14, .ref z15, .ref z16, .int 0, .ref z17, .ref z18, .ref z43]))] := hD
    subst hr6
    have hP9 := hP.sub (ws' := [(h0, .inr (12, [.ref z0, .ref z1, .ref z2, .ref z3, .ref z4, .ref z5, .ref z20, .ref z21, .ref z22, .ref z23, .ref z24, .ref z25, .int 0, .ref z26, .ref z27, .ref z28, .int 9, .int 0, .int 0, .ref z6, .ref z29, .ref z7, .int 0, .int 2, .ref z19, .ref z8, .ref z9, .ref z10, .int 0, .ref z11, .int 0, .ref z30, .ref z31, .ref z32, .ref z33, .int 0, .ref z12, .int 0, .int 0, .ref z34, .ref z35, .ref z36, .ref z37, .int 0, .int 0, .int 0, .int 0, .ref z38, .int 0, .ref z39, .ref z40, .ref z41, .ref z42, .int 0, .ref z13, .ref z14, .ref z15, .ref z16, .int 0, .ref z17, .ref z18, .ref z43]))]) [0] rfl
    have hD9 := hD.sub (ws' := [(h0, .inr (12, [.ref z0, .ref z1, .ref z2, .ref z3, .ref z4, .ref z5, .ref z20, .ref z21, .ref z22, .ref z23, .ref z24, .ref z25, .int 0, .ref z26, .ref z27, .ref z28, .int 9, .int 0, .int 0, .ref z6, .ref z29, .ref z7, .int 0, .int 2, .ref z19, .ref z8, .ref z9, .ref z10, .int 0, .ref z11, .int 0, .ref z30, .ref z31, .ref z32, .ref z33, .int 0, .ref z12, .int 0, .int 0, .ref z34, .ref z35, .ref z36, .ref z37, .int 0, .int 0, .int 0, .int 0, .ref z38, .int 0, .ref z39, .ref z40, .ref z41, .ref z42, .int 0, .ref z13, .ref z14, .ref z15, .ref z16, .int 0, .ref z17, .ref z18, .ref z43]))]) [0] (by decide) rfl
    exact W.iret (v := (-1)) hx hb hr (fun t ht hW => ⟨⟨(-1), (), rfl, by decide, ⟨by rw [ht]; exact hP9, va_K.moved hW.alike hK, hD9⟩⟩, hS.F ht⟩) hS.2.2 dX12_passAt_22
  · have hPc := hP.sub (ws' := []) [] rfl
    have hDc := hD.sub (ws' := []) [] (by decide) rfl
    have hFc := va_free (wc := []) hD hS hA [] rfl
    refine va_calli (va_runS (As := [.int (-1)]) (rest := []) ⟨hx, hb, hml, hown, hts⟩ (kX12_passOf_m l D G  H.size) (va_cwS 1 hts gX12_passAt_X12_passOf rfl rfl rfl (by decide +kernel) ⟨Nat.le_of_ble_eq_true rfl, Nat.le_of_ble_eq_true rfl⟩) ⟨wB_blind, wB_pre hPc hK hDc hN⟩ rfl rfl hl.1 rfl (lv_room (Nat.le_of_ble_eq_true rfl)) dX12_passAt_19 ⟨Nat.le_of_ble_eq_true rfl, Nat.le_of_ble_eq_true rfl⟩) hS (fun q _ h => hFc q h) hFc (fun r7 u t H1 locs ht hvm hr7 hB hz1 hk1 hS => ?_)
    obtain ⟨hP, hD⟩ := va_join (wr := [(h0, .inr (12, [.ref z0, .ref z1, .ref z2, .ref z3, .ref z4, .ref z5, .ref z20, .ref z21, .ref z22, .ref z23, .ref z24, .ref z25, .int 0, .ref z26, .ref z27, .ref z28, .int 9, .int 0, .int 0, .ref z6, .ref z29, .ref z7, .int 0, .int 2, .ref z19, .ref z8, .ref z9, .ref z10, .int 0, .ref z11, .int 0, .ref z30, .ref z31, .ref z32, .ref z33, .int 0, .ref z12, .int 0, .int 0, .ref z34, .ref z35, .ref z36, .ref z37, .int 0, .int 0, .int 0, .int 0, .ref z38, .int 0, .ref z39, .ref z40, .ref z41, .ref z42, .int 0, .ref z13, .ref z14, .ref z15, .ref z16, .int 0, .ref z17, .ref z18, .ref z43]))]) (w1 := []) hP hD [] [0] rfl rfl (by decide) (by decide) hk1 hFc wP_nil wD_nil
    clear hPc hDc
    generalize H1 = H at hP hS ⊢
    have hP : va_P D vwCl [(h0, .inr (12, [.ref z0, .ref z1, .ref z2, .ref z3, .ref z4, .ref z5, .ref z20, .ref z21, .ref z22, .ref z23, .ref z24, .ref z25, .int 0, .ref z26, .ref z27, .ref z28, .int 9, .int 0, .int 0, .ref z6, .ref z29, .ref z7, .int 0, .int 2, .ref z19, .ref z8, .ref z9, .ref z10, .int 0, .ref z11, .int 0, .ref z30, .ref z31, .ref z32, .ref z33, .int 0, .ref z12, .int 0, .int 0, .ref z34, .ref z35, .ref z36, .ref z37, .int 0, .int 0, .int 0, .int 0, .ref z38, .int 0, .ref z39, .ref z40, .ref z41, .ref z42, .int 0, .ref z13, .ref z14, .ref z15, .ref z16, .int 0, .ref z17, .ref z18, .ref z43]))] H := hP
    have hD : va_D A [(h0, .inr (12, [.ref z0, .ref z1, .ref z2, .ref z3, .ref z4, .ref z5, .ref z20, .ref z21, .ref z22, .ref z23, .ref z24, .ref z25, .int 0, .ref z26, .ref z27, .ref z28, .int 9, .int 0, .int 0, .ref z6, .ref z29, .ref z7, .int 0, .int 2, .ref z19, .ref z8, .ref z9, .ref z10, .int 0, .ref z11, .int 0, .ref z30, .ref z31, .ref z32, .ref z33, .int 0, .ref z12, .int 0, .int 0, .ref z34, .ref z35, .ref z36, .ref z37, .int 0, .int 0, .int 0, .int 0, .ref z38, .int 0, .ref z39, .ref z40, .ref z41, .ref z42, .int 0, .ref z13, .ref z14, .ref z15, .ref z16, .int 0, .ref z17, .ref z18, .ref z43]))] := hD
    subst hr7
    have hP9 := hP.sub (ws' := [(h0, .inr (12, [.ref z0, .ref z1, .ref z2, .ref z3, .ref z4, .ref z5, .ref z20, .ref z21, .ref z22, .ref z23, .ref z24, .ref z25, .int 0, .ref z26, .ref z27, .ref z28, .int 9, .int 0, .int 0, .ref z6, .ref z29, .ref z7, .int 0, .int 2, .ref z19, .ref z8, .ref z9, .ref z10, .int 0, .ref z11, .int 0, .ref z30, .ref z31, .ref z32, .ref z33, .int 0, .ref z12, .int 0, .int 0, .ref z34, .ref z35, .ref z36, .ref z37, .int 0, .int 0, .int 0, .int 0, .ref z38, .int 0, .ref z39, .ref z40, .ref z41, .ref z42, .int 0, .ref z13, .ref z14, .ref z15, .ref z16, .int 0, .ref z17, .ref z18, .ref z43]))]) [0] rfl
    have hD9 := hD.sub (ws' := [(h0, .inr (12, [.ref z0, .ref z1, .ref z2, .ref z3, .ref z4, .ref z5, .ref z20, .ref z21, .ref z22, .ref z23, .ref z24, .ref z25, .int 0, .ref z26, .ref z27, .ref z28, .int 9, .int 0, .int 0, .ref z6, .ref z29, .ref z7, .int 0, .int 2, .ref z19, .ref z8, .ref z9, .ref z10, .int 0, .ref z11, .int 0, .ref z30, .ref z31, .ref z32, .ref z33, .int 0, .ref z12, .int 0, .int 0, .ref z34, .ref z35, .ref z36, .ref z37, .int 0, .int 0, .int 0, .int 0, .ref z38, .int 0, .ref z39, .ref z40, .ref z41, .ref z42, .int 0, .ref z13, .ref z14, .ref z15, .ref z16, .int 0, .ref z17, .ref z18, .ref z43]))]) [0] (by decide) rfl
    exact W.iret (v := (-1)) hx hb hr (fun t ht hW => ⟨⟨(-1), (), rfl, by decide, ⟨by rw [ht]; exact hP9, va_K.moved hW.alike hK, hD9⟩⟩, hS.F ht⟩) hS.2.2 dX12_passAt_22

set_option maxHeartbeats 4000000 in
set_option maxRecDepth 100000 in
/-- X12_passAt -/
theorem kX12_passAt_s20 (l : Launch) (D : va_G) (G : tyG) (h0 : Nat) (w : Int32) (z0 : Nat) (z1 : Nat) (z2 : Nat) (z3 : Nat) (z4 : Nat) (z5 : Nat) (z20 : Nat) (z21 : Nat) (z22 : Nat) (z23 : Nat) (z24 : Nat) (z25 : Nat) (z26 : Nat) (z27 : Nat) (z28 : Nat) (z6 : Nat) (z29 : Nat) (z7 : Nat) (z19 : Nat) (z8 : Nat) (z9 : Nat) (z10 : Nat) (z11 : Nat) (z30 : Nat) (z31 : Nat) (z32 : Nat) (z33 : Nat) (z12 : Nat) (z34 : Nat) (z35 : Nat) (z36 : Nat) (z37 : Nat) (z38 : Nat) (z39 : Nat) (z40 : Nat) (z41 : Nat) (z42 : Nat) (z13 : Nat) (z14 : Nat) (z15 : Nat) (z16 : Nat) (z17 : Nat) (z18 : Nat) (z43 : Nat) (sz : Nat) : Met l yX12_passAt wsX12_passAt ({ frames := 1, cells := 0, slots := 0, locals := 23 }) (va_Pc [.ref h0, .int w, .int 2, .int 0] (wB D G sz [(h0, .inr (12, [.ref z0, .ref z1, .ref z2, .ref z3, .ref z4, .ref z5, .ref z20, .ref z21, .ref z22, .ref z23, .ref z24, .ref z25, .int 0, .ref z26, .ref z27, .ref z28, .int 9, .int 0, .int 0, .ref z6, .ref z29, .ref z7, .int 0, .int 2, .ref z19, .ref z8, .ref z9, .ref z10, .int 0, .ref z11, .int 0, .ref z30, .ref z31, .ref z32, .ref z33, .int 0, .ref z12, .int 0, .int 0, .ref z34, .ref z35, .ref z36, .ref z37, .int 0, .int 0, .int 0, .int 0, .ref z38, .int 0, .ref z39, .ref z40, .ref z41, .ref z42, .int 0, .ref z13, .ref z14, .ref z15, .ref z16, .int 0, .ref z17, .ref z18, .ref z43]))])) (va_Qi (fun (r : Int32) (_ : Unit) => r = 1 ∨ r = -1) (fun _ t => wS D G (va_A [(h0, .inr (12, [.ref z0, .ref z1, .ref z2, .ref z3, .ref z4, .ref z5, .ref z20, .ref z21, .ref z22, .ref z23, .ref z24, .ref z25, .int 0, .ref z26, .ref z27, .ref z28, .int 9, .int 0, .int 0, .ref z6, .ref z29, .ref z7, .int 0, .int 2, .ref z19, .ref z8, .ref z9, .ref z10, .int 0, .ref z11, .int 0, .ref z30, .ref z31, .ref z32, .ref z33, .int 0, .ref z12, .int 0, .int 0, .ref z34, .ref z35, .ref z36, .ref z37, .int 0, .int 0, .int 0, .int 0, .ref z38, .int 0, .ref z39, .ref z40, .ref z41, .ref z42, .int 0, .ref z13, .ref z14, .ref z15, .ref z16, .int 0, .ref z17, .ref z18, .ref z43]))] sz) [(h0, .inr (12, [.ref z0, .ref z1, .ref z2, .ref z3, .ref z4, .ref z5, .ref z20, .ref z21, .ref z22, .ref z23, .ref z24, .ref z25, .int 0, .ref z26, .ref z27, .ref z28, .int 9, .int 0, .int 0, .ref z6, .ref z29, .ref z7, .int 0, .int 2, .ref z19, .ref z8, .ref z9, .ref z10, .int 0, .ref z11, .int 0, .ref z30, .ref z31, .ref z32, .ref z33, .int 0, .ref z12, .int 0, .int 0, .ref z34, .ref z35, .ref z36, .ref z37, .int 0, .int 0, .int 0, .int 0, .ref z38, .int 0, .ref z39, .ref z40, .ref z41, .ref z42, .int 0, .ref z13, .ref z14, .ref z15, .ref z16, .int 0, .ref z17, .ref z18, .ref z43]))] t) (va_A [(h0, .inr (12, [.ref z0, .ref z1, .ref z2, .ref z3, .ref z4, .ref z5, .ref z20, .ref z21, .ref z22, .ref z23, .ref z24, .ref z25, .int 0, .ref z26, .ref z27, .ref z28, .int 9, .int 0, .int 0, .ref z6, .ref z29, .ref z7, .int 0, .int 2, .ref z19, .ref z8, .ref z9, .ref z10, .int 0, .ref z11, .int 0, .ref z30, .ref z31, .ref z32, .ref z33, .int 0, .ref z12, .int 0, .int 0, .ref z34, .ref z35, .ref z36, .ref z37, .int 0, .int 0, .int 0, .int 0, .ref z38, .int 0, .ref z39, .ref z40, .ref z41, .ref z42, .int 0, .ref z13, .ref z14, .ref z15, .ref z16, .int 0, .ref z17, .ref z18, .ref z43]))] sz)) 0 0 (va_A [(h0, .inr (12, [.ref z0, .ref z1, .ref z2, .ref z3, .ref z4, .ref z5, .ref z20, .ref z21, .ref z22, .ref z23, .ref z24, .ref z25, .int 0, .ref z26, .ref z27, .ref z28, .int 9, .int 0, .int 0, .ref z6, .ref z29, .ref z7, .int 0, .int 2, .ref z19, .ref z8, .ref z9, .ref z10, .int 0, .ref z11, .int 0, .ref z30, .ref z31, .ref z32, .ref z33, .int 0, .ref z12, .int 0, .int 0, .ref z34, .ref z35, .ref z36, .ref z37, .int 0, .int 0, .int 0, .int 0, .ref z38, .int 0, .ref z39, .ref z40, .ref z41, .ref z42, .int 0, .ref z13, .ref z14, .ref z15, .ref z16, .int 0, .ref z17, .ref z18, .ref z43]))] sz) := by
  refine Met.ofW (cc := cX12_passAt) (maxL := 4) (ret := (some .int)) (by decide) rfl ?_
  intro p e s m args below meth c s₁ B hml hv
  obtain ⟨rfl, hsz, hP, hK, hD0, hN⟩ := hv
  have hx := B.exec
  have hb := B.bytes
  have hr := B.returns
  have hts := atoms_spec (ws := wsX12_passAt) B.pre
  have hown : s.vm.findClass RX12 = some m.cls := findClass_of_methodNamed B.named
  have hlocks := B.notSynchronized
  subst hsz
  have hD := hD0.self (sz := s.heap.size)
  generalize hAe : va_A [(h0, .inr (12, [.ref z0, .ref z1, .ref z2, .ref z3, .ref z4, .ref z5, .ref z20, .ref z21, .ref z22, .ref z23, .ref z24, .ref z25, .int 0, .ref z26, .ref z27, .ref z28, .int 9, .int 0, .int 0, .ref z6, .ref z29, .ref z7, .int 0, .int 2, .ref z19, .ref z8, .ref z9, .ref z10, .int 0, .ref z11, .int 0, .ref z30, .ref z31, .ref z32, .ref z33, .int 0, .ref z12, .int 0, .int 0, .ref z34, .ref z35, .ref z36, .ref z37, .int 0, .int 0, .int 0, .int 0, .ref z38, .int 0, .ref z39, .ref z40, .ref z41, .ref z42, .int 0, .ref z13, .ref z14, .ref z15, .ref z16, .int 0, .ref z17, .ref z18, .ref z43]))] s.heap.size = A at hD ⊢
  have hA : ∀ q : Nat, s.heap.size ≤ q → A q := fun q h => by rw [← hAe]; exact Or.inr h
  have hS : va_S A s.heap s.heap [] := va_S.rf
  have hP : va_P D vwCl [(h0, .inr (12, [.ref z0, .ref z1, .ref z2, .ref z3, .ref z4, .ref z5, .ref z20, .ref z21, .ref z22, .ref z23, .ref z24, .ref z25, .int 0, .ref z26, .ref z27, .ref z28, .int 9, .int 0, .int 0, .ref z6, .ref z29, .ref z7, .int 0, .int 2, .ref z19, .ref z8, .ref z9, .ref z10, .int 0, .ref z11, .int 0, .ref z30, .ref z31, .ref z32, .ref z33, .int 0, .ref z12, .int 0, .int 0, .ref z34, .ref z35, .ref z36, .ref z37, .int 0, .int 0, .int 0, .int 0, .ref z38, .int 0, .ref z39, .ref z40, .ref z41, .ref z42, .int 0, .ref z13, .ref z14, .ref z15, .ref z16, .int 0, .ref z17, .ref z18, .ref z43]))] s.heap := hP
  have hl := lv_entry ([.ref h0, .int w, .int 2, .int 0]) (n := 4) (Nat.le_of_ble_eq_true rfl)
  rw [lg_entry_eq]
  generalize (lg_sl ([.ref h0, .int w, .int 2, .int 0]) ++ List.replicate (4 - (lg_sl ([.ref h0, .int w, .int 2, .int 0])).length) Slot.unset).toArray = ls at hl ⊢
  have hl : lv_has ls 4 [(0, .ref h0), (1, .int w), (2, .int 2), (3, .int 0)] := hl
  refine lv_iload_n hx hb dX12_passAt_0 rfl (lv_at hl 1 rfl) ?_
  refine lv_aload_n hx hb dX12_passAt_1 rfl (lv_at hl 0 rfl) ?_
  have hPc := hP.sub (ws' := [(h0, .inr (12, [.ref z0, .ref z1, .ref z2, .ref z3, .ref z4, .ref z5, .ref z20, .ref z21, .ref z22, .ref z23, .ref z24, .ref z25, .int 0, .ref z26, .ref z27, .ref z28, .int 9, .int 0, .int 0, .ref z6, .ref z29, .ref z7, .int 0, .int 2, .ref z19, .ref z8, .ref z9, .ref z10, .int 0, .ref z11, .int 0, .ref z30, .ref z31, .ref z32, .ref z33, .int 0, .ref z12, .int 0, .int 0, .ref z34, .ref z35, .ref z36, .ref z37, .int 0, .int 0, .int 0, .int 0, .ref z38, .int 0, .ref z39, .ref z40, .ref z41, .ref z42, .int 0, .ref z13, .ref z14, .ref z15, .ref z16, .int 0, .ref z17, .ref z18, .ref z43]))]) [0] rfl
  have hDc := hD.sub (ws' := [(h0, .inr (12, [.ref z0, .ref z1, .ref z2, .ref z3, .ref z4, .ref z5, .ref z20, .ref z21, .ref z22, .ref z23, .ref z24, .ref z25, .int 0, .ref z26, .ref z27, .ref z28, .int 9, .int 0, .int 0, .ref z6, .ref z29, .ref z7, .int 0, .int 2, .ref z19, .ref z8, .ref z9, .ref z10, .int 0, .ref z11, .int 0, .ref z30, .ref z31, .ref z32, .ref z33, .int 0, .ref z12, .int 0, .int 0, .ref z34, .ref z35, .ref z36, .ref z37, .int 0, .int 0, .int 0, .int 0, .ref z38, .int 0, .ref z39, .ref z40, .ref z41, .ref z42, .int 0, .ref z13, .ref z14, .ref z15, .ref z16, .int 0, .ref z17, .ref z18, .ref z43]))]) [0] (by decide) rfl
  have hFc := va_free (wc := [(h0, .inr (12, [.ref z0, .ref z1, .ref z2, .ref z3, .ref z4, .ref z5, .ref z20, .ref z21, .ref z22, .ref z23, .ref z24, .ref z25, .int 0, .ref z26, .ref z27, .ref z28, .int 9, .int 0, .int 0, .ref z6, .ref z29, .ref z7, .int 0, .int 2, .ref z19, .ref z8, .ref z9, .ref z10, .int 0, .ref z11, .int 0, .ref z30, .ref z31, .ref z32, .ref z33, .int 0, .ref z12, .int 0, .int 0, .ref z34, .ref z35, .ref z36, .ref z37, .int 0, .int 0, .int 0, .int 0, .ref z38, .int 0, .ref z39, .ref z40, .ref z41, .ref z42, .int 0, .ref z13, .ref z14, .ref z15, .ref z16, .int 0, .ref z17, .ref z18, .ref z43]))]) hD hS hA [0] rfl
  refine va_calli (va_runV (As := []) (rest := [.int w]) ⟨hx, hb, hml, hown, hts⟩ (kX12_gens l D G h0 z0 z1 z2 z3 z4 z5 z20 z21 z22 z23 z24 z25 z26 z27 z28 z6 z29 z7 z19 z8 z9 z10 z11 z30 z31 z32 z33 z12 z34 z35 z36 z37 z38 z39 z40 z41 z42 z13 z14 z15 z16 z17 z18 z43 0 s.heap.size) (cwV 0 hts gX12_passAt_X12_gens rfl rfl rfl (by decide +kernel) ⟨Nat.le_of_ble_eq_true rfl, Nat.le_of_ble_eq_true rfl⟩) ⟨wB_blind, va_recv hK hPc (ci := 12) (q0 := 0) rfl rfl, wB_pre hPc hK hDc hN⟩ rfl rfl hl.1 rfl (lv_room (Nat.le_of_ble_eq_true rfl)) dX12_passAt_2 ⟨Nat.le_of_ble_eq_true rfl, Nat.le_of_ble_eq_true rfl⟩) hS (fun q _ h => hFc q h) hFc (fun r1 u t H1 locs ht hvm hr1 hB hz1 hk1 hS => ?_)
  obtain ⟨hP1, hK1, hD1⟩ := hB
  rw [ht] at hP1
  obtain ⟨hP, hD⟩ := va_join (wr := []) (w1 := [(h0, .inr (12, [.ref z0, .ref z1, .ref z2, .ref z3, .ref z4, .ref z5, .ref z20, .ref z21, .ref z22, .ref z23, .ref z24, .ref z25, .int 0, .ref z26, .ref z27, .ref z28, .int 9, .int 0, .int 0, .ref z6, .ref z29, .ref z7, .int 0, .int 2, .ref z19, .ref z8, .ref z9, .ref z10, .int 0, .ref z11, .int 0, .ref z30, .ref z31, .ref z32, .ref z33, .int 0, .ref z12, .int 0, .int 0, .ref z34, .ref z35, .ref z36, .ref z37, .int 0, .int 0, .int 0, .int 0, .ref z38, .int 0, .ref z39, .ref z40, .ref z41, .ref z42, .int 0, .ref z13, .ref z14, .ref z15, .ref z16, .int 0, .ref z17, .ref z18, .ref z43]))]) hP hD [0] [] rfl rfl (by decide) (by decide) hk1 hFc hP1 hD1
  clear hPc hDc
  generalize H1 = H at hP hS ⊢
  have hP : va_P D vwCl [(h0, .inr (12, [.ref z0, .ref z1, .ref z2, .ref z3, .ref z4, .ref z5, .ref z20, .ref z21, .ref z22, .ref z23, .ref z24, .ref z25, .int 0, .ref z26, .ref z27, .ref z28, .int 9, .int 0, .int 0, .ref z6, .ref z29, .ref z7, .int 0, .int 2, .ref z19, .ref z8, .ref z9, .ref z10, .int 0, .ref z11, .int 0, .ref z30, .ref z31, .ref z32, .ref z33, .int 0, .ref z12, .int 0, .int 0, .ref z34, .ref z35, .ref z36, .ref z37, .int 0, .int 0, .int 0, .int 0, .ref z38, .int 0, .ref z39, .ref z40, .ref z41, .ref z42, .int 0, .ref z13, .ref z14, .ref z15, .ref z16, .int 0, .ref z17, .ref z18, .ref z43]))] H := hP
  have hD : va_D A [(h0, .inr (12, [.ref z0, .ref z1, .ref z2, .ref z3, .ref z4, .ref z5, .ref z20, .ref z21, .ref z22, .ref z23, .ref z24, .ref z25, .int 0, .ref z26, .ref z27, .ref z28, .int 9, .int 0, .int 0, .ref z6, .ref z29, .ref z7, .int 0, .int 2, .ref z19, .ref z8, .ref z9, .ref z10, .int 0, .ref z11, .int 0, .ref z30, .ref z31, .ref z32, .ref z33, .int 0, .ref z12, .int 0, .int 0, .ref z34, .ref z35, .ref z36, .ref z37, .int 0, .int 0, .int 0, .int 0, .ref z38, .int 0, .ref z39, .ref z40, .ref z41, .ref z42, .int 0, .ref z13, .ref z14, .ref z15, .ref z16, .int 0, .ref z17, .ref z18, .ref z43]))] := hD
  subst hr1
  refine lv_iload_n hx hb dX12_passAt_5 rfl (lv_at hl 2 rfl) ?_
  refine lv_iconst (v := 1) hx hb dX12_passAt_6 (by decide) ?_
  refine lv_isub hx hb dX12_passAt_7 ?_
  refine wk_i 1 (by decide) ?_
  refine lv_iload_n hx hb dX12_passAt_8 rfl (lv_at hl 3 rfl) ?_
  refine lv_isub hx hb dX12_passAt_9 ?_
  refine wk_i 1 (by decide) ?_
  have hPc := hP.sub (ws' := []) [] rfl
  have hDc := hD.sub (ws' := []) [] (by decide) rfl
  have hFc := va_free (wc := []) hD hS hA [] rfl
  refine va_calli (va_runS (As := [.int 2, .int 1]) (rest := [.int w]) ⟨hx, hb, hml, hown, hts⟩ (kX12_power_1 l D G  H.size) (va_cwS 2 hts gX12_passAt_X12_power rfl rfl rfl (by decide +kernel) ⟨Nat.le_of_ble_eq_true rfl, Nat.le_of_ble_eq_true rfl⟩) ⟨wB_blind, wB_pre hPc hK hDc hN⟩ rfl rfl hl.1 rfl (lv_room (Nat.le_of_ble_eq_true rfl)) dX12_passAt_10 ⟨Nat.le_of_ble_eq_true rfl, Nat.le_of_ble_eq_true rfl⟩) hS (fun q _ h => hFc q h) hFc (fun r2 u t H1 locs ht hvm hr2 hB hz1 hk1 hS => ?_)
  obtain ⟨hP, hD⟩ := va_join (wr := [(h0, .inr (12, [.ref z0, .ref z1, .ref z2, .ref z3, .ref z4, .ref z5, .ref z20, .ref z21, .ref z22, .ref z23, .ref z24, .ref z25, .int 0, .ref z26, .ref z27, .ref z28, .int 9, .int 0, .int 0, .ref z6, .ref z29, .ref z7, .int 0, .int 2, .ref z19, .ref z8, .ref z9, .ref z10, .int 0, .ref z11, .int 0, .ref z30, .ref z31, .ref z32, .ref z33, .int 0, .ref z12, .int 0, .int 0, .ref z34, .ref z35, .ref z36, .ref z37, .int 0, .int 0, .int 0, .int 0, .ref z38, .int 0, .ref z39, .ref z40, .ref z41, .ref z42, .int 0, .ref z13, .ref z14, .ref z15, .ref z16, .int 0, .ref z17, .ref z18, .ref z43]))]) (w1 := []) hP hD [] [0] rfl rfl (by decide) (by decide) hk1 hFc wP_nil wD_nil
  clear hPc hDc
  generalize H1 = H at hP hS ⊢
  have hP : va_P D vwCl [(h0, .inr (12, [.ref z0, .ref z1, .ref z2, .ref z3, .ref z4, .ref z5, .ref z20, .ref z21, .ref z22, .ref z23, .ref z24, .ref z25, .int 0, .ref z26, .ref z27, .ref z28, .int 9, .int 0, .int 0, .ref z6, .ref z29, .ref z7, .int 0, .int 2, .ref z19, .ref z8, .ref z9, .ref z10, .int 0, .ref z11, .int 0, .ref z30, .ref z31, .ref z32, .ref z33, .int 0, .ref z12, .int 0, .int 0, .ref z34, .ref z35, .ref z36, .ref z37, .int 0, .int 0, .int 0, .int 0, .ref z38, .int 0, .ref z39, .ref z40, .ref z41, .ref z42, .int 0, .ref z13, .ref z14, .ref z15, .ref z16, .int 0, .ref z17, .ref z18, .ref z43]))] H := hP
  have hD : va_D A [(h0, .inr (12, [.ref z0, .ref z1, .ref z2, .ref z3, .ref z4, .ref z5, .ref z20, .ref z21, .ref z22, .ref z23, .ref z24, .ref z25, .int 0, .ref z26, .ref z27, .ref z28, .int 9, .int 0, .int 0, .ref z6, .ref z29, .ref z7, .int 0, .int 2, .ref z19, .ref z8, .ref z9, .ref z10, .int 0, .ref z11, .int 0, .ref z30, .ref z31, .ref z32, .ref z33, .int 0, .ref z12, .int 0, .int 0, .ref z34, .ref z35, .ref z36, .ref z37, .int 0, .int 0, .int 0, .int 0, .ref z38, .int 0, .ref z39, .ref z40, .ref z41, .ref z42, .int 0, .ref z13, .ref z14, .ref z15, .ref z16, .int 0, .ref z17, .ref z18, .ref z43]))] := hD
  subst hr2
  refine lv_idiv hx hb dX12_passAt_13 (by decide) ?_
  refine lv_topi (fun v3 ev3 => ?_)
  refine lv_aload_n hx hb dX12_passAt_14 rfl (lv_at hl 0 rfl) ?_
  have hPc := hP.sub (ws' := [(h0, .inr (12, [.ref z0, .ref z1, .ref z2, .ref z3, .ref z4, .ref z5, .ref z20, .ref z21, .ref z22, .ref z23, .ref z24, .ref z25, .int 0, .ref z26, .ref z27, .ref z28, .int 9, .int 0, .int 0, .ref z6, .ref z29, .ref z7, .int 0, .int 2, .ref z19, .ref z8, .ref z9, .ref z10, .int 0, .ref z11, .int 0, .ref z30, .ref z31, .ref z32, .ref z33, .int 0, .ref z12, .int 0, .int 0, .ref z34, .ref z35, .ref z36, .ref z37, .int 0, .int 0, .int 0, .int 0, .ref z38, .int 0, .ref z39, .ref z40, .ref z41, .ref z42, .int 0, .ref z13, .ref z14, .ref z15, .ref z16, .int 0, .ref z17, .ref z18, .ref z43]))]) [0] rfl
  have hDc := hD.sub (ws' := [(h0, .inr (12, [.ref z0, .ref z1, .ref z2, .ref z3, .ref z4, .ref z5, .ref z20, .ref z21, .ref z22, .ref z23, .ref z24, .ref z25, .int 0, .ref z26, .ref z27, .ref z28, .int 9, .int 0, .int 0, .ref z6, .ref z29, .ref z7, .int 0, .int 2, .ref z19, .ref z8, .ref z9, .ref z10, .int 0, .ref z11, .int 0, .ref z30, .ref z31, .ref z32, .ref z33, .int 0, .ref z12, .int 0, .int 0, .ref z34, .ref z35, .ref z36, .ref z37, .int 0, .int 0, .int 0, .int 0, .ref z38, .int 0, .ref z39, .ref z40, .ref z41, .ref z42, .int 0, .ref z13, .ref z14, .ref z15, .ref z16, .int 0, .ref z17, .ref z18, .ref z43]))]) [0] (by decide) rfl
  have hFc := va_free (wc := [(h0, .inr (12, [.ref z0, .ref z1, .ref z2, .ref z3, .ref z4, .ref z5, .ref z20, .ref z21, .ref z22, .ref z23, .ref z24, .ref z25, .int 0, .ref z26, .ref z27, .ref z28, .int 9, .int 0, .int 0, .ref z6, .ref z29, .ref z7, .int 0, .int 2, .ref z19, .ref z8, .ref z9, .ref z10, .int 0, .ref z11, .int 0, .ref z30, .ref z31, .ref z32, .ref z33, .int 0, .ref z12, .int 0, .int 0, .ref z34, .ref z35, .ref z36, .ref z37, .int 0, .int 0, .int 0, .int 0, .ref z38, .int 0, .ref z39, .ref z40, .ref z41, .ref z42, .int 0, .ref z13, .ref z14, .ref z15, .ref z16, .int 0, .ref z17, .ref z18, .ref z43]))]) hD hS hA [0] rfl
  refine va_calli (va_runV (As := []) (rest := [.int v3]) ⟨hx, hb, hml, hown, hts⟩ (kX12_gens l D G h0 z0 z1 z2 z3 z4 z5 z20 z21 z22 z23 z24 z25 z26 z27 z28 z6 z29 z7 z19 z8 z9 z10 z11 z30 z31 z32 z33 z12 z34 z35 z36 z37 z38 z39 z40 z41 z42 z13 z14 z15 z16 z17 z18 z43 0 H.size) (cwV 0 hts gX12_passAt_X12_gens rfl rfl rfl (by decide +kernel) ⟨Nat.le_of_ble_eq_true rfl, Nat.le_of_ble_eq_true rfl⟩) ⟨wB_blind, va_recv hK hPc (ci := 12) (q0 := 0) rfl rfl, wB_pre hPc hK hDc hN⟩ rfl rfl hl.1 rfl (lv_room (Nat.le_of_ble_eq_true rfl)) dX12_passAt_15 ⟨Nat.le_of_ble_eq_true rfl, Nat.le_of_ble_eq_true rfl⟩) hS (fun q _ h => hFc q h) hFc (fun r4 u t H1 locs ht hvm hr4 hB hz1 hk1 hS => ?_)
  obtain ⟨hP1, hK1, hD1⟩ := hB
  rw [ht] at hP1
  obtain ⟨hP, hD⟩ := va_join (wr := []) (w1 := [(h0, .inr (12, [.ref z0, .ref z1, .ref z2, .ref z3, .ref z4, .ref z5, .ref z20, .ref z21, .ref z22, .ref z23, .ref z24, .ref z25, .int 0, .ref z26, .ref z27, .ref z28, .int 9, .int 0, .int 0, .ref z6, .ref z29, .ref z7, .int 0, .int 2, .ref z19, .ref z8, .ref z9, .ref z10, .int 0, .ref z11, .int 0, .ref z30, .ref z31, .ref z32, .ref z33, .int 0, .ref z12, .int 0, .int 0, .ref z34, .ref z35, .ref z36, .ref z37, .int 0, .int 0, .int 0, .int 0, .ref z38, .int 0, .ref z39, .ref z40, .ref z41, .ref z42, .int 0, .ref z13, .ref z14, .ref z15, .ref z16, .int 0, .ref z17, .ref z18, .ref z43]))]) hP hD [0] [] rfl rfl (by decide) (by decide) hk1 hFc hP1 hD1
  clear hPc hDc
  generalize H1 = H at hP hS ⊢
  have hP : va_P D vwCl [(h0, .inr (12, [.ref z0, .ref z1, .ref z2, .ref z3, .ref z4, .ref z5, .ref z20, .ref z21, .ref z22, .ref z23, .ref z24, .ref z25, .int 0, .ref z26, .ref z27, .ref z28, .int 9, .int 0, .int 0, .ref z6, .ref z29, .ref z7, .int 0, .int 2, .ref z19, .ref z8, .ref z9, .ref z10, .int 0, .ref z11, .int 0, .ref z30, .ref z31, .ref z32, .ref z33, .int 0, .ref z12, .int 0, .int 0, .ref z34, .ref z35, .ref z36, .ref z37, .int 0, .int 0, .int 0, .int 0, .ref z38, .int 0, .ref z39, .ref z40, .ref z41, .ref z42, .int 0, .ref z13, .ref z14, .ref z15, .ref z16, .int 0, .ref z17, .ref z18, .ref z43]))] H := hP
  have hD : va_D A [(h0, .inr (12, [.ref z0, .ref z1, .ref z2, .ref z3, .ref z4, .ref z5, .ref z20, .ref z21, .ref z22, .ref z23, .ref z24, .ref z25, .int 0, .ref z26, .ref z27, .ref z28, .int 9, .int 0, .int 0, .ref z6, .ref z29, .ref z7, .int 0, .int 2, .ref z19, .ref z8, .ref z9, .ref z10, .int 0, .ref z11, .int 0, .ref z30, .ref z31, .ref z32, .ref z33, .int 0, .ref z12, .int 0, .int 0, .ref z34, .ref z35, .ref z36, .ref z37, .int 0, .int 0, .int 0, .int 0, .ref z38, .int 0, .ref z39, .ref z40, .ref z41, .ref z42, .int 0, .ref z13, .ref z14, .ref z15, .ref z16, .int 0, .ref z17, .ref z18, .ref z43]))] := hD
  subst hr4
  refine lv_irem hx hb dX12_passAt_18 (by decide) ?_
  refine lv_topi (fun vq evq => ?_)
  rcases (wk_rem2 evq) with rfl | rfl | rfl
  · have hPc := hP.sub (ws' := []) [] rfl
    have hDc := hD.sub (ws' := []) [] (by decide) rfl
    have hFc := va_free (wc := []) hD hS hA [] rfl
    refine va_calli (va_runS (As := [.int 0]) (rest := []) ⟨hx, hb, hml, hown, hts⟩ (kX12_passOf_0 l D G  H.size) (va_cwS 1 hts gX12_passAt_X12_passOf rfl rfl rfl (by decide +kernel) ⟨Nat.le_of_ble_eq_true rfl, Nat.le_of_ble_eq_true rfl⟩) ⟨wB_blind, wB_pre hPc hK hDc hN⟩ rfl rfl hl.1 rfl (lv_room (Nat.le_of_ble_eq_true rfl)) dX12_passAt_19 ⟨Nat.le_of_ble_eq_true rfl, Nat.le_of_ble_eq_true rfl⟩) hS (fun q _ h => hFc q h) hFc (fun r5 u t H1 locs ht hvm hr5 hB hz1 hk1 hS => ?_)
    obtain ⟨hP, hD⟩ := va_join (wr := [(h0, .inr (12, [.ref z0, .ref z1, .ref z2, .ref z3, .ref z4, .ref z5, .ref z20, .ref z21, .ref z22, .ref z23, .ref z24, .ref z25, .int 0, .ref z26, .ref z27, .ref z28, .int 9, .int 0, .int 0, .ref z6, .ref z29, .ref z7, .int 0, .int 2, .ref z19, .ref z8, .ref z9, .ref z10, .int 0, .ref z11, .int 0, .ref z30, .ref z31, .ref z32, .ref z33, .int 0, .ref z12, .int 0, .int 0, .ref z34, .ref z35, .ref z36, .ref z37, .int 0, .int 0, .int 0, .int 0, .ref z38, .int 0, .ref z39, .ref z40, .ref z41, .ref z42, .int 0, .ref z13, .ref z14, .ref z15, .ref z16, .int 0, .ref z17, .ref z18, .ref z43]))]) (w1 := []) hP hD [] [0] rfl rfl (by decide) (by decide) hk1 hFc wP_nil wD_nil
    clear hPc hDc
    generalize H1 = H at hP hS ⊢
    have hP : va_P D vwCl [(h0, .inr (12, [.ref z0, .ref z1, .ref z2, .ref z3, .ref z4, .ref z5, .ref z20, .ref z21, .ref z22, .ref z23, .ref z24, .ref z25, .int 0, .ref z26, .ref z27, .ref z28, .int 9, .int 0, .int 0, .ref z6, .ref z29, .ref z7, .int 0, .int 2, .ref z19, .ref z8, .ref z9, .ref z10, .int 0, .ref z11, .int 0, .ref z30, .ref z31, .ref z32, .ref z33, .int 0, .ref z12, .int 0, .int 0, .ref z34, .ref z35, .ref z36, .ref z37, .int 0, .int 0, .int 0, .int 0, .ref z38, .int 0, .ref z39, .ref z40, .ref z41, .ref z42, .int 0, .ref z13, .ref z14, .ref z15, .ref z16, .int 0, .ref z17, .ref z18, .ref z43]))] H := hP
    have hD : va_D A [(h0, .inr (12, [.ref z0, .ref z1, .ref z2, .ref z3, .ref z4, .ref z5, .ref z20, .ref z21, .ref z22, .ref z23, .ref z24, .ref z25, .int 0, .ref z26, .ref z27, .ref z28, .int 9, .int 0, .int 0, .ref z6, .ref z29, .ref z7, .int 0, .int 2, .ref z19, .ref z8, .ref z9, .ref z10, .int 0, .ref z11, .int 0, .ref z30, .ref z31, .ref z32, .ref z33, .int 0, .ref z12, .int 0, .int 0, .ref z34, .ref z35, .ref z36, .ref z37, .int 0, .int 0, .int 0, .int 0, .ref z38, .int 0, .ref z39, .ref z40, .ref z41, .ref z42, .int 0, .ref z13, .ref z14, .ref z15, .ref z16, .int 0, .ref z17, .ref z18, .ref z43]))] := hD
    subst hr5
    have hP9 := hP.sub (ws' := [(h0, .inr (12, [.ref z0, .ref z1, .ref z2, .ref z3, .ref z4, .ref z5, .ref z20, .ref z21, .ref z22, .ref z23, .ref z24, .ref z25, .int 0, .ref z26, .ref z27, .ref z28, .int 9, .int 0, .int 0, .ref z6, .ref z29, .ref z7, .int 0, .int 2, .ref z19, .ref z8, .ref z9, .ref z10, .int 0, .ref z11, .int 0, .ref z30, .ref z31, .ref z32, .ref z33, .int 0, .ref z12, .int 0, .int 0, .ref z34, .ref z35, .ref z36, .ref z37, .int 0, .int 0, .int 0, .int 0, .ref z38, .int 0, .ref z39, .ref z40, .ref z41, .ref z42, .int 0, .ref z13, .ref z14, .ref z15, .ref z16, .int 0, .ref z17, .ref z18, .ref z43]))]) [0] rfl
    have hD9 := hD.sub (ws' := [(h0, .inr (12, [.ref z0, .ref z1, .ref z2, .ref z3, .ref z4, .ref z5, .ref z20, .ref z21, .ref z22, .ref z23, .ref z24, .ref z25, .int 0, .ref z26, .ref z27, .ref z28, .int 9, .int 0, .int 0, .ref z6, .ref z29, .ref z7, .int 0, .int 2, .ref z19, .ref z8, .ref z9, .ref z10, .int 0, .ref z11, .int 0, .ref z30, .ref z31, .ref z32, .ref z33, .int 0, .ref z12, .int 0, .int 0, .ref z34, .ref z35, .ref z36, .ref z37, .int 0, .int 0, .int 0, .int 0, .ref z38, .int 0, .ref z39, .ref z40, .ref z41, .ref z42, .int 0, .ref z13, .ref z14, .ref z15, .ref z16, .int 0, .ref z17, .ref z18, .ref z43]))]) [0] (by decide) rfl
    exact W.iret (v := 1) hx hb hr (fun t ht hW => ⟨⟨1, (), rfl, by decide, ⟨by rw [ht]; exact hP9, va_K.moved hW.alike hK, hD9⟩⟩, hS.F ht⟩) hS.2.2 dX12_passAt_22
  · have hPc := hP.sub (ws' := []) [] rfl
    have hDc := hD.sub (ws' := []) [] (by decide) rfl
    have hFc := va_free (wc := []) hD hS hA [] rfl
    refine va_calli (va_runS (As := [.int 1]) (rest := []) ⟨hx, hb, hml, hown, hts⟩ (kX12_passOf_1 l D G  H.size) (va_cwS 1 hts gX12_passAt_X12_passOf rfl rfl rfl (by decide +kernel) ⟨Nat.le_of_ble_eq_true rfl, Nat.le_of_ble_eq_true rfl⟩) ⟨wB_blind, wB_pre hPc hK hDc hN⟩ rfl rfl hl.1 rfl (lv_room (Nat.le_of_ble_eq_true rfl)) dX12_passAt_19 ⟨Nat.le_of_ble_eq_true rfl, Nat.le_of_ble_eq_true rfl⟩) hS (fun q _ h => hFc q h) hFc (fun r6 u t H1 locs ht hvm hr6 hB hz1 hk1 hS => ?_)
    obtain ⟨hP, hD⟩ := va_join (wr := [(h0, .inr (12, [.ref z0, .ref z1, .ref z2, .ref z3, .ref z4, .ref z5, .ref z20, .ref z21, .ref z22, .ref z23, .ref z24, .ref z25, .int 0, .ref z26, .ref z27, .ref z28, .int 9, .int 0, .int 0, .ref z6, .ref z29, .ref z7, .int 0, .int 2, .ref z19, .ref z8, .ref z9, .ref z10, .int 0, .ref z11, .int 0, .ref z30, .ref z31, .ref z32, .ref z33, .int 0, .ref z12, .int 0, .int 0, .ref z34, .ref z35, .ref z36, .ref z37, .int 0, .int 0, .int 0, .int 0, .ref z38, .int 0, .ref z39, .ref z40, .ref z41, .ref z42, .int 0, .ref z13, .ref z14, .ref z15, .ref z16, .int 0, .ref z17, .ref z18, .ref z43]))]) (w1 := []) hP hD [] [0] rfl rfl (by decide) (by decide) hk1 hFc wP_nil wD_nil
    clear hPc hDc
    generalize H1 = H at hP hS ⊢
    have hP : va_P D vwCl [(h0, .inr (12, [.ref z0, .ref z1, .ref z2, .ref z3, .ref z4, .ref z5, .ref z20, .ref z21, .ref z22, .ref z23, .ref z24, .ref z25, .int 0, .ref z26, .ref z27, .ref z28, .int 9, .int 0, .int 0, .ref z6, .ref z29, .ref z7, .int 0, .int 2, .ref z19, .ref z8, .ref z9, .ref z10, .int 0, .ref z11, .int 0, .ref z30, .ref z31, .ref z32, .ref z33, .int 0, .ref z12, .int 0, .int 0, .ref z34, .ref z35, .ref z36, .ref z37, .int 0, .int 0, .int 0, .int 0, .ref z38, .int 0, .ref z39, .ref z40, .ref z41, .ref z42, .int 0, .ref z13, .ref z14, .ref z15, .ref z16, .int 0, .ref z17, .ref z18, .ref z43]))] H := hP
    have hD : va_D A [(h0, .inr (12, [.ref z0, .ref z1, .ref z2, .ref z3, .ref z4, .ref z5, .ref z20, .ref z21, .ref z22, .ref z23, .ref z24, .ref z25, .int 0, .ref z26, .ref z27, .ref z28, .int 9, .int 0, .int 0, .ref z6, .ref z29, .ref z7, .int 0, .int 2, .ref z19, .ref z8, .ref z9, .ref z10, .int 0, .ref z11, .int 0, .ref z30, .ref z31, .ref z32, .ref z33, .int 0, .ref z12, .int 0, .int 0, .ref z34, .ref z35, .ref z36, .ref z37, .int 0, .int 0, .int 0, .int 0, .ref z38, .int 0, .ref z39, .ref z40, .ref z41, .ref z42, .int 0, .ref z13, .ref z14, .ref z15, .ref z16, .int 0, .ref z17, .ref z18, .ref z43]))] := hD
    subst hr6
    have hP9 := hP.sub (ws' := [(h0, .inr (12, [.ref z0, .ref z1, .ref z2, .ref z3, .ref z4, .ref z5, .ref z20, .ref z21, .ref z22, .ref z23, .ref z24, .ref z25, .int 0, .ref z26, .ref z27, .ref z28, .int 9, .int 0, .int 0, .ref z6, .ref z29, .ref z7, .int 0, .int 2, .ref z19, .ref z8, .ref z9, .ref z10, .int 0, .ref z11, .int 0, .ref z30, .ref z31, .ref z32, .ref z33, .int 0, .ref z12, .int 0, .int 0, .ref z34, .ref z35, .ref z36, .ref z37, .int 0, .int 0, .int 0, .int 0, .ref z38, .int 0, .ref z39, .ref z40, .ref z41, .ref z42, .int 0, .ref z13, .ref z14, .ref z15, .ref z16, .int 0, .ref z17, .ref z18, .ref z43]))]) [0] rfl
    have hD9 := hD.sub (ws' := [(h0, .inr (12, [.ref z0, .ref z1, .ref z2, .ref z3, .ref z4, .ref z5, .ref z20, .ref z21, .ref z22, .ref z23, .ref z24, .ref z25, .int 0, .ref z26, .ref z27, .ref z28, .int 9, .int 0, .int 0, .ref z6, .ref z29, .ref z7, .int 0, .int 2, .ref z19, .ref z8, .ref z9, .ref z10, .int 0, .ref z11, .int 0, .ref z30, .ref z31, .ref z32, .ref z33, .int 0, .ref z12, .int 0, .int 0, .ref z34, .ref z35, .ref z36, .ref z37, .int 0, .int 0, .int 0, .int 0, .ref z38, .int 0, .ref z39, .ref z40, .ref z41, .ref z42, .int 0, .ref z13, .ref z14, .ref z15, .ref z16, .int 0, .ref z17, .ref z18, .ref z43]))]) [0] (by decide) rfl
    exact W.iret (v := (-1)) hx hb hr (fun t ht hW => ⟨⟨(-1), (), rfl, by decide, ⟨by rw [ht]; exact hP9, va_K.moved hW.alike hK, hD9⟩⟩, hS.F ht⟩) hS.2.2 dX12_passAt_22
  · have hPc := hP.sub (ws' := []) [] rfl
    have hDc := hD.sub (ws' := []) [] (by decide) rfl
    have hFc := va_free (wc := []) hD hS hA [] rfl
    refine va_calli (va_runS (As := [.int (-1)]) (rest := []) ⟨hx, hb, hml, hown, hts⟩ (kX12_passOf_m l D G  H.size) (va_cwS 1 hts gX12_passAt_X12_passOf rfl rfl rfl (by decide +kernel) ⟨Nat.le_of_ble_eq_true rfl, Nat.le_of_ble_eq_true rfl⟩) ⟨wB_blind, wB_pre hPc hK hDc hN⟩ rfl rfl hl.1 rfl (lv_room (Nat.le_of_ble_eq_true rfl)) dX12_passAt_19 ⟨Nat.le_of_ble_eq_true rfl, Nat.le_of_ble_eq_true rfl⟩) hS (fun q _ h => hFc q h) hFc (fun r7 u t H1 locs ht hvm hr7 hB hz1 hk1 hS => ?_)
    obtain ⟨hP, hD⟩ := va_join (wr := [(h0, .inr (12, [.ref z0, .ref z1, .ref z2, .ref z3, .ref z4, .ref z5, .ref z20, .ref z21, .ref z22, .ref z23, .ref z24, .ref z25, .int 0, .ref z26, .ref z27, .ref z28, .int 9, .int 0, .int 0, .ref z6, .ref z29, .ref z7, .int 0, .int 2, .ref z19, .ref z8, .ref z9, .ref z10, .int 0, .ref z11, .int 0, .ref z30, .ref z31, .ref z32, .ref z33, .int 0, .ref z12, .int 0, .int 0, .ref z34, .ref z35, .ref z36, .ref z37, .int 0, .int 0, .int 0, .int 0, .ref z38, .int 0, .ref z39, .ref z40, .ref z41, .ref z42, .int 0, .ref z13, .ref z14, .ref z15, .ref z16, .int 0, .ref z17, .ref z18, .ref z43]))]) (w1 := []) hP hD [] [0] rfl rfl (by decide) (by decide) hk1 hFc wP_nil wD_nil
    clear hPc hDc
    generalize H1 = H at hP hS ⊢
    have hP : va_P D vwCl [(h0, .inr (12, [.ref z0, .ref z1, .ref z2, .ref z3, .ref z4, .ref z5, .ref z20, .ref z21, .ref z22, .ref z23, .ref z24, .ref z25, .int 0, .ref z26, .ref z27, .ref z28, .int 9, .int 0, .int 0, .ref z6, .ref z29, .ref z7, .int 0, .int 2, .ref z19, .ref z8, .ref z9, .ref z10, .int 0, .ref z11, .int 0, .ref z30, .ref z31, .ref z32, .ref z33, .int 0, .ref z12, .int 0, .int 0, .ref z34, .ref z35, .ref z36, .ref z37, .int 0, .int 0, .int 0, .int 0, .ref z38, .int 0, .ref z39, .ref z40, .ref z41, .ref z42, .int 0, .ref z13, .ref z14, .ref z15, .ref z16, .int 0, .ref z17, .ref z18, .ref z43]))] H := hP
    have hD : va_D A [(h0, .inr (12, [.ref z0, .ref z1, .ref z2, .ref z3, .ref z4, .ref z5, .ref z20, .ref z21, .ref z22, .ref z23, .ref z24, .ref z25, .int 0, .ref z26, .ref z27, .ref z28, .int 9, .int 0, .int 0, .ref z6, .ref z29, .ref z7, .int 0, .int 2, .ref z19, .ref z8, .ref z9, .ref z10, .int 0, .ref z11, .int 0, .ref z30, .ref z31, .ref z32, .ref z33, .int 0, .ref z12, .int 0, .int 0, .ref z34, .ref z35, .ref z36, .ref z37, .int 0, .int 0, .int 0, .int 0, .ref z38, .int 0, .ref z39, .ref z40, .ref z41, .ref z42, .int 0, .ref z13, .ref z14, .ref z15, .ref z16, .int 0, .ref z17, .ref z18, .ref z43]))] := hD
    subst hr7
    have hP9 := hP.sub (ws' := [(h0, .inr (12, [.ref z0, .ref z1, .ref z2, .ref z3, .ref z4, .ref z5, .ref z20, .ref z21, .ref z22, .ref z23, .ref z24, .ref z25, .int 0, .ref z26, .ref z27, .ref z28, .int 9, .int 0, .int 0, .ref z6, .ref z29, .ref z7, .int 0, .int 2, .ref z19, .ref z8, .ref z9, .ref z10, .int 0, .ref z11, .int 0, .ref z30, .ref z31, .ref z32, .ref z33, .int 0, .ref z12, .int 0, .int 0, .ref z34, .ref z35, .ref z36, .ref z37, .int 0, .int 0, .int 0, .int 0, .ref z38, .int 0, .ref z39, .ref z40, .ref z41, .ref z42, .int 0, .ref z13, .ref z14, .ref z15, .ref z16, .int 0, .ref z17, .ref z18, .ref z43]))]) [0] rfl
    have hD9 := hD.sub (ws' := [(h0, .inr (12, [.ref z0, .ref z1, .ref z2, .ref z3, .ref z4, .ref z5, .ref z20, .ref z21, .ref z22, .ref z23, .ref z24, .ref z25, .int 0, .ref z26, .ref z27, .ref z28, .int 9, .int 0, .int 0, .ref z6, .ref z29, .ref z7, .int 0, .int 2, .ref z19, .ref z8, .ref z9, .ref z10, .int 0, .ref z11, .int 0, .ref z30, .ref z31, .ref z32, .ref z33, .int 0, .ref z12, .int 0, .int 0, .ref z34, .ref z35, .ref z36, .ref z37, .int 0, .int 0, .int 0, .int 0, .ref z38, .int 0, .ref z39, .ref z40, .ref z41, .ref z42, .int 0, .ref z13, .ref z14, .ref z15, .ref z16, .int 0, .ref z17, .ref z18, .ref z43]))]) [0] (by decide) rfl
    exact W.iret (v := (-1)) hx hb hr (fun t ht hW => ⟨⟨(-1), (), rfl, by decide, ⟨by rw [ht]; exact hP9, va_K.moved hW.alike hK, hD9⟩⟩, hS.F ht⟩) hS.2.2 dX12_passAt_22

set_option maxHeartbeats 4000000 in
set_option maxRecDepth 100000 in
/-- X12_passAt -/
theorem kX12_passAt_s21 (l : Launch) (D : va_G) (G : tyG) (h0 : Nat) (w : Int32) (z0 : Nat) (z1 : Nat) (z2 : Nat) (z3 : Nat) (z4 : Nat) (z5 : Nat) (z20 : Nat) (z21 : Nat) (z22 : Nat) (z23 : Nat) (z24 : Nat) (z25 : Nat) (z26 : Nat) (z27 : Nat) (z28 : Nat) (z6 : Nat) (z29 : Nat) (z7 : Nat) (z19 : Nat) (z8 : Nat) (z9 : Nat) (z10 : Nat) (z11 : Nat) (z30 : Nat) (z31 : Nat) (z32 : Nat) (z33 : Nat) (z12 : Nat) (z34 : Nat) (z35 : Nat) (z36 : Nat) (z37 : Nat) (z38 : Nat) (z39 : Nat) (z40 : Nat) (z41 : Nat) (z42 : Nat) (z13 : Nat) (z14 : Nat) (z15 : Nat) (z16 : Nat) (z17 : Nat) (z18 : Nat) (z43 : Nat) (sz : Nat) : Met l yX12_passAt wsX12_passAt ({ frames := 1, cells := 0, slots := 0, locals := 23 }) (va_Pc [.ref h0, .int w, .int 2, .int 1] (wB D G sz [(h0, .inr (12, [.ref z0, .ref z1, .ref z2, .ref z3, .ref z4, .ref z5, .ref z20, .ref z21, .ref z22, .ref z23, .ref z24, .ref z25, .int 0, .ref z26, .ref z27, .ref z28, .int 9, .int 0, .int 0, .ref z6, .ref z29, .ref z7, .int 0, .int 2, .ref z19, .ref z8, .ref z9, .ref z10, .int 0, .ref z11, .int 0, .ref z30, .ref z31, .ref z32, .ref z33, .int 0, .ref z12, .int 0, .int 0, .ref z34, .ref z35, .ref z36, .ref z37, .int 0, .int 0, .int 0, .int 0, .ref z38, .int 0, .ref z39, .ref z40, .ref z41, .ref z42, .int 0, .ref z13, .ref z14, .ref z15, .ref z16, .int 0, .ref z17, .ref z18, .ref z43]))])) (va_Qi (fun (r : Int32) (_ : Unit) => r = 1 ∨ r = -1) (fun _ t => wS D G (va_A [(h0, .inr (12, [.ref z0, .ref z1, .ref z2, .ref z3, .ref z4, .ref z5, .ref z20, .ref z21, .ref z22, .ref z23, .ref z24, .ref z25, .int 0, .ref z26, .ref z27, .ref z28, .int 9, .int 0, .int 0, .ref z6, .ref z29, .ref z7, .int 0, .int 2, .ref z19, .ref z8, .ref z9, .ref z10, .int 0, .ref z11, .int 0, .ref z30, .ref z31, .ref z32, .ref z33, .int 0, .ref z12, .int 0, .int 0, .ref z34, .ref z35, .ref z36, .ref z37, .int 0, .int 0, .int 0, .int 0, .ref z38, .int 0, .ref z39, .ref z40, .ref z41, .ref z42, .int 0, .ref z13, .ref z14, .ref z15, .ref z16, .int 0, .ref z17, .ref z18, .ref z43]))] sz) [(h0, .inr (12, [.ref z0, .ref z1, .ref z2, .ref z3, .ref z4, .ref z5, .ref z20, .ref z21, .ref z22, .ref z23, .ref z24, .ref z25, .int 0, .ref z26, .ref z27, .ref z28, .int 9, .int 0, .int 0, .ref z6, .ref z29, .ref z7, .int 0, .int 2, .ref z19, .ref z8, .ref z9, .ref z10, .int 0, .ref z11, .int 0, .ref z30, .ref z31, .ref z32, .ref z33, .int 0, .ref z12, .int 0, .int 0, .ref z34, .ref z35, .ref z36, .ref z37, .int 0, .int 0, .int 0, .int 0, .ref z38, .int 0, .ref z39, .ref z40, .ref z41, .ref z42, .int 0, .ref z13, .ref z14, .ref z15, .ref z16, .int 0, .ref z17, .ref z18, .ref z43]))] t) (va_A [(h0, .inr (12, [.ref z0, .ref z1, .ref z2, .ref z3, .ref z4, .ref z5, .ref z20, .ref z21, .ref z22, .ref z23, .ref z24, .ref z25, .int 0, .ref z26, .ref z27, .ref z28, .int 9, .int 0, .int 0, .ref z6, .ref z29, .ref z7, .int 0, .int 2, .ref z19, .ref z8, .ref z9, .ref z10, .int 0, .ref z11, .int 0, .ref z30, .ref z31, .ref z32, .ref z33, .int 0, .ref z12, .int 0, .int 0, .ref z34, .ref z35, .ref z36, .ref z37, .int 0, .int 0, .int 0, .int 0, .ref z38, .int 0, .ref z39, .ref z40, .ref z41, .ref z42, .int 0, .ref z13, .ref z14, .ref z15, .ref z16, .int 0, .ref z17, .ref z18, .ref z43]))] sz)) 0 0 (va_A [(h0, .inr (12, [.ref z0, .ref z1, .ref z2, .ref z3, .ref z4, .ref z5, .ref z20, .ref z21, .ref z22, .ref z23, .ref z24, .ref z25, .int 0, .ref z26, .ref z27, .ref z28, .int 9, .int 0, .int 0, .ref z6, .ref z29, .ref z7, .int 0, .int 2, .ref z19, .ref z8, .ref z9, .ref z10, .int 0, .ref z11, .int 0, .ref z30, .ref z31, .ref z32, .ref z33, .int 0, .ref z12, .int 0, .int 0, .ref z34, .ref z35, .ref z36, .ref z37, .int 0, .int 0, .int 0, .int 0, .ref z38, .int 0, .ref z39, .ref z40, .ref z41, .ref z42, .int 0, .ref z13, .ref z14, .ref z15, .ref z16, .int 0, .ref z17, .ref z18, .ref z43]))] sz) := by
  refine Met.ofW (cc := cX12_passAt) (maxL := 4) (ret := (some .int)) (by decide) rfl ?_
  intro p e s m args below meth c s₁ B hml hv
  obtain ⟨rfl, hsz, hP, hK, hD0, hN⟩ := hv
  have hx := B.exec
  have hb := B.bytes
  have hr := B.returns
  have hts := atoms_spec (ws := wsX12_passAt) B.pre
  have hown : s.vm.findClass RX12 = some m.cls := findClass_of_methodNamed B.named
  have hlocks := B.notSynchronized
  subst hsz
  have hD := hD0.self (sz := s.heap.size)
  generalize hAe : va_A [(h0, .inr (12, [.ref z0, .ref z1, .ref z2, .ref z3, .ref z4, .ref z5, .ref z20, .ref z21, .ref z22, .ref z23, .ref z24, .ref z25, .int 0, .ref z26, .ref z27, .ref z28, .int 9, .int 0, .int 0, .ref z6, .ref z29, .ref z7, .int 0, .int 2, .ref z19, .ref z8, .ref z9, .ref z10, .int 0, .ref z11, .int 0, .ref z30, .ref z31, .ref z32, .ref z33, .int 0, .ref z12, .int 0, .int 0, .ref z34, .ref z35, .ref z36, .ref z37, .int 0, .int 0, .int 0, .int 0, .ref z38, .int 0, .ref z39, .ref z40, .ref z41, .ref z42, .int 0, .ref z13, .ref z14, .ref z15, .ref z16, .int 0, .ref z17, .ref z18, .ref z43]))] s.heap.size = A at hD ⊢
  have hA : ∀ q : Nat, s.heap.size ≤ q → A q := fun q h => by rw [← hAe]; exact Or.inr h
  have hS : va_S A s.heap s.heap [] := va_S.rf
  have hP : va_P D vwCl [(h0, .inr (12, [.ref z0, .ref z1, .ref z2, .ref z3, .ref z4, .ref z5, .ref z20, .ref z21, .ref z22, .ref z23, .ref z24, .ref z25, .int 0, .ref z26, .ref z27, .ref z28, .int 9, .int 0, .int 0, .ref z6, .ref z29, .ref z7, .int 0, .int 2, .ref z19, .ref z8, .ref z9, .ref z10, .int 0, .ref z11, .int 0, .ref z30, .ref z31, .ref z32, .ref z33, .int 0, .ref z12, .int 0, .int 0, .ref z34, .ref z35, .ref z36, .ref z37, .int 0, .int 0, .int 0, .int 0, .ref z38, .int 0, .ref z39, .ref z40, .ref z41, .ref z42, .int 0, .ref z13, .ref z14, .ref z15, .ref z16, .int 0, .ref z17, .ref z18, .ref z43]))] s.heap := hP
  have hl := lv_entry ([.ref h0, .int w, .int 2, .int 1]) (n := 4) (Nat.le_of_ble_eq_true rfl)
  rw [lg_entry_eq]
  generalize (lg_sl ([.ref h0, .int w, .int 2, .int 1]) ++ List.replicate (4 - (lg_sl ([.ref h0, .int w, .int 2, .int 1])).length) Slot.unset).toArray = ls at hl ⊢
  have hl : lv_has ls 4 [(0, .ref h0), (1, .int w), (2, .int 2), (3, .int 1)] := hl
  refine lv_iload_n hx hb dX12_passAt_0 rfl (lv_at hl 1 rfl) ?_
  refine lv_aload_n hx hb dX12_passAt_1 rfl (lv_at hl 0 rfl) ?_
  have hPc := hP.sub (ws' := [(h0, .inr (12, [.ref z0, .ref z1, .ref z2, .ref z3, .ref z4, .ref z5, .ref z20, .ref z21, .ref z22, .ref z23, .ref z24, .ref z25, .int 0, .ref z26, .ref z27, .ref z28, .int 9, .int 0, .int 0, .ref z6, .ref z29, .ref z7, .int 0, .int 2, .ref z19, .ref z8, .ref z9, .ref z10, .int 0, .ref z11, .int 0, .ref z30, .ref z31, .ref z32, .ref z33, .int 0, .ref z12, .int 0, .int 0, .ref z34, .ref z35, .ref z36, .ref z37, .int 0, .int 0, .int 0, .int 0, .ref z38, .int 0, .ref z39, .ref z40, .ref z41, .ref z42, .int 0, .ref z13, .ref z14, .ref z15, .ref z16, .int 0, .ref z17, .ref z18, .ref z43]))]) [0] rfl
  have hDc := hD.sub (ws' := [(h0, .inr (12, [.ref z0, .ref z1, .ref z2, .ref z3, .ref z4, .ref z5, .ref z20, .ref z21, .ref z22, .ref z23, .ref z24, .ref z25, .int 0, .ref z26, .ref z27, .ref z28, .int 9, .int 0, .int 0, .ref z6, .ref z29, .ref z7, .int 0, .int 2, .ref z19, .ref z8, .ref z9, .ref z10, .int 0, .ref z11, .int 0, .ref z30, .ref z31, .ref z32, .ref z33, .int 0, .ref z12, .int 0, .int 0, .ref z34, .ref z35, .ref z36, .ref z37, .int 0, .int 0, .int 0, .int 0, .ref z38, .int 0, .ref z39, .ref z40, .ref z41, .ref z42, .int 0, .ref z13, .ref z14, .ref z15, .ref z16, .int 0, .ref z17, .ref z18, .ref z43]))]) [0] (by decide) rfl
  have hFc := va_free (wc := [(h0, .inr (12, [.ref z0, .ref z1, .ref z2, .ref z3, .ref z4, .ref z5, .ref z20, .ref z21, .ref z22, .ref z23, .ref z24, .ref z25, .int 0, .ref z26, .ref z27, .ref z28, .int 9, .int 0, .int 0, .ref z6, .ref z29, .ref z7, .int 0, .int 2, .ref z19, .ref z8, .ref z9, .ref z10, .int 0, .ref z11, .int 0, .ref z30, .ref z31, .ref z32, .ref z33, .int 0, .ref z12, .int 0, .int 0, .ref z34, .ref z35, .ref z36, .ref z37, .int 0, .int 0, .int 0, .int 0, .ref z38, .int 0, .ref z39, .ref z40, .ref z41, .ref z42, .int 0, .ref z13, .ref z14, .ref z15, .ref z16, .int 0, .ref z17, .ref z18, .ref z43]))]) hD hS hA [0] rfl
  refine va_calli (va_runV (As := []) (rest := [.int w]) ⟨hx, hb, hml, hown, hts⟩ (kX12_gens l D G h0 z0 z1 z2 z3 z4 z5 z20 z21 z22 z23 z24 z25 z26 z27 z28 z6 z29 z7 z19 z8 z9 z10 z11 z30 z31 z32 z33 z12 z34 z35 z36 z37 z38 z39 z40 z41 z42 z13 z14 z15 z16 z17 z18 z43 0 s.heap.size) (cwV 0 hts gX12_passAt_X12_gens rfl rfl rfl (by decide +kernel) ⟨Nat.le_of_ble_eq_true rfl, Nat.le_of_ble_eq_true rfl⟩) ⟨wB_blind, va_recv hK hPc (ci := 12) (q0 := 0) rfl rfl, wB_pre hPc hK hDc hN⟩ rfl rfl hl.1 rfl (lv_room (Nat.le_of_ble_eq_true rfl)) dX12_passAt_2 ⟨Nat.le_of_ble_eq_true rfl, Nat.le_of_ble_eq_true rfl⟩) hS (fun q _ h => hFc q h) hFc (fun r1 u t H1 locs ht hvm hr1 hB hz1 hk1 hS => ?_)
  obtain ⟨hP1, hK1, hD1⟩ := hB
  rw [ht] at hP1
  obtain ⟨hP, hD⟩ := va_join (wr := []) (w1 := [(h0, .inr (12, [.ref z0, .ref z1, .ref z2, .ref z3, .ref z4, .ref z5, .ref z20, .ref z21, .ref z22, .ref z23, .ref z24, .ref z25, .int 0, .ref z26, .ref z27, .ref z28, .int 9, .int 0, .int 0, .ref z6, .ref z29, .ref z7, .int 0, .int 2, .ref z19, .ref z8, .ref z9, .ref z10, .int 0, .ref z11, .int 0, .ref z30, .ref z31, .ref z32, .ref z33, .int 0, .ref z12, .int 0, .int 0, .ref z34, .ref z35, .ref z36, .ref z37, .int 0, .int 0, .int 0, .int 0, .ref z38, .int 0, .ref z39, .ref z40, .ref z41, .ref z42, .int 0, .ref z13, .ref z14, .ref z15, .ref z16, .int 0, .ref z17, .ref z18, .ref z43]))]) hP hD [0] [] rfl rfl (by decide) (by decide) hk1 hFc hP1 hD1
  clear hPc hDc
  generalize H1 = H at hP hS ⊢
  have hP : va_P D vwCl [(h0, .inr (12, [.ref z0, .ref z1, .ref z2, .ref z3, .ref z4, .ref z5, .ref z20, .ref z21, .ref z22, .ref z23, .ref z24, .ref z25, .int 0, .ref z26, .ref z27, .ref z28, .int 9, .int 0, .int 0, .ref z6, .ref z29, .ref z7, .int 0, .int 2, .ref z19, .ref z8, .ref z9, .ref z10, .int 0, .ref z11, .int 0, .ref z30, .ref z31, .ref z32, .ref z33, .int 0, .ref z12, .int 0, .int 0, .ref z34, .ref z35, .ref z36, .ref z37, .int 0, .int 0, .int 0, .int 0, .ref z38, .int 0, .ref z39, .ref z40, .ref z41, .ref z42, .int 0, .ref z13, .ref z14, .ref z15, .ref z16, .int 0, .ref z17, .ref z18, .ref z43]))] H := hP
  have hD : va_D A [(h0, .inr (12, [.ref z0, .ref z1, .ref z2, .ref z3, .ref z4, .ref z5, .ref z20, .ref z21, .ref z22, .ref z23, .ref z24, .ref z25, .int 0, .ref z26, .ref z27, .ref z28, .int 9, .int 0, .int 0, .ref z6, .ref z29, .ref z7, .int 0, .int 2, .ref z19, .ref z8, .ref z9, .ref z10, .int 0, .ref z11, .int 0, .ref z30, .ref z31, .ref z32, .ref z33, .int 0, .ref z12, .int 0, .int 0, .ref z34, .ref z35, .ref z36, .ref z37, .int 0, .int 0, .int 0, .int 0, .ref z38, .int 0, .ref z39, .ref z40, .ref z41, .ref z42, .int 0, .ref z13, .ref z14, .ref z15, .ref z16, .int 0, .ref z17, .ref z18, .ref z43]))] := hD
  subst hr1
  refine lv_iload_n hx hb dX12_passAt_5 rfl (lv_at hl 2 rfl) ?_
  refine lv_iconst (v := 1) hx hb dX12_passAt_6 (by decide) ?_
  refine lv_isub hx hb dX12_passAt_7 ?_
  refine wk_i 1 (by decide) ?_
  refine lv_iload_n hx hb dX12_passAt_8 rfl (lv_at hl 3 rfl) ?_
  refine lv_isub hx hb dX12_passAt_9 ?_
  refine wk_i 0 (by decide) ?_
  have hPc := hP.sub (ws' := []) [] rfl
  have hDc := hD.sub (ws' := []) [] (by decide) rfl
  have hFc := va_free (wc := []) hD hS hA [] rfl
  refine va_calli (va_runS (As := [.int 2, .int 0]) (rest := [.int w]) ⟨hx, hb, hml, hown, hts⟩ (kX12_power_0 l D G  H.size) (va_cwS 2 hts gX12_passAt_X12_power rfl rfl rfl (by decide +kernel) ⟨Nat.le_of_ble_eq_true rfl, Nat.le_of_ble_eq_true rfl⟩) ⟨wB_blind, wB_pre hPc hK hDc hN⟩ rfl rfl hl.1 rfl (lv_room (Nat.le_of_ble_eq_true rfl)) dX12_passAt_10 ⟨Nat.le_of_ble_eq_true rfl, Nat.le_of_ble_eq_true rfl⟩) hS (fun q _ h => hFc q h) hFc (fun r2 u t H1 locs ht hvm hr2 hB hz1 hk1 hS => ?_)
  obtain ⟨hP, hD⟩ := va_join (wr := [(h0, .inr (12, [.ref z0, .ref z1, .ref z2, .ref z3, .ref z4, .ref z5, .ref z20, .ref z21, .ref z22, .ref z23, .ref z24, .ref z25, .int 0, .ref z26, .ref z27, .ref z28, .int 9, .int 0, .int 0, .ref z6, .ref z29, .ref z7, .int 0, .int 2, .ref z19, .ref z8, .ref z9, .ref z10, .int 0, .ref z11, .int 0, .ref z30, .ref z31, .ref z32, .ref z33, .int 0, .ref z12, .int 0, .int 0, .ref z34, .ref z35, .ref z36, .ref z37, .int 0, .int 0, .int 0, .int 0, .ref z38, .int 0, .ref z39, .ref z40, .ref z41, .ref z42, .int 0, .ref z13, .ref z14, .ref z15, .ref z16, .int 0, .ref z17, .ref z18, .ref z43]))]) (w1 := []) hP hD [] [0] rfl rfl (by decide) (by decide) hk1 hFc wP_nil wD_nil
  clear hPc hDc
  generalize H1 = H at hP hS ⊢
  have hP : va_P D vwCl [(h0, .inr (12, [.ref z0, .ref z1, .ref z2, .ref z3, .ref z4, .ref z5, .ref z20, .ref z21, .ref z22, .ref z23, .ref z24, .ref z25, .int 0, .ref z26, .ref z27, .ref z28, .int 9, .int 0, .int 0, .ref z6, .ref z29, .ref z7, .int 0, .int 2, .ref z19, .ref z8, .ref z9, .ref z10, .int 0, .ref z11, .int 0, .ref z30, .ref z31, .ref z32, .ref z33, .int 0, .ref z12, .int 0, .int 0, .ref z34, .ref z35, .ref z36, .ref z37, .int 0, .int 0, .int 0, .int 0, .ref z38, .int 0, .ref z39, .ref z40, .ref z41, .ref z42, .int 0, .ref z13, .ref z14, .ref z15, .ref z16, .int 0, .ref z17, .ref z18, .ref z43]))] H := hP
  have hD : va_D A [(h0, .inr (12, [.ref z0, .ref z1, .ref z2, .ref z3, .ref z4, .ref z5, .ref z20, .ref z21, .ref z22, .ref z23, .ref z24, .ref z25, .int 0, .ref z26, .ref z27, .ref z28, .int 9, .int 0, .int 0, .ref z6, .ref z29, .ref z7, .int 0, .int 2, .ref z19, .ref z8, .ref z9, .ref z10, .int 0, .ref z11, .int 0, .ref z30, .ref z31, .ref z32, .ref z33, .int 0, .ref z12, .int 0, .int 0, .ref z34, .ref z35, .ref z36, .ref z37, .int 0, .int 0, .int 0, .int 0, .ref z38, .int 0, .ref z39, .ref z40, .ref z41, .ref z42, .int 0, .ref z13, .ref z14, .ref z15, .ref z16, .int 0, .ref z17, .ref z18, .ref z43]))] := hD
  subst hr2
  refine lv_idiv hx hb dX12_passAt_13 (by decide) ?_
  refine lv_topi (fun v3 ev3 => ?_)
  refine lv_aload_n hx hb dX12_passAt_14 rfl (lv_at hl 0 rfl) ?_
  have hPc := hP.sub (ws' := [(h0, .inr (12, [.ref z0, .ref z1, .ref z2, .ref z3, .ref z4, .ref z5, .ref z20, .ref z21, .ref z22, .ref z23, .ref z24, .ref z25, .int 0, .ref z26, .ref z27, .ref z28, .int 9, .int 0, .int 0, .ref z6, .ref z29, .ref z7, .int 0, .int 2, .ref z19, .ref z8, .ref z9, .ref z10, .int 0, .ref z11, .int 0, .ref z30, .ref z31, .ref z32, .ref z33, .int 0, .ref z12, .int 0, .int 0, .ref z34, .ref z35, .ref z36, .ref z37, .int 0, .int 0, .int 0, .int 0, .ref z38, .int 0, .ref z39, .ref z40, .ref z41, .ref z42, .int 0, .ref z13, .ref z14, .ref z15, .ref z16, .int 0, .ref z17, .ref z18, .ref z43]))]) [0] rfl
  have hDc := hD.sub (ws' := [(h0, .inr (12, [.ref z0, .ref z1, .ref z2, .ref z3, .ref z4, .ref z5, .ref z20, .ref z21, .ref z22, .ref z23, .ref z24, .ref z25, .int 0, .ref z26, .ref z27, .ref z28, .int 9, .int 0, .int 0, .ref z6, .ref z29, .ref z7, .int 0, .int 2, .ref z19, .ref z8, .ref z9, .ref z10, .int 0, .ref z11, .int 0, .ref z30, .ref z31, .ref z32, .ref z33, .int 0, .ref z12, .int 0, .int 0, .ref z34, .ref z35, .ref z36, .ref z37, .int 0, .int 0, .int 0, .int 0, .ref z38, .int 0, .ref z39, .ref z40, .ref z41, .ref z42, .int 0, .ref z13, .ref z14, .ref z15, .ref z16, .int 0, .ref z17, .ref z18, .ref z43]))]) [0] (by decide) rfl
  have hFc := va_free (wc := [(h0, .inr (12, [.ref z0, .ref z1, .ref z2, .ref z3, .ref z4, .ref z5, .ref z20, .ref z21, .ref z22, .ref z23, .ref z24, .ref z25, .int 0, .ref z26, .ref z27, .ref z28, .int 9, .int 0, .int 0, .ref z6, .ref z29, .ref z7, .int 0, .int 2, .ref z19, .ref z8, .ref z9, .ref z10, .int 0, .ref z11, .int 0, .ref z30, .ref z31, .ref z32, .ref z33, .int 0, .ref z12, .int 0, .int 0, .ref z34, .ref z35, .ref z36, .ref z37, .int 0, .int 0, .int 0, .int 0, .ref z38, .int 0, .ref z39, .ref z40, .ref z41, .ref z42, .int 0, .ref z13, .ref z14, .ref z15, .ref z16, .int 0, .ref z17, .ref z18, .ref z43]))]) hD hS hA [0] rfl
  refine va_calli (va_runV (As := []) (rest := [.int v3]) ⟨hx, hb, hml, hown, hts⟩ (kX12_gens l D G h0 z0 z1 z2 z3 z4 z5 z20 z21 z22 z23 z24 z25 z26 z27 z28 z6 z29 z7 z19 z8 z9 z10 z11 z30 z31 z32 z33 z12 z34 z35 z36 z37 z38 z39 z40 z41 z42 z13 z14 z15 z16 z17 z18 z43 0 H.size) (cwV 0 hts gX12_passAt_X12_gens rfl rfl rfl (by decide +kernel) ⟨Nat.le_of_ble_eq_true rfl, Nat.le_of_ble_eq_true rfl⟩) ⟨wB_blind, va_recv hK hPc (ci := 12) (q0 := 0) rfl rfl, wB_pre hPc hK hDc hN⟩ rfl rfl hl.1 rfl (lv_room (Nat.le_of_ble_eq_true rfl)) dX12_passAt_15 ⟨Nat.le_of_ble_eq_true rfl, Nat.le_of_ble_eq_true rfl⟩) hS (fun q _ h => hFc q h) hFc (fun r4 u t H1 locs ht hvm hr4 hB hz1 hk1 hS => ?_)
  obtain ⟨hP1, hK1, hD1⟩ := hB
  rw [ht] at hP1
  obtain ⟨hP, hD⟩ := va_join (wr := []) (w1 := [(h0, .inr (12, [.ref z0, .ref z1, .ref z2, .ref z3, .ref z4, .ref z5, .ref z20, .ref z21, .ref z22, .ref z23, .ref z24, .ref z25, .int 0, .ref z26, .ref z27, .ref z28, .int 9, .int 0, .int 0, .ref z6, .ref z29, .ref z7, .int 0, .int 2, .ref z19, .ref z8, .ref z9, .ref z10, .int 0, .ref z11, .int 0, .ref z30, .ref z31, .ref z32, .ref z33, .int 0, .ref z12, .int 0, .int 0, .ref z34, .ref z35, .ref z36, .ref z37, .int 0, .int 0, .int 0, .int 0, .ref z38, .int 0, .ref z39, .ref z40, .ref z41, .ref z42, .int 0, .ref z13, .ref z14, .ref z15, .ref z16, .int 0, .ref z17, .ref z18, .ref z43]))]) hP hD [0] [] rfl rfl (by decide) (by decide) hk1 hFc hP1 hD1
  clear hPc hDc
  generalize H1 = H at hP hS ⊢
  have hP : va_P D vwCl [(h0, .inr (12, [.ref z0, .ref z1, .ref z2, .ref z3, .ref z4, .ref z5, .ref z20, .ref z21, .ref z22, .ref z23, .ref z24, .ref z25, .int 0, .ref z26, .ref z27, .ref z28, .int 9, .int 0, .int 0, .ref z6, .ref z29, .ref z7, .int 0, .int 2, .ref z19, .ref z8, .ref z9, .ref z10, .int 0, .ref z11, .int 0, .ref z30, .ref z31, .ref z32, .ref z33, .int 0, .ref z12, .int 0, .int 0, .ref z34, .ref z35, .ref z36, .ref z37, .int 0, .int 0, .int 0, .int 0, .ref z38, .int 0, .ref z39, .ref z40, .ref z41, .ref z42, .int 0, .ref z13, .ref z14, .ref z15, .ref z16, .int 0, .ref z17, .ref z18, .ref z43]))] H := hP
  have hD : va_D A [(h0, .inr (12, [.ref z0, .ref z1, .ref z2, .ref z3, .ref z4, .ref z5, .ref z20, .ref z21, .ref z22, .ref z23, .ref z24, .ref z25, .int 0, .ref z26, .ref z27, .ref z28, .int 9, .int 0, .int 0, .ref z6, .ref z29, .ref z7, .int 0, .int 2, .ref z19, .ref z8, .ref z9, .ref z10, .int 0, .ref z11, .int 0, .ref z30, .ref z31, .ref z32, .ref z33, .int 0, .ref z12, .int 0, .int 0, .ref z34, .ref z35, .ref z36, .ref z37, .int 0, .int 0, .int 0, .int 0, .ref z38, .int 0, .ref z39, .ref z40, .ref z41, .ref z42, .int 0, .ref z13, .ref z14, .ref z15, .ref z16, .int 0, .ref z17, .ref z18, .ref z43]))] := hD
  subst hr4
  refine lv_irem hx hb dX12_passAt_18 (by decide) ?_
  refine lv_topi (fun vq evq => ?_)
  rcases (wk_rem2 evq) with rfl | rfl | rfl
  · have hPc := hP.sub (ws' := []) [] rfl
    have hDc := hD.sub (ws' := []) [] (by decide) rfl
    have hFc := va_free (wc := []) hD hS hA [] rfl
    refine va_calli (va_runS (As := [.int 0]) (rest := []) ⟨hx, hb, hml, hown, hts⟩ (kX12_passOf_0 l D G  H.size) (va_cwS 1 hts gX12_passAt_X12_passOf rfl rfl rfl (by decide +kernel) ⟨Nat.le_of_ble_eq_true rfl, Nat.le_of_ble_eq_true rfl⟩) ⟨wB_blind, wB_pre hPc hK hDc hN⟩ rfl rfl hl.1 rfl (lv_room (Nat.le_of_ble_eq_true rfl)) dX12_passAt_19 ⟨Nat.le_of_ble_eq_true rfl, Nat.le_of_ble_eq_true rfl⟩) hS (fun q _ h => hFc q h) hFc (fun r5 u t H1 locs ht hvm hr5 hB hz1 hk1 hS => ?_)
    obtain ⟨hP, hD⟩ := va_join (wr := [(h0, .inr (12, [.ref z0, .ref z1, .ref z2, .ref z3, .ref z4, .ref z5, .ref z20, .ref z21, .ref z22, .ref z23, .ref z24, .ref z25, .int 0, .ref z26, .ref z27, .ref z28, .int 9, .int 0, .int 0, .ref z6, .ref z29, .ref z7, .int 0, .int 2, .ref z19, .ref z8, .ref z9, .ref z10, .int 0, .ref z11, .int 0, .ref z30, .ref z31, .ref z32, .ref z33, .int 0, .ref z12, .int 0, .int 0, .ref z34, .ref z35, .ref z36, .ref z37, .int 0, .int 0, .int 0, .int 0, .ref z38, .int 0, .ref z39, .ref z40, .ref z41, .ref z42, .int 0, .ref z13, .ref z14, .ref z15, .ref z16, .int 0, .ref z17, .ref z18, .ref z43]))]) (w1 := []) hP hD [] [0] rfl rfl (by decide) (by decide) hk1 hFc wP_nil wD_nil
    clear hPc hDc
    generalize H1 = H at hP hS ⊢
    have hP : va_P D vwCl [(h0, .inr (12, [.ref z0, .ref z1, .ref z2, .ref z3, .ref z4, .ref z5, .ref z20, .ref z21, .ref z22, .ref z23, .ref z24, .ref z25, .int 0, .ref z26, .ref z27, .ref z28, .int 9, .int 0, .int 0, .ref z6, .ref z29, .ref z7, .int 0, .int 2, .ref z19, .ref z8, .ref z9, .ref z10, .int 0, .ref z11, .int 0, .ref z30, .ref z31, .ref z32, .ref z33, .int 0, .ref z12, .int 0, .int 0, .ref z34, .ref z35, .ref z36, .ref z37, .int 0, .int 0, .int 0, .int 0, .ref z38, .int 0, .ref z39, .ref z40, .ref z41, .ref z42, .int 0, .ref z13, .ref z14, .ref z15, .ref z16, .int 0, .ref z17, .ref z18, .ref z43]))] H := hP
    have hD : va_D A [(h0, .inr (12, [.ref z0, .ref z1, .ref z2, .ref z3, .ref z4, .ref z5, .ref z20, .ref z21, .ref z22, .ref z23, .ref z24, .ref z25, .int 0, .ref z26, .ref z27, .ref z28, .int 9, .int 0, .int 0, .ref z6, .ref z29, .ref z7, .int 0, .int 2, .ref z19, .ref z8, .ref z9, .ref z10, .int 0, .ref z11, .int 0, .ref z30, .ref z31, .ref z32, .ref z33, .int 0, .ref z12, .int 0, .int 0, .ref z34, .ref z35, .ref z36, .ref z37, .int 0, .int 0, .int 0, .int 0, .ref z38, .int 0, .ref z39, .ref z40, .ref z41, .ref z42, .int 0, .ref z13, .ref z14, .ref z15, .ref z16, .int 0, .ref z17, .ref z18, .ref z43]))] := hD
    subst hr5
    have hP9 := hP.sub (ws' := [(h0, .inr (12, [.ref z0, .ref z1, .ref z2, .ref z3, .ref z4, .ref z5, .ref z20, .ref z21, .ref z22, .ref z23, .ref z24, .ref z25, .int 0, .ref z26, .ref z27, .ref z28, .int 9, .int 0, .int 0, .ref z6, .ref z29, .ref z7, .int 0, .int 2, .ref z19, .ref z8, .ref z9, .ref z10, .int 0, .ref z11, .int 0, .ref z30, .ref z31, .ref z32, .ref z33, .int 0, .ref z12, .int 0, .int 0, .ref z34, .ref z35, .ref z36, .ref z37, .int 0, .int 0, .int 0, .int 0, .ref z38, .int 0, .ref z39, .ref z40, .ref z41, .ref z42, .int 0, .ref z13, .ref z14, .ref z15, .ref z16, .int 0, .ref z17, .ref z18, .ref z43]))]) [0] rfl
    have hD9 := hD.sub (ws' := [(h0, .inr (12, [.ref z0, .ref z1, .ref z2, .ref z3, .ref z4, .ref z5, .ref z20, .ref z21, .ref z22, .ref z23, .ref z24, .ref z25, .int 0, .ref z26, .ref z27, .ref z28, .int 9, .int 0, .int 0, .ref z6, .ref z29, .ref z7, .int 0, .int 2, .ref z19, .ref z8, .ref z9, .ref z10, .int 0, .ref z11, .int 0, .ref z30, .ref z31, .ref z32, .ref z33, .int 0, .ref z12, .int 0, .int 0, .ref z34, .ref z35, .ref z36, .ref z37, .int 0, .int 0, .int 0, .int 0, .ref z38, .int 0, .ref z39, .ref z40, .ref z41, .ref z42, .int 0, .ref z13, .ref z14, .ref z15, .ref z16, .int 0, .ref z17, .ref z18, .ref z43]))]) [0] (by decide) rfl
    exact W.iret (v := 1) hx hb hr (fun t ht hW => ⟨⟨1, (), rfl, by decide, ⟨by rw [ht]; exact hP9, va_K.moved hW.alike hK, hD9⟩⟩, hS.F ht⟩) hS.2.2 dX12_passAt_22
  · have hPc := hP.sub (ws' := []) [] rfl
    have hDc := hD.sub (ws' := []) [] (by decide) rfl
    have hFc := va_free (wc := []) hD hS hA [] rfl
    refine va_calli (va_runS (As := [.int 1]) (rest := []) ⟨hx, hb, hml, hown, hts⟩ (kX12_passOf_1 l D G  H.size) (va_cwS 1 hts gX12_passAt_X12_passOf rfl rfl rfl (by decide +kernel) ⟨Nat.le_of_ble_eq_true rfl, Nat.le_of_ble_eq_true rfl⟩) ⟨wB_blind, wB_pre hPc hK hDc hN⟩ rfl rfl hl.1 rfl (lv_room (Nat.le_of_ble_eq_true rfl)) dX12_passAt_19 ⟨Nat.le_of_ble_eq_true rfl, Nat.le_of_ble_eq_true rfl⟩) hS (fun q _ h => hFc q h) hFc (fun r6 u t H1 locs ht hvm hr6 hB hz1 hk1 hS => ?_)
    obtain ⟨hP, hD⟩ := va_join (wr := [(h0, .inr (12, [.ref z0, .ref z1, .ref z2, .ref z3, .ref z4, .ref z5, .ref z20, .ref z21, .ref z22, .ref z23, .ref z24, .ref z25, .int 0, .ref z26, .ref z27, .ref z28, .int 9, .int 0, .int 0, .ref z6, .ref z29, .ref z7, .int 0, .int 2, .ref z19, .ref z8, .ref z9, .ref z10, .int 0, .ref z11, .int 0, .ref z30, .ref z31, .ref z32, .ref z33, .int 0, .ref z12, .int 0, .int 0, .ref z34, .ref z35, .ref z36, .ref z37, .int 0, .int 0, .int 0, .int 0, .ref z38, .int 0, .ref z39, .ref z40, .ref z41, .ref z42, .int 0, .ref z13, .ref z14, .ref z15, .ref z16, .int 0, .ref z17, .ref z18, .ref z43]))]) (w1 := []) hP hD [] [0] rfl rfl (by decide) (by decide) hk1 hFc wP_nil wD_nil
    clear hPc hDc
    generalize H1 = H at hP hS ⊢
    have hP : va_P D vwCl [(h0, .inr (12, [.ref z0, .ref z1, .ref z2, .ref z3, .ref z4, .ref z5, .ref z20, .ref z21, .ref z22, .ref z23, .ref z24, .ref z25, .int 0, .ref z26, .ref z27, .ref z28, .int 9, .int 0, .int 0, .ref z6, .ref z29, .ref z7, .int 0, .int 2, .ref z19, .ref z8, .ref z9, .ref z10, .int 0, .ref z11, .int 0, .ref z30, .ref z31, .ref z32, .ref z33, .int 0, .ref z12, .int 0, .int 0, .ref z34, .ref z35, .ref z36, .ref z37, .int 0, .int 0, .int 0, .int 0, .ref z38, .int 0, .ref z39, .ref z40, .ref z41, .ref z42, .int 0, .ref z13, .ref z14, .ref z15, .ref z16, .int 0, .ref z17, .ref z18, .ref z43]))] H := hP
    have hD : va_D A [(h0, .inr (12, [.ref z0, .ref z1, .ref z2, .ref z3, .ref z4, .ref z5, .ref z20, .ref z21, .ref z22, .ref z23, .ref z24, .ref z25, .int 0, .ref z26, .ref z27, .ref z28, .int 9, .int 0, .int 0, .ref z6, .ref z29, .ref z7, .int 0, .int 2, .ref z19, .ref z8, .ref z9, .ref z10, .int 0, .ref z11, .int 0, .ref z30, .ref z31, .ref z32, .ref z33, .int 0, .ref z12, .int 0, .int 0, .ref z34, .ref z35, .ref z36, .ref z37, .int 0, .int 0, .int 0, .int 0, .ref z38, .int 0, .ref z39, .ref z40, .ref z41, .ref z42, .int 0, .ref z13, .ref z14, .ref z15, .ref z16, .int 0, .ref z17, .ref z18, .ref z43]))] := hD
    subst hr6
    have hP9 := hP.sub (ws' := [(h0, .inr (12, [.ref z0, .ref z1, .ref z2, .ref z3, .ref z4, .ref z5, .ref z20, .ref z21, .ref z22, .ref z23, .ref z24, .ref z25, .int 0, .ref z26, .ref z27, .ref z28, .int 9, .int 0, .int 0, .ref z6, .ref z29, .ref z7, .int 0, .int 2, .ref z19, .ref z8, .ref z9, .ref z10, .int 0, .ref z11, .int 0, .ref z30, .ref z31, .ref z32, .ref z33, .int 0, .ref z12, .int 0, .int 0, .ref z34, .ref z35, .ref z36, .ref z37, .int 0, .int 0, .int 0, .int 0, .ref z38, .int 0, .ref z39, .ref z40, .ref z41, .ref z42, .int 0, .ref z13, .ref z14, .ref z15, .ref z16, .int 0, .ref z17, .ref z18, .ref z43]))]) [0] rfl
    have hD9 := hD.sub (ws' := [(h0, .inr (12, [.ref z0, .ref z1, .ref z2, .ref z3, .ref z4, .ref z5, .ref z20, .ref z21, .ref z22, .ref z23, .ref z24, .ref z25, .int 0, .ref z26, .ref z27, .ref z28, .int 9, .int 0, .int 0, .ref z6, .ref z29, .ref z7, .int 0, .int 2, .ref z19, .ref z8, .ref z9, .ref z10, .int 0, .ref z11, .int 0, .ref z30, .ref z31, .ref z32, .ref z33, .int 0, .ref z12, .int 0, .int 0, .ref z34, .ref z35, .ref z36, .ref z37, .int 0, .int 0, .int 0, .int 0, .ref z38, .int 0, .ref z39, .ref z40, .ref z41, .ref z42, .int 0, .ref z13, .ref z14, .ref z15, .ref z16, .int 0, .ref z17, .ref z18, .ref z43]))]) [0] (by decide) rfl
    exact W.iret (v := (-1)) hx hb hr (fun t ht hW => ⟨⟨(-1), (), rfl, by decide, ⟨by rw [ht]; exact hP9, va_K.moved hW.alike hK, hD9⟩⟩, hS.F ht⟩) hS.2.2 dX12_passAt_22
  · have hPc := hP.sub (ws' := []) [] rfl
    have hDc := hD.sub (ws' := []) [] (by decide) rfl
    have hFc := va_free (wc := []) hD hS hA [] rfl
    refine va_calli (va_runS (As := [.int (-1)]) (rest := []) ⟨hx, hb, hml, hown, hts⟩ (kX12_passOf_m l D G  H.size) (va_cwS 1 hts gX12_passAt_X12_passOf rfl rfl rfl (by decide +kernel) ⟨Nat.le_of_ble_eq_true rfl, Nat.le_of_ble_eq_true rfl⟩) ⟨wB_blind, wB_pre hPc hK hDc hN⟩ rfl rfl hl.1 rfl (lv_room (Nat.le_of_ble_eq_true rfl)) dX12_passAt_19 ⟨Nat.le_of_ble_eq_true rfl, Nat.le_of_ble_eq_true rfl⟩) hS (fun q _ h => hFc q h) hFc (fun r7 u t H1 locs ht hvm hr7 hB hz1 hk1 hS => ?_)
    obtain ⟨hP, hD⟩ := va_join (wr := [(h0, .inr (12, [.ref z0, .ref z1, .ref z2, .ref z3, .ref z4, .ref z5, .ref z20, .ref z21, .ref z22, .ref z23, .ref z24, .ref z25, .int 0, .ref z26, .ref z27, .ref z28, .int 9, .int 0, .int 0, .ref z6, .ref z29, .ref z7, .int 0, .int 2, .ref z19, .ref z8, .ref z9, .ref z10, .int 0, .ref z11, .int 0, .ref z30, .ref z31, .ref z32, .ref z33, .int 0, .ref z12, .int 0, .int 0, .ref z34, .ref z35, .ref z36, .ref z37, .int 0, .int 0, .int 0, .int 0, .ref z38, .int 0, .ref z39, .ref z40, .ref z41, .ref z42, .int 0, .ref z13, .ref z14, .ref z15, .ref z16, .int 0, .ref z17, .ref z18, .ref z43]))]) (w1 := []) hP hD [] [0] rfl rfl (by decide) (by decide) hk1 hFc wP_nil wD_nil
    clear hPc hDc
    generalize H1 = H at hP hS ⊢
    have hP : va_P D vwCl [(h0, .inr (12, [.ref z0, .ref z1, .ref z2, .ref z3, .ref z4, .ref z5, .ref z20, .ref z21, .ref z22, .ref z23, .ref z24, .ref z25, .int 0, .ref z26, .ref z27, .ref z28, .int 9, .int 0, .int 0, .ref z6, .ref z29, .ref z7, .int 0, .int 2, .ref z19, .ref z8, .ref z9, .ref z10, .int 0, .ref z11, .int 0, .ref z30, .ref z31, .ref z32, .ref z33, .int 0, .ref z12, .int 0, .int 0, .ref z34, .ref z35, .ref z36, .ref z37, .int 0, .int 0, .int 0, .int 0, .ref z38, .int 0, .ref z39, .ref z40, .ref z41, .ref z42, .int 0, .ref z13, .ref z14, .ref z15, .ref z16, .int 0, .ref z17, .ref z18, .ref z43]))] H := hP
    have hD : va_D A [(h0, .inr (12, [.ref z0, .ref z1, .ref z2, .ref z3, .ref z4, .ref z5, .ref z20, .ref z21, .ref z22, .ref z23, .ref z24, .ref z25, .int 0, .ref z26, .ref z27, .ref z28, .int 9, .int 0, .int 0, .ref z6, .ref z29, .ref z7, .int 0, .int 2, .ref z19, .ref z8, .ref z9, .ref z10, .int 0, .ref z11, .int 0, .ref z30, .ref z31, .ref z32, .ref z33, .int 0, .ref z12, .int 0, .int 0, .ref z34, .ref z35, .ref z36, .ref z37, .int 0, .int 0, .int 0, .int 0, .ref z38, .int 0, .ref z39, .ref z40, .ref z41, .ref z42, .int 0, .ref z13, .ref z14, .ref z15, .ref z16, .int 0, .ref z17, .ref z18, .ref z43]))] := hD
    subst hr7
    have hP9 := hP.sub (ws' := [(h0, .inr (12, [.ref z0, .ref z1, .ref z2, .ref z3, .ref z4, .ref z5, .ref z20, .ref z21, .ref z22, .ref z23, .ref z24, .ref z25, .int 0, .ref z26, .ref z27, .ref z28, .int 9, .int 0, .int 0, .ref z6, .ref z29, .ref z7, .int 0, .int 2, .ref z19, .ref z8, .ref z9, .ref z10, .int 0, .ref z11, .int 0, .ref z30, .ref z31, .ref z32, .ref z33, .int 0, .ref z12, .int 0, .int 0, .ref z34, .ref z35, .ref z36, .ref z37, .int 0, .int 0, .int 0, .int 0, .ref z38, .int 0, .ref z39, .ref z40, .ref z41, .ref z42, .int 0, .ref z13, .ref z14, .ref z15, .ref z16, .int 0, .ref z17, .ref z18, .ref z43]))]) [0] rfl
    have hD9 := hD.sub (ws' := [(h0, .inr (12, [.ref z0, .ref z1, .ref z2, .ref z3, .ref z4, .ref z5, .ref z20, .ref z21, .ref z22, .ref z23, .ref z24, .ref z25, .int 0, .ref z26, .ref z27, .ref z28, .int 9, .int 0, .int 0, .ref z6, .ref z29, .ref z7, .int 0, .int 2, .ref z19, .ref z8, .ref z9, .ref z10, .int 0, .ref z11, .int 0, .ref z30, .ref z31, .ref z32, .ref z33, .int 0, .ref z12, .int 0, .int 0, .ref z34, .ref z35, .ref z36, .ref z37, .int 0, .int 0, .int 0, .int 0, .ref z38, .int 0, .ref z39, .ref z40, .ref z41, .ref z42, .int 0, .ref z13, .ref z14, .ref z15, .ref z16, .int 0, .ref z17, .ref z18, .ref z43]))]) [0] (by decide) rfl
    exact W.iret (v := (-1)) hx hb hr (fun t ht hW => ⟨⟨(-1), (), rfl, by decide, ⟨by rw [ht]; exact hP9, va_K.moved hW.alike hK, hD9⟩⟩, hS.F ht⟩) hS.2.2 dX12_passAt_22

set_option maxHeartbeats 4000000 in
set_option maxRecDepth 100000 in
/-- X12_passAt -/
theorem kX12_passAt_s30 (l : Launch) (D : va_G) (G : tyG) (h0 : Nat) (w : Int32) (z0 : Nat) (z1 : Nat) (z2 : Nat) (z3 : Nat) (z4 : Nat) (z5 : Nat) (z20 : Nat) (z21 : Nat) (z22 : Nat) (z23 : Nat) (z24 : Nat) (z25 : Nat) (z26 : Nat) (z27 : Nat) (z28 : Nat) (z6 : Nat) (z29 : Nat) (z7 : Nat) (z19 : Nat) (z8 : Nat) (z9 : Nat) (z10 : Nat) (z11 : Nat) (z30 : Nat) (z31 : Nat) (z32 : Nat) (z33 : Nat) (z12 : Nat) (z34 : Nat) (z35 : Nat) (z36 : Nat) (z37 : Nat) (z38 : Nat) (z39 : Nat) (z40 : Nat) (z41 : Nat) (z42 : Nat) (z13 : Nat) (z14 : Nat) (z15 : Nat) (z16 : Nat) (z17 : Nat) (z18 : Nat) (z43 : Nat) (sz : Nat) : Met l yX12_passAt wsX12_passAt ({ frames := 1, cells := 0, slots := 0, locals := 23 }) (va_Pc [.ref h0, .int w, .int 3, .int 0] (wB D G sz [(h0, .inr (12, [.ref z0, .ref z1, .ref z2, .ref z3, .ref z4, .ref z5, .ref z20, .ref z21, .ref z22, .ref z23, .ref z24, .ref z25, .int 0, .ref z26, .ref z27, .ref z28, .int 9, .int 0, .int 0, .ref z6, .ref z29, .ref z7, .int 0, .int 2, .ref z19, .ref z8, .ref z9, .ref z10, .int 0, .ref z11, .int 0, .ref z30, .ref z31, .ref z32, .ref z33, .int 0, .ref z12, .int 0, .int 0, .ref z34, .ref z35, .ref z36, .ref z37, .int 0, .int 0, .int 0, .int 0, .ref z38, .int 0, .ref z39, .ref z40, .ref z41, .ref z42, .int 0, .ref z13, .ref z14, .ref z15, .ref z16, .int 0, .ref z17, .ref z18, .ref z43]))])) (va_Qi (fun (r : Int32) (_ : Unit) => r = 1 ∨ r = -1) (fun _ t => wS D G (va_A [(h0, .inr (12, [.ref z0, .ref z1, .ref z2, .ref z3, .ref z4, .ref z5, .ref z20, .ref z21, .ref z22, .ref z23, .ref z24, .ref z25, .int 0, .ref z26, .ref z27, .ref z28, .int 9, .int 0, .int 0, .ref z6, .ref z29, .ref z7, .int 0, .int 2, .ref z19, .ref z8, .ref z9, .ref z10, .int 0, .ref z11, .int 0, .ref z30, .ref z31, .ref z32, .ref z33, .int 0, .ref z12, .int 0, .int 0, .ref z34, .ref z35, .ref z36, .ref z37, .int 0, .int 0, .int 0, .int 0, .ref z38, .int 0, .ref z39, .ref z40, .ref z41, .ref z42, .int 0, .ref z13, .ref z14, .ref z15, .ref z16, .int 0, .ref z17, .ref z18, .ref z43]))] sz) [(h0, .inr (12, [.ref z0, .ref z1, .ref z2, .ref z3, .ref z4, .ref z5, .ref z20, .ref z21, .ref z22, .ref z23, .ref z24, .ref z25, .int 0, .ref z26, .ref z27, .ref z28, .int 9, .int 0, .int 0, .ref z6, .ref z29, .ref z7, .int 0, .int 2, .ref z19, .ref z8, .ref z9, .ref z10, .int 0, .ref z11, .int 0, .ref z30, .ref z31, .ref z32, .ref z33, .int 0, .ref z12, .int 0, .int 0, .ref z34, .ref z35, .ref z36, .ref z37, .int 0, .int 0, .int 0, .int 0, .ref z38, .int 0, .ref z39, .ref z40, .ref z41, .ref z42, .int 0, .ref z13, .ref z14, .ref z15, .ref z16, .int 0, .ref z17, .ref z18, .ref z43]))] t) (va_A [(h0, .inr (12, [.ref z0, .ref z1, .ref z2, .ref z3, .ref z4, .ref z5, .ref z20, .ref z21, .ref z22, .ref z23, .ref z24, .ref z25, .int 0, .ref z26, .ref z27, .ref z28, .int 9, .int 0, .int 0, .ref z6, .ref z29, .ref z7, .int 0, .int 2, .ref z19, .ref z8, .ref z9, .ref z10, .int 0, .ref z11, .int 0, .ref z30, .ref z31, .ref z32, .ref z33, .int 0, .ref z12, .int 0, .int 0, .ref z34, .ref z35, .ref z36, .ref z37, .int 0, .int 0, .int 0, .int 0, .ref z38, .int 0, .ref z39, .ref z40, .ref z41, .ref z42, .int 0, .ref z13, .ref z14, .ref z15, .ref z16, .int 0, .ref z17, .ref z18, .ref z43]))] sz)) 0 0 (va_A [(h0, .inr (12, [.ref z0, .ref z1, .ref z2, .ref z3, .ref z4, .ref z5, .ref z20, .ref z21, .ref z22, .ref z23, .ref z24, .ref z25, .int 0, .ref z26, .ref z27, .ref z28, .int 9, .int 0, .int 0, .ref z6, .ref z29, .ref z7, .int 0, .int 2, .ref z19, .ref z8, .ref z9, .ref z10, .int 0, .ref z11, .int 0, .ref z30, .ref z31, .ref z32, .ref z33, .int 0, .ref z12, .int 0, .int 0, .ref z34, .ref z35, .ref z36, .ref z37, .int 0, .int 0, .int 0, .int 0, .ref z38, .int 0, .ref z39, .ref z40, .ref z41, .ref z42, .int 0, .ref z13, .ref z14, .ref z15, .ref z16, .int 0, .ref z17, .ref z18, .ref z43]))] sz) := by
  refine Met.ofW (cc := cX12_passAt) (maxL := 4) (ret := (some .int)) (by decide) rfl ?_
  intro p e s m args below meth c s₁ B hml hv
  obtain ⟨rfl, hsz, hP, hK, hD0, hN⟩ := hv
  have hx := B.exec
  have hb := B.bytes
  have hr := B.returns
  have hts := atoms_spec (ws := wsX12_passAt) B.pre
  have hown : s.vm.findClass RX12 = some m.cls := findClass_of_methodNamed B.named
  have hlocks := B.notSynchronized
  subst hsz
  have hD := hD0.self (sz := s.heap.size)
  generalize hAe : va_A [(h0, .inr (12, [.ref z0, .ref z1, .ref z2, .ref z3, .ref z4, .ref z5, .ref z20, .ref z21, .ref z22, .ref z23, .ref z24, .ref z25, .int 0, .ref z26, .ref z27, .ref z28, .int 9, .int 0, .int 0, .ref z6, .ref z29, .ref z7, .int 0, .int 2, .ref z19, .ref z8, .ref z9, .ref z10, .int 0, .ref z11, .int 0, .ref z30, .ref z31, .ref z32, .ref z33, .int 0, .ref z12, .int 0, .int 0, .ref z34, .ref z35, .ref z36, .ref z37, .int 0, .int 0, .int 0, .int 0, .ref z38, .int 0, .ref z39, .ref z40, .ref z41, .ref z42, .int 0, .ref z13, .ref z14, .ref z15, .ref z16, .int 0, .ref z17, .ref z18, .ref z43]))] s.heap.size = A at hD ⊢
  have hA : ∀ q : Nat, s.heap.size ≤ q → A q := fun q h => by rw [← hAe]; exact Or.inr h
  have hS : va_S A s.heap s.heap [] := va_S.rf
  have hP : va_P D vwCl [(h0, .inr (12, [.ref z0, .ref z1, .ref z2, .ref z3, .ref z4, .ref z5, .ref z20, .ref z21, .ref z22, .ref z23, .ref z24, .ref z25, .int 0, .ref z26, .ref z27, .ref z28, .int 9, .int 0, .int 0, .ref z6, .ref z29, .ref z7, .int 0, .int 2, .ref z19, .ref z8, .ref z9, .ref z10, .int 0, .ref z11, .int 0, .ref z30, .ref z31, .ref z32, .ref z33, .int 0, .ref z12, .int 0, .int 0, .ref z34, .ref z35, .ref z36, .ref z37, .int 0, .int 0, .int 0, .int 0, .ref z38, .int 0, .ref z39, .ref z40, .ref z41, .ref z42, .int 0, .ref z13, .ref z14, .ref z15, .ref z16, .int 0, .ref z17, .ref z18, .ref z43]))] s.heap := hP
  have hl := lv_entry ([.ref h0, .int w, .int 3, .int 0]) (n := 4) (Nat.le_of_ble_eq_true rfl)
  rw [lg_entry_eq]
  generalize (lg_sl ([.ref h0, .int w, .int 3, .int 0]) ++ List.replicate (4 - (lg_sl ([.ref h0, .int w, .int 3, .int 0])).length) Slot.unset).toArray = ls at hl ⊢
  have hl : lv_has ls 4 [(0, .ref h0), (1, .int w), (2, .int 3), (3, .int 0)] := hl
  refine lv_iload_n hx hb dX12_passAt_0 rfl (lv_at hl 1 rfl) ?_
  refine lv_aload_n hx hb dX12_passAt_1 rfl (lv_at hl 0 rfl) ?_
  have hPc := hP.sub (ws' := [(h0, .inr (12, [.ref z0, .ref z1, .ref z2, .ref z3, .ref z4, .ref z5, .ref z20, .ref z21, .ref z22, .ref z23, .ref z24, .ref z25, .int 0, .ref z26, .ref z27, .ref z28, .int 9, .int 0, .int 0, .ref z6, .ref z29, .ref z7, .int 0, .int 2, .ref z19, .ref z8, .ref z9, .ref z10, .int 0, .ref z11, .int 0, .ref z30, .ref z31, .ref z32, .ref z33, .int 0, .ref z12, .int 0, .int 0, .ref z34, .ref z35, .ref z36, .ref z37, .int 0, .int 0, .int 0, .int 0, .ref z38, .int 0, .ref z39, .ref z40, .ref z41, .ref z42, .int 0, .ref z13, .ref z14, .ref z15, .ref z16, .int 0, .ref z17, .ref z18, .ref z43]))]) [0] rfl
  have hDc := hD.sub (ws' := [(h0, .inr (12, [.ref z0, .ref z1, .ref z2, .ref z3, .ref z4, .ref z5, .ref z20, .ref z21, .ref z22, .ref z23, .ref z24, .ref z25, .int 0, .ref z26, .ref z27, .ref z28, .int 9, .int 0, .int 0, .ref z6, .ref z29, .ref z7, .int 0, .int 2, .ref z19, .ref z8, .ref z9, .ref z10, .int 0, .ref z11, .int 0, .ref z30, .ref z31, .ref z32, .ref z33, .int 0, .ref z12, .int 0, .int 0, .ref z34, .ref z35, .ref z36, .ref z37, .int 0, .int 0, .int 0, .int 0, .ref z38, .int 0, .ref z39, .ref z40, .ref z41, .ref z42, .int 0, .ref z13, .ref z14, .ref z15, .ref z16, .int 0, .ref z17, .ref z18, .ref z43]))]) [0] (by decide) rfl
  have hFc := va_free (wc := [(h0, .inr (12, [.ref z0, .ref z1, .ref z2, .ref z3, .ref z4, .ref z5, .ref z20, .ref z21, .ref z22, .ref z23, .ref z24, .ref z25, .int 0, .ref z26, .ref z27, .ref z28, .int 9, .int 0, .int 0, .ref z6, .ref z29, .ref z7, .int 0, .int 2, .ref z19, .ref z8, .ref z9, .ref z10, .int 0, .ref z11, .int 0, .ref z30, .ref z31, .ref z32, .ref z33, .int 0, .ref z12, .int 0, .int 0, .ref z34, .ref z35, .ref z36, .ref z37, .int 0, .int 0, .int 0, .int 0, .ref z38, .int 0, .ref z39, .ref z40, .ref z41, .ref z42, .int 0, .ref z13, .ref z14, .ref z15, .ref z16, .int 0, .ref z17, .ref z18, .ref z43]))]) hD hS hA [0] rfl
  refine va_calli (va_runV (As := []) (rest := [.int w]) ⟨hx, hb, hml, hown, hts⟩ (kX12_gens l D G h0 z0 z1 z2 z3 z4 z5 z20 z21 z22 z23 z24 z25 z26 z27 z28 z6 z29 z7 z19 z8 z9 z10 z11 z30 z31 z32 z33 z12 z34 z35 z36 z37 z38 z39 z40 z41 z42 z13 z14 z15 z16 z17 z18 z43 0 s.heap.size) (cwV 0 hts gX12_passAt_X12_gens rfl rfl rfl (by decide +kernel) ⟨Nat.le_of_ble_eq_true rfl, Nat.le_of_ble_eq_true rfl⟩) ⟨wB_blind, va_recv hK hPc (ci := 12) (q0 := 0) rfl rfl, wB_pre hPc hK hDc hN⟩ rfl rfl hl.1 rfl (lv_room (Nat.le_of_ble_eq_true rfl)) dX12_passAt_2 ⟨Nat.le_of_ble_eq_true rfl, Nat.le_of_ble_eq_true rfl⟩) hS (fun q _ h => hFc q h) hFc (fun r1 u t H1 locs ht hvm hr1 hB hz1 hk1 hS => ?_)
  obtain ⟨hP1, hK1, hD1⟩ := hB
  rw [ht] at hP1
  obtain ⟨hP, hD⟩ := va_join (wr := []) (w1 := [(h0, .inr (12, [.ref z0, .ref z1, .ref z2, .ref z3, .ref z4, .ref z5, .ref z20, .ref z21, .ref z22, .ref z23, .ref z24, .ref z25, .int 0, .ref z26, .ref z27, .ref z28, .int 9, .int 0, .int 0, .ref z6, .ref z29, .ref z7, .int 0, .int 2, .ref z19, .ref z8, .ref z9, .ref z10, .int 0, .ref z11, .int 0, .ref z30, .ref z31, .ref z32, .ref z33, .int 0, .ref z12, .int 0, .int 0, .ref z34, .ref z35, .ref z36, .ref z37, .int 0, .int 0, .int 0, .int 0, .ref z38, .int 0, .ref z39, .ref z40, .ref z41, .ref z42, .int 0, .ref z13, .ref z14, .ref z15, .ref z16, .int 0, .ref z17, .ref z18, .ref z43]))]) hP hD [0] [] rfl rfl (by decide) (by decide) hk1 hFc hP1 hD1
  clear hPc hDc
  generalize H1 = H at hP hS ⊢
  have hP : va_P D vwCl [(h0, .inr (12, [.ref z0, .ref z1, .ref z2, .ref z3, .ref z4, .ref z5, .ref z20, .ref z21, .ref z22, .ref z23, .ref z24, .ref z25, .int 0, .ref z26, .ref z27, .ref z28, .int 9, .int 0, .int 0, .ref z6, .ref z29, .ref z7, .int 0, .int 2, .ref z19, .ref z8, .ref z9, .ref z10, .int 0, .ref z11, .int 0, .ref z30, .ref z31, .ref z32, .ref z33, .int 0, .ref z12, .int 0, .int 0, .ref z34, .ref z35, .ref z36, .ref z37, .int 0, .int 0, .int 0, .int 0, .ref z38, .int 0, .ref z39, .ref z40, .ref z41, .ref z42, .int 0, .ref z13, .ref z14, .ref z15, .ref z16, .int 0, .ref z17, .ref z18, .ref z43]))] H := hP
  have hD : va_D A [(h0, .inr (12, [.ref z0, .ref z1, .ref z2, .ref z3, .ref z4, .ref z5, .ref z20, .ref z21, .ref z22, .ref z23, .ref z24, .ref z25, .int 0, .ref z26, .ref z27, .ref z28, .int 9, .int 0, .int 0, .ref z6, .ref z29, .ref z7, .int 0, .int 2, .ref z19, .ref z8, .ref z9, .ref z10, .int 0, .ref z11, .int 0, .ref z30, .ref z31, .ref z32, .ref z33, .int 0, .ref z12, .int 0, .int 0, .ref z34, .ref z35, .ref z36, .ref z37, .int 0, .int 0, .int 0, .int 0, .ref z38, .int 0, .ref z39, .ref z40, .ref z41, .ref z42, .int 0, .ref z13, .ref z14, .ref z15, .ref z16, .int 0, .ref z17, .ref z18, .ref z43]))] := hD
  subst hr1
  refine lv_iload_n hx hb dX12_passAt_5 rfl (lv_at hl 2 rfl) ?_
  refine lv_iconst (v := 1) hx hb dX12_passAt_6 (by decide) ?_
  refine lv_isub hx hb dX12_passAt_7 ?_
  refine wk_i 2 (by decide) ?_
  refine lv_iload_n hx hb dX12_passAt_8 rfl (lv_at hl 3 rfl) ?_
  refine lv_isub hx hb dX12_passAt_9 ?_
  refine wk_i 2 (by decide) ?_
  have hPc := hP.sub (ws' := []) [] rfl
  have hDc := hD.sub (ws' := []) [] (by decide) rfl
  have hFc := va_free (wc := []) hD hS hA [] rfl
  refine va_calli (va_runS (As := [.int 2, .int 2]) (rest := [.int w]) ⟨hx, hb, hml, hown, hts⟩ (kX12_power_2 l D G  H.size) (va_cwS 2 hts gX12_passAt_X12_power rfl rfl rfl (by decide +kernel) ⟨Nat.le_of_ble_eq_true rfl, Nat.le_of_ble_eq_true rfl⟩) ⟨wB_blind, wB_pre hPc hK hDc hN⟩ rfl rfl hl.1 rfl (lv_room (Nat.le_of_ble_eq_true rfl)) dX12_passAt_10 ⟨Nat.le_of_ble_eq_true rfl, Nat.le_of_ble_eq_true rfl⟩) hS (fun q _ h => hFc q h) hFc (fun r2 u t H1 locs ht hvm hr2 hB hz1 hk1 hS => ?_)
  obtain ⟨hP, hD⟩ := va_join (wr := [(h0, .inr (12, [.ref z0, .ref z1, .ref z2, .ref z3, .ref z4, .ref z5, .ref z20, .ref z21, .ref z22, .ref z23, .ref z24, .ref z25, .int 0, .ref z26, .ref z27, .ref z28, .int 9, .int 0, .int 0, .ref z6, .ref z29, .ref z7, .int 0, .int 2, .ref z19, .ref z8, .ref z9, .ref z10, .int 0, .ref z11, .int 0, .ref z30, .ref z31, .ref z32, .ref z33, .int 0, .ref z12, .int 0, .int 0, .ref z34, .ref z35, .ref z36, .ref z37, .int 0, .int 0, .int 0, .int 0, .ref z38, .int 0, .ref z39, .ref z40, .ref z41, .ref z42, .int 0, .ref z13, .ref z14, .ref z15, .ref z16, .int 0, .ref z17, .ref z18, .ref z43]))]) (w1 := []) hP hD [] [0] rfl rfl (by decide) (by decide) hk1 hFc wP_nil wD_nil
  clear hPc hDc
  generalize H1 = H at hP hS ⊢
  have hP : va_P D vwCl [(h0, .inr (12, [.ref z0, .ref z1, .ref z2, .ref z3, .ref z4, .ref z5, .ref z20, .ref z21, .ref z22, .ref z23, .ref z24, .ref z25, .int 0, .ref z26, .ref z27, .ref z28, .int 9, .int 0, .int 0, .ref z6, .ref z29, .ref z7, .int 0, .int 2, .ref z19, .ref z8, .ref z9, .ref z10, .int 0, .ref z11, .int 0, .ref z30, .ref z31, .ref z32, .ref z33, .int 0, .ref z12, .int 0, .int 0, .ref z34, .ref z35, .ref z36, .ref z37, .int 0, .int 0, .int 0, .int 0, .ref z38, .int 0, .ref z39, .ref z40, .ref z41, .ref z42, .int 0, .ref z13, .ref z14, .ref z15, .ref z16, .int 0, .ref z17, .ref z18, .ref z43]))] H := hP
  have hD : va_D A [(h0, .inr (12, [.ref z0, .ref z1, .ref z2, .ref z3, .ref z4, .ref z5, .ref z20, .ref z21, .ref z22, .ref z23, .ref z24, .ref z25, .int 0, .ref z26, .ref z27, .ref z28, .int 9, .int 0, .int 0, .ref z6, .ref z29, .ref z7, .int 0, .int 2, .ref z19, .ref z8, .ref z9, .ref z10, .int 0, .ref z11, .int 0, .ref z30, .ref z31, .ref z32, .ref z33, .int 0, .ref z12, .int 0, .int 0, .ref z34, .ref z35, .ref z36, .ref z37, .int 0, .int 0, .int 0, .int 0, .ref z38, .int 0, .ref z39, .ref z40, .ref z41, .ref z42, .int 0, .ref z13, .ref z14, .ref z15, .ref z16, .int 0, .ref z17, .ref z18, .ref z43]))] := hD
  subst hr2
  refine lv_idiv hx hb dX12_passAt_13 (by decide) ?_
  refine lv_topi (fun v3 ev3 => ?_)
  refine lv_aload_n hx hb dX12_passAt_14 rfl (lv_at hl 0 rfl) ?_
  have hPc := hP.sub (ws' := [(h0, .inr (12, [.ref z0, .ref z1, .ref z2, .ref z3, .ref z4, .ref z5, .ref z20, .ref z21, .ref z22, .ref z23, .ref z24, .ref z25, .int 0, .ref z26, .ref z27, .ref z28, .int 9, .int 0, .int 0, .ref z6, .ref z29, .ref z7, .int 0, .int 2, .ref z19, .ref z8, .ref z9, .ref z10, .int 0, .ref z11, .int 0, .ref z30, .ref z31, .ref z32, .ref z33, .int 0, .ref z12, .int 0, .int 0, .ref z34, .ref z35, .ref z36, .ref z37, .int 0, .int 0, .int 0, .int 0, .ref z38, .int 0, .ref z39, .ref z40, .ref z41, .ref z42, .int 0, .ref z13, .ref z14, .ref z15, .ref z16, .int 0, .ref z17, .ref z18, .ref z43]))]) [0] rfl
  have hDc := hD.sub (ws' := [(h0, .inr (12, [.ref z0, .ref z1, .ref z2, .ref z3, .ref z4, .ref z5, .ref z20, .ref z21, .ref z22, .ref z23, .ref z24, .ref z25, .int 0, .ref z26, .ref z27, .ref z28, .int 9, .int 0, .int 0, .ref z6, .ref z29, .ref z7, .int 0, .int 2, .ref z19, .ref z8, .ref z9, .ref z10, .int 0, .ref z11, .int 0, .ref z30, .ref z31, .ref z32, .ref z33, .int 0, .ref z12, .int 0, .int 0, .ref z34, .ref z35, .ref z36, .ref z37, .int 0, .int 0, .int 0, .int 0, .ref z38, .int 0, .ref z39, .ref z40, .ref z41, .ref z42, .int 0, .ref z13, .ref z14, .ref z15, .ref z16, .int 0, .ref z17, .ref z18, .ref z43]))]) [0] (by decide) rfl
  have hFc := va_free (wc := [(h0, .inr (12, [.ref z0, .ref z1, .ref z2, .ref z3, .ref z4, .ref z5, .ref z20, .ref z21, .ref z22, .ref z23, .ref z24, .ref z25, .int 0, .ref z26, .ref z27, .ref z28, .int 9, .int 0, .int 0, .ref z6, .ref z29, .ref z7, .int 0, .int 2, .ref z19, .ref z8, .ref z9, .ref z10, .int 0, .ref z11, .int 0, .ref z30, .ref z31, .ref z32, .ref z33, .int 0, .ref z12, .int 0, .int 0, .ref z34, .ref z35, .ref z36, .ref z37, .int 0, .int 0, .int 0, .int 0, .ref z38, .int 0, .ref z39, .ref z40, .ref z41, .ref z42, .int 0, .ref z13, .ref z14, .ref z15, .ref z16, .int 0, .ref z17, .ref z18, .ref z43]))]) hD hS hA [0] rfl
  refine va_calli (va_runV (As := []) (rest := [.int v3]) ⟨hx, hb, hml, hown, hts⟩ (kX12_gens l D G h0 z0 z1 z2 z3 z4 z5 z20 z21 z22 z23 z24 z25 z26 z27 z28 z6 z29 z7 z19 z8 z9 z10 z11 z30 z31 z32 z33 z12 z34 z35 z36 z37 z38 z39 z40 z41 z42 z13 z14 z15 z16 z17 z18 z43 0 H.size) (cwV 0 hts gX12_passAt_X12_gens rfl rfl rfl (by decide +kernel) ⟨Nat.le_of_ble_eq_true rfl, Nat.le_of_ble_eq_true rfl⟩) ⟨wB_blind, va_recv hK hPc (ci := 12) (q0 := 0) rfl rfl, wB_pre hPc hK hDc hN⟩ rfl rfl hl.1 rfl (lv_room (Nat.le_of_ble_eq_true rfl)) dX12_passAt_15 ⟨Nat.le_of_ble_eq_true rfl, Nat.le_of_ble_eq_true rfl⟩) hS (fun q _ h => hFc q h) hFc (fun r4 u t H1 locs ht hvm hr4 hB hz1 hk1 hS => ?_)
  obtain ⟨hP1, hK1, hD1⟩ := hB
  rw [ht] at hP1
  obtain ⟨hP, hD⟩ := va_join (wr := []) (w1 := [(h0, .inr (12, [.ref z0, .ref z1, .ref z2, .ref z3, .ref z4, .ref z5, .ref z20, .ref z21, .ref z22, .ref z23, .ref z24, .ref z25, .int 0, .ref z26, .ref z27, .ref z28, .int 9, .int 0, .int 0, .ref z6, .ref z29, .ref z7, .int 0, .int 2, .ref z19, .ref z8, .ref z9, .ref z10, .int 0, .ref z11, .int 0, .ref z30, .ref z31, .ref z32, .ref z33, .int 0, .ref z12, .int 0, .int 0, .ref z34, .ref z35, .ref z36, .ref z37, .int 0, .int 0, .int 0, .int 0, .ref z38, .int 0, .ref z39, .ref z40, .ref z41, .ref z42, .int 0, .ref z13, .ref z14, .ref z15, .ref z16, .int 0, .ref z17, .ref z18, .ref z43]))]) hP hD [0] [] rfl rfl (by decide) (by decide) hk1 hFc hP1 hD1
  clear hPc hDc
  generalize H1 = H at hP hS ⊢
  have hP : va_P D vwCl [(h0, .inr (12, [.ref z0, .ref z1, .ref z2, .ref z3, .ref z4, .ref z5, .ref z20, .ref z21, .ref z22, .ref z23, .ref z24, .ref z25, .int 0, .ref z26, .ref z27, .ref z28, .int 9, .int 0, .int 0, .ref z6, .ref z29, .ref z7, .int 0, .int 2, .ref z19, .ref z8, .ref z9, .ref z10, .int 0, .ref z11, .int 0, .ref z30, .ref z31, .ref z32, .ref z33, .int 0, .ref z12, .int 0, .int 0, .ref z34, .ref z35, .ref z36, .ref z37, .int 0, .int 0, .int 0, .int 0, .ref z38, .int 0, .ref z39, .ref z40, .ref z41, .ref z42, .int 0, .ref z13, .ref z14, .ref z15, .ref z16, .int 0, .ref z17, .ref z18, .ref z43]))] H := hP
  have hD : va_D A [(h0, .inr (12, [.ref z0, .ref z1, .ref z2, .ref z3, .ref z4, .ref z5, .ref z20, .ref z21, .ref z22, .ref z23, .ref z24, .ref z25, .int 0, .ref z26, .ref z27, .ref z28, .int 9, .int 0, .int 0, .ref z6, .ref z29, .ref z7, .int 0, .int 2, .ref z19, .ref z8, .ref z9, .ref z10, .int 0, .ref z11, .int 0, .ref z30, .ref z31, .ref z32, .ref z33, .int 0, .ref z12, .int 0, .int 0, .ref z34, .ref z35, .ref z36, .ref z37, .int 0, .int 0, .int 0, .int 0, .ref z38, .int 0, .ref z39, .ref z40, .ref z41, .ref z42, .int 0, .ref z13, .ref z14, .ref z15, .ref z16, .int 0, .ref z17, .ref z18, .ref z43]))] := hD
  subst hr4
  refine lv_irem hx hb dX12_passAt_18 (by decide) ?_
  refine lv_topi (fun vq evq => ?_)
  rcases (wk_rem2 evq) with rfl | rfl | rfl
  · have hPc := hP.sub (ws' := []) [] rfl
    have hDc := hD.sub (ws' := []) [] (by decide) rfl
    have hFc := va_free (wc := []) hD hS hA [] rfl
    refine va_calli (va_runS (As := [.int 0]) (rest := []) ⟨hx, hb, hml, hown, hts⟩ (kX12_passOf_0 l D G  H.size) (va_cwS 1 hts gX12_passAt_X12_passOf rfl rfl rfl (by decide +kernel) ⟨Nat.le_of_ble_eq_true rfl, Nat.le_of_ble_eq_true rfl⟩) ⟨wB_blind, wB_pre hPc hK hDc hN⟩ rfl rfl hl.1 rfl (lv_room (Nat.le_of_ble_eq_true rfl)) dX12_passAt_19 ⟨Nat.le_of_ble_eq_true rfl, Nat.le_of_ble_eq_true rfl⟩) hS (fun q _ h => hFc q h) hFc (fun r5 u t H1 locs ht hvm hr5 hB hz1 hk1 hS => ?_)
    obtain ⟨hP, hD⟩ := va_join (wr := [(h0, .inr (12, [.ref z0, .ref z1, .ref z2, .ref z3, .ref z4, .ref z5, .ref z20, .ref z21, .ref z22, .ref z23, .ref z24, .ref z25, .int 0, .ref z26, .ref z27, .ref z28, .int 9, .int 0, .int 0, .ref z6, .ref z29, .ref z7, .int 0, .int 2, .ref z19, .ref z8, .ref z9, .ref z10, .int 0, .ref z11, .int 0, .ref z30, .ref z31, .ref z32, .ref z33, .int 0, .ref z12, .int 0, .int 0, .ref z34, .ref z35, .ref z36, .ref z37, .int 0, .int 0, .int 0, .int 0, .ref z38, .int 0, .ref z39, .ref z40, .ref z41, .ref z42, .int 0, .ref z13, .ref z14, .ref z15, .ref z16, .int 0, .ref z17, .ref z18, .ref z43]))]) (w1 := []) hP hD [] [0] rfl rfl (by decide) (by decide) hk1 hFc wP_nil wD_nil
    clear hPc hDc
    generalize H1 = H at hP hS ⊢
    have hP : va_P D vwCl [(h0, .inr (12, [.ref z0, .ref z1, .ref z2, .ref z3, .ref z4, .ref z5, .ref z20, .ref z21, .ref z22, .ref z23, .ref z24, .ref z25, .int 0, .ref z26, .ref z27, .ref z28, .int 9, .int 0, .int 0, .ref z6, .ref z29, .ref z7, .int 0, .int 2, .ref z19, .ref z8, .ref z9, .ref z10, .int 0, .ref z11, .int 0, .ref z30, .ref z31, .ref z32, .ref z33, .int 0, .ref z12, .int 0, .int 0, .ref z34, .ref z35, .ref z36, .ref z37, .int 0, .int 0, .int 0, .int 0, .ref z38, .int 0, .ref z39, .ref z40, .ref z41, .ref z42, .int 0, .ref z13, .ref z14, .ref z15, .ref z16, .int 0, .ref z17, .ref z18, .ref z43]))] H := hP
    have hD : va_D A [(h0, .inr (12, [.ref z0, .ref z1, .ref z2, .ref z3, .ref z4, .ref z5, .ref z20, .ref z21, .ref z22, .ref z23, .ref z24, .ref z25, .int 0, .ref z26, .ref z27, .ref z28, .int 9, .int 0, .int 0, .ref z6, .ref z29, .ref z7, .int 0, .int 2, .ref z19, .ref z8, .ref z9, .ref z10, .int 0, .ref z11, .int 0, .ref z30, .ref z31, .ref z32, .ref z33, .int 0, .ref z12, .int 0, .int 0, .ref z34, .ref z35, .ref z36, .ref z37, .int 0, .int 0, .int 0, .int 0, .ref z38, .int 0, .ref z39, .ref z40, .ref z41, .ref z42, .int 0, .ref z13, .ref z14, .ref z15, .ref z16, .int 0, .ref z17, .ref z18, .ref z43]))] := hD
    subst hr5
    have hP9 := hP.sub (ws' := [(h0, .inr (12, [.ref z0, .ref z1, .ref z2, .ref z3, .ref z4, .ref z5, .ref z20, .ref z21, .ref z22, .ref z23, .ref z24, .ref z25, .int 0, .ref z26, .ref z27, .ref z28, .int 9, .int 0, .int 0, .ref z6, .ref z29, .ref z7, .int 0, .int 2, .ref z19, .ref z8, .ref z9, .ref z10, .int 0, .ref z11, .int 0, .ref z30, .ref z31, .ref z32, .ref z33, .int 0, .ref z12, .int 0, .int 0, .ref z34, .ref z35, .ref z36, .ref z37, .int 0, .int 0, .int 0, .int 0, .ref z38, .int 0, .ref z39, .ref z40, .ref z41, .ref z42, .int 0, .ref z13, .ref z14, .ref z15, .ref z16, .int 0, .ref z17, .ref z18, .ref z43]))]) [0] rfl
    have hD9 := hD.sub (ws' := [(h0, .inr (12, [.ref z0, .ref z1, .ref z2, .ref z3, .ref z4, .ref z5, .ref z20, .ref z21, .ref z22, .ref z23, .ref z24, .ref z25, .int 0, .ref z26, .ref z27, .ref z28, .int 9, .int 0, .int 0, .ref z6, .ref z29, .ref z7, .int 0, .int 2, .ref z19, .ref z8, .ref z9, .ref z10, .int 0, .ref z11, .int 0, .ref z30, .ref z31, .ref z32, .ref z33, .int 0, .ref z12, .int 0, .int 0, .ref z34, .ref z35, .ref z36, .ref z37, .int 0, .int 0, .int 0, .int 0, .ref z38, .int 0, .ref z39, .ref z40, .ref z41, .ref z42, .int 0, .ref z13, .ref z14, .ref z15, .ref z16, .int 0, .ref z17, .ref z18, .ref z43]))]) [0] (by decide) rfl
    exact W.iret (v := 1) hx hb hr (fun t ht hW => ⟨⟨1, (), rfl, by decide, ⟨by rw [ht]; exact hP9, va_K.moved hW.alike hK, hD9⟩⟩, hS.F ht⟩) hS.2.2 dX12_passAt_22
  · have hPc := hP.sub (ws' := []) [] rfl
    have hDc := hD.sub (ws' := []) [] (by decide) rfl
    have hFc := va_free (wc := []) hD hS hA [] rfl
    refine va_calli (va_runS (As := [.int 1]) (rest := []) ⟨hx, hb, hml, hown, hts⟩ (kX12_passOf_1 l D G  H.size) (va_cwS 1 hts gX12_passAt_X12_passOf rfl rfl rfl (by decide +kernel) ⟨Nat.le_of_ble_eq_true rfl, Nat.le_of_ble_eq_true rfl⟩) ⟨wB_blind, wB_pre hPc hK hDc hN⟩ rfl rfl hl.1 rfl (lv_room (Nat.le_of_ble_eq_true rfl)) dX12_passAt_19 ⟨Nat.le_of_ble_eq_true rfl, Nat.le_of_ble_eq_true rfl⟩) hS (fun q _ h => hFc q h) hFc (fun r6 u t H1 locs ht hvm hr6 hB hz1 hk1 hS => ?_)
    obtain ⟨hP, hD⟩ := va_join (wr := [(h0, .inr (12, [.ref z0, .ref z1, .ref z2, .ref z3, .ref z4, .ref z5, .ref z20, .ref z21, .ref z22, .ref z23, .ref z24, .ref z25, .int 0, .ref z26, .ref z27, .ref z28, .int 9, .int 0, .int 0, .ref z6, .ref z29, .ref z7, .int 0, .int 2, .ref z19, .ref z8, .ref z9, .ref z10, .int 0, .ref z11, .int 0, .ref z30, .ref z31, .ref z32, .ref z33, .int 0, .ref z12, .int 0, .int 0, .ref z34, .ref z35, .ref z36, .ref z37, .int 0, .int 0, .int 0, .int 0, .ref z38, .int 0, .ref z39, .ref z40, .ref z41, .ref z42, .int 0, .ref z13, .ref z14, .ref z15, .ref z16, .int 0, .ref z17, .ref z18, .ref z43]))]) (w1 := []) hP hD [] [0] rfl rfl (by decide) (by decide) hk1 hFc wP_nil wD_nil
    clear hPc hDc
    generalize H1 = H at hP hS ⊢
    have hP : va_P D vwCl [(h0, .inr (12, [.ref z0, .ref z1, .ref z2, .ref z3, .ref z4, .ref z5, .ref z20, .ref z21, .ref z22, .ref z23, .ref z24, .ref z25, .int 0, .ref z26, .ref z27, .ref z28, .int 9, .int 0, .int 0, .ref z6, .ref z29, .ref z7, .int 0, .int 2, .ref z19, .ref z8, .ref z9, .ref z10, .int 0, .ref z11, .int 0, .ref z30, .ref z31, .ref z32, .ref z33, .int 0, .ref z12, .int 0, .int 0, .ref z34, .ref z35, .ref z36, .ref z37, .int 0, .int 0, .int 0, .int 0, .ref z38, .int 0, .ref z39, .ref z40, .ref z41, .ref z42, .int 0, .ref z13, .ref z14, .ref z15, .ref z16, .int 0, .ref z17, .ref z18, .ref z43]))] H := hP
    have hD : va_D A [(h0, .inr (12, [.ref z0, .ref z1, .ref z2, .ref z3, .ref z4, .ref z5, .ref z20, .ref z21, .ref z22, .ref z23, .ref z24, .ref z25, .int 0, .ref z26, .ref z27, .ref z28, .int 9, .int 0, .int 0, .ref z6, .ref z29, .ref z7, .int 0, .int 2, .ref z19, .ref z8, .ref z9, .ref z10, .int 0, .ref z11, .int 0, .ref z30, .ref z31, .ref z32, .ref z33, .int 0, .ref z12, .int 0, .int 0, .ref z34, .ref z35, .ref z36, .ref z37, .int 0, .int 0, .int 0, .int 0, .ref z38, .int 0, .ref z39, .ref z40, .ref z41, .ref z42, .int 0, .ref z13, .ref z14, .ref z15, .ref z16, .int 0, .ref z17, .ref z18, .ref z43]))] := hD
    subst hr6
    have hP9 := hP.sub (ws' := [(h0, .inr (12, [.ref z0, .ref z1, .ref z2, .ref z3, .ref z4, .ref z5, .ref z20, .ref z21, .ref z22, .ref z23, .ref z24, .ref z25, .int 0, .ref z26, .ref z27, .ref z28, .int 9, .int 0, .int 0, .ref z6, .ref z29, .ref z7, .int 0, .int 2, .ref z19, .ref z8, .ref z9, .ref z10, .int 0, .ref z11, .int 0, .ref z30, .ref z31, .ref z32, .ref z33, .int 0, .ref z12, .int 0, .int 0, .ref z34, .ref z35, .ref z36, .ref z37, .int 0, .int 0, .int 0, .int 0, .ref z38, .int 0, .ref z39, .ref z40, .ref z41, .ref z42, .int 0, .ref z13, .ref z14, .ref z15, .ref z16, .int 0, .ref z17, .ref z18, .ref z43]))]) [0] rfl
    have hD9 := hD.sub (ws' := [(h0, .inr (12, [.ref z0, .ref z1, .ref z2, .ref z3, .ref z4, .ref z5, .ref z20, .ref z21, .ref z22, .ref z23, .ref z24, .ref z25, .int 0, .ref z26, .ref z27, .ref z28, .int 9, .int 0, .int 0, .ref z6, .ref z29, .ref z7, .int 0, .int 2, .ref z19, .ref z8, .ref z9, .ref z10, .int 0, .ref z11, .int 0, .ref z30, .ref z31, .ref z32, .ref z33, .int 0, .ref z12, .int 0, .int 0, .ref z34, .ref z35, .ref z36, .ref z37, .int 0, .int 0, .int 0, .int 0, .ref z38, .int 0, .ref z39, .ref z40, .ref z41, .ref z42, .int 0, .ref z13, .ref z14, .ref z15, .ref z16, .int 0, .ref z17, .ref z18, .ref z43]))]) [0] (by decide) rfl
    exact W.iret (v := (-1)) hx hb hr (fun t ht hW => ⟨⟨(-1), (), rfl, by decide, ⟨by rw [ht]; exact hP9, va_K.moved hW.alike hK, hD9⟩⟩, hS.F ht⟩) hS.2.2 dX12_passAt_22
  · have hPc := hP.sub (ws' := []) [] rfl
    have hDc := hD.sub (ws' := []) [] (by decide) rfl
    have hFc := va_free (wc := []) hD hS hA [] rfl
    refine va_calli (va_runS (As := [.int (-1)]) (rest := []) ⟨hx, hb, hml, hown, hts⟩ (kX12_passOf_m l D G  H.size) (va_cwS 1 hts gX12_passAt_X12_passOf rfl rfl rfl (by decide +kernel) ⟨Nat.le_of_ble_eq_true rfl, Nat.le_of_ble_eq_true rfl⟩) ⟨wB_blind, wB_pre hPc hK hDc hN⟩ rfl rfl hl.1 rfl (lv_room (Nat.le_of_ble_eq_true rfl)) dX12_passAt_19 ⟨Nat.le_of_ble_eq_true rfl, Nat.le_of_ble_eq_true rfl⟩) hS (fun q _ h => hFc q h) hFc (fun r7 u t H1 locs ht hvm hr7 hB hz1 hk1 hS => ?_)
    obtain ⟨hP, hD⟩ := va_join (wr := [(h0, .inr (12, [.ref z0, .ref z1, .ref z2, .ref z3, .ref z4, .ref z5, .ref z20, .ref z21, .ref z22, .ref z23, .ref z24, .ref z25, .int 0, .ref z26, .ref z27, .ref z28, .int 9, .int 0, .int 0, .ref z6, .ref z29, .ref z7, .int 0, .int 2, .ref z19, .ref z8, .ref z9, .ref z10, .int 0, .ref z11, .int 0, .ref z30, .ref z31, .ref z32, .ref z33, .int 0, .ref z12, .int 0, .int 0, .ref z34, .ref z35, .ref z36, .ref z37, .int 0, .int 0, .int 0, .int 0, .ref z38, .int 0, .ref z39, .ref z40, .ref z41, .ref z42, .int 0, .ref z13, .ref z14, .ref z15, .ref z16, .int 0, .ref z17, .ref z18, .ref z43]))]) (w1 := []) hP hD [] [0] rfl rfl (by decide) (by decide) hk1 hFc wP_nil wD_nil
    clear hPc hDc
    generalize H1 = H at hP hS ⊢
    have hP : va_P D vwCl [(h0, .inr (12, [.ref z0, .ref z1, .ref z2, .ref z3, .ref z4, .ref z5, .ref z20, .ref z21, .ref z22, .ref z23, .ref z24, .ref z25, .int 0, .ref z26, .ref z27, .ref z28, .int 9, .int 0, .int 0, .ref z6, .ref z29, .ref z7, .int 0, .int 2, .ref z19, .ref z8, .ref z9, .ref z10, .int 0, .ref z11, .int 0, .ref z30, .ref z31, .ref z32, .ref z33, .int 0, .ref z12, .int 0, .int 0, .ref z34, .ref z35, .ref z36, .ref z37, .int 0, .int 0, .int 0, .int 0, .ref z38, .int 0, .ref z39, .ref z40, .ref z41, .ref z42, .int 0, .ref z13, .ref z14, .ref z15, .ref z16, .int 0, .ref z17, .ref z18, .ref z43]))] H := hP
    have hD : va_D A [(h0, .inr (12, [.ref z0, .ref z1, .ref z2, .ref z3, .ref z4, .ref z5, .ref z20, .ref z21, .ref z22, .ref z23, .ref z24, .ref z25, .int 0, .ref z26, .ref z27, .ref z28, .int 9, .int 0, .int 0, .ref z6, .ref z29, .ref z7, .int 0, .int 2, .ref z19, .ref z8, .ref z9, .ref z10, .int 0, .ref z11, .int 0, .ref z30, .ref z31, .ref z32, .ref z33, .int 0, .ref z12, .int 0, .int 0, .ref z34, .ref z35, .ref z36, .ref z37, .int 0, .int 0, .int 0, .int 0, .ref z38, .int 0, .ref z39, .ref z40, .ref z41, .ref z42, .int 0, .ref z13, .ref z14, .ref z15, .ref z16, .int 0, .ref z17, .ref z18, .ref z43]))] := hD
    subst hr7
    have hP9 := hP.sub (ws' := [(h0, .inr (12, [.ref z0, .ref z1, .ref z2, .ref z3, .ref z4, .ref z5, .ref z20, .ref z21, .ref z22, .ref z23, .ref z24, .ref z25, .int 0, .ref z26, .ref z27, .ref z28, .int 9, .int 0, .int 0, .ref z6, .ref z29, .ref z7, .int 0, .int 2, .ref z19, .ref z8, .ref z9, .ref z10, .int 0, .ref z11, .int 0, .ref z30, .ref z31, .ref z32, .ref z33, .int 0, .ref z12, .int 0, .int 0, .ref z34, .ref z35, .ref z36, .ref z37, .int 0, .int 0, .int 0, .int 0, .ref z38, .int 0, .ref z39, .ref z40, .ref z41, .ref z42, .int 0, .ref z13, .ref z14, .ref z15, .ref z16, .int 0, .ref z17, .ref z18, .ref z43]))]) [0] rfl
    have hD9 := hD.sub (ws' := [(h0, .inr (12, [.ref z0, .ref z1, .ref z2, .ref z3, .ref z4, .ref z5, .ref z20, .ref z21, .ref z22, .ref z23, .ref z24, .ref z25, .int 0, .ref z26, .ref z27, .ref z28, .int 9, .int 0, .int 0, .ref z6, .ref z29, .ref z7, .int 0, .int 2, .ref z19, .ref z8, .ref z9, .ref z10, .int 0, .ref z11, .int 0, .ref z30, .ref z31, .ref z32, .ref z33, .int 0, .ref z12, .int 0, .int 0, .ref z34, .ref z35, .ref z36, .ref z37, .int 0, .int 0, .int 0, .int 0, .ref z38, .int 0, .ref z39, .ref z40, .ref z41, .ref z42, .int 0, .ref z13, .ref z14, .ref z15, .ref z16, .int 0, .ref z17, .ref z18, .ref z43]))]) [0] (by decide) rfl
    exact W.iret (v := (-1)) hx hb hr (fun t ht hW => ⟨⟨(-1), (), rfl, by decide, ⟨by rw [ht]; exact hP9, va_K.moved hW.alike hK, hD9⟩⟩, hS.F ht⟩) hS.2.2 dX12_passAt_22

set_option maxHeartbeats 4000000 in
set_option maxRecDepth 100000 in
/-- X12_passAt -/
theorem kX12_passAt_s31 (l : Launch) (D : va_G) (G : tyG) (h0 : Nat) (w : Int32) (z0 : Nat) (z1 : Nat) (z2 : Nat) (z3 : Nat) (z4 : Nat) (z5 : Nat) (z20 : Nat) (z21 : Nat) (z22 : Nat) (z23 : Nat) (z24 : Nat) (z25 : Nat) (z26 : Nat) (z27 : Nat) (z28 : Nat) (z6 : Nat) (z29 : Nat) (z7 : Nat) (z19 : Nat) (z8 : Nat) (z9 : Nat) (z10 : Nat) (z11 : Nat) (z30 : Nat) (z31 : Nat) (z32 : Nat) (z33 : Nat) (z12 : Nat) (z34 : Nat) (z35 : Nat) (z36 : Nat) (z37 : Nat) (z38 : Nat) (z39 : Nat) (z40 : Nat) (z41 : Nat) (z42 : Nat) (z13 : Nat) (z14 : Nat) (z15 : Nat) (z16 : Nat) (z17 : Nat) (z18 : Nat) (z43 : Nat) (sz : Nat) : Met l yX12_passAt wsX12_passAt ({ frames := 1, cells := 0, slots := 0, locals := 23 }) (va_Pc [.ref h0, .int w, .int 3, .int 1] (wB D G sz [(h0, .inr (12, [.ref z0, .ref z1, .ref z2, .ref z3, .ref z4, .ref z5, .ref z20, .ref z21, .ref z22, .ref z23, .ref z24, .ref z25, .int 0, .ref z26, .ref z27, .ref z28, .int 9, .int 0, .int 0, .ref z6, .ref z29, .ref z7, .int 0, .int 2, .ref z19, .ref z8, .ref z9, .ref z10, .int 0, .ref z11, .int 0, .ref z30, .ref z31, .ref z32, .ref z33, .int 0, .ref z12, .int 0, .int 0, .ref z34, .ref z35, .ref z36, .ref z37, .int 0, .int 0, .int 0, .int 0, .ref z38, .int 0, .ref z39, .ref z40, .ref z41, .ref z42, .int 0, .ref z13, .ref z14, .ref z15, .ref z16, .int 0, .ref z17, .ref z18, .ref z43]))])) (va_Qi (fun (r : Int32) (_ : Unit) => r = 1 ∨ r = -1) (fun _ t => wS D G (va_A [(h0, .inr (12, [.ref z0, .ref z1, .ref z2, .ref z3, .ref z4, .ref z5, .ref z20, .ref z21, .ref z22, .ref z23, .ref z24, .ref z25, .int 0, .ref z26, .ref z27, .ref z28, .int 9, .int 0, .int 0, .ref z6, .ref z29, .ref z7, .int 0, .int 2, .ref z19, .ref z8, .ref z9, .ref z10, .int 0, .ref z11, .int 0, .ref z30, .ref z31, .ref z32, .ref z33, .int 0, .ref z12, .int 0, .int 0, .ref z34, .ref z35, .ref z36, .ref z37, .int 0, .int 0, .int 0, .int 0, .ref z38, .int 0, .ref z39, .ref z40, .ref z41, .ref z42, .int 0, .ref z13, .ref z14, .ref z15, .ref z16, .int 0, .ref z17, .ref z18, .ref z43]))] sz) [(h0, .inr (12, [.ref z0, .ref z1, .ref z2, .ref z3, .ref z4, .ref z5, .ref z20, .ref z21, .ref z22, .ref z23, .ref z24, .ref z25, .int 0, .ref z26, .ref z27, .ref z28, .int 9, .int 0, .int 0, .ref z6, .ref z29, .ref z7, .int 0, .int 2, .ref z19, .ref z8, .ref z9, .ref z10, .int 0, .ref z11, .int 0, .ref z30, .ref z31, .ref z32, .ref z33, .int 0, .ref z12, .int 0, .int 0, .ref z34, .ref z35, .ref z36, .ref z37, .int 0, .int 0, .int 0, .int 0, .ref z38, .int 0, .ref z39, .ref z40, .ref z41, .ref z42, .int 0, .ref z13, .ref z14, .ref z15, .ref z16, .int 0, .ref z17, .ref z18, .ref z43]))] t) (va_A [(h0, .inr (12, [.ref z0, .ref z1, .ref z2, .ref z3, .ref z4, .ref z5, .ref z20, .ref z21, .ref z22, .ref z23, .ref z24, .ref z25, .int 0, .ref z26, .ref z27, .ref z28, .int 9, .int 0, .int 0, .ref z6, .ref z29, .ref z7, .int 0, .int 2, .ref z19, .ref z8, .ref z9, .ref z10, .int 0, .ref z11, .int 0, .ref z30, .ref z31, .ref z32, .ref z33, .int 0, .ref z12, .int 0, .int 0, .ref z34, .ref z35, .ref z36, .ref z37, .int 0, .int 0, .int 0, .int 0, .ref z38, .int 0, .ref z39, .ref z40, .ref z41, .ref z42, .int 0, .ref z13, .ref z14, .ref z15, .ref z16, .int 0, .ref z17, .ref z18, .ref z43]))] sz)) 0 0 (va_A [(h0, .inr (12, [.ref z0, .ref z1, .ref z2, .ref z3, .ref z4, .ref z5, .ref z20, .ref z21, .ref z22, .ref z23, .ref z24, .ref z25, .int 0, .ref z26, .ref z27, .ref z28, .int 9, .int 0, .int 0, .ref z6, .ref z29, .ref z7, .int 0, .int 2, .ref z19, .ref z8, .ref z9, .ref z10, .int 0, .ref z11, .int 0, .ref z30, .ref z31, .ref z32, .ref z33, .int 0, .ref z12, .int 0, .int 0, .ref z34, .ref z35, .ref z36, .ref z37, .int 0, .int 0, .int 0, .int 0, .ref z38, .int 0, .ref z39, .ref z40, .ref z41, .ref z42, .int 0, .ref z13, .ref z14, .ref z15, .ref z16, .int 0, .ref z17, .ref z18, .ref z43]))] sz) := by
  refine Met.ofW (cc := cX12_passAt) (maxL := 4) (ret := (some .int)) (by decide) rfl ?_
  intro p e s m args below meth c s₁ B hml hv
  obtain ⟨rfl, hsz, hP, hK, hD0, hN⟩ := hv
  have hx := B.exec
  have hb := B.bytes
  have hr := B.returns
  have hts := atoms_spec (ws := wsX12_passAt) B.pre
  have hown : s.vm.findClass RX12 = some m.cls := findClass_of_methodNamed B.named
  have hlocks := B.notSynchronized
  subst hsz
  have hD := hD0.self (sz := s.heap.size)
  generalize hAe : va_A [(h0, .inr (12, [.ref z0, .ref z1, .ref z2, .ref z3, .ref z4, .ref z5, .ref z20, .ref z21, .ref z22, .ref z23, .ref z24, .ref z25, .int 0, .ref z26, .ref z27, .ref z28, .int 9, .int 0, .int 0, .ref z6, .ref z29, .ref z7, .int 0, .int 2, .ref z19, .ref z8, .ref z9, .ref z10, .int 0, .ref z11, .int 0, .ref z30, .ref z31, .ref z32, .ref z33, .int 0, .ref z12, .int 0, .int 0, .ref z34, .ref z35, .ref z36, .ref z37, .int 0, .int 0, .int 0, .int 0, .ref z38, .int 0, .ref z39, .ref z40, .ref z41, .ref z42, .int 0, .ref z13, .ref z14, .ref z15, .ref z16, .int 0, .ref z17, .ref z18, .ref z43]))] s.heap.size = A at hD ⊢
  have hA : ∀ q : Nat, s.heap.size ≤ q → A q := fun q h => by rw [← hAe]; exact Or.inr h
  have hS : va_S A s.heap s.heap [] := va_S.rf
  have hP : va_P D vwCl [(h0, .inr (12, [.ref z0, .ref z1, .ref z2, .ref z3, .ref z4, .ref z5, .ref z20, .ref z21, .ref z22, .ref z23, .ref z24, .ref z25, .int 0, .ref z26, .ref z27, .ref z28, .int 9, .int 0, .int 0, .ref z6, .ref z29, .ref z7, .int 0, .int 2, .ref z19, .ref z8, .ref z9, .ref z10, .int 0, .ref z11, .int 0, .ref z30, .ref z31, .ref z32, .ref z33, .int 0, .ref z12, .int 0, .int 0, .ref z34, .ref z35, .ref z36, .ref z37, .int 0, .int 0, .int 0, .int 0, .ref z38, .int 0, .ref z39, .ref z40, .ref z41, .ref z42, .int 0, .ref z13, .ref z14, .ref z15, .ref z16, .int 0, .ref z17, .ref z18, .ref z43]))] s.heap := hP
  have hl := lv_entry ([.ref h0, .int w, .int 3, .int 1]) (n := 4) (Nat.le_of_ble_eq_true rfl)
  rw [lg_entry_eq]
  generalize (lg_sl ([.ref h0, .int w, .int 3, .int 1]) ++ List.replicate (4 - (lg_sl ([.ref h0, .int w, .int 3, .int 1])).length) Slot.unset).toArray = ls at hl ⊢
  have hl : lv_has ls 4 [(0, .ref h0), (1, .int w), (2, .int 3), (3, .int 1)] := hl
  refine lv_iload_n hx hb dX12_passAt_0 rfl (lv_at hl 1 rfl) ?_
  refine lv_aload_n hx hb dX12_passAt_1 rfl (lv_at hl 0 rfl) ?_
  have hPc := hP.sub (ws' := [(h0, .inr (12, [.ref z0, .ref z1, .ref z2, .ref z3, .ref z4, .ref z5, .ref z20, .ref z21, .ref z22, .ref z23, .ref z24, .ref z25, .int 0, .ref z26, .ref z27, .ref z28, .int 9, .int 0, .int 0, .ref z6, .ref z29, .ref z7, .int 0, .int 2, .ref z19, .ref z8, .ref z9, .ref z10, .int 0, .ref z11, .int 0, .ref z30, .ref z31, .ref z32, .ref z33, .int 0, .ref z12, .int 0, .int 0, .ref z34, .ref z35, .ref z36, .ref z37, .int 0, .int 0, .int 0, .int 0, .ref z38, .int 0, .ref z39, .ref z40, .ref z41, .ref z42, .int 0, .ref z13, .ref z14, .ref z15, .ref z16, .int 0, .ref z17, .ref z18, .ref z43]))]) [0] rfl
  have hDc := hD.sub (ws' := [(h0, .inr (12, [.ref z0, .ref z1, .ref z2, .ref z3, .ref z4, .ref z5, .ref z20, .ref z21, .ref z22, .ref z23, .ref z24, .ref z25, .int 0, .ref z26, .ref z27, .ref z28, .int 9, .int 0, .int 0, .ref z6, .ref z29, .ref z7, .int 0, .int 2, .ref z19, .ref z8, .ref z9, .ref z10, .int 0, .ref z11, .int 0, .ref z30, .ref z31, .ref z32, .ref z33, .int 0, .ref z12, .int 0, .int 0, .ref z34, .ref z35, .ref z36, .ref z37, .int 0, .int 0, .int 0, .int 0, .ref z38, .int 0, .ref z39, .ref z40, .ref z41, .ref z42, .int 0, .ref z13, .ref z14, .ref z15, .ref z16, .int 0, .ref z17, .ref z18, .ref z43]))]) [0] (by decide) rfl
  have hFc := va_free (wc := [(h0, .inr (12, [.ref z0, .ref z1, .ref z2, .ref z3, .ref z4, .ref z5, .ref z20, .ref z21, .ref z22, .ref z23, .ref z24, .ref z25, .int 0, .ref z26, .ref z27, .ref z28, .int 9, .int 0, .int 0, .ref z6, .ref z29, .ref z7, .int 0, .int 2, .ref z19, .ref z8, .ref z9, .ref z10, .int 0, .ref z11, .int 0, .ref z30, .ref z31, .ref z32, .ref z33, .int 0, .ref z12, .int 0, .int 0, .ref z34, .ref z35, .ref z36, .ref z37, .int 0, .int 0, .int 0, .int 0, .ref z38, .int 0, .ref z39, .ref z40, .ref z41, .ref z42, .int 0, .ref z13, .ref z14, .ref z15, .ref z16, .int 0, .ref z17, .ref z18, .ref z43]))]) hD hS hA [0] rfl
  refine va_calli (va_runV (As := []) (rest := [.int w]) ⟨hx, hb, hml, hown, hts⟩ (kX12_gens l D G h0 z0 z1 z2 z3 z4 z5 z20 z21 z22 z23 z24 z25 z26 z27 z28 z6 z29 z7 z19 z8 z9 z10 z11 z30 z31 z32 z33 z12 z34 z35 z36 z37 z38 z39 z40 z41 z42 z13 z14 z15 z16 z17 z18 z43 0 s.heap.size) (cwV 0 hts gX12_passAt_X12_gens rfl rfl rfl (by decide +kernel) ⟨Nat.le_of_ble_eq_true rfl, Nat.le_of_ble_eq_true rfl⟩) ⟨wB_blind, va_recv hK hPc (ci := 12) (q0 := 0) rfl rfl, wB_pre hPc hK hDc hN⟩ rfl rfl hl.1 rfl (lv_room (Nat.le_of_ble_eq_true rfl)) dX12_passAt_2 ⟨Nat.le_of_ble_eq_true rfl, Nat.le_of_ble_eq_true rfl⟩) hS (fun q _ h => hFc q h) hFc (fun r1 u t H1 locs ht hvm hr1 hB hz1 hk1 hS => ?_)
  obtain ⟨hP1, hK1, hD1⟩ := hB
  rw [ht] at hP1
  obtain ⟨hP, hD⟩ := va_join (wr := []) (w1 := [(h0, .inr (12, [.ref z0, .ref z1, .ref z2, .ref z3, .ref z4, .ref z5, .ref z20, .ref z21, .ref z22, .ref z23, .ref z24, .ref z25, .int 0, .ref z26, .ref z27, .ref z28, .int 9, .int 0, .int 0, .ref z6, .ref z29, .ref z7, .int 0, .int 2, .ref z19, .ref z8, .ref z9, .ref z10, .int 0, .ref z11, .int 0, .ref z30, .ref z31, .ref z32, .ref z33, .int 0, .ref z12, .int 0, .int 0, .ref z34, .ref z35, .ref z36, .ref z37, .int 0, .int 0, .int 0, .int 0, .ref z38, .int 0, .ref z39, .ref z40, .ref z41, .ref z42, .int 0, .ref z13, .ref z14, .ref z15, .ref z16, .int 0, .ref z17, .ref z18, .ref z43]))]) hP hD [0] [] rfl rfl (by decide) (by decide) hk1 hFc hP1 hD1
  clear hPc hDc
  generalize H1 = H at hP hS ⊢
  have hP : va_P D vwCl [(h0, .inr (12, [.ref z0, .ref z1, .ref z2, .ref z3, .ref z4, .ref z5, .ref z20, .ref z21, .ref z22, .ref z23, .ref z24, .ref z25, .int 0, .ref z26, .ref z27, .ref z28, .int 9, .int 0, .int 0, .ref z6, .ref z29, .ref z7, .int 0, .int 2, .ref z19, .ref z8, .ref z9, .ref z10, .int 0, .ref z11, .int 0, .ref z30, .ref z31, .ref z32, .ref z33, .int 0, .ref z12, .int 0, .int 0, .ref z34, .ref z35, .ref z36, .ref z37, .int 0, .int 0, .int 0, .int 0, .ref z38, .int 0, .ref z39, .ref z40, .ref z41, .ref z42, .int 0, .ref z13, .ref z14, .ref z15, .ref z16, .int 0, .ref z17, .ref z18, .ref z43]))] H := hP
  have hD : va_D A [(h0, .inr (12, [.ref z0, .ref z1, .ref z2, .ref z3, .ref z4, .ref z5, .ref z20, .ref z21, .ref z22, .ref z23, .ref z24, .ref z25, .int 0, .ref z26, .ref z27, .ref z28, .int 9, .int 0, .int 0, .ref z6, .ref z29, .ref z7, .int 0, .int 2, .ref z19, .ref z8, .ref z9, .ref z10, .int 0, .ref z11, .int 0, .ref z30, .ref z31, .ref z32, .ref z33, .int 0, .ref z12, .int 0, .int 0, .ref z34, .ref z35, .ref z36, .ref z37, .int 0, .int 0, .int 0, .int 0, .ref z38, .int 0, .ref z39, .ref z40, .ref z41, .ref z42, .int 0, .ref z13, .ref z14, .ref z15, .ref z16, .int 0, .ref z17, .ref z18, .ref z43]))] := hD
  subst hr1
  refine lv_iload_n hx hb dX12_passAt_5 rfl (lv_at hl 2 rfl) ?_
  refine lv_iconst (v := 1) hx hb dX12_passAt_6 (by decide) ?_
  refine lv_isub hx hb dX12_passAt_7 ?_
  refine wk_i 2 (by decide) ?_
  refine lv_iload_n hx hb dX12_passAt_8 rfl (lv_at hl 3 rfl) ?_
  refine lv_isub hx hb dX12_passAt_9 ?_
  refine wk_i 1 (by decide) ?_
  have hPc := hP.sub (ws' := []) [] rfl
  have hDc := hD.sub (ws' := []) [] (by decide) rfl
  have hFc := va_free (wc := []) hD hS hA [] rfl
  refine va_calli (va_runS (As := [.int 2, .int 1]) (rest := [.int w]) ⟨hx, hb, hml, hown, hts⟩ (kX12_power_1 l D G  H.size) (va_cwS 2 hts gX12_passAt_X12_power rfl rfl rfl (by decide +kernel) ⟨Nat.le_of_ble_eq_true rfl, Nat.le_of_ble_eq_true rfl⟩) ⟨wB_blind, wB_pre hPc hK hDc hN⟩ rfl rfl hl.1 rfl (lv_room (Nat.le_of_ble_eq_true rfl)) dX12_passAt_10 ⟨Nat.le_of_ble_eq_true rfl, Nat.le_of_ble_eq_true rfl⟩) hS (fun q _ h => hFc q h) hFc (fun r2 u t H1 locs ht hvm hr2 hB hz1 hk1 hS => ?_)
  obtain ⟨hP, hD⟩ := va_join (wr := [(h0, .inr (12, [.ref z0, .ref z1, .ref z2, .ref z3, .ref z4, .ref z5, .ref z20, .ref z21, .ref z22, .ref z23, .ref z24, .ref z25, .int 0, .ref z26, .ref z27, .ref z28, .int 9, .int 0, .int 0, .ref z6, .ref z29, .ref z7, .int 0, .int 2, .ref z19, .ref z8, .ref z9, .ref z10, .int 0, .ref z11, .int 0, .ref z30, .ref z31, .ref z32, .ref z33, .int 0, .ref z12, .int 0, .int 0, .ref z34, .ref z35, .ref z36, .ref z37, .int 0, .int 0, .int 0, .int 0, .ref z38, .int 0, .ref z39, .ref z40, .ref z41, .ref z42, .int 0, .ref z13, .ref z14, .ref z15, .ref z16, .int 0, .ref z17, .ref z18, .ref z43]))]) (w1 := []) hP hD [] [0] rfl rfl (by decide) (by decide) hk1 hFc wP_nil wD_nil
  clear hPc hDc
  generalize H1 = H at hP hS ⊢
  have hP : va_P D vwCl [(h0, .inr (12, [.ref z0, .ref z1, .ref z2, .ref z3, .ref z4, .ref z5, .ref z20, .ref z21, .ref z22, .ref z23, .ref z24, .ref z25, .int 0, .ref z26, .ref z27, .ref z28, .int 9, .int 0, .int 0, .ref z6, .ref z29, .ref z7, .int 0, .int 2, .ref z19, .ref z8, .ref z9, .ref z10, .int 0, .ref z11, .int 0, .ref z30, .ref z31, .ref z32, .ref z33, .int 0, .ref z12, .int 0, .int 0, .ref z34, .ref z35, .ref z36, .ref z37, .int 0, .int 0, .int 0, .int 0, .ref z38, .int 0, .ref z39, .ref z40, .ref z41, .ref z42, .int 0, .ref z13, .ref z14, .ref z15, .ref z16, .int 0, .ref z17, .ref z18, .ref z43]))] H := hP
  have hD : va_D A [(h0, .inr (12, [.ref z0, .ref z1, .ref z2, .ref z3, .ref z4, .ref z5, .ref z20, .ref z21, .ref z22, .ref z23, .ref z24, .ref z25, .int 0, .ref z26, .ref z27, .ref z28, .int 9, .int 0, .int 0, .ref z6, .ref z29, .ref z7, .int 0, .int 2, .ref z19, .ref z8, .ref z9, .ref z10, .int 0, .ref z11, .int 0, .ref z30, .ref z31, .ref z32, .ref z33, .int 0, .ref z12, .int 0, .int 0, .ref z34, .ref z35, .ref z36, .ref z37, .int 0, .int 0, .int 0, .int 0, .ref z38, .int 0, .ref z39, .ref z40, .ref z41, .ref z42, .int 0, .ref z13, .ref z14, .ref z15, .ref z16, .int 0, .ref z17, .ref z18, .ref z43]))] := hD
  subst hr2
  refine lv_idiv hx hb dX12_passAt_13 (by decide) ?_
  refine lv_topi (fun v3 ev3 => ?_)
  refine lv_aload_n hx hb dX12_passAt_14 rfl (lv_at hl 0 rfl) ?_
  have hPc := hP.sub (ws' := [(h0, .inr (12, [.ref z0, .ref z1, .ref z2, .ref z3, .ref z4, .ref z5, .ref z20, .ref z21, .ref z22, .ref z23, .ref z24, .ref z25, .int 0, .ref z26, .ref z27, .ref z28, .int 9, .int 0, .int 0, .ref z6, .ref z29, .ref z7, .int 0, .int 2, .ref z19, .ref z8, .ref z9, .ref z10, .int 0, .ref z11, .int 0, .ref z30, .ref z31, .ref z32, .ref z33, .int 0, .ref z12, .int 0, .int 0, .ref z34, .ref z35, .ref z36, .ref z37, .int 0, .int 0, .int 0, .int 0, .ref z38, .int 0, .ref z39, .ref z40, .ref z41, .ref z42, .int 0, .ref z13, .ref z14, .ref z15, .ref z16, .int 0, .ref z17, .ref z18, .ref z43]))]) [0] rfl
  have hDc := hD.sub (ws' := [(h0, .inr (12, [.ref z0, .ref z1, .ref z2, .ref z3, .ref z4, .ref z5, .ref z20, .ref z21, .ref z22, .ref z23, .ref z24, .ref z25, .int 0, .ref z26, .ref z27, .ref z28, .int 9, .int 0, .int 0, .ref z6, .ref z29, .ref z7, .int 0, .int 2, .ref z19, .ref z8, .ref z9, .ref z10, .int 0, .ref z11, .int 0, .ref z30, .ref z31, .ref z32, .ref z33, .int 0, .ref z12, .int 0, .int 0, .ref z34, .ref z35, .ref z36, .ref z37, .int 0, .int 0, .int 0, .int 0, .ref z38, .int 0, .ref z39, .ref z40, .ref z41, .ref z42, .int 0, .ref z13, .ref z14, .ref z15, .ref z16, .int 0, .ref z17, .ref z18, .ref z43]))]) [0] (by decide) rfl
  have hFc := va_free (wc := [(h0, .inr (12, [.ref z0, .ref z1, .ref z2, .ref z3, .ref z4, .ref z5, .ref z20, .ref z21, .ref z22, .ref z23, .ref z24, .ref z25, .int 0, .ref z26, .ref z27, .ref z28, .int 9, .int 0, .int 0, .ref z6, .ref z29, .ref z7, .int 0, .int 2, .ref z19, .ref z8, .ref z9, .ref z10, .int 0, .ref z11, .int 0, .ref z30, .ref z31, .ref z32, .ref z33, .int 0, .ref z12, .int 0, .int 0, .ref z34, .ref z35, .ref z36, .ref z37, .int 0, .int 0, .int 0, .int 0, .ref z38, .int 0, .ref z39, .ref z40, .ref z41, .ref z42, .int 0, .ref z13, .ref z14, .ref z15, .ref z16, .int 0, .ref z17, .ref z18, .ref z43]))]) hD hS hA [0] rfl
  refine va_calli (va_runV (As := []) (rest := [.int v3]) ⟨hx, hb, hml, hown, hts⟩ (kX12_gens l D G h0 z0 z1 z2 z3 z4 z5 z20 z21 z22 z23 z24 z25 z26 z27 z28 z6 z29 z7 z19 z8 z9 z10 z11 z30 z31 z32 z33 z12 z34 z35 z36 z37 z38 z39 z40 z41 z42 z13 z14 z15 z16 z17 z18 z43 0 H.size) (cwV 0 hts gX12_passAt_X12_gens rfl rfl rfl (by decide +kernel) ⟨Nat.le_of_ble_eq_true rfl, Nat.le_of_ble_eq_true rfl⟩) ⟨wB_blind, va_recv hK hPc (ci := 12) (q0 := 0) rfl rfl, wB_pre hPc hK hDc hN⟩ rfl rfl hl.1 rfl (lv_room (Nat.le_of_ble_eq_true rfl)) dX12_passAt_15 ⟨Nat.le_of_ble_eq_true rfl, Nat.le_of_ble_eq_true rfl⟩) hS (fun q _ h => hFc q h) hFc (fun r4 u t H1 locs ht hvm hr4 hB hz1 hk1 hS => ?_)
  obtain ⟨hP1, hK1, hD1⟩ := hB
  rw [ht] at hP1
  obtain ⟨hP, hD⟩ := va_join (wr := []) (w1 := [(h0, .inr (12, [.ref z0, .ref z1, .ref z2, .ref z3, .ref z4, .ref z5, .ref z20, .ref z21, .ref z22, .ref z23, .ref z24, .ref z25, .int 0, .ref z26, .ref z27, .ref z28, .int 9, .int 0, .int 0, .ref z6, .ref z29, .ref z7, .int 0, .int 2, .ref z19, .ref z8, .ref z9, .ref z10, .int 0, .ref z11, .int 0, .ref z30, .ref z31, .ref z32, .ref z33, .int 0, .ref z12, .int 0, .int 0, .ref z34, .ref z35, .ref z36, .ref z37, .int 0, .int 0, .int 0, .int 0, .ref z38, .int 0, .ref z39, .ref z40, .ref z41, .ref z42, .int 0, .ref z13, .ref z14, .ref z15, .ref z16, .int 0, .ref z17, .ref z18, .ref z43]))]) hP hD [0] [] rfl rfl (by decide) (by decide) hk1 hFc hP1 hD1
  clear hPc hDc
  generalize H1 = H at hP hS ⊢
  have hP : va_P D vwCl [(h0, .inr (12, [.ref z0, .ref z1, .ref z2, .ref z3, .ref z4, .ref z5, .ref z20, .ref z21, .ref z22, .ref z23, .ref z24, .ref z25, .int 0, .ref z26, .ref z27, .ref z28, .int 9, .int 0, .int 0, .ref z6, .ref z29, .ref z7, .int 0, .int 2, .ref z19, .ref z8, .ref z9, .ref z10, .int 0, .ref z11, .int 0, .ref z30, .ref z31, .ref z32, .ref z33, .int 0, .ref z12, .int 0, .int 0, .ref z34, .ref z35, .ref z36, .ref z37, .int 0, .int 0, .int 0, .int 0, .ref z38, .int 0, .ref z39, .ref z40, .ref z41, .ref z42, .int 0, .ref z13, .ref z14, .ref z15, .ref z16, .int 0, .ref z17, .ref z18, .ref z43]))] H := hP
  have hD : va_D A [(h0, .inr (12, [.ref z0, .ref z1, .ref z2, .ref z3, .ref z4, .ref z5, .ref z20, .ref z21, .ref z22, .ref z23, .ref z24, .ref z25, .int 0, .ref z26, .ref z27, .ref z28, .int 9, .int 0, .int 0, .ref z6, .ref z29, .ref z7, .int 0, .int 2, .ref z19, .ref z8, .ref z9, .ref z10, .int 0, .ref z11, .int 0, .ref z30, .ref z31, .ref z32, .ref z33, .int 0, .ref z12, .int 0, .int 0, .ref z34, .ref z35, .ref z36, .ref z37, .int 0, .int 0, .int 0, .int 0, .ref z38, .int 0, .ref z39, .ref z40, .ref z41, .ref z42, .int 0, .ref z13, .ref z14, .ref z15, .ref z16, .int 0, .ref z17, .ref z18, .ref z43]))] := hD
  subst hr4
  refine lv_irem hx hb dX12_passAt_18 (by decide) ?_
  refine lv_topi (fun vq evq => ?_)
  rcases (wk_rem2 evq) with rfl | rfl | rfl
  · have hPc := hP.sub (ws' := []) [] rfl
    have hDc := hD.sub (ws' := []) [] (by decide) rfl
    have hFc := va_free (wc := []) hD hS hA [] rfl
    refine va_calli (va_runS (As := [.int 0]) (rest := []) ⟨hx, hb, hml, hown, hts⟩ (kX12_passOf_0 l D G  H.size) (va_cwS 1 hts gX12_passAt_X12_passOf rfl rfl rfl (by decide +kernel) ⟨Nat.le_of_ble_eq_true rfl, Nat.le_of_ble_eq_true rfl⟩) ⟨wB_blind, wB_pre hPc hK hDc hN⟩ rfl rfl hl.1 rfl (lv_room (Nat.le_of_ble_eq_true rfl)) dX12_passAt_19 ⟨Nat.le_of_ble_eq_true rfl, Nat.le_of_ble_eq_true rfl⟩) hS (fun q _ h => hFc q h) hFc (fun r5 u t H1 locs ht hvm hr5 hB hz1 hk1 hS => ?_)
    obtain ⟨hP, hD⟩ := va_join (wr := [(h0, .inr (12, [.ref z0, .ref z1, .ref z2, .ref z3, .ref z4, .ref z5, .ref z20, .ref z21, .ref z22, .ref z23, .ref z24, .ref z25, .int 0, .ref z26, .ref z27, .ref z28, .int 9, .int 0, .int 0, .ref z6, .ref z29, .ref z7, .int 0, .int 2, .ref z19, .ref z8, .ref z9, .ref z10, .int 0, .ref z11, .int 0, .ref z30, .ref z31, .ref z32, .ref z33, .int 0, .ref z12, .int 0, .int 0, .ref z34, .ref z35, .ref z36, .ref z37, .int 0, .int 0, .int 0, .int 0, .ref z38, .int 0, .ref z39, .ref z40, .ref z41, .ref z42, .int 0, .ref z13, .ref z14, .ref z15, .ref z16, .int 0, .ref z17, .ref z18, .ref z43]))]) (w1 := []) hP hD [] [0] rfl rfl (by decide) (by decide) hk1 hFc wP_nil wD_nil
    clear hPc hDc
    generalize H1 = H at hP hS ⊢
    have hP : va_P D vwCl [(h0, .inr (12, [.ref z0, .ref z1, .ref z2, .ref z3, .ref z4, .ref z5, .ref z20, .ref z21, .ref z22, .ref z23, .ref z24, .ref z25, .int 0, .ref z26, .ref z27, .ref z28, .int 9, .int 0, .int 0, .ref z6, .ref z29, .ref z7, .int 0, .int 2, .ref z19, .ref z8, .ref z9, .ref z10, .int 0, .ref z11, .int 0, .ref z30, .ref z31, .ref z32, .ref z33, .int 0, .ref z12, .int 0, .int 0, .ref z34, .ref z35, .ref z36, .ref z37, .int 0, .int 0, .int 0, .int 0, .ref z38, .int 0, .ref z39, .ref z40, .ref z41, .ref z42, .int 0, .ref z13, .ref z14, .ref z15, .ref z16, .int 0, .ref z17, .ref z18, .ref z43]))] H := hP
    have hD : va_D A [(h0, .inr (12, [.ref z0, .ref z1, .ref z2, .ref z3, .ref z4, .ref z5, .ref z20, .ref z21, .ref z22, .ref z23, .ref z24, .ref z25, .int 0, .ref z26, .ref z27, .ref z28, .int 9, .int 0, .int 0, .ref z6, .ref z29, .ref z7, .int 0, .int 2, .ref z19, .ref z8, .ref z9, .ref z10, .int 0, .ref z11, .int 0, .ref z30, .ref z31, .ref z32, .ref z33, .int 0, .ref z12, .int 0, .int 0, .ref z34, .ref z35, .ref z36, .ref z37, .int 0, .int 0, .int 0, .int 0, .ref z38, .int 0, .ref z39, .ref z40, .ref z41, .ref z42, .int 0, .ref z13, .ref z14, .ref z15, .ref z16, .int 0, .ref z17, .ref z18, .ref z43]))] := hD
    subst hr5
    have hP9 := hP.sub (ws' := [(h0, .inr (12, [.ref z0, .ref z1, .ref z2, .ref z3, .ref z4, .ref z5, .ref z20, .ref z21, .ref z22, .ref z23, .ref z24, .ref z25, .int 0, .ref z26, .ref z27, .ref z28, .int 9, .int 0, .int 0, .ref z6, .ref z29, .ref z7, .int 0, .int 2, .ref z19, .ref z8, .ref z9, .ref z10, .int 0, .ref z11, .int 0, .ref z30, .ref z31, .ref z32, .ref z33, .int 0, .ref z12, .int 0, .int 0, .ref z34, .ref z35, .ref z36, .ref z37, .int 0, .int 0, .int 0, .int 0, .ref z38, .int 0, .ref z39, .ref z40, .ref z41, .ref z42, .int 0, .ref z13, .ref z14, .ref z15, .ref z16, .int 0, .ref z17, .ref z18, .ref z43]))]) [0] rfl
    have hD9 := hD.sub (ws' := [(h0, .inr (12, [.ref z0, .ref z1, .ref z2, .ref z3, .ref z4, .ref z5, .ref z20, .ref z21, .ref z22, .ref z23, .ref z24, .ref z25, .int 0, .ref z26, .ref z27, .ref z28, .int 9, .int 0, .int 0, .ref z6, .ref z29, .ref z7, .int 0, .int 2, .ref z19, .ref z8, .ref z9, .ref z10, .int 0, .ref z11, .int 0, .ref z30, .ref z31, .ref z32, .ref z33, .int 0, .ref z12, .int 0, .int 0, .ref z34, .ref z35, .ref z36, .ref z37, .int 0, .int 0, .int 0, .int 0, .ref z38, .int 0, .ref z39, .ref z40, .ref z41, .ref z42, .int 0, .ref z13, .ref z14, .ref z15, .ref z16, .int 0, .ref z17, .ref z18, .ref z43]))]) [0] (by decide) rfl
    exact W.iret (v := 1) hx hb hr (fun t ht hW => ⟨⟨1, (), rfl, by decide, ⟨by rw [ht]; exact hP9, va_K.moved hW.alike hK, hD9⟩⟩, hS.F ht⟩) hS.2.2 dX12_passAt_22
  · have hPc := hP.sub (ws' := []) [] rfl
    have hDc := hD.sub (ws' := []) [] (by decide) rfl
    have hFc := va_free (wc := []) hD hS hA [] rfl
    refine va_calli (va_runS (As := [.int 1]) (rest := []) ⟨hx, hb, hml, hown, hts⟩ (kX12_passOf_1 l D G  H.size) (va_cwS 1 hts gX12_passAt_X12_passOf rfl rfl rfl (by decide +kernel) ⟨Nat.le_of_ble_eq_true rfl, Nat.le_of_ble_eq_true rfl⟩) ⟨wB_blind, wB_pre hPc hK hDc hN⟩ rfl rfl hl.1 rfl (lv_room (Nat.le_of_ble_eq_true rfl)) dX12_passAt_19 ⟨Nat.le_of_ble_eq_true rfl, Nat.le_of_ble_eq_true rfl⟩) hS (fun q _ h => hFc q h) hFc (fun r6 u t H1 locs ht hvm hr6 hB hz1 hk1 hS => ?_)
    obtain ⟨hP, hD⟩ := va_join (wr := [(h0, .inr (12, [.ref z0, .ref z1, .ref z2, .ref z3, .ref z4, .ref z5, .ref z20, .ref z21, .ref z22, .ref z23, .ref z24, .ref z25, .int 0, .ref z26, .ref z27, .ref z28, .int 9, .int 0, .int 0, .ref z6, .ref z29, .ref z7, .int 0, .int 2, .ref z19, .ref z8, .ref z9, .ref z10, .int 0, .ref z11, .int 0, .ref z30, .ref z31, .ref z32, .ref z33, .int 0, .ref z12, .int 0, .int 0, .ref z34, .ref z35, .ref z36, .ref z37, .int 0, .int 0, .int 0, .int 0, .ref z38, .int 0, .ref z39, .ref z40, .ref z41, .ref z42, .int 0, .ref z13, .ref z14, .ref z15, .ref z16, .int 0, .ref z17, .ref z18, .ref z43]))]) (w1 := []) hP hD [] [0] rfl rfl (by decide) (by decide) hk1 hFc wP_nil wD_nil
    clear hPc hDc
    generalize H1 = H at hP hS ⊢
    have hP : va_P D vwCl [(h0, .inr (12, [.ref z0, .ref z1, .ref z2, .ref z3, .ref z4, .ref z5, .ref z20, .ref z21, .ref z22, .ref z23, .ref z24, .ref z25, .int 0, .ref z26, .ref z27, .ref z28, .int 9, .int 0, .int 0, .ref z6, .ref z29, .ref z7, .int 0, .int 2, .ref z19, .ref z8, .ref z9, .ref z10, .int 0, .ref z11, .int 0, .ref z30, .ref z31, .ref z32, .ref z33, .int 0, .ref z12, .int 0, .int 0, .ref z34, .ref z35, .ref z36, .ref z37, .int 0, .int 0, .int 0, .int 0, .ref z38, .int 0, .ref z39, .ref z40, .ref z41, .ref z42, .int 0, .ref z13, .ref z14, .ref z15, .ref z16, .int 0, .ref z17, .ref z18, .ref z43]))] H := hP
    have hD : va_D A [(h0, .inr (12, [.ref z0, .ref z1, .ref z2, .ref z3, .ref z4, .ref z5, .ref z20, .ref z21, .ref z22, .ref z23, .ref z24, .ref z25, .int 0, .ref z26, .ref z27, .ref z28, .int 9, .int 0, .int 0, .ref z6, .ref z29, .ref z7, .int 0, .int 2, .ref z19, .ref z8, .ref z9, .ref z10, .int 0, .ref z11, .int 0, .ref z30, .ref z31, .ref z32, .ref z33, .int 0, .ref z12, .int 0, .int 0, .ref z34, .ref z35, .ref z36, .ref z37, .int 0, .int 0, .int 0, .int 0, .ref z38, .int 0, .ref z39, .ref z40, .ref z41, .ref z42, .int 0, .ref z13, .ref z14, .ref z15, .ref z16, .int 0, .ref z17, .ref z18, .ref z43]))] := hD
    subst hr6
    have hP9 := hP.sub (ws' := [(h0, .inr (12, [.ref z0, .ref z1, .ref z2, .ref z3, .ref z4, .ref z5, .ref z20, .ref z21, .ref z22, .ref z23, .ref z24, .ref z25, .int 0, .ref z26, .ref z27, .ref z28, .int 9, .int 0, .int 0, .ref z6, .ref z29, .ref z7, .int 0, .int 2, .ref z19, .ref z8, .ref z9, .ref z10, .int 0, .ref z11, .int 0, .ref z30, .ref z31, .ref z32, .ref z33, .int 0, .ref z12, .int 0, .int 0, .ref z34, .ref z35, .ref z36, .ref z37, .int 0, .int 0, .int 0, .int 0, .ref z38, .int 0, .ref z39, .ref z40, .ref z41, .ref z42, .int 0, .ref z13, .ref z14, .ref z15, .ref z16, .int 0, .ref z17, .ref z18, .ref z43]))]) [0] rfl
    have hD9 := hD.sub (ws' := [(h0, .inr (12, [.ref z0, .ref z1, .ref z2, .ref z3, .ref z4, .ref z5, .ref z20, .ref z21, .ref z22, .ref z23, .ref z24, .ref z25, .int 0, .ref z26, .ref z27, .ref z28, .int 9, .int 0, .int 0, .ref z6, .ref z29, .ref z7, .int 0, .int 2, .ref z19, .ref z8, .ref z9, .ref z10, .int 0, .ref z11, .int 0, .ref z30, .ref z31, .ref z32, .ref z33, .int 0, .ref z12, .int 0, .int 0, .ref z34, .ref z35, .ref z36, .ref z37, .int 0, .int 0, .int 0, .int 0, .ref z38, .int 0, .ref z39, .ref z40, .ref z41, .ref z42, .int 0, .ref z13, .ref z14, .ref z15, .ref z16, .int 0, .ref z17, .ref z18, .ref z43]))]) [0] (by decide) rfl
    exact W.iret (v := (-1)) hx hb hr (fun t ht hW => ⟨⟨(-1), (), rfl, by decide, ⟨by rw [ht]; exact hP9, va_K.moved hW.alike hK, hD9⟩⟩, hS.F ht⟩) hS.2.2 dX12_passAt_22
  · have hPc := hP.sub (ws' := []) [] rfl
    have hDc := hD.sub (ws' := []) [] (by decide) rfl
    have hFc := va_free (wc := []) hD hS hA [] rfl
    refine va_calli (va_runS (As := [.int (-1)]) (rest := []) ⟨hx, hb, hml, hown, hts⟩ (kX12_passOf_m l D G  H.size) (va_cwS 1 hts gX12_passAt_X12_passOf rfl rfl rfl (by decide +kernel) ⟨Nat.le_of_ble_eq_true rfl, Nat.le_of_ble_eq_true rfl⟩) ⟨wB_blind, wB_pre hPc hK hDc hN⟩ rfl rfl hl.1 rfl (lv_room (Nat.le_of_ble_eq_true rfl)) dX12_passAt_19 ⟨Nat.le_of_ble_eq_true rfl, Nat.le_of_ble_eq_true rfl⟩) hS (fun q _ h => hFc q h) hFc (fun r7 u t H1 locs ht hvm hr7 hB hz1 hk1 hS => ?_)
    obtain ⟨hP, hD⟩ := va_join (wr := [(h0, .inr (12, [.ref z0, .ref z1, .ref z2, .ref z3, .ref z4, .ref z5, .ref z20, .ref z21, .ref z22, .ref z23, .ref z24, .ref z25, .int 0, .ref z26, .ref z27, .ref z28, .int 9, .int 0, .int 0, .ref z6, .ref z29, .ref z7, .int 0, .int 2, .ref z19, .ref z8, .ref z9, .ref z10, .int 0, .ref z11, .int 0, .ref z30, .ref z31, .ref z32, .ref z33, .int 0, .ref z12, .int 0, .int 0, .ref z34, .ref z35, .ref z36, .ref z37, .int 0, .int 0, .int 0, .int 0, .ref z38, .int 0, .ref z39, .ref z40, .ref z41, .ref z42, .int 0, .ref z13, .ref z14, .ref z15, .ref z16, .int 0, .ref z17, .ref z18, .ref z43]))]) (w1 := []) hP hD [] [0] rfl rfl (by decide) (by decide) hk1 hFc wP_nil wD_nil
    clear hPc hDc
    generalize H1 = H at hP hS ⊢
    have hP : va_P D vwCl [(h0, .inr (12, [.ref z0, .ref z1, .ref z2, .ref z3, .ref z4, .ref z5, .ref z20, .ref z21, .ref z22, .ref z23, .ref z24, .ref z25, .int 0, .ref z26, .ref z27, .ref z28, .int 9, .int 0, .int 0, .ref z6, .ref z29, .ref z7, .int 0, .int 2, .ref z19, .ref z8, .ref z9, .ref z10, .int 0, .ref z11, .int 0, .ref z30, .ref z31, .ref z32, .ref z33, .int 0, .ref z12, .int 0, .int 0, .ref z34, .ref z35, .ref z36, .ref z37, .int 0, .int 0, .int 0, .int 0, .ref z38, .int 0, .ref z39, .ref z40, .ref z41, .ref z42, .int 0, .ref z13, .ref z14, .ref z15, .ref z16, .int 0, .ref z17, .ref z18, .ref z43]))] H := hP
    have hD : va_D A [(h0, .inr (12, [.ref z0, .ref z1, .ref z2, .ref z3, .ref z4, .ref z5, .ref z20, .ref z21, .ref z22, .ref z23, .ref z24, .ref z25, .int 0, .ref z26, .ref z27, .ref z28, .int 9, .int 0, .int 0, .ref z6, .ref z29, .ref z7, .int 0, .int 2, .ref z19, .ref z8, .ref z9, .ref z10, .int 0, .ref z11, .int 0, .ref z30, .ref z31, .ref z32, .ref z33, .int 0, .ref z12, .int 0, .int 0, .ref z34, .ref z35, .ref z36, .ref z37, .int 0, .int 0, .int 0, .int 0, .ref z38, .int 0, .ref z39, .ref z40, .ref z41, .ref z42, .int 0, .ref z13, .ref z14, .ref z15, .ref z16, .int 0, .ref z17, .ref z18, .ref z43]))] := hD
    subst hr7
    have hP9 := hP.sub (ws' := [(h0, .inr (12, [.ref z0, .ref z1, .ref z2, .ref z3, .ref z4, .ref z5, .ref z20, .ref z21, .ref z22, .ref z23, .ref z24, .ref z25, .int 0, .ref z26, .ref z27, .ref z28, .int 9, .int 0, .int 0, .ref z6, .ref z29, .ref z7, .int 0, .int 2, .ref z19, .ref z8, .ref z9, .ref z10, .int 0, .ref z11, .int 0, .ref z30, .ref z31, .ref z32, .ref z33, .int 0, .ref z12, .int 0, .int 0, .ref z34, .ref z35, .ref z36, .ref z37, .int 0, .int 0, .int 0, .int 0, .ref z38, .int 0, .ref z39, .ref z40, .ref z41, .ref z42, .int 0, .ref z13, .ref z14, .ref z15, .ref z16, .int 0, .ref z17, .ref z18, .ref z43]))]) [0] rfl
    have hD9 := hD.sub (ws' := [(h0, .inr (12, [.ref z0, .ref z1, .ref z2, .ref z3, .ref z4, .ref z5, .ref z20, .ref z21, .ref z22, .ref z23, .ref z24, .ref z25, .int 0, .ref z26, .ref z27, .ref z28, .int 9, .int 0, .int 0, .ref z6, .ref z29, .ref z7, .int 0, .int 2, .ref z19, .ref z8, .ref z9, .ref z10, .int 0, .ref z11, .int 0, .ref z30, .ref z31, .ref z32, .ref z33, .int 0, .ref z12, .int 0, .int 0, .ref z34, .ref z35, .ref z36, .ref z37, .int 0, .int 0, .int 0, .int 0, .ref z38, .int 0, .ref z39, .ref z40, .ref z41, .ref z42, .int 0, .ref z13, .ref z14, .ref z15, .ref z16, .int 0, .ref z17, .ref z18, .ref z43]))]) [0] (by decide) rfl
    exact W.iret (v := (-1)) hx hb hr (fun t ht hW => ⟨⟨(-1), (), rfl, by decide, ⟨by rw [ht]; exact hP9, va_K.moved hW.alike hK, hD9⟩⟩, hS.F ht⟩) hS.2.2 dX12_passAt_22

set_option maxHeartbeats 4000000 in
set_option maxRecDepth 100000 in
/-- X12_passAt -/
theorem kX12_passAt_s32 (l : Launch) (D : va_G) (G : tyG) (h0 : Nat) (w : Int32) (z0 : Nat) (z1 : Nat) (z2 : Nat) (z3 : Nat) (z4 : Nat) (z5 : Nat) (z20 : Nat) (z21 : Nat) (z22 : Nat) (z23 : Nat) (z24 : Nat) (z25 : Nat) (z26 : Nat) (z27 : Nat) (z28 : Nat) (z6 : Nat) (z29 : Nat) (z7 : Nat) (z19 : Nat) (z8 : Nat) (z9 : Nat) (z10 : Nat) (z11 : Nat) (z30 : Nat) (z31 : Nat) (z32 : Nat) (z33 : Nat) (z12 : Nat) (z34 : Nat) (z35 : Nat) (z36 : Nat) (z37 : Nat) (z38 : Nat) (z39 : Nat) (z40 : Nat) (z41 : Nat) (z42 : Nat) (z13 : Nat) (z14 : Nat) (z15 : Nat) (z16 : Nat) (z17 : Nat) (z18 : Nat) (z43 : Nat) (sz : Nat) : Met l yX12_passAt wsX12_passAt ({ frames := 1, cells := 0, slots := 0, locals := 23 }) (va_Pc [.ref h0, .int w, .int 3, .int 2] (wB D G sz [(h0, .inr (12, [.ref z0, .ref z1, .ref z2, .ref z3, .ref z4, .ref z5, .ref z20, .ref z21, .ref z22, .ref z23, .ref z24, .ref z25, .int 0, .ref z26, .ref z27, .ref z28, .int 9, .int 0, .int 0, .ref z6, .ref z29, .ref z7, .int 0, .int 2, .ref z19, .ref z8, .ref z9, .ref z10, .int 0, .ref z11, .int 0, .ref z30, .ref z31, .ref z32, .ref z33, .int 0, .ref z12, .int 0, .int 0, .ref z34, .ref z35, .ref z36, .ref z37, .int 0, .int 0, .int 0, .int 0, .ref z38, .int 0, .ref z39, .ref z40, .ref z41, .ref z42, .int 0, .ref z13, .ref z14, .ref z15, .ref z16, .int 0, .ref z17, .ref z18, .ref z43]))])) (va_Qi (fun (r : Int32) (_ : Unit) => r = 1 ∨ r = -1) (fun _ t => wS D G (va_A [(h0, .inr (12, [.ref z0, .ref z1, .ref z2, .ref z3, .ref z4, .ref z5, .ref z20, .ref z21, .ref z22, .ref z23, .ref z24, .ref z25, .int 0, .ref z26, .ref z27, .ref z28, .int 9, .int 0, .int 0, .ref z6, .ref z29, .ref z7, .int 0, .int 2, .ref z19, .ref z8, .ref z9, .ref z10, .int 0, .ref z11, .int 0, .ref z30, .ref z31, .ref z32, .ref z33, .int 0, .ref z12, .int 0, .int 0, .ref z34, .ref z35, .ref z36, .ref z37, .int 0, .int 0, .int 0, .int 0, .ref z38, .int 0, .ref z39, .ref z40, .ref z41, .ref z42, .int 0, .ref z13, .ref z14, .ref z15, .ref z16, .int 0, .ref z17, .ref z18, .ref z43]))] sz) [(h0, .inr (12, [.ref z0, .ref z1, .ref z2, .ref z3, .ref z4, .ref z5, .ref z20, .ref z21, .ref z22, .ref z23, .ref z24, .ref z25, .int 0, .ref z26, .ref z27, .ref z28, .int 9, .int 0, .int 0, .ref z6, .ref z29, .ref z7, .int 0, .int 2, .ref z19, .ref z8, .ref z9, .ref z10, .int 0, .ref z11, .int 0, .ref z30, .ref z31, .ref z32, .ref z33, .int 0, .ref z12, .int 0, .int 0, .ref z34, .ref z35, .ref z36, .ref z37, .int 0, .int 0, .int 0, .int 0, .ref z38, .int 0, .ref z39, .ref z40, .ref z41, .ref z42, .int 0, .ref z13, .ref z14, .ref z15, .ref z16, .int 0, .ref z17, .ref z18, .ref z43]))] t) (va_A [(h0, .inr (12, [.ref z0, .ref z1, .ref z2, .ref z3, .ref z4, .ref z5, .ref z20, .ref z21, .ref z22, .ref z23, .ref z24, .ref z25, .int 0, .ref z26, .ref z27, .ref z28, .int 9, .int 0, .int 0, .ref z6, .ref z29, .ref z7, .int 0, .int 2, .ref z19, .ref z8, .ref z9, .ref z10, .int 0, .ref z11, .int 0, .ref z30, .ref z31, .ref z32, .ref z33, .int 0, .ref z12, .int 0, .int 0, .ref z34, .ref z35, .ref z36, .ref z37, .int 0, .int 0, .int 0, .int 0, .ref z38, .int 0, .ref z39, .ref z40, .ref z41, .ref z42, .int 0, .ref z13, .ref z14, .ref z15, .ref z16, .int 0, .ref z17, .ref z18, .ref z43]))] sz)) 0 0 (va_A [(h0, .inr (12, [.ref z0, .ref z1, .ref z2, .ref z3, .ref z4, .ref z5, .ref z20, .ref z21, .ref z22, .ref z23, .ref z24, .ref z25, .int 0, .ref z26, .ref z27, .ref z28, .int 9, .int 0, .int 0, .ref z6, .ref z29, .ref z7, .int 0, .int 2, .ref z19, .ref z8, .ref z9, .ref z10, .int 0, .ref z11, .int 0, .ref z30, .ref z31, .ref z32, .ref z33, .int 0, .ref z12, .int 0, .int 0, .ref z34, .ref z35, .ref z36, .ref z37, .int 0, .int 0, .int 0, .int 0, .ref z38, .int 0, .ref z39, .ref z40, .ref z41, .ref z42, .int 0, .ref z13, .ref z14, .ref z15, .ref z16, .int 0, .ref z17, .ref z18, .ref z43]))] sz) := by
  refine Met.ofW (cc := cX12_passAt) (maxL := 4) (ret := (some .int)) (by decide) rfl ?_
  intro p e s m args below meth c s₁ B hml hv
  obtain ⟨rfl, hsz, hP, hK, hD0, hN⟩ := hv
  have hx := B.exec
  have hb := B.bytes
  have hr := B.returns
  have hts := atoms_spec (ws := wsX12_passAt) B.pre
  have hown : s.vm.findClass RX12 = some m.cls := findClass_of_methodNamed B.named
  have hlocks := B.notSynchronized
  subst hsz
  have hD := hD0.self (sz := s.heap.size)
  generalize hAe : va_A [(h0, .inr (12, [.ref z0, .ref z1, .ref z2, .ref z3, .ref z4, .ref z5, .ref z20, .ref z21, .ref z22, .ref z23, .ref z24, .ref z25, .int 0, .ref z26, .ref z27, .ref z28, .int 9, .int 0, .int 0, .ref z6, .ref z29, .ref z7, .int 0, .int 2, .ref z19, .ref z8, .ref z9, .ref z10, .int 0, .ref z11, .int 0, .ref z30, .ref z31, .ref z32, .ref z33, .int 0, .ref z12, .int 0, .int 0, .ref z34, .ref z35, .ref z36, .ref z37, .int 0, .int 0, .int 0, .int 0, .ref z38, .int 0, .ref z39, .ref z40, .ref z41, .ref z42, .int 0, .ref z13, .ref z14, .ref z15, .ref z16, .int 0, .ref z17, .ref z18, .ref z43]))] s.heap.size = A at hD ⊢
  have hA : ∀ q : Nat, s.heap.size ≤ q → A q := fun q h => by rw [← hAe]; exact Or.inr h
  have hS : va_S A s.heap s.heap [] := va_S.rf
  have hP : va_P D vwCl [(h0, .inr (12, [.ref z0, .ref z1, .ref z2, .ref z3, .ref z4, .ref z5, .ref z20, .ref z21, .ref z22, .ref z23, .ref z24, .ref z25, .int 0, .ref z26, .ref z27, .ref z28, .int 9, .int 0, .int 0, .ref z6, .ref z29, .ref z7, .int 0, .int 2, .ref z19, .ref z8, .ref z9, .ref z10, .int 0, .ref z11, .int 0, .ref z30, .ref z31, .ref z32, .ref z33, .int 0, .ref z12, .int 0, .int 0, .ref z34, .ref z35, .ref z36, .ref z37, .int 0, .int 0, .int 0, .int 0, .ref z38, .int 0, .ref z39, .ref z40, .ref z41, .ref z42, .int 0, .ref z13, .ref z14, .ref z15, .ref z16, .int 0, .ref z17, .ref z18, .ref z43]))] s.heap := hP
  have hl := lv_entry ([.ref h0, .int w, .int 3, .int 2]) (n := 4) (Nat.le_of_ble_eq_true rfl)
  rw [lg_entry_eq]
  generalize (lg_sl ([.ref h0, .int w, .int 3, .int 2]) ++ List.replicate (4 - (lg_sl ([.ref h0, .int w, .int 3, .int 2])).length) Slot.unset).toArray = ls at hl ⊢
  have hl : lv_has ls 4 [(0, .ref h0), (1, .int w), (2, .int 3), (3, .int 2)] := hl
  refine lv_iload_n hx hb dX12_passAt_0 rfl (lv_at hl 1 rfl) ?_
  refine lv_aload_n hx hb dX12_passAt_1 rfl (lv_at hl 0 rfl) ?_
  have hPc := hP.sub (ws' := [(h0, .inr (12, [.ref z0, .ref z1, .ref z2, .ref z3, .ref z4, .ref z5, .ref z20, .ref z21, .ref z22, .ref z23, .ref z24, .ref z25, .int 0, .ref z26, .ref z27, .ref z28, .int 9, .int 0, .int 0, .ref z6, .ref z29, .ref z7, .int 0, .int 2, .ref z19, .ref z8, .ref z9, .ref z10, .int 0, .ref z11, .int 0, .ref z30, .ref z31, .ref z32, .ref z33, .int 0, .ref z12, .int 0, .int 0, .ref z34, .ref z35, .ref z36, .ref z37, .int 0, .int 0, .int 0, .int 0, .ref z38, .int 0, .ref z39, .ref z40, .ref z41, .ref z42, .int 0, .ref z13, .ref z14, .ref z15, .ref z16, .int 0, .ref z17, .ref z18, .ref z43]))]) [0] rfl
  have hDc := hD.sub (ws' := [(h0, .inr (12, [.ref z0, .ref z1, .ref z2, .ref z3, .ref z4, .ref z5, .ref z20, .ref z21, .ref z22, .ref z23, .ref z24, .ref z25, .int 0, .ref z26, .ref z27, .ref z28, .int 9, .int 0, .int 0, .ref z6, .ref z29, .ref z7, .int 0, .int 2, .ref z19, .ref z8, .ref z9, .ref z10, .int 0, .ref z11, .int 0, .ref z30, .ref z31, .ref z32, .ref z33, .int 0, .ref z12, .int 0, .int 0, .ref z34, .ref z35, .ref z36, .ref z37, .int 0, .int 0, .int 0, .int 0, .ref z38, .int 0, .ref z39, .ref z40, .ref z41, .ref z42, .int 0, .ref z13, .ref z14, .ref z15, .ref z16, .int 0, .ref z17, .ref z18, .ref z43]))]) [0] (by decide) rfl
  have hFc := va_free (wc := [(h0, .inr (12, [.ref z0, .ref z1, .ref z2, .ref z3, .ref z4, .ref z5, .ref z20, .ref z21, .ref z22, .ref z23, .ref z24, .ref z25, .int 0, .ref z26, .ref z27, .ref z28, .int 9, .int 0, .int 0, .ref z6, .ref z29, .ref z7, .int 0, .int 2, .ref z19, .ref z8, .ref z9, .ref z10, .int 0, .ref z11, .int 0, .ref z30, .ref z31, .ref z32, .ref z33, .int 0, .ref z12, .int 0, .int 0, .ref z34, .ref z35, .ref z36, .ref z37, .int 0, .int 0, .int 0, .int 0, .ref z38, .int 0, .ref z39, .ref z40, .ref z41, .ref z42, .int 0, .ref z13, .ref z14, .ref z15, .ref z16, .int 0, .ref z17, .ref z18, .ref z43]))]) hD hS hA [0] rfl
  refine va_calli (va_runV (As := []) (rest := [.int w]) ⟨hx, hb, hml, hown, hts⟩ (kX12_gens l D G h0 z0 z1 z2 z3 z4 z5 z20 z21 z22 z23 z24 z25 z26 z27 z28 z6 z29 z7 z19 z8 z9 z10 z11 z30 z31 z32 z33 z12 z34 z35 z36 z37 z38 z39 z40 z41 z42 z13 z14 z15 z16 z17 z18 z43 0 s.heap.size) (cwV 0 hts gX12_passAt_X12_gens rfl rfl rfl (by decide +kernel) ⟨Nat.le_of_ble_eq_true rfl, Nat.le_of_ble_eq_true rfl⟩) ⟨wB_blind, va_recv hK hPc (ci := 12) (q0 := 0) rfl rfl, wB_pre hPc hK hDc hN⟩ rfl rfl hl.1 rfl (lv_room (Nat.le_of_ble_eq_true rfl)) dX12_passAt_2 ⟨Nat.le_of_ble_eq_true rfl, Nat.le_of_ble_eq_true rfl⟩) hS (fun q _ h => hFc q h) hFc (fun r1 u t H1 locs ht hvm hr1 hB hz1 hk1 hS => ?_)
  obtain ⟨hP1, hK1, hD1⟩ := hB
  rw [ht] at hP1
  obtain ⟨hP, hD⟩ := va_join (wr := []) (w1 := [(h0, .inr (12, [.ref z0, .ref z1, .ref z2, .ref z3, .ref z4, .ref z5, .ref z20, .ref z21, .ref z22, .ref z23, .ref z24, .ref z25, .int 0, .ref z26, .ref z27, .ref z28, .int 9, .int 0, .int 0, .ref z6, .ref z29, .ref z7, .int 0, .int 2, .ref z19, .ref z8, .ref z9, .ref z10, .int 0, .ref z11, .int 0, .ref z30, .ref z31, .ref z32, .ref z33, .int 0, .ref z12, .int 0, .int 0, .ref z34, .ref z35, .ref z36, .ref z37, .int 0, .int 0, .int 0, .int 0, .ref z38, .int 0, .ref z39, .ref z40, .ref z41, .ref z42, .int 0, .ref z13, .ref z14, .ref z15, .ref z16, .int 0, .ref z17, .ref z18, .ref z43]))]) hP hD [0] [] rfl rfl (by decide) (by decide) hk1 hFc hP1 hD1
  clear hPc hDc
  generalize H1 = H at hP hS ⊢
  have hP : va_P D vwCl [(h0, .inr (12, [.ref z0, .ref z1, .ref z2, .ref z3, .ref z4, .ref z5, .ref z20, .ref z21, .ref z22, .ref z23, .ref z24, .ref z25, .int 0, .ref z26, .ref z27, .ref z28, .int 9, .int 0, .int 0, .ref z6, .ref z29, .ref z7, .int 0, .int 2, .ref z19, .ref z8, .ref z9, .ref z10, .int 0, .ref z11, .int 0, .ref z30, .ref z31, .ref z32, .ref z33, .int 0, .ref z12, .int 0, .int 0, .ref z34, .ref z35, .ref z36, .ref z37, .int 0, .int 0, .int 0, .int 0, .ref z38, .int 0, .ref z39, .ref z40, .ref z41, .ref z42, .int 0, .ref z13, .ref z14, .ref z15, .ref z16, .int 0, .ref z17, .ref z18, .ref z43]))] H := hP
  have hD : va_D A [(h0, .inr (12, [.ref z0, .ref z1, .ref z2, .ref z3, .ref z4, .ref z5, .ref z20, .ref z21, .ref z22, .ref z23, .ref z24, .ref z25, .int 0, .ref z26, .ref z27, .ref z28, .int 9, .int 0, .int 0, .ref z6, .ref z29, .ref z7, .int 0, .int 2, .ref z19, .ref z8, .ref z9, .ref z10, .int 0, .ref z11, .int 0, .ref z30, .ref z31, .ref z32, .ref z33, .int 0, .ref z12, .int 0, .int 0, .ref z34, .ref z35, .ref z36, .ref z37, .int 0, .int 0, .int 0, .int 0, .ref z38, .int 0, .ref z39, .ref z40, .ref z41, .ref z42, .int 0, .ref z13, .ref z14, .ref z15, .ref z16, .int 0, .ref z17, .ref z18, .ref z43]))] := hD
  subst hr1
  refine lv_iload_n hx hb dX12_passAt_5 rfl (lv_at hl 2 rfl) ?_
  refine lv_iconst (v := 1) hx hb dX12_passAt_6 (by decide) ?_
  refine lv_isub hx hb dX12_passAt_7 ?_
  refine wk_i 2 (by decide) ?_
  refine lv_iload_n hx hb dX12_passAt_8 rfl (lv_at hl 3 rfl) ?_
  refine lv_isub hx hb dX12_passAt_9 ?_
  refine wk_i 0 (by decide) ?_
  have hPc := hP.sub (ws' := []) [] rfl
  have hDc := hD.sub (ws' := []) [] (by decide) rfl
  have hFc := va_free (wc := []) hD hS hA [] rfl
  refine va_calli (va_runS (As := [.int 2, .int 0]) (rest := [.int w]) ⟨hx, hb, hml, hown, hts⟩ (kX12_power_0 l D G  H.size) (va_cwS 2 hts gX12_passAt_X12_power rfl rfl rfl (by decide +kernel) ⟨Nat.le_of_ble_eq_true rfl, Nat.le_of_ble_eq_true rfl⟩) ⟨wB_blind, wB_pre hPc hK hDc hN⟩ rfl rfl hl.1 rfl (lv_room (Nat.le_of_ble_eq_true rfl)) dX12_passAt_10 ⟨Nat.le_of_ble_eq_true rfl, Nat.le_of_ble_eq_true rfl⟩) hS (fun q _ h => hFc q h) hFc (fun r2 u t H1 locs ht hvm hr2 hB hz1 hk1 hS => ?_)
  obtain ⟨hP, hD⟩ := va_join (wr := [(h0, .inr (12, [.ref z0, .ref z1, .ref z2, .ref z3, .ref z4, .ref z5, .ref z20, .ref z21, .ref z22, .ref z23, .ref z24, .ref z25, .int 0, .ref z26, .ref z27, .ref z28, .int 9, .int 0, .int 0, .ref z6, .ref z29, .ref z7, .int 0, .int 2, .ref z19, .ref z8, .ref z9, .ref z10, .int 0, .ref z11, .int 0, .ref z30, .ref z31, .ref z32, .ref z33, .int 0, .ref z12, .int 0, .int 0, .ref z34, .ref z35, .ref z36, .ref z37, .int 0, .int 0, .int 0, .int 0, .ref z38, .int 0, .ref z39, .ref z40, .ref z41, .ref z42, .int 0, .ref z13, .ref z14, .ref z15, .ref z16, .int 0, .ref z17, .ref z18, .ref z43]))]) (w1 := []) hP hD [] [0] rfl rfl (by decide) (by decide) hk1 hFc wP_nil wD_nil
  clear hPc hDc
  generalize H1 = H at hP hS ⊢
  have hP : va_P D vwCl [(h0, .inr (12, [.ref z0, .ref z1, .ref z2, .ref z3, .ref z4, .ref z5, .ref z20, .ref z21, .ref z22, .ref z23, .ref z24, .ref z25, .int 0, .ref z26, .ref z27, .ref z28, .int 9, .int 0, .int 0, .ref z6, .ref z29, .ref z7, .int 0, .int 2, .ref z19, .ref z8, .ref z9, .ref z10, .int 0, .ref z11, .int 0, .ref z30, .ref z31, .ref z32, .ref z33, .int 0, .ref z12, .int 0, .int 0, .ref z34, .ref z35, .ref z36, .ref z37, .int 0, .int 0, .int 0, .int 0, .ref z38, .int 0, .ref z39, .ref z40, .ref z41, .ref z42, .int 0, .ref z13, .ref z14, .ref z15, .ref z16, .int 0, .ref z17, .ref z18, .ref z43]))] H := hP
  have hD : va_D A [(h0, .inr (12, [.ref z0, .ref z1, .ref z2, .ref z3, .ref z4, .ref z5, .ref z20, .ref z21, .ref z22, .ref z23, .ref z24, .ref z25, .int 0, .ref z26, .ref z27, .ref z28, .int 9, .int 0, .int 0, .ref z6, .ref z29, .ref z7, .int 0, .int 2, .ref z19, .ref z8, .ref z9, .ref z10, .int 0, .ref z11, .int 0, .ref z30, .ref z31, .ref z32, .ref z33, .int 0, .ref z12, .int 0, .int 0, .ref z34, .ref z35, .ref z36, .ref z37, .int 0, .int 0, .int 0, .int 0, .ref z38, .int 0, .ref z39, .ref z40, .ref z41, .ref z42, .int 0, .ref z13, .ref z14, .ref z15, .ref z16, .int 0, .ref z17, .ref z18, .ref z43]))] := hD
  subst hr2
  refine lv_idiv hx hb dX12_passAt_13 (by decide) ?_
  refine lv_topi (fun v3 ev3 => ?_)
  refine lv_aload_n hx hb dX12_passAt_14 rfl (lv_at hl 0 rfl) ?_
  have hPc := hP.sub (ws' := [(h0, .inr (12, [.ref z0, .ref z1, .ref z2, .ref z3, .ref z4, .ref z5, .ref z20, .ref z21, .ref z22, .ref z23, .ref z24, .ref z25, .int 0, .ref z26, .ref z27, .ref z28, .int 9, .int 0, .int 0, .ref z6, .ref z29, .ref z7, .int 0, .int 2, .ref z19, .ref z8, .ref z9, .ref z10, .int 0, .ref z11, .int 0, .ref z30, .ref z31, .ref z32, .ref z33, .int 0, .ref z12, .int 0, .int 0, .ref z34, .ref z35, .ref z36, .ref z37, .int 0, .int 0, .int 0, .int 0, .ref z38, .int 0, .ref z39, .ref z40, .ref z41, .ref z42, .int 0, .ref z13, .ref z14, .ref z15, .ref z16, .int 0, .ref z17, .ref z18, .ref z43]))]) [0] rfl
  have hDc := hD.sub (ws' := [(h0, .inr (12, [.ref z0, .ref z1, .ref z2, .ref z3, .ref z4, .ref z5, .ref z20, .ref z21, .ref z22, .ref z23, .ref z24, .ref z25, .int 0, .ref z26, .ref z27, .ref z28, .int 9, .int 0, .int 0, .ref z6, .ref z29, .ref z7, .int 0, .int 2, .ref z19, .ref z8, .ref z9, .ref z10, .int 0, .ref z11, .int 0, .ref z30, .ref z31, .ref z32, .ref z33, .int 0, .ref z12, .int 0, .int 0, .ref z34, .ref z35, .ref z36, .ref z37, .int 0, .int 0, .int 0, .int 0, .ref z38, .int 0, .ref z39, .ref z40, .ref z41, .ref z42, .int 0, .ref z13, .ref z14, .ref z15, .ref z16, .int 0, .ref z17, .ref z18, .ref z43]))]) [0] (by decide) rfl
  have hFc := va_free (wc := [(h0, .inr (12, [.ref z0, .ref z1, .ref z2, .ref z3, .ref z4, .ref z5, .ref z20, .ref z21, .ref z22, .ref z23, .ref z24, .ref z25, .int 0, .ref z26, .ref z27, .ref z28, .int 9, .int 0, .int 0, .ref z6, .ref z29, .ref z7, .int 0, .int 2, .ref z19, .ref z8, .ref z9, .ref z10, .int 0, .ref z11, .int 0, .ref z30, .ref z31, .ref z32, .ref z33, .int 0, .ref z12, .int 0, .int 0, .ref z34, .ref z35, .ref z36, .ref z37, .int 0, .int 0, .int 0, .int 0, .ref z38, .int 0, .ref z39, .ref z40, .ref z41, .ref z42, .int 0, .ref z13, .ref z14, .ref z15, .ref z16, .int 0, .ref z17, .ref z18, .ref z43]))]) hD hS hA [0] rfl
  refine va_calli (va_runV (As := []) (rest := [.int v3]) ⟨hx, hb, hml, hown, hts⟩ (kX12_gens l D G h0 z0 z1 z2 z3 z4 z5 z20 z21 z22 z23 z24 z25 z26 z27 z28 z6 z29 z7 z19 z8 z9 z10 z11 z30 z31 z32 z33 z12 z34 z35 z36 z37 z38 z39 z40 z41 z42 z13 z14 z15 z16 z17 z18 z43 0 H.size) (cwV 0 hts gX12_passAt_X12_gens rfl rfl rfl (by decide +kernel) ⟨Nat.le_of_ble_eq_true rfl, Nat.le_of_ble_eq_true rfl⟩) ⟨wB_blind, va_recv hK hPc (ci := 12) (q0 := 0) rfl rfl, wB_pre hPc hK hDc hN⟩ rfl rfl hl.1 rfl (lv_room (Nat.le_of_ble_eq_true rfl)) dX12_passAt_15 ⟨Nat.le_of_ble_eq_true rfl, Nat.le_of_ble_eq_true rfl⟩) hS (fun q _ h => hFc q h) hFc (fun r4 u t H1 locs ht hvm hr4 hB hz1 hk1 hS => ?_)
  obtain ⟨hP1, hK1, hD1⟩ := hB
  rw [ht] at hP1
  obtain ⟨hP, hD⟩ := va_join (wr := []) (w1 := [(h0, .inr (12, [.ref z0, .ref z1, .ref z2, .ref z3, .ref z4, .ref z5, .ref z20, .ref z21, .ref z22, .ref z23, .ref z24, .ref z25, .int 0, .ref z26, .ref z27, .ref z28, .int 9, .int 0, .int 0, .ref z6, .ref z29, .ref z7, .int 0, .int 2, .ref z19, .ref z8, .ref z9, .ref z10, .int 0, .ref z11, .int 0, .ref z30, .ref z31, .ref z32, .ref z33, .int 0, .ref z12, .int 0, .int 0, .ref z34, .ref z35, .ref z36, .ref z37, .int 0, .int 0, .int 0, .int 0, .ref z38, .int 0, .ref z39, .ref z40, .ref z41, .ref z42, .int 0, .ref z13, .ref z14, .ref z15, .ref z16, .int 0, .ref z17, .ref z18, .ref z43]))]) hP hD [0] [] rfl rfl (by decide) (by decide) hk1 hFc hP1 hD1
  clear hPc hDc
  generalize H1 = H at hP hS ⊢
  have hP : va_P D vwCl [(h0, .inr (12, [.ref z0, .ref z1, .ref z2, .ref z3, .ref z4, .ref z5, .ref z20, .ref z21, .ref z22, .ref z23, .ref z24, .ref z25, .int 0, .ref z26, .ref z27, .ref z28, .int 9, .int 0, .int 0, .ref z6, .ref z29, .ref z7, .int 0, .int 2, .ref z19, .ref z8, .ref z9, .ref z10, .int 0, .ref z11, .int 0, .ref z30, .ref z31, .ref z32, .ref z33, .int 0, .ref z12, .int 0, .int 0, .ref z34, .ref z35, .ref z36, .ref z37, .int 0, .int 0, .int 0, .int 0, .ref z38, .int 0, .ref z39, .ref z40, .ref z41, .ref z42, .int 0, .ref z13, .ref z14, .ref z15, .ref z16, .int 0, .ref z17, .ref z18, .ref z43]))] H := hP
  have hD : va_D A [(h0, .inr (12, [.ref z0, .ref z1, .ref z2, .ref z3, .ref z4, .ref z5, .ref z20, .ref z21, .ref z22, .ref z23, .ref z24, .ref z25, .int 0, .ref z26, .ref z27, .ref z28, .int 9, .int 0, .int 0, .ref z6, .ref z29, .ref z7, .int 0, .int 2, .ref z19, .ref z8, .ref z9, .ref z10, .int 0, .ref z11, .int 0, .ref z30, .ref z31, .ref z32, .ref z33, .int 0, .ref z12, .int 0, .int 0, .ref z34, .ref z35, .ref z36, .ref z37, .int 0, .int 0, .int 0, .int 0, .ref z38, .int 0, .ref z39, .ref z40, .ref z41, .ref z42, .int 0, .ref z13, .ref z14, .ref z15, .ref z16, .int 0, .ref z17, .ref z18, .ref z43]))] := hD
  subst hr4
  refine lv_irem hx hb dX12_passAt_18 (by decide) ?_
  refine lv_topi (fun vq evq => ?_)
  rcases (wk_rem2 evq) with rfl | rfl | rfl
  · have hPc := hP.sub (ws' := []) [] rfl
    have hDc := hD.sub (ws' := []) [] (by decide) rfl
    have hFc := va_free (wc := []) hD hS hA [] rfl
    refine va_calli (va_runS (As := [.int 0]) (rest := []) ⟨hx, hb, hml, hown, hts⟩ (kX12_passOf_0 l D G  H.size) (va_cwS 1 hts gX12_passAt_X12_passOf rfl rfl rfl (by decide +kernel) ⟨Nat.le_of_ble_eq_true rfl, Nat.le_of_ble_eq_true rfl⟩) ⟨wB_blind, wB_pre hPc hK hDc hN⟩ rfl rfl hl.1 rfl (lv_room (Nat.le_of_ble_eq_true rfl)) dX12_passAt_19 ⟨Nat.le_of_ble_eq_true rfl, Nat.le_of_ble_eq_true rfl⟩) hS (fun q _ h => hFc q h) hFc (fun r5 u t H1 locs ht hvm hr5 hB hz1 hk1 hS => ?_)
    obtain ⟨hP, hD⟩ := va_join (wr := [(h0, .inr (12, [.ref z0, .ref z1, .ref z2, .ref z3, .ref z4, .ref z5, .ref z20, .ref z21, .ref z22, .ref z23, .ref z24, .ref z25, .int 0, .ref z26, .ref z27, .ref z28, .int 9, .int 0, .int 0, .ref z6, .ref z29, .ref z7, .int 0, .int 2, .ref z19, .ref z8, .ref z9, .ref z10, .int 0, .ref z11, .int 0, .ref z30, .ref z31, .ref z32, .ref z33, .int 0, .ref z12, .int 0, .int 0, .ref z34, .ref z35, .ref z36, .ref z37, .int 0, .int 0, .int 0, .int 0, .ref z38, .int 0, .ref z39, .ref z40, .ref z41, .ref z42, .int 0, .ref z13, .ref z14, .ref z15, .ref z16, .int 0, .ref z17, .ref z18, .ref z43]))]) (w1 := []) hP hD [] [0] rfl rfl (by decide) (by decide) hk1 hFc wP_nil wD_nil
    clear hPc hDc
    generalize H1 = H at hP hS ⊢
    have hP : va_P D vwCl [(h0, .inr (12, [.ref z0, .ref z1, .ref z2, .ref z3, .ref z4, .ref z5, .ref z20, .ref z21, .ref z22, .ref z23, .ref z24, .ref z25, .int 0, .ref z26, .ref z27, .ref z28, .int 9, .int 0, .int 0, .ref z6, .ref z29, .ref z7, .int 0, .int 2, .ref z19, .ref z8, .ref z9, .ref z10, .int 0, .ref z11, .int 0, .ref z30, .ref z31, .ref z32, .ref z33, .int 0, .ref z12, .int 0, .int 0, .ref z34, .ref z35, .ref z36, .ref z37, .int 0, .int 0, .int 0, .int 0, .ref z38, .int 0, .ref z39, .ref z40, .ref z41, .ref z42, .int 0, .ref z13, .ref z14, .ref z15, .ref z16, .int 0, .ref z17, .ref z18, .ref z43]))] H := hP
    have hD : va_D A [(h0, .inr (12, [.ref z0, .ref z1, .ref z2, .ref z3, .ref z4, .ref z5, .ref z20, .ref z21, .ref z22, .ref z23, .ref z24, .ref z25, .int 0, .ref z26, .ref z27, .ref z28, .int 9, .int 0, .int 0, .ref z6, .ref z29, .ref z7, .int 0, .int 2, .ref z19, .ref z8, .ref z9, .ref z10, .int 0, .ref z11, .int 0, .ref z30, .ref z31, .ref z32, .ref z33, .int 0, .ref z12, .int 0, .int 0, .ref z34, .ref z35, .ref z36, .ref z37, .int 0, .int 0, .int 0, .int 0, .ref z38, .int 0, .ref z39, .ref z40, .ref z41, .ref z42, .int 0, .ref z13, .ref z14, .ref z15, .ref z16, .int 0, .ref z17, .ref z18, .ref z43]))] := hD
    subst hr5
    have hP9 := hP.sub (ws' := [(h0, .inr (12, [.ref z0, .ref z1, .ref z2, .ref z3, .ref z4, .ref z5, .ref z20, .ref z21, .ref z22, .ref z23, .ref z24, .ref z25, .int 0, .ref z26, .ref z27, .ref z28, .int 9, .int 0, .int 0, .ref z6, .ref z29, .ref z7, .int 0, .int 2, .ref z19, .ref z8, .ref z9, .ref z10, .int 0, .ref z11, .int 0, .ref z30, .ref z31, .ref z32, .ref z33, .int 0, .ref z12, .int 0, .int 0, .ref z34, .ref z35, .ref z36, .ref z37, .int 0, .int 0, .int 0, .int 0, .ref z38, .int 0, .ref z39, .ref z40, .ref z41, .ref z42, .int 0, .ref z13, .ref z14, .ref z15, .ref z16, .int 0, .ref z17, .ref z18, .ref z43]))]) [0] rfl
    have hD9 := hD.sub (ws' := [(h0, .inr (12, [.ref z0, .ref z1, .ref z2, .ref z3, .ref z4, .ref z5, .ref z20, .ref z21, .ref z22, .ref z23, .ref z24, .ref z25, .int 0, .ref z26, .ref z27, .ref z28, .int 9, .int 0, .int 0, .ref z6, .ref z29, .ref z7, .int 0, .int 2, .ref z19, .ref z8, .ref z9, .ref z10, .int 0, .ref z11, .int 0, .ref z30, .ref z31, .ref z32, .ref z33, .int 0, .ref z12, .int 0, .int 0, .ref z34, .ref z35, .ref z36, .ref z37, .int 0, .int 0, .int 0, .int 0, .ref z38, .int 0, .ref z39, .ref z40, .ref z41, .ref z42, .int 0, .ref z13, .ref z14, .ref z15, .ref z16, .int 0, .ref z17, .ref z18, .ref z43]))]) [0] (by decide) rfl
    exact W.iret (v := 1) hx hb hr (fun t ht hW => ⟨⟨1, (), rfl, by decide, ⟨by rw [ht]; exact hP9, va_K.moved hW.alike hK, hD9⟩⟩, hS.F ht⟩) hS.2.2 dX12_passAt_22
  · have hPc := hP.sub (ws' := []) [] rfl
    have hDc := hD.sub (ws' := []) [] (by decide) rfl
    have hFc := va_free (wc := []) hD hS hA [] rfl
    refine va_calli (va_runS (As := [.int 1]) (rest := []) ⟨hx, hb, hml, hown, hts⟩ (kX12_passOf_1 l D G  H.size) (va_cwS 1 hts gX12_passAt_X12_passOf rfl rfl rfl (by decide +kernel) ⟨Nat.le_of_ble_eq_true rfl, Nat.le_of_ble_eq_true rfl⟩) ⟨wB_blind, wB_pre hPc hK hDc hN⟩ rfl rfl hl.1 rfl (lv_room (Nat.le_of_ble_eq_true rfl)) dX12_passAt_19 ⟨Nat.le_of_ble_eq_true rfl, Nat.le_of_ble_eq_true rfl⟩) hS (fun q _ h => hFc q h) hFc (fun r6 u t H1 locs ht hvm hr6 hB hz1 hk1 hS => ?_)
    obtain ⟨hP, hD⟩ := va_join (wr := [(h0, .inr (12, [.ref z0, .ref z1, .ref z2, .ref z3, .ref z4, .ref z5, .ref z20, .ref z21, .ref z22, .ref z23, .ref z24, .ref z25, .int 0, .ref z26, .ref z27, .ref z28, .int 9, .int 0, .int 0, .ref z6, .ref z29, .ref z7, .int 0, .int 2, .ref z19, .ref z8, .ref z9, .ref z10, .int 0, .ref z11, .int 0, .ref z30, .ref z31, .ref z32, .ref z33, .int 0, .ref z12, .int 0, .int 0, .ref z34, .ref z35, .ref z36, .ref z37, .int 0, .int 0, .int 0, .int 0, .ref z38, .int 0, .ref z39, .ref z40, .ref z41, .ref z42, .int 0, .ref z13, .ref z14, .ref z15, .ref z16, .int 0, .ref z17, .ref z18, .ref z43]))]) (w1 := []) hP hD [] [0] rfl rfl (by decide) (by decide) hk1 hFc wP_nil wD_nil
    clear hPc hDc
    generalize H1 = H at hP hS ⊢
    have hP : va_P D vwCl [(h0, .inr (12, [.ref z0, .ref z1, .ref z2, .ref z3, .ref z4, .ref z5, .ref z20, .ref z21, .ref z22, .ref z23, .ref z24, .ref z25, .int 0, .ref z26, .ref z27, .ref z28, .int 9, .int 0, .int 0, .ref z6, .ref z29, .ref z7, .int 0, .int 2, .ref z19, .ref z8, .ref z9, .ref z10, .int 0, .ref z11, .int 0, .ref z30, .ref z31, .ref z32, .ref z33, .int 0, .ref z12, .int 0, .int 0, .ref z34, .ref z35, .ref z36, .ref z37, .int 0, .int 0, .int 0, .int 0, .ref z38, .int 0, .ref z39, .ref z40, .ref z41, .ref z42, .int 0, .ref z13, .ref z14, .ref z15, .ref z16, .int 0, .ref z17, .ref z18, .ref z43]))] H := hP
    have hD : va_D A [(h0, .inr (12, [.ref z0, .ref z1, .ref z2, .ref z3, .ref z4, .ref z5, .ref z20, .ref z21, .ref z22, .ref z23, .ref z24, .ref z25, .int 0, .ref z26, .ref z27, .ref z28, .int 9, .int 0, .int 0, .ref z6, .ref z29, .ref z7, .int 0, .int 2, .ref z19, .ref z8, .ref z9, .ref z10, .int 0, .ref z11, .int 0, .ref z30, .ref z31, .ref z32, .ref z33, .int 0, .ref z12, .int 0, .int 0, .ref z34, .ref z35, .ref z36, .ref z37, .int 0, .int 0, .int 0, .int 0, .ref z38, .int 0, .ref z39, .ref z40, .ref z41, .ref z42, .int 0, .ref z13, .ref z14, .ref z15, .ref z16, .int 0, .ref z17, .ref z18, .ref z43]))] := hD
    subst hr6
    have hP9 := hP.sub (ws' := [(h0, .inr (12, [.ref z0, .ref z1, .ref z2, .ref z3, .ref z4, .ref z5, .ref z20, .ref z21, .ref z22, .ref z23, .ref z24, .ref z25, .int 0, .ref z26, .ref z27, .ref z28, .int 9, .int 0, .int 0, .ref z6, .ref z29, .ref z7, .int 0, .int 2, .ref z19, .ref z8, .ref z9, .ref z10, .int 0, .ref z11, .int 0, .ref z30, .ref z31, .ref z32, .ref z33, .int 0, .ref z12, .int 0, .int 0, .ref z34, .ref z35, .ref z36, .ref z37, .int 0, .int 0, .int 0, .int 0, .ref z38, .int 0, .ref z39, .ref z40, .ref z41, .ref z42, .int 0, .ref z13, .ref z14, .ref z15, .ref z16, .int 0, .ref z17, .ref z18, .ref z43]))]) [0] rfl
    have hD9 := hD.sub (ws' := [(h0, .inr (12, [.ref z0, .ref z1, .ref z2, .ref z3, .ref z4, .ref z5, .ref z20, .ref z21, .ref z22, .ref z23, .ref z24, .ref z25, .int 0, .ref z26, .ref z27, .ref z28, .int 9, .int 0, .int 0, .ref z6, .ref z29, .ref z7, .int 0, .int 2, .ref z19, .ref z8, .ref z9, .ref z10, .int 0, .ref z11, .int 0, .ref z30, .ref z31, .ref z32, .ref z33, .int 0, .ref z12, .int 0, .int 0, .ref z34, .ref z35, .ref z36, .ref z37, .int 0, .int 0, .int 0, .int 0, .ref z38, .int 0, .ref z39, .ref z40, .ref z41, .ref z42, .int 0, .ref z13, .ref z14, .ref z15, .ref z16, .int 0, .ref z17, .ref z18, .ref z43]))]) [0] (by decide) rfl
    exact W.iret (v := (-1)) hx hb hr (fun t ht hW => ⟨⟨(-1), (), rfl, by decide, ⟨by rw [ht]; exact hP9, va_K.moved hW.alike hK, hD9⟩⟩, hS.F ht⟩) hS.2.2 dX12_passAt_22
  · have hPc := hP.sub (ws' := []) [] rfl
    have hDc := hD.sub (ws' := []) [] (by decide) rfl
    have hFc := va_free (wc := []) hD hS hA [] rfl
    refine va_calli (va_runS (As := [.int (-1)]) (rest := []) ⟨hx, hb, hml, hown, hts⟩ (kX12_passOf_m l D G  H.size) (va_cwS 1 hts gX12_passAt_X12_passOf rfl rfl rfl (by decide +kernel) ⟨Nat.le_of_ble_eq_true rfl, Nat.le_of_ble_eq_true rfl⟩) ⟨wB_blind, wB_pre hPc hK hDc hN⟩ rfl rfl hl.1 rfl (lv_room (Nat.le_of_ble_eq_true rfl)) dX12_passAt_19 ⟨Nat.le_of_ble_eq_true rfl, Nat.le_of_ble_eq_true rfl⟩) hS (fun q _ h => hFc q h) hFc (fun r7 u t H1 locs ht hvm hr7 hB hz1 hk1 hS => ?_)
    obtain ⟨hP, hD⟩ := va_join (wr := [(h0, .inr (12, [.ref z0, .ref z1, .ref z2, .ref z3, .ref z4, .ref z5, .ref z20, .ref z21, .ref z22, .ref z23, .ref z24, .ref z25, .int 0, .ref z26, .ref z27, .ref z28, .int 9, .int 0, .int 0, .ref z6, .ref z29, .ref z7, .int 0, .int 2, .ref z19, .ref z8, .ref z9, .ref z10, .int 0, .ref z11, .int 0, .ref z30, .ref z31, .ref z32, .ref z33, .int 0, .ref z12, .int 0, .int 0, .ref z34, .ref z35, .ref z36, .ref z37, .int 0, .int 0, .int 0, .int 0, .ref z38, .int 0, .ref z39, .ref z40, .ref z41, .ref z42, .int 0, .ref z13, .ref z14, .ref z15, .ref z16, .int 0, .ref z17, .ref z18, .ref z43]))]) (w1 := []) hP hD [] [0] rfl rfl (by decide) (by decide) hk1 hFc wP_nil wD_nil
    clear hPc hDc
    generalize H1 = H at hP hS ⊢
    have hP : va_P D vwCl [(h0, .inr (12, [.ref z0, .ref z1, .ref z2, .ref z3, .ref z4, .ref z5, .ref z20, .ref z21, .ref z22, .ref z23, .ref z24, .ref z25, .int 0, .ref z26, .ref z27, .ref z28, .int 9, .int 0, .int 0, .ref z6, .ref z29, .ref z7, .int 0, .int 2, .ref z19, .ref z8, .ref z9, .ref z10, .int 0, .ref z11, .int 0, .ref z30, .ref z31, .ref z32, .ref z33, .int 0, .ref z12, .int 0, .int 0, .ref z34, .ref z35, .ref z36, .ref z37, .int 0, .int 0, .int 0, .int 0, .ref z38, .int 0, .ref z39, .ref z40, .ref z41, .ref z42, .int 0, .ref z13, .ref z14, .ref z15, .ref z16, .int 0, .ref z17, .ref z18, .ref z43]))] H := hP
    have hD : va_D A [(h0, .inr (12, [.ref z0, .ref z1, .ref z2, .ref z3, .ref z4, .ref z5, .ref z20, .ref z21, .ref z22, .ref z23, .ref z24, .ref z25, .int 0, .ref z26, .ref z27, .ref z28, .int 9, .int 0, .int 0, .ref z6, .ref z29, .ref z7, .int 0, .int 2, .ref z19, .ref z8, .ref z9, .ref z10, .int 0, .ref z11, .int 0, .ref z30, .ref z31, .ref z32, .ref z33, .int 0, .ref z12, .int 0, .int 0, .ref z34, .ref z35, .ref z36, .ref z37, .int 0, .int 0, .int 0, .int 0, .ref z38, .int 0, .ref z39, .ref z40, .ref z41, .ref z42, .int 0, .ref z13, .ref z14, .ref z15, .ref z16, .int 0, .ref z17, .ref z18, .ref z43]))] := hD
    subst hr7
    have hP9 := hP.sub (ws' := [(h0, .inr (12, [.ref z0, .ref z1, .ref z2, .ref z3, .ref z4, .ref z5, .ref z20, .ref z21, .ref z22, .ref z23, .ref z24, .ref z25, .int 0, .ref z26, .ref z27, .ref z28, .int 9, .int 0, .int 0, .ref z6, .ref z29, .ref z7, .int 0, .int 2, .ref z19, .ref z8, .ref z9, .ref z10, .int 0, .ref z11, .int 0, .ref z30, .ref z31, .ref z32, .ref z33, .int 0, .ref z12, .int 0, .int 0, .ref z34, .ref z35, .ref z36, .ref z37, .int 0, .int 0, .int 0, .int 0, .ref z38, .int 0, .ref z39, .ref z40, .ref z41, .ref z42, .int 0, .ref z13, .ref z14, .ref z15, .ref z16, .int 0, .ref z17, .ref z18, .ref z43]))]) [0] rfl
    have hD9 := hD.sub (ws' := [(h0, .inr (12, [.ref z0, .ref z1, .ref z2, .ref z3, .ref z4, .ref z5, .ref z20, .ref z21, .ref z22, .ref z23, .ref z24, .ref z25, .int 0, .ref z26, .ref z27, .ref z28, .int 9, .int 0, .int 0, .ref z6, .ref z29, .ref z7, .int 0, .int 2, .ref z19, .ref z8, .ref z9, .ref z10, .int 0, .ref z11, .int 0, .ref z30, .ref z31, .ref z32, .ref z33, .int 0, .ref z12, .int 0, .int 0, .ref z34, .ref z35, .ref z36, .ref z37, .int 0, .int 0, .int 0, .int 0, .ref z38, .int 0, .ref z39, .ref z40, .ref z41, .ref z42, .int 0, .ref z13, .ref z14, .ref z15, .ref z16, .int 0, .ref z17, .ref z18, .ref z43]))]) [0] (by decide) rfl
    exact W.iret (v := (-1)) hx hb hr (fun t ht hW => ⟨⟨(-1), (), rfl, by decide, ⟨by rw [ht]; exact hP9, va_K.moved hW.alike hK, hD9⟩⟩, hS.F ht⟩) hS.2.2 dX12_passAt_22

set_option maxHeartbeats 4000000 in
set_option maxRecDepth 100000 in
/-- X12_times -/
theorem kX12_times_s (l : Launch) (D : va_G) (G : tyG) (a : Nat) (i : Int32) (f : Nat → Int64) (hi : i = 1 ∨ i = -1) (sz : Nat) : Met l yX12_times wsX12_times ({ frames := 1, cells := 0, slots := 0, locals := 32 }) (va_Pc [.ref a, .int i, .long 714288] (wB D G sz [(a, .inl (G.2.1, 25, .inr (.inl f)))])) (va_Qv (fun _ : Unit => True) (fun _ t => ∃ (g9 : Nat → Int64), wS D G (va_A [(a, .inl (G.2.1, 25, .inr (.inl f)))] sz) [(a, .inl (G.2.1, 25, .inr (.inl g9)))] t) (va_A [(a, .inl (G.2.1, 25, .inr (.inl f)))] sz)) 0 0 (va_A [(a, .inl (G.2.1, 25, .inr (.inl f)))] sz) := by
  refine Met.ofW (cc := cX12_times) (maxL := 14) (ret := none) (by decide) rfl ?_
  intro p e s m args below meth c s₁ B hml hv
  obtain ⟨rfl, hsz, hP, hK, hD0, hN⟩ := hv
  have hx := B.exec
  have hb := B.bytes
  have hr := B.returns
  have hts := atoms_spec (ws := wsX12_times) B.pre
  have hown : s.vm.findClass RX12 = some m.cls := findClass_of_methodNamed B.named
  have hlocks := B.notSynchronized
  subst hsz
  have hD := hD0.self (sz := s.heap.size)
  generalize hAe : va_A [(a, .inl (G.2.1, 25, .inr (.inl f)))] s.heap.size = A at hD ⊢
  have hA : ∀ q : Nat, s.heap.size ≤ q → A q := fun q h => by rw [← hAe]; exact Or.inr h
  have hS : va_S A s.heap s.heap [] := va_S.rf
  have hP : va_P D vwCl [(a, .inl (G.2.1, 25, .inr (.inl f)))] s.heap := hP
  have hl := lv_entry ([.ref a, .int i, .long 714288]) (n := 14) (Nat.le_of_ble_eq_true rfl)
  rw [lg_entry_eq]
  generalize (lg_sl ([.ref a, .int i, .long 714288]) ++ List.replicate (14 - (lg_sl ([.ref a, .int i, .long 714288])).length) Slot.unset).toArray = ls at hl ⊢
  have hl : lv_has ls 14 [(0, .ref a), (1, .int i), (2, .long 714288)] := hl
  rcases hi with rfl | rfl
  · refine lv_iload_n hx hb dX12_times_0 rfl (lv_at hl 1 rfl) ?_
    refine va_mabs hx hb (by rw [hml]; exact hl.1.symm) hown (hts (.methodLink RX12 228 Lib.Math.abs.name) mX12_times_w0) (hts (.static Lib.Math.abs.name) mX12_times_w1) (hts (.initialized "java/lang/Math") mX12_times_w2) (hts (.code Lib.Math.abs.name Lib.Math.abs.code 1 (some .int)) mX12_times_w3) (Nat.le_of_ble_eq_true rfl) (Nat.le_of_ble_eq_true rfl) (Nat.le_of_ble_eq_true rfl) (Nat.le_of_ble_eq_true rfl) dX12_times_1 ?_
    refine wk_i 1 (by decide) ?_
    refine lv_iconst (v := 1) hx hb dX12_times_4 (by decide) ?_
    refine lv_isub hx hb dX12_times_5 ?_
    refine wk_i 0 (by decide) ?_
    refine lv_istore (lv' := [(4, .int 0), (0, .ref a), (1, .int 1), (2, .long 714288)]) hx hb dX12_times_6 hl (by decide) rfl (fun ls hl => ?_)
    refine lv_iconst (v := 0) hx hb dX12_times_8 (by decide) ?_
    refine lv_istore (lv' := [(5, .int 0), (4, .int 0), (0, .ref a), (1, .int 1), (2, .long 714288)]) hx hb dX12_times_9 hl (by decide) rfl (fun ls hl => ?_)
    refine lv_iload hx hb dX12_times_11 (lv_at hl 0 rfl) ?_
    refine lv_iconst (v := 5) hx hb dX12_times_13 (by decide) ?_
    refine lv_icmp_ge (tgt := 129) hx hb dX12_times_14 (by decide) (fun h9 => absurd h9 (by decide)) (fun _ => ?_)
    refine lv_aload_n hx hb dX12_times_17 rfl (lv_at hl 2 rfl) ?_
    refine lv_iconst (v := 5) hx hb dX12_times_18 (by decide) ?_
    refine lv_iload hx hb dX12_times_19 (lv_at hl 0 rfl) ?_
    refine lv_imul hx hb dX12_times_21 ?_
    refine wk_i 0 (by decide) ?_
    refine lv_iload hx hb dX12_times_22 (lv_at hl 1 rfl) ?_
    refine lv_iadd hx hb dX12_times_24 ?_
    refine wk_i 0 (by decide) ?_
    refine va_lald hx hb hK hP 0 1 rfl rfl (wk_in rfl) dX12_times_25 ?_
    refine lv_topl (fun w1 ew1 => ?_)
    refine lv_lstore (lv' := [(6, .long w1), (5, .int 0), (4, .int 0), (0, .ref a), (1, .int 1), (2, .long 714288)]) hx hb dX12_times_26 hl (by decide) rfl (fun ls hl => ?_)
    refine lv_aload_n hx hb dX12_times_28 rfl (lv_at hl 3 rfl) ?_
    refine lv_iconst (v := 5) hx hb dX12_times_29 (by decide) ?_
    refine lv_iload hx hb dX12_times_30 (lv_at hl 1 rfl) ?_
    refine lv_imul hx hb dX12_times_32 ?_
    refine wk_i 0 (by decide) ?_
    refine lv_iload hx hb dX12_times_33 (lv_at hl 2 rfl) ?_
    refine lv_iadd hx hb dX12_times_35 ?_
    refine wk_i 0 (by decide) ?_
    refine lv_iconst (v := 1) hx hb dX12_times_36 (by decide) ?_
    refine lv_iadd hx hb dX12_times_37 ?_
    refine wk_i 1 (by decide) ?_
    refine va_lald hx hb hK hP 0 1 rfl rfl (wk_in rfl) dX12_times_38 ?_
    refine lv_topl (fun w2 ew2 => ?_)
    refine lv_lstore (lv' := [(8, .long w2), (6, .long w1), (5, .int 0), (4, .int 0), (0, .ref a), (1, .int 1), (2, .long 714288)]) hx hb dX12_times_39 hl (by decide) rfl (fun ls hl => ?_)
    refine lv_iload_n hx hb dX12_times_41 rfl (lv_at hl 5 rfl) ?_
    refine lv_if_le (tgt := 57) hx hb dX12_times_42 (by decide) (fun h9 => absurd h9 (by decide)) (fun _ => ?_)
    refine lv_lload hx hb dX12_times_45 (lv_at hl 1 rfl) ?_
    refine lv_ldc2 (v := 999997) hx hb hown (hts (.constantLong RX12 341 (999997)) mX12_times_w4) dX12_times_47 ?_
    refine lv_lmul hx hb dX12_times_50 ?_
    refine lv_topl (fun w3 ew3 => ?_)
    refine lv_lload hx hb dX12_times_51 (lv_at hl 0 rfl) ?_
    refine lv_ladd hx hb dX12_times_53 ?_
    refine lv_topl (fun w4 ew4 => ?_)
    refine lv_goto (tgt := 61) hx hb dX12_times_54 (by decide) ?_
    refine lv_lstore (lv' := [(10, .long w4), (8, .long w2), (6, .long w1), (5, .int 0), (4, .int 0), (0, .ref a), (1, .int 1), (2, .long 714288)]) hx hb dX12_times_61 hl (by decide) rfl (fun ls hl => ?_)
    refine lv_iload_n hx hb dX12_times_63 rfl (lv_at hl 6 rfl) ?_
    refine lv_if_le (tgt := 76) hx hb dX12_times_64 (by decide) (fun h9 => absurd h9 (by decide)) (fun _ => ?_)
    refine lv_lload hx hb dX12_times_67 (lv_at hl 2 rfl) ?_
    refine lv_ldc2 (v := 7) hx hb hown (hts (.constantLong RX12 343 (7)) mX12_times_w5) dX12_times_69 ?_
    refine lv_lmul hx hb dX12_times_72 ?_
    refine lv_topl (fun w5 ew5 => ?_)
    refine lv_goto (tgt := 89) hx hb dX12_times_73 (by decide) ?_
    refine lv_lstore (lv' := [(12, .long w5), (10, .long w4), (8, .long w2), (6, .long w1), (5, .int 0), (4, .int 0), (0, .ref a), (1, .int 1), (2, .long 714288)]) hx hb dX12_times_89 hl (by decide) rfl (fun ls hl => ?_)
    refine lv_aload_n hx hb dX12_times_91 rfl (lv_at hl 6 rfl) ?_
    refine lv_iconst (v := 5) hx hb dX12_times_92 (by decide) ?_
    refine lv_iload hx hb dX12_times_93 (lv_at hl 4 rfl) ?_
    refine lv_imul hx hb dX12_times_95 ?_
    refine wk_i 0 (by decide) ?_
    refine lv_iload hx hb dX12_times_96 (lv_at hl 5 rfl) ?_
    refine lv_iadd hx hb dX12_times_98 ?_
    refine wk_i 0 (by decide) ?_
    refine lv_lload hx hb dX12_times_99 (lv_at hl 1 rfl) ?_
    refine lv_ldc2 (v := 1000003) hx hb hown (hts (.constantLong RX12 339 (1000003)) mX12_times_w6) dX12_times_101 ?_
    refine lv_lrem hx hb dX12_times_104 (by decide) ?_
    refine lv_topl (fun w6 ew6 => ?_)
    refine va_last hx hb hK hP hD hS 0 1 rfl rfl (wk_in rfl) dX12_times_105 (fun H locs hP hD hS => ?_)
    have hP : va_P D vwCl [(a, .inl (G.2.1, 25, .inr (.inl (vp_updL f 0 w6))))] H := hP
    have hD : va_D A [(a, .inl (G.2.1, 25, .inr (.inl (vp_updL f 0 w6))))] := hD
    refine lv_aload_n hx hb dX12_times_106 rfl (lv_at hl 6 rfl) ?_
    refine lv_iconst (v := 5) hx hb dX12_times_107 (by decide) ?_
    refine lv_iload hx hb dX12_times_108 (lv_at hl 4 rfl) ?_
    refine lv_imul hx hb dX12_times_110 ?_
    refine wk_i 0 (by decide) ?_
    refine lv_iload hx hb dX12_times_111 (lv_at hl 5 rfl) ?_
    refine lv_iadd hx hb dX12_times_113 ?_
    refine wk_i 0 (by decide) ?_
    refine lv_iconst (v := 1) hx hb dX12_times_114 (by decide) ?_
    refine lv_iadd hx hb dX12_times_115 ?_
    refine wk_i 1 (by decide) ?_
    refine lv_lload hx hb dX12_times_116 (lv_at hl 0 rfl) ?_
    refine lv_ldc2 (v := 1000003) hx hb hown (hts (.constantLong RX12 339 (1000003)) mX12_times_w6) dX12_times_118 ?_
    refine lv_lrem hx hb dX12_times_121 (by decide) ?_
    refine lv_topl (fun w7 ew7 => ?_)
    refine va_last hx hb hK hP hD hS 0 1 rfl rfl (wk_in rfl) dX12_times_122 (fun H locs hP hD hS => ?_)
    have hP : va_P D vwCl [(a, .inl (G.2.1, 25, .inr (.inl (vp_updL (vp_updL f 0 w6) 1 w7))))] H := hP
    have hD : va_D A [(a, .inl (G.2.1, 25, .inr (.inl (vp_updL (vp_updL f 0 w6) 1 w7))))] := hD
    refine lv_iinc (v := 1) (lv' := [(5, .int 1), (12, .long w5), (10, .long w4), (8, .long w2), (6, .long w1), (4, .int 0), (0, .ref a), (1, .int 1), (2, .long 714288)]) hx hb dX12_times_123 hl (k := 4) rfl (by decide) (by decide) rfl (fun ls hl => ?_)
    refine lv_goto (tgt := 11) hx hb dX12_times_126 (by decide) ?_
    refine lv_iload hx hb dX12_times_11 (lv_at hl 0 rfl) ?_
    refine lv_iconst (v := 5) hx hb dX12_times_13 (by decide) ?_
    refine lv_icmp_ge (tgt := 129) hx hb dX12_times_14 (by decide) (fun h9 => absurd h9 (by decide)) (fun _ => ?_)
    refine lv_aload_n hx hb dX12_times_17 rfl (lv_at hl 6 rfl) ?_
    refine lv_iconst (v := 5) hx hb dX12_times_18 (by decide) ?_
    refine lv_iload hx hb dX12_times_19 (lv_at hl 0 rfl) ?_
    refine lv_imul hx hb dX12_times_21 ?_
    refine wk_i 5 (by decide) ?_
    refine lv_iload hx hb dX12_times_22 (lv_at hl 5 rfl) ?_
    refine lv_iadd hx hb dX12_times_24 ?_
    refine wk_i 5 (by decide) ?_
    refine va_lald hx hb hK hP 0 1 rfl rfl (wk_in rfl) dX12_times_25 ?_
    refine lv_topl (fun w8 ew8 => ?_)
    refine lv_lstore (lv' := [(6, .long w8), (5, .int 1), (12, .long w5), (10, .long w4), (8, .long w2), (4, .int 0), (0, .ref a), (1, .int 1), (2, .long 714288)]) hx hb dX12_times_26 hl (by decide) rfl (fun ls hl => ?_)
    refine lv_aload_n hx hb dX12_times_28 rfl (lv_at hl 6 rfl) ?_
    refine lv_iconst (v := 5) hx hb dX12_times_29 (by decide) ?_
    refine lv_iload hx hb dX12_times_30 (lv_at hl 1 rfl) ?_
    refine lv_imul hx hb dX12_times_32 ?_
    refine wk_i 5 (by decide) ?_
    refine lv_iload hx hb dX12_times_33 (lv_at hl 5 rfl) ?_
    refine lv_iadd hx hb dX12_times_35 ?_
    refine wk_i 5 (by decide) ?_
    refine lv_iconst (v := 1) hx hb dX12_times_36 (by decide) ?_
    refine lv_iadd hx hb dX12_times_37 ?_
    refine wk_i 6 (by decide) ?_
    refine va_lald hx hb hK hP 0 1 rfl rfl (wk_in rfl) dX12_times_38 ?_
    refine lv_topl (fun w9 ew9 => ?_)
    refine lv_lstore (lv' := [(8, .long w9), (6, .long w8), (5, .int 1), (12, .long w5), (10, .long w4), (4, .int 0), (0, .ref a), (1, .int 1), (2, .long 714288)]) hx hb dX12_times_39 hl (by decide) rfl (fun ls hl => ?_)
    refine lv_iload_n hx hb dX12_times_41 rfl (lv_at hl 7 rfl) ?_
    refine lv_if_le (tgt := 57) hx hb dX12_times_42 (by decide) (fun h9 => absurd h9 (by decide)) (fun _ => ?_)
    refine lv_lload hx hb dX12_times_45 (lv_at hl 1 rfl) ?_
    refine lv_ldc2 (v := 999997) hx hb hown (hts (.constantLong RX12 341 (999997)) mX12_times_w4) dX12_times_47 ?_
    refine lv_lmul hx hb dX12_times_50 ?_
    refine lv_topl (fun w10 ew10 => ?_)
    refine lv_lload hx hb dX12_times_51 (lv_at hl 0 rfl) ?_
    refine lv_ladd hx hb dX12_times_53 ?_
    refine lv_topl (fun w11 ew11 => ?_)
    refine lv_goto (tgt := 61) hx hb dX12_times_54 (by decide) ?_
    refine lv_lstore (lv' := [(10, .long w11), (8, .long w9), (6, .long w8), (5, .int 1), (12, .long w5), (4, .int 0), (0, .ref a), (1, .int 1), (2, .long 714288)]) hx hb dX12_times_61 hl (by decide) rfl (fun ls hl => ?_)
    refine lv_iload_n hx hb dX12_times_63 rfl (lv_at hl 7 rfl) ?_
    refine lv_if_le (tgt := 76) hx hb dX12_times_64 (by decide) (fun h9 => absurd h9 (by decide)) (fun _ => ?_)
    refine lv_lload hx hb dX12_times_67 (lv_at hl 2 rfl) ?_
    refine lv_ldc2 (v := 7) hx hb hown (hts (.constantLong RX12 343 (7)) mX12_times_w5) dX12_times_69 ?_
    refine lv_lmul hx hb dX12_times_72 ?_
    refine lv_topl (fun w12 ew12 => ?_)
    refine lv_goto (tgt := 89) hx hb dX12_times_73 (by decide) ?_
    refine lv_lstore (lv' := [(12, .long w12), (10, .long w11), (8, .long w9), (6, .long w8), (5, .int 1), (4, .int 0), (0, .ref a), (1, .int 1), (2, .long 714288)]) hx hb dX12_times_89 hl (by decide) rfl (fun ls hl => ?_)
    refine lv_aload_n hx hb dX12_times_91 rfl (lv_at hl 6 rfl) ?_
    refine lv_iconst (v := 5) hx hb dX12_times_92 (by decide) ?_
    refine lv_iload hx hb dX12_times_93 (lv_at hl 4 rfl) ?_
    refine lv_imul hx hb dX12_times_95 ?_
    refine wk_i 5 (by decide) ?_
    refine lv_iload hx hb dX12_times_96 (lv_at hl 5 rfl) ?_
    refine lv_iadd hx hb dX12_times_98 ?_
    refine wk_i 5 (by decide) ?_
    refine lv_lload hx hb dX12_times_99 (lv_at hl 1 rfl) ?_
    refine lv_ldc2 (v := 1000003) hx hb hown (hts (.constantLong RX12 339 (1000003)) mX12_times_w6) dX12_times_101 ?_
    refine lv_lrem hx hb dX12_times_104 (by decide) ?_
    refine lv_topl (fun w13 ew13 => ?_)
    refine va_last hx hb hK hP hD hS 0 1 rfl rfl (wk_in rfl) dX12_times_105 (fun H locs hP hD hS => ?_)
    have hP : va_P D vwCl [(a, .inl (G.2.1, 25, .inr (.inl (vp_updL (vp_updL (vp_updL f 0 w6) 1 w7) 5 w13))))] H := hP
    have hD : va_D A [(a, .inl (G.2.1, 25, .inr (.inl (vp_updL (vp_updL (vp_updL f 0 w6) 1 w7) 5 w13))))] := hD
    refine lv_aload_n hx hb dX12_times_106 rfl (lv_at hl 6 rfl) ?_
    refine lv_iconst (v := 5) hx hb dX12_times_107 (by decide) ?_
    refine lv_iload hx hb dX12_times_108 (lv_at hl 4 rfl) ?_
    refine lv_imul hx hb dX12_times_110 ?_
    refine wk_i 5 (by decide) ?_
    refine lv_iload hx hb dX12_times_111 (lv_at hl 5 rfl) ?_
    refine lv_iadd hx hb dX12_times_113 ?_
    refine wk_i 5 (by decide) ?_
    refine lv_iconst (v := 1) hx hb dX12_times_114 (by decide) ?_
    refine lv_iadd hx hb dX12_times_115 ?_
    refine wk_i 6 (by decide) ?_
    refine lv_lload hx hb dX12_times_116 (lv_at hl 0 rfl) ?_
    refine lv_ldc2 (v := 1000003) hx hb hown (hts (.constantLong RX12 339 (1000003)) mX12_times_w6) dX12_times_118 ?_
    refine lv_lrem hx hb dX12_times_121 (by decide) ?_
    refine lv_topl (fun w14 ew14 => ?_)
    refine va_last hx hb hK hP hD hS 0 1 rfl rfl (wk_in rfl) dX12_times_122 (fun H locs hP hD hS => ?_)
    have hP : va_P D vwCl [(a, .inl (G.2.1, 25, .inr (.inl (vp_updL (vp_updL (vp_updL (vp_updL f 0 w6) 1 w7) 5 w13) 6 w14))))] H := hP
    have hD : va_D A [(a, .inl (G.2.1, 25, .inr (.inl (vp_updL (vp_updL (vp_updL (vp_updL f 0 w6) 1 w7) 5 w13) 6 w14))))] := hD
    refine lv_iinc (v := 2) (lv' := [(5, .int 2), (12, .long w12), (10, .long w11), (8, .long w9), (6, .long w8), (4, .int 0), (0, .ref a), (1, .int 1), (2, .long 714288)]) hx hb dX12_times_123 hl (k := 4) rfl (by decide) (by decide) rfl (fun ls hl => ?_)
    refine lv_goto (tgt := 11) hx hb dX12_times_126 (by decide) ?_
    refine lv_iload hx hb dX12_times_11 (lv_at hl 0 rfl) ?_
    refine lv_iconst (v := 5) hx hb dX12_times_13 (by decide) ?_
    refine lv_icmp_ge (tgt := 129) hx hb dX12_times_14 (by decide) (fun h9 => absurd h9 (by decide)) (fun _ => ?_)
    refine lv_aload_n hx hb dX12_times_17 rfl (lv_at hl 6 rfl) ?_
    refine lv_iconst (v := 5) hx hb dX12_times_18 (by decide) ?_
    refine lv_iload hx hb dX12_times_19 (lv_at hl 0 rfl) ?_
    refine lv_imul hx hb dX12_times_21 ?_
    refine wk_i 10 (by decide) ?_
    refine lv_iload hx hb dX12_times_22 (lv_at hl 5 rfl) ?_
    refine lv_iadd hx hb dX12_times_24 ?_
    refine wk_i 10 (by decide) ?_
    refine va_lald hx hb hK hP 0 1 rfl rfl (wk_in rfl) dX12_times_25 ?_
    refine lv_topl (fun w15 ew15 => ?_)
    refine lv_lstore (lv' := [(6, .long w15), (5, .int 2), (12, .long w12), (10, .long w11), (8, .long w9), (4, .int 0), (0, .ref a), (1, .int 1), (2, .long 714288)]) hx hb dX12_times_26 hl (by decide) rfl (fun ls hl => ?_)
    refine lv_aload_n hx hb dX12_times_28 rfl (lv_at hl 6 rfl) ?_
    refine lv_iconst (v := 5) hx hb dX12_times_29 (by decide) ?_
    refine lv_iload hx hb dX12_times_30 (lv_at hl 1 rfl) ?_
    refine lv_imul hx hb dX12_times_32 ?_
    refine wk_i 10 (by decide) ?_
    refine lv_iload hx hb dX12_times_33 (lv_at hl 5 rfl) ?_
    refine lv_iadd hx hb dX12_times_35 ?_
    refine wk_i 10 (by decide) ?_
    refine lv_iconst (v := 1) hx hb dX12_times_36 (by decide) ?_
    refine lv_iadd hx hb dX12_times_37 ?_
    refine wk_i 11 (by decide) ?_
    refine va_lald hx hb hK hP 0 1 rfl rfl (wk_in rfl) dX12_times_38 ?_
    refine lv_topl (fun w16 ew16 => ?_)
    refine lv_lstore (lv' := [(8, .long w16), (6, .long w15), (5, .int 2), (12, .long w12), (10, .long w11), (4, .int 0), (0, .ref a), (1, .int 1), (2, .long 714288)]) hx hb dX12_times_39 hl (by decide) rfl (fun ls hl => ?_)
    refine lv_iload_n hx hb dX12_times_41 rfl (lv_at hl 7 rfl) ?_
    refine lv_if_le (tgt := 57) hx hb dX12_times_42 (by decide) (fun h9 => absurd h9 (by decide)) (fun _ => ?_)
    refine lv_lload hx hb dX12_times_45 (lv_at hl 1 rfl) ?_
    refine lv_ldc2 (v := 999997) hx hb hown (hts (.constantLong RX12 341 (999997)) mX12_times_w4) dX12_times_47 ?_
    refine lv_lmul hx hb dX12_times_50 ?_
    refine lv_topl (fun w17 ew17 => ?_)
    refine lv_lload hx hb dX12_times_51 (lv_at hl 0 rfl) ?_
    refine lv_ladd hx hb dX12_times_53 ?_
    refine lv_topl (fun w18 ew18 => ?_)
    refine lv_goto (tgt := 61) hx hb dX12_times_54 (by decide) ?_
    refine lv_lstore (lv' := [(10, .long w18), (8, .long w16), (6, .long w15), (5, .int 2), (12, .long w12), (4, .int 0), (0, .ref a), (1, .int 1), (2, .long 714288)]) hx hb dX12_times_61 hl (by decide) rfl (fun ls hl => ?_)
    refine lv_iload_n hx hb dX12_times_63 rfl (lv_at hl 7 rfl) ?_
    refine lv_if_le (tgt := 76) hx hb dX12_times_64 (by decide) (fun h9 => absurd h9 (by decide)) (fun _ => ?_)
    refine lv_lload hx hb dX12_times_67 (lv_at hl 2 rfl) ?_
    refine lv_ldc2 (v := 7) hx hb hown (hts (.constantLong RX12 343 (7)) mX12_times_w5) dX12_times_69 ?_
    refine lv_lmul hx hb dX12_times_72 ?_
    refine lv_topl (fun w19 ew19 => ?_)
    refine lv_goto (tgt := 89) hx hb dX12_times_73 (by decide) ?_
    refine lv_lstore (lv' := [(12, .long w19), (10, .long w18), (8, .long w16), (6, .long w15), (5, .int 2), (4, .int 0), (0, .ref a), (1, .int 1), (2, .long 714288)]) hx hb dX12_times_89 hl (by decide) rfl (fun ls hl => ?_)
    refine lv_aload_n hx hb dX12_times_91 rfl (lv_at hl 6 rfl) ?_
    refine lv_iconst (v := 5) hx hb dX12_times_92 (by decide) ?_
    refine lv_iload hx hb dX12_times_93 (lv_at hl 4 rfl) ?_
    refine lv_imul hx hb dX12_times_95 ?_
    refine wk_i 10 (by decide) ?_
    refine lv_iload hx hb dX12_times_96 (lv_at hl 5 rfl) ?_
    refine lv_iadd hx hb dX12_times_98 ?_
    refine wk_i 10 (by decide) ?_
    refine lv_lload hx hb dX12_times_99 (lv_at hl 1 rfl) ?_
    refine lv_ldc2 (v := 1000003) hx hb hown (hts (.constantLong RX12 339 (1000003)) mX12_times_w6) dX12_times_101 ?_
    refine lv_lrem hx hb dX12_times_104 (by decide) ?_
    refine lv_topl (fun w20 ew20 => ?_)
    refine va_last hx hb hK hP hD hS 0 1 rfl rfl (wk_in rfl) dX12_times_105 (fun H locs hP hD hS => ?_)
    have hP : va_P D vwCl [(a, .inl (G.2.1, 25, .inr (.inl (vp_updL (vp_updL (vp_updL (vp_updL (vp_updL f 0 w6) 1 w7) 5 w13) 6 w14) 10 w20))))] H := hP
    have hD : va_D A [(a, .inl (G.2.1, 25, .inr (.inl (vp_updL (vp_updL (vp_updL (vp_updL (vp_updL f 0 w6) 1 w7) 5 w13) 6 w14) 10 w20))))] := hD
    refine lv_aload_n hx hb dX12_times_106 rfl (lv_at hl 6 rfl) ?_
    refine lv_iconst (v := 5) hx hb dX12_times_107 (by decide) ?_
    refine lv_iload hx hb dX12_times_108 (lv_at hl 4 rfl) ?_
    refine lv_imul hx hb dX12_times_110 ?_
    refine wk_i 10 (by decide) ?_
    refine lv_iload hx hb dX12_times_111 (lv_at hl 5 rfl) ?_
    refine lv_iadd hx hb dX12_times_113 ?_
    refine wk_i 10 (by decide) ?_
    refine lv_iconst (v := 1) hx hb dX12_times_114 (by decide) ?_
    refine lv_iadd hx hb dX12_times_115 ?_
    refine wk_i 11 (by decide) ?_
    refine lv_lload hx hb dX12_times_116 (lv_at hl 0 rfl) ?_
    refine lv_ldc2 (v := 1000003) hx hb hown (hts (.constantLong RX12 339 (1000003)) mX12_times_w6) dX12_times_118 ?_
    refine lv_lrem hx hb dX12_times_121 (by decide) ?_
    refine lv_topl (fun w21 ew21 => ?_)
    refine va_last hx hb hK hP hD hS 0 1 rfl rfl (wk_in rfl) dX12_times_122 (fun H locs hP hD hS => ?_)
    have hP : va_P D vwCl [(a, .inl (G.2.1, 25, .inr (.inl (vp_updL (vp_updL (vp_updL (vp_updL (vp_updL (vp_updL f 0 w6) 1 w7) 5 w13) 6 w14) 10 w20) 11 w21))))] H := hP
    have hD : va_D A [(a, .inl (G.2.1, 25, .inr (.inl (vp_updL (vp_updL (vp_updL (vp_updL (vp_updL (vp_updL f 0 w6) 1 w7) 5 w13) 6 w14) 10 w20) 11 w21))))] := hD
    refine lv_iinc (v := 3) (lv' := [(5, .int 3), (12, .long w19), (10, .long w18), (8, .long w16), (6, .long w15), (4, .int 0), (0, .ref a), (1, .int 1), (2, .long 714288)]) hx hb dX12_times_123 hl (k := 4) rfl (by decide) (by decide) rfl (fun ls hl => ?_)
    refine lv_goto (tgt := 11) hx hb dX12_times_126 (by decide) ?_
    refine lv_iload hx hb dX12_times_11 (lv_at hl 0 rfl) ?_
    refine lv_iconst (v := 5) hx hb dX12_times_13 (by decide) ?_
    refine lv_icmp_ge (tgt := 129) hx hb dX12_times_14 (by decide) (fun h9 => absurd h9 (by decide)) (fun _ => ?_)
    refine lv_aload_n hx hb dX12_times_17 rfl (lv_at hl 6 rfl) ?_
    refine lv_iconst (v := 5) hx hb dX12_times_18 (by decide) ?_
    refine lv_iload hx hb dX12_times_19 (lv_at hl 0 rfl) ?_
    refine lv_imul hx hb dX12_times_21 ?_
    refine wk_i 15 (by decide) ?_
    refine lv_iload hx hb dX12_times_22 (lv_at hl 5 rfl) ?_
    refine lv_iadd hx hb dX12_times_24 ?_
    refine wk_i 15 (by decide) ?_
    refine va_lald hx hb hK hP 0 1 rfl rfl (wk_in rfl) dX12_times_25 ?_
    refine lv_topl (fun w22 ew22 => ?_)
    refine lv_lstore (lv' := [(6, .long w22), (5, .int 3), (12, .long w19), (10, .long w18), (8, .long w16), (4, .int 0), (0, .ref a), (1, .int 1), (2, .long 714288)]) hx hb dX12_times_26 hl (by decide) rfl (fun ls hl => ?_)
    refine lv_aload_n hx hb dX12_times_28 rfl (lv_at hl 6 rfl) ?_
    refine lv_iconst (v := 5) hx hb dX12_times_29 (by decide) ?_
    refine lv_iload hx hb dX12_times_30 (lv_at hl 1 rfl) ?_
    refine lv_imul hx hb dX12_times_32 ?_
    refine wk_i 15 (by decide) ?_
    refine lv_iload hx hb dX12_times_33 (lv_at hl 5 rfl) ?_
    refine lv_iadd hx hb dX12_times_35 ?_
    refine wk_i 15 (by decide) ?_
    refine lv_iconst (v := 1) hx hb dX12_times_36 (by decide) ?_
    refine lv_iadd hx hb dX12_times_37 ?_
    refine wk_i 16 (by decide) ?_
    refine va_lald hx hb hK hP 0 1 rfl rfl (wk_in rfl) dX12_times_38 ?_
    refine lv_topl (fun w23 ew23 => ?_)
    refine lv_lstore (lv' := [(8, .long w23), (6, .long w22), (5, .int 3), (12, .long w19), (10, .long w18), (4, .int 0), (0, .ref a), (1, .int 1), (2, .long 714288)]) hx hb dX12_times_39 hl (by decide) rfl (fun ls hl => ?_)
    refine lv_iload_n hx hb dX12_times_41 rfl (lv_at hl 7 rfl) ?_
    refine lv_if_le (tgt := 57) hx hb dX12_times_42 (by decide) (fun h9 => absurd h9 (by decide)) (fun _ => ?_)
    refine lv_lload hx hb dX12_times_45 (lv_at hl 1 rfl) ?_
    refine lv_ldc2 (v := 999997) hx hb hown (hts (.constantLong RX12 341 (999997)) mX12_times_w4) dX12_times_47 ?_
    refine lv_lmul hx hb dX12_times_50 ?_
    refine lv_topl (fun w24 ew24 => ?_)
    refine lv_lload hx hb dX12_times_51 (lv_at hl 0 rfl) ?_
    refine lv_ladd hx hb dX12_times_53 ?_
    refine lv_topl (fun w25 ew25 => ?_)
    refine lv_goto (tgt := 61) hx hb dX12_times_54 (by decide) ?_
    refine lv_lstore (lv' := [(10, .long w25), (8, .long w23), (6, .long w22), (5, .int 3), (12, .long w19), (4, .int 0), (0, .ref a), (1, .int 1), (2, .long 714288)]) hx hb dX12_times_61 hl (by decide) rfl (fun ls hl => ?_)
    refine lv_iload_n hx hb dX12_times_63 rfl (lv_at hl 7 rfl) ?_
    refine lv_if_le (tgt := 76) hx hb dX12_times_64 (by decide) (fun h9 => absurd h9 (by decide)) (fun _ => ?_)
    refine lv_lload hx hb dX12_times_67 (lv_at hl 2 rfl) ?_
    refine lv_ldc2 (v := 7) hx hb hown (hts (.constantLong RX12 343 (7)) mX12_times_w5) dX12_times_69 ?_
    refine lv_lmul hx hb dX12_times_72 ?_
    refine lv_topl (fun w26 ew26 => ?_)
    refine lv_goto (tgt := 89) hx hb dX12_times_73 (by decide) ?_
    refine lv_lstore (lv' := [(12, .long w26), (10, .long w25), (8, .long w23), (6, .long w22), (5, .int 3), (4, .int 0), (0, .ref a), (1, .int 1), (2, .long 714288)]) hx hb dX12_times_89 hl (by decide) rfl (fun ls hl => ?_)
    refine lv_aload_n hx hb dX12_times_91 rfl (lv_at hl 6 rfl) ?_
    refine lv_iconst (v := 5) hx hb dX12_times_92 (by decide) ?_
    refine lv_iload hx hb dX12_times_93 (lv_at hl 4 rfl) ?_
    refine lv_imul hx hb dX12_times_95 ?_
    refine wk_i 15 (by decide) ?_
    refine lv_iload hx hb dX12_times_96 (lv_at hl 5 rfl) ?_
    refine lv_iadd hx hb dX12_times_98 ?_
    refine wk_i 15 (by decide) ?_
    refine lv_lload hx hb dX12_times_99 (lv_at hl 1 rfl) ?_
    refine lv_ldc2 (v := 1000003) hx hb hown (hts (.constantLong RX12 339 (1000003)) mX12_times_w6) dX12_times_101 ?_
    refine lv_lrem hx hb dX12_times_104 (by decide) ?_
    refine lv_topl (fun w27 ew27 => ?_)
    refine va_last hx hb hK hP hD hS 0 1 rfl rfl (wk_in rfl) dX12_times_105 (fun H locs hP hD hS => ?_)
    have hP : va_P D vwCl [(a, .inl (G.2.1, 25, .inr (.inl (vp_updL (vp_updL (vp_updL (vp_updL (vp_updL (vp_updL (vp_updL f 0 w6) 1 w7) 5 w13) 6 w14) 10 w20) 11 w21) 15 w27))))] H := hP
    have hD : va_D A [(a, .inl (G.2.1, 25, .inr (.inl (vp_updL (vp_updL (vp_updL (vp_updL (vp_updL (vp_updL (vp_updL f 0 w6) 1 w7) 5 w13) 6 w14) 10 w20) 11 w21) 15 w27))))] := hD
    refine lv_aload_n hx hb dX12_times_106 rfl (lv_at hl 6 rfl) ?_
    refine lv_iconst (v := 5) hx hb dX12_times_107 (by decide) ?_
    refine lv_iload hx hb dX12_times_108 (lv_at hl 4 rfl) ?_
    refine lv_imul hx hb dX12_times_110 ?_
    refine wk_i 15 (by decide) ?_
    refine lv_iload hx hb dX12_times_111 (lv_at hl 5 rfl) ?_
    refine lv_iadd hx hb dX12_times_113 ?_
    refine wk_i 15 (by decide) ?_
    refine lv_iconst (v := 1) hx hb dX12_times_114 (by decide) ?_
    refine lv_iadd hx hb dX12_times_115 ?_
    refine wk_i 16 (by decide) ?_
    refine lv_lload hx hb dX12_times_116 (lv_at hl 0 rfl) ?_
    refine lv_ldc2 (v := 1000003) hx hb hown (hts (.constantLong RX12 339 (1000003)) mX12_times_w6) dX12_times_118 ?_
    refine lv_lrem hx hb dX12_times_121 (by decide) ?_
    refine lv_topl (fun w28 ew28 => ?_)
    refine va_last hx hb hK hP hD hS 0 1 rfl rfl (wk_in rfl) dX12_times_122 (fun H locs hP hD hS => ?_)
    have hP : va_P D vwCl [(a, .inl (G.2.1, 25, .inr (.inl (vp_updL (vp_updL (vp_updL (vp_updL (vp_updL (vp_updL (vp_updL (vp_updL f 0 w6) 1 w7) 5 w13) 6 w14) 10 w20) 11 w21) 15 w27) 16 w28))))] H := hP
    have hD : va_D A [(a, .inl (G.2.1, 25, .inr (.inl (vp_updL (vp_updL (vp_updL (vp_updL (vp_updL (vp_updL (vp_updL (vp_updL f 0 w6) 1 w7) 5 w13) 6 w14) 10 w20) 11 w21) 15 w27) 16 w28))))] := hD
    refine lv_iinc (v := 4) (lv' := [(5, .int 4), (12, .long w26), (10, .long w25), (8, .long w23), (6, .long w22), (4, .int 0), (0, .ref a), (1, .int 1), (2, .long 714288)]) hx hb dX12_times_123 hl (k := 4) rfl (by decide) (by decide) rfl (fun ls hl => ?_)
    refine lv_goto (tgt := 11) hx hb dX12_times_126 (by decide) ?_
    refine lv_iload hx hb dX12_times_11 (lv_at hl 0 rfl) ?_
    refine lv_iconst (v := 5) hx hb dX12_times_13 (by decide) ?_
    refine lv_icmp_ge (tgt := 129) hx hb dX12_times_14 (by decide) (fun h9 => absurd h9 (by decide)) (fun _ => ?_)
    refine lv_aload_n hx hb dX12_times_17 rfl (lv_at hl 6 rfl) ?_
    refine lv_iconst (v := 5) hx hb dX12_times_18 (by decide) ?_
    refine lv_iload hx hb dX12_times_19 (lv_at hl 0 rfl) ?_
    refine lv_imul hx hb dX12_times_21 ?_
    refine wk_i 20 (by decide) ?_
    refine lv_iload hx hb dX12_times_22 (lv_at hl 5 rfl) ?_
    refine lv_iadd hx hb dX12_times_24 ?_
    refine wk_i 20 (by decide) ?_
    refine va_lald hx hb hK hP 0 1 rfl rfl (wk_in rfl) dX12_times_25 ?_
    refine lv_topl (fun w29 ew29 => ?_)
    refine lv_lstore (lv' := [(6, .long w29), (5, .int 4), (12, .long w26), (10, .long w25), (8, .long w23), (4, .int 0), (0, .ref a), (1, .int 1), (2, .long 714288)]) hx hb dX12_times_26 hl (by decide) rfl (fun ls hl => ?_)
    refine lv_aload_n hx hb dX12_times_28 rfl (lv_at hl 6 rfl) ?_
    refine lv_iconst (v := 5) hx hb dX12_times_29 (by decide) ?_
    refine lv_iload hx hb dX12_times_30 (lv_at hl 1 rfl) ?_
    refine lv_imul hx hb dX12_times_32 ?_
    refine wk_i 20 (by decide) ?_
    refine lv_iload hx hb dX12_times_33 (lv_at hl 5 rfl) ?_
    refine lv_iadd hx hb dX12_times_35 ?_
    refine wk_i 20 (by decide) ?_
    refine lv_iconst (v := 1) hx hb dX12_times_36 (by decide) ?_
    refine lv_iadd hx hb dX12_times_37 ?_
    refine wk_i 21 (by decide) ?_
    refine va_lald hx hb hK hP 0 1 rfl rfl (wk_in rfl) dX12_times_38 ?_
    refine lv_topl (fun w30 ew30 => ?_)
    refine lv_lstore (lv' := [(8, .long w30), (6, .long w29), (5, .int 4), (12, .long w26), (10, .long w25), (4, .int 0), (0, .ref a), (1, .int 1), (2, .long 714288)]) hx hb dX12_times_39 hl (by decide) rfl (fun ls hl => ?_)
    refine lv_iload_n hx hb dX12_times_41 rfl (lv_at hl 7 rfl) ?_
    refine lv_if_le (tgt := 57) hx hb dX12_times_42 (by decide) (fun h9 => absurd h9 (by decide)) (fun _ => ?_)
    refine lv_lload hx hb dX12_times_45 (lv_at hl 1 rfl) ?_
    refine lv_ldc2 (v := 999997) hx hb hown (hts (.constantLong RX12 341 (999997)) mX12_times_w4) dX12_times_47 ?_
    refine lv_lmul hx hb dX12_times_50 ?_
    refine lv_topl (fun w31 ew31 => ?_)
    refine lv_lload hx hb dX12_times_51 (lv_at hl 0 rfl) ?_
    refine lv_ladd hx hb dX12_times_53 ?_
    refine lv_topl (fun w32 ew32 => ?_)
    refine lv_goto (tgt := 61) hx hb dX12_times_54 (by decide) ?_
    refine lv_lstore (lv' := [(10, .long w32), (8, .long w30), (6, .long w29), (5, .int 4), (12, .long w26), (4, .int 0), (0, .ref a), (1, .int 1), (2, .long 714288)]) hx hb dX12_times_61 hl (by decide) rfl (fun ls hl => ?_)
    refine lv_iload_n hx hb dX12_times_63 rfl (lv_at hl 7 rfl) ?_
    refine lv_if_le (tgt := 76) hx hb dX12_times_64 (by decide) (fun h9 => absurd h9 (by decide)) (fun _ => ?_)
    refine lv_lload hx hb dX12_times_67 (lv_at hl 2 rfl) ?_
    refine lv_ldc2 (v := 7) hx hb hown (hts (.constantLong RX12 343 (7)) mX12_times_w5) dX12_times_69 ?_
    refine lv_lmul hx hb dX12_times_72 ?_
    refine lv_topl (fun w33 ew33 => ?_)
    refine lv_goto (tgt := 89) hx hb dX12_times_73 (by decide) ?_
    refine lv_lstore (lv' := [(12, .long w33), (10, .long w32), (8, .long w30), (6, .long w29), (5, .int 4), (4, .int 0), (0, .ref a), (1, .int 1), (2, .long 714288)]) hx hb dX12_times_89 hl (by decide) rfl (fun ls hl => ?_)
    refine lv_aload_n hx hb dX12_times_91 rfl (lv_at hl 6 rfl) ?_
    refine lv_iconst (v := 5) hx hb dX12_times_92 (by decide) ?_
    refine lv_iload hx hb dX12_times_93 (lv_at hl 4 rfl) ?_
    refine lv_imul hx hb dX12_times_95 ?_
    refine wk_i 20 (by decide) ?_
    refine lv_iload hx hb dX12_times_96 (lv_at hl 5 rfl) ?_
    refine lv_iadd hx hb dX12_times_98 ?_
    refine wk_i 20 (by decide) ?_
    refine lv_lload hx hb dX12_times_99 (lv_at hl 1 rfl) ?_
    refine lv_ldc2 (v := 1000003) hx hb hown (hts (.constantLong RX12 339 (1000003)) mX12_times_w6) dX12_times_101 ?_
    refine lv_lrem hx hb dX12_times_104 (by decide) ?_
    refine lv_topl (fun w34 ew34 => ?_)
    refine va_last hx hb hK hP hD hS 0 1 rfl rfl (wk_in rfl) dX12_times_105 (fun H locs hP hD hS => ?_)
    have hP : va_P D vwCl [(a, .inl (G.2.1, 25, .inr (.inl (vp_updL (vp_updL (vp_updL (vp_updL (vp_updL (vp_updL (vp_updL (vp_updL (vp_updL f 0 w6) 1 w7) 5 w13) 6 w14) 10 w20) 11 w21) 15 w27) 16 w28) 20 w34))))] H := hP
    have hD : va_D A [(a, .inl (G.2.1, 25, .inr (.inl (vp_updL (vp_updL (vp_updL (vp_updL (vp_updL (vp_updL (vp_updL (vp_updL (vp_updL f 0 w6) 1 w7) 5 w13) 6 w14) 10 w20) 11 w21) 15 w27) 16 w28) 20 w34))))] := hD
    refine lv_aload_n hx hb dX12_times_106 rfl (lv_at hl 6 rfl) ?_
    refine lv_iconst (v := 5) hx hb dX12_times_107 (by decide) ?_
    refine lv_iload hx hb dX12_times_108 (lv_at hl 4 rfl) ?_
    refine lv_imul hx hb dX12_times_110 ?_
    refine wk_i 20 (by decide) ?_
    refine lv_iload hx hb dX12_times_111 (lv_at hl 5 rfl) ?_
    refine lv_iadd hx hb dX12_times_113 ?_
    refine wk_i 20 (by decide) ?_
    refine lv_iconst (v := 1) hx hb dX12_times_114 (by decide) ?_
    refine lv_iadd hx hb dX12_times_115 ?_
    refine wk_i 21 (by decide) ?_
    refine lv_lload hx hb dX12_times_116 (lv_at hl 0 rfl) ?_
    refine lv_ldc2 (v := 1000003) hx hb hown (hts (.constantLong RX12 339 (1000003)) mX12_times_w6) dX12_times_118 ?_
    refine lv_lrem hx hb dX12_times_121 (by decide) ?_
    refine lv_topl (fun w35 ew35 => ?_)
    refine va_last hx hb hK hP hD hS 0 1 rfl rfl (wk_in rfl) dX12_times_122 (fun H locs hP hD hS => ?_)
    have hP : va_P D vwCl [(a, .inl (G.2.1, 25, .inr (.inl (vp_updL (vp_updL (vp_updL (vp_updL (vp_updL (vp_updL (vp_updL (vp_updL (vp_updL (vp_updL f 0 w6) 1 w7) 5 w13) 6 w14) 10 w20) 11 w21) 15 w27) 16 w28) 20 w34) 21 w35))))] H := hP
    have hD : va_D A [(a, .inl (G.2.1, 25, .inr (.inl (vp_updL (vp_updL (vp_updL (vp_updL (vp_updL (vp_updL (vp_updL (vp_updL (vp_updL (vp_updL f 0 w6) 1 w7) 5 w13) 6 w14) 10 w20) 11 w21) 15 w27) 16 w28) 20 w34) 21 w35))))] := hD
    refine lv_iinc (v := 5) (lv' := [(5, .int 5), (12, .long w33), (10, .long w32), (8, .long w30), (6, .long w29), (4, .int 0), (0, .ref a), (1, .int 1), (2, .long 714288)]) hx hb dX12_times_123 hl (k := 4) rfl (by decide) (by decide) rfl (fun ls hl => ?_)
    refine lv_goto (tgt := 11) hx hb dX12_times_126 (by decide) ?_
    refine lv_iload hx hb dX12_times_11 (lv_at hl 0 rfl) ?_
    refine lv_iconst (v := 5) hx hb dX12_times_13 (by decide) ?_
    refine lv_icmp_ge (tgt := 129) hx hb dX12_times_14 (by decide) (fun _ => ?_) (fun h9 => absurd h9 (by decide))
    have hP9 := hP.sub (ws' := [(a, .inl (G.2.1, 25, .inr (.inl ((vp_updL (vp_updL (vp_updL (vp_updL (vp_updL (vp_updL (vp_updL (vp_updL (vp_updL (vp_updL f 0 w6) 1 w7) 5 w13) 6 w14) 10 w20) 11 w21) 15 w27) 16 w28) 20 w34) 21 w35)))))]) [0] rfl
    have hD9 := hD.sub (ws' := [(a, .inl (G.2.1, 25, .inr (.inl ((vp_updL (vp_updL (vp_updL (vp_updL (vp_updL (vp_updL (vp_updL (vp_updL (vp_updL (vp_updL f 0 w6) 1 w7) 5 w13) 6 w14) 10 w20) 11 w21) 15 w27) 16 w28) 20 w34) 21 w35)))))]) [0] (by decide) rfl
    exact W.vret hx hb hr (fun t ht hW => ⟨⟨(), rfl, trivial, ⟨(vp_updL (vp_updL (vp_updL (vp_updL (vp_updL (vp_updL (vp_updL (vp_updL (vp_updL (vp_updL f 0 w6) 1 w7) 5 w13) 6 w14) 10 w20) 11 w21) 15 w27) 16 w28) 20 w34) 21 w35), by rw [ht]; exact hP9, va_K.moved hW.alike hK, hD9⟩⟩, hS.F ht⟩) hS.2.2 dX12_times_129
  · refine lv_iload_n hx hb dX12_times_0 rfl (lv_at hl 1 rfl) ?_
    refine va_mabs hx hb (by rw [hml]; exact hl.1.symm) hown (hts (.methodLink RX12 228 Lib.Math.abs.name) mX12_times_w0) (hts (.static Lib.Math.abs.name) mX12_times_w1) (hts (.initialized "java/lang/Math") mX12_times_w2) (hts (.code Lib.Math.abs.name Lib.Math.abs.code 1 (some .int)) mX12_times_w3) (Nat.le_of_ble_eq_true rfl) (Nat.le_of_ble_eq_true rfl) (Nat.le_of_ble_eq_true rfl) (Nat.le_of_ble_eq_true rfl) dX12_times_1 ?_
    refine wk_i 1 (by decide) ?_
    refine lv_iconst (v := 1) hx hb dX12_times_4 (by decide) ?_
    refine lv_isub hx hb dX12_times_5 ?_
    refine wk_i 0 (by decide) ?_
    refine lv_istore (lv' := [(4, .int 0), (0, .ref a), (1, .int (-1)), (2, .long 714288)]) hx hb dX12_times_6 hl (by decide) rfl (fun ls hl => ?_)
    refine lv_iconst (v := 0) hx hb dX12_times_8 (by decide) ?_
    refine lv_istore (lv' := [(5, .int 0), (4, .int 0), (0, .ref a), (1, .int (-1)), (2, .long 714288)]) hx hb dX12_times_9 hl (by decide) rfl (fun ls hl => ?_)
    refine lv_iload hx hb dX12_times_11 (lv_at hl 0 rfl) ?_
    refine lv_iconst (v := 5) hx hb dX12_times_13 (by decide) ?_
    refine lv_icmp_ge (tgt := 129) hx hb dX12_times_14 (by decide) (fun h9 => absurd h9 (by decide)) (fun _ => ?_)
    refine lv_aload_n hx hb dX12_times_17 rfl (lv_at hl 2 rfl) ?_
    refine lv_iconst (v := 5) hx hb dX12_times_18 (by decide) ?_
    refine lv_iload hx hb dX12_times_19 (lv_at hl 0 rfl) ?_
    refine lv_imul hx hb dX12_times_21 ?_
    refine wk_i 0 (by decide) ?_
    refine lv_iload hx hb dX12_times_22 (lv_at hl 1 rfl) ?_
    refine lv_iadd hx hb dX12_times_24 ?_
    refine wk_i 0 (by decide) ?_
    refine va_lald hx hb hK hP 0 1 rfl rfl (wk_in rfl) dX12_times_25 ?_
    refine lv_topl (fun w36 ew36 => ?_)
    refine lv_lstore (lv' := [(6, .long w36), (5, .int 0), (4, .int 0), (0, .ref a), (1, .int (-1)), (2, .long 714288)]) hx hb dX12_times_26 hl (by decide) rfl (fun ls hl => ?_)
    refine lv_aload_n hx hb dX12_times_28 rfl (lv_at hl 3 rfl) ?_
    refine lv_iconst (v := 5) hx hb dX12_times_29 (by decide) ?_
    refine lv_iload hx hb dX12_times_30 (lv_at hl 1 rfl) ?_
    refine lv_imul hx hb dX12_times_32 ?_
    refine wk_i 0 (by decide) ?_
    refine lv_iload hx hb dX12_times_33 (lv_at hl 2 rfl) ?_
    refine lv_iadd hx hb dX12_times_35 ?_
    refine wk_i 0 (by decide) ?_
    refine lv_iconst (v := 1) hx hb dX12_times_36 (by decide) ?_
    refine lv_iadd hx hb dX12_times_37 ?_
    refine wk_i 1 (by decide) ?_
    refine va_lald hx hb hK hP 0 1 rfl rfl (wk_in rfl) dX12_times_38 ?_
    refine lv_topl (fun w37 ew37 => ?_)
    refine lv_lstore (lv' := [(8, .long w37), (6, .long w36), (5, .int 0), (4, .int 0), (0, .ref a), (1, .int (-1)), (2, .long 714288)]) hx hb dX12_times_39 hl (by decide) rfl (fun ls hl => ?_)
    refine lv_iload_n hx hb dX12_times_41 rfl (lv_at hl 5 rfl) ?_
    refine lv_if_le (tgt := 57) hx hb dX12_times_42 (by decide) (fun _ => ?_) (fun h9 => absurd h9 (by decide))
    refine lv_lload hx hb dX12_times_57 (lv_at hl 0 rfl) ?_
    refine lv_lload_n hx hb dX12_times_59 rfl (lv_at hl 6 rfl) ?_
    refine lv_lmul hx hb dX12_times_60 ?_
    refine lv_topl (fun w38 ew38 => ?_)
    refine lv_lstore (lv' := [(10, .long w38), (8, .long w37), (6, .long w36), (5, .int 0), (4, .int 0), (0, .ref a), (1, .int (-1)), (2, .long 714288)]) hx hb dX12_times_61 hl (by decide) rfl (fun ls hl => ?_)
    refine lv_iload_n hx hb dX12_times_63 rfl (lv_at hl 6 rfl) ?_
    refine lv_if_le (tgt := 76) hx hb dX12_times_64 (by decide) (fun _ => ?_) (fun h9 => absurd h9 (by decide))
    refine lv_lload hx hb dX12_times_76 (lv_at hl 2 rfl) ?_
    refine lv_lload hx hb dX12_times_78 (lv_at hl 1 rfl) ?_
    refine lv_lconst (v := 1) hx hb dX12_times_80 (by decide) ?_
    refine lv_lload_n hx hb dX12_times_81 rfl (lv_at hl 7 rfl) ?_
    refine lv_lsub hx hb dX12_times_82 ?_
    refine wk_l (-714287) (by decide) ?_
    refine lv_ldc2 (v := 1000003) hx hb hown (hts (.constantLong RX12 339 (1000003)) mX12_times_w6) dX12_times_83 ?_
    refine lv_ladd hx hb dX12_times_86 ?_
    refine wk_l 285716 (by decide) ?_
    refine lv_lmul hx hb dX12_times_87 ?_
    refine lv_topl (fun w39 ew39 => ?_)
    refine lv_ladd hx hb dX12_times_88 ?_
    refine lv_topl (fun w40 ew40 => ?_)
    refine lv_lstore (lv' := [(12, .long w40), (10, .long w38), (8, .long w37), (6, .long w36), (5, .int 0), (4, .int 0), (0, .ref a), (1, .int (-1)), (2, .long 714288)]) hx hb dX12_times_89 hl (by decide) rfl (fun ls hl => ?_)
    refine lv_aload_n hx hb dX12_times_91 rfl (lv_at hl 6 rfl) ?_
    refine lv_iconst (v := 5) hx hb dX12_times_92 (by decide) ?_
    refine lv_iload hx hb dX12_times_93 (lv_at hl 4 rfl) ?_
    refine lv_imul hx hb dX12_times_95 ?_
    refine wk_i 0 (by decide) ?_
    refine lv_iload hx hb dX12_times_96 (lv_at hl 5 rfl) ?_
    refine lv_iadd hx hb dX12_times_98 ?_
    refine wk_i 0 (by decide) ?_
    refine lv_lload hx hb dX12_times_99 (lv_at hl 1 rfl) ?_
    refine lv_ldc2 (v := 1000003) hx hb hown (hts (.constantLong RX12 339 (1000003)) mX12_times_w6) dX12_times_101 ?_
    refine lv_lrem hx hb dX12_times_104 (by decide) ?_
    refine lv_topl (fun w41 ew41 => ?_)
    refine va_last hx hb hK hP hD hS 0 1 rfl rfl (wk_in rfl) dX12_times_105 (fun H locs hP hD hS => ?_)
    have hP : va_P D vwCl [(a, .inl (G.2.1, 25, .inr (.inl (vp_updL f 0 w41))))] H := hP
    have hD : va_D A [(a, .inl (G.2.1, 25, .inr (.inl (vp_updL f 0 w41))))] := hD
    refine lv_aload_n hx hb dX12_times_106 rfl (lv_at hl 6 rfl) ?_
    refine lv_iconst (v := 5) hx hb dX12_times_107 (by decide) ?_
    refine lv_iload hx hb dX12_times_108 (lv_at hl 4 rfl) ?_
    refine lv_imul hx hb dX12_times_110 ?_
    refine wk_i 0 (by decide) ?_
    refine lv_iload hx hb dX12_times_111 (lv_at hl 5 rfl) ?_
    refine lv_iadd hx hb dX12_times_113 ?_
    refine wk_i 0 (by decide) ?_
    refine lv_iconst (v := 1) hx hb dX12_times_114 (by decide) ?_
    refine lv_iadd hx hb dX12_times_115 ?_
    refine wk_i 1 (by decide) ?_
    refine lv_lload hx hb dX12_times_116 (lv_at hl 0 rfl) ?_
    refine lv_ldc2 (v := 1000003) hx hb hown (hts (.constantLong RX12 339 (1000003)) mX12_times_w6) dX12_times_118 ?_
    refine lv_lrem hx hb dX12_times_121 (by decide) ?_
    refine lv_topl (fun w42 ew42 => ?_)
    refine va_last hx hb hK hP hD hS 0 1 rfl rfl (wk_in rfl) dX12_times_122 (fun H locs hP hD hS => ?_)
    have hP : va_P D vwCl [(a, .inl (G.2.1, 25, .inr (.inl (vp_updL (vp_updL f 0 w41) 1 w42))))] H := hP
    have hD : va_D A [(a, .inl (G.2.1, 25, .inr (.inl (vp_updL (vp_updL f 0 w41) 1 w42))))] := hD
    refine lv_iinc (v := 1) (lv' := [(5, .int 1), (12, .long w40), (10, .long w38), (8, .long w37), (6, .long w36), (4, .int 0), (0, .ref a), (1, .int (-1)), (2, .long 714288)]) hx hb dX12_times_123 hl (k := 4) rfl (by decide) (by decide) rfl (fun ls hl => ?_)
    refine lv_goto (tgt := 11) hx hb dX12_times_126 (by decide) ?_
    refine lv_iload hx hb dX12_times_11 (lv_at hl 0 rfl) ?_
    refine lv_iconst (v := 5) hx hb dX12_times_13 (by decide) ?_
    refine lv_icmp_ge (tgt := 129) hx hb dX12_times_14 (by decide) (fun h9 => absurd h9 (by decide)) (fun _ => ?_)
    refine lv_aload_n hx hb dX12_times_17 rfl (lv_at hl 6 rfl) ?_
    refine lv_iconst (v := 5) hx hb dX12_times_18 (by decide) ?_
    refine lv_iload hx hb dX12_times_19 (lv_at hl 0 rfl) ?_
    refine lv_imul hx hb dX12_times_21 ?_
    refine wk_i 5 (by decide) ?_
    refine lv_iload hx hb dX12_times_22 (lv_at hl 5 rfl) ?_
    refine lv_iadd hx hb dX12_times_24 ?_
    refine wk_i 5 (by decide) ?_
    refine va_lald hx hb hK hP 0 1 rfl rfl (wk_in rfl) dX12_times_25 ?_
    refine lv_topl (fun w43 ew43 => ?_)
    refine lv_lstore (lv' := [(6, .long w43), (5, .int 1), (12, .long w40), (10, .long w38), (8, .long w37), (4, .int 0), (0, .ref a), (1, .int (-1)), (2, .long 714288)]) hx hb dX12_times_26 hl (by decide) rfl (fun ls hl => ?_)
    refine lv_aload_n hx hb dX12_times_28 rfl (lv_at hl 6 rfl) ?_
    refine lv_iconst (v := 5) hx hb dX12_times_29 (by decide) ?_
    refine lv_iload hx hb dX12_times_30 (lv_at hl 1 rfl) ?_
    refine lv_imul hx hb dX12_times_32 ?_
    refine wk_i 5 (by decide) ?_
    refine lv_iload hx hb dX12_times_33 (lv_at hl 5 rfl) ?_
    refine lv_iadd hx hb dX12_times_35 ?_
    refine wk_i 5 (by decide) ?_
    refine lv_iconst (v := 1) hx hb dX12_times_36 (by decide) ?_
    refine lv_iadd hx hb dX12_times_37 ?_
    refine wk_i 6 (by decide) ?_
    refine va_lald hx hb hK hP 0 1 rfl rfl (wk_in rfl) dX12_times_38 ?_
    refine lv_topl (fun w44 ew44 => ?_)
    refine lv_lstore (lv' := [(8, .long w44), (6, .long w43), (5, .int 1), (12, .long w40), (10, .long w38), (4, .int 0), (0, .ref a), (1, .int (-1)), (2, .long 714288)]) hx hb dX12_times_39 hl (by decide) rfl (fun ls hl => ?_)
    refine lv_iload_n hx hb dX12_times_41 rfl (lv_at hl 7 rfl) ?_
    refine lv_if_le (tgt := 57) hx hb dX12_times_42 (by decide) (fun _ => ?_) (fun h9 => absurd h9 (by decide))
    refine lv_lload hx hb dX12_times_57 (lv_at hl 0 rfl) ?_
    refine lv_lload_n hx hb dX12_times_59 rfl (lv_at hl 8 rfl) ?_
    refine lv_lmul hx hb dX12_times_60 ?_
    refine lv_topl (fun w45 ew45 => ?_)
    refine lv_lstore (lv' := [(10, .long w45), (8, .long w44), (6, .long w43), (5, .int 1), (12, .long w40), (4, .int 0), (0, .ref a), (1, .int (-1)), (2, .long 714288)]) hx hb dX12_times_61 hl (by decide) rfl (fun ls hl => ?_)
    refine lv_iload_n hx hb dX12_times_63 rfl (lv_at hl 7 rfl) ?_
    refine lv_if_le (tgt := 76) hx hb dX12_times_64 (by decide) (fun _ => ?_) (fun h9 => absurd h9 (by decide))
    refine lv_lload hx hb dX12_times_76 (lv_at hl 2 rfl) ?_
    refine lv_lload hx hb dX12_times_78 (lv_at hl 1 rfl) ?_
    refine lv_lconst (v := 1) hx hb dX12_times_80 (by decide) ?_
    refine lv_lload_n hx hb dX12_times_81 rfl (lv_at hl 8 rfl) ?_
    refine lv_lsub hx hb dX12_times_82 ?_
    refine wk_l (-714287) (by decide) ?_
    refine lv_ldc2 (v := 1000003) hx hb hown (hts (.constantLong RX12 339 (1000003)) mX12_times_w6) dX12_times_83 ?_
    refine lv_ladd hx hb dX12_times_86 ?_
    refine wk_l 285716 (by decide) ?_
    refine lv_lmul hx hb dX12_times_87 ?_
    refine lv_topl (fun w46 ew46 => ?_)
    refine lv_ladd hx hb dX12_times_88 ?_
    refine lv_topl (fun w47 ew47 => ?_)
    refine lv_lstore (lv' := [(12, .long w47), (10, .long w45), (8, .long w44), (6, .long w43), (5, .int 1), (4, .int 0), (0, .ref a), (1, .int (-1)), (2, .long 714288)]) hx hb dX12_times_89 hl (by decide) rfl (fun ls hl => ?_)
    refine lv_aload_n hx hb dX12_times_91 rfl (lv_at hl 6 rfl) ?_
    refine lv_iconst (v := 5) hx hb dX12_times_92 (by decide) ?_
    refine lv_iload hx hb dX12_times_93 (lv_at hl 4 rfl) ?_
    refine lv_imul hx hb dX12_times_95 ?_
    refine wk_i 5 (by decide) ?_
    refine lv_iload hx hb dX12_times_96 (lv_at hl 5 rfl) ?_
    refine lv_iadd hx hb dX12_times_98 ?_
    refine wk_i 5 (by decide) ?_
    refine lv_lload hx hb dX12_times_99 (lv_at hl 1 rfl) ?_
    refine lv_ldc2 (v := 1000003) hx hb hown (hts (.constantLong RX12 339 (1000003)) mX12_times_w6) dX12_times_101 ?_
    refine lv_lrem hx hb dX12_times_104 (by decide) ?_
    refine lv_topl (fun w48 ew48 => ?_)
    refine va_last hx hb hK hP hD hS 0 1 rfl rfl (wk_in rfl) dX12_times_105 (fun H locs hP hD hS => ?_)
    have hP : va_P D vwCl [(a, .inl (G.2.1, 25, .inr (.inl (vp_updL (vp_updL (vp_updL f 0 w41) 1 w42) 5 w48))))] H := hP
    have hD : va_D A [(a, .inl (G.2.1, 25, .inr (.inl (vp_updL (vp_updL (vp_updL f 0 w41) 1 w42) 5 w48))))] := hD
    refine lv_aload_n hx hb dX12_times_106 rfl (lv_at hl 6 rfl) ?_
    refine lv_iconst (v := 5) hx hb dX12_times_107 (by decide) ?_
    refine lv_iload hx hb dX12_times_108 (lv_at hl 4 rfl) ?_
    refine lv_imul hx hb dX12_times_110 ?_
    refine wk_i 5 (by decide) ?_
    refine lv_iload hx hb dX12_times_111 (lv_at hl 5 rfl) ?_
    refine lv_iadd hx hb dX12_times_113 ?_
    refine wk_i 5 (by decide) ?_
    refine lv_iconst (v := 1) hx hb dX12_times_114 (by decide) ?_
    refine lv_iadd hx hb dX12_times_115 ?_
    refine wk_i 6 (by decide) ?_
    refine lv_lload hx hb dX12_times_116 (lv_at hl 0 rfl) ?_
    refine lv_ldc2 (v := 1000003) hx hb hown (hts (.constantLong RX12 339 (1000003)) mX12_times_w6) dX12_times_118 ?_
    refine lv_lrem hx hb dX12_times_121 (by decide) ?_
    refine lv_topl (fun w49 ew49 => ?_)
    refine va_last hx hb hK hP hD hS 0 1 rfl rfl (wk_in rfl) dX12_times_122 (fun H locs hP hD hS => ?_)
    have hP : va_P D vwCl [(a, .inl (G.2.1, 25, .inr (.inl (vp_updL (vp_updL (vp_updL (vp_updL f 0 w41) 1 w42) 5 w48) 6 w49))))] H := hP
    have hD : va_D A [(a, .inl (G.2.1, 25, .inr (.inl (vp_updL (vp_updL (vp_updL (vp_updL f 0 w41) 1 w42) 5 w48) 6 w49))))] := hD
    refine lv_iinc (v := 2) (lv' := [(5, .int 2), (12, .long w47), (10, .long w45), (8, .long w44), (6, .long w43), (4, .int 0), (0, .ref a), (1, .int (-1)), (2, .long 714288)]) hx hb dX12_times_123 hl (k := 4) rfl (by decide) (by decide) rfl (fun ls hl => ?_)
    refine lv_goto (tgt := 11) hx hb dX12_times_126 (by decide) ?_
    refine lv_iload hx hb dX12_times_11 (lv_at hl 0 rfl) ?_
    refine lv_iconst (v := 5) hx hb dX12_times_13 (by decide) ?_
    refine lv_icmp_ge (tgt := 129) hx hb dX12_times_14 (by decide) (fun h9 => absurd h9 (by decide)) (fun _ => ?_)
    refine lv_aload_n hx hb dX12_times_17 rfl (lv_at hl 6 rfl) ?_
    refine lv_iconst (v := 5) hx hb dX12_times_18 (by decide) ?_
    refine lv_iload hx hb dX12_times_19 (lv_at hl 0 rfl) ?_
    refine lv_imul hx hb dX12_times_21 ?_
    refine wk_i 10 (by decide) ?_
    refine lv_iload hx hb dX12_times_22 (lv_at hl 5 rfl) ?_
    refine lv_iadd hx hb dX12_times_24 ?_
    refine wk_i 10 (by decide) ?_
    refine va_lald hx hb hK hP 0 1 rfl rfl (wk_in rfl) dX12_times_25 ?_
    refine lv_topl (fun w50 ew50 => ?_)
    refine lv_lstore (lv' := [(6, .long w50), (5, .int 2), (12, .long w47), (10, .long w45), (8, .long w44), (4, .int 0), (0, .ref a), (1, .int (-1)), (2, .long 714288)]) hx hb dX12_times_26 hl (by decide) rfl (fun ls hl => ?_)
    refine lv_aload_n hx hb dX12_times_28 rfl (lv_at hl 6 rfl) ?_
    refine lv_iconst (v := 5) hx hb dX12_times_29 (by decide) ?_
    refine lv_iload hx hb dX12_times_30 (lv_at hl 1 rfl) ?_
    refine lv_imul hx hb dX12_times_32 ?_
    refine wk_i 10 (by decide) ?_
    refine lv_iload hx hb dX12_times_33 (lv_at hl 5 rfl) ?_
    refine lv_iadd hx hb dX12_times_35 ?_
    refine wk_i 10 (by decide) ?_
    refine lv_iconst (v := 1) hx hb dX12_times_36 (by decide) ?_
    refine lv_iadd hx hb dX12_times_37 ?_
    refine wk_i 11 (by decide) ?_
    refine va_lald hx hb hK hP 0 1 rfl rfl (wk_in rfl) dX12_times_38 ?_
    refine lv_topl (fun w51 ew51 => ?_)
    refine lv_lstore (lv' := [(8, .long w51), (6, .long w50), (5, .int 2), (12, .long w47), (10, .long w45), (4, .int 0), (0, .ref a), (1, .int (-1)), (2, .long 714288)]) hx hb dX12_times_39 hl (by decide) rfl (fun ls hl => ?_)
    refine lv_iload_n hx hb dX12_times_41 rfl (lv_at hl 7 rfl) ?_
    refine lv_if_le (tgt := 57) hx hb dX12_times_42 (by decide) (fun _ => ?_) (fun h9 => absurd h9 (by decide))
    refine lv_lload hx hb dX12_times_57 (lv_at hl 0 rfl) ?_
    refine lv_lload_n hx hb dX12_times_59 rfl (lv_at hl 8 rfl) ?_
    refine lv_lmul hx hb dX12_times_60 ?_
    refine lv_topl (fun w52 ew52 => ?_)
    refine lv_lstore (lv' := [(10, .long w52), (8, .long w51), (6, .long w50), (5, .int 2), (12, .long w47), (4, .int 0), (0, .ref a), (1, .int (-1)), (2, .long 714288)]) hx hb dX12_times_61 hl (by decide) rfl (fun ls hl => ?_)
    refine lv_iload_n hx hb dX12_times_63 rfl (lv_at hl 7 rfl) ?_
    refine lv_if_le (tgt := 76) hx hb dX12_times_64 (by decide) (fun _ => ?_) (fun h9 => absurd h9 (by decide))
    refine lv_lload hx hb dX12_times_76 (lv_at hl 2 rfl) ?_
    refine lv_lload hx hb dX12_times_78 (lv_at hl 1 rfl) ?_
    refine lv_lconst (v := 1) hx hb dX12_times_80 (by decide) ?_
    refine lv_lload_n hx hb dX12_times_81 rfl (lv_at hl 8 rfl) ?_
    refine lv_lsub hx hb dX12_times_82 ?_
    refine wk_l (-714287) (by decide) ?_
    refine lv_ldc2 (v := 1000003) hx hb hown (hts (.constantLong RX12 339 (1000003)) mX12_times_w6) dX12_times_83 ?_
    refine lv_ladd hx hb dX12_times_86 ?_
    refine wk_l 285716 (by decide) ?_
    refine lv_lmul hx hb dX12_times_87 ?_
    refine lv_topl (fun w53 ew53 => ?_)
    refine lv_ladd hx hb dX12_times_88 ?_
    refine lv_topl (fun w54 ew54 => ?_)
    refine lv_lstore (lv' := [(12, .long w54), (10, .long w52), (8, .long w51), (6, .long w50), (5, .int 2), (4, .int 0), (0, .ref a), (1, .int (-1)), (2, .long 714288)]) hx hb dX12_times_89 hl (by decide) rfl (fun ls hl => ?_)
    refine lv_aload_n hx hb dX12_times_91 rfl (lv_at hl 6 rfl) ?_
    refine lv_iconst (v := 5) hx hb dX12_times_92 (by decide) ?_
    refine lv_iload hx hb dX12_times_93 (lv_at hl 4 rfl) ?_
    refine lv_imul hx hb dX12_times_95 ?_
    refine wk_i 10 (by decide) ?_
    refine lv_iload hx hb dX12_times_96 (lv_at hl 5 rfl) ?_
    refine lv_iadd hx hb dX12_times_98 ?_
    refine wk_i 10 (by decide) ?_
    refine lv_lload hx hb dX12_times_99 (lv_at hl 1 rfl) ?_
    refine lv_ldc2 (v := 1000003) hx hb hown (hts (.constantLong RX12 339 (1000003)) mX12_times_w6) dX12_times_101 ?_
    refine lv_lrem hx hb dX12_times_104 (by decide) ?_
    refine lv_topl (fun w55 ew55 => ?_)
    refine va_last hx hb hK hP hD hS 0 1 rfl rfl (wk_in rfl) dX12_times_105 (fun H locs hP hD hS => ?_)
    have hP : va_P D vwCl [(a, .inl (G.2.1, 25, .inr (.inl (vp_updL (vp_updL (vp_updL (vp_updL (vp_updL f 0 w41) 1 w42) 5 w48) 6 w49) 10 w55))))] H := hP
    have hD : va_D A [(a, .inl (G.2.1, 25, .inr (.inl (vp_updL (vp_updL (vp_updL (vp_updL (vp_updL f 0 w41) 1 w42) 5 w48) 6 w49) 10 w55))))] := hD
    refine lv_aload_n hx hb dX12_times_106 rfl (lv_at hl 6 rfl) ?_
    refine lv_iconst (v := 5) hx hb dX12_times_107 (by decide) ?_
    refine lv_iload hx hb dX12_times_108 (lv_at hl 4 rfl) ?_
    refine lv_imul hx hb dX12_times_110 ?_
    refine wk_i 10 (by decide) ?_
    refine lv_iload hx hb dX12_times_111 (lv_at hl 5 rfl) ?_
    refine lv_iadd hx hb dX12_times_113 ?_
    refine wk_i 10 (by decide) ?_
    refine lv_iconst (v := 1) hx hb dX12_times_114 (by decide) ?_
    refine lv_iadd hx hb dX12_times_115 ?_
    refine wk_i 11 (by decide) ?_
    refine lv_lload hx hb dX12_times_116 (lv_at hl 0 rfl) ?_
    refine lv_ldc2 (v := 1000003) hx hb hown (hts (.constantLong RX12 339 (1000003)) mX12_times_w6) dX12_times_118 ?_
    refine lv_lrem hx hb dX12_times_121 (by decide) ?_
    refine lv_topl (fun w56 ew56 => ?_)
    refine va_last hx hb hK hP hD hS 0 1 rfl rfl (wk_in rfl) dX12_times_122 (fun H locs hP hD hS => ?_)
    have hP : va_P D vwCl [(a, .inl (G.2.1, 25, .inr (.inl (vp_updL (vp_updL (vp_updL (vp_updL (vp_updL (vp_updL f 0 w41) 1 w42) 5 w48) 6 w49) 10 w55) 11 w56))))] H := hP
    have hD : va_D A [(a, .inl (G.2.1, 25, .inr (.inl (vp_updL (vp_updL (vp_updL (vp_updL (vp_updL (vp_updL f 0 w41) 1 w42) 5 w48) 6 w49) 10 w55) 11 w56))))] := hD
    refine lv_iinc (v := 3) (lv' := [(5, .int 3), (12, .long w54), (10, .long w52), (8, .long w51), (6, .long w50), (4, .int 0), (0, .ref a), (1, .int (-1)), (2, .long 714288)]) hx hb dX12_times_123 hl (k := 4) rfl (by decide) (by decide) rfl (fun ls hl => ?_)
    refine lv_goto (tgt := 11) hx hb dX12_times_126 (by decide) ?_
    refine lv_iload hx hb dX12_times_11 (lv_at hl 0 rfl) ?_
    refine lv_iconst (v := 5) hx hb dX12_times_13 (by decide) ?_
    refine lv_icmp_ge (tgt := 129) hx hb dX12_times_14 (by decide) (fun h9 => absurd h9 (by decide)) (fun _ => ?_)
    refine lv_aload_n hx hb dX12_times_17 rfl (lv_at hl 6 rfl) ?_
    refine lv_iconst (v := 5) hx hb dX12_times_18 (by decide) ?_
    refine lv_iload hx hb dX12_times_19 (lv_at hl 0 rfl) ?_
    refine lv_imul hx hb dX12_times_21 ?_
    refine wk_i 15 (by decide) ?_
    refine lv_iload hx hb dX12_times_22 (lv_at hl 5 rfl) ?_
    refine lv_iadd hx hb dX12_times_24 ?_
    refine wk_i 15 (by decide) ?_
    refine va_lald hx hb hK hP 0 1 rfl rfl (wk_in rfl) dX12_times_25 ?_
    refine lv_topl (fun w57 ew57 => ?_)
    refine lv_lstore (lv' := [(6, .long w57), (5, .int 3), (12, .long w54), (10, .long w52), (8, .long w51), (4, .int 0), (0, .ref a), (1, .int (-1)), (2, .long 714288)]) hx hb dX12_times_26 hl (by decide) rfl (fun ls hl => ?_)
    refine lv_aload_n hx hb dX12_times_28 rfl (lv_at hl 6 rfl) ?_
    refine lv_iconst (v := 5) hx hb dX12_times_29 (by decide) ?_
    refine lv_iload hx hb dX12_times_30 (lv_at hl 1 rfl) ?_
    refine lv_imul hx hb dX12_times_32 ?_
    refine wk_i 15 (by decide) ?_
    refine lv_iload hx hb dX12_times_33 (lv_at hl 5 rfl) ?_
    refine lv_iadd hx hb dX12_times_35 ?_
    refine wk_i 15 (by decide) ?_
    refine lv_iconst (v := 1) hx hb dX12_times_36 (by decide) ?_
    refine lv_iadd hx hb dX12_times_37 ?_
    refine wk_i 16 (by decide) ?_
    refine va_lald hx hb hK hP 0 1 rfl rfl (wk_in rfl) dX12_times_38 ?_
    refine lv_topl (fun w58 ew58 => ?_)
    refine lv_lstore (lv' := [(8, .long w58), (6, .long w57), (5, .int 3), (12, .long w54), (10, .long w52), (4, .int 0), (0, .ref a), (1, .int (-1)), (2, .long 714288)]) hx hb dX12_times_39 hl (by decide) rfl (fun ls hl => ?_)
    refine lv_iload_n hx hb dX12_times_41 rfl (lv_at hl 7 rfl) ?_
    refine lv_if_le (tgt := 57) hx hb dX12_times_42 (by decide) (fun _ => ?_) (fun h9 => absurd h9 (by decide))
    refine lv_lload hx hb dX12_times_57 (lv_at hl 0 rfl) ?_
    refine lv_lload_n hx hb dX12_times_59 rfl (lv_at hl 8 rfl) ?_
    refine lv_lmul hx hb dX12_times_60 ?_
    refine lv_topl (fun w59 ew59 => ?_)
    refine lv_lstore (lv' := [(10, .long w59), (8, .long w58), (6, .long w57), (5, .int 3), (12, .long w54), (4, .int 0), (0, .ref a), (1, .int (-1)), (2, .long 714288)]) hx hb dX12_times_61 hl (by decide) rfl (fun ls hl => ?_)
    refine lv_iload_n hx hb dX12_times_63 rfl (lv_at hl 7 rfl) ?_
    refine lv_if_le (tgt := 76) hx hb dX12_times_64 (by decide) (fun _ => ?_) (fun h9 => absurd h9 (by decide))
    refine lv_lload hx hb dX12_times_76 (lv_at hl 2 rfl) ?_
    refine lv_lload hx hb dX12_times_78 (lv_at hl 1 rfl) ?_
    refine lv_lconst (v := 1) hx hb dX12_times_80 (by decide) ?_
    refine lv_lload_n hx hb dX12_times_81 rfl (lv_at hl 8 rfl) ?_
    refine lv_lsub hx hb dX12_times_82 ?_
    refine wk_l (-714287) (by decide) ?_
    refine lv_ldc2 (v := 1000003) hx hb hown (hts (.constantLong RX12 339 (1000003)) mX12_times_w6) dX12_times_83 ?_
    refine lv_ladd hx hb dX12_times_86 ?_
    refine wk_l 285716 (by decide) ?_
    refine lv_lmul hx hb dX12_times_87 ?_
    refine lv_topl (fun w60 ew60 => ?_)
    refine lv_ladd hx hb dX12_times_88 ?_
    refine lv_topl (fun w61 ew61 => ?_)
    refine lv_lstore (lv' := [(12, .long w61), (10, .long w59), (8, .long w58), (6, .long w57), (5, .int 3), (4, .int 0), (0, .ref a), (1, .int (-1)), (2, .long 714288)]) hx hb dX12_times_89 hl (by decide) rfl (fun ls hl => ?_)
    refine lv_aload_n hx hb dX12_times_91 rfl (lv_at hl 6 rfl) ?_
    refine lv_iconst (v := 5) hx hb dX12_times_92 (by decide) ?_
    refine lv_iload hx hb dX12_times_93 (lv_at hl 4 rfl) ?_
    refine lv_imul hx hb dX12_times_95 ?_
    refine wk_i 15 (by decide) ?_
    refine lv_iload hx hb dX12_times_96 (lv_at hl 5 rfl) ?_
    refine lv_iadd hx hb dX12_times_98 ?_
    refine wk_i 15 (by decide) ?_
    refine lv_lload hx hb dX12_times_99 (lv_at hl 1 rfl) ?_
    refine lv_ldc2 (v := 1000003) hx hb hown (hts (.constantLong RX12 339 (1000003)) mX12_times_w6) dX12_times_101 ?_
    refine lv_lrem hx hb dX12_times_104 (by decide) ?_
    refine lv_topl (fun w62 ew62 => ?_)
    refine va_last hx hb hK hP hD hS 0 1 rfl rfl (wk_in rfl) dX12_times_105 (fun H locs hP hD hS => ?_)
    have hP : va_P D vwCl [(a, .inl (G.2.1, 25, .inr (.inl (vp_updL (vp_updL (vp_updL (vp_updL (vp_updL (vp_updL (vp_updL f 0 w41) 1 w42) 5 w48) 6 w49) 10 w55) 11 w56) 15 w62))))] H := hP
    have hD : va_D A [(a, .inl (G.2.1, 25, .inr (.inl (vp_updL (vp_updL (vp_updL (vp_updL (vp_updL (vp_updL (vp_updL f 0 w41) 1 w42) 5 w48) 6 w49) 10 w55) 11 w56) 15 w62))))] := hD
    refine lv_aload_n hx hb dX12_times_106 rfl (lv_at hl 6 rfl) ?_
    refine lv_iconst (v := 5) hx hb dX12_times_107 (by decide) ?_
    refine lv_iload hx hb dX12_times_108 (lv_at hl 4 rfl) ?_
    refine lv_imul hx hb dX12_times_110 ?_
    refine wk_i 15 (by decide) ?_
    refine lv_iload hx hb dX12_times_111 (lv_at hl 5 rfl) ?_
    refine lv_iadd hx hb dX12_times_113 ?_
    refine wk_i 15 (by decide) ?_
    refine lv_iconst (v := 1) hx hb dX12_times_114 (by decide) ?_
    refine lv_iadd hx hb dX12_times_115 ?_
    refine wk_i 16 (by decide) ?_
    refine lv_lload hx hb dX12_times_116 (lv_at hl 0 rfl) ?_
    refine lv_ldc2 (v := 1000003) hx hb hown (hts (.constantLong RX12 339 (1000003)) mX12_times_w6) dX12_times_118 ?_
    refine lv_lrem hx hb dX12_times_121 (by decide) ?_
    refine lv_topl (fun w63 ew63 => ?_)
    refine va_last hx hb hK hP hD hS 0 1 rfl rfl (wk_in rfl) dX12_times_122 (fun H locs hP hD hS => ?_)
    have hP : va_P D vwCl [(a, .inl (G.2.1, 25, .inr (.inl (vp_updL (vp_updL (vp_updL (vp_updL (vp_updL (vp_updL (vp_updL (vp_updL f 0 w41) 1 w42) 5 w48) 6 w49) 10 w55) 11 w56) 15 w62) 16 w63))))] H := hP
    have hD : va_D A [(a, .inl (G.2.1, 25, .inr (.inl (vp_updL (vp_updL (vp_updL (vp_updL (vp_updL (vp_updL (vp_updL (vp_updL f 0 w41) 1 w42) 5 w48) 6 w49) 10 w55) 11 w56) 15 w62) 16 w63))))] := hD
    refine lv_iinc (v := 4) (lv' := [(5, .int 4), (12, .long w61), (10, .long w59), (8, .long w58), (6, .long w57), (4, .int 0), (0, .ref a), (1, .int (-1)), (2, .long 714288)]) hx hb dX12_times_123 hl (k := 4) rfl (by decide) (by decide) rfl (fun ls hl => ?_)
    refine lv_goto (tgt := 11) hx hb dX12_times_126 (by decide) ?_
    refine lv_iload hx hb dX12_times_11 (lv_at hl 0 rfl) ?_
    refine lv_iconst (v := 5) hx hb dX12_times_13 (by decide) ?_
    refine lv_icmp_ge (tgt := 129) hx hb dX12_times_14 (by decide) (fun h9 => absurd h9 (by decide)) (fun _ => ?_)
    refine lv_aload_n hx hb dX12_times_17 rfl (lv_at hl 6 rfl) ?_
    refine lv_iconst (v := 5) hx hb dX12_times_18 (by decide) ?_
    refine lv_iload hx hb dX12_times_19 (lv_at hl 0 rfl) ?_
    refine lv_imul hx hb dX12_times_21 ?_
    refine wk_i 20 (by decide) ?_
    refine lv_iload hx hb dX12_times_22 (lv_at hl 5 rfl) ?_
    refine lv_iadd hx hb dX12_times_24 ?_
    refine wk_i 20 (by decide) ?_
    refine va_lald hx hb hK hP 0 1 rfl rfl (wk_in rfl) dX12_times_25 ?_
    refine lv_topl (fun w64 ew64 => ?_)
    refine lv_lstore (lv' := [(6, .long w64), (5, .int 4), (12, .long w61), (10, .long w59), (8, .long w58), (4, .int 0), (0, .ref a), (1, .int (-1)), (2, .long 714288)]) hx hb dX12_times_26 hl (by decide) rfl (fun ls hl => ?_)
    refine lv_aload_n hx hb dX12_times_28 rfl (lv_at hl 6 rfl) ?_
    refine lv_iconst (v := 5) hx hb dX12_times_29 (by decide) ?_
    refine lv_iload hx hb dX12_times_30 (lv_at hl 1 rfl) ?_
    refine lv_imul hx hb dX12_times_32 ?_
    refine wk_i 20 (by decide) ?_
    refine lv_iload hx hb dX12_times_33 (lv_at hl 5 rfl) ?_
    refine lv_iadd hx hb dX12_times_35 ?_
    refine wk_i 20 (by decide) ?_
    refine lv_iconst (v := 1) hx hb dX12_times_36 (by decide) ?_
    refine lv_iadd hx hb dX12_times_37 ?_
    refine wk_i 21 (by decide) ?_
    refine va_lald hx hb hK hP 0 1 rfl rfl (wk_in rfl) dX12_times_38 ?_
    refine lv_topl (fun w65 ew65 => ?_)
    refine lv_lstore (lv' := [(8, .long w65), (6, .long w64), (5, .int 4), (12, .long w61), (10, .long w59), (4, .int 0), (0, .ref a), (1, .int (-1)), (2, .long 714288)]) hx hb dX12_times_39 hl (by decide) rfl (fun ls hl => ?_)
    refine lv_iload_n hx hb dX12_times_41 rfl (lv_at hl 7 rfl) ?_
    refine lv_if_le (tgt := 57) hx hb dX12_times_42 (by decide) (fun _ => ?_) (fun h9 => absurd h9 (by decide))
    refine lv_lload hx hb dX12_times_57 (lv_at hl 0 rfl) ?_
    refine lv_lload_n hx hb dX12_times_59 rfl (lv_at hl 8 rfl) ?_
    refine lv_lmul hx hb dX12_times_60 ?_
    refine lv_topl (fun w66 ew66 => ?_)
    refine lv_lstore (lv' := [(10, .long w66), (8, .long w65), (6, .long w64), (5, .int 4), (12, .long w61), (4, .int 0), (0, .ref a), (1, .int (-1)), (2, .long 714288)]) hx hb dX12_times_61 hl (by decide) rfl (fun ls hl => ?_)
    refine lv_iload_n hx hb dX12_times_63 rfl (lv_at hl 7 rfl) ?_
    refine lv_if_le (tgt := 76) hx hb dX12_times_64 (by decide) (fun _ => ?_) (fun h9 => absurd h9 (by decide))
    refine lv_lload hx hb dX12_times_76 (lv_at hl 2 rfl) ?_
    refine lv_lload hx hb dX12_times_78 (lv_at hl 1 rfl) ?_
    refine lv_lconst (v := 1) hx hb dX12_times_80 (by decide) ?_
    refine lv_lload_n hx hb dX12_times_81 rfl (lv_at hl 8 rfl) ?_
    refine lv_lsub hx hb dX12_times_82 ?_
    refine wk_l (-714287) (by decide) ?_
    refine lv_ldc2 (v := 1000003) hx hb hown (hts (.constantLong RX12 339 (1000003)) mX12_times_w6) dX12_times_83 ?_
    refine lv_ladd hx hb dX12_times_86 ?_
    refine wk_l 285716 (by decide) ?_
    refine lv_lmul hx hb dX12_times_87 ?_
    refine lv_topl (fun w67 ew67 => ?_)
    refine lv_ladd hx hb dX12_times_88 ?_
    refine lv_topl (fun w68 ew68 => ?_)
    refine lv_lstore (lv' := [(12, .long w68), (10, .long w66), (8, .long w65), (6, .long w64), (5, .int 4), (4, .int 0), (0, .ref a), (1, .int (-1)), (2, .long 714288)]) hx hb dX12_times_89 hl (by decide) rfl (fun ls hl => ?_)
    refine lv_aload_n hx hb dX12_times_91 rfl (lv_at hl 6 rfl) ?_
    refine lv_iconst (v := 5) hx hb dX12_times_92 (by decide) ?_
    refine lv_iload hx hb dX12_times_93 (lv_at hl 4 rfl) ?_
    refine lv_imul hx hb dX12_times_95 ?_
    refine wk_i 20 (by decide) ?_
    refine lv_iload hx hb dX12_times_96 (lv_at hl 5 rfl) ?_
    refine lv_iadd hx hb dX12_times_98 ?_
    refine wk_i 20 (by decide) ?_
    refine lv_lload hx hb dX12_times_99 (lv_at hl 1 rfl) ?_
    refine lv_ldc2 (v := 1000003) hx hb hown (hts (.constantLong RX12 339 (1000003)) mX12_times_w6) dX12_times_101 ?_
    refine lv_lrem hx hb dX12_times_104 (by decide) ?_
    refine lv_topl (fun w69 ew69 => ?_)
    refine va_last hx hb hK hP hD hS 0 1 rfl rfl (wk_in rfl) dX12_times_105 (fun H locs hP hD hS => ?_)
    have hP : va_P D vwCl [(a, .inl (G.2.1, 25, .inr (.inl (vp_updL (vp_updL (vp_updL (vp_updL (vp_updL (vp_updL (vp_updL (vp_updL (vp_updL f 0 w41) 1 w42) 5 w48) 6 w49) 10 w55) 11 w56) 15 w62) 16 w63) 20 w69))))] H := hP
    have hD : va_D A [(a, .inl (G.2.1, 25, .inr (.inl (vp_updL (vp_updL (vp_updL (vp_updL (vp_updL (vp_updL (vp_updL (vp_updL (vp_updL f 0 w41) 1 w42) 5 w48) 6 w49) 10 w55) 11 w56) 15 w62) 16 w63) 20 w69))))] := hD
    refine lv_aload_n hx hb dX12_times_106 rfl (lv_at hl 6 rfl) ?_
    refine lv_iconst (v := 5) hx hb dX12_times_107 (by decide) ?_
    refine lv_iload hx hb dX12_times_108 (lv_at hl 4 rfl) ?_
    refine lv_imul hx hb dX12_times_110 ?_
    refine wk_i 20 (by decide) ?_
    refine lv_iload hx hb dX12_times_111 (lv_at hl 5 rfl) ?_
    refine lv_iadd hx hb dX12_times_113 ?_
    refine wk_i 20 (by decide) ?_
    refine lv_iconst (v := 1) hx hb dX12_times_114 (by decide) ?_
    refine lv_iadd hx hb dX12_times_115 ?_
    refine wk_i 21 (by decide) ?_
    refine lv_lload hx hb dX12_times_116 (lv_at hl 0 rfl) ?_
    refine lv_ldc2 (v := 1000003) hx hb hown (hts (.constantLong RX12 339 (1000003)) mX12_times_w6) dX12_times_118 ?_
    refine lv_lrem hx hb dX12_times_121 (by decide) ?_
    refine lv_topl (fun w70 ew70 => ?_)
    refine va_last hx hb hK hP hD hS 0 1 rfl rfl (wk_in rfl) dX12_times_122 (fun H locs hP hD hS => ?_)
    have hP : va_P D vwCl [(a, .inl (G.2.1, 25, .inr (.inl (vp_updL (vp_updL (vp_updL (vp_updL (vp_updL (vp_updL (vp_updL (vp_updL (vp_updL (vp_updL f 0 w41) 1 w42) 5 w48) 6 w49) 10 w55) 11 w56) 15 w62) 16 w63) 20 w69) 21 w70))))] H := hP
    have hD : va_D A [(a, .inl (G.2.1, 25, .inr (.inl (vp_updL (vp_updL (vp_updL (vp_updL (vp_updL (vp_updL (vp_updL (vp_updL (vp_updL (vp_updL f 0 w41) 1 w42) 5 w48) 6 w49) 10 w55) 11 w56) 15 w62) 16 w63) 20 w69) 21 w70))))] := hD
    refine lv_iinc (v := 5) (lv' := [(5, .int 5), (12, .long w68), (10, .long w66), (8, .long w65), (6, .long w64), (4, .int 0), (0, .ref a), (1, .int (-1)), (2, .long 714288)]) hx hb dX12_times_123 hl (k := 4) rfl (by decide) (by decide) rfl (fun ls hl => ?_)
    refine lv_goto (tgt := 11) hx hb dX12_times_126 (by decide) ?_
    refine lv_iload hx hb dX12_times_11 (lv_at hl 0 rfl) ?_
    refine lv_iconst (v := 5) hx hb dX12_times_13 (by decide) ?_
    refine lv_icmp_ge (tgt := 129) hx hb dX12_times_14 (by decide) (fun _ => ?_) (fun h9 => absurd h9 (by decide))
    have hP9 := hP.sub (ws' := [(a, .inl (G.2.1, 25, .inr (.inl ((vp_updL (vp_updL (vp_updL (vp_updL (vp_updL (vp_updL (vp_updL (vp_updL (vp_updL (vp_updL f 0 w41) 1 w42) 5 w48) 6 w49) 10 w55) 11 w56) 15 w62) 16 w63) 20 w69) 21 w70)))))]) [0] rfl
    have hD9 := hD.sub (ws' := [(a, .inl (G.2.1, 25, .inr (.inl ((vp_updL (vp_updL (vp_updL (vp_updL (vp_updL (vp_updL (vp_updL (vp_updL (vp_updL (vp_updL f 0 w41) 1 w42) 5 w48) 6 w49) 10 w55) 11 w56) 15 w62) 16 w63) 20 w69) 21 w70)))))]) [0] (by decide) rfl
    exact W.vret hx hb hr (fun t ht hW => ⟨⟨(), rfl, trivial, ⟨(vp_updL (vp_updL (vp_updL (vp_updL (vp_updL (vp_updL (vp_updL (vp_updL (vp_updL (vp_updL f 0 w41) 1 w42) 5 w48) 6 w49) 10 w55) 11 w56) 15 w62) 16 w63) 20 w69) 21 w70), by rw [ht]; exact hP9, va_K.moved hW.alike hK, hD9⟩⟩, hS.F ht⟩) hS.2.2 dX12_times_129

theorem mX12_findEnds_w0 : Cond.constantLong RX12 343 (7) ∈ wsX12_findEnds := by decide +kernel
theorem mX12_findEnds_w1 : Cond.fieldLink RX12 137 "PuppetBridgeModel" "made" "[J" ∈ wsX12_findEnds := by decide +kernel
theorem mX12_findEnds_w3 : Cond.fieldLink RX12 69 "PuppetBridgeModel" "bars" "I" ∈ wsX12_findEnds := by decide +kernel
theorem mX12_findEnds_w4 : Cond.fieldLink RX12 369 "PuppetBridgeModel" "endsOf" "I" ∈ wsX12_findEnds := by decide +kernel
theorem mX12_findEnds_w2 : Cond.fieldLink RX12 141 "PuppetBridgeModel" "endMarks" "[J" ∈ wsX12_findEnds := by decide +kernel
theorem iX12_findEnds_X12 : ∀ w ∈ wsX120, w ∈ wsX12_findEnds := fun _ h => List.mem_cons_of_mem _ (List.mem_append_right _ h)
set_option maxRecDepth 20000 in
theorem ggX12_findEnds_X12_contrary : GoodIn wsX12_findEnds wsX12_contrary := goodIn_r _ [9, 10, 11, 12] (by decide +kernel) (by decide +kernel)
set_option maxRecDepth 20000 in
theorem gX12_findEnds_X12_contrary : GoodIn wsX12_findEnds (va_wsS RX12 354 yX12_contrary wsX12_contrary) := goodIn_app (goodIn_of _ (by decide +kernel)) ggX12_findEnds_X12_contrary
set_option maxRecDepth 20000 in
theorem ggX12_findEnds_X12_gens : GoodIn wsX12_findEnds wsX12_gens := goodIn_r _ [16, 4, 38, 39, 40, 41, 42, 43, 44, 45, 46, 47, 48, 49, 50, 51, 52, 53, 54, 55, 56, 57, 58, 59, 60, 61, 62, 63, 64, 65, 66, 67, 68, 69, 70, 71, 72, 73, 74, 75, 76, 77, 78, 79, 80, 81, 82, 83, 84, 85, 86, 87, 88, 89, 90, 91, 92, 93, 94, 95, 96, 97, 98, 99] (by decide +kernel) (by decide +kernel)
set_option maxRecDepth 20000 in
theorem gX12_findEnds_X12_gens : GoodIn wsX12_findEnds (wsV RX12 345 RX12 yX12_gens wsX12_gens) := goodIn_app (goodIn_of _ (by decide +kernel)) ggX12_findEnds_X12_gens
set_option maxRecDepth 20000 in
theorem ggX12_findEnds_X12_power : GoodIn wsX12_findEnds wsX12_power := goodIn_r _ [19] (by decide +kernel) (by decide +kernel)
set_option maxRecDepth 20000 in
theorem gX12_findEnds_X12_power : GoodIn wsX12_findEnds (va_wsS RX12 348 yX12_power wsX12_power) := goodIn_app (goodIn_of _ (by decide +kernel)) ggX12_findEnds_X12_power
set_option maxRecDepth 20000 in
theorem ggX12_findEnds_X12_nothing : GoodIn wsX12_findEnds wsX12_nothing := goodIn_r _ [22] (by decide +kernel) (by decide +kernel)
set_option maxRecDepth 20000 in
theorem gX12_findEnds_X12_nothing : GoodIn wsX12_findEnds (va_wsS RX12 357 yX12_nothing wsX12_nothing) := goodIn_app (goodIn_of _ (by decide +kernel)) ggX12_findEnds_X12_nothing
set_option maxRecDepth 20000 in
theorem ggX12_findEnds_X12_passAt : GoodIn wsX12_findEnds wsX12_passAt := goodIn_r _ [26, 13, 14, 15, 8, 16, 4, 17, 18, 19, 27, 28, 29, 38, 39, 40, 41, 42, 43, 44, 45, 46, 47, 48, 49, 50, 51, 52, 53, 54, 55, 56, 57, 58, 59, 60, 61, 62, 63, 64, 65, 66, 67, 68, 69, 70, 71, 72, 73, 74, 75, 76, 77, 78, 79, 80, 81, 82, 83, 84, 85, 86, 87, 88, 89, 90, 91, 92, 93, 94, 95, 96, 97, 98, 99] (by decide +kernel) (by decide +kernel)
set_option maxRecDepth 20000 in
theorem gX12_findEnds_X12_passAt : GoodIn wsX12_findEnds (wsV RX12 361 RX12 yX12_passAt wsX12_passAt) := goodIn_app (goodIn_of _ (by decide +kernel)) ggX12_findEnds_X12_passAt
set_option maxRecDepth 20000 in
theorem ggX12_findEnds_X12_times : GoodIn wsX12_findEnds wsX12_times := goodIn_r _ [32, 33, 34, 35, 36, 37, 1, 12] (by decide +kernel) (by decide +kernel)
set_option maxRecDepth 20000 in
theorem gX12_findEnds_X12_times : GoodIn wsX12_findEnds (va_wsS RX12 365 yX12_times wsX12_times) := goodIn_app (goodIn_of _ (by decide +kernel)) ggX12_findEnds_X12_times
theorem dX12_findEnds_0 : decode cX12_findEnds 0 = .ok (.ldc2_w 343, 3) := by decide +kernel
theorem dX12_findEnds_3 : decode cX12_findEnds 3 = .ok (.invokestatic 354, 3) := by decide +kernel
theorem dX12_findEnds_6 : decode cX12_findEnds 6 = .ok (.lstore_n 1, 1) := by decide +kernel
theorem dX12_findEnds_7 : decode cX12_findEnds 7 = .ok (.iconst 0, 1) := by decide +kernel
theorem dX12_findEnds_8 : decode cX12_findEnds 8 = .ok (.istore_n 3, 1) := by decide +kernel
theorem dX12_findEnds_9 : decode cX12_findEnds 9 = .ok (.iload_n 3, 1) := by decide +kernel
theorem dX12_findEnds_10 : decode cX12_findEnds 10 = .ok (.iconst 3, 1) := by decide +kernel
theorem dX12_findEnds_11 : decode cX12_findEnds 11 = .ok (.if_icmp .gt 114, 3) := by decide +kernel
theorem dX12_findEnds_14 : decode cX12_findEnds 14 = .ok (.iconst 0, 1) := by decide +kernel
theorem dX12_findEnds_15 : decode cX12_findEnds 15 = .ok (.istore 4, 2) := by decide +kernel
theorem dX12_findEnds_17 : decode cX12_findEnds 17 = .ok (.iload 4, 2) := by decide +kernel
theorem dX12_findEnds_19 : decode cX12_findEnds 19 = .ok (.aload_n 0, 1) := by decide +kernel
theorem dX12_findEnds_20 : decode cX12_findEnds 20 = .ok (.invokevirtual 345, 3) := by decide +kernel
theorem dX12_findEnds_23 : decode cX12_findEnds 23 = .ok (.iload_n 3, 1) := by decide +kernel
theorem dX12_findEnds_24 : decode cX12_findEnds 24 = .ok (.invokestatic 348, 3) := by decide +kernel
theorem dX12_findEnds_27 : decode cX12_findEnds 27 = .ok (.if_icmp .ge 92, 3) := by decide +kernel
theorem dX12_findEnds_30 : decode cX12_findEnds 30 = .ok (.aload_n 0, 1) := by decide +kernel
theorem dX12_findEnds_31 : decode cX12_findEnds 31 = .ok (.getfield 137, 3) := by decide +kernel
theorem dX12_findEnds_34 : decode cX12_findEnds 34 = .ok (.invokestatic 357, 3) := by decide +kernel
theorem dX12_findEnds_37 : decode cX12_findEnds 37 = .ok (.iload_n 3, 1) := by decide +kernel
theorem dX12_findEnds_38 : decode cX12_findEnds 38 = .ok (.iconst 1, 1) := by decide +kernel
theorem dX12_findEnds_39 : decode cX12_findEnds 39 = .ok (.isub, 1) := by decide +kernel
theorem dX12_findEnds_40 : decode cX12_findEnds 40 = .ok (.istore 5, 2) := by decide +kernel
theorem dX12_findEnds_42 : decode cX12_findEnds 42 = .ok (.iload 5, 2) := by decide +kernel
theorem dX12_findEnds_44 : decode cX12_findEnds 44 = .ok (.ifCond .lt 27, 3) := by decide +kernel
theorem dX12_findEnds_47 : decode cX12_findEnds 47 = .ok (.aload_n 0, 1) := by decide +kernel
theorem dX12_findEnds_48 : decode cX12_findEnds 48 = .ok (.getfield 137, 3) := by decide +kernel
theorem dX12_findEnds_51 : decode cX12_findEnds 51 = .ok (.aload_n 0, 1) := by decide +kernel
theorem dX12_findEnds_52 : decode cX12_findEnds 52 = .ok (.iload 4, 2) := by decide +kernel
theorem dX12_findEnds_54 : decode cX12_findEnds 54 = .ok (.iload_n 3, 1) := by decide +kernel
theorem dX12_findEnds_55 : decode cX12_findEnds 55 = .ok (.iload 5, 2) := by decide +kernel
theorem dX12_findEnds_57 : decode cX12_findEnds 57 = .ok (.invokevirtual 361, 3) := by decide +kernel
theorem dX12_findEnds_60 : decode cX12_findEnds 60 = .ok (.ineg, 1) := by decide +kernel
theorem dX12_findEnds_61 : decode cX12_findEnds 61 = .ok (.lload_n 1, 1) := by decide +kernel
theorem dX12_findEnds_62 : decode cX12_findEnds 62 = .ok (.invokestatic 365, 3) := by decide +kernel
theorem dX12_findEnds_65 : decode cX12_findEnds 65 = .ok (.iinc 5 (-1), 3) := by decide +kernel
theorem dX12_findEnds_68 : decode cX12_findEnds 68 = .ok (.goto (-26), 3) := by decide +kernel
theorem dX12_findEnds_71 : decode cX12_findEnds 71 = .ok (.iconst 0, 1) := by decide +kernel
theorem dX12_findEnds_72 : decode cX12_findEnds 72 = .ok (.istore 5, 2) := by decide +kernel
theorem dX12_findEnds_74 : decode cX12_findEnds 74 = .ok (.iload 5, 2) := by decide +kernel
theorem dX12_findEnds_76 : decode cX12_findEnds 76 = .ok (.bipush 25, 2) := by decide +kernel
theorem dX12_findEnds_78 : decode cX12_findEnds 78 = .ok (.if_icmp .ge 35, 3) := by decide +kernel
theorem dX12_findEnds_81 : decode cX12_findEnds 81 = .ok (.aload_n 0, 1) := by decide +kernel
theorem dX12_findEnds_82 : decode cX12_findEnds 82 = .ok (.getfield 141, 3) := by decide +kernel
theorem dX12_findEnds_85 : decode cX12_findEnds 85 = .ok (.sipush 512, 3) := by decide +kernel
theorem dX12_findEnds_88 : decode cX12_findEnds 88 = .ok (.iload_n 3, 1) := by decide +kernel
theorem dX12_findEnds_89 : decode cX12_findEnds 89 = .ok (.imul, 1) := by decide +kernel
theorem dX12_findEnds_90 : decode cX12_findEnds 90 = .ok (.iload 4, 2) := by decide +kernel
theorem dX12_findEnds_92 : decode cX12_findEnds 92 = .ok (.iadd, 1) := by decide +kernel
theorem dX12_findEnds_93 : decode cX12_findEnds 93 = .ok (.bipush 25, 2) := by decide +kernel
theorem dX12_findEnds_95 : decode cX12_findEnds 95 = .ok (.imul, 1) := by decide +kernel
theorem dX12_findEnds_96 : decode cX12_findEnds 96 = .ok (.iload 5, 2) := by decide +kernel
theorem dX12_findEnds_98 : decode cX12_findEnds 98 = .ok (.iadd, 1) := by decide +kernel
theorem dX12_findEnds_99 : decode cX12_findEnds 99 = .ok (.aload_n 0, 1) := by decide +kernel
theorem dX12_findEnds_100 : decode cX12_findEnds 100 = .ok (.getfield 137, 3) := by decide +kernel
theorem dX12_findEnds_103 : decode cX12_findEnds 103 = .ok (.iload 5, 2) := by decide +kernel
theorem dX12_findEnds_105 : decode cX12_findEnds 105 = .ok (.laload, 1) := by decide +kernel
theorem dX12_findEnds_106 : decode cX12_findEnds 106 = .ok (.lastore, 1) := by decide +kernel
theorem dX12_findEnds_107 : decode cX12_findEnds 107 = .ok (.iinc 5 1, 3) := by decide +kernel
theorem dX12_findEnds_110 : decode cX12_findEnds 110 = .ok (.goto (-36), 3) := by decide +kernel
theorem dX12_findEnds_113 : decode cX12_findEnds 113 = .ok (.iinc 4 1, 3) := by decide +kernel
theorem dX12_findEnds_116 : decode cX12_findEnds 116 = .ok (.goto (-99), 3) := by decide +kernel
theorem dX12_findEnds_119 : decode cX12_findEnds 119 = .ok (.iinc 3 1, 3) := by decide +kernel
theorem dX12_findEnds_122 : decode cX12_findEnds 122 = .ok (.goto (-113), 3) := by decide +kernel
theorem dX12_findEnds_125 : decode cX12_findEnds 125 = .ok (.aload_n 0, 1) := by decide +kernel
theorem dX12_findEnds_126 : decode cX12_findEnds 126 = .ok (.aload_n 0, 1) := by decide +kernel
theorem dX12_findEnds_127 : decode cX12_findEnds 127 = .ok (.getfield 69, 3) := by decide +kernel
theorem dX12_findEnds_130 : decode cX12_findEnds 130 = .ok (.putfield 369, 3) := by decide +kernel
theorem dX12_findEnds_133 : decode cX12_findEnds 133 = .ok (.return_, 1) := by decide +kernel
set_option maxHeartbeats 40000000 in
set_option maxRecDepth 100000 in
/-- X12_findEnds -/
theorem kX12_findEnds (l : Launch) (D : va_G) (G : tyG) (h0 : Nat) (z0 : Nat) (z1 : Nat) (z2 : Nat) (z3 : Nat) (z4 : Nat) (z5 : Nat) (z20 : Nat) (z21 : Nat) (z22 : Nat) (z23 : Nat) (z24 : Nat) (z25 : Nat) (z26 : Nat) (z27 : Nat) (z28 : Nat) (z6 : Nat) (z29 : Nat) (z7 : Nat) (z19 : Nat) (z8 : Nat) (z9 : Nat) (z10 : Nat) (z11 : Nat) (z30 : Nat) (z31 : Nat) (z32 : Nat) (z33 : Nat) (z12 : Nat) (z34 : Nat) (z35 : Nat) (z36 : Nat) (z37 : Nat) (z38 : Nat) (z39 : Nat) (z40 : Nat) (z41 : Nat) (z42 : Nat) (z13 : Nat) (z14 : Nat) (z15 : Nat) (z16 : Nat) (z17 : Nat) (z18 : Nat) (z43 : Nat) (sz : Nat) : Met l yX12_findEnds wsX12_findEnds ({ frames := 2, cells := 0, slots := 0, locals := 65 }) (va_Pc [.ref h0] (wB D G sz [(h0, .inr (12, [.ref z0, .ref z1, .ref z2, .ref z3, .ref z4, .ref z5, .ref z20, .ref z21, .ref z22, .ref z23, .ref z24, .ref z25, .int 0, .ref z26, .ref z27, .ref z28, .int 9, .int 0, .int 0, .ref z6, .ref z29, .ref z7, .int 0, .int 2, .ref z19, .ref z8, .ref z9, .ref z10, .int 0, .ref z11, .int 0, .ref z30, .ref z31, .ref z32, .ref z33, .int 0, .ref z12, .int 0, .int 0, .ref z34, .ref z35, .ref z36, .ref z37, .int 0, .int 0, .int 0, .int 0, .ref z38, .int 0, .ref z39, .ref z40, .ref z41, .ref z42, .int 0, .ref z13, .ref z14, .ref z15, .ref z16, .int 0, .ref z17, .ref z18, .ref z43])), (z15, .inl (G.2.1, 25, .inr (.inl (fun _ => 0)))), (z16, .inl (G.2.1, 51200, .inr (.inl (fun _ => 0))))])) (va_Qv (fun _ : Unit => True) (fun _ t => ∃ (g9 : Nat → Int64), (∀ j : Nat, j < 25 → g9 j = tIdn j) ∧ wS D G (va_A [(h0, .inr (12, [.ref z0, .ref z1, .ref z2, .ref z3, .ref z4, .ref z5, .ref z20, .ref z21, .ref z22, .ref z23, .ref z24, .ref z25, .int 0, .ref z26, .ref z27, .ref z28, .int 9, .int 0, .int 0, .ref z6, .ref z29, .ref z7, .int 0, .int 2, .ref z19, .ref z8, .ref z9, .ref z10, .int 0, .ref z11, .int 0, .ref z30, .ref z31, .ref z32, .ref z33, .int 0, .ref z12, .int 0, .int 0, .ref z34, .ref z35, .ref z36, .ref z37, .int 0, .int 0, .int 0, .int 0, .ref z38, .int 0, .ref z39, .ref z40, .ref z41, .ref z42, .int 0, .ref z13, .ref z14, .ref z15, .ref z16, .int 0, .ref z17, .ref z18, .ref z43])), (z15, .inl (G.2.1, 25, .inr (.inl (fun _ => 0)))), (z16, .inl (G.2.1, 51200, .inr (.inl (fun _ => 0))))] sz) [(z16, .inl (G.2.1, 51200, .inr (.inl g9))), (h0, .inr (12, [.ref z0, .ref z1, .ref z2, .ref z3, .ref z4, .ref z5, .ref z20, .ref z21, .ref z22, .ref z23, .ref z24, .ref z25, .int 0, .ref z26, .ref z27, .ref z28, .int 9, .int 0, .int 0, .ref z6, .ref z29, .ref z7, .int 0, .int 2, .ref z19, .ref z8, .ref z9, .ref z10, .int 0, .ref z11, .int 0, .ref z30, .ref z31, .ref z32, .ref z33, .int 0, .ref z12, .int 0, .int 0, .ref z34, .ref z35, .ref z36, .ref z37, .int 0, .int 0, .int 0, .int 0, .ref z38, .int 0, .ref z39, .ref z40, .ref z41, .ref z42, .int 0, .ref z13, .ref z14, .ref z15, .ref z16, .int 2, .ref z17, .ref z18, .ref z43]))] t) (va_A [(h0, .inr (12, [.ref z0, .ref z1, .ref z2, .ref z3, .ref z4, .ref z5, .ref z20, .ref z21, .ref z22, .ref z23, .ref z24, .ref z25, .int 0, .ref z26, .ref z27, .ref z28, .int 9, .int 0, .int 0, .ref z6, .ref z29, .ref z7, .int 0, .int 2, .ref z19, .ref z8, .ref z9, .ref z10, .int 0, .ref z11, .int 0, .ref z30, .ref z31, .ref z32, .ref z33, .int 0, .ref z12, .int 0, .int 0, .ref z34, .ref z35, .ref z36, .ref z37, .int 0, .int 0, .int 0, .int 0, .ref z38, .int 0, .ref z39, .ref z40, .ref z41, .ref z42, .int 0, .ref z13, .ref z14, .ref z15, .ref z16, .int 0, .ref z17, .ref z18, .ref z43])), (z15, .inl (G.2.1, 25, .inr (.inl (fun _ => 0)))), (z16, .inl (G.2.1, 51200, .inr (.inl (fun _ => 0))))] sz)) 0 0 (va_A [(h0, .inr (12, [.ref z0, .ref z1, .ref z2, .ref z3, .ref z4, .ref z5, .ref z20, .ref z21, .ref z22, .ref z23, .ref z24, .ref z25, .int 0, .ref z26, .ref z27, .ref z28, .int 9, .int 0, .int 0, .ref z6, .ref z29, .ref z7, .int 0, .int 2, .ref z19, .ref z8, .ref z9, .ref z10, .int 0, .ref z11, .int 0, .ref z30, .ref z31, .ref z32, .ref z33, .int 0, .ref z12, .int 0, .int 0, .ref z34, .ref z35, .ref z36, .ref z37, .int 0, .int 0, .int 0, .int 0, .ref z38, .int 0, .ref z39, .ref z40, .ref z41, .ref z42, .int 0, .ref z13, .ref z14, .ref z15, .ref z16, .int 0, .ref z17, .ref z18, .ref z43])), (z15, .inl (G.2.1, 25, .inr (.inl (fun _ => 0)))), (z16, .inl (G.2.1, 51200, .inr (.inl (fun _ => 0))))] sz) := by
  refine Met.ofW (cc := cX12_findEnds) (maxL := 6) (ret := none) (by decide) rfl ?_
  intro p e s m args below meth c s₁ B hml hv
  obtain ⟨rfl, hsz, hP, hK, hD0, hN⟩ := hv
  have hx := B.exec
  have hb := B.bytes
  have hr := B.returns
  have hts := atoms_spec (ws := wsX12_findEnds) B.pre
  have hown : s.vm.findClass RX12 = some m.cls := findClass_of_methodNamed B.named
  have hlocks := B.notSynchronized
  subst hsz
  have hD := hD0.self (sz := s.heap.size)
  generalize hAe : va_A [(h0, .inr (12, [.ref z0, .ref z1, .ref z2, .ref z3, .ref z4, .ref z5, .ref z20, .ref z21, .ref z22, .ref z23, .ref z24, .ref z25, .int 0, .ref z26, .ref z27, .ref z28, .int 9, .int 0, .int 0, .ref z6, .ref z29, .ref z7, .int 0, .int 2, .ref z19, .ref z8, .ref z9, .ref z10, .int 0, .ref z11, .int 0, .ref z30, .ref z31, .ref z32, .ref z33, .int 0, .ref z12, .int 0, .int 0, .ref z34, .ref z35, .ref z36, .ref z37, .int 0, .int 0, .int 0, .int 0, .ref z38, .int 0, .ref z39, .ref z40, .ref z41, .ref z42, .int 0, .ref z13, .ref z14, .ref z15, .ref z16, .int 0, .ref z17, .ref z18, .ref z43])), (z15, .inl (G.2.1, 25, .inr (.inl (fun _ => 0)))), (z16, .inl (G.2.1, 51200, .inr (.inl (fun _ => 0))))] s.heap.size = A at hD ⊢
  have hA : ∀ q : Nat, s.heap.size ≤ q → A q := fun q h => by rw [← hAe]; exact Or.inr h
  have hS : va_S A s.heap s.heap [] := va_S.rf
  have hP : va_P D vwCl [(h0, .inr (12, [.ref z0, .ref z1, .ref z2, .ref z3, .ref z4, .ref z5, .ref z20, .ref z21, .ref z22, .ref z23, .ref z24, .ref z25, .int 0, .ref z26, .ref z27, .ref z28, .int 9, .int 0, .int 0, .ref z6, .ref z29, .ref z7, .int 0, .int 2, .ref z19, .ref z8, .ref z9, .ref z10, .int 0, .ref z11, .int 0, .ref z30, .ref z31, .ref z32, .ref z33, .int 0, .ref z12, .int 0, .int 0, .ref z34, .ref z35, .ref z36, .ref z37, .int 0, .int 0, .int 0, .int 0, .ref z38, .int 0, .ref z39, .ref z40, .ref z41, .ref z42, .int 0, .ref z13, .ref z14, .ref z15, .ref z16, .int 0, .ref z17, .ref z18, .ref z43])), (z15, .inl (G.2.1, 25, .inr (.inl (fun _ => 0)))), (z16, .inl (G.2.1, 51200, .inr (.inl (fun _ => 0))))] s.heap := hP
  have hl := lv_entry ([.ref h0]) (n := 6) (Nat.le_of_ble_eq_true rfl)
  rw [lg_entry_eq]
  generalize (lg_sl ([.ref h0]) ++ List.replicate (6 - (lg_sl ([.ref h0])).length) Slot.unset).toArray = ls at hl ⊢
  have hl : lv_has ls 6 [(0, .ref h0)] := hl
  refine lv_ldc2 (v := 7) hx hb hown (hts (.constantLong RX12 343 (7)) mX12_findEnds_w0) dX12_findEnds_0 ?_
  have hPc := hP.sub (ws' := []) [] rfl
  have hDc := hD.sub (ws' := []) [] (by decide) rfl
  have hFc := va_free (wc := []) hD hS hA [] rfl
  refine va_calll (va_runS (As := [.long 7]) (rest := []) ⟨hx, hb, hml, hown, hts⟩ (kX12_contrary l D G  s.heap.size) (va_cwS 1 hts gX12_findEnds_X12_contrary rfl rfl rfl (by decide +kernel) ⟨Nat.le_of_ble_eq_true rfl, Nat.le_of_ble_eq_true rfl⟩) ⟨wB_blind, wB_pre hPc hK hDc hN⟩ rfl rfl hl.1 rfl (lv_room (Nat.le_of_ble_eq_true rfl)) dX12_findEnds_3 ⟨Nat.le_of_ble_eq_true rfl, Nat.le_of_ble_eq_true rfl⟩) hS (fun q _ h => hFc q h) hFc (fun r1 u t H1 locs ht hvm hr1 hB hz1 hk1 hS => ?_)
  obtain ⟨hP, hD⟩ := va_join (wr := [(h0, .inr (12, [.ref z0, .ref z1, .ref z2, .ref z3, .ref z4, .ref z5, .ref z20, .ref z21, .ref z22, .ref z23, .ref z24, .ref z25, .int 0, .ref z26, .ref z27, .ref z28, .int 9, .int 0, .int 0, .ref z6, .ref z29, .ref z7, .int 0, .int 2, .ref z19, .ref z8, .ref z9, .ref z10, .int 0, .ref z11, .int 0, .ref z30, .ref z31, .ref z32, .ref z33, .int 0, .ref z12, .int 0, .int 0, .ref z34, .ref z35, .ref z36, .ref z37, .int 0, .int 0, .int 0, .int 0, .ref z38, .int 0, .ref z39, .ref z40, .ref z41, .ref z42, .int 0, .ref z13, .ref z14, .ref z15, .ref z16, .int 0, .ref z17, .ref z18, .ref z43])), (z15, .inl (G.2.1, 25, .inr (.inl (fun _ => 0)))), (z16, .inl (G.2.1, 51200, .inr (.inl (fun _ => 0))))]) (w1 := []) hP hD [] [0, 1, 2] rfl rfl (by decide) (by decide) hk1 hFc wP_nil wD_nil
  clear hPc hDc
  generalize H1 = H at hP hS ⊢
  have hP : va_P D vwCl [(h0, .inr (12, [.ref z0, .ref z1, .ref z2, .ref z3, .ref z4, .ref z5, .ref z20, .ref z21, .ref z22, .ref z23, .ref z24, .ref z25, .int 0, .ref z26, .ref z27, .ref z28, .int 9, .int 0, .int 0, .ref z6, .ref z29, .ref z7, .int 0, .int 2, .ref z19, .ref z8, .ref z9, .ref z10, .int 0, .ref z11, .int 0, .ref z30, .ref z31, .ref z32, .ref z33, .int 0, .ref z12, .int 0, .int 0, .ref z34, .ref z35, .ref z36, .ref z37, .int 0, .int 0, .int 0, .int 0, .ref z38, .int 0, .ref z39, .ref z40, .ref z41, .ref z42, .int 0, .ref z13, .ref z14, .ref z15, .ref z16, .int 0, .ref z17, .ref z18, .ref z43])), (z15, .inl (G.2.1, 25, .inr (.inl (fun _ => 0)))), (z16, .inl (G.2.1, 51200, .inr (.inl (fun _ => 0))))] H := hP
  have hD : va_D A [(h0, .inr (12, [.ref z0, .ref z1, .ref z2, .ref z3, .ref z4, .ref z5, .ref z20, .ref z21, .ref z22, .ref z23, .ref z24, .ref z25, .int 0, .ref z26, .ref z27, .ref z28, .int 9, .int 0, .int 0, .ref z6, .ref z29, .ref z7, .int 0, .int 2, .ref z19, .ref z8, .ref z9, .ref z10, .int 0, .ref z11, .int 0, .ref z30, .ref z31, .ref z32, .ref z33, .int 0, .ref z12, .int 0, .int 0, .ref z34, .ref z35, .ref z36, .ref z37, .int 0, .int 0, .int 0, .int 0, .ref z38, .int 0, .ref z39, .ref z40, .ref z41, .ref z42, .int 0, .ref z13, .ref z14, .ref z15, .ref z16, .int 0, .ref z17, .ref z18, .ref z43])), (z15, .inl (G.2.1, 25, .inr (.inl (fun _ => 0)))), (z16, .inl (G.2.1, 51200, .inr (.inl (fun _ => 0))))] := hD
  subst hr1
  refine lv_lstore_n (lv' := [(1, .long 714288), (0, .ref h0)]) hx hb dX12_findEnds_6 rfl hl (by decide) rfl (fun ls hl => ?_)
  refine lv_iconst (v := 0) hx hb dX12_findEnds_7 (by decide) ?_
  refine lv_istore_n (lv' := [(3, .int 0), (1, .long 714288), (0, .ref h0)]) hx hb dX12_findEnds_8 rfl hl (by decide) rfl (fun ls hl => ?_)
  refine lv_iload_n hx hb dX12_findEnds_9 rfl (lv_at hl 0 rfl) ?_
  refine lv_iconst (v := 3) hx hb dX12_findEnds_10 (by decide) ?_
  refine lv_icmp_gt (tgt := 125) hx hb dX12_findEnds_11 (by decide) (fun h9 => absurd h9 (by decide)) (fun _ => ?_)
  refine lv_iconst (v := 0) hx hb dX12_findEnds_14 (by decide) ?_
  refine lv_istore (lv' := [(4, .int 0), (3, .int 0), (1, .long 714288), (0, .ref h0)]) hx hb dX12_findEnds_15 hl (by decide) rfl (fun ls hl => ?_)
  refine lv_iload hx hb dX12_findEnds_17 (lv_at hl 0 rfl) ?_
  refine lv_aload_n hx hb dX12_findEnds_19 rfl (lv_at hl 3 rfl) ?_
  have hPc := hP.sub (ws' := [(h0, .inr (12, [.ref z0, .ref z1, .ref z2, .ref z3, .ref z4, .ref z5, .ref z20, .ref z21, .ref z22, .ref z23, .ref z24, .ref z25, .int 0, .ref z26, .ref z27, .ref z28, .int 9, .int 0, .int 0, .ref z6, .ref z29, .ref z7, .int 0, .int 2, .ref z19, .ref z8, .ref z9, .ref z10, .int 0, .ref z11, .int 0, .ref z30, .ref z31, .ref z32, .ref z33, .int 0, .ref z12, .int 0, .int 0, .ref z34, .ref z35, .ref z36, .ref z37, .int 0, .int 0, .int 0, .int 0, .ref z38, .int 0, .ref z39, .ref z40, .ref z41, .ref z42, .int 0, .ref z13, .ref z14, .ref z15, .ref z16, .int 0, .ref z17, .ref z18, .ref z43]))]) [0] rfl
  have hDc := hD.sub (ws' := [(h0, .inr (12, [.ref z0, .ref z1, .ref z2, .ref z3, .ref z4, .ref z5, .ref z20, .ref z21, .ref z22, .ref z23, .ref z24, .ref z25, .int 0, .ref z26, .ref z27, .ref z28, .int 9, .int 0, .int 0, .ref z6, .ref z29, .ref z7, .int 0, .int 2, .ref z19, .ref z8, .ref z9, .ref z10, .int 0, .ref z11, .int 0, .ref z30, .ref z31, .ref z32, .ref z33, .int 0, .ref z12, .int 0, .int 0, .ref z34, .ref z35, .ref z36, .ref z37, .int 0, .int 0, .int 0, .int 0, .ref z38, .int 0, .ref z39, .ref z40, .ref z41, .ref z42, .int 0, .ref z13, .ref z14, .ref z15, .ref z16, .int 0, .ref z17, .ref z18, .ref z43]))]) [0] (by decide) rfl
  have hFc := va_free (wc := [(h0, .inr (12, [.ref z0, .ref z1, .ref z2, .ref z3, .ref z4, .ref z5, .ref z20, .ref z21, .ref z22, .ref z23, .ref z24, .ref z25, .int 0, .ref z26, .ref z27, .ref z28, .int 9, .int 0, .int 0, .ref z6, .ref z29, .ref z7, .int 0, .int 2, .ref z19, .ref z8, .ref z9, .ref z10, .int 0, .ref z11, .int 0, .ref z30, .ref z31, .ref z32, .ref z33, .int 0, .ref z12, .int 0, .int 0, .ref z34, .ref z35, .ref z36, .ref z37, .int 0, .int 0, .int 0, .int 0, .ref z38, .int 0, .ref z39, .ref z40, .ref z41, .ref z42, .int 0, .ref z13, .ref z14, .ref z15, .ref z16, .int 0, .ref z17, .ref z18, .ref z43]))]) hD hS hA [0] rfl
  refine va_calli (va_runV (As := []) (rest := [.int 0]) ⟨hx, hb, hml, hown, hts⟩ (kX12_gens l D G h0 z0 z1 z2 z3 z4 z5 z20 z21 z22 z23 z24 z25 z26 z27 z28 z6 z29 z7 z19 z8 z9 z10 z11 z30 z31 z32 z33 z12 z34 z35 z36 z37 z38 z39 z40 z41 z42 z13 z14 z15 z16 z17 z18 z43 0 H.size) (cwV 0 hts gX12_findEnds_X12_gens rfl rfl rfl (by decide +kernel) ⟨Nat.le_of_ble_eq_true rfl, Nat.le_of_ble_eq_true rfl⟩) ⟨wB_blind, va_recv hK hPc (ci := 12) (q0 := 0) rfl rfl, wB_pre hPc hK hDc hN⟩ rfl rfl hl.1 rfl (lv_room (Nat.le_of_ble_eq_true rfl)) dX12_findEnds_20 ⟨Nat.le_of_ble_eq_true rfl, Nat.le_of_ble_eq_true rfl⟩) hS (fun q _ h => hFc q h) hFc (fun r2 u t H1 locs ht hvm hr2 hB hz1 hk1 hS => ?_)
  obtain ⟨hP1, hK1, hD1⟩ := hB
  rw [ht] at hP1
  obtain ⟨hP, hD⟩ := va_join (wr := [(z15, .inl (G.2.1, 25, .inr (.inl (fun _ => 0)))), (z16, .inl (G.2.1, 51200, .inr (.inl (fun _ => 0))))]) (w1 := [(h0, .inr (12, [.ref z0, .ref z1, .ref z2, .ref z3, .ref z4, .ref z5, .ref z20, .ref z21, .ref z22, .ref z23, .ref z24, .ref z25, .int 0, .ref z26, .ref z27, .ref z28, .int 9, .int 0, .int 0, .ref z6, .ref z29, .ref z7, .int 0, .int 2, .ref z19, .ref z8, .ref z9, .ref z10, .int 0, .ref z11, .int 0, .ref z30, .ref z31, .ref z32, .ref z33, .int 0, .ref z12, .int 0, .int 0, .ref z34, .ref z35, .ref z36, .ref z37, .int 0, .int 0, .int 0, .int 0, .ref z38, .int 0, .ref z39, .ref z40, .ref z41, .ref z42, .int 0, .ref z13, .ref z14, .ref z15, .ref z16, .int 0, .ref z17, .ref z18, .ref z43]))]) hP hD [0] [1, 2] rfl rfl (by decide) (by decide) hk1 hFc hP1 hD1
  clear hPc hDc
  generalize H1 = H at hP hS ⊢
  have hP : va_P D vwCl [(z15, .inl (G.2.1, 25, .inr (.inl (fun _ => 0)))), (z16, .inl (G.2.1, 51200, .inr (.inl (fun _ => 0)))), (h0, .inr (12, [.ref z0, .ref z1, .ref z2, .ref z3, .ref z4, .ref z5, .ref z20, .ref z21, .ref z22, .ref z23, .ref z24, .ref z25, .int 0, .ref z26, .ref z27, .ref z28, .int 9, .int 0, .int 0, .ref z6, .ref z29, .ref z7, .int 0, .int 2, .ref z19, .ref z8, .ref z9, .ref z10, .int 0, .ref z11, .int 0, .ref z30, .ref z31, .ref z32, .ref z33, .int 0, .ref z12, .int 0, .int 0, .ref z34, .ref z35, .ref z36, .ref z37, .int 0, .int 0, .int 0, .int 0, .ref z38, .int 0, .ref z39, .ref z40, .ref z41, .ref z42, .int 0, .ref z13, .ref z14, .ref z15, .ref z16, .int 0, .ref z17, .ref z18, .ref z43]))] H := hP
  have hD : va_D A [(z15, .inl (G.2.1, 25, .inr (.inl (fun _ => 0)))), (z16, .inl (G.2.1, 51200, .inr (.inl (fun _ => 0)))), (h0, .inr (12, [.ref z0, .ref z1, .ref z2, .ref z3, .ref z4, .ref z5, .ref z20, .ref z21, .ref z22, .ref z23, .ref z24, .ref z25, .int 0, .ref z26, .ref z27, .ref z28, .int 9, .int 0, .int 0, .ref z6, .ref z29, .ref z7, .int 0, .int 2, .ref z19, .ref z8, .ref z9, .ref z10, .int 0, .ref z11, .int 0, .ref z30, .ref z31, .ref z32, .ref z33, .int 0, .ref z12, .int 0, .int 0, .ref z34, .ref z35, .ref z36, .ref z37, .int 0, .int 0, .int 0, .int 0, .ref z38, .int 0, .ref z39, .ref z40, .ref z41, .ref z42, .int 0, .ref z13, .ref z14, .ref z15, .ref z16, .int 0, .ref z17, .ref z18, .ref z43]))] := hD
  subst hr2
  refine lv_iload_n hx hb dX12_findEnds_23 rfl (lv_at hl 1 rfl) ?_
  have hPc := hP.sub (ws' := []) [] rfl
  have hDc := hD.sub (ws' := []) [] (by decide) rfl
  have hFc := va_free (wc := []) hD hS hA [] rfl
  refine va_calli (va_runS (As := [.int 2, .int 0]) (rest := [.int 0]) ⟨hx, hb, hml, hown, hts⟩ (kX12_power_0 l D G  H.size) (va_cwS 2 hts gX12_findEnds_X12_power rfl rfl rfl (by decide +kernel) ⟨Nat.le_of_ble_eq_true rfl, Nat.le_of_ble_eq_true rfl⟩) ⟨wB_blind, wB_pre hPc hK hDc hN⟩ rfl rfl hl.1 rfl (lv_room (Nat.le_of_ble_eq_true rfl)) dX12_findEnds_24 ⟨Nat.le_of_ble_eq_true rfl, Nat.le_of_ble_eq_true rfl⟩) hS (fun q _ h => hFc q h) hFc (fun r3 u t H1 locs ht hvm hr3 hB hz1 hk1 hS => ?_)
  obtain ⟨hP, hD⟩ := va_join (wr := [(z15, .inl (G.2.1, 25, .inr (.inl (fun _ => 0)))), (z16, .inl (G.2.1, 51200, .inr (.inl (fun _ => 0)))), (h0, .inr (12, [.ref z0, .ref z1, .ref z2, .ref z3, .ref z4, .ref z5, .ref z20, .ref z21, .ref z22, .ref z23, .ref z24, .ref z25, .int 0, .ref z26, .ref z27, .ref z28, .int 9, .int 0, .int 0, .ref z6, .ref z29, .ref z7, .int 0, .int 2, .ref z19, .ref z8, .ref z9, .ref z10, .int 0, .ref z11, .int 0, .ref z30, .ref z31, .ref z32, .ref z33, .int 0, .ref z12, .int 0, .int 0, .ref z34, .ref z35, .ref z36, .ref z37, .int 0, .int 0, .int 0, .int 0, .ref z38, .int 0, .ref z39, .ref z40, .ref z41, .ref z42, .int 0, .ref z13, .ref z14, .ref z15, .ref z16, .int 0, .ref z17, .ref z18, .ref z43]))]) (w1 := []) hP hD [] [0, 1, 2] rfl rfl (by decide) (by decide) hk1 hFc wP_nil wD_nil
  clear hPc hDc
  generalize H1 = H at hP hS ⊢
  have hP : va_P D vwCl [(z15, .inl (G.2.1, 25, .inr (.inl (fun _ => 0)))), (z16, .inl (G.2.1, 51200, .inr (.inl (fun _ => 0)))), (h0, .inr (12, [.ref z0, .ref z1, .ref z2, .ref z3, .ref z4, .ref z5, .ref z20, .ref z21, .ref z22, .ref z23, .ref z24, .ref z25, .int 0, .ref z26, .ref z27, .ref z28, .int 9, .int 0, .int 0, .ref z6, .ref z29, .ref z7, .int 0, .int 2, .ref z19, .ref z8, .ref z9, .ref z10, .int 0, .ref z11, .int 0, .ref z30, .ref z31, .ref z32, .ref z33, .int 0, .ref z12, .int 0, .int 0, .ref z34, .ref z35, .ref z36, .ref z37, .int 0, .int 0, .int 0, .int 0, .ref z38, .int 0, .ref z39, .ref z40, .ref z41, .ref z42, .int 0, .ref z13, .ref z14, .ref z15, .ref z16, .int 0, .ref z17, .ref z18, .ref z43]))] H := hP
  have hD : va_D A [(z15, .inl (G.2.1, 25, .inr (.inl (fun _ => 0)))), (z16, .inl (G.2.1, 51200, .inr (.inl (fun _ => 0)))), (h0, .inr (12, [.ref z0, .ref z1, .ref z2, .ref z3, .ref z4, .ref z5, .ref z20, .ref z21, .ref z22, .ref z23, .ref z24, .ref z25, .int 0, .ref z26, .ref z27, .ref z28, .int 9, .int 0, .int 0, .ref z6, .ref z29, .ref z7, .int 0, .int 2, .ref z19, .ref z8, .ref z9, .ref z10, .int 0, .ref z11, .int 0, .ref z30, .ref z31, .ref z32, .ref z33, .int 0, .ref z12, .int 0, .int 0, .ref z34, .ref z35, .ref z36, .ref z37, .int 0, .int 0, .int 0, .int 0, .ref z38, .int 0, .ref z39, .ref z40, .ref z41, .ref z42, .int 0, .ref z13, .ref z14, .ref z15, .ref z16, .int 0, .ref z17, .ref z18, .ref z43]))] := hD
  subst hr3
  refine lv_icmp_ge (tgt := 119) hx hb dX12_findEnds_27 (by decide) (fun h9 => absurd h9 (by decide)) (fun _ => ?_)
  refine lv_aload_n hx hb dX12_findEnds_30 rfl (lv_at hl 3 rfl) ?_
  refine va_get (D := D) (ci := 12) (v := .ref z15) (C := RX12) (T := TX12) (N := 62) hx hb hts iX12_findEnds_X12 hown hK hP 2 rfl rfl 56 (by decide) (hts (.fieldLink RX12 137 "PuppetBridgeModel" "made" "[J") mX12_findEnds_w1) (fun _ h9 => h9) rfl dX12_findEnds_31 ?_
  have hPc := hP.sub (ws' := [(z15, .inl (G.2.1, 25, .inr (.inl (fun _ => 0))))]) [0] rfl
  have hDc := hD.sub (ws' := [(z15, .inl (G.2.1, 25, .inr (.inl (fun _ => 0))))]) [0] (by decide) rfl
  have hFc := va_free (wc := [(z15, .inl (G.2.1, 25, .inr (.inl (fun _ => 0))))]) hD hS hA [0] rfl
  refine va_callv (va_runS (As := [.ref z15]) (rest := []) ⟨hx, hb, hml, hown, hts⟩ (kX12_nothing l D G z15 (fun _ => 0) H.size) (va_cwS 1 hts gX12_findEnds_X12_nothing rfl rfl rfl (by decide +kernel) ⟨Nat.le_of_ble_eq_true rfl, Nat.le_of_ble_eq_true rfl⟩) ⟨wB_blind, wB_pre hPc hK hDc hN⟩ rfl rfl hl.1 rfl (lv_room (Nat.le_of_ble_eq_true rfl)) dX12_findEnds_34 ⟨Nat.le_of_ble_eq_true rfl, Nat.le_of_ble_eq_true rfl⟩) hS (fun q _ h => hFc q h) hFc (fun u t H1 locs ht hvm hr4 hB hz1 hk1 hS => ?_)
  obtain ⟨hP1, hK1, hD1⟩ := hB
  rw [ht] at hP1
  obtain ⟨hP, hD⟩ := va_join (wr := [(z16, .inl (G.2.1, 51200, .inr (.inl (fun _ => 0)))), (h0, .inr (12, [.ref z0, .ref z1, .ref z2, .ref z3, .ref z4, .ref z5, .ref z20, .ref z21, .ref z22, .ref z23, .ref z24, .ref z25, .int 0, .ref z26, .ref z27, .ref z28, .int 9, .int 0, .int 0, .ref z6, .ref z29, .ref z7, .int 0, .int 2, .ref z19, .ref z8, .ref z9, .ref z10, .int 0, .ref z11, .int 0, .ref z30, .ref z31, .ref z32, .ref z33, .int 0, .ref z12, .int 0, .int 0, .ref z34, .ref z35, .ref z36, .ref z37, .int 0, .int 0, .int 0, .int 0, .ref z38, .int 0, .ref z39, .ref z40, .ref z41, .ref z42, .int 0, .ref z13, .ref z14, .ref z15, .ref z16, .int 0, .ref z17, .ref z18, .ref z43]))]) (w1 := [(z15, .inl (G.2.1, 25, .inr (.inl tIdn)))]) hP hD [0] [1, 2] rfl rfl (by decide) (by decide) hk1 hFc hP1 hD1
  clear hPc hDc
  generalize H1 = H at hP hS ⊢
  have hP : va_P D vwCl [(z16, .inl (G.2.1, 51200, .inr (.inl (fun _ => 0)))), (h0, .inr (12, [.ref z0, .ref z1, .ref z2, .ref z3, .ref z4, .ref z5, .ref z20, .ref z21, .ref z22, .ref z23, .ref z24, .ref z25, .int 0, .ref z26, .ref z27, .ref z28, .int 9, .int 0, .int 0, .ref z6, .ref z29, .ref z7, .int 0, .int 2, .ref z19, .ref z8, .ref z9, .ref z10, .int 0, .ref z11, .int 0, .ref z30, .ref z31, .ref z32, .ref z33, .int 0, .ref z12, .int 0, .int 0, .ref z34, .ref z35, .ref z36, .ref z37, .int 0, .int 0, .int 0, .int 0, .ref z38, .int 0, .ref z39, .ref z40, .ref z41, .ref z42, .int 0, .ref z13, .ref z14, .ref z15, .ref z16, .int 0, .ref z17, .ref z18, .ref z43])), (z15, .inl (G.2.1, 25, .inr (.inl tIdn)))] H := hP
  have hD : va_D A [(z16, .inl (G.2.1, 51200, .inr (.inl (fun _ => 0)))), (h0, .inr (12, [.ref z0, .ref z1, .ref z2, .ref z3, .ref z4, .ref z5, .ref z20, .ref z21, .ref z22, .ref z23, .ref z24, .ref z25, .int 0, .ref z26, .ref z27, .ref z28, .int 9, .int 0, .int 0, .ref z6, .ref z29, .ref z7, .int 0, .int 2, .ref z19, .ref z8, .ref z9, .ref z10, .int 0, .ref z11, .int 0, .ref z30, .ref z31, .ref z32, .ref z33, .int 0, .ref z12, .int 0, .int 0, .ref z34, .ref z35, .ref z36, .ref z37, .int 0, .int 0, .int 0, .int 0, .ref z38, .int 0, .ref z39, .ref z40, .ref z41, .ref z42, .int 0, .ref z13, .ref z14, .ref z15, .ref z16, .int 0, .ref z17, .ref z18, .ref z43])), (z15, .inl (G.2.1, 25, .inr (.inl tIdn)))] := hD
  refine lv_iload_n hx hb dX12_findEnds_37 rfl (lv_at hl 1 rfl) ?_
  refine lv_iconst (v := 1) hx hb dX12_findEnds_38 (by decide) ?_
  refine lv_isub hx hb dX12_findEnds_39 ?_
  refine wk_i (-1) (by decide) ?_
  refine lv_istore (lv' := [(5, .int (-1)), (4, .int 0), (3, .int 0), (1, .long 714288), (0, .ref h0)]) hx hb dX12_findEnds_40 hl (by decide) rfl (fun ls hl => ?_)
  refine lv_iload hx hb dX12_findEnds_42 (lv_at hl 0 rfl) ?_
  refine lv_if_lt (tgt := 71) hx hb dX12_findEnds_44 (by decide) (fun _ => ?_) (fun h9 => absurd h9 (by decide))
  refine lv_iconst (v := 0) hx hb dX12_findEnds_71 (by decide) ?_
  refine lv_istore (lv' := [(5, .int 0), (4, .int 0), (3, .int 0), (1, .long 714288), (0, .ref h0)]) hx hb dX12_findEnds_72 hl (by decide) rfl (fun ls hl => ?_)
  obtain ⟨i, hi⟩ : ∃ i : Nat, i = 0 := ⟨0, rfl⟩
  obtain ⟨lf, hlf⟩ : ∃ f : Nat → Int64, f = (fun _ => 0) := ⟨_, rfl⟩
  have hfa : ∀ j : Nat, j < i → lf j = tIdn j := by rw [hi]; intro j hj; omega
  have hP : va_P D vwCl [(z16, .inl (G.2.1, 51200, .inr (.inl lf))), (h0, .inr (12, [.ref z0, .ref z1, .ref z2, .ref z3, .ref z4, .ref z5, .ref z20, .ref z21, .ref z22, .ref z23, .ref z24, .ref z25, .int 0, .ref z26, .ref z27, .ref z28, .int 9, .int 0, .int 0, .ref z6, .ref z29, .ref z7, .int 0, .int 2, .ref z19, .ref z8, .ref z9, .ref z10, .int 0, .ref z11, .int 0, .ref z30, .ref z31, .ref z32, .ref z33, .int 0, .ref z12, .int 0, .int 0, .ref z34, .ref z35, .ref z36, .ref z37, .int 0, .int 0, .int 0, .int 0, .ref z38, .int 0, .ref z39, .ref z40, .ref z41, .ref z42, .int 0, .ref z13, .ref z14, .ref z15, .ref z16, .int 0, .ref z17, .ref z18, .ref z43])), (z15, .inl (G.2.1, 25, .inr (.inl tIdn)))] H := by rw [hlf]; exact hP
  have hD : va_D A [(z16, .inl (G.2.1, 51200, .inr (.inl lf))), (h0, .inr (12, [.ref z0, .ref z1, .ref z2, .ref z3, .ref z4, .ref z5, .ref z20, .ref z21, .ref z22, .ref z23, .ref z24, .ref z25, .int 0, .ref z26, .ref z27, .ref z28, .int 9, .int 0, .int 0, .ref z6, .ref z29, .ref z7, .int 0, .int 2, .ref z19, .ref z8, .ref z9, .ref z10, .int 0, .ref z11, .int 0, .ref z30, .ref z31, .ref z32, .ref z33, .int 0, .ref z12, .int 0, .int 0, .ref z34, .ref z35, .ref z36, .ref z37, .int 0, .int 0, .int 0, .int 0, .ref z38, .int 0, .ref z39, .ref z40, .ref z41, .ref z42, .int 0, .ref z13, .ref z14, .ref z15, .ref z16, .int 0, .ref z17, .ref z18, .ref z43])), (z15, .inl (G.2.1, 25, .inr (.inl tIdn)))] := by rw [hlf]; exact hD
  have hl : lv_has ls 6 [(5, .int (nI i)), (4, .int 0), (3, .int 0), (1, .long 714288), (0, .ref h0)] := by rw [hi]; exact hl
  obtain ⟨d, hd⟩ : ∃ d : Nat, i + d = 25 := ⟨25, by omega⟩
  clear hi hlf
  generalize H = H at hP hS ⊢
  generalize locs = locs at hS ⊢
  generalize ls = ls at hl ⊢
  induction d generalizing i lf H locs ls with
  | zero =>
    refine lv_iload hx hb dX12_findEnds_74 (lv_at hl 0 rfl) ?_
    refine lv_bipush (v := 25) hx hb dX12_findEnds_76 (by decide) ?_
    refine lv_icmp_ge (tgt := 113) hx hb dX12_findEnds_78 (by decide) (fun _ => ?_) (fun h9 => absurd (by rw [show i = 25 by omega]; decide) h9)
    refine lv_iinc (v := 1) (lv' := [(4, .int 1), (5, .int (nI i)), (3, .int 0), (1, .long 714288), (0, .ref h0)]) hx hb dX12_findEnds_113 hl (k := 1) rfl (by decide) (by decide) rfl (fun ls hl => ?_)
    refine lv_goto (tgt := 17) hx hb dX12_findEnds_116 (by decide) ?_
    refine lv_iload hx hb dX12_findEnds_17 (lv_at hl 0 rfl) ?_
    refine lv_aload_n hx hb dX12_findEnds_19 rfl (lv_at hl 4 rfl) ?_
    have hPc := hP.sub (ws' := [(h0, .inr (12, [.ref z0, .ref z1, .ref z2, .ref z3, .ref z4, .ref z5, .ref z20, .ref z21, .ref z22, .ref z23, .ref z24, .ref z25, .int 0, .ref z26, .ref z27, .ref z28, .int 9, .int 0, .int 0, .ref z6, .ref z29, .ref z7, .int 0, .int 2, .ref z19, .ref z8, .ref z9, .ref z10, .int 0, .ref z11, .int 0, .ref z30, .ref z31, .ref z32, .ref z33, .int 0, .ref z12, .int 0, .int 0, .ref z34, .ref z35, .ref z36, .ref z37, .int 0, .int 0, .int 0, .int 0, .ref z38, .int 0, .ref z39, .ref z40, .ref z41, .ref z42, .int 0, .ref z13, .ref z14, .ref z15, .ref z16, .int 0, .ref z17, .ref z18, .ref z43]))]) [1] rfl
    have hDc := hD.sub (ws' := [(h0, .inr (12, [.ref z0, .ref z1, .ref z2, .ref z3, .ref z4, .ref z5, .ref z20, .ref z21, .ref z22, .ref z23, .ref z24, .ref z25, .int 0, .ref z26, .ref z27, .ref z28, .int 9, .int 0, .int 0, .ref z6, .ref z29, .ref z7, .int 0, .int 2, .ref z19, .ref z8, .ref z9, .ref z10, .int 0, .ref z11, .int 0, .ref z30, .ref z31, .ref z32, .ref z33, .int 0, .ref z12, .int 0, .int 0, .ref z34, .ref z35, .ref z36, .ref z37, .int 0, .int 0, .int 0, .int 0, .ref z38, .int 0, .ref z39, .ref z40, .ref z41, .ref z42, .int 0, .ref z13, .ref z14, .ref z15, .ref z16, .int 0, .ref z17, .ref z18, .ref z43]))]) [1] (by decide) rfl
    have hFc := va_free (wc := [(h0, .inr (12, [.ref z0, .ref z1, .ref z2, .ref z3, .ref z4, .ref z5, .ref z20, .ref z21, .ref z22, .ref z23, .ref z24, .ref z25, .int 0, .ref z26, .ref z27, .ref z28, .int 9, .int 0, .int 0, .ref z6, .ref z29, .ref z7, .int 0, .int 2, .ref z19, .ref z8, .ref z9, .ref z10, .int 0, .ref z11, .int 0, .ref z30, .ref z31, .ref z32, .ref z33, .int 0, .ref z12, .int 0, .int 0, .ref z34, .ref z35, .ref z36, .ref z37, .int 0, .int 0, .int 0, .int 0, .ref z38, .int 0, .ref z39, .ref z40, .ref z41, .ref z42, .int 0, .ref z13, .ref z14, .ref z15, .ref z16, .int 0, .ref z17, .ref z18, .ref z43]))]) hD hS hA [1] rfl
    refine va_calli (va_runV (As := []) (rest := [.int 1]) ⟨hx, hb, hml, hown, hts⟩ (kX12_gens l D G h0 z0 z1 z2 z3 z4 z5 z20 z21 z22 z23 z24 z25 z26 z27 z28 z6 z29 z7 z19 z8 z9 z10 z11 z30 z31 z32 z33 z12 z34 z35 z36 z37 z38 z39 z40 z41 z42 z13 z14 z15 z16 z17 z18 z43 0 H.size) (cwV 0 hts gX12_findEnds_X12_gens rfl rfl rfl (by decide +kernel) ⟨Nat.le_of_ble_eq_true rfl, Nat.le_of_ble_eq_true rfl⟩) ⟨wB_blind, va_recv hK hPc (ci := 12) (q0 := 0) rfl rfl, wB_pre hPc hK hDc hN⟩ rfl rfl hl.1 rfl (lv_room (Nat.le_of_ble_eq_true rfl)) dX12_findEnds_20 ⟨Nat.le_of_ble_eq_true rfl, Nat.le_of_ble_eq_true rfl⟩) hS (fun q _ h => hFc q h) hFc (fun r5 u t H1 locs ht hvm hr5 hB hz1 hk1 hS => ?_)
    obtain ⟨hP1, hK1, hD1⟩ := hB
    rw [ht] at hP1
    obtain ⟨hP, hD⟩ := va_join (wr := [(z16, .inl (G.2.1, 51200, .inr (.inl lf))), (z15, .inl (G.2.1, 25, .inr (.inl tIdn)))]) (w1 := [(h0, .inr (12, [.ref z0, .ref z1, .ref z2, .ref z3, .ref z4, .ref z5, .ref z20, .ref z21, .ref z22, .ref z23, .ref z24, .ref z25, .int 0, .ref z26, .ref z27, .ref z28, .int 9, .int 0, .int 0, .ref z6, .ref z29, .ref z7, .int 0, .int 2, .ref z19, .ref z8, .ref z9, .ref z10, .int 0, .ref z11, .int 0, .ref z30, .ref z31, .ref z32, .ref z33, .int 0, .ref z12, .int 0, .int 0, .ref z34, .ref z35, .ref z36, .ref z37, .int 0, .int 0, .int 0, .int 0, .ref z38, .int 0, .ref z39, .ref z40, .ref z41, .ref z42, .int 0, .ref z13, .ref z14, .ref z15, .ref z16, .int 0, .ref z17, .ref z18, .ref z43]))]) hP hD [1] [0, 2] rfl rfl (by decide) (by decide) hk1 hFc hP1 hD1
    clear hPc hDc
    generalize H1 = H at hP hS ⊢
    have hP : va_P D vwCl [(z16, .inl (G.2.1, 51200, .inr (.inl lf))), (z15, .inl (G.2.1, 25, .inr (.inl tIdn))), (h0, .inr (12, [.ref z0, .ref z1, .ref z2, .ref z3, .ref z4, .ref z5, .ref z20, .ref z21, .ref z22, .ref z23, .ref z24, .ref z25, .int 0, .ref z26, .ref z27, .ref z28, .int 9, .int 0, .int 0, .ref z6, .ref z29, .ref z7, .int 0, .int 2, .ref z19, .ref z8, .ref z9, .ref z10, .int 0, .ref z11, .int 0, .ref z30, .ref z31, .ref z32, .ref z33, .int 0, .ref z12, .int 0, .int 0, .ref z34, .ref z35, .ref z36, .ref z37, .int 0, .int 0, .int 0, .int 0, .ref z38, .int 0, .ref z39, .ref z40, .ref z41, .ref z42, .int 0, .ref z13, .ref z14, .ref z15, .ref z16, .int 0, .ref z17, .ref z18, .ref z43]))] H := hP
    have hD : va_D A [(z16, .inl (G.2.1, 51200, .inr (.inl lf))), (z15, .inl (G.2.1, 25, .inr (.inl tIdn))), (h0, .inr (12, [.ref z0, .ref z1, .ref z2, .ref z3, .ref z4, .ref z5, .ref z20, .ref z21, .ref z22, .ref z23, .ref z24, .ref z25, .int 0, .ref z26, .ref z27, .ref z28, .int 9, .int 0, .int 0, .ref z6, .ref z29, .ref z7, .int 0, .int 2, .ref z19, .ref z8, .ref z9, .ref z10, .int 0, .ref z11, .int 0, .ref z30, .ref z31, .ref z32, .ref z33, .int 0, .ref z12, .int 0, .int 0, .ref z34, .ref z35, .ref z36, .ref z37, .int 0, .int 0, .int 0, .int 0, .ref z38, .int 0, .ref z39, .ref z40, .ref z41, .ref z42, .int 0, .ref z13, .ref z14, .ref z15, .ref z16, .int 0, .ref z17, .ref z18, .ref z43]))] := hD
    subst hr5
    refine lv_iload_n hx hb dX12_findEnds_23 rfl (lv_at hl 2 rfl) ?_
    have hPc := hP.sub (ws' := []) [] rfl
    have hDc := hD.sub (ws' := []) [] (by decide) rfl
    have hFc := va_free (wc := []) hD hS hA [] rfl
    refine va_calli (va_runS (As := [.int 2, .int 0]) (rest := [.int 1]) ⟨hx, hb, hml, hown, hts⟩ (kX12_power_0 l D G  H.size) (va_cwS 2 hts gX12_findEnds_X12_power rfl rfl rfl (by decide +kernel) ⟨Nat.le_of_ble_eq_true rfl, Nat.le_of_ble_eq_true rfl⟩) ⟨wB_blind, wB_pre hPc hK hDc hN⟩ rfl rfl hl.1 rfl (lv_room (Nat.le_of_ble_eq_true rfl)) dX12_findEnds_24 ⟨Nat.le_of_ble_eq_true rfl, Nat.le_of_ble_eq_true rfl⟩) hS (fun q _ h => hFc q h) hFc (fun r6 u t H1 locs ht hvm hr6 hB hz1 hk1 hS => ?_)
    obtain ⟨hP, hD⟩ := va_join (wr := [(z16, .inl (G.2.1, 51200, .inr (.inl lf))), (z15, .inl (G.2.1, 25, .inr (.inl tIdn))), (h0, .inr (12, [.ref z0, .ref z1, .ref z2, .ref z3, .ref z4, .ref z5, .ref z20, .ref z21, .ref z22, .ref z23, .ref z24, .ref z25, .int 0, .ref z26, .ref z27, .ref z28, .int 9, .int 0, .int 0, .ref z6, .ref z29, .ref z7, .int 0, .int 2, .ref z19, .ref z8, .ref z9, .ref z10, .int 0, .ref z11, .int 0, .ref z30, .ref z31, .ref z32, .ref z33, .int 0, .ref z12, .int 0, .int 0, .ref z34, .ref z35, .ref z36, .ref z37, .int 0, .int 0, .int 0, .int 0, .ref z38, .int 0, .ref z39, .ref z40, .ref z41, .ref z42, .int 0, .ref z13, .ref z14, .ref z15, .ref z16, .int 0, .ref z17, .ref z18, .ref z43]))]) (w1 := []) hP hD [] [0, 1, 2] rfl rfl (by decide) (by decide) hk1 hFc wP_nil wD_nil
    clear hPc hDc
    generalize H1 = H at hP hS ⊢
    have hP : va_P D vwCl [(z16, .inl (G.2.1, 51200, .inr (.inl lf))), (z15, .inl (G.2.1, 25, .inr (.inl tIdn))), (h0, .inr (12, [.ref z0, .ref z1, .ref z2, .ref z3, .ref z4, .ref z5, .ref z20, .ref z21, .ref z22, .ref z23, .ref z24, .ref z25, .int 0, .ref z26, .ref z27, .ref z28, .int 9, .int 0, .int 0, .ref z6, .ref z29, .ref z7, .int 0, .int 2, .ref z19, .ref z8, .ref z9, .ref z10, .int 0, .ref z11, .int 0, .ref z30, .ref z31, .ref z32, .ref z33, .int 0, .ref z12, .int 0, .int 0, .ref z34, .ref z35, .ref z36, .ref z37, .int 0, .int 0, .int 0, .int 0, .ref z38, .int 0, .ref z39, .ref z40, .ref z41, .ref z42, .int 0, .ref z13, .ref z14, .ref z15, .ref z16, .int 0, .ref z17, .ref z18, .ref z43]))] H := hP
    have hD : va_D A [(z16, .inl (G.2.1, 51200, .inr (.inl lf))), (z15, .inl (G.2.1, 25, .inr (.inl tIdn))), (h0, .inr (12, [.ref z0, .ref z1, .ref z2, .ref z3, .ref z4, .ref z5, .ref z20, .ref z21, .ref z22, .ref z23, .ref z24, .ref z25, .int 0, .ref z26, .ref z27, .ref z28, .int 9, .int 0, .int 0, .ref z6, .ref z29, .ref z7, .int 0, .int 2, .ref z19, .ref z8, .ref z9, .ref z10, .int 0, .ref z11, .int 0, .ref z30, .ref z31, .ref z32, .ref z33, .int 0, .ref z12, .int 0, .int 0, .ref z34, .ref z35, .ref z36, .ref z37, .int 0, .int 0, .int 0, .int 0, .ref z38, .int 0, .ref z39, .ref z40, .ref z41, .ref z42, .int 0, .ref z13, .ref z14, .ref z15, .ref z16, .int 0, .ref z17, .ref z18, .ref z43]))] := hD
    subst hr6
    refine lv_icmp_ge (tgt := 119) hx hb dX12_findEnds_27 (by decide) (fun _ => ?_) (fun h9 => absurd h9 (by decide))
    refine lv_iinc (v := 1) (lv' := [(3, .int 1), (4, .int 1), (5, .int (nI i)), (1, .long 714288), (0, .ref h0)]) hx hb dX12_findEnds_119 hl (k := 2) rfl (by decide) (by decide) rfl (fun ls hl => ?_)
    refine lv_goto (tgt := 9) hx hb dX12_findEnds_122 (by decide) ?_
    refine lv_iload_n hx hb dX12_findEnds_9 rfl (lv_at hl 0 rfl) ?_
    refine lv_iconst (v := 3) hx hb dX12_findEnds_10 (by decide) ?_
    refine lv_icmp_gt (tgt := 125) hx hb dX12_findEnds_11 (by decide) (fun h9 => absurd h9 (by decide)) (fun _ => ?_)
    refine lv_iconst (v := 0) hx hb dX12_findEnds_14 (by decide) ?_
    refine lv_istore (lv' := [(4, .int 0), (3, .int 1), (5, .int (nI i)), (1, .long 714288), (0, .ref h0)]) hx hb dX12_findEnds_15 hl (by decide) rfl (fun ls hl => ?_)
    have hl := lv_sub (l' := [(4, .int 0), (3, .int 1), (1, .long 714288), (0, .ref h0)]) hl [0, 1, 3, 4] rfl
    obtain ⟨x, hi⟩ : ∃ i : Nat, i = 0 := ⟨0, rfl⟩
    obtain ⟨lm, hlm⟩ : ∃ f : Nat → Int64, f = tIdn := ⟨_, rfl⟩
    obtain ⟨le, hle⟩ : ∃ f : Nat → Int64, f = lf := ⟨_, rfl⟩
    have hfa : ∀ j : Nat, j < 25 → le j = tIdn j := by rw [hle]; exact fun j hj => hfa j (by omega)
    have hP : va_P D vwCl [(z16, .inl (G.2.1, 51200, .inr (.inl le))), (z15, .inl (G.2.1, 25, .inr (.inl lm))), (h0, .inr (12, [.ref z0, .ref z1, .ref z2, .ref z3, .ref z4, .ref z5, .ref z20, .ref z21, .ref z22, .ref z23, .ref z24, .ref z25, .int 0, .ref z26, .ref z27, .ref z28, .int 9, .int 0, .int 0, .ref z6, .ref z29, .ref z7, .int 0, .int 2, .ref z19, .ref z8, .ref z9, .ref z10, .int 0, .ref z11, .int 0, .ref z30, .ref z31, .ref z32, .ref z33, .int 0, .ref z12, .int 0, .int 0, .ref z34, .ref z35, .ref z36, .ref z37, .int 0, .int 0, .int 0, .int 0, .ref z38, .int 0, .ref z39, .ref z40, .ref z41, .ref z42, .int 0, .ref z13, .ref z14, .ref z15, .ref z16, .int 0, .ref z17, .ref z18, .ref z43]))] H := by rw [hlm, hle]; exact hP
    have hD : va_D A [(z16, .inl (G.2.1, 51200, .inr (.inl le))), (z15, .inl (G.2.1, 25, .inr (.inl lm))), (h0, .inr (12, [.ref z0, .ref z1, .ref z2, .ref z3, .ref z4, .ref z5, .ref z20, .ref z21, .ref z22, .ref z23, .ref z24, .ref z25, .int 0, .ref z26, .ref z27, .ref z28, .int 9, .int 0, .int 0, .ref z6, .ref z29, .ref z7, .int 0, .int 2, .ref z19, .ref z8, .ref z9, .ref z10, .int 0, .ref z11, .int 0, .ref z30, .ref z31, .ref z32, .ref z33, .int 0, .ref z12, .int 0, .int 0, .ref z34, .ref z35, .ref z36, .ref z37, .int 0, .int 0, .int 0, .int 0, .ref z38, .int 0, .ref z39, .ref z40, .ref z41, .ref z42, .int 0, .ref z13, .ref z14, .ref z15, .ref z16, .int 0, .ref z17, .ref z18, .ref z43]))] := by rw [hlm, hle]; exact hD
    have hl : lv_has ls 6 [(4, .int (nI x)), (3, .int 1), (1, .long 714288), (0, .ref h0)] := by rw [hi]; exact hl
    obtain ⟨dx, hdx⟩ : ∃ d : Nat, x + d = 2 := ⟨2, by omega⟩
    clear hi hlm hle
    generalize H = H at hP hS ⊢
    generalize locs = locs at hS ⊢
    generalize ls = ls at hl ⊢
    induction dx generalizing x lm le H locs ls with
    | zero =>
      refine lv_iload hx hb dX12_findEnds_17 (lv_at hl 0 rfl) ?_
      refine lv_aload_n hx hb dX12_findEnds_19 rfl (lv_at hl 3 rfl) ?_
      have hPc := hP.sub (ws' := [(h0, .inr (12, [.ref z0, .ref z1, .ref z2, .ref z3, .ref z4, .ref z5, .ref z20, .ref z21, .ref z22, .ref z23, .ref z24, .ref z25, .int 0, .ref z26, .ref z27, .ref z28, .int 9, .int 0, .int 0, .ref z6, .ref z29, .ref z7, .int 0, .int 2, .ref z19, .ref z8, .ref z9, .ref z10, .int 0, .ref z11, .int 0, .ref z30, .ref z31, .ref z32, .ref z33, .int 0, .ref z12, .int 0, .int 0, .ref z34, .ref z35, .ref z36, .ref z37, .int 0, .int 0, .int 0, .int 0, .ref z38, .int 0, .ref z39, .ref z40, .ref z41, .ref z42, .int 0, .ref z13, .ref z14, .ref z15, .ref z16, .int 0, .ref z17, .ref z18, .ref z43]))]) [2] rfl
      have hDc := hD.sub (ws' := [(h0, .inr (12, [.ref z0, .ref z1, .ref z2, .ref z3, .ref z4, .ref z5, .ref z20, .ref z21, .ref z22, .ref z23, .ref z24, .ref z25, .int 0, .ref z26, .ref z27, .ref z28, .int 9, .int 0, .int 0, .ref z6, .ref z29, .ref z7, .int 0, .int 2, .ref z19, .ref z8, .ref z9, .ref z10, .int 0, .ref z11, .int 0, .ref z30, .ref z31, .ref z32, .ref z33, .int 0, .ref z12, .int 0, .int 0, .ref z34, .ref z35, .ref z36, .ref z37, .int 0, .int 0, .int 0, .int 0, .ref z38, .int 0, .ref z39, .ref z40, .ref z41, .ref z42, .int 0, .ref z13, .ref z14, .ref z15, .ref z16, .int 0, .ref z17, .ref z18, .ref z43]))]) [2] (by decide) rfl
      have hFc := va_free (wc := [(h0, .inr (12, [.ref z0, .ref z1, .ref z2, .ref z3, .ref z4, .ref z5, .ref z20, .ref z21, .ref z22, .ref z23, .ref z24, .ref z25, .int 0, .ref z26, .ref z27, .ref z28, .int 9, .int 0, .int 0, .ref z6, .ref z29, .ref z7, .int 0, .int 2, .ref z19, .ref z8, .ref z9, .ref z10, .int 0, .ref z11, .int 0, .ref z30, .ref z31, .ref z32, .ref z33, .int 0, .ref z12, .int 0, .int 0, .ref z34, .ref z35, .ref z36, .ref z37, .int 0, .int 0, .int 0, .int 0, .ref z38, .int 0, .ref z39, .ref z40, .ref z41, .ref z42, .int 0, .ref z13, .ref z14, .ref z15, .ref z16, .int 0, .ref z17, .ref z18, .ref z43]))]) hD hS hA [2] rfl
      refine va_calli (va_runV (As := []) (rest := [.int (nI x)]) ⟨hx, hb, hml, hown, hts⟩ (kX12_gens l D G h0 z0 z1 z2 z3 z4 z5 z20 z21 z22 z23 z24 z25 z26 z27 z28 z6 z29 z7 z19 z8 z9 z10 z11 z30 z31 z32 z33 z12 z34 z35 z36 z37 z38 z39 z40 z41 z42 z13 z14 z15 z16 z17 z18 z43 0 H.size) (cwV 0 hts gX12_findEnds_X12_gens rfl rfl rfl (by decide +kernel) ⟨Nat.le_of_ble_eq_true rfl, Nat.le_of_ble_eq_true rfl⟩) ⟨wB_blind, va_recv hK hPc (ci := 12) (q0 := 0) rfl rfl, wB_pre hPc hK hDc hN⟩ rfl rfl hl.1 rfl (lv_room (Nat.le_of_ble_eq_true rfl)) dX12_findEnds_20 ⟨Nat.le_of_ble_eq_true rfl, Nat.le_of_ble_eq_true rfl⟩) hS (fun q _ h => hFc q h) hFc (fun r7 u t H1 locs ht hvm hr7 hB hz1 hk1 hS => ?_)
      obtain ⟨hP1, hK1, hD1⟩ := hB
      rw [ht] at hP1
      obtain ⟨hP, hD⟩ := va_join (wr := [(z16, .inl (G.2.1, 51200, .inr (.inl le))), (z15, .inl (G.2.1, 25, .inr (.inl lm)))]) (w1 := [(h0, .inr (12, [.ref z0, .ref z1, .ref z2, .ref z3, .ref z4, .ref z5, .ref z20, .ref z21, .ref z22, .ref z23, .ref z24, .ref z25, .int 0, .ref z26, .ref z27, .ref z28, .int 9, .int 0, .int 0, .ref z6, .ref z29, .ref z7, .int 0, .int 2, .ref z19, .ref z8, .ref z9, .ref z10, .int 0, .ref z11, .int 0, .ref z30, .ref z31, .ref z32, .ref z33, .int 0, .ref z12, .int 0, .int 0, .ref z34, .ref z35, .ref z36, .ref z37, .int 0, .int 0, .int 0, .int 0, .ref z38, .int 0, .ref z39, .ref z40, .ref z41, .ref z42, .int 0, .ref z13, .ref z14, .ref z15, .ref z16, .int 0, .ref z17, .ref z18, .ref z43]))]) hP hD [2] [0, 1] rfl rfl (by decide) (by decide) hk1 hFc hP1 hD1
      clear hPc hDc
      generalize H1 = H at hP hS ⊢
      have hP : va_P D vwCl [(z16, .inl (G.2.1, 51200, .inr (.inl le))), (z15, .inl (G.2.1, 25, .inr (.inl lm))), (h0, .inr (12, [.ref z0, .ref z1, .ref z2, .ref z3, .ref z4, .ref z5, .ref z20, .ref z21, .ref z22, .ref z23, .ref z24, .ref z25, .int 0, .ref z26, .ref z27, .ref z28, .int 9, .int 0, .int 0, .ref z6, .ref z29, .ref z7, .int 0, .int 2, .ref z19, .ref z8, .ref z9, .ref z10, .int 0, .ref z11, .int 0, .ref z30, .ref z31, .ref z32, .ref z33, .int 0, .ref z12, .int 0, .int 0, .ref z34, .ref z35, .ref z36, .ref z37, .int 0, .int 0, .int 0, .int 0, .ref z38, .int 0, .ref z39, .ref z40, .ref z41, .ref z42, .int 0, .ref z13, .ref z14, .ref z15, .ref z16, .int 0, .ref z17, .ref z18, .ref z43]))] H := hP
      have hD : va_D A [(z16, .inl (G.2.1, 51200, .inr (.inl le))), (z15, .inl (G.2.1, 25, .inr (.inl lm))), (h0, .inr (12, [.ref z0, .ref z1, .ref z2, .ref z3, .ref z4, .ref z5, .ref z20, .ref z21, .ref z22, .ref z23, .ref z24, .ref z25, .int 0, .ref z26, .ref z27, .ref z28, .int 9, .int 0, .int 0, .ref z6, .ref z29, .ref z7, .int 0, .int 2, .ref z19, .ref z8, .ref z9, .ref z10, .int 0, .ref z11, .int 0, .ref z30, .ref z31, .ref z32, .ref z33, .int 0, .ref z12, .int 0, .int 0, .ref z34, .ref z35, .ref z36, .ref z37, .int 0, .int 0, .int 0, .int 0, .ref z38, .int 0, .ref z39, .ref z40, .ref z41, .ref z42, .int 0, .ref z13, .ref z14, .ref z15, .ref z16, .int 0, .ref z17, .ref z18, .ref z43]))] := hD
      subst hr7
      refine lv_iload_n hx hb dX12_findEnds_23 rfl (lv_at hl 1 rfl) ?_
      have hPc := hP.sub (ws' := []) [] rfl
      have hDc := hD.sub (ws' := []) [] (by decide) rfl
      have hFc := va_free (wc := []) hD hS hA [] rfl
      refine va_calli (va_runS (As := [.int 2, .int 1]) (rest := [.int (nI x)]) ⟨hx, hb, hml, hown, hts⟩ (kX12_power_1 l D G  H.size) (va_cwS 2 hts gX12_findEnds_X12_power rfl rfl rfl (by decide +kernel) ⟨Nat.le_of_ble_eq_true rfl, Nat.le_of_ble_eq_true rfl⟩) ⟨wB_blind, wB_pre hPc hK hDc hN⟩ rfl rfl hl.1 rfl (lv_room (Nat.le_of_ble_eq_true rfl)) dX12_findEnds_24 ⟨Nat.le_of_ble_eq_true rfl, Nat.le_of_ble_eq_true rfl⟩) hS (fun q _ h => hFc q h) hFc (fun r8 u t H1 locs ht hvm hr8 hB hz1 hk1 hS => ?_)
      obtain ⟨hP, hD⟩ := va_join (wr := [(z16, .inl (G.2.1, 51200, .inr (.inl le))), (z15, .inl (G.2.1, 25, .inr (.inl lm))), (h0, .inr (12, [.ref z0, .ref z1, .ref z2, .ref z3, .ref z4, .ref z5, .ref z20, .ref z21, .ref z22, .ref z23, .ref z24, .ref z25, .int 0, .ref z26, .ref z27, .ref z28, .int 9, .int 0, .int 0, .ref z6, .ref z29, .ref z7, .int 0, .int 2, .ref z19, .ref z8, .ref z9, .ref z10, .int 0, .ref z11, .int 0, .ref z30, .ref z31, .ref z32, .ref z33, .int 0, .ref z12, .int 0, .int 0, .ref z34, .ref z35, .ref z36, .ref z37, .int 0, .int 0, .int 0, .int 0, .ref z38, .int 0, .ref z39, .ref z40, .ref z41, .ref z42, .int 0, .ref z13, .ref z14, .ref z15, .ref z16, .int 0, .ref z17, .ref z18, .ref z43]))]) (w1 := []) hP hD [] [0, 1, 2] rfl rfl (by decide) (by decide) hk1 hFc wP_nil wD_nil
      clear hPc hDc
      generalize H1 = H at hP hS ⊢
      have hP : va_P D vwCl [(z16, .inl (G.2.1, 51200, .inr (.inl le))), (z15, .inl (G.2.1, 25, .inr (.inl lm))), (h0, .inr (12, [.ref z0, .ref z1, .ref z2, .ref z3, .ref z4, .ref z5, .ref z20, .ref z21, .ref z22, .ref z23, .ref z24, .ref z25, .int 0, .ref z26, .ref z27, .ref z28, .int 9, .int 0, .int 0, .ref z6, .ref z29, .ref z7, .int 0, .int 2, .ref z19, .ref z8, .ref z9, .ref z10, .int 0, .ref z11, .int 0, .ref z30, .ref z31, .ref z32, .ref z33, .int 0, .ref z12, .int 0, .int 0, .ref z34, .ref z35, .ref z36, .ref z37, .int 0, .int 0, .int 0, .int 0, .ref z38, .int 0, .ref z39, .ref z40, .ref z41, .ref z42, .int 0, .ref z13, .ref z14, .ref z15, .ref z16, .int 0, .ref z17, .ref z18, .ref z43]))] H := hP
      have hD : va_D A [(z16, .inl (G.2.1, 51200, .inr (.inl le))), (z15, .inl (G.2.1, 25, .inr (.inl lm))), (h0, .inr (12, [.ref z0, .ref z1, .ref z2, .ref z3, .ref z4, .ref z5, .ref z20, .ref z21, .ref z22, .ref z23, .ref z24, .ref z25, .int 0, .ref z26, .ref z27, .ref z28, .int 9, .int 0, .int 0, .ref z6, .ref z29, .ref z7, .int 0, .int 2, .ref z19, .ref z8, .ref z9, .ref z10, .int 0, .ref z11, .int 0, .ref z30, .ref z31, .ref z32, .ref z33, .int 0, .ref z12, .int 0, .int 0, .ref z34, .ref z35, .ref z36, .ref z37, .int 0, .int 0, .int 0, .int 0, .ref z38, .int 0, .ref z39, .ref z40, .ref z41, .ref z42, .int 0, .ref z13, .ref z14, .ref z15, .ref z16, .int 0, .ref z17, .ref z18, .ref z43]))] := hD
      subst hr8
      refine lv_icmp_ge (tgt := 119) hx hb dX12_findEnds_27 (by decide) (fun _ => ?_) (fun h9 => absurd (by rw [show x = 2 by omega]; decide) h9)
      refine lv_iinc (v := 2) (lv' := [(3, .int 2), (4, .int (nI x)), (1, .long 714288), (0, .ref h0)]) hx hb dX12_findEnds_119 hl (k := 1) rfl (by decide) (by decide) rfl (fun ls hl => ?_)
      refine lv_goto (tgt := 9) hx hb dX12_findEnds_122 (by decide) ?_
      refine lv_iload_n hx hb dX12_findEnds_9 rfl (lv_at hl 0 rfl) ?_
      refine lv_iconst (v := 3) hx hb dX12_findEnds_10 (by decide) ?_
      refine lv_icmp_gt (tgt := 125) hx hb dX12_findEnds_11 (by decide) (fun h9 => absurd h9 (by decide)) (fun _ => ?_)
      refine lv_iconst (v := 0) hx hb dX12_findEnds_14 (by decide) ?_
      refine lv_istore (lv' := [(4, .int 0), (3, .int 2), (1, .long 714288), (0, .ref h0)]) hx hb dX12_findEnds_15 hl (by decide) rfl (fun ls hl => ?_)
      obtain ⟨x, hi⟩ : ∃ i : Nat, i = 0 := ⟨0, rfl⟩
      obtain ⟨lm, hlm⟩ : ∃ f : Nat → Int64, f = lm := ⟨_, rfl⟩
      obtain ⟨le, hle⟩ : ∃ f : Nat → Int64, f = le := ⟨_, rfl⟩
      have hfa : ∀ j : Nat, j < 25 → le j = tIdn j := by rw [hle]; exact fun j hj => hfa j (by omega)
      have hP : va_P D vwCl [(z16, .inl (G.2.1, 51200, .inr (.inl le))), (z15, .inl (G.2.1, 25, .inr (.inl lm))), (h0, .inr (12, [.ref z0, .ref z1, .ref z2, .ref z3, .ref z4, .ref z5, .ref z20, .ref z21, .ref z22, .ref z23, .ref z24, .ref z25, .int 0, .ref z26, .ref z27, .ref z28, .int 9, .int 0, .int 0, .ref z6, .ref z29, .ref z7, .int 0, .int 2, .ref z19, .ref z8, .ref z9, .ref z10, .int 0, .ref z11, .int 0, .ref z30, .ref z31, .ref z32, .ref z33, .int 0, .ref z12, .int 0, .int 0, .ref z34, .ref z35, .ref z36, .ref z37, .int 0, .int 0, .int 0, .int 0, .ref z38, .int 0, .ref z39, .ref z40, .ref z41, .ref z42, .int 0, .ref z13, .ref z14, .ref z15, .ref z16, .int 0, .ref z17, .ref z18, .ref z43]))] H := by rw [hlm, hle]; exact hP
      have hD : va_D A [(z16, .inl (G.2.1, 51200, .inr (.inl le))), (z15, .inl (G.2.1, 25, .inr (.inl lm))), (h0, .inr (12, [.ref z0, .ref z1, .ref z2, .ref z3, .ref z4, .ref z5, .ref z20, .ref z21, .ref z22, .ref z23, .ref z24, .ref z25, .int 0, .ref z26, .ref z27, .ref z28, .int 9, .int 0, .int 0, .ref z6, .ref z29, .ref z7, .int 0, .int 2, .ref z19, .ref z8, .ref z9, .ref z10, .int 0, .ref z11, .int 0, .ref z30, .ref z31, .ref z32, .ref z33, .int 0, .ref z12, .int 0, .int 0, .ref z34, .ref z35, .ref z36, .ref z37, .int 0, .int 0, .int 0, .int 0, .ref z38, .int 0, .ref z39, .ref z40, .ref z41, .ref z42, .int 0, .ref z13, .ref z14, .ref z15, .ref z16, .int 0, .ref z17, .ref z18, .ref z43]))] := by rw [hlm, hle]; exact hD
      have hl : lv_has ls 6 [(4, .int (nI x)), (3, .int 2), (1, .long 714288), (0, .ref h0)] := by rw [hi]; exact hl
      obtain ⟨dx, hdx⟩ : ∃ d : Nat, x + d = 4 := ⟨4, by omega⟩
      clear hi hlm hle
      generalize H = H at hP hS ⊢
      generalize locs = locs at hS ⊢
      generalize ls = ls at hl ⊢
      induction dx generalizing x lm le H locs ls with
      | zero =>
        refine lv_iload hx hb dX12_findEnds_17 (lv_at hl 0 rfl) ?_
        refine lv_aload_n hx hb dX12_findEnds_19 rfl (lv_at hl 3 rfl) ?_
        have hPc := hP.sub (ws' := [(h0, .inr (12, [.ref z0, .ref z1, .ref z2, .ref z3, .ref z4, .ref z5, .ref z20, .ref z21, .ref z22, .ref z23, .ref z24, .ref z25, .int 0, .ref z26, .ref z27, .ref z28, .int 9, .int 0, .int 0, .ref z6, .ref z29, .ref z7, .int 0, .int 2, .ref z19, .ref z8, .ref z9, .ref z10, .int 0, .ref z11, .int 0, .ref z30, .ref z31, .ref z32, .ref z33, .int 0, .ref z12, .int 0, .int 0, .ref z34, .ref z35, .ref z36, .ref z37, .int 0, .int 0, .int 0, .int 0, .ref z38, .int 0, .ref z39, .ref z40, .ref z41, .ref z42, .int 0, .ref z13, .ref z14, .ref z15, .ref z16, .int 0, .ref z17, .ref z18, .ref z43]))]) [2] rfl
        have hDc := hD.sub (ws' := [(h0, .inr (12, [.ref z0, .ref z1, .ref z2, .ref z3, .ref z4, .ref z5, .ref z20, .ref z21, .ref z22, .ref z23, .ref z24, .ref z25, .int 0, .ref z26, .ref z27, .ref z28, .int 9, .int 0, .int 0, .ref z6, .ref z29, .ref z7, .int 0, .int 2, .ref z19, .ref z8, .ref z9, .ref z10, .int 0, .ref z11, .int 0, .ref z30, .ref z31, .ref z32, .ref z33, .int 0, .ref z12, .int 0, .int 0, .ref z34, .ref z35, .ref z36, .ref z37, .int 0, .int 0, .int 0, .int 0, .ref z38, .int 0, .ref z39, .ref z40, .ref z41, .ref z42, .int 0, .ref z13, .ref z14, .ref z15, .ref z16, .int 0, .ref z17, .ref z18, .ref z43]))]) [2] (by decide) rfl
        have hFc := va_free (wc := [(h0, .inr (12, [.ref z0, .ref z1, .ref z2, .ref z3, .ref z4, .ref z5, .ref z20, .ref z21, .ref z22, .ref z23, .ref z24, .ref z25, .int 0, .ref z26, .ref z27, .ref z28, .int 9, .int 0, .int 0, .ref z6, .ref z29, .ref z7, .int 0, .int 2, .ref z19, .ref z8, .ref z9, .ref z10, .int 0, .ref z11, .int 0, .ref z30, .ref z31, .ref z32, .ref z33, .int 0, .ref z12, .int 0, .int 0, .ref z34, .ref z35, .ref z36, .ref z37, .int 0, .int 0, .int 0, .int 0, .ref z38, .int 0, .ref z39, .ref z40, .ref z41, .ref z42, .int 0, .ref z13, .ref z14, .ref z15, .ref z16, .int 0, .ref z17, .ref z18, .ref z43]))]) hD hS hA [2] rfl
        refine va_calli (va_runV (As := []) (rest := [.int (nI x)]) ⟨hx, hb, hml, hown, hts⟩ (kX12_gens l D G h0 z0 z1 z2 z3 z4 z5 z20 z21 z22 z23 z24 z25 z26 z27 z28 z6 z29 z7 z19 z8 z9 z10 z11 z30 z31 z32 z33 z12 z34 z35 z36 z37 z38 z39 z40 z41 z42 z13 z14 z15 z16 z17 z18 z43 0 H.size) (cwV 0 hts gX12_findEnds_X12_gens rfl rfl rfl (by decide +kernel) ⟨Nat.le_of_ble_eq_true rfl, Nat.le_of_ble_eq_true rfl⟩) ⟨wB_blind, va_recv hK hPc (ci := 12) (q0 := 0) rfl rfl, wB_pre hPc hK hDc hN⟩ rfl rfl hl.1 rfl (lv_room (Nat.le_of_ble_eq_true rfl)) dX12_findEnds_20 ⟨Nat.le_of_ble_eq_true rfl, Nat.le_of_ble_eq_true rfl⟩) hS (fun q _ h => hFc q h) hFc (fun r9 u t H1 locs ht hvm hr9 hB hz1 hk1 hS => ?_)
        obtain ⟨hP1, hK1, hD1⟩ := hB
        rw [ht] at hP1
        obtain ⟨hP, hD⟩ := va_join (wr := [(z16, .inl (G.2.1, 51200, .inr (.inl le))), (z15, .inl (G.2.1, 25, .inr (.inl lm)))]) (w1 := [(h0, .inr (12, [.ref z0, .ref z1, .ref z2, .ref z3, .ref z4, .ref z5, .ref z20, .ref z21, .ref z22, .ref z23, .ref z24, .ref z25, .int 0, .ref z26, .ref z27, .ref z28, .int 9, .int 0, .int 0, .ref z6, .ref z29, .ref z7, .int 0, .int 2, .ref z19, .ref z8, .ref z9, .ref z10, .int 0, .ref z11, .int 0, .ref z30, .ref z31, .ref z32, .ref z33, .int 0, .ref z12, .int 0, .int 0, .ref z34, .ref z35, .ref z36, .ref z37, .int 0, .int 0, .int 0, .int 0, .ref z38, .int 0, .ref z39, .ref z40, .ref z41, .ref z42, .int 0, .ref z13, .ref z14, .ref z15, .ref z16, .int 0, .ref z17, .ref z18, .ref z43]))]) hP hD [2] [0, 1] rfl rfl (by decide) (by decide) hk1 hFc hP1 hD1
        clear hPc hDc
        generalize H1 = H at hP hS ⊢
        have hP : va_P D vwCl [(z16, .inl (G.2.1, 51200, .inr (.inl le))), (z15, .inl (G.2.1, 25, .inr (.inl lm))), (h0, .inr (12, [.ref z0, .ref z1, .ref z2, .ref z3, .ref z4, .ref z5, .ref z20, .ref z21, .ref z22, .ref z23, .ref z24, .ref z25, .int 0, .ref z26, .ref z27, .ref z28, .int 9, .int 0, .int 0, .ref z6, .ref z29, .ref z7, .int 0, .int 2, .ref z19, .ref z8, .ref z9, .ref z10, .int 0, .ref z11, .int 0, .ref z30, .ref z31, .ref z32, .ref z33, .int 0, .ref z12, .int 0, .int 0, .ref z34, .ref z35, .ref z36, .ref z37, .int 0, .int 0, .int 0, .int 0, .ref z38, .int 0, .ref z39, .ref z40, .ref z41, .ref z42, .int 0, .ref z13, .ref z14, .ref z15, .ref z16, .int 0, .ref z17, .ref z18, .ref z43]))] H := hP
        have hD : va_D A [(z16, .inl (G.2.1, 51200, .inr (.inl le))), (z15, .inl (G.2.1, 25, .inr (.inl lm))), (h0, .inr (12, [.ref z0, .ref z1, .ref z2, .ref z3, .ref z4, .ref z5, .ref z20, .ref z21, .ref z22, .ref z23, .ref z24, .ref z25, .int 0, .ref z26, .ref z27, .ref z28, .int 9, .int 0, .int 0, .ref z6, .ref z29, .ref z7, .int 0, .int 2, .ref z19, .ref z8, .ref z9, .ref z10, .int 0, .ref z11, .int 0, .ref z30, .ref z31, .ref z32, .ref z33, .int 0, .ref z12, .int 0, .int 0, .ref z34, .ref z35, .ref z36, .ref z37, .int 0, .int 0, .int 0, .int 0, .ref z38, .int 0, .ref z39, .ref z40, .ref z41, .ref z42, .int 0, .ref z13, .ref z14, .ref z15, .ref z16, .int 0, .ref z17, .ref z18, .ref z43]))] := hD
        subst hr9
        refine lv_iload_n hx hb dX12_findEnds_23 rfl (lv_at hl 1 rfl) ?_
        have hPc := hP.sub (ws' := []) [] rfl
        have hDc := hD.sub (ws' := []) [] (by decide) rfl
        have hFc := va_free (wc := []) hD hS hA [] rfl
        refine va_calli (va_runS (As := [.int 2, .int 2]) (rest := [.int (nI x)]) ⟨hx, hb, hml, hown, hts⟩ (kX12_power_2 l D G  H.size) (va_cwS 2 hts gX12_findEnds_X12_power rfl rfl rfl (by decide +kernel) ⟨Nat.le_of_ble_eq_true rfl, Nat.le_of_ble_eq_true rfl⟩) ⟨wB_blind, wB_pre hPc hK hDc hN⟩ rfl rfl hl.1 rfl (lv_room (Nat.le_of_ble_eq_true rfl)) dX12_findEnds_24 ⟨Nat.le_of_ble_eq_true rfl, Nat.le_of_ble_eq_true rfl⟩) hS (fun q _ h => hFc q h) hFc (fun r10 u t H1 locs ht hvm hr10 hB hz1 hk1 hS => ?_)
        obtain ⟨hP, hD⟩ := va_join (wr := [(z16, .inl (G.2.1, 51200, .inr (.inl le))), (z15, .inl (G.2.1, 25, .inr (.inl lm))), (h0, .inr (12, [.ref z0, .ref z1, .ref z2, .ref z3, .ref z4, .ref z5, .ref z20, .ref z21, .ref z22, .ref z23, .ref z24, .ref z25, .int 0, .ref z26, .ref z27, .ref z28, .int 9, .int 0, .int 0, .ref z6, .ref z29, .ref z7, .int 0, .int 2, .ref z19, .ref z8, .ref z9, .ref z10, .int 0, .ref z11, .int 0, .ref z30, .ref z31, .ref z32, .ref z33, .int 0, .ref z12, .int 0, .int 0, .ref z34, .ref z35, .ref z36, .ref z37, .int 0, .int 0, .int 0, .int 0, .ref z38, .int 0, .ref z39, .ref z40, .ref z41, .ref z42, .int 0, .ref z13, .ref z14, .ref z15, .ref z16, .int 0, .ref z17, .ref z18, .ref z43]))]) (w1 := []) hP hD [] [0, 1, 2] rfl rfl (by decide) (by decide) hk1 hFc wP_nil wD_nil
        clear hPc hDc
        generalize H1 = H at hP hS ⊢
        have hP : va_P D vwCl [(z16, .inl (G.2.1, 51200, .inr (.inl le))), (z15, .inl (G.2.1, 25, .inr (.inl lm))), (h0, .inr (12, [.ref z0, .ref z1, .ref z2, .ref z3, .ref z4, .ref z5, .ref z20, .ref z21, .ref z22, .ref z23, .ref z24, .ref z25, .int 0, .ref z26, .ref z27, .ref z28, .int 9, .int 0, .int 0, .ref z6, .ref z29, .ref z7, .int 0, .int 2, .ref z19, .ref z8, .ref z9, .ref z10, .int 0, .ref z11, .int 0, .ref z30, .ref z31, .ref z32, .ref z33, .int 0, .ref z12, .int 0, .int 0, .ref z34, .ref z35, .ref z36, .ref z37, .int 0, .int 0, .int 0, .int 0, .ref z38, .int 0, .ref z39, .ref z40, .ref z41, .ref z42, .int 0, .ref z13, .ref z14, .ref z15, .ref z16, .int 0, .ref z17, .ref z18, .ref z43]))] H := hP
        have hD : va_D A [(z16, .inl (G.2.1, 51200, .inr (.inl le))), (z15, .inl (G.2.1, 25, .inr (.inl lm))), (h0, .inr (12, [.ref z0, .ref z1, .ref z2, .ref z3, .ref z4, .ref z5, .ref z20, .ref z21, .ref z22, .ref z23, .ref z24, .ref z25, .int 0, .ref z26, .ref z27, .ref z28, .int 9, .int 0, .int 0, .ref z6, .ref z29, .ref z7, .int 0, .int 2, .ref z19, .ref z8, .ref z9, .ref z10, .int 0, .ref z11, .int 0, .ref z30, .ref z31, .ref z32, .ref z33, .int 0, .ref z12, .int 0, .int 0, .ref z34, .ref z35, .ref z36, .ref z37, .int 0, .int 0, .int 0, .int 0, .ref z38, .int 0, .ref z39, .ref z40, .ref z41, .ref z42, .int 0, .ref z13, .ref z14, .ref z15, .ref z16, .int 0, .ref z17, .ref z18, .ref z43]))] := hD
        subst hr10
        refine lv_icmp_ge (tgt := 119) hx hb dX12_findEnds_27 (by decide) (fun _ => ?_) (fun h9 => absurd (by rw [show x = 4 by omega]; decide) h9)
        refine lv_iinc (v := 3) (lv' := [(3, .int 3), (4, .int (nI x)), (1, .long 714288), (0, .ref h0)]) hx hb dX12_findEnds_119 hl (k := 1) rfl (by decide) (by decide) rfl (fun ls hl => ?_)
        refine lv_goto (tgt := 9) hx hb dX12_findEnds_122 (by decide) ?_
        refine lv_iload_n hx hb dX12_findEnds_9 rfl (lv_at hl 0 rfl) ?_
        refine lv_iconst (v := 3) hx hb dX12_findEnds_10 (by decide) ?_
        refine lv_icmp_gt (tgt := 125) hx hb dX12_findEnds_11 (by decide) (fun h9 => absurd h9 (by decide)) (fun _ => ?_)
        refine lv_iconst (v := 0) hx hb dX12_findEnds_14 (by decide) ?_
        refine lv_istore (lv' := [(4, .int 0), (3, .int 3), (1, .long 714288), (0, .ref h0)]) hx hb dX12_findEnds_15 hl (by decide) rfl (fun ls hl => ?_)
        obtain ⟨x, hi⟩ : ∃ i : Nat, i = 0 := ⟨0, rfl⟩
        obtain ⟨lm, hlm⟩ : ∃ f : Nat → Int64, f = lm := ⟨_, rfl⟩
        obtain ⟨le, hle⟩ : ∃ f : Nat → Int64, f = le := ⟨_, rfl⟩
        have hfa : ∀ j : Nat, j < 25 → le j = tIdn j := by rw [hle]; exact fun j hj => hfa j (by omega)
        have hP : va_P D vwCl [(z16, .inl (G.2.1, 51200, .inr (.inl le))), (z15, .inl (G.2.1, 25, .inr (.inl lm))), (h0, .inr (12, [.ref z0, .ref z1, .ref z2, .ref z3, .ref z4, .ref z5, .ref z20, .ref z21, .ref z22, .ref z23, .ref z24, .ref z25, .int 0, .ref z26, .ref z27, .ref z28, .int 9, .int 0, .int 0, .ref z6, .ref z29, .ref z7, .int 0, .int 2, .ref z19, .ref z8, .ref z9, .ref z10, .int 0, .ref z11, .int 0, .ref z30, .ref z31, .ref z32, .ref z33, .int 0, .ref z12, .int 0, .int 0, .ref z34, .ref z35, .ref z36, .ref z37, .int 0, .int 0, .int 0, .int 0, .ref z38, .int 0, .ref z39, .ref z40, .ref z41, .ref z42, .int 0, .ref z13, .ref z14, .ref z15, .ref z16, .int 0, .ref z17, .ref z18, .ref z43]))] H := by rw [hlm, hle]; exact hP
        have hD : va_D A [(z16, .inl (G.2.1, 51200, .inr (.inl le))), (z15, .inl (G.2.1, 25, .inr (.inl lm))), (h0, .inr (12, [.ref z0, .ref z1, .ref z2, .ref z3, .ref z4, .ref z5, .ref z20, .ref z21, .ref z22, .ref z23, .ref z24, .ref z25, .int 0, .ref z26, .ref z27, .ref z28, .int 9, .int 0, .int 0, .ref z6, .ref z29, .ref z7, .int 0, .int 2, .ref z19, .ref z8, .ref z9, .ref z10, .int 0, .ref z11, .int 0, .ref z30, .ref z31, .ref z32, .ref z33, .int 0, .ref z12, .int 0, .int 0, .ref z34, .ref z35, .ref z36, .ref z37, .int 0, .int 0, .int 0, .int 0, .ref z38, .int 0, .ref z39, .ref z40, .ref z41, .ref z42, .int 0, .ref z13, .ref z14, .ref z15, .ref z16, .int 0, .ref z17, .ref z18, .ref z43]))] := by rw [hlm, hle]; exact hD
        have hl : lv_has ls 6 [(4, .int (nI x)), (3, .int 3), (1, .long 714288), (0, .ref h0)] := by rw [hi]; exact hl
        obtain ⟨dx, hdx⟩ : ∃ d : Nat, x + d = 8 := ⟨8, by omega⟩
        clear hi hlm hle
        generalize H = H at hP hS ⊢
        generalize locs = locs at hS ⊢
        generalize ls = ls at hl ⊢
        induction dx generalizing x lm le H locs ls with
        | zero =>
          refine lv_iload hx hb dX12_findEnds_17 (lv_at hl 0 rfl) ?_
          refine lv_aload_n hx hb dX12_findEnds_19 rfl (lv_at hl 3 rfl) ?_
          have hPc := hP.sub (ws' := [(h0, .inr (12, [.ref z0, .ref z1, .ref z2, .ref z3, .ref z4, .ref z5, .ref z20, .ref z21, .ref z22, .ref z23, .ref z24, .ref z25, .int 0, .ref z26, .ref z27, .ref z28, .int 9, .int 0, .int 0, .ref z6, .ref z29, .ref z7, .int 0, .int 2, .ref z19, .ref z8, .ref z9, .ref z10, .int 0, .ref z11, .int 0, .ref z30, .ref z31, .ref z32, .ref z33, .int 0, .ref z12, .int 0, .int 0, .ref z34, .ref z35, .ref z36, .ref z37, .int 0, .int 0, .int 0, .int 0, .ref z38, .int 0, .ref z39, .ref z40, .ref z41, .ref z42, .int 0, .ref z13, .ref z14, .ref z15, .ref z16, .int 0, .ref z17, .ref z18, .ref z43]))]) [2] rfl
          have hDc := hD.sub (ws' := [(h0, .inr (12, [.ref z0, .ref z1, .ref z2, .ref z3, .ref z4, .ref z5, .ref z20, .ref z21, .ref z22, .ref z23, .ref z24, .ref z25, .int 0, .ref z26, .ref z27, .ref z28, .int 9, .int 0, .int 0, .ref z6, .ref z29, .ref z7, .int 0, .int 2, .ref z19, .ref z8, .ref z9, .ref z10, .int 0, .ref z11, .int 0, .ref z30, .ref z31, .ref z32, .ref z33, .int 0, .ref z12, .int 0, .int 0, .ref z34, .ref z35, .ref z36, .ref z37, .int 0, .int 0, .int 0, .int 0, .ref z38, .int 0, .ref z39, .ref z40, .ref z41, .ref z42, .int 0, .ref z13, .ref z14, .ref z15, .ref z16, .int 0, .ref z17, .ref z18, .ref z43]))]) [2] (by decide) rfl
          have hFc := va_free (wc := [(h0, .inr (12, [.ref z0, .ref z1, .ref z2, .ref z3, .ref z4, .ref z5, .ref z20, .ref z21, .ref z22, .ref z23, .ref z24, .ref z25, .int 0, .ref z26, .ref z27, .ref z28, .int 9, .int 0, .int 0, .ref z6, .ref z29, .ref z7, .int 0, .int 2, .ref z19, .ref z8, .ref z9, .ref z10, .int 0, .ref z11, .int 0, .ref z30, .ref z31, .ref z32, .ref z33, .int 0, .ref z12, .int 0, .int 0, .ref z34, .ref z35, .ref z36, .ref z37, .int 0, .int 0, .int 0, .int 0, .ref z38, .int 0, .ref z39, .ref z40, .ref z41, .ref z42, .int 0, .ref z13, .ref z14, .ref z15, .ref z16, .int 0, .ref z17, .ref z18, .ref z43]))]) hD hS hA [2] rfl
          refine va_calli (va_runV (As := []) (rest := [.int (nI x)]) ⟨hx, hb, hml, hown, hts⟩ (kX12_gens l D G h0 z0 z1 z2 z3 z4 z5 z20 z21 z22 z23 z24 z25 z26 z27 z28 z6 z29 z7 z19 z8 z9 z10 z11 z30 z31 z32 z33 z12 z34 z35 z36 z37 z38 z39 z40 z41 z42 z13 z14 z15 z16 z17 z18 z43 0 H.size) (cwV 0 hts gX12_findEnds_X12_gens rfl rfl rfl (by decide +kernel) ⟨Nat.le_of_ble_eq_true rfl, Nat.le_of_ble_eq_true rfl⟩) ⟨wB_blind, va_recv hK hPc (ci := 12) (q0 := 0) rfl rfl, wB_pre hPc hK hDc hN⟩ rfl rfl hl.1 rfl (lv_room (Nat.le_of_ble_eq_true rfl)) dX12_findEnds_20 ⟨Nat.le_of_ble_eq_true rfl, Nat.le_of_ble_eq_true rfl⟩) hS (fun q _ h => hFc q h) hFc (fun r11 u t H1 locs ht hvm hr11 hB hz1 hk1 hS => ?_)
          obtain ⟨hP1, hK1, hD1⟩ := hB
          rw [ht] at hP1
          obtain ⟨hP, hD⟩ := va_join (wr := [(z16, .inl (G.2.1, 51200, .inr (.inl le))), (z15, .inl (G.2.1, 25, .inr (.inl lm)))]) (w1 := [(h0, .inr (12, [.ref z0, .ref z1, .ref z2, .ref z3, .ref z4, .ref z5, .ref z20, .ref z21, .ref z22, .ref z23, .ref z24, .ref z25, .int 0, .ref z26, .ref z27, .ref z28, .int 9, .int 0, .int 0, .ref z6, .ref z29, .ref z7, .int 0, .int 2, .ref z19, .ref z8, .ref z9, .ref z10, .int 0, .ref z11, .int 0, .ref z30, .ref z31, .ref z32, .ref z33, .int 0, .ref z12, .int 0, .int 0, .ref z34, .ref z35, .ref z36, .ref z37, .int 0, .int 0, .int 0, .int 0, .ref z38, .int 0, .ref z39, .ref z40, .ref z41, .ref z42, .int 0, .ref z13, .ref z14, .ref z15, .ref z16, .int 0, .ref z17, .ref z18, .ref z43]))]) hP hD [2] [0, 1] rfl rfl (by decide) (by decide) hk1 hFc hP1 hD1
          clear hPc hDc
          generalize H1 = H at hP hS ⊢
          have hP : va_P D vwCl [(z16, .inl (G.2.1, 51200, .inr (.inl le))), (z15, .inl (G.2.1, 25, .inr (.inl lm))), (h0, .inr (12, [.ref z0, .ref z1, .ref z2, .ref z3, .ref z4, .ref z5, .ref z20, .ref z21, .ref z22, .ref z23, .ref z24, .ref z25, .int 0, .ref z26, .ref z27, .ref z28, .int 9, .int 0, .int 0, .ref z6, .ref z29, .ref z7, .int 0, .int 2, .ref z19, .ref z8, .ref z9, .ref z10, .int 0, .ref z11, .int 0, .ref z30, .ref z31, .ref z32, .ref z33, .int 0, .ref z12, .int 0, .int 0, .ref z34, .ref z35, .ref z36, .ref z37, .int 0, .int 0, .int 0, .int 0, .ref z38, .int 0, .ref z39, .ref z40, .ref z41, .ref z42, .int 0, .ref z13, .ref z14, .ref z15, .ref z16, .int 0, .ref z17, .ref z18, .ref z43]))] H := hP
          have hD : va_D A [(z16, .inl (G.2.1, 51200, .inr (.inl le))), (z15, .inl (G.2.1, 25, .inr (.inl lm))), (h0, .inr (12, [.ref z0, .ref z1, .ref z2, .ref z3, .ref z4, .ref z5, .ref z20, .ref z21, .ref z22, .ref z23, .ref z24, .ref z25, .int 0, .ref z26, .ref z27, .ref z28, .int 9, .int 0, .int 0, .ref z6, .ref z29, .ref z7, .int 0, .int 2, .ref z19, .ref z8, .ref z9, .ref z10, .int 0, .ref z11, .int 0, .ref z30, .ref z31, .ref z32, .ref z33, .int 0, .ref z12, .int 0, .int 0, .ref z34, .ref z35, .ref z36, .ref z37, .int 0, .int 0, .int 0, .int 0, .ref z38, .int 0, .ref z39, .ref z40, .ref z41, .ref z42, .int 0, .ref z13, .ref z14, .ref z15, .ref z16, .int 0, .ref z17, .ref z18, .ref z43]))] := hD
          subst hr11
          refine lv_iload_n hx hb dX12_findEnds_23 rfl (lv_at hl 1 rfl) ?_
          have hPc := hP.sub (ws' := []) [] rfl
          have hDc := hD.sub (ws' := []) [] (by decide) rfl
          have hFc := va_free (wc := []) hD hS hA [] rfl
          refine va_calli (va_runS (As := [.int 2, .int 3]) (rest := [.int (nI x)]) ⟨hx, hb, hml, hown, hts⟩ (kX12_power_3 l D G  H.size) (va_cwS 2 hts gX12_findEnds_X12_power rfl rfl rfl (by decide +kernel) ⟨Nat.le_of_ble_eq_true rfl, Nat.le_of_ble_eq_true rfl⟩) ⟨wB_blind, wB_pre hPc hK hDc hN⟩ rfl rfl hl.1 rfl (lv_room (Nat.le_of_ble_eq_true rfl)) dX12_findEnds_24 ⟨Nat.le_of_ble_eq_true rfl, Nat.le_of_ble_eq_true rfl⟩) hS (fun q _ h => hFc q h) hFc (fun r12 u t H1 locs ht hvm hr12 hB hz1 hk1 hS => ?_)
          obtain ⟨hP, hD⟩ := va_join (wr := [(z16, .inl (G.2.1, 51200, .inr (.inl le))), (z15, .inl (G.2.1, 25, .inr (.inl lm))), (h0, .inr (12, [.ref z0, .ref z1, .ref z2, .ref z3, .ref z4, .ref z5, .ref z20, .ref z21, .ref z22, .ref z23, .ref z24, .ref z25, .int 0, .ref z26, .ref z27, .ref z28, .int 9, .int 0, .int 0, .ref z6, .ref z29, .ref z7, .int 0, .int 2, .ref z19, .ref z8, .ref z9, .ref z10, .int 0, .ref z11, .int 0, .ref z30, .ref z31, .ref z32, .ref z33, .int 0, .ref z12, .int 0, .int 0, .ref z34, .ref z35, .ref z36, .ref z37, .int 0, .int 0, .int 0, .int 0, .ref z38, .int 0, .ref z39, .ref z40, .ref z41, .ref z42, .int 0, .ref z13, .ref z14, .ref z15, .ref z16, .int 0, .ref z17, .ref z18, .ref z43]))]) (w1 := []) hP hD [] [0, 1, 2] rfl rfl (by decide) (by decide) hk1 hFc wP_nil wD_nil
          clear hPc hDc
          generalize H1 = H at hP hS ⊢
          have hP : va_P D vwCl [(z16, .inl (G.2.1, 51200, .inr (.inl le))), (z15, .inl (G.2.1, 25, .inr (.inl lm))), (h0, .inr (12, [.ref z0, .ref z1, .ref z2, .ref z3, .ref z4, .ref z5, .ref z20, .ref z21, .ref z22, .ref z23, .ref z24, .ref z25, .int 0, .ref z26, .ref z27, .ref z28, .int 9, .int 0, .int 0, .ref z6, .ref z29, .ref z7, .int 0, .int 2, .ref z19, .ref z8, .ref z9, .ref z10, .int 0, .ref z11, .int 0, .ref z30, .ref z31, .ref z32, .ref z33, .int 0, .ref z12, .int 0, .int 0, .ref z34, .ref z35, .ref z36, .ref z37, .int 0, .int 0, .int 0, .int 0, .ref z38, .int 0, .ref z39, .ref z40, .ref z41, .ref z42, .int 0, .ref z13, .ref z14, .ref z15, .ref z16, .int 0, .ref z17, .ref z18, .ref z43]))] H := hP
          have hD : va_D A [(z16, .inl (G.2.1, 51200, .inr (.inl le))), (z15, .inl (G.2.1, 25, .inr (.inl lm))), (h0, .inr (12, [.ref z0, .ref z1, .ref z2, .ref z3, .ref z4, .ref z5, .ref z20, .ref z21, .ref z22, .ref z23, .ref z24, .ref z25, .int 0, .ref z26, .ref z27, .ref z28, .int 9, .int 0, .int 0, .ref z6, .ref z29, .ref z7, .int 0, .int 2, .ref z19, .ref z8, .ref z9, .ref z10, .int 0, .ref z11, .int 0, .ref z30, .ref z31, .ref z32, .ref z33, .int 0, .ref z12, .int 0, .int 0, .ref z34, .ref z35, .ref z36, .ref z37, .int 0, .int 0, .int 0, .int 0, .ref z38, .int 0, .ref z39, .ref z40, .ref z41, .ref z42, .int 0, .ref z13, .ref z14, .ref z15, .ref z16, .int 0, .ref z17, .ref z18, .ref z43]))] := hD
          subst hr12
          refine lv_icmp_ge (tgt := 119) hx hb dX12_findEnds_27 (by decide) (fun _ => ?_) (fun h9 => absurd (by rw [show x = 8 by omega]; decide) h9)
          refine lv_iinc (v := 4) (lv' := [(3, .int 4), (4, .int (nI x)), (1, .long 714288), (0, .ref h0)]) hx hb dX12_findEnds_119 hl (k := 1) rfl (by decide) (by decide) rfl (fun ls hl => ?_)
          refine lv_goto (tgt := 9) hx hb dX12_findEnds_122 (by decide) ?_
          refine lv_iload_n hx hb dX12_findEnds_9 rfl (lv_at hl 0 rfl) ?_
          refine lv_iconst (v := 3) hx hb dX12_findEnds_10 (by decide) ?_
          refine lv_icmp_gt (tgt := 125) hx hb dX12_findEnds_11 (by decide) (fun _ => ?_) (fun h9 => absurd h9 (by decide))
          refine lv_aload_n hx hb dX12_findEnds_125 rfl (lv_at hl 3 rfl) ?_
          refine lv_aload_n hx hb dX12_findEnds_126 rfl (lv_at hl 3 rfl) ?_
          refine va_get (D := D) (ci := 12) (v := .int 2) (C := RX12) (T := TX12) (N := 62) hx hb hts iX12_findEnds_X12 hown hK hP 2 rfl rfl 23 (by decide) (hts (.fieldLink RX12 69 "PuppetBridgeModel" "bars" "I") mX12_findEnds_w3) (fun _ h9 => h9) rfl dX12_findEnds_127 ?_
          refine va_put (D := D) (ci := 12) (v := .int 2) (ty := (tyX12 58)) (C := RX12) (T := TX12) (N := 62) hx hb hts iX12_findEnds_X12 tyX12 tyX12_ok nmX12 hown hK hP hD hS 2 rfl rfl 58 (by decide) (hts (.fieldLink RX12 369 "PuppetBridgeModel" "endsOf" "I") mX12_findEnds_w4) (fun _ h9 => h9) rfl (tyX12_ok 58 (by decide)) rfl rfl (Nat.le_of_ble_eq_true rfl) dX12_findEnds_130 (fun H locs hP hD hS => ?_)
          have hP : va_P D vwCl [(z16, .inl (G.2.1, 51200, .inr (.inl le))), (z15, .inl (G.2.1, 25, .inr (.inl lm))), (h0, .inr (12, [.ref z0, .ref z1, .ref z2, .ref z3, .ref z4, .ref z5, .ref z20, .ref z21, .ref z22, .ref z23, .ref z24, .ref z25, .int 0, .ref z26, .ref z27, .ref z28, .int 9, .int 0, .int 0, .ref z6, .ref z29, .ref z7, .int 0, .int 2, .ref z19, .ref z8, .ref z9, .ref z10, .int 0, .ref z11, .int 0, .ref z30, .ref z31, .ref z32, .ref z33, .int 0, .ref z12, .int 0, .int 0, .ref z34, .ref z35, .ref z36, .ref z37, .int 0, .int 0, .int 0, .int 0, .ref z38, .int 0, .ref z39, .ref z40, .ref z41, .ref z42, .int 0, .ref z13, .ref z14, .ref z15, .ref z16, .int 2, .ref z17, .ref z18, .ref z43]))] H := hP
          have hD : va_D A [(z16, .inl (G.2.1, 51200, .inr (.inl le))), (z15, .inl (G.2.1, 25, .inr (.inl lm))), (h0, .inr (12, [.ref z0, .ref z1, .ref z2, .ref z3, .ref z4, .ref z5, .ref z20, .ref z21, .ref z22, .ref z23, .ref z24, .ref z25, .int 0, .ref z26, .ref z27, .ref z28, .int 9, .int 0, .int 0, .ref z6, .ref z29, .ref z7, .int 0, .int 2, .ref z19, .ref z8, .ref z9, .ref z10, .int 0, .ref z11, .int 0, .ref z30, .ref z31, .ref z32, .ref z33, .int 0, .ref z12, .int 0, .int 0, .ref z34, .ref z35, .ref z36, .ref z37, .int 0, .int 0, .int 0, .int 0, .ref z38, .int 0, .ref z39, .ref z40, .ref z41, .ref z42, .int 0, .ref z13, .ref z14, .ref z15, .ref z16, .int 2, .ref z17, .ref z18, .ref z43]))] := hD
          have hP9 := hP.sub (ws' := [(z16, .inl (G.2.1, 51200, .inr (.inl ((le))))), (h0, .inr (12, [.ref z0, .ref z1, .ref z2, .ref z3, .ref z4, .ref z5, .ref z20, .ref z21, .ref z22, .ref z23, .ref z24, .ref z25, .int 0, .ref z26, .ref z27, .ref z28, .int 9, .int 0, .int 0, .ref z6, .ref z29, .ref z7, .int 0, .int 2, .ref z19, .ref z8, .ref z9, .ref z10, .int 0, .ref z11, .int 0, .ref z30, .ref z31, .ref z32, .ref z33, .int 0, .ref z12, .int 0, .int 0, .ref z34, .ref z35, .ref z36, .ref z37, .int 0, .int 0, .int 0, .int 0, .ref z38, .int 0, .ref z39, .ref z40, .ref z41, .ref z42, .int 0, .ref z13, .ref z14, .ref z15, .ref z16, .int 2, .ref z17, .ref z18, .ref z43]))]) [0, 2] rfl
          have hD9 := hD.sub (ws' := [(z16, .inl (G.2.1, 51200, .inr (.inl ((le))))), (h0, .inr (12, [.ref z0, .ref z1, .ref z2, .ref z3, .ref z4, .ref z5, .ref z20, .ref z21, .ref z22, .ref z23, .ref z24, .ref z25, .int 0, .ref z26, .ref z27, .ref z28, .int 9, .int 0, .int 0, .ref z6, .ref z29, .ref z7, .int 0, .int 2, .ref z19, .ref z8, .ref z9, .ref z10, .int 0, .ref z11, .int 0, .ref z30, .ref z31, .ref z32, .ref z33, .int 0, .ref z12, .int 0, .int 0, .ref z34, .ref z35, .ref z36, .ref z37, .int 0, .int 0, .int 0, .int 0, .ref z38, .int 0, .ref z39, .ref z40, .ref z41, .ref z42, .int 0, .ref z13, .ref z14, .ref z15, .ref z16, .int 2, .ref z17, .ref z18, .ref z43]))]) [0, 2] (by decide) rfl
          exact W.vret hx hb hr (fun t ht hW => ⟨⟨(), rfl, trivial, ⟨(le), (fun j hj => hfa j (by omega)), by rw [ht]; exact hP9, va_K.moved hW.alike hK, hD9⟩⟩, hS.F ht⟩) hS.2.2 dX12_findEnds_133
        | succ dx ihx =>
          refine lv_iload hx hb dX12_findEnds_17 (lv_at hl 0 rfl) ?_
          refine lv_aload_n hx hb dX12_findEnds_19 rfl (lv_at hl 3 rfl) ?_
          have hPc := hP.sub (ws' := [(h0, .inr (12, [.ref z0, .ref z1, .ref z2, .ref z3, .ref z4, .ref z5, .ref z20, .ref z21, .ref z22, .ref z23, .ref z24, .ref z25, .int 0, .ref z26, .ref z27, .ref z28, .int 9, .int 0, .int 0, .ref z6, .ref z29, .ref z7, .int 0, .int 2, .ref z19, .ref z8, .ref z9, .ref z10, .int 0, .ref z11, .int 0, .ref z30, .ref z31, .ref z32, .ref z33, .int 0, .ref z12, .int 0, .int 0, .ref z34, .ref z35, .ref z36, .ref z37, .int 0, .int 0, .int 0, .int 0, .ref z38, .int 0, .ref z39, .ref z40, .ref z41, .ref z42, .int 0, .ref z13, .ref z14, .ref z15, .ref z16, .int 0, .ref z17, .ref z18, .ref z43]))]) [2] rfl
          have hDc := hD.sub (ws' := [(h0, .inr (12, [.ref z0, .ref z1, .ref z2, .ref z3, .ref z4, .ref z5, .ref z20, .ref z21, .ref z22, .ref z23, .ref z24, .ref z25, .int 0, .ref z26, .ref z27, .ref z28, .int 9, .int 0, .int 0, .ref z6, .ref z29, .ref z7, .int 0, .int 2, .ref z19, .ref z8, .ref z9, .ref z10, .int 0, .ref z11, .int 0, .ref z30, .ref z31, .ref z32, .ref z33, .int 0, .ref z12, .int 0, .int 0, .ref z34, .ref z35, .ref z36, .ref z37, .int 0, .int 0, .int 0, .int 0, .ref z38, .int 0, .ref z39, .ref z40, .ref z41, .ref z42, .int 0, .ref z13, .ref z14, .ref z15, .ref z16, .int 0, .ref z17, .ref z18, .ref z43]))]) [2] (by decide) rfl
          have hFc := va_free (wc := [(h0, .inr (12, [.ref z0, .ref z1, .ref z2, .ref z3, .ref z4, .ref z5, .ref z20, .ref z21, .ref z22, .ref z23, .ref z24, .ref z25, .int 0, .ref z26, .ref z27, .ref z28, .int 9, .int 0, .int 0, .ref z6, .ref z29, .ref z7, .int 0, .int 2, .ref z19, .ref z8, .ref z9, .ref z10, .int 0, .ref z11, .int 0, .ref z30, .ref z31, .ref z32, .ref z33, .int 0, .ref z12, .int 0, .int 0, .ref z34, .ref z35, .ref z36, .ref z37, .int 0, .int 0, .int 0, .int 0, .ref z38, .int 0, .ref z39, .ref z40, .ref z41, .ref z42, .int 0, .ref z13, .ref z14, .ref z15, .ref z16, .int 0, .ref z17, .ref z18, .ref z43]))]) hD hS hA [2] rfl
          refine va_calli (va_runV (As := []) (rest := [.int (nI x)]) ⟨hx, hb, hml, hown, hts⟩ (kX12_gens l D G h0 z0 z1 z2 z3 z4 z5 z20 z21 z22 z23 z24 z25 z26 z27 z28 z6 z29 z7 z19 z8 z9 z10 z11 z30 z31 z32 z33 z12 z34 z35 z36 z37 z38 z39 z40 z41 z42 z13 z14 z15 z16 z17 z18 z43 0 H.size) (cwV 0 hts gX12_findEnds_X12_gens rfl rfl rfl (by decide +kernel) ⟨Nat.le_of_ble_eq_true rfl, Nat.le_of_ble_eq_true rfl⟩) ⟨wB_blind, va_recv hK hPc (ci := 12) (q0 := 0) rfl rfl, wB_pre hPc hK hDc hN⟩ rfl rfl hl.1 rfl (lv_room (Nat.le_of_ble_eq_true rfl)) dX12_findEnds_20 ⟨Nat.le_of_ble_eq_true rfl, Nat.le_of_ble_eq_true rfl⟩) hS (fun q _ h => hFc q h) hFc (fun r13 u t H1 locs ht hvm hr13 hB hz1 hk1 hS => ?_)
          obtain ⟨hP1, hK1, hD1⟩ := hB
          rw [ht] at hP1
          obtain ⟨hP, hD⟩ := va_join (wr := [(z16, .inl (G.2.1, 51200, .inr (.inl le))), (z15, .inl (G.2.1, 25, .inr (.inl lm)))]) (w1 := [(h0, .inr (12, [.ref z0, .ref z1, .ref z2, .ref z3, .ref z4, .ref z5, .ref z20, .ref z21, .ref z22, .ref z23, .ref z24, .ref z25, .int 0, .ref z26, .ref z27, .ref z28, .int 9, .int 0, .int 0, .ref z6, .ref z29, .ref z7, .int 0, .int 2, .ref z19, .ref z8, .ref z9, .ref z10, .int 0, .ref z11, .int 0, .ref z30, .ref z31, .ref z32, .ref z33, .int 0, .ref z12, .int 0, .int 0, .ref z34, .ref z35, .ref z36, .ref z37, .int 0, .int 0, .int 0, .int 0, .ref z38, .int 0, .ref z39, .ref z40, .ref z41, .ref z42, .int 0, .ref z13, .ref z14, .ref z15, .ref z16, .int 0, .ref z17, .ref z18, .ref z43]))]) hP hD [2] [0, 1] rfl rfl (by decide) (by decide) hk1 hFc hP1 hD1
          clear hPc hDc
          generalize H1 = H at hP hS ⊢
          have hP : va_P D vwCl [(z16, .inl (G.2.1, 51200, .inr (.inl le))), (z15, .inl (G.2.1, 25, .inr (.inl lm))), (h0, .inr (12, [.ref z0, .ref z1, .ref z2, .ref z3, .ref z4, .ref z5, .ref z20, .ref z21, .ref z22, .ref z23, .ref z24, .ref z25, .int 0, .ref z26, .ref z27, .ref z28, .int 9, .int 0, .int 0, .ref z6, .ref z29, .ref z7, .int 0, .int 2, .ref z19, .ref z8, .ref z9, .ref z10, .int 0, .ref z11, .int 0, .ref z30, .ref z31, .ref z32, .ref z33, .int 0, .ref z12, .int 0, .int 0, .ref z34, .ref z35, .ref z36, .ref z37, .int 0, .int 0, .int 0, .int 0, .ref z38, .int 0, .ref z39, .ref z40, .ref z41, .ref z42, .int 0, .ref z13, .ref z14, .ref z15, .ref z16, .int 0, .ref z17, .ref z18, .ref z43]))] H := hP
          have hD : va_D A [(z16, .inl (G.2.1, 51200, .inr (.inl le))), (z15, .inl (G.2.1, 25, .inr (.inl lm))), (h0, .inr (12, [.ref z0, .ref z1, .ref z2, .ref z3, .ref z4, .ref z5, .ref z20, .ref z21, .ref z22, .ref z23, .ref z24, .ref z25, .int 0, .ref z26, .ref z27, .ref z28, .int 9, .int 0, .int 0, .ref z6, .ref z29, .ref z7, .int 0, .int 2, .ref z19, .ref z8, .ref z9, .ref z10, .int 0, .ref z11, .int 0, .ref z30, .ref z31, .ref z32, .ref z33, .int 0, .ref z12, .int 0, .int 0, .ref z34, .ref z35, .ref z36, .ref z37, .int 0, .int 0, .int 0, .int 0, .ref z38, .int 0, .ref z39, .ref z40, .ref z41, .ref z42, .int 0, .ref z13, .ref z14, .ref z15, .ref z16, .int 0, .ref z17, .ref z18, .ref z43]))] := hD
          subst hr13
          refine lv_iload_n hx hb dX12_findEnds_23 rfl (lv_at hl 1 rfl) ?_
          have hPc := hP.sub (ws' := []) [] rfl
          have hDc := hD.sub (ws' := []) [] (by decide) rfl
          have hFc := va_free (wc := []) hD hS hA [] rfl
          refine va_calli (va_runS (As := [.int 2, .int 3]) (rest := [.int (nI x)]) ⟨hx, hb, hml, hown, hts⟩ (kX12_power_3 l D G  H.size) (va_cwS 2 hts gX12_findEnds_X12_power rfl rfl rfl (by decide +kernel) ⟨Nat.le_of_ble_eq_true rfl, Nat.le_of_ble_eq_true rfl⟩) ⟨wB_blind, wB_pre hPc hK hDc hN⟩ rfl rfl hl.1 rfl (lv_room (Nat.le_of_ble_eq_true rfl)) dX12_findEnds_24 ⟨Nat.le_of_ble_eq_true rfl, Nat.le_of_ble_eq_true rfl⟩) hS (fun q _ h => hFc q h) hFc (fun r14 u t H1 locs ht hvm hr14 hB hz1 hk1 hS => ?_)
          obtain ⟨hP, hD⟩ := va_join (wr := [(z16, .inl (G.2.1, 51200, .inr (.inl le))), (z15, .inl (G.2.1, 25, .inr (.inl lm))), (h0, .inr (12, [.ref z0, .ref z1, .ref z2, .ref z3, .ref z4, .ref z5, .ref z20, .ref z21, .ref z22, .ref z23, .ref z24, .ref z25, .int 0, .ref z26, .ref z27, .ref z28, .int 9, .int 0, .int 0, .ref z6, .ref z29, .ref z7, .int 0, .int 2, .ref z19, .ref z8, .ref z9, .ref z10, .int 0, .ref z11, .int 0, .ref z30, .ref z31, .ref z32, .ref z33, .int 0, .ref z12, .int 0, .int 0, .ref z34, .ref z35, .ref z36, .ref z37, .int 0, .int 0, .int 0, .int 0, .ref z38, .int 0, .ref z39, .ref z40, .ref z41, .ref z42, .int 0, .ref z13, .ref z14, .ref z15, .ref z16, .int 0, .ref z17, .ref z18, .ref z43]))]) (w1 := []) hP hD [] [0, 1, 2] rfl rfl (by decide) (by decide) hk1 hFc wP_nil wD_nil
          clear hPc hDc
          generalize H1 = H at hP hS ⊢
          have hP : va_P D vwCl [(z16, .inl (G.2.1, 51200, .inr (.inl le))), (z15, .inl (G.2.1, 25, .inr (.inl lm))), (h0, .inr (12, [.ref z0, .ref z1, .ref z2, .ref z3, .ref z4, .ref z5, .ref z20, .ref z21, .ref z22, .ref z23, .ref z24, .ref z25, .int 0, .ref z26, .ref z27, .ref z28, .int 9, .int 0, .int 0, .ref z6, .ref z29, .ref z7, .int 0, .int 2, .ref z19, .ref z8, .ref z9, .ref z10, .int 0, .ref z11, .int 0, .ref z30, .ref z31, .ref z32, .ref z33, .int 0, .ref z12, .int 0, .int 0, .ref z34, .ref z35, .ref z36, .ref z37, .int 0, .int 0, .int 0, .int 0, .ref z38, .int 0, .ref z39, .ref z40, .ref z41, .ref z42, .int 0, .ref z13, .ref z14, .ref z15, .ref z16, .int 0, .ref z17, .ref z18, .ref z43]))] H := hP
          have hD : va_D A [(z16, .inl (G.2.1, 51200, .inr (.inl le))), (z15, .inl (G.2.1, 25, .inr (.inl lm))), (h0, .inr (12, [.ref z0, .ref z1, .ref z2, .ref z3, .ref z4, .ref z5, .ref z20, .ref z21, .ref z22, .ref z23, .ref z24, .ref z25, .int 0, .ref z26, .ref z27, .ref z28, .int 9, .int 0, .int 0, .ref z6, .ref z29, .ref z7, .int 0, .int 2, .ref z19, .ref z8, .ref z9, .ref z10, .int 0, .ref z11, .int 0, .ref z30, .ref z31, .ref z32, .ref z33, .int 0, .ref z12, .int 0, .int 0, .ref z34, .ref z35, .ref z36, .ref z37, .int 0, .int 0, .int 0, .int 0, .ref z38, .int 0, .ref z39, .ref z40, .ref z41, .ref z42, .int 0, .ref z13, .ref z14, .ref z15, .ref z16, .int 0, .ref z17, .ref z18, .ref z43]))] := hD
          subst hr14
          refine lv_icmp_ge (tgt := 119) hx hb dX12_findEnds_27 (by decide) (fun h9 => absurd h9 (by rw [show (8 : Int32) = nI 8 from rfl]; exact nI_ge (by omega) (by omega))) (fun _ => ?_)
          refine lv_aload_n hx hb dX12_findEnds_30 rfl (lv_at hl 3 rfl) ?_
          refine va_get (D := D) (ci := 12) (v := .ref z15) (C := RX12) (T := TX12) (N := 62) hx hb hts iX12_findEnds_X12 hown hK hP 2 rfl rfl 56 (by decide) (hts (.fieldLink RX12 137 "PuppetBridgeModel" "made" "[J") mX12_findEnds_w1) (fun _ h9 => h9) rfl dX12_findEnds_31 ?_
          have hPc := hP.sub (ws' := [(z15, .inl (G.2.1, 25, .inr (.inl lm)))]) [1] rfl
          have hDc := hD.sub (ws' := [(z15, .inl (G.2.1, 25, .inr (.inl lm)))]) [1] (by decide) rfl
          have hFc := va_free (wc := [(z15, .inl (G.2.1, 25, .inr (.inl lm)))]) hD hS hA [1] rfl
          refine va_callv (va_runS (As := [.ref z15]) (rest := []) ⟨hx, hb, hml, hown, hts⟩ (kX12_nothing l D G z15 lm H.size) (va_cwS 1 hts gX12_findEnds_X12_nothing rfl rfl rfl (by decide +kernel) ⟨Nat.le_of_ble_eq_true rfl, Nat.le_of_ble_eq_true rfl⟩) ⟨wB_blind, wB_pre hPc hK hDc hN⟩ rfl rfl hl.1 rfl (lv_room (Nat.le_of_ble_eq_true rfl)) dX12_findEnds_34 ⟨Nat.le_of_ble_eq_true rfl, Nat.le_of_ble_eq_true rfl⟩) hS (fun q _ h => hFc q h) hFc (fun u t H1 locs ht hvm hr15 hB hz1 hk1 hS => ?_)
          obtain ⟨hP1, hK1, hD1⟩ := hB
          rw [ht] at hP1
          obtain ⟨hP, hD⟩ := va_join (wr := [(z16, .inl (G.2.1, 51200, .inr (.inl le))), (h0, .inr (12, [.ref z0, .ref z1, .ref z2, .ref z3, .ref z4, .ref z5, .ref z20, .ref z21, .ref z22, .ref z23, .ref z24, .ref z25, .int 0, .ref z26, .ref z27, .ref z28, .int 9, .int 0, .int 0, .ref z6, .ref z29, .ref z7, .int 0, .int 2, .ref z19, .ref z8, .ref z9, .ref z10, .int 0, .ref z11, .int 0, .ref z30, .ref z31, .ref z32, .ref z33, .int 0, .ref z12, .int 0, .int 0, .ref z34, .ref z35, .ref z36, .ref z37, .int 0, .int 0, .int 0, .int 0, .ref z38, .int 0, .ref z39, .ref z40, .ref z41, .ref z42, .int 0, .ref z13, .ref z14, .ref z15, .ref z16, .int 0, .ref z17, .ref z18, .ref z43]))]) (w1 := [(z15, .inl (G.2.1, 25, .inr (.inl tIdn)))]) hP hD [1] [0, 2] rfl rfl (by decide) (by decide) hk1 hFc hP1 hD1
          clear hPc hDc
          generalize H1 = H at hP hS ⊢
          have hP : va_P D vwCl [(z16, .inl (G.2.1, 51200, .inr (.inl le))), (h0, .inr (12, [.ref z0, .ref z1, .ref z2, .ref z3, .ref z4, .ref z5, .ref z20, .ref z21, .ref z22, .ref z23, .ref z24, .ref z25, .int 0, .ref z26, .ref z27, .ref z28, .int 9, .int 0, .int 0, .ref z6, .ref z29, .ref z7, .int 0, .int 2, .ref z19, .ref z8, .ref z9, .ref z10, .int 0, .ref z11, .int 0, .ref z30, .ref z31, .ref z32, .ref z33, .int 0, .ref z12, .int 0, .int 0, .ref z34, .ref z35, .ref z36, .ref z37, .int 0, .int 0, .int 0, .int 0, .ref z38, .int 0, .ref z39, .ref z40, .ref z41, .ref z42, .int 0, .ref z13, .ref z14, .ref z15, .ref z16, .int 0, .ref z17, .ref z18, .ref z43])), (z15, .inl (G.2.1, 25, .inr (.inl tIdn)))] H := hP
          have hD : va_D A [(z16, .inl (G.2.1, 51200, .inr (.inl le))), (h0, .inr (12, [.ref z0, .ref z1, .ref z2, .ref z3, .ref z4, .ref z5, .ref z20, .ref z21, .ref z22, .ref z23, .ref z24, .ref z25, .int 0, .ref z26, .ref z27, .ref z28, .int 9, .int 0, .int 0, .ref z6, .ref z29, .ref z7, .int 0, .int 2, .ref z19, .ref z8, .ref z9, .ref z10, .int 0, .ref z11, .int 0, .ref z30, .ref z31, .ref z32, .ref z33, .int 0, .ref z12, .int 0, .int 0, .ref z34, .ref z35, .ref z36, .ref z37, .int 0, .int 0, .int 0, .int 0, .ref z38, .int 0, .ref z39, .ref z40, .ref z41, .ref z42, .int 0, .ref z13, .ref z14, .ref z15, .ref z16, .int 0, .ref z17, .ref z18, .ref z43])), (z15, .inl (G.2.1, 25, .inr (.inl tIdn)))] := hD
          refine lv_iload_n hx hb dX12_findEnds_37 rfl (lv_at hl 1 rfl) ?_
          refine lv_iconst (v := 1) hx hb dX12_findEnds_38 (by decide) ?_
          refine lv_isub hx hb dX12_findEnds_39 ?_
          refine wk_i 2 (by decide) ?_
          refine lv_istore (lv' := [(5, .int 2), (4, .int (nI x)), (3, .int 3), (1, .long 714288), (0, .ref h0)]) hx hb dX12_findEnds_40 hl (by decide) rfl (fun ls hl => ?_)
          refine lv_iload hx hb dX12_findEnds_42 (lv_at hl 0 rfl) ?_
          refine lv_if_lt (tgt := 71) hx hb dX12_findEnds_44 (by decide) (fun h9 => absurd h9 (by decide)) (fun _ => ?_)
          refine lv_aload_n hx hb dX12_findEnds_47 rfl (lv_at hl 4 rfl) ?_
          refine va_get (D := D) (ci := 12) (v := .ref z15) (C := RX12) (T := TX12) (N := 62) hx hb hts iX12_findEnds_X12 hown hK hP 1 rfl rfl 56 (by decide) (hts (.fieldLink RX12 137 "PuppetBridgeModel" "made" "[J") mX12_findEnds_w1) (fun _ h9 => h9) rfl dX12_findEnds_48 ?_
          refine lv_aload_n hx hb dX12_findEnds_51 rfl (lv_at hl 4 rfl) ?_
          refine lv_iload hx hb dX12_findEnds_52 (lv_at hl 1 rfl) ?_
          refine lv_iload_n hx hb dX12_findEnds_54 rfl (lv_at hl 2 rfl) ?_
          refine lv_iload hx hb dX12_findEnds_55 (lv_at hl 0 rfl) ?_
          have hPc := hP.sub (ws' := [(h0, .inr (12, [.ref z0, .ref z1, .ref z2, .ref z3, .ref z4, .ref z5, .ref z20, .ref z21, .ref z22, .ref z23, .ref z24, .ref z25, .int 0, .ref z26, .ref z27, .ref z28, .int 9, .int 0, .int 0, .ref z6, .ref z29, .ref z7, .int 0, .int 2, .ref z19, .ref z8, .ref z9, .ref z10, .int 0, .ref z11, .int 0, .ref z30, .ref z31, .ref z32, .ref z33, .int 0, .ref z12, .int 0, .int 0, .ref z34, .ref z35, .ref z36, .ref z37, .int 0, .int 0, .int 0, .int 0, .ref z38, .int 0, .ref z39, .ref z40, .ref z41, .ref z42, .int 0, .ref z13, .ref z14, .ref z15, .ref z16, .int 0, .ref z17, .ref z18, .ref z43]))]) [1] rfl
          have hDc := hD.sub (ws' := [(h0, .inr (12, [.ref z0, .ref z1, .ref z2, .ref z3, .ref z4, .ref z5, .ref z20, .ref z21, .ref z22, .ref z23, .ref z24, .ref z25, .int 0, .ref z26, .ref z27, .ref z28, .int 9, .int 0, .int 0, .ref z6, .ref z29, .ref z7, .int 0, .int 2, .ref z19, .ref z8, .ref z9, .ref z10, .int 0, .ref z11, .int 0, .ref z30, .ref z31, .ref z32, .ref z33, .int 0, .ref z12, .int 0, .int 0, .ref z34, .ref z35, .ref z36, .ref z37, .int 0, .int 0, .int 0, .int 0, .ref z38, .int 0, .ref z39, .ref z40, .ref z41, .ref z42, .int 0, .ref z13, .ref z14, .ref z15, .ref z16, .int 0, .ref z17, .ref z18, .ref z43]))]) [1] (by decide) rfl
          have hFc := va_free (wc := [(h0, .inr (12, [.ref z0, .ref z1, .ref z2, .ref z3, .ref z4, .ref z5, .ref z20, .ref z21, .ref z22, .ref z23, .ref z24, .ref z25, .int 0, .ref z26, .ref z27, .ref z28, .int 9, .int 0, .int 0, .ref z6, .ref z29, .ref z7, .int 0, .int 2, .ref z19, .ref z8, .ref z9, .ref z10, .int 0, .ref z11, .int 0, .ref z30, .ref z31, .ref z32, .ref z33, .int 0, .ref z12, .int 0, .int 0, .ref z34, .ref z35, .ref z36, .ref z37, .int 0, .int 0, .int 0, .int 0, .ref z38, .int 0, .ref z39, .ref z40, .ref z41, .ref z42, .int 0, .ref z13, .ref z14, .ref z15, .ref z16, .int 0, .ref z17, .ref z18, .ref z43]))]) hD hS hA [1] rfl
          refine va_calli (va_runV (As := [.int (nI x), .int 3, .int 2]) (rest := [.ref z15]) ⟨hx, hb, hml, hown, hts⟩ (kX12_passAt_s32 l D G h0 (nI x) z0 z1 z2 z3 z4 z5 z20 z21 z22 z23 z24 z25 z26 z27 z28 z6 z29 z7 z19 z8 z9 z10 z11 z30 z31 z32 z33 z12 z34 z35 z36 z37 z38 z39 z40 z41 z42 z13 z14 z15 z16 z17 z18 z43 H.size) (cwV 3 hts gX12_findEnds_X12_passAt rfl rfl rfl (by decide +kernel) ⟨Nat.le_of_ble_eq_true rfl, Nat.le_of_ble_eq_true rfl⟩) ⟨wB_blind, va_recv hK hPc (ci := 12) (q0 := 0) rfl rfl, wB_pre hPc hK hDc hN⟩ rfl rfl hl.1 rfl (lv_room (Nat.le_of_ble_eq_true rfl)) dX12_findEnds_57 ⟨Nat.le_of_ble_eq_true rfl, Nat.le_of_ble_eq_true rfl⟩) hS (fun q _ h => hFc q h) hFc (fun r16 u t H1 locs ht hvm hr16 hB hz1 hk1 hS => ?_)
          obtain ⟨hP1, hK1, hD1⟩ := hB
          rw [ht] at hP1
          obtain ⟨hP, hD⟩ := va_join (wr := [(z16, .inl (G.2.1, 51200, .inr (.inl le))), (z15, .inl (G.2.1, 25, .inr (.inl tIdn)))]) (w1 := [(h0, .inr (12, [.ref z0, .ref z1, .ref z2, .ref z3, .ref z4, .ref z5, .ref z20, .ref z21, .ref z22, .ref z23, .ref z24, .ref z25, .int 0, .ref z26, .ref z27, .ref z28, .int 9, .int 0, .int 0, .ref z6, .ref z29, .ref z7, .int 0, .int 2, .ref z19, .ref z8, .ref z9, .ref z10, .int 0, .ref z11, .int 0, .ref z30, .ref z31, .ref z32, .ref z33, .int 0, .ref z12, .int 0, .int 0, .ref z34, .ref z35, .ref z36, .ref z37, .int 0, .int 0, .int 0, .int 0, .ref z38, .int 0, .ref z39, .ref z40, .ref z41, .ref z42, .int 0, .ref z13, .ref z14, .ref z15, .ref z16, .int 0, .ref z17, .ref z18, .ref z43]))]) hP hD [1] [0, 2] rfl rfl (by decide) (by decide) hk1 hFc hP1 hD1
          clear hPc hDc
          generalize H1 = H at hP hS ⊢
          have hP : va_P D vwCl [(z16, .inl (G.2.1, 51200, .inr (.inl le))), (z15, .inl (G.2.1, 25, .inr (.inl tIdn))), (h0, .inr (12, [.ref z0, .ref z1, .ref z2, .ref z3, .ref z4, .ref z5, .ref z20, .ref z21, .ref z22, .ref z23, .ref z24, .ref z25, .int 0, .ref z26, .ref z27, .ref z28, .int 9, .int 0, .int 0, .ref z6, .ref z29, .ref z7, .int 0, .int 2, .ref z19, .ref z8, .ref z9, .ref z10, .int 0, .ref z11, .int 0, .ref z30, .ref z31, .ref z32, .ref z33, .int 0, .ref z12, .int 0, .int 0, .ref z34, .ref z35, .ref z36, .ref z37, .int 0, .int 0, .int 0, .int 0, .ref z38, .int 0, .ref z39, .ref z40, .ref z41, .ref z42, .int 0, .ref z13, .ref z14, .ref z15, .ref z16, .int 0, .ref z17, .ref z18, .ref z43]))] H := hP
          have hD : va_D A [(z16, .inl (G.2.1, 51200, .inr (.inl le))), (z15, .inl (G.2.1, 25, .inr (.inl tIdn))), (h0, .inr (12, [.ref z0, .ref z1, .ref z2, .ref z3, .ref z4, .ref z5, .ref z20, .ref z21, .ref z22, .ref z23, .ref z24, .ref z25, .int 0, .ref z26, .ref z27, .ref z28, .int 9, .int 0, .int 0, .ref z6, .ref z29, .ref z7, .int 0, .int 2, .ref z19, .ref z8, .ref z9, .ref z10, .int 0, .ref z11, .int 0, .ref z30, .ref z31, .ref z32, .ref z33, .int 0, .ref z12, .int 0, .int 0, .ref z34, .ref z35, .ref z36, .ref z37, .int 0, .int 0, .int 0, .int 0, .ref z38, .int 0, .ref z39, .ref z40, .ref z41, .ref z42, .int 0, .ref z13, .ref z14, .ref z15, .ref z16, .int 0, .ref z17, .ref z18, .ref z43]))] := hD
          refine lv_ineg hx hb dX12_findEnds_60 ?_
          refine lv_topi (fun v17 ev17 => ?_)
          refine lv_lload_n hx hb dX12_findEnds_61 rfl (lv_at hl 3 rfl) ?_
          have hPc := hP.sub (ws' := [(z15, .inl (G.2.1, 25, .inr (.inl tIdn)))]) [1] rfl
          have hDc := hD.sub (ws' := [(z15, .inl (G.2.1, 25, .inr (.inl tIdn)))]) [1] (by decide) rfl
          have hFc := va_free (wc := [(z15, .inl (G.2.1, 25, .inr (.inl tIdn)))]) hD hS hA [1] rfl
          refine va_callv (va_runS (As := [.ref z15, .int v17, .long 714288]) (rest := []) ⟨hx, hb, hml, hown, hts⟩ (kX12_times_s l D G z15 v17 tIdn (wk_neg1 hr16 ev17) H.size) (va_cwS 3 hts gX12_findEnds_X12_times rfl rfl rfl (by decide +kernel) ⟨Nat.le_of_ble_eq_true rfl, Nat.le_of_ble_eq_true rfl⟩) ⟨wB_blind, wB_pre hPc hK hDc hN⟩ rfl rfl hl.1 rfl (lv_room (Nat.le_of_ble_eq_true rfl)) dX12_findEnds_62 ⟨Nat.le_of_ble_eq_true rfl, Nat.le_of_ble_eq_true rfl⟩) hS (fun q _ h => hFc q h) hFc (fun u t H1 locs ht hvm hr18 hB hz1 hk1 hS => ?_)
          obtain ⟨f19, hP1, hK1, hD1⟩ := hB
          rw [ht] at hP1
          obtain ⟨hP, hD⟩ := va_join (wr := [(z16, .inl (G.2.1, 51200, .inr (.inl le))), (h0, .inr (12, [.ref z0, .ref z1, .ref z2, .ref z3, .ref z4, .ref z5, .ref z20, .ref z21, .ref z22, .ref z23, .ref z24, .ref z25, .int 0, .ref z26, .ref z27, .ref z28, .int 9, .int 0, .int 0, .ref z6, .ref z29, .ref z7, .int 0, .int 2, .ref z19, .ref z8, .ref z9, .ref z10, .int 0, .ref z11, .int 0, .ref z30, .ref z31, .ref z32, .ref z33, .int 0, .ref z12, .int 0, .int 0, .ref z34, .ref z35, .ref z36, .ref z37, .int 0, .int 0, .int 0, .int 0, .ref z38, .int 0, .ref z39, .ref z40, .ref z41, .ref z42, .int 0, .ref z13, .ref z14, .ref z15, .ref z16, .int 0, .ref z17, .ref z18, .ref z43]))]) (w1 := [(z15, .inl (G.2.1, 25, .inr (.inl f19)))]) hP hD [1] [0, 2] rfl rfl (by decide) (by decide) hk1 hFc hP1 hD1
          clear hPc hDc
          generalize H1 = H at hP hS ⊢
          have hP : va_P D vwCl [(z16, .inl (G.2.1, 51200, .inr (.inl le))), (h0, .inr (12, [.ref z0, .ref z1, .ref z2, .ref z3, .ref z4, .ref z5, .ref z20, .ref z21, .ref z22, .ref z23, .ref z24, .ref z25, .int 0, .ref z26, .ref z27, .ref z28, .int 9, .int 0, .int 0, .ref z6, .ref z29, .ref z7, .int 0, .int 2, .ref z19, .ref z8, .ref z9, .ref z10, .int 0, .ref z11, .int 0, .ref z30, .ref z31, .ref z32, .ref z33, .int 0, .ref z12, .int 0, .int 0, .ref z34, .ref z35, .ref z36, .ref z37, .int 0, .int 0, .int 0, .int 0, .ref z38, .int 0, .ref z39, .ref z40, .ref z41, .ref z42, .int 0, .ref z13, .ref z14, .ref z15, .ref z16, .int 0, .ref z17, .ref z18, .ref z43])), (z15, .inl (G.2.1, 25, .inr (.inl f19)))] H := hP
          have hD : va_D A [(z16, .inl (G.2.1, 51200, .inr (.inl le))), (h0, .inr (12, [.ref z0, .ref z1, .ref z2, .ref z3, .ref z4, .ref z5, .ref z20, .ref z21, .ref z22, .ref z23, .ref z24, .ref z25, .int 0, .ref z26, .ref z27, .ref z28, .int 9, .int 0, .int 0, .ref z6, .ref z29, .ref z7, .int 0, .int 2, .ref z19, .ref z8, .ref z9, .ref z10, .int 0, .ref z11, .int 0, .ref z30, .ref z31, .ref z32, .ref z33, .int 0, .ref z12, .int 0, .int 0, .ref z34, .ref z35, .ref z36, .ref z37, .int 0, .int 0, .int 0, .int 0, .ref z38, .int 0, .ref z39, .ref z40, .ref z41, .ref z42, .int 0, .ref z13, .ref z14, .ref z15, .ref z16, .int 0, .ref z17, .ref z18, .ref z43])), (z15, .inl (G.2.1, 25, .inr (.inl f19)))] := hD
          refine lv_iinc (v := 1) (lv' := [(5, .int 1), (4, .int (nI x)), (3, .int 3), (1, .long 714288), (0, .ref h0)]) hx hb dX12_findEnds_65 hl (k := 0) rfl (by decide) (by decide) rfl (fun ls hl => ?_)
          refine lv_goto (tgt := 42) hx hb dX12_findEnds_68 (by decide) ?_
          refine lv_iload hx hb dX12_findEnds_42 (lv_at hl 0 rfl) ?_
          refine lv_if_lt (tgt := 71) hx hb dX12_findEnds_44 (by decide) (fun h9 => absurd h9 (by decide)) (fun _ => ?_)
          refine lv_aload_n hx hb dX12_findEnds_47 rfl (lv_at hl 4 rfl) ?_
          refine va_get (D := D) (ci := 12) (v := .ref z15) (C := RX12) (T := TX12) (N := 62) hx hb hts iX12_findEnds_X12 hown hK hP 1 rfl rfl 56 (by decide) (hts (.fieldLink RX12 137 "PuppetBridgeModel" "made" "[J") mX12_findEnds_w1) (fun _ h9 => h9) rfl dX12_findEnds_48 ?_
          refine lv_aload_n hx hb dX12_findEnds_51 rfl (lv_at hl 4 rfl) ?_
          refine lv_iload hx hb dX12_findEnds_52 (lv_at hl 1 rfl) ?_
          refine lv_iload_n hx hb dX12_findEnds_54 rfl (lv_at hl 2 rfl) ?_
          refine lv_iload hx hb dX12_findEnds_55 (lv_at hl 0 rfl) ?_
          have hPc := hP.sub (ws' := [(h0, .inr (12, [.ref z0, .ref z1, .ref z2, .ref z3, .ref z4, .ref z5, .ref z20, .ref z21, .ref z22, .ref z23, .ref z24, .ref z25, .int 0, .ref z26, .ref z27, .ref z28, .int 9, .int 0, .int 0, .ref z6, .ref z29, .ref z7, .int 0, .int 2, .ref z19, .ref z8, .ref z9, .ref z10, .int 0, .ref z11, .int 0, .ref z30, .ref z31, .ref z32, .ref z33, .int 0, .ref z12, .int 0, .int 0, .ref z34, .ref z35, .ref z36, .ref z37, .int 0, .int 0, .int 0, .int 0, .ref z38, .int 0, .ref z39, .ref z40, .ref z41, .ref z42, .int 0, .ref z13, .ref z14, .ref z15, .ref z16, .int 0, .ref z17, .ref z18, .ref z43]))]) [1] rfl
          have hDc := hD.sub (ws' := [(h0, .inr (12, [.ref z0, .ref z1, .ref z2, .ref z3, .ref z4, .ref z5, .ref z20, .ref z21, .ref z22, .ref z23, .ref z24, .ref z25, .int 0, .ref z26, .ref z27, .ref z28, .int 9, .int 0, .int 0, .ref z6, .ref z29, .ref z7, .int 0, .int 2, .ref z19, .ref z8, .ref z9, .ref z10, .int 0, .ref z11, .int 0, .ref z30, .ref z31, .ref z32, .ref z33, .int 0, .ref z12, .int 0, .int 0, .ref z34, .ref z35, .ref z36, .ref z37, .int 0, .int 0, .int 0, .int 0, .ref z38, .int 0, .ref z39, .ref z40, .ref z41, .ref z42, .int 0, .ref z13, .ref z14, .ref z15, .ref z16, .int 0, .ref z17, .ref z18, .ref z43]))]) [1] (by decide) rfl
          have hFc := va_free (wc := [(h0, .inr (12, [.ref z0, .ref z1, .ref z2, .ref z3, .ref z4, .ref z5, .ref z20, .ref z21, .ref z22, .ref z23, .ref z24, .ref z25, .int 0, .ref z26, .ref z27, .ref z28, .int 9, .int 0, .int 0, .ref z6, .ref z29, .ref z7, .int 0, .int 2, .ref z19, .ref z8, .ref z9, .ref z10, .int 0, .ref z11, .int 0, .ref z30, .ref z31, .ref z32, .ref z33, .int 0, .ref z12, .int 0, .int 0, .ref z34, .ref z35, .ref z36, .ref z37, .int 0, .int 0, .int 0, .int 0, .ref z38, .int 0, .ref z39, .ref z40, .ref z41, .ref z42, .int 0, .ref z13, .ref z14, .ref z15, .ref z16, .int 0, .ref z17, .ref z18, .ref z43]))]) hD hS hA [1] rfl
          refine va_calli (va_runV (As := [.int (nI x), .int 3, .int 1]) (rest := [.ref z15]) ⟨hx, hb, hml, hown, hts⟩ (kX12_passAt_s31 l D G h0 (nI x) z0 z1 z2 z3 z4 z5 z20 z21 z22 z23 z24 z25 z26 z27 z28 z6 z29 z7 z19 z8 z9 z10 z11 z30 z31 z32 z33 z12 z34 z35 z36 z37 z38 z39 z40 z41 z42 z13 z14 z15 z16 z17 z18 z43 H.size) (cwV 3 hts gX12_findEnds_X12_passAt rfl rfl rfl (by decide +kernel) ⟨Nat.le_of_ble_eq_true rfl, Nat.le_of_ble_eq_true rfl⟩) ⟨wB_blind, va_recv hK hPc (ci := 12) (q0 := 0) rfl rfl, wB_pre hPc hK hDc hN⟩ rfl rfl hl.1 rfl (lv_room (Nat.le_of_ble_eq_true rfl)) dX12_findEnds_57 ⟨Nat.le_of_ble_eq_true rfl, Nat.le_of_ble_eq_true rfl⟩) hS (fun q _ h => hFc q h) hFc (fun r20 u t H1 locs ht hvm hr20 hB hz1 hk1 hS => ?_)
          obtain ⟨hP1, hK1, hD1⟩ := hB
          rw [ht] at hP1
          obtain ⟨hP, hD⟩ := va_join (wr := [(z16, .inl (G.2.1, 51200, .inr (.inl le))), (z15, .inl (G.2.1, 25, .inr (.inl f19)))]) (w1 := [(h0, .inr (12, [.ref z0, .ref z1, .ref z2, .ref z3, .ref z4, .ref z5, .ref z20, .ref z21, .ref z22, .ref z23, .ref z24, .ref z25, .int 0, .ref z26, .ref z27, .ref z28, .int 9, .int 0, .int 0, .ref z6, .ref z29, .ref z7, .int 0, .int 2, .ref z19, .ref z8, .ref z9, .ref z10, .int 0, .ref z11, .int 0, .ref z30, .ref z31, .ref z32, .ref z33, .int 0, .ref z12, .int 0, .int 0, .ref z34, .ref z35, .ref z36, .ref z37, .int 0, .int 0, .int 0, .int 0, .ref z38, .int 0, .ref z39, .ref z40, .ref z41, .ref z42, .int 0, .ref z13, .ref z14, .ref z15, .ref z16, .int 0, .ref z17, .ref z18, .ref z43]))]) hP hD [1] [0, 2] rfl rfl (by decide) (by decide) hk1 hFc hP1 hD1
          clear hPc hDc
          generalize H1 = H at hP hS ⊢
          have hP : va_P D vwCl [(z16, .inl (G.2.1, 51200, .inr (.inl le))), (z15, .inl (G.2.1, 25, .inr (.inl f19))), (h0, .inr (12, [.ref z0, .ref z1, .ref z2, .ref z3, .ref z4, .ref z5, .ref z20, .ref z21, .ref z22, .ref z23, .ref z24, .ref z25, .int 0, .ref z26, .ref z27, .ref z28, .int 9, .int 0, .int 0, .ref z6, .ref z29, .ref z7, .int 0, .int 2, .ref z19, .ref z8, .ref z9, .ref z10, .int 0, .ref z11, .int 0, .ref z30, .ref z31, .ref z32, .ref z33, .int 0, .ref z12, .int 0, .int 0, .ref z34, .ref z35, .ref z36, .ref z37, .int 0, .int 0, .int 0, .int 0, .ref z38, .int 0, .ref z39, .ref z40, .ref z41, .ref z42, .int 0, .ref z13, .ref z14, .ref z15, .ref z16, .int 0, .ref z17, .ref z18, .ref z43]))] H := hP
          have hD : va_D A [(z16, .inl (G.2.1, 51200, .inr (.inl le))), (z15, .inl (G.2.1, 25, .inr (.inl f19))), (h0, .inr (12, [.ref z0, .ref z1, .ref z2, .ref z3, .ref z4, .ref z5, .ref z20, .ref z21, .ref z22, .ref z23, .ref z24, .ref z25, .int 0, .ref z26, .ref z27, .ref z28, .int 9, .int 0, .int 0, .ref z6, .ref z29, .ref z7, .int 0, .int 2, .ref z19, .ref z8, .ref z9, .ref z10, .int 0, .ref z11, .int 0, .ref z30, .ref z31, .ref z32, .ref z33, .int 0, .ref z12, .int 0, .int 0, .ref z34, .ref z35, .ref z36, .ref z37, .int 0, .int 0, .int 0, .int 0, .ref z38, .int 0, .ref z39, .ref z40, .ref z41, .ref z42, .int 0, .ref z13, .ref z14, .ref z15, .ref z16, .int 0, .ref z17, .ref z18, .ref z43]))] := hD
          refine lv_ineg hx hb dX12_findEnds_60 ?_
          refine lv_topi (fun v21 ev21 => ?_)
          refine lv_lload_n hx hb dX12_findEnds_61 rfl (lv_at hl 3 rfl) ?_
          have hPc := hP.sub (ws' := [(z15, .inl (G.2.1, 25, .inr (.inl f19)))]) [1] rfl
          have hDc := hD.sub (ws' := [(z15, .inl (G.2.1, 25, .inr (.inl f19)))]) [1] (by decide) rfl
          have hFc := va_free (wc := [(z15, .inl (G.2.1, 25, .inr (.inl f19)))]) hD hS hA [1] rfl
          refine va_callv (va_runS (As := [.ref z15, .int v21, .long 714288]) (rest := []) ⟨hx, hb, hml, hown, hts⟩ (kX12_times_s l D G z15 v21 f19 (wk_neg1 hr20 ev21) H.size) (va_cwS 3 hts gX12_findEnds_X12_times rfl rfl rfl (by decide +kernel) ⟨Nat.le_of_ble_eq_true rfl, Nat.le_of_ble_eq_true rfl⟩) ⟨wB_blind, wB_pre hPc hK hDc hN⟩ rfl rfl hl.1 rfl (lv_room (Nat.le_of_ble_eq_true rfl)) dX12_findEnds_62 ⟨Nat.le_of_ble_eq_true rfl, Nat.le_of_ble_eq_true rfl⟩) hS (fun q _ h => hFc q h) hFc (fun u t H1 locs ht hvm hr22 hB hz1 hk1 hS => ?_)
          obtain ⟨f23, hP1, hK1, hD1⟩ := hB
          rw [ht] at hP1
          obtain ⟨hP, hD⟩ := va_join (wr := [(z16, .inl (G.2.1, 51200, .inr (.inl le))), (h0, .inr (12, [.ref z0, .ref z1, .ref z2, .ref z3, .ref z4, .ref z5, .ref z20, .ref z21, .ref z22, .ref z23, .ref z24, .ref z25, .int 0, .ref z26, .ref z27, .ref z28, .int 9, .int 0, .int 0, .ref z6, .ref z29, .ref z7, .int 0, .int 2, .ref z19, .ref z8, .ref z9, .ref z10, .int 0, .ref z11, .int 0, .ref z30, .ref z31, .ref z32, .ref z33, .int 0, .ref z12, .int 0, .int 0, .ref z34, .ref z35, .ref z36, .ref z37, .int 0, .int 0, .int 0, .int 0, .ref z38, .int 0, .ref z39, .ref z40, .ref z41, .ref z42, .int 0, .ref z13, .ref z14, .ref z15, .ref z16, .int 0, .ref z17, .ref z18, .ref z43]))]) (w1 := [(z15, .inl (G.2.1, 25, .inr (.inl f23)))]) hP hD [1] [0, 2] rfl rfl (by decide) (by decide) hk1 hFc hP1 hD1
          clear hPc hDc
          generalize H1 = H at hP hS ⊢
          have hP : va_P D vwCl [(z16, .inl (G.2.1, 51200, .inr (.inl le))), (h0, .inr (12, [.ref z0, .ref z1, .ref z2, .ref z3, .ref z4, .ref z5, .ref z20, .ref z21, .ref z22, .ref z23, .ref z24, .ref z25, .int 0, .ref z26, .ref z27, .ref z28, .int 9, .int 0, .int 0, .ref z6, .ref z29, .ref z7, .int 0, .int 2, .ref z19, .ref z8, .ref z9, .ref z10, .int 0, .ref z11, .int 0, .ref z30, .ref z31, .ref z32, .ref z33, .int 0, .ref z12, .int 0, .int 0, .ref z34, .ref z35, .ref z36, .ref z37, .int 0, .int 0, .int 0, .int 0, .ref z38, .int 0, .ref z39, .ref z40, .ref z41, .ref z42, .int 0, .ref z13, .ref z14, .ref z15, .ref z16, .int 0, .ref z17, .ref z18, .ref z43])), (z15, .inl (G.2.1, 25, .inr (.inl f23)))] H := hP
          have hD : va_D A [(z16, .inl (G.2.1, 51200, .inr (.inl le))), (h0, .inr (12, [.ref z0, .ref z1, .ref z2, .ref z3, .ref z4, .ref z5, .ref z20, .ref z21, .ref z22, .ref z23, .ref z24, .ref z25, .int 0, .ref z26, .ref z27, .ref z28, .int 9, .int 0, .int 0, .ref z6, .ref z29, .ref z7, .int 0, .int 2, .ref z19, .ref z8, .ref z9, .ref z10, .int 0, .ref z11, .int 0, .ref z30, .ref z31, .ref z32, .ref z33, .int 0, .ref z12, .int 0, .int 0, .ref z34, .ref z35, .ref z36, .ref z37, .int 0, .int 0, .int 0, .int 0, .ref z38, .int 0, .ref z39, .ref z40, .ref z41, .ref z42, .int 0, .ref z13, .ref z14, .ref z15, .ref z16, .int 0, .ref z17, .ref z18, .ref z43])), (z15, .inl (G.2.1, 25, .inr (.inl f23)))] := hD
          refine lv_iinc (v := 0) (lv' := [(5, .int 0), (4, .int (nI x)), (3, .int 3), (1, .long 714288), (0, .ref h0)]) hx hb dX12_findEnds_65 hl (k := 0) rfl (by decide) (by decide) rfl (fun ls hl => ?_)
          refine lv_goto (tgt := 42) hx hb dX12_findEnds_68 (by decide) ?_
          refine lv_iload hx hb dX12_findEnds_42 (lv_at hl 0 rfl) ?_
          refine lv_if_lt (tgt := 71) hx hb dX12_findEnds_44 (by decide) (fun h9 => absurd h9 (by decide)) (fun _ => ?_)
          refine lv_aload_n hx hb dX12_findEnds_47 rfl (lv_at hl 4 rfl) ?_
          refine va_get (D := D) (ci := 12) (v := .ref z15) (C := RX12) (T := TX12) (N := 62) hx hb hts iX12_findEnds_X12 hown hK hP 1 rfl rfl 56 (by decide) (hts (.fieldLink RX12 137 "PuppetBridgeModel" "made" "[J") mX12_findEnds_w1) (fun _ h9 => h9) rfl dX12_findEnds_48 ?_
          refine lv_aload_n hx hb dX12_findEnds_51 rfl (lv_at hl 4 rfl) ?_
          refine lv_iload hx hb dX12_findEnds_52 (lv_at hl 1 rfl) ?_
          refine lv_iload_n hx hb dX12_findEnds_54 rfl (lv_at hl 2 rfl) ?_
          refine lv_iload hx hb dX12_findEnds_55 (lv_at hl 0 rfl) ?_
          have hPc := hP.sub (ws' := [(h0, .inr (12, [.ref z0, .ref z1, .ref z2, .ref z3, .ref z4, .ref z5, .ref z20, .ref z21, .ref z22, .ref z23, .ref z24, .ref z25, .int 0, .ref z26, .ref z27, .ref z28, .int 9, .int 0, .int 0, .ref z6, .ref z29, .ref z7, .int 0, .int 2, .ref z19, .ref z8, .ref z9, .ref z10, .int 0, .ref z11, .int 0, .ref z30, .ref z31, .ref z32, .ref z33, .int 0, .ref z12, .int 0, .int 0, .ref z34, .ref z35, .ref z36, .ref z37, .int 0, .int 0, .int 0, .int 0, .ref z38, .int 0, .ref z39, .ref z40, .ref z41, .ref z42, .int 0, .ref z13, .ref z14, .ref z15, .ref z16, .int 0, .ref z17, .ref z18, .ref z43]))]) [1] rfl
          have hDc := hD.sub (ws' := [(h0, .inr (12, [.ref z0, .ref z1, .ref z2, .ref z3, .ref z4, .ref z5, .ref z20, .ref z21, .ref z22, .ref z23, .ref z24, .ref z25, .int 0, .ref z26, .ref z27, .ref z28, .int 9, .int 0, .int 0, .ref z6, .ref z29, .ref z7, .int 0, .int 2, .ref z19, .ref z8, .ref z9, .ref z10, .int 0, .ref z11, .int 0, .ref z30, .ref z31, .ref z32, .ref z33, .int 0, .ref z12, .int 0, .int 0, .ref z34, .ref z35, .ref z36, .ref z37, .int 0, .int 0, .int 0, .int 0, .ref z38, .int 0, .ref z39, .ref z40, .ref z41, .ref z42, .int 0, .ref z13, .ref z14, .ref z15, .ref z16, .int 0, .ref z17, .ref z18, .ref z43]))]) [1] (by decide) rfl
          have hFc := va_free (wc := [(h0, .inr (12, [.ref z0, .ref z1, .ref z2, .ref z3, .ref z4, .ref z5, .ref z20, .ref z21, .ref z22, .ref z23, .ref z24, .ref z25, .int 0, .ref z26, .ref z27, .ref z28, .int 9, .int 0, .int 0, .ref z6, .ref z29, .ref z7, .int 0, .int 2, .ref z19, .ref z8, .ref z9, .ref z10, .int 0, .ref z11, .int 0, .ref z30, .ref z31, .ref z32, .ref z33, .int 0, .ref z12, .int 0, .int 0, .ref z34, .ref z35, .ref z36, .ref z37, .int 0, .int 0, .int 0, .int 0, .ref z38, .int 0, .ref z39, .ref z40, .ref z41, .ref z42, .int 0, .ref z13, .ref z14, .ref z15, .ref z16, .int 0, .ref z17, .ref z18, .ref z43]))]) hD hS hA [1] rfl
          refine va_calli (va_runV (As := [.int (nI x), .int 3, .int 0]) (rest := [.ref z15]) ⟨hx, hb, hml, hown, hts⟩ (kX12_passAt_s30 l D G h0 (nI x) z0 z1 z2 z3 z4 z5 z20 z21 z22 z23 z24 z25 z26 z27 z28 z6 z29 z7 z19 z8 z9 z10 z11 z30 z31 z32 z33 z12 z34 z35 z36 z37 z38 z39 z40 z41 z42 z13 z14 z15 z16 z17 z18 z43 H.size) (cwV 3 hts gX12_findEnds_X12_passAt rfl rfl rfl (by decide +kernel) ⟨Nat.le_of_ble_eq_true rfl, Nat.le_of_ble_eq_true rfl⟩) ⟨wB_blind, va_recv hK hPc (ci := 12) (q0 := 0) rfl rfl, wB_pre hPc hK hDc hN⟩ rfl rfl hl.1 rfl (lv_room (Nat.le_of_ble_eq_true rfl)) dX12_findEnds_57 ⟨Nat.le_of_ble_eq_true rfl, Nat.le_of_ble_eq_true rfl⟩) hS (fun q _ h => hFc q h) hFc (fun r24 u t H1 locs ht hvm hr24 hB hz1 hk1 hS => ?_)
          obtain ⟨hP1, hK1, hD1⟩ := hB
          rw [ht] at hP1
          obtain ⟨hP, hD⟩ := va_join (wr := [(z16, .inl (G.2.1, 51200, .inr (.inl le))), (z15, .inl (G.2.1, 25, .inr (.inl f23)))]) (w1 := [(h0, .inr (12, [.ref z0, .ref z1, .ref z2, .ref z3, .ref z4, .ref z5, .ref z20, .ref z21, .ref z22, .ref z23, .ref z24, .ref z25, .int 0, .ref z26, .ref z27, .ref z28, .int 9, .int 0, .int 0, .ref z6, .ref z29, .ref z7, .int 0, .int 2, .ref z19, .ref z8, .ref z9, .ref z10, .int 0, .ref z11, .int 0, .ref z30, .ref z31, .ref z32, .ref z33, .int 0, .ref z12, .int 0, .int 0, .ref z34, .ref z35, .ref z36, .ref z37, .int 0, .int 0, .int 0, .int 0, .ref z38, .int 0, .ref z39, .ref z40, .ref z41, .ref z42, .int 0, .ref z13, .ref z14, .ref z15, .ref z16, .int 0, .ref z17, .ref z18, .ref z43]))]) hP hD [1] [0, 2] rfl rfl (by decide) (by decide) hk1 hFc hP1 hD1
          clear hPc hDc
          generalize H1 = H at hP hS ⊢
          have hP : va_P D vwCl [(z16, .inl (G.2.1, 51200, .inr (.inl le))), (z15, .inl (G.2.1, 25, .inr (.inl f23))), (h0, .inr (12, [.ref z0, .ref z1, .ref z2, .ref z3, .ref z4, .ref z5, .ref z20, .ref z21, .ref z22, .ref z23, .ref z24, .ref z25, .int 0, .ref z26, .ref z27, .ref z28, .int 9, .int 0, .int 0, .ref z6, .ref z29, .ref z7, .int 0, .int 2, .ref z19, .ref z8, .ref z9, .ref z10, .int 0, .ref z11, .int 0, .ref z30, .ref z31, .ref z32, .ref z33, .int 0, .ref z12, .int 0, .int 0, .ref z34, .ref z35, .ref z36, .ref z37, .int 0, .int 0, .int 0, .int 0, .ref z38, .int 0, .ref z39, .ref z40, .ref z41, .ref z42, .int 0, .ref z13, .ref z14, .ref z15, .ref z16, .int 0, .ref z17, .ref z18, .ref z43]))] H := hP
          have hD : va_D A [(z16, .inl (G.2.1, 51200, .inr (.inl le))), (z15, .inl (G.2.1, 25, .inr (.inl f23))), (h0, .inr (12, [.ref z0, .ref z1, .ref z2, .ref z3, .ref z4, .ref z5, .ref z20, .ref z21, .ref z22, .ref z23, .ref z24, .ref z25, .int 0, .ref z26, .ref z27, .ref z28, .int 9, .int 0, .int 0, .ref z6, .ref z29, .ref z7, .int 0, .int 2, .ref z19, .ref z8, .ref z9, .ref z10, .int 0, .ref z11, .int 0, .ref z30, .ref z31, .ref z32, .ref z33, .int 0, .ref z12, .int 0, .int 0, .ref z34, .ref z35, .ref z36, .ref z37, .int 0, .int 0, .int 0, .int 0, .ref z38, .int 0, .ref z39, .ref z40, .ref z41, .ref z42, .int 0, .ref z13, .ref z14, .ref z15, .ref z16, .int 0, .ref z17, .ref z18, .ref z43]))] := hD
          refine lv_ineg hx hb dX12_findEnds_60 ?_
          refine lv_topi (fun v25 ev25 => ?_)
          refine lv_lload_n hx hb dX12_findEnds_61 rfl (lv_at hl 3 rfl) ?_
          have hPc := hP.sub (ws' := [(z15, .inl (G.2.1, 25, .inr (.inl f23)))]) [1] rfl
          have hDc := hD.sub (ws' := [(z15, .inl (G.2.1, 25, .inr (.inl f23)))]) [1] (by decide) rfl
          have hFc := va_free (wc := [(z15, .inl (G.2.1, 25, .inr (.inl f23)))]) hD hS hA [1] rfl
          refine va_callv (va_runS (As := [.ref z15, .int v25, .long 714288]) (rest := []) ⟨hx, hb, hml, hown, hts⟩ (kX12_times_s l D G z15 v25 f23 (wk_neg1 hr24 ev25) H.size) (va_cwS 3 hts gX12_findEnds_X12_times rfl rfl rfl (by decide +kernel) ⟨Nat.le_of_ble_eq_true rfl, Nat.le_of_ble_eq_true rfl⟩) ⟨wB_blind, wB_pre hPc hK hDc hN⟩ rfl rfl hl.1 rfl (lv_room (Nat.le_of_ble_eq_true rfl)) dX12_findEnds_62 ⟨Nat.le_of_ble_eq_true rfl, Nat.le_of_ble_eq_true rfl⟩) hS (fun q _ h => hFc q h) hFc (fun u t H1 locs ht hvm hr26 hB hz1 hk1 hS => ?_)
          obtain ⟨f27, hP1, hK1, hD1⟩ := hB
          rw [ht] at hP1
          obtain ⟨hP, hD⟩ := va_join (wr := [(z16, .inl (G.2.1, 51200, .inr (.inl le))), (h0, .inr (12, [.ref z0, .ref z1, .ref z2, .ref z3, .ref z4, .ref z5, .ref z20, .ref z21, .ref z22, .ref z23, .ref z24, .ref z25, .int 0, .ref z26, .ref z27, .ref z28, .int 9, .int 0, .int 0, .ref z6, .ref z29, .ref z7, .int 0, .int 2, .ref z19, .ref z8, .ref z9, .ref z10, .int 0, .ref z11, .int 0, .ref z30, .ref z31, .ref z32, .ref z33, .int 0, .ref z12, .int 0, .int 0, .ref z34, .ref z35, .ref z36, .ref z37, .int 0, .int 0, .int 0, .int 0, .ref z38, .int 0, .ref z39, .ref z40, .ref z41, .ref z42, .int 0, .ref z13, .ref z14, .ref z15, .ref z16, .int 0, .ref z17, .ref z18, .ref z43]))]) (w1 := [(z15, .inl (G.2.1, 25, .inr (.inl f27)))]) hP hD [1] [0, 2] rfl rfl (by decide) (by decide) hk1 hFc hP1 hD1
          clear hPc hDc
          generalize H1 = H at hP hS ⊢
          have hP : va_P D vwCl [(z16, .inl (G.2.1, 51200, .inr (.inl le))), (h0, .inr (12, [.ref z0, .ref z1, .ref z2, .ref z3, .ref z4, .ref z5, .ref z20, .ref z21, .ref z22, .ref z23, .ref z24, .ref z25, .int 0, .ref z26, .ref z27, .ref z28, .int 9, .int 0, .int 0, .ref z6, .ref z29, .ref z7, .int 0, .int 2, .ref z19, .ref z8, .ref z9, .ref z10, .int 0, .ref z11, .int 0, .ref z30, .ref z31, .ref z32, .ref z33, .int 0, .ref z12, .int 0, .int 0, .ref z34, .ref z35, .ref z36, .ref z37, .int 0, .int 0, .int 0, .int 0, .ref z38, .int 0, .ref z39, .ref z40, .ref z41, .ref z42, .int 0, .ref z13, .ref z14, .ref z15, .ref z16, .int 0, .ref z17, .ref z18, .ref z43])), (z15, .inl (G.2.1, 25, .inr (.inl f27)))] H := hP
          have hD : va_D A [(z16, .inl (G.2.1, 51200, .inr (.inl le))), (h0, .inr (12, [.ref z0, .ref z1, .ref z2, .ref z3, .ref z4, .ref z5, .ref z20, .ref z21, .ref z22, .ref z23, .ref z24, .ref z25, .int 0, .ref z26, .ref z27, .ref z28, .int 9, .int 0, .int 0, .ref z6, .ref z29, .ref z7, .int 0, .int 2, .ref z19, .ref z8, .ref z9, .ref z10, .int 0, .ref z11, .int 0, .ref z30, .ref z31, .ref z32, .ref z33, .int 0, .ref z12, .int 0, .int 0, .ref z34, .ref z35, .ref z36, .ref z37, .int 0, .int 0, .int 0, .int 0, .ref z38, .int 0, .ref z39, .ref z40, .ref z41, .ref z42, .int 0, .ref z13, .ref z14, .ref z15, .ref z16, .int 0, .ref z17, .ref z18, .ref z43])), (z15, .inl (G.2.1, 25, .inr (.inl f27)))] := hD
          refine lv_iinc (v := (-1)) (lv' := [(5, .int (-1)), (4, .int (nI x)), (3, .int 3), (1, .long 714288), (0, .ref h0)]) hx hb dX12_findEnds_65 hl (k := 0) rfl (by decide) (by decide) rfl (fun ls hl => ?_)
          refine lv_goto (tgt := 42) hx hb dX12_findEnds_68 (by decide) ?_
          refine lv_iload hx hb dX12_findEnds_42 (lv_at hl 0 rfl) ?_
          refine lv_if_lt (tgt := 71) hx hb dX12_findEnds_44 (by decide) (fun _ => ?_) (fun h9 => absurd h9 (by decide))
          refine lv_iconst (v := 0) hx hb dX12_findEnds_71 (by decide) ?_
          refine lv_istore (lv' := [(5, .int 0), (4, .int (nI x)), (3, .int 3), (1, .long 714288), (0, .ref h0)]) hx hb dX12_findEnds_72 hl (by decide) rfl (fun ls hl => ?_)
          obtain ⟨i, hi⟩ : ∃ i : Nat, i = 0 := ⟨0, rfl⟩
          obtain ⟨lf, hlf⟩ : ∃ f : Nat → Int64, f = le := ⟨_, rfl⟩
          have hfa : ∀ j : Nat, j < 25 → lf j = tIdn j := by rw [hlf]; exact fun j hj => hfa j (by omega)
          have hP : va_P D vwCl [(z16, .inl (G.2.1, 51200, .inr (.inl lf))), (h0, .inr (12, [.ref z0, .ref z1, .ref z2, .ref z3, .ref z4, .ref z5, .ref z20, .ref z21, .ref z22, .ref z23, .ref z24, .ref z25, .int 0, .ref z26, .ref z27, .ref z28, .int 9, .int 0, .int 0, .ref z6, .ref z29, .ref z7, .int 0, .int 2, .ref z19, .ref z8, .ref z9, .ref z10, .int 0, .ref z11, .int 0, .ref z30, .ref z31, .ref z32, .ref z33, .int 0, .ref z12, .int 0, .int 0, .ref z34, .ref z35, .ref z36, .ref z37, .int 0, .int 0, .int 0, .int 0, .ref z38, .int 0, .ref z39, .ref z40, .ref z41, .ref z42, .int 0, .ref z13, .ref z14, .ref z15, .ref z16, .int 0, .ref z17, .ref z18, .ref z43])), (z15, .inl (G.2.1, 25, .inr (.inl f27)))] H := by rw [hlf]; exact hP
          have hD : va_D A [(z16, .inl (G.2.1, 51200, .inr (.inl lf))), (h0, .inr (12, [.ref z0, .ref z1, .ref z2, .ref z3, .ref z4, .ref z5, .ref z20, .ref z21, .ref z22, .ref z23, .ref z24, .ref z25, .int 0, .ref z26, .ref z27, .ref z28, .int 9, .int 0, .int 0, .ref z6, .ref z29, .ref z7, .int 0, .int 2, .ref z19, .ref z8, .ref z9, .ref z10, .int 0, .ref z11, .int 0, .ref z30, .ref z31, .ref z32, .ref z33, .int 0, .ref z12, .int 0, .int 0, .ref z34, .ref z35, .ref z36, .ref z37, .int 0, .int 0, .int 0, .int 0, .ref z38, .int 0, .ref z39, .ref z40, .ref z41, .ref z42, .int 0, .ref z13, .ref z14, .ref z15, .ref z16, .int 0, .ref z17, .ref z18, .ref z43])), (z15, .inl (G.2.1, 25, .inr (.inl f27)))] := by rw [hlf]; exact hD
          have hl : lv_has ls 6 [(5, .int (nI i)), (4, .int (nI x)), (3, .int 3), (1, .long 714288), (0, .ref h0)] := by rw [hi]; exact hl
          obtain ⟨d, hd⟩ : ∃ d : Nat, i + d = 25 := ⟨25, by omega⟩
          clear hi hlf
          generalize H = H at hP hS ⊢
          generalize locs = locs at hS ⊢
          generalize ls = ls at hl ⊢
          induction d generalizing i lf H locs ls with
          | zero =>
            refine lv_iload hx hb dX12_findEnds_74 (lv_at hl 0 rfl) ?_
            refine lv_bipush (v := 25) hx hb dX12_findEnds_76 (by decide) ?_
            refine lv_icmp_ge (tgt := 113) hx hb dX12_findEnds_78 (by decide) (fun _ => ?_) (fun h9 => absurd (by rw [show i = 25 by omega]; decide) h9)
            obtain ⟨v28, ev28⟩ : ∃ y : Int32, y = (nI x) + 1 := ⟨_, rfl⟩
            refine lv_iinc (v := v28) (lv' := [(4, .int v28), (5, .int (nI i)), (3, .int 3), (1, .long 714288), (0, .ref h0)]) hx hb dX12_findEnds_113 hl (k := 1) rfl (by rw [ev28]; rfl) (by decide) rfl (fun ls hl => ?_)
            refine lv_goto (tgt := 17) hx hb dX12_findEnds_116 (by decide) ?_
            have hP := hP.sub (ws' := [(z16, .inl (G.2.1, 51200, .inr (.inl lf))), (z15, .inl (G.2.1, 25, .inr (.inl f27))), (h0, .inr (12, [.ref z0, .ref z1, .ref z2, .ref z3, .ref z4, .ref z5, .ref z20, .ref z21, .ref z22, .ref z23, .ref z24, .ref z25, .int 0, .ref z26, .ref z27, .ref z28, .int 9, .int 0, .int 0, .ref z6, .ref z29, .ref z7, .int 0, .int 2, .ref z19, .ref z8, .ref z9, .ref z10, .int 0, .ref z11, .int 0, .ref z30, .ref z31, .ref z32, .ref z33, .int 0, .ref z12, .int 0, .int 0, .ref z34, .ref z35, .ref z36, .ref z37, .int 0, .int 0, .int 0, .int 0, .ref z38, .int 0, .ref z39, .ref z40, .ref z41, .ref z42, .int 0, .ref z13, .ref z14, .ref z15, .ref z16, .int 0, .ref z17, .ref z18, .ref z43]))]) [0, 2, 1] rfl
            have hD := hD.sub (ws' := [(z16, .inl (G.2.1, 51200, .inr (.inl lf))), (z15, .inl (G.2.1, 25, .inr (.inl f27))), (h0, .inr (12, [.ref z0, .ref z1, .ref z2, .ref z3, .ref z4, .ref z5, .ref z20, .ref z21, .ref z22, .ref z23, .ref z24, .ref z25, .int 0, .ref z26, .ref z27, .ref z28, .int 9, .int 0, .int 0, .ref z6, .ref z29, .ref z7, .int 0, .int 2, .ref z19, .ref z8, .ref z9, .ref z10, .int 0, .ref z11, .int 0, .ref z30, .ref z31, .ref z32, .ref z33, .int 0, .ref z12, .int 0, .int 0, .ref z34, .ref z35, .ref z36, .ref z37, .int 0, .int 0, .int 0, .int 0, .ref z38, .int 0, .ref z39, .ref z40, .ref z41, .ref z42, .int 0, .ref z13, .ref z14, .ref z15, .ref z16, .int 0, .ref z17, .ref z18, .ref z43]))]) [0, 2, 1] (by decide) rfl
            exact ihx (x := x + 1) (hP := hP) (hD := hD) (hS := hS) (hl := by rw [← nI_1, ← ev28]; exact lv_sub hl [0, 2, 3, 4] rfl) (hdx := by omega) (hfa := by exact fun j hj => hfa j (by omega))
          | succ d ih =>
            refine lv_iload hx hb dX12_findEnds_74 (lv_at hl 0 rfl) ?_
            refine lv_bipush (v := 25) hx hb dX12_findEnds_76 (by decide) ?_
            refine lv_icmp_ge (tgt := 113) hx hb dX12_findEnds_78 (by decide) (fun h9 => absurd h9 (by rw [show (25 : Int32) = nI 25 from rfl]; exact nI_ge (by omega) (by omega))) (fun _ => ?_)
            refine lv_aload_n hx hb dX12_findEnds_81 rfl (lv_at hl 4 rfl) ?_
            refine va_get (D := D) (ci := 12) (v := .ref z16) (C := RX12) (T := TX12) (N := 62) hx hb hts iX12_findEnds_X12 hown hK hP 1 rfl rfl 57 (by decide) (hts (.fieldLink RX12 141 "PuppetBridgeModel" "endMarks" "[J") mX12_findEnds_w2) (fun _ h9 => h9) rfl dX12_findEnds_82 ?_
            refine lv_sipush (v := 512) hx hb dX12_findEnds_85 (by decide) ?_
            refine lv_iload_n hx hb dX12_findEnds_88 rfl (lv_at hl 2 rfl) ?_
            refine lv_imul hx hb dX12_findEnds_89 ?_
            refine wk_i 1536 (by decide) ?_
            refine lv_iload hx hb dX12_findEnds_90 (lv_at hl 1 rfl) ?_
            refine lv_iadd hx hb dX12_findEnds_92 ?_
            refine lv_topi (fun va eva => ?_)
            refine lv_bipush (v := 25) hx hb dX12_findEnds_93 (by decide) ?_
            refine lv_imul hx hb dX12_findEnds_95 ?_
            refine lv_topi (fun vb evb => ?_)
            refine lv_iload hx hb dX12_findEnds_96 (lv_at hl 0 rfl) ?_
            refine lv_iadd hx hb dX12_findEnds_98 ?_
            refine lv_topi (fun vix evix => ?_)
            refine lv_aload_n hx hb dX12_findEnds_99 rfl (lv_at hl 4 rfl) ?_
            refine va_get (D := D) (ci := 12) (v := .ref z15) (C := RX12) (T := TX12) (N := 62) hx hb hts iX12_findEnds_X12 hown hK hP 1 rfl rfl 56 (by decide) (hts (.fieldLink RX12 137 "PuppetBridgeModel" "made" "[J") mX12_findEnds_w1) (fun _ h9 => h9) rfl dX12_findEnds_100 ?_
            refine lv_iload hx hb dX12_findEnds_103 (lv_at hl 0 rfl) ?_
            refine va_lald hx hb hK hP 2 1 rfl rfl (vp_in_nI (by omega) (by omega)) dX12_findEnds_105 ?_
            refine lv_topl (fun wm ewm => ?_)
            refine va_last hx hb hK hP hD hS 0 1 rfl rfl (by have hv0 := wk_ix (c1 := 1536) (n1 := 1536) rfl eva evb evix; rw [hv0]; exact vp_in_nI (by omega) (by omega)) dX12_findEnds_106 (fun H locs hP hD hS => ?_)
            have hP : va_P D vwCl [(z16, .inl (G.2.1, 51200, .inr (.inl (vp_updL lf vix.toNatClampNeg wm)))), (h0, .inr (12, [.ref z0, .ref z1, .ref z2, .ref z3, .ref z4, .ref z5, .ref z20, .ref z21, .ref z22, .ref z23, .ref z24, .ref z25, .int 0, .ref z26, .ref z27, .ref z28, .int 9, .int 0, .int 0, .ref z6, .ref z29, .ref z7, .int 0, .int 2, .ref z19, .ref z8, .ref z9, .ref z10, .int 0, .ref z11, .int 0, .ref z30, .ref z31, .ref z32, .ref z33, .int 0, .ref z12, .int 0, .int 0, .ref z34, .ref z35, .ref z36, .ref z37, .int 0, .int 0, .int 0, .int 0, .ref z38, .int 0, .ref z39, .ref z40, .ref z41, .ref z42, .int 0, .ref z13, .ref z14, .ref z15, .ref z16, .int 0, .ref z17, .ref z18, .ref z43])), (z15, .inl (G.2.1, 25, .inr (.inl f27)))] H := hP
            have hD : va_D A [(z16, .inl (G.2.1, 51200, .inr (.inl (vp_updL lf vix.toNatClampNeg wm)))), (h0, .inr (12, [.ref z0, .ref z1, .ref z2, .ref z3, .ref z4, .ref z5, .ref z20, .ref z21, .ref z22, .ref z23, .ref z24, .ref z25, .int 0, .ref z26, .ref z27, .ref z28, .int 9, .int 0, .int 0, .ref z6, .ref z29, .ref z7, .int 0, .int 2, .ref z19, .ref z8, .ref z9, .ref z10, .int 0, .ref z11, .int 0, .ref z30, .ref z31, .ref z32, .ref z33, .int 0, .ref z12, .int 0, .int 0, .ref z34, .ref z35, .ref z36, .ref z37, .int 0, .int 0, .int 0, .int 0, .ref z38, .int 0, .ref z39, .ref z40, .ref z41, .ref z42, .int 0, .ref z13, .ref z14, .ref z15, .ref z16, .int 0, .ref z17, .ref z18, .ref z43])), (z15, .inl (G.2.1, 25, .inr (.inl f27)))] := hD
            obtain ⟨v29, ev29⟩ : ∃ y : Int32, y = (nI i) + 1 := ⟨_, rfl⟩
            refine lv_iinc (v := v29) (lv' := [(5, .int v29), (4, .int (nI x)), (3, .int 3), (1, .long 714288), (0, .ref h0)]) hx hb dX12_findEnds_107 hl (k := 0) rfl (by rw [ev29]; rfl) (by decide) rfl (fun ls hl => ?_)
            refine lv_goto (tgt := 74) hx hb dX12_findEnds_110 (by decide) ?_
            exact ih (i := i + 1) (hP := hP) (hD := hD) (hS := hS) (hl := by rw [← nI_1, ← ev29]; exact lv_sub hl [0, 1, 2, 3, 4] rfl) (hd := by omega) (hfa := by (have hv0 := wk_ix (c1 := 1536) (n1 := 1536) rfl eva evb evix; intro j hj; rw [hv0, nI_clamp (by omega), pk_uLn (by omega)]; exact hfa j hj))
      | succ dx ihx =>
        refine lv_iload hx hb dX12_findEnds_17 (lv_at hl 0 rfl) ?_
        refine lv_aload_n hx hb dX12_findEnds_19 rfl (lv_at hl 3 rfl) ?_
        have hPc := hP.sub (ws' := [(h0, .inr (12, [.ref z0, .ref z1, .ref z2, .ref z3, .ref z4, .ref z5, .ref z20, .ref z21, .ref z22, .ref z23, .ref z24, .ref z25, .int 0, .ref z26, .ref z27, .ref z28, .int 9, .int 0, .int 0, .ref z6, .ref z29, .ref z7, .int 0, .int 2, .ref z19, .ref z8, .ref z9, .ref z10, .int 0, .ref z11, .int 0, .ref z30, .ref z31, .ref z32, .ref z33, .int 0, .ref z12, .int 0, .int 0, .ref z34, .ref z35, .ref z36, .ref z37, .int 0, .int 0, .int 0, .int 0, .ref z38, .int 0, .ref z39, .ref z40, .ref z41, .ref z42, .int 0, .ref z13, .ref z14, .ref z15, .ref z16, .int 0, .ref z17, .ref z18, .ref z43]))]) [2] rfl
        have hDc := hD.sub (ws' := [(h0, .inr (12, [.ref z0, .ref z1, .ref z2, .ref z3, .ref z4, .ref z5, .ref z20, .ref z21, .ref z22, .ref z23, .ref z24, .ref z25, .int 0, .ref z26, .ref z27, .ref z28, .int 9, .int 0, .int 0, .ref z6, .ref z29, .ref z7, .int 0, .int 2, .ref z19, .ref z8, .ref z9, .ref z10, .int 0, .ref z11, .int 0, .ref z30, .ref z31, .ref z32, .ref z33, .int 0, .ref z12, .int 0, .int 0, .ref z34, .ref z35, .ref z36, .ref z37, .int 0, .int 0, .int 0, .int 0, .ref z38, .int 0, .ref z39, .ref z40, .ref z41, .ref z42, .int 0, .ref z13, .ref z14, .ref z15, .ref z16, .int 0, .ref z17, .ref z18, .ref z43]))]) [2] (by decide) rfl
        have hFc := va_free (wc := [(h0, .inr (12, [.ref z0, .ref z1, .ref z2, .ref z3, .ref z4, .ref z5, .ref z20, .ref z21, .ref z22, .ref z23, .ref z24, .ref z25, .int 0, .ref z26, .ref z27, .ref z28, .int 9, .int 0, .int 0, .ref z6, .ref z29, .ref z7, .int 0, .int 2, .ref z19, .ref z8, .ref z9, .ref z10, .int 0, .ref z11, .int 0, .ref z30, .ref z31, .ref z32, .ref z33, .int 0, .ref z12, .int 0, .int 0, .ref z34, .ref z35, .ref z36, .ref z37, .int 0, .int 0, .int 0, .int 0, .ref z38, .int 0, .ref z39, .ref z40, .ref z41, .ref z42, .int 0, .ref z13, .ref z14, .ref z15, .ref z16, .int 0, .ref z17, .ref z18, .ref z43]))]) hD hS hA [2] rfl
        refine va_calli (va_runV (As := []) (rest := [.int (nI x)]) ⟨hx, hb, hml, hown, hts⟩ (kX12_gens l D G h0 z0 z1 z2 z3 z4 z5 z20 z21 z22 z23 z24 z25 z26 z27 z28 z6 z29 z7 z19 z8 z9 z10 z11 z30 z31 z32 z33 z12 z34 z35 z36 z37 z38 z39 z40 z41 z42 z13 z14 z15 z16 z17 z18 z43 0 H.size) (cwV 0 hts gX12_findEnds_X12_gens rfl rfl rfl (by decide +kernel) ⟨Nat.le_of_ble_eq_true rfl, Nat.le_of_ble_eq_true rfl⟩) ⟨wB_blind, va_recv hK hPc (ci := 12) (q0 := 0) rfl rfl, wB_pre hPc hK hDc hN⟩ rfl rfl hl.1 rfl (lv_room (Nat.le_of_ble_eq_true rfl)) dX12_findEnds_20 ⟨Nat.le_of_ble_eq_true rfl, Nat.le_of_ble_eq_true rfl⟩) hS (fun q _ h => hFc q h) hFc (fun r30 u t H1 locs ht hvm hr30 hB hz1 hk1 hS => ?_)
        obtain ⟨hP1, hK1, hD1⟩ := hB
        rw [ht] at hP1
        obtain ⟨hP, hD⟩ := va_join (wr := [(z16, .inl (G.2.1, 51200, .inr (.inl le))), (z15, .inl (G.2.1, 25, .inr (.inl lm)))]) (w1 := [(h0, .inr (12, [.ref z0, .ref z1, .ref z2, .ref z3, .ref z4, .ref z5, .ref z20, .ref z21, .ref z22, .ref z23, .ref z24, .ref z25, .int 0, .ref z26, .ref z27, .ref z28, .int 9, .int 0, .int 0, .ref z6, .ref z29, .ref z7, .int 0, .int 2, .ref z19, .ref z8, .ref z9, .ref z10, .int 0, .ref z11, .int 0, .ref z30, .ref z31, .ref z32, .ref z33, .int 0, .ref z12, .int 0, .int 0, .ref z34, .ref z35, .ref z36, .ref z37, .int 0, .int 0, .int 0, .int 0, .ref z38, .int 0, .ref z39, .ref z40, .ref z41, .ref z42, .int 0, .ref z13, .ref z14, .ref z15, .ref z16, .int 0, .ref z17, .ref z18, .ref z43]))]) hP hD [2] [0, 1] rfl rfl (by decide) (by decide) hk1 hFc hP1 hD1
        clear hPc hDc
        generalize H1 = H at hP hS ⊢
        have hP : va_P D vwCl [(z16, .inl (G.2.1, 51200, .inr (.inl le))), (z15, .inl (G.2.1, 25, .inr (.inl lm))), (h0, .inr (12, [.ref z0, .ref z1, .ref z2, .ref z3, .ref z4, .ref z5, .ref z20, .ref z21, .ref z22, .ref z23, .ref z24, .ref z25, .int 0, .ref z26, .ref z27, .ref z28, .int 9, .int 0, .int 0, .ref z6, .ref z29, .ref z7, .int 0, .int 2, .ref z19, .ref z8, .ref z9, .ref z10, .int 0, .ref z11, .int 0, .ref z30, .ref z31, .ref z32, .ref z33, .int 0, .ref z12, .int 0, .int 0, .ref z34, .ref z35, .ref z36, .ref z37, .int 0, .int 0, .int 0, .int 0, .ref z38, .int 0, .ref z39, .ref z40, .ref z41, .ref z42, .int 0, .ref z13, .ref z14, .ref z15, .ref z16, .int 0, .ref z17, .ref z18, .ref z43]))] H := hP
        have hD : va_D A [(z16, .inl (G.2.1, 51200, .inr (.inl le))), (z15, .inl (G.2.1, 25, .inr (.inl lm))), (h0, .inr (12, [.ref z0, .ref z1, .ref z2, .ref z3, .ref z4, .ref z5, .ref z20, .ref z21, .ref z22, .ref z23, .ref z24, .ref z25, .int 0, .ref z26, .ref z27, .ref z28, .int 9, .int 0, .int 0, .ref z6, .ref z29, .ref z7, .int 0, .int 2, .ref z19, .ref z8, .ref z9, .ref z10, .int 0, .ref z11, .int 0, .ref z30, .ref z31, .ref z32, .ref z33, .int 0, .ref z12, .int 0, .int 0, .ref z34, .ref z35, .ref z36, .ref z37, .int 0, .int 0, .int 0, .int 0, .ref z38, .int 0, .ref z39, .ref z40, .ref z41, .ref z42, .int 0, .ref z13, .ref z14, .ref z15, .ref z16, .int 0, .ref z17, .ref z18, .ref z43]))] := hD
        subst hr30
        refine lv_iload_n hx hb dX12_findEnds_23 rfl (lv_at hl 1 rfl) ?_
        have hPc := hP.sub (ws' := []) [] rfl
        have hDc := hD.sub (ws' := []) [] (by decide) rfl
        have hFc := va_free (wc := []) hD hS hA [] rfl
        refine va_calli (va_runS (As := [.int 2, .int 2]) (rest := [.int (nI x)]) ⟨hx, hb, hml, hown, hts⟩ (kX12_power_2 l D G  H.size) (va_cwS 2 hts gX12_findEnds_X12_power rfl rfl rfl (by decide +kernel) ⟨Nat.le_of_ble_eq_true rfl, Nat.le_of_ble_eq_true rfl⟩) ⟨wB_blind, wB_pre hPc hK hDc hN⟩ rfl rfl hl.1 rfl (lv_room (Nat.le_of_ble_eq_true rfl)) dX12_findEnds_24 ⟨Nat.le_of_ble_eq_true rfl, Nat.le_of_ble_eq_true rfl⟩) hS (fun q _ h => hFc q h) hFc (fun r31 u t H1 locs ht hvm hr31 hB hz1 hk1 hS => ?_)
        obtain ⟨hP, hD⟩ := va_join (wr := [(z16, .inl (G.2.1, 51200, .inr (.inl le))), (z15, .inl (G.2.1, 25, .inr (.inl lm))), (h0, .inr (12, [.ref z0, .ref z1, .ref z2, .ref z3, .ref z4, .ref z5, .ref z20, .ref z21, .ref z22, .ref z23, .ref z24, .ref z25, .int 0, .ref z26, .ref z27, .ref z28, .int 9, .int 0, .int 0, .ref z6, .ref z29, .ref z7, .int 0, .int 2, .ref z19, .ref z8, .ref z9, .ref z10, .int 0, .ref z11, .int 0, .ref z30, .ref z31, .ref z32, .ref z33, .int 0, .ref z12, .int 0, .int 0, .ref z34, .ref z35, .ref z36, .ref z37, .int 0, .int 0, .int 0, .int 0, .ref z38, .int 0, .ref z39, .ref z40, .ref z41, .ref z42, .int 0, .ref z13, .ref z14, .ref z15, .ref z16, .int 0, .ref z17, .ref z18, .ref z43]))]) (w1 := []) hP hD [] [0, 1, 2] rfl rfl (by decide) (by decide) hk1 hFc wP_nil wD_nil
        clear hPc hDc
        generalize H1 = H at hP hS ⊢
        have hP : va_P D vwCl [(z16, .inl (G.2.1, 51200, .inr (.inl le))), (z15, .inl (G.2.1, 25, .inr (.inl lm))), (h0, .inr (12, [.ref z0, .ref z1, .ref z2, .ref z3, .ref z4, .ref z5, .ref z20, .ref z21, .ref z22, .ref z23, .ref z24, .ref z25, .int 0, .ref z26, .ref z27, .ref z28, .int 9, .int 0, .int 0, .ref z6, .ref z29, .ref z7, .int 0, .int 2, .ref z19, .ref z8, .ref z9, .ref z10, .int 0, .ref z11, .int 0, .ref z30, .ref z31, .ref z32, .ref z33, .int 0, .ref z12, .int 0, .int 0, .ref z34, .ref z35, .ref z36, .ref z37, .int 0, .int 0, .int 0, .int 0, .ref z38, .int 0, .ref z39, .ref z40, .ref z41, .ref z42, .int 0, .ref z13, .ref z14, .ref z15, .ref z16, .int 0, .ref z17, .ref z18, .ref z43]))] H := hP
        have hD : va_D A [(z16, .inl (G.2.1, 51200, .inr (.inl le))), (z15, .inl (G.2.1, 25, .inr (.inl lm))), (h0, .inr (12, [.ref z0, .ref z1, .ref z2, .ref z3, .ref z4, .ref z5, .ref z20, .ref z21, .ref z22, .ref z23, .ref z24, .ref z25, .int 0, .ref z26, .ref z27, .ref z28, .int 9, .int 0, .int 0, .ref z6, .ref z29, .ref z7, .int 0, .int 2, .ref z19, .ref z8, .ref z9, .ref z10, .int 0, .ref z11, .int 0, .ref z30, .ref z31, .ref z32, .ref z33, .int 0, .ref z12, .int 0, .int 0, .ref z34, .ref z35, .ref z36, .ref z37, .int 0, .int 0, .int 0, .int 0, .ref z38, .int 0, .ref z39, .ref z40, .ref z41, .ref z42, .int 0, .ref z13, .ref z14, .ref z15, .ref z16, .int 0, .ref z17, .ref z18, .ref z43]))] := hD
        subst hr31
        refine lv_icmp_ge (tgt := 119) hx hb dX12_findEnds_27 (by decide) (fun h9 => absurd h9 (by rw [show (4 : Int32) = nI 4 from rfl]; exact nI_ge (by omega) (by omega))) (fun _ => ?_)
        refine lv_aload_n hx hb dX12_findEnds_30 rfl (lv_at hl 3 rfl) ?_
        refine va_get (D := D) (ci := 12) (v := .ref z15) (C := RX12) (T := TX12) (N := 62) hx hb hts iX12_findEnds_X12 hown hK hP 2 rfl rfl 56 (by decide) (hts (.fieldLink RX12 137 "PuppetBridgeModel" "made" "[J") mX12_findEnds_w1) (fun _ h9 => h9) rfl dX12_findEnds_31 ?_
        have hPc := hP.sub (ws' := [(z15, .inl (G.2.1, 25, .inr (.inl lm)))]) [1] rfl
        have hDc := hD.sub (ws' := [(z15, .inl (G.2.1, 25, .inr (.inl lm)))]) [1] (by decide) rfl
        have hFc := va_free (wc := [(z15, .inl (G.2.1, 25, .inr (.inl lm)))]) hD hS hA [1] rfl
        refine va_callv (va_runS (As := [.ref z15]) (rest := []) ⟨hx, hb, hml, hown, hts⟩ (kX12_nothing l D G z15 lm H.size) (va_cwS 1 hts gX12_findEnds_X12_nothing rfl rfl rfl (by decide +kernel) ⟨Nat.le_of_ble_eq_true rfl, Nat.le_of_ble_eq_true rfl⟩) ⟨wB_blind, wB_pre hPc hK hDc hN⟩ rfl rfl hl.1 rfl (lv_room (Nat.le_of_ble_eq_true rfl)) dX12_findEnds_34 ⟨Nat.le_of_ble_eq_true rfl, Nat.le_of_ble_eq_true rfl⟩) hS (fun q _ h => hFc q h) hFc (fun u t H1 locs ht hvm hr32 hB hz1 hk1 hS => ?_)
        obtain ⟨hP1, hK1, hD1⟩ := hB
        rw [ht] at hP1
        obtain ⟨hP, hD⟩ := va_join (wr := [(z16, .inl (G.2.1, 51200, .inr (.inl le))), (h0, .inr (12, [.ref z0, .ref z1, .ref z2, .ref z3, .ref z4, .ref z5, .ref z20, .ref z21, .ref z22, .ref z23, .ref z24, .ref z25, .int 0, .ref z26, .ref z27, .ref z28, .int 9, .int 0, .int 0, .ref z6, .ref z29, .ref z7, .int 0, .int 2, .ref z19, .ref z8, .ref z9, .ref z10, .int 0, .ref z11, .int 0, .ref z30, .ref z31, .ref z32, .ref z33, .int 0, .ref z12, .int 0, .int 0, .ref z34, .ref z35, .ref z36, .ref z37, .int 0, .int 0, .int 0, .int 0, .ref z38, .int 0, .ref z39, .ref z40, .ref z41, .ref z42, .int 0, .ref z13, .ref z14, .ref z15, .ref z16, .int 0, .ref z17, .ref z18, .ref z43]))]) (w1 := [(z15, .inl (G.2.1, 25, .inr (.inl tIdn)))]) hP hD [1] [0, 2] rfl rfl (by decide) (by decide) hk1 hFc hP1 hD1
        clear hPc hDc
        generalize H1 = H at hP hS ⊢
        have hP : va_P D vwCl [(z16, .inl (G.2.1, 51200, .inr (.inl le))), (h0, .inr (12, [.ref z0, .ref z1, .ref z2, .ref z3, .ref z4, .ref z5, .ref z20, .ref z21, .ref z22, .ref z23, .ref z24, .ref z25, .int 0, .ref z26, .ref z27, .ref z28, .int 9, .int 0, .int 0, .ref z6, .ref z29, .ref z7, .int 0, .int 2, .ref z19, .ref z8, .ref z9, .ref z10, .int 0, .ref z11, .int 0, .ref z30, .ref z31, .ref z32, .ref z33, .int 0, .ref z12, .int 0, .int 0, .ref z34, .ref z35, .ref z36, .ref z37, .int 0, .int 0, .int 0, .int 0, .ref z38, .int 0, .ref z39, .ref z40, .ref z41, .ref z42, .int 0, .ref z13, .ref z14, .ref z15, .ref z16, .int 0, .ref z17, .ref z18, .ref z43])), (z15, .inl (G.2.1, 25, .inr (.inl tIdn)))] H := hP
        have hD : va_D A [(z16, .inl (G.2.1, 51200, .inr (.inl le))), (h0, .inr (12, [.ref z0, .ref z1, .ref z2, .ref z3, .ref z4, .ref z5, .ref z20, .ref z21, .ref z22, .ref z23, .ref z24, .ref z25, .int 0, .ref z26, .ref z27, .ref z28, .int 9, .int 0, .int 0, .ref z6, .ref z29, .ref z7, .int 0, .int 2, .ref z19, .ref z8, .ref z9, .ref z10, .int 0, .ref z11, .int 0, .ref z30, .ref z31, .ref z32, .ref z33, .int 0, .ref z12, .int 0, .int 0, .ref z34, .ref z35, .ref z36, .ref z37, .int 0, .int 0, .int 0, .int 0, .ref z38, .int 0, .ref z39, .ref z40, .ref z41, .ref z42, .int 0, .ref z13, .ref z14, .ref z15, .ref z16, .int 0, .ref z17, .ref z18, .ref z43])), (z15, .inl (G.2.1, 25, .inr (.inl tIdn)))] := hD
        refine lv_iload_n hx hb dX12_findEnds_37 rfl (lv_at hl 1 rfl) ?_
        refine lv_iconst (v := 1) hx hb dX12_findEnds_38 (by decide) ?_
        refine lv_isub hx hb dX12_findEnds_39 ?_
        refine wk_i 1 (by decide) ?_
        refine lv_istore (lv' := [(5, .int 1), (4, .int (nI x)), (3, .int 2), (1, .long 714288), (0, .ref h0)]) hx hb dX12_findEnds_40 hl (by decide) rfl (fun ls hl => ?_)
        refine lv_iload hx hb dX12_findEnds_42 (lv_at hl 0 rfl) ?_
        refine lv_if_lt (tgt := 71) hx hb dX12_findEnds_44 (by decide) (fun h9 => absurd h9 (by decide)) (fun _ => ?_)
        refine lv_aload_n hx hb dX12_findEnds_47 rfl (lv_at hl 4 rfl) ?_
        refine va_get (D := D) (ci := 12) (v := .ref z15) (C := RX12) (T := TX12) (N := 62) hx hb hts iX12_findEnds_X12 hown hK hP 1 rfl rfl 56 (by decide) (hts (.fieldLink RX12 137 "PuppetBridgeModel" "made" "[J") mX12_findEnds_w1) (fun _ h9 => h9) rfl dX12_findEnds_48 ?_
        refine lv_aload_n hx hb dX12_findEnds_51 rfl (lv_at hl 4 rfl) ?_
        refine lv_iload hx hb dX12_findEnds_52 (lv_at hl 1 rfl) ?_
        refine lv_iload_n hx hb dX12_findEnds_54 rfl (lv_at hl 2 rfl) ?_
        refine lv_iload hx hb dX12_findEnds_55 (lv_at hl 0 rfl) ?_
        have hPc := hP.sub (ws' := [(h0, .inr (12, [.ref z0, .ref z1, .ref z2, .ref z3, .ref z4, .ref z5, .ref z20, .ref z21, .ref z22, .ref z23, .ref z24, .ref z25, .int 0, .ref z26, .ref z27, .ref z28, .int 9, .int 0, .int 0, .ref z6, .ref z29, .ref z7, .int 0, .int 2, .ref z19, .ref z8, .ref z9, .ref z10, .int 0, .ref z11, .int 0, .ref z30, .ref z31, .ref z32, .ref z33, .int 0, .ref z12, .int 0, .int 0, .ref z34, .ref z35, .ref z36, .ref z37, .int 0, .int 0, .int 0, .int 0, .ref z38, .int 0, .ref z39, .ref z40, .ref z41, .ref z42, .int 0, .ref z13, .ref z14, .ref z15, .ref z16, .int 0, .ref z17, .ref z18, .ref z43]))]) [1] rfl
        have hDc := hD.sub (ws' := [(h0, .inr (12, [.ref z0, .ref z1, .ref z2, .ref z3, .ref z4, .ref z5, .ref z20, .ref z21, .ref z22, .ref z23, .ref z24, .ref z25, .int 0, .ref z26, .ref z27, .ref z28, .int 9, .int 0, .int 0, .ref z6, .ref z29, .ref z7, .int 0, .int 2, .ref z19, .ref z8, .ref z9, .ref z10, .int 0, .ref z11, .int 0, .ref z30, .ref z31, .ref z32, .ref z33, .int 0, .ref z12, .int 0, .int 0, .ref z34, .ref z35, .ref z36, .ref z37, .int 0, .int 0, .int 0, .int 0, .ref z38, .int 0, .ref z39, .ref z40, .ref z41, .ref z42, .int 0, .ref z13, .ref z14, .ref z15, .ref z16, .int 0, .ref z17, .ref z18, .ref z43]))]) [1] (by decide) rfl
        have hFc := va_free (wc := [(h0, .inr (12, [.ref z0, .ref z1, .ref z2, .ref z3, .ref z4, .ref z5, .ref z20, .ref z21, .ref z22, .ref z23, .ref z24, .ref z25, .int 0, .ref z26, .ref z27, .ref z28, .int 9, .int 0, .int 0, .ref z6, .ref z29, .ref z7, .int 0, .int 2, .ref z19, .ref z8, .ref z9, .ref z10, .int 0, .ref z11, .int 0, .ref z30, .ref z31, .ref z32, .ref z33, .int 0, .ref z12, .int 0, .int 0, .ref z34, .ref z35, .ref z36, .ref z37, .int 0, .int 0, .int 0, .int 0, .ref z38, .int 0, .ref z39, .ref z40, .ref z41, .ref z42, .int 0, .ref z13, .ref z14, .ref z15, .ref z16, .int 0, .ref z17, .ref z18, .ref z43]))]) hD hS hA [1] rfl
        refine va_calli (va_runV (As := [.int (nI x), .int 2, .int 1]) (rest := [.ref z15]) ⟨hx, hb, hml, hown, hts⟩ (kX12_passAt_s21 l D G h0 (nI x) z0 z1 z2 z3 z4 z5 z20 z21 z22 z23 z24 z25 z26 z27 z28 z6 z29 z7 z19 z8 z9 z10 z11 z30 z31 z32 z33 z12 z34 z35 z36 z37 z38 z39 z40 z41 z42 z13 z14 z15 z16 z17 z18 z43 H.size) (cwV 3 hts gX12_findEnds_X12_passAt rfl rfl rfl (by decide +kernel) ⟨Nat.le_of_ble_eq_true rfl, Nat.le_of_ble_eq_true rfl⟩) ⟨wB_blind, va_recv hK hPc (ci := 12) (q0 := 0) rfl rfl, wB_pre hPc hK hDc hN⟩ rfl rfl hl.1 rfl (lv_room (Nat.le_of_ble_eq_true rfl)) dX12_findEnds_57 ⟨Nat.le_of_ble_eq_true rfl, Nat.le_of_ble_eq_true rfl⟩) hS (fun q _ h => hFc q h) hFc (fun r33 u t H1 locs ht hvm hr33 hB hz1 hk1 hS => ?_)
        obtain ⟨hP1, hK1, hD1⟩ := hB
        rw [ht] at hP1
        obtain ⟨hP, hD⟩ := va_join (wr := [(z16, .inl (G.2.1, 51200, .inr (.inl le))), (z15, .inl (G.2.1, 25, .inr (.inl tIdn)))]) (w1 := [(h0, .inr (12, [.ref z0, .ref z1, .ref z2, .ref z3, .ref z4, .ref z5, .ref z20, .ref z21, .ref z22, .ref z23, .ref z24, .ref z25, .int 0, .ref z26, .ref z27, .ref z28, .int 9, .int 0, .int 0, .ref z6, .ref z29, .ref z7, .int 0, .int 2, .ref z19, .ref z8, .ref z9, .ref z10, .int 0, .ref z11, .int 0, .ref z30, .ref z31, .ref z32, .ref z33, .int 0, .ref z12, .int 0, .int 0, .ref z34, .ref z35, .ref z36, .ref z37, .int 0, .int 0, .int 0, .int 0, .ref z38, .int 0, .ref z39, .ref z40, .ref z41, .ref z42, .int 0, .ref z13, .ref z14, .ref z15, .ref z16, .int 0, .ref z17, .ref z18, .ref z43]))]) hP hD [1] [0, 2] rfl rfl (by decide) (by decide) hk1 hFc hP1 hD1
        clear hPc hDc
        generalize H1 = H at hP hS ⊢
        have hP : va_P D vwCl [(z16, .inl (G.2.1, 51200, .inr (.inl le))), (z15, .inl (G.2.1, 25, .inr (.inl tIdn))), (h0, .inr (12, [.ref z0, .ref z1, .ref z2, .ref z3, .ref z4, .ref z5, .ref z20, .ref z21, .ref z22, .ref z23, .ref z24, .ref z25, .int 0, .ref z26, .ref z27, .ref z28, .int 9, .int 0, .int 0, .ref z6, .ref z29, .ref z7, .int 0, .int 2, .ref z19, .ref z8, .ref z9, .ref z10, .int 0, .ref z11, .int 0, .ref z30, .ref z31, .ref z32, .ref z33, .int 0, .ref z12, .int 0, .int 0, .ref z34, .ref z35, .ref z36, .ref z37, .int 0, .int 0, .int 0, .int 0, .ref z38, .int 0, .ref z39, .ref z40, .ref z41, .ref z42, .int 0, .ref z13, .ref z14, .ref z15, .ref z16, .int 0, .ref z17, .ref z18, .ref z43]))] H := hP
        have hD : va_D A [(z16, .inl (G.2.1, 51200, .inr (.inl le))), (z15, .inl (G.2.1, 25, .inr (.inl tIdn))), (h0, .inr (12, [.ref z0, .ref z1, .ref z2, .ref z3, .ref z4, .ref z5, .ref z20, .ref z21, .ref z22, .ref z23, .ref z24, .ref z25, .int 0, .ref z26, .ref z27, .ref z28, .int 9, .int 0, .int 0, .ref z6, .ref z29, .ref z7, .int 0, .int 2, .ref z19, .ref z8, .ref z9, .ref z10, .int 0, .ref z11, .int 0, .ref z30, .ref z31, .ref z32, .ref z33, .int 0, .ref z12, .int 0, .int 0, .ref z34, .ref z35, .ref z36, .ref z37, .int 0, .int 0, .int 0, .int 0, .ref z38, .int 0, .ref z39, .ref z40, .ref z41, .ref z42, .int 0, .ref z13, .ref z14, .ref z15, .ref z16, .int 0, .ref z17, .ref z18, .ref z43]))] := hD
        refine lv_ineg hx hb dX12_findEnds_60 ?_
        refine lv_topi (fun v34 ev34 => ?_)
        refine lv_lload_n hx hb dX12_findEnds_61 rfl (lv_at hl 3 rfl) ?_
        have hPc := hP.sub (ws' := [(z15, .inl (G.2.1, 25, .inr (.inl tIdn)))]) [1] rfl
        have hDc := hD.sub (ws' := [(z15, .inl (G.2.1, 25, .inr (.inl tIdn)))]) [1] (by decide) rfl
        have hFc := va_free (wc := [(z15, .inl (G.2.1, 25, .inr (.inl tIdn)))]) hD hS hA [1] rfl
        refine va_callv (va_runS (As := [.ref z15, .int v34, .long 714288]) (rest := []) ⟨hx, hb, hml, hown, hts⟩ (kX12_times_s l D G z15 v34 tIdn (wk_neg1 hr33 ev34) H.size) (va_cwS 3 hts gX12_findEnds_X12_times rfl rfl rfl (by decide +kernel) ⟨Nat.le_of_ble_eq_true rfl, Nat.le_of_ble_eq_true rfl⟩) ⟨wB_blind, wB_pre hPc hK hDc hN⟩ rfl rfl hl.1 rfl (lv_room (Nat.le_of_ble_eq_true rfl)) dX12_findEnds_62 ⟨Nat.le_of_ble_eq_true rfl, Nat.le_of_ble_eq_true rfl⟩) hS (fun q _ h => hFc q h) hFc (fun u t H1 locs ht hvm hr35 hB hz1 hk1 hS => ?_)
        obtain ⟨f36, hP1, hK1, hD1⟩ := hB
        rw [ht] at hP1
        obtain ⟨hP, hD⟩ := va_join (wr := [(z16, .inl (G.2.1, 51200, .inr (.inl le))), (h0, .inr (12, [.ref z0, .ref z1, .ref z2, .ref z3, .ref z4, .ref z5, .ref z20, .ref z21, .ref z22, .ref z23, .ref z24, .ref z25, .int 0, .ref z26, .ref z27, .ref z28, .int 9, .int 0, .int 0, .ref z6, .ref z29, .ref z7, .int 0, .int 2, .ref z19, .ref z8, .ref z9, .ref z10, .int 0, .ref z11, .int 0, .ref z30, .ref z31, .ref z32, .ref z33, .int 0, .ref z12, .int 0, .int 0, .ref z34, .ref z35, .ref z36, .ref z37, .int 0, .int 0, .int 0, .int 0, .ref z38, .int 0, .ref z39, .ref z40, .ref z41, .ref z42, .int 0, .ref z13, .ref z14, .ref z15, .ref z16, .int 0, .ref z17, .ref z18, .ref z43]))]) (w1 := [(z15, .inl (G.2.1, 25, .inr (.inl f36)))]) hP hD [1] [0, 2] rfl rfl (by decide) (by decide) hk1 hFc hP1 hD1
        clear hPc hDc
        generalize H1 = H at hP hS ⊢
        have hP : va_P D vwCl [(z16, .inl (G.2.1, 51200, .inr (.inl le))), (h0, .inr (12, [.ref z0, .ref z1, .ref z2, .ref z3, .ref z4, .ref z5, .ref z20, .ref z21, .ref z22, .ref z23, .ref z24, .ref z25, .int 0, .ref z26, .ref z27, .ref z28, .int 9, .int 0, .int 0, .ref z6, .ref z29, .ref z7, .int 0, .int 2, .ref z19, .ref z8, .ref z9, .ref z10, .int 0, .ref z11, .int 0, .ref z30, .ref z31, .ref z32, .ref z33, .int 0, .ref z12, .int 0, .int 0, .ref z34, .ref z35, .ref z36, .ref z37, .int 0, .int 0, .int 0, .int 0, .ref z38, .int 0, .ref z39, .ref z40, .ref z41, .ref z42, .int 0, .ref z13, .ref z14, .ref z15, .ref z16, .int 0, .ref z17, .ref z18, .ref z43])), (z15, .inl (G.2.1, 25, .inr (.inl f36)))] H := hP
        have hD : va_D A [(z16, .inl (G.2.1, 51200, .inr (.inl le))), (h0, .inr (12, [.ref z0, .ref z1, .ref z2, .ref z3, .ref z4, .ref z5, .ref z20, .ref z21, .ref z22, .ref z23, .ref z24, .ref z25, .int 0, .ref z26, .ref z27, .ref z28, .int 9, .int 0, .int 0, .ref z6, .ref z29, .ref z7, .int 0, .int 2, .ref z19, .ref z8, .ref z9, .ref z10, .int 0, .ref z11, .int 0, .ref z30, .ref z31, .ref z32, .ref z33, .int 0, .ref z12, .int 0, .int 0, .ref z34, .ref z35, .ref z36, .ref z37, .int 0, .int 0, .int 0, .int 0, .ref z38, .int 0, .ref z39, .ref z40, .ref z41, .ref z42, .int 0, .ref z13, .ref z14, .ref z15, .ref z16, .int 0, .ref z17, .ref z18, .ref z43])), (z15, .inl (G.2.1, 25, .inr (.inl f36)))] := hD
        refine lv_iinc (v := 0) (lv' := [(5, .int 0), (4, .int (nI x)), (3, .int 2), (1, .long 714288), (0, .ref h0)]) hx hb dX12_findEnds_65 hl (k := 0) rfl (by decide) (by decide) rfl (fun ls hl => ?_)
        refine lv_goto (tgt := 42) hx hb dX12_findEnds_68 (by decide) ?_
        refine lv_iload hx hb dX12_findEnds_42 (lv_at hl 0 rfl) ?_
        refine lv_if_lt (tgt := 71) hx hb dX12_findEnds_44 (by decide) (fun h9 => absurd h9 (by decide)) (fun _ => ?_)
        refine lv_aload_n hx hb dX12_findEnds_47 rfl (lv_at hl 4 rfl) ?_
        refine va_get (D := D) (ci := 12) (v := .ref z15) (C := RX12) (T := TX12) (N := 62) hx hb hts iX12_findEnds_X12 hown hK hP 1 rfl rfl 56 (by decide) (hts (.fieldLink RX12 137 "PuppetBridgeModel" "made" "[J") mX12_findEnds_w1) (fun _ h9 => h9) rfl dX12_findEnds_48 ?_
        refine lv_aload_n hx hb dX12_findEnds_51 rfl (lv_at hl 4 rfl) ?_
        refine lv_iload hx hb dX12_findEnds_52 (lv_at hl 1 rfl) ?_
        refine lv_iload_n hx hb dX12_findEnds_54 rfl (lv_at hl 2 rfl) ?_
        refine lv_iload hx hb dX12_findEnds_55 (lv_at hl 0 rfl) ?_
        have hPc := hP.sub (ws' := [(h0, .inr (12, [.ref z0, .ref z1, .ref z2, .ref z3, .ref z4, .ref z5, .ref z20, .ref z21, .ref z22, .ref z23, .ref z24, .ref z25, .int 0, .ref z26, .ref z27, .ref z28, .int 9, .int 0, .int 0, .ref z6, .ref z29, .ref z7, .int 0, .int 2, .ref z19, .ref z8, .ref z9, .ref z10, .int 0, .ref z11, .int 0, .ref z30, .ref z31, .ref z32, .ref z33, .int 0, .ref z12, .int 0, .int 0, .ref z34, .ref z35, .ref z36, .ref z37, .int 0, .int 0, .int 0, .int 0, .ref z38, .int 0, .ref z39, .ref z40, .ref z41, .ref z42, .int 0, .ref z13, .ref z14, .ref z15, .ref z16, .int 0, .ref z17, .ref z18, .ref z43]))]) [1] rfl
        have hDc := hD.sub (ws' := [(h0, .inr (12, [.ref z0, .ref z1, .ref z2, .ref z3, .ref z4, .ref z5, .ref z20, .ref z21, .ref z22, .ref z23, .ref z24, .ref z25, .int 0, .ref z26, .ref z27, .ref z28, .int 9, .int 0, .int 0, .ref z6, .ref z29, .ref z7, .int 0, .int 2, .ref z19, .ref z8, .ref z9, .ref z10, .int 0, .ref z11, .int 0, .ref z30, .ref z31, .ref z32, .ref z33, .int 0, .ref z12, .int 0, .int 0, .ref z34, .ref z35, .ref z36, .ref z37, .int 0, .int 0, .int 0, .int 0, .ref z38, .int 0, .ref z39, .ref z40, .ref z41, .ref z42, .int 0, .ref z13, .ref z14, .ref z15, .ref z16, .int 0, .ref z17, .ref z18, .ref z43]))]) [1] (by decide) rfl
        have hFc := va_free (wc := [(h0, .inr (12, [.ref z0, .ref z1, .ref z2, .ref z3, .ref z4, .ref z5, .ref z20, .ref z21, .ref z22, .ref z23, .ref z24, .ref z25, .int 0, .ref z26, .ref z27, .ref z28, .int 9, .int 0, .int 0, .ref z6, .ref z29, .ref z7, .int 0, .int 2, .ref z19, .ref z8, .ref z9, .ref z10, .int 0, .ref z11, .int 0, .ref z30, .ref z31, .ref z32, .ref z33, .int 0, .ref z12, .int 0, .int 0, .ref z34, .ref z35, .ref z36, .ref z37, .int 0, .int 0, .int 0, .int 0, .ref z38, .int 0, .ref z39, .ref z40, .ref z41, .ref z42, .int 0, .ref z13, .ref z14, .ref z15, .ref z16, .int 0, .ref z17, .ref z18, .ref z43]))]) hD hS hA [1] rfl
        refine va_calli (va_runV (As := [.int (nI x), .int 2, .int 0]) (rest := [.ref z15]) ⟨hx, hb, hml, hown, hts⟩ (kX12_passAt_s20 l D G h0 (nI x) z0 z1 z2 z3 z4 z5 z20 z21 z22 z23 z24 z25 z26 z27 z28 z6 z29 z7 z19 z8 z9 z10 z11 z30 z31 z32 z33 z12 z34 z35 z36 z37 z38 z39 z40 z41 z42 z13 z14 z15 z16 z17 z18 z43 H.size) (cwV 3 hts gX12_findEnds_X12_passAt rfl rfl rfl (by decide +kernel) ⟨Nat.le_of_ble_eq_true rfl, Nat.le_of_ble_eq_true rfl⟩) ⟨wB_blind, va_recv hK hPc (ci := 12) (q0 := 0) rfl rfl, wB_pre hPc hK hDc hN⟩ rfl rfl hl.1 rfl (lv_room (Nat.le_of_ble_eq_true rfl)) dX12_findEnds_57 ⟨Nat.le_of_ble_eq_true rfl, Nat.le_of_ble_eq_true rfl⟩) hS (fun q _ h => hFc q h) hFc (fun r37 u t H1 locs ht hvm hr37 hB hz1 hk1 hS => ?_)
        obtain ⟨hP1, hK1, hD1⟩ := hB
        rw [ht] at hP1
        obtain ⟨hP, hD⟩ := va_join (wr := [(z16, .inl (G.2.1, 51200, .inr (.inl le))), (z15, .inl (G.2.1, 25, .inr (.inl f36)))]) (w1 := [(h0, .inr (12, [.ref z0, .ref z1, .ref z2, .ref z3, .ref z4, .ref z5, .ref z20, .ref z21, .ref z22, .ref z23, .ref z24, .ref z25, .int 0, .ref z26, .ref z27, .ref z28, .int 9, .int 0, .int 0, .ref z6, .ref z29, .ref z7, .int 0, .int 2, .ref z19, .ref z8, .ref z9, .ref z10, .int 0, .ref z11, .int 0, .ref z30, .ref z31, .ref z32, .ref z33, .int 0, .ref z12, .int 0, .int 0, .ref z34, .ref z35, .ref z36, .ref z37, .int 0, .int 0, .int 0, .int 0, .ref z38, .int 0, .ref z39, .ref z40, .ref z41, .ref z42, .int 0, .ref z13, .ref z14, .ref z15, .ref z16, .int 0, .ref z17, .ref z18, .ref z43]))]) hP hD [1] [0, 2] rfl rfl (by decide) (by decide) hk1 hFc hP1 hD1
        clear hPc hDc
        generalize H1 = H at hP hS ⊢
        have hP : va_P D vwCl [(z16, .inl (G.2.1, 51200, .inr (.inl le))), (z15, .inl (G.2.1, 25, .inr (.inl f36))), (h0, .inr (12, [.ref z0, .ref z1, .ref z2, .ref z3, .ref z4, .ref z5, .ref z20, .ref z21, .ref z22, .ref z23, .ref z24, .ref z25, .int 0, .ref z26, .ref z27, .ref z28, .int 9, .int 0, .int 0, .ref z6, .ref z29, .ref z7, .int 0, .int 2, .ref z19, .ref z8, .ref z9, .ref z10, .int 0, .ref z11, .int 0, .ref z30, .ref z31, .ref z32, .ref z33, .int 0, .ref z12, .int 0, .int 0, .ref z34, .ref z35, .ref z36, .ref z37, .int 0, .int 0, .int 0, .int 0, .ref z38, .int 0, .ref z39, .ref z40, .ref z41, .ref z42, .int 0, .ref z13, .ref z14, .ref z15, .ref z16, .int 0, .ref z17, .ref z18, .ref z43]))] H := hP
        have hD : va_D A [(z16, .inl (G.2.1, 51200, .inr (.inl le))), (z15, .inl (G.2.1, 25, .inr (.inl f36))), (h0, .inr (12, [.ref z0, .ref z1, .ref z2, .ref z3, .ref z4, .ref z5, .ref z20, .ref z21, .ref z22, .ref z23, .ref z24, .ref z25, .int 0, .ref z26, .ref z27, .ref z28, .int 9, .int 0, .int 0, .ref z6, .ref z29, .ref z7, .int 0, .int 2, .ref z19, .ref z8, .ref z9, .ref z10, .int 0, .ref z11, .int 0, .ref z30, .ref z31, .ref z32, .ref z33, .int 0, .ref z12, .int 0, .int 0, .ref z34, .ref z35, .ref z36, .ref z37, .int 0, .int 0, .int 0, .int 0, .ref z38, .int 0, .ref z39, .ref z40, .ref z41, .ref z42, .int 0, .ref z13, .ref z14, .ref z15, .ref z16, .int 0, .ref z17, .ref z18, .ref z43]))] := hD
        refine lv_ineg hx hb dX12_findEnds_60 ?_
        refine lv_topi (fun v38 ev38 => ?_)
        refine lv_lload_n hx hb dX12_findEnds_61 rfl (lv_at hl 3 rfl) ?_
        have hPc := hP.sub (ws' := [(z15, .inl (G.2.1, 25, .inr (.inl f36)))]) [1] rfl
        have hDc := hD.sub (ws' := [(z15, .inl (G.2.1, 25, .inr (.inl f36)))]) [1] (by decide) rfl
        have hFc := va_free (wc := [(z15, .inl (G.2.1, 25, .inr (.inl f36)))]) hD hS hA [1] rfl
        refine va_callv (va_runS (As := [.ref z15, .int v38, .long 714288]) (rest := []) ⟨hx, hb, hml, hown, hts⟩ (kX12_times_s l D G z15 v38 f36 (wk_neg1 hr37 ev38) H.size) (va_cwS 3 hts gX12_findEnds_X12_times rfl rfl rfl (by decide +kernel) ⟨Nat.le_of_ble_eq_true rfl, Nat.le_of_ble_eq_true rfl⟩) ⟨wB_blind, wB_pre hPc hK hDc hN⟩ rfl rfl hl.1 rfl (lv_room (Nat.le_of_ble_eq_true rfl)) dX12_findEnds_62 ⟨Nat.le_of_ble_eq_true rfl, Nat.le_of_ble_eq_true rfl⟩) hS (fun q _ h => hFc q h) hFc (fun u t H1 locs ht hvm hr39 hB hz1 hk1 hS => ?_)
        obtain ⟨f40, hP1, hK1, hD1⟩ := hB
        rw [ht] at hP1
        obtain ⟨hP, hD⟩ := va_join (wr := [(z16, .inl (G.2.1, 51200, .inr (.inl le))), (h0, .inr (12, [.ref z0, .ref z1, .ref z2, .ref z3, .ref z4, .ref z5, .ref z20, .ref z21, .ref z22, .ref z23, .ref z24, .ref z25, .int 0, .ref z26, .ref z27, .ref z28, .int 9, .int 0, .int 0, .ref z6, .ref z29, .ref z7, .int 0, .int 2, .ref z19, .ref z8, .ref z9, .ref z10, .int 0, .ref z11, .int 0, .ref z30, .ref z31, .ref z32, .ref z33, .int 0, .ref z12, .int 0, .int 0, .ref z34, .ref z35, .ref z36, .ref z37, .int 0, .int 0, .int 0, .int 0, .ref z38, .int 0, .ref z39, .ref z40, .ref z41, .ref z42, .int 0, .ref z13, .ref z14, .ref z15, .ref z16, .int 0, .ref z17, .ref z18, .ref z43]))]) (w1 := [(z15, .inl (G.2.1, 25, .inr (.inl f40)))]) hP hD [1] [0, 2] rfl rfl (by decide) (by decide) hk1 hFc hP1 hD1
        clear hPc hDc
        generalize H1 = H at hP hS ⊢
        have hP : va_P D vwCl [(z16, .inl (G.2.1, 51200, .inr (.inl le))), (h0, .inr (12, [.ref z0, .ref z1, .ref z2, .ref z3, .ref z4, .ref z5, .ref z20, .ref z21, .ref z22, .ref z23, .ref z24, .ref z25, .int 0, .ref z26, .ref z27, .ref z28, .int 9, .int 0, .int 0, .ref z6, .ref z29, .ref z7, .int 0, .int 2, .ref z19, .ref z8, .ref z9, .ref z10, .int 0, .ref z11, .int 0, .ref z30, .ref z31, .ref z32, .ref z33, .int 0, .ref z12, .int 0, .int 0, .ref z34, .ref z35, .ref z36, .ref z37, .int 0, .int 0, .int 0, .int 0, .ref z38, .int 0, .ref z39, .ref z40, .ref z41, .ref z42, .int 0, .ref z13, .ref z14, .ref z15, .ref z16, .int 0, .ref z17, .ref z18, .ref z43])), (z15, .inl (G.2.1, 25, .inr (.inl f40)))] H := hP
        have hD : va_D A [(z16, .inl (G.2.1, 51200, .inr (.inl le))), (h0, .inr (12, [.ref z0, .ref z1, .ref z2, .ref z3, .ref z4, .ref z5, .ref z20, .ref z21, .ref z22, .ref z23, .ref z24, .ref z25, .int 0, .ref z26, .ref z27, .ref z28, .int 9, .int 0, .int 0, .ref z6, .ref z29, .ref z7, .int 0, .int 2, .ref z19, .ref z8, .ref z9, .ref z10, .int 0, .ref z11, .int 0, .ref z30, .ref z31, .ref z32, .ref z33, .int 0, .ref z12, .int 0, .int 0, .ref z34, .ref z35, .ref z36, .ref z37, .int 0, .int 0, .int 0, .int 0, .ref z38, .int 0, .ref z39, .ref z40, .ref z41, .ref z42, .int 0, .ref z13, .ref z14, .ref z15, .ref z16, .int 0, .ref z17, .ref z18, .ref z43])), (z15, .inl (G.2.1, 25, .inr (.inl f40)))] := hD
        refine lv_iinc (v := (-1)) (lv' := [(5, .int (-1)), (4, .int (nI x)), (3, .int 2), (1, .long 714288), (0, .ref h0)]) hx hb dX12_findEnds_65 hl (k := 0) rfl (by decide) (by decide) rfl (fun ls hl => ?_)
        refine lv_goto (tgt := 42) hx hb dX12_findEnds_68 (by decide) ?_
        refine lv_iload hx hb dX12_findEnds_42 (lv_at hl 0 rfl) ?_
        refine lv_if_lt (tgt := 71) hx hb dX12_findEnds_44 (by decide) (fun _ => ?_) (fun h9 => absurd h9 (by decide))
        refine lv_iconst (v := 0) hx hb dX12_findEnds_71 (by decide) ?_
        refine lv_istore (lv' := [(5, .int 0), (4, .int (nI x)), (3, .int 2), (1, .long 714288), (0, .ref h0)]) hx hb dX12_findEnds_72 hl (by decide) rfl (fun ls hl => ?_)
        obtain ⟨i, hi⟩ : ∃ i : Nat, i = 0 := ⟨0, rfl⟩
        obtain ⟨lf, hlf⟩ : ∃ f : Nat → Int64, f = le := ⟨_, rfl⟩
        have hfa : ∀ j : Nat, j < 25 → lf j = tIdn j := by rw [hlf]; exact fun j hj => hfa j (by omega)
        have hP : va_P D vwCl [(z16, .inl (G.2.1, 51200, .inr (.inl lf))), (h0, .inr (12, [.ref z0, .ref z1, .ref z2, .ref z3, .ref z4, .ref z5, .ref z20, .ref z21, .ref z22, .ref z23, .ref z24, .ref z25, .int 0, .ref z26, .ref z27, .ref z28, .int 9, .int 0, .int 0, .ref z6, .ref z29, .ref z7, .int 0, .int 2, .ref z19, .ref z8, .ref z9, .ref z10, .int 0, .ref z11, .int 0, .ref z30, .ref z31, .ref z32, .ref z33, .int 0, .ref z12, .int 0, .int 0, .ref z34, .ref z35, .ref z36, .ref z37, .int 0, .int 0, .int 0, .int 0, .ref z38, .int 0, .ref z39, .ref z40, .ref z41, .ref z42, .int 0, .ref z13, .ref z14, .ref z15, .ref z16, .int 0, .ref z17, .ref z18, .ref z43])), (z15, .inl (G.2.1, 25, .inr (.inl f40)))] H := by rw [hlf]; exact hP
        have hD : va_D A [(z16, .inl (G.2.1, 51200, .inr (.inl lf))), (h0, .inr (12, [.ref z0, .ref z1, .ref z2, .ref z3, .ref z4, .ref z5, .ref z20, .ref z21, .ref z22, .ref z23, .ref z24, .ref z25, .int 0, .ref z26, .ref z27, .ref z28, .int 9, .int 0, .int 0, .ref z6, .ref z29, .ref z7, .int 0, .int 2, .ref z19, .ref z8, .ref z9, .ref z10, .int 0, .ref z11, .int 0, .ref z30, .ref z31, .ref z32, .ref z33, .int 0, .ref z12, .int 0, .int 0, .ref z34, .ref z35, .ref z36, .ref z37, .int 0, .int 0, .int 0, .int 0, .ref z38, .int 0, .ref z39, .ref z40, .ref z41, .ref z42, .int 0, .ref z13, .ref z14, .ref z15, .ref z16, .int 0, .ref z17, .ref z18, .ref z43])), (z15, .inl (G.2.1, 25, .inr (.inl f40)))] := by rw [hlf]; exact hD
        have hl : lv_has ls 6 [(5, .int (nI i)), (4, .int (nI x)), (3, .int 2), (1, .long 714288), (0, .ref h0)] := by rw [hi]; exact hl
        obtain ⟨d, hd⟩ : ∃ d : Nat, i + d = 25 := ⟨25, by omega⟩
        clear hi hlf
        generalize H = H at hP hS ⊢
        generalize locs = locs at hS ⊢
        generalize ls = ls at hl ⊢
        induction d generalizing i lf H locs ls with
        | zero =>
          refine lv_iload hx hb dX12_findEnds_74 (lv_at hl 0 rfl) ?_
          refine lv_bipush (v := 25) hx hb dX12_findEnds_76 (by decide) ?_
          refine lv_icmp_ge (tgt := 113) hx hb dX12_findEnds_78 (by decide) (fun _ => ?_) (fun h9 => absurd (by rw [show i = 25 by omega]; decide) h9)
          obtain ⟨v41, ev41⟩ : ∃ y : Int32, y = (nI x) + 1 := ⟨_, rfl⟩
          refine lv_iinc (v := v41) (lv' := [(4, .int v41), (5, .int (nI i)), (3, .int 2), (1, .long 714288), (0, .ref h0)]) hx hb dX12_findEnds_113 hl (k := 1) rfl (by rw [ev41]; rfl) (by decide) rfl (fun ls hl => ?_)
          refine lv_goto (tgt := 17) hx hb dX12_findEnds_116 (by decide) ?_
          have hP := hP.sub (ws' := [(z16, .inl (G.2.1, 51200, .inr (.inl lf))), (z15, .inl (G.2.1, 25, .inr (.inl f40))), (h0, .inr (12, [.ref z0, .ref z1, .ref z2, .ref z3, .ref z4, .ref z5, .ref z20, .ref z21, .ref z22, .ref z23, .ref z24, .ref z25, .int 0, .ref z26, .ref z27, .ref z28, .int 9, .int 0, .int 0, .ref z6, .ref z29, .ref z7, .int 0, .int 2, .ref z19, .ref z8, .ref z9, .ref z10, .int 0, .ref z11, .int 0, .ref z30, .ref z31, .ref z32, .ref z33, .int 0, .ref z12, .int 0, .int 0, .ref z34, .ref z35, .ref z36, .ref z37, .int 0, .int 0, .int 0, .int 0, .ref z38, .int 0, .ref z39, .ref z40, .ref z41, .ref z42, .int 0, .ref z13, .ref z14, .ref z15, .ref z16, .int 0, .ref z17, .ref z18, .ref z43]))]) [0, 2, 1] rfl
          have hD := hD.sub (ws' := [(z16, .inl (G.2.1, 51200, .inr (.inl lf))), (z15, .inl (G.2.1, 25, .inr (.inl f40))), (h0, .inr (12, [.ref z0, .ref z1, .ref z2, .ref z3, .ref z4, .ref z5, .ref z20, .ref z21, .ref z22, .ref z23, .ref z24, .ref z25, .int 0, .ref z26, .ref z27, .ref z28, .int 9, .int 0, .int 0, .ref z6, .ref z29, .ref z7, .int 0, .int 2, .ref z19, .ref z8, .ref z9, .ref z10, .int 0, .ref z11, .int 0, .ref z30, .ref z31, .ref z32, .ref z33, .int 0, .ref z12, .int 0, .int 0, .ref z34, .ref z35, .ref z36, .ref z37, .int 0, .int 0, .int 0, .int 0, .ref z38, .int 0, .ref z39, .ref z40, .ref z41, .ref z42, .int 0, .ref z13, .ref z14, .ref z15, .ref z16, .int 0, .ref z17, .ref z18, .ref z43]))]) [0, 2, 1] (by decide) rfl
          exact ihx (x := x + 1) (hP := hP) (hD := hD) (hS := hS) (hl := by rw [← nI_1, ← ev41]; exact lv_sub hl [0, 2, 3, 4] rfl) (hdx := by omega) (hfa := by exact fun j hj => hfa j (by omega))
        | succ d ih =>
          refine lv_iload hx hb dX12_findEnds_74 (lv_at hl 0 rfl) ?_
          refine lv_bipush (v := 25) hx hb dX12_findEnds_76 (by decide) ?_
          refine lv_icmp_ge (tgt := 113) hx hb dX12_findEnds_78 (by decide) (fun h9 => absurd h9 (by rw [show (25 : Int32) = nI 25 from rfl]; exact nI_ge (by omega) (by omega))) (fun _ => ?_)
          refine lv_aload_n hx hb dX12_findEnds_81 rfl (lv_at hl 4 rfl) ?_
          refine va_get (D := D) (ci := 12) (v := .ref z16) (C := RX12) (T := TX12) (N := 62) hx hb hts iX12_findEnds_X12 hown hK hP 1 rfl rfl 57 (by decide) (hts (.fieldLink RX12 141 "PuppetBridgeModel" "endMarks" "[J") mX12_findEnds_w2) (fun _ h9 => h9) rfl dX12_findEnds_82 ?_
          refine lv_sipush (v := 512) hx hb dX12_findEnds_85 (by decide) ?_
          refine lv_iload_n hx hb dX12_findEnds_88 rfl (lv_at hl 2 rfl) ?_
          refine lv_imul hx hb dX12_findEnds_89 ?_
          refine wk_i 1024 (by decide) ?_
          refine lv_iload hx hb dX12_findEnds_90 (lv_at hl 1 rfl) ?_
          refine lv_iadd hx hb dX12_findEnds_92 ?_
          refine lv_topi (fun va eva => ?_)
          refine lv_bipush (v := 25) hx hb dX12_findEnds_93 (by decide) ?_
          refine lv_imul hx hb dX12_findEnds_95 ?_
          refine lv_topi (fun vb evb => ?_)
          refine lv_iload hx hb dX12_findEnds_96 (lv_at hl 0 rfl) ?_
          refine lv_iadd hx hb dX12_findEnds_98 ?_
          refine lv_topi (fun vix evix => ?_)
          refine lv_aload_n hx hb dX12_findEnds_99 rfl (lv_at hl 4 rfl) ?_
          refine va_get (D := D) (ci := 12) (v := .ref z15) (C := RX12) (T := TX12) (N := 62) hx hb hts iX12_findEnds_X12 hown hK hP 1 rfl rfl 56 (by decide) (hts (.fieldLink RX12 137 "PuppetBridgeModel" "made" "[J") mX12_findEnds_w1) (fun _ h9 => h9) rfl dX12_findEnds_100 ?_
          refine lv_iload hx hb dX12_findEnds_103 (lv_at hl 0 rfl) ?_
          refine va_lald hx hb hK hP 2 1 rfl rfl (vp_in_nI (by omega) (by omega)) dX12_findEnds_105 ?_
          refine lv_topl (fun wm ewm => ?_)
          refine va_last hx hb hK hP hD hS 0 1 rfl rfl (by have hv0 := wk_ix (c1 := 1024) (n1 := 1024) rfl eva evb evix; rw [hv0]; exact vp_in_nI (by omega) (by omega)) dX12_findEnds_106 (fun H locs hP hD hS => ?_)
          have hP : va_P D vwCl [(z16, .inl (G.2.1, 51200, .inr (.inl (vp_updL lf vix.toNatClampNeg wm)))), (h0, .inr (12, [.ref z0, .ref z1, .ref z2, .ref z3, .ref z4, .ref z5, .ref z20, .ref z21, .ref z22, .ref z23, .ref z24, .ref z25, .int 0, .ref z26, .ref z27, .ref z28, .int 9, .int 0, .int 0, .ref z6, .ref z29, .ref z7, .int 0, .int 2, .ref z19, .ref z8, .ref z9, .ref z10, .int 0, .ref z11, .int 0, .ref z30, .ref z31, .ref z32, .ref z33, .int 0, .ref z12, .int 0, .int 0, .ref z34, .ref z35, .ref z36, .ref z37, .int 0, .int 0, .int 0, .int 0, .ref z38, .int 0, .ref z39, .ref z40, .ref z41, .ref z42, .int 0, .ref z13, .ref z14, .ref z15, .ref z16, .int 0, .ref z17, .ref z18, .ref z43])), (z15, .inl (G.2.1, 25, .inr (.inl f40)))] H := hP
          have hD : va_D A [(z16, .inl (G.2.1, 51200, .inr (.inl (vp_updL lf vix.toNatClampNeg wm)))), (h0, .inr (12, [.ref z0, .ref z1, .ref z2, .ref z3, .ref z4, .ref z5, .ref z20, .ref z21, .ref z22, .ref z23, .ref z24, .ref z25, .int 0, .ref z26, .ref z27, .ref z28, .int 9, .int 0, .int 0, .ref z6, .ref z29, .ref z7, .int 0, .int 2, .ref z19, .ref z8, .ref z9, .ref z10, .int 0, .ref z11, .int 0, .ref z30, .ref z31, .ref z32, .ref z33, .int 0, .ref z12, .int 0, .int 0, .ref z34, .ref z35, .ref z36, .ref z37, .int 0, .int 0, .int 0, .int 0, .ref z38, .int 0, .ref z39, .ref z40, .ref z41, .ref z42, .int 0, .ref z13, .ref z14, .ref z15, .ref z16, .int 0, .ref z17, .ref z18, .ref z43])), (z15, .inl (G.2.1, 25, .inr (.inl f40)))] := hD
          obtain ⟨v42, ev42⟩ : ∃ y : Int32, y = (nI i) + 1 := ⟨_, rfl⟩
          refine lv_iinc (v := v42) (lv' := [(5, .int v42), (4, .int (nI x)), (3, .int 2), (1, .long 714288), (0, .ref h0)]) hx hb dX12_findEnds_107 hl (k := 0) rfl (by rw [ev42]; rfl) (by decide) rfl (fun ls hl => ?_)
          refine lv_goto (tgt := 74) hx hb dX12_findEnds_110 (by decide) ?_
          exact ih (i := i + 1) (hP := hP) (hD := hD) (hS := hS) (hl := by rw [← nI_1, ← ev42]; exact lv_sub hl [0, 1, 2, 3, 4] rfl) (hd := by omega) (hfa := by (have hv0 := wk_ix (c1 := 1024) (n1 := 1024) rfl eva evb evix; intro j hj; rw [hv0, nI_clamp (by omega), pk_uLn (by omega)]; exact hfa j hj))
    | succ dx ihx =>
      refine lv_iload hx hb dX12_findEnds_17 (lv_at hl 0 rfl) ?_
      refine lv_aload_n hx hb dX12_findEnds_19 rfl (lv_at hl 3 rfl) ?_
      have hPc := hP.sub (ws' := [(h0, .inr (12, [.ref z0, .ref z1, .ref z2, .ref z3, .ref z4, .ref z5, .ref z20, .ref z21, .ref z22, .ref z23, .ref z24, .ref z25, .int 0, .ref z26, .ref z27, .ref z28, .int 9, .int 0, .int 0, .ref z6, .ref z29, .ref z7, .int 0, .int 2, .ref z19, .ref z8, .ref z9, .ref z10, .int 0, .ref z11, .int 0, .ref z30, .ref z31, .ref z32, .ref z33, .int 0, .ref z12, .int 0, .int 0, .ref z34, .ref z35, .ref z36, .ref z37, .int 0, .int 0, .int 0, .int 0, .ref z38, .int 0, .ref z39, .ref z40, .ref z41, .ref z42, .int 0, .ref z13, .ref z14, .ref z15, .ref z16, .int 0, .ref z17, .ref z18, .ref z43]))]) [2] rfl
      have hDc := hD.sub (ws' := [(h0, .inr (12, [.ref z0, .ref z1, .ref z2, .ref z3, .ref z4, .ref z5, .ref z20, .ref z21, .ref z22, .ref z23, .ref z24, .ref z25, .int 0, .ref z26, .ref z27, .ref z28, .int 9, .int 0, .int 0, .ref z6, .ref z29, .ref z7, .int 0, .int 2, .ref z19, .ref z8, .ref z9, .ref z10, .int 0, .ref z11, .int 0, .ref z30, .ref z31, .ref z32, .ref z33, .int 0, .ref z12, .int 0, .int 0, .ref z34, .ref z35, .ref z36, .ref z37, .int 0, .int 0, .int 0, .int 0, .ref z38, .int 0, .ref z39, .ref z40, .ref z41, .ref z42, .int 0, .ref z13, .ref z14, .ref z15, .ref z16, .int 0, .ref z17, .ref z18, .ref z43]))]) [2] (by decide) rfl
      have hFc := va_free (wc := [(h0, .inr (12, [.ref z0, .ref z1, .ref z2, .ref z3, .ref z4, .ref z5, .ref z20, .ref z21, .ref z22, .ref z23, .ref z24, .ref z25, .int 0, .ref z26, .ref z27, .ref z28, .int 9, .int 0, .int 0, .ref z6, .ref z29, .ref z7, .int 0, .int 2, .ref z19, .ref z8, .ref z9, .ref z10, .int 0, .ref z11, .int 0, .ref z30, .ref z31, .ref z32, .ref z33, .int 0, .ref z12, .int 0, .int 0, .ref z34, .ref z35, .ref z36, .ref z37, .int 0, .int 0, .int 0, .int 0, .ref z38, .int 0, .ref z39, .ref z40, .ref z41, .ref z42, .int 0, .ref z13, .ref z14, .ref z15, .ref z16, .int 0, .ref z17, .ref z18, .ref z43]))]) hD hS hA [2] rfl
      refine va_calli (va_runV (As := []) (rest := [.int (nI x)]) ⟨hx, hb, hml, hown, hts⟩ (kX12_gens l D G h0 z0 z1 z2 z3 z4 z5 z20 z21 z22 z23 z24 z25 z26 z27 z28 z6 z29 z7 z19 z8 z9 z10 z11 z30 z31 z32 z33 z12 z34 z35 z36 z37 z38 z39 z40 z41 z42 z13 z14 z15 z16 z17 z18 z43 0 H.size) (cwV 0 hts gX12_findEnds_X12_gens rfl rfl rfl (by decide +kernel) ⟨Nat.le_of_ble_eq_true rfl, Nat.le_of_ble_eq_true rfl⟩) ⟨wB_blind, va_recv hK hPc (ci := 12) (q0 := 0) rfl rfl, wB_pre hPc hK hDc hN⟩ rfl rfl hl.1 rfl (lv_room (Nat.le_of_ble_eq_true rfl)) dX12_findEnds_20 ⟨Nat.le_of_ble_eq_true rfl, Nat.le_of_ble_eq_true rfl⟩) hS (fun q _ h => hFc q h) hFc (fun r43 u t H1 locs ht hvm hr43 hB hz1 hk1 hS => ?_)
      obtain ⟨hP1, hK1, hD1⟩ := hB
      rw [ht] at hP1
      obtain ⟨hP, hD⟩ := va_join (wr := [(z16, .inl (G.2.1, 51200, .inr (.inl le))), (z15, .inl (G.2.1, 25, .inr (.inl lm)))]) (w1 := [(h0, .inr (12, [.ref z0, .ref z1, .ref z2, .ref z3, .ref z4, .ref z5, .ref z20, .ref z21, .ref z22, .ref z23, .ref z24, .ref z25, .int 0, .ref z26, .ref z27, .ref z28, .int 9, .int 0, .int 0, .ref z6, .ref z29, .ref z7, .int 0, .int 2, .ref z19, .ref z8, .ref z9, .ref z10, .int 0, .ref z11, .int 0, .ref z30, .ref z31, .ref z32, .ref z33, .int 0, .ref z12, .int 0, .int 0, .ref z34, .ref z35, .ref z36, .ref z37, .int 0, .int 0, .int 0, .int 0, .ref z38, .int 0, .ref z39, .ref z40, .ref z41, .ref z42, .int 0, .ref z13, .ref z14, .ref z15, .ref z16, .int 0, .ref z17, .ref z18, .ref z43]))]) hP hD [2] [0, 1] rfl rfl (by decide) (by decide) hk1 hFc hP1 hD1
      clear hPc hDc
      generalize H1 = H at hP hS ⊢
      have hP : va_P D vwCl [(z16, .inl (G.2.1, 51200, .inr (.inl le))), (z15, .inl (G.2.1, 25, .inr (.inl lm))), (h0, .inr (12, [.ref z0, .ref z1, .ref z2, .ref z3, .ref z4, .ref z5, .ref z20, .ref z21, .ref z22, .ref z23, .ref z24, .ref z25, .int 0, .ref z26, .ref z27, .ref z28, .int 9, .int 0, .int 0, .ref z6, .ref z29, .ref z7, .int 0, .int 2, .ref z19, .ref z8, .ref z9, .ref z10, .int 0, .ref z11, .int 0, .ref z30, .ref z31, .ref z32, .ref z33, .int 0, .ref z12, .int 0, .int 0, .ref z34, .ref z35, .ref z36, .ref z37, .int 0, .int 0, .int 0, .int 0, .ref z38, .int 0, .ref z39, .ref z40, .ref z41, .ref z42, .int 0, .ref z13, .ref z14, .ref z15, .ref z16, .int 0, .ref z17, .ref z18, .ref z43]))] H := hP
      have hD : va_D A [(z16, .inl (G.2.1, 51200, .inr (.inl le))), (z15, .inl (G.2.1, 25, .inr (.inl lm))), (h0, .inr (12, [.ref z0, .ref z1, .ref z2, .ref z3, .ref z4, .ref z5, .ref z20, .ref z21, .ref z22, .ref z23, .ref z24, .ref z25, .int 0, .ref z26, .ref z27, .ref z28, .int 9, .int 0, .int 0, .ref z6, .ref z29, .ref z7, .int 0, .int 2, .ref z19, .ref z8, .ref z9, .ref z10, .int 0, .ref z11, .int 0, .ref z30, .ref z31, .ref z32, .ref z33, .int 0, .ref z12, .int 0, .int 0, .ref z34, .ref z35, .ref z36, .ref z37, .int 0, .int 0, .int 0, .int 0, .ref z38, .int 0, .ref z39, .ref z40, .ref z41, .ref z42, .int 0, .ref z13, .ref z14, .ref z15, .ref z16, .int 0, .ref z17, .ref z18, .ref z43]))] := hD
      subst hr43
      refine lv_iload_n hx hb dX12_findEnds_23 rfl (lv_at hl 1 rfl) ?_
      have hPc := hP.sub (ws' := []) [] rfl
      have hDc := hD.sub (ws' := []) [] (by decide) rfl
      have hFc := va_free (wc := []) hD hS hA [] rfl
      refine va_calli (va_runS (As := [.int 2, .int 1]) (rest := [.int (nI x)]) ⟨hx, hb, hml, hown, hts⟩ (kX12_power_1 l D G  H.size) (va_cwS 2 hts gX12_findEnds_X12_power rfl rfl rfl (by decide +kernel) ⟨Nat.le_of_ble_eq_true rfl, Nat.le_of_ble_eq_true rfl⟩) ⟨wB_blind, wB_pre hPc hK hDc hN⟩ rfl rfl hl.1 rfl (lv_room (Nat.le_of_ble_eq_true rfl)) dX12_findEnds_24 ⟨Nat.le_of_ble_eq_true rfl, Nat.le_of_ble_eq_true rfl⟩) hS (fun q _ h => hFc q h) hFc (fun r44 u t H1 locs ht hvm hr44 hB hz1 hk1 hS => ?_)
      obtain ⟨hP, hD⟩ := va_join (wr := [(z16, .inl (G.2.1, 51200, .inr (.inl le))), (z15, .inl (G.2.1, 25, .inr (.inl lm))), (h0, .inr (12, [.ref z0, .ref z1, .ref z2, .ref z3, .ref z4, .ref z5, .ref z20, .ref z21, .ref z22, .ref z23, .ref z24, .ref z25, .int 0, .ref z26, .ref z27, .ref z28, .int 9, .int 0, .int 0, .ref z6, .ref z29, .ref z7, .int 0, .int 2, .ref z19, .ref z8, .ref z9, .ref z10, .int 0, .ref z11, .int 0, .ref z30, .ref z31, .ref z32, .ref z33, .int 0, .ref z12, .int 0, .int 0, .ref z34, .ref z35, .ref z36, .ref z37, .int 0, .int 0, .int 0, .int 0, .ref z38, .int 0, .ref z39, .ref z40, .ref z41, .ref z42, .int 0, .ref z13, .ref z14, .ref z15, .ref z16, .int 0, .ref z17, .ref z18, .ref z43]))]) (w1 := []) hP hD [] [0, 1, 2] rfl rfl (by decide) (by decide) hk1 hFc wP_nil wD_nil
      clear hPc hDc
      generalize H1 = H at hP hS ⊢
      have hP : va_P D vwCl [(z16, .inl (G.2.1, 51200, .inr (.inl le))), (z15, .inl (G.2.1, 25, .inr (.inl lm))), (h0, .inr (12, [.ref z0, .ref z1, .ref z2, .ref z3, .ref z4, .ref z5, .ref z20, .ref z21, .ref z22, .ref z23, .ref z24, .ref z25, .int 0, .ref z26, .ref z27, .ref z28, .int 9, .int 0, .int 0, .ref z6, .ref z29, .ref z7, .int 0, .int 2, .ref z19, .ref z8, .ref z9, .ref z10, .int 0, .ref z11, .int 0, .ref z30, .ref z31, .ref z32, .ref z33, .int 0, .ref z12, .int 0, .int 0, .ref z34, .ref z35, .ref z36, .ref z37, .int 0, .int 0, .int 0, .int 0, .ref z38, .int 0, .ref z39, .ref z40, .ref z41, .ref z42, .int 0, .ref z13, .ref z14, .ref z15, .ref z16, .int 0, .ref z17, .ref z18, .ref z43]))] H := hP
      have hD : va_D A [(z16, .inl (G.2.1, 51200, .inr (.inl le))), (z15, .inl (G.2.1, 25, .inr (.inl lm))), (h0, .inr (12, [.ref z0, .ref z1, .ref z2, .ref z3, .ref z4, .ref z5, .ref z20, .ref z21, .ref z22, .ref z23, .ref z24, .ref z25, .int 0, .ref z26, .ref z27, .ref z28, .int 9, .int 0, .int 0, .ref z6, .ref z29, .ref z7, .int 0, .int 2, .ref z19, .ref z8, .ref z9, .ref z10, .int 0, .ref z11, .int 0, .ref z30, .ref z31, .ref z32, .ref z33, .int 0, .ref z12, .int 0, .int 0, .ref z34, .ref z35, .ref z36, .ref z37, .int 0, .int 0, .int 0, .int 0, .ref z38, .int 0, .ref z39, .ref z40, .ref z41, .ref z42, .int 0, .ref z13, .ref z14, .ref z15, .ref z16, .int 0, .ref z17, .ref z18, .ref z43]))] := hD
      subst hr44
      refine lv_icmp_ge (tgt := 119) hx hb dX12_findEnds_27 (by decide) (fun h9 => absurd h9 (by rw [show (2 : Int32) = nI 2 from rfl]; exact nI_ge (by omega) (by omega))) (fun _ => ?_)
      refine lv_aload_n hx hb dX12_findEnds_30 rfl (lv_at hl 3 rfl) ?_
      refine va_get (D := D) (ci := 12) (v := .ref z15) (C := RX12) (T := TX12) (N := 62) hx hb hts iX12_findEnds_X12 hown hK hP 2 rfl rfl 56 (by decide) (hts (.fieldLink RX12 137 "PuppetBridgeModel" "made" "[J") mX12_findEnds_w1) (fun _ h9 => h9) rfl dX12_findEnds_31 ?_
      have hPc := hP.sub (ws' := [(z15, .inl (G.2.1, 25, .inr (.inl lm)))]) [1] rfl
      have hDc := hD.sub (ws' := [(z15, .inl (G.2.1, 25, .inr (.inl lm)))]) [1] (by decide) rfl
      have hFc := va_free (wc := [(z15, .inl (G.2.1, 25, .inr (.inl lm)))]) hD hS hA [1] rfl
      refine va_callv (va_runS (As := [.ref z15]) (rest := []) ⟨hx, hb, hml, hown, hts⟩ (kX12_nothing l D G z15 lm H.size) (va_cwS 1 hts gX12_findEnds_X12_nothing rfl rfl rfl (by decide +kernel) ⟨Nat.le_of_ble_eq_true rfl, Nat.le_of_ble_eq_true rfl⟩) ⟨wB_blind, wB_pre hPc hK hDc hN⟩ rfl rfl hl.1 rfl (lv_room (Nat.le_of_ble_eq_true rfl)) dX12_findEnds_34 ⟨Nat.le_of_ble_eq_true rfl, Nat.le_of_ble_eq_true rfl⟩) hS (fun q _ h => hFc q h) hFc (fun u t H1 locs ht hvm hr45 hB hz1 hk1 hS => ?_)
      obtain ⟨hP1, hK1, hD1⟩ := hB
      rw [ht] at hP1
      obtain ⟨hP, hD⟩ := va_join (wr := [(z16, .inl (G.2.1, 51200, .inr (.inl le))), (h0, .inr (12, [.ref z0, .ref z1, .ref z2, .ref z3, .ref z4, .ref z5, .ref z20, .ref z21, .ref z22, .ref z23, .ref z24, .ref z25, .int 0, .ref z26, .ref z27, .ref z28, .int 9, .int 0, .int 0, .ref z6, .ref z29, .ref z7, .int 0, .int 2, .ref z19, .ref z8, .ref z9, .ref z10, .int 0, .ref z11, .int 0, .ref z30, .ref z31, .ref z32, .ref z33, .int 0, .ref z12, .int 0, .int 0, .ref z34, .ref z35, .ref z36, .ref z37, .int 0, .int 0, .int 0, .int 0, .ref z38, .int 0, .ref z39, .ref z40, .ref z41, .ref z42, .int 0, .ref z13, .ref z14, .ref z15, .ref z16, .int 0, .ref z17, .ref z18, .ref z43]))]) (w1 := [(z15, .inl (G.2.1, 25, .inr (.inl tIdn)))]) hP hD [1] [0, 2] rfl rfl (by decide) (by decide) hk1 hFc hP1 hD1
      clear hPc hDc
      generalize H1 = H at hP hS ⊢
      have hP : va_P D vwCl [(z16, .inl (G.2.1, 51200, .inr (.inl le))), (h0, .inr (12, [.ref z0, .ref z1, .ref z2, .ref z3, .ref z4, .ref z5, .ref z20, .ref z21, .ref z22, .ref z23, .ref z24, .ref z25, .int 0, .ref z26, .ref z27, .ref z28, .int 9, .int 0, .int 0, .ref z6, .ref z29, .ref z7, .int 0, .int 2, .ref z19, .ref z8, .ref z9, .ref z10, .int 0, .ref z11, .int 0, .ref z30, .ref z31, .ref z32, .ref z33, .int 0, .ref z12, .int 0, .int 0, .ref z34, .ref z35, .ref z36, .ref z37, .int 0, .int 0, .int 0, .int 0, .ref z38, .int 0, .ref z39, .ref z40, .ref z41, .ref z42, .int 0, .ref z13, .ref z14, .ref z15, .ref z16, .int 0, .ref z17, .ref z18, .ref z43])), (z15, .inl (G.2.1, 25, .inr (.inl tIdn)))] H := hP
      have hD : va_D A [(z16, .inl (G.2.1, 51200, .inr (.inl le))), (h0, .inr (12, [.ref z0, .ref z1, .ref z2, .ref z3, .ref z4, .ref z5, .ref z20, .ref z21, .ref z22, .ref z23, .ref z24, .ref z25, .int 0, .ref z26, .ref z27, .ref z28, .int 9, .int 0, .int 0, .ref z6, .ref z29, .ref z7, .int 0, .int 2, .ref z19, .ref z8, .ref z9, .ref z10, .int 0, .ref z11, .int 0, .ref z30, .ref z31, .ref z32, .ref z33, .int 0, .ref z12, .int 0, .int 0, .ref z34, .ref z35, .ref z36, .ref z37, .int 0, .int 0, .int 0, .int 0, .ref z38, .int 0, .ref z39, .ref z40, .ref z41, .ref z42, .int 0, .ref z13, .ref z14, .ref z15, .ref z16, .int 0, .ref z17, .ref z18, .ref z43])), (z15, .inl (G.2.1, 25, .inr (.inl tIdn)))] := hD
      refine lv_iload_n hx hb dX12_findEnds_37 rfl (lv_at hl 1 rfl) ?_
      refine lv_iconst (v := 1) hx hb dX12_findEnds_38 (by decide) ?_
      refine lv_isub hx hb dX12_findEnds_39 ?_
      refine wk_i 0 (by decide) ?_
      refine lv_istore (lv' := [(5, .int 0), (4, .int (nI x)), (3, .int 1), (1, .long 714288), (0, .ref h0)]) hx hb dX12_findEnds_40 hl (by decide) rfl (fun ls hl => ?_)
      refine lv_iload hx hb dX12_findEnds_42 (lv_at hl 0 rfl) ?_
      refine lv_if_lt (tgt := 71) hx hb dX12_findEnds_44 (by decide) (fun h9 => absurd h9 (by decide)) (fun _ => ?_)
      refine lv_aload_n hx hb dX12_findEnds_47 rfl (lv_at hl 4 rfl) ?_
      refine va_get (D := D) (ci := 12) (v := .ref z15) (C := RX12) (T := TX12) (N := 62) hx hb hts iX12_findEnds_X12 hown hK hP 1 rfl rfl 56 (by decide) (hts (.fieldLink RX12 137 "PuppetBridgeModel" "made" "[J") mX12_findEnds_w1) (fun _ h9 => h9) rfl dX12_findEnds_48 ?_
      refine lv_aload_n hx hb dX12_findEnds_51 rfl (lv_at hl 4 rfl) ?_
      refine lv_iload hx hb dX12_findEnds_52 (lv_at hl 1 rfl) ?_
      refine lv_iload_n hx hb dX12_findEnds_54 rfl (lv_at hl 2 rfl) ?_
      refine lv_iload hx hb dX12_findEnds_55 (lv_at hl 0 rfl) ?_
      have hPc := hP.sub (ws' := [(h0, .inr (12, [.ref z0, .ref z1, .ref z2, .ref z3, .ref z4, .ref z5, .ref z20, .ref z21, .ref z22, .ref z23, .ref z24, .ref z25, .int 0, .ref z26, .ref z27, .ref z28, .int 9, .int 0, .int 0, .ref z6, .ref z29, .ref z7, .int 0, .int 2, .ref z19, .ref z8, .ref z9, .ref z10, .int 0, .ref z11, .int 0, .ref z30, .ref z31, .ref z32, .ref z33, .int 0, .ref z12, .int 0, .int 0, .ref z34, .ref z35, .ref z36, .ref z37, .int 0, .int 0, .int 0, .int 0, .ref z38, .int 0, .ref z39, .ref z40, .ref z41, .ref z42, .int 0, .ref z13, .ref z14, .ref z15, .ref z16, .int 0, .ref z17, .ref z18, .ref z43]))]) [1] rfl
      have hDc := hD.sub (ws' := [(h0, .inr (12, [.ref z0, .ref z1, .ref z2, .ref z3, .ref z4, .ref z5, .ref z20, .ref z21, .ref z22, .ref z23, .ref z24, .ref z25, .int 0, .ref z26, .ref z27, .ref z28, .int 9, .int 0, .int 0, .ref z6, .ref z29, .ref z7, .int 0, .int 2, .ref z19, .ref z8, .ref z9, .ref z10, .int 0, .ref z11, .int 0, .ref z30, .ref z31, .ref z32, .ref z33, .int 0, .ref z12, .int 0, .int 0, .ref z34, .ref z35, .ref z36, .ref z37, .int 0, .int 0, .int 0, .int 0, .ref z38, .int 0, .ref z39, .ref z40, .ref z41, .ref z42, .int 0, .ref z13, .ref z14, .ref z15, .ref z16, .int 0, .ref z17, .ref z18, .ref z43]))]) [1] (by decide) rfl
      have hFc := va_free (wc := [(h0, .inr (12, [.ref z0, .ref z1, .ref z2, .ref z3, .ref z4, .ref z5, .ref z20, .ref z21, .ref z22, .ref z23, .ref z24, .ref z25, .int 0, .ref z26, .ref z27, .ref z28, .int 9, .int 0, .int 0, .ref z6, .ref z29, .ref z7, .int 0, .int 2, .ref z19, .ref z8, .ref z9, .ref z10, .int 0, .ref z11, .int 0, .ref z30, .ref z31, .ref z32, .ref z33, .int 0, .ref z12, .int 0, .int 0, .ref z34, .ref z35, .ref z36, .ref z37, .int 0, .int 0, .int 0, .int 0, .ref z38, .int 0, .ref z39, .ref z40, .ref z41, .ref z42, .int 0, .ref z13, .ref z14, .ref z15, .ref z16, .int 0, .ref z17, .ref z18, .ref z43]))]) hD hS hA [1] rfl
      refine va_calli (va_runV (As := [.int (nI x), .int 1, .int 0]) (rest := [.ref z15]) ⟨hx, hb, hml, hown, hts⟩ (kX12_passAt_s10 l D G h0 (nI x) z0 z1 z2 z3 z4 z5 z20 z21 z22 z23 z24 z25 z26 z27 z28 z6 z29 z7 z19 z8 z9 z10 z11 z30 z31 z32 z33 z12 z34 z35 z36 z37 z38 z39 z40 z41 z42 z13 z14 z15 z16 z17 z18 z43 H.size) (cwV 3 hts gX12_findEnds_X12_passAt rfl rfl rfl (by decide +kernel) ⟨Nat.le_of_ble_eq_true rfl, Nat.le_of_ble_eq_true rfl⟩) ⟨wB_blind, va_recv hK hPc (ci := 12) (q0 := 0) rfl rfl, wB_pre hPc hK hDc hN⟩ rfl rfl hl.1 rfl (lv_room (Nat.le_of_ble_eq_true rfl)) dX12_findEnds_57 ⟨Nat.le_of_ble_eq_true rfl, Nat.le_of_ble_eq_true rfl⟩) hS (fun q _ h => hFc q h) hFc (fun r46 u t H1 locs ht hvm hr46 hB hz1 hk1 hS => ?_)
      obtain ⟨hP1, hK1, hD1⟩ := hB
      rw [ht] at hP1
      obtain ⟨hP, hD⟩ := va_join (wr := [(z16, .inl (G.2.1, 51200, .inr (.inl le))), (z15, .inl (G.2.1, 25, .inr (.inl tIdn)))]) (w1 := [(h0, .inr (12, [.ref z0, .ref z1, .ref z2, .ref z3, .ref z4, .ref z5, .ref z20, .ref z21, .ref z22, .ref z23, .ref z24, .ref z25, .int 0, .ref z26, .ref z27, .ref z28, .int 9, .int 0, .int 0, .ref z6, .ref z29, .ref z7, .int 0, .int 2, .ref z19, .ref z8, .ref z9, .ref z10, .int 0, .ref z11, .int 0, .ref z30, .ref z31, .ref z32, .ref z33, .int 0, .ref z12, .int 0, .int 0, .ref z34, .ref z35, .ref z36, .ref z37, .int 0, .int 0, .int 0, .int 0, .ref z38, .int 0, .ref z39, .ref z40, .ref z41, .ref z42, .int 0, .ref z13, .ref z14, .ref z15, .ref z16, .int 0, .ref z17, .ref z18, .ref z43]))]) hP hD [1] [0, 2] rfl rfl (by decide) (by decide) hk1 hFc hP1 hD1
      clear hPc hDc
      generalize H1 = H at hP hS ⊢
      have hP : va_P D vwCl [(z16, .inl (G.2.1, 51200, .inr (.inl le))), (z15, .inl (G.2.1, 25, .inr (.inl tIdn))), (h0, .inr (12, [.ref z0, .ref z1, .ref z2, .ref z3, .ref z4, .ref z5, .ref z20, .ref z21, .ref z22, .ref z23, .ref z24, .ref z25, .int 0, .ref z26, .ref z27, .ref z28, .int 9, .int 0, .int 0, .ref z6, .ref z29, .ref z7, .int 0, .int 2, .ref z19, .ref z8, .ref z9, .ref z10, .int 0, .ref z11, .int 0, .ref z30, .ref z31, .ref z32, .ref z33, .int 0, .ref z12, .int 0, .int 0, .ref z34, .ref z35, .ref z36, .ref z37, .int 0, .int 0, .int 0, .int 0, .ref z38, .int 0, .ref z39, .ref z40, .ref z41, .ref z42, .int 0, .ref z13, .ref z14, .ref z15, .ref z16, .int 0, .ref z17, .ref z18, .ref z43]))] H := hP
      have hD : va_D A [(z16, .inl (G.2.1, 51200, .inr (.inl le))), (z15, .inl (G.2.1, 25, .inr (.inl tIdn))), (h0, .inr (12, [.ref z0, .ref z1, .ref z2, .ref z3, .ref z4, .ref z5, .ref z20, .ref z21, .ref z22, .ref z23, .ref z24, .ref z25, .int 0, .ref z26, .ref z27, .ref z28, .int 9, .int 0, .int 0, .ref z6, .ref z29, .ref z7, .int 0, .int 2, .ref z19, .ref z8, .ref z9, .ref z10, .int 0, .ref z11, .int 0, .ref z30, .ref z31, .ref z32, .ref z33, .int 0, .ref z12, .int 0, .int 0, .ref z34, .ref z35, .ref z36, .ref z37, .int 0, .int 0, .int 0, .int 0, .ref z38, .int 0, .ref z39, .ref z40, .ref z41, .ref z42, .int 0, .ref z13, .ref z14, .ref z15, .ref z16, .int 0, .ref z17, .ref z18, .ref z43]))] := hD
      refine lv_ineg hx hb dX12_findEnds_60 ?_
      refine lv_topi (fun v47 ev47 => ?_)
      refine lv_lload_n hx hb dX12_findEnds_61 rfl (lv_at hl 3 rfl) ?_
      have hPc := hP.sub (ws' := [(z15, .inl (G.2.1, 25, .inr (.inl tIdn)))]) [1] rfl
      have hDc := hD.sub (ws' := [(z15, .inl (G.2.1, 25, .inr (.inl tIdn)))]) [1] (by decide) rfl
      have hFc := va_free (wc := [(z15, .inl (G.2.1, 25, .inr (.inl tIdn)))]) hD hS hA [1] rfl
      refine va_callv (va_runS (As := [.ref z15, .int v47, .long 714288]) (rest := []) ⟨hx, hb, hml, hown, hts⟩ (kX12_times_s l D G z15 v47 tIdn (wk_neg1 hr46 ev47) H.size) (va_cwS 3 hts gX12_findEnds_X12_times rfl rfl rfl (by decide +kernel) ⟨Nat.le_of_ble_eq_true rfl, Nat.le_of_ble_eq_true rfl⟩) ⟨wB_blind, wB_pre hPc hK hDc hN⟩ rfl rfl hl.1 rfl (lv_room (Nat.le_of_ble_eq_true rfl)) dX12_findEnds_62 ⟨Nat.le_of_ble_eq_true rfl, Nat.le_of_ble_eq_true rfl⟩) hS (fun q _ h => hFc q h) hFc (fun u t H1 locs ht hvm hr48 hB hz1 hk1 hS => ?_)
      obtain ⟨f49, hP1, hK1, hD1⟩ := hB
      rw [ht] at hP1
      obtain ⟨hP, hD⟩ := va_join (wr := [(z16, .inl (G.2.1, 51200, .inr (.inl le))), (h0, .inr (12, [.ref z0, .ref z1, .ref z2, .ref z3, .ref z4, .ref z5, .ref z20, .ref z21, .ref z22, .ref z23, .ref z24, .ref z25, .int 0, .ref z26, .ref z27, .ref z28, .int 9, .int 0, .int 0, .ref z6, .ref z29, .ref z7, .int 0, .int 2, .ref z19, .ref z8, .ref z9, .ref z10, .int 0, .ref z11, .int 0, .ref z30, .ref z31, .ref z32, .ref z33, .int 0, .ref z12, .int 0, .int 0, .ref z34, .ref z35, .ref z36, .ref z37, .int 0, .int 0, .int 0, .int 0, .ref z38, .int 0, .ref z39, .ref z40, .ref z41, .ref z42, .int 0, .ref z13, .ref z14, .ref z15, .ref z16, .int 0, .ref z17, .ref z18, .ref z43]))]) (w1 := [(z15, .inl (G.2.1, 25, .inr (.inl f49)))]) hP hD [1] [0, 2] rfl rfl (by decide) (by decide) hk1 hFc hP1 hD1
      clear hPc hDc
      generalize H1 = H at hP hS ⊢
      have hP : va_P D vwCl [(z16, .inl (G.2.1, 51200, .inr (.inl le))), (h0, .inr (12, [.ref z0, .ref z1, .ref z2, .ref z3, .ref z4, .ref z5, .ref z20, .ref z21, .ref z22, .ref z23, .ref z24, .ref z25, .int 0, .ref z26, .ref z27, .ref z28, .int 9, .int 0, .int 0, .ref z6, .ref z29, .ref z7, .int 0, .int 2, .ref z19, .ref z8, .ref z9, .ref z10, .int 0, .ref z11, .int 0, .ref z30, .ref z31, .ref z32, .ref z33, .int 0, .ref z12, .int 0, .int 0, .ref z34, .ref z35, .ref z36, .ref z37, .int 0, .int 0, .int 0, .int 0, .ref z38, .int 0, .ref z39, .ref z40, .ref z41, .ref z42, .int 0, .ref z13, .ref z14, .ref z15, .ref z16, .int 0, .ref z17, .ref z18, .ref z43])), (z15, .inl (G.2.1, 25, .inr (.inl f49)))] H := hP
      have hD : va_D A [(z16, .inl (G.2.1, 51200, .inr (.inl le))), (h0, .inr (12, [.ref z0, .ref z1, .ref z2, .ref z3, .ref z4, .ref z5, .ref z20, .ref z21, .ref z22, .ref z23, .ref z24, .ref z25, .int 0, .ref z26, .ref z27, .ref z28, .int 9, .int 0, .int 0, .ref z6, .ref z29, .ref z7, .int 0, .int 2, .ref z19, .ref z8, .ref z9, .ref z10, .int 0, .ref z11, .int 0, .ref z30, .ref z31, .ref z32, .ref z33, .int 0, .ref z12, .int 0, .int 0, .ref z34, .ref z35, .ref z36, .ref z37, .int 0, .int 0, .int 0, .int 0, .ref z38, .int 0, .ref z39, .ref z40, .ref z41, .ref z42, .int 0, .ref z13, .ref z14, .ref z15, .ref z16, .int 0, .ref z17, .ref z18, .ref z43])), (z15, .inl (G.2.1, 25, .inr (.inl f49)))] := hD
      refine lv_iinc (v := (-1)) (lv' := [(5, .int (-1)), (4, .int (nI x)), (3, .int 1), (1, .long 714288), (0, .ref h0)]) hx hb dX12_findEnds_65 hl (k := 0) rfl (by decide) (by decide) rfl (fun ls hl => ?_)
      refine lv_goto (tgt := 42) hx hb dX12_findEnds_68 (by decide) ?_
      refine lv_iload hx hb dX12_findEnds_42 (lv_at hl 0 rfl) ?_
      refine lv_if_lt (tgt := 71) hx hb dX12_findEnds_44 (by decide) (fun _ => ?_) (fun h9 => absurd h9 (by decide))
      refine lv_iconst (v := 0) hx hb dX12_findEnds_71 (by decide) ?_
      refine lv_istore (lv' := [(5, .int 0), (4, .int (nI x)), (3, .int 1), (1, .long 714288), (0, .ref h0)]) hx hb dX12_findEnds_72 hl (by decide) rfl (fun ls hl => ?_)
      obtain ⟨i, hi⟩ : ∃ i : Nat, i = 0 := ⟨0, rfl⟩
      obtain ⟨lf, hlf⟩ : ∃ f : Nat → Int64, f = le := ⟨_, rfl⟩
      have hfa : ∀ j : Nat, j < 25 → lf j = tIdn j := by rw [hlf]; exact fun j hj => hfa j (by omega)
      have hP : va_P D vwCl [(z16, .inl (G.2.1, 51200, .inr (.inl lf))), (h0, .inr (12, [.ref z0, .ref z1, .ref z2, .ref z3, .ref z4, .ref z5, .ref z20, .ref z21, .ref z22, .ref z23, .ref z24, .ref z25, .int 0, .ref z26, .ref z27, .ref z28, .int 9, .int 0, .int 0, .ref z6, .ref z29, .ref z7, .int 0, .int 2, .ref z19, .ref z8, .ref z9, .ref z10, .int 0, .ref z11, .int 0, .ref z30, .ref z31, .ref z32, .ref z33, .int 0, .ref z12, .int 0, .int 0, .ref z34, .ref z35, .ref z36, .ref z37, .int 0, .int 0, .int 0, .int 0, .ref z38, .int 0, .ref z39, .ref z40, .ref z41, .ref z42, .int 0, .ref z13, .ref z14, .ref z15, .ref z16, .int 0, .ref z17, .ref z18, .ref z43])), (z15, .inl (G.2.1, 25, .inr (.inl f49)))] H := by rw [hlf]; exact hP
      have hD : va_D A [(z16, .inl (G.2.1, 51200, .inr (.inl lf))), (h0, .inr (12, [.ref z0, .ref z1, .ref z2, .ref z3, .ref z4, .ref z5, .ref z20, .ref z21, .ref z22, .ref z23, .ref z24, .ref z25, .int 0, .ref z26, .ref z27, .ref z28, .int 9, .int 0, .int 0, .ref z6, .ref z29, .ref z7, .int 0, .int 2, .ref z19, .ref z8, .ref z9, .ref z10, .int 0, .ref z11, .int 0, .ref z30, .ref z31, .ref z32, .ref z33, .int 0, .ref z12, .int 0, .int 0, .ref z34, .ref z35, .ref z36, .ref z37, .int 0, .int 0, .int 0, .int 0, .ref z38, .int 0, .ref z39, .ref z40, .ref z41, .ref z42, .int 0, .ref z13, .ref z14, .ref z15, .ref z16, .int 0, .ref z17, .ref z18, .ref z43])), (z15, .inl (G.2.1, 25, .inr (.inl f49)))] := by rw [hlf]; exact hD
      have hl : lv_has ls 6 [(5, .int (nI i)), (4, .int (nI x)), (3, .int 1), (1, .long 714288), (0, .ref h0)] := by rw [hi]; exact hl
      obtain ⟨d, hd⟩ : ∃ d : Nat, i + d = 25 := ⟨25, by omega⟩
      clear hi hlf
      generalize H = H at hP hS ⊢
      generalize locs = locs at hS ⊢
      generalize ls = ls at hl ⊢
      induction d generalizing i lf H locs ls with
      | zero =>
        refine lv_iload hx hb dX12_findEnds_74 (lv_at hl 0 rfl) ?_
        refine lv_bipush (v := 25) hx hb dX12_findEnds_76 (by decide) ?_
        refine lv_icmp_ge (tgt := 113) hx hb dX12_findEnds_78 (by decide) (fun _ => ?_) (fun h9 => absurd (by rw [show i = 25 by omega]; decide) h9)
        obtain ⟨v50, ev50⟩ : ∃ y : Int32, y = (nI x) + 1 := ⟨_, rfl⟩
        refine lv_iinc (v := v50) (lv' := [(4, .int v50), (5, .int (nI i)), (3, .int 1), (1, .long 714288), (0, .ref h0)]) hx hb dX12_findEnds_113 hl (k := 1) rfl (by rw [ev50]; rfl) (by decide) rfl (fun ls hl => ?_)
        refine lv_goto (tgt := 17) hx hb dX12_findEnds_116 (by decide) ?_
        have hP := hP.sub (ws' := [(z16, .inl (G.2.1, 51200, .inr (.inl lf))), (z15, .inl (G.2.1, 25, .inr (.inl f49))), (h0, .inr (12, [.ref z0, .ref z1, .ref z2, .ref z3, .ref z4, .ref z5, .ref z20, .ref z21, .ref z22, .ref z23, .ref z24, .ref z25, .int 0, .ref z26, .ref z27, .ref z28, .int 9, .int 0, .int 0, .ref z6, .ref z29, .ref z7, .int 0, .int 2, .ref z19, .ref z8, .ref z9, .ref z10, .int 0, .ref z11, .int 0, .ref z30, .ref z31, .ref z32, .ref z33, .int 0, .ref z12, .int 0, .int 0, .ref z34, .ref z35, .ref z36, .ref z37, .int 0, .int 0, .int 0, .int 0, .ref z38, .int 0, .ref z39, .ref z40, .ref z41, .ref z42, .int 0, .ref z13, .ref z14, .ref z15, .ref z16, .int 0, .ref z17, .ref z18, .ref z43]))]) [0, 2, 1] rfl
        have hD := hD.sub (ws' := [(z16, .inl (G.2.1, 51200, .inr (.inl lf))), (z15, .inl (G.2.1, 25, .inr (.inl f49))), (h0, .inr (12, [.ref z0, .ref z1, .ref z2, .ref z3, .ref z4, .ref z5, .ref z20, .ref z21, .ref z22, .ref z23, .ref z24, .ref z25, .int 0, .ref z26, .ref z27, .ref z28, .int 9, .int 0, .int 0, .ref z6, .ref z29, .ref z7, .int 0, .int 2, .ref z19, .ref z8, .ref z9, .ref z10, .int 0, .ref z11, .int 0, .ref z30, .ref z31, .ref z32, .ref z33, .int 0, .ref z12, .int 0, .int 0, .ref z34, .ref z35, .ref z36, .ref z37, .int 0, .int 0, .int 0, .int 0, .ref z38, .int 0, .ref z39, .ref z40, .ref z41, .ref z42, .int 0, .ref z13, .ref z14, .ref z15, .ref z16, .int 0, .ref z17, .ref z18, .ref z43]))]) [0, 2, 1] (by decide) rfl
        exact ihx (x := x + 1) (hP := hP) (hD := hD) (hS := hS) (hl := by rw [← nI_1, ← ev50]; exact lv_sub hl [0, 2, 3, 4] rfl) (hdx := by omega) (hfa := by exact fun j hj => hfa j (by omega))
      | succ d ih =>
        refine lv_iload hx hb dX12_findEnds_74 (lv_at hl 0 rfl) ?_
        refine lv_bipush (v := 25) hx hb dX12_findEnds_76 (by decide) ?_
        refine lv_icmp_ge (tgt := 113) hx hb dX12_findEnds_78 (by decide) (fun h9 => absurd h9 (by rw [show (25 : Int32) = nI 25 from rfl]; exact nI_ge (by omega) (by omega))) (fun _ => ?_)
        refine lv_aload_n hx hb dX12_findEnds_81 rfl (lv_at hl 4 rfl) ?_
        refine va_get (D := D) (ci := 12) (v := .ref z16) (C := RX12) (T := TX12) (N := 62) hx hb hts iX12_findEnds_X12 hown hK hP 1 rfl rfl 57 (by decide) (hts (.fieldLink RX12 141 "PuppetBridgeModel" "endMarks" "[J") mX12_findEnds_w2) (fun _ h9 => h9) rfl dX12_findEnds_82 ?_
        refine lv_sipush (v := 512) hx hb dX12_findEnds_85 (by decide) ?_
        refine lv_iload_n hx hb dX12_findEnds_88 rfl (lv_at hl 2 rfl) ?_
        refine lv_imul hx hb dX12_findEnds_89 ?_
        refine wk_i 512 (by decide) ?_
        refine lv_iload hx hb dX12_findEnds_90 (lv_at hl 1 rfl) ?_
        refine lv_iadd hx hb dX12_findEnds_92 ?_
        refine lv_topi (fun va eva => ?_)
        refine lv_bipush (v := 25) hx hb dX12_findEnds_93 (by decide) ?_
        refine lv_imul hx hb dX12_findEnds_95 ?_
        refine lv_topi (fun vb evb => ?_)
        refine lv_iload hx hb dX12_findEnds_96 (lv_at hl 0 rfl) ?_
        refine lv_iadd hx hb dX12_findEnds_98 ?_
        refine lv_topi (fun vix evix => ?_)
        refine lv_aload_n hx hb dX12_findEnds_99 rfl (lv_at hl 4 rfl) ?_
        refine va_get (D := D) (ci := 12) (v := .ref z15) (C := RX12) (T := TX12) (N := 62) hx hb hts iX12_findEnds_X12 hown hK hP 1 rfl rfl 56 (by decide) (hts (.fieldLink RX12 137 "PuppetBridgeModel" "made" "[J") mX12_findEnds_w1) (fun _ h9 => h9) rfl dX12_findEnds_100 ?_
        refine lv_iload hx hb dX12_findEnds_103 (lv_at hl 0 rfl) ?_
        refine va_lald hx hb hK hP 2 1 rfl rfl (vp_in_nI (by omega) (by omega)) dX12_findEnds_105 ?_
        refine lv_topl (fun wm ewm => ?_)
        refine va_last hx hb hK hP hD hS 0 1 rfl rfl (by have hv0 := wk_ix (c1 := 512) (n1 := 512) rfl eva evb evix; rw [hv0]; exact vp_in_nI (by omega) (by omega)) dX12_findEnds_106 (fun H locs hP hD hS => ?_)
        have hP : va_P D vwCl [(z16, .inl (G.2.1, 51200, .inr (.inl (vp_updL lf vix.toNatClampNeg wm)))), (h0, .inr (12, [.ref z0, .ref z1, .ref z2, .ref z3, .ref z4, .ref z5, .ref z20, .ref z21, .ref z22, .ref z23, .ref z24, .ref z25, .int 0, .ref z26, .ref z27, .ref z28, .int 9, .int 0, .int 0, .ref z6, .ref z29, .ref z7, .int 0, .int 2, .ref z19, .ref z8, .ref z9, .ref z10, .int 0, .ref z11, .int 0, .ref z30, .ref z31, .ref z32, .ref z33, .int 0, .ref z12, .int 0, .int 0, .ref z34, .ref z35, .ref z36, .ref z37, .int 0, .int 0, .int 0, .int 0, .ref z38, .int 0, .ref z39, .ref z40, .ref z41, .ref z42, .int 0, .ref z13, .ref z14, .ref z15, .ref z16, .int 0, .ref z17, .ref z18, .ref z43])), (z15, .inl (G.2.1, 25, .inr (.inl f49)))] H := hP
        have hD : va_D A [(z16, .inl (G.2.1, 51200, .inr (.inl (vp_updL lf vix.toNatClampNeg wm)))), (h0, .inr (12, [.ref z0, .ref z1, .ref z2, .ref z3, .ref z4, .ref z5, .ref z20, .ref z21, .ref z22, .ref z23, .ref z24, .ref z25, .int 0, .ref z26, .ref z27, .ref z28, .int 9, .int 0, .int 0, .ref z6, .ref z29, .ref z7, .int 0, .int 2, .ref z19, .ref z8, .ref z9, .ref z10, .int 0, .ref z11, .int 0, .ref z30, .ref z31, .ref z32, .ref z33, .int 0, .ref z12, .int 0, .int 0, .ref z34, .ref z35, .ref z36, .ref z37, .int 0, .int 0, .int 0, .int 0, .ref z38, .int 0, .ref z39, .ref z40, .ref z41, .ref z42, .int 0, .ref z13, .ref z14, .ref z15, .ref z16, .int 0, .ref z17, .ref z18, .ref z43])), (z15, .inl (G.2.1, 25, .inr (.inl f49)))] := hD
        obtain ⟨v51, ev51⟩ : ∃ y : Int32, y = (nI i) + 1 := ⟨_, rfl⟩
        refine lv_iinc (v := v51) (lv' := [(5, .int v51), (4, .int (nI x)), (3, .int 1), (1, .long 714288), (0, .ref h0)]) hx hb dX12_findEnds_107 hl (k := 0) rfl (by rw [ev51]; rfl) (by decide) rfl (fun ls hl => ?_)
        refine lv_goto (tgt := 74) hx hb dX12_findEnds_110 (by decide) ?_
        exact ih (i := i + 1) (hP := hP) (hD := hD) (hS := hS) (hl := by rw [← nI_1, ← ev51]; exact lv_sub hl [0, 1, 2, 3, 4] rfl) (hd := by omega) (hfa := by (have hv0 := wk_ix (c1 := 512) (n1 := 512) rfl eva evb evix; intro j hj; rw [hv0, nI_clamp (by omega), pk_uLn (by omega)]; exact hfa j hj))
  | succ d ih =>
    refine lv_iload hx hb dX12_findEnds_74 (lv_at hl 0 rfl) ?_
    refine lv_bipush (v := 25) hx hb dX12_findEnds_76 (by decide) ?_
    refine lv_icmp_ge (tgt := 113) hx hb dX12_findEnds_78 (by decide) (fun h9 => absurd h9 (by rw [show (25 : Int32) = nI 25 from rfl]; exact nI_ge (by omega) (by omega))) (fun _ => ?_)
    refine lv_aload_n hx hb dX12_findEnds_81 rfl (lv_at hl 4 rfl) ?_
    refine va_get (D := D) (ci := 12) (v := .ref z16) (C := RX12) (T := TX12) (N := 62) hx hb hts iX12_findEnds_X12 hown hK hP 1 rfl rfl 57 (by decide) (hts (.fieldLink RX12 141 "PuppetBridgeModel" "endMarks" "[J") mX12_findEnds_w2) (fun _ h9 => h9) rfl dX12_findEnds_82 ?_
    refine lv_sipush (v := 512) hx hb dX12_findEnds_85 (by decide) ?_
    refine lv_iload_n hx hb dX12_findEnds_88 rfl (lv_at hl 2 rfl) ?_
    refine lv_imul hx hb dX12_findEnds_89 ?_
    refine wk_i 0 (by decide) ?_
    refine lv_iload hx hb dX12_findEnds_90 (lv_at hl 1 rfl) ?_
    refine lv_iadd hx hb dX12_findEnds_92 ?_
    refine wk_i 0 (by decide) ?_
    refine lv_bipush (v := 25) hx hb dX12_findEnds_93 (by decide) ?_
    refine lv_imul hx hb dX12_findEnds_95 ?_
    refine wk_i 0 (by decide) ?_
    refine lv_iload hx hb dX12_findEnds_96 (lv_at hl 0 rfl) ?_
    refine lv_iadd hx hb dX12_findEnds_98 ?_
    refine lv_topi (fun vix evix => ?_)
    refine lv_aload_n hx hb dX12_findEnds_99 rfl (lv_at hl 4 rfl) ?_
    refine va_get (D := D) (ci := 12) (v := .ref z15) (C := RX12) (T := TX12) (N := 62) hx hb hts iX12_findEnds_X12 hown hK hP 1 rfl rfl 56 (by decide) (hts (.fieldLink RX12 137 "PuppetBridgeModel" "made" "[J") mX12_findEnds_w1) (fun _ h9 => h9) rfl dX12_findEnds_100 ?_
    refine lv_iload hx hb dX12_findEnds_103 (lv_at hl 0 rfl) ?_
    refine va_lald hx hb hK hP 2 1 rfl rfl (vp_in_nI (by omega) (by omega)) dX12_findEnds_105 ?_
    refine lv_topl (fun wm ewm => ?_)
    refine va_last hx hb hK hP hD hS 0 1 rfl rfl (by have hv0 : vix = nI (0 + i) := (by rw [evix, show (0 : Int32) = nI 0 from rfl, nI_add]); rw [hv0]; exact vp_in_nI (by omega) (by omega)) dX12_findEnds_106 (fun H locs hP hD hS => ?_)
    have hP : va_P D vwCl [(z16, .inl (G.2.1, 51200, .inr (.inl (vp_updL lf vix.toNatClampNeg wm)))), (h0, .inr (12, [.ref z0, .ref z1, .ref z2, .ref z3, .ref z4, .ref z5, .ref z20, .ref z21, .ref z22, .ref z23, .ref z24, .ref z25, .int 0, .ref z26, .ref z27, .ref z28, .int 9, .int 0, .int 0, .ref z6, .ref z29, .ref z7, .int 0, .int 2, .ref z19, .ref z8, .ref z9, .ref z10, .int 0, .ref z11, .int 0, .ref z30, .ref z31, .ref z32, .ref z33, .int 0, .ref z12, .int 0, .int 0, .ref z34, .ref z35, .ref z36, .ref z37, .int 0, .int 0, .int 0, .int 0, .ref z38, .int 0, .ref z39, .ref z40, .ref z41, .ref z42, .int 0, .ref z13, .ref z14, .ref z15, .ref z16, .int 0, .ref z17, .ref z18, .ref z43])), (z15, .inl (G.2.1, 25, .inr (.inl tIdn)))] H := hP
    have hD : va_D A [(z16, .inl (G.2.1, 51200, .inr (.inl (vp_updL lf vix.toNatClampNeg wm)))), (h0, .inr (12, [.ref z0, .ref z1, .ref z2, .ref z3, .ref z4, .ref z5, .ref z20, .ref z21, .ref z22, .ref z23, .ref z24, .ref z25, .int 0, .ref z26, .ref z27, .ref z28, .int 9, .int 0, .int 0, .ref z6, .ref z29, .ref z7, .int 0, .int 2, .ref z19, .ref z8, .ref z9, .ref z10, .int 0, .ref z11, .int 0, .ref z30, .ref z31, .ref z32, .ref z33, .int 0, .ref z12, .int 0, .int 0, .ref z34, .ref z35, .ref z36, .ref z37, .int 0, .int 0, .int 0, .int 0, .ref z38, .int 0, .ref z39, .ref z40, .ref z41, .ref z42, .int 0, .ref z13, .ref z14, .ref z15, .ref z16, .int 0, .ref z17, .ref z18, .ref z43])), (z15, .inl (G.2.1, 25, .inr (.inl tIdn)))] := hD
    obtain ⟨v52, ev52⟩ : ∃ y : Int32, y = (nI i) + 1 := ⟨_, rfl⟩
    refine lv_iinc (v := v52) (lv' := [(5, .int v52), (4, .int 0), (3, .int 0), (1, .long 714288), (0, .ref h0)]) hx hb dX12_findEnds_107 hl (k := 0) rfl (by rw [ev52]; rfl) (by decide) rfl (fun ls hl => ?_)
    refine lv_goto (tgt := 74) hx hb dX12_findEnds_110 (by decide) ?_
    exact ih (i := i + 1) (hP := hP) (hD := hD) (hS := hS) (hl := by rw [← nI_1, ← ev52]; exact lv_sub hl [0, 1, 2, 3, 4] rfl) (hd := by omega) (hfa := by (have hv0 : vix = nI (0 + i) := (by rw [evix, show (0 : Int32) = nI 0 from rfl, nI_add]); intro j hj; exact (Classical.em (j = i)).elim (fun q => by rw [q, hv0, nI_clamp (by omega), Nat.zero_add, pk_uLs, ewm, nI_clamp (by omega)]) (fun q => by rw [hv0, nI_clamp (by omega), Nat.zero_add, pk_uLn q]; exact hfa j (by omega))))
